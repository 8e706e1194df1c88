set_option linter.all false
theorem zw_s5_12 : Cond.selects RX10 yX10_isHour yX10_isHour ∈ zT := zs_5 (List.mem_of_getElem? (i := 12) (by decide +kernel))
theorem zw_s5_13 : Cond.selects RX10 yX10_isStrayed yX10_isStrayed ∈ zT := zs_5 (List.mem_of_getElem? (i := 13) (by decide +kernel))
theorem zw_s5_14 : Cond.selects RX10 yX10_placeOf yX10_placeOf ∈ zT := zs_5 (List.mem_of_getElem? (i := 14) (by decide +kernel))
theorem zw_s5_15 : Cond.selects RX10 yX10_isCourt yX10_isCourt ∈ zT := zs_5 (List.mem_of_getElem? (i := 15) (by decide +kernel))
theorem zw_s6_1 : Cond.selects RX10 yX10_counts yX10_counts ∈ zT := zs_6 (List.mem_of_getElem? (i := 1) (by decide +kernel))
theorem zw_s6_2 : Cond.selects RX10 yX10_isIn yX10_isIn ∈ zT := zs_6 (List.mem_of_getElem? (i := 2) (by decide +kernel))
theorem zw_s6_3 : Cond.selects RX10 yX10_isWithin yX10_isWithin ∈ zT := zs_6 (List.mem_of_getElem? (i := 3) (by decide +kernel))
theorem zw_s6_6 : Cond.selects RX10 yX10_isAsked yX10_isAsked ∈ zT := zs_6 (List.mem_of_getElem? (i := 6) (by decide +kernel))
theorem zw_t1_11 : Cond.initialized RX10 ∈ zT := zt_1 (List.mem_of_getElem? (i := 11) (by decide +kernel)) (by decide +kernel)
theorem zw_t6_100 : Cond.fieldLink RX10 114 "NameGateModel" "thrown" "I" ∈ zT := zt_6 (List.mem_of_getElem? (i := 100) (by decide +kernel)) (by decide +kernel)
theorem zw_t6_106 : Cond.fieldLink RX10 130 "NameGateModel" "taped" "I" ∈ zT := zt_6 (List.mem_of_getElem? (i := 106) (by decide +kernel)) (by decide +kernel)
theorem zw_t6_108 : Cond.fieldLink RX10 154 "NameGateModel" "token" "I" ∈ zT := zt_6 (List.mem_of_getElem? (i := 108) (by decide +kernel)) (by decide +kernel)
theorem zw_t6_109 : Cond.fieldLink RX10 144 "NameGateModel" "place" "I" ∈ zT := zt_6 (List.mem_of_getElem? (i := 109) (by decide +kernel)) (by decide +kernel)
theorem zw_t6_111 : Cond.fieldLink RX10 150 "NameGateModel" "word" "J" ∈ zT := zt_6 (List.mem_of_getElem? (i := 111) (by decide +kernel)) (by decide +kernel)
theorem zw_t6_112 : Cond.fieldLink RX10 165 "NameGateModel" "bad" "I" ∈ zT := zt_6 (List.mem_of_getElem? (i := 112) (by decide +kernel)) (by decide +kernel)
theorem zw_t6_113 : Cond.fieldLink RX10 168 "NameGateModel" "badPlace" "I" ∈ zT := zt_6 (List.mem_of_getElem? (i := 113) (by decide +kernel)) (by decide +kernel)
theorem zw_t6_114 : Cond.fieldLink RX10 192 "NameGateModel" "fault" "I" ∈ zT := zt_6 (List.mem_of_getElem? (i := 114) (by decide +kernel)) (by decide +kernel)
theorem zw_t6_115 : Cond.fieldLink RX10 27 "NameGateModel" "faultPlace" "I" ∈ zT := zt_6 (List.mem_of_getElem? (i := 115) (by decide +kernel)) (by decide +kernel)
theorem zw_t6_117 : Cond.fieldLink RX10 34 "NameGateModel" "hours" "[I" ∈ zT := zt_6 (List.mem_of_getElem? (i := 117) (by decide +kernel)) (by decide +kernel)
theorem zw_t6_118 : Cond.fieldLink RX10 37 "NameGateModel" "courts" "[I" ∈ zT := zt_6 (List.mem_of_getElem? (i := 118) (by decide +kernel)) (by decide +kernel)
theorem zw_t6_119 : Cond.fieldLink RX10 40 "NameGateModel" "in" "[I" ∈ zT := zt_6 (List.mem_of_getElem? (i := 119) (by decide +kernel)) (by decide +kernel)
theorem zw_t6_120 : Cond.fieldLink RX10 43 "NameGateModel" "gates" "[I" ∈ zT := zt_6 (List.mem_of_getElem? (i := 120) (by decide +kernel)) (by decide +kernel)
theorem zw_t6_121 : Cond.fieldLink RX10 46 "NameGateModel" "gate" "[I" ∈ zT := zt_6 (List.mem_of_getElem? (i := 121) (by decide +kernel)) (by decide +kernel)
theorem zw_t6_122 : Cond.fieldLink RX10 49 "NameGateModel" "people" "[I" ∈ zT := zt_6 (List.mem_of_getElem? (i := 122) (by decide +kernel)) (by decide +kernel)
theorem zw_t6_123 : Cond.fieldLink RX10 52 "NameGateModel" "at0" "[I" ∈ zT := zt_6 (List.mem_of_getElem? (i := 123) (by decide +kernel)) (by decide +kernel)
theorem zw_t6_124 : Cond.fieldLink RX10 55 "NameGateModel" "stray" "[I" ∈ zT := zt_6 (List.mem_of_getElem? (i := 124) (by decide +kernel)) (by decide +kernel)
theorem zw_t6_125 : Cond.fieldLink RX10 58 "NameGateModel" "set" "[I" ∈ zT := zt_6 (List.mem_of_getElem? (i := 125) (by decide +kernel)) (by decide +kernel)
theorem zw_t6_127 : Cond.fieldLink RX10 65 "NameGateModel" "truth" "[I" ∈ zT := zt_6 (List.mem_of_getElem? (i := 127) (by decide +kernel)) (by decide +kernel)
theorem zw_t6_128 : Cond.fieldLink RX10 68 "NameGateModel" "known" "[I" ∈ zT := zt_6 (List.mem_of_getElem? (i := 128) (by decide +kernel)) (by decide +kernel)
theorem zw_t6_131 : Cond.fieldLink RX10 74 "NameGateModel" "hostPerson" "I" ∈ zT := zt_6 (List.mem_of_getElem? (i := 131) (by decide +kernel)) (by decide +kernel)
theorem zw_t6_132 : Cond.fieldLink RX10 265 "NameGateModel" "hostCourt" "I" ∈ zT := zt_6 (List.mem_of_getElem? (i := 132) (by decide +kernel)) (by decide +kernel)
theorem zw_t6_133 : Cond.fieldLink RX10 279 "NameGateModel" "outside" "I" ∈ zT := zt_6 (List.mem_of_getElem? (i := 133) (by decide +kernel)) (by decide +kernel)
theorem zw_t6_152 : Cond.fieldLink RX10 463 "NameGateModel" "x" "J" ∈ zT := zt_6 (List.mem_of_getElem? (i := 152) (by decide +kernel)) (by decide +kernel)
theorem zw_t7_181 : Cond.methodLink RX10 299 yX10_isHour ∈ zT := zt_7 (List.mem_of_getElem? (i := 181) (by decide +kernel)) (by decide +kernel)
theorem zw_t7_183 : Cond.instanceMethod yX10_isHour ∈ zT := zt_7 (List.mem_of_getElem? (i := 183) (by decide +kernel)) (by decide +kernel)
theorem zw_t7_184 : Cond.code yX10_isHour cX10_isHour 2 (some .boolean) ∈ zT := zt_7 (List.mem_of_getElem? (i := 184) (by decide +kernel)) (by decide +kernel)
theorem zw_t7_185 : Cond.methodLink RX10 282 yX10_isStrayed ∈ zT := zt_7 (List.mem_of_getElem? (i := 185) (by decide +kernel)) (by decide +kernel)
theorem zw_t7_187 : Cond.instanceMethod yX10_isStrayed ∈ zT := zt_7 (List.mem_of_getElem? (i := 187) (by decide +kernel)) (by decide +kernel)
theorem zw_t7_188 : Cond.code yX10_isStrayed cX10_isStrayed 2 (some .boolean) ∈ zT := zt_7 (List.mem_of_getElem? (i := 188) (by decide +kernel)) (by decide +kernel)
theorem zw_t7_189 : Cond.methodLink RX10 272 yX10_placeOf ∈ zT := zt_7 (List.mem_of_getElem? (i := 189) (by decide +kernel)) (by decide +kernel)
theorem zw_t7_191 : Cond.instanceMethod yX10_placeOf ∈ zT := zt_7 (List.mem_of_getElem? (i := 191) (by decide +kernel)) (by decide +kernel)
theorem zw_t7_192 : Cond.code yX10_placeOf cX10_placeOf 4 (some .int) ∈ zT := zt_7 (List.mem_of_getElem? (i := 192) (by decide +kernel)) (by decide +kernel)
theorem zw_t7_197 : Cond.methodLink RX10 302 yX10_isCourt ∈ zT := zt_7 (List.mem_of_getElem? (i := 197) (by decide +kernel)) (by decide +kernel)
theorem zw_t7_199 : Cond.instanceMethod yX10_isCourt ∈ zT := zt_7 (List.mem_of_getElem? (i := 199) (by decide +kernel)) (by decide +kernel)
theorem zw_t7_200 : Cond.code yX10_isCourt cX10_isCourt 2 (some .boolean) ∈ zT := zt_7 (List.mem_of_getElem? (i := 200) (by decide +kernel)) (by decide +kernel)
theorem zw_t7_205 : Cond.methodLink RX10 276 yX10_counts ∈ zT := zt_7 (List.mem_of_getElem? (i := 205) (by decide +kernel)) (by decide +kernel)
theorem zw_t7_207 : Cond.instanceMethod yX10_counts ∈ zT := zt_7 (List.mem_of_getElem? (i := 207) (by decide +kernel)) (by decide +kernel)
theorem zw_t7_208 : Cond.code yX10_counts cX10_counts 3 (some .boolean) ∈ zT := zt_7 (List.mem_of_getElem? (i := 208) (by decide +kernel)) (by decide +kernel)
theorem zw_t7_209 : Cond.methodLink RX10 268 yX10_isIn ∈ zT := zt_7 (List.mem_of_getElem? (i := 209) (by decide +kernel)) (by decide +kernel)
theorem zw_t7_211 : Cond.instanceMethod yX10_isIn ∈ zT := zt_7 (List.mem_of_getElem? (i := 211) (by decide +kernel)) (by decide +kernel)
theorem zw_t7_212 : Cond.code yX10_isIn cX10_isIn 4 (some .boolean) ∈ zT := zt_7 (List.mem_of_getElem? (i := 212) (by decide +kernel)) (by decide +kernel)
theorem zw_t7_213 : Cond.methodLink RX10 285 yX10_isWithin ∈ zT := zt_7 (List.mem_of_getElem? (i := 213) (by decide +kernel)) (by decide +kernel)
theorem zw_t7_215 : Cond.instanceMethod yX10_isWithin ∈ zT := zt_7 (List.mem_of_getElem? (i := 215) (by decide +kernel)) (by decide +kernel)
theorem zw_t7_216 : Cond.code yX10_isWithin cX10_isWithin 5 (some .boolean) ∈ zT := zt_7 (List.mem_of_getElem? (i := 216) (by decide +kernel)) (by decide +kernel)
theorem zw_t7_28 : Cond.constantLong RX10 117 (3) ∈ zT := zt_7 (List.mem_of_getElem? (i := 28) (by decide +kernel)) (by decide +kernel)
theorem zw_t7_29 : Cond.methodLink RX10 119 yX10_in ∈ zT := zt_7 (List.mem_of_getElem? (i := 29) (by decide +kernel)) (by decide +kernel)
theorem zw_t7_30 : Cond.static yX10_in ∈ zT := zt_7 (List.mem_of_getElem? (i := 30) (by decide +kernel)) (by decide +kernel)
theorem zw_t7_31 : Cond.code yX10_in cX10_in 6 (some .boolean) ∈ zT := zt_7 (List.mem_of_getElem? (i := 31) (by decide +kernel)) (by decide +kernel)
theorem zw_t8_11 : Cond.instanceMethod yX10_isAsked ∈ zT := zt_8 (List.mem_of_getElem? (i := 11) (by decide +kernel)) (by decide +kernel)
theorem zw_t8_12 : Cond.code yX10_isAsked cX10_isAsked 4 (some .boolean) ∈ zT := zt_8 (List.mem_of_getElem? (i := 12) (by decide +kernel)) (by decide +kernel)
theorem zw_t8_220 : Cond.constantLong RX10 405 (100) ∈ zT := zt_8 (List.mem_of_getElem? (i := 220) (by decide +kernel)) (by decide +kernel)
theorem zw_t8_73 : Cond.methodLink RX10 347 yX10_sizeOf ∈ zT := zt_8 (List.mem_of_getElem? (i := 73) (by decide +kernel)) (by decide +kernel)
theorem zw_t8_74 : Cond.static yX10_sizeOf ∈ zT := zt_8 (List.mem_of_getElem? (i := 74) (by decide +kernel)) (by decide +kernel)
theorem zw_t8_75 : Cond.code yX10_sizeOf cX10_sizeOf 3 (some .int) ∈ zT := zt_8 (List.mem_of_getElem? (i := 75) (by decide +kernel)) (by decide +kernel)
theorem zw_t8_9 : Cond.methodLink RX10 329 yX10_isAsked ∈ zT := zt_8 (List.mem_of_getElem? (i := 9) (by decide +kernel)) (by decide +kernel)
theorem zw_t9_55 : Cond.constantLong RX10 475 (2000000000) ∈ zT := zt_9 (List.mem_of_getElem? (i := 55) (by decide +kernel)) (by decide +kernel)
theorem zw_t9_64 : Cond.constantLong RX10 461 (1103515245) ∈ zT := zt_9 (List.mem_of_getElem? (i := 64) (by decide +kernel)) (by decide +kernel)
theorem zw_t9_65 : Cond.constantLong RX10 466 (12345) ∈ zT := zt_9 (List.mem_of_getElem? (i := 65) (by decide +kernel)) (by decide +kernel)
theorem zw_t9_66 : Cond.constantLong RX10 468 (2147483648) ∈ zT := zt_9 (List.mem_of_getElem? (i := 66) (by decide +kernel)) (by decide +kernel)
theorem zw_t9_67 : Cond.constantLong RX10 470 (65536) ∈ zT := zt_9 (List.mem_of_getElem? (i := 67) (by decide +kernel)) (by decide +kernel)
def bcX10_at_0 : List Nat := [16, 10, 26, 104, 27, 96, 16, 81, 104, 28, 96, 172]
theorem bcX10_at_0_ok : z_bys cX10_at 0 bcX10_at_0 = true := by decide +kernel
theorem dX10_at_0 : decode cX10_at 0 = .ok (.bipush 10, 2) := zo_16 (z_byk bcX10_at_0 0 0 _ bcX10_at_0_ok rfl) (z_byk bcX10_at_0 0 1 _ bcX10_at_0_ok rfl) rfl
theorem dX10_at_10 : decode cX10_at 10 = .ok (.iadd, 1) := zo_96 (z_byk bcX10_at_0 0 10 _ bcX10_at_0_ok rfl)
theorem dX10_at_11 : decode cX10_at 11 = .ok (.ireturn, 1) := zo_172 (z_byk bcX10_at_0 0 11 _ bcX10_at_0_ok rfl)
theorem dX10_at_2 : decode cX10_at 2 = .ok (.iload_n 0, 1) := zo_26 (z_byk bcX10_at_0 0 2 _ bcX10_at_0_ok rfl)
theorem dX10_at_3 : decode cX10_at 3 = .ok (.imul, 1) := zo_104 (z_byk bcX10_at_0 0 3 _ bcX10_at_0_ok rfl)
theorem dX10_at_4 : decode cX10_at 4 = .ok (.iload_n 1, 1) := zo_27 (z_byk bcX10_at_0 0 4 _ bcX10_at_0_ok rfl)
theorem dX10_at_5 : decode cX10_at 5 = .ok (.iadd, 1) := zo_96 (z_byk bcX10_at_0 0 5 _ bcX10_at_0_ok rfl)
theorem dX10_at_6 : decode cX10_at 6 = .ok (.bipush 81, 2) := zo_16 (z_byk bcX10_at_0 0 6 _ bcX10_at_0_ok rfl) (z_byk bcX10_at_0 0 7 _ bcX10_at_0_ok rfl) rfl
theorem dX10_at_8 : decode cX10_at 8 = .ok (.imul, 1) := zo_104 (z_byk bcX10_at_0 0 8 _ bcX10_at_0_ok rfl)
theorem dX10_at_9 : decode cX10_at 9 = .ok (.iload_n 2, 1) := zo_28 (z_byk bcX10_at_0 0 9 _ bcX10_at_0_ok rfl)
def bcX10_counts_0 : List Nat := [27, 28, 159, 0, 22, 42, 180, 0, 58, 3, 46, 4, 160, 0, 16, 42, 27, 28, 182, 1, 12, 153, 0, 7, 4, 167, 0, 4, 3, 172]
theorem bcX10_counts_0_ok : z_bys cX10_counts 0 bcX10_counts_0 = true := by decide +kernel
theorem dX10_counts_0 : decode cX10_counts 0 = .ok (.iload_n 1, 1) := zo_27 (z_byk bcX10_counts_0 0 0 _ bcX10_counts_0_ok rfl)
theorem dX10_counts_1 : decode cX10_counts 1 = .ok (.iload_n 2, 1) := zo_28 (z_byk bcX10_counts_0 0 1 _ bcX10_counts_0_ok rfl)
theorem dX10_counts_10 : decode cX10_counts 10 = .ok (.iaload, 1) := zo_46 (z_byk bcX10_counts_0 0 10 _ bcX10_counts_0_ok rfl)
theorem dX10_counts_11 : decode cX10_counts 11 = .ok (.iconst 1, 1) := zo_4 (z_byk bcX10_counts_0 0 11 _ bcX10_counts_0_ok rfl)
theorem dX10_counts_12 : decode cX10_counts 12 = .ok (.if_icmp .ne 16, 3) := zo_160 (z_byk bcX10_counts_0 0 12 _ bcX10_counts_0_ok rfl) (z_byk bcX10_counts_0 0 13 _ bcX10_counts_0_ok rfl) (z_byk bcX10_counts_0 0 14 _ bcX10_counts_0_ok rfl) rfl
theorem dX10_counts_15 : decode cX10_counts 15 = .ok (.aload_n 0, 1) := zo_42 (z_byk bcX10_counts_0 0 15 _ bcX10_counts_0_ok rfl)
theorem dX10_counts_16 : decode cX10_counts 16 = .ok (.iload_n 1, 1) := zo_27 (z_byk bcX10_counts_0 0 16 _ bcX10_counts_0_ok rfl)
theorem dX10_counts_17 : decode cX10_counts 17 = .ok (.iload_n 2, 1) := zo_28 (z_byk bcX10_counts_0 0 17 _ bcX10_counts_0_ok rfl)
theorem dX10_counts_18 : decode cX10_counts 18 = .ok (.invokevirtual 268, 3) := zo_182 (z_byk bcX10_counts_0 0 18 _ bcX10_counts_0_ok rfl) (z_byk bcX10_counts_0 0 19 _ bcX10_counts_0_ok rfl) (z_byk bcX10_counts_0 0 20 _ bcX10_counts_0_ok rfl) rfl
theorem dX10_counts_2 : decode cX10_counts 2 = .ok (.if_icmp .eq 22, 3) := zo_159 (z_byk bcX10_counts_0 0 2 _ bcX10_counts_0_ok rfl) (z_byk bcX10_counts_0 0 3 _ bcX10_counts_0_ok rfl) (z_byk bcX10_counts_0 0 4 _ bcX10_counts_0_ok rfl) rfl
theorem dX10_counts_21 : decode cX10_counts 21 = .ok (.ifCond .eq 7, 3) := zo_153 (z_byk bcX10_counts_0 0 21 _ bcX10_counts_0_ok rfl) (z_byk bcX10_counts_0 0 22 _ bcX10_counts_0_ok rfl) (z_byk bcX10_counts_0 0 23 _ bcX10_counts_0_ok rfl) rfl
theorem dX10_counts_24 : decode cX10_counts 24 = .ok (.iconst 1, 1) := zo_4 (z_byk bcX10_counts_0 0 24 _ bcX10_counts_0_ok rfl)
theorem dX10_counts_25 : decode cX10_counts 25 = .ok (.goto 4, 3) := zo_167 (z_byk bcX10_counts_0 0 25 _ bcX10_counts_0_ok rfl) (z_byk bcX10_counts_0 0 26 _ bcX10_counts_0_ok rfl) (z_byk bcX10_counts_0 0 27 _ bcX10_counts_0_ok rfl) rfl
theorem dX10_counts_28 : decode cX10_counts 28 = .ok (.iconst 0, 1) := zo_3 (z_byk bcX10_counts_0 0 28 _ bcX10_counts_0_ok rfl)
theorem dX10_counts_29 : decode cX10_counts 29 = .ok (.ireturn, 1) := zo_172 (z_byk bcX10_counts_0 0 29 _ bcX10_counts_0_ok rfl)
theorem dX10_counts_5 : decode cX10_counts 5 = .ok (.aload_n 0, 1) := zo_42 (z_byk bcX10_counts_0 0 5 _ bcX10_counts_0_ok rfl)
theorem dX10_counts_6 : decode cX10_counts 6 = .ok (.getfield 58, 3) := zo_180 (z_byk bcX10_counts_0 0 6 _ bcX10_counts_0_ok rfl) (z_byk bcX10_counts_0 0 7 _ bcX10_counts_0_ok rfl) (z_byk bcX10_counts_0 0 8 _ bcX10_counts_0_ok rfl) rfl
theorem dX10_counts_9 : decode cX10_counts 9 = .ok (.iconst 0, 1) := zo_3 (z_byk bcX10_counts_0 0 9 _ bcX10_counts_0_ok rfl)
def bcX10_cut_0 : List Nat := [28, 154, 0, 10, 30, 136, 145, 133, 167, 0, 27, 28, 4, 160, 0, 10, 30, 136, 147, 133, 167, 0, 15, 28, 5, 160, 0, 9, 30, 136, 133, 167, 0, 4, 30, 173]
theorem bcX10_cut_0_ok : z_bys cX10_cut 0 bcX10_cut_0 = true := by decide +kernel
theorem dX10_cut_0 : decode cX10_cut 0 = .ok (.iload_n 2, 1) := zo_28 (z_byk bcX10_cut_0 0 0 _ bcX10_cut_0_ok rfl)
theorem dX10_cut_1 : decode cX10_cut 1 = .ok (.ifCond .ne 10, 3) := zo_154 (z_byk bcX10_cut_0 0 1 _ bcX10_cut_0_ok rfl) (z_byk bcX10_cut_0 0 2 _ bcX10_cut_0_ok rfl) (z_byk bcX10_cut_0 0 3 _ bcX10_cut_0_ok rfl) rfl
theorem dX10_cut_11 : decode cX10_cut 11 = .ok (.iload_n 2, 1) := zo_28 (z_byk bcX10_cut_0 0 11 _ bcX10_cut_0_ok rfl)
theorem dX10_cut_12 : decode cX10_cut 12 = .ok (.iconst 1, 1) := zo_4 (z_byk bcX10_cut_0 0 12 _ bcX10_cut_0_ok rfl)
theorem dX10_cut_13 : decode cX10_cut 13 = .ok (.if_icmp .ne 10, 3) := zo_160 (z_byk bcX10_cut_0 0 13 _ bcX10_cut_0_ok rfl) (z_byk bcX10_cut_0 0 14 _ bcX10_cut_0_ok rfl) (z_byk bcX10_cut_0 0 15 _ bcX10_cut_0_ok rfl) rfl
theorem dX10_cut_16 : decode cX10_cut 16 = .ok (.lload_n 0, 1) := zo_30 (z_byk bcX10_cut_0 0 16 _ bcX10_cut_0_ok rfl)
theorem dX10_cut_17 : decode cX10_cut 17 = .ok (.l2i, 1) := zo_136 (z_byk bcX10_cut_0 0 17 _ bcX10_cut_0_ok rfl)
theorem dX10_cut_18 : decode cX10_cut 18 = .ok (.i2s, 1) := zo_147 (z_byk bcX10_cut_0 0 18 _ bcX10_cut_0_ok rfl)
theorem dX10_cut_19 : decode cX10_cut 19 = .ok (.i2l, 1) := zo_133 (z_byk bcX10_cut_0 0 19 _ bcX10_cut_0_ok rfl)
theorem dX10_cut_20 : decode cX10_cut 20 = .ok (.goto 15, 3) := zo_167 (z_byk bcX10_cut_0 0 20 _ bcX10_cut_0_ok rfl) (z_byk bcX10_cut_0 0 21 _ bcX10_cut_0_ok rfl) (z_byk bcX10_cut_0 0 22 _ bcX10_cut_0_ok rfl) rfl
theorem dX10_cut_23 : decode cX10_cut 23 = .ok (.iload_n 2, 1) := zo_28 (z_byk bcX10_cut_0 0 23 _ bcX10_cut_0_ok rfl)
theorem dX10_cut_24 : decode cX10_cut 24 = .ok (.iconst 2, 1) := zo_5 (z_byk bcX10_cut_0 0 24 _ bcX10_cut_0_ok rfl)
theorem dX10_cut_25 : decode cX10_cut 25 = .ok (.if_icmp .ne 9, 3) := zo_160 (z_byk bcX10_cut_0 0 25 _ bcX10_cut_0_ok rfl) (z_byk bcX10_cut_0 0 26 _ bcX10_cut_0_ok rfl) (z_byk bcX10_cut_0 0 27 _ bcX10_cut_0_ok rfl) rfl
theorem dX10_cut_28 : decode cX10_cut 28 = .ok (.lload_n 0, 1) := zo_30 (z_byk bcX10_cut_0 0 28 _ bcX10_cut_0_ok rfl)
theorem dX10_cut_29 : decode cX10_cut 29 = .ok (.l2i, 1) := zo_136 (z_byk bcX10_cut_0 0 29 _ bcX10_cut_0_ok rfl)
theorem dX10_cut_30 : decode cX10_cut 30 = .ok (.i2l, 1) := zo_133 (z_byk bcX10_cut_0 0 30 _ bcX10_cut_0_ok rfl)
theorem dX10_cut_31 : decode cX10_cut 31 = .ok (.goto 4, 3) := zo_167 (z_byk bcX10_cut_0 0 31 _ bcX10_cut_0_ok rfl) (z_byk bcX10_cut_0 0 32 _ bcX10_cut_0_ok rfl) (z_byk bcX10_cut_0 0 33 _ bcX10_cut_0_ok rfl) rfl
theorem dX10_cut_34 : decode cX10_cut 34 = .ok (.lload_n 0, 1) := zo_30 (z_byk bcX10_cut_0 0 34 _ bcX10_cut_0_ok rfl)
theorem dX10_cut_35 : decode cX10_cut 35 = .ok (.lreturn, 1) := zo_173 (z_byk bcX10_cut_0 0 35 _ bcX10_cut_0_ok rfl)
theorem dX10_cut_4 : decode cX10_cut 4 = .ok (.lload_n 0, 1) := zo_30 (z_byk bcX10_cut_0 0 4 _ bcX10_cut_0_ok rfl)
theorem dX10_cut_5 : decode cX10_cut 5 = .ok (.l2i, 1) := zo_136 (z_byk bcX10_cut_0 0 5 _ bcX10_cut_0_ok rfl)
theorem dX10_cut_6 : decode cX10_cut 6 = .ok (.i2b, 1) := zo_145 (z_byk bcX10_cut_0 0 6 _ bcX10_cut_0_ok rfl)
theorem dX10_cut_7 : decode cX10_cut 7 = .ok (.i2l, 1) := zo_133 (z_byk bcX10_cut_0 0 7 _ bcX10_cut_0_ok rfl)
theorem dX10_cut_8 : decode cX10_cut 8 = .ok (.goto 27, 3) := zo_167 (z_byk bcX10_cut_0 0 8 _ bcX10_cut_0_ok rfl) (z_byk bcX10_cut_0 0 9 _ bcX10_cut_0_ok rfl) (z_byk bcX10_cut_0 0 10 _ bcX10_cut_0_ok rfl) rfl
def bcX10_drawn_0 : List Nat := [42, 20, 1, 205, 42, 180, 1, 207, 105, 20, 1, 210, 97, 20, 1, 212, 113, 181, 1, 207, 42, 180, 1, 207, 20, 1, 214, 109, 20, 1, 149, 113, 136, 172]
theorem bcX10_drawn_0_ok : z_bys cX10_drawn 0 bcX10_drawn_0 = true := by decide +kernel
theorem dX10_drawn_0 : decode cX10_drawn 0 = .ok (.aload_n 0, 1) := zo_42 (z_byk bcX10_drawn_0 0 0 _ bcX10_drawn_0_ok rfl)
theorem dX10_drawn_1 : decode cX10_drawn 1 = .ok (.ldc2_w 461, 3) := zo_20 (z_byk bcX10_drawn_0 0 1 _ bcX10_drawn_0_ok rfl) (z_byk bcX10_drawn_0 0 2 _ bcX10_drawn_0_ok rfl) (z_byk bcX10_drawn_0 0 3 _ bcX10_drawn_0_ok rfl) rfl
theorem dX10_drawn_12 : decode cX10_drawn 12 = .ok (.ladd, 1) := zo_97 (z_byk bcX10_drawn_0 0 12 _ bcX10_drawn_0_ok rfl)
theorem dX10_drawn_13 : decode cX10_drawn 13 = .ok (.ldc2_w 468, 3) := zo_20 (z_byk bcX10_drawn_0 0 13 _ bcX10_drawn_0_ok rfl) (z_byk bcX10_drawn_0 0 14 _ bcX10_drawn_0_ok rfl) (z_byk bcX10_drawn_0 0 15 _ bcX10_drawn_0_ok rfl) rfl
theorem dX10_drawn_16 : decode cX10_drawn 16 = .ok (.lrem, 1) := zo_113 (z_byk bcX10_drawn_0 0 16 _ bcX10_drawn_0_ok rfl)
theorem dX10_drawn_17 : decode cX10_drawn 17 = .ok (.putfield 463, 3) := zo_181 (z_byk bcX10_drawn_0 0 17 _ bcX10_drawn_0_ok rfl) (z_byk bcX10_drawn_0 0 18 _ bcX10_drawn_0_ok rfl) (z_byk bcX10_drawn_0 0 19 _ bcX10_drawn_0_ok rfl) rfl
theorem dX10_drawn_20 : decode cX10_drawn 20 = .ok (.aload_n 0, 1) := zo_42 (z_byk bcX10_drawn_0 0 20 _ bcX10_drawn_0_ok rfl)
theorem dX10_drawn_21 : decode cX10_drawn 21 = .ok (.getfield 463, 3) := zo_180 (z_byk bcX10_drawn_0 0 21 _ bcX10_drawn_0_ok rfl) (z_byk bcX10_drawn_0 0 22 _ bcX10_drawn_0_ok rfl) (z_byk bcX10_drawn_0 0 23 _ bcX10_drawn_0_ok rfl) rfl
theorem dX10_drawn_24 : decode cX10_drawn 24 = .ok (.ldc2_w 470, 3) := zo_20 (z_byk bcX10_drawn_0 0 24 _ bcX10_drawn_0_ok rfl) (z_byk bcX10_drawn_0 0 25 _ bcX10_drawn_0_ok rfl) (z_byk bcX10_drawn_0 0 26 _ bcX10_drawn_0_ok rfl) rfl
theorem dX10_drawn_27 : decode cX10_drawn 27 = .ok (.ldiv, 1) := zo_109 (z_byk bcX10_drawn_0 0 27 _ bcX10_drawn_0_ok rfl)
theorem dX10_drawn_28 : decode cX10_drawn 28 = .ok (.ldc2_w 405, 3) := zo_20 (z_byk bcX10_drawn_0 0 28 _ bcX10_drawn_0_ok rfl) (z_byk bcX10_drawn_0 0 29 _ bcX10_drawn_0_ok rfl) (z_byk bcX10_drawn_0 0 30 _ bcX10_drawn_0_ok rfl) rfl
theorem dX10_drawn_31 : decode cX10_drawn 31 = .ok (.lrem, 1) := zo_113 (z_byk bcX10_drawn_0 0 31 _ bcX10_drawn_0_ok rfl)
theorem dX10_drawn_32 : decode cX10_drawn 32 = .ok (.l2i, 1) := zo_136 (z_byk bcX10_drawn_0 0 32 _ bcX10_drawn_0_ok rfl)
theorem dX10_drawn_33 : decode cX10_drawn 33 = .ok (.ireturn, 1) := zo_172 (z_byk bcX10_drawn_0 0 33 _ bcX10_drawn_0_ok rfl)
theorem dX10_drawn_4 : decode cX10_drawn 4 = .ok (.aload_n 0, 1) := zo_42 (z_byk bcX10_drawn_0 0 4 _ bcX10_drawn_0_ok rfl)
theorem dX10_drawn_5 : decode cX10_drawn 5 = .ok (.getfield 463, 3) := zo_180 (z_byk bcX10_drawn_0 0 5 _ bcX10_drawn_0_ok rfl) (z_byk bcX10_drawn_0 0 6 _ bcX10_drawn_0_ok rfl) (z_byk bcX10_drawn_0 0 7 _ bcX10_drawn_0_ok rfl) rfl
theorem dX10_drawn_8 : decode cX10_drawn 8 = .ok (.lmul, 1) := zo_105 (z_byk bcX10_drawn_0 0 8 _ bcX10_drawn_0_ok rfl)
theorem dX10_drawn_9 : decode cX10_drawn 9 = .ok (.ldc2_w 466, 3) := zo_20 (z_byk bcX10_drawn_0 0 9 _ bcX10_drawn_0_ok rfl) (z_byk bcX10_drawn_0 0 10 _ bcX10_drawn_0_ok rfl) (z_byk bcX10_drawn_0 0 11 _ bcX10_drawn_0_ok rfl) rfl
def bcX10_end_0 : List Nat := [42, 3, 181, 0, 114, 27, 133, 9, 42, 180, 0, 130, 133, 184, 0, 119, 154, 0, 5, 2, 172, 42, 27, 181, 0, 130, 27, 172]
theorem bcX10_end_0_ok : z_bys cX10_end 0 bcX10_end_0 = true := by decide +kernel
theorem dX10_end_0 : decode cX10_end 0 = .ok (.aload_n 0, 1) := zo_42 (z_byk bcX10_end_0 0 0 _ bcX10_end_0_ok rfl)
theorem dX10_end_1 : decode cX10_end 1 = .ok (.iconst 0, 1) := zo_3 (z_byk bcX10_end_0 0 1 _ bcX10_end_0_ok rfl)
theorem dX10_end_12 : decode cX10_end 12 = .ok (.i2l, 1) := zo_133 (z_byk bcX10_end_0 0 12 _ bcX10_end_0_ok rfl)
theorem dX10_end_13 : decode cX10_end 13 = .ok (.invokestatic 119, 3) := zo_184 (z_byk bcX10_end_0 0 13 _ bcX10_end_0_ok rfl) (z_byk bcX10_end_0 0 14 _ bcX10_end_0_ok rfl) (z_byk bcX10_end_0 0 15 _ bcX10_end_0_ok rfl) rfl
theorem dX10_end_16 : decode cX10_end 16 = .ok (.ifCond .ne 5, 3) := zo_154 (z_byk bcX10_end_0 0 16 _ bcX10_end_0_ok rfl) (z_byk bcX10_end_0 0 17 _ bcX10_end_0_ok rfl) (z_byk bcX10_end_0 0 18 _ bcX10_end_0_ok rfl) rfl
theorem dX10_end_19 : decode cX10_end 19 = .ok (.iconst (-1), 1) := zo_2 (z_byk bcX10_end_0 0 19 _ bcX10_end_0_ok rfl)
theorem dX10_end_2 : decode cX10_end 2 = .ok (.putfield 114, 3) := zo_181 (z_byk bcX10_end_0 0 2 _ bcX10_end_0_ok rfl) (z_byk bcX10_end_0 0 3 _ bcX10_end_0_ok rfl) (z_byk bcX10_end_0 0 4 _ bcX10_end_0_ok rfl) rfl
theorem dX10_end_20 : decode cX10_end 20 = .ok (.ireturn, 1) := zo_172 (z_byk bcX10_end_0 0 20 _ bcX10_end_0_ok rfl)
theorem dX10_end_21 : decode cX10_end 21 = .ok (.aload_n 0, 1) := zo_42 (z_byk bcX10_end_0 0 21 _ bcX10_end_0_ok rfl)
theorem dX10_end_22 : decode cX10_end 22 = .ok (.iload_n 1, 1) := zo_27 (z_byk bcX10_end_0 0 22 _ bcX10_end_0_ok rfl)
theorem dX10_end_23 : decode cX10_end 23 = .ok (.putfield 130, 3) := zo_181 (z_byk bcX10_end_0 0 23 _ bcX10_end_0_ok rfl) (z_byk bcX10_end_0 0 24 _ bcX10_end_0_ok rfl) (z_byk bcX10_end_0 0 25 _ bcX10_end_0_ok rfl) rfl
theorem dX10_end_26 : decode cX10_end 26 = .ok (.iload_n 1, 1) := zo_27 (z_byk bcX10_end_0 0 26 _ bcX10_end_0_ok rfl)
theorem dX10_end_27 : decode cX10_end 27 = .ok (.ireturn, 1) := zo_172 (z_byk bcX10_end_0 0 27 _ bcX10_end_0_ok rfl)
theorem dX10_end_5 : decode cX10_end 5 = .ok (.iload_n 1, 1) := zo_27 (z_byk bcX10_end_0 0 5 _ bcX10_end_0_ok rfl)
theorem dX10_end_6 : decode cX10_end 6 = .ok (.i2l, 1) := zo_133 (z_byk bcX10_end_0 0 6 _ bcX10_end_0_ok rfl)
theorem dX10_end_7 : decode cX10_end 7 = .ok (.lconst 0, 1) := zo_9 (z_byk bcX10_end_0 0 7 _ bcX10_end_0_ok rfl)
theorem dX10_end_8 : decode cX10_end 8 = .ok (.aload_n 0, 1) := zo_42 (z_byk bcX10_end_0 0 8 _ bcX10_end_0_ok rfl)
theorem dX10_end_9 : decode cX10_end 9 = .ok (.getfield 130, 3) := zo_180 (z_byk bcX10_end_0 0 9 _ bcX10_end_0_ok rfl) (z_byk bcX10_end_0 0 10 _ bcX10_end_0_ok rfl) (z_byk bcX10_end_0 0 11 _ bcX10_end_0_ok rfl) rfl
def bcX10_fails_0 : List Nat := [42, 180, 0, 165, 153, 0, 4, 177, 42, 27, 181, 0, 165, 42, 42, 180, 0, 144, 181, 0, 168, 177]
theorem bcX10_fails_0_ok : z_bys cX10_fails 0 bcX10_fails_0 = true := by decide +kernel
theorem dX10_fails_0 : decode cX10_fails 0 = .ok (.aload_n 0, 1) := zo_42 (z_byk bcX10_fails_0 0 0 _ bcX10_fails_0_ok rfl)
theorem dX10_fails_1 : decode cX10_fails 1 = .ok (.getfield 165, 3) := zo_180 (z_byk bcX10_fails_0 0 1 _ bcX10_fails_0_ok rfl) (z_byk bcX10_fails_0 0 2 _ bcX10_fails_0_ok rfl) (z_byk bcX10_fails_0 0 3 _ bcX10_fails_0_ok rfl) rfl
theorem dX10_fails_10 : decode cX10_fails 10 = .ok (.putfield 165, 3) := zo_181 (z_byk bcX10_fails_0 0 10 _ bcX10_fails_0_ok rfl) (z_byk bcX10_fails_0 0 11 _ bcX10_fails_0_ok rfl) (z_byk bcX10_fails_0 0 12 _ bcX10_fails_0_ok rfl) rfl
theorem dX10_fails_13 : decode cX10_fails 13 = .ok (.aload_n 0, 1) := zo_42 (z_byk bcX10_fails_0 0 13 _ bcX10_fails_0_ok rfl)
theorem dX10_fails_14 : decode cX10_fails 14 = .ok (.aload_n 0, 1) := zo_42 (z_byk bcX10_fails_0 0 14 _ bcX10_fails_0_ok rfl)
theorem dX10_fails_15 : decode cX10_fails 15 = .ok (.getfield 144, 3) := zo_180 (z_byk bcX10_fails_0 0 15 _ bcX10_fails_0_ok rfl) (z_byk bcX10_fails_0 0 16 _ bcX10_fails_0_ok rfl) (z_byk bcX10_fails_0 0 17 _ bcX10_fails_0_ok rfl) rfl
theorem dX10_fails_18 : decode cX10_fails 18 = .ok (.putfield 168, 3) := zo_181 (z_byk bcX10_fails_0 0 18 _ bcX10_fails_0_ok rfl) (z_byk bcX10_fails_0 0 19 _ bcX10_fails_0_ok rfl) (z_byk bcX10_fails_0 0 20 _ bcX10_fails_0_ok rfl) rfl
theorem dX10_fails_21 : decode cX10_fails 21 = .ok (.return_, 1) := zo_177 (z_byk bcX10_fails_0 0 21 _ bcX10_fails_0_ok rfl)
theorem dX10_fails_4 : decode cX10_fails 4 = .ok (.ifCond .eq 4, 3) := zo_153 (z_byk bcX10_fails_0 0 4 _ bcX10_fails_0_ok rfl) (z_byk bcX10_fails_0 0 5 _ bcX10_fails_0_ok rfl) (z_byk bcX10_fails_0 0 6 _ bcX10_fails_0_ok rfl) rfl
theorem dX10_fails_7 : decode cX10_fails 7 = .ok (.return_, 1) := zo_177 (z_byk bcX10_fails_0 0 7 _ bcX10_fails_0_ok rfl)
theorem dX10_fails_8 : decode cX10_fails 8 = .ok (.aload_n 0, 1) := zo_42 (z_byk bcX10_fails_0 0 8 _ bcX10_fails_0_ok rfl)
theorem dX10_fails_9 : decode cX10_fails 9 = .ok (.iload_n 1, 1) := zo_27 (z_byk bcX10_fails_0 0 9 _ bcX10_fails_0_ok rfl)
def bcX10_fault_0 : List Nat := [42, 3, 181, 0, 114, 27, 154, 0, 10, 42, 180, 0, 192, 167, 0, 16, 27, 4, 160, 0, 10, 42, 180, 0, 27, 167, 0, 4, 2, 172]
theorem bcX10_fault_0_ok : z_bys cX10_fault 0 bcX10_fault_0 = true := by decide +kernel
theorem dX10_fault_0 : decode cX10_fault 0 = .ok (.aload_n 0, 1) := zo_42 (z_byk bcX10_fault_0 0 0 _ bcX10_fault_0_ok rfl)
theorem dX10_fault_1 : decode cX10_fault 1 = .ok (.iconst 0, 1) := zo_3 (z_byk bcX10_fault_0 0 1 _ bcX10_fault_0_ok rfl)
theorem dX10_fault_10 : decode cX10_fault 10 = .ok (.getfield 192, 3) := zo_180 (z_byk bcX10_fault_0 0 10 _ bcX10_fault_0_ok rfl) (z_byk bcX10_fault_0 0 11 _ bcX10_fault_0_ok rfl) (z_byk bcX10_fault_0 0 12 _ bcX10_fault_0_ok rfl) rfl
theorem dX10_fault_13 : decode cX10_fault 13 = .ok (.goto 16, 3) := zo_167 (z_byk bcX10_fault_0 0 13 _ bcX10_fault_0_ok rfl) (z_byk bcX10_fault_0 0 14 _ bcX10_fault_0_ok rfl) (z_byk bcX10_fault_0 0 15 _ bcX10_fault_0_ok rfl) rfl
theorem dX10_fault_16 : decode cX10_fault 16 = .ok (.iload_n 1, 1) := zo_27 (z_byk bcX10_fault_0 0 16 _ bcX10_fault_0_ok rfl)
theorem dX10_fault_17 : decode cX10_fault 17 = .ok (.iconst 1, 1) := zo_4 (z_byk bcX10_fault_0 0 17 _ bcX10_fault_0_ok rfl)
theorem dX10_fault_18 : decode cX10_fault 18 = .ok (.if_icmp .ne 10, 3) := zo_160 (z_byk bcX10_fault_0 0 18 _ bcX10_fault_0_ok rfl) (z_byk bcX10_fault_0 0 19 _ bcX10_fault_0_ok rfl) (z_byk bcX10_fault_0 0 20 _ bcX10_fault_0_ok rfl) rfl
theorem dX10_fault_2 : decode cX10_fault 2 = .ok (.putfield 114, 3) := zo_181 (z_byk bcX10_fault_0 0 2 _ bcX10_fault_0_ok rfl) (z_byk bcX10_fault_0 0 3 _ bcX10_fault_0_ok rfl) (z_byk bcX10_fault_0 0 4 _ bcX10_fault_0_ok rfl) rfl
theorem dX10_fault_21 : decode cX10_fault 21 = .ok (.aload_n 0, 1) := zo_42 (z_byk bcX10_fault_0 0 21 _ bcX10_fault_0_ok rfl)
theorem dX10_fault_22 : decode cX10_fault 22 = .ok (.getfield 27, 3) := zo_180 (z_byk bcX10_fault_0 0 22 _ bcX10_fault_0_ok rfl) (z_byk bcX10_fault_0 0 23 _ bcX10_fault_0_ok rfl) (z_byk bcX10_fault_0 0 24 _ bcX10_fault_0_ok rfl) rfl
theorem dX10_fault_25 : decode cX10_fault 25 = .ok (.goto 4, 3) := zo_167 (z_byk bcX10_fault_0 0 25 _ bcX10_fault_0_ok rfl) (z_byk bcX10_fault_0 0 26 _ bcX10_fault_0_ok rfl) (z_byk bcX10_fault_0 0 27 _ bcX10_fault_0_ok rfl) rfl
theorem dX10_fault_28 : decode cX10_fault 28 = .ok (.iconst (-1), 1) := zo_2 (z_byk bcX10_fault_0 0 28 _ bcX10_fault_0_ok rfl)
theorem dX10_fault_29 : decode cX10_fault 29 = .ok (.ireturn, 1) := zo_172 (z_byk bcX10_fault_0 0 29 _ bcX10_fault_0_ok rfl)
theorem dX10_fault_5 : decode cX10_fault 5 = .ok (.iload_n 1, 1) := zo_27 (z_byk bcX10_fault_0 0 5 _ bcX10_fault_0_ok rfl)
theorem dX10_fault_6 : decode cX10_fault 6 = .ok (.ifCond .ne 10, 3) := zo_154 (z_byk bcX10_fault_0 0 6 _ bcX10_fault_0_ok rfl) (z_byk bcX10_fault_0 0 7 _ bcX10_fault_0_ok rfl) (z_byk bcX10_fault_0 0 8 _ bcX10_fault_0_ok rfl) rfl
theorem dX10_fault_9 : decode cX10_fault 9 = .ok (.aload_n 0, 1) := zo_42 (z_byk bcX10_fault_0 0 9 _ bcX10_fault_0_ok rfl)
def bcX10_in_0 : List Nat := [30, 32, 148, 155, 0, 14, 30, 22, 4, 148, 157, 0, 7, 4, 167, 0, 4, 3, 172]
theorem bcX10_in_0_ok : z_bys cX10_in 0 bcX10_in_0 = true := by decide +kernel
theorem dX10_in_0 : decode cX10_in 0 = .ok (.lload_n 0, 1) := zo_30 (z_byk bcX10_in_0 0 0 _ bcX10_in_0_ok rfl)
theorem dX10_in_1 : decode cX10_in 1 = .ok (.lload_n 2, 1) := zo_32 (z_byk bcX10_in_0 0 1 _ bcX10_in_0_ok rfl)
theorem dX10_in_10 : decode cX10_in 10 = .ok (.ifCond .gt 7, 3) := zo_157 (z_byk bcX10_in_0 0 10 _ bcX10_in_0_ok rfl) (z_byk bcX10_in_0 0 11 _ bcX10_in_0_ok rfl) (z_byk bcX10_in_0 0 12 _ bcX10_in_0_ok rfl) rfl
theorem dX10_in_13 : decode cX10_in 13 = .ok (.iconst 1, 1) := zo_4 (z_byk bcX10_in_0 0 13 _ bcX10_in_0_ok rfl)
theorem dX10_in_14 : decode cX10_in 14 = .ok (.goto 4, 3) := zo_167 (z_byk bcX10_in_0 0 14 _ bcX10_in_0_ok rfl) (z_byk bcX10_in_0 0 15 _ bcX10_in_0_ok rfl) (z_byk bcX10_in_0 0 16 _ bcX10_in_0_ok rfl) rfl
theorem dX10_in_17 : decode cX10_in 17 = .ok (.iconst 0, 1) := zo_3 (z_byk bcX10_in_0 0 17 _ bcX10_in_0_ok rfl)
theorem dX10_in_18 : decode cX10_in 18 = .ok (.ireturn, 1) := zo_172 (z_byk bcX10_in_0 0 18 _ bcX10_in_0_ok rfl)
theorem dX10_in_2 : decode cX10_in 2 = .ok (.lcmp, 1) := zo_148 (z_byk bcX10_in_0 0 2 _ bcX10_in_0_ok rfl)
theorem dX10_in_3 : decode cX10_in 3 = .ok (.ifCond .lt 14, 3) := zo_155 (z_byk bcX10_in_0 0 3 _ bcX10_in_0_ok rfl) (z_byk bcX10_in_0 0 4 _ bcX10_in_0_ok rfl) (z_byk bcX10_in_0 0 5 _ bcX10_in_0_ok rfl) rfl
theorem dX10_in_6 : decode cX10_in 6 = .ok (.lload_n 0, 1) := zo_30 (z_byk bcX10_in_0 0 6 _ bcX10_in_0_ok rfl)
theorem dX10_in_7 : decode cX10_in 7 = .ok (.lload 4, 2) := zo_22 (z_byk bcX10_in_0 0 7 _ bcX10_in_0_ok rfl) (z_byk bcX10_in_0 0 8 _ bcX10_in_0_ok rfl)
theorem dX10_in_9 : decode cX10_in 9 = .ok (.lcmp, 1) := zo_148 (z_byk bcX10_in_0 0 9 _ bcX10_in_0_ok rfl)
def bcX10_isAsked_0 : List Nat := [42, 27, 182, 1, 46, 153, 0, 23, 42, 28, 182, 1, 43, 153, 0, 15, 42, 29, 182, 1, 46, 153, 0, 7, 4, 167, 0, 4, 3, 172]
theorem bcX10_isAsked_0_ok : z_bys cX10_isAsked 0 bcX10_isAsked_0 = true := by decide +kernel
theorem dX10_isAsked_0 : decode cX10_isAsked 0 = .ok (.aload_n 0, 1) := zo_42 (z_byk bcX10_isAsked_0 0 0 _ bcX10_isAsked_0_ok rfl)
theorem dX10_isAsked_1 : decode cX10_isAsked 1 = .ok (.iload_n 1, 1) := zo_27 (z_byk bcX10_isAsked_0 0 1 _ bcX10_isAsked_0_ok rfl)
theorem dX10_isAsked_10 : decode cX10_isAsked 10 = .ok (.invokevirtual 299, 3) := zo_182 (z_byk bcX10_isAsked_0 0 10 _ bcX10_isAsked_0_ok rfl) (z_byk bcX10_isAsked_0 0 11 _ bcX10_isAsked_0_ok rfl) (z_byk bcX10_isAsked_0 0 12 _ bcX10_isAsked_0_ok rfl) rfl
theorem dX10_isAsked_13 : decode cX10_isAsked 13 = .ok (.ifCond .eq 15, 3) := zo_153 (z_byk bcX10_isAsked_0 0 13 _ bcX10_isAsked_0_ok rfl) (z_byk bcX10_isAsked_0 0 14 _ bcX10_isAsked_0_ok rfl) (z_byk bcX10_isAsked_0 0 15 _ bcX10_isAsked_0_ok rfl) rfl
theorem dX10_isAsked_16 : decode cX10_isAsked 16 = .ok (.aload_n 0, 1) := zo_42 (z_byk bcX10_isAsked_0 0 16 _ bcX10_isAsked_0_ok rfl)
theorem dX10_isAsked_17 : decode cX10_isAsked 17 = .ok (.iload_n 3, 1) := zo_29 (z_byk bcX10_isAsked_0 0 17 _ bcX10_isAsked_0_ok rfl)
theorem dX10_isAsked_18 : decode cX10_isAsked 18 = .ok (.invokevirtual 302, 3) := zo_182 (z_byk bcX10_isAsked_0 0 18 _ bcX10_isAsked_0_ok rfl) (z_byk bcX10_isAsked_0 0 19 _ bcX10_isAsked_0_ok rfl) (z_byk bcX10_isAsked_0 0 20 _ bcX10_isAsked_0_ok rfl) rfl
theorem dX10_isAsked_2 : decode cX10_isAsked 2 = .ok (.invokevirtual 302, 3) := zo_182 (z_byk bcX10_isAsked_0 0 2 _ bcX10_isAsked_0_ok rfl) (z_byk bcX10_isAsked_0 0 3 _ bcX10_isAsked_0_ok rfl) (z_byk bcX10_isAsked_0 0 4 _ bcX10_isAsked_0_ok rfl) rfl
theorem dX10_isAsked_21 : decode cX10_isAsked 21 = .ok (.ifCond .eq 7, 3) := zo_153 (z_byk bcX10_isAsked_0 0 21 _ bcX10_isAsked_0_ok rfl) (z_byk bcX10_isAsked_0 0 22 _ bcX10_isAsked_0_ok rfl) (z_byk bcX10_isAsked_0 0 23 _ bcX10_isAsked_0_ok rfl) rfl
theorem dX10_isAsked_24 : decode cX10_isAsked 24 = .ok (.iconst 1, 1) := zo_4 (z_byk bcX10_isAsked_0 0 24 _ bcX10_isAsked_0_ok rfl)
theorem dX10_isAsked_25 : decode cX10_isAsked 25 = .ok (.goto 4, 3) := zo_167 (z_byk bcX10_isAsked_0 0 25 _ bcX10_isAsked_0_ok rfl) (z_byk bcX10_isAsked_0 0 26 _ bcX10_isAsked_0_ok rfl) (z_byk bcX10_isAsked_0 0 27 _ bcX10_isAsked_0_ok rfl) rfl
theorem dX10_isAsked_28 : decode cX10_isAsked 28 = .ok (.iconst 0, 1) := zo_3 (z_byk bcX10_isAsked_0 0 28 _ bcX10_isAsked_0_ok rfl)
theorem dX10_isAsked_29 : decode cX10_isAsked 29 = .ok (.ireturn, 1) := zo_172 (z_byk bcX10_isAsked_0 0 29 _ bcX10_isAsked_0_ok rfl)
theorem dX10_isAsked_5 : decode cX10_isAsked 5 = .ok (.ifCond .eq 23, 3) := zo_153 (z_byk bcX10_isAsked_0 0 5 _ bcX10_isAsked_0_ok rfl) (z_byk bcX10_isAsked_0 0 6 _ bcX10_isAsked_0_ok rfl) (z_byk bcX10_isAsked_0 0 7 _ bcX10_isAsked_0_ok rfl) rfl
theorem dX10_isAsked_8 : decode cX10_isAsked 8 = .ok (.aload_n 0, 1) := zo_42 (z_byk bcX10_isAsked_0 0 8 _ bcX10_isAsked_0_ok rfl)
theorem dX10_isAsked_9 : decode cX10_isAsked 9 = .ok (.iload_n 2, 1) := zo_28 (z_byk bcX10_isAsked_0 0 9 _ bcX10_isAsked_0_ok rfl)
def bcX10_isCourt_0 : List Nat := [27, 133, 9, 42, 180, 0, 37, 3, 46, 4, 100, 133, 184, 0, 119, 172]
theorem bcX10_isCourt_0_ok : z_bys cX10_isCourt 0 bcX10_isCourt_0 = true := by decide +kernel
theorem dX10_isCourt_0 : decode cX10_isCourt 0 = .ok (.iload_n 1, 1) := zo_27 (z_byk bcX10_isCourt_0 0 0 _ bcX10_isCourt_0_ok rfl)
theorem dX10_isCourt_1 : decode cX10_isCourt 1 = .ok (.i2l, 1) := zo_133 (z_byk bcX10_isCourt_0 0 1 _ bcX10_isCourt_0_ok rfl)
theorem dX10_isCourt_10 : decode cX10_isCourt 10 = .ok (.isub, 1) := zo_100 (z_byk bcX10_isCourt_0 0 10 _ bcX10_isCourt_0_ok rfl)
theorem dX10_isCourt_11 : decode cX10_isCourt 11 = .ok (.i2l, 1) := zo_133 (z_byk bcX10_isCourt_0 0 11 _ bcX10_isCourt_0_ok rfl)
theorem dX10_isCourt_12 : decode cX10_isCourt 12 = .ok (.invokestatic 119, 3) := zo_184 (z_byk bcX10_isCourt_0 0 12 _ bcX10_isCourt_0_ok rfl) (z_byk bcX10_isCourt_0 0 13 _ bcX10_isCourt_0_ok rfl) (z_byk bcX10_isCourt_0 0 14 _ bcX10_isCourt_0_ok rfl) rfl
theorem dX10_isCourt_15 : decode cX10_isCourt 15 = .ok (.ireturn, 1) := zo_172 (z_byk bcX10_isCourt_0 0 15 _ bcX10_isCourt_0_ok rfl)
theorem dX10_isCourt_2 : decode cX10_isCourt 2 = .ok (.lconst 0, 1) := zo_9 (z_byk bcX10_isCourt_0 0 2 _ bcX10_isCourt_0_ok rfl)
theorem dX10_isCourt_3 : decode cX10_isCourt 3 = .ok (.aload_n 0, 1) := zo_42 (z_byk bcX10_isCourt_0 0 3 _ bcX10_isCourt_0_ok rfl)
theorem dX10_isCourt_4 : decode cX10_isCourt 4 = .ok (.getfield 37, 3) := zo_180 (z_byk bcX10_isCourt_0 0 4 _ bcX10_isCourt_0_ok rfl) (z_byk bcX10_isCourt_0 0 5 _ bcX10_isCourt_0_ok rfl) (z_byk bcX10_isCourt_0 0 6 _ bcX10_isCourt_0_ok rfl) rfl
theorem dX10_isCourt_7 : decode cX10_isCourt 7 = .ok (.iconst 0, 1) := zo_3 (z_byk bcX10_isCourt_0 0 7 _ bcX10_isCourt_0_ok rfl)
theorem dX10_isCourt_8 : decode cX10_isCourt 8 = .ok (.iaload, 1) := zo_46 (z_byk bcX10_isCourt_0 0 8 _ bcX10_isCourt_0_ok rfl)
theorem dX10_isCourt_9 : decode cX10_isCourt 9 = .ok (.iconst 1, 1) := zo_4 (z_byk bcX10_isCourt_0 0 9 _ bcX10_isCourt_0_ok rfl)
def bcX10_isEnd_0 : List Nat := [27, 133, 9, 42, 180, 0, 34, 3, 46, 133, 184, 0, 119, 153, 0, 16, 42, 180, 0, 34, 3, 46, 158, 0, 7, 4, 167, 0, 4, 3, 172]
theorem bcX10_isEnd_0_ok : z_bys cX10_isEnd 0 bcX10_isEnd_0 = true := by decide +kernel
theorem dX10_isEnd_0 : decode cX10_isEnd 0 = .ok (.iload_n 1, 1) := zo_27 (z_byk bcX10_isEnd_0 0 0 _ bcX10_isEnd_0_ok rfl)
theorem dX10_isEnd_1 : decode cX10_isEnd 1 = .ok (.i2l, 1) := zo_133 (z_byk bcX10_isEnd_0 0 1 _ bcX10_isEnd_0_ok rfl)
theorem dX10_isEnd_10 : decode cX10_isEnd 10 = .ok (.invokestatic 119, 3) := zo_184 (z_byk bcX10_isEnd_0 0 10 _ bcX10_isEnd_0_ok rfl) (z_byk bcX10_isEnd_0 0 11 _ bcX10_isEnd_0_ok rfl) (z_byk bcX10_isEnd_0 0 12 _ bcX10_isEnd_0_ok rfl) rfl
theorem dX10_isEnd_13 : decode cX10_isEnd 13 = .ok (.ifCond .eq 16, 3) := zo_153 (z_byk bcX10_isEnd_0 0 13 _ bcX10_isEnd_0_ok rfl) (z_byk bcX10_isEnd_0 0 14 _ bcX10_isEnd_0_ok rfl) (z_byk bcX10_isEnd_0 0 15 _ bcX10_isEnd_0_ok rfl) rfl
theorem dX10_isEnd_16 : decode cX10_isEnd 16 = .ok (.aload_n 0, 1) := zo_42 (z_byk bcX10_isEnd_0 0 16 _ bcX10_isEnd_0_ok rfl)
theorem dX10_isEnd_17 : decode cX10_isEnd 17 = .ok (.getfield 34, 3) := zo_180 (z_byk bcX10_isEnd_0 0 17 _ bcX10_isEnd_0_ok rfl) (z_byk bcX10_isEnd_0 0 18 _ bcX10_isEnd_0_ok rfl) (z_byk bcX10_isEnd_0 0 19 _ bcX10_isEnd_0_ok rfl) rfl
theorem dX10_isEnd_2 : decode cX10_isEnd 2 = .ok (.lconst 0, 1) := zo_9 (z_byk bcX10_isEnd_0 0 2 _ bcX10_isEnd_0_ok rfl)
theorem dX10_isEnd_20 : decode cX10_isEnd 20 = .ok (.iconst 0, 1) := zo_3 (z_byk bcX10_isEnd_0 0 20 _ bcX10_isEnd_0_ok rfl)
theorem dX10_isEnd_21 : decode cX10_isEnd 21 = .ok (.iaload, 1) := zo_46 (z_byk bcX10_isEnd_0 0 21 _ bcX10_isEnd_0_ok rfl)
theorem dX10_isEnd_22 : decode cX10_isEnd 22 = .ok (.ifCond .le 7, 3) := zo_158 (z_byk bcX10_isEnd_0 0 22 _ bcX10_isEnd_0_ok rfl) (z_byk bcX10_isEnd_0 0 23 _ bcX10_isEnd_0_ok rfl) (z_byk bcX10_isEnd_0 0 24 _ bcX10_isEnd_0_ok rfl) rfl
theorem dX10_isEnd_25 : decode cX10_isEnd 25 = .ok (.iconst 1, 1) := zo_4 (z_byk bcX10_isEnd_0 0 25 _ bcX10_isEnd_0_ok rfl)
theorem dX10_isEnd_26 : decode cX10_isEnd 26 = .ok (.goto 4, 3) := zo_167 (z_byk bcX10_isEnd_0 0 26 _ bcX10_isEnd_0_ok rfl) (z_byk bcX10_isEnd_0 0 27 _ bcX10_isEnd_0_ok rfl) (z_byk bcX10_isEnd_0 0 28 _ bcX10_isEnd_0_ok rfl) rfl
theorem dX10_isEnd_29 : decode cX10_isEnd 29 = .ok (.iconst 0, 1) := zo_3 (z_byk bcX10_isEnd_0 0 29 _ bcX10_isEnd_0_ok rfl)
theorem dX10_isEnd_3 : decode cX10_isEnd 3 = .ok (.aload_n 0, 1) := zo_42 (z_byk bcX10_isEnd_0 0 3 _ bcX10_isEnd_0_ok rfl)
theorem dX10_isEnd_30 : decode cX10_isEnd 30 = .ok (.ireturn, 1) := zo_172 (z_byk bcX10_isEnd_0 0 30 _ bcX10_isEnd_0_ok rfl)
theorem dX10_isEnd_4 : decode cX10_isEnd 4 = .ok (.getfield 34, 3) := zo_180 (z_byk bcX10_isEnd_0 0 4 _ bcX10_isEnd_0_ok rfl) (z_byk bcX10_isEnd_0 0 5 _ bcX10_isEnd_0_ok rfl) (z_byk bcX10_isEnd_0 0 6 _ bcX10_isEnd_0_ok rfl) rfl
theorem dX10_isEnd_7 : decode cX10_isEnd 7 = .ok (.iconst 0, 1) := zo_3 (z_byk bcX10_isEnd_0 0 7 _ bcX10_isEnd_0_ok rfl)
theorem dX10_isEnd_8 : decode cX10_isEnd 8 = .ok (.iaload, 1) := zo_46 (z_byk bcX10_isEnd_0 0 8 _ bcX10_isEnd_0_ok rfl)
theorem dX10_isEnd_9 : decode cX10_isEnd 9 = .ok (.i2l, 1) := zo_133 (z_byk bcX10_isEnd_0 0 9 _ bcX10_isEnd_0_ok rfl)
def bcX10_isGate_0 : List Nat := [27, 133, 9, 42, 180, 0, 43, 3, 46, 4, 100, 133, 184, 0, 119, 172]
theorem bcX10_isGate_0_ok : z_bys cX10_isGate 0 bcX10_isGate_0 = true := by decide +kernel
theorem dX10_isGate_0 : decode cX10_isGate 0 = .ok (.iload_n 1, 1) := zo_27 (z_byk bcX10_isGate_0 0 0 _ bcX10_isGate_0_ok rfl)
theorem dX10_isGate_1 : decode cX10_isGate 1 = .ok (.i2l, 1) := zo_133 (z_byk bcX10_isGate_0 0 1 _ bcX10_isGate_0_ok rfl)
theorem dX10_isGate_10 : decode cX10_isGate 10 = .ok (.isub, 1) := zo_100 (z_byk bcX10_isGate_0 0 10 _ bcX10_isGate_0_ok rfl)
theorem dX10_isGate_11 : decode cX10_isGate 11 = .ok (.i2l, 1) := zo_133 (z_byk bcX10_isGate_0 0 11 _ bcX10_isGate_0_ok rfl)
theorem dX10_isGate_12 : decode cX10_isGate 12 = .ok (.invokestatic 119, 3) := zo_184 (z_byk bcX10_isGate_0 0 12 _ bcX10_isGate_0_ok rfl) (z_byk bcX10_isGate_0 0 13 _ bcX10_isGate_0_ok rfl) (z_byk bcX10_isGate_0 0 14 _ bcX10_isGate_0_ok rfl) rfl
theorem dX10_isGate_15 : decode cX10_isGate 15 = .ok (.ireturn, 1) := zo_172 (z_byk bcX10_isGate_0 0 15 _ bcX10_isGate_0_ok rfl)
theorem dX10_isGate_2 : decode cX10_isGate 2 = .ok (.lconst 0, 1) := zo_9 (z_byk bcX10_isGate_0 0 2 _ bcX10_isGate_0_ok rfl)
theorem dX10_isGate_3 : decode cX10_isGate 3 = .ok (.aload_n 0, 1) := zo_42 (z_byk bcX10_isGate_0 0 3 _ bcX10_isGate_0_ok rfl)
theorem dX10_isGate_4 : decode cX10_isGate 4 = .ok (.getfield 43, 3) := zo_180 (z_byk bcX10_isGate_0 0 4 _ bcX10_isGate_0_ok rfl) (z_byk bcX10_isGate_0 0 5 _ bcX10_isGate_0_ok rfl) (z_byk bcX10_isGate_0 0 6 _ bcX10_isGate_0_ok rfl) rfl
theorem dX10_isGate_7 : decode cX10_isGate 7 = .ok (.iconst 0, 1) := zo_3 (z_byk bcX10_isGate_0 0 7 _ bcX10_isGate_0_ok rfl)
theorem dX10_isGate_8 : decode cX10_isGate 8 = .ok (.iaload, 1) := zo_46 (z_byk bcX10_isGate_0 0 8 _ bcX10_isGate_0_ok rfl)
theorem dX10_isGate_9 : decode cX10_isGate 9 = .ok (.iconst 1, 1) := zo_4 (z_byk bcX10_isGate_0 0 9 _ bcX10_isGate_0_ok rfl)
def bcX10_isGood_0 : List Nat := [42, 180, 0, 165, 154, 0, 7, 4, 167, 0, 4, 3, 172]
theorem bcX10_isGood_0_ok : z_bys cX10_isGood 0 bcX10_isGood_0 = true := by decide +kernel
theorem dX10_isGood_0 : decode cX10_isGood 0 = .ok (.aload_n 0, 1) := zo_42 (z_byk bcX10_isGood_0 0 0 _ bcX10_isGood_0_ok rfl)
theorem dX10_isGood_1 : decode cX10_isGood 1 = .ok (.getfield 165, 3) := zo_180 (z_byk bcX10_isGood_0 0 1 _ bcX10_isGood_0_ok rfl) (z_byk bcX10_isGood_0 0 2 _ bcX10_isGood_0_ok rfl) (z_byk bcX10_isGood_0 0 3 _ bcX10_isGood_0_ok rfl) rfl
theorem dX10_isGood_11 : decode cX10_isGood 11 = .ok (.iconst 0, 1) := zo_3 (z_byk bcX10_isGood_0 0 11 _ bcX10_isGood_0_ok rfl)
theorem dX10_isGood_12 : decode cX10_isGood 12 = .ok (.ireturn, 1) := zo_172 (z_byk bcX10_isGood_0 0 12 _ bcX10_isGood_0_ok rfl)
theorem dX10_isGood_4 : decode cX10_isGood 4 = .ok (.ifCond .ne 7, 3) := zo_154 (z_byk bcX10_isGood_0 0 4 _ bcX10_isGood_0_ok rfl) (z_byk bcX10_isGood_0 0 5 _ bcX10_isGood_0_ok rfl) (z_byk bcX10_isGood_0 0 6 _ bcX10_isGood_0_ok rfl) rfl
theorem dX10_isGood_7 : decode cX10_isGood 7 = .ok (.iconst 1, 1) := zo_4 (z_byk bcX10_isGood_0 0 7 _ bcX10_isGood_0_ok rfl)
theorem dX10_isGood_8 : decode cX10_isGood 8 = .ok (.goto 4, 3) := zo_167 (z_byk bcX10_isGood_0 0 8 _ bcX10_isGood_0_ok rfl) (z_byk bcX10_isGood_0 0 9 _ bcX10_isGood_0_ok rfl) (z_byk bcX10_isGood_0 0 10 _ bcX10_isGood_0_ok rfl) rfl
def bcX10_isHour_0 : List Nat := [27, 133, 9, 42, 180, 0, 34, 3, 46, 4, 100, 133, 184, 0, 119, 172]
theorem bcX10_isHour_0_ok : z_bys cX10_isHour 0 bcX10_isHour_0 = true := by decide +kernel
theorem dX10_isHour_0 : decode cX10_isHour 0 = .ok (.iload_n 1, 1) := zo_27 (z_byk bcX10_isHour_0 0 0 _ bcX10_isHour_0_ok rfl)
theorem dX10_isHour_1 : decode cX10_isHour 1 = .ok (.i2l, 1) := zo_133 (z_byk bcX10_isHour_0 0 1 _ bcX10_isHour_0_ok rfl)
theorem dX10_isHour_10 : decode cX10_isHour 10 = .ok (.isub, 1) := zo_100 (z_byk bcX10_isHour_0 0 10 _ bcX10_isHour_0_ok rfl)
theorem dX10_isHour_11 : decode cX10_isHour 11 = .ok (.i2l, 1) := zo_133 (z_byk bcX10_isHour_0 0 11 _ bcX10_isHour_0_ok rfl)
theorem dX10_isHour_12 : decode cX10_isHour 12 = .ok (.invokestatic 119, 3) := zo_184 (z_byk bcX10_isHour_0 0 12 _ bcX10_isHour_0_ok rfl) (z_byk bcX10_isHour_0 0 13 _ bcX10_isHour_0_ok rfl) (z_byk bcX10_isHour_0 0 14 _ bcX10_isHour_0_ok rfl) rfl
theorem dX10_isHour_15 : decode cX10_isHour 15 = .ok (.ireturn, 1) := zo_172 (z_byk bcX10_isHour_0 0 15 _ bcX10_isHour_0_ok rfl)
theorem dX10_isHour_2 : decode cX10_isHour 2 = .ok (.lconst 0, 1) := zo_9 (z_byk bcX10_isHour_0 0 2 _ bcX10_isHour_0_ok rfl)
theorem dX10_isHour_3 : decode cX10_isHour 3 = .ok (.aload_n 0, 1) := zo_42 (z_byk bcX10_isHour_0 0 3 _ bcX10_isHour_0_ok rfl)
theorem dX10_isHour_4 : decode cX10_isHour 4 = .ok (.getfield 34, 3) := zo_180 (z_byk bcX10_isHour_0 0 4 _ bcX10_isHour_0_ok rfl) (z_byk bcX10_isHour_0 0 5 _ bcX10_isHour_0_ok rfl) (z_byk bcX10_isHour_0 0 6 _ bcX10_isHour_0_ok rfl) rfl
theorem dX10_isHour_7 : decode cX10_isHour 7 = .ok (.iconst 0, 1) := zo_3 (z_byk bcX10_isHour_0 0 7 _ bcX10_isHour_0_ok rfl)
theorem dX10_isHour_8 : decode cX10_isHour 8 = .ok (.iaload, 1) := zo_46 (z_byk bcX10_isHour_0 0 8 _ bcX10_isHour_0_ok rfl)
theorem dX10_isHour_9 : decode cX10_isHour 9 = .ok (.iconst 1, 1) := zo_4 (z_byk bcX10_isHour_0 0 9 _ bcX10_isHour_0_ok rfl)
def bcX10_isIn_0 : List Nat := [42, 180, 0, 40, 27, 46, 62, 29, 2, 159, 0, 18, 29, 28, 159, 0, 13, 42, 180, 0, 40, 29, 46, 62, 167, 255, 239, 29, 28, 160, 0, 7, 4, 167, 0, 4, 3, 172]
theorem bcX10_isIn_0_ok : z_bys cX10_isIn 0 bcX10_isIn_0 = true := by decide +kernel
theorem dX10_isIn_0 : decode cX10_isIn 0 = .ok (.aload_n 0, 1) := zo_42 (z_byk bcX10_isIn_0 0 0 _ bcX10_isIn_0_ok rfl)
theorem dX10_isIn_1 : decode cX10_isIn 1 = .ok (.getfield 40, 3) := zo_180 (z_byk bcX10_isIn_0 0 1 _ bcX10_isIn_0_ok rfl) (z_byk bcX10_isIn_0 0 2 _ bcX10_isIn_0_ok rfl) (z_byk bcX10_isIn_0 0 3 _ bcX10_isIn_0_ok rfl) rfl
theorem dX10_isIn_12 : decode cX10_isIn 12 = .ok (.iload_n 3, 1) := zo_29 (z_byk bcX10_isIn_0 0 12 _ bcX10_isIn_0_ok rfl)
theorem dX10_isIn_13 : decode cX10_isIn 13 = .ok (.iload_n 2, 1) := zo_28 (z_byk bcX10_isIn_0 0 13 _ bcX10_isIn_0_ok rfl)
theorem dX10_isIn_14 : decode cX10_isIn 14 = .ok (.if_icmp .eq 13, 3) := zo_159 (z_byk bcX10_isIn_0 0 14 _ bcX10_isIn_0_ok rfl) (z_byk bcX10_isIn_0 0 15 _ bcX10_isIn_0_ok rfl) (z_byk bcX10_isIn_0 0 16 _ bcX10_isIn_0_ok rfl) rfl
theorem dX10_isIn_17 : decode cX10_isIn 17 = .ok (.aload_n 0, 1) := zo_42 (z_byk bcX10_isIn_0 0 17 _ bcX10_isIn_0_ok rfl)
theorem dX10_isIn_18 : decode cX10_isIn 18 = .ok (.getfield 40, 3) := zo_180 (z_byk bcX10_isIn_0 0 18 _ bcX10_isIn_0_ok rfl) (z_byk bcX10_isIn_0 0 19 _ bcX10_isIn_0_ok rfl) (z_byk bcX10_isIn_0 0 20 _ bcX10_isIn_0_ok rfl) rfl
theorem dX10_isIn_21 : decode cX10_isIn 21 = .ok (.iload_n 3, 1) := zo_29 (z_byk bcX10_isIn_0 0 21 _ bcX10_isIn_0_ok rfl)
theorem dX10_isIn_22 : decode cX10_isIn 22 = .ok (.iaload, 1) := zo_46 (z_byk bcX10_isIn_0 0 22 _ bcX10_isIn_0_ok rfl)
theorem dX10_isIn_23 : decode cX10_isIn 23 = .ok (.istore_n 3, 1) := zo_62 (z_byk bcX10_isIn_0 0 23 _ bcX10_isIn_0_ok rfl)
theorem dX10_isIn_24 : decode cX10_isIn 24 = .ok (.goto (-17), 3) := zo_167 (z_byk bcX10_isIn_0 0 24 _ bcX10_isIn_0_ok rfl) (z_byk bcX10_isIn_0 0 25 _ bcX10_isIn_0_ok rfl) (z_byk bcX10_isIn_0 0 26 _ bcX10_isIn_0_ok rfl) rfl
theorem dX10_isIn_27 : decode cX10_isIn 27 = .ok (.iload_n 3, 1) := zo_29 (z_byk bcX10_isIn_0 0 27 _ bcX10_isIn_0_ok rfl)
theorem dX10_isIn_28 : decode cX10_isIn 28 = .ok (.iload_n 2, 1) := zo_28 (z_byk bcX10_isIn_0 0 28 _ bcX10_isIn_0_ok rfl)
theorem dX10_isIn_29 : decode cX10_isIn 29 = .ok (.if_icmp .ne 7, 3) := zo_160 (z_byk bcX10_isIn_0 0 29 _ bcX10_isIn_0_ok rfl) (z_byk bcX10_isIn_0 0 30 _ bcX10_isIn_0_ok rfl) (z_byk bcX10_isIn_0 0 31 _ bcX10_isIn_0_ok rfl) rfl
theorem dX10_isIn_32 : decode cX10_isIn 32 = .ok (.iconst 1, 1) := zo_4 (z_byk bcX10_isIn_0 0 32 _ bcX10_isIn_0_ok rfl)
theorem dX10_isIn_33 : decode cX10_isIn 33 = .ok (.goto 4, 3) := zo_167 (z_byk bcX10_isIn_0 0 33 _ bcX10_isIn_0_ok rfl) (z_byk bcX10_isIn_0 0 34 _ bcX10_isIn_0_ok rfl) (z_byk bcX10_isIn_0 0 35 _ bcX10_isIn_0_ok rfl) rfl
theorem dX10_isIn_36 : decode cX10_isIn 36 = .ok (.iconst 0, 1) := zo_3 (z_byk bcX10_isIn_0 0 36 _ bcX10_isIn_0_ok rfl)
theorem dX10_isIn_37 : decode cX10_isIn 37 = .ok (.ireturn, 1) := zo_172 (z_byk bcX10_isIn_0 0 37 _ bcX10_isIn_0_ok rfl)
theorem dX10_isIn_4 : decode cX10_isIn 4 = .ok (.iload_n 1, 1) := zo_27 (z_byk bcX10_isIn_0 0 4 _ bcX10_isIn_0_ok rfl)
theorem dX10_isIn_5 : decode cX10_isIn 5 = .ok (.iaload, 1) := zo_46 (z_byk bcX10_isIn_0 0 5 _ bcX10_isIn_0_ok rfl)
theorem dX10_isIn_6 : decode cX10_isIn 6 = .ok (.istore_n 3, 1) := zo_62 (z_byk bcX10_isIn_0 0 6 _ bcX10_isIn_0_ok rfl)
theorem dX10_isIn_7 : decode cX10_isIn 7 = .ok (.iload_n 3, 1) := zo_29 (z_byk bcX10_isIn_0 0 7 _ bcX10_isIn_0_ok rfl)
theorem dX10_isIn_8 : decode cX10_isIn 8 = .ok (.iconst (-1), 1) := zo_2 (z_byk bcX10_isIn_0 0 8 _ bcX10_isIn_0_ok rfl)
theorem dX10_isIn_9 : decode cX10_isIn 9 = .ok (.if_icmp .eq 18, 3) := zo_159 (z_byk bcX10_isIn_0 0 9 _ bcX10_isIn_0_ok rfl) (z_byk bcX10_isIn_0 0 10 _ bcX10_isIn_0_ok rfl) (z_byk bcX10_isIn_0 0 11 _ bcX10_isIn_0_ok rfl) rfl
def bcX10_isOdds_0 : List Nat := [42, 27, 28, 29, 182, 1, 73, 153, 0, 25, 21, 4, 133, 28, 133, 42, 180, 0, 34, 3, 46, 133, 184, 0, 119, 153, 0, 7, 4, 167, 0, 4, 3, 172]
theorem bcX10_isOdds_0_ok : z_bys cX10_isOdds 0 bcX10_isOdds_0 = true := by decide +kernel
theorem dX10_isOdds_0 : decode cX10_isOdds 0 = .ok (.aload_n 0, 1) := zo_42 (z_byk bcX10_isOdds_0 0 0 _ bcX10_isOdds_0_ok rfl)
theorem dX10_isOdds_1 : decode cX10_isOdds 1 = .ok (.iload_n 1, 1) := zo_27 (z_byk bcX10_isOdds_0 0 1 _ bcX10_isOdds_0_ok rfl)
theorem dX10_isOdds_10 : decode cX10_isOdds 10 = .ok (.iload 4, 2) := zo_21 (z_byk bcX10_isOdds_0 0 10 _ bcX10_isOdds_0_ok rfl) (z_byk bcX10_isOdds_0 0 11 _ bcX10_isOdds_0_ok rfl)
theorem dX10_isOdds_12 : decode cX10_isOdds 12 = .ok (.i2l, 1) := zo_133 (z_byk bcX10_isOdds_0 0 12 _ bcX10_isOdds_0_ok rfl)
theorem dX10_isOdds_13 : decode cX10_isOdds 13 = .ok (.iload_n 2, 1) := zo_28 (z_byk bcX10_isOdds_0 0 13 _ bcX10_isOdds_0_ok rfl)
theorem dX10_isOdds_14 : decode cX10_isOdds 14 = .ok (.i2l, 1) := zo_133 (z_byk bcX10_isOdds_0 0 14 _ bcX10_isOdds_0_ok rfl)
theorem dX10_isOdds_15 : decode cX10_isOdds 15 = .ok (.aload_n 0, 1) := zo_42 (z_byk bcX10_isOdds_0 0 15 _ bcX10_isOdds_0_ok rfl)
theorem dX10_isOdds_16 : decode cX10_isOdds 16 = .ok (.getfield 34, 3) := zo_180 (z_byk bcX10_isOdds_0 0 16 _ bcX10_isOdds_0_ok rfl) (z_byk bcX10_isOdds_0 0 17 _ bcX10_isOdds_0_ok rfl) (z_byk bcX10_isOdds_0 0 18 _ bcX10_isOdds_0_ok rfl) rfl
theorem dX10_isOdds_19 : decode cX10_isOdds 19 = .ok (.iconst 0, 1) := zo_3 (z_byk bcX10_isOdds_0 0 19 _ bcX10_isOdds_0_ok rfl)
theorem dX10_isOdds_2 : decode cX10_isOdds 2 = .ok (.iload_n 2, 1) := zo_28 (z_byk bcX10_isOdds_0 0 2 _ bcX10_isOdds_0_ok rfl)
theorem dX10_isOdds_20 : decode cX10_isOdds 20 = .ok (.iaload, 1) := zo_46 (z_byk bcX10_isOdds_0 0 20 _ bcX10_isOdds_0_ok rfl)
theorem dX10_isOdds_21 : decode cX10_isOdds 21 = .ok (.i2l, 1) := zo_133 (z_byk bcX10_isOdds_0 0 21 _ bcX10_isOdds_0_ok rfl)
theorem dX10_isOdds_22 : decode cX10_isOdds 22 = .ok (.invokestatic 119, 3) := zo_184 (z_byk bcX10_isOdds_0 0 22 _ bcX10_isOdds_0_ok rfl) (z_byk bcX10_isOdds_0 0 23 _ bcX10_isOdds_0_ok rfl) (z_byk bcX10_isOdds_0 0 24 _ bcX10_isOdds_0_ok rfl) rfl
theorem dX10_isOdds_25 : decode cX10_isOdds 25 = .ok (.ifCond .eq 7, 3) := zo_153 (z_byk bcX10_isOdds_0 0 25 _ bcX10_isOdds_0_ok rfl) (z_byk bcX10_isOdds_0 0 26 _ bcX10_isOdds_0_ok rfl) (z_byk bcX10_isOdds_0 0 27 _ bcX10_isOdds_0_ok rfl) rfl
theorem dX10_isOdds_28 : decode cX10_isOdds 28 = .ok (.iconst 1, 1) := zo_4 (z_byk bcX10_isOdds_0 0 28 _ bcX10_isOdds_0_ok rfl)
theorem dX10_isOdds_29 : decode cX10_isOdds 29 = .ok (.goto 4, 3) := zo_167 (z_byk bcX10_isOdds_0 0 29 _ bcX10_isOdds_0_ok rfl) (z_byk bcX10_isOdds_0 0 30 _ bcX10_isOdds_0_ok rfl) (z_byk bcX10_isOdds_0 0 31 _ bcX10_isOdds_0_ok rfl) rfl
theorem dX10_isOdds_3 : decode cX10_isOdds 3 = .ok (.iload_n 3, 1) := zo_29 (z_byk bcX10_isOdds_0 0 3 _ bcX10_isOdds_0_ok rfl)
theorem dX10_isOdds_32 : decode cX10_isOdds 32 = .ok (.iconst 0, 1) := zo_3 (z_byk bcX10_isOdds_0 0 32 _ bcX10_isOdds_0_ok rfl)
theorem dX10_isOdds_33 : decode cX10_isOdds 33 = .ok (.ireturn, 1) := zo_172 (z_byk bcX10_isOdds_0 0 33 _ bcX10_isOdds_0_ok rfl)
theorem dX10_isOdds_4 : decode cX10_isOdds 4 = .ok (.invokevirtual 329, 3) := zo_182 (z_byk bcX10_isOdds_0 0 4 _ bcX10_isOdds_0_ok rfl) (z_byk bcX10_isOdds_0 0 5 _ bcX10_isOdds_0_ok rfl) (z_byk bcX10_isOdds_0 0 6 _ bcX10_isOdds_0_ok rfl) rfl
theorem dX10_isOdds_7 : decode cX10_isOdds 7 = .ok (.ifCond .eq 25, 3) := zo_153 (z_byk bcX10_isOdds_0 0 7 _ bcX10_isOdds_0_ok rfl) (z_byk bcX10_isOdds_0 0 8 _ bcX10_isOdds_0_ok rfl) (z_byk bcX10_isOdds_0 0 9 _ bcX10_isOdds_0_ok rfl) rfl
def bcX10_isPeople_0 : List Nat := [27, 133, 9, 4, 42, 180, 0, 49, 3, 46, 120, 4, 100, 133, 184, 0, 119, 172]
theorem bcX10_isPeople_0_ok : z_bys cX10_isPeople 0 bcX10_isPeople_0 = true := by decide +kernel
theorem dX10_isPeople_0 : decode cX10_isPeople 0 = .ok (.iload_n 1, 1) := zo_27 (z_byk bcX10_isPeople_0 0 0 _ bcX10_isPeople_0_ok rfl)
theorem dX10_isPeople_1 : decode cX10_isPeople 1 = .ok (.i2l, 1) := zo_133 (z_byk bcX10_isPeople_0 0 1 _ bcX10_isPeople_0_ok rfl)
theorem dX10_isPeople_10 : decode cX10_isPeople 10 = .ok (.ishl, 1) := zo_120 (z_byk bcX10_isPeople_0 0 10 _ bcX10_isPeople_0_ok rfl)
theorem dX10_isPeople_11 : decode cX10_isPeople 11 = .ok (.iconst 1, 1) := zo_4 (z_byk bcX10_isPeople_0 0 11 _ bcX10_isPeople_0_ok rfl)
theorem dX10_isPeople_12 : decode cX10_isPeople 12 = .ok (.isub, 1) := zo_100 (z_byk bcX10_isPeople_0 0 12 _ bcX10_isPeople_0_ok rfl)
theorem dX10_isPeople_13 : decode cX10_isPeople 13 = .ok (.i2l, 1) := zo_133 (z_byk bcX10_isPeople_0 0 13 _ bcX10_isPeople_0_ok rfl)
theorem dX10_isPeople_14 : decode cX10_isPeople 14 = .ok (.invokestatic 119, 3) := zo_184 (z_byk bcX10_isPeople_0 0 14 _ bcX10_isPeople_0_ok rfl) (z_byk bcX10_isPeople_0 0 15 _ bcX10_isPeople_0_ok rfl) (z_byk bcX10_isPeople_0 0 16 _ bcX10_isPeople_0_ok rfl) rfl
theorem dX10_isPeople_17 : decode cX10_isPeople 17 = .ok (.ireturn, 1) := zo_172 (z_byk bcX10_isPeople_0 0 17 _ bcX10_isPeople_0_ok rfl)
theorem dX10_isPeople_2 : decode cX10_isPeople 2 = .ok (.lconst 0, 1) := zo_9 (z_byk bcX10_isPeople_0 0 2 _ bcX10_isPeople_0_ok rfl)
theorem dX10_isPeople_3 : decode cX10_isPeople 3 = .ok (.iconst 1, 1) := zo_4 (z_byk bcX10_isPeople_0 0 3 _ bcX10_isPeople_0_ok rfl)
theorem dX10_isPeople_4 : decode cX10_isPeople 4 = .ok (.aload_n 0, 1) := zo_42 (z_byk bcX10_isPeople_0 0 4 _ bcX10_isPeople_0_ok rfl)
theorem dX10_isPeople_5 : decode cX10_isPeople 5 = .ok (.getfield 49, 3) := zo_180 (z_byk bcX10_isPeople_0 0 5 _ bcX10_isPeople_0_ok rfl) (z_byk bcX10_isPeople_0 0 6 _ bcX10_isPeople_0_ok rfl) (z_byk bcX10_isPeople_0 0 7 _ bcX10_isPeople_0_ok rfl) rfl
theorem dX10_isPeople_8 : decode cX10_isPeople 8 = .ok (.iconst 0, 1) := zo_3 (z_byk bcX10_isPeople_0 0 8 _ bcX10_isPeople_0_ok rfl)
theorem dX10_isPeople_9 : decode cX10_isPeople 9 = .ok (.iaload, 1) := zo_46 (z_byk bcX10_isPeople_0 0 9 _ bcX10_isPeople_0_ok rfl)
def bcX10_isPerson_0 : List Nat := [27, 133, 9, 42, 180, 0, 49, 3, 46, 4, 100, 133, 184, 0, 119, 172]
theorem bcX10_isPerson_0_ok : z_bys cX10_isPerson 0 bcX10_isPerson_0 = true := by decide +kernel
theorem dX10_isPerson_0 : decode cX10_isPerson 0 = .ok (.iload_n 1, 1) := zo_27 (z_byk bcX10_isPerson_0 0 0 _ bcX10_isPerson_0_ok rfl)
theorem dX10_isPerson_1 : decode cX10_isPerson 1 = .ok (.i2l, 1) := zo_133 (z_byk bcX10_isPerson_0 0 1 _ bcX10_isPerson_0_ok rfl)
theorem dX10_isPerson_10 : decode cX10_isPerson 10 = .ok (.isub, 1) := zo_100 (z_byk bcX10_isPerson_0 0 10 _ bcX10_isPerson_0_ok rfl)
theorem dX10_isPerson_11 : decode cX10_isPerson 11 = .ok (.i2l, 1) := zo_133 (z_byk bcX10_isPerson_0 0 11 _ bcX10_isPerson_0_ok rfl)
theorem dX10_isPerson_12 : decode cX10_isPerson 12 = .ok (.invokestatic 119, 3) := zo_184 (z_byk bcX10_isPerson_0 0 12 _ bcX10_isPerson_0_ok rfl) (z_byk bcX10_isPerson_0 0 13 _ bcX10_isPerson_0_ok rfl) (z_byk bcX10_isPerson_0 0 14 _ bcX10_isPerson_0_ok rfl) rfl
theorem dX10_isPerson_15 : decode cX10_isPerson 15 = .ok (.ireturn, 1) := zo_172 (z_byk bcX10_isPerson_0 0 15 _ bcX10_isPerson_0_ok rfl)
theorem dX10_isPerson_2 : decode cX10_isPerson 2 = .ok (.lconst 0, 1) := zo_9 (z_byk bcX10_isPerson_0 0 2 _ bcX10_isPerson_0_ok rfl)
theorem dX10_isPerson_3 : decode cX10_isPerson 3 = .ok (.aload_n 0, 1) := zo_42 (z_byk bcX10_isPerson_0 0 3 _ bcX10_isPerson_0_ok rfl)
theorem dX10_isPerson_4 : decode cX10_isPerson 4 = .ok (.getfield 49, 3) := zo_180 (z_byk bcX10_isPerson_0 0 4 _ bcX10_isPerson_0_ok rfl) (z_byk bcX10_isPerson_0 0 5 _ bcX10_isPerson_0_ok rfl) (z_byk bcX10_isPerson_0 0 6 _ bcX10_isPerson_0_ok rfl) rfl
theorem dX10_isPerson_7 : decode cX10_isPerson 7 = .ok (.iconst 0, 1) := zo_3 (z_byk bcX10_isPerson_0 0 7 _ bcX10_isPerson_0_ok rfl)
theorem dX10_isPerson_8 : decode cX10_isPerson 8 = .ok (.iaload, 1) := zo_46 (z_byk bcX10_isPerson_0 0 8 _ bcX10_isPerson_0_ok rfl)
theorem dX10_isPerson_9 : decode cX10_isPerson 9 = .ok (.iconst 1, 1) := zo_4 (z_byk bcX10_isPerson_0 0 9 _ bcX10_isPerson_0_ok rfl)
def bcX10_isSeed_0 : List Nat := [26, 133, 9, 20, 1, 219, 184, 0, 119, 172]
theorem bcX10_isSeed_0_ok : z_bys cX10_isSeed 0 bcX10_isSeed_0 = true := by decide +kernel
theorem dX10_isSeed_0 : decode cX10_isSeed 0 = .ok (.iload_n 0, 1) := zo_26 (z_byk bcX10_isSeed_0 0 0 _ bcX10_isSeed_0_ok rfl)
theorem dX10_isSeed_1 : decode cX10_isSeed 1 = .ok (.i2l, 1) := zo_133 (z_byk bcX10_isSeed_0 0 1 _ bcX10_isSeed_0_ok rfl)
theorem dX10_isSeed_2 : decode cX10_isSeed 2 = .ok (.lconst 0, 1) := zo_9 (z_byk bcX10_isSeed_0 0 2 _ bcX10_isSeed_0_ok rfl)
theorem dX10_isSeed_3 : decode cX10_isSeed 3 = .ok (.ldc2_w 475, 3) := zo_20 (z_byk bcX10_isSeed_0 0 3 _ bcX10_isSeed_0_ok rfl) (z_byk bcX10_isSeed_0 0 4 _ bcX10_isSeed_0_ok rfl) (z_byk bcX10_isSeed_0 0 5 _ bcX10_isSeed_0_ok rfl) rfl
theorem dX10_isSeed_6 : decode cX10_isSeed 6 = .ok (.invokestatic 119, 3) := zo_184 (z_byk bcX10_isSeed_0 0 6 _ bcX10_isSeed_0_ok rfl) (z_byk bcX10_isSeed_0 0 7 _ bcX10_isSeed_0_ok rfl) (z_byk bcX10_isSeed_0 0 8 _ bcX10_isSeed_0_ok rfl) rfl
theorem dX10_isSeed_9 : decode cX10_isSeed 9 = .ok (.ireturn, 1) := zo_172 (z_byk bcX10_isSeed_0 0 9 _ bcX10_isSeed_0_ok rfl)
def bcX10_isSlot_0 : List Nat := [26, 133, 9, 20, 0, 117, 184, 0, 119, 172]
theorem bcX10_isSlot_0_ok : z_bys cX10_isSlot 0 bcX10_isSlot_0 = true := by decide +kernel
theorem dX10_isSlot_0 : decode cX10_isSlot 0 = .ok (.iload_n 0, 1) := zo_26 (z_byk bcX10_isSlot_0 0 0 _ bcX10_isSlot_0_ok rfl)
theorem dX10_isSlot_1 : decode cX10_isSlot 1 = .ok (.i2l, 1) := zo_133 (z_byk bcX10_isSlot_0 0 1 _ bcX10_isSlot_0_ok rfl)
theorem dX10_isSlot_2 : decode cX10_isSlot 2 = .ok (.lconst 0, 1) := zo_9 (z_byk bcX10_isSlot_0 0 2 _ bcX10_isSlot_0_ok rfl)
theorem dX10_isSlot_3 : decode cX10_isSlot 3 = .ok (.ldc2_w 117, 3) := zo_20 (z_byk bcX10_isSlot_0 0 3 _ bcX10_isSlot_0_ok rfl) (z_byk bcX10_isSlot_0 0 4 _ bcX10_isSlot_0_ok rfl) (z_byk bcX10_isSlot_0 0 5 _ bcX10_isSlot_0_ok rfl) rfl
theorem dX10_isSlot_6 : decode cX10_isSlot 6 = .ok (.invokestatic 119, 3) := zo_184 (z_byk bcX10_isSlot_0 0 6 _ bcX10_isSlot_0_ok rfl) (z_byk bcX10_isSlot_0 0 7 _ bcX10_isSlot_0_ok rfl) (z_byk bcX10_isSlot_0 0 8 _ bcX10_isSlot_0_ok rfl) rfl
theorem dX10_isSlot_9 : decode cX10_isSlot 9 = .ok (.ireturn, 1) := zo_172 (z_byk bcX10_isSlot_0 0 9 _ bcX10_isSlot_0_ok rfl)
def bcX10_isSooner_0 : List Nat := [27, 2, 159, 0, 17, 28, 2, 159, 0, 8, 27, 28, 162, 0, 7, 4, 167, 0, 4, 3, 172]
theorem bcX10_isSooner_0_ok : z_bys cX10_isSooner 0 bcX10_isSooner_0 = true := by decide +kernel
theorem dX10_isSooner_0 : decode cX10_isSooner 0 = .ok (.iload_n 1, 1) := zo_27 (z_byk bcX10_isSooner_0 0 0 _ bcX10_isSooner_0_ok rfl)
theorem dX10_isSooner_1 : decode cX10_isSooner 1 = .ok (.iconst (-1), 1) := zo_2 (z_byk bcX10_isSooner_0 0 1 _ bcX10_isSooner_0_ok rfl)
theorem dX10_isSooner_10 : decode cX10_isSooner 10 = .ok (.iload_n 1, 1) := zo_27 (z_byk bcX10_isSooner_0 0 10 _ bcX10_isSooner_0_ok rfl)
theorem dX10_isSooner_11 : decode cX10_isSooner 11 = .ok (.iload_n 2, 1) := zo_28 (z_byk bcX10_isSooner_0 0 11 _ bcX10_isSooner_0_ok rfl)
theorem dX10_isSooner_12 : decode cX10_isSooner 12 = .ok (.if_icmp .ge 7, 3) := zo_162 (z_byk bcX10_isSooner_0 0 12 _ bcX10_isSooner_0_ok rfl) (z_byk bcX10_isSooner_0 0 13 _ bcX10_isSooner_0_ok rfl) (z_byk bcX10_isSooner_0 0 14 _ bcX10_isSooner_0_ok rfl) rfl
theorem dX10_isSooner_15 : decode cX10_isSooner 15 = .ok (.iconst 1, 1) := zo_4 (z_byk bcX10_isSooner_0 0 15 _ bcX10_isSooner_0_ok rfl)
theorem dX10_isSooner_16 : decode cX10_isSooner 16 = .ok (.goto 4, 3) := zo_167 (z_byk bcX10_isSooner_0 0 16 _ bcX10_isSooner_0_ok rfl) (z_byk bcX10_isSooner_0 0 17 _ bcX10_isSooner_0_ok rfl) (z_byk bcX10_isSooner_0 0 18 _ bcX10_isSooner_0_ok rfl) rfl
theorem dX10_isSooner_19 : decode cX10_isSooner 19 = .ok (.iconst 0, 1) := zo_3 (z_byk bcX10_isSooner_0 0 19 _ bcX10_isSooner_0_ok rfl)
theorem dX10_isSooner_2 : decode cX10_isSooner 2 = .ok (.if_icmp .eq 17, 3) := zo_159 (z_byk bcX10_isSooner_0 0 2 _ bcX10_isSooner_0_ok rfl) (z_byk bcX10_isSooner_0 0 3 _ bcX10_isSooner_0_ok rfl) (z_byk bcX10_isSooner_0 0 4 _ bcX10_isSooner_0_ok rfl) rfl
theorem dX10_isSooner_20 : decode cX10_isSooner 20 = .ok (.ireturn, 1) := zo_172 (z_byk bcX10_isSooner_0 0 20 _ bcX10_isSooner_0_ok rfl)
theorem dX10_isSooner_5 : decode cX10_isSooner 5 = .ok (.iload_n 2, 1) := zo_28 (z_byk bcX10_isSooner_0 0 5 _ bcX10_isSooner_0_ok rfl)
theorem dX10_isSooner_6 : decode cX10_isSooner 6 = .ok (.iconst (-1), 1) := zo_2 (z_byk bcX10_isSooner_0 0 6 _ bcX10_isSooner_0_ok rfl)
theorem dX10_isSooner_7 : decode cX10_isSooner 7 = .ok (.if_icmp .eq 8, 3) := zo_159 (z_byk bcX10_isSooner_0 0 7 _ bcX10_isSooner_0_ok rfl) (z_byk bcX10_isSooner_0 0 8 _ bcX10_isSooner_0_ok rfl) (z_byk bcX10_isSooner_0 0 9 _ bcX10_isSooner_0_ok rfl) rfl
def bcX10_isStrayed_0 : List Nat := [42, 180, 0, 65, 3, 46, 27, 122, 4, 126, 4, 160, 0, 7, 4, 167, 0, 4, 3, 172]
theorem bcX10_isStrayed_0_ok : z_bys cX10_isStrayed 0 bcX10_isStrayed_0 = true := by decide +kernel
theorem dX10_isStrayed_0 : decode cX10_isStrayed 0 = .ok (.aload_n 0, 1) := zo_42 (z_byk bcX10_isStrayed_0 0 0 _ bcX10_isStrayed_0_ok rfl)
theorem dX10_isStrayed_1 : decode cX10_isStrayed 1 = .ok (.getfield 65, 3) := zo_180 (z_byk bcX10_isStrayed_0 0 1 _ bcX10_isStrayed_0_ok rfl) (z_byk bcX10_isStrayed_0 0 2 _ bcX10_isStrayed_0_ok rfl) (z_byk bcX10_isStrayed_0 0 3 _ bcX10_isStrayed_0_ok rfl) rfl
theorem dX10_isStrayed_10 : decode cX10_isStrayed 10 = .ok (.iconst 1, 1) := zo_4 (z_byk bcX10_isStrayed_0 0 10 _ bcX10_isStrayed_0_ok rfl)
theorem dX10_isStrayed_11 : decode cX10_isStrayed 11 = .ok (.if_icmp .ne 7, 3) := zo_160 (z_byk bcX10_isStrayed_0 0 11 _ bcX10_isStrayed_0_ok rfl) (z_byk bcX10_isStrayed_0 0 12 _ bcX10_isStrayed_0_ok rfl) (z_byk bcX10_isStrayed_0 0 13 _ bcX10_isStrayed_0_ok rfl) rfl
theorem dX10_isStrayed_14 : decode cX10_isStrayed 14 = .ok (.iconst 1, 1) := zo_4 (z_byk bcX10_isStrayed_0 0 14 _ bcX10_isStrayed_0_ok rfl)
theorem dX10_isStrayed_15 : decode cX10_isStrayed 15 = .ok (.goto 4, 3) := zo_167 (z_byk bcX10_isStrayed_0 0 15 _ bcX10_isStrayed_0_ok rfl) (z_byk bcX10_isStrayed_0 0 16 _ bcX10_isStrayed_0_ok rfl) (z_byk bcX10_isStrayed_0 0 17 _ bcX10_isStrayed_0_ok rfl) rfl
theorem dX10_isStrayed_18 : decode cX10_isStrayed 18 = .ok (.iconst 0, 1) := zo_3 (z_byk bcX10_isStrayed_0 0 18 _ bcX10_isStrayed_0_ok rfl)
theorem dX10_isStrayed_19 : decode cX10_isStrayed 19 = .ok (.ireturn, 1) := zo_172 (z_byk bcX10_isStrayed_0 0 19 _ bcX10_isStrayed_0_ok rfl)
theorem dX10_isStrayed_4 : decode cX10_isStrayed 4 = .ok (.iconst 0, 1) := zo_3 (z_byk bcX10_isStrayed_0 0 4 _ bcX10_isStrayed_0_ok rfl)
theorem dX10_isStrayed_5 : decode cX10_isStrayed 5 = .ok (.iaload, 1) := zo_46 (z_byk bcX10_isStrayed_0 0 5 _ bcX10_isStrayed_0_ok rfl)
theorem dX10_isStrayed_6 : decode cX10_isStrayed 6 = .ok (.iload_n 1, 1) := zo_27 (z_byk bcX10_isStrayed_0 0 6 _ bcX10_isStrayed_0_ok rfl)
theorem dX10_isStrayed_7 : decode cX10_isStrayed 7 = .ok (.ishr, 1) := zo_122 (z_byk bcX10_isStrayed_0 0 7 _ bcX10_isStrayed_0_ok rfl)
theorem dX10_isStrayed_8 : decode cX10_isStrayed 8 = .ok (.iconst 1, 1) := zo_4 (z_byk bcX10_isStrayed_0 0 8 _ bcX10_isStrayed_0_ok rfl)
theorem dX10_isStrayed_9 : decode cX10_isStrayed 9 = .ok (.iand, 1) := zo_126 (z_byk bcX10_isStrayed_0 0 9 _ bcX10_isStrayed_0_ok rfl)
def bcX10_isWithin_0 : List Nat := [42, 42, 27, 28, 21, 4, 182, 1, 16, 29, 182, 1, 20, 172]
theorem bcX10_isWithin_0_ok : z_bys cX10_isWithin 0 bcX10_isWithin_0 = true := by decide +kernel
theorem dX10_isWithin_0 : decode cX10_isWithin 0 = .ok (.aload_n 0, 1) := zo_42 (z_byk bcX10_isWithin_0 0 0 _ bcX10_isWithin_0_ok rfl)
theorem dX10_isWithin_1 : decode cX10_isWithin 1 = .ok (.aload_n 0, 1) := zo_42 (z_byk bcX10_isWithin_0 0 1 _ bcX10_isWithin_0_ok rfl)
theorem dX10_isWithin_10 : decode cX10_isWithin 10 = .ok (.invokevirtual 276, 3) := zo_182 (z_byk bcX10_isWithin_0 0 10 _ bcX10_isWithin_0_ok rfl) (z_byk bcX10_isWithin_0 0 11 _ bcX10_isWithin_0_ok rfl) (z_byk bcX10_isWithin_0 0 12 _ bcX10_isWithin_0_ok rfl) rfl
theorem dX10_isWithin_13 : decode cX10_isWithin 13 = .ok (.ireturn, 1) := zo_172 (z_byk bcX10_isWithin_0 0 13 _ bcX10_isWithin_0_ok rfl)
theorem dX10_isWithin_2 : decode cX10_isWithin 2 = .ok (.iload_n 1, 1) := zo_27 (z_byk bcX10_isWithin_0 0 2 _ bcX10_isWithin_0_ok rfl)
theorem dX10_isWithin_3 : decode cX10_isWithin 3 = .ok (.iload_n 2, 1) := zo_28 (z_byk bcX10_isWithin_0 0 3 _ bcX10_isWithin_0_ok rfl)
theorem dX10_isWithin_4 : decode cX10_isWithin 4 = .ok (.iload 4, 2) := zo_21 (z_byk bcX10_isWithin_0 0 4 _ bcX10_isWithin_0_ok rfl) (z_byk bcX10_isWithin_0 0 5 _ bcX10_isWithin_0_ok rfl)
theorem dX10_isWithin_6 : decode cX10_isWithin 6 = .ok (.invokevirtual 272, 3) := zo_182 (z_byk bcX10_isWithin_0 0 6 _ bcX10_isWithin_0_ok rfl) (z_byk bcX10_isWithin_0 0 7 _ bcX10_isWithin_0_ok rfl) (z_byk bcX10_isWithin_0 0 8 _ bcX10_isWithin_0_ok rfl) rfl
theorem dX10_isWithin_9 : decode cX10_isWithin 9 = .ok (.iload_n 3, 1) := zo_29 (z_byk bcX10_isWithin_0 0 9 _ bcX10_isWithin_0_ok rfl)
def bcX10_is_0 : List Nat := [42, 180, 0, 165, 154, 0, 24, 42, 180, 0, 154, 4, 160, 0, 16, 42, 180, 0, 150, 31, 148, 154, 0, 7, 4, 167, 0, 4, 3, 172]
theorem bcX10_is_0_ok : z_bys cX10_is 0 bcX10_is_0 = true := by decide +kernel
theorem dX10_is_0 : decode cX10_is 0 = .ok (.aload_n 0, 1) := zo_42 (z_byk bcX10_is_0 0 0 _ bcX10_is_0_ok rfl)
theorem dX10_is_1 : decode cX10_is 1 = .ok (.getfield 165, 3) := zo_180 (z_byk bcX10_is_0 0 1 _ bcX10_is_0_ok rfl) (z_byk bcX10_is_0 0 2 _ bcX10_is_0_ok rfl) (z_byk bcX10_is_0 0 3 _ bcX10_is_0_ok rfl) rfl
theorem dX10_is_11 : decode cX10_is 11 = .ok (.iconst 1, 1) := zo_4 (z_byk bcX10_is_0 0 11 _ bcX10_is_0_ok rfl)
theorem dX10_is_12 : decode cX10_is 12 = .ok (.if_icmp .ne 16, 3) := zo_160 (z_byk bcX10_is_0 0 12 _ bcX10_is_0_ok rfl) (z_byk bcX10_is_0 0 13 _ bcX10_is_0_ok rfl) (z_byk bcX10_is_0 0 14 _ bcX10_is_0_ok rfl) rfl
theorem dX10_is_15 : decode cX10_is 15 = .ok (.aload_n 0, 1) := zo_42 (z_byk bcX10_is_0 0 15 _ bcX10_is_0_ok rfl)
theorem dX10_is_16 : decode cX10_is 16 = .ok (.getfield 150, 3) := zo_180 (z_byk bcX10_is_0 0 16 _ bcX10_is_0_ok rfl) (z_byk bcX10_is_0 0 17 _ bcX10_is_0_ok rfl) (z_byk bcX10_is_0 0 18 _ bcX10_is_0_ok rfl) rfl
theorem dX10_is_19 : decode cX10_is 19 = .ok (.lload_n 1, 1) := zo_31 (z_byk bcX10_is_0 0 19 _ bcX10_is_0_ok rfl)
theorem dX10_is_20 : decode cX10_is 20 = .ok (.lcmp, 1) := zo_148 (z_byk bcX10_is_0 0 20 _ bcX10_is_0_ok rfl)
theorem dX10_is_21 : decode cX10_is 21 = .ok (.ifCond .ne 7, 3) := zo_154 (z_byk bcX10_is_0 0 21 _ bcX10_is_0_ok rfl) (z_byk bcX10_is_0 0 22 _ bcX10_is_0_ok rfl) (z_byk bcX10_is_0 0 23 _ bcX10_is_0_ok rfl) rfl
theorem dX10_is_24 : decode cX10_is 24 = .ok (.iconst 1, 1) := zo_4 (z_byk bcX10_is_0 0 24 _ bcX10_is_0_ok rfl)
theorem dX10_is_25 : decode cX10_is 25 = .ok (.goto 4, 3) := zo_167 (z_byk bcX10_is_0 0 25 _ bcX10_is_0_ok rfl) (z_byk bcX10_is_0 0 26 _ bcX10_is_0_ok rfl) (z_byk bcX10_is_0 0 27 _ bcX10_is_0_ok rfl) rfl
theorem dX10_is_28 : decode cX10_is 28 = .ok (.iconst 0, 1) := zo_3 (z_byk bcX10_is_0 0 28 _ bcX10_is_0_ok rfl)
theorem dX10_is_29 : decode cX10_is 29 = .ok (.ireturn, 1) := zo_172 (z_byk bcX10_is_0 0 29 _ bcX10_is_0_ok rfl)
theorem dX10_is_4 : decode cX10_is 4 = .ok (.ifCond .ne 24, 3) := zo_154 (z_byk bcX10_is_0 0 4 _ bcX10_is_0_ok rfl) (z_byk bcX10_is_0 0 5 _ bcX10_is_0_ok rfl) (z_byk bcX10_is_0 0 6 _ bcX10_is_0_ok rfl) rfl
theorem dX10_is_7 : decode cX10_is 7 = .ok (.aload_n 0, 1) := zo_42 (z_byk bcX10_is_0 0 7 _ bcX10_is_0_ok rfl)
theorem dX10_is_8 : decode cX10_is 8 = .ok (.getfield 154, 3) := zo_180 (z_byk bcX10_is_0 0 8 _ bcX10_is_0_ok rfl) (z_byk bcX10_is_0 0 9 _ bcX10_is_0_ok rfl) (z_byk bcX10_is_0 0 10 _ bcX10_is_0_ok rfl) rfl
def bcX10_leadsTo_0 : List Nat := [42, 180, 0, 46, 5, 27, 104, 46, 28, 160, 0, 16, 42, 180, 0, 46, 5, 27, 104, 4, 96, 46, 167, 0, 29, 42, 180, 0, 46, 5, 27, 104, 4, 96, 46, 28, 160, 0, 14, 42, 180, 0, 46, 5, 27, 104, 46, 167, 0, 4, 2, 172]
theorem bcX10_leadsTo_0_ok : z_bys cX10_leadsTo 0 bcX10_leadsTo_0 = true := by decide +kernel
theorem dX10_leadsTo_0 : decode cX10_leadsTo 0 = .ok (.aload_n 0, 1) := zo_42 (z_byk bcX10_leadsTo_0 0 0 _ bcX10_leadsTo_0_ok rfl)
theorem dX10_leadsTo_1 : decode cX10_leadsTo 1 = .ok (.getfield 46, 3) := zo_180 (z_byk bcX10_leadsTo_0 0 1 _ bcX10_leadsTo_0_ok rfl) (z_byk bcX10_leadsTo_0 0 2 _ bcX10_leadsTo_0_ok rfl) (z_byk bcX10_leadsTo_0 0 3 _ bcX10_leadsTo_0_ok rfl) rfl
theorem dX10_leadsTo_12 : decode cX10_leadsTo 12 = .ok (.aload_n 0, 1) := zo_42 (z_byk bcX10_leadsTo_0 0 12 _ bcX10_leadsTo_0_ok rfl)
theorem dX10_leadsTo_13 : decode cX10_leadsTo 13 = .ok (.getfield 46, 3) := zo_180 (z_byk bcX10_leadsTo_0 0 13 _ bcX10_leadsTo_0_ok rfl) (z_byk bcX10_leadsTo_0 0 14 _ bcX10_leadsTo_0_ok rfl) (z_byk bcX10_leadsTo_0 0 15 _ bcX10_leadsTo_0_ok rfl) rfl
theorem dX10_leadsTo_16 : decode cX10_leadsTo 16 = .ok (.iconst 2, 1) := zo_5 (z_byk bcX10_leadsTo_0 0 16 _ bcX10_leadsTo_0_ok rfl)
theorem dX10_leadsTo_17 : decode cX10_leadsTo 17 = .ok (.iload_n 1, 1) := zo_27 (z_byk bcX10_leadsTo_0 0 17 _ bcX10_leadsTo_0_ok rfl)
theorem dX10_leadsTo_18 : decode cX10_leadsTo 18 = .ok (.imul, 1) := zo_104 (z_byk bcX10_leadsTo_0 0 18 _ bcX10_leadsTo_0_ok rfl)
theorem dX10_leadsTo_19 : decode cX10_leadsTo 19 = .ok (.iconst 1, 1) := zo_4 (z_byk bcX10_leadsTo_0 0 19 _ bcX10_leadsTo_0_ok rfl)
theorem dX10_leadsTo_20 : decode cX10_leadsTo 20 = .ok (.iadd, 1) := zo_96 (z_byk bcX10_leadsTo_0 0 20 _ bcX10_leadsTo_0_ok rfl)
theorem dX10_leadsTo_21 : decode cX10_leadsTo 21 = .ok (.iaload, 1) := zo_46 (z_byk bcX10_leadsTo_0 0 21 _ bcX10_leadsTo_0_ok rfl)
theorem dX10_leadsTo_22 : decode cX10_leadsTo 22 = .ok (.goto 29, 3) := zo_167 (z_byk bcX10_leadsTo_0 0 22 _ bcX10_leadsTo_0_ok rfl) (z_byk bcX10_leadsTo_0 0 23 _ bcX10_leadsTo_0_ok rfl) (z_byk bcX10_leadsTo_0 0 24 _ bcX10_leadsTo_0_ok rfl) rfl
theorem dX10_leadsTo_25 : decode cX10_leadsTo 25 = .ok (.aload_n 0, 1) := zo_42 (z_byk bcX10_leadsTo_0 0 25 _ bcX10_leadsTo_0_ok rfl)
theorem dX10_leadsTo_26 : decode cX10_leadsTo 26 = .ok (.getfield 46, 3) := zo_180 (z_byk bcX10_leadsTo_0 0 26 _ bcX10_leadsTo_0_ok rfl) (z_byk bcX10_leadsTo_0 0 27 _ bcX10_leadsTo_0_ok rfl) (z_byk bcX10_leadsTo_0 0 28 _ bcX10_leadsTo_0_ok rfl) rfl
theorem dX10_leadsTo_29 : decode cX10_leadsTo 29 = .ok (.iconst 2, 1) := zo_5 (z_byk bcX10_leadsTo_0 0 29 _ bcX10_leadsTo_0_ok rfl)
theorem dX10_leadsTo_30 : decode cX10_leadsTo 30 = .ok (.iload_n 1, 1) := zo_27 (z_byk bcX10_leadsTo_0 0 30 _ bcX10_leadsTo_0_ok rfl)
theorem dX10_leadsTo_31 : decode cX10_leadsTo 31 = .ok (.imul, 1) := zo_104 (z_byk bcX10_leadsTo_0 0 31 _ bcX10_leadsTo_0_ok rfl)
theorem dX10_leadsTo_32 : decode cX10_leadsTo 32 = .ok (.iconst 1, 1) := zo_4 (z_byk bcX10_leadsTo_0 0 32 _ bcX10_leadsTo_0_ok rfl)
theorem dX10_leadsTo_33 : decode cX10_leadsTo 33 = .ok (.iadd, 1) := zo_96 (z_byk bcX10_leadsTo_0 0 33 _ bcX10_leadsTo_0_ok rfl)
theorem dX10_leadsTo_34 : decode cX10_leadsTo 34 = .ok (.iaload, 1) := zo_46 (z_byk bcX10_leadsTo_0 0 34 _ bcX10_leadsTo_0_ok rfl)
theorem dX10_leadsTo_35 : decode cX10_leadsTo 35 = .ok (.iload_n 2, 1) := zo_28 (z_byk bcX10_leadsTo_0 0 35 _ bcX10_leadsTo_0_ok rfl)
theorem dX10_leadsTo_36 : decode cX10_leadsTo 36 = .ok (.if_icmp .ne 14, 3) := zo_160 (z_byk bcX10_leadsTo_0 0 36 _ bcX10_leadsTo_0_ok rfl) (z_byk bcX10_leadsTo_0 0 37 _ bcX10_leadsTo_0_ok rfl) (z_byk bcX10_leadsTo_0 0 38 _ bcX10_leadsTo_0_ok rfl) rfl
theorem dX10_leadsTo_39 : decode cX10_leadsTo 39 = .ok (.aload_n 0, 1) := zo_42 (z_byk bcX10_leadsTo_0 0 39 _ bcX10_leadsTo_0_ok rfl)
theorem dX10_leadsTo_4 : decode cX10_leadsTo 4 = .ok (.iconst 2, 1) := zo_5 (z_byk bcX10_leadsTo_0 0 4 _ bcX10_leadsTo_0_ok rfl)
theorem dX10_leadsTo_40 : decode cX10_leadsTo 40 = .ok (.getfield 46, 3) := zo_180 (z_byk bcX10_leadsTo_0 0 40 _ bcX10_leadsTo_0_ok rfl) (z_byk bcX10_leadsTo_0 0 41 _ bcX10_leadsTo_0_ok rfl) (z_byk bcX10_leadsTo_0 0 42 _ bcX10_leadsTo_0_ok rfl) rfl
theorem dX10_leadsTo_43 : decode cX10_leadsTo 43 = .ok (.iconst 2, 1) := zo_5 (z_byk bcX10_leadsTo_0 0 43 _ bcX10_leadsTo_0_ok rfl)
theorem dX10_leadsTo_44 : decode cX10_leadsTo 44 = .ok (.iload_n 1, 1) := zo_27 (z_byk bcX10_leadsTo_0 0 44 _ bcX10_leadsTo_0_ok rfl)
theorem dX10_leadsTo_45 : decode cX10_leadsTo 45 = .ok (.imul, 1) := zo_104 (z_byk bcX10_leadsTo_0 0 45 _ bcX10_leadsTo_0_ok rfl)
theorem dX10_leadsTo_46 : decode cX10_leadsTo 46 = .ok (.iaload, 1) := zo_46 (z_byk bcX10_leadsTo_0 0 46 _ bcX10_leadsTo_0_ok rfl)
theorem dX10_leadsTo_47 : decode cX10_leadsTo 47 = .ok (.goto 4, 3) := zo_167 (z_byk bcX10_leadsTo_0 0 47 _ bcX10_leadsTo_0_ok rfl) (z_byk bcX10_leadsTo_0 0 48 _ bcX10_leadsTo_0_ok rfl) (z_byk bcX10_leadsTo_0 0 49 _ bcX10_leadsTo_0_ok rfl) rfl
theorem dX10_leadsTo_5 : decode cX10_leadsTo 5 = .ok (.iload_n 1, 1) := zo_27 (z_byk bcX10_leadsTo_0 0 5 _ bcX10_leadsTo_0_ok rfl)
theorem dX10_leadsTo_50 : decode cX10_leadsTo 50 = .ok (.iconst (-1), 1) := zo_2 (z_byk bcX10_leadsTo_0 0 50 _ bcX10_leadsTo_0_ok rfl)
theorem dX10_leadsTo_51 : decode cX10_leadsTo 51 = .ok (.ireturn, 1) := zo_172 (z_byk bcX10_leadsTo_0 0 51 _ bcX10_leadsTo_0_ok rfl)
theorem dX10_leadsTo_6 : decode cX10_leadsTo 6 = .ok (.imul, 1) := zo_104 (z_byk bcX10_leadsTo_0 0 6 _ bcX10_leadsTo_0_ok rfl)
theorem dX10_leadsTo_7 : decode cX10_leadsTo 7 = .ok (.iaload, 1) := zo_46 (z_byk bcX10_leadsTo_0 0 7 _ bcX10_leadsTo_0_ok rfl)
theorem dX10_leadsTo_8 : decode cX10_leadsTo 8 = .ok (.iload_n 2, 1) := zo_28 (z_byk bcX10_leadsTo_0 0 8 _ bcX10_leadsTo_0_ok rfl)
theorem dX10_leadsTo_9 : decode cX10_leadsTo 9 = .ok (.if_icmp .ne 16, 3) := zo_160 (z_byk bcX10_leadsTo_0 0 9 _ bcX10_leadsTo_0_ok rfl) (z_byk bcX10_leadsTo_0 0 10 _ bcX10_leadsTo_0_ok rfl) (z_byk bcX10_leadsTo_0 0 11 _ bcX10_leadsTo_0_ok rfl) rfl
def bcX10_leastName_0 : List Nat := [3, 61, 28, 42, 180, 0, 49, 3, 46, 162, 0, 20, 27, 28, 122, 4, 126, 4, 160, 0, 5, 28, 172, 132, 2, 1, 167, 255, 232, 2, 172]
theorem bcX10_leastName_0_ok : z_bys cX10_leastName 0 bcX10_leastName_0 = true := by decide +kernel
theorem dX10_leastName_0 : decode cX10_leastName 0 = .ok (.iconst 0, 1) := zo_3 (z_byk bcX10_leastName_0 0 0 _ bcX10_leastName_0_ok rfl)
theorem dX10_leastName_1 : decode cX10_leastName 1 = .ok (.istore_n 2, 1) := zo_61 (z_byk bcX10_leastName_0 0 1 _ bcX10_leastName_0_ok rfl)
theorem dX10_leastName_12 : decode cX10_leastName 12 = .ok (.iload_n 1, 1) := zo_27 (z_byk bcX10_leastName_0 0 12 _ bcX10_leastName_0_ok rfl)
theorem dX10_leastName_13 : decode cX10_leastName 13 = .ok (.iload_n 2, 1) := zo_28 (z_byk bcX10_leastName_0 0 13 _ bcX10_leastName_0_ok rfl)
theorem dX10_leastName_14 : decode cX10_leastName 14 = .ok (.ishr, 1) := zo_122 (z_byk bcX10_leastName_0 0 14 _ bcX10_leastName_0_ok rfl)
theorem dX10_leastName_15 : decode cX10_leastName 15 = .ok (.iconst 1, 1) := zo_4 (z_byk bcX10_leastName_0 0 15 _ bcX10_leastName_0_ok rfl)
theorem dX10_leastName_16 : decode cX10_leastName 16 = .ok (.iand, 1) := zo_126 (z_byk bcX10_leastName_0 0 16 _ bcX10_leastName_0_ok rfl)
theorem dX10_leastName_17 : decode cX10_leastName 17 = .ok (.iconst 1, 1) := zo_4 (z_byk bcX10_leastName_0 0 17 _ bcX10_leastName_0_ok rfl)
theorem dX10_leastName_18 : decode cX10_leastName 18 = .ok (.if_icmp .ne 5, 3) := zo_160 (z_byk bcX10_leastName_0 0 18 _ bcX10_leastName_0_ok rfl) (z_byk bcX10_leastName_0 0 19 _ bcX10_leastName_0_ok rfl) (z_byk bcX10_leastName_0 0 20 _ bcX10_leastName_0_ok rfl) rfl
theorem dX10_leastName_2 : decode cX10_leastName 2 = .ok (.iload_n 2, 1) := zo_28 (z_byk bcX10_leastName_0 0 2 _ bcX10_leastName_0_ok rfl)
theorem dX10_leastName_21 : decode cX10_leastName 21 = .ok (.iload_n 2, 1) := zo_28 (z_byk bcX10_leastName_0 0 21 _ bcX10_leastName_0_ok rfl)
theorem dX10_leastName_22 : decode cX10_leastName 22 = .ok (.ireturn, 1) := zo_172 (z_byk bcX10_leastName_0 0 22 _ bcX10_leastName_0_ok rfl)
theorem dX10_leastName_23 : decode cX10_leastName 23 = .ok (.iinc 2 1, 3) := zo_132 (z_byk bcX10_leastName_0 0 23 _ bcX10_leastName_0_ok rfl) (z_byk bcX10_leastName_0 0 24 _ bcX10_leastName_0_ok rfl) (z_byk bcX10_leastName_0 0 25 _ bcX10_leastName_0_ok rfl) rfl
theorem dX10_leastName_26 : decode cX10_leastName 26 = .ok (.goto (-24), 3) := zo_167 (z_byk bcX10_leastName_0 0 26 _ bcX10_leastName_0_ok rfl) (z_byk bcX10_leastName_0 0 27 _ bcX10_leastName_0_ok rfl) (z_byk bcX10_leastName_0 0 28 _ bcX10_leastName_0_ok rfl) rfl
theorem dX10_leastName_29 : decode cX10_leastName 29 = .ok (.iconst (-1), 1) := zo_2 (z_byk bcX10_leastName_0 0 29 _ bcX10_leastName_0_ok rfl)
theorem dX10_leastName_3 : decode cX10_leastName 3 = .ok (.aload_n 0, 1) := zo_42 (z_byk bcX10_leastName_0 0 3 _ bcX10_leastName_0_ok rfl)
theorem dX10_leastName_30 : decode cX10_leastName 30 = .ok (.ireturn, 1) := zo_172 (z_byk bcX10_leastName_0 0 30 _ bcX10_leastName_0_ok rfl)
theorem dX10_leastName_4 : decode cX10_leastName 4 = .ok (.getfield 49, 3) := zo_180 (z_byk bcX10_leastName_0 0 4 _ bcX10_leastName_0_ok rfl) (z_byk bcX10_leastName_0 0 5 _ bcX10_leastName_0_ok rfl) (z_byk bcX10_leastName_0 0 6 _ bcX10_leastName_0_ok rfl) rfl
theorem dX10_leastName_7 : decode cX10_leastName 7 = .ok (.iconst 0, 1) := zo_3 (z_byk bcX10_leastName_0 0 7 _ bcX10_leastName_0_ok rfl)
theorem dX10_leastName_8 : decode cX10_leastName 8 = .ok (.iaload, 1) := zo_46 (z_byk bcX10_leastName_0 0 8 _ bcX10_leastName_0_ok rfl)
theorem dX10_leastName_9 : decode cX10_leastName 9 = .ok (.if_icmp .ge 20, 3) := zo_162 (z_byk bcX10_leastName_0 0 9 _ bcX10_leastName_0_ok rfl) (z_byk bcX10_leastName_0 0 10 _ bcX10_leastName_0_ok rfl) (z_byk bcX10_leastName_0 0 11 _ bcX10_leastName_0_ok rfl) rfl
def bcX10_lesser_0 : List Nat := [26, 27, 162, 0, 7, 26, 167, 0, 4, 27, 172]
theorem bcX10_lesser_0_ok : z_bys cX10_lesser 0 bcX10_lesser_0 = true := by decide +kernel
theorem dX10_lesser_0 : decode cX10_lesser 0 = .ok (.iload_n 0, 1) := zo_26 (z_byk bcX10_lesser_0 0 0 _ bcX10_lesser_0_ok rfl)
theorem dX10_lesser_1 : decode cX10_lesser 1 = .ok (.iload_n 1, 1) := zo_27 (z_byk bcX10_lesser_0 0 1 _ bcX10_lesser_0_ok rfl)
theorem dX10_lesser_10 : decode cX10_lesser 10 = .ok (.ireturn, 1) := zo_172 (z_byk bcX10_lesser_0 0 10 _ bcX10_lesser_0_ok rfl)
theorem dX10_lesser_2 : decode cX10_lesser 2 = .ok (.if_icmp .ge 7, 3) := zo_162 (z_byk bcX10_lesser_0 0 2 _ bcX10_lesser_0_ok rfl) (z_byk bcX10_lesser_0 0 3 _ bcX10_lesser_0_ok rfl) (z_byk bcX10_lesser_0 0 4 _ bcX10_lesser_0_ok rfl) rfl
theorem dX10_lesser_5 : decode cX10_lesser 5 = .ok (.iload_n 0, 1) := zo_26 (z_byk bcX10_lesser_0 0 5 _ bcX10_lesser_0_ok rfl)
theorem dX10_lesser_6 : decode cX10_lesser 6 = .ok (.goto 4, 3) := zo_167 (z_byk bcX10_lesser_0 0 6 _ bcX10_lesser_0_ok rfl) (z_byk bcX10_lesser_0 0 7 _ bcX10_lesser_0_ok rfl) (z_byk bcX10_lesser_0 0 8 _ bcX10_lesser_0_ok rfl) rfl
theorem dX10_lesser_9 : decode cX10_lesser 9 = .ok (.iload_n 1, 1) := zo_27 (z_byk bcX10_lesser_0 0 9 _ bcX10_lesser_0_ok rfl)
def bcX10_may_0 : List Nat := [3, 60, 3, 61, 28, 42, 180, 0, 49, 3, 46, 162, 0, 30, 27, 42, 180, 0, 55, 5, 28, 104, 46, 158, 0, 9, 4, 28, 120, 167, 0, 4, 3, 128, 60, 132, 2, 1, 167, 255, 222, 27, 172]
theorem bcX10_may_0_ok : z_bys cX10_may 0 bcX10_may_0 = true := by decide +kernel
theorem dX10_may_0 : decode cX10_may 0 = .ok (.iconst 0, 1) := zo_3 (z_byk bcX10_may_0 0 0 _ bcX10_may_0_ok rfl)
theorem dX10_may_1 : decode cX10_may 1 = .ok (.istore_n 1, 1) := zo_60 (z_byk bcX10_may_0 0 1 _ bcX10_may_0_ok rfl)
theorem dX10_may_10 : decode cX10_may 10 = .ok (.iaload, 1) := zo_46 (z_byk bcX10_may_0 0 10 _ bcX10_may_0_ok rfl)
theorem dX10_may_11 : decode cX10_may 11 = .ok (.if_icmp .ge 30, 3) := zo_162 (z_byk bcX10_may_0 0 11 _ bcX10_may_0_ok rfl) (z_byk bcX10_may_0 0 12 _ bcX10_may_0_ok rfl) (z_byk bcX10_may_0 0 13 _ bcX10_may_0_ok rfl) rfl
theorem dX10_may_14 : decode cX10_may 14 = .ok (.iload_n 1, 1) := zo_27 (z_byk bcX10_may_0 0 14 _ bcX10_may_0_ok rfl)
theorem dX10_may_15 : decode cX10_may 15 = .ok (.aload_n 0, 1) := zo_42 (z_byk bcX10_may_0 0 15 _ bcX10_may_0_ok rfl)
theorem dX10_may_16 : decode cX10_may 16 = .ok (.getfield 55, 3) := zo_180 (z_byk bcX10_may_0 0 16 _ bcX10_may_0_ok rfl) (z_byk bcX10_may_0 0 17 _ bcX10_may_0_ok rfl) (z_byk bcX10_may_0 0 18 _ bcX10_may_0_ok rfl) rfl
theorem dX10_may_19 : decode cX10_may 19 = .ok (.iconst 2, 1) := zo_5 (z_byk bcX10_may_0 0 19 _ bcX10_may_0_ok rfl)
theorem dX10_may_2 : decode cX10_may 2 = .ok (.iconst 0, 1) := zo_3 (z_byk bcX10_may_0 0 2 _ bcX10_may_0_ok rfl)
theorem dX10_may_20 : decode cX10_may 20 = .ok (.iload_n 2, 1) := zo_28 (z_byk bcX10_may_0 0 20 _ bcX10_may_0_ok rfl)
theorem dX10_may_21 : decode cX10_may 21 = .ok (.imul, 1) := zo_104 (z_byk bcX10_may_0 0 21 _ bcX10_may_0_ok rfl)
theorem dX10_may_22 : decode cX10_may 22 = .ok (.iaload, 1) := zo_46 (z_byk bcX10_may_0 0 22 _ bcX10_may_0_ok rfl)
theorem dX10_may_23 : decode cX10_may 23 = .ok (.ifCond .le 9, 3) := zo_158 (z_byk bcX10_may_0 0 23 _ bcX10_may_0_ok rfl) (z_byk bcX10_may_0 0 24 _ bcX10_may_0_ok rfl) (z_byk bcX10_may_0 0 25 _ bcX10_may_0_ok rfl) rfl
theorem dX10_may_26 : decode cX10_may 26 = .ok (.iconst 1, 1) := zo_4 (z_byk bcX10_may_0 0 26 _ bcX10_may_0_ok rfl)
theorem dX10_may_27 : decode cX10_may 27 = .ok (.iload_n 2, 1) := zo_28 (z_byk bcX10_may_0 0 27 _ bcX10_may_0_ok rfl)
theorem dX10_may_28 : decode cX10_may 28 = .ok (.ishl, 1) := zo_120 (z_byk bcX10_may_0 0 28 _ bcX10_may_0_ok rfl)
theorem dX10_may_29 : decode cX10_may 29 = .ok (.goto 4, 3) := zo_167 (z_byk bcX10_may_0 0 29 _ bcX10_may_0_ok rfl) (z_byk bcX10_may_0 0 30 _ bcX10_may_0_ok rfl) (z_byk bcX10_may_0 0 31 _ bcX10_may_0_ok rfl) rfl
theorem dX10_may_3 : decode cX10_may 3 = .ok (.istore_n 2, 1) := zo_61 (z_byk bcX10_may_0 0 3 _ bcX10_may_0_ok rfl)
theorem dX10_may_32 : decode cX10_may 32 = .ok (.iconst 0, 1) := zo_3 (z_byk bcX10_may_0 0 32 _ bcX10_may_0_ok rfl)
theorem dX10_may_33 : decode cX10_may 33 = .ok (.ior, 1) := zo_128 (z_byk bcX10_may_0 0 33 _ bcX10_may_0_ok rfl)
theorem dX10_may_34 : decode cX10_may 34 = .ok (.istore_n 1, 1) := zo_60 (z_byk bcX10_may_0 0 34 _ bcX10_may_0_ok rfl)
theorem dX10_may_35 : decode cX10_may 35 = .ok (.iinc 2 1, 3) := zo_132 (z_byk bcX10_may_0 0 35 _ bcX10_may_0_ok rfl) (z_byk bcX10_may_0 0 36 _ bcX10_may_0_ok rfl) (z_byk bcX10_may_0 0 37 _ bcX10_may_0_ok rfl) rfl
theorem dX10_may_38 : decode cX10_may 38 = .ok (.goto (-34), 3) := zo_167 (z_byk bcX10_may_0 0 38 _ bcX10_may_0_ok rfl) (z_byk bcX10_may_0 0 39 _ bcX10_may_0_ok rfl) (z_byk bcX10_may_0 0 40 _ bcX10_may_0_ok rfl) rfl
theorem dX10_may_4 : decode cX10_may 4 = .ok (.iload_n 2, 1) := zo_28 (z_byk bcX10_may_0 0 4 _ bcX10_may_0_ok rfl)
theorem dX10_may_41 : decode cX10_may 41 = .ok (.iload_n 1, 1) := zo_27 (z_byk bcX10_may_0 0 41 _ bcX10_may_0_ok rfl)
theorem dX10_may_42 : decode cX10_may 42 = .ok (.ireturn, 1) := zo_172 (z_byk bcX10_may_0 0 42 _ bcX10_may_0_ok rfl)
theorem dX10_may_5 : decode cX10_may 5 = .ok (.aload_n 0, 1) := zo_42 (z_byk bcX10_may_0 0 5 _ bcX10_may_0_ok rfl)
theorem dX10_may_6 : decode cX10_may 6 = .ok (.getfield 49, 3) := zo_180 (z_byk bcX10_may_0 0 6 _ bcX10_may_0_ok rfl) (z_byk bcX10_may_0 0 7 _ bcX10_may_0_ok rfl) (z_byk bcX10_may_0 0 8 _ bcX10_may_0_ok rfl) rfl
theorem dX10_may_9 : decode cX10_may 9 = .ok (.iconst 0, 1) := zo_3 (z_byk bcX10_may_0 0 9 _ bcX10_may_0_ok rfl)
def bcX10_placeOf_0 : List Nat := [27, 42, 180, 0, 74, 160, 0, 10, 42, 180, 1, 9, 167, 0, 31, 28, 153, 0, 16, 42, 180, 0, 55, 5, 27, 104, 4, 96, 46, 167, 0, 14, 42, 180, 0, 52, 16, 48, 27, 104, 29, 96, 46, 172]
theorem bcX10_placeOf_0_ok : z_bys cX10_placeOf 0 bcX10_placeOf_0 = true := by decide +kernel
theorem dX10_placeOf_0 : decode cX10_placeOf 0 = .ok (.iload_n 1, 1) := zo_27 (z_byk bcX10_placeOf_0 0 0 _ bcX10_placeOf_0_ok rfl)
theorem dX10_placeOf_1 : decode cX10_placeOf 1 = .ok (.aload_n 0, 1) := zo_42 (z_byk bcX10_placeOf_0 0 1 _ bcX10_placeOf_0_ok rfl)
theorem dX10_placeOf_12 : decode cX10_placeOf 12 = .ok (.goto 31, 3) := zo_167 (z_byk bcX10_placeOf_0 0 12 _ bcX10_placeOf_0_ok rfl) (z_byk bcX10_placeOf_0 0 13 _ bcX10_placeOf_0_ok rfl) (z_byk bcX10_placeOf_0 0 14 _ bcX10_placeOf_0_ok rfl) rfl
theorem dX10_placeOf_15 : decode cX10_placeOf 15 = .ok (.iload_n 2, 1) := zo_28 (z_byk bcX10_placeOf_0 0 15 _ bcX10_placeOf_0_ok rfl)
theorem dX10_placeOf_16 : decode cX10_placeOf 16 = .ok (.ifCond .eq 16, 3) := zo_153 (z_byk bcX10_placeOf_0 0 16 _ bcX10_placeOf_0_ok rfl) (z_byk bcX10_placeOf_0 0 17 _ bcX10_placeOf_0_ok rfl) (z_byk bcX10_placeOf_0 0 18 _ bcX10_placeOf_0_ok rfl) rfl
theorem dX10_placeOf_19 : decode cX10_placeOf 19 = .ok (.aload_n 0, 1) := zo_42 (z_byk bcX10_placeOf_0 0 19 _ bcX10_placeOf_0_ok rfl)
theorem dX10_placeOf_2 : decode cX10_placeOf 2 = .ok (.getfield 74, 3) := zo_180 (z_byk bcX10_placeOf_0 0 2 _ bcX10_placeOf_0_ok rfl) (z_byk bcX10_placeOf_0 0 3 _ bcX10_placeOf_0_ok rfl) (z_byk bcX10_placeOf_0 0 4 _ bcX10_placeOf_0_ok rfl) rfl
theorem dX10_placeOf_20 : decode cX10_placeOf 20 = .ok (.getfield 55, 3) := zo_180 (z_byk bcX10_placeOf_0 0 20 _ bcX10_placeOf_0_ok rfl) (z_byk bcX10_placeOf_0 0 21 _ bcX10_placeOf_0_ok rfl) (z_byk bcX10_placeOf_0 0 22 _ bcX10_placeOf_0_ok rfl) rfl
theorem dX10_placeOf_23 : decode cX10_placeOf 23 = .ok (.iconst 2, 1) := zo_5 (z_byk bcX10_placeOf_0 0 23 _ bcX10_placeOf_0_ok rfl)
theorem dX10_placeOf_24 : decode cX10_placeOf 24 = .ok (.iload_n 1, 1) := zo_27 (z_byk bcX10_placeOf_0 0 24 _ bcX10_placeOf_0_ok rfl)
theorem dX10_placeOf_25 : decode cX10_placeOf 25 = .ok (.imul, 1) := zo_104 (z_byk bcX10_placeOf_0 0 25 _ bcX10_placeOf_0_ok rfl)
theorem dX10_placeOf_26 : decode cX10_placeOf 26 = .ok (.iconst 1, 1) := zo_4 (z_byk bcX10_placeOf_0 0 26 _ bcX10_placeOf_0_ok rfl)
theorem dX10_placeOf_27 : decode cX10_placeOf 27 = .ok (.iadd, 1) := zo_96 (z_byk bcX10_placeOf_0 0 27 _ bcX10_placeOf_0_ok rfl)
theorem dX10_placeOf_28 : decode cX10_placeOf 28 = .ok (.iaload, 1) := zo_46 (z_byk bcX10_placeOf_0 0 28 _ bcX10_placeOf_0_ok rfl)
theorem dX10_placeOf_29 : decode cX10_placeOf 29 = .ok (.goto 14, 3) := zo_167 (z_byk bcX10_placeOf_0 0 29 _ bcX10_placeOf_0_ok rfl) (z_byk bcX10_placeOf_0 0 30 _ bcX10_placeOf_0_ok rfl) (z_byk bcX10_placeOf_0 0 31 _ bcX10_placeOf_0_ok rfl) rfl
theorem dX10_placeOf_32 : decode cX10_placeOf 32 = .ok (.aload_n 0, 1) := zo_42 (z_byk bcX10_placeOf_0 0 32 _ bcX10_placeOf_0_ok rfl)
theorem dX10_placeOf_33 : decode cX10_placeOf 33 = .ok (.getfield 52, 3) := zo_180 (z_byk bcX10_placeOf_0 0 33 _ bcX10_placeOf_0_ok rfl) (z_byk bcX10_placeOf_0 0 34 _ bcX10_placeOf_0_ok rfl) (z_byk bcX10_placeOf_0 0 35 _ bcX10_placeOf_0_ok rfl) rfl
theorem dX10_placeOf_36 : decode cX10_placeOf 36 = .ok (.bipush 48, 2) := zo_16 (z_byk bcX10_placeOf_0 0 36 _ bcX10_placeOf_0_ok rfl) (z_byk bcX10_placeOf_0 0 37 _ bcX10_placeOf_0_ok rfl) rfl
theorem dX10_placeOf_38 : decode cX10_placeOf 38 = .ok (.iload_n 1, 1) := zo_27 (z_byk bcX10_placeOf_0 0 38 _ bcX10_placeOf_0_ok rfl)
theorem dX10_placeOf_39 : decode cX10_placeOf 39 = .ok (.imul, 1) := zo_104 (z_byk bcX10_placeOf_0 0 39 _ bcX10_placeOf_0_ok rfl)
theorem dX10_placeOf_40 : decode cX10_placeOf 40 = .ok (.iload_n 3, 1) := zo_29 (z_byk bcX10_placeOf_0 0 40 _ bcX10_placeOf_0_ok rfl)
theorem dX10_placeOf_41 : decode cX10_placeOf 41 = .ok (.iadd, 1) := zo_96 (z_byk bcX10_placeOf_0 0 41 _ bcX10_placeOf_0_ok rfl)
theorem dX10_placeOf_42 : decode cX10_placeOf 42 = .ok (.iaload, 1) := zo_46 (z_byk bcX10_placeOf_0 0 42 _ bcX10_placeOf_0_ok rfl)
theorem dX10_placeOf_43 : decode cX10_placeOf 43 = .ok (.ireturn, 1) := zo_172 (z_byk bcX10_placeOf_0 0 43 _ bcX10_placeOf_0_ok rfl)
theorem dX10_placeOf_5 : decode cX10_placeOf 5 = .ok (.if_icmp .ne 10, 3) := zo_160 (z_byk bcX10_placeOf_0 0 5 _ bcX10_placeOf_0_ok rfl) (z_byk bcX10_placeOf_0 0 6 _ bcX10_placeOf_0_ok rfl) (z_byk bcX10_placeOf_0 0 7 _ bcX10_placeOf_0_ok rfl) rfl
theorem dX10_placeOf_8 : decode cX10_placeOf 8 = .ok (.aload_n 0, 1) := zo_42 (z_byk bcX10_placeOf_0 0 8 _ bcX10_placeOf_0_ok rfl)
theorem dX10_placeOf_9 : decode cX10_placeOf 9 = .ok (.getfield 265, 3) := zo_180 (z_byk bcX10_placeOf_0 0 9 _ bcX10_placeOf_0_ok rfl) (z_byk bcX10_placeOf_0 0 10 _ bcX10_placeOf_0_ok rfl) (z_byk bcX10_placeOf_0 0 11 _ bcX10_placeOf_0_ok rfl) rfl
def bcX10_sizeOf_0 : List Nat := [3, 60, 26, 61, 28, 153, 0, 15, 132, 1, 1, 28, 28, 4, 100, 126, 61, 167, 255, 243, 27, 172]
theorem bcX10_sizeOf_0_ok : z_bys cX10_sizeOf 0 bcX10_sizeOf_0 = true := by decide +kernel
theorem dX10_sizeOf_0 : decode cX10_sizeOf 0 = .ok (.iconst 0, 1) := zo_3 (z_byk bcX10_sizeOf_0 0 0 _ bcX10_sizeOf_0_ok rfl)
theorem dX10_sizeOf_1 : decode cX10_sizeOf 1 = .ok (.istore_n 1, 1) := zo_60 (z_byk bcX10_sizeOf_0 0 1 _ bcX10_sizeOf_0_ok rfl)
theorem dX10_sizeOf_11 : decode cX10_sizeOf 11 = .ok (.iload_n 2, 1) := zo_28 (z_byk bcX10_sizeOf_0 0 11 _ bcX10_sizeOf_0_ok rfl)
theorem dX10_sizeOf_12 : decode cX10_sizeOf 12 = .ok (.iload_n 2, 1) := zo_28 (z_byk bcX10_sizeOf_0 0 12 _ bcX10_sizeOf_0_ok rfl)
theorem dX10_sizeOf_13 : decode cX10_sizeOf 13 = .ok (.iconst 1, 1) := zo_4 (z_byk bcX10_sizeOf_0 0 13 _ bcX10_sizeOf_0_ok rfl)
theorem dX10_sizeOf_14 : decode cX10_sizeOf 14 = .ok (.isub, 1) := zo_100 (z_byk bcX10_sizeOf_0 0 14 _ bcX10_sizeOf_0_ok rfl)
theorem dX10_sizeOf_15 : decode cX10_sizeOf 15 = .ok (.iand, 1) := zo_126 (z_byk bcX10_sizeOf_0 0 15 _ bcX10_sizeOf_0_ok rfl)
theorem dX10_sizeOf_16 : decode cX10_sizeOf 16 = .ok (.istore_n 2, 1) := zo_61 (z_byk bcX10_sizeOf_0 0 16 _ bcX10_sizeOf_0_ok rfl)
theorem dX10_sizeOf_17 : decode cX10_sizeOf 17 = .ok (.goto (-13), 3) := zo_167 (z_byk bcX10_sizeOf_0 0 17 _ bcX10_sizeOf_0_ok rfl) (z_byk bcX10_sizeOf_0 0 18 _ bcX10_sizeOf_0_ok rfl) (z_byk bcX10_sizeOf_0 0 19 _ bcX10_sizeOf_0_ok rfl) rfl
theorem dX10_sizeOf_2 : decode cX10_sizeOf 2 = .ok (.iload_n 0, 1) := zo_26 (z_byk bcX10_sizeOf_0 0 2 _ bcX10_sizeOf_0_ok rfl)
theorem dX10_sizeOf_20 : decode cX10_sizeOf 20 = .ok (.iload_n 1, 1) := zo_27 (z_byk bcX10_sizeOf_0 0 20 _ bcX10_sizeOf_0_ok rfl)
theorem dX10_sizeOf_21 : decode cX10_sizeOf 21 = .ok (.ireturn, 1) := zo_172 (z_byk bcX10_sizeOf_0 0 21 _ bcX10_sizeOf_0_ok rfl)
theorem dX10_sizeOf_3 : decode cX10_sizeOf 3 = .ok (.istore_n 2, 1) := zo_61 (z_byk bcX10_sizeOf_0 0 3 _ bcX10_sizeOf_0_ok rfl)
theorem dX10_sizeOf_4 : decode cX10_sizeOf 4 = .ok (.iload_n 2, 1) := zo_28 (z_byk bcX10_sizeOf_0 0 4 _ bcX10_sizeOf_0_ok rfl)
theorem dX10_sizeOf_5 : decode cX10_sizeOf 5 = .ok (.ifCond .eq 15, 3) := zo_153 (z_byk bcX10_sizeOf_0 0 5 _ bcX10_sizeOf_0_ok rfl) (z_byk bcX10_sizeOf_0 0 6 _ bcX10_sizeOf_0_ok rfl) (z_byk bcX10_sizeOf_0 0 7 _ bcX10_sizeOf_0_ok rfl) rfl
theorem dX10_sizeOf_8 : decode cX10_sizeOf 8 = .ok (.iinc 1 1, 3) := zo_132 (z_byk bcX10_sizeOf_0 0 8 _ bcX10_sizeOf_0_ok rfl) (z_byk bcX10_sizeOf_0 0 9 _ bcX10_sizeOf_0_ok rfl) (z_byk bcX10_sizeOf_0 0 10 _ bcX10_sizeOf_0_ok rfl) rfl
def bcX10_sizeOr_0 : List Nat := [26, 2, 159, 0, 8, 27, 4, 160, 0, 7, 26, 167, 0, 7, 26, 184, 1, 91, 172]
theorem bcX10_sizeOr_0_ok : z_bys cX10_sizeOr 0 bcX10_sizeOr_0 = true := by decide +kernel
theorem dX10_sizeOr_0 : decode cX10_sizeOr 0 = .ok (.iload_n 0, 1) := zo_26 (z_byk bcX10_sizeOr_0 0 0 _ bcX10_sizeOr_0_ok rfl)
theorem dX10_sizeOr_1 : decode cX10_sizeOr 1 = .ok (.iconst (-1), 1) := zo_2 (z_byk bcX10_sizeOr_0 0 1 _ bcX10_sizeOr_0_ok rfl)
theorem dX10_sizeOr_10 : decode cX10_sizeOr 10 = .ok (.iload_n 0, 1) := zo_26 (z_byk bcX10_sizeOr_0 0 10 _ bcX10_sizeOr_0_ok rfl)
theorem dX10_sizeOr_11 : decode cX10_sizeOr 11 = .ok (.goto 7, 3) := zo_167 (z_byk bcX10_sizeOr_0 0 11 _ bcX10_sizeOr_0_ok rfl) (z_byk bcX10_sizeOr_0 0 12 _ bcX10_sizeOr_0_ok rfl) (z_byk bcX10_sizeOr_0 0 13 _ bcX10_sizeOr_0_ok rfl) rfl
theorem dX10_sizeOr_14 : decode cX10_sizeOr 14 = .ok (.iload_n 0, 1) := zo_26 (z_byk bcX10_sizeOr_0 0 14 _ bcX10_sizeOr_0_ok rfl)
theorem dX10_sizeOr_15 : decode cX10_sizeOr 15 = .ok (.invokestatic 347, 3) := zo_184 (z_byk bcX10_sizeOr_0 0 15 _ bcX10_sizeOr_0_ok rfl) (z_byk bcX10_sizeOr_0 0 16 _ bcX10_sizeOr_0_ok rfl) (z_byk bcX10_sizeOr_0 0 17 _ bcX10_sizeOr_0_ok rfl) rfl
theorem dX10_sizeOr_18 : decode cX10_sizeOr 18 = .ok (.ireturn, 1) := zo_172 (z_byk bcX10_sizeOr_0 0 18 _ bcX10_sizeOr_0_ok rfl)
theorem dX10_sizeOr_2 : decode cX10_sizeOr 2 = .ok (.if_icmp .eq 8, 3) := zo_159 (z_byk bcX10_sizeOr_0 0 2 _ bcX10_sizeOr_0_ok rfl) (z_byk bcX10_sizeOr_0 0 3 _ bcX10_sizeOr_0_ok rfl) (z_byk bcX10_sizeOr_0 0 4 _ bcX10_sizeOr_0_ok rfl) rfl
theorem dX10_sizeOr_5 : decode cX10_sizeOr 5 = .ok (.iload_n 1, 1) := zo_27 (z_byk bcX10_sizeOr_0 0 5 _ bcX10_sizeOr_0_ok rfl)
theorem dX10_sizeOr_6 : decode cX10_sizeOr 6 = .ok (.iconst 1, 1) := zo_4 (z_byk bcX10_sizeOr_0 0 6 _ bcX10_sizeOr_0_ok rfl)
theorem dX10_sizeOr_7 : decode cX10_sizeOr 7 = .ok (.if_icmp .ne 7, 3) := zo_160 (z_byk bcX10_sizeOr_0 0 7 _ bcX10_sizeOr_0_ok rfl) (z_byk bcX10_sizeOr_0 0 8 _ bcX10_sizeOr_0_ok rfl) (z_byk bcX10_sizeOr_0 0 9 _ bcX10_sizeOr_0_ok rfl) rfl
def bcX10_straysBy_0 : List Nat := [28, 4, 160, 0, 7, 3, 167, 0, 21, 28, 5, 160, 0, 8, 16, 100, 167, 0, 11, 42, 180, 0, 55, 5, 27, 104, 46, 172]
theorem bcX10_straysBy_0_ok : z_bys cX10_straysBy 0 bcX10_straysBy_0 = true := by decide +kernel
theorem dX10_straysBy_0 : decode cX10_straysBy 0 = .ok (.iload_n 2, 1) := zo_28 (z_byk bcX10_straysBy_0 0 0 _ bcX10_straysBy_0_ok rfl)
theorem dX10_straysBy_1 : decode cX10_straysBy 1 = .ok (.iconst 1, 1) := zo_4 (z_byk bcX10_straysBy_0 0 1 _ bcX10_straysBy_0_ok rfl)
theorem dX10_straysBy_10 : decode cX10_straysBy 10 = .ok (.iconst 2, 1) := zo_5 (z_byk bcX10_straysBy_0 0 10 _ bcX10_straysBy_0_ok rfl)
theorem dX10_straysBy_11 : decode cX10_straysBy 11 = .ok (.if_icmp .ne 8, 3) := zo_160 (z_byk bcX10_straysBy_0 0 11 _ bcX10_straysBy_0_ok rfl) (z_byk bcX10_straysBy_0 0 12 _ bcX10_straysBy_0_ok rfl) (z_byk bcX10_straysBy_0 0 13 _ bcX10_straysBy_0_ok rfl) rfl
theorem dX10_straysBy_14 : decode cX10_straysBy 14 = .ok (.bipush 100, 2) := zo_16 (z_byk bcX10_straysBy_0 0 14 _ bcX10_straysBy_0_ok rfl) (z_byk bcX10_straysBy_0 0 15 _ bcX10_straysBy_0_ok rfl) rfl
theorem dX10_straysBy_16 : decode cX10_straysBy 16 = .ok (.goto 11, 3) := zo_167 (z_byk bcX10_straysBy_0 0 16 _ bcX10_straysBy_0_ok rfl) (z_byk bcX10_straysBy_0 0 17 _ bcX10_straysBy_0_ok rfl) (z_byk bcX10_straysBy_0 0 18 _ bcX10_straysBy_0_ok rfl) rfl
theorem dX10_straysBy_19 : decode cX10_straysBy 19 = .ok (.aload_n 0, 1) := zo_42 (z_byk bcX10_straysBy_0 0 19 _ bcX10_straysBy_0_ok rfl)
theorem dX10_straysBy_2 : decode cX10_straysBy 2 = .ok (.if_icmp .ne 7, 3) := zo_160 (z_byk bcX10_straysBy_0 0 2 _ bcX10_straysBy_0_ok rfl) (z_byk bcX10_straysBy_0 0 3 _ bcX10_straysBy_0_ok rfl) (z_byk bcX10_straysBy_0 0 4 _ bcX10_straysBy_0_ok rfl) rfl
theorem dX10_straysBy_20 : decode cX10_straysBy 20 = .ok (.getfield 55, 3) := zo_180 (z_byk bcX10_straysBy_0 0 20 _ bcX10_straysBy_0_ok rfl) (z_byk bcX10_straysBy_0 0 21 _ bcX10_straysBy_0_ok rfl) (z_byk bcX10_straysBy_0 0 22 _ bcX10_straysBy_0_ok rfl) rfl
theorem dX10_straysBy_23 : decode cX10_straysBy 23 = .ok (.iconst 2, 1) := zo_5 (z_byk bcX10_straysBy_0 0 23 _ bcX10_straysBy_0_ok rfl)
theorem dX10_straysBy_24 : decode cX10_straysBy 24 = .ok (.iload_n 1, 1) := zo_27 (z_byk bcX10_straysBy_0 0 24 _ bcX10_straysBy_0_ok rfl)
theorem dX10_straysBy_25 : decode cX10_straysBy 25 = .ok (.imul, 1) := zo_104 (z_byk bcX10_straysBy_0 0 25 _ bcX10_straysBy_0_ok rfl)
theorem dX10_straysBy_26 : decode cX10_straysBy 26 = .ok (.iaload, 1) := zo_46 (z_byk bcX10_straysBy_0 0 26 _ bcX10_straysBy_0_ok rfl)
theorem dX10_straysBy_27 : decode cX10_straysBy 27 = .ok (.ireturn, 1) := zo_172 (z_byk bcX10_straysBy_0 0 27 _ bcX10_straysBy_0_ok rfl)
theorem dX10_straysBy_5 : decode cX10_straysBy 5 = .ok (.iconst 0, 1) := zo_3 (z_byk bcX10_straysBy_0 0 5 _ bcX10_straysBy_0_ok rfl)
theorem dX10_straysBy_6 : decode cX10_straysBy 6 = .ok (.goto 21, 3) := zo_167 (z_byk bcX10_straysBy_0 0 6 _ bcX10_straysBy_0_ok rfl) (z_byk bcX10_straysBy_0 0 7 _ bcX10_straysBy_0_ok rfl) (z_byk bcX10_straysBy_0 0 8 _ bcX10_straysBy_0_ok rfl) rfl
theorem dX10_straysBy_9 : decode cX10_straysBy 9 = .ok (.iload_n 2, 1) := zo_28 (z_byk bcX10_straysBy_0 0 9 _ bcX10_straysBy_0_ok rfl)
def bcX10_surely_0 : List Nat := [3, 60, 3, 61, 28, 42, 180, 0, 49, 3, 46, 162, 0, 28, 27, 42, 180, 0, 68, 28, 46, 153, 0, 9, 4, 28, 120, 167, 0, 4, 3, 128, 60, 132, 2, 1, 167, 255, 224, 27, 172]
theorem bcX10_surely_0_ok : z_bys cX10_surely 0 bcX10_surely_0 = true := by decide +kernel
theorem dX10_surely_0 : decode cX10_surely 0 = .ok (.iconst 0, 1) := zo_3 (z_byk bcX10_surely_0 0 0 _ bcX10_surely_0_ok rfl)
theorem dX10_surely_1 : decode cX10_surely 1 = .ok (.istore_n 1, 1) := zo_60 (z_byk bcX10_surely_0 0 1 _ bcX10_surely_0_ok rfl)
theorem dX10_surely_10 : decode cX10_surely 10 = .ok (.iaload, 1) := zo_46 (z_byk bcX10_surely_0 0 10 _ bcX10_surely_0_ok rfl)
theorem dX10_surely_11 : decode cX10_surely 11 = .ok (.if_icmp .ge 28, 3) := zo_162 (z_byk bcX10_surely_0 0 11 _ bcX10_surely_0_ok rfl) (z_byk bcX10_surely_0 0 12 _ bcX10_surely_0_ok rfl) (z_byk bcX10_surely_0 0 13 _ bcX10_surely_0_ok rfl) rfl
theorem dX10_surely_14 : decode cX10_surely 14 = .ok (.iload_n 1, 1) := zo_27 (z_byk bcX10_surely_0 0 14 _ bcX10_surely_0_ok rfl)
theorem dX10_surely_15 : decode cX10_surely 15 = .ok (.aload_n 0, 1) := zo_42 (z_byk bcX10_surely_0 0 15 _ bcX10_surely_0_ok rfl)
theorem dX10_surely_16 : decode cX10_surely 16 = .ok (.getfield 68, 3) := zo_180 (z_byk bcX10_surely_0 0 16 _ bcX10_surely_0_ok rfl) (z_byk bcX10_surely_0 0 17 _ bcX10_surely_0_ok rfl) (z_byk bcX10_surely_0 0 18 _ bcX10_surely_0_ok rfl) rfl
theorem dX10_surely_19 : decode cX10_surely 19 = .ok (.iload_n 2, 1) := zo_28 (z_byk bcX10_surely_0 0 19 _ bcX10_surely_0_ok rfl)
theorem dX10_surely_2 : decode cX10_surely 2 = .ok (.iconst 0, 1) := zo_3 (z_byk bcX10_surely_0 0 2 _ bcX10_surely_0_ok rfl)
theorem dX10_surely_20 : decode cX10_surely 20 = .ok (.iaload, 1) := zo_46 (z_byk bcX10_surely_0 0 20 _ bcX10_surely_0_ok rfl)
theorem dX10_surely_21 : decode cX10_surely 21 = .ok (.ifCond .eq 9, 3) := zo_153 (z_byk bcX10_surely_0 0 21 _ bcX10_surely_0_ok rfl) (z_byk bcX10_surely_0 0 22 _ bcX10_surely_0_ok rfl) (z_byk bcX10_surely_0 0 23 _ bcX10_surely_0_ok rfl) rfl
theorem dX10_surely_24 : decode cX10_surely 24 = .ok (.iconst 1, 1) := zo_4 (z_byk bcX10_surely_0 0 24 _ bcX10_surely_0_ok rfl)
theorem dX10_surely_25 : decode cX10_surely 25 = .ok (.iload_n 2, 1) := zo_28 (z_byk bcX10_surely_0 0 25 _ bcX10_surely_0_ok rfl)
theorem dX10_surely_26 : decode cX10_surely 26 = .ok (.ishl, 1) := zo_120 (z_byk bcX10_surely_0 0 26 _ bcX10_surely_0_ok rfl)
theorem dX10_surely_27 : decode cX10_surely 27 = .ok (.goto 4, 3) := zo_167 (z_byk bcX10_surely_0 0 27 _ bcX10_surely_0_ok rfl) (z_byk bcX10_surely_0 0 28 _ bcX10_surely_0_ok rfl) (z_byk bcX10_surely_0 0 29 _ bcX10_surely_0_ok rfl) rfl
theorem dX10_surely_3 : decode cX10_surely 3 = .ok (.istore_n 2, 1) := zo_61 (z_byk bcX10_surely_0 0 3 _ bcX10_surely_0_ok rfl)
theorem dX10_surely_30 : decode cX10_surely 30 = .ok (.iconst 0, 1) := zo_3 (z_byk bcX10_surely_0 0 30 _ bcX10_surely_0_ok rfl)
theorem dX10_surely_31 : decode cX10_surely 31 = .ok (.ior, 1) := zo_128 (z_byk bcX10_surely_0 0 31 _ bcX10_surely_0_ok rfl)
theorem dX10_surely_32 : decode cX10_surely 32 = .ok (.istore_n 1, 1) := zo_60 (z_byk bcX10_surely_0 0 32 _ bcX10_surely_0_ok rfl)
theorem dX10_surely_33 : decode cX10_surely 33 = .ok (.iinc 2 1, 3) := zo_132 (z_byk bcX10_surely_0 0 33 _ bcX10_surely_0_ok rfl) (z_byk bcX10_surely_0 0 34 _ bcX10_surely_0_ok rfl) (z_byk bcX10_surely_0 0 35 _ bcX10_surely_0_ok rfl) rfl
theorem dX10_surely_36 : decode cX10_surely 36 = .ok (.goto (-32), 3) := zo_167 (z_byk bcX10_surely_0 0 36 _ bcX10_surely_0_ok rfl) (z_byk bcX10_surely_0 0 37 _ bcX10_surely_0_ok rfl) (z_byk bcX10_surely_0 0 38 _ bcX10_surely_0_ok rfl) rfl
theorem dX10_surely_39 : decode cX10_surely 39 = .ok (.iload_n 1, 1) := zo_27 (z_byk bcX10_surely_0 0 39 _ bcX10_surely_0_ok rfl)
theorem dX10_surely_4 : decode cX10_surely 4 = .ok (.iload_n 2, 1) := zo_28 (z_byk bcX10_surely_0 0 4 _ bcX10_surely_0_ok rfl)
theorem dX10_surely_40 : decode cX10_surely 40 = .ok (.ireturn, 1) := zo_172 (z_byk bcX10_surely_0 0 40 _ bcX10_surely_0_ok rfl)
theorem dX10_surely_5 : decode cX10_surely 5 = .ok (.aload_n 0, 1) := zo_42 (z_byk bcX10_surely_0 0 5 _ bcX10_surely_0_ok rfl)
theorem dX10_surely_6 : decode cX10_surely 6 = .ok (.getfield 49, 3) := zo_180 (z_byk bcX10_surely_0 0 6 _ bcX10_surely_0_ok rfl) (z_byk bcX10_surely_0 0 7 _ bcX10_surely_0_ok rfl) (z_byk bcX10_surely_0 0 8 _ bcX10_surely_0_ok rfl) rfl
theorem dX10_surely_9 : decode cX10_surely 9 = .ok (.iconst 0, 1) := zo_3 (z_byk bcX10_surely_0 0 9 _ bcX10_surely_0_ok rfl)
def bcX10_withinOf_0 : List Nat := [3, 62, 3, 54, 4, 21, 4, 42, 180, 0, 49, 3, 46, 162, 0, 63, 42, 180, 1, 23, 21, 4, 122, 4, 126, 4, 160, 0, 12, 42, 3, 27, 182, 1, 20, 167, 0, 17, 42, 21, 4, 42, 21, 4, 182, 1, 26, 27, 28, 182, 1, 29, 54, 5, 29, 21, 5, 153, 0, 10]
theorem bcX10_withinOf_0_ok : z_bys cX10_withinOf 0 bcX10_withinOf_0 = true := by decide +kernel
def bcX10_withinOf_60 : List Nat := [4, 21, 4, 120, 167, 0, 4, 3, 128, 62, 132, 4, 1, 167, 255, 188, 29, 172]
theorem bcX10_withinOf_60_ok : z_bys cX10_withinOf 60 bcX10_withinOf_60 = true := by decide +kernel
theorem dX10_withinOf_0 : decode cX10_withinOf 0 = .ok (.iconst 0, 1) := zo_3 (z_byk bcX10_withinOf_0 0 0 _ bcX10_withinOf_0_ok rfl)
theorem dX10_withinOf_1 : decode cX10_withinOf 1 = .ok (.istore_n 3, 1) := zo_62 (z_byk bcX10_withinOf_0 0 1 _ bcX10_withinOf_0_ok rfl)
theorem dX10_withinOf_11 : decode cX10_withinOf 11 = .ok (.iconst 0, 1) := zo_3 (z_byk bcX10_withinOf_0 0 11 _ bcX10_withinOf_0_ok rfl)
theorem dX10_withinOf_12 : decode cX10_withinOf 12 = .ok (.iaload, 1) := zo_46 (z_byk bcX10_withinOf_0 0 12 _ bcX10_withinOf_0_ok rfl)
theorem dX10_withinOf_13 : decode cX10_withinOf 13 = .ok (.if_icmp .ge 63, 3) := zo_162 (z_byk bcX10_withinOf_0 0 13 _ bcX10_withinOf_0_ok rfl) (z_byk bcX10_withinOf_0 0 14 _ bcX10_withinOf_0_ok rfl) (z_byk bcX10_withinOf_0 0 15 _ bcX10_withinOf_0_ok rfl) rfl
theorem dX10_withinOf_16 : decode cX10_withinOf 16 = .ok (.aload_n 0, 1) := zo_42 (z_byk bcX10_withinOf_0 0 16 _ bcX10_withinOf_0_ok rfl)
theorem dX10_withinOf_17 : decode cX10_withinOf 17 = .ok (.getfield 279, 3) := zo_180 (z_byk bcX10_withinOf_0 0 17 _ bcX10_withinOf_0_ok rfl) (z_byk bcX10_withinOf_0 0 18 _ bcX10_withinOf_0_ok rfl) (z_byk bcX10_withinOf_0 0 19 _ bcX10_withinOf_0_ok rfl) rfl
theorem dX10_withinOf_2 : decode cX10_withinOf 2 = .ok (.iconst 0, 1) := zo_3 (z_byk bcX10_withinOf_0 0 2 _ bcX10_withinOf_0_ok rfl)
theorem dX10_withinOf_20 : decode cX10_withinOf 20 = .ok (.iload 4, 2) := zo_21 (z_byk bcX10_withinOf_0 0 20 _ bcX10_withinOf_0_ok rfl) (z_byk bcX10_withinOf_0 0 21 _ bcX10_withinOf_0_ok rfl)
theorem dX10_withinOf_22 : decode cX10_withinOf 22 = .ok (.ishr, 1) := zo_122 (z_byk bcX10_withinOf_0 0 22 _ bcX10_withinOf_0_ok rfl)
theorem dX10_withinOf_23 : decode cX10_withinOf 23 = .ok (.iconst 1, 1) := zo_4 (z_byk bcX10_withinOf_0 0 23 _ bcX10_withinOf_0_ok rfl)
theorem dX10_withinOf_24 : decode cX10_withinOf 24 = .ok (.iand, 1) := zo_126 (z_byk bcX10_withinOf_0 0 24 _ bcX10_withinOf_0_ok rfl)
theorem dX10_withinOf_25 : decode cX10_withinOf 25 = .ok (.iconst 1, 1) := zo_4 (z_byk bcX10_withinOf_0 0 25 _ bcX10_withinOf_0_ok rfl)
theorem dX10_withinOf_26 : decode cX10_withinOf 26 = .ok (.if_icmp .ne 12, 3) := zo_160 (z_byk bcX10_withinOf_0 0 26 _ bcX10_withinOf_0_ok rfl) (z_byk bcX10_withinOf_0 0 27 _ bcX10_withinOf_0_ok rfl) (z_byk bcX10_withinOf_0 0 28 _ bcX10_withinOf_0_ok rfl) rfl
theorem dX10_withinOf_29 : decode cX10_withinOf 29 = .ok (.aload_n 0, 1) := zo_42 (z_byk bcX10_withinOf_0 0 29 _ bcX10_withinOf_0_ok rfl)
theorem dX10_withinOf_3 : decode cX10_withinOf 3 = .ok (.istore 4, 2) := zo_54 (z_byk bcX10_withinOf_0 0 3 _ bcX10_withinOf_0_ok rfl) (z_byk bcX10_withinOf_0 0 4 _ bcX10_withinOf_0_ok rfl)
theorem dX10_withinOf_30 : decode cX10_withinOf 30 = .ok (.iconst 0, 1) := zo_3 (z_byk bcX10_withinOf_0 0 30 _ bcX10_withinOf_0_ok rfl)
theorem dX10_withinOf_31 : decode cX10_withinOf 31 = .ok (.iload_n 1, 1) := zo_27 (z_byk bcX10_withinOf_0 0 31 _ bcX10_withinOf_0_ok rfl)
theorem dX10_withinOf_32 : decode cX10_withinOf 32 = .ok (.invokevirtual 276, 3) := zo_182 (z_byk bcX10_withinOf_0 0 32 _ bcX10_withinOf_0_ok rfl) (z_byk bcX10_withinOf_0 0 33 _ bcX10_withinOf_0_ok rfl) (z_byk bcX10_withinOf_0 0 34 _ bcX10_withinOf_0_ok rfl) rfl
theorem dX10_withinOf_35 : decode cX10_withinOf 35 = .ok (.goto 17, 3) := zo_167 (z_byk bcX10_withinOf_0 0 35 _ bcX10_withinOf_0_ok rfl) (z_byk bcX10_withinOf_0 0 36 _ bcX10_withinOf_0_ok rfl) (z_byk bcX10_withinOf_0 0 37 _ bcX10_withinOf_0_ok rfl) rfl
theorem dX10_withinOf_38 : decode cX10_withinOf 38 = .ok (.aload_n 0, 1) := zo_42 (z_byk bcX10_withinOf_0 0 38 _ bcX10_withinOf_0_ok rfl)
theorem dX10_withinOf_39 : decode cX10_withinOf 39 = .ok (.iload 4, 2) := zo_21 (z_byk bcX10_withinOf_0 0 39 _ bcX10_withinOf_0_ok rfl) (z_byk bcX10_withinOf_0 0 40 _ bcX10_withinOf_0_ok rfl)
theorem dX10_withinOf_41 : decode cX10_withinOf 41 = .ok (.aload_n 0, 1) := zo_42 (z_byk bcX10_withinOf_0 0 41 _ bcX10_withinOf_0_ok rfl)
theorem dX10_withinOf_42 : decode cX10_withinOf 42 = .ok (.iload 4, 2) := zo_21 (z_byk bcX10_withinOf_0 0 42 _ bcX10_withinOf_0_ok rfl) (z_byk bcX10_withinOf_0 0 43 _ bcX10_withinOf_0_ok rfl)
theorem dX10_withinOf_44 : decode cX10_withinOf 44 = .ok (.invokevirtual 282, 3) := zo_182 (z_byk bcX10_withinOf_0 0 44 _ bcX10_withinOf_0_ok rfl) (z_byk bcX10_withinOf_0 0 45 _ bcX10_withinOf_0_ok rfl) (z_byk bcX10_withinOf_0 0 46 _ bcX10_withinOf_0_ok rfl) rfl
theorem dX10_withinOf_47 : decode cX10_withinOf 47 = .ok (.iload_n 1, 1) := zo_27 (z_byk bcX10_withinOf_0 0 47 _ bcX10_withinOf_0_ok rfl)
theorem dX10_withinOf_48 : decode cX10_withinOf 48 = .ok (.iload_n 2, 1) := zo_28 (z_byk bcX10_withinOf_0 0 48 _ bcX10_withinOf_0_ok rfl)
theorem dX10_withinOf_49 : decode cX10_withinOf 49 = .ok (.invokevirtual 285, 3) := zo_182 (z_byk bcX10_withinOf_0 0 49 _ bcX10_withinOf_0_ok rfl) (z_byk bcX10_withinOf_0 0 50 _ bcX10_withinOf_0_ok rfl) (z_byk bcX10_withinOf_0 0 51 _ bcX10_withinOf_0_ok rfl) rfl
theorem dX10_withinOf_5 : decode cX10_withinOf 5 = .ok (.iload 4, 2) := zo_21 (z_byk bcX10_withinOf_0 0 5 _ bcX10_withinOf_0_ok rfl) (z_byk bcX10_withinOf_0 0 6 _ bcX10_withinOf_0_ok rfl)
theorem dX10_withinOf_52 : decode cX10_withinOf 52 = .ok (.istore 5, 2) := zo_54 (z_byk bcX10_withinOf_0 0 52 _ bcX10_withinOf_0_ok rfl) (z_byk bcX10_withinOf_0 0 53 _ bcX10_withinOf_0_ok rfl)
theorem dX10_withinOf_54 : decode cX10_withinOf 54 = .ok (.iload_n 3, 1) := zo_29 (z_byk bcX10_withinOf_0 0 54 _ bcX10_withinOf_0_ok rfl)
theorem dX10_withinOf_55 : decode cX10_withinOf 55 = .ok (.iload 5, 2) := zo_21 (z_byk bcX10_withinOf_0 0 55 _ bcX10_withinOf_0_ok rfl) (z_byk bcX10_withinOf_0 0 56 _ bcX10_withinOf_0_ok rfl)
theorem dX10_withinOf_57 : decode cX10_withinOf 57 = .ok (.ifCond .eq 10, 3) := zo_153 (z_byk bcX10_withinOf_0 0 57 _ bcX10_withinOf_0_ok rfl) (z_byk bcX10_withinOf_0 0 58 _ bcX10_withinOf_0_ok rfl) (z_byk bcX10_withinOf_0 0 59 _ bcX10_withinOf_0_ok rfl) rfl
theorem dX10_withinOf_60 : decode cX10_withinOf 60 = .ok (.iconst 1, 1) := zo_4 (z_byk bcX10_withinOf_60 60 0 _ bcX10_withinOf_60_ok rfl)
theorem dX10_withinOf_61 : decode cX10_withinOf 61 = .ok (.iload 4, 2) := zo_21 (z_byk bcX10_withinOf_60 60 1 _ bcX10_withinOf_60_ok rfl) (z_byk bcX10_withinOf_60 60 2 _ bcX10_withinOf_60_ok rfl)
theorem dX10_withinOf_63 : decode cX10_withinOf 63 = .ok (.ishl, 1) := zo_120 (z_byk bcX10_withinOf_60 60 3 _ bcX10_withinOf_60_ok rfl)
theorem dX10_withinOf_64 : decode cX10_withinOf 64 = .ok (.goto 4, 3) := zo_167 (z_byk bcX10_withinOf_60 60 4 _ bcX10_withinOf_60_ok rfl) (z_byk bcX10_withinOf_60 60 5 _ bcX10_withinOf_60_ok rfl) (z_byk bcX10_withinOf_60 60 6 _ bcX10_withinOf_60_ok rfl) rfl
theorem dX10_withinOf_67 : decode cX10_withinOf 67 = .ok (.iconst 0, 1) := zo_3 (z_byk bcX10_withinOf_60 60 7 _ bcX10_withinOf_60_ok rfl)
theorem dX10_withinOf_68 : decode cX10_withinOf 68 = .ok (.ior, 1) := zo_128 (z_byk bcX10_withinOf_60 60 8 _ bcX10_withinOf_60_ok rfl)
theorem dX10_withinOf_69 : decode cX10_withinOf 69 = .ok (.istore_n 3, 1) := zo_62 (z_byk bcX10_withinOf_60 60 9 _ bcX10_withinOf_60_ok rfl)
theorem dX10_withinOf_7 : decode cX10_withinOf 7 = .ok (.aload_n 0, 1) := zo_42 (z_byk bcX10_withinOf_0 0 7 _ bcX10_withinOf_0_ok rfl)
theorem dX10_withinOf_70 : decode cX10_withinOf 70 = .ok (.iinc 4 1, 3) := zo_132 (z_byk bcX10_withinOf_60 60 10 _ bcX10_withinOf_60_ok rfl) (z_byk bcX10_withinOf_60 60 11 _ bcX10_withinOf_60_ok rfl) (z_byk bcX10_withinOf_60 60 12 _ bcX10_withinOf_60_ok rfl) rfl
theorem dX10_withinOf_73 : decode cX10_withinOf 73 = .ok (.goto (-68), 3) := zo_167 (z_byk bcX10_withinOf_60 60 13 _ bcX10_withinOf_60_ok rfl) (z_byk bcX10_withinOf_60 60 14 _ bcX10_withinOf_60_ok rfl) (z_byk bcX10_withinOf_60 60 15 _ bcX10_withinOf_60_ok rfl) rfl
theorem dX10_withinOf_76 : decode cX10_withinOf 76 = .ok (.iload_n 3, 1) := zo_29 (z_byk bcX10_withinOf_60 60 16 _ bcX10_withinOf_60_ok rfl)
theorem dX10_withinOf_77 : decode cX10_withinOf 77 = .ok (.ireturn, 1) := zo_172 (z_byk bcX10_withinOf_60 60 17 _ bcX10_withinOf_60_ok rfl)
theorem dX10_withinOf_8 : decode cX10_withinOf 8 = .ok (.getfield 49, 3) := zo_180 (z_byk bcX10_withinOf_0 0 8 _ bcX10_withinOf_0_ok rfl) (z_byk bcX10_withinOf_0 0 9 _ bcX10_withinOf_0_ok rfl) (z_byk bcX10_withinOf_0 0 10 _ bcX10_withinOf_0_ok rfl) rfl
set_option maxHeartbeats 4000000 in
set_option maxRecDepth 100000 in
theorem k_X10_in (l : Launch) (sa : Nat → Nat) (dC : Nat → ClassId) (dI : Nat → Nat → Nat) (p0 : Int64) (p1 : Int64) (p2 : Int64)  (sz : Nat) : Met l yX10_in (.code yX10_in cX10_in 6 (some .boolean) :: zT) ({ frames := 0, cells := 0, slots := 0, locals := 0 }) (va_Pc [.long p0, .long p1, .long p2] (zB sa dC dI [] [] sz)) (va_Qi (fun (r : Int32) (_ : Unit) => (0 ≤ r.toInt ∧ r.toInt ≤ 1) ∧ (r.toInt = 0 ∨ (p1.toInt ≤ p0.toInt ∧ p0.toInt ≤ p2.toInt))) (fun _ t => zW dC dI [] [] (va_A [] sz) t) (va_A [] sz)) 0 0 (va_A [] sz) := by
  refine z_enter (by decide) (by exact (Nat.le_of_ble_eq_true rfl)) ?_
  intro p e s m args below meth c ls A R Qc hargs hsz hQe hAe hRe hx hb hml hr hts hown hlocks hin hl hP hK hD hN hXs hA hS
  rw [hAe] at hQe
  have hown : s.vm.findClass RX10 = some m.cls := hown
  have hl : lv_has ls 6 [(0, .long p0), (2, .long p1), (4, .long p2)] := hl
  refine lv_lload_n hx hb dX10_in_0 rfl (lv_at hl 0 rfl) ?_
  refine lv_lload_n hx hb dX10_in_1 rfl (lv_at hl 1 rfl) ?_
  refine W.lcmp hx hb dX10_in_2 ?_
  refine lv_if_lt (tgt := 17) hx hb dX10_in_3 (by decide) (fun c_1 => ?_) (fun c_1 => ?_)
  · have ic_1 := zl_lt rfl rfl c_1
    refine lv_iconst (v := 0) hx hb dX10_in_17 (by decide) ?_
    have zc : Int32.toInt 0 = 0 := by decide
    exact W.zret (v := 0) hx hb hr (by decide) (fun t ht hW => by rw [← hQe]; exact ⟨⟨0, (), rfl, (by first | decide | omega), z_ret hP hK hD ht hW [] [] rfl (by decide) rfl⟩, hS.F ht⟩) hS.2.2 dX10_in_18
  · have ic_1 := zl_nlt rfl rfl c_1
    refine lv_lload_n hx hb dX10_in_6 rfl (lv_at hl 0 rfl) ?_
    refine lv_lload hx hb dX10_in_7 (lv_at hl 2 rfl) ?_
    refine W.lcmp hx hb dX10_in_9 ?_
    refine lv_if_gt (tgt := 17) hx hb dX10_in_10 (by decide) (fun c_2 => ?_) (fun c_2 => ?_)
    · have ic_2 := zl_gt rfl rfl c_2
      refine lv_iconst (v := 0) hx hb dX10_in_17 (by decide) ?_
      have zc : Int32.toInt 0 = 0 := by decide
      exact W.zret (v := 0) hx hb hr (by decide) (fun t ht hW => by rw [← hQe]; exact ⟨⟨0, (), rfl, (by first | decide | omega), z_ret hP hK hD ht hW [] [] rfl (by decide) rfl⟩, hS.F ht⟩) hS.2.2 dX10_in_18
    · have ic_2 := zl_ngt rfl rfl c_2
      refine lv_iconst (v := 1) hx hb dX10_in_13 (by decide) ?_
      refine lv_goto (tgt := 18) hx hb dX10_in_14 (by decide) ?_
      have zc : Int32.toInt 1 = 1 := by decide
      exact W.zret (v := 1) hx hb hr (by decide) (fun t ht hW => by rw [← hQe]; exact ⟨⟨1, (), rfl, (by first | decide | omega), z_ret hP hK hD ht hW [] [] rfl (by decide) rfl⟩, hS.F ht⟩) hS.2.2 dX10_in_18
set_option maxHeartbeats 4000000 in
set_option maxRecDepth 100000 in
theorem k_X10_isSlot (l : Launch) (sa : Nat → Nat) (dC : Nat → ClassId) (dI : Nat → Nat → Nat) (p0 : Int32)  (sz : Nat) : Met l yX10_isSlot (.code yX10_isSlot cX10_isSlot 1 (some .boolean) :: zT) ({ frames := 1, cells := 0, slots := 0, locals := 25 }) (va_Pc [.int p0] (zB sa dC dI [] [] sz)) (va_Qi (fun (r : Int32) (_ : Unit) => (0 ≤ r.toInt ∧ r.toInt ≤ 1) ∧ (r.toInt = 0 ∨ (0 ≤ p0.toInt ∧ p0.toInt ≤ 3))) (fun _ t => zW dC dI [] [] (va_A [] sz) t) (va_A [] sz)) 0 0 (va_A [] sz) := by
  refine z_enter (by decide) (by exact (Nat.le_of_ble_eq_true rfl)) ?_
  intro p e s m args below meth c ls A R Qc hargs hsz hQe hAe hRe hx hb hml hr hts hown hlocks hin hl hP hK hD hN hXs hA hS
  rw [hAe] at hQe
  have hown : s.vm.findClass RX10 = some m.cls := hown
  have hl : lv_has ls 1 [(0, .int p0)] := hl
  refine lv_iload_n hx hb dX10_isSlot_0 rfl (lv_at hl 0 rfl) ?_
  refine lv_i2l (v := _) hx hb dX10_isSlot_1 rfl ?_
  refine lv_topl (fun x_1 ex_1 => ?_)
  have b_x_1 : x_1.toInt = p0.toInt := by rw [ex_1]; exact z_l64 _
  refine lv_lconst (v := 0) hx hb dX10_isSlot_2 (by decide) ?_
  refine lv_ldc2 (v := 3) hx hb hown (hts _ zw_t7_28) dX10_isSlot_3 ?_
  obtain ⟨hPc, hDc, hFc⟩ := z_cut (wc := []) hP hD hS hA [] rfl (by decide +kernel)
  have hKc := hK.sub (tys' := []) [] rfl
  refine va_calli (va_runS (As := [.long x_1, .long 0, .long 3]) (rest := []) ⟨hx, hb, hml, hown, hts⟩ (k_X10_in l sa dC dI x_1 (0) (3) s.heap.size) (va_cwS 3 hts (z_gS zw_t7_29 zw_t7_30 zw_t1_11 zw_t7_31) rfl rfl rfl (by decide +kernel) (by rw [← hRe]; exact ⟨(Nat.le_of_ble_eq_true rfl), (Nat.le_of_ble_eq_true rfl)⟩)) (z_preS hPc hKc hDc hN hXs hS hFc) rfl rfl hl.1 rfl (lv_room (Nat.le_of_ble_eq_true rfl)) dX10_isSlot_6 (by rw [← hRe]; exact ⟨(Nat.le_of_ble_eq_true rfl), (Nat.le_of_ble_eq_true rfl)⟩)) hS (fun q _ h => hFc q h) hFc (fun r_2 u t H1 locs ht hvm hw hB hz1 hk1 hS => ?_)
  obtain ⟨hP, hD, hK⟩ := z_after3 (wn := []) hB ht hvm hP hD hK [] [] rfl 0 rfl (by decide +kernel) rfl (by decide +kernel) hk1 hFc
  generalize H1 = H at hP hS ⊢
  have hK : va_K (dC, dI) vwCl [] s := hK
  have b_r_2 : 0 ≤ r_2.toInt ∧ r_2.toInt ≤ 1 := hw.1
  have s_r_2 := hw.2
  have zal_0 : Int64.toInt 0 = 0 := by decide
  have zal_3 : Int64.toInt 3 = 3 := by decide
  exact W.zret (v := r_2) hx hb hr (zi_bool (by first | with_reducible assumption | omega)) (fun t ht hW => by rw [← hQe]; exact ⟨⟨r_2, (), rfl, (by first | decide | omega), z_ret hP hK hD ht hW [] [] rfl (by decide) rfl⟩, hS.F ht⟩) hS.2.2 dX10_isSlot_9
set_option maxHeartbeats 4000000 in
set_option maxRecDepth 100000 in
theorem k_X10_cut (l : Launch) (sa : Nat → Nat) (dC : Nat → ClassId) (dI : Nat → Nat → Nat) (p0 : Int64) (p1 : Int32)  (sz : Nat) : Met l yX10_cut (.code yX10_cut cX10_cut 3 (some .long) :: zT) ({ frames := 0, cells := 0, slots := 0, locals := 0 }) (va_Pc [.long p0, .int p1] (zB sa dC dI [] [] sz)) (va_Ql (fun (r : Int64) (_ : Unit) => True) (fun _ t => zW dC dI [] [] (va_A [] sz) t) (va_A [] sz)) 0 0 (va_A [] sz) := by
  refine z_enter (by decide) (by exact (Nat.le_of_ble_eq_true rfl)) ?_
  intro p e s m args below meth c ls A R Qc hargs hsz hQe hAe hRe hx hb hml hr hts hown hlocks hin hl hP hK hD hN hXs hA hS
  rw [hAe] at hQe
  have hown : s.vm.findClass RX10 = some m.cls := hown
  have hl : lv_has ls 3 [(0, .long p0), (2, .int p1)] := hl
  refine lv_iload_n hx hb dX10_cut_0 rfl (lv_at hl 1 rfl) ?_
  have nb_p1 := zi_nb p1
  refine lv_if_ne (tgt := 11) hx hb dX10_cut_1 (by decide) (fun c_1 => ?_) (fun c_1 => ?_)
  · have ic_1 := zz_ne rfl (show Int32.toInt 0 = 0 from by decide) c_1
    refine lv_iload_n hx hb dX10_cut_11 rfl (lv_at hl 1 rfl) ?_
    refine lv_iconst (v := 1) hx hb dX10_cut_12 (by decide) ?_
    refine lv_icmp_ne (tgt := 23) hx hb dX10_cut_13 (by decide) (fun c_2 => ?_) (fun c_2 => ?_)
    · have ic_2 := zz_ne rfl (show Int32.toInt 1 = 1 from by decide) c_2
      refine lv_iload_n hx hb dX10_cut_23 rfl (lv_at hl 1 rfl) ?_
      refine lv_iconst (v := 2) hx hb dX10_cut_24 (by decide) ?_
      refine lv_icmp_ne (tgt := 34) hx hb dX10_cut_25 (by decide) (fun c_3 => ?_) (fun c_3 => ?_)
      · have ic_3 := zz_ne rfl (show Int32.toInt 2 = 2 from by decide) c_3
        refine lv_lload_n hx hb dX10_cut_34 rfl (lv_at hl 0 rfl) ?_
        exact W.lret (v := p0) hx hb hr (fun t ht hW => by rw [← hQe]; exact ⟨⟨p0, (), rfl, trivial, z_ret hP hK hD ht hW [] [] rfl (by decide) rfl⟩, hS.F ht⟩) hS.2.2 dX10_cut_35
      · have ic_3 := zz_nne rfl (show Int32.toInt 2 = 2 from by decide) c_3
        refine lv_lload_n hx hb dX10_cut_28 rfl (lv_at hl 0 rfl) ?_
        refine lv_l2i (v := _) hx hb dX10_cut_29 rfl ?_
        refine lv_topi (fun x_4 ex_4 => ?_)
        refine lv_i2l (v := _) hx hb dX10_cut_30 rfl ?_
        refine lv_topl (fun x_5 ex_5 => ?_)
        have b_x_5 : x_5.toInt = x_4.toInt := by rw [ex_5]; exact z_l64 _
        refine lv_goto (tgt := 35) hx hb dX10_cut_31 (by decide) ?_
        exact W.lret (v := x_5) hx hb hr (fun t ht hW => by rw [← hQe]; exact ⟨⟨x_5, (), rfl, trivial, z_ret hP hK hD ht hW [] [] rfl (by decide) rfl⟩, hS.F ht⟩) hS.2.2 dX10_cut_35
    · have ic_2 := zz_nne rfl (show Int32.toInt 1 = 1 from by decide) c_2
      refine lv_lload_n hx hb dX10_cut_16 rfl (lv_at hl 0 rfl) ?_
      refine lv_l2i (v := _) hx hb dX10_cut_17 rfl ?_
      refine lv_topi (fun x_6 ex_6 => ?_)
      refine lv_i2s (v := _) hx hb dX10_cut_18 rfl ?_
      refine lv_topi (fun x_7 ex_7 => ?_)
      refine lv_i2l (v := _) hx hb dX10_cut_19 rfl ?_
      refine lv_topl (fun x_8 ex_8 => ?_)
      have b_x_8 : x_8.toInt = x_7.toInt := by rw [ex_8]; exact z_l64 _
      refine lv_goto (tgt := 35) hx hb dX10_cut_20 (by decide) ?_
      exact W.lret (v := x_8) hx hb hr (fun t ht hW => by rw [← hQe]; exact ⟨⟨x_8, (), rfl, trivial, z_ret hP hK hD ht hW [] [] rfl (by decide) rfl⟩, hS.F ht⟩) hS.2.2 dX10_cut_35
  · have ic_1 := zz_nne rfl (show Int32.toInt 0 = 0 from by decide) c_1
    refine lv_lload_n hx hb dX10_cut_4 rfl (lv_at hl 0 rfl) ?_
    refine lv_l2i (v := _) hx hb dX10_cut_5 rfl ?_
    refine lv_topi (fun x_9 ex_9 => ?_)
    refine lv_i2b (v := _) hx hb dX10_cut_6 rfl ?_
    refine lv_topi (fun x_10 ex_10 => ?_)
    refine lv_i2l (v := _) hx hb dX10_cut_7 rfl ?_
    refine lv_topl (fun x_11 ex_11 => ?_)
    have b_x_11 : x_11.toInt = x_10.toInt := by rw [ex_11]; exact z_l64 _
    refine lv_goto (tgt := 35) hx hb dX10_cut_8 (by decide) ?_
    exact W.lret (v := x_11) hx hb hr (fun t ht hW => by rw [← hQe]; exact ⟨⟨x_11, (), rfl, trivial, z_ret hP hK hD ht hW [] [] rfl (by decide) rfl⟩, hS.F ht⟩) hS.2.2 dX10_cut_35
set_option maxHeartbeats 4000000 in
set_option maxRecDepth 100000 in
theorem k_X10_lesser (l : Launch) (sa : Nat → Nat) (dC : Nat → ClassId) (dI : Nat → Nat → Nat) (p0 : Int32) (p1 : Int32)  (sz : Nat) : Met l yX10_lesser (.code yX10_lesser cX10_lesser 2 (some .int) :: zT) ({ frames := 0, cells := 0, slots := 0, locals := 0 }) (va_Pc [.int p0, .int p1] (zB sa dC dI [] [] sz)) (va_Qi (fun (r : Int32) (_ : Unit) => ((r.toInt = p0.toInt ∨ r.toInt = p1.toInt) ∧ r.toInt ≤ p0.toInt ∧ r.toInt ≤ p1.toInt)) (fun _ t => zW dC dI [] [] (va_A [] sz) t) (va_A [] sz)) 0 0 (va_A [] sz) := by
  refine z_enter (by decide) (by exact (Nat.le_of_ble_eq_true rfl)) ?_
  intro p e s m args below meth c ls A R Qc hargs hsz hQe hAe hRe hx hb hml hr hts hown hlocks hin hl hP hK hD hN hXs hA hS
  rw [hAe] at hQe
  have hown : s.vm.findClass RX10 = some m.cls := hown
  have hl : lv_has ls 2 [(0, .int p0), (1, .int p1)] := hl
  refine lv_iload_n hx hb dX10_lesser_0 rfl (lv_at hl 0 rfl) ?_
  refine lv_iload_n hx hb dX10_lesser_1 rfl (lv_at hl 1 rfl) ?_
  have nb_p0 := zi_nb p0
  have nb_p1 := zi_nb p1
  refine lv_icmp_ge (tgt := 9) hx hb dX10_lesser_2 (by decide) (fun c_1 => ?_) (fun c_1 => ?_)
  · have ic_1 := zz_ge rfl rfl c_1
    refine lv_iload_n hx hb dX10_lesser_9 rfl (lv_at hl 1 rfl) ?_
    exact W.iret (v := p1) hx hb hr (fun t ht hW => by rw [← hQe]; exact ⟨⟨p1, (), rfl, (by first | with_reducible assumption | omega), z_ret hP hK hD ht hW [] [] rfl (by decide) rfl⟩, hS.F ht⟩) hS.2.2 dX10_lesser_10
  · have ic_1 := zz_nge rfl rfl c_1
    refine lv_iload_n hx hb dX10_lesser_5 rfl (lv_at hl 0 rfl) ?_
    refine lv_goto (tgt := 10) hx hb dX10_lesser_6 (by decide) ?_
    exact W.iret (v := p0) hx hb hr (fun t ht hW => by rw [← hQe]; exact ⟨⟨p0, (), rfl, (by first | with_reducible assumption | omega), z_ret hP hK hD ht hW [] [] rfl (by decide) rfl⟩, hS.F ht⟩) hS.2.2 dX10_lesser_10
set_option maxHeartbeats 4000000 in
set_option maxRecDepth 100000 in
theorem k_X10_sizeOf (l : Launch) (sa : Nat → Nat) (dC : Nat → ClassId) (dI : Nat → Nat → Nat) (p0 : Int32) (b_p0 : 0 ≤ p0.toInt ∧ p0.toInt ≤ 1023) (sz : Nat) : Met l yX10_sizeOf (.code yX10_sizeOf cX10_sizeOf 3 (some .int) :: zT) ({ frames := 0, cells := 0, slots := 0, locals := 0 }) (va_Pc [.int p0] (zB sa dC dI [] [] sz)) (va_Qi (fun (r : Int32) (_ : Unit) => True) (fun _ t => zW dC dI [] [] (va_A [] sz) t) (va_A [] sz)) 0 0 (va_A [] sz) := by
  refine z_enter (by decide) (by exact (Nat.le_of_ble_eq_true rfl)) ?_
  intro p e s m args below meth c ls A R Qc hargs hsz hQe hAe hRe hx hb hml hr hts hown hlocks hin hl hP hK hD hN hXs hA hS
  rw [hAe] at hQe
  have hown : s.vm.findClass RX10 = some m.cls := hown
  have hl : lv_has ls 3 [(0, .int p0)] := hl
  refine lv_iconst (v := 0) hx hb dX10_sizeOf_0 (by decide) ?_
  refine lv_istore_n (lv' := [(1, .int 0), (0, .int p0)]) hx hb dX10_sizeOf_1 rfl hl (by decide) rfl (fun ls hl => ?_)
  refine lv_iload_n hx hb dX10_sizeOf_2 rfl (lv_at hl 1 rfl) ?_
  refine lv_istore_n (lv' := [(2, .int p0), (1, .int 0), (0, .int p0)]) hx hb dX10_sizeOf_3 rfl hl (by decide) rfl (fun ls hl => ?_)
  have loop_1 : ∀ (t : Nat) (v1_1 : Int32) (v2_2 : Int32) (b_v2_2 : 0 ≤ v2_2.toInt ∧ v2_2.toInt ≤ 1023) (H : Heap) (locs : List Loc) (ls : Array Slot), v2_2.toInt < (t : Int) → va_P (dC, dI) vwCl [] H → va_D A [] → va_S A s.heap H locs → lv_has ls 3 [(0, .int p0), (1, .int v1_1), (2, .int v2_2)] → W p l e R s m args below meth c H locs 0 0 (MQ below Qc args s 0 0 A) (F0 m 4 ls []) := by
    intro t
    induction t with
    | zero => intro v1_1 v2_2 b_v2_2 H locs ls hmu _ _ _ _; exact absurd hmu (by first | with_reducible assumption | omega)
    | succ t ih_1 =>
      intro v1_1 v2_2 b_v2_2 H locs ls hmu hP hD hS hl
      refine lv_iload_n hx hb dX10_sizeOf_4 rfl (lv_at hl 2 rfl) ?_
      refine lv_if_eq (tgt := 20) hx hb dX10_sizeOf_5 (by decide) (fun c_3 => ?_) (fun c_3 => ?_)
      · have ic_3 := zz_eq rfl (show Int32.toInt 0 = 0 from by decide) c_3
        refine lv_iload_n hx hb dX10_sizeOf_20 rfl (lv_at hl 1 rfl) ?_
        exact W.iret (v := v1_1) hx hb hr (fun t ht hW => by rw [← hQe]; exact ⟨⟨v1_1, (), rfl, trivial, z_ret hP hK hD ht hW [] [] rfl (by decide) rfl⟩, hS.F ht⟩) hS.2.2 dX10_sizeOf_21
      · have ic_3 := zz_neq rfl (show Int32.toInt 0 = 0 from by decide) c_3
        obtain ⟨x_4, ex_4⟩ : ∃ z : Int32, z = v1_1 + Int32.ofInt 1 := ⟨_, rfl⟩
        refine lv_iinc (v := x_4) (lv' := [(1, .int x_4), (0, .int p0), (2, .int v2_2)]) hx hb dX10_sizeOf_8 hl (k := 1) rfl ex_4.symm (by decide) rfl (fun ls hl => ?_)
        refine lv_iload_n hx hb dX10_sizeOf_11 rfl (lv_at hl 2 rfl) ?_
        refine lv_iload_n hx hb dX10_sizeOf_12 rfl (lv_at hl 2 rfl) ?_
        refine lv_iconst (v := 1) hx hb dX10_sizeOf_13 (by decide) ?_
        refine lv_isub hx hb dX10_sizeOf_14 ?_
        refine lv_topi (fun x_5 ex_5 => ?_)
        have b_x_5 : x_5.toInt = v2_2.toInt - 1 := by rw [ex_5]; exact zi_sub rfl (show Int32.toInt 1 = 1 from by decide) (z_rsc b_v2_2 (by decide))
        refine lv_iand hx hb dX10_sizeOf_15 ?_
        refine lv_topi (fun x_6 ex_6 => ?_)
        have b_x_6 : 0 ≤ x_6.toInt ∧ x_6.toInt ≤ x_5.toInt := by rw [ex_6]; exact zi_andR rfl (by first | with_reducible assumption | omega) (by first | with_reducible assumption | omega)
        refine lv_istore_n (lv' := [(2, .int x_6), (1, .int x_4), (0, .int p0)]) hx hb dX10_sizeOf_16 rfl hl (by decide) rfl (fun ls hl => ?_)
        refine lv_goto (tgt := 4) hx hb dX10_sizeOf_17 (by decide) ?_
        exact ih_1 x_4 x_6 (by first | with_reducible assumption | omega) _ _ _ (by first | with_reducible assumption | omega) (hP.sub (ws' := []) [] rfl) (hD.sub (ws' := []) [] (by decide) rfl) hS (lv_sub hl [2, 1, 0] rfl)
  exact loop_1 1025 (0) p0 (by first | with_reducible assumption | omega) _ _ _ (by first | with_reducible assumption | omega) hP hD hS (lv_sub hl [2, 1, 0] rfl)
set_option maxHeartbeats 4000000 in
set_option maxRecDepth 100000 in
theorem k_X10_sizeOr (l : Launch) (sa : Nat → Nat) (dC : Nat → ClassId) (dI : Nat → Nat → Nat) (p0 : Int32) (p1 : Int32) (b_p0 : (-1) ≤ p0.toInt ∧ p0.toInt ≤ 1023) (sz : Nat) : Met l yX10_sizeOr (.code yX10_sizeOr cX10_sizeOr 2 (some .int) :: zT) ({ frames := 1, cells := 0, slots := 0, locals := 22 }) (va_Pc [.int p0, .int p1] (zB sa dC dI [] [] sz)) (va_Qi (fun (r : Int32) (_ : Unit) => True) (fun _ t => zW dC dI [] [] (va_A [] sz) t) (va_A [] sz)) 0 0 (va_A [] sz) := by
  refine z_enter (by decide) (by exact (Nat.le_of_ble_eq_true rfl)) ?_
  intro p e s m args below meth c ls A R Qc hargs hsz hQe hAe hRe hx hb hml hr hts hown hlocks hin hl hP hK hD hN hXs hA hS
  rw [hAe] at hQe
  have hown : s.vm.findClass RX10 = some m.cls := hown
  have hl : lv_has ls 2 [(0, .int p0), (1, .int p1)] := hl
  refine lv_iload_n hx hb dX10_sizeOr_0 rfl (lv_at hl 0 rfl) ?_
  refine lv_iconst (v := (-1)) hx hb dX10_sizeOr_1 (by decide) ?_
  refine lv_icmp_eq (tgt := 10) hx hb dX10_sizeOr_2 (by decide) (fun c_1 => ?_) (fun c_1 => ?_)
  · have ic_1 := zz_eq rfl (show Int32.toInt (-1) = (-1) from by decide) c_1
    refine lv_iload_n hx hb dX10_sizeOr_10 rfl (lv_at hl 0 rfl) ?_
    refine lv_goto (tgt := 18) hx hb dX10_sizeOr_11 (by decide) ?_
    exact W.iret (v := p0) hx hb hr (fun t ht hW => by rw [← hQe]; exact ⟨⟨p0, (), rfl, trivial, z_ret hP hK hD ht hW [] [] rfl (by decide) rfl⟩, hS.F ht⟩) hS.2.2 dX10_sizeOr_18
  · have ic_1 := zz_neq rfl (show Int32.toInt (-1) = (-1) from by decide) c_1
    refine lv_iload_n hx hb dX10_sizeOr_5 rfl (lv_at hl 1 rfl) ?_
    refine lv_iconst (v := 1) hx hb dX10_sizeOr_6 (by decide) ?_
    have nb_p1 := zi_nb p1
    refine lv_icmp_ne (tgt := 14) hx hb dX10_sizeOr_7 (by decide) (fun c_2 => ?_) (fun c_2 => ?_)
    · have ic_2 := zz_ne rfl (show Int32.toInt 1 = 1 from by decide) c_2
      refine lv_iload_n hx hb dX10_sizeOr_14 rfl (lv_at hl 0 rfl) ?_
      obtain ⟨hPc, hDc, hFc⟩ := z_cut (wc := []) hP hD hS hA [] rfl (by decide +kernel)
      have hKc := hK.sub (tys' := []) [] rfl
      refine va_calli (va_runS (As := [.int p0]) (rest := []) ⟨hx, hb, hml, hown, hts⟩ (k_X10_sizeOf l sa dC dI p0 (by first | with_reducible assumption | omega) s.heap.size) (va_cwS 1 hts (z_gS zw_t8_73 zw_t8_74 zw_t1_11 zw_t8_75) rfl rfl rfl (by decide +kernel) (by rw [← hRe]; exact ⟨(Nat.le_of_ble_eq_true rfl), (Nat.le_of_ble_eq_true rfl)⟩)) (z_preS hPc hKc hDc hN hXs hS hFc) rfl rfl hl.1 rfl (lv_room (Nat.le_of_ble_eq_true rfl)) dX10_sizeOr_15 (by rw [← hRe]; exact ⟨(Nat.le_of_ble_eq_true rfl), (Nat.le_of_ble_eq_true rfl)⟩)) hS (fun q _ h => hFc q h) hFc (fun r_3 u t H1 locs ht hvm hw hB hz1 hk1 hS => ?_)
      obtain ⟨hP, hD, hK⟩ := z_after3 (wn := []) hB ht hvm hP hD hK [] [] rfl 0 rfl (by decide +kernel) rfl (by decide +kernel) hk1 hFc
      generalize H1 = H at hP hS ⊢
      have hK : va_K (dC, dI) vwCl [] s := hK
      exact W.iret (v := r_3) hx hb hr (fun t ht hW => by rw [← hQe]; exact ⟨⟨r_3, (), rfl, trivial, z_ret hP hK hD ht hW [] [] rfl (by decide) rfl⟩, hS.F ht⟩) hS.2.2 dX10_sizeOr_18
    · have ic_2 := zz_nne rfl (show Int32.toInt 1 = 1 from by decide) c_2
      refine lv_iload_n hx hb dX10_sizeOr_10 rfl (lv_at hl 0 rfl) ?_
      refine lv_goto (tgt := 18) hx hb dX10_sizeOr_11 (by decide) ?_
      exact W.iret (v := p0) hx hb hr (fun t ht hW => by rw [← hQe]; exact ⟨⟨p0, (), rfl, trivial, z_ret hP hK hD ht hW [] [] rfl (by decide) rfl⟩, hS.F ht⟩) hS.2.2 dX10_sizeOr_18
set_option maxHeartbeats 4000000 in
set_option maxRecDepth 100000 in
theorem k_X10_at (l : Launch) (sa : Nat → Nat) (dC : Nat → ClassId) (dI : Nat → Nat → Nat) (p0 : Int32) (p1 : Int32) (p2 : Int32) (b_p0 : 0 ≤ p0.toInt ∧ p0.toInt ≤ 48) (b_p1 : 0 ≤ p1.toInt ∧ p1.toInt ≤ 9) (b_p2 : 0 ≤ p2.toInt ∧ p2.toInt ≤ 80) (sz : Nat) : Met l yX10_at (.code yX10_at cX10_at 3 (some .int) :: zT) ({ frames := 0, cells := 0, slots := 0, locals := 0 }) (va_Pc [.int p0, .int p1, .int p2] (zB sa dC dI [] [] sz)) (va_Qi (fun (r : Int32) (_ : Unit) => (0 ≤ r.toInt ∧ r.toInt ≤ 39689)) (fun _ t => zW dC dI [] [] (va_A [] sz) t) (va_A [] sz)) 0 0 (va_A [] sz) := by
  refine z_enter (by decide) (by exact (Nat.le_of_ble_eq_true rfl)) ?_
  intro p e s m args below meth c ls A R Qc hargs hsz hQe hAe hRe hx hb hml hr hts hown hlocks hin hl hP hK hD hN hXs hA hS
  rw [hAe] at hQe
  have hown : s.vm.findClass RX10 = some m.cls := hown
  have hl : lv_has ls 3 [(0, .int p0), (1, .int p1), (2, .int p2)] := hl
  refine lv_bipush (v := 10) hx hb dX10_at_0 (by decide) ?_
  refine lv_iload_n hx hb dX10_at_2 rfl (lv_at hl 0 rfl) ?_
  refine lv_imul hx hb dX10_at_3 ?_
  refine lv_topi (fun x_1 ex_1 => ?_)
  have b_x_1 : x_1.toInt = 10 * p0.toInt := by rw [ex_1]; exact zi_mul (show Int32.toInt 10 = 10 from by decide) rfl (z_rmc b_p0 (by decide))
  refine lv_iload_n hx hb dX10_at_4 rfl (lv_at hl 1 rfl) ?_
  refine lv_iadd hx hb dX10_at_5 ?_
  refine lv_topi (fun x_2 ex_2 => ?_)
  have b_x_2 : x_2.toInt = x_1.toInt + p1.toInt := by rw [ex_2]; exact zi_add rfl rfl (z_raa (z_emc (c := 10) b_x_1 b_p0) b_p1 (by decide))
  refine lv_bipush (v := 81) hx hb dX10_at_6 (by decide) ?_
  refine lv_imul hx hb dX10_at_8 ?_
  refine lv_topi (fun x_3 ex_3 => ?_)
  have b_x_3 : x_3.toInt = x_2.toInt * 81 := by rw [ex_3]; exact zi_mul rfl (show Int32.toInt 81 = 81 from by decide) (z_rcm (z_ead b_x_2 (z_emc (c := 10) b_x_1 b_p0) b_p1) (by decide))
  refine lv_iload_n hx hb dX10_at_9 rfl (lv_at hl 2 rfl) ?_
  refine lv_iadd hx hb dX10_at_10 ?_
  refine lv_topi (fun x_4 ex_4 => ?_)
  have b_x_4 : x_4.toInt = x_3.toInt + p2.toInt := by rw [ex_4]; exact zi_add rfl rfl (z_raa (z_ecm (c := 81) b_x_3 (z_ead b_x_2 (z_emc (c := 10) b_x_1 b_p0) b_p1)) b_p2 (by decide))
  exact W.iret (v := x_4) hx hb hr (fun t ht hW => by rw [← hQe]; exact ⟨⟨x_4, (), rfl, (by first | with_reducible assumption | exact z_rle (z_ead b_x_4 (z_ecm (c := 81) b_x_3 (z_ead b_x_2 (z_emc (c := 10) b_x_1 b_p0) b_p1)) b_p2) (by decide) | omega), z_ret hP hK hD ht hW [] [] rfl (by decide) rfl⟩, hS.F ht⟩) hS.2.2 dX10_at_11
set_option maxHeartbeats 4000000 in
set_option maxRecDepth 100000 in
theorem k_X10_isSeed (l : Launch) (sa : Nat → Nat) (dC : Nat → ClassId) (dI : Nat → Nat → Nat) (p0 : Int32)  (sz : Nat) : Met l yX10_isSeed (.code yX10_isSeed cX10_isSeed 1 (some .boolean) :: zT) ({ frames := 1, cells := 0, slots := 0, locals := 25 }) (va_Pc [.int p0] (zB sa dC dI [] [] sz)) (va_Qi (fun (r : Int32) (_ : Unit) => (0 ≤ r.toInt ∧ r.toInt ≤ 1)) (fun _ t => zW dC dI [] [] (va_A [] sz) t) (va_A [] sz)) 0 0 (va_A [] sz) := by
  refine z_enter (by decide) (by exact (Nat.le_of_ble_eq_true rfl)) ?_
  intro p e s m args below meth c ls A R Qc hargs hsz hQe hAe hRe hx hb hml hr hts hown hlocks hin hl hP hK hD hN hXs hA hS
  rw [hAe] at hQe
  have hown : s.vm.findClass RX10 = some m.cls := hown
  have hl : lv_has ls 1 [(0, .int p0)] := hl
  refine lv_iload_n hx hb dX10_isSeed_0 rfl (lv_at hl 0 rfl) ?_
  refine lv_i2l (v := _) hx hb dX10_isSeed_1 rfl ?_
  refine lv_topl (fun x_1 ex_1 => ?_)
  have b_x_1 : x_1.toInt = p0.toInt := by rw [ex_1]; exact z_l64 _
  refine lv_lconst (v := 0) hx hb dX10_isSeed_2 (by decide) ?_
  refine lv_ldc2 (v := 2000000000) hx hb hown (hts _ zw_t9_55) dX10_isSeed_3 ?_
  obtain ⟨hPc, hDc, hFc⟩ := z_cut (wc := []) hP hD hS hA [] rfl (by decide +kernel)
  have hKc := hK.sub (tys' := []) [] rfl
  refine va_calli (va_runS (As := [.long x_1, .long 0, .long 2000000000]) (rest := []) ⟨hx, hb, hml, hown, hts⟩ (k_X10_in l sa dC dI x_1 (0) (2000000000) s.heap.size) (va_cwS 3 hts (z_gS zw_t7_29 zw_t7_30 zw_t1_11 zw_t7_31) rfl rfl rfl (by decide +kernel) (by rw [← hRe]; exact ⟨(Nat.le_of_ble_eq_true rfl), (Nat.le_of_ble_eq_true rfl)⟩)) (z_preS hPc hKc hDc hN hXs hS hFc) rfl rfl hl.1 rfl (lv_room (Nat.le_of_ble_eq_true rfl)) dX10_isSeed_6 (by rw [← hRe]; exact ⟨(Nat.le_of_ble_eq_true rfl), (Nat.le_of_ble_eq_true rfl)⟩)) hS (fun q _ h => hFc q h) hFc (fun r_2 u t H1 locs ht hvm hw hB hz1 hk1 hS => ?_)
  obtain ⟨hP, hD, hK⟩ := z_after3 (wn := []) hB ht hvm hP hD hK [] [] rfl 0 rfl (by decide +kernel) rfl (by decide +kernel) hk1 hFc
  generalize H1 = H at hP hS ⊢
  have hK : va_K (dC, dI) vwCl [] s := hK
  have b_r_2 : 0 ≤ r_2.toInt ∧ r_2.toInt ≤ 1 := hw.1
  have s_r_2 := hw.2
  have zal_0 : Int64.toInt 0 = 0 := by decide
  have zal_2000000000 : Int64.toInt 2000000000 = 2000000000 := by decide
  exact W.zret (v := r_2) hx hb hr (zi_bool (by first | with_reducible assumption | omega)) (fun t ht hW => by rw [← hQe]; exact ⟨⟨r_2, (), rfl, (by first | decide | omega), z_ret hP hK hD ht hW [] [] rfl (by decide) rfl⟩, hS.F ht⟩) hS.2.2 dX10_isSeed_9
set_option maxHeartbeats 4000000 in
set_option maxRecDepth 100000 in
theorem k_X10_isHour (l : Launch) (sa : Nat → Nat) (dC : Nat → ClassId) (dI : Nat → Nat → Nat) (m0 : Nat) (p1 : Int32) (m0_thrown : Int32) (m0_width : Nat) (m0_many : Nat) (m0_cells : Nat) (m0_moved : Nat) (m0_tape : Nat) (m0_taped : Int32) (m0_at : Int32) (m0_token : Int32) (m0_place : Int32) (m0_value : Int32) (m0_word : Int64) (m0_bad : Int32) (m0_badPlace : Int32) (m0_fault : Int32) (m0_faultPlace : Int32) (m0_lines : Nat) (m0_hours : Nat) (m0_courts : Nat) (m0_in : Nat) (m0_gates : Nat) (m0_gate : Nat) (m0_people : Nat) (m0_at0 : Nat) (m0_stray : Nat) (m0_set : Nat) (m0_once : Nat) (m0_truth : Nat) (m0_known : Nat) (m0_isKept : Nat) (m0_strays : Int32) (m0_hostPerson : Int32) (m0_hostCourt : Int32) (m0_outside : Int32) (m0_inside : Nat) (m0_can : Nat) (m0_fewest : Nat) (m0_waysTo : Nat) (m0_then : Nat) (m0_two : Nat) (m0_nextTwo : Nat) (m0_three : Nat) (m0_nextThree : Nat) (m0_shut : Int32) (m0_worth : Nat) (m0_digit : Nat) (m0_codes : Int32) (m0_most : Int64) (m0_bestTry : Int32) (m0_dayCourt : Int32) (m0_dayHour : Int32) (m0_dayNo : Int32) (m0_x : Int64) (cA_m0_hours : ClassId) (f_m0_hours : Nat → Int32) (b_m0_taped : 0 ≤ m0_taped.toInt ∧ m0_taped.toInt ≤ 1600) (b_m0_at : 0 ≤ m0_at.toInt ∧ m0_at.toInt ≤ 1600) (b_m0_token : 0 ≤ m0_token.toInt ∧ m0_token.toInt ≤ 4) (b_m0_value : 0 ≤ m0_value.toInt ∧ m0_value.toInt ≤ 1000009) (b_m0_bad : 0 ≤ m0_bad.toInt ∧ m0_bad.toInt ≤ 3) (b_m0_strays : 0 ≤ m0_strays.toInt ∧ m0_strays.toInt ≤ 5) (b_m0_hostCourt : 0 ≤ m0_hostCourt.toInt ∧ m0_hostCourt.toInt ≤ 9) (b_m0_dayCourt : 0 ≤ m0_dayCourt.toInt ∧ m0_dayCourt.toInt ≤ 9) (b_m0_dayHour : 0 ≤ m0_dayHour.toInt ∧ m0_dayHour.toInt ≤ 48) (b_f_m0_hours : ∀ j : Nat, 0 ≤ (f_m0_hours j).toInt ∧ (f_m0_hours j).toInt ≤ 48) (sz : Nat) : Met l yX10_isHour (.code yX10_isHour cX10_isHour 2 (some .boolean) :: zT) ({ frames := 1, cells := 0, slots := 0, locals := 25 }) (va_Pc [.ref m0, .int p1] (zB sa dC dI (zV78 m0 m0_thrown m0_width m0_many m0_cells m0_moved m0_tape m0_taped m0_at m0_token m0_place m0_value m0_word m0_bad m0_badPlace m0_fault m0_faultPlace m0_lines m0_hours m0_courts m0_in m0_gates m0_gate m0_people m0_at0 m0_stray m0_set m0_once m0_truth m0_known m0_isKept m0_strays m0_hostPerson m0_hostCourt m0_outside m0_inside m0_can m0_fewest m0_waysTo m0_then m0_two m0_nextTwo m0_three m0_nextThree m0_shut m0_worth m0_digit m0_codes m0_most m0_bestTry m0_dayCourt m0_dayHour m0_dayNo m0_x m0_hours cA_m0_hours f_m0_hours) [(cA_m0_hours, .int)] sz)) (va_Qi (fun (r : Int32) (_ : Unit) => (0 ≤ r.toInt ∧ r.toInt ≤ 1) ∧ (r.toInt = 0 ∨ (0 ≤ p1.toInt ∧ p1.toInt ≤ 47))) (fun _ t => zW dC dI (zV78 m0 m0_thrown m0_width m0_many m0_cells m0_moved m0_tape m0_taped m0_at m0_token m0_place m0_value m0_word m0_bad m0_badPlace m0_fault m0_faultPlace m0_lines m0_hours m0_courts m0_in m0_gates m0_gate m0_people m0_at0 m0_stray m0_set m0_once m0_truth m0_known m0_isKept m0_strays m0_hostPerson m0_hostCourt m0_outside m0_inside m0_can m0_fewest m0_waysTo m0_then m0_two m0_nextTwo m0_three m0_nextThree m0_shut m0_worth m0_digit m0_codes m0_most m0_bestTry m0_dayCourt m0_dayHour m0_dayNo m0_x m0_hours cA_m0_hours f_m0_hours) [] (va_A (zV78 m0 m0_thrown m0_width m0_many m0_cells m0_moved m0_tape m0_taped m0_at m0_token m0_place m0_value m0_word m0_bad m0_badPlace m0_fault m0_faultPlace m0_lines m0_hours m0_courts m0_in m0_gates m0_gate m0_people m0_at0 m0_stray m0_set m0_once m0_truth m0_known m0_isKept m0_strays m0_hostPerson m0_hostCourt m0_outside m0_inside m0_can m0_fewest m0_waysTo m0_then m0_two m0_nextTwo m0_three m0_nextThree m0_shut m0_worth m0_digit m0_codes m0_most m0_bestTry m0_dayCourt m0_dayHour m0_dayNo m0_x m0_hours cA_m0_hours f_m0_hours) sz) t) (va_A (zV78 m0 m0_thrown m0_width m0_many m0_cells m0_moved m0_tape m0_taped m0_at m0_token m0_place m0_value m0_word m0_bad m0_badPlace m0_fault m0_faultPlace m0_lines m0_hours m0_courts m0_in m0_gates m0_gate m0_people m0_at0 m0_stray m0_set m0_once m0_truth m0_known m0_isKept m0_strays m0_hostPerson m0_hostCourt m0_outside m0_inside m0_can m0_fewest m0_waysTo m0_then m0_two m0_nextTwo m0_three m0_nextThree m0_shut m0_worth m0_digit m0_codes m0_most m0_bestTry m0_dayCourt m0_dayHour m0_dayNo m0_x m0_hours cA_m0_hours f_m0_hours) sz)) 0 0 (va_A (zV78 m0 m0_thrown m0_width m0_many m0_cells m0_moved m0_tape m0_taped m0_at m0_token m0_place m0_value m0_word m0_bad m0_badPlace m0_fault m0_faultPlace m0_lines m0_hours m0_courts m0_in m0_gates m0_gate m0_people m0_at0 m0_stray m0_set m0_once m0_truth m0_known m0_isKept m0_strays m0_hostPerson m0_hostCourt m0_outside m0_inside m0_can m0_fewest m0_waysTo m0_then m0_two m0_nextTwo m0_three m0_nextThree m0_shut m0_worth m0_digit m0_codes m0_most m0_bestTry m0_dayCourt m0_dayHour m0_dayNo m0_x m0_hours cA_m0_hours f_m0_hours) sz) := by
  refine z_enter (by decide) (by exact (Nat.le_of_ble_eq_true rfl)) ?_
  intro p e s m args below meth c ls A R Qc hargs hsz hQe hAe hRe hx hb hml hr hts hown hlocks hin hl hP hK hD hN hXs hA hS
  rw [hAe] at hQe
  have hown : s.vm.findClass RX10 = some m.cls := hown
  have hl : lv_has ls 2 [(0, .ref m0), (1, .int p1)] := hl
  refine lv_iload_n hx hb dX10_isHour_0 rfl (lv_at hl 1 rfl) ?_
  refine lv_i2l (v := _) hx hb dX10_isHour_1 rfl ?_
  refine lv_topl (fun x_1 ex_1 => ?_)
  have b_x_1 : x_1.toInt = p1.toInt := by rw [ex_1]; exact z_l64 _
  refine lv_lconst (v := 0) hx hb dX10_isHour_2 (by decide) ?_
  refine lv_aload_n hx hb dX10_isHour_3 rfl (lv_at hl 0 rfl) ?_
  refine va_get (D := (dC, dI)) (ci := 10) (v := .ref m0_hours) (C := RX10) (T := TX10) (N := 53) hx hb hts zl_X10 hown hK hP 0 rfl rfl 17 (by decide) (hts _ zw_t6_117) (fun _ h9 => h9) rfl dX10_isHour_4 ?_
  refine lv_iconst (v := 0) hx hb dX10_isHour_7 (by decide) ?_
  refine va_iald hx hb hK hP 1 0 rfl rfl (zi_in (show Int32.toInt 0 = 0 from by decide) (by decide)) dX10_isHour_8 ?_
  refine lv_topi (fun x_2 ex_2 => ?_)
  have b_x_2 : 0 ≤ x_2.toInt ∧ x_2.toInt ≤ 48 := by rw [ex_2]; exact b_f_m0_hours _
  have t_x_2 : x_2.toInt = (f_m0_hours (Int32.toNatClampNeg 0)).toInt := by rw [ex_2]
  refine lv_iconst (v := 1) hx hb dX10_isHour_9 (by decide) ?_
  refine lv_isub hx hb dX10_isHour_10 ?_
  refine lv_topi (fun x_3 ex_3 => ?_)
  have b_x_3 : x_3.toInt = x_2.toInt - 1 := by rw [ex_3]; exact zi_sub rfl (show Int32.toInt 1 = 1 from by decide) (z_rsc b_x_2 (by decide))
  refine lv_i2l (v := _) hx hb dX10_isHour_11 rfl ?_
  refine lv_topl (fun x_4 ex_4 => ?_)
  have b_x_4 : x_4.toInt = x_3.toInt := by rw [ex_4]; exact z_l64 _
  obtain ⟨hPc, hDc, hFc⟩ := z_cut (wc := []) hP hD hS hA [] rfl (by decide +kernel)
  have hKc := hK.sub (tys' := []) [] rfl
  refine va_calli (va_runS (As := [.long x_1, .long 0, .long x_4]) (rest := []) ⟨hx, hb, hml, hown, hts⟩ (k_X10_in l sa dC dI x_1 (0) x_4 s.heap.size) (va_cwS 3 hts (z_gS zw_t7_29 zw_t7_30 zw_t1_11 zw_t7_31) rfl rfl rfl (by decide +kernel) (by rw [← hRe]; exact ⟨(Nat.le_of_ble_eq_true rfl), (Nat.le_of_ble_eq_true rfl)⟩)) (z_preS hPc hKc hDc hN hXs hS hFc) rfl rfl hl.1 rfl (lv_room (Nat.le_of_ble_eq_true rfl)) dX10_isHour_12 (by rw [← hRe]; exact ⟨(Nat.le_of_ble_eq_true rfl), (Nat.le_of_ble_eq_true rfl)⟩)) hS (fun q _ h => hFc q h) hFc (fun r_5 u t H1 locs ht hvm hw hB hz1 hk1 hS => ?_)
  obtain ⟨hP, hD, hK⟩ := z_after3 (wn := (zV78 m0 m0_thrown m0_width m0_many m0_cells m0_moved m0_tape m0_taped m0_at m0_token m0_place m0_value m0_word m0_bad m0_badPlace m0_fault m0_faultPlace m0_lines m0_hours m0_courts m0_in m0_gates m0_gate m0_people m0_at0 m0_stray m0_set m0_once m0_truth m0_known m0_isKept m0_strays m0_hostPerson m0_hostCourt m0_outside m0_inside m0_can m0_fewest m0_waysTo m0_then m0_two m0_nextTwo m0_three m0_nextThree m0_shut m0_worth m0_digit m0_codes m0_most m0_bestTry m0_dayCourt m0_dayHour m0_dayNo m0_x m0_hours cA_m0_hours f_m0_hours)) hB ht hvm hP hD hK [] [0, 1] rfl 2 rfl (by decide +kernel) rfl (by decide +kernel) hk1 hFc
  generalize H1 = H at hP hS ⊢
  have hK : va_K (dC, dI) vwCl [(cA_m0_hours, .int)] s := hK
  have b_r_5 : 0 ≤ r_5.toInt ∧ r_5.toInt ≤ 1 := hw.1
  have s_r_5 := hw.2
  have zal_0 : Int64.toInt 0 = 0 := by decide
  exact W.zret (v := r_5) hx hb hr (zi_bool (by first | with_reducible assumption | omega)) (fun t ht hW => by rw [← hQe]; exact ⟨⟨r_5, (), rfl, (by first | decide | omega), z_ret hP hK hD ht hW [0, 1] [] rfl (by decide) rfl⟩, hS.F ht⟩) hS.2.2 dX10_isHour_15
set_option maxHeartbeats 4000000 in
set_option maxRecDepth 100000 in
theorem k_X10_isEnd (l : Launch) (sa : Nat → Nat) (dC : Nat → ClassId) (dI : Nat → Nat → Nat) (m0 : Nat) (p1 : Int32) (m0_thrown : Int32) (m0_width : Nat) (m0_many : Nat) (m0_cells : Nat) (m0_moved : Nat) (m0_tape : Nat) (m0_taped : Int32) (m0_at : Int32) (m0_token : Int32) (m0_place : Int32) (m0_value : Int32) (m0_word : Int64) (m0_bad : Int32) (m0_badPlace : Int32) (m0_fault : Int32) (m0_faultPlace : Int32) (m0_lines : Nat) (m0_hours : Nat) (m0_courts : Nat) (m0_in : Nat) (m0_gates : Nat) (m0_gate : Nat) (m0_people : Nat) (m0_at0 : Nat) (m0_stray : Nat) (m0_set : Nat) (m0_once : Nat) (m0_truth : Nat) (m0_known : Nat) (m0_isKept : Nat) (m0_strays : Int32) (m0_hostPerson : Int32) (m0_hostCourt : Int32) (m0_outside : Int32) (m0_inside : Nat) (m0_can : Nat) (m0_fewest : Nat) (m0_waysTo : Nat) (m0_then : Nat) (m0_two : Nat) (m0_nextTwo : Nat) (m0_three : Nat) (m0_nextThree : Nat) (m0_shut : Int32) (m0_worth : Nat) (m0_digit : Nat) (m0_codes : Int32) (m0_most : Int64) (m0_bestTry : Int32) (m0_dayCourt : Int32) (m0_dayHour : Int32) (m0_dayNo : Int32) (m0_x : Int64) (cA_m0_hours : ClassId) (f_m0_hours : Nat → Int32) (b_m0_taped : 0 ≤ m0_taped.toInt ∧ m0_taped.toInt ≤ 1600) (b_m0_at : 0 ≤ m0_at.toInt ∧ m0_at.toInt ≤ 1600) (b_m0_token : 0 ≤ m0_token.toInt ∧ m0_token.toInt ≤ 4) (b_m0_value : 0 ≤ m0_value.toInt ∧ m0_value.toInt ≤ 1000009) (b_m0_bad : 0 ≤ m0_bad.toInt ∧ m0_bad.toInt ≤ 3) (b_m0_strays : 0 ≤ m0_strays.toInt ∧ m0_strays.toInt ≤ 5) (b_m0_hostCourt : 0 ≤ m0_hostCourt.toInt ∧ m0_hostCourt.toInt ≤ 9) (b_m0_dayCourt : 0 ≤ m0_dayCourt.toInt ∧ m0_dayCourt.toInt ≤ 9) (b_m0_dayHour : 0 ≤ m0_dayHour.toInt ∧ m0_dayHour.toInt ≤ 48) (b_f_m0_hours : ∀ j : Nat, 0 ≤ (f_m0_hours j).toInt ∧ (f_m0_hours j).toInt ≤ 48) (sz : Nat) : Met l yX10_isEnd (.code yX10_isEnd cX10_isEnd 2 (some .boolean) :: zT) ({ frames := 1, cells := 0, slots := 0, locals := 25 }) (va_Pc [.ref m0, .int p1] (zB sa dC dI (zV78 m0 m0_thrown m0_width m0_many m0_cells m0_moved m0_tape m0_taped m0_at m0_token m0_place m0_value m0_word m0_bad m0_badPlace m0_fault m0_faultPlace m0_lines m0_hours m0_courts m0_in m0_gates m0_gate m0_people m0_at0 m0_stray m0_set m0_once m0_truth m0_known m0_isKept m0_strays m0_hostPerson m0_hostCourt m0_outside m0_inside m0_can m0_fewest m0_waysTo m0_then m0_two m0_nextTwo m0_three m0_nextThree m0_shut m0_worth m0_digit m0_codes m0_most m0_bestTry m0_dayCourt m0_dayHour m0_dayNo m0_x m0_hours cA_m0_hours f_m0_hours) [(cA_m0_hours, .int)] sz)) (va_Qi (fun (r : Int32) (_ : Unit) => (0 ≤ r.toInt ∧ r.toInt ≤ 1) ∧ (r.toInt = 0 ∨ (0 ≤ p1.toInt ∧ p1.toInt ≤ 48 ∧ p1.toInt ≤ (f_m0_hours (Int32.toNatClampNeg 0)).toInt))) (fun _ t => zW dC dI (zV78 m0 m0_thrown m0_width m0_many m0_cells m0_moved m0_tape m0_taped m0_at m0_token m0_place m0_value m0_word m0_bad m0_badPlace m0_fault m0_faultPlace m0_lines m0_hours m0_courts m0_in m0_gates m0_gate m0_people m0_at0 m0_stray m0_set m0_once m0_truth m0_known m0_isKept m0_strays m0_hostPerson m0_hostCourt m0_outside m0_inside m0_can m0_fewest m0_waysTo m0_then m0_two m0_nextTwo m0_three m0_nextThree m0_shut m0_worth m0_digit m0_codes m0_most m0_bestTry m0_dayCourt m0_dayHour m0_dayNo m0_x m0_hours cA_m0_hours f_m0_hours) [] (va_A (zV78 m0 m0_thrown m0_width m0_many m0_cells m0_moved m0_tape m0_taped m0_at m0_token m0_place m0_value m0_word m0_bad m0_badPlace m0_fault m0_faultPlace m0_lines m0_hours m0_courts m0_in m0_gates m0_gate m0_people m0_at0 m0_stray m0_set m0_once m0_truth m0_known m0_isKept m0_strays m0_hostPerson m0_hostCourt m0_outside m0_inside m0_can m0_fewest m0_waysTo m0_then m0_two m0_nextTwo m0_three m0_nextThree m0_shut m0_worth m0_digit m0_codes m0_most m0_bestTry m0_dayCourt m0_dayHour m0_dayNo m0_x m0_hours cA_m0_hours f_m0_hours) sz) t) (va_A (zV78 m0 m0_thrown m0_width m0_many m0_cells m0_moved m0_tape m0_taped m0_at m0_token m0_place m0_value m0_word m0_bad m0_badPlace m0_fault m0_faultPlace m0_lines m0_hours m0_courts m0_in m0_gates m0_gate m0_people m0_at0 m0_stray m0_set m0_once m0_truth m0_known m0_isKept m0_strays m0_hostPerson m0_hostCourt m0_outside m0_inside m0_can m0_fewest m0_waysTo m0_then m0_two m0_nextTwo m0_three m0_nextThree m0_shut m0_worth m0_digit m0_codes m0_most m0_bestTry m0_dayCourt m0_dayHour m0_dayNo m0_x m0_hours cA_m0_hours f_m0_hours) sz)) 0 0 (va_A (zV78 m0 m0_thrown m0_width m0_many m0_cells m0_moved m0_tape m0_taped m0_at m0_token m0_place m0_value m0_word m0_bad m0_badPlace m0_fault m0_faultPlace m0_lines m0_hours m0_courts m0_in m0_gates m0_gate m0_people m0_at0 m0_stray m0_set m0_once m0_truth m0_known m0_isKept m0_strays m0_hostPerson m0_hostCourt m0_outside m0_inside m0_can m0_fewest m0_waysTo m0_then m0_two m0_nextTwo m0_three m0_nextThree m0_shut m0_worth m0_digit m0_codes m0_most m0_bestTry m0_dayCourt m0_dayHour m0_dayNo m0_x m0_hours cA_m0_hours f_m0_hours) sz) := by
  refine z_enter (by decide) (by exact (Nat.le_of_ble_eq_true rfl)) ?_
  intro p e s m args below meth c ls A R Qc hargs hsz hQe hAe hRe hx hb hml hr hts hown hlocks hin hl hP hK hD hN hXs hA hS
  rw [hAe] at hQe
  have hown : s.vm.findClass RX10 = some m.cls := hown
  have hl : lv_has ls 2 [(0, .ref m0), (1, .int p1)] := hl
  refine lv_iload_n hx hb dX10_isEnd_0 rfl (lv_at hl 1 rfl) ?_
  refine lv_i2l (v := _) hx hb dX10_isEnd_1 rfl ?_
  refine lv_topl (fun x_1 ex_1 => ?_)
  have b_x_1 : x_1.toInt = p1.toInt := by rw [ex_1]; exact z_l64 _
  refine lv_lconst (v := 0) hx hb dX10_isEnd_2 (by decide) ?_
  refine lv_aload_n hx hb dX10_isEnd_3 rfl (lv_at hl 0 rfl) ?_
  refine va_get (D := (dC, dI)) (ci := 10) (v := .ref m0_hours) (C := RX10) (T := TX10) (N := 53) hx hb hts zl_X10 hown hK hP 0 rfl rfl 17 (by decide) (hts _ zw_t6_117) (fun _ h9 => h9) rfl dX10_isEnd_4 ?_
  refine lv_iconst (v := 0) hx hb dX10_isEnd_7 (by decide) ?_
  refine va_iald hx hb hK hP 1 0 rfl rfl (zi_in (show Int32.toInt 0 = 0 from by decide) (by decide)) dX10_isEnd_8 ?_
  refine lv_topi (fun x_2 ex_2 => ?_)
  have b_x_2 : 0 ≤ x_2.toInt ∧ x_2.toInt ≤ 48 := by rw [ex_2]; exact b_f_m0_hours _
  have t_x_2 : x_2.toInt = (f_m0_hours (Int32.toNatClampNeg 0)).toInt := by rw [ex_2]
  refine lv_i2l (v := _) hx hb dX10_isEnd_9 rfl ?_
  refine lv_topl (fun x_3 ex_3 => ?_)
  have b_x_3 : x_3.toInt = x_2.toInt := by rw [ex_3]; exact z_l64 _
  obtain ⟨hPc, hDc, hFc⟩ := z_cut (wc := []) hP hD hS hA [] rfl (by decide +kernel)
  have hKc := hK.sub (tys' := []) [] rfl
  refine va_calli (va_runS (As := [.long x_1, .long 0, .long x_3]) (rest := []) ⟨hx, hb, hml, hown, hts⟩ (k_X10_in l sa dC dI x_1 (0) x_3 s.heap.size) (va_cwS 3 hts (z_gS zw_t7_29 zw_t7_30 zw_t1_11 zw_t7_31) rfl rfl rfl (by decide +kernel) (by rw [← hRe]; exact ⟨(Nat.le_of_ble_eq_true rfl), (Nat.le_of_ble_eq_true rfl)⟩)) (z_preS hPc hKc hDc hN hXs hS hFc) rfl rfl hl.1 rfl (lv_room (Nat.le_of_ble_eq_true rfl)) dX10_isEnd_10 (by rw [← hRe]; exact ⟨(Nat.le_of_ble_eq_true rfl), (Nat.le_of_ble_eq_true rfl)⟩)) hS (fun q _ h => hFc q h) hFc (fun r_4 u t H1 locs ht hvm hw hB hz1 hk1 hS => ?_)
  obtain ⟨hP, hD, hK⟩ := z_after3 (wn := (zV78 m0 m0_thrown m0_width m0_many m0_cells m0_moved m0_tape m0_taped m0_at m0_token m0_place m0_value m0_word m0_bad m0_badPlace m0_fault m0_faultPlace m0_lines m0_hours m0_courts m0_in m0_gates m0_gate m0_people m0_at0 m0_stray m0_set m0_once m0_truth m0_known m0_isKept m0_strays m0_hostPerson m0_hostCourt m0_outside m0_inside m0_can m0_fewest m0_waysTo m0_then m0_two m0_nextTwo m0_three m0_nextThree m0_shut m0_worth m0_digit m0_codes m0_most m0_bestTry m0_dayCourt m0_dayHour m0_dayNo m0_x m0_hours cA_m0_hours f_m0_hours)) hB ht hvm hP hD hK [] [0, 1] rfl 2 rfl (by decide +kernel) rfl (by decide +kernel) hk1 hFc
  generalize H1 = H at hP hS ⊢
  have hK : va_K (dC, dI) vwCl [(cA_m0_hours, .int)] s := hK
  have b_r_4 : 0 ≤ r_4.toInt ∧ r_4.toInt ≤ 1 := hw.1
  have s_r_4 := hw.2
  have zal_0 : Int64.toInt 0 = 0 := by decide
  refine lv_if_eq (tgt := 29) hx hb dX10_isEnd_13 (by decide) (fun c_5 => ?_) (fun c_5 => ?_)
  · have ic_5 := zz_eq rfl (show Int32.toInt 0 = 0 from by decide) c_5
    refine lv_iconst (v := 0) hx hb dX10_isEnd_29 (by decide) ?_
    have zc : Int32.toInt 0 = 0 := by decide
    exact W.zret (v := 0) hx hb hr (by decide) (fun t ht hW => by rw [← hQe]; exact ⟨⟨0, (), rfl, (by first | decide | omega), z_ret hP hK hD ht hW [0, 1] [] rfl (by decide) rfl⟩, hS.F ht⟩) hS.2.2 dX10_isEnd_30
  · have ic_5 := zz_neq rfl (show Int32.toInt 0 = 0 from by decide) c_5
    refine lv_aload_n hx hb dX10_isEnd_16 rfl (lv_at hl 0 rfl) ?_
    refine va_get (D := (dC, dI)) (ci := 10) (v := .ref m0_hours) (C := RX10) (T := TX10) (N := 53) hx hb hts zl_X10 hown hK hP 0 rfl rfl 17 (by decide) (hts _ zw_t6_117) (fun _ h9 => h9) rfl dX10_isEnd_17 ?_
    refine lv_iconst (v := 0) hx hb dX10_isEnd_20 (by decide) ?_
    refine va_iald hx hb hK hP 1 0 rfl rfl (zi_in (show Int32.toInt 0 = 0 from by decide) (by decide)) dX10_isEnd_21 ?_
    refine lv_topi (fun x_6 ex_6 => ?_)
    obtain rfl : x_2 = x_6 := ex_2.trans ex_6.symm
    refine lv_if_le (tgt := 29) hx hb dX10_isEnd_22 (by decide) (fun c_7 => ?_) (fun c_7 => ?_)
    · have ic_7 := zz_le rfl (show Int32.toInt 0 = 0 from by decide) c_7
      refine lv_iconst (v := 0) hx hb dX10_isEnd_29 (by decide) ?_
      have zc : Int32.toInt 0 = 0 := by decide
      exact W.zret (v := 0) hx hb hr (by decide) (fun t ht hW => by rw [← hQe]; exact ⟨⟨0, (), rfl, (by first | decide | omega), z_ret hP hK hD ht hW [0, 1] [] rfl (by decide) rfl⟩, hS.F ht⟩) hS.2.2 dX10_isEnd_30
    · have ic_7 := zz_nle rfl (show Int32.toInt 0 = 0 from by decide) c_7
      refine lv_iconst (v := 1) hx hb dX10_isEnd_25 (by decide) ?_
      refine lv_goto (tgt := 30) hx hb dX10_isEnd_26 (by decide) ?_
      have zc : Int32.toInt 1 = 1 := by decide
      exact W.zret (v := 1) hx hb hr (by decide) (fun t ht hW => by rw [← hQe]; exact ⟨⟨1, (), rfl, (by first | decide | omega), z_ret hP hK hD ht hW [0, 1] [] rfl (by decide) rfl⟩, hS.F ht⟩) hS.2.2 dX10_isEnd_30
set_option maxHeartbeats 4000000 in
set_option maxRecDepth 100000 in
theorem k_X10_isCourt (l : Launch) (sa : Nat → Nat) (dC : Nat → ClassId) (dI : Nat → Nat → Nat) (m0 : Nat) (p1 : Int32) (m0_thrown : Int32) (m0_width : Nat) (m0_many : Nat) (m0_cells : Nat) (m0_moved : Nat) (m0_tape : Nat) (m0_taped : Int32) (m0_at : Int32) (m0_token : Int32) (m0_place : Int32) (m0_value : Int32) (m0_word : Int64) (m0_bad : Int32) (m0_badPlace : Int32) (m0_fault : Int32) (m0_faultPlace : Int32) (m0_lines : Nat) (m0_hours : Nat) (m0_courts : Nat) (m0_in : Nat) (m0_gates : Nat) (m0_gate : Nat) (m0_people : Nat) (m0_at0 : Nat) (m0_stray : Nat) (m0_set : Nat) (m0_once : Nat) (m0_truth : Nat) (m0_known : Nat) (m0_isKept : Nat) (m0_strays : Int32) (m0_hostPerson : Int32) (m0_hostCourt : Int32) (m0_outside : Int32) (m0_inside : Nat) (m0_can : Nat) (m0_fewest : Nat) (m0_waysTo : Nat) (m0_then : Nat) (m0_two : Nat) (m0_nextTwo : Nat) (m0_three : Nat) (m0_nextThree : Nat) (m0_shut : Int32) (m0_worth : Nat) (m0_digit : Nat) (m0_codes : Int32) (m0_most : Int64) (m0_bestTry : Int32) (m0_dayCourt : Int32) (m0_dayHour : Int32) (m0_dayNo : Int32) (m0_x : Int64) (cA_m0_courts : ClassId) (f_m0_courts : Nat → Int32) (b_m0_taped : 0 ≤ m0_taped.toInt ∧ m0_taped.toInt ≤ 1600) (b_m0_at : 0 ≤ m0_at.toInt ∧ m0_at.toInt ≤ 1600) (b_m0_token : 0 ≤ m0_token.toInt ∧ m0_token.toInt ≤ 4) (b_m0_value : 0 ≤ m0_value.toInt ∧ m0_value.toInt ≤ 1000009) (b_m0_bad : 0 ≤ m0_bad.toInt ∧ m0_bad.toInt ≤ 3) (b_m0_strays : 0 ≤ m0_strays.toInt ∧ m0_strays.toInt ≤ 5) (b_m0_hostCourt : 0 ≤ m0_hostCourt.toInt ∧ m0_hostCourt.toInt ≤ 9) (b_m0_dayCourt : 0 ≤ m0_dayCourt.toInt ∧ m0_dayCourt.toInt ≤ 9) (b_m0_dayHour : 0 ≤ m0_dayHour.toInt ∧ m0_dayHour.toInt ≤ 48) (b_f_m0_courts : ∀ j : Nat, 0 ≤ (f_m0_courts j).toInt ∧ (f_m0_courts j).toInt ≤ 10) (sz : Nat) : Met l yX10_isCourt (.code yX10_isCourt cX10_isCourt 2 (some .boolean) :: zT) ({ frames := 1, cells := 0, slots := 0, locals := 25 }) (va_Pc [.ref m0, .int p1] (zB sa dC dI (zV78 m0 m0_thrown m0_width m0_many m0_cells m0_moved m0_tape m0_taped m0_at m0_token m0_place m0_value m0_word m0_bad m0_badPlace m0_fault m0_faultPlace m0_lines m0_hours m0_courts m0_in m0_gates m0_gate m0_people m0_at0 m0_stray m0_set m0_once m0_truth m0_known m0_isKept m0_strays m0_hostPerson m0_hostCourt m0_outside m0_inside m0_can m0_fewest m0_waysTo m0_then m0_two m0_nextTwo m0_three m0_nextThree m0_shut m0_worth m0_digit m0_codes m0_most m0_bestTry m0_dayCourt m0_dayHour m0_dayNo m0_x m0_courts cA_m0_courts f_m0_courts) [(cA_m0_courts, .int)] sz)) (va_Qi (fun (r : Int32) (_ : Unit) => (0 ≤ r.toInt ∧ r.toInt ≤ 1) ∧ (r.toInt = 0 ∨ (0 ≤ p1.toInt ∧ p1.toInt ≤ 9 ∧ 1 ≤ (f_m0_courts (Int32.toNatClampNeg 0)).toInt))) (fun _ t => zW dC dI (zV78 m0 m0_thrown m0_width m0_many m0_cells m0_moved m0_tape m0_taped m0_at m0_token m0_place m0_value m0_word m0_bad m0_badPlace m0_fault m0_faultPlace m0_lines m0_hours m0_courts m0_in m0_gates m0_gate m0_people m0_at0 m0_stray m0_set m0_once m0_truth m0_known m0_isKept m0_strays m0_hostPerson m0_hostCourt m0_outside m0_inside m0_can m0_fewest m0_waysTo m0_then m0_two m0_nextTwo m0_three m0_nextThree m0_shut m0_worth m0_digit m0_codes m0_most m0_bestTry m0_dayCourt m0_dayHour m0_dayNo m0_x m0_courts cA_m0_courts f_m0_courts) [] (va_A (zV78 m0 m0_thrown m0_width m0_many m0_cells m0_moved m0_tape m0_taped m0_at m0_token m0_place m0_value m0_word m0_bad m0_badPlace m0_fault m0_faultPlace m0_lines m0_hours m0_courts m0_in m0_gates m0_gate m0_people m0_at0 m0_stray m0_set m0_once m0_truth m0_known m0_isKept m0_strays m0_hostPerson m0_hostCourt m0_outside m0_inside m0_can m0_fewest m0_waysTo m0_then m0_two m0_nextTwo m0_three m0_nextThree m0_shut m0_worth m0_digit m0_codes m0_most m0_bestTry m0_dayCourt m0_dayHour m0_dayNo m0_x m0_courts cA_m0_courts f_m0_courts) sz) t) (va_A (zV78 m0 m0_thrown m0_width m0_many m0_cells m0_moved m0_tape m0_taped m0_at m0_token m0_place m0_value m0_word m0_bad m0_badPlace m0_fault m0_faultPlace m0_lines m0_hours m0_courts m0_in m0_gates m0_gate m0_people m0_at0 m0_stray m0_set m0_once m0_truth m0_known m0_isKept m0_strays m0_hostPerson m0_hostCourt m0_outside m0_inside m0_can m0_fewest m0_waysTo m0_then m0_two m0_nextTwo m0_three m0_nextThree m0_shut m0_worth m0_digit m0_codes m0_most m0_bestTry m0_dayCourt m0_dayHour m0_dayNo m0_x m0_courts cA_m0_courts f_m0_courts) sz)) 0 0 (va_A (zV78 m0 m0_thrown m0_width m0_many m0_cells m0_moved m0_tape m0_taped m0_at m0_token m0_place m0_value m0_word m0_bad m0_badPlace m0_fault m0_faultPlace m0_lines m0_hours m0_courts m0_in m0_gates m0_gate m0_people m0_at0 m0_stray m0_set m0_once m0_truth m0_known m0_isKept m0_strays m0_hostPerson m0_hostCourt m0_outside m0_inside m0_can m0_fewest m0_waysTo m0_then m0_two m0_nextTwo m0_three m0_nextThree m0_shut m0_worth m0_digit m0_codes m0_most m0_bestTry m0_dayCourt m0_dayHour m0_dayNo m0_x m0_courts cA_m0_courts f_m0_courts) sz) := by
  refine z_enter (by decide) (by exact (Nat.le_of_ble_eq_true rfl)) ?_
  intro p e s m args below meth c ls A R Qc hargs hsz hQe hAe hRe hx hb hml hr hts hown hlocks hin hl hP hK hD hN hXs hA hS
  rw [hAe] at hQe
  have hown : s.vm.findClass RX10 = some m.cls := hown
  have hl : lv_has ls 2 [(0, .ref m0), (1, .int p1)] := hl
  refine lv_iload_n hx hb dX10_isCourt_0 rfl (lv_at hl 1 rfl) ?_
  refine lv_i2l (v := _) hx hb dX10_isCourt_1 rfl ?_
  refine lv_topl (fun x_1 ex_1 => ?_)
  have b_x_1 : x_1.toInt = p1.toInt := by rw [ex_1]; exact z_l64 _
  refine lv_lconst (v := 0) hx hb dX10_isCourt_2 (by decide) ?_
  refine lv_aload_n hx hb dX10_isCourt_3 rfl (lv_at hl 0 rfl) ?_
  refine va_get (D := (dC, dI)) (ci := 10) (v := .ref m0_courts) (C := RX10) (T := TX10) (N := 53) hx hb hts zl_X10 hown hK hP 0 rfl rfl 18 (by decide) (hts _ zw_t6_118) (fun _ h9 => h9) rfl dX10_isCourt_4 ?_
  refine lv_iconst (v := 0) hx hb dX10_isCourt_7 (by decide) ?_
  refine va_iald hx hb hK hP 1 0 rfl rfl (zi_in (show Int32.toInt 0 = 0 from by decide) (by decide)) dX10_isCourt_8 ?_
  refine lv_topi (fun x_2 ex_2 => ?_)
  have b_x_2 : 0 ≤ x_2.toInt ∧ x_2.toInt ≤ 10 := by rw [ex_2]; exact b_f_m0_courts _
  have t_x_2 : x_2.toInt = (f_m0_courts (Int32.toNatClampNeg 0)).toInt := by rw [ex_2]
  refine lv_iconst (v := 1) hx hb dX10_isCourt_9 (by decide) ?_
  refine lv_isub hx hb dX10_isCourt_10 ?_
  refine lv_topi (fun x_3 ex_3 => ?_)
  have b_x_3 : x_3.toInt = x_2.toInt - 1 := by rw [ex_3]; exact zi_sub rfl (show Int32.toInt 1 = 1 from by decide) (z_rsc b_x_2 (by decide))
  refine lv_i2l (v := _) hx hb dX10_isCourt_11 rfl ?_
  refine lv_topl (fun x_4 ex_4 => ?_)
  have b_x_4 : x_4.toInt = x_3.toInt := by rw [ex_4]; exact z_l64 _
  obtain ⟨hPc, hDc, hFc⟩ := z_cut (wc := []) hP hD hS hA [] rfl (by decide +kernel)
  have hKc := hK.sub (tys' := []) [] rfl
  refine va_calli (va_runS (As := [.long x_1, .long 0, .long x_4]) (rest := []) ⟨hx, hb, hml, hown, hts⟩ (k_X10_in l sa dC dI x_1 (0) x_4 s.heap.size) (va_cwS 3 hts (z_gS zw_t7_29 zw_t7_30 zw_t1_11 zw_t7_31) rfl rfl rfl (by decide +kernel) (by rw [← hRe]; exact ⟨(Nat.le_of_ble_eq_true rfl), (Nat.le_of_ble_eq_true rfl)⟩)) (z_preS hPc hKc hDc hN hXs hS hFc) rfl rfl hl.1 rfl (lv_room (Nat.le_of_ble_eq_true rfl)) dX10_isCourt_12 (by rw [← hRe]; exact ⟨(Nat.le_of_ble_eq_true rfl), (Nat.le_of_ble_eq_true rfl)⟩)) hS (fun q _ h => hFc q h) hFc (fun r_5 u t H1 locs ht hvm hw hB hz1 hk1 hS => ?_)
  obtain ⟨hP, hD, hK⟩ := z_after3 (wn := (zV78 m0 m0_thrown m0_width m0_many m0_cells m0_moved m0_tape m0_taped m0_at m0_token m0_place m0_value m0_word m0_bad m0_badPlace m0_fault m0_faultPlace m0_lines m0_hours m0_courts m0_in m0_gates m0_gate m0_people m0_at0 m0_stray m0_set m0_once m0_truth m0_known m0_isKept m0_strays m0_hostPerson m0_hostCourt m0_outside m0_inside m0_can m0_fewest m0_waysTo m0_then m0_two m0_nextTwo m0_three m0_nextThree m0_shut m0_worth m0_digit m0_codes m0_most m0_bestTry m0_dayCourt m0_dayHour m0_dayNo m0_x m0_courts cA_m0_courts f_m0_courts)) hB ht hvm hP hD hK [] [0, 1] rfl 2 rfl (by decide +kernel) rfl (by decide +kernel) hk1 hFc
  generalize H1 = H at hP hS ⊢
  have hK : va_K (dC, dI) vwCl [(cA_m0_courts, .int)] s := hK
  have b_r_5 : 0 ≤ r_5.toInt ∧ r_5.toInt ≤ 1 := hw.1
  have s_r_5 := hw.2
  have zal_0 : Int64.toInt 0 = 0 := by decide
  exact W.zret (v := r_5) hx hb hr (zi_bool (by first | with_reducible assumption | omega)) (fun t ht hW => by rw [← hQe]; exact ⟨⟨r_5, (), rfl, (by first | decide | omega), z_ret hP hK hD ht hW [0, 1] [] rfl (by decide) rfl⟩, hS.F ht⟩) hS.2.2 dX10_isCourt_15
set_option maxHeartbeats 4000000 in
set_option maxRecDepth 100000 in
theorem k_X10_isPerson (l : Launch) (sa : Nat → Nat) (dC : Nat → ClassId) (dI : Nat → Nat → Nat) (m0 : Nat) (p1 : Int32) (m0_thrown : Int32) (m0_width : Nat) (m0_many : Nat) (m0_cells : Nat) (m0_moved : Nat) (m0_tape : Nat) (m0_taped : Int32) (m0_at : Int32) (m0_token : Int32) (m0_place : Int32) (m0_value : Int32) (m0_word : Int64) (m0_bad : Int32) (m0_badPlace : Int32) (m0_fault : Int32) (m0_faultPlace : Int32) (m0_lines : Nat) (m0_hours : Nat) (m0_courts : Nat) (m0_in : Nat) (m0_gates : Nat) (m0_gate : Nat) (m0_people : Nat) (m0_at0 : Nat) (m0_stray : Nat) (m0_set : Nat) (m0_once : Nat) (m0_truth : Nat) (m0_known : Nat) (m0_isKept : Nat) (m0_strays : Int32) (m0_hostPerson : Int32) (m0_hostCourt : Int32) (m0_outside : Int32) (m0_inside : Nat) (m0_can : Nat) (m0_fewest : Nat) (m0_waysTo : Nat) (m0_then : Nat) (m0_two : Nat) (m0_nextTwo : Nat) (m0_three : Nat) (m0_nextThree : Nat) (m0_shut : Int32) (m0_worth : Nat) (m0_digit : Nat) (m0_codes : Int32) (m0_most : Int64) (m0_bestTry : Int32) (m0_dayCourt : Int32) (m0_dayHour : Int32) (m0_dayNo : Int32) (m0_x : Int64) (cA_m0_people : ClassId) (f_m0_people : Nat → Int32) (b_m0_taped : 0 ≤ m0_taped.toInt ∧ m0_taped.toInt ≤ 1600) (b_m0_at : 0 ≤ m0_at.toInt ∧ m0_at.toInt ≤ 1600) (b_m0_token : 0 ≤ m0_token.toInt ∧ m0_token.toInt ≤ 4) (b_m0_value : 0 ≤ m0_value.toInt ∧ m0_value.toInt ≤ 1000009) (b_m0_bad : 0 ≤ m0_bad.toInt ∧ m0_bad.toInt ≤ 3) (b_m0_strays : 0 ≤ m0_strays.toInt ∧ m0_strays.toInt ≤ 5) (b_m0_hostCourt : 0 ≤ m0_hostCourt.toInt ∧ m0_hostCourt.toInt ≤ 9) (b_m0_dayCourt : 0 ≤ m0_dayCourt.toInt ∧ m0_dayCourt.toInt ≤ 9) (b_m0_dayHour : 0 ≤ m0_dayHour.toInt ∧ m0_dayHour.toInt ≤ 48) (b_f_m0_people : ∀ j : Nat, 0 ≤ (f_m0_people j).toInt ∧ (f_m0_people j).toInt ≤ 10) (sz : Nat) : Met l yX10_isPerson (.code yX10_isPerson cX10_isPerson 2 (some .boolean) :: zT) ({ frames := 1, cells := 0, slots := 0, locals := 25 }) (va_Pc [.ref m0, .int p1] (zB sa dC dI (zV78 m0 m0_thrown m0_width m0_many m0_cells m0_moved m0_tape m0_taped m0_at m0_token m0_place m0_value m0_word m0_bad m0_badPlace m0_fault m0_faultPlace m0_lines m0_hours m0_courts m0_in m0_gates m0_gate m0_people m0_at0 m0_stray m0_set m0_once m0_truth m0_known m0_isKept m0_strays m0_hostPerson m0_hostCourt m0_outside m0_inside m0_can m0_fewest m0_waysTo m0_then m0_two m0_nextTwo m0_three m0_nextThree m0_shut m0_worth m0_digit m0_codes m0_most m0_bestTry m0_dayCourt m0_dayHour m0_dayNo m0_x m0_people cA_m0_people f_m0_people) [(cA_m0_people, .int)] sz)) (va_Qi (fun (r : Int32) (_ : Unit) => (0 ≤ r.toInt ∧ r.toInt ≤ 1) ∧ (r.toInt = 0 ∨ (0 ≤ p1.toInt ∧ p1.toInt ≤ 9))) (fun _ t => zW dC dI (zV78 m0 m0_thrown m0_width m0_many m0_cells m0_moved m0_tape m0_taped m0_at m0_token m0_place m0_value m0_word m0_bad m0_badPlace m0_fault m0_faultPlace m0_lines m0_hours m0_courts m0_in m0_gates m0_gate m0_people m0_at0 m0_stray m0_set m0_once m0_truth m0_known m0_isKept m0_strays m0_hostPerson m0_hostCourt m0_outside m0_inside m0_can m0_fewest m0_waysTo m0_then m0_two m0_nextTwo m0_three m0_nextThree m0_shut m0_worth m0_digit m0_codes m0_most m0_bestTry m0_dayCourt m0_dayHour m0_dayNo m0_x m0_people cA_m0_people f_m0_people) [] (va_A (zV78 m0 m0_thrown m0_width m0_many m0_cells m0_moved m0_tape m0_taped m0_at m0_token m0_place m0_value m0_word m0_bad m0_badPlace m0_fault m0_faultPlace m0_lines m0_hours m0_courts m0_in m0_gates m0_gate m0_people m0_at0 m0_stray m0_set m0_once m0_truth m0_known m0_isKept m0_strays m0_hostPerson m0_hostCourt m0_outside m0_inside m0_can m0_fewest m0_waysTo m0_then m0_two m0_nextTwo m0_three m0_nextThree m0_shut m0_worth m0_digit m0_codes m0_most m0_bestTry m0_dayCourt m0_dayHour m0_dayNo m0_x m0_people cA_m0_people f_m0_people) sz) t) (va_A (zV78 m0 m0_thrown m0_width m0_many m0_cells m0_moved m0_tape m0_taped m0_at m0_token m0_place m0_value m0_word m0_bad m0_badPlace m0_fault m0_faultPlace m0_lines m0_hours m0_courts m0_in m0_gates m0_gate m0_people m0_at0 m0_stray m0_set m0_once m0_truth m0_known m0_isKept m0_strays m0_hostPerson m0_hostCourt m0_outside m0_inside m0_can m0_fewest m0_waysTo m0_then m0_two m0_nextTwo m0_three m0_nextThree m0_shut m0_worth m0_digit m0_codes m0_most m0_bestTry m0_dayCourt m0_dayHour m0_dayNo m0_x m0_people cA_m0_people f_m0_people) sz)) 0 0 (va_A (zV78 m0 m0_thrown m0_width m0_many m0_cells m0_moved m0_tape m0_taped m0_at m0_token m0_place m0_value m0_word m0_bad m0_badPlace m0_fault m0_faultPlace m0_lines m0_hours m0_courts m0_in m0_gates m0_gate m0_people m0_at0 m0_stray m0_set m0_once m0_truth m0_known m0_isKept m0_strays m0_hostPerson m0_hostCourt m0_outside m0_inside m0_can m0_fewest m0_waysTo m0_then m0_two m0_nextTwo m0_three m0_nextThree m0_shut m0_worth m0_digit m0_codes m0_most m0_bestTry m0_dayCourt m0_dayHour m0_dayNo m0_x m0_people cA_m0_people f_m0_people) sz) := by
  refine z_enter (by decide) (by exact (Nat.le_of_ble_eq_true rfl)) ?_
  intro p e s m args below meth c ls A R Qc hargs hsz hQe hAe hRe hx hb hml hr hts hown hlocks hin hl hP hK hD hN hXs hA hS
  rw [hAe] at hQe
  have hown : s.vm.findClass RX10 = some m.cls := hown
  have hl : lv_has ls 2 [(0, .ref m0), (1, .int p1)] := hl
  refine lv_iload_n hx hb dX10_isPerson_0 rfl (lv_at hl 1 rfl) ?_
  refine lv_i2l (v := _) hx hb dX10_isPerson_1 rfl ?_
  refine lv_topl (fun x_1 ex_1 => ?_)
  have b_x_1 : x_1.toInt = p1.toInt := by rw [ex_1]; exact z_l64 _
  refine lv_lconst (v := 0) hx hb dX10_isPerson_2 (by decide) ?_
  refine lv_aload_n hx hb dX10_isPerson_3 rfl (lv_at hl 0 rfl) ?_
  refine va_get (D := (dC, dI)) (ci := 10) (v := .ref m0_people) (C := RX10) (T := TX10) (N := 53) hx hb hts zl_X10 hown hK hP 0 rfl rfl 22 (by decide) (hts _ zw_t6_122) (fun _ h9 => h9) rfl dX10_isPerson_4 ?_
  refine lv_iconst (v := 0) hx hb dX10_isPerson_7 (by decide) ?_
  refine va_iald hx hb hK hP 1 0 rfl rfl (zi_in (show Int32.toInt 0 = 0 from by decide) (by decide)) dX10_isPerson_8 ?_
  refine lv_topi (fun x_2 ex_2 => ?_)
  have b_x_2 : 0 ≤ x_2.toInt ∧ x_2.toInt ≤ 10 := by rw [ex_2]; exact b_f_m0_people _
  have t_x_2 : x_2.toInt = (f_m0_people (Int32.toNatClampNeg 0)).toInt := by rw [ex_2]
  refine lv_iconst (v := 1) hx hb dX10_isPerson_9 (by decide) ?_
  refine lv_isub hx hb dX10_isPerson_10 ?_
  refine lv_topi (fun x_3 ex_3 => ?_)
  have b_x_3 : x_3.toInt = x_2.toInt - 1 := by rw [ex_3]; exact zi_sub rfl (show Int32.toInt 1 = 1 from by decide) (z_rsc b_x_2 (by decide))
  refine lv_i2l (v := _) hx hb dX10_isPerson_11 rfl ?_
  refine lv_topl (fun x_4 ex_4 => ?_)
  have b_x_4 : x_4.toInt = x_3.toInt := by rw [ex_4]; exact z_l64 _
  obtain ⟨hPc, hDc, hFc⟩ := z_cut (wc := []) hP hD hS hA [] rfl (by decide +kernel)
  have hKc := hK.sub (tys' := []) [] rfl
  refine va_calli (va_runS (As := [.long x_1, .long 0, .long x_4]) (rest := []) ⟨hx, hb, hml, hown, hts⟩ (k_X10_in l sa dC dI x_1 (0) x_4 s.heap.size) (va_cwS 3 hts (z_gS zw_t7_29 zw_t7_30 zw_t1_11 zw_t7_31) rfl rfl rfl (by decide +kernel) (by rw [← hRe]; exact ⟨(Nat.le_of_ble_eq_true rfl), (Nat.le_of_ble_eq_true rfl)⟩)) (z_preS hPc hKc hDc hN hXs hS hFc) rfl rfl hl.1 rfl (lv_room (Nat.le_of_ble_eq_true rfl)) dX10_isPerson_12 (by rw [← hRe]; exact ⟨(Nat.le_of_ble_eq_true rfl), (Nat.le_of_ble_eq_true rfl)⟩)) hS (fun q _ h => hFc q h) hFc (fun r_5 u t H1 locs ht hvm hw hB hz1 hk1 hS => ?_)
  obtain ⟨hP, hD, hK⟩ := z_after3 (wn := (zV78 m0 m0_thrown m0_width m0_many m0_cells m0_moved m0_tape m0_taped m0_at m0_token m0_place m0_value m0_word m0_bad m0_badPlace m0_fault m0_faultPlace m0_lines m0_hours m0_courts m0_in m0_gates m0_gate m0_people m0_at0 m0_stray m0_set m0_once m0_truth m0_known m0_isKept m0_strays m0_hostPerson m0_hostCourt m0_outside m0_inside m0_can m0_fewest m0_waysTo m0_then m0_two m0_nextTwo m0_three m0_nextThree m0_shut m0_worth m0_digit m0_codes m0_most m0_bestTry m0_dayCourt m0_dayHour m0_dayNo m0_x m0_people cA_m0_people f_m0_people)) hB ht hvm hP hD hK [] [0, 1] rfl 2 rfl (by decide +kernel) rfl (by decide +kernel) hk1 hFc
  generalize H1 = H at hP hS ⊢
  have hK : va_K (dC, dI) vwCl [(cA_m0_people, .int)] s := hK
  have b_r_5 : 0 ≤ r_5.toInt ∧ r_5.toInt ≤ 1 := hw.1
  have s_r_5 := hw.2
  have zal_0 : Int64.toInt 0 = 0 := by decide
  exact W.zret (v := r_5) hx hb hr (zi_bool (by first | with_reducible assumption | omega)) (fun t ht hW => by rw [← hQe]; exact ⟨⟨r_5, (), rfl, (by first | decide | omega), z_ret hP hK hD ht hW [0, 1] [] rfl (by decide) rfl⟩, hS.F ht⟩) hS.2.2 dX10_isPerson_15
set_option maxHeartbeats 4000000 in
set_option maxRecDepth 100000 in
theorem k_X10_isGate (l : Launch) (sa : Nat → Nat) (dC : Nat → ClassId) (dI : Nat → Nat → Nat) (m0 : Nat) (p1 : Int32) (m0_thrown : Int32) (m0_width : Nat) (m0_many : Nat) (m0_cells : Nat) (m0_moved : Nat) (m0_tape : Nat) (m0_taped : Int32) (m0_at : Int32) (m0_token : Int32) (m0_place : Int32) (m0_value : Int32) (m0_word : Int64) (m0_bad : Int32) (m0_badPlace : Int32) (m0_fault : Int32) (m0_faultPlace : Int32) (m0_lines : Nat) (m0_hours : Nat) (m0_courts : Nat) (m0_in : Nat) (m0_gates : Nat) (m0_gate : Nat) (m0_people : Nat) (m0_at0 : Nat) (m0_stray : Nat) (m0_set : Nat) (m0_once : Nat) (m0_truth : Nat) (m0_known : Nat) (m0_isKept : Nat) (m0_strays : Int32) (m0_hostPerson : Int32) (m0_hostCourt : Int32) (m0_outside : Int32) (m0_inside : Nat) (m0_can : Nat) (m0_fewest : Nat) (m0_waysTo : Nat) (m0_then : Nat) (m0_two : Nat) (m0_nextTwo : Nat) (m0_three : Nat) (m0_nextThree : Nat) (m0_shut : Int32) (m0_worth : Nat) (m0_digit : Nat) (m0_codes : Int32) (m0_most : Int64) (m0_bestTry : Int32) (m0_dayCourt : Int32) (m0_dayHour : Int32) (m0_dayNo : Int32) (m0_x : Int64) (cA_m0_gates : ClassId) (f_m0_gates : Nat → Int32) (b_m0_taped : 0 ≤ m0_taped.toInt ∧ m0_taped.toInt ≤ 1600) (b_m0_at : 0 ≤ m0_at.toInt ∧ m0_at.toInt ≤ 1600) (b_m0_token : 0 ≤ m0_token.toInt ∧ m0_token.toInt ≤ 4) (b_m0_value : 0 ≤ m0_value.toInt ∧ m0_value.toInt ≤ 1000009) (b_m0_bad : 0 ≤ m0_bad.toInt ∧ m0_bad.toInt ≤ 3) (b_m0_strays : 0 ≤ m0_strays.toInt ∧ m0_strays.toInt ≤ 5) (b_m0_hostCourt : 0 ≤ m0_hostCourt.toInt ∧ m0_hostCourt.toInt ≤ 9) (b_m0_dayCourt : 0 ≤ m0_dayCourt.toInt ∧ m0_dayCourt.toInt ≤ 9) (b_m0_dayHour : 0 ≤ m0_dayHour.toInt ∧ m0_dayHour.toInt ≤ 48) (b_f_m0_gates : ∀ j : Nat, 0 ≤ (f_m0_gates j).toInt ∧ (f_m0_gates j).toInt ≤ 16) (sz : Nat) : Met l yX10_isGate (.code yX10_isGate cX10_isGate 2 (some .boolean) :: zT) ({ frames := 1, cells := 0, slots := 0, locals := 25 }) (va_Pc [.ref m0, .int p1] (zB sa dC dI (zV78 m0 m0_thrown m0_width m0_many m0_cells m0_moved m0_tape m0_taped m0_at m0_token m0_place m0_value m0_word m0_bad m0_badPlace m0_fault m0_faultPlace m0_lines m0_hours m0_courts m0_in m0_gates m0_gate m0_people m0_at0 m0_stray m0_set m0_once m0_truth m0_known m0_isKept m0_strays m0_hostPerson m0_hostCourt m0_outside m0_inside m0_can m0_fewest m0_waysTo m0_then m0_two m0_nextTwo m0_three m0_nextThree m0_shut m0_worth m0_digit m0_codes m0_most m0_bestTry m0_dayCourt m0_dayHour m0_dayNo m0_x m0_gates cA_m0_gates f_m0_gates) [(cA_m0_gates, .int)] sz)) (va_Qi (fun (r : Int32) (_ : Unit) => (0 ≤ r.toInt ∧ r.toInt ≤ 1) ∧ (r.toInt = 0 ∨ (0 ≤ p1.toInt ∧ p1.toInt ≤ 15))) (fun _ t => zW dC dI (zV78 m0 m0_thrown m0_width m0_many m0_cells m0_moved m0_tape m0_taped m0_at m0_token m0_place m0_value m0_word m0_bad m0_badPlace m0_fault m0_faultPlace m0_lines m0_hours m0_courts m0_in m0_gates m0_gate m0_people m0_at0 m0_stray m0_set m0_once m0_truth m0_known m0_isKept m0_strays m0_hostPerson m0_hostCourt m0_outside m0_inside m0_can m0_fewest m0_waysTo m0_then m0_two m0_nextTwo m0_three m0_nextThree m0_shut m0_worth m0_digit m0_codes m0_most m0_bestTry m0_dayCourt m0_dayHour m0_dayNo m0_x m0_gates cA_m0_gates f_m0_gates) [] (va_A (zV78 m0 m0_thrown m0_width m0_many m0_cells m0_moved m0_tape m0_taped m0_at m0_token m0_place m0_value m0_word m0_bad m0_badPlace m0_fault m0_faultPlace m0_lines m0_hours m0_courts m0_in m0_gates m0_gate m0_people m0_at0 m0_stray m0_set m0_once m0_truth m0_known m0_isKept m0_strays m0_hostPerson m0_hostCourt m0_outside m0_inside m0_can m0_fewest m0_waysTo m0_then m0_two m0_nextTwo m0_three m0_nextThree m0_shut m0_worth m0_digit m0_codes m0_most m0_bestTry m0_dayCourt m0_dayHour m0_dayNo m0_x m0_gates cA_m0_gates f_m0_gates) sz) t) (va_A (zV78 m0 m0_thrown m0_width m0_many m0_cells m0_moved m0_tape m0_taped m0_at m0_token m0_place m0_value m0_word m0_bad m0_badPlace m0_fault m0_faultPlace m0_lines m0_hours m0_courts m0_in m0_gates m0_gate m0_people m0_at0 m0_stray m0_set m0_once m0_truth m0_known m0_isKept m0_strays m0_hostPerson m0_hostCourt m0_outside m0_inside m0_can m0_fewest m0_waysTo m0_then m0_two m0_nextTwo m0_three m0_nextThree m0_shut m0_worth m0_digit m0_codes m0_most m0_bestTry m0_dayCourt m0_dayHour m0_dayNo m0_x m0_gates cA_m0_gates f_m0_gates) sz)) 0 0 (va_A (zV78 m0 m0_thrown m0_width m0_many m0_cells m0_moved m0_tape m0_taped m0_at m0_token m0_place m0_value m0_word m0_bad m0_badPlace m0_fault m0_faultPlace m0_lines m0_hours m0_courts m0_in m0_gates m0_gate m0_people m0_at0 m0_stray m0_set m0_once m0_truth m0_known m0_isKept m0_strays m0_hostPerson m0_hostCourt m0_outside m0_inside m0_can m0_fewest m0_waysTo m0_then m0_two m0_nextTwo m0_three m0_nextThree m0_shut m0_worth m0_digit m0_codes m0_most m0_bestTry m0_dayCourt m0_dayHour m0_dayNo m0_x m0_gates cA_m0_gates f_m0_gates) sz) := by
  refine z_enter (by decide) (by exact (Nat.le_of_ble_eq_true rfl)) ?_
  intro p e s m args below meth c ls A R Qc hargs hsz hQe hAe hRe hx hb hml hr hts hown hlocks hin hl hP hK hD hN hXs hA hS
  rw [hAe] at hQe
  have hown : s.vm.findClass RX10 = some m.cls := hown
  have hl : lv_has ls 2 [(0, .ref m0), (1, .int p1)] := hl
  refine lv_iload_n hx hb dX10_isGate_0 rfl (lv_at hl 1 rfl) ?_
  refine lv_i2l (v := _) hx hb dX10_isGate_1 rfl ?_
  refine lv_topl (fun x_1 ex_1 => ?_)
  have b_x_1 : x_1.toInt = p1.toInt := by rw [ex_1]; exact z_l64 _
  refine lv_lconst (v := 0) hx hb dX10_isGate_2 (by decide) ?_
  refine lv_aload_n hx hb dX10_isGate_3 rfl (lv_at hl 0 rfl) ?_
  refine va_get (D := (dC, dI)) (ci := 10) (v := .ref m0_gates) (C := RX10) (T := TX10) (N := 53) hx hb hts zl_X10 hown hK hP 0 rfl rfl 20 (by decide) (hts _ zw_t6_120) (fun _ h9 => h9) rfl dX10_isGate_4 ?_
  refine lv_iconst (v := 0) hx hb dX10_isGate_7 (by decide) ?_
  refine va_iald hx hb hK hP 1 0 rfl rfl (zi_in (show Int32.toInt 0 = 0 from by decide) (by decide)) dX10_isGate_8 ?_
  refine lv_topi (fun x_2 ex_2 => ?_)
  have b_x_2 : 0 ≤ x_2.toInt ∧ x_2.toInt ≤ 16 := by rw [ex_2]; exact b_f_m0_gates _
  have t_x_2 : x_2.toInt = (f_m0_gates (Int32.toNatClampNeg 0)).toInt := by rw [ex_2]
  refine lv_iconst (v := 1) hx hb dX10_isGate_9 (by decide) ?_
  refine lv_isub hx hb dX10_isGate_10 ?_
  refine lv_topi (fun x_3 ex_3 => ?_)
  have b_x_3 : x_3.toInt = x_2.toInt - 1 := by rw [ex_3]; exact zi_sub rfl (show Int32.toInt 1 = 1 from by decide) (z_rsc b_x_2 (by decide))
  refine lv_i2l (v := _) hx hb dX10_isGate_11 rfl ?_
  refine lv_topl (fun x_4 ex_4 => ?_)
  have b_x_4 : x_4.toInt = x_3.toInt := by rw [ex_4]; exact z_l64 _
  obtain ⟨hPc, hDc, hFc⟩ := z_cut (wc := []) hP hD hS hA [] rfl (by decide +kernel)
  have hKc := hK.sub (tys' := []) [] rfl
  refine va_calli (va_runS (As := [.long x_1, .long 0, .long x_4]) (rest := []) ⟨hx, hb, hml, hown, hts⟩ (k_X10_in l sa dC dI x_1 (0) x_4 s.heap.size) (va_cwS 3 hts (z_gS zw_t7_29 zw_t7_30 zw_t1_11 zw_t7_31) rfl rfl rfl (by decide +kernel) (by rw [← hRe]; exact ⟨(Nat.le_of_ble_eq_true rfl), (Nat.le_of_ble_eq_true rfl)⟩)) (z_preS hPc hKc hDc hN hXs hS hFc) rfl rfl hl.1 rfl (lv_room (Nat.le_of_ble_eq_true rfl)) dX10_isGate_12 (by rw [← hRe]; exact ⟨(Nat.le_of_ble_eq_true rfl), (Nat.le_of_ble_eq_true rfl)⟩)) hS (fun q _ h => hFc q h) hFc (fun r_5 u t H1 locs ht hvm hw hB hz1 hk1 hS => ?_)
  obtain ⟨hP, hD, hK⟩ := z_after3 (wn := (zV78 m0 m0_thrown m0_width m0_many m0_cells m0_moved m0_tape m0_taped m0_at m0_token m0_place m0_value m0_word m0_bad m0_badPlace m0_fault m0_faultPlace m0_lines m0_hours m0_courts m0_in m0_gates m0_gate m0_people m0_at0 m0_stray m0_set m0_once m0_truth m0_known m0_isKept m0_strays m0_hostPerson m0_hostCourt m0_outside m0_inside m0_can m0_fewest m0_waysTo m0_then m0_two m0_nextTwo m0_three m0_nextThree m0_shut m0_worth m0_digit m0_codes m0_most m0_bestTry m0_dayCourt m0_dayHour m0_dayNo m0_x m0_gates cA_m0_gates f_m0_gates)) hB ht hvm hP hD hK [] [0, 1] rfl 2 rfl (by decide +kernel) rfl (by decide +kernel) hk1 hFc
  generalize H1 = H at hP hS ⊢
  have hK : va_K (dC, dI) vwCl [(cA_m0_gates, .int)] s := hK
  have b_r_5 : 0 ≤ r_5.toInt ∧ r_5.toInt ≤ 1 := hw.1
  have s_r_5 := hw.2
  have zal_0 : Int64.toInt 0 = 0 := by decide
  exact W.zret (v := r_5) hx hb hr (zi_bool (by first | with_reducible assumption | omega)) (fun t ht hW => by rw [← hQe]; exact ⟨⟨r_5, (), rfl, (by first | decide | omega), z_ret hP hK hD ht hW [0, 1] [] rfl (by decide) rfl⟩, hS.F ht⟩) hS.2.2 dX10_isGate_15
set_option maxHeartbeats 4000000 in
set_option maxRecDepth 100000 in
theorem k_X10_isPeople (l : Launch) (sa : Nat → Nat) (dC : Nat → ClassId) (dI : Nat → Nat → Nat) (m0 : Nat) (p1 : Int32) (m0_thrown : Int32) (m0_width : Nat) (m0_many : Nat) (m0_cells : Nat) (m0_moved : Nat) (m0_tape : Nat) (m0_taped : Int32) (m0_at : Int32) (m0_token : Int32) (m0_place : Int32) (m0_value : Int32) (m0_word : Int64) (m0_bad : Int32) (m0_badPlace : Int32) (m0_fault : Int32) (m0_faultPlace : Int32) (m0_lines : Nat) (m0_hours : Nat) (m0_courts : Nat) (m0_in : Nat) (m0_gates : Nat) (m0_gate : Nat) (m0_people : Nat) (m0_at0 : Nat) (m0_stray : Nat) (m0_set : Nat) (m0_once : Nat) (m0_truth : Nat) (m0_known : Nat) (m0_isKept : Nat) (m0_strays : Int32) (m0_hostPerson : Int32) (m0_hostCourt : Int32) (m0_outside : Int32) (m0_inside : Nat) (m0_can : Nat) (m0_fewest : Nat) (m0_waysTo : Nat) (m0_then : Nat) (m0_two : Nat) (m0_nextTwo : Nat) (m0_three : Nat) (m0_nextThree : Nat) (m0_shut : Int32) (m0_worth : Nat) (m0_digit : Nat) (m0_codes : Int32) (m0_most : Int64) (m0_bestTry : Int32) (m0_dayCourt : Int32) (m0_dayHour : Int32) (m0_dayNo : Int32) (m0_x : Int64) (cA_m0_people : ClassId) (f_m0_people : Nat → Int32) (b_m0_taped : 0 ≤ m0_taped.toInt ∧ m0_taped.toInt ≤ 1600) (b_m0_at : 0 ≤ m0_at.toInt ∧ m0_at.toInt ≤ 1600) (b_m0_token : 0 ≤ m0_token.toInt ∧ m0_token.toInt ≤ 4) (b_m0_value : 0 ≤ m0_value.toInt ∧ m0_value.toInt ≤ 1000009) (b_m0_bad : 0 ≤ m0_bad.toInt ∧ m0_bad.toInt ≤ 3) (b_m0_strays : 0 ≤ m0_strays.toInt ∧ m0_strays.toInt ≤ 5) (b_m0_hostCourt : 0 ≤ m0_hostCourt.toInt ∧ m0_hostCourt.toInt ≤ 9) (b_m0_dayCourt : 0 ≤ m0_dayCourt.toInt ∧ m0_dayCourt.toInt ≤ 9) (b_m0_dayHour : 0 ≤ m0_dayHour.toInt ∧ m0_dayHour.toInt ≤ 48) (b_f_m0_people : ∀ j : Nat, 0 ≤ (f_m0_people j).toInt ∧ (f_m0_people j).toInt ≤ 10) (sz : Nat) : Met l yX10_isPeople (.code yX10_isPeople cX10_isPeople 2 (some .boolean) :: zT) ({ frames := 1, cells := 0, slots := 0, locals := 25 }) (va_Pc [.ref m0, .int p1] (zB sa dC dI (zV78 m0 m0_thrown m0_width m0_many m0_cells m0_moved m0_tape m0_taped m0_at m0_token m0_place m0_value m0_word m0_bad m0_badPlace m0_fault m0_faultPlace m0_lines m0_hours m0_courts m0_in m0_gates m0_gate m0_people m0_at0 m0_stray m0_set m0_once m0_truth m0_known m0_isKept m0_strays m0_hostPerson m0_hostCourt m0_outside m0_inside m0_can m0_fewest m0_waysTo m0_then m0_two m0_nextTwo m0_three m0_nextThree m0_shut m0_worth m0_digit m0_codes m0_most m0_bestTry m0_dayCourt m0_dayHour m0_dayNo m0_x m0_people cA_m0_people f_m0_people) [(cA_m0_people, .int)] sz)) (va_Qi (fun (r : Int32) (_ : Unit) => (0 ≤ r.toInt ∧ r.toInt ≤ 1) ∧ (r.toInt = 0 ∨ (0 ≤ p1.toInt ∧ p1.toInt ≤ 1023))) (fun _ t => zW dC dI (zV78 m0 m0_thrown m0_width m0_many m0_cells m0_moved m0_tape m0_taped m0_at m0_token m0_place m0_value m0_word m0_bad m0_badPlace m0_fault m0_faultPlace m0_lines m0_hours m0_courts m0_in m0_gates m0_gate m0_people m0_at0 m0_stray m0_set m0_once m0_truth m0_known m0_isKept m0_strays m0_hostPerson m0_hostCourt m0_outside m0_inside m0_can m0_fewest m0_waysTo m0_then m0_two m0_nextTwo m0_three m0_nextThree m0_shut m0_worth m0_digit m0_codes m0_most m0_bestTry m0_dayCourt m0_dayHour m0_dayNo m0_x m0_people cA_m0_people f_m0_people) [] (va_A (zV78 m0 m0_thrown m0_width m0_many m0_cells m0_moved m0_tape m0_taped m0_at m0_token m0_place m0_value m0_word m0_bad m0_badPlace m0_fault m0_faultPlace m0_lines m0_hours m0_courts m0_in m0_gates m0_gate m0_people m0_at0 m0_stray m0_set m0_once m0_truth m0_known m0_isKept m0_strays m0_hostPerson m0_hostCourt m0_outside m0_inside m0_can m0_fewest m0_waysTo m0_then m0_two m0_nextTwo m0_three m0_nextThree m0_shut m0_worth m0_digit m0_codes m0_most m0_bestTry m0_dayCourt m0_dayHour m0_dayNo m0_x m0_people cA_m0_people f_m0_people) sz) t) (va_A (zV78 m0 m0_thrown m0_width m0_many m0_cells m0_moved m0_tape m0_taped m0_at m0_token m0_place m0_value m0_word m0_bad m0_badPlace m0_fault m0_faultPlace m0_lines m0_hours m0_courts m0_in m0_gates m0_gate m0_people m0_at0 m0_stray m0_set m0_once m0_truth m0_known m0_isKept m0_strays m0_hostPerson m0_hostCourt m0_outside m0_inside m0_can m0_fewest m0_waysTo m0_then m0_two m0_nextTwo m0_three m0_nextThree m0_shut m0_worth m0_digit m0_codes m0_most m0_bestTry m0_dayCourt m0_dayHour m0_dayNo m0_x m0_people cA_m0_people f_m0_people) sz)) 0 0 (va_A (zV78 m0 m0_thrown m0_width m0_many m0_cells m0_moved m0_tape m0_taped m0_at m0_token m0_place m0_value m0_word m0_bad m0_badPlace m0_fault m0_faultPlace m0_lines m0_hours m0_courts m0_in m0_gates m0_gate m0_people m0_at0 m0_stray m0_set m0_once m0_truth m0_known m0_isKept m0_strays m0_hostPerson m0_hostCourt m0_outside m0_inside m0_can m0_fewest m0_waysTo m0_then m0_two m0_nextTwo m0_three m0_nextThree m0_shut m0_worth m0_digit m0_codes m0_most m0_bestTry m0_dayCourt m0_dayHour m0_dayNo m0_x m0_people cA_m0_people f_m0_people) sz) := by
  refine z_enter (by decide) (by exact (Nat.le_of_ble_eq_true rfl)) ?_
  intro p e s m args below meth c ls A R Qc hargs hsz hQe hAe hRe hx hb hml hr hts hown hlocks hin hl hP hK hD hN hXs hA hS
  rw [hAe] at hQe
  have hown : s.vm.findClass RX10 = some m.cls := hown
  have hl : lv_has ls 2 [(0, .ref m0), (1, .int p1)] := hl
  refine lv_iload_n hx hb dX10_isPeople_0 rfl (lv_at hl 1 rfl) ?_
  refine lv_i2l (v := _) hx hb dX10_isPeople_1 rfl ?_
  refine lv_topl (fun x_1 ex_1 => ?_)
  have b_x_1 : x_1.toInt = p1.toInt := by rw [ex_1]; exact z_l64 _
  refine lv_lconst (v := 0) hx hb dX10_isPeople_2 (by decide) ?_
  refine lv_iconst (v := 1) hx hb dX10_isPeople_3 (by decide) ?_
  refine lv_aload_n hx hb dX10_isPeople_4 rfl (lv_at hl 0 rfl) ?_
  refine va_get (D := (dC, dI)) (ci := 10) (v := .ref m0_people) (C := RX10) (T := TX10) (N := 53) hx hb hts zl_X10 hown hK hP 0 rfl rfl 22 (by decide) (hts _ zw_t6_122) (fun _ h9 => h9) rfl dX10_isPeople_5 ?_
  refine lv_iconst (v := 0) hx hb dX10_isPeople_8 (by decide) ?_
  refine va_iald hx hb hK hP 1 0 rfl rfl (zi_in (show Int32.toInt 0 = 0 from by decide) (by decide)) dX10_isPeople_9 ?_
  refine lv_topi (fun x_2 ex_2 => ?_)
  have b_x_2 : 0 ≤ x_2.toInt ∧ x_2.toInt ≤ 10 := by rw [ex_2]; exact b_f_m0_people _
  have t_x_2 : x_2.toInt = (f_m0_people (Int32.toNatClampNeg 0)).toInt := by rw [ex_2]
  refine lv_ishl hx hb dX10_isPeople_10 ?_
  refine lv_topi (fun x_3 ex_3 => ?_)
  have b_x_3 : 1 ≤ x_3.toInt ∧ x_3.toInt ≤ 1024 := by rw [ex_3]; exact zi_shl1 rfl (by first | with_reducible assumption | omega)
  refine lv_iconst (v := 1) hx hb dX10_isPeople_11 (by decide) ?_
  refine lv_isub hx hb dX10_isPeople_12 ?_
  refine lv_topi (fun x_4 ex_4 => ?_)
  have b_x_4 : x_4.toInt = x_3.toInt - 1 := by rw [ex_4]; exact zi_sub rfl (show Int32.toInt 1 = 1 from by decide) (z_rsc b_x_3 (by decide))
  refine lv_i2l (v := _) hx hb dX10_isPeople_13 rfl ?_
  refine lv_topl (fun x_5 ex_5 => ?_)
  have b_x_5 : x_5.toInt = x_4.toInt := by rw [ex_5]; exact z_l64 _
  obtain ⟨hPc, hDc, hFc⟩ := z_cut (wc := []) hP hD hS hA [] rfl (by decide +kernel)
  have hKc := hK.sub (tys' := []) [] rfl
  refine va_calli (va_runS (As := [.long x_1, .long 0, .long x_5]) (rest := []) ⟨hx, hb, hml, hown, hts⟩ (k_X10_in l sa dC dI x_1 (0) x_5 s.heap.size) (va_cwS 3 hts (z_gS zw_t7_29 zw_t7_30 zw_t1_11 zw_t7_31) rfl rfl rfl (by decide +kernel) (by rw [← hRe]; exact ⟨(Nat.le_of_ble_eq_true rfl), (Nat.le_of_ble_eq_true rfl)⟩)) (z_preS hPc hKc hDc hN hXs hS hFc) rfl rfl hl.1 rfl (lv_room (Nat.le_of_ble_eq_true rfl)) dX10_isPeople_14 (by rw [← hRe]; exact ⟨(Nat.le_of_ble_eq_true rfl), (Nat.le_of_ble_eq_true rfl)⟩)) hS (fun q _ h => hFc q h) hFc (fun r_6 u t H1 locs ht hvm hw hB hz1 hk1 hS => ?_)
  obtain ⟨hP, hD, hK⟩ := z_after3 (wn := (zV78 m0 m0_thrown m0_width m0_many m0_cells m0_moved m0_tape m0_taped m0_at m0_token m0_place m0_value m0_word m0_bad m0_badPlace m0_fault m0_faultPlace m0_lines m0_hours m0_courts m0_in m0_gates m0_gate m0_people m0_at0 m0_stray m0_set m0_once m0_truth m0_known m0_isKept m0_strays m0_hostPerson m0_hostCourt m0_outside m0_inside m0_can m0_fewest m0_waysTo m0_then m0_two m0_nextTwo m0_three m0_nextThree m0_shut m0_worth m0_digit m0_codes m0_most m0_bestTry m0_dayCourt m0_dayHour m0_dayNo m0_x m0_people cA_m0_people f_m0_people)) hB ht hvm hP hD hK [] [0, 1] rfl 2 rfl (by decide +kernel) rfl (by decide +kernel) hk1 hFc
  generalize H1 = H at hP hS ⊢
  have hK : va_K (dC, dI) vwCl [(cA_m0_people, .int)] s := hK
  have b_r_6 : 0 ≤ r_6.toInt ∧ r_6.toInt ≤ 1 := hw.1
  have s_r_6 := hw.2
  have zal_0 : Int64.toInt 0 = 0 := by decide
  exact W.zret (v := r_6) hx hb hr (zi_bool (by first | with_reducible assumption | omega)) (fun t ht hW => by rw [← hQe]; exact ⟨⟨r_6, (), rfl, (by first | decide | omega), z_ret hP hK hD ht hW [0, 1] [] rfl (by decide) rfl⟩, hS.F ht⟩) hS.2.2 dX10_isPeople_17
set_option maxHeartbeats 4000000 in
set_option maxRecDepth 100000 in
theorem k_X10_may (l : Launch) (sa : Nat → Nat) (dC : Nat → ClassId) (dI : Nat → Nat → Nat) (m0 : Nat) (m0_thrown : Int32) (m0_width : Nat) (m0_many : Nat) (m0_cells : Nat) (m0_moved : Nat) (m0_tape : Nat) (m0_taped : Int32) (m0_at : Int32) (m0_token : Int32) (m0_place : Int32) (m0_value : Int32) (m0_word : Int64) (m0_bad : Int32) (m0_badPlace : Int32) (m0_fault : Int32) (m0_faultPlace : Int32) (m0_lines : Nat) (m0_hours : Nat) (m0_courts : Nat) (m0_in : Nat) (m0_gates : Nat) (m0_gate : Nat) (m0_people : Nat) (m0_at0 : Nat) (m0_stray : Nat) (m0_set : Nat) (m0_once : Nat) (m0_truth : Nat) (m0_known : Nat) (m0_isKept : Nat) (m0_strays : Int32) (m0_hostPerson : Int32) (m0_hostCourt : Int32) (m0_outside : Int32) (m0_inside : Nat) (m0_can : Nat) (m0_fewest : Nat) (m0_waysTo : Nat) (m0_then : Nat) (m0_two : Nat) (m0_nextTwo : Nat) (m0_three : Nat) (m0_nextThree : Nat) (m0_shut : Int32) (m0_worth : Nat) (m0_digit : Nat) (m0_codes : Int32) (m0_most : Int64) (m0_bestTry : Int32) (m0_dayCourt : Int32) (m0_dayHour : Int32) (m0_dayNo : Int32) (m0_x : Int64) (cA_m0_people : ClassId) (f_m0_people : Nat → Int32) (cA_m0_stray : ClassId) (f_m0_stray : Nat → Int32) (b_m0_taped : 0 ≤ m0_taped.toInt ∧ m0_taped.toInt ≤ 1600) (b_m0_at : 0 ≤ m0_at.toInt ∧ m0_at.toInt ≤ 1600) (b_m0_token : 0 ≤ m0_token.toInt ∧ m0_token.toInt ≤ 4) (b_m0_value : 0 ≤ m0_value.toInt ∧ m0_value.toInt ≤ 1000009) (b_m0_bad : 0 ≤ m0_bad.toInt ∧ m0_bad.toInt ≤ 3) (b_m0_strays : 0 ≤ m0_strays.toInt ∧ m0_strays.toInt ≤ 5) (b_m0_hostCourt : 0 ≤ m0_hostCourt.toInt ∧ m0_hostCourt.toInt ≤ 9) (b_m0_dayCourt : 0 ≤ m0_dayCourt.toInt ∧ m0_dayCourt.toInt ≤ 9) (b_m0_dayHour : 0 ≤ m0_dayHour.toInt ∧ m0_dayHour.toInt ≤ 48) (b_f_m0_people : ∀ j : Nat, 0 ≤ (f_m0_people j).toInt ∧ (f_m0_people j).toInt ≤ 10) (b_f_m0_stray : ∀ j : Nat, 0 ≤ (f_m0_stray j).toInt ∧ (f_m0_stray j).toInt ≤ 99 ∧ (j % 2 = 1 → (f_m0_stray j).toInt ≤ 9)) (sz : Nat) : Met l yX10_may (.code yX10_may cX10_may 3 (some .int) :: zT) ({ frames := 0, cells := 0, slots := 0, locals := 0 }) (va_Pc [.ref m0] (zB sa dC dI (zV79 m0 m0_thrown m0_width m0_many m0_cells m0_moved m0_tape m0_taped m0_at m0_token m0_place m0_value m0_word m0_bad m0_badPlace m0_fault m0_faultPlace m0_lines m0_hours m0_courts m0_in m0_gates m0_gate m0_people m0_at0 m0_stray m0_set m0_once m0_truth m0_known m0_isKept m0_strays m0_hostPerson m0_hostCourt m0_outside m0_inside m0_can m0_fewest m0_waysTo m0_then m0_two m0_nextTwo m0_three m0_nextThree m0_shut m0_worth m0_digit m0_codes m0_most m0_bestTry m0_dayCourt m0_dayHour m0_dayNo m0_x m0_people cA_m0_people f_m0_people m0_stray cA_m0_stray f_m0_stray) [(cA_m0_people, .int), (cA_m0_stray, .int)] sz)) (va_Qi (fun (r : Int32) (_ : Unit) => (0 ≤ r.toInt ∧ r.toInt ≤ 1023)) (fun _ t => zW dC dI (zV79 m0 m0_thrown m0_width m0_many m0_cells m0_moved m0_tape m0_taped m0_at m0_token m0_place m0_value m0_word m0_bad m0_badPlace m0_fault m0_faultPlace m0_lines m0_hours m0_courts m0_in m0_gates m0_gate m0_people m0_at0 m0_stray m0_set m0_once m0_truth m0_known m0_isKept m0_strays m0_hostPerson m0_hostCourt m0_outside m0_inside m0_can m0_fewest m0_waysTo m0_then m0_two m0_nextTwo m0_three m0_nextThree m0_shut m0_worth m0_digit m0_codes m0_most m0_bestTry m0_dayCourt m0_dayHour m0_dayNo m0_x m0_people cA_m0_people f_m0_people m0_stray cA_m0_stray f_m0_stray) [] (va_A (zV79 m0 m0_thrown m0_width m0_many m0_cells m0_moved m0_tape m0_taped m0_at m0_token m0_place m0_value m0_word m0_bad m0_badPlace m0_fault m0_faultPlace m0_lines m0_hours m0_courts m0_in m0_gates m0_gate m0_people m0_at0 m0_stray m0_set m0_once m0_truth m0_known m0_isKept m0_strays m0_hostPerson m0_hostCourt m0_outside m0_inside m0_can m0_fewest m0_waysTo m0_then m0_two m0_nextTwo m0_three m0_nextThree m0_shut m0_worth m0_digit m0_codes m0_most m0_bestTry m0_dayCourt m0_dayHour m0_dayNo m0_x m0_people cA_m0_people f_m0_people m0_stray cA_m0_stray f_m0_stray) sz) t) (va_A (zV79 m0 m0_thrown m0_width m0_many m0_cells m0_moved m0_tape m0_taped m0_at m0_token m0_place m0_value m0_word m0_bad m0_badPlace m0_fault m0_faultPlace m0_lines m0_hours m0_courts m0_in m0_gates m0_gate m0_people m0_at0 m0_stray m0_set m0_once m0_truth m0_known m0_isKept m0_strays m0_hostPerson m0_hostCourt m0_outside m0_inside m0_can m0_fewest m0_waysTo m0_then m0_two m0_nextTwo m0_three m0_nextThree m0_shut m0_worth m0_digit m0_codes m0_most m0_bestTry m0_dayCourt m0_dayHour m0_dayNo m0_x m0_people cA_m0_people f_m0_people m0_stray cA_m0_stray f_m0_stray) sz)) 0 0 (va_A (zV79 m0 m0_thrown m0_width m0_many m0_cells m0_moved m0_tape m0_taped m0_at m0_token m0_place m0_value m0_word m0_bad m0_badPlace m0_fault m0_faultPlace m0_lines m0_hours m0_courts m0_in m0_gates m0_gate m0_people m0_at0 m0_stray m0_set m0_once m0_truth m0_known m0_isKept m0_strays m0_hostPerson m0_hostCourt m0_outside m0_inside m0_can m0_fewest m0_waysTo m0_then m0_two m0_nextTwo m0_three m0_nextThree m0_shut m0_worth m0_digit m0_codes m0_most m0_bestTry m0_dayCourt m0_dayHour m0_dayNo m0_x m0_people cA_m0_people f_m0_people m0_stray cA_m0_stray f_m0_stray) sz) := by
  refine z_enter (by decide) (by exact (Nat.le_of_ble_eq_true rfl)) ?_
  intro p e s m args below meth c ls A R Qc hargs hsz hQe hAe hRe hx hb hml hr hts hown hlocks hin hl hP hK hD hN hXs hA hS
  rw [hAe] at hQe
  have hown : s.vm.findClass RX10 = some m.cls := hown
  have hl : lv_has ls 3 [(0, .ref m0)] := hl
  refine lv_iconst (v := 0) hx hb dX10_may_0 (by decide) ?_
  refine lv_istore_n (lv' := [(1, .int 0), (0, .ref m0)]) hx hb dX10_may_1 rfl hl (by decide) rfl (fun ls hl => ?_)
  refine lv_iconst (v := 0) hx hb dX10_may_2 (by decide) ?_
  refine lv_istore_n (lv' := [(2, .int 0), (1, .int 0), (0, .ref m0)]) hx hb dX10_may_3 rfl hl (by decide) rfl (fun ls hl => ?_)
  have loop_1 : ∀ (t : Nat) (v1_2 : Int32) (v2_1 : Int32) (b_v1_2 : 0 ≤ v1_2.toInt ∧ v1_2.toInt ≤ 1023) (b_v2_1 : 0 ≤ v2_1.toInt ∧ v2_1.toInt ≤ 10) (H : Heap) (locs : List Loc) (ls : Array Slot), 10 - v2_1.toInt < (t : Int) → va_P (dC, dI) vwCl (zV79 m0 m0_thrown m0_width m0_many m0_cells m0_moved m0_tape m0_taped m0_at m0_token m0_place m0_value m0_word m0_bad m0_badPlace m0_fault m0_faultPlace m0_lines m0_hours m0_courts m0_in m0_gates m0_gate m0_people m0_at0 m0_stray m0_set m0_once m0_truth m0_known m0_isKept m0_strays m0_hostPerson m0_hostCourt m0_outside m0_inside m0_can m0_fewest m0_waysTo m0_then m0_two m0_nextTwo m0_three m0_nextThree m0_shut m0_worth m0_digit m0_codes m0_most m0_bestTry m0_dayCourt m0_dayHour m0_dayNo m0_x m0_people cA_m0_people f_m0_people m0_stray cA_m0_stray f_m0_stray) H → va_D A (zV79 m0 m0_thrown m0_width m0_many m0_cells m0_moved m0_tape m0_taped m0_at m0_token m0_place m0_value m0_word m0_bad m0_badPlace m0_fault m0_faultPlace m0_lines m0_hours m0_courts m0_in m0_gates m0_gate m0_people m0_at0 m0_stray m0_set m0_once m0_truth m0_known m0_isKept m0_strays m0_hostPerson m0_hostCourt m0_outside m0_inside m0_can m0_fewest m0_waysTo m0_then m0_two m0_nextTwo m0_three m0_nextThree m0_shut m0_worth m0_digit m0_codes m0_most m0_bestTry m0_dayCourt m0_dayHour m0_dayNo m0_x m0_people cA_m0_people f_m0_people m0_stray cA_m0_stray f_m0_stray) → va_S A s.heap H locs → lv_has ls 3 [(0, .ref m0), (1, .int v1_2), (2, .int v2_1)] → W p l e R s m args below meth c H locs 0 0 (MQ below Qc args s 0 0 A) (F0 m 4 ls []) := by
    intro t
    induction t with
    | zero => intro v1_2 v2_1 b_v1_2 b_v2_1 H locs ls hmu _ _ _ _; exact absurd hmu (by first | with_reducible assumption | omega)
    | succ t ih_1 =>
      intro v1_2 v2_1 b_v1_2 b_v2_1 H locs ls hmu hP hD hS hl
      refine lv_iload_n hx hb dX10_may_4 rfl (lv_at hl 2 rfl) ?_
      refine lv_aload_n hx hb dX10_may_5 rfl (lv_at hl 0 rfl) ?_
      refine va_get (D := (dC, dI)) (ci := 10) (v := .ref m0_people) (C := RX10) (T := TX10) (N := 53) hx hb hts zl_X10 hown hK hP 0 rfl rfl 22 (by decide) (hts _ zw_t6_122) (fun _ h9 => h9) rfl dX10_may_6 ?_
      refine lv_iconst (v := 0) hx hb dX10_may_9 (by decide) ?_
      refine va_iald hx hb hK hP 1 0 rfl rfl (zi_in (show Int32.toInt 0 = 0 from by decide) (by decide)) dX10_may_10 ?_
      refine lv_topi (fun x_3 ex_3 => ?_)
      have b_x_3 : 0 ≤ x_3.toInt ∧ x_3.toInt ≤ 10 := by rw [ex_3]; exact b_f_m0_people _
      have t_x_3 : x_3.toInt = (f_m0_people (Int32.toNatClampNeg 0)).toInt := by rw [ex_3]
      refine lv_icmp_ge (tgt := 41) hx hb dX10_may_11 (by decide) (fun c_4 => ?_) (fun c_4 => ?_)
      · have ic_4 := zz_ge rfl rfl c_4
        refine lv_iload_n hx hb dX10_may_41 rfl (lv_at hl 1 rfl) ?_
        exact W.iret (v := v1_2) hx hb hr (fun t ht hW => by rw [← hQe]; exact ⟨⟨v1_2, (), rfl, (by first | with_reducible assumption | exact z_rle b_v1_2 (by decide) | omega), z_ret hP hK hD ht hW [0, 1, 2] [] rfl (by decide) rfl⟩, hS.F ht⟩) hS.2.2 dX10_may_42
      · have ic_4 := zz_nge rfl rfl c_4
        refine lv_iload_n hx hb dX10_may_14 rfl (lv_at hl 1 rfl) ?_
        refine lv_aload_n hx hb dX10_may_15 rfl (lv_at hl 0 rfl) ?_
        refine va_get (D := (dC, dI)) (ci := 10) (v := .ref m0_stray) (C := RX10) (T := TX10) (N := 53) hx hb hts zl_X10 hown hK hP 0 rfl rfl 24 (by decide) (hts _ zw_t6_124) (fun _ h9 => h9) rfl dX10_may_16 ?_
        refine lv_iconst (v := 2) hx hb dX10_may_19 (by decide) ?_
        refine lv_iload_n hx hb dX10_may_20 rfl (lv_at hl 2 rfl) ?_
        refine lv_imul hx hb dX10_may_21 ?_
        refine lv_topi (fun x_5 ex_5 => ?_)
        have b_x_5 : x_5.toInt = 2 * v2_1.toInt := by rw [ex_5]; exact zi_mul (show Int32.toInt 2 = 2 from by decide) rfl (z_rmc b_v2_1 (by decide))
        refine va_iald hx hb hK hP 2 1 rfl rfl (zi_in rfl (by first | exact z_rin (z_emc (c := 2) b_x_5 b_v2_1) (by decide) | omega)) dX10_may_22 ?_
        refine lv_topi (fun x_6 ex_6 => ?_)
        have b_x_6 := b_f_m0_stray (Int32.toNatClampNeg x_5)
        rw [← ex_6] at b_x_6
        have kx_x_6 := zi_clamp (x := x_5) rfl (z_r0 (z_emc (c := 2) b_x_5 b_v2_1) (by decide))
        refine lv_if_le (tgt := 32) hx hb dX10_may_23 (by decide) (fun c_7 => ?_) (fun c_7 => ?_)
        · have ic_7 := zz_le rfl (show Int32.toInt 0 = 0 from by decide) c_7
          refine lv_iconst (v := 0) hx hb dX10_may_32 (by decide) ?_
          refine lv_ior hx hb dX10_may_33 ?_
          refine lv_topi (fun x_8 ex_8 => ?_)
          have b_x_8 : 0 ≤ x_8.toInt ∧ x_8.toInt ≤ 1023 := by rw [ex_8]; exact zi_or 10 rfl (show Int32.toInt 0 = 0 from by decide) (by first | with_reducible assumption | omega) (by first | with_reducible assumption | omega) (by decide)
          refine lv_istore_n (lv' := [(1, .int x_8), (0, .ref m0), (2, .int v2_1)]) hx hb dX10_may_34 rfl hl (by decide) rfl (fun ls hl => ?_)
          obtain ⟨x_9, ex_9⟩ : ∃ z : Int32, z = v2_1 + Int32.ofInt 1 := ⟨_, rfl⟩
          have b_x_9 : x_9.toInt = v2_1.toInt + 1 := by rw [ex_9]; exact zi_add rfl (show (Int32.ofInt 1).toInt = 1 from by decide) (z_rac b_v2_1 (by decide))
          refine lv_iinc (v := x_9) (lv' := [(2, .int x_9), (1, .int x_8), (0, .ref m0)]) hx hb dX10_may_35 hl (k := 2) rfl ex_9.symm (by decide) rfl (fun ls hl => ?_)
          refine lv_goto (tgt := 4) hx hb dX10_may_38 (by decide) ?_
          exact ih_1 x_8 x_9 (by first | with_reducible assumption | omega) (by first | with_reducible assumption | omega) _ _ _ (by first | with_reducible assumption | omega) (hP.sub (ws' := (zV79 m0 m0_thrown m0_width m0_many m0_cells m0_moved m0_tape m0_taped m0_at m0_token m0_place m0_value m0_word m0_bad m0_badPlace m0_fault m0_faultPlace m0_lines m0_hours m0_courts m0_in m0_gates m0_gate m0_people m0_at0 m0_stray m0_set m0_once m0_truth m0_known m0_isKept m0_strays m0_hostPerson m0_hostCourt m0_outside m0_inside m0_can m0_fewest m0_waysTo m0_then m0_two m0_nextTwo m0_three m0_nextThree m0_shut m0_worth m0_digit m0_codes m0_most m0_bestTry m0_dayCourt m0_dayHour m0_dayNo m0_x m0_people cA_m0_people f_m0_people m0_stray cA_m0_stray f_m0_stray)) [0, 1, 2] rfl) (hD.sub (ws' := (zV79 m0 m0_thrown m0_width m0_many m0_cells m0_moved m0_tape m0_taped m0_at m0_token m0_place m0_value m0_word m0_bad m0_badPlace m0_fault m0_faultPlace m0_lines m0_hours m0_courts m0_in m0_gates m0_gate m0_people m0_at0 m0_stray m0_set m0_once m0_truth m0_known m0_isKept m0_strays m0_hostPerson m0_hostCourt m0_outside m0_inside m0_can m0_fewest m0_waysTo m0_then m0_two m0_nextTwo m0_three m0_nextThree m0_shut m0_worth m0_digit m0_codes m0_most m0_bestTry m0_dayCourt m0_dayHour m0_dayNo m0_x m0_people cA_m0_people f_m0_people m0_stray cA_m0_stray f_m0_stray)) [0, 1, 2] (by decide) rfl) hS (lv_sub hl [2, 1, 0] rfl)
        · have ic_7 := zz_nle rfl (show Int32.toInt 0 = 0 from by decide) c_7
          refine lv_iconst (v := 1) hx hb dX10_may_26 (by decide) ?_
          refine lv_iload_n hx hb dX10_may_27 rfl (lv_at hl 2 rfl) ?_
          refine lv_ishl hx hb dX10_may_28 ?_
          refine lv_topi (fun x_10 ex_10 => ?_)
          have b_x_10 : 1 ≤ x_10.toInt ∧ x_10.toInt ≤ 512 := by rw [ex_10]; exact zi_shl9 rfl (by first | with_reducible assumption | omega)
          refine lv_goto (tgt := 33) hx hb dX10_may_29 (by decide) ?_
          refine lv_ior hx hb dX10_may_33 ?_
          refine lv_topi (fun x_11 ex_11 => ?_)
          have b_x_11 : 0 ≤ x_11.toInt ∧ x_11.toInt ≤ 1023 := by rw [ex_11]; exact zi_or 10 rfl rfl (by first | with_reducible assumption | omega) (by first | with_reducible assumption | omega) (by decide)
          refine lv_istore_n (lv' := [(1, .int x_11), (0, .ref m0), (2, .int v2_1)]) hx hb dX10_may_34 rfl hl (by decide) rfl (fun ls hl => ?_)
          obtain ⟨x_12, ex_12⟩ : ∃ z : Int32, z = v2_1 + Int32.ofInt 1 := ⟨_, rfl⟩
          have b_x_12 : x_12.toInt = v2_1.toInt + 1 := by rw [ex_12]; exact zi_add rfl (show (Int32.ofInt 1).toInt = 1 from by decide) (z_rac b_v2_1 (by decide))
          refine lv_iinc (v := x_12) (lv' := [(2, .int x_12), (1, .int x_11), (0, .ref m0)]) hx hb dX10_may_35 hl (k := 2) rfl ex_12.symm (by decide) rfl (fun ls hl => ?_)
          refine lv_goto (tgt := 4) hx hb dX10_may_38 (by decide) ?_
          exact ih_1 x_11 x_12 (by first | with_reducible assumption | omega) (by first | with_reducible assumption | omega) _ _ _ (by first | with_reducible assumption | omega) (hP.sub (ws' := (zV79 m0 m0_thrown m0_width m0_many m0_cells m0_moved m0_tape m0_taped m0_at m0_token m0_place m0_value m0_word m0_bad m0_badPlace m0_fault m0_faultPlace m0_lines m0_hours m0_courts m0_in m0_gates m0_gate m0_people m0_at0 m0_stray m0_set m0_once m0_truth m0_known m0_isKept m0_strays m0_hostPerson m0_hostCourt m0_outside m0_inside m0_can m0_fewest m0_waysTo m0_then m0_two m0_nextTwo m0_three m0_nextThree m0_shut m0_worth m0_digit m0_codes m0_most m0_bestTry m0_dayCourt m0_dayHour m0_dayNo m0_x m0_people cA_m0_people f_m0_people m0_stray cA_m0_stray f_m0_stray)) [0, 1, 2] rfl) (hD.sub (ws' := (zV79 m0 m0_thrown m0_width m0_many m0_cells m0_moved m0_tape m0_taped m0_at m0_token m0_place m0_value m0_word m0_bad m0_badPlace m0_fault m0_faultPlace m0_lines m0_hours m0_courts m0_in m0_gates m0_gate m0_people m0_at0 m0_stray m0_set m0_once m0_truth m0_known m0_isKept m0_strays m0_hostPerson m0_hostCourt m0_outside m0_inside m0_can m0_fewest m0_waysTo m0_then m0_two m0_nextTwo m0_three m0_nextThree m0_shut m0_worth m0_digit m0_codes m0_most m0_bestTry m0_dayCourt m0_dayHour m0_dayNo m0_x m0_people cA_m0_people f_m0_people m0_stray cA_m0_stray f_m0_stray)) [0, 1, 2] (by decide) rfl) hS (lv_sub hl [2, 1, 0] rfl)
  exact loop_1 12 (0) (0) (by decide) (by decide) _ _ _ (by decide) hP hD hS (lv_sub hl [2, 1, 0] rfl)
set_option maxHeartbeats 4000000 in
set_option maxRecDepth 100000 in
theorem k_X10_isStrayed (l : Launch) (sa : Nat → Nat) (dC : Nat → ClassId) (dI : Nat → Nat → Nat) (m0 : Nat) (p1 : Int32) (m0_thrown : Int32) (m0_width : Nat) (m0_many : Nat) (m0_cells : Nat) (m0_moved : Nat) (m0_tape : Nat) (m0_taped : Int32) (m0_at : Int32) (m0_token : Int32) (m0_place : Int32) (m0_value : Int32) (m0_word : Int64) (m0_bad : Int32) (m0_badPlace : Int32) (m0_fault : Int32) (m0_faultPlace : Int32) (m0_lines : Nat) (m0_hours : Nat) (m0_courts : Nat) (m0_in : Nat) (m0_gates : Nat) (m0_gate : Nat) (m0_people : Nat) (m0_at0 : Nat) (m0_stray : Nat) (m0_set : Nat) (m0_once : Nat) (m0_truth : Nat) (m0_known : Nat) (m0_isKept : Nat) (m0_strays : Int32) (m0_hostPerson : Int32) (m0_hostCourt : Int32) (m0_outside : Int32) (m0_inside : Nat) (m0_can : Nat) (m0_fewest : Nat) (m0_waysTo : Nat) (m0_then : Nat) (m0_two : Nat) (m0_nextTwo : Nat) (m0_three : Nat) (m0_nextThree : Nat) (m0_shut : Int32) (m0_worth : Nat) (m0_digit : Nat) (m0_codes : Int32) (m0_most : Int64) (m0_bestTry : Int32) (m0_dayCourt : Int32) (m0_dayHour : Int32) (m0_dayNo : Int32) (m0_x : Int64) (cA_m0_truth : ClassId) (f_m0_truth : Nat → Int32) (b_m0_taped : 0 ≤ m0_taped.toInt ∧ m0_taped.toInt ≤ 1600) (b_m0_at : 0 ≤ m0_at.toInt ∧ m0_at.toInt ≤ 1600) (b_m0_token : 0 ≤ m0_token.toInt ∧ m0_token.toInt ≤ 4) (b_m0_value : 0 ≤ m0_value.toInt ∧ m0_value.toInt ≤ 1000009) (b_m0_bad : 0 ≤ m0_bad.toInt ∧ m0_bad.toInt ≤ 3) (b_m0_strays : 0 ≤ m0_strays.toInt ∧ m0_strays.toInt ≤ 5) (b_m0_hostCourt : 0 ≤ m0_hostCourt.toInt ∧ m0_hostCourt.toInt ≤ 9) (b_m0_dayCourt : 0 ≤ m0_dayCourt.toInt ∧ m0_dayCourt.toInt ≤ 9) (b_m0_dayHour : 0 ≤ m0_dayHour.toInt ∧ m0_dayHour.toInt ≤ 48) (sz : Nat) : Met l yX10_isStrayed (.code yX10_isStrayed cX10_isStrayed 2 (some .boolean) :: zT) ({ frames := 0, cells := 0, slots := 0, locals := 0 }) (va_Pc [.ref m0, .int p1] (zB sa dC dI (zV80 m0 m0_thrown m0_width m0_many m0_cells m0_moved m0_tape m0_taped m0_at m0_token m0_place m0_value m0_word m0_bad m0_badPlace m0_fault m0_faultPlace m0_lines m0_hours m0_courts m0_in m0_gates m0_gate m0_people m0_at0 m0_stray m0_set m0_once m0_truth m0_known m0_isKept m0_strays m0_hostPerson m0_hostCourt m0_outside m0_inside m0_can m0_fewest m0_waysTo m0_then m0_two m0_nextTwo m0_three m0_nextThree m0_shut m0_worth m0_digit m0_codes m0_most m0_bestTry m0_dayCourt m0_dayHour m0_dayNo m0_x m0_truth cA_m0_truth f_m0_truth) [(cA_m0_truth, .int)] sz)) (va_Qi (fun (r : Int32) (_ : Unit) => (0 ≤ r.toInt ∧ r.toInt ≤ 1)) (fun _ t => zW dC dI (zV80 m0 m0_thrown m0_width m0_many m0_cells m0_moved m0_tape m0_taped m0_at m0_token m0_place m0_value m0_word m0_bad m0_badPlace m0_fault m0_faultPlace m0_lines m0_hours m0_courts m0_in m0_gates m0_gate m0_people m0_at0 m0_stray m0_set m0_once m0_truth m0_known m0_isKept m0_strays m0_hostPerson m0_hostCourt m0_outside m0_inside m0_can m0_fewest m0_waysTo m0_then m0_two m0_nextTwo m0_three m0_nextThree m0_shut m0_worth m0_digit m0_codes m0_most m0_bestTry m0_dayCourt m0_dayHour m0_dayNo m0_x m0_truth cA_m0_truth f_m0_truth) [] (va_A (zV80 m0 m0_thrown m0_width m0_many m0_cells m0_moved m0_tape m0_taped m0_at m0_token m0_place m0_value m0_word m0_bad m0_badPlace m0_fault m0_faultPlace m0_lines m0_hours m0_courts m0_in m0_gates m0_gate m0_people m0_at0 m0_stray m0_set m0_once m0_truth m0_known m0_isKept m0_strays m0_hostPerson m0_hostCourt m0_outside m0_inside m0_can m0_fewest m0_waysTo m0_then m0_two m0_nextTwo m0_three m0_nextThree m0_shut m0_worth m0_digit m0_codes m0_most m0_bestTry m0_dayCourt m0_dayHour m0_dayNo m0_x m0_truth cA_m0_truth f_m0_truth) sz) t) (va_A (zV80 m0 m0_thrown m0_width m0_many m0_cells m0_moved m0_tape m0_taped m0_at m0_token m0_place m0_value m0_word m0_bad m0_badPlace m0_fault m0_faultPlace m0_lines m0_hours m0_courts m0_in m0_gates m0_gate m0_people m0_at0 m0_stray m0_set m0_once m0_truth m0_known m0_isKept m0_strays m0_hostPerson m0_hostCourt m0_outside m0_inside m0_can m0_fewest m0_waysTo m0_then m0_two m0_nextTwo m0_three m0_nextThree m0_shut m0_worth m0_digit m0_codes m0_most m0_bestTry m0_dayCourt m0_dayHour m0_dayNo m0_x m0_truth cA_m0_truth f_m0_truth) sz)) 0 0 (va_A (zV80 m0 m0_thrown m0_width m0_many m0_cells m0_moved m0_tape m0_taped m0_at m0_token m0_place m0_value m0_word m0_bad m0_badPlace m0_fault m0_faultPlace m0_lines m0_hours m0_courts m0_in m0_gates m0_gate m0_people m0_at0 m0_stray m0_set m0_once m0_truth m0_known m0_isKept m0_strays m0_hostPerson m0_hostCourt m0_outside m0_inside m0_can m0_fewest m0_waysTo m0_then m0_two m0_nextTwo m0_three m0_nextThree m0_shut m0_worth m0_digit m0_codes m0_most m0_bestTry m0_dayCourt m0_dayHour m0_dayNo m0_x m0_truth cA_m0_truth f_m0_truth) sz) := by
  refine z_enter (by decide) (by exact (Nat.le_of_ble_eq_true rfl)) ?_
  intro p e s m args below meth c ls A R Qc hargs hsz hQe hAe hRe hx hb hml hr hts hown hlocks hin hl hP hK hD hN hXs hA hS
  rw [hAe] at hQe
  have hown : s.vm.findClass RX10 = some m.cls := hown
  have hl : lv_has ls 2 [(0, .ref m0), (1, .int p1)] := hl
  refine lv_aload_n hx hb dX10_isStrayed_0 rfl (lv_at hl 0 rfl) ?_
  refine va_get (D := (dC, dI)) (ci := 10) (v := .ref m0_truth) (C := RX10) (T := TX10) (N := 53) hx hb hts zl_X10 hown hK hP 0 rfl rfl 27 (by decide) (hts _ zw_t6_127) (fun _ h9 => h9) rfl dX10_isStrayed_1 ?_
  refine lv_iconst (v := 0) hx hb dX10_isStrayed_4 (by decide) ?_
  refine va_iald hx hb hK hP 1 0 rfl rfl (zi_in (show Int32.toInt 0 = 0 from by decide) (by decide)) dX10_isStrayed_5 ?_
  refine lv_topi (fun x_1 ex_1 => ?_)
  refine lv_iload_n hx hb dX10_isStrayed_6 rfl (lv_at hl 1 rfl) ?_
  refine lv_ishr hx hb dX10_isStrayed_7 ?_
  refine lv_topi (fun x_2 ex_2 => ?_)
  refine lv_iconst (v := 1) hx hb dX10_isStrayed_8 (by decide) ?_
  refine lv_iand hx hb dX10_isStrayed_9 ?_
  refine lv_topi (fun x_3 ex_3 => ?_)
  have b_x_3 : 0 ≤ x_3.toInt ∧ x_3.toInt ≤ 1 := by rw [ex_3]; exact zi_andR (show Int32.toInt 1 = 1 from by decide) (by first | with_reducible assumption | omega) (by first | with_reducible assumption | omega)
  refine lv_iconst (v := 1) hx hb dX10_isStrayed_10 (by decide) ?_
  refine lv_icmp_ne (tgt := 18) hx hb dX10_isStrayed_11 (by decide) (fun c_4 => ?_) (fun c_4 => ?_)
  · have ic_4 := zz_ne rfl (show Int32.toInt 1 = 1 from by decide) c_4
    refine lv_iconst (v := 0) hx hb dX10_isStrayed_18 (by decide) ?_
    exact W.zret (v := 0) hx hb hr (by decide) (fun t ht hW => by rw [← hQe]; exact ⟨⟨0, (), rfl, (by decide), z_ret hP hK hD ht hW [0, 1] [] rfl (by decide) rfl⟩, hS.F ht⟩) hS.2.2 dX10_isStrayed_19
  · have ic_4 := zz_nne rfl (show Int32.toInt 1 = 1 from by decide) c_4
    refine lv_iconst (v := 1) hx hb dX10_isStrayed_14 (by decide) ?_
    refine lv_goto (tgt := 19) hx hb dX10_isStrayed_15 (by decide) ?_
    exact W.zret (v := 1) hx hb hr (by decide) (fun t ht hW => by rw [← hQe]; exact ⟨⟨1, (), rfl, (by decide), z_ret hP hK hD ht hW [0, 1] [] rfl (by decide) rfl⟩, hS.F ht⟩) hS.2.2 dX10_isStrayed_19
set_option maxHeartbeats 4000000 in
set_option maxRecDepth 100000 in
theorem k_X10_leadsTo (l : Launch) (sa : Nat → Nat) (dC : Nat → ClassId) (dI : Nat → Nat → Nat) (m0 : Nat) (p1 : Int32) (p2 : Int32) (m0_thrown : Int32) (m0_width : Nat) (m0_many : Nat) (m0_cells : Nat) (m0_moved : Nat) (m0_tape : Nat) (m0_taped : Int32) (m0_at : Int32) (m0_token : Int32) (m0_place : Int32) (m0_value : Int32) (m0_word : Int64) (m0_bad : Int32) (m0_badPlace : Int32) (m0_fault : Int32) (m0_faultPlace : Int32) (m0_lines : Nat) (m0_hours : Nat) (m0_courts : Nat) (m0_in : Nat) (m0_gates : Nat) (m0_gate : Nat) (m0_people : Nat) (m0_at0 : Nat) (m0_stray : Nat) (m0_set : Nat) (m0_once : Nat) (m0_truth : Nat) (m0_known : Nat) (m0_isKept : Nat) (m0_strays : Int32) (m0_hostPerson : Int32) (m0_hostCourt : Int32) (m0_outside : Int32) (m0_inside : Nat) (m0_can : Nat) (m0_fewest : Nat) (m0_waysTo : Nat) (m0_then : Nat) (m0_two : Nat) (m0_nextTwo : Nat) (m0_three : Nat) (m0_nextThree : Nat) (m0_shut : Int32) (m0_worth : Nat) (m0_digit : Nat) (m0_codes : Int32) (m0_most : Int64) (m0_bestTry : Int32) (m0_dayCourt : Int32) (m0_dayHour : Int32) (m0_dayNo : Int32) (m0_x : Int64) (cA_m0_gate : ClassId) (f_m0_gate : Nat → Int32) (b_p1 : 0 ≤ p1.toInt ∧ p1.toInt ≤ 15) (b_m0_taped : 0 ≤ m0_taped.toInt ∧ m0_taped.toInt ≤ 1600) (b_m0_at : 0 ≤ m0_at.toInt ∧ m0_at.toInt ≤ 1600) (b_m0_token : 0 ≤ m0_token.toInt ∧ m0_token.toInt ≤ 4) (b_m0_value : 0 ≤ m0_value.toInt ∧ m0_value.toInt ≤ 1000009) (b_m0_bad : 0 ≤ m0_bad.toInt ∧ m0_bad.toInt ≤ 3) (b_m0_strays : 0 ≤ m0_strays.toInt ∧ m0_strays.toInt ≤ 5) (b_m0_hostCourt : 0 ≤ m0_hostCourt.toInt ∧ m0_hostCourt.toInt ≤ 9) (b_m0_dayCourt : 0 ≤ m0_dayCourt.toInt ∧ m0_dayCourt.toInt ≤ 9) (b_m0_dayHour : 0 ≤ m0_dayHour.toInt ∧ m0_dayHour.toInt ≤ 48) (b_f_m0_gate : ∀ j : Nat, 0 ≤ (f_m0_gate j).toInt ∧ (f_m0_gate j).toInt ≤ 9) (sz : Nat) : Met l yX10_leadsTo (.code yX10_leadsTo cX10_leadsTo 3 (some .int) :: zT) ({ frames := 0, cells := 0, slots := 0, locals := 0 }) (va_Pc [.ref m0, .int p1, .int p2] (zB sa dC dI (zV81 m0 m0_thrown m0_width m0_many m0_cells m0_moved m0_tape m0_taped m0_at m0_token m0_place m0_value m0_word m0_bad m0_badPlace m0_fault m0_faultPlace m0_lines m0_hours m0_courts m0_in m0_gates m0_gate m0_people m0_at0 m0_stray m0_set m0_once m0_truth m0_known m0_isKept m0_strays m0_hostPerson m0_hostCourt m0_outside m0_inside m0_can m0_fewest m0_waysTo m0_then m0_two m0_nextTwo m0_three m0_nextThree m0_shut m0_worth m0_digit m0_codes m0_most m0_bestTry m0_dayCourt m0_dayHour m0_dayNo m0_x m0_gate cA_m0_gate f_m0_gate) [(cA_m0_gate, .int)] sz)) (va_Qi (fun (r : Int32) (_ : Unit) => ((-1) ≤ r.toInt ∧ r.toInt ≤ 9) ∧ ((r.toInt = -1 ∧ zK f_m0_gate p1.toInt p2.toInt = 0) ∨ (0 ≤ r.toInt ∧ zK f_m0_gate p1.toInt p2.toInt = 1))) (fun _ t => zW dC dI (zV81 m0 m0_thrown m0_width m0_many m0_cells m0_moved m0_tape m0_taped m0_at m0_token m0_place m0_value m0_word m0_bad m0_badPlace m0_fault m0_faultPlace m0_lines m0_hours m0_courts m0_in m0_gates m0_gate m0_people m0_at0 m0_stray m0_set m0_once m0_truth m0_known m0_isKept m0_strays m0_hostPerson m0_hostCourt m0_outside m0_inside m0_can m0_fewest m0_waysTo m0_then m0_two m0_nextTwo m0_three m0_nextThree m0_shut m0_worth m0_digit m0_codes m0_most m0_bestTry m0_dayCourt m0_dayHour m0_dayNo m0_x m0_gate cA_m0_gate f_m0_gate) [] (va_A (zV81 m0 m0_thrown m0_width m0_many m0_cells m0_moved m0_tape m0_taped m0_at m0_token m0_place m0_value m0_word m0_bad m0_badPlace m0_fault m0_faultPlace m0_lines m0_hours m0_courts m0_in m0_gates m0_gate m0_people m0_at0 m0_stray m0_set m0_once m0_truth m0_known m0_isKept m0_strays m0_hostPerson m0_hostCourt m0_outside m0_inside m0_can m0_fewest m0_waysTo m0_then m0_two m0_nextTwo m0_three m0_nextThree m0_shut m0_worth m0_digit m0_codes m0_most m0_bestTry m0_dayCourt m0_dayHour m0_dayNo m0_x m0_gate cA_m0_gate f_m0_gate) sz) t) (va_A (zV81 m0 m0_thrown m0_width m0_many m0_cells m0_moved m0_tape m0_taped m0_at m0_token m0_place m0_value m0_word m0_bad m0_badPlace m0_fault m0_faultPlace m0_lines m0_hours m0_courts m0_in m0_gates m0_gate m0_people m0_at0 m0_stray m0_set m0_once m0_truth m0_known m0_isKept m0_strays m0_hostPerson m0_hostCourt m0_outside m0_inside m0_can m0_fewest m0_waysTo m0_then m0_two m0_nextTwo m0_three m0_nextThree m0_shut m0_worth m0_digit m0_codes m0_most m0_bestTry m0_dayCourt m0_dayHour m0_dayNo m0_x m0_gate cA_m0_gate f_m0_gate) sz)) 0 0 (va_A (zV81 m0 m0_thrown m0_width m0_many m0_cells m0_moved m0_tape m0_taped m0_at m0_token m0_place m0_value m0_word m0_bad m0_badPlace m0_fault m0_faultPlace m0_lines m0_hours m0_courts m0_in m0_gates m0_gate m0_people m0_at0 m0_stray m0_set m0_once m0_truth m0_known m0_isKept m0_strays m0_hostPerson m0_hostCourt m0_outside m0_inside m0_can m0_fewest m0_waysTo m0_then m0_two m0_nextTwo m0_three m0_nextThree m0_shut m0_worth m0_digit m0_codes m0_most m0_bestTry m0_dayCourt m0_dayHour m0_dayNo m0_x m0_gate cA_m0_gate f_m0_gate) sz) := by
  refine z_enter (by decide) (by exact (Nat.le_of_ble_eq_true rfl)) ?_
  intro p e s m args below meth c ls A R Qc hargs hsz hQe hAe hRe hx hb hml hr hts hown hlocks hin hl hP hK hD hN hXs hA hS
  rw [hAe] at hQe
  have hown : s.vm.findClass RX10 = some m.cls := hown
  have hl : lv_has ls 3 [(0, .ref m0), (1, .int p1), (2, .int p2)] := hl
  refine lv_aload_n hx hb dX10_leadsTo_0 rfl (lv_at hl 0 rfl) ?_
  refine va_get (D := (dC, dI)) (ci := 10) (v := .ref m0_gate) (C := RX10) (T := TX10) (N := 53) hx hb hts zl_X10 hown hK hP 0 rfl rfl 21 (by decide) (hts _ zw_t6_121) (fun _ h9 => h9) rfl dX10_leadsTo_1 ?_
  refine lv_iconst (v := 2) hx hb dX10_leadsTo_4 (by decide) ?_
  refine lv_iload_n hx hb dX10_leadsTo_5 rfl (lv_at hl 1 rfl) ?_
  refine lv_imul hx hb dX10_leadsTo_6 ?_
  refine lv_topi (fun x_1 ex_1 => ?_)
  have b_x_1 : x_1.toInt = 2 * p1.toInt := by rw [ex_1]; exact zi_mul (show Int32.toInt 2 = 2 from by decide) rfl (z_rmc b_p1 (by decide))
  refine va_iald hx hb hK hP 1 0 rfl rfl (zi_in rfl (by first | exact z_rin (z_emc (c := 2) b_x_1 b_p1) (by decide) | omega)) dX10_leadsTo_7 ?_
  refine lv_topi (fun x_2 ex_2 => ?_)
  have b_x_2 : 0 ≤ x_2.toInt ∧ x_2.toInt ≤ 9 := by rw [ex_2]; exact b_f_m0_gate _
  have t_x_2 : x_2.toInt = (f_m0_gate (Int32.toNatClampNeg x_1)).toInt := by rw [ex_2]
  refine lv_iload_n hx hb dX10_leadsTo_8 rfl (lv_at hl 2 rfl) ?_
  have nb_p2 := zi_nb p2
  refine lv_icmp_ne (tgt := 25) hx hb dX10_leadsTo_9 (by decide) (fun c_3 => ?_) (fun c_3 => ?_)
  · have ic_3 := zz_ne rfl rfl c_3
    refine lv_aload_n hx hb dX10_leadsTo_25 rfl (lv_at hl 0 rfl) ?_
    refine va_get (D := (dC, dI)) (ci := 10) (v := .ref m0_gate) (C := RX10) (T := TX10) (N := 53) hx hb hts zl_X10 hown hK hP 0 rfl rfl 21 (by decide) (hts _ zw_t6_121) (fun _ h9 => h9) rfl dX10_leadsTo_26 ?_
    refine lv_iconst (v := 2) hx hb dX10_leadsTo_29 (by decide) ?_
    refine lv_iload_n hx hb dX10_leadsTo_30 rfl (lv_at hl 1 rfl) ?_
    refine lv_imul hx hb dX10_leadsTo_31 ?_
    refine lv_topi (fun x_4 ex_4 => ?_)
    have b_x_4 : x_4.toInt = 2 * p1.toInt := by rw [ex_4]; exact zi_mul (show Int32.toInt 2 = 2 from by decide) rfl (z_rmc b_p1 (by decide))
    refine lv_iconst (v := 1) hx hb dX10_leadsTo_32 (by decide) ?_
    refine lv_iadd hx hb dX10_leadsTo_33 ?_
    refine lv_topi (fun x_5 ex_5 => ?_)
    have b_x_5 : x_5.toInt = x_4.toInt + 1 := by rw [ex_5]; exact zi_add rfl (show Int32.toInt 1 = 1 from by decide) (z_rac (z_emc (c := 2) b_x_4 b_p1) (by decide))
    refine va_iald hx hb hK hP 1 0 rfl rfl (zi_in rfl (by first | exact z_rin (z_eac b_x_5 (z_emc (c := 2) b_x_4 b_p1)) (by decide) | omega)) dX10_leadsTo_34 ?_
    refine lv_topi (fun x_6 ex_6 => ?_)
    have b_x_6 : 0 ≤ x_6.toInt ∧ x_6.toInt ≤ 9 := by rw [ex_6]; exact b_f_m0_gate _
    have t_x_6 : x_6.toInt = (f_m0_gate (Int32.toNatClampNeg x_5)).toInt := by rw [ex_6]
    refine lv_iload_n hx hb dX10_leadsTo_35 rfl (lv_at hl 2 rfl) ?_
    refine lv_icmp_ne (tgt := 50) hx hb dX10_leadsTo_36 (by decide) (fun c_7 => ?_) (fun c_7 => ?_)
    · have ic_7 := zz_ne rfl rfl c_7
      refine lv_iconst (v := (-1)) hx hb dX10_leadsTo_50 (by decide) ?_
      have hj := zK_0 (f := f_m0_gate) (x := x_1) (y := x_5) (a := p1.toInt) (c := p2.toInt) (by first | with_reducible assumption | omega) (by first | with_reducible assumption | omega) (by first | with_reducible assumption | omega) (by first | with_reducible assumption | omega) (by first | with_reducible assumption | omega)
      have zc : Int32.toInt (-1) = (-1) := by decide
      exact W.iret (v := (-1)) hx hb hr (fun t ht hW => by rw [← hQe]; exact ⟨⟨(-1), (), rfl, (by first | with_reducible assumption | omega), z_ret hP hK hD ht hW [0, 1] [] rfl (by decide) rfl⟩, hS.F ht⟩) hS.2.2 dX10_leadsTo_51
    · have ic_7 := zz_nne rfl rfl c_7
      refine lv_aload_n hx hb dX10_leadsTo_39 rfl (lv_at hl 0 rfl) ?_
      refine va_get (D := (dC, dI)) (ci := 10) (v := .ref m0_gate) (C := RX10) (T := TX10) (N := 53) hx hb hts zl_X10 hown hK hP 0 rfl rfl 21 (by decide) (hts _ zw_t6_121) (fun _ h9 => h9) rfl dX10_leadsTo_40 ?_
      refine lv_iconst (v := 2) hx hb dX10_leadsTo_43 (by decide) ?_
      refine lv_iload_n hx hb dX10_leadsTo_44 rfl (lv_at hl 1 rfl) ?_
      refine lv_imul hx hb dX10_leadsTo_45 ?_
      refine lv_topi (fun x_8 ex_8 => ?_)
      have b_x_8 : x_8.toInt = 2 * p1.toInt := by rw [ex_8]; exact zi_mul (show Int32.toInt 2 = 2 from by decide) rfl (z_rmc b_p1 (by decide))
      obtain rfl : x_1 = x_8 := Int32.toInt_inj.mp (by first | with_reducible assumption | omega)
      refine va_iald hx hb hK hP 1 0 rfl rfl (zi_in rfl (by first | exact z_rin (z_emc (c := 2) b_x_8 b_p1) (by decide) | omega)) dX10_leadsTo_46 ?_
      refine lv_topi (fun x_9 ex_9 => ?_)
      obtain rfl : x_2 = x_9 := ex_2.trans ex_9.symm
      refine lv_goto (tgt := 51) hx hb dX10_leadsTo_47 (by decide) ?_
      have hj : zK f_m0_gate p1.toInt p2.toInt = 1 := by first | exact zK_1 (x := x_1) (by first | with_reducible assumption | omega) (by first | with_reducible assumption | omega) (by first | with_reducible assumption | omega) | exact zK_2 (x := x_5) (by first | with_reducible assumption | omega) (by first | with_reducible assumption | omega) (by first | with_reducible assumption | omega)
      exact W.iret (v := x_2) hx hb hr (fun t ht hW => by rw [← hQe]; exact ⟨⟨x_2, (), rfl, (by first | with_reducible assumption | exact z_rle b_x_2 (by decide) | omega), z_ret hP hK hD ht hW [0, 1] [] rfl (by decide) rfl⟩, hS.F ht⟩) hS.2.2 dX10_leadsTo_51
  · have ic_3 := zz_nne rfl rfl c_3
    refine lv_aload_n hx hb dX10_leadsTo_12 rfl (lv_at hl 0 rfl) ?_
    refine va_get (D := (dC, dI)) (ci := 10) (v := .ref m0_gate) (C := RX10) (T := TX10) (N := 53) hx hb hts zl_X10 hown hK hP 0 rfl rfl 21 (by decide) (hts _ zw_t6_121) (fun _ h9 => h9) rfl dX10_leadsTo_13 ?_
    refine lv_iconst (v := 2) hx hb dX10_leadsTo_16 (by decide) ?_
    refine lv_iload_n hx hb dX10_leadsTo_17 rfl (lv_at hl 1 rfl) ?_
    refine lv_imul hx hb dX10_leadsTo_18 ?_
    refine lv_topi (fun x_10 ex_10 => ?_)
    have b_x_10 : x_10.toInt = 2 * p1.toInt := by rw [ex_10]; exact zi_mul (show Int32.toInt 2 = 2 from by decide) rfl (z_rmc b_p1 (by decide))
    refine lv_iconst (v := 1) hx hb dX10_leadsTo_19 (by decide) ?_
    refine lv_iadd hx hb dX10_leadsTo_20 ?_
    refine lv_topi (fun x_11 ex_11 => ?_)
    have b_x_11 : x_11.toInt = x_10.toInt + 1 := by rw [ex_11]; exact zi_add rfl (show Int32.toInt 1 = 1 from by decide) (z_rac (z_emc (c := 2) b_x_10 b_p1) (by decide))
    refine va_iald hx hb hK hP 1 0 rfl rfl (zi_in rfl (by first | exact z_rin (z_eac b_x_11 (z_emc (c := 2) b_x_10 b_p1)) (by decide) | omega)) dX10_leadsTo_21 ?_
    refine lv_topi (fun x_12 ex_12 => ?_)
    have b_x_12 : 0 ≤ x_12.toInt ∧ x_12.toInt ≤ 9 := by rw [ex_12]; exact b_f_m0_gate _
    have t_x_12 : x_12.toInt = (f_m0_gate (Int32.toNatClampNeg x_11)).toInt := by rw [ex_12]
    refine lv_goto (tgt := 51) hx hb dX10_leadsTo_22 (by decide) ?_
    have hj : zK f_m0_gate p1.toInt p2.toInt = 1 := by first | exact zK_1 (x := x_1) (by first | with_reducible assumption | omega) (by first | with_reducible assumption | omega) (by first | with_reducible assumption | omega) | exact zK_2 (x := x_11) (by first | with_reducible assumption | omega) (by first | with_reducible assumption | omega) (by first | with_reducible assumption | omega)
    exact W.iret (v := x_12) hx hb hr (fun t ht hW => by rw [← hQe]; exact ⟨⟨x_12, (), rfl, (by first | with_reducible assumption | exact z_rle b_x_12 (by decide) | omega), z_ret hP hK hD ht hW [0, 1] [] rfl (by decide) rfl⟩, hS.F ht⟩) hS.2.2 dX10_leadsTo_51
set_option maxHeartbeats 4000000 in
set_option maxRecDepth 100000 in
theorem k_X10_isAsked (l : Launch) (sa : Nat → Nat) (dC : Nat → ClassId) (dI : Nat → Nat → Nat) (m0 : Nat) (p1 : Int32) (p2 : Int32) (p3 : Int32) (m0_thrown : Int32) (m0_width : Nat) (m0_many : Nat) (m0_cells : Nat) (m0_moved : Nat) (m0_tape : Nat) (m0_taped : Int32) (m0_at : Int32) (m0_token : Int32) (m0_place : Int32) (m0_value : Int32) (m0_word : Int64) (m0_bad : Int32) (m0_badPlace : Int32) (m0_fault : Int32) (m0_faultPlace : Int32) (m0_lines : Nat) (m0_hours : Nat) (m0_courts : Nat) (m0_in : Nat) (m0_gates : Nat) (m0_gate : Nat) (m0_people : Nat) (m0_at0 : Nat) (m0_stray : Nat) (m0_set : Nat) (m0_once : Nat) (m0_truth : Nat) (m0_known : Nat) (m0_isKept : Nat) (m0_strays : Int32) (m0_hostPerson : Int32) (m0_hostCourt : Int32) (m0_outside : Int32) (m0_inside : Nat) (m0_can : Nat) (m0_fewest : Nat) (m0_waysTo : Nat) (m0_then : Nat) (m0_two : Nat) (m0_nextTwo : Nat) (m0_three : Nat) (m0_nextThree : Nat) (m0_shut : Int32) (m0_worth : Nat) (m0_digit : Nat) (m0_codes : Int32) (m0_most : Int64) (m0_bestTry : Int32) (m0_dayCourt : Int32) (m0_dayHour : Int32) (m0_dayNo : Int32) (m0_x : Int64) (cA_m0_hours : ClassId) (f_m0_hours : Nat → Int32) (cA_m0_courts : ClassId) (f_m0_courts : Nat → Int32) (b_m0_taped : 0 ≤ m0_taped.toInt ∧ m0_taped.toInt ≤ 1600) (b_m0_at : 0 ≤ m0_at.toInt ∧ m0_at.toInt ≤ 1600) (b_m0_token : 0 ≤ m0_token.toInt ∧ m0_token.toInt ≤ 4) (b_m0_value : 0 ≤ m0_value.toInt ∧ m0_value.toInt ≤ 1000009) (b_m0_bad : 0 ≤ m0_bad.toInt ∧ m0_bad.toInt ≤ 3) (b_m0_strays : 0 ≤ m0_strays.toInt ∧ m0_strays.toInt ≤ 5) (b_m0_hostCourt : 0 ≤ m0_hostCourt.toInt ∧ m0_hostCourt.toInt ≤ 9) (b_m0_dayCourt : 0 ≤ m0_dayCourt.toInt ∧ m0_dayCourt.toInt ≤ 9) (b_m0_dayHour : 0 ≤ m0_dayHour.toInt ∧ m0_dayHour.toInt ≤ 48) (b_f_m0_hours : ∀ j : Nat, 0 ≤ (f_m0_hours j).toInt ∧ (f_m0_hours j).toInt ≤ 48) (b_f_m0_courts : ∀ j : Nat, 0 ≤ (f_m0_courts j).toInt ∧ (f_m0_courts j).toInt ≤ 10) (sz : Nat) : Met l yX10_isAsked (.code yX10_isAsked cX10_isAsked 4 (some .boolean) :: zT) ({ frames := 2, cells := 0, slots := 0, locals := 46 }) (va_Pc [.ref m0, .int p1, .int p2, .int p3] (zB sa dC dI (zV82 m0 m0_thrown m0_width m0_many m0_cells m0_moved m0_tape m0_taped m0_at m0_token m0_place m0_value m0_word m0_bad m0_badPlace m0_fault m0_faultPlace m0_lines m0_hours m0_courts m0_in m0_gates m0_gate m0_people m0_at0 m0_stray m0_set m0_once m0_truth m0_known m0_isKept m0_strays m0_hostPerson m0_hostCourt m0_outside m0_inside m0_can m0_fewest m0_waysTo m0_then m0_two m0_nextTwo m0_three m0_nextThree m0_shut m0_worth m0_digit m0_codes m0_most m0_bestTry m0_dayCourt m0_dayHour m0_dayNo m0_x m0_hours cA_m0_hours f_m0_hours m0_courts cA_m0_courts f_m0_courts) [(cA_m0_hours, .int), (cA_m0_courts, .int)] sz)) (va_Qi (fun (r : Int32) (_ : Unit) => (0 ≤ r.toInt ∧ r.toInt ≤ 1) ∧ (r.toInt = 0 ∨ (0 ≤ p1.toInt ∧ p1.toInt ≤ 9 ∧ 0 ≤ p2.toInt ∧ p2.toInt ≤ 47 ∧ 0 ≤ p3.toInt ∧ p3.toInt ≤ 9 ∧ 1 ≤ (f_m0_courts (Int32.toNatClampNeg 0)).toInt))) (fun _ t => zW dC dI (zV82 m0 m0_thrown m0_width m0_many m0_cells m0_moved m0_tape m0_taped m0_at m0_token m0_place m0_value m0_word m0_bad m0_badPlace m0_fault m0_faultPlace m0_lines m0_hours m0_courts m0_in m0_gates m0_gate m0_people m0_at0 m0_stray m0_set m0_once m0_truth m0_known m0_isKept m0_strays m0_hostPerson m0_hostCourt m0_outside m0_inside m0_can m0_fewest m0_waysTo m0_then m0_two m0_nextTwo m0_three m0_nextThree m0_shut m0_worth m0_digit m0_codes m0_most m0_bestTry m0_dayCourt m0_dayHour m0_dayNo m0_x m0_hours cA_m0_hours f_m0_hours m0_courts cA_m0_courts f_m0_courts) [] (va_A (zV82 m0 m0_thrown m0_width m0_many m0_cells m0_moved m0_tape m0_taped m0_at m0_token m0_place m0_value m0_word m0_bad m0_badPlace m0_fault m0_faultPlace m0_lines m0_hours m0_courts m0_in m0_gates m0_gate m0_people m0_at0 m0_stray m0_set m0_once m0_truth m0_known m0_isKept m0_strays m0_hostPerson m0_hostCourt m0_outside m0_inside m0_can m0_fewest m0_waysTo m0_then m0_two m0_nextTwo m0_three m0_nextThree m0_shut m0_worth m0_digit m0_codes m0_most m0_bestTry m0_dayCourt m0_dayHour m0_dayNo m0_x m0_hours cA_m0_hours f_m0_hours m0_courts cA_m0_courts f_m0_courts) sz) t) (va_A (zV82 m0 m0_thrown m0_width m0_many m0_cells m0_moved m0_tape m0_taped m0_at m0_token m0_place m0_value m0_word m0_bad m0_badPlace m0_fault m0_faultPlace m0_lines m0_hours m0_courts m0_in m0_gates m0_gate m0_people m0_at0 m0_stray m0_set m0_once m0_truth m0_known m0_isKept m0_strays m0_hostPerson m0_hostCourt m0_outside m0_inside m0_can m0_fewest m0_waysTo m0_then m0_two m0_nextTwo m0_three m0_nextThree m0_shut m0_worth m0_digit m0_codes m0_most m0_bestTry m0_dayCourt m0_dayHour m0_dayNo m0_x m0_hours cA_m0_hours f_m0_hours m0_courts cA_m0_courts f_m0_courts) sz)) 0 0 (va_A (zV82 m0 m0_thrown m0_width m0_many m0_cells m0_moved m0_tape m0_taped m0_at m0_token m0_place m0_value m0_word m0_bad m0_badPlace m0_fault m0_faultPlace m0_lines m0_hours m0_courts m0_in m0_gates m0_gate m0_people m0_at0 m0_stray m0_set m0_once m0_truth m0_known m0_isKept m0_strays m0_hostPerson m0_hostCourt m0_outside m0_inside m0_can m0_fewest m0_waysTo m0_then m0_two m0_nextTwo m0_three m0_nextThree m0_shut m0_worth m0_digit m0_codes m0_most m0_bestTry m0_dayCourt m0_dayHour m0_dayNo m0_x m0_hours cA_m0_hours f_m0_hours m0_courts cA_m0_courts f_m0_courts) sz) := by
  refine z_enter (by decide) (by exact (Nat.le_of_ble_eq_true rfl)) ?_
  intro p e s m args below meth c ls A R Qc hargs hsz hQe hAe hRe hx hb hml hr hts hown hlocks hin hl hP hK hD hN hXs hA hS
  rw [hAe] at hQe
  have hown : s.vm.findClass RX10 = some m.cls := hown
  have hl : lv_has ls 4 [(0, .ref m0), (1, .int p1), (2, .int p2), (3, .int p3)] := hl
  refine lv_aload_n hx hb dX10_isAsked_0 rfl (lv_at hl 0 rfl) ?_
  refine lv_iload_n hx hb dX10_isAsked_1 rfl (lv_at hl 1 rfl) ?_
  obtain ⟨hPc, hDc, hFc⟩ := z_cut (wc := (zV78 m0 m0_thrown m0_width m0_many m0_cells m0_moved m0_tape m0_taped m0_at m0_token m0_place m0_value m0_word m0_bad m0_badPlace m0_fault m0_faultPlace m0_lines m0_hours m0_courts m0_in m0_gates m0_gate m0_people m0_at0 m0_stray m0_set m0_once m0_truth m0_known m0_isKept m0_strays m0_hostPerson m0_hostCourt m0_outside m0_inside m0_can m0_fewest m0_waysTo m0_then m0_two m0_nextTwo m0_three m0_nextThree m0_shut m0_worth m0_digit m0_codes m0_most m0_bestTry m0_dayCourt m0_dayHour m0_dayNo m0_x m0_courts cA_m0_courts f_m0_courts)) hP hD hS hA [0, 2] rfl (by decide +kernel)
  have hKc := hK.sub (tys' := [(cA_m0_courts, .int)]) [1] rfl
  refine va_calli (va_runV (As := [.int p1]) (rest := []) ⟨hx, hb, hml, hown, hts⟩ (k_X10_isCourt l sa dC dI m0 p1 m0_thrown m0_width m0_many m0_cells m0_moved m0_tape m0_taped m0_at m0_token m0_place m0_value m0_word m0_bad m0_badPlace m0_fault m0_faultPlace m0_lines m0_hours m0_courts m0_in m0_gates m0_gate m0_people m0_at0 m0_stray m0_set m0_once m0_truth m0_known m0_isKept m0_strays m0_hostPerson m0_hostCourt m0_outside m0_inside m0_can m0_fewest m0_waysTo m0_then m0_two m0_nextTwo m0_three m0_nextThree m0_shut m0_worth m0_digit m0_codes m0_most m0_bestTry m0_dayCourt m0_dayHour m0_dayNo m0_x cA_m0_courts f_m0_courts b_m0_taped b_m0_at b_m0_token b_m0_value b_m0_bad b_m0_strays b_m0_hostCourt b_m0_dayCourt b_m0_dayHour b_f_m0_courts s.heap.size) (cwV 1 hts (z_gV zw_t7_197 zw_t7_199 zw_s5_15 zw_t1_11 zw_t7_200) rfl rfl rfl (by decide +kernel) (by rw [← hRe]; exact ⟨(Nat.le_of_ble_eq_true rfl), (Nat.le_of_ble_eq_true rfl)⟩)) (z_preV hPc hKc hDc hN hXs hS hFc (q := (RX10, TX10, 53)) (ci := 10) (q0 := 0) rfl rfl) rfl rfl hl.1 rfl (lv_room (Nat.le_of_ble_eq_true rfl)) dX10_isAsked_2 (by rw [← hRe]; exact ⟨(Nat.le_of_ble_eq_true rfl), (Nat.le_of_ble_eq_true rfl)⟩)) hS (fun q _ h => hFc q h) hFc (fun r_1 u t H1 locs ht hvm hw hB hz1 hk1 hS => ?_)
  obtain ⟨hP, hD, hK⟩ := z_after3 (wn := [(m0_hours, .inl (cA_m0_hours, 5, .inl f_m0_hours)), (m0, .inr (10, [.int m0_thrown, .ref m0_width, .ref m0_many, .ref m0_cells, .ref m0_moved, .ref m0_tape, .int m0_taped, .int m0_at, .int m0_token, .int m0_place, .int m0_value, .long m0_word, .int m0_bad, .int m0_badPlace, .int m0_fault, .int m0_faultPlace, .ref m0_lines, .ref m0_hours, .ref m0_courts, .ref m0_in, .ref m0_gates, .ref m0_gate, .ref m0_people, .ref m0_at0, .ref m0_stray, .ref m0_set, .ref m0_once, .ref m0_truth, .ref m0_known, .ref m0_isKept, .int m0_strays, .int m0_hostPerson, .int m0_hostCourt, .int m0_outside, .ref m0_inside, .ref m0_can, .ref m0_fewest, .ref m0_waysTo, .ref m0_then, .ref m0_two, .ref m0_nextTwo, .ref m0_three, .ref m0_nextThree, .int m0_shut, .ref m0_worth, .ref m0_digit, .int m0_codes, .long m0_most, .int m0_bestTry, .int m0_dayCourt, .int m0_dayHour, .int m0_dayNo, .long m0_x])), (m0_courts, .inl (cA_m0_courts, 5, .inl f_m0_courts))]) hB ht hvm hP hD hK [0, 2] [1] rfl 3 rfl (by decide +kernel) rfl (by decide +kernel) hk1 hFc
  generalize H1 = H at hP hS ⊢
  have hK : va_K (dC, dI) vwCl [(cA_m0_hours, .int), (cA_m0_courts, .int)] s := hK
  have b_r_1 : 0 ≤ r_1.toInt ∧ r_1.toInt ≤ 1 := hw.1
  have s_r_1 := hw.2
  refine lv_if_eq (tgt := 28) hx hb dX10_isAsked_5 (by decide) (fun c_2 => ?_) (fun c_2 => ?_)
  · have ic_2 := zz_eq rfl (show Int32.toInt 0 = 0 from by decide) c_2
    refine lv_iconst (v := 0) hx hb dX10_isAsked_28 (by decide) ?_
    have zc : Int32.toInt 0 = 0 := by decide
    exact W.zret (v := 0) hx hb hr (by decide) (fun t ht hW => by rw [← hQe]; exact ⟨⟨0, (), rfl, (by first | decide | omega), z_ret hP hK hD ht hW [1, 0, 2] [] rfl (by decide) rfl⟩, hS.F ht⟩) hS.2.2 dX10_isAsked_29
  · have ic_2 := zz_neq rfl (show Int32.toInt 0 = 0 from by decide) c_2
    refine lv_aload_n hx hb dX10_isAsked_8 rfl (lv_at hl 0 rfl) ?_
    refine lv_iload_n hx hb dX10_isAsked_9 rfl (lv_at hl 2 rfl) ?_
    obtain ⟨hPc, hDc, hFc⟩ := z_cut (wc := (zV78 m0 m0_thrown m0_width m0_many m0_cells m0_moved m0_tape m0_taped m0_at m0_token m0_place m0_value m0_word m0_bad m0_badPlace m0_fault m0_faultPlace m0_lines m0_hours m0_courts m0_in m0_gates m0_gate m0_people m0_at0 m0_stray m0_set m0_once m0_truth m0_known m0_isKept m0_strays m0_hostPerson m0_hostCourt m0_outside m0_inside m0_can m0_fewest m0_waysTo m0_then m0_two m0_nextTwo m0_three m0_nextThree m0_shut m0_worth m0_digit m0_codes m0_most m0_bestTry m0_dayCourt m0_dayHour m0_dayNo m0_x m0_hours cA_m0_hours f_m0_hours)) hP hD hS hA [1, 0] rfl (by decide +kernel)
    have hKc := hK.sub (tys' := [(cA_m0_hours, .int)]) [0] rfl
    refine va_calli (va_runV (As := [.int p2]) (rest := []) ⟨hx, hb, hml, hown, hts⟩ (k_X10_isHour l sa dC dI m0 p2 m0_thrown m0_width m0_many m0_cells m0_moved m0_tape m0_taped m0_at m0_token m0_place m0_value m0_word m0_bad m0_badPlace m0_fault m0_faultPlace m0_lines m0_hours m0_courts m0_in m0_gates m0_gate m0_people m0_at0 m0_stray m0_set m0_once m0_truth m0_known m0_isKept m0_strays m0_hostPerson m0_hostCourt m0_outside m0_inside m0_can m0_fewest m0_waysTo m0_then m0_two m0_nextTwo m0_three m0_nextThree m0_shut m0_worth m0_digit m0_codes m0_most m0_bestTry m0_dayCourt m0_dayHour m0_dayNo m0_x cA_m0_hours f_m0_hours b_m0_taped b_m0_at b_m0_token b_m0_value b_m0_bad b_m0_strays b_m0_hostCourt b_m0_dayCourt b_m0_dayHour b_f_m0_hours H.size) (cwV 1 hts (z_gV zw_t7_181 zw_t7_183 zw_s5_12 zw_t1_11 zw_t7_184) rfl rfl rfl (by decide +kernel) (by rw [← hRe]; exact ⟨(Nat.le_of_ble_eq_true rfl), (Nat.le_of_ble_eq_true rfl)⟩)) (z_preV hPc hKc hDc hN hXs hS hFc (q := (RX10, TX10, 53)) (ci := 10) (q0 := 0) rfl rfl) rfl rfl hl.1 rfl (lv_room (Nat.le_of_ble_eq_true rfl)) dX10_isAsked_10 (by rw [← hRe]; exact ⟨(Nat.le_of_ble_eq_true rfl), (Nat.le_of_ble_eq_true rfl)⟩)) hS (fun q _ h => hFc q h) hFc (fun r_3 u t H1 locs ht hvm hw hB hz1 hk1 hS => ?_)
    obtain ⟨hP, hD, hK⟩ := z_after3 (wn := [(m0_courts, .inl (cA_m0_courts, 5, .inl f_m0_courts)), (m0, .inr (10, [.int m0_thrown, .ref m0_width, .ref m0_many, .ref m0_cells, .ref m0_moved, .ref m0_tape, .int m0_taped, .int m0_at, .int m0_token, .int m0_place, .int m0_value, .long m0_word, .int m0_bad, .int m0_badPlace, .int m0_fault, .int m0_faultPlace, .ref m0_lines, .ref m0_hours, .ref m0_courts, .ref m0_in, .ref m0_gates, .ref m0_gate, .ref m0_people, .ref m0_at0, .ref m0_stray, .ref m0_set, .ref m0_once, .ref m0_truth, .ref m0_known, .ref m0_isKept, .int m0_strays, .int m0_hostPerson, .int m0_hostCourt, .int m0_outside, .ref m0_inside, .ref m0_can, .ref m0_fewest, .ref m0_waysTo, .ref m0_then, .ref m0_two, .ref m0_nextTwo, .ref m0_three, .ref m0_nextThree, .int m0_shut, .ref m0_worth, .ref m0_digit, .int m0_codes, .long m0_most, .int m0_bestTry, .int m0_dayCourt, .int m0_dayHour, .int m0_dayNo, .long m0_x])), (m0_hours, .inl (cA_m0_hours, 5, .inl f_m0_hours))]) hB ht hvm hP hD hK [1, 0] [2] rfl 3 rfl (by decide +kernel) rfl (by decide +kernel) hk1 hFc
    generalize H1 = H at hP hS ⊢
    have hK : va_K (dC, dI) vwCl [(cA_m0_hours, .int), (cA_m0_courts, .int)] s := hK
    have b_r_3 : 0 ≤ r_3.toInt ∧ r_3.toInt ≤ 1 := hw.1
    have s_r_3 := hw.2
    refine lv_if_eq (tgt := 28) hx hb dX10_isAsked_13 (by decide) (fun c_4 => ?_) (fun c_4 => ?_)
    · have ic_4 := zz_eq rfl (show Int32.toInt 0 = 0 from by decide) c_4
      refine lv_iconst (v := 0) hx hb dX10_isAsked_28 (by decide) ?_
      have zc : Int32.toInt 0 = 0 := by decide
      exact W.zret (v := 0) hx hb hr (by decide) (fun t ht hW => by rw [← hQe]; exact ⟨⟨0, (), rfl, (by first | decide | omega), z_ret hP hK hD ht hW [1, 2, 0] [] rfl (by decide) rfl⟩, hS.F ht⟩) hS.2.2 dX10_isAsked_29
    · have ic_4 := zz_neq rfl (show Int32.toInt 0 = 0 from by decide) c_4
      refine lv_aload_n hx hb dX10_isAsked_16 rfl (lv_at hl 0 rfl) ?_
      refine lv_iload_n hx hb dX10_isAsked_17 rfl (lv_at hl 3 rfl) ?_
      obtain ⟨hPc, hDc, hFc⟩ := z_cut (wc := (zV78 m0 m0_thrown m0_width m0_many m0_cells m0_moved m0_tape m0_taped m0_at m0_token m0_place m0_value m0_word m0_bad m0_badPlace m0_fault m0_faultPlace m0_lines m0_hours m0_courts m0_in m0_gates m0_gate m0_people m0_at0 m0_stray m0_set m0_once m0_truth m0_known m0_isKept m0_strays m0_hostPerson m0_hostCourt m0_outside m0_inside m0_can m0_fewest m0_waysTo m0_then m0_two m0_nextTwo m0_three m0_nextThree m0_shut m0_worth m0_digit m0_codes m0_most m0_bestTry m0_dayCourt m0_dayHour m0_dayNo m0_x m0_courts cA_m0_courts f_m0_courts)) hP hD hS hA [1, 0] rfl (by decide +kernel)
      have hKc := hK.sub (tys' := [(cA_m0_courts, .int)]) [1] rfl
      refine va_calli (va_runV (As := [.int p3]) (rest := []) ⟨hx, hb, hml, hown, hts⟩ (k_X10_isCourt l sa dC dI m0 p3 m0_thrown m0_width m0_many m0_cells m0_moved m0_tape m0_taped m0_at m0_token m0_place m0_value m0_word m0_bad m0_badPlace m0_fault m0_faultPlace m0_lines m0_hours m0_courts m0_in m0_gates m0_gate m0_people m0_at0 m0_stray m0_set m0_once m0_truth m0_known m0_isKept m0_strays m0_hostPerson m0_hostCourt m0_outside m0_inside m0_can m0_fewest m0_waysTo m0_then m0_two m0_nextTwo m0_three m0_nextThree m0_shut m0_worth m0_digit m0_codes m0_most m0_bestTry m0_dayCourt m0_dayHour m0_dayNo m0_x cA_m0_courts f_m0_courts b_m0_taped b_m0_at b_m0_token b_m0_value b_m0_bad b_m0_strays b_m0_hostCourt b_m0_dayCourt b_m0_dayHour b_f_m0_courts H.size) (cwV 1 hts (z_gV zw_t7_197 zw_t7_199 zw_s5_15 zw_t1_11 zw_t7_200) rfl rfl rfl (by decide +kernel) (by rw [← hRe]; exact ⟨(Nat.le_of_ble_eq_true rfl), (Nat.le_of_ble_eq_true rfl)⟩)) (z_preV hPc hKc hDc hN hXs hS hFc (q := (RX10, TX10, 53)) (ci := 10) (q0 := 0) rfl rfl) rfl rfl hl.1 rfl (lv_room (Nat.le_of_ble_eq_true rfl)) dX10_isAsked_18 (by rw [← hRe]; exact ⟨(Nat.le_of_ble_eq_true rfl), (Nat.le_of_ble_eq_true rfl)⟩)) hS (fun q _ h => hFc q h) hFc (fun r_5 u t H1 locs ht hvm hw hB hz1 hk1 hS => ?_)
      obtain ⟨hP, hD, hK⟩ := z_after3 (wn := [(m0_hours, .inl (cA_m0_hours, 5, .inl f_m0_hours)), (m0, .inr (10, [.int m0_thrown, .ref m0_width, .ref m0_many, .ref m0_cells, .ref m0_moved, .ref m0_tape, .int m0_taped, .int m0_at, .int m0_token, .int m0_place, .int m0_value, .long m0_word, .int m0_bad, .int m0_badPlace, .int m0_fault, .int m0_faultPlace, .ref m0_lines, .ref m0_hours, .ref m0_courts, .ref m0_in, .ref m0_gates, .ref m0_gate, .ref m0_people, .ref m0_at0, .ref m0_stray, .ref m0_set, .ref m0_once, .ref m0_truth, .ref m0_known, .ref m0_isKept, .int m0_strays, .int m0_hostPerson, .int m0_hostCourt, .int m0_outside, .ref m0_inside, .ref m0_can, .ref m0_fewest, .ref m0_waysTo, .ref m0_then, .ref m0_two, .ref m0_nextTwo, .ref m0_three, .ref m0_nextThree, .int m0_shut, .ref m0_worth, .ref m0_digit, .int m0_codes, .long m0_most, .int m0_bestTry, .int m0_dayCourt, .int m0_dayHour, .int m0_dayNo, .long m0_x])), (m0_courts, .inl (cA_m0_courts, 5, .inl f_m0_courts))]) hB ht hvm hP hD hK [1, 0] [2] rfl 3 rfl (by decide +kernel) rfl (by decide +kernel) hk1 hFc
      generalize H1 = H at hP hS ⊢
      have hK : va_K (dC, dI) vwCl [(cA_m0_hours, .int), (cA_m0_courts, .int)] s := hK
      have b_r_5 : 0 ≤ r_5.toInt ∧ r_5.toInt ≤ 1 := hw.1
      have s_r_5 := hw.2
      refine lv_if_eq (tgt := 28) hx hb dX10_isAsked_21 (by decide) (fun c_6 => ?_) (fun c_6 => ?_)
      · have ic_6 := zz_eq rfl (show Int32.toInt 0 = 0 from by decide) c_6
        refine lv_iconst (v := 0) hx hb dX10_isAsked_28 (by decide) ?_
        have zc : Int32.toInt 0 = 0 := by decide
        exact W.zret (v := 0) hx hb hr (by decide) (fun t ht hW => by rw [← hQe]; exact ⟨⟨0, (), rfl, (by first | decide | omega), z_ret hP hK hD ht hW [1, 0, 2] [] rfl (by decide) rfl⟩, hS.F ht⟩) hS.2.2 dX10_isAsked_29
      · have ic_6 := zz_neq rfl (show Int32.toInt 0 = 0 from by decide) c_6
        refine lv_iconst (v := 1) hx hb dX10_isAsked_24 (by decide) ?_
        refine lv_goto (tgt := 29) hx hb dX10_isAsked_25 (by decide) ?_
        have zc : Int32.toInt 1 = 1 := by decide
        exact W.zret (v := 1) hx hb hr (by decide) (fun t ht hW => by rw [← hQe]; exact ⟨⟨1, (), rfl, (by first | decide | omega), z_ret hP hK hD ht hW [1, 0, 2] [] rfl (by decide) rfl⟩, hS.F ht⟩) hS.2.2 dX10_isAsked_29
set_option maxHeartbeats 4000000 in
set_option maxRecDepth 100000 in
theorem k_X10_straysBy (l : Launch) (sa : Nat → Nat) (dC : Nat → ClassId) (dI : Nat → Nat → Nat) (m0 : Nat) (p1 : Int32) (p2 : Int32) (m0_thrown : Int32) (m0_width : Nat) (m0_many : Nat) (m0_cells : Nat) (m0_moved : Nat) (m0_tape : Nat) (m0_taped : Int32) (m0_at : Int32) (m0_token : Int32) (m0_place : Int32) (m0_value : Int32) (m0_word : Int64) (m0_bad : Int32) (m0_badPlace : Int32) (m0_fault : Int32) (m0_faultPlace : Int32) (m0_lines : Nat) (m0_hours : Nat) (m0_courts : Nat) (m0_in : Nat) (m0_gates : Nat) (m0_gate : Nat) (m0_people : Nat) (m0_at0 : Nat) (m0_stray : Nat) (m0_set : Nat) (m0_once : Nat) (m0_truth : Nat) (m0_known : Nat) (m0_isKept : Nat) (m0_strays : Int32) (m0_hostPerson : Int32) (m0_hostCourt : Int32) (m0_outside : Int32) (m0_inside : Nat) (m0_can : Nat) (m0_fewest : Nat) (m0_waysTo : Nat) (m0_then : Nat) (m0_two : Nat) (m0_nextTwo : Nat) (m0_three : Nat) (m0_nextThree : Nat) (m0_shut : Int32) (m0_worth : Nat) (m0_digit : Nat) (m0_codes : Int32) (m0_most : Int64) (m0_bestTry : Int32) (m0_dayCourt : Int32) (m0_dayHour : Int32) (m0_dayNo : Int32) (m0_x : Int64) (cA_m0_stray : ClassId) (f_m0_stray : Nat → Int32) (b_p1 : 0 ≤ p1.toInt ∧ p1.toInt ≤ 9) (b_m0_taped : 0 ≤ m0_taped.toInt ∧ m0_taped.toInt ≤ 1600) (b_m0_at : 0 ≤ m0_at.toInt ∧ m0_at.toInt ≤ 1600) (b_m0_token : 0 ≤ m0_token.toInt ∧ m0_token.toInt ≤ 4) (b_m0_value : 0 ≤ m0_value.toInt ∧ m0_value.toInt ≤ 1000009) (b_m0_bad : 0 ≤ m0_bad.toInt ∧ m0_bad.toInt ≤ 3) (b_m0_strays : 0 ≤ m0_strays.toInt ∧ m0_strays.toInt ≤ 5) (b_m0_hostCourt : 0 ≤ m0_hostCourt.toInt ∧ m0_hostCourt.toInt ≤ 9) (b_m0_dayCourt : 0 ≤ m0_dayCourt.toInt ∧ m0_dayCourt.toInt ≤ 9) (b_m0_dayHour : 0 ≤ m0_dayHour.toInt ∧ m0_dayHour.toInt ≤ 48) (b_f_m0_stray : ∀ j : Nat, 0 ≤ (f_m0_stray j).toInt ∧ (f_m0_stray j).toInt ≤ 99 ∧ (j % 2 = 1 → (f_m0_stray j).toInt ≤ 9)) (sz : Nat) : Met l yX10_straysBy (.code yX10_straysBy cX10_straysBy 3 (some .int) :: zT) ({ frames := 0, cells := 0, slots := 0, locals := 0 }) (va_Pc [.ref m0, .int p1, .int p2] (zB sa dC dI (zV83 m0 m0_thrown m0_width m0_many m0_cells m0_moved m0_tape m0_taped m0_at m0_token m0_place m0_value m0_word m0_bad m0_badPlace m0_fault m0_faultPlace m0_lines m0_hours m0_courts m0_in m0_gates m0_gate m0_people m0_at0 m0_stray m0_set m0_once m0_truth m0_known m0_isKept m0_strays m0_hostPerson m0_hostCourt m0_outside m0_inside m0_can m0_fewest m0_waysTo m0_then m0_two m0_nextTwo m0_three m0_nextThree m0_shut m0_worth m0_digit m0_codes m0_most m0_bestTry m0_dayCourt m0_dayHour m0_dayNo m0_x m0_stray cA_m0_stray f_m0_stray) [(cA_m0_stray, .int)] sz)) (va_Qi (fun (r : Int32) (_ : Unit) => (0 ≤ r.toInt ∧ r.toInt ≤ 100)) (fun _ t => zW dC dI (zV83 m0 m0_thrown m0_width m0_many m0_cells m0_moved m0_tape m0_taped m0_at m0_token m0_place m0_value m0_word m0_bad m0_badPlace m0_fault m0_faultPlace m0_lines m0_hours m0_courts m0_in m0_gates m0_gate m0_people m0_at0 m0_stray m0_set m0_once m0_truth m0_known m0_isKept m0_strays m0_hostPerson m0_hostCourt m0_outside m0_inside m0_can m0_fewest m0_waysTo m0_then m0_two m0_nextTwo m0_three m0_nextThree m0_shut m0_worth m0_digit m0_codes m0_most m0_bestTry m0_dayCourt m0_dayHour m0_dayNo m0_x m0_stray cA_m0_stray f_m0_stray) [] (va_A (zV83 m0 m0_thrown m0_width m0_many m0_cells m0_moved m0_tape m0_taped m0_at m0_token m0_place m0_value m0_word m0_bad m0_badPlace m0_fault m0_faultPlace m0_lines m0_hours m0_courts m0_in m0_gates m0_gate m0_people m0_at0 m0_stray m0_set m0_once m0_truth m0_known m0_isKept m0_strays m0_hostPerson m0_hostCourt m0_outside m0_inside m0_can m0_fewest m0_waysTo m0_then m0_two m0_nextTwo m0_three m0_nextThree m0_shut m0_worth m0_digit m0_codes m0_most m0_bestTry m0_dayCourt m0_dayHour m0_dayNo m0_x m0_stray cA_m0_stray f_m0_stray) sz) t) (va_A (zV83 m0 m0_thrown m0_width m0_many m0_cells m0_moved m0_tape m0_taped m0_at m0_token m0_place m0_value m0_word m0_bad m0_badPlace m0_fault m0_faultPlace m0_lines m0_hours m0_courts m0_in m0_gates m0_gate m0_people m0_at0 m0_stray m0_set m0_once m0_truth m0_known m0_isKept m0_strays m0_hostPerson m0_hostCourt m0_outside m0_inside m0_can m0_fewest m0_waysTo m0_then m0_two m0_nextTwo m0_three m0_nextThree m0_shut m0_worth m0_digit m0_codes m0_most m0_bestTry m0_dayCourt m0_dayHour m0_dayNo m0_x m0_stray cA_m0_stray f_m0_stray) sz)) 0 0 (va_A (zV83 m0 m0_thrown m0_width m0_many m0_cells m0_moved m0_tape m0_taped m0_at m0_token m0_place m0_value m0_word m0_bad m0_badPlace m0_fault m0_faultPlace m0_lines m0_hours m0_courts m0_in m0_gates m0_gate m0_people m0_at0 m0_stray m0_set m0_once m0_truth m0_known m0_isKept m0_strays m0_hostPerson m0_hostCourt m0_outside m0_inside m0_can m0_fewest m0_waysTo m0_then m0_two m0_nextTwo m0_three m0_nextThree m0_shut m0_worth m0_digit m0_codes m0_most m0_bestTry m0_dayCourt m0_dayHour m0_dayNo m0_x m0_stray cA_m0_stray f_m0_stray) sz) := by
  refine z_enter (by decide) (by exact (Nat.le_of_ble_eq_true rfl)) ?_
  intro p e s m args below meth c ls A R Qc hargs hsz hQe hAe hRe hx hb hml hr hts hown hlocks hin hl hP hK hD hN hXs hA hS
  rw [hAe] at hQe
  have hown : s.vm.findClass RX10 = some m.cls := hown
  have hl : lv_has ls 3 [(0, .ref m0), (1, .int p1), (2, .int p2)] := hl
  refine lv_iload_n hx hb dX10_straysBy_0 rfl (lv_at hl 2 rfl) ?_
  refine lv_iconst (v := 1) hx hb dX10_straysBy_1 (by decide) ?_
  have nb_p2 := zi_nb p2
  refine lv_icmp_ne (tgt := 9) hx hb dX10_straysBy_2 (by decide) (fun c_1 => ?_) (fun c_1 => ?_)
  · have ic_1 := zz_ne rfl (show Int32.toInt 1 = 1 from by decide) c_1
    refine lv_iload_n hx hb dX10_straysBy_9 rfl (lv_at hl 2 rfl) ?_
    refine lv_iconst (v := 2) hx hb dX10_straysBy_10 (by decide) ?_
    refine lv_icmp_ne (tgt := 19) hx hb dX10_straysBy_11 (by decide) (fun c_2 => ?_) (fun c_2 => ?_)
    · have ic_2 := zz_ne rfl (show Int32.toInt 2 = 2 from by decide) c_2
      refine lv_aload_n hx hb dX10_straysBy_19 rfl (lv_at hl 0 rfl) ?_
      refine va_get (D := (dC, dI)) (ci := 10) (v := .ref m0_stray) (C := RX10) (T := TX10) (N := 53) hx hb hts zl_X10 hown hK hP 0 rfl rfl 24 (by decide) (hts _ zw_t6_124) (fun _ h9 => h9) rfl dX10_straysBy_20 ?_
      refine lv_iconst (v := 2) hx hb dX10_straysBy_23 (by decide) ?_
      refine lv_iload_n hx hb dX10_straysBy_24 rfl (lv_at hl 1 rfl) ?_
      refine lv_imul hx hb dX10_straysBy_25 ?_
      refine lv_topi (fun x_3 ex_3 => ?_)
      have b_x_3 : x_3.toInt = 2 * p1.toInt := by rw [ex_3]; exact zi_mul (show Int32.toInt 2 = 2 from by decide) rfl (z_rmc b_p1 (by decide))
      refine va_iald hx hb hK hP 1 0 rfl rfl (zi_in rfl (by first | exact z_rin (z_emc (c := 2) b_x_3 b_p1) (by decide) | omega)) dX10_straysBy_26 ?_
      refine lv_topi (fun x_4 ex_4 => ?_)
      have b_x_4 := b_f_m0_stray (Int32.toNatClampNeg x_3)
      rw [← ex_4] at b_x_4
      have kx_x_4 := zi_clamp (x := x_3) rfl (z_r0 (z_emc (c := 2) b_x_3 b_p1) (by decide))
      exact W.iret (v := x_4) hx hb hr (fun t ht hW => by rw [← hQe]; exact ⟨⟨x_4, (), rfl, (by first | with_reducible assumption | omega), z_ret hP hK hD ht hW [0, 1] [] rfl (by decide) rfl⟩, hS.F ht⟩) hS.2.2 dX10_straysBy_27
    · have ic_2 := zz_nne rfl (show Int32.toInt 2 = 2 from by decide) c_2
      refine lv_bipush (v := 100) hx hb dX10_straysBy_14 (by decide) ?_
      refine lv_goto (tgt := 27) hx hb dX10_straysBy_16 (by decide) ?_
      exact W.iret (v := 100) hx hb hr (fun t ht hW => by rw [← hQe]; exact ⟨⟨100, (), rfl, (by decide), z_ret hP hK hD ht hW [0, 1] [] rfl (by decide) rfl⟩, hS.F ht⟩) hS.2.2 dX10_straysBy_27
  · have ic_1 := zz_nne rfl (show Int32.toInt 1 = 1 from by decide) c_1
    refine lv_iconst (v := 0) hx hb dX10_straysBy_5 (by decide) ?_
    refine lv_goto (tgt := 27) hx hb dX10_straysBy_6 (by decide) ?_
    exact W.iret (v := 0) hx hb hr (fun t ht hW => by rw [← hQe]; exact ⟨⟨0, (), rfl, (by decide), z_ret hP hK hD ht hW [0, 1] [] rfl (by decide) rfl⟩, hS.F ht⟩) hS.2.2 dX10_straysBy_27
set_option maxHeartbeats 4000000 in
set_option maxRecDepth 100000 in
theorem k_X10_isOdds (l : Launch) (sa : Nat → Nat) (dC : Nat → ClassId) (dI : Nat → Nat → Nat) (m0 : Nat) (p1 : Int32) (p2 : Int32) (p3 : Int32) (p4 : Int32) (m0_thrown : Int32) (m0_width : Nat) (m0_many : Nat) (m0_cells : Nat) (m0_moved : Nat) (m0_tape : Nat) (m0_taped : Int32) (m0_at : Int32) (m0_token : Int32) (m0_place : Int32) (m0_value : Int32) (m0_word : Int64) (m0_bad : Int32) (m0_badPlace : Int32) (m0_fault : Int32) (m0_faultPlace : Int32) (m0_lines : Nat) (m0_hours : Nat) (m0_courts : Nat) (m0_in : Nat) (m0_gates : Nat) (m0_gate : Nat) (m0_people : Nat) (m0_at0 : Nat) (m0_stray : Nat) (m0_set : Nat) (m0_once : Nat) (m0_truth : Nat) (m0_known : Nat) (m0_isKept : Nat) (m0_strays : Int32) (m0_hostPerson : Int32) (m0_hostCourt : Int32) (m0_outside : Int32) (m0_inside : Nat) (m0_can : Nat) (m0_fewest : Nat) (m0_waysTo : Nat) (m0_then : Nat) (m0_two : Nat) (m0_nextTwo : Nat) (m0_three : Nat) (m0_nextThree : Nat) (m0_shut : Int32) (m0_worth : Nat) (m0_digit : Nat) (m0_codes : Int32) (m0_most : Int64) (m0_bestTry : Int32) (m0_dayCourt : Int32) (m0_dayHour : Int32) (m0_dayNo : Int32) (m0_x : Int64) (cA_m0_hours : ClassId) (f_m0_hours : Nat → Int32) (cA_m0_courts : ClassId) (f_m0_courts : Nat → Int32) (b_m0_taped : 0 ≤ m0_taped.toInt ∧ m0_taped.toInt ≤ 1600) (b_m0_at : 0 ≤ m0_at.toInt ∧ m0_at.toInt ≤ 1600) (b_m0_token : 0 ≤ m0_token.toInt ∧ m0_token.toInt ≤ 4) (b_m0_value : 0 ≤ m0_value.toInt ∧ m0_value.toInt ≤ 1000009) (b_m0_bad : 0 ≤ m0_bad.toInt ∧ m0_bad.toInt ≤ 3) (b_m0_strays : 0 ≤ m0_strays.toInt ∧ m0_strays.toInt ≤ 5) (b_m0_hostCourt : 0 ≤ m0_hostCourt.toInt ∧ m0_hostCourt.toInt ≤ 9) (b_m0_dayCourt : 0 ≤ m0_dayCourt.toInt ∧ m0_dayCourt.toInt ≤ 9) (b_m0_dayHour : 0 ≤ m0_dayHour.toInt ∧ m0_dayHour.toInt ≤ 48) (b_f_m0_hours : ∀ j : Nat, 0 ≤ (f_m0_hours j).toInt ∧ (f_m0_hours j).toInt ≤ 48) (b_f_m0_courts : ∀ j : Nat, 0 ≤ (f_m0_courts j).toInt ∧ (f_m0_courts j).toInt ≤ 10) (sz : Nat) : Met l yX10_isOdds (.code yX10_isOdds cX10_isOdds 5 (some .boolean) :: zT) ({ frames := 3, cells := 0, slots := 0, locals := 69 }) (va_Pc [.ref m0, .int p1, .int p2, .int p3, .int p4] (zB sa dC dI (zV82 m0 m0_thrown m0_width m0_many m0_cells m0_moved m0_tape m0_taped m0_at m0_token m0_place m0_value m0_word m0_bad m0_badPlace m0_fault m0_faultPlace m0_lines m0_hours m0_courts m0_in m0_gates m0_gate m0_people m0_at0 m0_stray m0_set m0_once m0_truth m0_known m0_isKept m0_strays m0_hostPerson m0_hostCourt m0_outside m0_inside m0_can m0_fewest m0_waysTo m0_then m0_two m0_nextTwo m0_three m0_nextThree m0_shut m0_worth m0_digit m0_codes m0_most m0_bestTry m0_dayCourt m0_dayHour m0_dayNo m0_x m0_hours cA_m0_hours f_m0_hours m0_courts cA_m0_courts f_m0_courts) [(cA_m0_hours, .int), (cA_m0_courts, .int)] sz)) (va_Qi (fun (r : Int32) (_ : Unit) => (0 ≤ r.toInt ∧ r.toInt ≤ 1) ∧ (r.toInt = 0 ∨ (0 ≤ p1.toInt ∧ p1.toInt ≤ 9 ∧ 0 ≤ p2.toInt ∧ p2.toInt ≤ 47 ∧ 0 ≤ p3.toInt ∧ p3.toInt ≤ 9 ∧ 0 ≤ p4.toInt ∧ p4.toInt ≤ 48 ∧ 1 ≤ (f_m0_courts (Int32.toNatClampNeg 0)).toInt))) (fun _ t => zW dC dI (zV82 m0 m0_thrown m0_width m0_many m0_cells m0_moved m0_tape m0_taped m0_at m0_token m0_place m0_value m0_word m0_bad m0_badPlace m0_fault m0_faultPlace m0_lines m0_hours m0_courts m0_in m0_gates m0_gate m0_people m0_at0 m0_stray m0_set m0_once m0_truth m0_known m0_isKept m0_strays m0_hostPerson m0_hostCourt m0_outside m0_inside m0_can m0_fewest m0_waysTo m0_then m0_two m0_nextTwo m0_three m0_nextThree m0_shut m0_worth m0_digit m0_codes m0_most m0_bestTry m0_dayCourt m0_dayHour m0_dayNo m0_x m0_hours cA_m0_hours f_m0_hours m0_courts cA_m0_courts f_m0_courts) [] (va_A (zV82 m0 m0_thrown m0_width m0_many m0_cells m0_moved m0_tape m0_taped m0_at m0_token m0_place m0_value m0_word m0_bad m0_badPlace m0_fault m0_faultPlace m0_lines m0_hours m0_courts m0_in m0_gates m0_gate m0_people m0_at0 m0_stray m0_set m0_once m0_truth m0_known m0_isKept m0_strays m0_hostPerson m0_hostCourt m0_outside m0_inside m0_can m0_fewest m0_waysTo m0_then m0_two m0_nextTwo m0_three m0_nextThree m0_shut m0_worth m0_digit m0_codes m0_most m0_bestTry m0_dayCourt m0_dayHour m0_dayNo m0_x m0_hours cA_m0_hours f_m0_hours m0_courts cA_m0_courts f_m0_courts) sz) t) (va_A (zV82 m0 m0_thrown m0_width m0_many m0_cells m0_moved m0_tape m0_taped m0_at m0_token m0_place m0_value m0_word m0_bad m0_badPlace m0_fault m0_faultPlace m0_lines m0_hours m0_courts m0_in m0_gates m0_gate m0_people m0_at0 m0_stray m0_set m0_once m0_truth m0_known m0_isKept m0_strays m0_hostPerson m0_hostCourt m0_outside m0_inside m0_can m0_fewest m0_waysTo m0_then m0_two m0_nextTwo m0_three m0_nextThree m0_shut m0_worth m0_digit m0_codes m0_most m0_bestTry m0_dayCourt m0_dayHour m0_dayNo m0_x m0_hours cA_m0_hours f_m0_hours m0_courts cA_m0_courts f_m0_courts) sz)) 0 0 (va_A (zV82 m0 m0_thrown m0_width m0_many m0_cells m0_moved m0_tape m0_taped m0_at m0_token m0_place m0_value m0_word m0_bad m0_badPlace m0_fault m0_faultPlace m0_lines m0_hours m0_courts m0_in m0_gates m0_gate m0_people m0_at0 m0_stray m0_set m0_once m0_truth m0_known m0_isKept m0_strays m0_hostPerson m0_hostCourt m0_outside m0_inside m0_can m0_fewest m0_waysTo m0_then m0_two m0_nextTwo m0_three m0_nextThree m0_shut m0_worth m0_digit m0_codes m0_most m0_bestTry m0_dayCourt m0_dayHour m0_dayNo m0_x m0_hours cA_m0_hours f_m0_hours m0_courts cA_m0_courts f_m0_courts) sz) := by
  refine z_enter (by decide) (by exact (Nat.le_of_ble_eq_true rfl)) ?_
  intro p e s m args below meth c ls A R Qc hargs hsz hQe hAe hRe hx hb hml hr hts hown hlocks hin hl hP hK hD hN hXs hA hS
  rw [hAe] at hQe
  have hown : s.vm.findClass RX10 = some m.cls := hown
  have hl : lv_has ls 5 [(0, .ref m0), (1, .int p1), (2, .int p2), (3, .int p3), (4, .int p4)] := hl
  refine lv_aload_n hx hb dX10_isOdds_0 rfl (lv_at hl 0 rfl) ?_
  refine lv_iload_n hx hb dX10_isOdds_1 rfl (lv_at hl 1 rfl) ?_
  refine lv_iload_n hx hb dX10_isOdds_2 rfl (lv_at hl 2 rfl) ?_
  refine lv_iload_n hx hb dX10_isOdds_3 rfl (lv_at hl 3 rfl) ?_
  obtain ⟨hPc, hDc, hFc⟩ := z_cut (wc := (zV82 m0 m0_thrown m0_width m0_many m0_cells m0_moved m0_tape m0_taped m0_at m0_token m0_place m0_value m0_word m0_bad m0_badPlace m0_fault m0_faultPlace m0_lines m0_hours m0_courts m0_in m0_gates m0_gate m0_people m0_at0 m0_stray m0_set m0_once m0_truth m0_known m0_isKept m0_strays m0_hostPerson m0_hostCourt m0_outside m0_inside m0_can m0_fewest m0_waysTo m0_then m0_two m0_nextTwo m0_three m0_nextThree m0_shut m0_worth m0_digit m0_codes m0_most m0_bestTry m0_dayCourt m0_dayHour m0_dayNo m0_x m0_hours cA_m0_hours f_m0_hours m0_courts cA_m0_courts f_m0_courts)) hP hD hS hA [0, 1, 2] rfl (by decide +kernel)
  have hKc := hK.sub (tys' := [(cA_m0_hours, .int), (cA_m0_courts, .int)]) [0, 1] rfl
  refine va_calli (va_runV (As := [.int p1, .int p2, .int p3]) (rest := []) ⟨hx, hb, hml, hown, hts⟩ (k_X10_isAsked l sa dC dI m0 p1 p2 p3 m0_thrown m0_width m0_many m0_cells m0_moved m0_tape m0_taped m0_at m0_token m0_place m0_value m0_word m0_bad m0_badPlace m0_fault m0_faultPlace m0_lines m0_hours m0_courts m0_in m0_gates m0_gate m0_people m0_at0 m0_stray m0_set m0_once m0_truth m0_known m0_isKept m0_strays m0_hostPerson m0_hostCourt m0_outside m0_inside m0_can m0_fewest m0_waysTo m0_then m0_two m0_nextTwo m0_three m0_nextThree m0_shut m0_worth m0_digit m0_codes m0_most m0_bestTry m0_dayCourt m0_dayHour m0_dayNo m0_x cA_m0_hours f_m0_hours cA_m0_courts f_m0_courts b_m0_taped b_m0_at b_m0_token b_m0_value b_m0_bad b_m0_strays b_m0_hostCourt b_m0_dayCourt b_m0_dayHour b_f_m0_hours b_f_m0_courts s.heap.size) (cwV 3 hts (z_gV zw_t8_9 zw_t8_11 zw_s6_6 zw_t1_11 zw_t8_12) rfl rfl rfl (by decide +kernel) (by rw [← hRe]; exact ⟨(Nat.le_of_ble_eq_true rfl), (Nat.le_of_ble_eq_true rfl)⟩)) (z_preV hPc hKc hDc hN hXs hS hFc (q := (RX10, TX10, 53)) (ci := 10) (q0 := 0) rfl rfl) rfl rfl hl.1 rfl (lv_room (Nat.le_of_ble_eq_true rfl)) dX10_isOdds_4 (by rw [← hRe]; exact ⟨(Nat.le_of_ble_eq_true rfl), (Nat.le_of_ble_eq_true rfl)⟩)) hS (fun q _ h => hFc q h) hFc (fun r_1 u t H1 locs ht hvm hw hB hz1 hk1 hS => ?_)
  obtain ⟨hP, hD, hK⟩ := z_after3 (wn := (zV82 m0 m0_thrown m0_width m0_many m0_cells m0_moved m0_tape m0_taped m0_at m0_token m0_place m0_value m0_word m0_bad m0_badPlace m0_fault m0_faultPlace m0_lines m0_hours m0_courts m0_in m0_gates m0_gate m0_people m0_at0 m0_stray m0_set m0_once m0_truth m0_known m0_isKept m0_strays m0_hostPerson m0_hostCourt m0_outside m0_inside m0_can m0_fewest m0_waysTo m0_then m0_two m0_nextTwo m0_three m0_nextThree m0_shut m0_worth m0_digit m0_codes m0_most m0_bestTry m0_dayCourt m0_dayHour m0_dayNo m0_x m0_hours cA_m0_hours f_m0_hours m0_courts cA_m0_courts f_m0_courts)) hB ht hvm hP hD hK [0, 1, 2] [] rfl 3 rfl (by decide +kernel) rfl (by decide +kernel) hk1 hFc
  generalize H1 = H at hP hS ⊢
  have hK : va_K (dC, dI) vwCl [(cA_m0_hours, .int), (cA_m0_courts, .int)] s := hK
  have b_r_1 : 0 ≤ r_1.toInt ∧ r_1.toInt ≤ 1 := hw.1
  have s_r_1 := hw.2
  refine lv_if_eq (tgt := 32) hx hb dX10_isOdds_7 (by decide) (fun c_2 => ?_) (fun c_2 => ?_)
  · have ic_2 := zz_eq rfl (show Int32.toInt 0 = 0 from by decide) c_2
    refine lv_iconst (v := 0) hx hb dX10_isOdds_32 (by decide) ?_
    have zc : Int32.toInt 0 = 0 := by decide
    exact W.zret (v := 0) hx hb hr (by decide) (fun t ht hW => by rw [← hQe]; exact ⟨⟨0, (), rfl, (by first | decide | omega), z_ret hP hK hD ht hW [0, 1, 2] [] rfl (by decide) rfl⟩, hS.F ht⟩) hS.2.2 dX10_isOdds_33
  · have ic_2 := zz_neq rfl (show Int32.toInt 0 = 0 from by decide) c_2
    refine lv_iload hx hb dX10_isOdds_10 (lv_at hl 4 rfl) ?_
    refine lv_i2l (v := _) hx hb dX10_isOdds_12 rfl ?_
    refine lv_topl (fun x_3 ex_3 => ?_)
    have b_x_3 : x_3.toInt = p4.toInt := by rw [ex_3]; exact z_l64 _
    refine lv_iload_n hx hb dX10_isOdds_13 rfl (lv_at hl 2 rfl) ?_
    refine lv_i2l (v := _) hx hb dX10_isOdds_14 rfl ?_
    refine lv_topl (fun x_4 ex_4 => ?_)
    have b_x_4 : x_4.toInt = p2.toInt := by rw [ex_4]; exact z_l64 _
    refine lv_aload_n hx hb dX10_isOdds_15 rfl (lv_at hl 0 rfl) ?_
    refine va_get (D := (dC, dI)) (ci := 10) (v := .ref m0_hours) (C := RX10) (T := TX10) (N := 53) hx hb hts zl_X10 hown hK hP 0 rfl rfl 17 (by decide) (hts _ zw_t6_117) (fun _ h9 => h9) rfl dX10_isOdds_16 ?_
    refine lv_iconst (v := 0) hx hb dX10_isOdds_19 (by decide) ?_
    refine va_iald hx hb hK hP 1 0 rfl rfl (zi_in (show Int32.toInt 0 = 0 from by decide) (by decide)) dX10_isOdds_20 ?_
    refine lv_topi (fun x_5 ex_5 => ?_)
    have b_x_5 : 0 ≤ x_5.toInt ∧ x_5.toInt ≤ 48 := by rw [ex_5]; exact b_f_m0_hours _
    have t_x_5 : x_5.toInt = (f_m0_hours (Int32.toNatClampNeg 0)).toInt := by rw [ex_5]
    refine lv_i2l (v := _) hx hb dX10_isOdds_21 rfl ?_
    refine lv_topl (fun x_6 ex_6 => ?_)
    have b_x_6 : x_6.toInt = x_5.toInt := by rw [ex_6]; exact z_l64 _
    obtain ⟨hPc, hDc, hFc⟩ := z_cut (wc := []) hP hD hS hA [] rfl (by decide +kernel)
    have hKc := hK.sub (tys' := []) [] rfl
    refine va_calli (va_runS (As := [.long x_3, .long x_4, .long x_6]) (rest := []) ⟨hx, hb, hml, hown, hts⟩ (k_X10_in l sa dC dI x_3 x_4 x_6 H.size) (va_cwS 3 hts (z_gS zw_t7_29 zw_t7_30 zw_t1_11 zw_t7_31) rfl rfl rfl (by decide +kernel) (by rw [← hRe]; exact ⟨(Nat.le_of_ble_eq_true rfl), (Nat.le_of_ble_eq_true rfl)⟩)) (z_preS hPc hKc hDc hN hXs hS hFc) rfl rfl hl.1 rfl (lv_room (Nat.le_of_ble_eq_true rfl)) dX10_isOdds_22 (by rw [← hRe]; exact ⟨(Nat.le_of_ble_eq_true rfl), (Nat.le_of_ble_eq_true rfl)⟩)) hS (fun q _ h => hFc q h) hFc (fun r_7 u t H1 locs ht hvm hw hB hz1 hk1 hS => ?_)
    obtain ⟨hP, hD, hK⟩ := z_after3 (wn := (zV82 m0 m0_thrown m0_width m0_many m0_cells m0_moved m0_tape m0_taped m0_at m0_token m0_place m0_value m0_word m0_bad m0_badPlace m0_fault m0_faultPlace m0_lines m0_hours m0_courts m0_in m0_gates m0_gate m0_people m0_at0 m0_stray m0_set m0_once m0_truth m0_known m0_isKept m0_strays m0_hostPerson m0_hostCourt m0_outside m0_inside m0_can m0_fewest m0_waysTo m0_then m0_two m0_nextTwo m0_three m0_nextThree m0_shut m0_worth m0_digit m0_codes m0_most m0_bestTry m0_dayCourt m0_dayHour m0_dayNo m0_x m0_hours cA_m0_hours f_m0_hours m0_courts cA_m0_courts f_m0_courts)) hB ht hvm hP hD hK [] [0, 1, 2] rfl 3 rfl (by decide +kernel) rfl (by decide +kernel) hk1 hFc
    generalize H1 = H at hP hS ⊢
    have hK : va_K (dC, dI) vwCl [(cA_m0_hours, .int), (cA_m0_courts, .int)] s := hK
    have b_r_7 : 0 ≤ r_7.toInt ∧ r_7.toInt ≤ 1 := hw.1
    have s_r_7 := hw.2
    refine lv_if_eq (tgt := 32) hx hb dX10_isOdds_25 (by decide) (fun c_8 => ?_) (fun c_8 => ?_)
    · have ic_8 := zz_eq rfl (show Int32.toInt 0 = 0 from by decide) c_8
      refine lv_iconst (v := 0) hx hb dX10_isOdds_32 (by decide) ?_
      have zc : Int32.toInt 0 = 0 := by decide
      exact W.zret (v := 0) hx hb hr (by decide) (fun t ht hW => by rw [← hQe]; exact ⟨⟨0, (), rfl, (by first | decide | omega), z_ret hP hK hD ht hW [0, 1, 2] [] rfl (by decide) rfl⟩, hS.F ht⟩) hS.2.2 dX10_isOdds_33
    · have ic_8 := zz_neq rfl (show Int32.toInt 0 = 0 from by decide) c_8
      refine lv_iconst (v := 1) hx hb dX10_isOdds_28 (by decide) ?_
      refine lv_goto (tgt := 33) hx hb dX10_isOdds_29 (by decide) ?_
      have zc : Int32.toInt 1 = 1 := by decide
      exact W.zret (v := 1) hx hb hr (by decide) (fun t ht hW => by rw [← hQe]; exact ⟨⟨1, (), rfl, (by first | decide | omega), z_ret hP hK hD ht hW [0, 1, 2] [] rfl (by decide) rfl⟩, hS.F ht⟩) hS.2.2 dX10_isOdds_33
set_option maxHeartbeats 4000000 in
set_option maxRecDepth 100000 in
theorem k_X10_drawn (l : Launch) (sa : Nat → Nat) (dC : Nat → ClassId) (dI : Nat → Nat → Nat) (m0 : Nat) (m0_thrown : Int32) (m0_width : Nat) (m0_many : Nat) (m0_cells : Nat) (m0_moved : Nat) (m0_tape : Nat) (m0_taped : Int32) (m0_at : Int32) (m0_token : Int32) (m0_place : Int32) (m0_value : Int32) (m0_word : Int64) (m0_bad : Int32) (m0_badPlace : Int32) (m0_fault : Int32) (m0_faultPlace : Int32) (m0_lines : Nat) (m0_hours : Nat) (m0_courts : Nat) (m0_in : Nat) (m0_gates : Nat) (m0_gate : Nat) (m0_people : Nat) (m0_at0 : Nat) (m0_stray : Nat) (m0_set : Nat) (m0_once : Nat) (m0_truth : Nat) (m0_known : Nat) (m0_isKept : Nat) (m0_strays : Int32) (m0_hostPerson : Int32) (m0_hostCourt : Int32) (m0_outside : Int32) (m0_inside : Nat) (m0_can : Nat) (m0_fewest : Nat) (m0_waysTo : Nat) (m0_then : Nat) (m0_two : Nat) (m0_nextTwo : Nat) (m0_three : Nat) (m0_nextThree : Nat) (m0_shut : Int32) (m0_worth : Nat) (m0_digit : Nat) (m0_codes : Int32) (m0_most : Int64) (m0_bestTry : Int32) (m0_dayCourt : Int32) (m0_dayHour : Int32) (m0_dayNo : Int32) (m0_x : Int64) (b_m0_taped : 0 ≤ m0_taped.toInt ∧ m0_taped.toInt ≤ 1600) (b_m0_at : 0 ≤ m0_at.toInt ∧ m0_at.toInt ≤ 1600) (b_m0_token : 0 ≤ m0_token.toInt ∧ m0_token.toInt ≤ 4) (b_m0_value : 0 ≤ m0_value.toInt ∧ m0_value.toInt ≤ 1000009) (b_m0_bad : 0 ≤ m0_bad.toInt ∧ m0_bad.toInt ≤ 3) (b_m0_strays : 0 ≤ m0_strays.toInt ∧ m0_strays.toInt ≤ 5) (b_m0_hostCourt : 0 ≤ m0_hostCourt.toInt ∧ m0_hostCourt.toInt ≤ 9) (b_m0_dayCourt : 0 ≤ m0_dayCourt.toInt ∧ m0_dayCourt.toInt ≤ 9) (b_m0_dayHour : 0 ≤ m0_dayHour.toInt ∧ m0_dayHour.toInt ≤ 48) (sz : Nat) : Met l yX10_drawn (.code yX10_drawn cX10_drawn 1 (some .int) :: zT) ({ frames := 0, cells := 0, slots := 0, locals := 0 }) (va_Pc [.ref m0] (zB sa dC dI (zV84 m0 m0_thrown m0_width m0_many m0_cells m0_moved m0_tape m0_taped m0_at m0_token m0_place m0_value m0_word m0_bad m0_badPlace m0_fault m0_faultPlace m0_lines m0_hours m0_courts m0_in m0_gates m0_gate m0_people m0_at0 m0_stray m0_set m0_once m0_truth m0_known m0_isKept m0_strays m0_hostPerson m0_hostCourt m0_outside m0_inside m0_can m0_fewest m0_waysTo m0_then m0_two m0_nextTwo m0_three m0_nextThree m0_shut m0_worth m0_digit m0_codes m0_most m0_bestTry m0_dayCourt m0_dayHour m0_dayNo m0_x) [] sz)) (va_Qi (fun (r : Int32) (_ : Unit) => True) (fun _ t => ∃ (n_m0_52 : Int64), zW dC dI (zV84 m0 m0_thrown m0_width m0_many m0_cells m0_moved m0_tape m0_taped m0_at m0_token m0_place m0_value m0_word m0_bad m0_badPlace m0_fault m0_faultPlace m0_lines m0_hours m0_courts m0_in m0_gates m0_gate m0_people m0_at0 m0_stray m0_set m0_once m0_truth m0_known m0_isKept m0_strays m0_hostPerson m0_hostCourt m0_outside m0_inside m0_can m0_fewest m0_waysTo m0_then m0_two m0_nextTwo m0_three m0_nextThree m0_shut m0_worth m0_digit m0_codes m0_most m0_bestTry m0_dayCourt m0_dayHour m0_dayNo n_m0_52) [] (va_A (zV84 m0 m0_thrown m0_width m0_many m0_cells m0_moved m0_tape m0_taped m0_at m0_token m0_place m0_value m0_word m0_bad m0_badPlace m0_fault m0_faultPlace m0_lines m0_hours m0_courts m0_in m0_gates m0_gate m0_people m0_at0 m0_stray m0_set m0_once m0_truth m0_known m0_isKept m0_strays m0_hostPerson m0_hostCourt m0_outside m0_inside m0_can m0_fewest m0_waysTo m0_then m0_two m0_nextTwo m0_three m0_nextThree m0_shut m0_worth m0_digit m0_codes m0_most m0_bestTry m0_dayCourt m0_dayHour m0_dayNo m0_x) sz) t) (va_A (zV84 m0 m0_thrown m0_width m0_many m0_cells m0_moved m0_tape m0_taped m0_at m0_token m0_place m0_value m0_word m0_bad m0_badPlace m0_fault m0_faultPlace m0_lines m0_hours m0_courts m0_in m0_gates m0_gate m0_people m0_at0 m0_stray m0_set m0_once m0_truth m0_known m0_isKept m0_strays m0_hostPerson m0_hostCourt m0_outside m0_inside m0_can m0_fewest m0_waysTo m0_then m0_two m0_nextTwo m0_three m0_nextThree m0_shut m0_worth m0_digit m0_codes m0_most m0_bestTry m0_dayCourt m0_dayHour m0_dayNo m0_x) sz)) 0 0 (va_A (zV84 m0 m0_thrown m0_width m0_many m0_cells m0_moved m0_tape m0_taped m0_at m0_token m0_place m0_value m0_word m0_bad m0_badPlace m0_fault m0_faultPlace m0_lines m0_hours m0_courts m0_in m0_gates m0_gate m0_people m0_at0 m0_stray m0_set m0_once m0_truth m0_known m0_isKept m0_strays m0_hostPerson m0_hostCourt m0_outside m0_inside m0_can m0_fewest m0_waysTo m0_then m0_two m0_nextTwo m0_three m0_nextThree m0_shut m0_worth m0_digit m0_codes m0_most m0_bestTry m0_dayCourt m0_dayHour m0_dayNo m0_x) sz) := by
  refine z_enter (by decide) (by exact (Nat.le_of_ble_eq_true rfl)) ?_
  intro p e s m args below meth c ls A R Qc hargs hsz hQe hAe hRe hx hb hml hr hts hown hlocks hin hl hP hK hD hN hXs hA hS
  rw [hAe] at hQe
  have hown : s.vm.findClass RX10 = some m.cls := hown
  have hl : lv_has ls 1 [(0, .ref m0)] := hl
  refine lv_aload_n hx hb dX10_drawn_0 rfl (lv_at hl 0 rfl) ?_
  refine lv_ldc2 (v := 1103515245) hx hb hown (hts _ zw_t9_64) dX10_drawn_1 ?_
  refine lv_aload_n hx hb dX10_drawn_4 rfl (lv_at hl 0 rfl) ?_
  refine va_get (D := (dC, dI)) (ci := 10) (v := .long m0_x) (C := RX10) (T := TX10) (N := 53) hx hb hts zl_X10 hown hK hP 0 rfl rfl 52 (by decide) (hts _ zw_t6_152) (fun _ h9 => h9) rfl dX10_drawn_5 ?_
  refine lv_lmul hx hb dX10_drawn_8 ?_
  refine lv_topl (fun x_1 ex_1 => ?_)
  refine lv_ldc2 (v := 12345) hx hb hown (hts _ zw_t9_65) dX10_drawn_9 ?_
  refine lv_ladd hx hb dX10_drawn_12 ?_
  refine lv_topl (fun x_2 ex_2 => ?_)
  refine lv_ldc2 (v := 2147483648) hx hb hown (hts _ zw_t9_66) dX10_drawn_13 ?_
  refine lv_lrem hx hb dX10_drawn_16 (by decide) ?_
  refine lv_topl (fun x_3 ex_3 => ?_)
  refine va_put (D := (dC, dI)) (ci := 10) (v := .long x_3) (ty := .long) (C := RX10) (T := TX10) (N := 53) hx hb hts zl_X10 tyX10 tyX10_ok nmX10 hown hK hP hD hS 0 rfl rfl 52 (by decide) (hts _ zw_t6_152) (fun _ h9 => h9) rfl (by decide +kernel) rfl rfl (Nat.le_of_ble_eq_true rfl) dX10_drawn_17 (fun H locs hP hD hS => ?_)
  have hP : va_P (dC, dI) vwCl (zV84 m0 m0_thrown m0_width m0_many m0_cells m0_moved m0_tape m0_taped m0_at m0_token m0_place m0_value m0_word m0_bad m0_badPlace m0_fault m0_faultPlace m0_lines m0_hours m0_courts m0_in m0_gates m0_gate m0_people m0_at0 m0_stray m0_set m0_once m0_truth m0_known m0_isKept m0_strays m0_hostPerson m0_hostCourt m0_outside m0_inside m0_can m0_fewest m0_waysTo m0_then m0_two m0_nextTwo m0_three m0_nextThree m0_shut m0_worth m0_digit m0_codes m0_most m0_bestTry m0_dayCourt m0_dayHour m0_dayNo x_3) H := hP
  have hD : va_D A (zV84 m0 m0_thrown m0_width m0_many m0_cells m0_moved m0_tape m0_taped m0_at m0_token m0_place m0_value m0_word m0_bad m0_badPlace m0_fault m0_faultPlace m0_lines m0_hours m0_courts m0_in m0_gates m0_gate m0_people m0_at0 m0_stray m0_set m0_once m0_truth m0_known m0_isKept m0_strays m0_hostPerson m0_hostCourt m0_outside m0_inside m0_can m0_fewest m0_waysTo m0_then m0_two m0_nextTwo m0_three m0_nextThree m0_shut m0_worth m0_digit m0_codes m0_most m0_bestTry m0_dayCourt m0_dayHour m0_dayNo x_3) := hD
  refine lv_aload_n hx hb dX10_drawn_20 rfl (lv_at hl 0 rfl) ?_
  refine va_get (D := (dC, dI)) (ci := 10) (v := .long x_3) (C := RX10) (T := TX10) (N := 53) hx hb hts zl_X10 hown hK hP 0 rfl rfl 52 (by decide) (hts _ zw_t6_152) (fun _ h9 => h9) rfl dX10_drawn_21 ?_
  refine lv_ldc2 (v := 65536) hx hb hown (hts _ zw_t9_67) dX10_drawn_24 ?_
  refine lv_ldiv hx hb dX10_drawn_27 (by decide) ?_
  refine lv_topl (fun x_4 ex_4 => ?_)
  refine lv_ldc2 (v := 100) hx hb hown (hts _ zw_t8_220) dX10_drawn_28 ?_
  refine lv_lrem hx hb dX10_drawn_31 (by decide) ?_
  refine lv_topl (fun x_5 ex_5 => ?_)
  refine lv_l2i (v := _) hx hb dX10_drawn_32 rfl ?_
  refine lv_topi (fun x_6 ex_6 => ?_)
  exact W.iret (v := x_6) hx hb hr (fun t ht hW => by rw [← hQe]; exact ⟨⟨x_6, (), rfl, trivial, ⟨x_3, z_ret hP hK hD ht hW [0] [] rfl (by decide) rfl⟩⟩, hS.F ht⟩) hS.2.2 dX10_drawn_33
set_option maxHeartbeats 4000000 in
set_option maxRecDepth 100000 in
theorem k_X10_leastName (l : Launch) (sa : Nat → Nat) (dC : Nat → ClassId) (dI : Nat → Nat → Nat) (m0 : Nat) (p1 : Int32) (m0_thrown : Int32) (m0_width : Nat) (m0_many : Nat) (m0_cells : Nat) (m0_moved : Nat) (m0_tape : Nat) (m0_taped : Int32) (m0_at : Int32) (m0_token : Int32) (m0_place : Int32) (m0_value : Int32) (m0_word : Int64) (m0_bad : Int32) (m0_badPlace : Int32) (m0_fault : Int32) (m0_faultPlace : Int32) (m0_lines : Nat) (m0_hours : Nat) (m0_courts : Nat) (m0_in : Nat) (m0_gates : Nat) (m0_gate : Nat) (m0_people : Nat) (m0_at0 : Nat) (m0_stray : Nat) (m0_set : Nat) (m0_once : Nat) (m0_truth : Nat) (m0_known : Nat) (m0_isKept : Nat) (m0_strays : Int32) (m0_hostPerson : Int32) (m0_hostCourt : Int32) (m0_outside : Int32) (m0_inside : Nat) (m0_can : Nat) (m0_fewest : Nat) (m0_waysTo : Nat) (m0_then : Nat) (m0_two : Nat) (m0_nextTwo : Nat) (m0_three : Nat) (m0_nextThree : Nat) (m0_shut : Int32) (m0_worth : Nat) (m0_digit : Nat) (m0_codes : Int32) (m0_most : Int64) (m0_bestTry : Int32) (m0_dayCourt : Int32) (m0_dayHour : Int32) (m0_dayNo : Int32) (m0_x : Int64) (cA_m0_people : ClassId) (f_m0_people : Nat → Int32) (b_m0_taped : 0 ≤ m0_taped.toInt ∧ m0_taped.toInt ≤ 1600) (b_m0_at : 0 ≤ m0_at.toInt ∧ m0_at.toInt ≤ 1600) (b_m0_token : 0 ≤ m0_token.toInt ∧ m0_token.toInt ≤ 4) (b_m0_value : 0 ≤ m0_value.toInt ∧ m0_value.toInt ≤ 1000009) (b_m0_bad : 0 ≤ m0_bad.toInt ∧ m0_bad.toInt ≤ 3) (b_m0_strays : 0 ≤ m0_strays.toInt ∧ m0_strays.toInt ≤ 5) (b_m0_hostCourt : 0 ≤ m0_hostCourt.toInt ∧ m0_hostCourt.toInt ≤ 9) (b_m0_dayCourt : 0 ≤ m0_dayCourt.toInt ∧ m0_dayCourt.toInt ≤ 9) (b_m0_dayHour : 0 ≤ m0_dayHour.toInt ∧ m0_dayHour.toInt ≤ 48) (b_f_m0_people : ∀ j : Nat, 0 ≤ (f_m0_people j).toInt ∧ (f_m0_people j).toInt ≤ 10) (sz : Nat) : Met l yX10_leastName (.code yX10_leastName cX10_leastName 3 (some .int) :: zT) ({ frames := 0, cells := 0, slots := 0, locals := 0 }) (va_Pc [.ref m0, .int p1] (zB sa dC dI (zV78 m0 m0_thrown m0_width m0_many m0_cells m0_moved m0_tape m0_taped m0_at m0_token m0_place m0_value m0_word m0_bad m0_badPlace m0_fault m0_faultPlace m0_lines m0_hours m0_courts m0_in m0_gates m0_gate m0_people m0_at0 m0_stray m0_set m0_once m0_truth m0_known m0_isKept m0_strays m0_hostPerson m0_hostCourt m0_outside m0_inside m0_can m0_fewest m0_waysTo m0_then m0_two m0_nextTwo m0_three m0_nextThree m0_shut m0_worth m0_digit m0_codes m0_most m0_bestTry m0_dayCourt m0_dayHour m0_dayNo m0_x m0_people cA_m0_people f_m0_people) [(cA_m0_people, .int)] sz)) (va_Qi (fun (r : Int32) (_ : Unit) => ((-1) ≤ r.toInt ∧ r.toInt ≤ 9)) (fun _ t => zW dC dI (zV78 m0 m0_thrown m0_width m0_many m0_cells m0_moved m0_tape m0_taped m0_at m0_token m0_place m0_value m0_word m0_bad m0_badPlace m0_fault m0_faultPlace m0_lines m0_hours m0_courts m0_in m0_gates m0_gate m0_people m0_at0 m0_stray m0_set m0_once m0_truth m0_known m0_isKept m0_strays m0_hostPerson m0_hostCourt m0_outside m0_inside m0_can m0_fewest m0_waysTo m0_then m0_two m0_nextTwo m0_three m0_nextThree m0_shut m0_worth m0_digit m0_codes m0_most m0_bestTry m0_dayCourt m0_dayHour m0_dayNo m0_x m0_people cA_m0_people f_m0_people) [] (va_A (zV78 m0 m0_thrown m0_width m0_many m0_cells m0_moved m0_tape m0_taped m0_at m0_token m0_place m0_value m0_word m0_bad m0_badPlace m0_fault m0_faultPlace m0_lines m0_hours m0_courts m0_in m0_gates m0_gate m0_people m0_at0 m0_stray m0_set m0_once m0_truth m0_known m0_isKept m0_strays m0_hostPerson m0_hostCourt m0_outside m0_inside m0_can m0_fewest m0_waysTo m0_then m0_two m0_nextTwo m0_three m0_nextThree m0_shut m0_worth m0_digit m0_codes m0_most m0_bestTry m0_dayCourt m0_dayHour m0_dayNo m0_x m0_people cA_m0_people f_m0_people) sz) t) (va_A (zV78 m0 m0_thrown m0_width m0_many m0_cells m0_moved m0_tape m0_taped m0_at m0_token m0_place m0_value m0_word m0_bad m0_badPlace m0_fault m0_faultPlace m0_lines m0_hours m0_courts m0_in m0_gates m0_gate m0_people m0_at0 m0_stray m0_set m0_once m0_truth m0_known m0_isKept m0_strays m0_hostPerson m0_hostCourt m0_outside m0_inside m0_can m0_fewest m0_waysTo m0_then m0_two m0_nextTwo m0_three m0_nextThree m0_shut m0_worth m0_digit m0_codes m0_most m0_bestTry m0_dayCourt m0_dayHour m0_dayNo m0_x m0_people cA_m0_people f_m0_people) sz)) 0 0 (va_A (zV78 m0 m0_thrown m0_width m0_many m0_cells m0_moved m0_tape m0_taped m0_at m0_token m0_place m0_value m0_word m0_bad m0_badPlace m0_fault m0_faultPlace m0_lines m0_hours m0_courts m0_in m0_gates m0_gate m0_people m0_at0 m0_stray m0_set m0_once m0_truth m0_known m0_isKept m0_strays m0_hostPerson m0_hostCourt m0_outside m0_inside m0_can m0_fewest m0_waysTo m0_then m0_two m0_nextTwo m0_three m0_nextThree m0_shut m0_worth m0_digit m0_codes m0_most m0_bestTry m0_dayCourt m0_dayHour m0_dayNo m0_x m0_people cA_m0_people f_m0_people) sz) := by
  refine z_enter (by decide) (by exact (Nat.le_of_ble_eq_true rfl)) ?_
  intro p e s m args below meth c ls A R Qc hargs hsz hQe hAe hRe hx hb hml hr hts hown hlocks hin hl hP hK hD hN hXs hA hS
  rw [hAe] at hQe
  have hown : s.vm.findClass RX10 = some m.cls := hown
  have hl : lv_has ls 3 [(0, .ref m0), (1, .int p1)] := hl
  refine lv_iconst (v := 0) hx hb dX10_leastName_0 (by decide) ?_
  refine lv_istore_n (lv' := [(2, .int 0), (0, .ref m0), (1, .int p1)]) hx hb dX10_leastName_1 rfl hl (by decide) rfl (fun ls hl => ?_)
  have loop_1 : ∀ (t : Nat) (v2_1 : Int32) (b_v2_1 : 0 ≤ v2_1.toInt ∧ v2_1.toInt ≤ 10) (H : Heap) (locs : List Loc) (ls : Array Slot), 10 - v2_1.toInt < (t : Int) → va_P (dC, dI) vwCl (zV78 m0 m0_thrown m0_width m0_many m0_cells m0_moved m0_tape m0_taped m0_at m0_token m0_place m0_value m0_word m0_bad m0_badPlace m0_fault m0_faultPlace m0_lines m0_hours m0_courts m0_in m0_gates m0_gate m0_people m0_at0 m0_stray m0_set m0_once m0_truth m0_known m0_isKept m0_strays m0_hostPerson m0_hostCourt m0_outside m0_inside m0_can m0_fewest m0_waysTo m0_then m0_two m0_nextTwo m0_three m0_nextThree m0_shut m0_worth m0_digit m0_codes m0_most m0_bestTry m0_dayCourt m0_dayHour m0_dayNo m0_x m0_people cA_m0_people f_m0_people) H → va_D A (zV78 m0 m0_thrown m0_width m0_many m0_cells m0_moved m0_tape m0_taped m0_at m0_token m0_place m0_value m0_word m0_bad m0_badPlace m0_fault m0_faultPlace m0_lines m0_hours m0_courts m0_in m0_gates m0_gate m0_people m0_at0 m0_stray m0_set m0_once m0_truth m0_known m0_isKept m0_strays m0_hostPerson m0_hostCourt m0_outside m0_inside m0_can m0_fewest m0_waysTo m0_then m0_two m0_nextTwo m0_three m0_nextThree m0_shut m0_worth m0_digit m0_codes m0_most m0_bestTry m0_dayCourt m0_dayHour m0_dayNo m0_x m0_people cA_m0_people f_m0_people) → va_S A s.heap H locs → lv_has ls 3 [(0, .ref m0), (1, .int p1), (2, .int v2_1)] → W p l e R s m args below meth c H locs 0 0 (MQ below Qc args s 0 0 A) (F0 m 2 ls []) := by
    intro t
    induction t with
    | zero => intro v2_1 b_v2_1 H locs ls hmu _ _ _ _; exact absurd hmu (by first | with_reducible assumption | omega)
    | succ t ih_1 =>
      intro v2_1 b_v2_1 H locs ls hmu hP hD hS hl
      refine lv_iload_n hx hb dX10_leastName_2 rfl (lv_at hl 2 rfl) ?_
      refine lv_aload_n hx hb dX10_leastName_3 rfl (lv_at hl 0 rfl) ?_
      refine va_get (D := (dC, dI)) (ci := 10) (v := .ref m0_people) (C := RX10) (T := TX10) (N := 53) hx hb hts zl_X10 hown hK hP 0 rfl rfl 22 (by decide) (hts _ zw_t6_122) (fun _ h9 => h9) rfl dX10_leastName_4 ?_
      refine lv_iconst (v := 0) hx hb dX10_leastName_7 (by decide) ?_
      refine va_iald hx hb hK hP 1 0 rfl rfl (zi_in (show Int32.toInt 0 = 0 from by decide) (by decide)) dX10_leastName_8 ?_
      refine lv_topi (fun x_2 ex_2 => ?_)
      have b_x_2 : 0 ≤ x_2.toInt ∧ x_2.toInt ≤ 10 := by rw [ex_2]; exact b_f_m0_people _
      have t_x_2 : x_2.toInt = (f_m0_people (Int32.toNatClampNeg 0)).toInt := by rw [ex_2]
      refine lv_icmp_ge (tgt := 29) hx hb dX10_leastName_9 (by decide) (fun c_3 => ?_) (fun c_3 => ?_)
      · have ic_3 := zz_ge rfl rfl c_3
        refine lv_iconst (v := (-1)) hx hb dX10_leastName_29 (by decide) ?_
        exact W.iret (v := (-1)) hx hb hr (fun t ht hW => by rw [← hQe]; exact ⟨⟨(-1), (), rfl, (by decide), z_ret hP hK hD ht hW [0, 1] [] rfl (by decide) rfl⟩, hS.F ht⟩) hS.2.2 dX10_leastName_30
      · have ic_3 := zz_nge rfl rfl c_3
        refine lv_iload_n hx hb dX10_leastName_12 rfl (lv_at hl 1 rfl) ?_
        refine lv_iload_n hx hb dX10_leastName_13 rfl (lv_at hl 2 rfl) ?_
        refine lv_ishr hx hb dX10_leastName_14 ?_
        refine lv_topi (fun x_4 ex_4 => ?_)
        refine lv_iconst (v := 1) hx hb dX10_leastName_15 (by decide) ?_
        refine lv_iand hx hb dX10_leastName_16 ?_
        refine lv_topi (fun x_5 ex_5 => ?_)
        have b_x_5 : 0 ≤ x_5.toInt ∧ x_5.toInt ≤ 1 := by rw [ex_5]; exact zi_andR (show Int32.toInt 1 = 1 from by decide) (by first | with_reducible assumption | omega) (by first | with_reducible assumption | omega)
        refine lv_iconst (v := 1) hx hb dX10_leastName_17 (by decide) ?_
        refine lv_icmp_ne (tgt := 23) hx hb dX10_leastName_18 (by decide) (fun c_6 => ?_) (fun c_6 => ?_)
        · have ic_6 := zz_ne rfl (show Int32.toInt 1 = 1 from by decide) c_6
          obtain ⟨x_7, ex_7⟩ : ∃ z : Int32, z = v2_1 + Int32.ofInt 1 := ⟨_, rfl⟩
          have b_x_7 : x_7.toInt = v2_1.toInt + 1 := by rw [ex_7]; exact zi_add rfl (show (Int32.ofInt 1).toInt = 1 from by decide) (z_rac b_v2_1 (by decide))
          refine lv_iinc (v := x_7) (lv' := [(2, .int x_7), (0, .ref m0), (1, .int p1)]) hx hb dX10_leastName_23 hl (k := 2) rfl ex_7.symm (by decide) rfl (fun ls hl => ?_)
          refine lv_goto (tgt := 2) hx hb dX10_leastName_26 (by decide) ?_
          exact ih_1 x_7 (by first | with_reducible assumption | omega) _ _ _ (by first | with_reducible assumption | omega) (hP.sub (ws' := (zV78 m0 m0_thrown m0_width m0_many m0_cells m0_moved m0_tape m0_taped m0_at m0_token m0_place m0_value m0_word m0_bad m0_badPlace m0_fault m0_faultPlace m0_lines m0_hours m0_courts m0_in m0_gates m0_gate m0_people m0_at0 m0_stray m0_set m0_once m0_truth m0_known m0_isKept m0_strays m0_hostPerson m0_hostCourt m0_outside m0_inside m0_can m0_fewest m0_waysTo m0_then m0_two m0_nextTwo m0_three m0_nextThree m0_shut m0_worth m0_digit m0_codes m0_most m0_bestTry m0_dayCourt m0_dayHour m0_dayNo m0_x m0_people cA_m0_people f_m0_people)) [0, 1] rfl) (hD.sub (ws' := (zV78 m0 m0_thrown m0_width m0_many m0_cells m0_moved m0_tape m0_taped m0_at m0_token m0_place m0_value m0_word m0_bad m0_badPlace m0_fault m0_faultPlace m0_lines m0_hours m0_courts m0_in m0_gates m0_gate m0_people m0_at0 m0_stray m0_set m0_once m0_truth m0_known m0_isKept m0_strays m0_hostPerson m0_hostCourt m0_outside m0_inside m0_can m0_fewest m0_waysTo m0_then m0_two m0_nextTwo m0_three m0_nextThree m0_shut m0_worth m0_digit m0_codes m0_most m0_bestTry m0_dayCourt m0_dayHour m0_dayNo m0_x m0_people cA_m0_people f_m0_people)) [0, 1] (by decide) rfl) hS (lv_sub hl [1, 2, 0] rfl)
        · have ic_6 := zz_nne rfl (show Int32.toInt 1 = 1 from by decide) c_6
          refine lv_iload_n hx hb dX10_leastName_21 rfl (lv_at hl 2 rfl) ?_
          exact W.iret (v := v2_1) hx hb hr (fun t ht hW => by rw [← hQe]; exact ⟨⟨v2_1, (), rfl, (by first | with_reducible assumption | exact z_rle b_v2_1 (by decide) | omega), z_ret hP hK hD ht hW [0, 1] [] rfl (by decide) rfl⟩, hS.F ht⟩) hS.2.2 dX10_leastName_22
  exact loop_1 12 (0) (by decide) _ _ _ (by decide) hP hD hS (lv_sub hl [1, 2, 0] rfl)
set_option maxHeartbeats 4000000 in
set_option maxRecDepth 100000 in
theorem k_X10_isSooner (l : Launch) (sa : Nat → Nat) (dC : Nat → ClassId) (dI : Nat → Nat → Nat) (m0 : Nat) (p1 : Int32) (p2 : Int32) (m0_thrown : Int32) (m0_width : Nat) (m0_many : Nat) (m0_cells : Nat) (m0_moved : Nat) (m0_tape : Nat) (m0_taped : Int32) (m0_at : Int32) (m0_token : Int32) (m0_place : Int32) (m0_value : Int32) (m0_word : Int64) (m0_bad : Int32) (m0_badPlace : Int32) (m0_fault : Int32) (m0_faultPlace : Int32) (m0_lines : Nat) (m0_hours : Nat) (m0_courts : Nat) (m0_in : Nat) (m0_gates : Nat) (m0_gate : Nat) (m0_people : Nat) (m0_at0 : Nat) (m0_stray : Nat) (m0_set : Nat) (m0_once : Nat) (m0_truth : Nat) (m0_known : Nat) (m0_isKept : Nat) (m0_strays : Int32) (m0_hostPerson : Int32) (m0_hostCourt : Int32) (m0_outside : Int32) (m0_inside : Nat) (m0_can : Nat) (m0_fewest : Nat) (m0_waysTo : Nat) (m0_then : Nat) (m0_two : Nat) (m0_nextTwo : Nat) (m0_three : Nat) (m0_nextThree : Nat) (m0_shut : Int32) (m0_worth : Nat) (m0_digit : Nat) (m0_codes : Int32) (m0_most : Int64) (m0_bestTry : Int32) (m0_dayCourt : Int32) (m0_dayHour : Int32) (m0_dayNo : Int32) (m0_x : Int64) (b_m0_taped : 0 ≤ m0_taped.toInt ∧ m0_taped.toInt ≤ 1600) (b_m0_at : 0 ≤ m0_at.toInt ∧ m0_at.toInt ≤ 1600) (b_m0_token : 0 ≤ m0_token.toInt ∧ m0_token.toInt ≤ 4) (b_m0_value : 0 ≤ m0_value.toInt ∧ m0_value.toInt ≤ 1000009) (b_m0_bad : 0 ≤ m0_bad.toInt ∧ m0_bad.toInt ≤ 3) (b_m0_strays : 0 ≤ m0_strays.toInt ∧ m0_strays.toInt ≤ 5) (b_m0_hostCourt : 0 ≤ m0_hostCourt.toInt ∧ m0_hostCourt.toInt ≤ 9) (b_m0_dayCourt : 0 ≤ m0_dayCourt.toInt ∧ m0_dayCourt.toInt ≤ 9) (b_m0_dayHour : 0 ≤ m0_dayHour.toInt ∧ m0_dayHour.toInt ≤ 48) (sz : Nat) : Met l yX10_isSooner (.code yX10_isSooner cX10_isSooner 3 (some .boolean) :: zT) ({ frames := 0, cells := 0, slots := 0, locals := 0 }) (va_Pc [.ref m0, .int p1, .int p2] (zB sa dC dI (zV84 m0 m0_thrown m0_width m0_many m0_cells m0_moved m0_tape m0_taped m0_at m0_token m0_place m0_value m0_word m0_bad m0_badPlace m0_fault m0_faultPlace m0_lines m0_hours m0_courts m0_in m0_gates m0_gate m0_people m0_at0 m0_stray m0_set m0_once m0_truth m0_known m0_isKept m0_strays m0_hostPerson m0_hostCourt m0_outside m0_inside m0_can m0_fewest m0_waysTo m0_then m0_two m0_nextTwo m0_three m0_nextThree m0_shut m0_worth m0_digit m0_codes m0_most m0_bestTry m0_dayCourt m0_dayHour m0_dayNo m0_x) [] sz)) (va_Qi (fun (r : Int32) (_ : Unit) => (0 ≤ r.toInt ∧ r.toInt ≤ 1)) (fun _ t => zW dC dI (zV84 m0 m0_thrown m0_width m0_many m0_cells m0_moved m0_tape m0_taped m0_at m0_token m0_place m0_value m0_word m0_bad m0_badPlace m0_fault m0_faultPlace m0_lines m0_hours m0_courts m0_in m0_gates m0_gate m0_people m0_at0 m0_stray m0_set m0_once m0_truth m0_known m0_isKept m0_strays m0_hostPerson m0_hostCourt m0_outside m0_inside m0_can m0_fewest m0_waysTo m0_then m0_two m0_nextTwo m0_three m0_nextThree m0_shut m0_worth m0_digit m0_codes m0_most m0_bestTry m0_dayCourt m0_dayHour m0_dayNo m0_x) [] (va_A (zV84 m0 m0_thrown m0_width m0_many m0_cells m0_moved m0_tape m0_taped m0_at m0_token m0_place m0_value m0_word m0_bad m0_badPlace m0_fault m0_faultPlace m0_lines m0_hours m0_courts m0_in m0_gates m0_gate m0_people m0_at0 m0_stray m0_set m0_once m0_truth m0_known m0_isKept m0_strays m0_hostPerson m0_hostCourt m0_outside m0_inside m0_can m0_fewest m0_waysTo m0_then m0_two m0_nextTwo m0_three m0_nextThree m0_shut m0_worth m0_digit m0_codes m0_most m0_bestTry m0_dayCourt m0_dayHour m0_dayNo m0_x) sz) t) (va_A (zV84 m0 m0_thrown m0_width m0_many m0_cells m0_moved m0_tape m0_taped m0_at m0_token m0_place m0_value m0_word m0_bad m0_badPlace m0_fault m0_faultPlace m0_lines m0_hours m0_courts m0_in m0_gates m0_gate m0_people m0_at0 m0_stray m0_set m0_once m0_truth m0_known m0_isKept m0_strays m0_hostPerson m0_hostCourt m0_outside m0_inside m0_can m0_fewest m0_waysTo m0_then m0_two m0_nextTwo m0_three m0_nextThree m0_shut m0_worth m0_digit m0_codes m0_most m0_bestTry m0_dayCourt m0_dayHour m0_dayNo m0_x) sz)) 0 0 (va_A (zV84 m0 m0_thrown m0_width m0_many m0_cells m0_moved m0_tape m0_taped m0_at m0_token m0_place m0_value m0_word m0_bad m0_badPlace m0_fault m0_faultPlace m0_lines m0_hours m0_courts m0_in m0_gates m0_gate m0_people m0_at0 m0_stray m0_set m0_once m0_truth m0_known m0_isKept m0_strays m0_hostPerson m0_hostCourt m0_outside m0_inside m0_can m0_fewest m0_waysTo m0_then m0_two m0_nextTwo m0_three m0_nextThree m0_shut m0_worth m0_digit m0_codes m0_most m0_bestTry m0_dayCourt m0_dayHour m0_dayNo m0_x) sz) := by
  refine z_enter (by decide) (by exact (Nat.le_of_ble_eq_true rfl)) ?_
  intro p e s m args below meth c ls A R Qc hargs hsz hQe hAe hRe hx hb hml hr hts hown hlocks hin hl hP hK hD hN hXs hA hS
  rw [hAe] at hQe
  have hown : s.vm.findClass RX10 = some m.cls := hown
  have hl : lv_has ls 3 [(0, .ref m0), (1, .int p1), (2, .int p2)] := hl
  refine lv_iload_n hx hb dX10_isSooner_0 rfl (lv_at hl 1 rfl) ?_
  refine lv_iconst (v := (-1)) hx hb dX10_isSooner_1 (by decide) ?_
  have nb_p1 := zi_nb p1
  refine lv_icmp_eq (tgt := 19) hx hb dX10_isSooner_2 (by decide) (fun c_1 => ?_) (fun c_1 => ?_)
  · have ic_1 := zz_eq rfl (show Int32.toInt (-1) = (-1) from by decide) c_1
    refine lv_iconst (v := 0) hx hb dX10_isSooner_19 (by decide) ?_
    exact W.zret (v := 0) hx hb hr (by decide) (fun t ht hW => by rw [← hQe]; exact ⟨⟨0, (), rfl, (by decide), z_ret hP hK hD ht hW [0] [] rfl (by decide) rfl⟩, hS.F ht⟩) hS.2.2 dX10_isSooner_20
  · have ic_1 := zz_neq rfl (show Int32.toInt (-1) = (-1) from by decide) c_1
    refine lv_iload_n hx hb dX10_isSooner_5 rfl (lv_at hl 2 rfl) ?_
    refine lv_iconst (v := (-1)) hx hb dX10_isSooner_6 (by decide) ?_
    have nb_p2 := zi_nb p2
    refine lv_icmp_eq (tgt := 15) hx hb dX10_isSooner_7 (by decide) (fun c_2 => ?_) (fun c_2 => ?_)
    · have ic_2 := zz_eq rfl (show Int32.toInt (-1) = (-1) from by decide) c_2
      refine lv_iconst (v := 1) hx hb dX10_isSooner_15 (by decide) ?_
      refine lv_goto (tgt := 20) hx hb dX10_isSooner_16 (by decide) ?_
      exact W.zret (v := 1) hx hb hr (by decide) (fun t ht hW => by rw [← hQe]; exact ⟨⟨1, (), rfl, (by decide), z_ret hP hK hD ht hW [0] [] rfl (by decide) rfl⟩, hS.F ht⟩) hS.2.2 dX10_isSooner_20
    · have ic_2 := zz_neq rfl (show Int32.toInt (-1) = (-1) from by decide) c_2
      refine lv_iload_n hx hb dX10_isSooner_10 rfl (lv_at hl 1 rfl) ?_
      refine lv_iload_n hx hb dX10_isSooner_11 rfl (lv_at hl 2 rfl) ?_
      refine lv_icmp_ge (tgt := 19) hx hb dX10_isSooner_12 (by decide) (fun c_3 => ?_) (fun c_3 => ?_)
      · have ic_3 := zz_ge rfl rfl c_3
        refine lv_iconst (v := 0) hx hb dX10_isSooner_19 (by decide) ?_
        exact W.zret (v := 0) hx hb hr (by decide) (fun t ht hW => by rw [← hQe]; exact ⟨⟨0, (), rfl, (by decide), z_ret hP hK hD ht hW [0] [] rfl (by decide) rfl⟩, hS.F ht⟩) hS.2.2 dX10_isSooner_20
      · have ic_3 := zz_nge rfl rfl c_3
        refine lv_iconst (v := 1) hx hb dX10_isSooner_15 (by decide) ?_
        refine lv_goto (tgt := 20) hx hb dX10_isSooner_16 (by decide) ?_
        exact W.zret (v := 1) hx hb hr (by decide) (fun t ht hW => by rw [← hQe]; exact ⟨⟨1, (), rfl, (by decide), z_ret hP hK hD ht hW [0] [] rfl (by decide) rfl⟩, hS.F ht⟩) hS.2.2 dX10_isSooner_20
set_option maxHeartbeats 4000000 in
set_option maxRecDepth 100000 in
theorem k_X10_placeOf (l : Launch) (sa : Nat → Nat) (dC : Nat → ClassId) (dI : Nat → Nat → Nat) (m0 : Nat) (p1 : Int32) (p2 : Int32) (p3 : Int32) (m0_thrown : Int32) (m0_width : Nat) (m0_many : Nat) (m0_cells : Nat) (m0_moved : Nat) (m0_tape : Nat) (m0_taped : Int32) (m0_at : Int32) (m0_token : Int32) (m0_place : Int32) (m0_value : Int32) (m0_word : Int64) (m0_bad : Int32) (m0_badPlace : Int32) (m0_fault : Int32) (m0_faultPlace : Int32) (m0_lines : Nat) (m0_hours : Nat) (m0_courts : Nat) (m0_in : Nat) (m0_gates : Nat) (m0_gate : Nat) (m0_people : Nat) (m0_at0 : Nat) (m0_stray : Nat) (m0_set : Nat) (m0_once : Nat) (m0_truth : Nat) (m0_known : Nat) (m0_isKept : Nat) (m0_strays : Int32) (m0_hostPerson : Int32) (m0_hostCourt : Int32) (m0_outside : Int32) (m0_inside : Nat) (m0_can : Nat) (m0_fewest : Nat) (m0_waysTo : Nat) (m0_then : Nat) (m0_two : Nat) (m0_nextTwo : Nat) (m0_three : Nat) (m0_nextThree : Nat) (m0_shut : Int32) (m0_worth : Nat) (m0_digit : Nat) (m0_codes : Int32) (m0_most : Int64) (m0_bestTry : Int32) (m0_dayCourt : Int32) (m0_dayHour : Int32) (m0_dayNo : Int32) (m0_x : Int64) (cA_m0_at0 : ClassId) (f_m0_at0 : Nat → Int32) (cA_m0_stray : ClassId) (f_m0_stray : Nat → Int32) (b_p1 : 0 ≤ p1.toInt ∧ p1.toInt ≤ 9) (b_p2 : 0 ≤ p2.toInt ∧ p2.toInt ≤ 1) (b_p3 : 0 ≤ p3.toInt ∧ p3.toInt ≤ 47) (b_m0_taped : 0 ≤ m0_taped.toInt ∧ m0_taped.toInt ≤ 1600) (b_m0_at : 0 ≤ m0_at.toInt ∧ m0_at.toInt ≤ 1600) (b_m0_token : 0 ≤ m0_token.toInt ∧ m0_token.toInt ≤ 4) (b_m0_value : 0 ≤ m0_value.toInt ∧ m0_value.toInt ≤ 1000009) (b_m0_bad : 0 ≤ m0_bad.toInt ∧ m0_bad.toInt ≤ 3) (b_m0_strays : 0 ≤ m0_strays.toInt ∧ m0_strays.toInt ≤ 5) (b_m0_hostCourt : 0 ≤ m0_hostCourt.toInt ∧ m0_hostCourt.toInt ≤ 9) (b_m0_dayCourt : 0 ≤ m0_dayCourt.toInt ∧ m0_dayCourt.toInt ≤ 9) (b_m0_dayHour : 0 ≤ m0_dayHour.toInt ∧ m0_dayHour.toInt ≤ 48) (b_f_m0_at0 : ∀ j : Nat, 0 ≤ (f_m0_at0 j).toInt ∧ (f_m0_at0 j).toInt ≤ 9) (b_f_m0_stray : ∀ j : Nat, 0 ≤ (f_m0_stray j).toInt ∧ (f_m0_stray j).toInt ≤ 99 ∧ (j % 2 = 1 → (f_m0_stray j).toInt ≤ 9)) (sz : Nat) : Met l yX10_placeOf (.code yX10_placeOf cX10_placeOf 4 (some .int) :: zT) ({ frames := 0, cells := 0, slots := 0, locals := 0 }) (va_Pc [.ref m0, .int p1, .int p2, .int p3] (zB sa dC dI (zV85 m0 m0_thrown m0_width m0_many m0_cells m0_moved m0_tape m0_taped m0_at m0_token m0_place m0_value m0_word m0_bad m0_badPlace m0_fault m0_faultPlace m0_lines m0_hours m0_courts m0_in m0_gates m0_gate m0_people m0_at0 m0_stray m0_set m0_once m0_truth m0_known m0_isKept m0_strays m0_hostPerson m0_hostCourt m0_outside m0_inside m0_can m0_fewest m0_waysTo m0_then m0_two m0_nextTwo m0_three m0_nextThree m0_shut m0_worth m0_digit m0_codes m0_most m0_bestTry m0_dayCourt m0_dayHour m0_dayNo m0_x m0_at0 cA_m0_at0 f_m0_at0 m0_stray cA_m0_stray f_m0_stray) [(cA_m0_at0, .int), (cA_m0_stray, .int)] sz)) (va_Qi (fun (r : Int32) (_ : Unit) => (0 ≤ r.toInt ∧ r.toInt ≤ 9)) (fun _ t => zW dC dI (zV85 m0 m0_thrown m0_width m0_many m0_cells m0_moved m0_tape m0_taped m0_at m0_token m0_place m0_value m0_word m0_bad m0_badPlace m0_fault m0_faultPlace m0_lines m0_hours m0_courts m0_in m0_gates m0_gate m0_people m0_at0 m0_stray m0_set m0_once m0_truth m0_known m0_isKept m0_strays m0_hostPerson m0_hostCourt m0_outside m0_inside m0_can m0_fewest m0_waysTo m0_then m0_two m0_nextTwo m0_three m0_nextThree m0_shut m0_worth m0_digit m0_codes m0_most m0_bestTry m0_dayCourt m0_dayHour m0_dayNo m0_x m0_at0 cA_m0_at0 f_m0_at0 m0_stray cA_m0_stray f_m0_stray) [] (va_A (zV85 m0 m0_thrown m0_width m0_many m0_cells m0_moved m0_tape m0_taped m0_at m0_token m0_place m0_value m0_word m0_bad m0_badPlace m0_fault m0_faultPlace m0_lines m0_hours m0_courts m0_in m0_gates m0_gate m0_people m0_at0 m0_stray m0_set m0_once m0_truth m0_known m0_isKept m0_strays m0_hostPerson m0_hostCourt m0_outside m0_inside m0_can m0_fewest m0_waysTo m0_then m0_two m0_nextTwo m0_three m0_nextThree m0_shut m0_worth m0_digit m0_codes m0_most m0_bestTry m0_dayCourt m0_dayHour m0_dayNo m0_x m0_at0 cA_m0_at0 f_m0_at0 m0_stray cA_m0_stray f_m0_stray) sz) t) (va_A (zV85 m0 m0_thrown m0_width m0_many m0_cells m0_moved m0_tape m0_taped m0_at m0_token m0_place m0_value m0_word m0_bad m0_badPlace m0_fault m0_faultPlace m0_lines m0_hours m0_courts m0_in m0_gates m0_gate m0_people m0_at0 m0_stray m0_set m0_once m0_truth m0_known m0_isKept m0_strays m0_hostPerson m0_hostCourt m0_outside m0_inside m0_can m0_fewest m0_waysTo m0_then m0_two m0_nextTwo m0_three m0_nextThree m0_shut m0_worth m0_digit m0_codes m0_most m0_bestTry m0_dayCourt m0_dayHour m0_dayNo m0_x m0_at0 cA_m0_at0 f_m0_at0 m0_stray cA_m0_stray f_m0_stray) sz)) 0 0 (va_A (zV85 m0 m0_thrown m0_width m0_many m0_cells m0_moved m0_tape m0_taped m0_at m0_token m0_place m0_value m0_word m0_bad m0_badPlace m0_fault m0_faultPlace m0_lines m0_hours m0_courts m0_in m0_gates m0_gate m0_people m0_at0 m0_stray m0_set m0_once m0_truth m0_known m0_isKept m0_strays m0_hostPerson m0_hostCourt m0_outside m0_inside m0_can m0_fewest m0_waysTo m0_then m0_two m0_nextTwo m0_three m0_nextThree m0_shut m0_worth m0_digit m0_codes m0_most m0_bestTry m0_dayCourt m0_dayHour m0_dayNo m0_x m0_at0 cA_m0_at0 f_m0_at0 m0_stray cA_m0_stray f_m0_stray) sz) := by
  refine z_enter (by decide) (by exact (Nat.le_of_ble_eq_true rfl)) ?_
  intro p e s m args below meth c ls A R Qc hargs hsz hQe hAe hRe hx hb hml hr hts hown hlocks hin hl hP hK hD hN hXs hA hS
  rw [hAe] at hQe
  have hown : s.vm.findClass RX10 = some m.cls := hown
  have hl : lv_has ls 4 [(0, .ref m0), (1, .int p1), (2, .int p2), (3, .int p3)] := hl
  refine lv_iload_n hx hb dX10_placeOf_0 rfl (lv_at hl 1 rfl) ?_
  refine lv_aload_n hx hb dX10_placeOf_1 rfl (lv_at hl 0 rfl) ?_
  refine va_get (D := (dC, dI)) (ci := 10) (v := .int m0_hostPerson) (C := RX10) (T := TX10) (N := 53) hx hb hts zl_X10 hown hK hP 0 rfl rfl 31 (by decide) (hts _ zw_t6_131) (fun _ h9 => h9) rfl dX10_placeOf_2 ?_
  have nb_m0_hostPerson := zi_nb m0_hostPerson
  refine lv_icmp_ne (tgt := 15) hx hb dX10_placeOf_5 (by decide) (fun c_1 => ?_) (fun c_1 => ?_)
  · have ic_1 := zz_ne rfl rfl c_1
    refine lv_iload_n hx hb dX10_placeOf_15 rfl (lv_at hl 2 rfl) ?_
    refine lv_if_eq (tgt := 32) hx hb dX10_placeOf_16 (by decide) (fun c_2 => ?_) (fun c_2 => ?_)
    · have ic_2 := zz_eq rfl (show Int32.toInt 0 = 0 from by decide) c_2
      refine lv_aload_n hx hb dX10_placeOf_32 rfl (lv_at hl 0 rfl) ?_
      refine va_get (D := (dC, dI)) (ci := 10) (v := .ref m0_at0) (C := RX10) (T := TX10) (N := 53) hx hb hts zl_X10 hown hK hP 0 rfl rfl 23 (by decide) (hts _ zw_t6_123) (fun _ h9 => h9) rfl dX10_placeOf_33 ?_
      refine lv_bipush (v := 48) hx hb dX10_placeOf_36 (by decide) ?_
      refine lv_iload_n hx hb dX10_placeOf_38 rfl (lv_at hl 1 rfl) ?_
      refine lv_imul hx hb dX10_placeOf_39 ?_
      refine lv_topi (fun x_3 ex_3 => ?_)
      have b_x_3 : x_3.toInt = 48 * p1.toInt := by rw [ex_3]; exact zi_mul (show Int32.toInt 48 = 48 from by decide) rfl (z_rmc b_p1 (by decide))
      refine lv_iload_n hx hb dX10_placeOf_40 rfl (lv_at hl 3 rfl) ?_
      refine lv_iadd hx hb dX10_placeOf_41 ?_
      refine lv_topi (fun x_4 ex_4 => ?_)
      have b_x_4 : x_4.toInt = x_3.toInt + p3.toInt := by rw [ex_4]; exact zi_add rfl rfl (z_raa (z_emc (c := 48) b_x_3 b_p1) b_p3 (by decide))
      refine va_iald hx hb hK hP 1 0 rfl rfl (zi_in rfl (by first | exact z_rin (z_ead b_x_4 (z_emc (c := 48) b_x_3 b_p1) b_p3) (by decide) | omega)) dX10_placeOf_42 ?_
      refine lv_topi (fun x_5 ex_5 => ?_)
      have b_x_5 : 0 ≤ x_5.toInt ∧ x_5.toInt ≤ 9 := by rw [ex_5]; exact b_f_m0_at0 _
      exact W.iret (v := x_5) hx hb hr (fun t ht hW => by rw [← hQe]; exact ⟨⟨x_5, (), rfl, (by first | with_reducible assumption | exact z_rle b_x_5 (by decide) | omega), z_ret hP hK hD ht hW [0, 1, 2] [] rfl (by decide) rfl⟩, hS.F ht⟩) hS.2.2 dX10_placeOf_43
    · have ic_2 := zz_neq rfl (show Int32.toInt 0 = 0 from by decide) c_2
      refine lv_aload_n hx hb dX10_placeOf_19 rfl (lv_at hl 0 rfl) ?_
      refine va_get (D := (dC, dI)) (ci := 10) (v := .ref m0_stray) (C := RX10) (T := TX10) (N := 53) hx hb hts zl_X10 hown hK hP 0 rfl rfl 24 (by decide) (hts _ zw_t6_124) (fun _ h9 => h9) rfl dX10_placeOf_20 ?_
      refine lv_iconst (v := 2) hx hb dX10_placeOf_23 (by decide) ?_
      refine lv_iload_n hx hb dX10_placeOf_24 rfl (lv_at hl 1 rfl) ?_
      refine lv_imul hx hb dX10_placeOf_25 ?_
      refine lv_topi (fun x_6 ex_6 => ?_)
      have b_x_6 : x_6.toInt = 2 * p1.toInt := by rw [ex_6]; exact zi_mul (show Int32.toInt 2 = 2 from by decide) rfl (z_rmc b_p1 (by decide))
      refine lv_iconst (v := 1) hx hb dX10_placeOf_26 (by decide) ?_
      refine lv_iadd hx hb dX10_placeOf_27 ?_
      refine lv_topi (fun x_7 ex_7 => ?_)
      have b_x_7 : x_7.toInt = x_6.toInt + 1 := by rw [ex_7]; exact zi_add rfl (show Int32.toInt 1 = 1 from by decide) (z_rac (z_emc (c := 2) b_x_6 b_p1) (by decide))
      refine va_iald hx hb hK hP 2 1 rfl rfl (zi_in rfl (by first | exact z_rin (z_eac b_x_7 (z_emc (c := 2) b_x_6 b_p1)) (by decide) | omega)) dX10_placeOf_28 ?_
      refine lv_topi (fun x_8 ex_8 => ?_)
      have b_x_8 := b_f_m0_stray (Int32.toNatClampNeg x_7)
      rw [← ex_8] at b_x_8
      have kx_x_8 := zi_clamp (x := x_7) rfl (z_r0 (z_eac b_x_7 (z_emc (c := 2) b_x_6 b_p1)) (by decide))
      refine lv_goto (tgt := 43) hx hb dX10_placeOf_29 (by decide) ?_
      exact W.iret (v := x_8) hx hb hr (fun t ht hW => by rw [← hQe]; exact ⟨⟨x_8, (), rfl, (by first | with_reducible assumption | omega), z_ret hP hK hD ht hW [0, 1, 2] [] rfl (by decide) rfl⟩, hS.F ht⟩) hS.2.2 dX10_placeOf_43
  · have ic_1 := zz_nne rfl rfl c_1
    refine lv_aload_n hx hb dX10_placeOf_8 rfl (lv_at hl 0 rfl) ?_
    refine va_get (D := (dC, dI)) (ci := 10) (v := .int m0_hostCourt) (C := RX10) (T := TX10) (N := 53) hx hb hts zl_X10 hown hK hP 0 rfl rfl 32 (by decide) (hts _ zw_t6_132) (fun _ h9 => h9) rfl dX10_placeOf_9 ?_
    refine lv_goto (tgt := 43) hx hb dX10_placeOf_12 (by decide) ?_
    exact W.iret (v := m0_hostCourt) hx hb hr (fun t ht hW => by rw [← hQe]; exact ⟨⟨m0_hostCourt, (), rfl, (by first | with_reducible assumption | exact z_rle b_m0_hostCourt (by decide) | omega), z_ret hP hK hD ht hW [0, 1, 2] [] rfl (by decide) rfl⟩, hS.F ht⟩) hS.2.2 dX10_placeOf_43
set_option maxHeartbeats 4000000 in
set_option maxRecDepth 100000 in
theorem k_X10_isIn (l : Launch) (sa : Nat → Nat) (dC : Nat → ClassId) (dI : Nat → Nat → Nat) (m0 : Nat) (p1 : Int32) (p2 : Int32) (m0_thrown : Int32) (m0_width : Nat) (m0_many : Nat) (m0_cells : Nat) (m0_moved : Nat) (m0_tape : Nat) (m0_taped : Int32) (m0_at : Int32) (m0_token : Int32) (m0_place : Int32) (m0_value : Int32) (m0_word : Int64) (m0_bad : Int32) (m0_badPlace : Int32) (m0_fault : Int32) (m0_faultPlace : Int32) (m0_lines : Nat) (m0_hours : Nat) (m0_courts : Nat) (m0_in : Nat) (m0_gates : Nat) (m0_gate : Nat) (m0_people : Nat) (m0_at0 : Nat) (m0_stray : Nat) (m0_set : Nat) (m0_once : Nat) (m0_truth : Nat) (m0_known : Nat) (m0_isKept : Nat) (m0_strays : Int32) (m0_hostPerson : Int32) (m0_hostCourt : Int32) (m0_outside : Int32) (m0_inside : Nat) (m0_can : Nat) (m0_fewest : Nat) (m0_waysTo : Nat) (m0_then : Nat) (m0_two : Nat) (m0_nextTwo : Nat) (m0_three : Nat) (m0_nextThree : Nat) (m0_shut : Int32) (m0_worth : Nat) (m0_digit : Nat) (m0_codes : Int32) (m0_most : Int64) (m0_bestTry : Int32) (m0_dayCourt : Int32) (m0_dayHour : Int32) (m0_dayNo : Int32) (m0_x : Int64) (cA_m0_in : ClassId) (f_m0_in : Nat → Int32) (b_p1 : 0 ≤ p1.toInt ∧ p1.toInt ≤ 9) (b_m0_taped : 0 ≤ m0_taped.toInt ∧ m0_taped.toInt ≤ 1600) (b_m0_at : 0 ≤ m0_at.toInt ∧ m0_at.toInt ≤ 1600) (b_m0_token : 0 ≤ m0_token.toInt ∧ m0_token.toInt ≤ 4) (b_m0_value : 0 ≤ m0_value.toInt ∧ m0_value.toInt ≤ 1000009) (b_m0_bad : 0 ≤ m0_bad.toInt ∧ m0_bad.toInt ≤ 3) (b_m0_strays : 0 ≤ m0_strays.toInt ∧ m0_strays.toInt ≤ 5) (b_m0_hostCourt : 0 ≤ m0_hostCourt.toInt ∧ m0_hostCourt.toInt ≤ 9) (b_m0_dayCourt : 0 ≤ m0_dayCourt.toInt ∧ m0_dayCourt.toInt ≤ 9) (b_m0_dayHour : 0 ≤ m0_dayHour.toInt ∧ m0_dayHour.toInt ≤ 48) (b_f_m0_in : ∀ j : Nat, j < 10 → (-1) ≤ (f_m0_in j).toInt ∧ (f_m0_in j).toInt < (j : Int)) (sz : Nat) : Met l yX10_isIn (.code yX10_isIn cX10_isIn 4 (some .boolean) :: zT) ({ frames := 0, cells := 0, slots := 0, locals := 0 }) (va_Pc [.ref m0, .int p1, .int p2] (zB sa dC dI (zV86 m0 m0_thrown m0_width m0_many m0_cells m0_moved m0_tape m0_taped m0_at m0_token m0_place m0_value m0_word m0_bad m0_badPlace m0_fault m0_faultPlace m0_lines m0_hours m0_courts m0_in m0_gates m0_gate m0_people m0_at0 m0_stray m0_set m0_once m0_truth m0_known m0_isKept m0_strays m0_hostPerson m0_hostCourt m0_outside m0_inside m0_can m0_fewest m0_waysTo m0_then m0_two m0_nextTwo m0_three m0_nextThree m0_shut m0_worth m0_digit m0_codes m0_most m0_bestTry m0_dayCourt m0_dayHour m0_dayNo m0_x m0_in cA_m0_in f_m0_in) [(cA_m0_in, .int)] sz)) (va_Qi (fun (r : Int32) (_ : Unit) => (0 ≤ r.toInt ∧ r.toInt ≤ 1)) (fun _ t => zW dC dI (zV86 m0 m0_thrown m0_width m0_many m0_cells m0_moved m0_tape m0_taped m0_at m0_token m0_place m0_value m0_word m0_bad m0_badPlace m0_fault m0_faultPlace m0_lines m0_hours m0_courts m0_in m0_gates m0_gate m0_people m0_at0 m0_stray m0_set m0_once m0_truth m0_known m0_isKept m0_strays m0_hostPerson m0_hostCourt m0_outside m0_inside m0_can m0_fewest m0_waysTo m0_then m0_two m0_nextTwo m0_three m0_nextThree m0_shut m0_worth m0_digit m0_codes m0_most m0_bestTry m0_dayCourt m0_dayHour m0_dayNo m0_x m0_in cA_m0_in f_m0_in) [] (va_A (zV86 m0 m0_thrown m0_width m0_many m0_cells m0_moved m0_tape m0_taped m0_at m0_token m0_place m0_value m0_word m0_bad m0_badPlace m0_fault m0_faultPlace m0_lines m0_hours m0_courts m0_in m0_gates m0_gate m0_people m0_at0 m0_stray m0_set m0_once m0_truth m0_known m0_isKept m0_strays m0_hostPerson m0_hostCourt m0_outside m0_inside m0_can m0_fewest m0_waysTo m0_then m0_two m0_nextTwo m0_three m0_nextThree m0_shut m0_worth m0_digit m0_codes m0_most m0_bestTry m0_dayCourt m0_dayHour m0_dayNo m0_x m0_in cA_m0_in f_m0_in) sz) t) (va_A (zV86 m0 m0_thrown m0_width m0_many m0_cells m0_moved m0_tape m0_taped m0_at m0_token m0_place m0_value m0_word m0_bad m0_badPlace m0_fault m0_faultPlace m0_lines m0_hours m0_courts m0_in m0_gates m0_gate m0_people m0_at0 m0_stray m0_set m0_once m0_truth m0_known m0_isKept m0_strays m0_hostPerson m0_hostCourt m0_outside m0_inside m0_can m0_fewest m0_waysTo m0_then m0_two m0_nextTwo m0_three m0_nextThree m0_shut m0_worth m0_digit m0_codes m0_most m0_bestTry m0_dayCourt m0_dayHour m0_dayNo m0_x m0_in cA_m0_in f_m0_in) sz)) 0 0 (va_A (zV86 m0 m0_thrown m0_width m0_many m0_cells m0_moved m0_tape m0_taped m0_at m0_token m0_place m0_value m0_word m0_bad m0_badPlace m0_fault m0_faultPlace m0_lines m0_hours m0_courts m0_in m0_gates m0_gate m0_people m0_at0 m0_stray m0_set m0_once m0_truth m0_known m0_isKept m0_strays m0_hostPerson m0_hostCourt m0_outside m0_inside m0_can m0_fewest m0_waysTo m0_then m0_two m0_nextTwo m0_three m0_nextThree m0_shut m0_worth m0_digit m0_codes m0_most m0_bestTry m0_dayCourt m0_dayHour m0_dayNo m0_x m0_in cA_m0_in f_m0_in) sz) := by
  refine z_enter (by decide) (by exact (Nat.le_of_ble_eq_true rfl)) ?_
  intro p e s m args below meth c ls A R Qc hargs hsz hQe hAe hRe hx hb hml hr hts hown hlocks hin hl hP hK hD hN hXs hA hS
  rw [hAe] at hQe
  have hown : s.vm.findClass RX10 = some m.cls := hown
  have hl : lv_has ls 4 [(0, .ref m0), (1, .int p1), (2, .int p2)] := hl
  refine lv_aload_n hx hb dX10_isIn_0 rfl (lv_at hl 0 rfl) ?_
  refine va_get (D := (dC, dI)) (ci := 10) (v := .ref m0_in) (C := RX10) (T := TX10) (N := 53) hx hb hts zl_X10 hown hK hP 0 rfl rfl 19 (by decide) (hts _ zw_t6_119) (fun _ h9 => h9) rfl dX10_isIn_1 ?_
  refine lv_iload_n hx hb dX10_isIn_4 rfl (lv_at hl 1 rfl) ?_
  refine va_iald hx hb hK hP 1 0 rfl rfl (zi_in rfl (by first | exact z_rin b_p1 (by decide) | omega)) dX10_isIn_5 ?_
  refine lv_topi (fun x_1 ex_1 => ?_)
  have kx_x_1 := zi_clamp (x := p1) rfl (z_r0 b_p1 (by decide))
  have b_x_1 := b_f_m0_in (Int32.toNatClampNeg p1) (by first | with_reducible assumption | omega)
  rw [← ex_1] at b_x_1
  refine lv_istore_n (lv' := [(3, .int x_1), (0, .ref m0), (1, .int p1), (2, .int p2)]) hx hb dX10_isIn_6 rfl hl (by decide) rfl (fun ls hl => ?_)
  have loop_1 : ∀ (t : Nat) (v3_2 : Int32) (b_v3_2 : (-1) ≤ v3_2.toInt ∧ v3_2.toInt ≤ 8) (H : Heap) (locs : List Loc) (ls : Array Slot), v3_2.toInt + 1 < (t : Int) → va_P (dC, dI) vwCl (zV86 m0 m0_thrown m0_width m0_many m0_cells m0_moved m0_tape m0_taped m0_at m0_token m0_place m0_value m0_word m0_bad m0_badPlace m0_fault m0_faultPlace m0_lines m0_hours m0_courts m0_in m0_gates m0_gate m0_people m0_at0 m0_stray m0_set m0_once m0_truth m0_known m0_isKept m0_strays m0_hostPerson m0_hostCourt m0_outside m0_inside m0_can m0_fewest m0_waysTo m0_then m0_two m0_nextTwo m0_three m0_nextThree m0_shut m0_worth m0_digit m0_codes m0_most m0_bestTry m0_dayCourt m0_dayHour m0_dayNo m0_x m0_in cA_m0_in f_m0_in) H → va_D A (zV86 m0 m0_thrown m0_width m0_many m0_cells m0_moved m0_tape m0_taped m0_at m0_token m0_place m0_value m0_word m0_bad m0_badPlace m0_fault m0_faultPlace m0_lines m0_hours m0_courts m0_in m0_gates m0_gate m0_people m0_at0 m0_stray m0_set m0_once m0_truth m0_known m0_isKept m0_strays m0_hostPerson m0_hostCourt m0_outside m0_inside m0_can m0_fewest m0_waysTo m0_then m0_two m0_nextTwo m0_three m0_nextThree m0_shut m0_worth m0_digit m0_codes m0_most m0_bestTry m0_dayCourt m0_dayHour m0_dayNo m0_x m0_in cA_m0_in f_m0_in) → va_S A s.heap H locs → lv_has ls 4 [(0, .ref m0), (1, .int p1), (2, .int p2), (3, .int v3_2)] → W p l e R s m args below meth c H locs 0 0 (MQ below Qc args s 0 0 A) (F0 m 7 ls []) := by
    intro t
    induction t with
    | zero => intro v3_2 b_v3_2 H locs ls hmu _ _ _ _; exact absurd hmu (by first | with_reducible assumption | omega)
    | succ t ih_1 =>
      intro v3_2 b_v3_2 H locs ls hmu hP hD hS hl
      refine lv_iload_n hx hb dX10_isIn_7 rfl (lv_at hl 3 rfl) ?_
      refine lv_iconst (v := (-1)) hx hb dX10_isIn_8 (by decide) ?_
      refine lv_icmp_eq (tgt := 27) hx hb dX10_isIn_9 (by decide) (fun c_3 => ?_) (fun c_3 => ?_)
      · have ic_3 := zz_eq rfl (show Int32.toInt (-1) = (-1) from by decide) c_3
        refine lv_iload_n hx hb dX10_isIn_27 rfl (lv_at hl 3 rfl) ?_
        refine lv_iload_n hx hb dX10_isIn_28 rfl (lv_at hl 2 rfl) ?_
        have nb_p2 := zi_nb p2
        refine lv_icmp_ne (tgt := 36) hx hb dX10_isIn_29 (by decide) (fun c_4 => ?_) (fun c_4 => ?_)
        · have ic_4 := zz_ne rfl rfl c_4
          refine lv_iconst (v := 0) hx hb dX10_isIn_36 (by decide) ?_
          exact W.zret (v := 0) hx hb hr (by decide) (fun t ht hW => by rw [← hQe]; exact ⟨⟨0, (), rfl, (by decide), z_ret hP hK hD ht hW [0, 1] [] rfl (by decide) rfl⟩, hS.F ht⟩) hS.2.2 dX10_isIn_37
        · have ic_4 := zz_nne rfl rfl c_4
          refine lv_iconst (v := 1) hx hb dX10_isIn_32 (by decide) ?_
          refine lv_goto (tgt := 37) hx hb dX10_isIn_33 (by decide) ?_
          exact W.zret (v := 1) hx hb hr (by decide) (fun t ht hW => by rw [← hQe]; exact ⟨⟨1, (), rfl, (by decide), z_ret hP hK hD ht hW [0, 1] [] rfl (by decide) rfl⟩, hS.F ht⟩) hS.2.2 dX10_isIn_37
      · have ic_3 := zz_neq rfl (show Int32.toInt (-1) = (-1) from by decide) c_3
        refine lv_iload_n hx hb dX10_isIn_12 rfl (lv_at hl 3 rfl) ?_
        refine lv_iload_n hx hb dX10_isIn_13 rfl (lv_at hl 2 rfl) ?_
        have nb_p2 := zi_nb p2
        refine lv_icmp_eq (tgt := 27) hx hb dX10_isIn_14 (by decide) (fun c_5 => ?_) (fun c_5 => ?_)
        · have ic_5 := zz_eq rfl rfl c_5
          refine lv_iload_n hx hb dX10_isIn_27 rfl (lv_at hl 3 rfl) ?_
          refine lv_iload_n hx hb dX10_isIn_28 rfl (lv_at hl 2 rfl) ?_
          refine lv_icmp_ne (tgt := 36) hx hb dX10_isIn_29 (by decide) (fun c_6 => ?_) (fun c_6 => ?_)
          · have ic_6 := zz_ne rfl rfl c_6
            refine lv_iconst (v := 0) hx hb dX10_isIn_36 (by decide) ?_
            exact W.zret (v := 0) hx hb hr (by decide) (fun t ht hW => by rw [← hQe]; exact ⟨⟨0, (), rfl, (by decide), z_ret hP hK hD ht hW [0, 1] [] rfl (by decide) rfl⟩, hS.F ht⟩) hS.2.2 dX10_isIn_37
          · have ic_6 := zz_nne rfl rfl c_6
            refine lv_iconst (v := 1) hx hb dX10_isIn_32 (by decide) ?_
            refine lv_goto (tgt := 37) hx hb dX10_isIn_33 (by decide) ?_
            exact W.zret (v := 1) hx hb hr (by decide) (fun t ht hW => by rw [← hQe]; exact ⟨⟨1, (), rfl, (by decide), z_ret hP hK hD ht hW [0, 1] [] rfl (by decide) rfl⟩, hS.F ht⟩) hS.2.2 dX10_isIn_37
        · have ic_5 := zz_neq rfl rfl c_5
          refine lv_aload_n hx hb dX10_isIn_17 rfl (lv_at hl 0 rfl) ?_
          refine va_get (D := (dC, dI)) (ci := 10) (v := .ref m0_in) (C := RX10) (T := TX10) (N := 53) hx hb hts zl_X10 hown hK hP 0 rfl rfl 19 (by decide) (hts _ zw_t6_119) (fun _ h9 => h9) rfl dX10_isIn_18 ?_
          refine lv_iload_n hx hb dX10_isIn_21 rfl (lv_at hl 3 rfl) ?_
          refine va_iald hx hb hK hP 1 0 rfl rfl (zi_in rfl (by first | with_reducible assumption | omega)) dX10_isIn_22 ?_
          refine lv_topi (fun x_7 ex_7 => ?_)
          have kx_x_7 := zi_clamp (x := v3_2) rfl (by first | with_reducible assumption | omega)
          have b_x_7 := b_f_m0_in (Int32.toNatClampNeg v3_2) (by first | with_reducible assumption | omega)
          rw [← ex_7] at b_x_7
          refine lv_istore_n (lv' := [(3, .int x_7), (0, .ref m0), (1, .int p1), (2, .int p2)]) hx hb dX10_isIn_23 rfl hl (by decide) rfl (fun ls hl => ?_)
          refine lv_goto (tgt := 7) hx hb dX10_isIn_24 (by decide) ?_
          exact ih_1 x_7 (by first | with_reducible assumption | omega) _ _ _ (by first | with_reducible assumption | omega) (hP.sub (ws' := (zV86 m0 m0_thrown m0_width m0_many m0_cells m0_moved m0_tape m0_taped m0_at m0_token m0_place m0_value m0_word m0_bad m0_badPlace m0_fault m0_faultPlace m0_lines m0_hours m0_courts m0_in m0_gates m0_gate m0_people m0_at0 m0_stray m0_set m0_once m0_truth m0_known m0_isKept m0_strays m0_hostPerson m0_hostCourt m0_outside m0_inside m0_can m0_fewest m0_waysTo m0_then m0_two m0_nextTwo m0_three m0_nextThree m0_shut m0_worth m0_digit m0_codes m0_most m0_bestTry m0_dayCourt m0_dayHour m0_dayNo m0_x m0_in cA_m0_in f_m0_in)) [0, 1] rfl) (hD.sub (ws' := (zV86 m0 m0_thrown m0_width m0_many m0_cells m0_moved m0_tape m0_taped m0_at m0_token m0_place m0_value m0_word m0_bad m0_badPlace m0_fault m0_faultPlace m0_lines m0_hours m0_courts m0_in m0_gates m0_gate m0_people m0_at0 m0_stray m0_set m0_once m0_truth m0_known m0_isKept m0_strays m0_hostPerson m0_hostCourt m0_outside m0_inside m0_can m0_fewest m0_waysTo m0_then m0_two m0_nextTwo m0_three m0_nextThree m0_shut m0_worth m0_digit m0_codes m0_most m0_bestTry m0_dayCourt m0_dayHour m0_dayNo m0_x m0_in cA_m0_in f_m0_in)) [0, 1] (by decide) rfl) hS (lv_sub hl [1, 2, 3, 0] rfl)
  exact loop_1 12 x_1 (by first | with_reducible assumption | omega) _ _ _ (by first | with_reducible assumption | omega) hP hD hS (lv_sub hl [1, 2, 3, 0] rfl)
set_option maxHeartbeats 4000000 in
set_option maxRecDepth 100000 in
theorem k_X10_counts (l : Launch) (sa : Nat → Nat) (dC : Nat → ClassId) (dI : Nat → Nat → Nat) (m0 : Nat) (p1 : Int32) (p2 : Int32) (m0_thrown : Int32) (m0_width : Nat) (m0_many : Nat) (m0_cells : Nat) (m0_moved : Nat) (m0_tape : Nat) (m0_taped : Int32) (m0_at : Int32) (m0_token : Int32) (m0_place : Int32) (m0_value : Int32) (m0_word : Int64) (m0_bad : Int32) (m0_badPlace : Int32) (m0_fault : Int32) (m0_faultPlace : Int32) (m0_lines : Nat) (m0_hours : Nat) (m0_courts : Nat) (m0_in : Nat) (m0_gates : Nat) (m0_gate : Nat) (m0_people : Nat) (m0_at0 : Nat) (m0_stray : Nat) (m0_set : Nat) (m0_once : Nat) (m0_truth : Nat) (m0_known : Nat) (m0_isKept : Nat) (m0_strays : Int32) (m0_hostPerson : Int32) (m0_hostCourt : Int32) (m0_outside : Int32) (m0_inside : Nat) (m0_can : Nat) (m0_fewest : Nat) (m0_waysTo : Nat) (m0_then : Nat) (m0_two : Nat) (m0_nextTwo : Nat) (m0_three : Nat) (m0_nextThree : Nat) (m0_shut : Int32) (m0_worth : Nat) (m0_digit : Nat) (m0_codes : Int32) (m0_most : Int64) (m0_bestTry : Int32) (m0_dayCourt : Int32) (m0_dayHour : Int32) (m0_dayNo : Int32) (m0_x : Int64) (cA_m0_in : ClassId) (f_m0_in : Nat → Int32) (cA_m0_set : ClassId) (f_m0_set : Nat → Int32) (b_p1 : 0 ≤ p1.toInt ∧ p1.toInt ≤ 9) (b_m0_taped : 0 ≤ m0_taped.toInt ∧ m0_taped.toInt ≤ 1600) (b_m0_at : 0 ≤ m0_at.toInt ∧ m0_at.toInt ≤ 1600) (b_m0_token : 0 ≤ m0_token.toInt ∧ m0_token.toInt ≤ 4) (b_m0_value : 0 ≤ m0_value.toInt ∧ m0_value.toInt ≤ 1000009) (b_m0_bad : 0 ≤ m0_bad.toInt ∧ m0_bad.toInt ≤ 3) (b_m0_strays : 0 ≤ m0_strays.toInt ∧ m0_strays.toInt ≤ 5) (b_m0_hostCourt : 0 ≤ m0_hostCourt.toInt ∧ m0_hostCourt.toInt ≤ 9) (b_m0_dayCourt : 0 ≤ m0_dayCourt.toInt ∧ m0_dayCourt.toInt ≤ 9) (b_m0_dayHour : 0 ≤ m0_dayHour.toInt ∧ m0_dayHour.toInt ≤ 48) (b_f_m0_in : ∀ j : Nat, j < 10 → (-1) ≤ (f_m0_in j).toInt ∧ (f_m0_in j).toInt < (j : Int)) (b_f_m0_set : ∀ j : Nat, 0 ≤ (f_m0_set j).toInt ∧ (f_m0_set j).toInt ≤ 9) (sz : Nat) : Met l yX10_counts (.code yX10_counts cX10_counts 3 (some .boolean) :: zT) ({ frames := 1, cells := 0, slots := 0, locals := 23 }) (va_Pc [.ref m0, .int p1, .int p2] (zB sa dC dI (zV87 m0 m0_thrown m0_width m0_many m0_cells m0_moved m0_tape m0_taped m0_at m0_token m0_place m0_value m0_word m0_bad m0_badPlace m0_fault m0_faultPlace m0_lines m0_hours m0_courts m0_in m0_gates m0_gate m0_people m0_at0 m0_stray m0_set m0_once m0_truth m0_known m0_isKept m0_strays m0_hostPerson m0_hostCourt m0_outside m0_inside m0_can m0_fewest m0_waysTo m0_then m0_two m0_nextTwo m0_three m0_nextThree m0_shut m0_worth m0_digit m0_codes m0_most m0_bestTry m0_dayCourt m0_dayHour m0_dayNo m0_x m0_in cA_m0_in f_m0_in m0_set cA_m0_set f_m0_set) [(cA_m0_in, .int), (cA_m0_set, .int)] sz)) (va_Qi (fun (r : Int32) (_ : Unit) => (0 ≤ r.toInt ∧ r.toInt ≤ 1)) (fun _ t => zW dC dI (zV87 m0 m0_thrown m0_width m0_many m0_cells m0_moved m0_tape m0_taped m0_at m0_token m0_place m0_value m0_word m0_bad m0_badPlace m0_fault m0_faultPlace m0_lines m0_hours m0_courts m0_in m0_gates m0_gate m0_people m0_at0 m0_stray m0_set m0_once m0_truth m0_known m0_isKept m0_strays m0_hostPerson m0_hostCourt m0_outside m0_inside m0_can m0_fewest m0_waysTo m0_then m0_two m0_nextTwo m0_three m0_nextThree m0_shut m0_worth m0_digit m0_codes m0_most m0_bestTry m0_dayCourt m0_dayHour m0_dayNo m0_x m0_in cA_m0_in f_m0_in m0_set cA_m0_set f_m0_set) [] (va_A (zV87 m0 m0_thrown m0_width m0_many m0_cells m0_moved m0_tape m0_taped m0_at m0_token m0_place m0_value m0_word m0_bad m0_badPlace m0_fault m0_faultPlace m0_lines m0_hours m0_courts m0_in m0_gates m0_gate m0_people m0_at0 m0_stray m0_set m0_once m0_truth m0_known m0_isKept m0_strays m0_hostPerson m0_hostCourt m0_outside m0_inside m0_can m0_fewest m0_waysTo m0_then m0_two m0_nextTwo m0_three m0_nextThree m0_shut m0_worth m0_digit m0_codes m0_most m0_bestTry m0_dayCourt m0_dayHour m0_dayNo m0_x m0_in cA_m0_in f_m0_in m0_set cA_m0_set f_m0_set) sz) t) (va_A (zV87 m0 m0_thrown m0_width m0_many m0_cells m0_moved m0_tape m0_taped m0_at m0_token m0_place m0_value m0_word m0_bad m0_badPlace m0_fault m0_faultPlace m0_lines m0_hours m0_courts m0_in m0_gates m0_gate m0_people m0_at0 m0_stray m0_set m0_once m0_truth m0_known m0_isKept m0_strays m0_hostPerson m0_hostCourt m0_outside m0_inside m0_can m0_fewest m0_waysTo m0_then m0_two m0_nextTwo m0_three m0_nextThree m0_shut m0_worth m0_digit m0_codes m0_most m0_bestTry m0_dayCourt m0_dayHour m0_dayNo m0_x m0_in cA_m0_in f_m0_in m0_set cA_m0_set f_m0_set) sz)) 0 0 (va_A (zV87 m0 m0_thrown m0_width m0_many m0_cells m0_moved m0_tape m0_taped m0_at m0_token m0_place m0_value m0_word m0_bad m0_badPlace m0_fault m0_faultPlace m0_lines m0_hours m0_courts m0_in m0_gates m0_gate m0_people m0_at0 m0_stray m0_set m0_once m0_truth m0_known m0_isKept m0_strays m0_hostPerson m0_hostCourt m0_outside m0_inside m0_can m0_fewest m0_waysTo m0_then m0_two m0_nextTwo m0_three m0_nextThree m0_shut m0_worth m0_digit m0_codes m0_most m0_bestTry m0_dayCourt m0_dayHour m0_dayNo m0_x m0_in cA_m0_in f_m0_in m0_set cA_m0_set f_m0_set) sz) := by
  refine z_enter (by decide) (by exact (Nat.le_of_ble_eq_true rfl)) ?_
  intro p e s m args below meth c ls A R Qc hargs hsz hQe hAe hRe hx hb hml hr hts hown hlocks hin hl hP hK hD hN hXs hA hS
  rw [hAe] at hQe
  have hown : s.vm.findClass RX10 = some m.cls := hown
  have hl : lv_has ls 3 [(0, .ref m0), (1, .int p1), (2, .int p2)] := hl
  refine lv_iload_n hx hb dX10_counts_0 rfl (lv_at hl 1 rfl) ?_
  refine lv_iload_n hx hb dX10_counts_1 rfl (lv_at hl 2 rfl) ?_
  have nb_p2 := zi_nb p2
  refine lv_icmp_eq (tgt := 24) hx hb dX10_counts_2 (by decide) (fun c_1 => ?_) (fun c_1 => ?_)
  · have ic_1 := zz_eq rfl rfl c_1
    refine lv_iconst (v := 1) hx hb dX10_counts_24 (by decide) ?_
    refine lv_goto (tgt := 29) hx hb dX10_counts_25 (by decide) ?_
    exact W.zret (v := 1) hx hb hr (by decide) (fun t ht hW => by rw [← hQe]; exact ⟨⟨1, (), rfl, (by decide), z_ret hP hK hD ht hW [0, 1, 2] [] rfl (by decide) rfl⟩, hS.F ht⟩) hS.2.2 dX10_counts_29
  · have ic_1 := zz_neq rfl rfl c_1
    refine lv_aload_n hx hb dX10_counts_5 rfl (lv_at hl 0 rfl) ?_
    refine va_get (D := (dC, dI)) (ci := 10) (v := .ref m0_set) (C := RX10) (T := TX10) (N := 53) hx hb hts zl_X10 hown hK hP 0 rfl rfl 25 (by decide) (hts _ zw_t6_125) (fun _ h9 => h9) rfl dX10_counts_6 ?_
    refine lv_iconst (v := 0) hx hb dX10_counts_9 (by decide) ?_
    refine va_iald hx hb hK hP 2 1 rfl rfl (zi_in (show Int32.toInt 0 = 0 from by decide) (by decide)) dX10_counts_10 ?_
    refine lv_topi (fun x_2 ex_2 => ?_)
    have b_x_2 : 0 ≤ x_2.toInt ∧ x_2.toInt ≤ 9 := by rw [ex_2]; exact b_f_m0_set _
    refine lv_iconst (v := 1) hx hb dX10_counts_11 (by decide) ?_
    refine lv_icmp_ne (tgt := 28) hx hb dX10_counts_12 (by decide) (fun c_3 => ?_) (fun c_3 => ?_)
    · have ic_3 := zz_ne rfl (show Int32.toInt 1 = 1 from by decide) c_3
      refine lv_iconst (v := 0) hx hb dX10_counts_28 (by decide) ?_
      exact W.zret (v := 0) hx hb hr (by decide) (fun t ht hW => by rw [← hQe]; exact ⟨⟨0, (), rfl, (by decide), z_ret hP hK hD ht hW [0, 1, 2] [] rfl (by decide) rfl⟩, hS.F ht⟩) hS.2.2 dX10_counts_29
    · have ic_3 := zz_nne rfl (show Int32.toInt 1 = 1 from by decide) c_3
      refine lv_aload_n hx hb dX10_counts_15 rfl (lv_at hl 0 rfl) ?_
      refine lv_iload_n hx hb dX10_counts_16 rfl (lv_at hl 1 rfl) ?_
      refine lv_iload_n hx hb dX10_counts_17 rfl (lv_at hl 2 rfl) ?_
      obtain ⟨hPc, hDc, hFc⟩ := z_cut (wc := (zV86 m0 m0_thrown m0_width m0_many m0_cells m0_moved m0_tape m0_taped m0_at m0_token m0_place m0_value m0_word m0_bad m0_badPlace m0_fault m0_faultPlace m0_lines m0_hours m0_courts m0_in m0_gates m0_gate m0_people m0_at0 m0_stray m0_set m0_once m0_truth m0_known m0_isKept m0_strays m0_hostPerson m0_hostCourt m0_outside m0_inside m0_can m0_fewest m0_waysTo m0_then m0_two m0_nextTwo m0_three m0_nextThree m0_shut m0_worth m0_digit m0_codes m0_most m0_bestTry m0_dayCourt m0_dayHour m0_dayNo m0_x m0_in cA_m0_in f_m0_in)) hP hD hS hA [0, 1] rfl (by decide +kernel)
      have hKc := hK.sub (tys' := [(cA_m0_in, .int)]) [0] rfl
      refine va_calli (va_runV (As := [.int p1, .int p2]) (rest := []) ⟨hx, hb, hml, hown, hts⟩ (k_X10_isIn l sa dC dI m0 p1 p2 m0_thrown m0_width m0_many m0_cells m0_moved m0_tape m0_taped m0_at m0_token m0_place m0_value m0_word m0_bad m0_badPlace m0_fault m0_faultPlace m0_lines m0_hours m0_courts m0_in m0_gates m0_gate m0_people m0_at0 m0_stray m0_set m0_once m0_truth m0_known m0_isKept m0_strays m0_hostPerson m0_hostCourt m0_outside m0_inside m0_can m0_fewest m0_waysTo m0_then m0_two m0_nextTwo m0_three m0_nextThree m0_shut m0_worth m0_digit m0_codes m0_most m0_bestTry m0_dayCourt m0_dayHour m0_dayNo m0_x cA_m0_in f_m0_in b_p1 b_m0_taped b_m0_at b_m0_token b_m0_value b_m0_bad b_m0_strays b_m0_hostCourt b_m0_dayCourt b_m0_dayHour b_f_m0_in s.heap.size) (cwV 2 hts (z_gV zw_t7_209 zw_t7_211 zw_s6_2 zw_t1_11 zw_t7_212) rfl rfl rfl (by decide +kernel) (by rw [← hRe]; exact ⟨(Nat.le_of_ble_eq_true rfl), (Nat.le_of_ble_eq_true rfl)⟩)) (z_preV hPc hKc hDc hN hXs hS hFc (q := (RX10, TX10, 53)) (ci := 10) (q0 := 0) rfl rfl) rfl rfl hl.1 rfl (lv_room (Nat.le_of_ble_eq_true rfl)) dX10_counts_18 (by rw [← hRe]; exact ⟨(Nat.le_of_ble_eq_true rfl), (Nat.le_of_ble_eq_true rfl)⟩)) hS (fun q _ h => hFc q h) hFc (fun r_4 u t H1 locs ht hvm hw hB hz1 hk1 hS => ?_)
      obtain ⟨hP, hD, hK⟩ := z_after3 (wn := [(m0_set, .inl (cA_m0_set, 10, .inl f_m0_set)), (m0, .inr (10, [.int m0_thrown, .ref m0_width, .ref m0_many, .ref m0_cells, .ref m0_moved, .ref m0_tape, .int m0_taped, .int m0_at, .int m0_token, .int m0_place, .int m0_value, .long m0_word, .int m0_bad, .int m0_badPlace, .int m0_fault, .int m0_faultPlace, .ref m0_lines, .ref m0_hours, .ref m0_courts, .ref m0_in, .ref m0_gates, .ref m0_gate, .ref m0_people, .ref m0_at0, .ref m0_stray, .ref m0_set, .ref m0_once, .ref m0_truth, .ref m0_known, .ref m0_isKept, .int m0_strays, .int m0_hostPerson, .int m0_hostCourt, .int m0_outside, .ref m0_inside, .ref m0_can, .ref m0_fewest, .ref m0_waysTo, .ref m0_then, .ref m0_two, .ref m0_nextTwo, .ref m0_three, .ref m0_nextThree, .int m0_shut, .ref m0_worth, .ref m0_digit, .int m0_codes, .long m0_most, .int m0_bestTry, .int m0_dayCourt, .int m0_dayHour, .int m0_dayNo, .long m0_x])), (m0_in, .inl (cA_m0_in, 50, .inl f_m0_in))]) hB ht hvm hP hD hK [0, 1] [2] rfl 3 rfl (by decide +kernel) rfl (by decide +kernel) hk1 hFc
      generalize H1 = H at hP hS ⊢
      have hK : va_K (dC, dI) vwCl [(cA_m0_in, .int), (cA_m0_set, .int)] s := hK
      have b_r_4 : 0 ≤ r_4.toInt ∧ r_4.toInt ≤ 1 := hw
      refine lv_if_eq (tgt := 28) hx hb dX10_counts_21 (by decide) (fun c_5 => ?_) (fun c_5 => ?_)
      · have ic_5 := zz_eq rfl (show Int32.toInt 0 = 0 from by decide) c_5
        refine lv_iconst (v := 0) hx hb dX10_counts_28 (by decide) ?_
        exact W.zret (v := 0) hx hb hr (by decide) (fun t ht hW => by rw [← hQe]; exact ⟨⟨0, (), rfl, (by decide), z_ret hP hK hD ht hW [1, 2, 0] [] rfl (by decide) rfl⟩, hS.F ht⟩) hS.2.2 dX10_counts_29
      · have ic_5 := zz_neq rfl (show Int32.toInt 0 = 0 from by decide) c_5
        refine lv_iconst (v := 1) hx hb dX10_counts_24 (by decide) ?_
        refine lv_goto (tgt := 29) hx hb dX10_counts_25 (by decide) ?_
        exact W.zret (v := 1) hx hb hr (by decide) (fun t ht hW => by rw [← hQe]; exact ⟨⟨1, (), rfl, (by decide), z_ret hP hK hD ht hW [1, 2, 0] [] rfl (by decide) rfl⟩, hS.F ht⟩) hS.2.2 dX10_counts_29
set_option maxHeartbeats 4000000 in
set_option maxRecDepth 100000 in
theorem k_X10_isWithin (l : Launch) (sa : Nat → Nat) (dC : Nat → ClassId) (dI : Nat → Nat → Nat) (m0 : Nat) (p1 : Int32) (p2 : Int32) (p3 : Int32) (p4 : Int32) (m0_thrown : Int32) (m0_width : Nat) (m0_many : Nat) (m0_cells : Nat) (m0_moved : Nat) (m0_tape : Nat) (m0_taped : Int32) (m0_at : Int32) (m0_token : Int32) (m0_place : Int32) (m0_value : Int32) (m0_word : Int64) (m0_bad : Int32) (m0_badPlace : Int32) (m0_fault : Int32) (m0_faultPlace : Int32) (m0_lines : Nat) (m0_hours : Nat) (m0_courts : Nat) (m0_in : Nat) (m0_gates : Nat) (m0_gate : Nat) (m0_people : Nat) (m0_at0 : Nat) (m0_stray : Nat) (m0_set : Nat) (m0_once : Nat) (m0_truth : Nat) (m0_known : Nat) (m0_isKept : Nat) (m0_strays : Int32) (m0_hostPerson : Int32) (m0_hostCourt : Int32) (m0_outside : Int32) (m0_inside : Nat) (m0_can : Nat) (m0_fewest : Nat) (m0_waysTo : Nat) (m0_then : Nat) (m0_two : Nat) (m0_nextTwo : Nat) (m0_three : Nat) (m0_nextThree : Nat) (m0_shut : Int32) (m0_worth : Nat) (m0_digit : Nat) (m0_codes : Int32) (m0_most : Int64) (m0_bestTry : Int32) (m0_dayCourt : Int32) (m0_dayHour : Int32) (m0_dayNo : Int32) (m0_x : Int64) (cA_m0_in : ClassId) (f_m0_in : Nat → Int32) (cA_m0_at0 : ClassId) (f_m0_at0 : Nat → Int32) (cA_m0_stray : ClassId) (f_m0_stray : Nat → Int32) (cA_m0_set : ClassId) (f_m0_set : Nat → Int32) (b_p1 : 0 ≤ p1.toInt ∧ p1.toInt ≤ 9) (b_p2 : 0 ≤ p2.toInt ∧ p2.toInt ≤ 1) (b_p4 : 0 ≤ p4.toInt ∧ p4.toInt ≤ 47) (b_m0_taped : 0 ≤ m0_taped.toInt ∧ m0_taped.toInt ≤ 1600) (b_m0_at : 0 ≤ m0_at.toInt ∧ m0_at.toInt ≤ 1600) (b_m0_token : 0 ≤ m0_token.toInt ∧ m0_token.toInt ≤ 4) (b_m0_value : 0 ≤ m0_value.toInt ∧ m0_value.toInt ≤ 1000009) (b_m0_bad : 0 ≤ m0_bad.toInt ∧ m0_bad.toInt ≤ 3) (b_m0_strays : 0 ≤ m0_strays.toInt ∧ m0_strays.toInt ≤ 5) (b_m0_hostCourt : 0 ≤ m0_hostCourt.toInt ∧ m0_hostCourt.toInt ≤ 9) (b_m0_dayCourt : 0 ≤ m0_dayCourt.toInt ∧ m0_dayCourt.toInt ≤ 9) (b_m0_dayHour : 0 ≤ m0_dayHour.toInt ∧ m0_dayHour.toInt ≤ 48) (b_f_m0_in : ∀ j : Nat, j < 10 → (-1) ≤ (f_m0_in j).toInt ∧ (f_m0_in j).toInt < (j : Int)) (b_f_m0_at0 : ∀ j : Nat, 0 ≤ (f_m0_at0 j).toInt ∧ (f_m0_at0 j).toInt ≤ 9) (b_f_m0_stray : ∀ j : Nat, 0 ≤ (f_m0_stray j).toInt ∧ (f_m0_stray j).toInt ≤ 99 ∧ (j % 2 = 1 → (f_m0_stray j).toInt ≤ 9)) (b_f_m0_set : ∀ j : Nat, 0 ≤ (f_m0_set j).toInt ∧ (f_m0_set j).toInt ≤ 9) (sz : Nat) : Met l yX10_isWithin (.code yX10_isWithin cX10_isWithin 5 (some .boolean) :: zT) ({ frames := 2, cells := 0, slots := 0, locals := 45 }) (va_Pc [.ref m0, .int p1, .int p2, .int p3, .int p4] (zB sa dC dI (zV88 m0 m0_thrown m0_width m0_many m0_cells m0_moved m0_tape m0_taped m0_at m0_token m0_place m0_value m0_word m0_bad m0_badPlace m0_fault m0_faultPlace m0_lines m0_hours m0_courts m0_in m0_gates m0_gate m0_people m0_at0 m0_stray m0_set m0_once m0_truth m0_known m0_isKept m0_strays m0_hostPerson m0_hostCourt m0_outside m0_inside m0_can m0_fewest m0_waysTo m0_then m0_two m0_nextTwo m0_three m0_nextThree m0_shut m0_worth m0_digit m0_codes m0_most m0_bestTry m0_dayCourt m0_dayHour m0_dayNo m0_x m0_in cA_m0_in f_m0_in m0_at0 cA_m0_at0 f_m0_at0 m0_stray cA_m0_stray f_m0_stray m0_set cA_m0_set f_m0_set) [(cA_m0_in, .int), (cA_m0_at0, .int), (cA_m0_stray, .int), (cA_m0_set, .int)] sz)) (va_Qi (fun (r : Int32) (_ : Unit) => (0 ≤ r.toInt ∧ r.toInt ≤ 1)) (fun _ t => zW dC dI (zV88 m0 m0_thrown m0_width m0_many m0_cells m0_moved m0_tape m0_taped m0_at m0_token m0_place m0_value m0_word m0_bad m0_badPlace m0_fault m0_faultPlace m0_lines m0_hours m0_courts m0_in m0_gates m0_gate m0_people m0_at0 m0_stray m0_set m0_once m0_truth m0_known m0_isKept m0_strays m0_hostPerson m0_hostCourt m0_outside m0_inside m0_can m0_fewest m0_waysTo m0_then m0_two m0_nextTwo m0_three m0_nextThree m0_shut m0_worth m0_digit m0_codes m0_most m0_bestTry m0_dayCourt m0_dayHour m0_dayNo m0_x m0_in cA_m0_in f_m0_in m0_at0 cA_m0_at0 f_m0_at0 m0_stray cA_m0_stray f_m0_stray m0_set cA_m0_set f_m0_set) [] (va_A (zV88 m0 m0_thrown m0_width m0_many m0_cells m0_moved m0_tape m0_taped m0_at m0_token m0_place m0_value m0_word m0_bad m0_badPlace m0_fault m0_faultPlace m0_lines m0_hours m0_courts m0_in m0_gates m0_gate m0_people m0_at0 m0_stray m0_set m0_once m0_truth m0_known m0_isKept m0_strays m0_hostPerson m0_hostCourt m0_outside m0_inside m0_can m0_fewest m0_waysTo m0_then m0_two m0_nextTwo m0_three m0_nextThree m0_shut m0_worth m0_digit m0_codes m0_most m0_bestTry m0_dayCourt m0_dayHour m0_dayNo m0_x m0_in cA_m0_in f_m0_in m0_at0 cA_m0_at0 f_m0_at0 m0_stray cA_m0_stray f_m0_stray m0_set cA_m0_set f_m0_set) sz) t) (va_A (zV88 m0 m0_thrown m0_width m0_many m0_cells m0_moved m0_tape m0_taped m0_at m0_token m0_place m0_value m0_word m0_bad m0_badPlace m0_fault m0_faultPlace m0_lines m0_hours m0_courts m0_in m0_gates m0_gate m0_people m0_at0 m0_stray m0_set m0_once m0_truth m0_known m0_isKept m0_strays m0_hostPerson m0_hostCourt m0_outside m0_inside m0_can m0_fewest m0_waysTo m0_then m0_two m0_nextTwo m0_three m0_nextThree m0_shut m0_worth m0_digit m0_codes m0_most m0_bestTry m0_dayCourt m0_dayHour m0_dayNo m0_x m0_in cA_m0_in f_m0_in m0_at0 cA_m0_at0 f_m0_at0 m0_stray cA_m0_stray f_m0_stray m0_set cA_m0_set f_m0_set) sz)) 0 0 (va_A (zV88 m0 m0_thrown m0_width m0_many m0_cells m0_moved m0_tape m0_taped m0_at m0_token m0_place m0_value m0_word m0_bad m0_badPlace m0_fault m0_faultPlace m0_lines m0_hours m0_courts m0_in m0_gates m0_gate m0_people m0_at0 m0_stray m0_set m0_once m0_truth m0_known m0_isKept m0_strays m0_hostPerson m0_hostCourt m0_outside m0_inside m0_can m0_fewest m0_waysTo m0_then m0_two m0_nextTwo m0_three m0_nextThree m0_shut m0_worth m0_digit m0_codes m0_most m0_bestTry m0_dayCourt m0_dayHour m0_dayNo m0_x m0_in cA_m0_in f_m0_in m0_at0 cA_m0_at0 f_m0_at0 m0_stray cA_m0_stray f_m0_stray m0_set cA_m0_set f_m0_set) sz) := by
  refine z_enter (by decide) (by exact (Nat.le_of_ble_eq_true rfl)) ?_
  intro p e s m args below meth c ls A R Qc hargs hsz hQe hAe hRe hx hb hml hr hts hown hlocks hin hl hP hK hD hN hXs hA hS
  rw [hAe] at hQe
  have hown : s.vm.findClass RX10 = some m.cls := hown
  have hl : lv_has ls 5 [(0, .ref m0), (1, .int p1), (2, .int p2), (3, .int p3), (4, .int p4)] := hl
  refine lv_aload_n hx hb dX10_isWithin_0 rfl (lv_at hl 0 rfl) ?_
  refine lv_aload_n hx hb dX10_isWithin_1 rfl (lv_at hl 0 rfl) ?_
  refine lv_iload_n hx hb dX10_isWithin_2 rfl (lv_at hl 1 rfl) ?_
  refine lv_iload_n hx hb dX10_isWithin_3 rfl (lv_at hl 2 rfl) ?_
  refine lv_iload hx hb dX10_isWithin_4 (lv_at hl 4 rfl) ?_
  obtain ⟨hPc, hDc, hFc⟩ := z_cut (wc := (zV85 m0 m0_thrown m0_width m0_many m0_cells m0_moved m0_tape m0_taped m0_at m0_token m0_place m0_value m0_word m0_bad m0_badPlace m0_fault m0_faultPlace m0_lines m0_hours m0_courts m0_in m0_gates m0_gate m0_people m0_at0 m0_stray m0_set m0_once m0_truth m0_known m0_isKept m0_strays m0_hostPerson m0_hostCourt m0_outside m0_inside m0_can m0_fewest m0_waysTo m0_then m0_two m0_nextTwo m0_three m0_nextThree m0_shut m0_worth m0_digit m0_codes m0_most m0_bestTry m0_dayCourt m0_dayHour m0_dayNo m0_x m0_at0 cA_m0_at0 f_m0_at0 m0_stray cA_m0_stray f_m0_stray)) hP hD hS hA [0, 2, 3] rfl (by decide +kernel)
  have hKc := hK.sub (tys' := [(cA_m0_at0, .int), (cA_m0_stray, .int)]) [1, 2] rfl
  refine va_calli (va_runV (As := [.int p1, .int p2, .int p4]) (rest := [.ref m0]) ⟨hx, hb, hml, hown, hts⟩ (k_X10_placeOf l sa dC dI m0 p1 p2 p4 m0_thrown m0_width m0_many m0_cells m0_moved m0_tape m0_taped m0_at m0_token m0_place m0_value m0_word m0_bad m0_badPlace m0_fault m0_faultPlace m0_lines m0_hours m0_courts m0_in m0_gates m0_gate m0_people m0_at0 m0_stray m0_set m0_once m0_truth m0_known m0_isKept m0_strays m0_hostPerson m0_hostCourt m0_outside m0_inside m0_can m0_fewest m0_waysTo m0_then m0_two m0_nextTwo m0_three m0_nextThree m0_shut m0_worth m0_digit m0_codes m0_most m0_bestTry m0_dayCourt m0_dayHour m0_dayNo m0_x cA_m0_at0 f_m0_at0 cA_m0_stray f_m0_stray b_p1 b_p2 b_p4 b_m0_taped b_m0_at b_m0_token b_m0_value b_m0_bad b_m0_strays b_m0_hostCourt b_m0_dayCourt b_m0_dayHour b_f_m0_at0 b_f_m0_stray s.heap.size) (cwV 3 hts (z_gV zw_t7_189 zw_t7_191 zw_s5_14 zw_t1_11 zw_t7_192) rfl rfl rfl (by decide +kernel) (by rw [← hRe]; exact ⟨(Nat.le_of_ble_eq_true rfl), (Nat.le_of_ble_eq_true rfl)⟩)) (z_preV hPc hKc hDc hN hXs hS hFc (q := (RX10, TX10, 53)) (ci := 10) (q0 := 0) rfl rfl) rfl rfl hl.1 rfl (lv_room (Nat.le_of_ble_eq_true rfl)) dX10_isWithin_6 (by rw [← hRe]; exact ⟨(Nat.le_of_ble_eq_true rfl), (Nat.le_of_ble_eq_true rfl)⟩)) hS (fun q _ h => hFc q h) hFc (fun r_1 u t H1 locs ht hvm hw hB hz1 hk1 hS => ?_)
  obtain ⟨hP, hD, hK⟩ := z_after3 (wn := [(m0_in, .inl (cA_m0_in, 50, .inl f_m0_in)), (m0_set, .inl (cA_m0_set, 10, .inl f_m0_set)), (m0, .inr (10, [.int m0_thrown, .ref m0_width, .ref m0_many, .ref m0_cells, .ref m0_moved, .ref m0_tape, .int m0_taped, .int m0_at, .int m0_token, .int m0_place, .int m0_value, .long m0_word, .int m0_bad, .int m0_badPlace, .int m0_fault, .int m0_faultPlace, .ref m0_lines, .ref m0_hours, .ref m0_courts, .ref m0_in, .ref m0_gates, .ref m0_gate, .ref m0_people, .ref m0_at0, .ref m0_stray, .ref m0_set, .ref m0_once, .ref m0_truth, .ref m0_known, .ref m0_isKept, .int m0_strays, .int m0_hostPerson, .int m0_hostCourt, .int m0_outside, .ref m0_inside, .ref m0_can, .ref m0_fewest, .ref m0_waysTo, .ref m0_then, .ref m0_two, .ref m0_nextTwo, .ref m0_three, .ref m0_nextThree, .int m0_shut, .ref m0_worth, .ref m0_digit, .int m0_codes, .long m0_most, .int m0_bestTry, .int m0_dayCourt, .int m0_dayHour, .int m0_dayNo, .long m0_x])), (m0_at0, .inl (cA_m0_at0, 2400, .inl f_m0_at0)), (m0_stray, .inl (cA_m0_stray, 100, .inl f_m0_stray))]) hB ht hvm hP hD hK [0, 2, 3] [1, 4] rfl 5 rfl (by decide +kernel) rfl (by decide +kernel) hk1 hFc
  generalize H1 = H at hP hS ⊢
  have hK : va_K (dC, dI) vwCl [(cA_m0_in, .int), (cA_m0_at0, .int), (cA_m0_stray, .int), (cA_m0_set, .int)] s := hK
  have b_r_1 : 0 ≤ r_1.toInt ∧ r_1.toInt ≤ 9 := hw
  refine lv_iload_n hx hb dX10_isWithin_9 rfl (lv_at hl 3 rfl) ?_
  obtain ⟨hPc, hDc, hFc⟩ := z_cut (wc := (zV87 m0 m0_thrown m0_width m0_many m0_cells m0_moved m0_tape m0_taped m0_at m0_token m0_place m0_value m0_word m0_bad m0_badPlace m0_fault m0_faultPlace m0_lines m0_hours m0_courts m0_in m0_gates m0_gate m0_people m0_at0 m0_stray m0_set m0_once m0_truth m0_known m0_isKept m0_strays m0_hostPerson m0_hostCourt m0_outside m0_inside m0_can m0_fewest m0_waysTo m0_then m0_two m0_nextTwo m0_three m0_nextThree m0_shut m0_worth m0_digit m0_codes m0_most m0_bestTry m0_dayCourt m0_dayHour m0_dayNo m0_x m0_in cA_m0_in f_m0_in m0_set cA_m0_set f_m0_set)) hP hD hS hA [2, 0, 1] rfl (by decide +kernel)
  have hKc := hK.sub (tys' := [(cA_m0_in, .int), (cA_m0_set, .int)]) [0, 3] rfl
  refine va_calli (va_runV (As := [.int r_1, .int p3]) (rest := []) ⟨hx, hb, hml, hown, hts⟩ (k_X10_counts l sa dC dI m0 r_1 p3 m0_thrown m0_width m0_many m0_cells m0_moved m0_tape m0_taped m0_at m0_token m0_place m0_value m0_word m0_bad m0_badPlace m0_fault m0_faultPlace m0_lines m0_hours m0_courts m0_in m0_gates m0_gate m0_people m0_at0 m0_stray m0_set m0_once m0_truth m0_known m0_isKept m0_strays m0_hostPerson m0_hostCourt m0_outside m0_inside m0_can m0_fewest m0_waysTo m0_then m0_two m0_nextTwo m0_three m0_nextThree m0_shut m0_worth m0_digit m0_codes m0_most m0_bestTry m0_dayCourt m0_dayHour m0_dayNo m0_x cA_m0_in f_m0_in cA_m0_set f_m0_set b_r_1 b_m0_taped b_m0_at b_m0_token b_m0_value b_m0_bad b_m0_strays b_m0_hostCourt b_m0_dayCourt b_m0_dayHour b_f_m0_in b_f_m0_set H.size) (cwV 2 hts (z_gV zw_t7_205 zw_t7_207 zw_s6_1 zw_t1_11 zw_t7_208) rfl rfl rfl (by decide +kernel) (by rw [← hRe]; exact ⟨(Nat.le_of_ble_eq_true rfl), (Nat.le_of_ble_eq_true rfl)⟩)) (z_preV hPc hKc hDc hN hXs hS hFc (q := (RX10, TX10, 53)) (ci := 10) (q0 := 0) rfl rfl) rfl rfl hl.1 rfl (lv_room (Nat.le_of_ble_eq_true rfl)) dX10_isWithin_10 (by rw [← hRe]; exact ⟨(Nat.le_of_ble_eq_true rfl), (Nat.le_of_ble_eq_true rfl)⟩)) hS (fun q _ h => hFc q h) hFc (fun r_2 u t H1 locs ht hvm hw hB hz1 hk1 hS => ?_)
  obtain ⟨hP, hD, hK⟩ := z_after3 (wn := [(m0_at0, .inl (cA_m0_at0, 2400, .inl f_m0_at0)), (m0_stray, .inl (cA_m0_stray, 100, .inl f_m0_stray)), (m0, .inr (10, [.int m0_thrown, .ref m0_width, .ref m0_many, .ref m0_cells, .ref m0_moved, .ref m0_tape, .int m0_taped, .int m0_at, .int m0_token, .int m0_place, .int m0_value, .long m0_word, .int m0_bad, .int m0_badPlace, .int m0_fault, .int m0_faultPlace, .ref m0_lines, .ref m0_hours, .ref m0_courts, .ref m0_in, .ref m0_gates, .ref m0_gate, .ref m0_people, .ref m0_at0, .ref m0_stray, .ref m0_set, .ref m0_once, .ref m0_truth, .ref m0_known, .ref m0_isKept, .int m0_strays, .int m0_hostPerson, .int m0_hostCourt, .int m0_outside, .ref m0_inside, .ref m0_can, .ref m0_fewest, .ref m0_waysTo, .ref m0_then, .ref m0_two, .ref m0_nextTwo, .ref m0_three, .ref m0_nextThree, .int m0_shut, .ref m0_worth, .ref m0_digit, .int m0_codes, .long m0_most, .int m0_bestTry, .int m0_dayCourt, .int m0_dayHour, .int m0_dayNo, .long m0_x])), (m0_in, .inl (cA_m0_in, 50, .inl f_m0_in)), (m0_set, .inl (cA_m0_set, 10, .inl f_m0_set))]) hB ht hvm hP hD hK [2, 0, 1] [3, 4] rfl 5 rfl (by decide +kernel) rfl (by decide +kernel) hk1 hFc
  generalize H1 = H at hP hS ⊢
  have hK : va_K (dC, dI) vwCl [(cA_m0_in, .int), (cA_m0_at0, .int), (cA_m0_stray, .int), (cA_m0_set, .int)] s := hK
  have b_r_2 : 0 ≤ r_2.toInt ∧ r_2.toInt ≤ 1 := hw
  exact W.zret (v := r_2) hx hb hr (zi_bool (by first | with_reducible assumption | omega)) (fun t ht hW => by rw [← hQe]; exact ⟨⟨r_2, (), rfl, (by first | decide | omega), z_ret hP hK hD ht hW [2, 3, 0, 1, 4] [] rfl (by decide) rfl⟩, hS.F ht⟩) hS.2.2 dX10_isWithin_13
set_option maxHeartbeats 4000000 in
set_option maxRecDepth 100000 in
theorem k_X10_withinOf (l : Launch) (sa : Nat → Nat) (dC : Nat → ClassId) (dI : Nat → Nat → Nat) (m0 : Nat) (p1 : Int32) (p2 : Int32) (m0_thrown : Int32) (m0_width : Nat) (m0_many : Nat) (m0_cells : Nat) (m0_moved : Nat) (m0_tape : Nat) (m0_taped : Int32) (m0_at : Int32) (m0_token : Int32) (m0_place : Int32) (m0_value : Int32) (m0_word : Int64) (m0_bad : Int32) (m0_badPlace : Int32) (m0_fault : Int32) (m0_faultPlace : Int32) (m0_lines : Nat) (m0_hours : Nat) (m0_courts : Nat) (m0_in : Nat) (m0_gates : Nat) (m0_gate : Nat) (m0_people : Nat) (m0_at0 : Nat) (m0_stray : Nat) (m0_set : Nat) (m0_once : Nat) (m0_truth : Nat) (m0_known : Nat) (m0_isKept : Nat) (m0_strays : Int32) (m0_hostPerson : Int32) (m0_hostCourt : Int32) (m0_outside : Int32) (m0_inside : Nat) (m0_can : Nat) (m0_fewest : Nat) (m0_waysTo : Nat) (m0_then : Nat) (m0_two : Nat) (m0_nextTwo : Nat) (m0_three : Nat) (m0_nextThree : Nat) (m0_shut : Int32) (m0_worth : Nat) (m0_digit : Nat) (m0_codes : Int32) (m0_most : Int64) (m0_bestTry : Int32) (m0_dayCourt : Int32) (m0_dayHour : Int32) (m0_dayNo : Int32) (m0_x : Int64) (cA_m0_in : ClassId) (f_m0_in : Nat → Int32) (cA_m0_people : ClassId) (f_m0_people : Nat → Int32) (cA_m0_at0 : ClassId) (f_m0_at0 : Nat → Int32) (cA_m0_stray : ClassId) (f_m0_stray : Nat → Int32) (cA_m0_set : ClassId) (f_m0_set : Nat → Int32) (cA_m0_truth : ClassId) (f_m0_truth : Nat → Int32) (b_p2 : 0 ≤ p2.toInt ∧ p2.toInt ≤ 47) (b_m0_taped : 0 ≤ m0_taped.toInt ∧ m0_taped.toInt ≤ 1600) (b_m0_at : 0 ≤ m0_at.toInt ∧ m0_at.toInt ≤ 1600) (b_m0_token : 0 ≤ m0_token.toInt ∧ m0_token.toInt ≤ 4) (b_m0_value : 0 ≤ m0_value.toInt ∧ m0_value.toInt ≤ 1000009) (b_m0_bad : 0 ≤ m0_bad.toInt ∧ m0_bad.toInt ≤ 3) (b_m0_strays : 0 ≤ m0_strays.toInt ∧ m0_strays.toInt ≤ 5) (b_m0_hostCourt : 0 ≤ m0_hostCourt.toInt ∧ m0_hostCourt.toInt ≤ 9) (b_m0_dayCourt : 0 ≤ m0_dayCourt.toInt ∧ m0_dayCourt.toInt ≤ 9) (b_m0_dayHour : 0 ≤ m0_dayHour.toInt ∧ m0_dayHour.toInt ≤ 48) (b_f_m0_in : ∀ j : Nat, j < 10 → (-1) ≤ (f_m0_in j).toInt ∧ (f_m0_in j).toInt < (j : Int)) (b_f_m0_people : ∀ j : Nat, 0 ≤ (f_m0_people j).toInt ∧ (f_m0_people j).toInt ≤ 10) (b_f_m0_at0 : ∀ j : Nat, 0 ≤ (f_m0_at0 j).toInt ∧ (f_m0_at0 j).toInt ≤ 9) (b_f_m0_stray : ∀ j : Nat, 0 ≤ (f_m0_stray j).toInt ∧ (f_m0_stray j).toInt ≤ 99 ∧ (j % 2 = 1 → (f_m0_stray j).toInt ≤ 9)) (b_f_m0_set : ∀ j : Nat, 0 ≤ (f_m0_set j).toInt ∧ (f_m0_set j).toInt ≤ 9) (sz : Nat) : Met l yX10_withinOf (.code yX10_withinOf cX10_withinOf 6 (some .int) :: zT) ({ frames := 3, cells := 0, slots := 0, locals := 69 }) (va_Pc [.ref m0, .int p1, .int p2] (zB sa dC dI (zV89 m0 m0_thrown m0_width m0_many m0_cells m0_moved m0_tape m0_taped m0_at m0_token m0_place m0_value m0_word m0_bad m0_badPlace m0_fault m0_faultPlace m0_lines m0_hours m0_courts m0_in m0_gates m0_gate m0_people m0_at0 m0_stray m0_set m0_once m0_truth m0_known m0_isKept m0_strays m0_hostPerson m0_hostCourt m0_outside m0_inside m0_can m0_fewest m0_waysTo m0_then m0_two m0_nextTwo m0_three m0_nextThree m0_shut m0_worth m0_digit m0_codes m0_most m0_bestTry m0_dayCourt m0_dayHour m0_dayNo m0_x m0_in cA_m0_in f_m0_in m0_people cA_m0_people f_m0_people m0_at0 cA_m0_at0 f_m0_at0 m0_stray cA_m0_stray f_m0_stray m0_set cA_m0_set f_m0_set m0_truth cA_m0_truth f_m0_truth) [(cA_m0_in, .int), (cA_m0_people, .int), (cA_m0_at0, .int), (cA_m0_stray, .int), (cA_m0_set, .int), (cA_m0_truth, .int)] sz)) (va_Qi (fun (r : Int32) (_ : Unit) => (0 ≤ r.toInt ∧ r.toInt ≤ 1023)) (fun _ t => zW dC dI (zV89 m0 m0_thrown m0_width m0_many m0_cells m0_moved m0_tape m0_taped m0_at m0_token m0_place m0_value m0_word m0_bad m0_badPlace m0_fault m0_faultPlace m0_lines m0_hours m0_courts m0_in m0_gates m0_gate m0_people m0_at0 m0_stray m0_set m0_once m0_truth m0_known m0_isKept m0_strays m0_hostPerson m0_hostCourt m0_outside m0_inside m0_can m0_fewest m0_waysTo m0_then m0_two m0_nextTwo m0_three m0_nextThree m0_shut m0_worth m0_digit m0_codes m0_most m0_bestTry m0_dayCourt m0_dayHour m0_dayNo m0_x m0_in cA_m0_in f_m0_in m0_people cA_m0_people f_m0_people m0_at0 cA_m0_at0 f_m0_at0 m0_stray cA_m0_stray f_m0_stray m0_set cA_m0_set f_m0_set m0_truth cA_m0_truth f_m0_truth) [] (va_A (zV89 m0 m0_thrown m0_width m0_many m0_cells m0_moved m0_tape m0_taped m0_at m0_token m0_place m0_value m0_word m0_bad m0_badPlace m0_fault m0_faultPlace m0_lines m0_hours m0_courts m0_in m0_gates m0_gate m0_people m0_at0 m0_stray m0_set m0_once m0_truth m0_known m0_isKept m0_strays m0_hostPerson m0_hostCourt m0_outside m0_inside m0_can m0_fewest m0_waysTo m0_then m0_two m0_nextTwo m0_three m0_nextThree m0_shut m0_worth m0_digit m0_codes m0_most m0_bestTry m0_dayCourt m0_dayHour m0_dayNo m0_x m0_in cA_m0_in f_m0_in m0_people cA_m0_people f_m0_people m0_at0 cA_m0_at0 f_m0_at0 m0_stray cA_m0_stray f_m0_stray m0_set cA_m0_set f_m0_set m0_truth cA_m0_truth f_m0_truth) sz) t) (va_A (zV89 m0 m0_thrown m0_width m0_many m0_cells m0_moved m0_tape m0_taped m0_at m0_token m0_place m0_value m0_word m0_bad m0_badPlace m0_fault m0_faultPlace m0_lines m0_hours m0_courts m0_in m0_gates m0_gate m0_people m0_at0 m0_stray m0_set m0_once m0_truth m0_known m0_isKept m0_strays m0_hostPerson m0_hostCourt m0_outside m0_inside m0_can m0_fewest m0_waysTo m0_then m0_two m0_nextTwo m0_three m0_nextThree m0_shut m0_worth m0_digit m0_codes m0_most m0_bestTry m0_dayCourt m0_dayHour m0_dayNo m0_x m0_in cA_m0_in f_m0_in m0_people cA_m0_people f_m0_people m0_at0 cA_m0_at0 f_m0_at0 m0_stray cA_m0_stray f_m0_stray m0_set cA_m0_set f_m0_set m0_truth cA_m0_truth f_m0_truth) sz)) 0 0 (va_A (zV89 m0 m0_thrown m0_width m0_many m0_cells m0_moved m0_tape m0_taped m0_at m0_token m0_place m0_value m0_word m0_bad m0_badPlace m0_fault m0_faultPlace m0_lines m0_hours m0_courts m0_in m0_gates m0_gate m0_people m0_at0 m0_stray m0_set m0_once m0_truth m0_known m0_isKept m0_strays m0_hostPerson m0_hostCourt m0_outside m0_inside m0_can m0_fewest m0_waysTo m0_then m0_two m0_nextTwo m0_three m0_nextThree m0_shut m0_worth m0_digit m0_codes m0_most m0_bestTry m0_dayCourt m0_dayHour m0_dayNo m0_x m0_in cA_m0_in f_m0_in m0_people cA_m0_people f_m0_people m0_at0 cA_m0_at0 f_m0_at0 m0_stray cA_m0_stray f_m0_stray m0_set cA_m0_set f_m0_set m0_truth cA_m0_truth f_m0_truth) sz) := by
  refine z_enter (by decide) (by exact (Nat.le_of_ble_eq_true rfl)) ?_
  intro p e s m args below meth c ls A R Qc hargs hsz hQe hAe hRe hx hb hml hr hts hown hlocks hin hl hP hK hD hN hXs hA hS
  rw [hAe] at hQe
  have hown : s.vm.findClass RX10 = some m.cls := hown
  have hl : lv_has ls 6 [(0, .ref m0), (1, .int p1), (2, .int p2)] := hl
  refine lv_iconst (v := 0) hx hb dX10_withinOf_0 (by decide) ?_
  refine lv_istore_n (lv' := [(3, .int 0), (0, .ref m0), (1, .int p1), (2, .int p2)]) hx hb dX10_withinOf_1 rfl hl (by decide) rfl (fun ls hl => ?_)
  refine lv_iconst (v := 0) hx hb dX10_withinOf_2 (by decide) ?_
  refine lv_istore (lv' := [(4, .int 0), (3, .int 0), (0, .ref m0), (1, .int p1), (2, .int p2)]) hx hb dX10_withinOf_3 hl (by decide) rfl (fun ls hl => ?_)
  have loop_1 : ∀ (t : Nat) (v3_2 : Int32) (v4_1 : Int32) (b_v3_2 : 0 ≤ v3_2.toInt ∧ v3_2.toInt ≤ 1023) (b_v4_1 : 0 ≤ v4_1.toInt ∧ v4_1.toInt ≤ 10) (H : Heap) (locs : List Loc) (ls : Array Slot), 10 - v4_1.toInt < (t : Int) → va_P (dC, dI) vwCl (zV89 m0 m0_thrown m0_width m0_many m0_cells m0_moved m0_tape m0_taped m0_at m0_token m0_place m0_value m0_word m0_bad m0_badPlace m0_fault m0_faultPlace m0_lines m0_hours m0_courts m0_in m0_gates m0_gate m0_people m0_at0 m0_stray m0_set m0_once m0_truth m0_known m0_isKept m0_strays m0_hostPerson m0_hostCourt m0_outside m0_inside m0_can m0_fewest m0_waysTo m0_then m0_two m0_nextTwo m0_three m0_nextThree m0_shut m0_worth m0_digit m0_codes m0_most m0_bestTry m0_dayCourt m0_dayHour m0_dayNo m0_x m0_in cA_m0_in f_m0_in m0_people cA_m0_people f_m0_people m0_at0 cA_m0_at0 f_m0_at0 m0_stray cA_m0_stray f_m0_stray m0_set cA_m0_set f_m0_set m0_truth cA_m0_truth f_m0_truth) H → va_D A (zV89 m0 m0_thrown m0_width m0_many m0_cells m0_moved m0_tape m0_taped m0_at m0_token m0_place m0_value m0_word m0_bad m0_badPlace m0_fault m0_faultPlace m0_lines m0_hours m0_courts m0_in m0_gates m0_gate m0_people m0_at0 m0_stray m0_set m0_once m0_truth m0_known m0_isKept m0_strays m0_hostPerson m0_hostCourt m0_outside m0_inside m0_can m0_fewest m0_waysTo m0_then m0_two m0_nextTwo m0_three m0_nextThree m0_shut m0_worth m0_digit m0_codes m0_most m0_bestTry m0_dayCourt m0_dayHour m0_dayNo m0_x m0_in cA_m0_in f_m0_in m0_people cA_m0_people f_m0_people m0_at0 cA_m0_at0 f_m0_at0 m0_stray cA_m0_stray f_m0_stray m0_set cA_m0_set f_m0_set m0_truth cA_m0_truth f_m0_truth) → va_S A s.heap H locs → lv_has ls 6 [(0, .ref m0), (1, .int p1), (2, .int p2), (3, .int v3_2), (4, .int v4_1)] → W p l e R s m args below meth c H locs 0 0 (MQ below Qc args s 0 0 A) (F0 m 5 ls []) := by
    intro t
    induction t with
    | zero => intro v3_2 v4_1 b_v3_2 b_v4_1 H locs ls hmu _ _ _ _; exact absurd hmu (by first | with_reducible assumption | omega)
    | succ t ih_1 =>
      intro v3_2 v4_1 b_v3_2 b_v4_1 H locs ls hmu hP hD hS hl
      refine lv_iload hx hb dX10_withinOf_5 (lv_at hl 4 rfl) ?_
      refine lv_aload_n hx hb dX10_withinOf_7 rfl (lv_at hl 0 rfl) ?_
      refine va_get (D := (dC, dI)) (ci := 10) (v := .ref m0_people) (C := RX10) (T := TX10) (N := 53) hx hb hts zl_X10 hown hK hP 0 rfl rfl 22 (by decide) (hts _ zw_t6_122) (fun _ h9 => h9) rfl dX10_withinOf_8 ?_
      refine lv_iconst (v := 0) hx hb dX10_withinOf_11 (by decide) ?_
      refine va_iald hx hb hK hP 2 1 rfl rfl (zi_in (show Int32.toInt 0 = 0 from by decide) (by decide)) dX10_withinOf_12 ?_
      refine lv_topi (fun x_3 ex_3 => ?_)
      have b_x_3 : 0 ≤ x_3.toInt ∧ x_3.toInt ≤ 10 := by rw [ex_3]; exact b_f_m0_people _
      have t_x_3 : x_3.toInt = (f_m0_people (Int32.toNatClampNeg 0)).toInt := by rw [ex_3]
      refine lv_icmp_ge (tgt := 76) hx hb dX10_withinOf_13 (by decide) (fun c_4 => ?_) (fun c_4 => ?_)
      · have ic_4 := zz_ge rfl rfl c_4
        refine lv_iload_n hx hb dX10_withinOf_76 rfl (lv_at hl 3 rfl) ?_
        exact W.iret (v := v3_2) hx hb hr (fun t ht hW => by rw [← hQe]; exact ⟨⟨v3_2, (), rfl, (by first | with_reducible assumption | exact z_rle b_v3_2 (by decide) | omega), z_ret hP hK hD ht hW [0, 1, 2, 3, 4, 5, 6] [] rfl (by decide) rfl⟩, hS.F ht⟩) hS.2.2 dX10_withinOf_77
      · have ic_4 := zz_nge rfl rfl c_4
        refine lv_aload_n hx hb dX10_withinOf_16 rfl (lv_at hl 0 rfl) ?_
        refine va_get (D := (dC, dI)) (ci := 10) (v := .int m0_outside) (C := RX10) (T := TX10) (N := 53) hx hb hts zl_X10 hown hK hP 0 rfl rfl 33 (by decide) (hts _ zw_t6_133) (fun _ h9 => h9) rfl dX10_withinOf_17 ?_
        refine lv_iload hx hb dX10_withinOf_20 (lv_at hl 4 rfl) ?_
        refine lv_ishr hx hb dX10_withinOf_22 ?_
        refine lv_topi (fun x_5 ex_5 => ?_)
        refine lv_iconst (v := 1) hx hb dX10_withinOf_23 (by decide) ?_
        refine lv_iand hx hb dX10_withinOf_24 ?_
        refine lv_topi (fun x_6 ex_6 => ?_)
        have b_x_6 : 0 ≤ x_6.toInt ∧ x_6.toInt ≤ 1 := by rw [ex_6]; exact zi_andR (show Int32.toInt 1 = 1 from by decide) (by first | with_reducible assumption | omega) (by first | with_reducible assumption | omega)
        refine lv_iconst (v := 1) hx hb dX10_withinOf_25 (by decide) ?_
        refine lv_icmp_ne (tgt := 38) hx hb dX10_withinOf_26 (by decide) (fun c_7 => ?_) (fun c_7 => ?_)
        · have ic_7 := zz_ne rfl (show Int32.toInt 1 = 1 from by decide) c_7
          refine lv_aload_n hx hb dX10_withinOf_38 rfl (lv_at hl 0 rfl) ?_
          refine lv_iload hx hb dX10_withinOf_39 (lv_at hl 4 rfl) ?_
          refine lv_aload_n hx hb dX10_withinOf_41 rfl (lv_at hl 0 rfl) ?_
          refine lv_iload hx hb dX10_withinOf_42 (lv_at hl 4 rfl) ?_
          obtain ⟨hPc, hDc, hFc⟩ := z_cut (wc := (zV80 m0 m0_thrown m0_width m0_many m0_cells m0_moved m0_tape m0_taped m0_at m0_token m0_place m0_value m0_word m0_bad m0_badPlace m0_fault m0_faultPlace m0_lines m0_hours m0_courts m0_in m0_gates m0_gate m0_people m0_at0 m0_stray m0_set m0_once m0_truth m0_known m0_isKept m0_strays m0_hostPerson m0_hostCourt m0_outside m0_inside m0_can m0_fewest m0_waysTo m0_then m0_two m0_nextTwo m0_three m0_nextThree m0_shut m0_worth m0_digit m0_codes m0_most m0_bestTry m0_dayCourt m0_dayHour m0_dayNo m0_x m0_truth cA_m0_truth f_m0_truth)) hP hD hS hA [0, 6] rfl (by decide +kernel)
          have hKc := hK.sub (tys' := [(cA_m0_truth, .int)]) [5] rfl
          refine va_calli (va_runV (As := [.int v4_1]) (rest := [.int v4_1, .ref m0]) ⟨hx, hb, hml, hown, hts⟩ (k_X10_isStrayed l sa dC dI m0 v4_1 m0_thrown m0_width m0_many m0_cells m0_moved m0_tape m0_taped m0_at m0_token m0_place m0_value m0_word m0_bad m0_badPlace m0_fault m0_faultPlace m0_lines m0_hours m0_courts m0_in m0_gates m0_gate m0_people m0_at0 m0_stray m0_set m0_once m0_truth m0_known m0_isKept m0_strays m0_hostPerson m0_hostCourt m0_outside m0_inside m0_can m0_fewest m0_waysTo m0_then m0_two m0_nextTwo m0_three m0_nextThree m0_shut m0_worth m0_digit m0_codes m0_most m0_bestTry m0_dayCourt m0_dayHour m0_dayNo m0_x cA_m0_truth f_m0_truth b_m0_taped b_m0_at b_m0_token b_m0_value b_m0_bad b_m0_strays b_m0_hostCourt b_m0_dayCourt b_m0_dayHour H.size) (cwV 1 hts (z_gV zw_t7_185 zw_t7_187 zw_s5_13 zw_t1_11 zw_t7_188) rfl rfl rfl (by decide +kernel) (by rw [← hRe]; exact ⟨(Nat.le_of_ble_eq_true rfl), (Nat.le_of_ble_eq_true rfl)⟩)) (z_preV hPc hKc hDc hN hXs hS hFc (q := (RX10, TX10, 53)) (ci := 10) (q0 := 0) rfl rfl) rfl rfl hl.1 rfl (lv_room (Nat.le_of_ble_eq_true rfl)) dX10_withinOf_44 (by rw [← hRe]; exact ⟨(Nat.le_of_ble_eq_true rfl), (Nat.le_of_ble_eq_true rfl)⟩)) hS (fun q _ h => hFc q h) hFc (fun r_8 u t H1 locs ht hvm hw hB hz1 hk1 hS => ?_)
          obtain ⟨hP, hD, hK⟩ := z_after3 (wn := [(m0_in, .inl (cA_m0_in, 50, .inl f_m0_in)), (m0_people, .inl (cA_m0_people, 5, .inl f_m0_people)), (m0_at0, .inl (cA_m0_at0, 2400, .inl f_m0_at0)), (m0_stray, .inl (cA_m0_stray, 100, .inl f_m0_stray)), (m0_set, .inl (cA_m0_set, 10, .inl f_m0_set)), (m0, .inr (10, [.int m0_thrown, .ref m0_width, .ref m0_many, .ref m0_cells, .ref m0_moved, .ref m0_tape, .int m0_taped, .int m0_at, .int m0_token, .int m0_place, .int m0_value, .long m0_word, .int m0_bad, .int m0_badPlace, .int m0_fault, .int m0_faultPlace, .ref m0_lines, .ref m0_hours, .ref m0_courts, .ref m0_in, .ref m0_gates, .ref m0_gate, .ref m0_people, .ref m0_at0, .ref m0_stray, .ref m0_set, .ref m0_once, .ref m0_truth, .ref m0_known, .ref m0_isKept, .int m0_strays, .int m0_hostPerson, .int m0_hostCourt, .int m0_outside, .ref m0_inside, .ref m0_can, .ref m0_fewest, .ref m0_waysTo, .ref m0_then, .ref m0_two, .ref m0_nextTwo, .ref m0_three, .ref m0_nextThree, .int m0_shut, .ref m0_worth, .ref m0_digit, .int m0_codes, .long m0_most, .int m0_bestTry, .int m0_dayCourt, .int m0_dayHour, .int m0_dayNo, .long m0_x])), (m0_truth, .inl (cA_m0_truth, 10, .inl f_m0_truth))]) hB ht hvm hP hD hK [0, 6] [1, 2, 3, 4, 5] rfl 7 rfl (by decide +kernel) rfl (by decide +kernel) hk1 hFc
          generalize H1 = H at hP hS ⊢
          have hK : va_K (dC, dI) vwCl [(cA_m0_in, .int), (cA_m0_people, .int), (cA_m0_at0, .int), (cA_m0_stray, .int), (cA_m0_set, .int), (cA_m0_truth, .int)] s := hK
          have b_r_8 : 0 ≤ r_8.toInt ∧ r_8.toInt ≤ 1 := hw
          refine lv_iload_n hx hb dX10_withinOf_47 rfl (lv_at hl 1 rfl) ?_
          refine lv_iload_n hx hb dX10_withinOf_48 rfl (lv_at hl 2 rfl) ?_
          obtain ⟨hPc, hDc, hFc⟩ := z_cut (wc := (zV88 m0 m0_thrown m0_width m0_many m0_cells m0_moved m0_tape m0_taped m0_at m0_token m0_place m0_value m0_word m0_bad m0_badPlace m0_fault m0_faultPlace m0_lines m0_hours m0_courts m0_in m0_gates m0_gate m0_people m0_at0 m0_stray m0_set m0_once m0_truth m0_known m0_isKept m0_strays m0_hostPerson m0_hostCourt m0_outside m0_inside m0_can m0_fewest m0_waysTo m0_then m0_two m0_nextTwo m0_three m0_nextThree m0_shut m0_worth m0_digit m0_codes m0_most m0_bestTry m0_dayCourt m0_dayHour m0_dayNo m0_x m0_in cA_m0_in f_m0_in m0_at0 cA_m0_at0 f_m0_at0 m0_stray cA_m0_stray f_m0_stray m0_set cA_m0_set f_m0_set)) hP hD hS hA [5, 0, 2, 3, 4] rfl (by decide +kernel)
          have hKc := hK.sub (tys' := [(cA_m0_in, .int), (cA_m0_at0, .int), (cA_m0_stray, .int), (cA_m0_set, .int)]) [0, 2, 3, 4] rfl
          refine va_calli (va_runV (As := [.int v4_1, .int r_8, .int p1, .int p2]) (rest := []) ⟨hx, hb, hml, hown, hts⟩ (k_X10_isWithin l sa dC dI m0 v4_1 r_8 p1 p2 m0_thrown m0_width m0_many m0_cells m0_moved m0_tape m0_taped m0_at m0_token m0_place m0_value m0_word m0_bad m0_badPlace m0_fault m0_faultPlace m0_lines m0_hours m0_courts m0_in m0_gates m0_gate m0_people m0_at0 m0_stray m0_set m0_once m0_truth m0_known m0_isKept m0_strays m0_hostPerson m0_hostCourt m0_outside m0_inside m0_can m0_fewest m0_waysTo m0_then m0_two m0_nextTwo m0_three m0_nextThree m0_shut m0_worth m0_digit m0_codes m0_most m0_bestTry m0_dayCourt m0_dayHour m0_dayNo m0_x cA_m0_in f_m0_in cA_m0_at0 f_m0_at0 cA_m0_stray f_m0_stray cA_m0_set f_m0_set (by first | with_reducible assumption | omega) b_r_8 b_p2 b_m0_taped b_m0_at b_m0_token b_m0_value b_m0_bad b_m0_strays b_m0_hostCourt b_m0_dayCourt b_m0_dayHour b_f_m0_in b_f_m0_at0 b_f_m0_stray b_f_m0_set H.size) (cwV 4 hts (z_gV zw_t7_213 zw_t7_215 zw_s6_3 zw_t1_11 zw_t7_216) rfl rfl rfl (by decide +kernel) (by rw [← hRe]; exact ⟨(Nat.le_of_ble_eq_true rfl), (Nat.le_of_ble_eq_true rfl)⟩)) (z_preV hPc hKc hDc hN hXs hS hFc (q := (RX10, TX10, 53)) (ci := 10) (q0 := 0) rfl rfl) rfl rfl hl.1 rfl (lv_room (Nat.le_of_ble_eq_true rfl)) dX10_withinOf_49 (by rw [← hRe]; exact ⟨(Nat.le_of_ble_eq_true rfl), (Nat.le_of_ble_eq_true rfl)⟩)) hS (fun q _ h => hFc q h) hFc (fun r_9 u t H1 locs ht hvm hw hB hz1 hk1 hS => ?_)
          obtain ⟨hP, hD, hK⟩ := z_after3 (wn := [(m0_people, .inl (cA_m0_people, 5, .inl f_m0_people)), (m0_truth, .inl (cA_m0_truth, 10, .inl f_m0_truth)), (m0, .inr (10, [.int m0_thrown, .ref m0_width, .ref m0_many, .ref m0_cells, .ref m0_moved, .ref m0_tape, .int m0_taped, .int m0_at, .int m0_token, .int m0_place, .int m0_value, .long m0_word, .int m0_bad, .int m0_badPlace, .int m0_fault, .int m0_faultPlace, .ref m0_lines, .ref m0_hours, .ref m0_courts, .ref m0_in, .ref m0_gates, .ref m0_gate, .ref m0_people, .ref m0_at0, .ref m0_stray, .ref m0_set, .ref m0_once, .ref m0_truth, .ref m0_known, .ref m0_isKept, .int m0_strays, .int m0_hostPerson, .int m0_hostCourt, .int m0_outside, .ref m0_inside, .ref m0_can, .ref m0_fewest, .ref m0_waysTo, .ref m0_then, .ref m0_two, .ref m0_nextTwo, .ref m0_three, .ref m0_nextThree, .int m0_shut, .ref m0_worth, .ref m0_digit, .int m0_codes, .long m0_most, .int m0_bestTry, .int m0_dayCourt, .int m0_dayHour, .int m0_dayNo, .long m0_x])), (m0_in, .inl (cA_m0_in, 50, .inl f_m0_in)), (m0_at0, .inl (cA_m0_at0, 2400, .inl f_m0_at0)), (m0_stray, .inl (cA_m0_stray, 100, .inl f_m0_stray)), (m0_set, .inl (cA_m0_set, 10, .inl f_m0_set))]) hB ht hvm hP hD hK [5, 0, 2, 3, 4] [1, 6] rfl 7 rfl (by decide +kernel) rfl (by decide +kernel) hk1 hFc
          generalize H1 = H at hP hS ⊢
          have hK : va_K (dC, dI) vwCl [(cA_m0_in, .int), (cA_m0_people, .int), (cA_m0_at0, .int), (cA_m0_stray, .int), (cA_m0_set, .int), (cA_m0_truth, .int)] s := hK
          have b_r_9 : 0 ≤ r_9.toInt ∧ r_9.toInt ≤ 1 := hw
          refine lv_istore (lv' := [(5, .int r_9), (0, .ref m0), (1, .int p1), (2, .int p2), (3, .int v3_2), (4, .int v4_1)]) hx hb dX10_withinOf_52 hl (by decide) rfl (fun ls hl => ?_)
          refine lv_iload_n hx hb dX10_withinOf_54 rfl (lv_at hl 4 rfl) ?_
          refine lv_iload hx hb dX10_withinOf_55 (lv_at hl 0 rfl) ?_
          refine lv_if_eq (tgt := 67) hx hb dX10_withinOf_57 (by decide) (fun c_10 => ?_) (fun c_10 => ?_)
          · have ic_10 := zz_eq rfl (show Int32.toInt 0 = 0 from by decide) c_10
            refine lv_iconst (v := 0) hx hb dX10_withinOf_67 (by decide) ?_
            refine lv_ior hx hb dX10_withinOf_68 ?_
            refine lv_topi (fun x_11 ex_11 => ?_)
            have b_x_11 : 0 ≤ x_11.toInt ∧ x_11.toInt ≤ 1023 := by rw [ex_11]; exact zi_or 10 rfl (show Int32.toInt 0 = 0 from by decide) (by first | with_reducible assumption | omega) (by first | with_reducible assumption | omega) (by decide)
            refine lv_istore_n (lv' := [(3, .int x_11), (5, .int r_9), (0, .ref m0), (1, .int p1), (2, .int p2), (4, .int v4_1)]) hx hb dX10_withinOf_69 rfl hl (by decide) rfl (fun ls hl => ?_)
            obtain ⟨x_12, ex_12⟩ : ∃ z : Int32, z = v4_1 + Int32.ofInt 1 := ⟨_, rfl⟩
            have b_x_12 : x_12.toInt = v4_1.toInt + 1 := by rw [ex_12]; exact zi_add rfl (show (Int32.ofInt 1).toInt = 1 from by decide) (z_rac b_v4_1 (by decide))
            refine lv_iinc (v := x_12) (lv' := [(4, .int x_12), (3, .int x_11), (5, .int r_9), (0, .ref m0), (1, .int p1), (2, .int p2)]) hx hb dX10_withinOf_70 hl (k := 5) rfl ex_12.symm (by decide) rfl (fun ls hl => ?_)
            refine lv_goto (tgt := 5) hx hb dX10_withinOf_73 (by decide) ?_
            exact ih_1 x_11 x_12 (by first | with_reducible assumption | omega) (by first | with_reducible assumption | omega) _ _ _ (by first | with_reducible assumption | omega) (hP.sub (ws' := (zV89 m0 m0_thrown m0_width m0_many m0_cells m0_moved m0_tape m0_taped m0_at m0_token m0_place m0_value m0_word m0_bad m0_badPlace m0_fault m0_faultPlace m0_lines m0_hours m0_courts m0_in m0_gates m0_gate m0_people m0_at0 m0_stray m0_set m0_once m0_truth m0_known m0_isKept m0_strays m0_hostPerson m0_hostCourt m0_outside m0_inside m0_can m0_fewest m0_waysTo m0_then m0_two m0_nextTwo m0_three m0_nextThree m0_shut m0_worth m0_digit m0_codes m0_most m0_bestTry m0_dayCourt m0_dayHour m0_dayNo m0_x m0_in cA_m0_in f_m0_in m0_people cA_m0_people f_m0_people m0_at0 cA_m0_at0 f_m0_at0 m0_stray cA_m0_stray f_m0_stray m0_set cA_m0_set f_m0_set m0_truth cA_m0_truth f_m0_truth)) [2, 3, 0, 4, 5, 6, 1] rfl) (hD.sub (ws' := (zV89 m0 m0_thrown m0_width m0_many m0_cells m0_moved m0_tape m0_taped m0_at m0_token m0_place m0_value m0_word m0_bad m0_badPlace m0_fault m0_faultPlace m0_lines m0_hours m0_courts m0_in m0_gates m0_gate m0_people m0_at0 m0_stray m0_set m0_once m0_truth m0_known m0_isKept m0_strays m0_hostPerson m0_hostCourt m0_outside m0_inside m0_can m0_fewest m0_waysTo m0_then m0_two m0_nextTwo m0_three m0_nextThree m0_shut m0_worth m0_digit m0_codes m0_most m0_bestTry m0_dayCourt m0_dayHour m0_dayNo m0_x m0_in cA_m0_in f_m0_in m0_people cA_m0_people f_m0_people m0_at0 cA_m0_at0 f_m0_at0 m0_stray cA_m0_stray f_m0_stray m0_set cA_m0_set f_m0_set m0_truth cA_m0_truth f_m0_truth)) [2, 3, 0, 4, 5, 6, 1] (by decide) rfl) hS (lv_sub hl [3, 4, 5, 1, 0] rfl)
          · have ic_10 := zz_neq rfl (show Int32.toInt 0 = 0 from by decide) c_10
            refine lv_iconst (v := 1) hx hb dX10_withinOf_60 (by decide) ?_
            refine lv_iload hx hb dX10_withinOf_61 (lv_at hl 5 rfl) ?_
            refine lv_ishl hx hb dX10_withinOf_63 ?_
            refine lv_topi (fun x_13 ex_13 => ?_)
            have b_x_13 : 1 ≤ x_13.toInt ∧ x_13.toInt ≤ 512 := by rw [ex_13]; exact zi_shl9 rfl (by first | with_reducible assumption | omega)
            refine lv_goto (tgt := 68) hx hb dX10_withinOf_64 (by decide) ?_
            refine lv_ior hx hb dX10_withinOf_68 ?_
            refine lv_topi (fun x_14 ex_14 => ?_)
            have b_x_14 : 0 ≤ x_14.toInt ∧ x_14.toInt ≤ 1023 := by rw [ex_14]; exact zi_or 10 rfl rfl (by first | with_reducible assumption | omega) (by first | with_reducible assumption | omega) (by decide)
            refine lv_istore_n (lv' := [(3, .int x_14), (5, .int r_9), (0, .ref m0), (1, .int p1), (2, .int p2), (4, .int v4_1)]) hx hb dX10_withinOf_69 rfl hl (by decide) rfl (fun ls hl => ?_)
            obtain ⟨x_15, ex_15⟩ : ∃ z : Int32, z = v4_1 + Int32.ofInt 1 := ⟨_, rfl⟩
            have b_x_15 : x_15.toInt = v4_1.toInt + 1 := by rw [ex_15]; exact zi_add rfl (show (Int32.ofInt 1).toInt = 1 from by decide) (z_rac b_v4_1 (by decide))
            refine lv_iinc (v := x_15) (lv' := [(4, .int x_15), (3, .int x_14), (5, .int r_9), (0, .ref m0), (1, .int p1), (2, .int p2)]) hx hb dX10_withinOf_70 hl (k := 5) rfl ex_15.symm (by decide) rfl (fun ls hl => ?_)
            refine lv_goto (tgt := 5) hx hb dX10_withinOf_73 (by decide) ?_
            exact ih_1 x_14 x_15 (by first | with_reducible assumption | omega) (by first | with_reducible assumption | omega) _ _ _ (by first | with_reducible assumption | omega) (hP.sub (ws' := (zV89 m0 m0_thrown m0_width m0_many m0_cells m0_moved m0_tape m0_taped m0_at m0_token m0_place m0_value m0_word m0_bad m0_badPlace m0_fault m0_faultPlace m0_lines m0_hours m0_courts m0_in m0_gates m0_gate m0_people m0_at0 m0_stray m0_set m0_once m0_truth m0_known m0_isKept m0_strays m0_hostPerson m0_hostCourt m0_outside m0_inside m0_can m0_fewest m0_waysTo m0_then m0_two m0_nextTwo m0_three m0_nextThree m0_shut m0_worth m0_digit m0_codes m0_most m0_bestTry m0_dayCourt m0_dayHour m0_dayNo m0_x m0_in cA_m0_in f_m0_in m0_people cA_m0_people f_m0_people m0_at0 cA_m0_at0 f_m0_at0 m0_stray cA_m0_stray f_m0_stray m0_set cA_m0_set f_m0_set m0_truth cA_m0_truth f_m0_truth)) [2, 3, 0, 4, 5, 6, 1] rfl) (hD.sub (ws' := (zV89 m0 m0_thrown m0_width m0_many m0_cells m0_moved m0_tape m0_taped m0_at m0_token m0_place m0_value m0_word m0_bad m0_badPlace m0_fault m0_faultPlace m0_lines m0_hours m0_courts m0_in m0_gates m0_gate m0_people m0_at0 m0_stray m0_set m0_once m0_truth m0_known m0_isKept m0_strays m0_hostPerson m0_hostCourt m0_outside m0_inside m0_can m0_fewest m0_waysTo m0_then m0_two m0_nextTwo m0_three m0_nextThree m0_shut m0_worth m0_digit m0_codes m0_most m0_bestTry m0_dayCourt m0_dayHour m0_dayNo m0_x m0_in cA_m0_in f_m0_in m0_people cA_m0_people f_m0_people m0_at0 cA_m0_at0 f_m0_at0 m0_stray cA_m0_stray f_m0_stray m0_set cA_m0_set f_m0_set m0_truth cA_m0_truth f_m0_truth)) [2, 3, 0, 4, 5, 6, 1] (by decide) rfl) hS (lv_sub hl [3, 4, 5, 1, 0] rfl)
        · have ic_7 := zz_nne rfl (show Int32.toInt 1 = 1 from by decide) c_7
          refine lv_aload_n hx hb dX10_withinOf_29 rfl (lv_at hl 0 rfl) ?_
          refine lv_iconst (v := 0) hx hb dX10_withinOf_30 (by decide) ?_
          refine lv_iload_n hx hb dX10_withinOf_31 rfl (lv_at hl 1 rfl) ?_
          obtain ⟨hPc, hDc, hFc⟩ := z_cut (wc := (zV87 m0 m0_thrown m0_width m0_many m0_cells m0_moved m0_tape m0_taped m0_at m0_token m0_place m0_value m0_word m0_bad m0_badPlace m0_fault m0_faultPlace m0_lines m0_hours m0_courts m0_in m0_gates m0_gate m0_people m0_at0 m0_stray m0_set m0_once m0_truth m0_known m0_isKept m0_strays m0_hostPerson m0_hostCourt m0_outside m0_inside m0_can m0_fewest m0_waysTo m0_then m0_two m0_nextTwo m0_three m0_nextThree m0_shut m0_worth m0_digit m0_codes m0_most m0_bestTry m0_dayCourt m0_dayHour m0_dayNo m0_x m0_in cA_m0_in f_m0_in m0_set cA_m0_set f_m0_set)) hP hD hS hA [0, 1, 5] rfl (by decide +kernel)
          have hKc := hK.sub (tys' := [(cA_m0_in, .int), (cA_m0_set, .int)]) [0, 4] rfl
          refine va_calli (va_runV (As := [.int 0, .int p1]) (rest := []) ⟨hx, hb, hml, hown, hts⟩ (k_X10_counts l sa dC dI m0 (0) p1 m0_thrown m0_width m0_many m0_cells m0_moved m0_tape m0_taped m0_at m0_token m0_place m0_value m0_word m0_bad m0_badPlace m0_fault m0_faultPlace m0_lines m0_hours m0_courts m0_in m0_gates m0_gate m0_people m0_at0 m0_stray m0_set m0_once m0_truth m0_known m0_isKept m0_strays m0_hostPerson m0_hostCourt m0_outside m0_inside m0_can m0_fewest m0_waysTo m0_then m0_two m0_nextTwo m0_three m0_nextThree m0_shut m0_worth m0_digit m0_codes m0_most m0_bestTry m0_dayCourt m0_dayHour m0_dayNo m0_x cA_m0_in f_m0_in cA_m0_set f_m0_set (by decide) b_m0_taped b_m0_at b_m0_token b_m0_value b_m0_bad b_m0_strays b_m0_hostCourt b_m0_dayCourt b_m0_dayHour b_f_m0_in b_f_m0_set H.size) (cwV 2 hts (z_gV zw_t7_205 zw_t7_207 zw_s6_1 zw_t1_11 zw_t7_208) rfl rfl rfl (by decide +kernel) (by rw [← hRe]; exact ⟨(Nat.le_of_ble_eq_true rfl), (Nat.le_of_ble_eq_true rfl)⟩)) (z_preV hPc hKc hDc hN hXs hS hFc (q := (RX10, TX10, 53)) (ci := 10) (q0 := 0) rfl rfl) rfl rfl hl.1 rfl (lv_room (Nat.le_of_ble_eq_true rfl)) dX10_withinOf_32 (by rw [← hRe]; exact ⟨(Nat.le_of_ble_eq_true rfl), (Nat.le_of_ble_eq_true rfl)⟩)) hS (fun q _ h => hFc q h) hFc (fun r_16 u t H1 locs ht hvm hw hB hz1 hk1 hS => ?_)
          obtain ⟨hP, hD, hK⟩ := z_after3 (wn := [(m0_people, .inl (cA_m0_people, 5, .inl f_m0_people)), (m0_at0, .inl (cA_m0_at0, 2400, .inl f_m0_at0)), (m0_stray, .inl (cA_m0_stray, 100, .inl f_m0_stray)), (m0_truth, .inl (cA_m0_truth, 10, .inl f_m0_truth)), (m0, .inr (10, [.int m0_thrown, .ref m0_width, .ref m0_many, .ref m0_cells, .ref m0_moved, .ref m0_tape, .int m0_taped, .int m0_at, .int m0_token, .int m0_place, .int m0_value, .long m0_word, .int m0_bad, .int m0_badPlace, .int m0_fault, .int m0_faultPlace, .ref m0_lines, .ref m0_hours, .ref m0_courts, .ref m0_in, .ref m0_gates, .ref m0_gate, .ref m0_people, .ref m0_at0, .ref m0_stray, .ref m0_set, .ref m0_once, .ref m0_truth, .ref m0_known, .ref m0_isKept, .int m0_strays, .int m0_hostPerson, .int m0_hostCourt, .int m0_outside, .ref m0_inside, .ref m0_can, .ref m0_fewest, .ref m0_waysTo, .ref m0_then, .ref m0_two, .ref m0_nextTwo, .ref m0_three, .ref m0_nextThree, .int m0_shut, .ref m0_worth, .ref m0_digit, .int m0_codes, .long m0_most, .int m0_bestTry, .int m0_dayCourt, .int m0_dayHour, .int m0_dayNo, .long m0_x])), (m0_in, .inl (cA_m0_in, 50, .inl f_m0_in)), (m0_set, .inl (cA_m0_set, 10, .inl f_m0_set))]) hB ht hvm hP hD hK [0, 1, 5] [2, 3, 4, 6] rfl 7 rfl (by decide +kernel) rfl (by decide +kernel) hk1 hFc
          generalize H1 = H at hP hS ⊢
          have hK : va_K (dC, dI) vwCl [(cA_m0_in, .int), (cA_m0_people, .int), (cA_m0_at0, .int), (cA_m0_stray, .int), (cA_m0_set, .int), (cA_m0_truth, .int)] s := hK
          have b_r_16 : 0 ≤ r_16.toInt ∧ r_16.toInt ≤ 1 := hw
          refine lv_goto (tgt := 52) hx hb dX10_withinOf_35 (by decide) ?_
          refine lv_istore (lv' := [(5, .int r_16), (0, .ref m0), (1, .int p1), (2, .int p2), (3, .int v3_2), (4, .int v4_1)]) hx hb dX10_withinOf_52 hl (by decide) rfl (fun ls hl => ?_)
          refine lv_iload_n hx hb dX10_withinOf_54 rfl (lv_at hl 4 rfl) ?_
          refine lv_iload hx hb dX10_withinOf_55 (lv_at hl 0 rfl) ?_
          refine lv_if_eq (tgt := 67) hx hb dX10_withinOf_57 (by decide) (fun c_17 => ?_) (fun c_17 => ?_)
          · have ic_17 := zz_eq rfl (show Int32.toInt 0 = 0 from by decide) c_17
            refine lv_iconst (v := 0) hx hb dX10_withinOf_67 (by decide) ?_
            refine lv_ior hx hb dX10_withinOf_68 ?_
            refine lv_topi (fun x_18 ex_18 => ?_)
            have b_x_18 : 0 ≤ x_18.toInt ∧ x_18.toInt ≤ 1023 := by rw [ex_18]; exact zi_or 10 rfl (show Int32.toInt 0 = 0 from by decide) (by first | with_reducible assumption | omega) (by first | with_reducible assumption | omega) (by decide)
            refine lv_istore_n (lv' := [(3, .int x_18), (5, .int r_16), (0, .ref m0), (1, .int p1), (2, .int p2), (4, .int v4_1)]) hx hb dX10_withinOf_69 rfl hl (by decide) rfl (fun ls hl => ?_)
            obtain ⟨x_19, ex_19⟩ : ∃ z : Int32, z = v4_1 + Int32.ofInt 1 := ⟨_, rfl⟩
            have b_x_19 : x_19.toInt = v4_1.toInt + 1 := by rw [ex_19]; exact zi_add rfl (show (Int32.ofInt 1).toInt = 1 from by decide) (z_rac b_v4_1 (by decide))
            refine lv_iinc (v := x_19) (lv' := [(4, .int x_19), (3, .int x_18), (5, .int r_16), (0, .ref m0), (1, .int p1), (2, .int p2)]) hx hb dX10_withinOf_70 hl (k := 5) rfl ex_19.symm (by decide) rfl (fun ls hl => ?_)
            refine lv_goto (tgt := 5) hx hb dX10_withinOf_73 (by decide) ?_
            exact ih_1 x_18 x_19 (by first | with_reducible assumption | omega) (by first | with_reducible assumption | omega) _ _ _ (by first | with_reducible assumption | omega) (hP.sub (ws' := (zV89 m0 m0_thrown m0_width m0_many m0_cells m0_moved m0_tape m0_taped m0_at m0_token m0_place m0_value m0_word m0_bad m0_badPlace m0_fault m0_faultPlace m0_lines m0_hours m0_courts m0_in m0_gates m0_gate m0_people m0_at0 m0_stray m0_set m0_once m0_truth m0_known m0_isKept m0_strays m0_hostPerson m0_hostCourt m0_outside m0_inside m0_can m0_fewest m0_waysTo m0_then m0_two m0_nextTwo m0_three m0_nextThree m0_shut m0_worth m0_digit m0_codes m0_most m0_bestTry m0_dayCourt m0_dayHour m0_dayNo m0_x m0_in cA_m0_in f_m0_in m0_people cA_m0_people f_m0_people m0_at0 cA_m0_at0 f_m0_at0 m0_stray cA_m0_stray f_m0_stray m0_set cA_m0_set f_m0_set m0_truth cA_m0_truth f_m0_truth)) [4, 5, 0, 1, 2, 6, 3] rfl) (hD.sub (ws' := (zV89 m0 m0_thrown m0_width m0_many m0_cells m0_moved m0_tape m0_taped m0_at m0_token m0_place m0_value m0_word m0_bad m0_badPlace m0_fault m0_faultPlace m0_lines m0_hours m0_courts m0_in m0_gates m0_gate m0_people m0_at0 m0_stray m0_set m0_once m0_truth m0_known m0_isKept m0_strays m0_hostPerson m0_hostCourt m0_outside m0_inside m0_can m0_fewest m0_waysTo m0_then m0_two m0_nextTwo m0_three m0_nextThree m0_shut m0_worth m0_digit m0_codes m0_most m0_bestTry m0_dayCourt m0_dayHour m0_dayNo m0_x m0_in cA_m0_in f_m0_in m0_people cA_m0_people f_m0_people m0_at0 cA_m0_at0 f_m0_at0 m0_stray cA_m0_stray f_m0_stray m0_set cA_m0_set f_m0_set m0_truth cA_m0_truth f_m0_truth)) [4, 5, 0, 1, 2, 6, 3] (by decide) rfl) hS (lv_sub hl [3, 4, 5, 1, 0] rfl)
          · have ic_17 := zz_neq rfl (show Int32.toInt 0 = 0 from by decide) c_17
            refine lv_iconst (v := 1) hx hb dX10_withinOf_60 (by decide) ?_
            refine lv_iload hx hb dX10_withinOf_61 (lv_at hl 5 rfl) ?_
            refine lv_ishl hx hb dX10_withinOf_63 ?_
            refine lv_topi (fun x_20 ex_20 => ?_)
            have b_x_20 : 1 ≤ x_20.toInt ∧ x_20.toInt ≤ 512 := by rw [ex_20]; exact zi_shl9 rfl (by first | with_reducible assumption | omega)
            refine lv_goto (tgt := 68) hx hb dX10_withinOf_64 (by decide) ?_
            refine lv_ior hx hb dX10_withinOf_68 ?_
            refine lv_topi (fun x_21 ex_21 => ?_)
            have b_x_21 : 0 ≤ x_21.toInt ∧ x_21.toInt ≤ 1023 := by rw [ex_21]; exact zi_or 10 rfl rfl (by first | with_reducible assumption | omega) (by first | with_reducible assumption | omega) (by decide)
            refine lv_istore_n (lv' := [(3, .int x_21), (5, .int r_16), (0, .ref m0), (1, .int p1), (2, .int p2), (4, .int v4_1)]) hx hb dX10_withinOf_69 rfl hl (by decide) rfl (fun ls hl => ?_)
            obtain ⟨x_22, ex_22⟩ : ∃ z : Int32, z = v4_1 + Int32.ofInt 1 := ⟨_, rfl⟩
            have b_x_22 : x_22.toInt = v4_1.toInt + 1 := by rw [ex_22]; exact zi_add rfl (show (Int32.ofInt 1).toInt = 1 from by decide) (z_rac b_v4_1 (by decide))
            refine lv_iinc (v := x_22) (lv' := [(4, .int x_22), (3, .int x_21), (5, .int r_16), (0, .ref m0), (1, .int p1), (2, .int p2)]) hx hb dX10_withinOf_70 hl (k := 5) rfl ex_22.symm (by decide) rfl (fun ls hl => ?_)
            refine lv_goto (tgt := 5) hx hb dX10_withinOf_73 (by decide) ?_
            exact ih_1 x_21 x_22 (by first | with_reducible assumption | omega) (by first | with_reducible assumption | omega) _ _ _ (by first | with_reducible assumption | omega) (hP.sub (ws' := (zV89 m0 m0_thrown m0_width m0_many m0_cells m0_moved m0_tape m0_taped m0_at m0_token m0_place m0_value m0_word m0_bad m0_badPlace m0_fault m0_faultPlace m0_lines m0_hours m0_courts m0_in m0_gates m0_gate m0_people m0_at0 m0_stray m0_set m0_once m0_truth m0_known m0_isKept m0_strays m0_hostPerson m0_hostCourt m0_outside m0_inside m0_can m0_fewest m0_waysTo m0_then m0_two m0_nextTwo m0_three m0_nextThree m0_shut m0_worth m0_digit m0_codes m0_most m0_bestTry m0_dayCourt m0_dayHour m0_dayNo m0_x m0_in cA_m0_in f_m0_in m0_people cA_m0_people f_m0_people m0_at0 cA_m0_at0 f_m0_at0 m0_stray cA_m0_stray f_m0_stray m0_set cA_m0_set f_m0_set m0_truth cA_m0_truth f_m0_truth)) [4, 5, 0, 1, 2, 6, 3] rfl) (hD.sub (ws' := (zV89 m0 m0_thrown m0_width m0_many m0_cells m0_moved m0_tape m0_taped m0_at m0_token m0_place m0_value m0_word m0_bad m0_badPlace m0_fault m0_faultPlace m0_lines m0_hours m0_courts m0_in m0_gates m0_gate m0_people m0_at0 m0_stray m0_set m0_once m0_truth m0_known m0_isKept m0_strays m0_hostPerson m0_hostCourt m0_outside m0_inside m0_can m0_fewest m0_waysTo m0_then m0_two m0_nextTwo m0_three m0_nextThree m0_shut m0_worth m0_digit m0_codes m0_most m0_bestTry m0_dayCourt m0_dayHour m0_dayNo m0_x m0_in cA_m0_in f_m0_in m0_people cA_m0_people f_m0_people m0_at0 cA_m0_at0 f_m0_at0 m0_stray cA_m0_stray f_m0_stray m0_set cA_m0_set f_m0_set m0_truth cA_m0_truth f_m0_truth)) [4, 5, 0, 1, 2, 6, 3] (by decide) rfl) hS (lv_sub hl [3, 4, 5, 1, 0] rfl)
  exact loop_1 12 (0) (0) (by decide) (by decide) _ _ _ (by decide) hP hD hS (lv_sub hl [2, 3, 4, 1, 0] rfl)
