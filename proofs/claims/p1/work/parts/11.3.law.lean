theorem zw_t5_178 : Cond.methodLink RL 190 yX9_sure ∈ zT := zt_5 (List.mem_of_getElem? (i := 178) (by decide +kernel)) (by decide +kernel)
theorem zw_t5_179 : Cond.instanceMethod yX9_sure ∈ zT := zt_5 (List.mem_of_getElem? (i := 179) (by decide +kernel)) (by decide +kernel)
theorem zw_t5_180 : Cond.selects RX9 yX9_sure yX9_sure ∈ zT := zt_5 (List.mem_of_getElem? (i := 180) (by decide +kernel)) (by decide +kernel)
theorem zw_t5_181 : Cond.code yX9_sure cX9_sure 5 (some .long) ∈ zT := zt_5 (List.mem_of_getElem? (i := 181) (by decide +kernel)) (by decide +kernel)
theorem zw_t5_192 : Cond.methodLink RL 194 yX9_list ∈ zT := zt_5 (List.mem_of_getElem? (i := 192) (by decide +kernel)) (by decide +kernel)
theorem zw_t5_202 : Cond.methodLink RL 198 yX9_price ∈ zT := zt_5 (List.mem_of_getElem? (i := 202) (by decide +kernel)) (by decide +kernel)
theorem zw_t5_203 : Cond.instanceMethod yX9_price ∈ zT := zt_5 (List.mem_of_getElem? (i := 203) (by decide +kernel)) (by decide +kernel)
theorem zw_t5_204 : Cond.selects RX9 yX9_price yX9_price ∈ zT := zt_5 (List.mem_of_getElem? (i := 204) (by decide +kernel)) (by decide +kernel)
theorem zw_t5_205 : Cond.code yX9_price cX9_price 7 (some .long) ∈ zT := zt_5 (List.mem_of_getElem? (i := 205) (by decide +kernel)) (by decide +kernel)
theorem zw_t5_207 : Cond.methodLink RL 202 yX9_begin ∈ zT := zt_5 (List.mem_of_getElem? (i := 207) (by decide +kernel)) (by decide +kernel)
theorem zw_t5_208 : Cond.instanceMethod yX9_begin ∈ zT := zt_5 (List.mem_of_getElem? (i := 208) (by decide +kernel)) (by decide +kernel)
theorem zw_t5_209 : Cond.selects RX9 yX9_begin yX9_begin ∈ zT := zt_5 (List.mem_of_getElem? (i := 209) (by decide +kernel)) (by decide +kernel)
theorem zw_t5_210 : Cond.code yX9_begin cX9_begin 6 (some .int) ∈ zT := zt_5 (List.mem_of_getElem? (i := 210) (by decide +kernel)) (by decide +kernel)
theorem zw_t5_211 : Cond.methodLink RL 206 yX9_judge ∈ zT := zt_5 (List.mem_of_getElem? (i := 211) (by decide +kernel)) (by decide +kernel)
theorem zw_t5_212 : Cond.instanceMethod yX9_judge ∈ zT := zt_5 (List.mem_of_getElem? (i := 212) (by decide +kernel)) (by decide +kernel)
theorem zw_t5_213 : Cond.selects RX9 yX9_judge yX9_judge ∈ zT := zt_5 (List.mem_of_getElem? (i := 213) (by decide +kernel)) (by decide +kernel)
theorem zw_t5_214 : Cond.code yX9_judge cX9_judge 3 (some .int) ∈ zT := zt_5 (List.mem_of_getElem? (i := 214) (by decide +kernel)) (by decide +kernel)
theorem zw_t6_10 : Cond.methodLink RL 214 yX9_draw ∈ zT := zt_6 (List.mem_of_getElem? (i := 10) (by decide +kernel)) (by decide +kernel)
theorem zw_t6_11 : Cond.instanceMethod yX9_draw ∈ zT := zt_6 (List.mem_of_getElem? (i := 11) (by decide +kernel)) (by decide +kernel)
theorem zw_t6_12 : Cond.selects RX9 yX9_draw yX9_draw ∈ zT := zt_6 (List.mem_of_getElem? (i := 12) (by decide +kernel)) (by decide +kernel)
theorem zw_t6_13 : Cond.code yX9_draw cX9_draw 2 (some .int) ∈ zT := zt_6 (List.mem_of_getElem? (i := 13) (by decide +kernel)) (by decide +kernel)
theorem zw_t6_23 : Cond.methodLink RL 218 yX9_days ∈ zT := zt_6 (List.mem_of_getElem? (i := 23) (by decide +kernel)) (by decide +kernel)
theorem zw_t6_24 : Cond.instanceMethod yX9_days ∈ zT := zt_6 (List.mem_of_getElem? (i := 24) (by decide +kernel)) (by decide +kernel)
theorem zw_t6_25 : Cond.selects RX9 yX9_days yX9_days ∈ zT := zt_6 (List.mem_of_getElem? (i := 25) (by decide +kernel)) (by decide +kernel)
theorem zw_t6_26 : Cond.code yX9_days cX9_days 9 (some .int) ∈ zT := zt_6 (List.mem_of_getElem? (i := 26) (by decide +kernel)) (by decide +kernel)
theorem zw_t6_44 : Cond.methodLink RL 222 yX9_count ∈ zT := zt_6 (List.mem_of_getElem? (i := 44) (by decide +kernel)) (by decide +kernel)
theorem zw_t6_45 : Cond.instanceMethod yX9_count ∈ zT := zt_6 (List.mem_of_getElem? (i := 45) (by decide +kernel)) (by decide +kernel)
theorem zw_t6_46 : Cond.selects RX9 yX9_count yX9_count ∈ zT := zt_6 (List.mem_of_getElem? (i := 46) (by decide +kernel)) (by decide +kernel)
theorem zw_t6_47 : Cond.code yX9_count cX9_count 3 (some .int) ∈ zT := zt_6 (List.mem_of_getElem? (i := 47) (by decide +kernel)) (by decide +kernel)
theorem zw_t6_52 : Cond.methodLink RL 226 yX9_keep ∈ zT := zt_6 (List.mem_of_getElem? (i := 52) (by decide +kernel)) (by decide +kernel)
theorem zw_t6_53 : Cond.instanceMethod yX9_keep ∈ zT := zt_6 (List.mem_of_getElem? (i := 53) (by decide +kernel)) (by decide +kernel)
theorem zw_t6_54 : Cond.selects RX9 yX9_keep yX9_keep ∈ zT := zt_6 (List.mem_of_getElem? (i := 54) (by decide +kernel)) (by decide +kernel)
theorem zw_t6_55 : Cond.code yX9_keep cX9_keep 2 (some .int) ∈ zT := zt_6 (List.mem_of_getElem? (i := 55) (by decide +kernel)) (by decide +kernel)
theorem zw_t6_6 : Cond.methodLink RL 210 yX9_ends ∈ zT := zt_6 (List.mem_of_getElem? (i := 6) (by decide +kernel)) (by decide +kernel)
theorem zw_t6_63 : Cond.methodLink RL 230 yX9_back ∈ zT := zt_6 (List.mem_of_getElem? (i := 63) (by decide +kernel)) (by decide +kernel)
theorem zw_t6_64 : Cond.instanceMethod yX9_back ∈ zT := zt_6 (List.mem_of_getElem? (i := 64) (by decide +kernel)) (by decide +kernel)
theorem zw_t6_65 : Cond.selects RX9 yX9_back yX9_back ∈ zT := zt_6 (List.mem_of_getElem? (i := 65) (by decide +kernel)) (by decide +kernel)
theorem zw_t6_66 : Cond.code yX9_back cX9_back 2 (some .int) ∈ zT := zt_6 (List.mem_of_getElem? (i := 66) (by decide +kernel)) (by decide +kernel)
theorem zw_t6_67 : Cond.methodLink RL 234 yX9_row ∈ zT := zt_6 (List.mem_of_getElem? (i := 67) (by decide +kernel)) (by decide +kernel)
theorem zw_t6_68 : Cond.instanceMethod yX9_row ∈ zT := zt_6 (List.mem_of_getElem? (i := 68) (by decide +kernel)) (by decide +kernel)
theorem zw_t6_69 : Cond.selects RX9 yX9_row yX9_row ∈ zT := zt_6 (List.mem_of_getElem? (i := 69) (by decide +kernel)) (by decide +kernel)
theorem zw_t6_7 : Cond.instanceMethod yX9_ends ∈ zT := zt_6 (List.mem_of_getElem? (i := 7) (by decide +kernel)) (by decide +kernel)
theorem zw_t6_70 : Cond.code yX9_row cX9_row 4 (some .int) ∈ zT := zt_6 (List.mem_of_getElem? (i := 70) (by decide +kernel)) (by decide +kernel)
theorem zw_t6_76 : Cond.methodLink RL 240 yX9_write ∈ zT := zt_6 (List.mem_of_getElem? (i := 76) (by decide +kernel)) (by decide +kernel)
theorem zw_t6_77 : Cond.instanceMethod yX9_write ∈ zT := zt_6 (List.mem_of_getElem? (i := 77) (by decide +kernel)) (by decide +kernel)
theorem zw_t6_78 : Cond.selects RX9 yX9_write yX9_write ∈ zT := zt_6 (List.mem_of_getElem? (i := 78) (by decide +kernel)) (by decide +kernel)
theorem zw_t6_79 : Cond.code yX9_write cX9_write 6 (some .int) ∈ zT := zt_6 (List.mem_of_getElem? (i := 79) (by decide +kernel)) (by decide +kernel)
theorem zw_t6_8 : Cond.selects RX9 yX9_ends yX9_ends ∈ zT := zt_6 (List.mem_of_getElem? (i := 8) (by decide +kernel)) (by decide +kernel)
theorem zw_t6_88 : Cond.methodLink RL 245 yX9_paste ∈ zT := zt_6 (List.mem_of_getElem? (i := 88) (by decide +kernel)) (by decide +kernel)
theorem zw_t6_89 : Cond.instanceMethod yX9_paste ∈ zT := zt_6 (List.mem_of_getElem? (i := 89) (by decide +kernel)) (by decide +kernel)
theorem zw_t6_9 : Cond.code yX9_ends cX9_ends 4 (some .int) ∈ zT := zt_6 (List.mem_of_getElem? (i := 9) (by decide +kernel)) (by decide +kernel)
theorem zw_t6_90 : Cond.selects RX9 yX9_paste yX9_paste ∈ zT := zt_6 (List.mem_of_getElem? (i := 90) (by decide +kernel)) (by decide +kernel)
theorem zw_t6_91 : Cond.code yX9_paste cX9_paste 8 (some .int) ∈ zT := zt_6 (List.mem_of_getElem? (i := 91) (by decide +kernel)) (by decide +kernel)
theorem zw_t7_21 : Cond.methodLink RL 237 yX10_row ∈ zT := zt_7 (List.mem_of_getElem? (i := 21) (by decide +kernel)) (by decide +kernel)
theorem zw_t7_22 : Cond.instanceMethod yX10_row ∈ zT := zt_7 (List.mem_of_getElem? (i := 22) (by decide +kernel)) (by decide +kernel)
theorem zw_t7_23 : Cond.selects RX10 yX10_row yX10_row ∈ zT := zt_7 (List.mem_of_getElem? (i := 23) (by decide +kernel)) (by decide +kernel)
theorem zw_t7_24 : Cond.code yX10_row cX10_row 5 (some .int) ∈ zT := zt_7 (List.mem_of_getElem? (i := 24) (by decide +kernel)) (by decide +kernel)
theorem zw_t7_32 : Cond.methodLink RL 244 yX10_write ∈ zT := zt_7 (List.mem_of_getElem? (i := 32) (by decide +kernel)) (by decide +kernel)
theorem zw_t7_33 : Cond.instanceMethod yX10_write ∈ zT := zt_7 (List.mem_of_getElem? (i := 33) (by decide +kernel)) (by decide +kernel)
theorem zw_t7_34 : Cond.selects RX10 yX10_write yX10_write ∈ zT := zt_7 (List.mem_of_getElem? (i := 34) (by decide +kernel)) (by decide +kernel)
theorem zw_t7_35 : Cond.code yX10_write cX10_write 5 (some .int) ∈ zT := zt_7 (List.mem_of_getElem? (i := 35) (by decide +kernel)) (by decide +kernel)
theorem zw_t7_39 : Cond.methodLink RL 248 yX10_paste ∈ zT := zt_7 (List.mem_of_getElem? (i := 39) (by decide +kernel)) (by decide +kernel)
theorem zw_t7_40 : Cond.instanceMethod yX10_paste ∈ zT := zt_7 (List.mem_of_getElem? (i := 40) (by decide +kernel)) (by decide +kernel)
theorem zw_t7_41 : Cond.selects RX10 yX10_paste yX10_paste ∈ zT := zt_7 (List.mem_of_getElem? (i := 41) (by decide +kernel)) (by decide +kernel)
theorem zw_t7_42 : Cond.code yX10_paste cX10_paste 7 (some .int) ∈ zT := zt_7 (List.mem_of_getElem? (i := 42) (by decide +kernel)) (by decide +kernel)
theorem zw_t8_230 : Cond.methodLink RL 193 yX10_sure ∈ zT := zt_8 (List.mem_of_getElem? (i := 230) (by decide +kernel)) (by decide +kernel)
theorem zw_t8_231 : Cond.instanceMethod yX10_sure ∈ zT := zt_8 (List.mem_of_getElem? (i := 231) (by decide +kernel)) (by decide +kernel)
theorem zw_t8_232 : Cond.selects RX10 yX10_sure yX10_sure ∈ zT := zt_8 (List.mem_of_getElem? (i := 232) (by decide +kernel)) (by decide +kernel)
theorem zw_t8_233 : Cond.code yX10_sure cX10_sure 5 (some .long) ∈ zT := zt_8 (List.mem_of_getElem? (i := 233) (by decide +kernel)) (by decide +kernel)
theorem zw_t8_234 : Cond.methodLink RL 197 yX10_list ∈ zT := zt_8 (List.mem_of_getElem? (i := 234) (by decide +kernel)) (by decide +kernel)
theorem zw_t8_235 : Cond.instanceMethod yX10_list ∈ zT := zt_8 (List.mem_of_getElem? (i := 235) (by decide +kernel)) (by decide +kernel)
theorem zw_t8_236 : Cond.selects RX10 yX10_list yX10_list ∈ zT := zt_8 (List.mem_of_getElem? (i := 236) (by decide +kernel)) (by decide +kernel)
theorem zw_t8_237 : Cond.code yX10_list cX10_list 5 (some .long) ∈ zT := zt_8 (List.mem_of_getElem? (i := 237) (by decide +kernel)) (by decide +kernel)
theorem zw_t9_2 : Cond.methodLink RL 201 yX10_price ∈ zT := zt_9 (List.mem_of_getElem? (i := 2) (by decide +kernel)) (by decide +kernel)
theorem zw_t9_23 : Cond.methodLink RL 205 yX10_begin ∈ zT := zt_9 (List.mem_of_getElem? (i := 23) (by decide +kernel)) (by decide +kernel)
theorem zw_t9_24 : Cond.instanceMethod yX10_begin ∈ zT := zt_9 (List.mem_of_getElem? (i := 24) (by decide +kernel)) (by decide +kernel)
theorem zw_t9_25 : Cond.selects RX10 yX10_begin yX10_begin ∈ zT := zt_9 (List.mem_of_getElem? (i := 25) (by decide +kernel)) (by decide +kernel)
theorem zw_t9_26 : Cond.code yX10_begin cX10_begin 7 (some .int) ∈ zT := zt_9 (List.mem_of_getElem? (i := 26) (by decide +kernel)) (by decide +kernel)
theorem zw_t9_27 : Cond.methodLink RL 209 yX10_judge ∈ zT := zt_9 (List.mem_of_getElem? (i := 27) (by decide +kernel)) (by decide +kernel)
theorem zw_t9_28 : Cond.instanceMethod yX10_judge ∈ zT := zt_9 (List.mem_of_getElem? (i := 28) (by decide +kernel)) (by decide +kernel)
theorem zw_t9_29 : Cond.selects RX10 yX10_judge yX10_judge ∈ zT := zt_9 (List.mem_of_getElem? (i := 29) (by decide +kernel)) (by decide +kernel)
theorem zw_t9_3 : Cond.instanceMethod yX10_price ∈ zT := zt_9 (List.mem_of_getElem? (i := 3) (by decide +kernel)) (by decide +kernel)
theorem zw_t9_30 : Cond.code yX10_judge cX10_judge 3 (some .int) ∈ zT := zt_9 (List.mem_of_getElem? (i := 30) (by decide +kernel)) (by decide +kernel)
theorem zw_t9_4 : Cond.selects RX10 yX10_price yX10_price ∈ zT := zt_9 (List.mem_of_getElem? (i := 4) (by decide +kernel)) (by decide +kernel)
theorem zw_t9_44 : Cond.methodLink RL 213 yX10_ends_ ∈ zT := zt_9 (List.mem_of_getElem? (i := 44) (by decide +kernel)) (by decide +kernel)
theorem zw_t9_45 : Cond.instanceMethod yX10_ends_ ∈ zT := zt_9 (List.mem_of_getElem? (i := 45) (by decide +kernel)) (by decide +kernel)
theorem zw_t9_46 : Cond.selects RX10 yX10_ends_ yX10_ends_ ∈ zT := zt_9 (List.mem_of_getElem? (i := 46) (by decide +kernel)) (by decide +kernel)
theorem zw_t9_47 : Cond.code yX10_ends_ cX10_ends_ 4 (some .int) ∈ zT := zt_9 (List.mem_of_getElem? (i := 47) (by decide +kernel)) (by decide +kernel)
theorem zw_t9_48 : Cond.methodLink RL 217 yX10_draw ∈ zT := zt_9 (List.mem_of_getElem? (i := 48) (by decide +kernel)) (by decide +kernel)
theorem zw_t9_49 : Cond.instanceMethod yX10_draw ∈ zT := zt_9 (List.mem_of_getElem? (i := 49) (by decide +kernel)) (by decide +kernel)
theorem zw_t9_5 : Cond.code yX10_price cX10_price 5 (some .long) ∈ zT := zt_9 (List.mem_of_getElem? (i := 5) (by decide +kernel)) (by decide +kernel)
theorem zw_t9_50 : Cond.selects RX10 yX10_draw yX10_draw ∈ zT := zt_9 (List.mem_of_getElem? (i := 50) (by decide +kernel)) (by decide +kernel)
theorem zw_t9_51 : Cond.code yX10_draw cX10_draw 2 (some .int) ∈ zT := zt_9 (List.mem_of_getElem? (i := 51) (by decide +kernel)) (by decide +kernel)
theorem zw_t9_68 : Cond.methodLink RL 221 yX10_days ∈ zT := zt_9 (List.mem_of_getElem? (i := 68) (by decide +kernel)) (by decide +kernel)
theorem zw_t9_69 : Cond.instanceMethod yX10_days ∈ zT := zt_9 (List.mem_of_getElem? (i := 69) (by decide +kernel)) (by decide +kernel)
theorem zw_t9_70 : Cond.selects RX10 yX10_days yX10_days ∈ zT := zt_9 (List.mem_of_getElem? (i := 70) (by decide +kernel)) (by decide +kernel)
theorem zw_t9_71 : Cond.code yX10_days cX10_days 9 (some .int) ∈ zT := zt_9 (List.mem_of_getElem? (i := 71) (by decide +kernel)) (by decide +kernel)
theorem zw_t9_76 : Cond.methodLink RL 225 yX10_count ∈ zT := zt_9 (List.mem_of_getElem? (i := 76) (by decide +kernel)) (by decide +kernel)
theorem zw_t9_77 : Cond.instanceMethod yX10_count ∈ zT := zt_9 (List.mem_of_getElem? (i := 77) (by decide +kernel)) (by decide +kernel)
theorem zw_t9_78 : Cond.selects RX10 yX10_count yX10_count ∈ zT := zt_9 (List.mem_of_getElem? (i := 78) (by decide +kernel)) (by decide +kernel)
theorem zw_t9_79 : Cond.code yX10_count cX10_count 4 (some .int) ∈ zT := zt_9 (List.mem_of_getElem? (i := 79) (by decide +kernel)) (by decide +kernel)
theorem zw_t9_80 : Cond.methodLink RL 229 yX10_keep ∈ zT := zt_9 (List.mem_of_getElem? (i := 80) (by decide +kernel)) (by decide +kernel)
theorem zw_t9_81 : Cond.instanceMethod yX10_keep ∈ zT := zt_9 (List.mem_of_getElem? (i := 81) (by decide +kernel)) (by decide +kernel)
theorem zw_t9_82 : Cond.selects RX10 yX10_keep yX10_keep ∈ zT := zt_9 (List.mem_of_getElem? (i := 82) (by decide +kernel)) (by decide +kernel)
theorem zw_t9_83 : Cond.code yX10_keep cX10_keep 2 (some .int) ∈ zT := zt_9 (List.mem_of_getElem? (i := 83) (by decide +kernel)) (by decide +kernel)
theorem zw_t9_84 : Cond.methodLink RL 233 yX10_back ∈ zT := zt_9 (List.mem_of_getElem? (i := 84) (by decide +kernel)) (by decide +kernel)
theorem zw_t9_85 : Cond.instanceMethod yX10_back ∈ zT := zt_9 (List.mem_of_getElem? (i := 85) (by decide +kernel)) (by decide +kernel)
theorem zw_t9_86 : Cond.selects RX10 yX10_back yX10_back ∈ zT := zt_9 (List.mem_of_getElem? (i := 86) (by decide +kernel)) (by decide +kernel)
theorem zw_t9_87 : Cond.code yX10_back cX10_back 2 (some .int) ∈ zT := zt_9 (List.mem_of_getElem? (i := 87) (by decide +kernel)) (by decide +kernel)
theorem zw_t9_88 : Cond.constantLong RL 238 (4294967295) ∈ zT := zt_9 (List.mem_of_getElem? (i := 88) (by decide +kernel)) (by decide +kernel)
theorem dL_law_2046 : decode cL_law 2046 = .ok (.aload_n 1, 1) := by decide +kernel
theorem dL_law_2047 : decode cL_law 2047 = .ok (.aload_n 0, 1) := by decide +kernel
theorem dL_law_2048 : decode cL_law 2048 = .ok (.iload_n 3, 1) := by decide +kernel
theorem dL_law_2049 : decode cL_law 2049 = .ok (.iconst 1, 1) := by decide +kernel
theorem dL_law_2050 : decode cL_law 2050 = .ok (.iadd, 1) := by decide +kernel
theorem dL_law_2051 : decode cL_law 2051 = .ok (.iaload, 1) := by decide +kernel
theorem dL_law_2052 : decode cL_law 2052 = .ok (.aload_n 0, 1) := by decide +kernel
theorem dL_law_2053 : decode cL_law 2053 = .ok (.iload_n 3, 1) := by decide +kernel
theorem dL_law_2054 : decode cL_law 2054 = .ok (.iconst 2, 1) := by decide +kernel
theorem dL_law_2055 : decode cL_law 2055 = .ok (.iadd, 1) := by decide +kernel
theorem dL_law_2056 : decode cL_law 2056 = .ok (.iaload, 1) := by decide +kernel
theorem dL_law_2057 : decode cL_law 2057 = .ok (.aload_n 0, 1) := by decide +kernel
theorem dL_law_2058 : decode cL_law 2058 = .ok (.iload_n 3, 1) := by decide +kernel
theorem dL_law_2059 : decode cL_law 2059 = .ok (.iconst 3, 1) := by decide +kernel
theorem dL_law_2060 : decode cL_law 2060 = .ok (.iadd, 1) := by decide +kernel
theorem dL_law_2061 : decode cL_law 2061 = .ok (.iaload, 1) := by decide +kernel
theorem dL_law_2062 : decode cL_law 2062 = .ok (.aload_n 0, 1) := by decide +kernel
theorem dL_law_2063 : decode cL_law 2063 = .ok (.iload_n 3, 1) := by decide +kernel
theorem dL_law_2064 : decode cL_law 2064 = .ok (.iconst 4, 1) := by decide +kernel
theorem dL_law_2065 : decode cL_law 2065 = .ok (.iadd, 1) := by decide +kernel
theorem dL_law_2066 : decode cL_law 2066 = .ok (.iaload, 1) := by decide +kernel
theorem dL_law_2067 : decode cL_law 2067 = .ok (.invokevirtual 190, 3) := by decide +kernel
theorem dL_law_2070 : decode cL_law 2070 = .ok (.aload_n 2, 1) := by decide +kernel
theorem dL_law_2071 : decode cL_law 2071 = .ok (.aload_n 0, 1) := by decide +kernel
theorem dL_law_2072 : decode cL_law 2072 = .ok (.iload_n 3, 1) := by decide +kernel
theorem dL_law_2073 : decode cL_law 2073 = .ok (.iconst 1, 1) := by decide +kernel
theorem dL_law_2074 : decode cL_law 2074 = .ok (.iadd, 1) := by decide +kernel
theorem dL_law_2075 : decode cL_law 2075 = .ok (.iaload, 1) := by decide +kernel
theorem dL_law_2076 : decode cL_law 2076 = .ok (.aload_n 0, 1) := by decide +kernel
theorem dL_law_2077 : decode cL_law 2077 = .ok (.iload_n 3, 1) := by decide +kernel
theorem dL_law_2078 : decode cL_law 2078 = .ok (.iconst 2, 1) := by decide +kernel
theorem dL_law_2079 : decode cL_law 2079 = .ok (.iadd, 1) := by decide +kernel
theorem dL_law_2080 : decode cL_law 2080 = .ok (.iaload, 1) := by decide +kernel
theorem dL_law_2081 : decode cL_law 2081 = .ok (.aload_n 0, 1) := by decide +kernel
theorem dL_law_2082 : decode cL_law 2082 = .ok (.iload_n 3, 1) := by decide +kernel
theorem dL_law_2083 : decode cL_law 2083 = .ok (.iconst 3, 1) := by decide +kernel
theorem dL_law_2084 : decode cL_law 2084 = .ok (.iadd, 1) := by decide +kernel
theorem dL_law_2085 : decode cL_law 2085 = .ok (.iaload, 1) := by decide +kernel
theorem dL_law_2086 : decode cL_law 2086 = .ok (.aload_n 0, 1) := by decide +kernel
theorem dL_law_2087 : decode cL_law 2087 = .ok (.iload_n 3, 1) := by decide +kernel
theorem dL_law_2088 : decode cL_law 2088 = .ok (.iconst 4, 1) := by decide +kernel
theorem dL_law_2089 : decode cL_law 2089 = .ok (.iadd, 1) := by decide +kernel
theorem dL_law_2090 : decode cL_law 2090 = .ok (.iaload, 1) := by decide +kernel
theorem dL_law_2091 : decode cL_law 2091 = .ok (.invokevirtual 193, 3) := by decide +kernel
theorem dL_law_2094 : decode cL_law 2094 = .ok (.lcmp, 1) := by decide +kernel
theorem dL_law_2095 : decode cL_law 2095 = .ok (.ifCond .eq 556, 3) := by decide +kernel
theorem dL_law_2100 : decode cL_law 2100 = .ok (.aload_n 1, 1) := by decide +kernel
theorem dL_law_2101 : decode cL_law 2101 = .ok (.aload_n 0, 1) := by decide +kernel
theorem dL_law_2102 : decode cL_law 2102 = .ok (.iload_n 3, 1) := by decide +kernel
theorem dL_law_2103 : decode cL_law 2103 = .ok (.iconst 1, 1) := by decide +kernel
theorem dL_law_2104 : decode cL_law 2104 = .ok (.iadd, 1) := by decide +kernel
theorem dL_law_2105 : decode cL_law 2105 = .ok (.iaload, 1) := by decide +kernel
theorem dL_law_2106 : decode cL_law 2106 = .ok (.aload_n 0, 1) := by decide +kernel
theorem dL_law_2107 : decode cL_law 2107 = .ok (.iload_n 3, 1) := by decide +kernel
theorem dL_law_2108 : decode cL_law 2108 = .ok (.iconst 2, 1) := by decide +kernel
theorem dL_law_2109 : decode cL_law 2109 = .ok (.iadd, 1) := by decide +kernel
theorem dL_law_2110 : decode cL_law 2110 = .ok (.iaload, 1) := by decide +kernel
theorem dL_law_2111 : decode cL_law 2111 = .ok (.aload_n 0, 1) := by decide +kernel
theorem dL_law_2112 : decode cL_law 2112 = .ok (.iload_n 3, 1) := by decide +kernel
theorem dL_law_2113 : decode cL_law 2113 = .ok (.iconst 3, 1) := by decide +kernel
theorem dL_law_2114 : decode cL_law 2114 = .ok (.iadd, 1) := by decide +kernel
theorem dL_law_2115 : decode cL_law 2115 = .ok (.iaload, 1) := by decide +kernel
theorem dL_law_2116 : decode cL_law 2116 = .ok (.aload_n 0, 1) := by decide +kernel
theorem dL_law_2117 : decode cL_law 2117 = .ok (.iload_n 3, 1) := by decide +kernel
theorem dL_law_2118 : decode cL_law 2118 = .ok (.iconst 4, 1) := by decide +kernel
theorem dL_law_2119 : decode cL_law 2119 = .ok (.iadd, 1) := by decide +kernel
theorem dL_law_2120 : decode cL_law 2120 = .ok (.iaload, 1) := by decide +kernel
theorem dL_law_2121 : decode cL_law 2121 = .ok (.invokevirtual 194, 3) := by decide +kernel
theorem dL_law_2124 : decode cL_law 2124 = .ok (.aload_n 2, 1) := by decide +kernel
theorem dL_law_2125 : decode cL_law 2125 = .ok (.aload_n 0, 1) := by decide +kernel
theorem dL_law_2126 : decode cL_law 2126 = .ok (.iload_n 3, 1) := by decide +kernel
theorem dL_law_2127 : decode cL_law 2127 = .ok (.iconst 1, 1) := by decide +kernel
theorem dL_law_2128 : decode cL_law 2128 = .ok (.iadd, 1) := by decide +kernel
theorem dL_law_2129 : decode cL_law 2129 = .ok (.iaload, 1) := by decide +kernel
theorem dL_law_2130 : decode cL_law 2130 = .ok (.aload_n 0, 1) := by decide +kernel
theorem dL_law_2131 : decode cL_law 2131 = .ok (.iload_n 3, 1) := by decide +kernel
theorem dL_law_2132 : decode cL_law 2132 = .ok (.iconst 2, 1) := by decide +kernel
theorem dL_law_2133 : decode cL_law 2133 = .ok (.iadd, 1) := by decide +kernel
theorem dL_law_2134 : decode cL_law 2134 = .ok (.iaload, 1) := by decide +kernel
theorem dL_law_2135 : decode cL_law 2135 = .ok (.aload_n 0, 1) := by decide +kernel
theorem dL_law_2136 : decode cL_law 2136 = .ok (.iload_n 3, 1) := by decide +kernel
theorem dL_law_2137 : decode cL_law 2137 = .ok (.iconst 3, 1) := by decide +kernel
theorem dL_law_2138 : decode cL_law 2138 = .ok (.iadd, 1) := by decide +kernel
theorem dL_law_2139 : decode cL_law 2139 = .ok (.iaload, 1) := by decide +kernel
theorem dL_law_2140 : decode cL_law 2140 = .ok (.aload_n 0, 1) := by decide +kernel
theorem dL_law_2141 : decode cL_law 2141 = .ok (.iload_n 3, 1) := by decide +kernel
theorem dL_law_2142 : decode cL_law 2142 = .ok (.iconst 4, 1) := by decide +kernel
theorem dL_law_2143 : decode cL_law 2143 = .ok (.iadd, 1) := by decide +kernel
theorem dL_law_2144 : decode cL_law 2144 = .ok (.iaload, 1) := by decide +kernel
theorem dL_law_2145 : decode cL_law 2145 = .ok (.invokevirtual 197, 3) := by decide +kernel
theorem dL_law_2148 : decode cL_law 2148 = .ok (.lcmp, 1) := by decide +kernel
theorem dL_law_2149 : decode cL_law 2149 = .ok (.ifCond .eq 502, 3) := by decide +kernel
theorem dL_law_2154 : decode cL_law 2154 = .ok (.aload_n 1, 1) := by decide +kernel
theorem dL_law_2155 : decode cL_law 2155 = .ok (.aload_n 0, 1) := by decide +kernel
theorem dL_law_2156 : decode cL_law 2156 = .ok (.iload_n 3, 1) := by decide +kernel
theorem dL_law_2157 : decode cL_law 2157 = .ok (.iconst 1, 1) := by decide +kernel
theorem dL_law_2158 : decode cL_law 2158 = .ok (.iadd, 1) := by decide +kernel
theorem dL_law_2159 : decode cL_law 2159 = .ok (.iaload, 1) := by decide +kernel
theorem dL_law_2160 : decode cL_law 2160 = .ok (.aload_n 0, 1) := by decide +kernel
theorem dL_law_2161 : decode cL_law 2161 = .ok (.iload_n 3, 1) := by decide +kernel
theorem dL_law_2162 : decode cL_law 2162 = .ok (.iconst 2, 1) := by decide +kernel
theorem dL_law_2163 : decode cL_law 2163 = .ok (.iadd, 1) := by decide +kernel
theorem dL_law_2164 : decode cL_law 2164 = .ok (.iaload, 1) := by decide +kernel
theorem dL_law_2165 : decode cL_law 2165 = .ok (.aload_n 0, 1) := by decide +kernel
theorem dL_law_2166 : decode cL_law 2166 = .ok (.iload_n 3, 1) := by decide +kernel
theorem dL_law_2167 : decode cL_law 2167 = .ok (.iconst 3, 1) := by decide +kernel
theorem dL_law_2168 : decode cL_law 2168 = .ok (.iadd, 1) := by decide +kernel
theorem dL_law_2169 : decode cL_law 2169 = .ok (.iaload, 1) := by decide +kernel
theorem dL_law_2170 : decode cL_law 2170 = .ok (.aload_n 0, 1) := by decide +kernel
theorem dL_law_2171 : decode cL_law 2171 = .ok (.iload_n 3, 1) := by decide +kernel
theorem dL_law_2172 : decode cL_law 2172 = .ok (.iconst 4, 1) := by decide +kernel
theorem dL_law_2173 : decode cL_law 2173 = .ok (.iadd, 1) := by decide +kernel
theorem dL_law_2174 : decode cL_law 2174 = .ok (.iaload, 1) := by decide +kernel
theorem dL_law_2175 : decode cL_law 2175 = .ok (.invokevirtual 198, 3) := by decide +kernel
theorem dL_law_2178 : decode cL_law 2178 = .ok (.aload_n 2, 1) := by decide +kernel
theorem dL_law_2179 : decode cL_law 2179 = .ok (.aload_n 0, 1) := by decide +kernel
theorem dL_law_2180 : decode cL_law 2180 = .ok (.iload_n 3, 1) := by decide +kernel
theorem dL_law_2181 : decode cL_law 2181 = .ok (.iconst 1, 1) := by decide +kernel
theorem dL_law_2182 : decode cL_law 2182 = .ok (.iadd, 1) := by decide +kernel
theorem dL_law_2183 : decode cL_law 2183 = .ok (.iaload, 1) := by decide +kernel
theorem dL_law_2184 : decode cL_law 2184 = .ok (.aload_n 0, 1) := by decide +kernel
theorem dL_law_2185 : decode cL_law 2185 = .ok (.iload_n 3, 1) := by decide +kernel
theorem dL_law_2186 : decode cL_law 2186 = .ok (.iconst 2, 1) := by decide +kernel
theorem dL_law_2187 : decode cL_law 2187 = .ok (.iadd, 1) := by decide +kernel
theorem dL_law_2188 : decode cL_law 2188 = .ok (.iaload, 1) := by decide +kernel
theorem dL_law_2189 : decode cL_law 2189 = .ok (.aload_n 0, 1) := by decide +kernel
theorem dL_law_2190 : decode cL_law 2190 = .ok (.iload_n 3, 1) := by decide +kernel
theorem dL_law_2191 : decode cL_law 2191 = .ok (.iconst 3, 1) := by decide +kernel
theorem dL_law_2192 : decode cL_law 2192 = .ok (.iadd, 1) := by decide +kernel
theorem dL_law_2193 : decode cL_law 2193 = .ok (.iaload, 1) := by decide +kernel
theorem dL_law_2194 : decode cL_law 2194 = .ok (.aload_n 0, 1) := by decide +kernel
theorem dL_law_2195 : decode cL_law 2195 = .ok (.iload_n 3, 1) := by decide +kernel
theorem dL_law_2196 : decode cL_law 2196 = .ok (.iconst 4, 1) := by decide +kernel
theorem dL_law_2197 : decode cL_law 2197 = .ok (.iadd, 1) := by decide +kernel
theorem dL_law_2198 : decode cL_law 2198 = .ok (.iaload, 1) := by decide +kernel
theorem dL_law_2199 : decode cL_law 2199 = .ok (.invokevirtual 201, 3) := by decide +kernel
theorem dL_law_2202 : decode cL_law 2202 = .ok (.lcmp, 1) := by decide +kernel
theorem dL_law_2203 : decode cL_law 2203 = .ok (.ifCond .eq 448, 3) := by decide +kernel
theorem dL_law_2208 : decode cL_law 2208 = .ok (.aload_n 1, 1) := by decide +kernel
theorem dL_law_2209 : decode cL_law 2209 = .ok (.aload_n 0, 1) := by decide +kernel
theorem dL_law_2210 : decode cL_law 2210 = .ok (.iload_n 3, 1) := by decide +kernel
theorem dL_law_2211 : decode cL_law 2211 = .ok (.iconst 1, 1) := by decide +kernel
theorem dL_law_2212 : decode cL_law 2212 = .ok (.iadd, 1) := by decide +kernel
theorem dL_law_2213 : decode cL_law 2213 = .ok (.iaload, 1) := by decide +kernel
theorem dL_law_2214 : decode cL_law 2214 = .ok (.aload_n 0, 1) := by decide +kernel
theorem dL_law_2215 : decode cL_law 2215 = .ok (.iload_n 3, 1) := by decide +kernel
theorem dL_law_2216 : decode cL_law 2216 = .ok (.iconst 2, 1) := by decide +kernel
theorem dL_law_2217 : decode cL_law 2217 = .ok (.iadd, 1) := by decide +kernel
theorem dL_law_2218 : decode cL_law 2218 = .ok (.iaload, 1) := by decide +kernel
theorem dL_law_2219 : decode cL_law 2219 = .ok (.aload_n 0, 1) := by decide +kernel
theorem dL_law_2220 : decode cL_law 2220 = .ok (.iload_n 3, 1) := by decide +kernel
theorem dL_law_2221 : decode cL_law 2221 = .ok (.iconst 3, 1) := by decide +kernel
theorem dL_law_2222 : decode cL_law 2222 = .ok (.iadd, 1) := by decide +kernel
theorem dL_law_2223 : decode cL_law 2223 = .ok (.iaload, 1) := by decide +kernel
theorem dL_law_2224 : decode cL_law 2224 = .ok (.aload_n 0, 1) := by decide +kernel
theorem dL_law_2225 : decode cL_law 2225 = .ok (.iload_n 3, 1) := by decide +kernel
theorem dL_law_2226 : decode cL_law 2226 = .ok (.iconst 4, 1) := by decide +kernel
theorem dL_law_2227 : decode cL_law 2227 = .ok (.iadd, 1) := by decide +kernel
theorem dL_law_2228 : decode cL_law 2228 = .ok (.iaload, 1) := by decide +kernel
theorem dL_law_2229 : decode cL_law 2229 = .ok (.invokevirtual 202, 3) := by decide +kernel
theorem dL_law_2232 : decode cL_law 2232 = .ok (.aload_n 2, 1) := by decide +kernel
theorem dL_law_2233 : decode cL_law 2233 = .ok (.aload_n 0, 1) := by decide +kernel
theorem dL_law_2234 : decode cL_law 2234 = .ok (.iload_n 3, 1) := by decide +kernel
theorem dL_law_2235 : decode cL_law 2235 = .ok (.iconst 1, 1) := by decide +kernel
theorem dL_law_2236 : decode cL_law 2236 = .ok (.iadd, 1) := by decide +kernel
theorem dL_law_2237 : decode cL_law 2237 = .ok (.iaload, 1) := by decide +kernel
theorem dL_law_2238 : decode cL_law 2238 = .ok (.aload_n 0, 1) := by decide +kernel
theorem dL_law_2239 : decode cL_law 2239 = .ok (.iload_n 3, 1) := by decide +kernel
theorem dL_law_2240 : decode cL_law 2240 = .ok (.iconst 2, 1) := by decide +kernel
theorem dL_law_2241 : decode cL_law 2241 = .ok (.iadd, 1) := by decide +kernel
theorem dL_law_2242 : decode cL_law 2242 = .ok (.iaload, 1) := by decide +kernel
theorem dL_law_2243 : decode cL_law 2243 = .ok (.aload_n 0, 1) := by decide +kernel
theorem dL_law_2244 : decode cL_law 2244 = .ok (.iload_n 3, 1) := by decide +kernel
theorem dL_law_2245 : decode cL_law 2245 = .ok (.iconst 3, 1) := by decide +kernel
theorem dL_law_2246 : decode cL_law 2246 = .ok (.iadd, 1) := by decide +kernel
theorem dL_law_2247 : decode cL_law 2247 = .ok (.iaload, 1) := by decide +kernel
theorem dL_law_2248 : decode cL_law 2248 = .ok (.aload_n 0, 1) := by decide +kernel
theorem dL_law_2249 : decode cL_law 2249 = .ok (.iload_n 3, 1) := by decide +kernel
theorem dL_law_2250 : decode cL_law 2250 = .ok (.iconst 4, 1) := by decide +kernel
theorem dL_law_2251 : decode cL_law 2251 = .ok (.iadd, 1) := by decide +kernel
theorem dL_law_2252 : decode cL_law 2252 = .ok (.iaload, 1) := by decide +kernel
theorem dL_law_2253 : decode cL_law 2253 = .ok (.invokevirtual 205, 3) := by decide +kernel
theorem dL_law_2256 : decode cL_law 2256 = .ok (.if_icmp .eq 395, 3) := by decide +kernel
theorem dL_law_2261 : decode cL_law 2261 = .ok (.aload_n 1, 1) := by decide +kernel
theorem dL_law_2262 : decode cL_law 2262 = .ok (.aload_n 0, 1) := by decide +kernel
theorem dL_law_2263 : decode cL_law 2263 = .ok (.iload_n 3, 1) := by decide +kernel
theorem dL_law_2264 : decode cL_law 2264 = .ok (.iconst 1, 1) := by decide +kernel
theorem dL_law_2265 : decode cL_law 2265 = .ok (.iadd, 1) := by decide +kernel
theorem dL_law_2266 : decode cL_law 2266 = .ok (.iaload, 1) := by decide +kernel
theorem dL_law_2267 : decode cL_law 2267 = .ok (.invokevirtual 206, 3) := by decide +kernel
theorem dL_law_2270 : decode cL_law 2270 = .ok (.aload_n 2, 1) := by decide +kernel
theorem dL_law_2271 : decode cL_law 2271 = .ok (.aload_n 0, 1) := by decide +kernel
theorem dL_law_2272 : decode cL_law 2272 = .ok (.iload_n 3, 1) := by decide +kernel
theorem dL_law_2273 : decode cL_law 2273 = .ok (.iconst 1, 1) := by decide +kernel
theorem dL_law_2274 : decode cL_law 2274 = .ok (.iadd, 1) := by decide +kernel
theorem dL_law_2275 : decode cL_law 2275 = .ok (.iaload, 1) := by decide +kernel
theorem dL_law_2276 : decode cL_law 2276 = .ok (.invokevirtual 209, 3) := by decide +kernel
theorem dL_law_2279 : decode cL_law 2279 = .ok (.if_icmp .eq 372, 3) := by decide +kernel
theorem dL_law_2284 : decode cL_law 2284 = .ok (.aload_n 1, 1) := by decide +kernel
theorem dL_law_2285 : decode cL_law 2285 = .ok (.aload_n 0, 1) := by decide +kernel
theorem dL_law_2286 : decode cL_law 2286 = .ok (.iload_n 3, 1) := by decide +kernel
theorem dL_law_2287 : decode cL_law 2287 = .ok (.iconst 1, 1) := by decide +kernel
theorem dL_law_2288 : decode cL_law 2288 = .ok (.iadd, 1) := by decide +kernel
theorem dL_law_2289 : decode cL_law 2289 = .ok (.iaload, 1) := by decide +kernel
theorem dL_law_2290 : decode cL_law 2290 = .ok (.aload_n 0, 1) := by decide +kernel
theorem dL_law_2291 : decode cL_law 2291 = .ok (.iload_n 3, 1) := by decide +kernel
theorem dL_law_2292 : decode cL_law 2292 = .ok (.iconst 2, 1) := by decide +kernel
theorem dL_law_2293 : decode cL_law 2293 = .ok (.iadd, 1) := by decide +kernel
theorem dL_law_2294 : decode cL_law 2294 = .ok (.iaload, 1) := by decide +kernel
theorem dL_law_2295 : decode cL_law 2295 = .ok (.invokevirtual 210, 3) := by decide +kernel
theorem dL_law_2298 : decode cL_law 2298 = .ok (.aload_n 2, 1) := by decide +kernel
theorem dL_law_2299 : decode cL_law 2299 = .ok (.aload_n 0, 1) := by decide +kernel
theorem dL_law_2300 : decode cL_law 2300 = .ok (.iload_n 3, 1) := by decide +kernel
theorem dL_law_2301 : decode cL_law 2301 = .ok (.iconst 1, 1) := by decide +kernel
theorem dL_law_2302 : decode cL_law 2302 = .ok (.iadd, 1) := by decide +kernel
theorem dL_law_2303 : decode cL_law 2303 = .ok (.iaload, 1) := by decide +kernel
theorem dL_law_2304 : decode cL_law 2304 = .ok (.aload_n 0, 1) := by decide +kernel
theorem dL_law_2305 : decode cL_law 2305 = .ok (.iload_n 3, 1) := by decide +kernel
theorem dL_law_2306 : decode cL_law 2306 = .ok (.iconst 2, 1) := by decide +kernel
theorem dL_law_2307 : decode cL_law 2307 = .ok (.iadd, 1) := by decide +kernel
theorem dL_law_2308 : decode cL_law 2308 = .ok (.iaload, 1) := by decide +kernel
theorem dL_law_2309 : decode cL_law 2309 = .ok (.invokevirtual 213, 3) := by decide +kernel
theorem dL_law_2312 : decode cL_law 2312 = .ok (.if_icmp .eq 339, 3) := by decide +kernel
theorem dL_law_2317 : decode cL_law 2317 = .ok (.aload_n 1, 1) := by decide +kernel
theorem dL_law_2318 : decode cL_law 2318 = .ok (.aload_n 0, 1) := by decide +kernel
theorem dL_law_2319 : decode cL_law 2319 = .ok (.iload_n 3, 1) := by decide +kernel
theorem dL_law_2320 : decode cL_law 2320 = .ok (.iconst 1, 1) := by decide +kernel
theorem dL_law_2321 : decode cL_law 2321 = .ok (.iadd, 1) := by decide +kernel
theorem dL_law_2322 : decode cL_law 2322 = .ok (.iaload, 1) := by decide +kernel
theorem dL_law_2323 : decode cL_law 2323 = .ok (.invokevirtual 214, 3) := by decide +kernel
theorem dL_law_2326 : decode cL_law 2326 = .ok (.aload_n 2, 1) := by decide +kernel
theorem dL_law_2327 : decode cL_law 2327 = .ok (.aload_n 0, 1) := by decide +kernel
theorem dL_law_2328 : decode cL_law 2328 = .ok (.iload_n 3, 1) := by decide +kernel
theorem dL_law_2329 : decode cL_law 2329 = .ok (.iconst 1, 1) := by decide +kernel
theorem dL_law_2330 : decode cL_law 2330 = .ok (.iadd, 1) := by decide +kernel
theorem dL_law_2331 : decode cL_law 2331 = .ok (.iaload, 1) := by decide +kernel
theorem dL_law_2332 : decode cL_law 2332 = .ok (.invokevirtual 217, 3) := by decide +kernel
theorem dL_law_2335 : decode cL_law 2335 = .ok (.if_icmp .eq 316, 3) := by decide +kernel
theorem dL_law_2340 : decode cL_law 2340 = .ok (.aload_n 1, 1) := by decide +kernel
theorem dL_law_2341 : decode cL_law 2341 = .ok (.aload_n 0, 1) := by decide +kernel
theorem dL_law_2342 : decode cL_law 2342 = .ok (.iload_n 3, 1) := by decide +kernel
theorem dL_law_2343 : decode cL_law 2343 = .ok (.iconst 1, 1) := by decide +kernel
theorem dL_law_2344 : decode cL_law 2344 = .ok (.iadd, 1) := by decide +kernel
theorem dL_law_2345 : decode cL_law 2345 = .ok (.iaload, 1) := by decide +kernel
theorem dL_law_2346 : decode cL_law 2346 = .ok (.aload_n 0, 1) := by decide +kernel
theorem dL_law_2347 : decode cL_law 2347 = .ok (.iload_n 3, 1) := by decide +kernel
theorem dL_law_2348 : decode cL_law 2348 = .ok (.iconst 2, 1) := by decide +kernel
theorem dL_law_2349 : decode cL_law 2349 = .ok (.iadd, 1) := by decide +kernel
theorem dL_law_2350 : decode cL_law 2350 = .ok (.iaload, 1) := by decide +kernel
theorem dL_law_2351 : decode cL_law 2351 = .ok (.aload_n 0, 1) := by decide +kernel
theorem dL_law_2352 : decode cL_law 2352 = .ok (.iload_n 3, 1) := by decide +kernel
theorem dL_law_2353 : decode cL_law 2353 = .ok (.iconst 3, 1) := by decide +kernel
theorem dL_law_2354 : decode cL_law 2354 = .ok (.iadd, 1) := by decide +kernel
theorem dL_law_2355 : decode cL_law 2355 = .ok (.iaload, 1) := by decide +kernel
theorem dL_law_2356 : decode cL_law 2356 = .ok (.aload_n 0, 1) := by decide +kernel
theorem dL_law_2357 : decode cL_law 2357 = .ok (.iload_n 3, 1) := by decide +kernel
theorem dL_law_2358 : decode cL_law 2358 = .ok (.iconst 4, 1) := by decide +kernel
theorem dL_law_2359 : decode cL_law 2359 = .ok (.iadd, 1) := by decide +kernel
theorem dL_law_2360 : decode cL_law 2360 = .ok (.iaload, 1) := by decide +kernel
theorem dL_law_2361 : decode cL_law 2361 = .ok (.aload_n 0, 1) := by decide +kernel
theorem dL_law_2362 : decode cL_law 2362 = .ok (.iload_n 3, 1) := by decide +kernel
theorem dL_law_2363 : decode cL_law 2363 = .ok (.iconst 5, 1) := by decide +kernel
theorem dL_law_2364 : decode cL_law 2364 = .ok (.iadd, 1) := by decide +kernel
theorem dL_law_2365 : decode cL_law 2365 = .ok (.iaload, 1) := by decide +kernel
theorem dL_law_2366 : decode cL_law 2366 = .ok (.invokevirtual 218, 3) := by decide +kernel
theorem dL_law_2369 : decode cL_law 2369 = .ok (.aload_n 2, 1) := by decide +kernel
theorem dL_law_2370 : decode cL_law 2370 = .ok (.aload_n 0, 1) := by decide +kernel
theorem dL_law_2371 : decode cL_law 2371 = .ok (.iload_n 3, 1) := by decide +kernel
theorem dL_law_2372 : decode cL_law 2372 = .ok (.iconst 1, 1) := by decide +kernel
theorem dL_law_2373 : decode cL_law 2373 = .ok (.iadd, 1) := by decide +kernel
theorem dL_law_2374 : decode cL_law 2374 = .ok (.iaload, 1) := by decide +kernel
theorem dL_law_2375 : decode cL_law 2375 = .ok (.aload_n 0, 1) := by decide +kernel
theorem dL_law_2376 : decode cL_law 2376 = .ok (.iload_n 3, 1) := by decide +kernel
theorem dL_law_2377 : decode cL_law 2377 = .ok (.iconst 2, 1) := by decide +kernel
theorem dL_law_2378 : decode cL_law 2378 = .ok (.iadd, 1) := by decide +kernel
theorem dL_law_2379 : decode cL_law 2379 = .ok (.iaload, 1) := by decide +kernel
theorem dL_law_2380 : decode cL_law 2380 = .ok (.aload_n 0, 1) := by decide +kernel
theorem dL_law_2381 : decode cL_law 2381 = .ok (.iload_n 3, 1) := by decide +kernel
theorem dL_law_2382 : decode cL_law 2382 = .ok (.iconst 3, 1) := by decide +kernel
theorem dL_law_2383 : decode cL_law 2383 = .ok (.iadd, 1) := by decide +kernel
theorem dL_law_2384 : decode cL_law 2384 = .ok (.iaload, 1) := by decide +kernel
theorem dL_law_2385 : decode cL_law 2385 = .ok (.aload_n 0, 1) := by decide +kernel
theorem dL_law_2386 : decode cL_law 2386 = .ok (.iload_n 3, 1) := by decide +kernel
theorem dL_law_2387 : decode cL_law 2387 = .ok (.iconst 4, 1) := by decide +kernel
theorem dL_law_2388 : decode cL_law 2388 = .ok (.iadd, 1) := by decide +kernel
theorem dL_law_2389 : decode cL_law 2389 = .ok (.iaload, 1) := by decide +kernel
theorem dL_law_2390 : decode cL_law 2390 = .ok (.aload_n 0, 1) := by decide +kernel
theorem dL_law_2391 : decode cL_law 2391 = .ok (.iload_n 3, 1) := by decide +kernel
theorem dL_law_2392 : decode cL_law 2392 = .ok (.iconst 5, 1) := by decide +kernel
theorem dL_law_2393 : decode cL_law 2393 = .ok (.iadd, 1) := by decide +kernel
theorem dL_law_2394 : decode cL_law 2394 = .ok (.iaload, 1) := by decide +kernel
theorem dL_law_2395 : decode cL_law 2395 = .ok (.invokevirtual 221, 3) := by decide +kernel
theorem dL_law_2398 : decode cL_law 2398 = .ok (.if_icmp .eq 253, 3) := by decide +kernel
theorem dL_law_2403 : decode cL_law 2403 = .ok (.aload_n 1, 1) := by decide +kernel
theorem dL_law_2404 : decode cL_law 2404 = .ok (.aload_n 0, 1) := by decide +kernel
theorem dL_law_2405 : decode cL_law 2405 = .ok (.iload_n 3, 1) := by decide +kernel
theorem dL_law_2406 : decode cL_law 2406 = .ok (.iconst 1, 1) := by decide +kernel
theorem dL_law_2407 : decode cL_law 2407 = .ok (.iadd, 1) := by decide +kernel
theorem dL_law_2408 : decode cL_law 2408 = .ok (.iaload, 1) := by decide +kernel
theorem dL_law_2409 : decode cL_law 2409 = .ok (.invokevirtual 222, 3) := by decide +kernel
theorem dL_law_2412 : decode cL_law 2412 = .ok (.aload_n 2, 1) := by decide +kernel
theorem dL_law_2413 : decode cL_law 2413 = .ok (.aload_n 0, 1) := by decide +kernel
theorem dL_law_2414 : decode cL_law 2414 = .ok (.iload_n 3, 1) := by decide +kernel
theorem dL_law_2415 : decode cL_law 2415 = .ok (.iconst 1, 1) := by decide +kernel
theorem dL_law_2416 : decode cL_law 2416 = .ok (.iadd, 1) := by decide +kernel
theorem dL_law_2417 : decode cL_law 2417 = .ok (.iaload, 1) := by decide +kernel
theorem dL_law_2418 : decode cL_law 2418 = .ok (.invokevirtual 225, 3) := by decide +kernel
theorem dL_law_2421 : decode cL_law 2421 = .ok (.if_icmp .eq 230, 3) := by decide +kernel
theorem dL_law_2426 : decode cL_law 2426 = .ok (.aload_n 1, 1) := by decide +kernel
theorem dL_law_2427 : decode cL_law 2427 = .ok (.aload_n 0, 1) := by decide +kernel
theorem dL_law_2428 : decode cL_law 2428 = .ok (.iload_n 3, 1) := by decide +kernel
theorem dL_law_2429 : decode cL_law 2429 = .ok (.iconst 1, 1) := by decide +kernel
theorem dL_law_2430 : decode cL_law 2430 = .ok (.iadd, 1) := by decide +kernel
theorem dL_law_2431 : decode cL_law 2431 = .ok (.iaload, 1) := by decide +kernel
theorem dL_law_2432 : decode cL_law 2432 = .ok (.invokevirtual 226, 3) := by decide +kernel
theorem dL_law_2435 : decode cL_law 2435 = .ok (.aload_n 2, 1) := by decide +kernel
theorem dL_law_2436 : decode cL_law 2436 = .ok (.aload_n 0, 1) := by decide +kernel
theorem dL_law_2437 : decode cL_law 2437 = .ok (.iload_n 3, 1) := by decide +kernel
theorem dL_law_2438 : decode cL_law 2438 = .ok (.iconst 1, 1) := by decide +kernel
theorem dL_law_2439 : decode cL_law 2439 = .ok (.iadd, 1) := by decide +kernel
theorem dL_law_2440 : decode cL_law 2440 = .ok (.iaload, 1) := by decide +kernel
theorem dL_law_2441 : decode cL_law 2441 = .ok (.invokevirtual 229, 3) := by decide +kernel
theorem dL_law_2444 : decode cL_law 2444 = .ok (.if_icmp .eq 207, 3) := by decide +kernel
theorem dL_law_2449 : decode cL_law 2449 = .ok (.aload_n 1, 1) := by decide +kernel
theorem dL_law_2450 : decode cL_law 2450 = .ok (.aload_n 0, 1) := by decide +kernel
theorem dL_law_2451 : decode cL_law 2451 = .ok (.iload_n 3, 1) := by decide +kernel
theorem dL_law_2452 : decode cL_law 2452 = .ok (.iconst 1, 1) := by decide +kernel
theorem dL_law_2453 : decode cL_law 2453 = .ok (.iadd, 1) := by decide +kernel
theorem dL_law_2454 : decode cL_law 2454 = .ok (.iaload, 1) := by decide +kernel
theorem dL_law_2455 : decode cL_law 2455 = .ok (.invokevirtual 230, 3) := by decide +kernel
theorem dL_law_2458 : decode cL_law 2458 = .ok (.aload_n 2, 1) := by decide +kernel
theorem dL_law_2459 : decode cL_law 2459 = .ok (.aload_n 0, 1) := by decide +kernel
theorem dL_law_2460 : decode cL_law 2460 = .ok (.iload_n 3, 1) := by decide +kernel
theorem dL_law_2461 : decode cL_law 2461 = .ok (.iconst 1, 1) := by decide +kernel
theorem dL_law_2462 : decode cL_law 2462 = .ok (.iadd, 1) := by decide +kernel
theorem dL_law_2463 : decode cL_law 2463 = .ok (.iaload, 1) := by decide +kernel
theorem dL_law_2464 : decode cL_law 2464 = .ok (.invokevirtual 233, 3) := by decide +kernel
theorem dL_law_2467 : decode cL_law 2467 = .ok (.if_icmp .eq 184, 3) := by decide +kernel
theorem dL_law_2472 : decode cL_law 2472 = .ok (.aload_n 1, 1) := by decide +kernel
theorem dL_law_2473 : decode cL_law 2473 = .ok (.aload_n 0, 1) := by decide +kernel
theorem dL_law_2474 : decode cL_law 2474 = .ok (.iload_n 3, 1) := by decide +kernel
theorem dL_law_2475 : decode cL_law 2475 = .ok (.iconst 1, 1) := by decide +kernel
theorem dL_law_2476 : decode cL_law 2476 = .ok (.iadd, 1) := by decide +kernel
theorem dL_law_2477 : decode cL_law 2477 = .ok (.iaload, 1) := by decide +kernel
theorem dL_law_2478 : decode cL_law 2478 = .ok (.aload_n 0, 1) := by decide +kernel
theorem dL_law_2479 : decode cL_law 2479 = .ok (.iload_n 3, 1) := by decide +kernel
theorem dL_law_2480 : decode cL_law 2480 = .ok (.iconst 2, 1) := by decide +kernel
theorem dL_law_2481 : decode cL_law 2481 = .ok (.iadd, 1) := by decide +kernel
theorem dL_law_2482 : decode cL_law 2482 = .ok (.iaload, 1) := by decide +kernel
theorem dL_law_2483 : decode cL_law 2483 = .ok (.aload_n 0, 1) := by decide +kernel
theorem dL_law_2484 : decode cL_law 2484 = .ok (.iload_n 3, 1) := by decide +kernel
theorem dL_law_2485 : decode cL_law 2485 = .ok (.iconst 3, 1) := by decide +kernel
theorem dL_law_2486 : decode cL_law 2486 = .ok (.iadd, 1) := by decide +kernel
theorem dL_law_2487 : decode cL_law 2487 = .ok (.iaload, 1) := by decide +kernel
theorem dL_law_2488 : decode cL_law 2488 = .ok (.invokevirtual 234, 3) := by decide +kernel
theorem dL_law_2491 : decode cL_law 2491 = .ok (.aload_n 2, 1) := by decide +kernel
theorem dL_law_2492 : decode cL_law 2492 = .ok (.aload_n 0, 1) := by decide +kernel
theorem dL_law_2493 : decode cL_law 2493 = .ok (.iload_n 3, 1) := by decide +kernel
theorem dL_law_2494 : decode cL_law 2494 = .ok (.iconst 1, 1) := by decide +kernel
theorem dL_law_2495 : decode cL_law 2495 = .ok (.iadd, 1) := by decide +kernel
theorem dL_law_2496 : decode cL_law 2496 = .ok (.iaload, 1) := by decide +kernel
theorem dL_law_2497 : decode cL_law 2497 = .ok (.aload_n 0, 1) := by decide +kernel
theorem dL_law_2498 : decode cL_law 2498 = .ok (.iload_n 3, 1) := by decide +kernel
theorem dL_law_2499 : decode cL_law 2499 = .ok (.iconst 2, 1) := by decide +kernel
theorem dL_law_2500 : decode cL_law 2500 = .ok (.iadd, 1) := by decide +kernel
theorem dL_law_2501 : decode cL_law 2501 = .ok (.iaload, 1) := by decide +kernel
theorem dL_law_2502 : decode cL_law 2502 = .ok (.aload_n 0, 1) := by decide +kernel
theorem dL_law_2503 : decode cL_law 2503 = .ok (.iload_n 3, 1) := by decide +kernel
theorem dL_law_2504 : decode cL_law 2504 = .ok (.iconst 3, 1) := by decide +kernel
theorem dL_law_2505 : decode cL_law 2505 = .ok (.iadd, 1) := by decide +kernel
theorem dL_law_2506 : decode cL_law 2506 = .ok (.iaload, 1) := by decide +kernel
theorem dL_law_2507 : decode cL_law 2507 = .ok (.invokevirtual 237, 3) := by decide +kernel
theorem dL_law_2510 : decode cL_law 2510 = .ok (.if_icmp .eq 141, 3) := by decide +kernel
theorem dL_law_2515 : decode cL_law 2515 = .ok (.aload_n 1, 1) := by decide +kernel
theorem dL_law_2516 : decode cL_law 2516 = .ok (.aload_n 0, 1) := by decide +kernel
theorem dL_law_2517 : decode cL_law 2517 = .ok (.iload_n 3, 1) := by decide +kernel
theorem dL_law_2518 : decode cL_law 2518 = .ok (.iconst 1, 1) := by decide +kernel
theorem dL_law_2519 : decode cL_law 2519 = .ok (.iadd, 1) := by decide +kernel
theorem dL_law_2520 : decode cL_law 2520 = .ok (.iaload, 1) := by decide +kernel
theorem dL_law_2521 : decode cL_law 2521 = .ok (.aload_n 0, 1) := by decide +kernel
theorem dL_law_2522 : decode cL_law 2522 = .ok (.iload_n 3, 1) := by decide +kernel
theorem dL_law_2523 : decode cL_law 2523 = .ok (.iconst 2, 1) := by decide +kernel
theorem dL_law_2524 : decode cL_law 2524 = .ok (.iadd, 1) := by decide +kernel
theorem dL_law_2525 : decode cL_law 2525 = .ok (.iaload, 1) := by decide +kernel
theorem dL_law_2526 : decode cL_law 2526 = .ok (.aload_n 0, 1) := by decide +kernel
theorem dL_law_2527 : decode cL_law 2527 = .ok (.iload_n 3, 1) := by decide +kernel
theorem dL_law_2528 : decode cL_law 2528 = .ok (.iconst 3, 1) := by decide +kernel
theorem dL_law_2529 : decode cL_law 2529 = .ok (.iadd, 1) := by decide +kernel
theorem dL_law_2530 : decode cL_law 2530 = .ok (.iaload, 1) := by decide +kernel
theorem dL_law_2531 : decode cL_law 2531 = .ok (.i2l, 1) := by decide +kernel
theorem dL_law_2532 : decode cL_law 2532 = .ok (.bipush 32, 2) := by decide +kernel
theorem dL_law_2534 : decode cL_law 2534 = .ok (.lshl, 1) := by decide +kernel
theorem dL_law_2535 : decode cL_law 2535 = .ok (.aload_n 0, 1) := by decide +kernel
theorem dL_law_2536 : decode cL_law 2536 = .ok (.iload_n 3, 1) := by decide +kernel
theorem dL_law_2537 : decode cL_law 2537 = .ok (.iconst 4, 1) := by decide +kernel
theorem dL_law_2538 : decode cL_law 2538 = .ok (.iadd, 1) := by decide +kernel
theorem dL_law_2539 : decode cL_law 2539 = .ok (.iaload, 1) := by decide +kernel
theorem dL_law_2540 : decode cL_law 2540 = .ok (.i2l, 1) := by decide +kernel
theorem dL_law_2541 : decode cL_law 2541 = .ok (.ldc2_w 238, 3) := by decide +kernel
theorem dL_law_2544 : decode cL_law 2544 = .ok (.land, 1) := by decide +kernel
theorem dL_law_2545 : decode cL_law 2545 = .ok (.lor, 1) := by decide +kernel
theorem dL_law_2546 : decode cL_law 2546 = .ok (.invokevirtual 240, 3) := by decide +kernel
theorem dL_law_2549 : decode cL_law 2549 = .ok (.aload_n 2, 1) := by decide +kernel
theorem dL_law_2550 : decode cL_law 2550 = .ok (.aload_n 0, 1) := by decide +kernel
theorem dL_law_2551 : decode cL_law 2551 = .ok (.iload_n 3, 1) := by decide +kernel
theorem dL_law_2552 : decode cL_law 2552 = .ok (.iconst 1, 1) := by decide +kernel
theorem dL_law_2553 : decode cL_law 2553 = .ok (.iadd, 1) := by decide +kernel
theorem dL_law_2554 : decode cL_law 2554 = .ok (.iaload, 1) := by decide +kernel
theorem dL_law_2555 : decode cL_law 2555 = .ok (.aload_n 0, 1) := by decide +kernel
theorem dL_law_2556 : decode cL_law 2556 = .ok (.iload_n 3, 1) := by decide +kernel
theorem dL_law_2557 : decode cL_law 2557 = .ok (.iconst 2, 1) := by decide +kernel
theorem dL_law_2558 : decode cL_law 2558 = .ok (.iadd, 1) := by decide +kernel
theorem dL_law_2559 : decode cL_law 2559 = .ok (.iaload, 1) := by decide +kernel
theorem dL_law_2560 : decode cL_law 2560 = .ok (.aload_n 0, 1) := by decide +kernel
theorem dL_law_2561 : decode cL_law 2561 = .ok (.iload_n 3, 1) := by decide +kernel
theorem dL_law_2562 : decode cL_law 2562 = .ok (.iconst 3, 1) := by decide +kernel
theorem dL_law_2563 : decode cL_law 2563 = .ok (.iadd, 1) := by decide +kernel
theorem dL_law_2564 : decode cL_law 2564 = .ok (.iaload, 1) := by decide +kernel
theorem dL_law_2565 : decode cL_law 2565 = .ok (.i2l, 1) := by decide +kernel
theorem dL_law_2566 : decode cL_law 2566 = .ok (.bipush 32, 2) := by decide +kernel
theorem dL_law_2568 : decode cL_law 2568 = .ok (.lshl, 1) := by decide +kernel
theorem dL_law_2569 : decode cL_law 2569 = .ok (.aload_n 0, 1) := by decide +kernel
theorem dL_law_2570 : decode cL_law 2570 = .ok (.iload_n 3, 1) := by decide +kernel
theorem dL_law_2571 : decode cL_law 2571 = .ok (.iconst 4, 1) := by decide +kernel
theorem dL_law_2572 : decode cL_law 2572 = .ok (.iadd, 1) := by decide +kernel
theorem dL_law_2573 : decode cL_law 2573 = .ok (.iaload, 1) := by decide +kernel
theorem dL_law_2574 : decode cL_law 2574 = .ok (.i2l, 1) := by decide +kernel
theorem dL_law_2575 : decode cL_law 2575 = .ok (.ldc2_w 238, 3) := by decide +kernel
theorem dL_law_2578 : decode cL_law 2578 = .ok (.land, 1) := by decide +kernel
theorem dL_law_2579 : decode cL_law 2579 = .ok (.lor, 1) := by decide +kernel
theorem dL_law_2580 : decode cL_law 2580 = .ok (.invokevirtual 244, 3) := by decide +kernel
theorem dL_law_2583 : decode cL_law 2583 = .ok (.if_icmp .eq 68, 3) := by decide +kernel
theorem dL_law_2588 : decode cL_law 2588 = .ok (.aload_n 1, 1) := by decide +kernel
theorem dL_law_2589 : decode cL_law 2589 = .ok (.aload_n 0, 1) := by decide +kernel
theorem dL_law_2590 : decode cL_law 2590 = .ok (.iload_n 3, 1) := by decide +kernel
theorem dL_law_2591 : decode cL_law 2591 = .ok (.iconst 1, 1) := by decide +kernel
theorem dL_law_2592 : decode cL_law 2592 = .ok (.iadd, 1) := by decide +kernel
theorem dL_law_2593 : decode cL_law 2593 = .ok (.iaload, 1) := by decide +kernel
theorem dL_law_2594 : decode cL_law 2594 = .ok (.aload_n 0, 1) := by decide +kernel
theorem dL_law_2595 : decode cL_law 2595 = .ok (.iload_n 3, 1) := by decide +kernel
theorem dL_law_2596 : decode cL_law 2596 = .ok (.iconst 2, 1) := by decide +kernel
theorem dL_law_2597 : decode cL_law 2597 = .ok (.iadd, 1) := by decide +kernel
theorem dL_law_2598 : decode cL_law 2598 = .ok (.iaload, 1) := by decide +kernel
theorem dL_law_2599 : decode cL_law 2599 = .ok (.aload_n 0, 1) := by decide +kernel
theorem dL_law_2600 : decode cL_law 2600 = .ok (.iload_n 3, 1) := by decide +kernel
theorem dL_law_2601 : decode cL_law 2601 = .ok (.iconst 3, 1) := by decide +kernel
theorem dL_law_2602 : decode cL_law 2602 = .ok (.iadd, 1) := by decide +kernel
theorem dL_law_2603 : decode cL_law 2603 = .ok (.iaload, 1) := by decide +kernel
theorem dL_law_2604 : decode cL_law 2604 = .ok (.aload_n 0, 1) := by decide +kernel
theorem dL_law_2605 : decode cL_law 2605 = .ok (.iload_n 3, 1) := by decide +kernel
theorem dL_law_2606 : decode cL_law 2606 = .ok (.iconst 4, 1) := by decide +kernel
theorem dL_law_2607 : decode cL_law 2607 = .ok (.iadd, 1) := by decide +kernel
theorem dL_law_2608 : decode cL_law 2608 = .ok (.iaload, 1) := by decide +kernel
theorem dL_law_2609 : decode cL_law 2609 = .ok (.aload_n 0, 1) := by decide +kernel
theorem dL_law_2610 : decode cL_law 2610 = .ok (.iload_n 3, 1) := by decide +kernel
theorem dL_law_2611 : decode cL_law 2611 = .ok (.iconst 5, 1) := by decide +kernel
theorem dL_law_2612 : decode cL_law 2612 = .ok (.iadd, 1) := by decide +kernel
theorem dL_law_2613 : decode cL_law 2613 = .ok (.iaload, 1) := by decide +kernel
theorem dL_law_2614 : decode cL_law 2614 = .ok (.invokevirtual 245, 3) := by decide +kernel
theorem dL_law_2617 : decode cL_law 2617 = .ok (.aload_n 2, 1) := by decide +kernel
theorem dL_law_2618 : decode cL_law 2618 = .ok (.aload_n 0, 1) := by decide +kernel
theorem dL_law_2619 : decode cL_law 2619 = .ok (.iload_n 3, 1) := by decide +kernel
theorem dL_law_2620 : decode cL_law 2620 = .ok (.iconst 1, 1) := by decide +kernel
theorem dL_law_2621 : decode cL_law 2621 = .ok (.iadd, 1) := by decide +kernel
theorem dL_law_2622 : decode cL_law 2622 = .ok (.iaload, 1) := by decide +kernel
theorem dL_law_2623 : decode cL_law 2623 = .ok (.aload_n 0, 1) := by decide +kernel
theorem dL_law_2624 : decode cL_law 2624 = .ok (.iload_n 3, 1) := by decide +kernel
theorem dL_law_2625 : decode cL_law 2625 = .ok (.iconst 2, 1) := by decide +kernel
theorem dL_law_2626 : decode cL_law 2626 = .ok (.iadd, 1) := by decide +kernel
theorem dL_law_2627 : decode cL_law 2627 = .ok (.iaload, 1) := by decide +kernel
theorem dL_law_2628 : decode cL_law 2628 = .ok (.aload_n 0, 1) := by decide +kernel
theorem dL_law_2629 : decode cL_law 2629 = .ok (.iload_n 3, 1) := by decide +kernel
theorem dL_law_2630 : decode cL_law 2630 = .ok (.iconst 3, 1) := by decide +kernel
theorem dL_law_2631 : decode cL_law 2631 = .ok (.iadd, 1) := by decide +kernel
theorem dL_law_2632 : decode cL_law 2632 = .ok (.iaload, 1) := by decide +kernel
theorem dL_law_2633 : decode cL_law 2633 = .ok (.aload_n 0, 1) := by decide +kernel
theorem dL_law_2634 : decode cL_law 2634 = .ok (.iload_n 3, 1) := by decide +kernel
theorem dL_law_2635 : decode cL_law 2635 = .ok (.iconst 4, 1) := by decide +kernel
theorem dL_law_2636 : decode cL_law 2636 = .ok (.iadd, 1) := by decide +kernel
theorem dL_law_2637 : decode cL_law 2637 = .ok (.iaload, 1) := by decide +kernel
theorem dL_law_2638 : decode cL_law 2638 = .ok (.aload_n 0, 1) := by decide +kernel
theorem dL_law_2639 : decode cL_law 2639 = .ok (.iload_n 3, 1) := by decide +kernel
theorem dL_law_2640 : decode cL_law 2640 = .ok (.iconst 5, 1) := by decide +kernel
theorem dL_law_2641 : decode cL_law 2641 = .ok (.iadd, 1) := by decide +kernel
theorem dL_law_2642 : decode cL_law 2642 = .ok (.iaload, 1) := by decide +kernel
theorem dL_law_2643 : decode cL_law 2643 = .ok (.invokevirtual 248, 3) := by decide +kernel
theorem dL_law_2646 : decode cL_law 2646 = .ok (.if_icmp .eq 5, 3) := by decide +kernel
set_option maxHeartbeats 4000000 in
set_option maxRecDepth 100000 in
theorem law_sure {p : Program} {e : Env} {s : State} {m : MethodId} {below : List Frame} {meth : Method} {c : Code} {l : Launch} {b : Nat} {xs : Nat → Int32} (C0 : lw_At p s m meth c b 6 xs) {dC : Nat → ClassId} {dI : Nat → Nat → Nat} {A : Nat → Prop} (hA : ∀ q, s.heap.size ≤ q → A q) (hA2 : ∀ q, A q → s.heap.size ≤ q) {h0 : Nat} {tp : Nat} {nw : Nat} {im : Nat} {sl : Nat} {rd : Nat} {wk : Nat} {fm : Nat} {mt : Nat} {ch : Nat} {dy : Nat} {tn : Nat} {ta0 : Nat} {ta1 : Nat} {ta2 : Nat} {ta3 : Nat} {ta4 : Nat} {ta5 : Nat} {ta6 : Nat} {ta7 : Nat} {ta8 : Nat} {ta9 : Nat} {m0 : Nat} {m_width : Nat} {m_many : Nat} {m_cells : Nat} {m_moved : Nat} {m_tape : Nat} {m_lines : Nat} {m_hours : Nat} {m_courts : Nat} {m_in : Nat} {m_gates : Nat} {m_gate : Nat} {m_people : Nat} {m_at0 : Nat} {m_stray : Nat} {m_set : Nat} {m_once : Nat} {m_truth : Nat} {m_known : Nat} {m_isKept : Nat} {m_inside : Nat} {m_can : Nat} {m_fewest : Nat} {m_waysTo : Nat} {m_then : Nat} {m_two : Nat} {m_nextTwo : Nat} {m_three : Nat} {m_nextThree : Nat} {m_worth : Nat} {m_digit : Nat} {cm_courts : ClassId}  {H : Heap} {locs : List Loc} {ls : Array Slot} (hP : va_P (dC, dI) vwCl [(h0, .inr (9, [.ref tp, .int 0, .int 0, .int (-1), .ref nw, .ref im, .ref sl, .ref rd, .ref wk, .ref fm, .ref mt, .ref ch, .ref dy])), (nw, .inr (3, [.int 0, .ref tn, .int 0, .int 0, .int 0, .int 0])), (tn, .inr (7, [.int 0, .int 0, .int 0, .int 0, .int 0, .int 0, .int 0, .int 0, .ref ta0, .ref ta1, .ref ta2, .ref ta3, .ref ta4, .ref ta5, .ref ta6, .ref ta7, .ref ta8, .ref ta9])), (m0, .inr (10, [.int 0, .ref m_width, .ref m_many, .ref m_cells, .ref m_moved, .ref m_tape, .int 0, .int 0, .int 0, .int 0, .int 0, .long 0, .int 0, .int 0, .int 0, .int (-1), .ref m_lines, .ref m_hours, .ref m_courts, .ref m_in, .ref m_gates, .ref m_gate, .ref m_people, .ref m_at0, .ref m_stray, .ref m_set, .ref m_once, .ref m_truth, .ref m_known, .ref m_isKept, .int 0, .int (-1), .int 0, .int 0, .ref m_inside, .ref m_can, .ref m_fewest, .ref m_waysTo, .ref m_then, .ref m_two, .ref m_nextTwo, .ref m_three, .ref m_nextThree, .int (-1), .ref m_worth, .ref m_digit, .int 0, .long 0, .int 0, .int 0, .int 0, .int 0, .long 0])), (m_courts, .inl (cm_courts, 5, .inl (fun _ => 0)))] H) (hD : va_D A [(h0, .inr (9, [.ref tp, .int 0, .int 0, .int (-1), .ref nw, .ref im, .ref sl, .ref rd, .ref wk, .ref fm, .ref mt, .ref ch, .ref dy])), (nw, .inr (3, [.int 0, .ref tn, .int 0, .int 0, .int 0, .int 0])), (tn, .inr (7, [.int 0, .int 0, .int 0, .int 0, .int 0, .int 0, .int 0, .int 0, .ref ta0, .ref ta1, .ref ta2, .ref ta3, .ref ta4, .ref ta5, .ref ta6, .ref ta7, .ref ta8, .ref ta9])), (m0, .inr (10, [.int 0, .ref m_width, .ref m_many, .ref m_cells, .ref m_moved, .ref m_tape, .int 0, .int 0, .int 0, .int 0, .int 0, .long 0, .int 0, .int 0, .int 0, .int (-1), .ref m_lines, .ref m_hours, .ref m_courts, .ref m_in, .ref m_gates, .ref m_gate, .ref m_people, .ref m_at0, .ref m_stray, .ref m_set, .ref m_once, .ref m_truth, .ref m_known, .ref m_isKept, .int 0, .int (-1), .int 0, .int 0, .ref m_inside, .ref m_can, .ref m_fewest, .ref m_waysTo, .ref m_then, .ref m_two, .ref m_nextTwo, .ref m_three, .ref m_nextThree, .int (-1), .ref m_worth, .ref m_digit, .int 0, .long 0, .int 0, .int 0, .int 0, .int 0, .long 0])), (m_courts, .inl (cm_courts, 5, .inl (fun _ => 0)))]) (hK : va_K (dC, dI) vwCl [(cm_courts, .int)] s) (hS : va_S A s.heap H locs) (hl : lv_has ls 4 [(3, .int 0), (2, .ref m0), (1, .ref h0), (0, .ref b)]) : W p l e room_1 s m #[Value.ref b] below meth c H locs 166 101284 (lw_Z below #[Value.ref b] s) (F0 m 2046 ls []) := by
  obtain ⟨hx, hb, hr, hml, hown, hts, hX, hbl, hlocks, hgv⟩ := id C0
  have hown : s.vm.findClass RL = some m.cls := hown
  have hb : c.code = cL_law := hb
  have hts : ∀ w ∈ zT, w.before #[Value.ref b] s = true := fun w h => hts w (zT_in w h)
  have hbA : ¬ A b := fun q => absurd (hA2 b q) (Nat.not_le.mpr hbl)
  refine lv_aload_n hx hb dL_law_2046 rfl (lv_at hl 2 rfl) ?_
  refine lv_aload_n hx hb dL_law_2047 rfl (lv_at hl 3 rfl) ?_
  refine lv_iload_n hx hb dL_law_2048 rfl (lv_at hl 0 rfl) ?_
  refine lv_iconst (v := 1) hx hb dL_law_2049 (by decide) ?_
  refine lv_iadd hx hb dL_law_2050 ?_
  refine lv_topi (fun x_1 ex_1 => ?_)
  obtain rfl : x_1 = 1 := ex_1.trans (by decide)
  refine va_sld hx hb hX hbl hbA hS (z_inC _ (k := 1) (by decide) (by decide)) dL_law_2051 ?_
  refine lv_aload_n hx hb dL_law_2052 rfl (lv_at hl 3 rfl) ?_
  refine lv_iload_n hx hb dL_law_2053 rfl (lv_at hl 0 rfl) ?_
  refine lv_iconst (v := 2) hx hb dL_law_2054 (by decide) ?_
  refine lv_iadd hx hb dL_law_2055 ?_
  refine lv_topi (fun x_2 ex_2 => ?_)
  obtain rfl : x_2 = 2 := ex_2.trans (by decide)
  refine va_sld hx hb hX hbl hbA hS (z_inC _ (k := 2) (by decide) (by decide)) dL_law_2056 ?_
  refine lv_aload_n hx hb dL_law_2057 rfl (lv_at hl 3 rfl) ?_
  refine lv_iload_n hx hb dL_law_2058 rfl (lv_at hl 0 rfl) ?_
  refine lv_iconst (v := 3) hx hb dL_law_2059 (by decide) ?_
  refine lv_iadd hx hb dL_law_2060 ?_
  refine lv_topi (fun x_3 ex_3 => ?_)
  obtain rfl : x_3 = 3 := ex_3.trans (by decide)
  refine va_sld hx hb hX hbl hbA hS (z_inC _ (k := 3) (by decide) (by decide)) dL_law_2061 ?_
  refine lv_aload_n hx hb dL_law_2062 rfl (lv_at hl 3 rfl) ?_
  refine lv_iload_n hx hb dL_law_2063 rfl (lv_at hl 0 rfl) ?_
  refine lv_iconst (v := 4) hx hb dL_law_2064 (by decide) ?_
  refine lv_iadd hx hb dL_law_2065 ?_
  refine lv_topi (fun x_4 ex_4 => ?_)
  obtain rfl : x_4 = 4 := ex_4.trans (by decide)
  refine va_sld hx hb hX hbl hbA hS (z_inC _ (k := 4) (by decide) (by decide)) dL_law_2066 ?_
  have hPc := hP.sub (ws' := [(h0, .inr (9, [.ref tp, .int 0, .int 0, .int (-1), .ref nw, .ref im, .ref sl, .ref rd, .ref wk, .ref fm, .ref mt, .ref ch, .ref dy])), (nw, .inr (3, [.int 0, .ref tn, .int 0, .int 0, .int 0, .int 0])), (tn, .inr (7, [.int 0, .int 0, .int 0, .int 0, .int 0, .int 0, .int 0, .int 0, .ref ta0, .ref ta1, .ref ta2, .ref ta3, .ref ta4, .ref ta5, .ref ta6, .ref ta7, .ref ta8, .ref ta9]))]) [0, 1, 2] rfl
  have hDc := hD.sub (ws' := [(h0, .inr (9, [.ref tp, .int 0, .int 0, .int (-1), .ref nw, .ref im, .ref sl, .ref rd, .ref wk, .ref fm, .ref mt, .ref ch, .ref dy])), (nw, .inr (3, [.int 0, .ref tn, .int 0, .int 0, .int 0, .int 0])), (tn, .inr (7, [.int 0, .int 0, .int 0, .int 0, .int 0, .int 0, .int 0, .int 0, .ref ta0, .ref ta1, .ref ta2, .ref ta3, .ref ta4, .ref ta5, .ref ta6, .ref ta7, .ref ta8, .ref ta9]))]) [0, 1, 2] (by decide) rfl
  have hKc := hK.sub (tys' := []) [] rfl
  have hFc := va_free (wc := [(h0, .inr (9, [.ref tp, .int 0, .int 0, .int (-1), .ref nw, .ref im, .ref sl, .ref rd, .ref wk, .ref fm, .ref mt, .ref ch, .ref dy])), (nw, .inr (3, [.int 0, .ref tn, .int 0, .int 0, .int 0, .int 0])), (tn, .inr (7, [.int 0, .int 0, .int 0, .int 0, .int 0, .int 0, .int 0, .int 0, .ref ta0, .ref ta1, .ref ta2, .ref ta3, .ref ta4, .ref ta5, .ref ta6, .ref ta7, .ref ta8, .ref ta9]))]) hD hS hA [0, 1, 2] rfl
  refine va_calll (va_runV (As := [.int (xs (Int32.toNatClampNeg 1)), .int (xs (Int32.toNatClampNeg 2)), .int (xs (Int32.toNatClampNeg 3)), .int (xs (Int32.toNatClampNeg 4))]) (rest := []) ⟨hx, hb, hml, hown, hts⟩ (k_X9_sure l dC dI h0 (xs (Int32.toNatClampNeg 1)) (xs (Int32.toNatClampNeg 2)) (xs (Int32.toNatClampNeg 3)) (xs (Int32.toNatClampNeg 4)) tp nw im sl rd wk fm mt ch dy tn ta0 ta1 ta2 ta3 ta4 ta5 ta6 ta7 ta8 ta9 H.size) (cwV 4 hts (z_gV zw_t5_178 zw_t5_179 zw_t5_180 zw_t1_1 zw_t5_181) rfl rfl rfl (by decide +kernel) ⟨(Nat.le_of_ble_eq_true rfl), (Nat.le_of_ble_eq_true rfl)⟩) (z_preV hPc hKc hDc (ci := 9) (q0 := 0) rfl rfl) rfl rfl hl.1 rfl (lv_room (Nat.le_of_ble_eq_true rfl)) dL_law_2067 ⟨(Nat.le_of_ble_eq_true rfl), (Nat.le_of_ble_eq_true rfl)⟩) hS (fun q _ h => hFc q h) hFc (fun r_5 u t H1 locs ht hvm hw hB hz1 hk1 hS => ?_)
  have hB : zW dC dI [] [] (va_A [(h0, .inr (9, [.ref tp, .int 0, .int 0, .int (-1), .ref nw, .ref im, .ref sl, .ref rd, .ref wk, .ref fm, .ref mt, .ref ch, .ref dy])), (nw, .inr (3, [.int 0, .ref tn, .int 0, .int 0, .int 0, .int 0])), (tn, .inr (7, [.int 0, .int 0, .int 0, .int 0, .int 0, .int 0, .int 0, .int 0, .ref ta0, .ref ta1, .ref ta2, .ref ta3, .ref ta4, .ref ta5, .ref ta6, .ref ta7, .ref ta8, .ref ta9]))] H.size) t := z_none (va_K.moved hvm hK)
  obtain ⟨hP, hD, hK⟩ := z_after [(m0, .inr (10, [.int 0, .ref m_width, .ref m_many, .ref m_cells, .ref m_moved, .ref m_tape, .int 0, .int 0, .int 0, .int 0, .int 0, .long 0, .int 0, .int 0, .int 0, .int (-1), .ref m_lines, .ref m_hours, .ref m_courts, .ref m_in, .ref m_gates, .ref m_gate, .ref m_people, .ref m_at0, .ref m_stray, .ref m_set, .ref m_once, .ref m_truth, .ref m_known, .ref m_isKept, .int 0, .int (-1), .int 0, .int 0, .ref m_inside, .ref m_can, .ref m_fewest, .ref m_waysTo, .ref m_then, .ref m_two, .ref m_nextTwo, .ref m_three, .ref m_nextThree, .int (-1), .ref m_worth, .ref m_digit, .int 0, .long 0, .int 0, .int 0, .int 0, .int 0, .long 0])), (m_courts, .inl (cm_courts, 5, .inl (fun _ => 0)))] hB ht hvm hP hD hK [0, 1, 2] [3, 4] rfl rfl (by decide) (by decide) hk1 hFc
  generalize H1 = H at hP hS ⊢
  have hP : va_P (dC, dI) vwCl [(m0, .inr (10, [.int 0, .ref m_width, .ref m_many, .ref m_cells, .ref m_moved, .ref m_tape, .int 0, .int 0, .int 0, .int 0, .int 0, .long 0, .int 0, .int 0, .int 0, .int (-1), .ref m_lines, .ref m_hours, .ref m_courts, .ref m_in, .ref m_gates, .ref m_gate, .ref m_people, .ref m_at0, .ref m_stray, .ref m_set, .ref m_once, .ref m_truth, .ref m_known, .ref m_isKept, .int 0, .int (-1), .int 0, .int 0, .ref m_inside, .ref m_can, .ref m_fewest, .ref m_waysTo, .ref m_then, .ref m_two, .ref m_nextTwo, .ref m_three, .ref m_nextThree, .int (-1), .ref m_worth, .ref m_digit, .int 0, .long 0, .int 0, .int 0, .int 0, .int 0, .long 0])), (m_courts, .inl (cm_courts, 5, .inl (fun _ => 0)))] H := hP
  have hD : va_D A [(m0, .inr (10, [.int 0, .ref m_width, .ref m_many, .ref m_cells, .ref m_moved, .ref m_tape, .int 0, .int 0, .int 0, .int 0, .int 0, .long 0, .int 0, .int 0, .int 0, .int (-1), .ref m_lines, .ref m_hours, .ref m_courts, .ref m_in, .ref m_gates, .ref m_gate, .ref m_people, .ref m_at0, .ref m_stray, .ref m_set, .ref m_once, .ref m_truth, .ref m_known, .ref m_isKept, .int 0, .int (-1), .int 0, .int 0, .ref m_inside, .ref m_can, .ref m_fewest, .ref m_waysTo, .ref m_then, .ref m_two, .ref m_nextTwo, .ref m_three, .ref m_nextThree, .int (-1), .ref m_worth, .ref m_digit, .int 0, .long 0, .int 0, .int 0, .int 0, .int 0, .long 0])), (m_courts, .inl (cm_courts, 5, .inl (fun _ => 0)))] := hD
  have hK : va_K (dC, dI) vwCl [(cm_courts, .int)] s := hK
  obtain rfl : r_5 = (-2) := hw
  refine lv_aload_n hx hb dL_law_2070 rfl (lv_at hl 1 rfl) ?_
  refine lv_aload_n hx hb dL_law_2071 rfl (lv_at hl 3 rfl) ?_
  refine lv_iload_n hx hb dL_law_2072 rfl (lv_at hl 0 rfl) ?_
  refine lv_iconst (v := 1) hx hb dL_law_2073 (by decide) ?_
  refine lv_iadd hx hb dL_law_2074 ?_
  refine lv_topi (fun x_6 ex_6 => ?_)
  obtain rfl : x_6 = 1 := ex_6.trans (by decide)
  refine va_sld hx hb hX hbl hbA hS (z_inC _ (k := 1) (by decide) (by decide)) dL_law_2075 ?_
  refine lv_aload_n hx hb dL_law_2076 rfl (lv_at hl 3 rfl) ?_
  refine lv_iload_n hx hb dL_law_2077 rfl (lv_at hl 0 rfl) ?_
  refine lv_iconst (v := 2) hx hb dL_law_2078 (by decide) ?_
  refine lv_iadd hx hb dL_law_2079 ?_
  refine lv_topi (fun x_7 ex_7 => ?_)
  obtain rfl : x_7 = 2 := ex_7.trans (by decide)
  refine va_sld hx hb hX hbl hbA hS (z_inC _ (k := 2) (by decide) (by decide)) dL_law_2080 ?_
  refine lv_aload_n hx hb dL_law_2081 rfl (lv_at hl 3 rfl) ?_
  refine lv_iload_n hx hb dL_law_2082 rfl (lv_at hl 0 rfl) ?_
  refine lv_iconst (v := 3) hx hb dL_law_2083 (by decide) ?_
  refine lv_iadd hx hb dL_law_2084 ?_
  refine lv_topi (fun x_8 ex_8 => ?_)
  obtain rfl : x_8 = 3 := ex_8.trans (by decide)
  refine va_sld hx hb hX hbl hbA hS (z_inC _ (k := 3) (by decide) (by decide)) dL_law_2085 ?_
  refine lv_aload_n hx hb dL_law_2086 rfl (lv_at hl 3 rfl) ?_
  refine lv_iload_n hx hb dL_law_2087 rfl (lv_at hl 0 rfl) ?_
  refine lv_iconst (v := 4) hx hb dL_law_2088 (by decide) ?_
  refine lv_iadd hx hb dL_law_2089 ?_
  refine lv_topi (fun x_9 ex_9 => ?_)
  obtain rfl : x_9 = 4 := ex_9.trans (by decide)
  refine va_sld hx hb hX hbl hbA hS (z_inC _ (k := 4) (by decide) (by decide)) dL_law_2090 ?_
  have hPc := hP.sub (ws' := [(m0, .inr (10, [.int 0, .ref m_width, .ref m_many, .ref m_cells, .ref m_moved, .ref m_tape, .int 0, .int 0, .int 0, .int 0, .int 0, .long 0, .int 0, .int 0, .int 0, .int (-1), .ref m_lines, .ref m_hours, .ref m_courts, .ref m_in, .ref m_gates, .ref m_gate, .ref m_people, .ref m_at0, .ref m_stray, .ref m_set, .ref m_once, .ref m_truth, .ref m_known, .ref m_isKept, .int 0, .int (-1), .int 0, .int 0, .ref m_inside, .ref m_can, .ref m_fewest, .ref m_waysTo, .ref m_then, .ref m_two, .ref m_nextTwo, .ref m_three, .ref m_nextThree, .int (-1), .ref m_worth, .ref m_digit, .int 0, .long 0, .int 0, .int 0, .int 0, .int 0, .long 0])), (m_courts, .inl (cm_courts, 5, .inl (fun _ => 0)))]) [0, 1] rfl
  have hDc := hD.sub (ws' := [(m0, .inr (10, [.int 0, .ref m_width, .ref m_many, .ref m_cells, .ref m_moved, .ref m_tape, .int 0, .int 0, .int 0, .int 0, .int 0, .long 0, .int 0, .int 0, .int 0, .int (-1), .ref m_lines, .ref m_hours, .ref m_courts, .ref m_in, .ref m_gates, .ref m_gate, .ref m_people, .ref m_at0, .ref m_stray, .ref m_set, .ref m_once, .ref m_truth, .ref m_known, .ref m_isKept, .int 0, .int (-1), .int 0, .int 0, .ref m_inside, .ref m_can, .ref m_fewest, .ref m_waysTo, .ref m_then, .ref m_two, .ref m_nextTwo, .ref m_three, .ref m_nextThree, .int (-1), .ref m_worth, .ref m_digit, .int 0, .long 0, .int 0, .int 0, .int 0, .int 0, .long 0])), (m_courts, .inl (cm_courts, 5, .inl (fun _ => 0)))]) [0, 1] (by decide) rfl
  have hKc := hK.sub (tys' := [(cm_courts, .int)]) [0] rfl
  have hFc := va_free (wc := [(m0, .inr (10, [.int 0, .ref m_width, .ref m_many, .ref m_cells, .ref m_moved, .ref m_tape, .int 0, .int 0, .int 0, .int 0, .int 0, .long 0, .int 0, .int 0, .int 0, .int (-1), .ref m_lines, .ref m_hours, .ref m_courts, .ref m_in, .ref m_gates, .ref m_gate, .ref m_people, .ref m_at0, .ref m_stray, .ref m_set, .ref m_once, .ref m_truth, .ref m_known, .ref m_isKept, .int 0, .int (-1), .int 0, .int 0, .ref m_inside, .ref m_can, .ref m_fewest, .ref m_waysTo, .ref m_then, .ref m_two, .ref m_nextTwo, .ref m_three, .ref m_nextThree, .int (-1), .ref m_worth, .ref m_digit, .int 0, .long 0, .int 0, .int 0, .int 0, .int 0, .long 0])), (m_courts, .inl (cm_courts, 5, .inl (fun _ => 0)))]) hD hS hA [0, 1] rfl
  refine va_calll (va_runV (As := [.int (xs (Int32.toNatClampNeg 1)), .int (xs (Int32.toNatClampNeg 2)), .int (xs (Int32.toNatClampNeg 3)), .int (xs (Int32.toNatClampNeg 4))]) (rest := [.long (-2)]) ⟨hx, hb, hml, hown, hts⟩ (k_X10_sure l dC dI m0 (xs (Int32.toNatClampNeg 1)) (xs (Int32.toNatClampNeg 2)) (xs (Int32.toNatClampNeg 3)) (xs (Int32.toNatClampNeg 4)) m_width m_many m_cells m_moved m_tape m_lines m_hours m_courts m_in m_gates m_gate m_people m_at0 m_stray m_set m_once m_truth m_known m_isKept m_inside m_can m_fewest m_waysTo m_then m_two m_nextTwo m_three m_nextThree m_worth m_digit cm_courts H.size) (cwV 4 hts (z_gV zw_t8_230 zw_t8_231 zw_t8_232 zw_t1_11 zw_t8_233) rfl rfl rfl (by decide +kernel) ⟨(Nat.le_of_ble_eq_true rfl), (Nat.le_of_ble_eq_true rfl)⟩) (z_preV hPc hKc hDc (ci := 10) (q0 := 0) rfl rfl) rfl rfl hl.1 rfl (lv_room (Nat.le_of_ble_eq_true rfl)) dL_law_2091 ⟨(Nat.le_of_ble_eq_true rfl), (Nat.le_of_ble_eq_true rfl)⟩) hS (fun q _ h => hFc q h) hFc (fun r_10 u t H1 locs ht hvm hw hB hz1 hk1 hS => ?_)
  have hB : zW dC dI [] [] (va_A [(m0, .inr (10, [.int 0, .ref m_width, .ref m_many, .ref m_cells, .ref m_moved, .ref m_tape, .int 0, .int 0, .int 0, .int 0, .int 0, .long 0, .int 0, .int 0, .int 0, .int (-1), .ref m_lines, .ref m_hours, .ref m_courts, .ref m_in, .ref m_gates, .ref m_gate, .ref m_people, .ref m_at0, .ref m_stray, .ref m_set, .ref m_once, .ref m_truth, .ref m_known, .ref m_isKept, .int 0, .int (-1), .int 0, .int 0, .ref m_inside, .ref m_can, .ref m_fewest, .ref m_waysTo, .ref m_then, .ref m_two, .ref m_nextTwo, .ref m_three, .ref m_nextThree, .int (-1), .ref m_worth, .ref m_digit, .int 0, .long 0, .int 0, .int 0, .int 0, .int 0, .long 0])), (m_courts, .inl (cm_courts, 5, .inl (fun _ => 0)))] H.size) t := z_none (va_K.moved hvm hK)
  obtain ⟨hP, hD, hK⟩ := z_after [] hB ht hvm hP hD hK [0, 1] [] rfl rfl (by decide) (by decide) hk1 hFc
  generalize H1 = H at hP hS ⊢
  have hP : va_P (dC, dI) vwCl [] H := hP
  have hD : va_D A [] := hD
  have hK : va_K (dC, dI) vwCl [(cm_courts, .int)] s := hK
  obtain rfl : r_10 = (-2) := hw
  refine W.lcmp hx hb dL_law_2094 ?_
  refine lv_topi (fun x_11 ex_11 => ?_)
  obtain rfl : x_11 = 0 := ex_11.trans (by decide)
  refine lv_if_eq (tgt := 2651) hx hb dL_law_2095 (by decide) (fun _ => ?_) (fun q => absurd q (by decide))
  exact law_tail C0 hA2 (Nat.le_of_ble_eq_true rfl) (Nat.le_of_ble_eq_true rfl) hS (lv_sub hl [0, 3] rfl)
set_option maxHeartbeats 4000000 in
set_option maxRecDepth 100000 in
theorem law_list {p : Program} {e : Env} {s : State} {m : MethodId} {below : List Frame} {meth : Method} {c : Code} {l : Launch} {b : Nat} {xs : Nat → Int32} (C0 : lw_At p s m meth c b 6 xs) {dC : Nat → ClassId} {dI : Nat → Nat → Nat} {A : Nat → Prop} (hA : ∀ q, s.heap.size ≤ q → A q) (hA2 : ∀ q, A q → s.heap.size ≤ q) {h0 : Nat} {tp : Nat} {nw : Nat} {im : Nat} {sl : Nat} {rd : Nat} {wk : Nat} {fm : Nat} {mt : Nat} {ch : Nat} {dy : Nat} {tn : Nat} {ta0 : Nat} {ta1 : Nat} {ta2 : Nat} {ta3 : Nat} {ta4 : Nat} {ta5 : Nat} {ta6 : Nat} {ta7 : Nat} {ta8 : Nat} {ta9 : Nat} {m0 : Nat} {m_width : Nat} {m_many : Nat} {m_cells : Nat} {m_moved : Nat} {m_tape : Nat} {m_lines : Nat} {m_hours : Nat} {m_courts : Nat} {m_in : Nat} {m_gates : Nat} {m_gate : Nat} {m_people : Nat} {m_at0 : Nat} {m_stray : Nat} {m_set : Nat} {m_once : Nat} {m_truth : Nat} {m_known : Nat} {m_isKept : Nat} {m_inside : Nat} {m_can : Nat} {m_fewest : Nat} {m_waysTo : Nat} {m_then : Nat} {m_two : Nat} {m_nextTwo : Nat} {m_three : Nat} {m_nextThree : Nat} {m_worth : Nat} {m_digit : Nat} {cm_courts : ClassId}  {H : Heap} {locs : List Loc} {ls : Array Slot} (hP : va_P (dC, dI) vwCl [(h0, .inr (9, [.ref tp, .int 0, .int 0, .int (-1), .ref nw, .ref im, .ref sl, .ref rd, .ref wk, .ref fm, .ref mt, .ref ch, .ref dy])), (nw, .inr (3, [.int 0, .ref tn, .int 0, .int 0, .int 0, .int 0])), (tn, .inr (7, [.int 0, .int 0, .int 0, .int 0, .int 0, .int 0, .int 0, .int 0, .ref ta0, .ref ta1, .ref ta2, .ref ta3, .ref ta4, .ref ta5, .ref ta6, .ref ta7, .ref ta8, .ref ta9])), (m0, .inr (10, [.int 0, .ref m_width, .ref m_many, .ref m_cells, .ref m_moved, .ref m_tape, .int 0, .int 0, .int 0, .int 0, .int 0, .long 0, .int 0, .int 0, .int 0, .int (-1), .ref m_lines, .ref m_hours, .ref m_courts, .ref m_in, .ref m_gates, .ref m_gate, .ref m_people, .ref m_at0, .ref m_stray, .ref m_set, .ref m_once, .ref m_truth, .ref m_known, .ref m_isKept, .int 0, .int (-1), .int 0, .int 0, .ref m_inside, .ref m_can, .ref m_fewest, .ref m_waysTo, .ref m_then, .ref m_two, .ref m_nextTwo, .ref m_three, .ref m_nextThree, .int (-1), .ref m_worth, .ref m_digit, .int 0, .long 0, .int 0, .int 0, .int 0, .int 0, .long 0])), (m_courts, .inl (cm_courts, 5, .inl (fun _ => 0)))] H) (hD : va_D A [(h0, .inr (9, [.ref tp, .int 0, .int 0, .int (-1), .ref nw, .ref im, .ref sl, .ref rd, .ref wk, .ref fm, .ref mt, .ref ch, .ref dy])), (nw, .inr (3, [.int 0, .ref tn, .int 0, .int 0, .int 0, .int 0])), (tn, .inr (7, [.int 0, .int 0, .int 0, .int 0, .int 0, .int 0, .int 0, .int 0, .ref ta0, .ref ta1, .ref ta2, .ref ta3, .ref ta4, .ref ta5, .ref ta6, .ref ta7, .ref ta8, .ref ta9])), (m0, .inr (10, [.int 0, .ref m_width, .ref m_many, .ref m_cells, .ref m_moved, .ref m_tape, .int 0, .int 0, .int 0, .int 0, .int 0, .long 0, .int 0, .int 0, .int 0, .int (-1), .ref m_lines, .ref m_hours, .ref m_courts, .ref m_in, .ref m_gates, .ref m_gate, .ref m_people, .ref m_at0, .ref m_stray, .ref m_set, .ref m_once, .ref m_truth, .ref m_known, .ref m_isKept, .int 0, .int (-1), .int 0, .int 0, .ref m_inside, .ref m_can, .ref m_fewest, .ref m_waysTo, .ref m_then, .ref m_two, .ref m_nextTwo, .ref m_three, .ref m_nextThree, .int (-1), .ref m_worth, .ref m_digit, .int 0, .long 0, .int 0, .int 0, .int 0, .int 0, .long 0])), (m_courts, .inl (cm_courts, 5, .inl (fun _ => 0)))]) (hK : va_K (dC, dI) vwCl [(cm_courts, .int)] s) (hS : va_S A s.heap H locs) (hl : lv_has ls 4 [(3, .int 0), (2, .ref m0), (1, .ref h0), (0, .ref b)]) : W p l e room_1 s m #[Value.ref b] below meth c H locs 166 101284 (lw_Z below #[Value.ref b] s) (F0 m 2100 ls []) := by
  obtain ⟨hx, hb, hr, hml, hown, hts, hX, hbl, hlocks, hgv⟩ := id C0
  have hown : s.vm.findClass RL = some m.cls := hown
  have hb : c.code = cL_law := hb
  have hts : ∀ w ∈ zT, w.before #[Value.ref b] s = true := fun w h => hts w (zT_in w h)
  have hbA : ¬ A b := fun q => absurd (hA2 b q) (Nat.not_le.mpr hbl)
  refine lv_aload_n hx hb dL_law_2100 rfl (lv_at hl 2 rfl) ?_
  refine lv_aload_n hx hb dL_law_2101 rfl (lv_at hl 3 rfl) ?_
  refine lv_iload_n hx hb dL_law_2102 rfl (lv_at hl 0 rfl) ?_
  refine lv_iconst (v := 1) hx hb dL_law_2103 (by decide) ?_
  refine lv_iadd hx hb dL_law_2104 ?_
  refine lv_topi (fun x_1 ex_1 => ?_)
  obtain rfl : x_1 = 1 := ex_1.trans (by decide)
  refine va_sld hx hb hX hbl hbA hS (z_inC _ (k := 1) (by decide) (by decide)) dL_law_2105 ?_
  refine lv_aload_n hx hb dL_law_2106 rfl (lv_at hl 3 rfl) ?_
  refine lv_iload_n hx hb dL_law_2107 rfl (lv_at hl 0 rfl) ?_
  refine lv_iconst (v := 2) hx hb dL_law_2108 (by decide) ?_
  refine lv_iadd hx hb dL_law_2109 ?_
  refine lv_topi (fun x_2 ex_2 => ?_)
  obtain rfl : x_2 = 2 := ex_2.trans (by decide)
  refine va_sld hx hb hX hbl hbA hS (z_inC _ (k := 2) (by decide) (by decide)) dL_law_2110 ?_
  refine lv_aload_n hx hb dL_law_2111 rfl (lv_at hl 3 rfl) ?_
  refine lv_iload_n hx hb dL_law_2112 rfl (lv_at hl 0 rfl) ?_
  refine lv_iconst (v := 3) hx hb dL_law_2113 (by decide) ?_
  refine lv_iadd hx hb dL_law_2114 ?_
  refine lv_topi (fun x_3 ex_3 => ?_)
  obtain rfl : x_3 = 3 := ex_3.trans (by decide)
  refine va_sld hx hb hX hbl hbA hS (z_inC _ (k := 3) (by decide) (by decide)) dL_law_2115 ?_
  refine lv_aload_n hx hb dL_law_2116 rfl (lv_at hl 3 rfl) ?_
  refine lv_iload_n hx hb dL_law_2117 rfl (lv_at hl 0 rfl) ?_
  refine lv_iconst (v := 4) hx hb dL_law_2118 (by decide) ?_
  refine lv_iadd hx hb dL_law_2119 ?_
  refine lv_topi (fun x_4 ex_4 => ?_)
  obtain rfl : x_4 = 4 := ex_4.trans (by decide)
  refine va_sld hx hb hX hbl hbA hS (z_inC _ (k := 4) (by decide) (by decide)) dL_law_2120 ?_
  have hPc := hP.sub (ws' := [(h0, .inr (9, [.ref tp, .int 0, .int 0, .int (-1), .ref nw, .ref im, .ref sl, .ref rd, .ref wk, .ref fm, .ref mt, .ref ch, .ref dy])), (nw, .inr (3, [.int 0, .ref tn, .int 0, .int 0, .int 0, .int 0])), (tn, .inr (7, [.int 0, .int 0, .int 0, .int 0, .int 0, .int 0, .int 0, .int 0, .ref ta0, .ref ta1, .ref ta2, .ref ta3, .ref ta4, .ref ta5, .ref ta6, .ref ta7, .ref ta8, .ref ta9]))]) [0, 1, 2] rfl
  have hDc := hD.sub (ws' := [(h0, .inr (9, [.ref tp, .int 0, .int 0, .int (-1), .ref nw, .ref im, .ref sl, .ref rd, .ref wk, .ref fm, .ref mt, .ref ch, .ref dy])), (nw, .inr (3, [.int 0, .ref tn, .int 0, .int 0, .int 0, .int 0])), (tn, .inr (7, [.int 0, .int 0, .int 0, .int 0, .int 0, .int 0, .int 0, .int 0, .ref ta0, .ref ta1, .ref ta2, .ref ta3, .ref ta4, .ref ta5, .ref ta6, .ref ta7, .ref ta8, .ref ta9]))]) [0, 1, 2] (by decide) rfl
  have hKc := hK.sub (tys' := []) [] rfl
  have hFc := va_free (wc := [(h0, .inr (9, [.ref tp, .int 0, .int 0, .int (-1), .ref nw, .ref im, .ref sl, .ref rd, .ref wk, .ref fm, .ref mt, .ref ch, .ref dy])), (nw, .inr (3, [.int 0, .ref tn, .int 0, .int 0, .int 0, .int 0])), (tn, .inr (7, [.int 0, .int 0, .int 0, .int 0, .int 0, .int 0, .int 0, .int 0, .ref ta0, .ref ta1, .ref ta2, .ref ta3, .ref ta4, .ref ta5, .ref ta6, .ref ta7, .ref ta8, .ref ta9]))]) hD hS hA [0, 1, 2] rfl
  refine va_calll (va_runV (As := [.int (xs (Int32.toNatClampNeg 1)), .int (xs (Int32.toNatClampNeg 2)), .int (xs (Int32.toNatClampNeg 3)), .int (xs (Int32.toNatClampNeg 4))]) (rest := []) ⟨hx, hb, hml, hown, hts⟩ (k_X9_list l dC dI h0 (xs (Int32.toNatClampNeg 1)) (xs (Int32.toNatClampNeg 2)) (xs (Int32.toNatClampNeg 3)) (xs (Int32.toNatClampNeg 4)) tp nw im sl rd wk fm mt ch dy tn ta0 ta1 ta2 ta3 ta4 ta5 ta6 ta7 ta8 ta9 H.size) (cwV 4 hts (z_gV zw_t5_192 zw_t5_193 zw_t5_194 zw_t1_1 zw_t5_195) rfl rfl rfl (by decide +kernel) ⟨(Nat.le_of_ble_eq_true rfl), (Nat.le_of_ble_eq_true rfl)⟩) (z_preV hPc hKc hDc (ci := 9) (q0 := 0) rfl rfl) rfl rfl hl.1 rfl (lv_room (Nat.le_of_ble_eq_true rfl)) dL_law_2121 ⟨(Nat.le_of_ble_eq_true rfl), (Nat.le_of_ble_eq_true rfl)⟩) hS (fun q _ h => hFc q h) hFc (fun r_5 u t H1 locs ht hvm hw hB hz1 hk1 hS => ?_)
  have hB : zW dC dI [] [] (va_A [(h0, .inr (9, [.ref tp, .int 0, .int 0, .int (-1), .ref nw, .ref im, .ref sl, .ref rd, .ref wk, .ref fm, .ref mt, .ref ch, .ref dy])), (nw, .inr (3, [.int 0, .ref tn, .int 0, .int 0, .int 0, .int 0])), (tn, .inr (7, [.int 0, .int 0, .int 0, .int 0, .int 0, .int 0, .int 0, .int 0, .ref ta0, .ref ta1, .ref ta2, .ref ta3, .ref ta4, .ref ta5, .ref ta6, .ref ta7, .ref ta8, .ref ta9]))] H.size) t := z_none (va_K.moved hvm hK)
  obtain ⟨hP, hD, hK⟩ := z_after [(m0, .inr (10, [.int 0, .ref m_width, .ref m_many, .ref m_cells, .ref m_moved, .ref m_tape, .int 0, .int 0, .int 0, .int 0, .int 0, .long 0, .int 0, .int 0, .int 0, .int (-1), .ref m_lines, .ref m_hours, .ref m_courts, .ref m_in, .ref m_gates, .ref m_gate, .ref m_people, .ref m_at0, .ref m_stray, .ref m_set, .ref m_once, .ref m_truth, .ref m_known, .ref m_isKept, .int 0, .int (-1), .int 0, .int 0, .ref m_inside, .ref m_can, .ref m_fewest, .ref m_waysTo, .ref m_then, .ref m_two, .ref m_nextTwo, .ref m_three, .ref m_nextThree, .int (-1), .ref m_worth, .ref m_digit, .int 0, .long 0, .int 0, .int 0, .int 0, .int 0, .long 0])), (m_courts, .inl (cm_courts, 5, .inl (fun _ => 0)))] hB ht hvm hP hD hK [0, 1, 2] [3, 4] rfl rfl (by decide) (by decide) hk1 hFc
  generalize H1 = H at hP hS ⊢
  have hP : va_P (dC, dI) vwCl [(m0, .inr (10, [.int 0, .ref m_width, .ref m_many, .ref m_cells, .ref m_moved, .ref m_tape, .int 0, .int 0, .int 0, .int 0, .int 0, .long 0, .int 0, .int 0, .int 0, .int (-1), .ref m_lines, .ref m_hours, .ref m_courts, .ref m_in, .ref m_gates, .ref m_gate, .ref m_people, .ref m_at0, .ref m_stray, .ref m_set, .ref m_once, .ref m_truth, .ref m_known, .ref m_isKept, .int 0, .int (-1), .int 0, .int 0, .ref m_inside, .ref m_can, .ref m_fewest, .ref m_waysTo, .ref m_then, .ref m_two, .ref m_nextTwo, .ref m_three, .ref m_nextThree, .int (-1), .ref m_worth, .ref m_digit, .int 0, .long 0, .int 0, .int 0, .int 0, .int 0, .long 0])), (m_courts, .inl (cm_courts, 5, .inl (fun _ => 0)))] H := hP
  have hD : va_D A [(m0, .inr (10, [.int 0, .ref m_width, .ref m_many, .ref m_cells, .ref m_moved, .ref m_tape, .int 0, .int 0, .int 0, .int 0, .int 0, .long 0, .int 0, .int 0, .int 0, .int (-1), .ref m_lines, .ref m_hours, .ref m_courts, .ref m_in, .ref m_gates, .ref m_gate, .ref m_people, .ref m_at0, .ref m_stray, .ref m_set, .ref m_once, .ref m_truth, .ref m_known, .ref m_isKept, .int 0, .int (-1), .int 0, .int 0, .ref m_inside, .ref m_can, .ref m_fewest, .ref m_waysTo, .ref m_then, .ref m_two, .ref m_nextTwo, .ref m_three, .ref m_nextThree, .int (-1), .ref m_worth, .ref m_digit, .int 0, .long 0, .int 0, .int 0, .int 0, .int 0, .long 0])), (m_courts, .inl (cm_courts, 5, .inl (fun _ => 0)))] := hD
  have hK : va_K (dC, dI) vwCl [(cm_courts, .int)] s := hK
  obtain rfl : r_5 = (-2) := hw
  refine lv_aload_n hx hb dL_law_2124 rfl (lv_at hl 1 rfl) ?_
  refine lv_aload_n hx hb dL_law_2125 rfl (lv_at hl 3 rfl) ?_
  refine lv_iload_n hx hb dL_law_2126 rfl (lv_at hl 0 rfl) ?_
  refine lv_iconst (v := 1) hx hb dL_law_2127 (by decide) ?_
  refine lv_iadd hx hb dL_law_2128 ?_
  refine lv_topi (fun x_6 ex_6 => ?_)
  obtain rfl : x_6 = 1 := ex_6.trans (by decide)
  refine va_sld hx hb hX hbl hbA hS (z_inC _ (k := 1) (by decide) (by decide)) dL_law_2129 ?_
  refine lv_aload_n hx hb dL_law_2130 rfl (lv_at hl 3 rfl) ?_
  refine lv_iload_n hx hb dL_law_2131 rfl (lv_at hl 0 rfl) ?_
  refine lv_iconst (v := 2) hx hb dL_law_2132 (by decide) ?_
  refine lv_iadd hx hb dL_law_2133 ?_
  refine lv_topi (fun x_7 ex_7 => ?_)
  obtain rfl : x_7 = 2 := ex_7.trans (by decide)
  refine va_sld hx hb hX hbl hbA hS (z_inC _ (k := 2) (by decide) (by decide)) dL_law_2134 ?_
  refine lv_aload_n hx hb dL_law_2135 rfl (lv_at hl 3 rfl) ?_
  refine lv_iload_n hx hb dL_law_2136 rfl (lv_at hl 0 rfl) ?_
  refine lv_iconst (v := 3) hx hb dL_law_2137 (by decide) ?_
  refine lv_iadd hx hb dL_law_2138 ?_
  refine lv_topi (fun x_8 ex_8 => ?_)
  obtain rfl : x_8 = 3 := ex_8.trans (by decide)
  refine va_sld hx hb hX hbl hbA hS (z_inC _ (k := 3) (by decide) (by decide)) dL_law_2139 ?_
  refine lv_aload_n hx hb dL_law_2140 rfl (lv_at hl 3 rfl) ?_
  refine lv_iload_n hx hb dL_law_2141 rfl (lv_at hl 0 rfl) ?_
  refine lv_iconst (v := 4) hx hb dL_law_2142 (by decide) ?_
  refine lv_iadd hx hb dL_law_2143 ?_
  refine lv_topi (fun x_9 ex_9 => ?_)
  obtain rfl : x_9 = 4 := ex_9.trans (by decide)
  refine va_sld hx hb hX hbl hbA hS (z_inC _ (k := 4) (by decide) (by decide)) dL_law_2144 ?_
  have hPc := hP.sub (ws' := [(m0, .inr (10, [.int 0, .ref m_width, .ref m_many, .ref m_cells, .ref m_moved, .ref m_tape, .int 0, .int 0, .int 0, .int 0, .int 0, .long 0, .int 0, .int 0, .int 0, .int (-1), .ref m_lines, .ref m_hours, .ref m_courts, .ref m_in, .ref m_gates, .ref m_gate, .ref m_people, .ref m_at0, .ref m_stray, .ref m_set, .ref m_once, .ref m_truth, .ref m_known, .ref m_isKept, .int 0, .int (-1), .int 0, .int 0, .ref m_inside, .ref m_can, .ref m_fewest, .ref m_waysTo, .ref m_then, .ref m_two, .ref m_nextTwo, .ref m_three, .ref m_nextThree, .int (-1), .ref m_worth, .ref m_digit, .int 0, .long 0, .int 0, .int 0, .int 0, .int 0, .long 0])), (m_courts, .inl (cm_courts, 5, .inl (fun _ => 0)))]) [0, 1] rfl
  have hDc := hD.sub (ws' := [(m0, .inr (10, [.int 0, .ref m_width, .ref m_many, .ref m_cells, .ref m_moved, .ref m_tape, .int 0, .int 0, .int 0, .int 0, .int 0, .long 0, .int 0, .int 0, .int 0, .int (-1), .ref m_lines, .ref m_hours, .ref m_courts, .ref m_in, .ref m_gates, .ref m_gate, .ref m_people, .ref m_at0, .ref m_stray, .ref m_set, .ref m_once, .ref m_truth, .ref m_known, .ref m_isKept, .int 0, .int (-1), .int 0, .int 0, .ref m_inside, .ref m_can, .ref m_fewest, .ref m_waysTo, .ref m_then, .ref m_two, .ref m_nextTwo, .ref m_three, .ref m_nextThree, .int (-1), .ref m_worth, .ref m_digit, .int 0, .long 0, .int 0, .int 0, .int 0, .int 0, .long 0])), (m_courts, .inl (cm_courts, 5, .inl (fun _ => 0)))]) [0, 1] (by decide) rfl
  have hKc := hK.sub (tys' := [(cm_courts, .int)]) [0] rfl
  have hFc := va_free (wc := [(m0, .inr (10, [.int 0, .ref m_width, .ref m_many, .ref m_cells, .ref m_moved, .ref m_tape, .int 0, .int 0, .int 0, .int 0, .int 0, .long 0, .int 0, .int 0, .int 0, .int (-1), .ref m_lines, .ref m_hours, .ref m_courts, .ref m_in, .ref m_gates, .ref m_gate, .ref m_people, .ref m_at0, .ref m_stray, .ref m_set, .ref m_once, .ref m_truth, .ref m_known, .ref m_isKept, .int 0, .int (-1), .int 0, .int 0, .ref m_inside, .ref m_can, .ref m_fewest, .ref m_waysTo, .ref m_then, .ref m_two, .ref m_nextTwo, .ref m_three, .ref m_nextThree, .int (-1), .ref m_worth, .ref m_digit, .int 0, .long 0, .int 0, .int 0, .int 0, .int 0, .long 0])), (m_courts, .inl (cm_courts, 5, .inl (fun _ => 0)))]) hD hS hA [0, 1] rfl
  refine va_calll (va_runV (As := [.int (xs (Int32.toNatClampNeg 1)), .int (xs (Int32.toNatClampNeg 2)), .int (xs (Int32.toNatClampNeg 3)), .int (xs (Int32.toNatClampNeg 4))]) (rest := [.long (-2)]) ⟨hx, hb, hml, hown, hts⟩ (k_X10_list l dC dI m0 (xs (Int32.toNatClampNeg 1)) (xs (Int32.toNatClampNeg 2)) (xs (Int32.toNatClampNeg 3)) (xs (Int32.toNatClampNeg 4)) m_width m_many m_cells m_moved m_tape m_lines m_hours m_courts m_in m_gates m_gate m_people m_at0 m_stray m_set m_once m_truth m_known m_isKept m_inside m_can m_fewest m_waysTo m_then m_two m_nextTwo m_three m_nextThree m_worth m_digit cm_courts H.size) (cwV 4 hts (z_gV zw_t8_234 zw_t8_235 zw_t8_236 zw_t1_11 zw_t8_237) rfl rfl rfl (by decide +kernel) ⟨(Nat.le_of_ble_eq_true rfl), (Nat.le_of_ble_eq_true rfl)⟩) (z_preV hPc hKc hDc (ci := 10) (q0 := 0) rfl rfl) rfl rfl hl.1 rfl (lv_room (Nat.le_of_ble_eq_true rfl)) dL_law_2145 ⟨(Nat.le_of_ble_eq_true rfl), (Nat.le_of_ble_eq_true rfl)⟩) hS (fun q _ h => hFc q h) hFc (fun r_10 u t H1 locs ht hvm hw hB hz1 hk1 hS => ?_)
  have hB : zW dC dI [] [] (va_A [(m0, .inr (10, [.int 0, .ref m_width, .ref m_many, .ref m_cells, .ref m_moved, .ref m_tape, .int 0, .int 0, .int 0, .int 0, .int 0, .long 0, .int 0, .int 0, .int 0, .int (-1), .ref m_lines, .ref m_hours, .ref m_courts, .ref m_in, .ref m_gates, .ref m_gate, .ref m_people, .ref m_at0, .ref m_stray, .ref m_set, .ref m_once, .ref m_truth, .ref m_known, .ref m_isKept, .int 0, .int (-1), .int 0, .int 0, .ref m_inside, .ref m_can, .ref m_fewest, .ref m_waysTo, .ref m_then, .ref m_two, .ref m_nextTwo, .ref m_three, .ref m_nextThree, .int (-1), .ref m_worth, .ref m_digit, .int 0, .long 0, .int 0, .int 0, .int 0, .int 0, .long 0])), (m_courts, .inl (cm_courts, 5, .inl (fun _ => 0)))] H.size) t := z_none (va_K.moved hvm hK)
  obtain ⟨hP, hD, hK⟩ := z_after [] hB ht hvm hP hD hK [0, 1] [] rfl rfl (by decide) (by decide) hk1 hFc
  generalize H1 = H at hP hS ⊢
  have hP : va_P (dC, dI) vwCl [] H := hP
  have hD : va_D A [] := hD
  have hK : va_K (dC, dI) vwCl [(cm_courts, .int)] s := hK
  obtain rfl : r_10 = (-2) := hw
  refine W.lcmp hx hb dL_law_2148 ?_
  refine lv_topi (fun x_11 ex_11 => ?_)
  obtain rfl : x_11 = 0 := ex_11.trans (by decide)
  refine lv_if_eq (tgt := 2651) hx hb dL_law_2149 (by decide) (fun _ => ?_) (fun q => absurd q (by decide))
  exact law_tail C0 hA2 (Nat.le_of_ble_eq_true rfl) (Nat.le_of_ble_eq_true rfl) hS (lv_sub hl [0, 3] rfl)
set_option maxHeartbeats 4000000 in
set_option maxRecDepth 100000 in
theorem law_price {p : Program} {e : Env} {s : State} {m : MethodId} {below : List Frame} {meth : Method} {c : Code} {l : Launch} {b : Nat} {xs : Nat → Int32} (C0 : lw_At p s m meth c b 6 xs) {dC : Nat → ClassId} {dI : Nat → Nat → Nat} {A : Nat → Prop} (hA : ∀ q, s.heap.size ≤ q → A q) (hA2 : ∀ q, A q → s.heap.size ≤ q) {h0 : Nat} {tp : Nat} {nw : Nat} {im : Nat} {sl : Nat} {rd : Nat} {wk : Nat} {fm : Nat} {mt : Nat} {ch : Nat} {dy : Nat} {tn : Nat} {ta0 : Nat} {ta1 : Nat} {ta2 : Nat} {ta3 : Nat} {ta4 : Nat} {ta5 : Nat} {ta6 : Nat} {ta7 : Nat} {ta8 : Nat} {ta9 : Nat} {m0 : Nat} {m_width : Nat} {m_many : Nat} {m_cells : Nat} {m_moved : Nat} {m_tape : Nat} {m_lines : Nat} {m_hours : Nat} {m_courts : Nat} {m_in : Nat} {m_gates : Nat} {m_gate : Nat} {m_people : Nat} {m_at0 : Nat} {m_stray : Nat} {m_set : Nat} {m_once : Nat} {m_truth : Nat} {m_known : Nat} {m_isKept : Nat} {m_inside : Nat} {m_can : Nat} {m_fewest : Nat} {m_waysTo : Nat} {m_then : Nat} {m_two : Nat} {m_nextTwo : Nat} {m_three : Nat} {m_nextThree : Nat} {m_worth : Nat} {m_digit : Nat} {cm_courts : ClassId}  {H : Heap} {locs : List Loc} {ls : Array Slot} (hP : va_P (dC, dI) vwCl [(h0, .inr (9, [.ref tp, .int 0, .int 0, .int (-1), .ref nw, .ref im, .ref sl, .ref rd, .ref wk, .ref fm, .ref mt, .ref ch, .ref dy])), (nw, .inr (3, [.int 0, .ref tn, .int 0, .int 0, .int 0, .int 0])), (tn, .inr (7, [.int 0, .int 0, .int 0, .int 0, .int 0, .int 0, .int 0, .int 0, .ref ta0, .ref ta1, .ref ta2, .ref ta3, .ref ta4, .ref ta5, .ref ta6, .ref ta7, .ref ta8, .ref ta9])), (m0, .inr (10, [.int 0, .ref m_width, .ref m_many, .ref m_cells, .ref m_moved, .ref m_tape, .int 0, .int 0, .int 0, .int 0, .int 0, .long 0, .int 0, .int 0, .int 0, .int (-1), .ref m_lines, .ref m_hours, .ref m_courts, .ref m_in, .ref m_gates, .ref m_gate, .ref m_people, .ref m_at0, .ref m_stray, .ref m_set, .ref m_once, .ref m_truth, .ref m_known, .ref m_isKept, .int 0, .int (-1), .int 0, .int 0, .ref m_inside, .ref m_can, .ref m_fewest, .ref m_waysTo, .ref m_then, .ref m_two, .ref m_nextTwo, .ref m_three, .ref m_nextThree, .int (-1), .ref m_worth, .ref m_digit, .int 0, .long 0, .int 0, .int 0, .int 0, .int 0, .long 0])), (m_courts, .inl (cm_courts, 5, .inl (fun _ => 0)))] H) (hD : va_D A [(h0, .inr (9, [.ref tp, .int 0, .int 0, .int (-1), .ref nw, .ref im, .ref sl, .ref rd, .ref wk, .ref fm, .ref mt, .ref ch, .ref dy])), (nw, .inr (3, [.int 0, .ref tn, .int 0, .int 0, .int 0, .int 0])), (tn, .inr (7, [.int 0, .int 0, .int 0, .int 0, .int 0, .int 0, .int 0, .int 0, .ref ta0, .ref ta1, .ref ta2, .ref ta3, .ref ta4, .ref ta5, .ref ta6, .ref ta7, .ref ta8, .ref ta9])), (m0, .inr (10, [.int 0, .ref m_width, .ref m_many, .ref m_cells, .ref m_moved, .ref m_tape, .int 0, .int 0, .int 0, .int 0, .int 0, .long 0, .int 0, .int 0, .int 0, .int (-1), .ref m_lines, .ref m_hours, .ref m_courts, .ref m_in, .ref m_gates, .ref m_gate, .ref m_people, .ref m_at0, .ref m_stray, .ref m_set, .ref m_once, .ref m_truth, .ref m_known, .ref m_isKept, .int 0, .int (-1), .int 0, .int 0, .ref m_inside, .ref m_can, .ref m_fewest, .ref m_waysTo, .ref m_then, .ref m_two, .ref m_nextTwo, .ref m_three, .ref m_nextThree, .int (-1), .ref m_worth, .ref m_digit, .int 0, .long 0, .int 0, .int 0, .int 0, .int 0, .long 0])), (m_courts, .inl (cm_courts, 5, .inl (fun _ => 0)))]) (hK : va_K (dC, dI) vwCl [(cm_courts, .int)] s) (hS : va_S A s.heap H locs) (hl : lv_has ls 4 [(3, .int 0), (2, .ref m0), (1, .ref h0), (0, .ref b)]) : W p l e room_1 s m #[Value.ref b] below meth c H locs 166 101284 (lw_Z below #[Value.ref b] s) (F0 m 2154 ls []) := by
  obtain ⟨hx, hb, hr, hml, hown, hts, hX, hbl, hlocks, hgv⟩ := id C0
  have hown : s.vm.findClass RL = some m.cls := hown
  have hb : c.code = cL_law := hb
  have hts : ∀ w ∈ zT, w.before #[Value.ref b] s = true := fun w h => hts w (zT_in w h)
  have hbA : ¬ A b := fun q => absurd (hA2 b q) (Nat.not_le.mpr hbl)
  refine lv_aload_n hx hb dL_law_2154 rfl (lv_at hl 2 rfl) ?_
  refine lv_aload_n hx hb dL_law_2155 rfl (lv_at hl 3 rfl) ?_
  refine lv_iload_n hx hb dL_law_2156 rfl (lv_at hl 0 rfl) ?_
  refine lv_iconst (v := 1) hx hb dL_law_2157 (by decide) ?_
  refine lv_iadd hx hb dL_law_2158 ?_
  refine lv_topi (fun x_1 ex_1 => ?_)
  obtain rfl : x_1 = 1 := ex_1.trans (by decide)
  refine va_sld hx hb hX hbl hbA hS (z_inC _ (k := 1) (by decide) (by decide)) dL_law_2159 ?_
  refine lv_aload_n hx hb dL_law_2160 rfl (lv_at hl 3 rfl) ?_
  refine lv_iload_n hx hb dL_law_2161 rfl (lv_at hl 0 rfl) ?_
  refine lv_iconst (v := 2) hx hb dL_law_2162 (by decide) ?_
  refine lv_iadd hx hb dL_law_2163 ?_
  refine lv_topi (fun x_2 ex_2 => ?_)
  obtain rfl : x_2 = 2 := ex_2.trans (by decide)
  refine va_sld hx hb hX hbl hbA hS (z_inC _ (k := 2) (by decide) (by decide)) dL_law_2164 ?_
  refine lv_aload_n hx hb dL_law_2165 rfl (lv_at hl 3 rfl) ?_
  refine lv_iload_n hx hb dL_law_2166 rfl (lv_at hl 0 rfl) ?_
  refine lv_iconst (v := 3) hx hb dL_law_2167 (by decide) ?_
  refine lv_iadd hx hb dL_law_2168 ?_
  refine lv_topi (fun x_3 ex_3 => ?_)
  obtain rfl : x_3 = 3 := ex_3.trans (by decide)
  refine va_sld hx hb hX hbl hbA hS (z_inC _ (k := 3) (by decide) (by decide)) dL_law_2169 ?_
  refine lv_aload_n hx hb dL_law_2170 rfl (lv_at hl 3 rfl) ?_
  refine lv_iload_n hx hb dL_law_2171 rfl (lv_at hl 0 rfl) ?_
  refine lv_iconst (v := 4) hx hb dL_law_2172 (by decide) ?_
  refine lv_iadd hx hb dL_law_2173 ?_
  refine lv_topi (fun x_4 ex_4 => ?_)
  obtain rfl : x_4 = 4 := ex_4.trans (by decide)
  refine va_sld hx hb hX hbl hbA hS (z_inC _ (k := 4) (by decide) (by decide)) dL_law_2174 ?_
  have hPc := hP.sub (ws' := [(h0, .inr (9, [.ref tp, .int 0, .int 0, .int (-1), .ref nw, .ref im, .ref sl, .ref rd, .ref wk, .ref fm, .ref mt, .ref ch, .ref dy])), (nw, .inr (3, [.int 0, .ref tn, .int 0, .int 0, .int 0, .int 0])), (tn, .inr (7, [.int 0, .int 0, .int 0, .int 0, .int 0, .int 0, .int 0, .int 0, .ref ta0, .ref ta1, .ref ta2, .ref ta3, .ref ta4, .ref ta5, .ref ta6, .ref ta7, .ref ta8, .ref ta9]))]) [0, 1, 2] rfl
  have hDc := hD.sub (ws' := [(h0, .inr (9, [.ref tp, .int 0, .int 0, .int (-1), .ref nw, .ref im, .ref sl, .ref rd, .ref wk, .ref fm, .ref mt, .ref ch, .ref dy])), (nw, .inr (3, [.int 0, .ref tn, .int 0, .int 0, .int 0, .int 0])), (tn, .inr (7, [.int 0, .int 0, .int 0, .int 0, .int 0, .int 0, .int 0, .int 0, .ref ta0, .ref ta1, .ref ta2, .ref ta3, .ref ta4, .ref ta5, .ref ta6, .ref ta7, .ref ta8, .ref ta9]))]) [0, 1, 2] (by decide) rfl
  have hKc := hK.sub (tys' := []) [] rfl
  have hFc := va_free (wc := [(h0, .inr (9, [.ref tp, .int 0, .int 0, .int (-1), .ref nw, .ref im, .ref sl, .ref rd, .ref wk, .ref fm, .ref mt, .ref ch, .ref dy])), (nw, .inr (3, [.int 0, .ref tn, .int 0, .int 0, .int 0, .int 0])), (tn, .inr (7, [.int 0, .int 0, .int 0, .int 0, .int 0, .int 0, .int 0, .int 0, .ref ta0, .ref ta1, .ref ta2, .ref ta3, .ref ta4, .ref ta5, .ref ta6, .ref ta7, .ref ta8, .ref ta9]))]) hD hS hA [0, 1, 2] rfl
  refine va_calll (va_runV (As := [.int (xs (Int32.toNatClampNeg 1)), .int (xs (Int32.toNatClampNeg 2)), .int (xs (Int32.toNatClampNeg 3)), .int (xs (Int32.toNatClampNeg 4))]) (rest := []) ⟨hx, hb, hml, hown, hts⟩ (k_X9_price l dC dI h0 (xs (Int32.toNatClampNeg 1)) (xs (Int32.toNatClampNeg 2)) (xs (Int32.toNatClampNeg 3)) (xs (Int32.toNatClampNeg 4)) tp nw im sl rd wk fm mt ch dy tn ta0 ta1 ta2 ta3 ta4 ta5 ta6 ta7 ta8 ta9 H.size) (cwV 4 hts (z_gV zw_t5_202 zw_t5_203 zw_t5_204 zw_t1_1 zw_t5_205) rfl rfl rfl (by decide +kernel) ⟨(Nat.le_of_ble_eq_true rfl), (Nat.le_of_ble_eq_true rfl)⟩) (z_preV hPc hKc hDc (ci := 9) (q0 := 0) rfl rfl) rfl rfl hl.1 rfl (lv_room (Nat.le_of_ble_eq_true rfl)) dL_law_2175 ⟨(Nat.le_of_ble_eq_true rfl), (Nat.le_of_ble_eq_true rfl)⟩) hS (fun q _ h => hFc q h) hFc (fun r_5 u t H1 locs ht hvm hw hB hz1 hk1 hS => ?_)
  have hB : zW dC dI [] [] (va_A [(h0, .inr (9, [.ref tp, .int 0, .int 0, .int (-1), .ref nw, .ref im, .ref sl, .ref rd, .ref wk, .ref fm, .ref mt, .ref ch, .ref dy])), (nw, .inr (3, [.int 0, .ref tn, .int 0, .int 0, .int 0, .int 0])), (tn, .inr (7, [.int 0, .int 0, .int 0, .int 0, .int 0, .int 0, .int 0, .int 0, .ref ta0, .ref ta1, .ref ta2, .ref ta3, .ref ta4, .ref ta5, .ref ta6, .ref ta7, .ref ta8, .ref ta9]))] H.size) t := z_none (va_K.moved hvm hK)
  obtain ⟨hP, hD, hK⟩ := z_after [(m0, .inr (10, [.int 0, .ref m_width, .ref m_many, .ref m_cells, .ref m_moved, .ref m_tape, .int 0, .int 0, .int 0, .int 0, .int 0, .long 0, .int 0, .int 0, .int 0, .int (-1), .ref m_lines, .ref m_hours, .ref m_courts, .ref m_in, .ref m_gates, .ref m_gate, .ref m_people, .ref m_at0, .ref m_stray, .ref m_set, .ref m_once, .ref m_truth, .ref m_known, .ref m_isKept, .int 0, .int (-1), .int 0, .int 0, .ref m_inside, .ref m_can, .ref m_fewest, .ref m_waysTo, .ref m_then, .ref m_two, .ref m_nextTwo, .ref m_three, .ref m_nextThree, .int (-1), .ref m_worth, .ref m_digit, .int 0, .long 0, .int 0, .int 0, .int 0, .int 0, .long 0])), (m_courts, .inl (cm_courts, 5, .inl (fun _ => 0)))] hB ht hvm hP hD hK [0, 1, 2] [3, 4] rfl rfl (by decide) (by decide) hk1 hFc
  generalize H1 = H at hP hS ⊢
  have hP : va_P (dC, dI) vwCl [(m0, .inr (10, [.int 0, .ref m_width, .ref m_many, .ref m_cells, .ref m_moved, .ref m_tape, .int 0, .int 0, .int 0, .int 0, .int 0, .long 0, .int 0, .int 0, .int 0, .int (-1), .ref m_lines, .ref m_hours, .ref m_courts, .ref m_in, .ref m_gates, .ref m_gate, .ref m_people, .ref m_at0, .ref m_stray, .ref m_set, .ref m_once, .ref m_truth, .ref m_known, .ref m_isKept, .int 0, .int (-1), .int 0, .int 0, .ref m_inside, .ref m_can, .ref m_fewest, .ref m_waysTo, .ref m_then, .ref m_two, .ref m_nextTwo, .ref m_three, .ref m_nextThree, .int (-1), .ref m_worth, .ref m_digit, .int 0, .long 0, .int 0, .int 0, .int 0, .int 0, .long 0])), (m_courts, .inl (cm_courts, 5, .inl (fun _ => 0)))] H := hP
  have hD : va_D A [(m0, .inr (10, [.int 0, .ref m_width, .ref m_many, .ref m_cells, .ref m_moved, .ref m_tape, .int 0, .int 0, .int 0, .int 0, .int 0, .long 0, .int 0, .int 0, .int 0, .int (-1), .ref m_lines, .ref m_hours, .ref m_courts, .ref m_in, .ref m_gates, .ref m_gate, .ref m_people, .ref m_at0, .ref m_stray, .ref m_set, .ref m_once, .ref m_truth, .ref m_known, .ref m_isKept, .int 0, .int (-1), .int 0, .int 0, .ref m_inside, .ref m_can, .ref m_fewest, .ref m_waysTo, .ref m_then, .ref m_two, .ref m_nextTwo, .ref m_three, .ref m_nextThree, .int (-1), .ref m_worth, .ref m_digit, .int 0, .long 0, .int 0, .int 0, .int 0, .int 0, .long 0])), (m_courts, .inl (cm_courts, 5, .inl (fun _ => 0)))] := hD
  have hK : va_K (dC, dI) vwCl [(cm_courts, .int)] s := hK
  obtain rfl : r_5 = (-2) := hw
  refine lv_aload_n hx hb dL_law_2178 rfl (lv_at hl 1 rfl) ?_
  refine lv_aload_n hx hb dL_law_2179 rfl (lv_at hl 3 rfl) ?_
  refine lv_iload_n hx hb dL_law_2180 rfl (lv_at hl 0 rfl) ?_
  refine lv_iconst (v := 1) hx hb dL_law_2181 (by decide) ?_
  refine lv_iadd hx hb dL_law_2182 ?_
  refine lv_topi (fun x_6 ex_6 => ?_)
  obtain rfl : x_6 = 1 := ex_6.trans (by decide)
  refine va_sld hx hb hX hbl hbA hS (z_inC _ (k := 1) (by decide) (by decide)) dL_law_2183 ?_
  refine lv_aload_n hx hb dL_law_2184 rfl (lv_at hl 3 rfl) ?_
  refine lv_iload_n hx hb dL_law_2185 rfl (lv_at hl 0 rfl) ?_
  refine lv_iconst (v := 2) hx hb dL_law_2186 (by decide) ?_
  refine lv_iadd hx hb dL_law_2187 ?_
  refine lv_topi (fun x_7 ex_7 => ?_)
  obtain rfl : x_7 = 2 := ex_7.trans (by decide)
  refine va_sld hx hb hX hbl hbA hS (z_inC _ (k := 2) (by decide) (by decide)) dL_law_2188 ?_
  refine lv_aload_n hx hb dL_law_2189 rfl (lv_at hl 3 rfl) ?_
  refine lv_iload_n hx hb dL_law_2190 rfl (lv_at hl 0 rfl) ?_
  refine lv_iconst (v := 3) hx hb dL_law_2191 (by decide) ?_
  refine lv_iadd hx hb dL_law_2192 ?_
  refine lv_topi (fun x_8 ex_8 => ?_)
  obtain rfl : x_8 = 3 := ex_8.trans (by decide)
  refine va_sld hx hb hX hbl hbA hS (z_inC _ (k := 3) (by decide) (by decide)) dL_law_2193 ?_
  refine lv_aload_n hx hb dL_law_2194 rfl (lv_at hl 3 rfl) ?_
  refine lv_iload_n hx hb dL_law_2195 rfl (lv_at hl 0 rfl) ?_
  refine lv_iconst (v := 4) hx hb dL_law_2196 (by decide) ?_
  refine lv_iadd hx hb dL_law_2197 ?_
  refine lv_topi (fun x_9 ex_9 => ?_)
  obtain rfl : x_9 = 4 := ex_9.trans (by decide)
  refine va_sld hx hb hX hbl hbA hS (z_inC _ (k := 4) (by decide) (by decide)) dL_law_2198 ?_
  have hPc := hP.sub (ws' := [(m0, .inr (10, [.int 0, .ref m_width, .ref m_many, .ref m_cells, .ref m_moved, .ref m_tape, .int 0, .int 0, .int 0, .int 0, .int 0, .long 0, .int 0, .int 0, .int 0, .int (-1), .ref m_lines, .ref m_hours, .ref m_courts, .ref m_in, .ref m_gates, .ref m_gate, .ref m_people, .ref m_at0, .ref m_stray, .ref m_set, .ref m_once, .ref m_truth, .ref m_known, .ref m_isKept, .int 0, .int (-1), .int 0, .int 0, .ref m_inside, .ref m_can, .ref m_fewest, .ref m_waysTo, .ref m_then, .ref m_two, .ref m_nextTwo, .ref m_three, .ref m_nextThree, .int (-1), .ref m_worth, .ref m_digit, .int 0, .long 0, .int 0, .int 0, .int 0, .int 0, .long 0])), (m_courts, .inl (cm_courts, 5, .inl (fun _ => 0)))]) [0, 1] rfl
  have hDc := hD.sub (ws' := [(m0, .inr (10, [.int 0, .ref m_width, .ref m_many, .ref m_cells, .ref m_moved, .ref m_tape, .int 0, .int 0, .int 0, .int 0, .int 0, .long 0, .int 0, .int 0, .int 0, .int (-1), .ref m_lines, .ref m_hours, .ref m_courts, .ref m_in, .ref m_gates, .ref m_gate, .ref m_people, .ref m_at0, .ref m_stray, .ref m_set, .ref m_once, .ref m_truth, .ref m_known, .ref m_isKept, .int 0, .int (-1), .int 0, .int 0, .ref m_inside, .ref m_can, .ref m_fewest, .ref m_waysTo, .ref m_then, .ref m_two, .ref m_nextTwo, .ref m_three, .ref m_nextThree, .int (-1), .ref m_worth, .ref m_digit, .int 0, .long 0, .int 0, .int 0, .int 0, .int 0, .long 0])), (m_courts, .inl (cm_courts, 5, .inl (fun _ => 0)))]) [0, 1] (by decide) rfl
  have hKc := hK.sub (tys' := [(cm_courts, .int)]) [0] rfl
  have hFc := va_free (wc := [(m0, .inr (10, [.int 0, .ref m_width, .ref m_many, .ref m_cells, .ref m_moved, .ref m_tape, .int 0, .int 0, .int 0, .int 0, .int 0, .long 0, .int 0, .int 0, .int 0, .int (-1), .ref m_lines, .ref m_hours, .ref m_courts, .ref m_in, .ref m_gates, .ref m_gate, .ref m_people, .ref m_at0, .ref m_stray, .ref m_set, .ref m_once, .ref m_truth, .ref m_known, .ref m_isKept, .int 0, .int (-1), .int 0, .int 0, .ref m_inside, .ref m_can, .ref m_fewest, .ref m_waysTo, .ref m_then, .ref m_two, .ref m_nextTwo, .ref m_three, .ref m_nextThree, .int (-1), .ref m_worth, .ref m_digit, .int 0, .long 0, .int 0, .int 0, .int 0, .int 0, .long 0])), (m_courts, .inl (cm_courts, 5, .inl (fun _ => 0)))]) hD hS hA [0, 1] rfl
  refine va_calll (va_runV (As := [.int (xs (Int32.toNatClampNeg 1)), .int (xs (Int32.toNatClampNeg 2)), .int (xs (Int32.toNatClampNeg 3)), .int (xs (Int32.toNatClampNeg 4))]) (rest := [.long (-2)]) ⟨hx, hb, hml, hown, hts⟩ (k_X10_price l dC dI m0 (xs (Int32.toNatClampNeg 1)) (xs (Int32.toNatClampNeg 2)) (xs (Int32.toNatClampNeg 3)) (xs (Int32.toNatClampNeg 4)) m_width m_many m_cells m_moved m_tape m_lines m_hours m_courts m_in m_gates m_gate m_people m_at0 m_stray m_set m_once m_truth m_known m_isKept m_inside m_can m_fewest m_waysTo m_then m_two m_nextTwo m_three m_nextThree m_worth m_digit cm_courts H.size) (cwV 4 hts (z_gV zw_t9_2 zw_t9_3 zw_t9_4 zw_t1_11 zw_t9_5) rfl rfl rfl (by decide +kernel) ⟨(Nat.le_of_ble_eq_true rfl), (Nat.le_of_ble_eq_true rfl)⟩) (z_preV hPc hKc hDc (ci := 10) (q0 := 0) rfl rfl) rfl rfl hl.1 rfl (lv_room (Nat.le_of_ble_eq_true rfl)) dL_law_2199 ⟨(Nat.le_of_ble_eq_true rfl), (Nat.le_of_ble_eq_true rfl)⟩) hS (fun q _ h => hFc q h) hFc (fun r_10 u t H1 locs ht hvm hw hB hz1 hk1 hS => ?_)
  have hB : zW dC dI [] [] (va_A [(m0, .inr (10, [.int 0, .ref m_width, .ref m_many, .ref m_cells, .ref m_moved, .ref m_tape, .int 0, .int 0, .int 0, .int 0, .int 0, .long 0, .int 0, .int 0, .int 0, .int (-1), .ref m_lines, .ref m_hours, .ref m_courts, .ref m_in, .ref m_gates, .ref m_gate, .ref m_people, .ref m_at0, .ref m_stray, .ref m_set, .ref m_once, .ref m_truth, .ref m_known, .ref m_isKept, .int 0, .int (-1), .int 0, .int 0, .ref m_inside, .ref m_can, .ref m_fewest, .ref m_waysTo, .ref m_then, .ref m_two, .ref m_nextTwo, .ref m_three, .ref m_nextThree, .int (-1), .ref m_worth, .ref m_digit, .int 0, .long 0, .int 0, .int 0, .int 0, .int 0, .long 0])), (m_courts, .inl (cm_courts, 5, .inl (fun _ => 0)))] H.size) t := z_none (va_K.moved hvm hK)
  obtain ⟨hP, hD, hK⟩ := z_after [] hB ht hvm hP hD hK [0, 1] [] rfl rfl (by decide) (by decide) hk1 hFc
  generalize H1 = H at hP hS ⊢
  have hP : va_P (dC, dI) vwCl [] H := hP
  have hD : va_D A [] := hD
  have hK : va_K (dC, dI) vwCl [(cm_courts, .int)] s := hK
  obtain rfl : r_10 = (-2) := hw
  refine W.lcmp hx hb dL_law_2202 ?_
  refine lv_topi (fun x_11 ex_11 => ?_)
  obtain rfl : x_11 = 0 := ex_11.trans (by decide)
  refine lv_if_eq (tgt := 2651) hx hb dL_law_2203 (by decide) (fun _ => ?_) (fun q => absurd q (by decide))
  exact law_tail C0 hA2 (Nat.le_of_ble_eq_true rfl) (Nat.le_of_ble_eq_true rfl) hS (lv_sub hl [0, 3] rfl)
set_option maxHeartbeats 4000000 in
set_option maxRecDepth 100000 in
theorem law_begin {p : Program} {e : Env} {s : State} {m : MethodId} {below : List Frame} {meth : Method} {c : Code} {l : Launch} {b : Nat} {xs : Nat → Int32} (C0 : lw_At p s m meth c b 6 xs) {dC : Nat → ClassId} {dI : Nat → Nat → Nat} {A : Nat → Prop} (hA : ∀ q, s.heap.size ≤ q → A q) (hA2 : ∀ q, A q → s.heap.size ≤ q) {h0 : Nat} {tp : Nat} {nw : Nat} {im : Nat} {sl : Nat} {rd : Nat} {wk : Nat} {fm : Nat} {mt : Nat} {ch : Nat} {dy : Nat} {tn : Nat} {ta0 : Nat} {ta1 : Nat} {ta2 : Nat} {ta3 : Nat} {ta4 : Nat} {ta5 : Nat} {ta6 : Nat} {ta7 : Nat} {ta8 : Nat} {ta9 : Nat} {m0 : Nat} {m_width : Nat} {m_many : Nat} {m_cells : Nat} {m_moved : Nat} {m_tape : Nat} {m_lines : Nat} {m_hours : Nat} {m_courts : Nat} {m_in : Nat} {m_gates : Nat} {m_gate : Nat} {m_people : Nat} {m_at0 : Nat} {m_stray : Nat} {m_set : Nat} {m_once : Nat} {m_truth : Nat} {m_known : Nat} {m_isKept : Nat} {m_inside : Nat} {m_can : Nat} {m_fewest : Nat} {m_waysTo : Nat} {m_then : Nat} {m_two : Nat} {m_nextTwo : Nat} {m_three : Nat} {m_nextThree : Nat} {m_worth : Nat} {m_digit : Nat} {cm_courts : ClassId}  {H : Heap} {locs : List Loc} {ls : Array Slot} (hP : va_P (dC, dI) vwCl [(h0, .inr (9, [.ref tp, .int 0, .int 0, .int (-1), .ref nw, .ref im, .ref sl, .ref rd, .ref wk, .ref fm, .ref mt, .ref ch, .ref dy])), (nw, .inr (3, [.int 0, .ref tn, .int 0, .int 0, .int 0, .int 0])), (tn, .inr (7, [.int 0, .int 0, .int 0, .int 0, .int 0, .int 0, .int 0, .int 0, .ref ta0, .ref ta1, .ref ta2, .ref ta3, .ref ta4, .ref ta5, .ref ta6, .ref ta7, .ref ta8, .ref ta9])), (m0, .inr (10, [.int 0, .ref m_width, .ref m_many, .ref m_cells, .ref m_moved, .ref m_tape, .int 0, .int 0, .int 0, .int 0, .int 0, .long 0, .int 0, .int 0, .int 0, .int (-1), .ref m_lines, .ref m_hours, .ref m_courts, .ref m_in, .ref m_gates, .ref m_gate, .ref m_people, .ref m_at0, .ref m_stray, .ref m_set, .ref m_once, .ref m_truth, .ref m_known, .ref m_isKept, .int 0, .int (-1), .int 0, .int 0, .ref m_inside, .ref m_can, .ref m_fewest, .ref m_waysTo, .ref m_then, .ref m_two, .ref m_nextTwo, .ref m_three, .ref m_nextThree, .int (-1), .ref m_worth, .ref m_digit, .int 0, .long 0, .int 0, .int 0, .int 0, .int 0, .long 0])), (m_courts, .inl (cm_courts, 5, .inl (fun _ => 0)))] H) (hD : va_D A [(h0, .inr (9, [.ref tp, .int 0, .int 0, .int (-1), .ref nw, .ref im, .ref sl, .ref rd, .ref wk, .ref fm, .ref mt, .ref ch, .ref dy])), (nw, .inr (3, [.int 0, .ref tn, .int 0, .int 0, .int 0, .int 0])), (tn, .inr (7, [.int 0, .int 0, .int 0, .int 0, .int 0, .int 0, .int 0, .int 0, .ref ta0, .ref ta1, .ref ta2, .ref ta3, .ref ta4, .ref ta5, .ref ta6, .ref ta7, .ref ta8, .ref ta9])), (m0, .inr (10, [.int 0, .ref m_width, .ref m_many, .ref m_cells, .ref m_moved, .ref m_tape, .int 0, .int 0, .int 0, .int 0, .int 0, .long 0, .int 0, .int 0, .int 0, .int (-1), .ref m_lines, .ref m_hours, .ref m_courts, .ref m_in, .ref m_gates, .ref m_gate, .ref m_people, .ref m_at0, .ref m_stray, .ref m_set, .ref m_once, .ref m_truth, .ref m_known, .ref m_isKept, .int 0, .int (-1), .int 0, .int 0, .ref m_inside, .ref m_can, .ref m_fewest, .ref m_waysTo, .ref m_then, .ref m_two, .ref m_nextTwo, .ref m_three, .ref m_nextThree, .int (-1), .ref m_worth, .ref m_digit, .int 0, .long 0, .int 0, .int 0, .int 0, .int 0, .long 0])), (m_courts, .inl (cm_courts, 5, .inl (fun _ => 0)))]) (hK : va_K (dC, dI) vwCl [(cm_courts, .int)] s) (hS : va_S A s.heap H locs) (hl : lv_has ls 4 [(3, .int 0), (2, .ref m0), (1, .ref h0), (0, .ref b)]) : W p l e room_1 s m #[Value.ref b] below meth c H locs 166 101284 (lw_Z below #[Value.ref b] s) (F0 m 2208 ls []) := by
  obtain ⟨hx, hb, hr, hml, hown, hts, hX, hbl, hlocks, hgv⟩ := id C0
  have hown : s.vm.findClass RL = some m.cls := hown
  have hb : c.code = cL_law := hb
  have hts : ∀ w ∈ zT, w.before #[Value.ref b] s = true := fun w h => hts w (zT_in w h)
  have hbA : ¬ A b := fun q => absurd (hA2 b q) (Nat.not_le.mpr hbl)
  refine lv_aload_n hx hb dL_law_2208 rfl (lv_at hl 2 rfl) ?_
  refine lv_aload_n hx hb dL_law_2209 rfl (lv_at hl 3 rfl) ?_
  refine lv_iload_n hx hb dL_law_2210 rfl (lv_at hl 0 rfl) ?_
  refine lv_iconst (v := 1) hx hb dL_law_2211 (by decide) ?_
  refine lv_iadd hx hb dL_law_2212 ?_
  refine lv_topi (fun x_1 ex_1 => ?_)
  obtain rfl : x_1 = 1 := ex_1.trans (by decide)
  refine va_sld hx hb hX hbl hbA hS (z_inC _ (k := 1) (by decide) (by decide)) dL_law_2213 ?_
  refine lv_aload_n hx hb dL_law_2214 rfl (lv_at hl 3 rfl) ?_
  refine lv_iload_n hx hb dL_law_2215 rfl (lv_at hl 0 rfl) ?_
  refine lv_iconst (v := 2) hx hb dL_law_2216 (by decide) ?_
  refine lv_iadd hx hb dL_law_2217 ?_
  refine lv_topi (fun x_2 ex_2 => ?_)
  obtain rfl : x_2 = 2 := ex_2.trans (by decide)
  refine va_sld hx hb hX hbl hbA hS (z_inC _ (k := 2) (by decide) (by decide)) dL_law_2218 ?_
  refine lv_aload_n hx hb dL_law_2219 rfl (lv_at hl 3 rfl) ?_
  refine lv_iload_n hx hb dL_law_2220 rfl (lv_at hl 0 rfl) ?_
  refine lv_iconst (v := 3) hx hb dL_law_2221 (by decide) ?_
  refine lv_iadd hx hb dL_law_2222 ?_
  refine lv_topi (fun x_3 ex_3 => ?_)
  obtain rfl : x_3 = 3 := ex_3.trans (by decide)
  refine va_sld hx hb hX hbl hbA hS (z_inC _ (k := 3) (by decide) (by decide)) dL_law_2223 ?_
  refine lv_aload_n hx hb dL_law_2224 rfl (lv_at hl 3 rfl) ?_
  refine lv_iload_n hx hb dL_law_2225 rfl (lv_at hl 0 rfl) ?_
  refine lv_iconst (v := 4) hx hb dL_law_2226 (by decide) ?_
  refine lv_iadd hx hb dL_law_2227 ?_
  refine lv_topi (fun x_4 ex_4 => ?_)
  obtain rfl : x_4 = 4 := ex_4.trans (by decide)
  refine va_sld hx hb hX hbl hbA hS (z_inC _ (k := 4) (by decide) (by decide)) dL_law_2228 ?_
  have hPc := hP.sub (ws' := [(h0, .inr (9, [.ref tp, .int 0, .int 0, .int (-1), .ref nw, .ref im, .ref sl, .ref rd, .ref wk, .ref fm, .ref mt, .ref ch, .ref dy])), (nw, .inr (3, [.int 0, .ref tn, .int 0, .int 0, .int 0, .int 0])), (tn, .inr (7, [.int 0, .int 0, .int 0, .int 0, .int 0, .int 0, .int 0, .int 0, .ref ta0, .ref ta1, .ref ta2, .ref ta3, .ref ta4, .ref ta5, .ref ta6, .ref ta7, .ref ta8, .ref ta9]))]) [0, 1, 2] rfl
  have hDc := hD.sub (ws' := [(h0, .inr (9, [.ref tp, .int 0, .int 0, .int (-1), .ref nw, .ref im, .ref sl, .ref rd, .ref wk, .ref fm, .ref mt, .ref ch, .ref dy])), (nw, .inr (3, [.int 0, .ref tn, .int 0, .int 0, .int 0, .int 0])), (tn, .inr (7, [.int 0, .int 0, .int 0, .int 0, .int 0, .int 0, .int 0, .int 0, .ref ta0, .ref ta1, .ref ta2, .ref ta3, .ref ta4, .ref ta5, .ref ta6, .ref ta7, .ref ta8, .ref ta9]))]) [0, 1, 2] (by decide) rfl
  have hKc := hK.sub (tys' := []) [] rfl
  have hFc := va_free (wc := [(h0, .inr (9, [.ref tp, .int 0, .int 0, .int (-1), .ref nw, .ref im, .ref sl, .ref rd, .ref wk, .ref fm, .ref mt, .ref ch, .ref dy])), (nw, .inr (3, [.int 0, .ref tn, .int 0, .int 0, .int 0, .int 0])), (tn, .inr (7, [.int 0, .int 0, .int 0, .int 0, .int 0, .int 0, .int 0, .int 0, .ref ta0, .ref ta1, .ref ta2, .ref ta3, .ref ta4, .ref ta5, .ref ta6, .ref ta7, .ref ta8, .ref ta9]))]) hD hS hA [0, 1, 2] rfl
  refine va_calli (va_runV (As := [.int (xs (Int32.toNatClampNeg 1)), .int (xs (Int32.toNatClampNeg 2)), .int (xs (Int32.toNatClampNeg 3)), .int (xs (Int32.toNatClampNeg 4))]) (rest := []) ⟨hx, hb, hml, hown, hts⟩ (k_X9_begin l dC dI h0 (xs (Int32.toNatClampNeg 1)) (xs (Int32.toNatClampNeg 2)) (xs (Int32.toNatClampNeg 3)) (xs (Int32.toNatClampNeg 4)) tp nw im sl rd wk fm mt ch dy tn ta0 ta1 ta2 ta3 ta4 ta5 ta6 ta7 ta8 ta9 H.size) (cwV 4 hts (z_gV zw_t5_207 zw_t5_208 zw_t5_209 zw_t1_1 zw_t5_210) rfl rfl rfl (by decide +kernel) ⟨(Nat.le_of_ble_eq_true rfl), (Nat.le_of_ble_eq_true rfl)⟩) (z_preV hPc hKc hDc (ci := 9) (q0 := 0) rfl rfl) rfl rfl hl.1 rfl (lv_room (Nat.le_of_ble_eq_true rfl)) dL_law_2229 ⟨(Nat.le_of_ble_eq_true rfl), (Nat.le_of_ble_eq_true rfl)⟩) hS (fun q _ h => hFc q h) hFc (fun r_5 u t H1 locs ht hvm hw hB hz1 hk1 hS => ?_)
  have hB : zW dC dI [] [] (va_A [(h0, .inr (9, [.ref tp, .int 0, .int 0, .int (-1), .ref nw, .ref im, .ref sl, .ref rd, .ref wk, .ref fm, .ref mt, .ref ch, .ref dy])), (nw, .inr (3, [.int 0, .ref tn, .int 0, .int 0, .int 0, .int 0])), (tn, .inr (7, [.int 0, .int 0, .int 0, .int 0, .int 0, .int 0, .int 0, .int 0, .ref ta0, .ref ta1, .ref ta2, .ref ta3, .ref ta4, .ref ta5, .ref ta6, .ref ta7, .ref ta8, .ref ta9]))] H.size) t := z_none (va_K.moved hvm hK)
  obtain ⟨hP, hD, hK⟩ := z_after [(m0, .inr (10, [.int 0, .ref m_width, .ref m_many, .ref m_cells, .ref m_moved, .ref m_tape, .int 0, .int 0, .int 0, .int 0, .int 0, .long 0, .int 0, .int 0, .int 0, .int (-1), .ref m_lines, .ref m_hours, .ref m_courts, .ref m_in, .ref m_gates, .ref m_gate, .ref m_people, .ref m_at0, .ref m_stray, .ref m_set, .ref m_once, .ref m_truth, .ref m_known, .ref m_isKept, .int 0, .int (-1), .int 0, .int 0, .ref m_inside, .ref m_can, .ref m_fewest, .ref m_waysTo, .ref m_then, .ref m_two, .ref m_nextTwo, .ref m_three, .ref m_nextThree, .int (-1), .ref m_worth, .ref m_digit, .int 0, .long 0, .int 0, .int 0, .int 0, .int 0, .long 0])), (m_courts, .inl (cm_courts, 5, .inl (fun _ => 0)))] hB ht hvm hP hD hK [0, 1, 2] [3, 4] rfl rfl (by decide) (by decide) hk1 hFc
  generalize H1 = H at hP hS ⊢
  have hP : va_P (dC, dI) vwCl [(m0, .inr (10, [.int 0, .ref m_width, .ref m_many, .ref m_cells, .ref m_moved, .ref m_tape, .int 0, .int 0, .int 0, .int 0, .int 0, .long 0, .int 0, .int 0, .int 0, .int (-1), .ref m_lines, .ref m_hours, .ref m_courts, .ref m_in, .ref m_gates, .ref m_gate, .ref m_people, .ref m_at0, .ref m_stray, .ref m_set, .ref m_once, .ref m_truth, .ref m_known, .ref m_isKept, .int 0, .int (-1), .int 0, .int 0, .ref m_inside, .ref m_can, .ref m_fewest, .ref m_waysTo, .ref m_then, .ref m_two, .ref m_nextTwo, .ref m_three, .ref m_nextThree, .int (-1), .ref m_worth, .ref m_digit, .int 0, .long 0, .int 0, .int 0, .int 0, .int 0, .long 0])), (m_courts, .inl (cm_courts, 5, .inl (fun _ => 0)))] H := hP
  have hD : va_D A [(m0, .inr (10, [.int 0, .ref m_width, .ref m_many, .ref m_cells, .ref m_moved, .ref m_tape, .int 0, .int 0, .int 0, .int 0, .int 0, .long 0, .int 0, .int 0, .int 0, .int (-1), .ref m_lines, .ref m_hours, .ref m_courts, .ref m_in, .ref m_gates, .ref m_gate, .ref m_people, .ref m_at0, .ref m_stray, .ref m_set, .ref m_once, .ref m_truth, .ref m_known, .ref m_isKept, .int 0, .int (-1), .int 0, .int 0, .ref m_inside, .ref m_can, .ref m_fewest, .ref m_waysTo, .ref m_then, .ref m_two, .ref m_nextTwo, .ref m_three, .ref m_nextThree, .int (-1), .ref m_worth, .ref m_digit, .int 0, .long 0, .int 0, .int 0, .int 0, .int 0, .long 0])), (m_courts, .inl (cm_courts, 5, .inl (fun _ => 0)))] := hD
  have hK : va_K (dC, dI) vwCl [(cm_courts, .int)] s := hK
  obtain rfl : r_5 = (-2) := hw
  refine lv_aload_n hx hb dL_law_2232 rfl (lv_at hl 1 rfl) ?_
  refine lv_aload_n hx hb dL_law_2233 rfl (lv_at hl 3 rfl) ?_
  refine lv_iload_n hx hb dL_law_2234 rfl (lv_at hl 0 rfl) ?_
  refine lv_iconst (v := 1) hx hb dL_law_2235 (by decide) ?_
  refine lv_iadd hx hb dL_law_2236 ?_
  refine lv_topi (fun x_6 ex_6 => ?_)
  obtain rfl : x_6 = 1 := ex_6.trans (by decide)
  refine va_sld hx hb hX hbl hbA hS (z_inC _ (k := 1) (by decide) (by decide)) dL_law_2237 ?_
  refine lv_aload_n hx hb dL_law_2238 rfl (lv_at hl 3 rfl) ?_
  refine lv_iload_n hx hb dL_law_2239 rfl (lv_at hl 0 rfl) ?_
  refine lv_iconst (v := 2) hx hb dL_law_2240 (by decide) ?_
  refine lv_iadd hx hb dL_law_2241 ?_
  refine lv_topi (fun x_7 ex_7 => ?_)
  obtain rfl : x_7 = 2 := ex_7.trans (by decide)
  refine va_sld hx hb hX hbl hbA hS (z_inC _ (k := 2) (by decide) (by decide)) dL_law_2242 ?_
  refine lv_aload_n hx hb dL_law_2243 rfl (lv_at hl 3 rfl) ?_
  refine lv_iload_n hx hb dL_law_2244 rfl (lv_at hl 0 rfl) ?_
  refine lv_iconst (v := 3) hx hb dL_law_2245 (by decide) ?_
  refine lv_iadd hx hb dL_law_2246 ?_
  refine lv_topi (fun x_8 ex_8 => ?_)
  obtain rfl : x_8 = 3 := ex_8.trans (by decide)
  refine va_sld hx hb hX hbl hbA hS (z_inC _ (k := 3) (by decide) (by decide)) dL_law_2247 ?_
  refine lv_aload_n hx hb dL_law_2248 rfl (lv_at hl 3 rfl) ?_
  refine lv_iload_n hx hb dL_law_2249 rfl (lv_at hl 0 rfl) ?_
  refine lv_iconst (v := 4) hx hb dL_law_2250 (by decide) ?_
  refine lv_iadd hx hb dL_law_2251 ?_
  refine lv_topi (fun x_9 ex_9 => ?_)
  obtain rfl : x_9 = 4 := ex_9.trans (by decide)
  refine va_sld hx hb hX hbl hbA hS (z_inC _ (k := 4) (by decide) (by decide)) dL_law_2252 ?_
  have hPc := hP.sub (ws' := [(m0, .inr (10, [.int 0, .ref m_width, .ref m_many, .ref m_cells, .ref m_moved, .ref m_tape, .int 0, .int 0, .int 0, .int 0, .int 0, .long 0, .int 0, .int 0, .int 0, .int (-1), .ref m_lines, .ref m_hours, .ref m_courts, .ref m_in, .ref m_gates, .ref m_gate, .ref m_people, .ref m_at0, .ref m_stray, .ref m_set, .ref m_once, .ref m_truth, .ref m_known, .ref m_isKept, .int 0, .int (-1), .int 0, .int 0, .ref m_inside, .ref m_can, .ref m_fewest, .ref m_waysTo, .ref m_then, .ref m_two, .ref m_nextTwo, .ref m_three, .ref m_nextThree, .int (-1), .ref m_worth, .ref m_digit, .int 0, .long 0, .int 0, .int 0, .int 0, .int 0, .long 0])), (m_courts, .inl (cm_courts, 5, .inl (fun _ => 0)))]) [0, 1] rfl
  have hDc := hD.sub (ws' := [(m0, .inr (10, [.int 0, .ref m_width, .ref m_many, .ref m_cells, .ref m_moved, .ref m_tape, .int 0, .int 0, .int 0, .int 0, .int 0, .long 0, .int 0, .int 0, .int 0, .int (-1), .ref m_lines, .ref m_hours, .ref m_courts, .ref m_in, .ref m_gates, .ref m_gate, .ref m_people, .ref m_at0, .ref m_stray, .ref m_set, .ref m_once, .ref m_truth, .ref m_known, .ref m_isKept, .int 0, .int (-1), .int 0, .int 0, .ref m_inside, .ref m_can, .ref m_fewest, .ref m_waysTo, .ref m_then, .ref m_two, .ref m_nextTwo, .ref m_three, .ref m_nextThree, .int (-1), .ref m_worth, .ref m_digit, .int 0, .long 0, .int 0, .int 0, .int 0, .int 0, .long 0])), (m_courts, .inl (cm_courts, 5, .inl (fun _ => 0)))]) [0, 1] (by decide) rfl
  have hKc := hK.sub (tys' := [(cm_courts, .int)]) [0] rfl
  have hFc := va_free (wc := [(m0, .inr (10, [.int 0, .ref m_width, .ref m_many, .ref m_cells, .ref m_moved, .ref m_tape, .int 0, .int 0, .int 0, .int 0, .int 0, .long 0, .int 0, .int 0, .int 0, .int (-1), .ref m_lines, .ref m_hours, .ref m_courts, .ref m_in, .ref m_gates, .ref m_gate, .ref m_people, .ref m_at0, .ref m_stray, .ref m_set, .ref m_once, .ref m_truth, .ref m_known, .ref m_isKept, .int 0, .int (-1), .int 0, .int 0, .ref m_inside, .ref m_can, .ref m_fewest, .ref m_waysTo, .ref m_then, .ref m_two, .ref m_nextTwo, .ref m_three, .ref m_nextThree, .int (-1), .ref m_worth, .ref m_digit, .int 0, .long 0, .int 0, .int 0, .int 0, .int 0, .long 0])), (m_courts, .inl (cm_courts, 5, .inl (fun _ => 0)))]) hD hS hA [0, 1] rfl
  refine va_calli (va_runV (As := [.int (xs (Int32.toNatClampNeg 1)), .int (xs (Int32.toNatClampNeg 2)), .int (xs (Int32.toNatClampNeg 3)), .int (xs (Int32.toNatClampNeg 4))]) (rest := [.int (-2)]) ⟨hx, hb, hml, hown, hts⟩ (k_X10_begin l dC dI m0 (xs (Int32.toNatClampNeg 1)) (xs (Int32.toNatClampNeg 2)) (xs (Int32.toNatClampNeg 3)) (xs (Int32.toNatClampNeg 4)) m_width m_many m_cells m_moved m_tape m_lines m_hours m_courts m_in m_gates m_gate m_people m_at0 m_stray m_set m_once m_truth m_known m_isKept m_inside m_can m_fewest m_waysTo m_then m_two m_nextTwo m_three m_nextThree m_worth m_digit cm_courts H.size) (cwV 4 hts (z_gV zw_t9_23 zw_t9_24 zw_t9_25 zw_t1_11 zw_t9_26) rfl rfl rfl (by decide +kernel) ⟨(Nat.le_of_ble_eq_true rfl), (Nat.le_of_ble_eq_true rfl)⟩) (z_preV hPc hKc hDc (ci := 10) (q0 := 0) rfl rfl) rfl rfl hl.1 rfl (lv_room (Nat.le_of_ble_eq_true rfl)) dL_law_2253 ⟨(Nat.le_of_ble_eq_true rfl), (Nat.le_of_ble_eq_true rfl)⟩) hS (fun q _ h => hFc q h) hFc (fun r_10 u t H1 locs ht hvm hw hB hz1 hk1 hS => ?_)
  have hB : zW dC dI [] [] (va_A [(m0, .inr (10, [.int 0, .ref m_width, .ref m_many, .ref m_cells, .ref m_moved, .ref m_tape, .int 0, .int 0, .int 0, .int 0, .int 0, .long 0, .int 0, .int 0, .int 0, .int (-1), .ref m_lines, .ref m_hours, .ref m_courts, .ref m_in, .ref m_gates, .ref m_gate, .ref m_people, .ref m_at0, .ref m_stray, .ref m_set, .ref m_once, .ref m_truth, .ref m_known, .ref m_isKept, .int 0, .int (-1), .int 0, .int 0, .ref m_inside, .ref m_can, .ref m_fewest, .ref m_waysTo, .ref m_then, .ref m_two, .ref m_nextTwo, .ref m_three, .ref m_nextThree, .int (-1), .ref m_worth, .ref m_digit, .int 0, .long 0, .int 0, .int 0, .int 0, .int 0, .long 0])), (m_courts, .inl (cm_courts, 5, .inl (fun _ => 0)))] H.size) t := z_none (va_K.moved hvm hK)
  obtain ⟨hP, hD, hK⟩ := z_after [] hB ht hvm hP hD hK [0, 1] [] rfl rfl (by decide) (by decide) hk1 hFc
  generalize H1 = H at hP hS ⊢
  have hP : va_P (dC, dI) vwCl [] H := hP
  have hD : va_D A [] := hD
  have hK : va_K (dC, dI) vwCl [(cm_courts, .int)] s := hK
  obtain rfl : r_10 = (-2) := hw
  refine lv_icmp_eq (tgt := 2651) hx hb dL_law_2256 (by decide) (fun _ => ?_) (fun q => absurd q (by decide))
  exact law_tail C0 hA2 (Nat.le_of_ble_eq_true rfl) (Nat.le_of_ble_eq_true rfl) hS (lv_sub hl [0, 3] rfl)
set_option maxHeartbeats 4000000 in
set_option maxRecDepth 100000 in
theorem law_judge {p : Program} {e : Env} {s : State} {m : MethodId} {below : List Frame} {meth : Method} {c : Code} {l : Launch} {b : Nat} {xs : Nat → Int32} (C0 : lw_At p s m meth c b 6 xs) {dC : Nat → ClassId} {dI : Nat → Nat → Nat} {A : Nat → Prop} (hA : ∀ q, s.heap.size ≤ q → A q) (hA2 : ∀ q, A q → s.heap.size ≤ q) {h0 : Nat} {tp : Nat} {nw : Nat} {im : Nat} {sl : Nat} {rd : Nat} {wk : Nat} {fm : Nat} {mt : Nat} {ch : Nat} {dy : Nat} {tn : Nat} {ta0 : Nat} {ta1 : Nat} {ta2 : Nat} {ta3 : Nat} {ta4 : Nat} {ta5 : Nat} {ta6 : Nat} {ta7 : Nat} {ta8 : Nat} {ta9 : Nat} {m0 : Nat} {m_width : Nat} {m_many : Nat} {m_cells : Nat} {m_moved : Nat} {m_tape : Nat} {m_lines : Nat} {m_hours : Nat} {m_courts : Nat} {m_in : Nat} {m_gates : Nat} {m_gate : Nat} {m_people : Nat} {m_at0 : Nat} {m_stray : Nat} {m_set : Nat} {m_once : Nat} {m_truth : Nat} {m_known : Nat} {m_isKept : Nat} {m_inside : Nat} {m_can : Nat} {m_fewest : Nat} {m_waysTo : Nat} {m_then : Nat} {m_two : Nat} {m_nextTwo : Nat} {m_three : Nat} {m_nextThree : Nat} {m_worth : Nat} {m_digit : Nat} {cm_hours : ClassId}  {H : Heap} {locs : List Loc} {ls : Array Slot} (hP : va_P (dC, dI) vwCl [(h0, .inr (9, [.ref tp, .int 0, .int 0, .int (-1), .ref nw, .ref im, .ref sl, .ref rd, .ref wk, .ref fm, .ref mt, .ref ch, .ref dy])), (nw, .inr (3, [.int 0, .ref tn, .int 0, .int 0, .int 0, .int 0])), (tn, .inr (7, [.int 0, .int 0, .int 0, .int 0, .int 0, .int 0, .int 0, .int 0, .ref ta0, .ref ta1, .ref ta2, .ref ta3, .ref ta4, .ref ta5, .ref ta6, .ref ta7, .ref ta8, .ref ta9])), (m0, .inr (10, [.int 0, .ref m_width, .ref m_many, .ref m_cells, .ref m_moved, .ref m_tape, .int 0, .int 0, .int 0, .int 0, .int 0, .long 0, .int 0, .int 0, .int 0, .int (-1), .ref m_lines, .ref m_hours, .ref m_courts, .ref m_in, .ref m_gates, .ref m_gate, .ref m_people, .ref m_at0, .ref m_stray, .ref m_set, .ref m_once, .ref m_truth, .ref m_known, .ref m_isKept, .int 0, .int (-1), .int 0, .int 0, .ref m_inside, .ref m_can, .ref m_fewest, .ref m_waysTo, .ref m_then, .ref m_two, .ref m_nextTwo, .ref m_three, .ref m_nextThree, .int (-1), .ref m_worth, .ref m_digit, .int 0, .long 0, .int 0, .int 0, .int 0, .int 0, .long 0])), (m_hours, .inl (cm_hours, 5, .inl (fun _ => 0)))] H) (hD : va_D A [(h0, .inr (9, [.ref tp, .int 0, .int 0, .int (-1), .ref nw, .ref im, .ref sl, .ref rd, .ref wk, .ref fm, .ref mt, .ref ch, .ref dy])), (nw, .inr (3, [.int 0, .ref tn, .int 0, .int 0, .int 0, .int 0])), (tn, .inr (7, [.int 0, .int 0, .int 0, .int 0, .int 0, .int 0, .int 0, .int 0, .ref ta0, .ref ta1, .ref ta2, .ref ta3, .ref ta4, .ref ta5, .ref ta6, .ref ta7, .ref ta8, .ref ta9])), (m0, .inr (10, [.int 0, .ref m_width, .ref m_many, .ref m_cells, .ref m_moved, .ref m_tape, .int 0, .int 0, .int 0, .int 0, .int 0, .long 0, .int 0, .int 0, .int 0, .int (-1), .ref m_lines, .ref m_hours, .ref m_courts, .ref m_in, .ref m_gates, .ref m_gate, .ref m_people, .ref m_at0, .ref m_stray, .ref m_set, .ref m_once, .ref m_truth, .ref m_known, .ref m_isKept, .int 0, .int (-1), .int 0, .int 0, .ref m_inside, .ref m_can, .ref m_fewest, .ref m_waysTo, .ref m_then, .ref m_two, .ref m_nextTwo, .ref m_three, .ref m_nextThree, .int (-1), .ref m_worth, .ref m_digit, .int 0, .long 0, .int 0, .int 0, .int 0, .int 0, .long 0])), (m_hours, .inl (cm_hours, 5, .inl (fun _ => 0)))]) (hK : va_K (dC, dI) vwCl [(cm_hours, .int)] s) (hS : va_S A s.heap H locs) (hl : lv_has ls 4 [(3, .int 0), (2, .ref m0), (1, .ref h0), (0, .ref b)]) : W p l e room_1 s m #[Value.ref b] below meth c H locs 166 101284 (lw_Z below #[Value.ref b] s) (F0 m 2261 ls []) := by
  obtain ⟨hx, hb, hr, hml, hown, hts, hX, hbl, hlocks, hgv⟩ := id C0
  have hown : s.vm.findClass RL = some m.cls := hown
  have hb : c.code = cL_law := hb
  have hts : ∀ w ∈ zT, w.before #[Value.ref b] s = true := fun w h => hts w (zT_in w h)
  have hbA : ¬ A b := fun q => absurd (hA2 b q) (Nat.not_le.mpr hbl)
  refine lv_aload_n hx hb dL_law_2261 rfl (lv_at hl 2 rfl) ?_
  refine lv_aload_n hx hb dL_law_2262 rfl (lv_at hl 3 rfl) ?_
  refine lv_iload_n hx hb dL_law_2263 rfl (lv_at hl 0 rfl) ?_
  refine lv_iconst (v := 1) hx hb dL_law_2264 (by decide) ?_
  refine lv_iadd hx hb dL_law_2265 ?_
  refine lv_topi (fun x_1 ex_1 => ?_)
  obtain rfl : x_1 = 1 := ex_1.trans (by decide)
  refine va_sld hx hb hX hbl hbA hS (z_inC _ (k := 1) (by decide) (by decide)) dL_law_2266 ?_
  have hPc := hP.sub (ws' := [(h0, .inr (9, [.ref tp, .int 0, .int 0, .int (-1), .ref nw, .ref im, .ref sl, .ref rd, .ref wk, .ref fm, .ref mt, .ref ch, .ref dy])), (nw, .inr (3, [.int 0, .ref tn, .int 0, .int 0, .int 0, .int 0])), (tn, .inr (7, [.int 0, .int 0, .int 0, .int 0, .int 0, .int 0, .int 0, .int 0, .ref ta0, .ref ta1, .ref ta2, .ref ta3, .ref ta4, .ref ta5, .ref ta6, .ref ta7, .ref ta8, .ref ta9]))]) [0, 1, 2] rfl
  have hDc := hD.sub (ws' := [(h0, .inr (9, [.ref tp, .int 0, .int 0, .int (-1), .ref nw, .ref im, .ref sl, .ref rd, .ref wk, .ref fm, .ref mt, .ref ch, .ref dy])), (nw, .inr (3, [.int 0, .ref tn, .int 0, .int 0, .int 0, .int 0])), (tn, .inr (7, [.int 0, .int 0, .int 0, .int 0, .int 0, .int 0, .int 0, .int 0, .ref ta0, .ref ta1, .ref ta2, .ref ta3, .ref ta4, .ref ta5, .ref ta6, .ref ta7, .ref ta8, .ref ta9]))]) [0, 1, 2] (by decide) rfl
  have hKc := hK.sub (tys' := []) [] rfl
  have hFc := va_free (wc := [(h0, .inr (9, [.ref tp, .int 0, .int 0, .int (-1), .ref nw, .ref im, .ref sl, .ref rd, .ref wk, .ref fm, .ref mt, .ref ch, .ref dy])), (nw, .inr (3, [.int 0, .ref tn, .int 0, .int 0, .int 0, .int 0])), (tn, .inr (7, [.int 0, .int 0, .int 0, .int 0, .int 0, .int 0, .int 0, .int 0, .ref ta0, .ref ta1, .ref ta2, .ref ta3, .ref ta4, .ref ta5, .ref ta6, .ref ta7, .ref ta8, .ref ta9]))]) hD hS hA [0, 1, 2] rfl
  refine va_calli (va_runV (As := [.int (xs (Int32.toNatClampNeg 1))]) (rest := []) ⟨hx, hb, hml, hown, hts⟩ (k_X9_judge l dC dI h0 (xs (Int32.toNatClampNeg 1)) tp nw im sl rd wk fm mt ch dy tn ta0 ta1 ta2 ta3 ta4 ta5 ta6 ta7 ta8 ta9 H.size) (cwV 1 hts (z_gV zw_t5_211 zw_t5_212 zw_t5_213 zw_t1_1 zw_t5_214) rfl rfl rfl (by decide +kernel) ⟨(Nat.le_of_ble_eq_true rfl), (Nat.le_of_ble_eq_true rfl)⟩) (z_preV hPc hKc hDc (ci := 9) (q0 := 0) rfl rfl) rfl rfl hl.1 rfl (lv_room (Nat.le_of_ble_eq_true rfl)) dL_law_2267 ⟨(Nat.le_of_ble_eq_true rfl), (Nat.le_of_ble_eq_true rfl)⟩) hS (fun q _ h => hFc q h) hFc (fun r_2 u t H1 locs ht hvm hw hB hz1 hk1 hS => ?_)
  have hB : zW dC dI [] [] (va_A [(h0, .inr (9, [.ref tp, .int 0, .int 0, .int (-1), .ref nw, .ref im, .ref sl, .ref rd, .ref wk, .ref fm, .ref mt, .ref ch, .ref dy])), (nw, .inr (3, [.int 0, .ref tn, .int 0, .int 0, .int 0, .int 0])), (tn, .inr (7, [.int 0, .int 0, .int 0, .int 0, .int 0, .int 0, .int 0, .int 0, .ref ta0, .ref ta1, .ref ta2, .ref ta3, .ref ta4, .ref ta5, .ref ta6, .ref ta7, .ref ta8, .ref ta9]))] H.size) t := z_none (va_K.moved hvm hK)
  obtain ⟨hP, hD, hK⟩ := z_after [(m0, .inr (10, [.int 0, .ref m_width, .ref m_many, .ref m_cells, .ref m_moved, .ref m_tape, .int 0, .int 0, .int 0, .int 0, .int 0, .long 0, .int 0, .int 0, .int 0, .int (-1), .ref m_lines, .ref m_hours, .ref m_courts, .ref m_in, .ref m_gates, .ref m_gate, .ref m_people, .ref m_at0, .ref m_stray, .ref m_set, .ref m_once, .ref m_truth, .ref m_known, .ref m_isKept, .int 0, .int (-1), .int 0, .int 0, .ref m_inside, .ref m_can, .ref m_fewest, .ref m_waysTo, .ref m_then, .ref m_two, .ref m_nextTwo, .ref m_three, .ref m_nextThree, .int (-1), .ref m_worth, .ref m_digit, .int 0, .long 0, .int 0, .int 0, .int 0, .int 0, .long 0])), (m_hours, .inl (cm_hours, 5, .inl (fun _ => 0)))] hB ht hvm hP hD hK [0, 1, 2] [3, 4] rfl rfl (by decide) (by decide) hk1 hFc
  generalize H1 = H at hP hS ⊢
  have hP : va_P (dC, dI) vwCl [(m0, .inr (10, [.int 0, .ref m_width, .ref m_many, .ref m_cells, .ref m_moved, .ref m_tape, .int 0, .int 0, .int 0, .int 0, .int 0, .long 0, .int 0, .int 0, .int 0, .int (-1), .ref m_lines, .ref m_hours, .ref m_courts, .ref m_in, .ref m_gates, .ref m_gate, .ref m_people, .ref m_at0, .ref m_stray, .ref m_set, .ref m_once, .ref m_truth, .ref m_known, .ref m_isKept, .int 0, .int (-1), .int 0, .int 0, .ref m_inside, .ref m_can, .ref m_fewest, .ref m_waysTo, .ref m_then, .ref m_two, .ref m_nextTwo, .ref m_three, .ref m_nextThree, .int (-1), .ref m_worth, .ref m_digit, .int 0, .long 0, .int 0, .int 0, .int 0, .int 0, .long 0])), (m_hours, .inl (cm_hours, 5, .inl (fun _ => 0)))] H := hP
  have hD : va_D A [(m0, .inr (10, [.int 0, .ref m_width, .ref m_many, .ref m_cells, .ref m_moved, .ref m_tape, .int 0, .int 0, .int 0, .int 0, .int 0, .long 0, .int 0, .int 0, .int 0, .int (-1), .ref m_lines, .ref m_hours, .ref m_courts, .ref m_in, .ref m_gates, .ref m_gate, .ref m_people, .ref m_at0, .ref m_stray, .ref m_set, .ref m_once, .ref m_truth, .ref m_known, .ref m_isKept, .int 0, .int (-1), .int 0, .int 0, .ref m_inside, .ref m_can, .ref m_fewest, .ref m_waysTo, .ref m_then, .ref m_two, .ref m_nextTwo, .ref m_three, .ref m_nextThree, .int (-1), .ref m_worth, .ref m_digit, .int 0, .long 0, .int 0, .int 0, .int 0, .int 0, .long 0])), (m_hours, .inl (cm_hours, 5, .inl (fun _ => 0)))] := hD
  have hK : va_K (dC, dI) vwCl [(cm_hours, .int)] s := hK
  obtain rfl : r_2 = (-2) := hw
  refine lv_aload_n hx hb dL_law_2270 rfl (lv_at hl 1 rfl) ?_
  refine lv_aload_n hx hb dL_law_2271 rfl (lv_at hl 3 rfl) ?_
  refine lv_iload_n hx hb dL_law_2272 rfl (lv_at hl 0 rfl) ?_
  refine lv_iconst (v := 1) hx hb dL_law_2273 (by decide) ?_
  refine lv_iadd hx hb dL_law_2274 ?_
  refine lv_topi (fun x_3 ex_3 => ?_)
  obtain rfl : x_3 = 1 := ex_3.trans (by decide)
  refine va_sld hx hb hX hbl hbA hS (z_inC _ (k := 1) (by decide) (by decide)) dL_law_2275 ?_
  have hPc := hP.sub (ws' := [(m0, .inr (10, [.int 0, .ref m_width, .ref m_many, .ref m_cells, .ref m_moved, .ref m_tape, .int 0, .int 0, .int 0, .int 0, .int 0, .long 0, .int 0, .int 0, .int 0, .int (-1), .ref m_lines, .ref m_hours, .ref m_courts, .ref m_in, .ref m_gates, .ref m_gate, .ref m_people, .ref m_at0, .ref m_stray, .ref m_set, .ref m_once, .ref m_truth, .ref m_known, .ref m_isKept, .int 0, .int (-1), .int 0, .int 0, .ref m_inside, .ref m_can, .ref m_fewest, .ref m_waysTo, .ref m_then, .ref m_two, .ref m_nextTwo, .ref m_three, .ref m_nextThree, .int (-1), .ref m_worth, .ref m_digit, .int 0, .long 0, .int 0, .int 0, .int 0, .int 0, .long 0])), (m_hours, .inl (cm_hours, 5, .inl (fun _ => 0)))]) [0, 1] rfl
  have hDc := hD.sub (ws' := [(m0, .inr (10, [.int 0, .ref m_width, .ref m_many, .ref m_cells, .ref m_moved, .ref m_tape, .int 0, .int 0, .int 0, .int 0, .int 0, .long 0, .int 0, .int 0, .int 0, .int (-1), .ref m_lines, .ref m_hours, .ref m_courts, .ref m_in, .ref m_gates, .ref m_gate, .ref m_people, .ref m_at0, .ref m_stray, .ref m_set, .ref m_once, .ref m_truth, .ref m_known, .ref m_isKept, .int 0, .int (-1), .int 0, .int 0, .ref m_inside, .ref m_can, .ref m_fewest, .ref m_waysTo, .ref m_then, .ref m_two, .ref m_nextTwo, .ref m_three, .ref m_nextThree, .int (-1), .ref m_worth, .ref m_digit, .int 0, .long 0, .int 0, .int 0, .int 0, .int 0, .long 0])), (m_hours, .inl (cm_hours, 5, .inl (fun _ => 0)))]) [0, 1] (by decide) rfl
  have hKc := hK.sub (tys' := [(cm_hours, .int)]) [0] rfl
  have hFc := va_free (wc := [(m0, .inr (10, [.int 0, .ref m_width, .ref m_many, .ref m_cells, .ref m_moved, .ref m_tape, .int 0, .int 0, .int 0, .int 0, .int 0, .long 0, .int 0, .int 0, .int 0, .int (-1), .ref m_lines, .ref m_hours, .ref m_courts, .ref m_in, .ref m_gates, .ref m_gate, .ref m_people, .ref m_at0, .ref m_stray, .ref m_set, .ref m_once, .ref m_truth, .ref m_known, .ref m_isKept, .int 0, .int (-1), .int 0, .int 0, .ref m_inside, .ref m_can, .ref m_fewest, .ref m_waysTo, .ref m_then, .ref m_two, .ref m_nextTwo, .ref m_three, .ref m_nextThree, .int (-1), .ref m_worth, .ref m_digit, .int 0, .long 0, .int 0, .int 0, .int 0, .int 0, .long 0])), (m_hours, .inl (cm_hours, 5, .inl (fun _ => 0)))]) hD hS hA [0, 1] rfl
  refine va_calli (va_runV (As := [.int (xs (Int32.toNatClampNeg 1))]) (rest := [.int (-2)]) ⟨hx, hb, hml, hown, hts⟩ (k_X10_judge l dC dI m0 (xs (Int32.toNatClampNeg 1)) m_width m_many m_cells m_moved m_tape m_lines m_hours m_courts m_in m_gates m_gate m_people m_at0 m_stray m_set m_once m_truth m_known m_isKept m_inside m_can m_fewest m_waysTo m_then m_two m_nextTwo m_three m_nextThree m_worth m_digit cm_hours H.size) (cwV 1 hts (z_gV zw_t9_27 zw_t9_28 zw_t9_29 zw_t1_11 zw_t9_30) rfl rfl rfl (by decide +kernel) ⟨(Nat.le_of_ble_eq_true rfl), (Nat.le_of_ble_eq_true rfl)⟩) (z_preV hPc hKc hDc (ci := 10) (q0 := 0) rfl rfl) rfl rfl hl.1 rfl (lv_room (Nat.le_of_ble_eq_true rfl)) dL_law_2276 ⟨(Nat.le_of_ble_eq_true rfl), (Nat.le_of_ble_eq_true rfl)⟩) hS (fun q _ h => hFc q h) hFc (fun r_4 u t H1 locs ht hvm hw hB hz1 hk1 hS => ?_)
  have hB : zW dC dI [] [] (va_A [(m0, .inr (10, [.int 0, .ref m_width, .ref m_many, .ref m_cells, .ref m_moved, .ref m_tape, .int 0, .int 0, .int 0, .int 0, .int 0, .long 0, .int 0, .int 0, .int 0, .int (-1), .ref m_lines, .ref m_hours, .ref m_courts, .ref m_in, .ref m_gates, .ref m_gate, .ref m_people, .ref m_at0, .ref m_stray, .ref m_set, .ref m_once, .ref m_truth, .ref m_known, .ref m_isKept, .int 0, .int (-1), .int 0, .int 0, .ref m_inside, .ref m_can, .ref m_fewest, .ref m_waysTo, .ref m_then, .ref m_two, .ref m_nextTwo, .ref m_three, .ref m_nextThree, .int (-1), .ref m_worth, .ref m_digit, .int 0, .long 0, .int 0, .int 0, .int 0, .int 0, .long 0])), (m_hours, .inl (cm_hours, 5, .inl (fun _ => 0)))] H.size) t := z_none (va_K.moved hvm hK)
  obtain ⟨hP, hD, hK⟩ := z_after [] hB ht hvm hP hD hK [0, 1] [] rfl rfl (by decide) (by decide) hk1 hFc
  generalize H1 = H at hP hS ⊢
  have hP : va_P (dC, dI) vwCl [] H := hP
  have hD : va_D A [] := hD
  have hK : va_K (dC, dI) vwCl [(cm_hours, .int)] s := hK
  obtain rfl : r_4 = (-2) := hw
  refine lv_icmp_eq (tgt := 2651) hx hb dL_law_2279 (by decide) (fun _ => ?_) (fun q => absurd q (by decide))
  exact law_tail C0 hA2 (Nat.le_of_ble_eq_true rfl) (Nat.le_of_ble_eq_true rfl) hS (lv_sub hl [0, 3] rfl)
set_option maxHeartbeats 4000000 in
set_option maxRecDepth 100000 in
theorem law_ends {p : Program} {e : Env} {s : State} {m : MethodId} {below : List Frame} {meth : Method} {c : Code} {l : Launch} {b : Nat} {xs : Nat → Int32} (C0 : lw_At p s m meth c b 6 xs) {dC : Nat → ClassId} {dI : Nat → Nat → Nat} {A : Nat → Prop} (hA : ∀ q, s.heap.size ≤ q → A q) (hA2 : ∀ q, A q → s.heap.size ≤ q) {h0 : Nat} {tp : Nat} {nw : Nat} {im : Nat} {sl : Nat} {rd : Nat} {wk : Nat} {fm : Nat} {mt : Nat} {ch : Nat} {dy : Nat} {tn : Nat} {ta0 : Nat} {ta1 : Nat} {ta2 : Nat} {ta3 : Nat} {ta4 : Nat} {ta5 : Nat} {ta6 : Nat} {ta7 : Nat} {ta8 : Nat} {ta9 : Nat} {m0 : Nat} {m_width : Nat} {m_many : Nat} {m_cells : Nat} {m_moved : Nat} {m_tape : Nat} {m_lines : Nat} {m_hours : Nat} {m_courts : Nat} {m_in : Nat} {m_gates : Nat} {m_gate : Nat} {m_people : Nat} {m_at0 : Nat} {m_stray : Nat} {m_set : Nat} {m_once : Nat} {m_truth : Nat} {m_known : Nat} {m_isKept : Nat} {m_inside : Nat} {m_can : Nat} {m_fewest : Nat} {m_waysTo : Nat} {m_then : Nat} {m_two : Nat} {m_nextTwo : Nat} {m_three : Nat} {m_nextThree : Nat} {m_worth : Nat} {m_digit : Nat} {cm_hours : ClassId}  {H : Heap} {locs : List Loc} {ls : Array Slot} (hP : va_P (dC, dI) vwCl [(h0, .inr (9, [.ref tp, .int 0, .int 0, .int (-1), .ref nw, .ref im, .ref sl, .ref rd, .ref wk, .ref fm, .ref mt, .ref ch, .ref dy])), (nw, .inr (3, [.int 0, .ref tn, .int 0, .int 0, .int 0, .int 0])), (tn, .inr (7, [.int 0, .int 0, .int 0, .int 0, .int 0, .int 0, .int 0, .int 0, .ref ta0, .ref ta1, .ref ta2, .ref ta3, .ref ta4, .ref ta5, .ref ta6, .ref ta7, .ref ta8, .ref ta9])), (m0, .inr (10, [.int 0, .ref m_width, .ref m_many, .ref m_cells, .ref m_moved, .ref m_tape, .int 0, .int 0, .int 0, .int 0, .int 0, .long 0, .int 0, .int 0, .int 0, .int (-1), .ref m_lines, .ref m_hours, .ref m_courts, .ref m_in, .ref m_gates, .ref m_gate, .ref m_people, .ref m_at0, .ref m_stray, .ref m_set, .ref m_once, .ref m_truth, .ref m_known, .ref m_isKept, .int 0, .int (-1), .int 0, .int 0, .ref m_inside, .ref m_can, .ref m_fewest, .ref m_waysTo, .ref m_then, .ref m_two, .ref m_nextTwo, .ref m_three, .ref m_nextThree, .int (-1), .ref m_worth, .ref m_digit, .int 0, .long 0, .int 0, .int 0, .int 0, .int 0, .long 0])), (m_hours, .inl (cm_hours, 5, .inl (fun _ => 0)))] H) (hD : va_D A [(h0, .inr (9, [.ref tp, .int 0, .int 0, .int (-1), .ref nw, .ref im, .ref sl, .ref rd, .ref wk, .ref fm, .ref mt, .ref ch, .ref dy])), (nw, .inr (3, [.int 0, .ref tn, .int 0, .int 0, .int 0, .int 0])), (tn, .inr (7, [.int 0, .int 0, .int 0, .int 0, .int 0, .int 0, .int 0, .int 0, .ref ta0, .ref ta1, .ref ta2, .ref ta3, .ref ta4, .ref ta5, .ref ta6, .ref ta7, .ref ta8, .ref ta9])), (m0, .inr (10, [.int 0, .ref m_width, .ref m_many, .ref m_cells, .ref m_moved, .ref m_tape, .int 0, .int 0, .int 0, .int 0, .int 0, .long 0, .int 0, .int 0, .int 0, .int (-1), .ref m_lines, .ref m_hours, .ref m_courts, .ref m_in, .ref m_gates, .ref m_gate, .ref m_people, .ref m_at0, .ref m_stray, .ref m_set, .ref m_once, .ref m_truth, .ref m_known, .ref m_isKept, .int 0, .int (-1), .int 0, .int 0, .ref m_inside, .ref m_can, .ref m_fewest, .ref m_waysTo, .ref m_then, .ref m_two, .ref m_nextTwo, .ref m_three, .ref m_nextThree, .int (-1), .ref m_worth, .ref m_digit, .int 0, .long 0, .int 0, .int 0, .int 0, .int 0, .long 0])), (m_hours, .inl (cm_hours, 5, .inl (fun _ => 0)))]) (hK : va_K (dC, dI) vwCl [(cm_hours, .int)] s) (hS : va_S A s.heap H locs) (hl : lv_has ls 4 [(3, .int 0), (2, .ref m0), (1, .ref h0), (0, .ref b)]) : W p l e room_1 s m #[Value.ref b] below meth c H locs 166 101284 (lw_Z below #[Value.ref b] s) (F0 m 2284 ls []) := by
  obtain ⟨hx, hb, hr, hml, hown, hts, hX, hbl, hlocks, hgv⟩ := id C0
  have hown : s.vm.findClass RL = some m.cls := hown
  have hb : c.code = cL_law := hb
  have hts : ∀ w ∈ zT, w.before #[Value.ref b] s = true := fun w h => hts w (zT_in w h)
  have hbA : ¬ A b := fun q => absurd (hA2 b q) (Nat.not_le.mpr hbl)
  refine lv_aload_n hx hb dL_law_2284 rfl (lv_at hl 2 rfl) ?_
  refine lv_aload_n hx hb dL_law_2285 rfl (lv_at hl 3 rfl) ?_
  refine lv_iload_n hx hb dL_law_2286 rfl (lv_at hl 0 rfl) ?_
  refine lv_iconst (v := 1) hx hb dL_law_2287 (by decide) ?_
  refine lv_iadd hx hb dL_law_2288 ?_
  refine lv_topi (fun x_1 ex_1 => ?_)
  obtain rfl : x_1 = 1 := ex_1.trans (by decide)
  refine va_sld hx hb hX hbl hbA hS (z_inC _ (k := 1) (by decide) (by decide)) dL_law_2289 ?_
  refine lv_aload_n hx hb dL_law_2290 rfl (lv_at hl 3 rfl) ?_
  refine lv_iload_n hx hb dL_law_2291 rfl (lv_at hl 0 rfl) ?_
  refine lv_iconst (v := 2) hx hb dL_law_2292 (by decide) ?_
  refine lv_iadd hx hb dL_law_2293 ?_
  refine lv_topi (fun x_2 ex_2 => ?_)
  obtain rfl : x_2 = 2 := ex_2.trans (by decide)
  refine va_sld hx hb hX hbl hbA hS (z_inC _ (k := 2) (by decide) (by decide)) dL_law_2294 ?_
  have hPc := hP.sub (ws' := [(h0, .inr (9, [.ref tp, .int 0, .int 0, .int (-1), .ref nw, .ref im, .ref sl, .ref rd, .ref wk, .ref fm, .ref mt, .ref ch, .ref dy])), (nw, .inr (3, [.int 0, .ref tn, .int 0, .int 0, .int 0, .int 0])), (tn, .inr (7, [.int 0, .int 0, .int 0, .int 0, .int 0, .int 0, .int 0, .int 0, .ref ta0, .ref ta1, .ref ta2, .ref ta3, .ref ta4, .ref ta5, .ref ta6, .ref ta7, .ref ta8, .ref ta9]))]) [0, 1, 2] rfl
  have hDc := hD.sub (ws' := [(h0, .inr (9, [.ref tp, .int 0, .int 0, .int (-1), .ref nw, .ref im, .ref sl, .ref rd, .ref wk, .ref fm, .ref mt, .ref ch, .ref dy])), (nw, .inr (3, [.int 0, .ref tn, .int 0, .int 0, .int 0, .int 0])), (tn, .inr (7, [.int 0, .int 0, .int 0, .int 0, .int 0, .int 0, .int 0, .int 0, .ref ta0, .ref ta1, .ref ta2, .ref ta3, .ref ta4, .ref ta5, .ref ta6, .ref ta7, .ref ta8, .ref ta9]))]) [0, 1, 2] (by decide) rfl
  have hKc := hK.sub (tys' := []) [] rfl
  have hFc := va_free (wc := [(h0, .inr (9, [.ref tp, .int 0, .int 0, .int (-1), .ref nw, .ref im, .ref sl, .ref rd, .ref wk, .ref fm, .ref mt, .ref ch, .ref dy])), (nw, .inr (3, [.int 0, .ref tn, .int 0, .int 0, .int 0, .int 0])), (tn, .inr (7, [.int 0, .int 0, .int 0, .int 0, .int 0, .int 0, .int 0, .int 0, .ref ta0, .ref ta1, .ref ta2, .ref ta3, .ref ta4, .ref ta5, .ref ta6, .ref ta7, .ref ta8, .ref ta9]))]) hD hS hA [0, 1, 2] rfl
  refine va_calli (va_runV (As := [.int (xs (Int32.toNatClampNeg 1)), .int (xs (Int32.toNatClampNeg 2))]) (rest := []) ⟨hx, hb, hml, hown, hts⟩ (k_X9_ends l dC dI h0 (xs (Int32.toNatClampNeg 1)) (xs (Int32.toNatClampNeg 2)) tp nw im sl rd wk fm mt ch dy tn ta0 ta1 ta2 ta3 ta4 ta5 ta6 ta7 ta8 ta9 H.size) (cwV 2 hts (z_gV zw_t6_6 zw_t6_7 zw_t6_8 zw_t1_1 zw_t6_9) rfl rfl rfl (by decide +kernel) ⟨(Nat.le_of_ble_eq_true rfl), (Nat.le_of_ble_eq_true rfl)⟩) (z_preV hPc hKc hDc (ci := 9) (q0 := 0) rfl rfl) rfl rfl hl.1 rfl (lv_room (Nat.le_of_ble_eq_true rfl)) dL_law_2295 ⟨(Nat.le_of_ble_eq_true rfl), (Nat.le_of_ble_eq_true rfl)⟩) hS (fun q _ h => hFc q h) hFc (fun r_3 u t H1 locs ht hvm hw hB hz1 hk1 hS => ?_)
  have hB : zW dC dI [] [] (va_A [(h0, .inr (9, [.ref tp, .int 0, .int 0, .int (-1), .ref nw, .ref im, .ref sl, .ref rd, .ref wk, .ref fm, .ref mt, .ref ch, .ref dy])), (nw, .inr (3, [.int 0, .ref tn, .int 0, .int 0, .int 0, .int 0])), (tn, .inr (7, [.int 0, .int 0, .int 0, .int 0, .int 0, .int 0, .int 0, .int 0, .ref ta0, .ref ta1, .ref ta2, .ref ta3, .ref ta4, .ref ta5, .ref ta6, .ref ta7, .ref ta8, .ref ta9]))] H.size) t := z_none (va_K.moved hvm hK)
  obtain ⟨hP, hD, hK⟩ := z_after [(m0, .inr (10, [.int 0, .ref m_width, .ref m_many, .ref m_cells, .ref m_moved, .ref m_tape, .int 0, .int 0, .int 0, .int 0, .int 0, .long 0, .int 0, .int 0, .int 0, .int (-1), .ref m_lines, .ref m_hours, .ref m_courts, .ref m_in, .ref m_gates, .ref m_gate, .ref m_people, .ref m_at0, .ref m_stray, .ref m_set, .ref m_once, .ref m_truth, .ref m_known, .ref m_isKept, .int 0, .int (-1), .int 0, .int 0, .ref m_inside, .ref m_can, .ref m_fewest, .ref m_waysTo, .ref m_then, .ref m_two, .ref m_nextTwo, .ref m_three, .ref m_nextThree, .int (-1), .ref m_worth, .ref m_digit, .int 0, .long 0, .int 0, .int 0, .int 0, .int 0, .long 0])), (m_hours, .inl (cm_hours, 5, .inl (fun _ => 0)))] hB ht hvm hP hD hK [0, 1, 2] [3, 4] rfl rfl (by decide) (by decide) hk1 hFc
  generalize H1 = H at hP hS ⊢
  have hP : va_P (dC, dI) vwCl [(m0, .inr (10, [.int 0, .ref m_width, .ref m_many, .ref m_cells, .ref m_moved, .ref m_tape, .int 0, .int 0, .int 0, .int 0, .int 0, .long 0, .int 0, .int 0, .int 0, .int (-1), .ref m_lines, .ref m_hours, .ref m_courts, .ref m_in, .ref m_gates, .ref m_gate, .ref m_people, .ref m_at0, .ref m_stray, .ref m_set, .ref m_once, .ref m_truth, .ref m_known, .ref m_isKept, .int 0, .int (-1), .int 0, .int 0, .ref m_inside, .ref m_can, .ref m_fewest, .ref m_waysTo, .ref m_then, .ref m_two, .ref m_nextTwo, .ref m_three, .ref m_nextThree, .int (-1), .ref m_worth, .ref m_digit, .int 0, .long 0, .int 0, .int 0, .int 0, .int 0, .long 0])), (m_hours, .inl (cm_hours, 5, .inl (fun _ => 0)))] H := hP
  have hD : va_D A [(m0, .inr (10, [.int 0, .ref m_width, .ref m_many, .ref m_cells, .ref m_moved, .ref m_tape, .int 0, .int 0, .int 0, .int 0, .int 0, .long 0, .int 0, .int 0, .int 0, .int (-1), .ref m_lines, .ref m_hours, .ref m_courts, .ref m_in, .ref m_gates, .ref m_gate, .ref m_people, .ref m_at0, .ref m_stray, .ref m_set, .ref m_once, .ref m_truth, .ref m_known, .ref m_isKept, .int 0, .int (-1), .int 0, .int 0, .ref m_inside, .ref m_can, .ref m_fewest, .ref m_waysTo, .ref m_then, .ref m_two, .ref m_nextTwo, .ref m_three, .ref m_nextThree, .int (-1), .ref m_worth, .ref m_digit, .int 0, .long 0, .int 0, .int 0, .int 0, .int 0, .long 0])), (m_hours, .inl (cm_hours, 5, .inl (fun _ => 0)))] := hD
  have hK : va_K (dC, dI) vwCl [(cm_hours, .int)] s := hK
  obtain rfl : r_3 = (-2) := hw
  refine lv_aload_n hx hb dL_law_2298 rfl (lv_at hl 1 rfl) ?_
  refine lv_aload_n hx hb dL_law_2299 rfl (lv_at hl 3 rfl) ?_
  refine lv_iload_n hx hb dL_law_2300 rfl (lv_at hl 0 rfl) ?_
  refine lv_iconst (v := 1) hx hb dL_law_2301 (by decide) ?_
  refine lv_iadd hx hb dL_law_2302 ?_
  refine lv_topi (fun x_4 ex_4 => ?_)
  obtain rfl : x_4 = 1 := ex_4.trans (by decide)
  refine va_sld hx hb hX hbl hbA hS (z_inC _ (k := 1) (by decide) (by decide)) dL_law_2303 ?_
  refine lv_aload_n hx hb dL_law_2304 rfl (lv_at hl 3 rfl) ?_
  refine lv_iload_n hx hb dL_law_2305 rfl (lv_at hl 0 rfl) ?_
  refine lv_iconst (v := 2) hx hb dL_law_2306 (by decide) ?_
  refine lv_iadd hx hb dL_law_2307 ?_
  refine lv_topi (fun x_5 ex_5 => ?_)
  obtain rfl : x_5 = 2 := ex_5.trans (by decide)
  refine va_sld hx hb hX hbl hbA hS (z_inC _ (k := 2) (by decide) (by decide)) dL_law_2308 ?_
  have hPc := hP.sub (ws' := [(m0, .inr (10, [.int 0, .ref m_width, .ref m_many, .ref m_cells, .ref m_moved, .ref m_tape, .int 0, .int 0, .int 0, .int 0, .int 0, .long 0, .int 0, .int 0, .int 0, .int (-1), .ref m_lines, .ref m_hours, .ref m_courts, .ref m_in, .ref m_gates, .ref m_gate, .ref m_people, .ref m_at0, .ref m_stray, .ref m_set, .ref m_once, .ref m_truth, .ref m_known, .ref m_isKept, .int 0, .int (-1), .int 0, .int 0, .ref m_inside, .ref m_can, .ref m_fewest, .ref m_waysTo, .ref m_then, .ref m_two, .ref m_nextTwo, .ref m_three, .ref m_nextThree, .int (-1), .ref m_worth, .ref m_digit, .int 0, .long 0, .int 0, .int 0, .int 0, .int 0, .long 0])), (m_hours, .inl (cm_hours, 5, .inl (fun _ => 0)))]) [0, 1] rfl
  have hDc := hD.sub (ws' := [(m0, .inr (10, [.int 0, .ref m_width, .ref m_many, .ref m_cells, .ref m_moved, .ref m_tape, .int 0, .int 0, .int 0, .int 0, .int 0, .long 0, .int 0, .int 0, .int 0, .int (-1), .ref m_lines, .ref m_hours, .ref m_courts, .ref m_in, .ref m_gates, .ref m_gate, .ref m_people, .ref m_at0, .ref m_stray, .ref m_set, .ref m_once, .ref m_truth, .ref m_known, .ref m_isKept, .int 0, .int (-1), .int 0, .int 0, .ref m_inside, .ref m_can, .ref m_fewest, .ref m_waysTo, .ref m_then, .ref m_two, .ref m_nextTwo, .ref m_three, .ref m_nextThree, .int (-1), .ref m_worth, .ref m_digit, .int 0, .long 0, .int 0, .int 0, .int 0, .int 0, .long 0])), (m_hours, .inl (cm_hours, 5, .inl (fun _ => 0)))]) [0, 1] (by decide) rfl
  have hKc := hK.sub (tys' := [(cm_hours, .int)]) [0] rfl
  have hFc := va_free (wc := [(m0, .inr (10, [.int 0, .ref m_width, .ref m_many, .ref m_cells, .ref m_moved, .ref m_tape, .int 0, .int 0, .int 0, .int 0, .int 0, .long 0, .int 0, .int 0, .int 0, .int (-1), .ref m_lines, .ref m_hours, .ref m_courts, .ref m_in, .ref m_gates, .ref m_gate, .ref m_people, .ref m_at0, .ref m_stray, .ref m_set, .ref m_once, .ref m_truth, .ref m_known, .ref m_isKept, .int 0, .int (-1), .int 0, .int 0, .ref m_inside, .ref m_can, .ref m_fewest, .ref m_waysTo, .ref m_then, .ref m_two, .ref m_nextTwo, .ref m_three, .ref m_nextThree, .int (-1), .ref m_worth, .ref m_digit, .int 0, .long 0, .int 0, .int 0, .int 0, .int 0, .long 0])), (m_hours, .inl (cm_hours, 5, .inl (fun _ => 0)))]) hD hS hA [0, 1] rfl
  refine va_calli (va_runV (As := [.int (xs (Int32.toNatClampNeg 1)), .int (xs (Int32.toNatClampNeg 2))]) (rest := [.int (-2)]) ⟨hx, hb, hml, hown, hts⟩ (k_X10_ends_ l dC dI m0 (xs (Int32.toNatClampNeg 1)) (xs (Int32.toNatClampNeg 2)) m_width m_many m_cells m_moved m_tape m_lines m_hours m_courts m_in m_gates m_gate m_people m_at0 m_stray m_set m_once m_truth m_known m_isKept m_inside m_can m_fewest m_waysTo m_then m_two m_nextTwo m_three m_nextThree m_worth m_digit cm_hours H.size) (cwV 2 hts (z_gV zw_t9_44 zw_t9_45 zw_t9_46 zw_t1_11 zw_t9_47) rfl rfl rfl (by decide +kernel) ⟨(Nat.le_of_ble_eq_true rfl), (Nat.le_of_ble_eq_true rfl)⟩) (z_preV hPc hKc hDc (ci := 10) (q0 := 0) rfl rfl) rfl rfl hl.1 rfl (lv_room (Nat.le_of_ble_eq_true rfl)) dL_law_2309 ⟨(Nat.le_of_ble_eq_true rfl), (Nat.le_of_ble_eq_true rfl)⟩) hS (fun q _ h => hFc q h) hFc (fun r_6 u t H1 locs ht hvm hw hB hz1 hk1 hS => ?_)
  have hB : zW dC dI [] [] (va_A [(m0, .inr (10, [.int 0, .ref m_width, .ref m_many, .ref m_cells, .ref m_moved, .ref m_tape, .int 0, .int 0, .int 0, .int 0, .int 0, .long 0, .int 0, .int 0, .int 0, .int (-1), .ref m_lines, .ref m_hours, .ref m_courts, .ref m_in, .ref m_gates, .ref m_gate, .ref m_people, .ref m_at0, .ref m_stray, .ref m_set, .ref m_once, .ref m_truth, .ref m_known, .ref m_isKept, .int 0, .int (-1), .int 0, .int 0, .ref m_inside, .ref m_can, .ref m_fewest, .ref m_waysTo, .ref m_then, .ref m_two, .ref m_nextTwo, .ref m_three, .ref m_nextThree, .int (-1), .ref m_worth, .ref m_digit, .int 0, .long 0, .int 0, .int 0, .int 0, .int 0, .long 0])), (m_hours, .inl (cm_hours, 5, .inl (fun _ => 0)))] H.size) t := z_none (va_K.moved hvm hK)
  obtain ⟨hP, hD, hK⟩ := z_after [] hB ht hvm hP hD hK [0, 1] [] rfl rfl (by decide) (by decide) hk1 hFc
  generalize H1 = H at hP hS ⊢
  have hP : va_P (dC, dI) vwCl [] H := hP
  have hD : va_D A [] := hD
  have hK : va_K (dC, dI) vwCl [(cm_hours, .int)] s := hK
  obtain rfl : r_6 = (-2) := hw
  refine lv_icmp_eq (tgt := 2651) hx hb dL_law_2312 (by decide) (fun _ => ?_) (fun q => absurd q (by decide))
  exact law_tail C0 hA2 (Nat.le_of_ble_eq_true rfl) (Nat.le_of_ble_eq_true rfl) hS (lv_sub hl [0, 3] rfl)
set_option maxHeartbeats 4000000 in
set_option maxRecDepth 100000 in
theorem law_draw {p : Program} {e : Env} {s : State} {m : MethodId} {below : List Frame} {meth : Method} {c : Code} {l : Launch} {b : Nat} {xs : Nat → Int32} (C0 : lw_At p s m meth c b 6 xs) {dC : Nat → ClassId} {dI : Nat → Nat → Nat} {A : Nat → Prop} (hA : ∀ q, s.heap.size ≤ q → A q) (hA2 : ∀ q, A q → s.heap.size ≤ q) {h0 : Nat} {tp : Nat} {nw : Nat} {im : Nat} {sl : Nat} {rd : Nat} {wk : Nat} {fm : Nat} {mt : Nat} {ch : Nat} {dy : Nat} {tn : Nat} {ta0 : Nat} {ta1 : Nat} {ta2 : Nat} {ta3 : Nat} {ta4 : Nat} {ta5 : Nat} {ta6 : Nat} {ta7 : Nat} {ta8 : Nat} {ta9 : Nat} {m0 : Nat} {m_width : Nat} {m_many : Nat} {m_cells : Nat} {m_moved : Nat} {m_tape : Nat} {m_lines : Nat} {m_hours : Nat} {m_courts : Nat} {m_in : Nat} {m_gates : Nat} {m_gate : Nat} {m_people : Nat} {m_at0 : Nat} {m_stray : Nat} {m_set : Nat} {m_once : Nat} {m_truth : Nat} {m_known : Nat} {m_isKept : Nat} {m_inside : Nat} {m_can : Nat} {m_fewest : Nat} {m_waysTo : Nat} {m_then : Nat} {m_two : Nat} {m_nextTwo : Nat} {m_three : Nat} {m_nextThree : Nat} {m_worth : Nat} {m_digit : Nat} {cm_hours : ClassId}  {H : Heap} {locs : List Loc} {ls : Array Slot} (hP : va_P (dC, dI) vwCl [(h0, .inr (9, [.ref tp, .int 0, .int 0, .int (-1), .ref nw, .ref im, .ref sl, .ref rd, .ref wk, .ref fm, .ref mt, .ref ch, .ref dy])), (nw, .inr (3, [.int 0, .ref tn, .int 0, .int 0, .int 0, .int 0])), (tn, .inr (7, [.int 0, .int 0, .int 0, .int 0, .int 0, .int 0, .int 0, .int 0, .ref ta0, .ref ta1, .ref ta2, .ref ta3, .ref ta4, .ref ta5, .ref ta6, .ref ta7, .ref ta8, .ref ta9])), (m0, .inr (10, [.int 0, .ref m_width, .ref m_many, .ref m_cells, .ref m_moved, .ref m_tape, .int 0, .int 0, .int 0, .int 0, .int 0, .long 0, .int 0, .int 0, .int 0, .int (-1), .ref m_lines, .ref m_hours, .ref m_courts, .ref m_in, .ref m_gates, .ref m_gate, .ref m_people, .ref m_at0, .ref m_stray, .ref m_set, .ref m_once, .ref m_truth, .ref m_known, .ref m_isKept, .int 0, .int (-1), .int 0, .int 0, .ref m_inside, .ref m_can, .ref m_fewest, .ref m_waysTo, .ref m_then, .ref m_two, .ref m_nextTwo, .ref m_three, .ref m_nextThree, .int (-1), .ref m_worth, .ref m_digit, .int 0, .long 0, .int 0, .int 0, .int 0, .int 0, .long 0])), (m_hours, .inl (cm_hours, 5, .inl (fun _ => 0)))] H) (hD : va_D A [(h0, .inr (9, [.ref tp, .int 0, .int 0, .int (-1), .ref nw, .ref im, .ref sl, .ref rd, .ref wk, .ref fm, .ref mt, .ref ch, .ref dy])), (nw, .inr (3, [.int 0, .ref tn, .int 0, .int 0, .int 0, .int 0])), (tn, .inr (7, [.int 0, .int 0, .int 0, .int 0, .int 0, .int 0, .int 0, .int 0, .ref ta0, .ref ta1, .ref ta2, .ref ta3, .ref ta4, .ref ta5, .ref ta6, .ref ta7, .ref ta8, .ref ta9])), (m0, .inr (10, [.int 0, .ref m_width, .ref m_many, .ref m_cells, .ref m_moved, .ref m_tape, .int 0, .int 0, .int 0, .int 0, .int 0, .long 0, .int 0, .int 0, .int 0, .int (-1), .ref m_lines, .ref m_hours, .ref m_courts, .ref m_in, .ref m_gates, .ref m_gate, .ref m_people, .ref m_at0, .ref m_stray, .ref m_set, .ref m_once, .ref m_truth, .ref m_known, .ref m_isKept, .int 0, .int (-1), .int 0, .int 0, .ref m_inside, .ref m_can, .ref m_fewest, .ref m_waysTo, .ref m_then, .ref m_two, .ref m_nextTwo, .ref m_three, .ref m_nextThree, .int (-1), .ref m_worth, .ref m_digit, .int 0, .long 0, .int 0, .int 0, .int 0, .int 0, .long 0])), (m_hours, .inl (cm_hours, 5, .inl (fun _ => 0)))]) (hK : va_K (dC, dI) vwCl [(cm_hours, .int)] s) (hS : va_S A s.heap H locs) (hl : lv_has ls 4 [(3, .int 0), (2, .ref m0), (1, .ref h0), (0, .ref b)]) : W p l e room_1 s m #[Value.ref b] below meth c H locs 166 101284 (lw_Z below #[Value.ref b] s) (F0 m 2317 ls []) := by
  obtain ⟨hx, hb, hr, hml, hown, hts, hX, hbl, hlocks, hgv⟩ := id C0
  have hown : s.vm.findClass RL = some m.cls := hown
  have hb : c.code = cL_law := hb
  have hts : ∀ w ∈ zT, w.before #[Value.ref b] s = true := fun w h => hts w (zT_in w h)
  have hbA : ¬ A b := fun q => absurd (hA2 b q) (Nat.not_le.mpr hbl)
  refine lv_aload_n hx hb dL_law_2317 rfl (lv_at hl 2 rfl) ?_
  refine lv_aload_n hx hb dL_law_2318 rfl (lv_at hl 3 rfl) ?_
  refine lv_iload_n hx hb dL_law_2319 rfl (lv_at hl 0 rfl) ?_
  refine lv_iconst (v := 1) hx hb dL_law_2320 (by decide) ?_
  refine lv_iadd hx hb dL_law_2321 ?_
  refine lv_topi (fun x_1 ex_1 => ?_)
  obtain rfl : x_1 = 1 := ex_1.trans (by decide)
  refine va_sld hx hb hX hbl hbA hS (z_inC _ (k := 1) (by decide) (by decide)) dL_law_2322 ?_
  have hPc := hP.sub (ws' := [(h0, .inr (9, [.ref tp, .int 0, .int 0, .int (-1), .ref nw, .ref im, .ref sl, .ref rd, .ref wk, .ref fm, .ref mt, .ref ch, .ref dy])), (nw, .inr (3, [.int 0, .ref tn, .int 0, .int 0, .int 0, .int 0])), (tn, .inr (7, [.int 0, .int 0, .int 0, .int 0, .int 0, .int 0, .int 0, .int 0, .ref ta0, .ref ta1, .ref ta2, .ref ta3, .ref ta4, .ref ta5, .ref ta6, .ref ta7, .ref ta8, .ref ta9]))]) [0, 1, 2] rfl
  have hDc := hD.sub (ws' := [(h0, .inr (9, [.ref tp, .int 0, .int 0, .int (-1), .ref nw, .ref im, .ref sl, .ref rd, .ref wk, .ref fm, .ref mt, .ref ch, .ref dy])), (nw, .inr (3, [.int 0, .ref tn, .int 0, .int 0, .int 0, .int 0])), (tn, .inr (7, [.int 0, .int 0, .int 0, .int 0, .int 0, .int 0, .int 0, .int 0, .ref ta0, .ref ta1, .ref ta2, .ref ta3, .ref ta4, .ref ta5, .ref ta6, .ref ta7, .ref ta8, .ref ta9]))]) [0, 1, 2] (by decide) rfl
  have hKc := hK.sub (tys' := []) [] rfl
  have hFc := va_free (wc := [(h0, .inr (9, [.ref tp, .int 0, .int 0, .int (-1), .ref nw, .ref im, .ref sl, .ref rd, .ref wk, .ref fm, .ref mt, .ref ch, .ref dy])), (nw, .inr (3, [.int 0, .ref tn, .int 0, .int 0, .int 0, .int 0])), (tn, .inr (7, [.int 0, .int 0, .int 0, .int 0, .int 0, .int 0, .int 0, .int 0, .ref ta0, .ref ta1, .ref ta2, .ref ta3, .ref ta4, .ref ta5, .ref ta6, .ref ta7, .ref ta8, .ref ta9]))]) hD hS hA [0, 1, 2] rfl
  refine va_calli (va_runV (As := [.int (xs (Int32.toNatClampNeg 1))]) (rest := []) ⟨hx, hb, hml, hown, hts⟩ (k_X9_draw l dC dI h0 (xs (Int32.toNatClampNeg 1)) tp nw im sl rd wk fm mt ch dy tn ta0 ta1 ta2 ta3 ta4 ta5 ta6 ta7 ta8 ta9 H.size) (cwV 1 hts (z_gV zw_t6_10 zw_t6_11 zw_t6_12 zw_t1_1 zw_t6_13) rfl rfl rfl (by decide +kernel) ⟨(Nat.le_of_ble_eq_true rfl), (Nat.le_of_ble_eq_true rfl)⟩) (z_preV hPc hKc hDc (ci := 9) (q0 := 0) rfl rfl) rfl rfl hl.1 rfl (lv_room (Nat.le_of_ble_eq_true rfl)) dL_law_2323 ⟨(Nat.le_of_ble_eq_true rfl), (Nat.le_of_ble_eq_true rfl)⟩) hS (fun q _ h => hFc q h) hFc (fun r_2 u t H1 locs ht hvm hw hB hz1 hk1 hS => ?_)
  have hB : zW dC dI [] [] (va_A [(h0, .inr (9, [.ref tp, .int 0, .int 0, .int (-1), .ref nw, .ref im, .ref sl, .ref rd, .ref wk, .ref fm, .ref mt, .ref ch, .ref dy])), (nw, .inr (3, [.int 0, .ref tn, .int 0, .int 0, .int 0, .int 0])), (tn, .inr (7, [.int 0, .int 0, .int 0, .int 0, .int 0, .int 0, .int 0, .int 0, .ref ta0, .ref ta1, .ref ta2, .ref ta3, .ref ta4, .ref ta5, .ref ta6, .ref ta7, .ref ta8, .ref ta9]))] H.size) t := z_none (va_K.moved hvm hK)
  obtain ⟨hP, hD, hK⟩ := z_after [(m0, .inr (10, [.int 0, .ref m_width, .ref m_many, .ref m_cells, .ref m_moved, .ref m_tape, .int 0, .int 0, .int 0, .int 0, .int 0, .long 0, .int 0, .int 0, .int 0, .int (-1), .ref m_lines, .ref m_hours, .ref m_courts, .ref m_in, .ref m_gates, .ref m_gate, .ref m_people, .ref m_at0, .ref m_stray, .ref m_set, .ref m_once, .ref m_truth, .ref m_known, .ref m_isKept, .int 0, .int (-1), .int 0, .int 0, .ref m_inside, .ref m_can, .ref m_fewest, .ref m_waysTo, .ref m_then, .ref m_two, .ref m_nextTwo, .ref m_three, .ref m_nextThree, .int (-1), .ref m_worth, .ref m_digit, .int 0, .long 0, .int 0, .int 0, .int 0, .int 0, .long 0])), (m_hours, .inl (cm_hours, 5, .inl (fun _ => 0)))] hB ht hvm hP hD hK [0, 1, 2] [3, 4] rfl rfl (by decide) (by decide) hk1 hFc
  generalize H1 = H at hP hS ⊢
  have hP : va_P (dC, dI) vwCl [(m0, .inr (10, [.int 0, .ref m_width, .ref m_many, .ref m_cells, .ref m_moved, .ref m_tape, .int 0, .int 0, .int 0, .int 0, .int 0, .long 0, .int 0, .int 0, .int 0, .int (-1), .ref m_lines, .ref m_hours, .ref m_courts, .ref m_in, .ref m_gates, .ref m_gate, .ref m_people, .ref m_at0, .ref m_stray, .ref m_set, .ref m_once, .ref m_truth, .ref m_known, .ref m_isKept, .int 0, .int (-1), .int 0, .int 0, .ref m_inside, .ref m_can, .ref m_fewest, .ref m_waysTo, .ref m_then, .ref m_two, .ref m_nextTwo, .ref m_three, .ref m_nextThree, .int (-1), .ref m_worth, .ref m_digit, .int 0, .long 0, .int 0, .int 0, .int 0, .int 0, .long 0])), (m_hours, .inl (cm_hours, 5, .inl (fun _ => 0)))] H := hP
  have hD : va_D A [(m0, .inr (10, [.int 0, .ref m_width, .ref m_many, .ref m_cells, .ref m_moved, .ref m_tape, .int 0, .int 0, .int 0, .int 0, .int 0, .long 0, .int 0, .int 0, .int 0, .int (-1), .ref m_lines, .ref m_hours, .ref m_courts, .ref m_in, .ref m_gates, .ref m_gate, .ref m_people, .ref m_at0, .ref m_stray, .ref m_set, .ref m_once, .ref m_truth, .ref m_known, .ref m_isKept, .int 0, .int (-1), .int 0, .int 0, .ref m_inside, .ref m_can, .ref m_fewest, .ref m_waysTo, .ref m_then, .ref m_two, .ref m_nextTwo, .ref m_three, .ref m_nextThree, .int (-1), .ref m_worth, .ref m_digit, .int 0, .long 0, .int 0, .int 0, .int 0, .int 0, .long 0])), (m_hours, .inl (cm_hours, 5, .inl (fun _ => 0)))] := hD
  have hK : va_K (dC, dI) vwCl [(cm_hours, .int)] s := hK
  obtain rfl : r_2 = (-2) := hw
  refine lv_aload_n hx hb dL_law_2326 rfl (lv_at hl 1 rfl) ?_
  refine lv_aload_n hx hb dL_law_2327 rfl (lv_at hl 3 rfl) ?_
  refine lv_iload_n hx hb dL_law_2328 rfl (lv_at hl 0 rfl) ?_
  refine lv_iconst (v := 1) hx hb dL_law_2329 (by decide) ?_
  refine lv_iadd hx hb dL_law_2330 ?_
  refine lv_topi (fun x_3 ex_3 => ?_)
  obtain rfl : x_3 = 1 := ex_3.trans (by decide)
  refine va_sld hx hb hX hbl hbA hS (z_inC _ (k := 1) (by decide) (by decide)) dL_law_2331 ?_
  have hPc := hP.sub (ws' := [(m0, .inr (10, [.int 0, .ref m_width, .ref m_many, .ref m_cells, .ref m_moved, .ref m_tape, .int 0, .int 0, .int 0, .int 0, .int 0, .long 0, .int 0, .int 0, .int 0, .int (-1), .ref m_lines, .ref m_hours, .ref m_courts, .ref m_in, .ref m_gates, .ref m_gate, .ref m_people, .ref m_at0, .ref m_stray, .ref m_set, .ref m_once, .ref m_truth, .ref m_known, .ref m_isKept, .int 0, .int (-1), .int 0, .int 0, .ref m_inside, .ref m_can, .ref m_fewest, .ref m_waysTo, .ref m_then, .ref m_two, .ref m_nextTwo, .ref m_three, .ref m_nextThree, .int (-1), .ref m_worth, .ref m_digit, .int 0, .long 0, .int 0, .int 0, .int 0, .int 0, .long 0])), (m_hours, .inl (cm_hours, 5, .inl (fun _ => 0)))]) [0, 1] rfl
  have hDc := hD.sub (ws' := [(m0, .inr (10, [.int 0, .ref m_width, .ref m_many, .ref m_cells, .ref m_moved, .ref m_tape, .int 0, .int 0, .int 0, .int 0, .int 0, .long 0, .int 0, .int 0, .int 0, .int (-1), .ref m_lines, .ref m_hours, .ref m_courts, .ref m_in, .ref m_gates, .ref m_gate, .ref m_people, .ref m_at0, .ref m_stray, .ref m_set, .ref m_once, .ref m_truth, .ref m_known, .ref m_isKept, .int 0, .int (-1), .int 0, .int 0, .ref m_inside, .ref m_can, .ref m_fewest, .ref m_waysTo, .ref m_then, .ref m_two, .ref m_nextTwo, .ref m_three, .ref m_nextThree, .int (-1), .ref m_worth, .ref m_digit, .int 0, .long 0, .int 0, .int 0, .int 0, .int 0, .long 0])), (m_hours, .inl (cm_hours, 5, .inl (fun _ => 0)))]) [0, 1] (by decide) rfl
  have hKc := hK.sub (tys' := [(cm_hours, .int)]) [0] rfl
  have hFc := va_free (wc := [(m0, .inr (10, [.int 0, .ref m_width, .ref m_many, .ref m_cells, .ref m_moved, .ref m_tape, .int 0, .int 0, .int 0, .int 0, .int 0, .long 0, .int 0, .int 0, .int 0, .int (-1), .ref m_lines, .ref m_hours, .ref m_courts, .ref m_in, .ref m_gates, .ref m_gate, .ref m_people, .ref m_at0, .ref m_stray, .ref m_set, .ref m_once, .ref m_truth, .ref m_known, .ref m_isKept, .int 0, .int (-1), .int 0, .int 0, .ref m_inside, .ref m_can, .ref m_fewest, .ref m_waysTo, .ref m_then, .ref m_two, .ref m_nextTwo, .ref m_three, .ref m_nextThree, .int (-1), .ref m_worth, .ref m_digit, .int 0, .long 0, .int 0, .int 0, .int 0, .int 0, .long 0])), (m_hours, .inl (cm_hours, 5, .inl (fun _ => 0)))]) hD hS hA [0, 1] rfl
  refine va_calli (va_runV (As := [.int (xs (Int32.toNatClampNeg 1))]) (rest := [.int (-2)]) ⟨hx, hb, hml, hown, hts⟩ (k_X10_draw l dC dI m0 (xs (Int32.toNatClampNeg 1)) m_width m_many m_cells m_moved m_tape m_lines m_hours m_courts m_in m_gates m_gate m_people m_at0 m_stray m_set m_once m_truth m_known m_isKept m_inside m_can m_fewest m_waysTo m_then m_two m_nextTwo m_three m_nextThree m_worth m_digit cm_hours H.size) (cwV 1 hts (z_gV zw_t9_48 zw_t9_49 zw_t9_50 zw_t1_11 zw_t9_51) rfl rfl rfl (by decide +kernel) ⟨(Nat.le_of_ble_eq_true rfl), (Nat.le_of_ble_eq_true rfl)⟩) (z_preV hPc hKc hDc (ci := 10) (q0 := 0) rfl rfl) rfl rfl hl.1 rfl (lv_room (Nat.le_of_ble_eq_true rfl)) dL_law_2332 ⟨(Nat.le_of_ble_eq_true rfl), (Nat.le_of_ble_eq_true rfl)⟩) hS (fun q _ h => hFc q h) hFc (fun r_4 u t H1 locs ht hvm hw hB hz1 hk1 hS => ?_)
  have hB : zW dC dI [] [] (va_A [(m0, .inr (10, [.int 0, .ref m_width, .ref m_many, .ref m_cells, .ref m_moved, .ref m_tape, .int 0, .int 0, .int 0, .int 0, .int 0, .long 0, .int 0, .int 0, .int 0, .int (-1), .ref m_lines, .ref m_hours, .ref m_courts, .ref m_in, .ref m_gates, .ref m_gate, .ref m_people, .ref m_at0, .ref m_stray, .ref m_set, .ref m_once, .ref m_truth, .ref m_known, .ref m_isKept, .int 0, .int (-1), .int 0, .int 0, .ref m_inside, .ref m_can, .ref m_fewest, .ref m_waysTo, .ref m_then, .ref m_two, .ref m_nextTwo, .ref m_three, .ref m_nextThree, .int (-1), .ref m_worth, .ref m_digit, .int 0, .long 0, .int 0, .int 0, .int 0, .int 0, .long 0])), (m_hours, .inl (cm_hours, 5, .inl (fun _ => 0)))] H.size) t := z_none (va_K.moved hvm hK)
  obtain ⟨hP, hD, hK⟩ := z_after [] hB ht hvm hP hD hK [0, 1] [] rfl rfl (by decide) (by decide) hk1 hFc
  generalize H1 = H at hP hS ⊢
  have hP : va_P (dC, dI) vwCl [] H := hP
  have hD : va_D A [] := hD
  have hK : va_K (dC, dI) vwCl [(cm_hours, .int)] s := hK
  obtain rfl : r_4 = (-2) := hw
  refine lv_icmp_eq (tgt := 2651) hx hb dL_law_2335 (by decide) (fun _ => ?_) (fun q => absurd q (by decide))
  exact law_tail C0 hA2 (Nat.le_of_ble_eq_true rfl) (Nat.le_of_ble_eq_true rfl) hS (lv_sub hl [0, 3] rfl)
set_option maxHeartbeats 4000000 in
set_option maxRecDepth 100000 in
theorem law_days {p : Program} {e : Env} {s : State} {m : MethodId} {below : List Frame} {meth : Method} {c : Code} {l : Launch} {b : Nat} {xs : Nat → Int32} (C0 : lw_At p s m meth c b 6 xs) {dC : Nat → ClassId} {dI : Nat → Nat → Nat} {A : Nat → Prop} (hA : ∀ q, s.heap.size ≤ q → A q) (hA2 : ∀ q, A q → s.heap.size ≤ q) {h0 : Nat} {tp : Nat} {nw : Nat} {im : Nat} {sl : Nat} {rd : Nat} {wk : Nat} {fm : Nat} {mt : Nat} {ch : Nat} {dy : Nat} {tn : Nat} {ta0 : Nat} {ta1 : Nat} {ta2 : Nat} {ta3 : Nat} {ta4 : Nat} {ta5 : Nat} {ta6 : Nat} {ta7 : Nat} {ta8 : Nat} {ta9 : Nat} {m0 : Nat} {m_width : Nat} {m_many : Nat} {m_cells : Nat} {m_moved : Nat} {m_tape : Nat} {m_lines : Nat} {m_hours : Nat} {m_courts : Nat} {m_in : Nat} {m_gates : Nat} {m_gate : Nat} {m_people : Nat} {m_at0 : Nat} {m_stray : Nat} {m_set : Nat} {m_once : Nat} {m_truth : Nat} {m_known : Nat} {m_isKept : Nat} {m_inside : Nat} {m_can : Nat} {m_fewest : Nat} {m_waysTo : Nat} {m_then : Nat} {m_two : Nat} {m_nextTwo : Nat} {m_three : Nat} {m_nextThree : Nat} {m_worth : Nat} {m_digit : Nat} {cm_courts : ClassId}  {H : Heap} {locs : List Loc} {ls : Array Slot} (hP : va_P (dC, dI) vwCl [(h0, .inr (9, [.ref tp, .int 0, .int 0, .int (-1), .ref nw, .ref im, .ref sl, .ref rd, .ref wk, .ref fm, .ref mt, .ref ch, .ref dy])), (nw, .inr (3, [.int 0, .ref tn, .int 0, .int 0, .int 0, .int 0])), (tn, .inr (7, [.int 0, .int 0, .int 0, .int 0, .int 0, .int 0, .int 0, .int 0, .ref ta0, .ref ta1, .ref ta2, .ref ta3, .ref ta4, .ref ta5, .ref ta6, .ref ta7, .ref ta8, .ref ta9])), (m0, .inr (10, [.int 0, .ref m_width, .ref m_many, .ref m_cells, .ref m_moved, .ref m_tape, .int 0, .int 0, .int 0, .int 0, .int 0, .long 0, .int 0, .int 0, .int 0, .int (-1), .ref m_lines, .ref m_hours, .ref m_courts, .ref m_in, .ref m_gates, .ref m_gate, .ref m_people, .ref m_at0, .ref m_stray, .ref m_set, .ref m_once, .ref m_truth, .ref m_known, .ref m_isKept, .int 0, .int (-1), .int 0, .int 0, .ref m_inside, .ref m_can, .ref m_fewest, .ref m_waysTo, .ref m_then, .ref m_two, .ref m_nextTwo, .ref m_three, .ref m_nextThree, .int (-1), .ref m_worth, .ref m_digit, .int 0, .long 0, .int 0, .int 0, .int 0, .int 0, .long 0])), (m_courts, .inl (cm_courts, 5, .inl (fun _ => 0)))] H) (hD : va_D A [(h0, .inr (9, [.ref tp, .int 0, .int 0, .int (-1), .ref nw, .ref im, .ref sl, .ref rd, .ref wk, .ref fm, .ref mt, .ref ch, .ref dy])), (nw, .inr (3, [.int 0, .ref tn, .int 0, .int 0, .int 0, .int 0])), (tn, .inr (7, [.int 0, .int 0, .int 0, .int 0, .int 0, .int 0, .int 0, .int 0, .ref ta0, .ref ta1, .ref ta2, .ref ta3, .ref ta4, .ref ta5, .ref ta6, .ref ta7, .ref ta8, .ref ta9])), (m0, .inr (10, [.int 0, .ref m_width, .ref m_many, .ref m_cells, .ref m_moved, .ref m_tape, .int 0, .int 0, .int 0, .int 0, .int 0, .long 0, .int 0, .int 0, .int 0, .int (-1), .ref m_lines, .ref m_hours, .ref m_courts, .ref m_in, .ref m_gates, .ref m_gate, .ref m_people, .ref m_at0, .ref m_stray, .ref m_set, .ref m_once, .ref m_truth, .ref m_known, .ref m_isKept, .int 0, .int (-1), .int 0, .int 0, .ref m_inside, .ref m_can, .ref m_fewest, .ref m_waysTo, .ref m_then, .ref m_two, .ref m_nextTwo, .ref m_three, .ref m_nextThree, .int (-1), .ref m_worth, .ref m_digit, .int 0, .long 0, .int 0, .int 0, .int 0, .int 0, .long 0])), (m_courts, .inl (cm_courts, 5, .inl (fun _ => 0)))]) (hK : va_K (dC, dI) vwCl [(cm_courts, .int)] s) (hS : va_S A s.heap H locs) (hl : lv_has ls 4 [(3, .int 0), (2, .ref m0), (1, .ref h0), (0, .ref b)]) : W p l e room_1 s m #[Value.ref b] below meth c H locs 166 101284 (lw_Z below #[Value.ref b] s) (F0 m 2340 ls []) := by
  obtain ⟨hx, hb, hr, hml, hown, hts, hX, hbl, hlocks, hgv⟩ := id C0
  have hown : s.vm.findClass RL = some m.cls := hown
  have hb : c.code = cL_law := hb
  have hts : ∀ w ∈ zT, w.before #[Value.ref b] s = true := fun w h => hts w (zT_in w h)
  have hbA : ¬ A b := fun q => absurd (hA2 b q) (Nat.not_le.mpr hbl)
  refine lv_aload_n hx hb dL_law_2340 rfl (lv_at hl 2 rfl) ?_
  refine lv_aload_n hx hb dL_law_2341 rfl (lv_at hl 3 rfl) ?_
  refine lv_iload_n hx hb dL_law_2342 rfl (lv_at hl 0 rfl) ?_
  refine lv_iconst (v := 1) hx hb dL_law_2343 (by decide) ?_
  refine lv_iadd hx hb dL_law_2344 ?_
  refine lv_topi (fun x_1 ex_1 => ?_)
  obtain rfl : x_1 = 1 := ex_1.trans (by decide)
  refine va_sld hx hb hX hbl hbA hS (z_inC _ (k := 1) (by decide) (by decide)) dL_law_2345 ?_
  refine lv_aload_n hx hb dL_law_2346 rfl (lv_at hl 3 rfl) ?_
  refine lv_iload_n hx hb dL_law_2347 rfl (lv_at hl 0 rfl) ?_
  refine lv_iconst (v := 2) hx hb dL_law_2348 (by decide) ?_
  refine lv_iadd hx hb dL_law_2349 ?_
  refine lv_topi (fun x_2 ex_2 => ?_)
  obtain rfl : x_2 = 2 := ex_2.trans (by decide)
  refine va_sld hx hb hX hbl hbA hS (z_inC _ (k := 2) (by decide) (by decide)) dL_law_2350 ?_
  refine lv_aload_n hx hb dL_law_2351 rfl (lv_at hl 3 rfl) ?_
  refine lv_iload_n hx hb dL_law_2352 rfl (lv_at hl 0 rfl) ?_
  refine lv_iconst (v := 3) hx hb dL_law_2353 (by decide) ?_
  refine lv_iadd hx hb dL_law_2354 ?_
  refine lv_topi (fun x_3 ex_3 => ?_)
  obtain rfl : x_3 = 3 := ex_3.trans (by decide)
  refine va_sld hx hb hX hbl hbA hS (z_inC _ (k := 3) (by decide) (by decide)) dL_law_2355 ?_
  refine lv_aload_n hx hb dL_law_2356 rfl (lv_at hl 3 rfl) ?_
  refine lv_iload_n hx hb dL_law_2357 rfl (lv_at hl 0 rfl) ?_
  refine lv_iconst (v := 4) hx hb dL_law_2358 (by decide) ?_
  refine lv_iadd hx hb dL_law_2359 ?_
  refine lv_topi (fun x_4 ex_4 => ?_)
  obtain rfl : x_4 = 4 := ex_4.trans (by decide)
  refine va_sld hx hb hX hbl hbA hS (z_inC _ (k := 4) (by decide) (by decide)) dL_law_2360 ?_
  refine lv_aload_n hx hb dL_law_2361 rfl (lv_at hl 3 rfl) ?_
  refine lv_iload_n hx hb dL_law_2362 rfl (lv_at hl 0 rfl) ?_
  refine lv_iconst (v := 5) hx hb dL_law_2363 (by decide) ?_
  refine lv_iadd hx hb dL_law_2364 ?_
  refine lv_topi (fun x_5 ex_5 => ?_)
  obtain rfl : x_5 = 5 := ex_5.trans (by decide)
  refine va_sld hx hb hX hbl hbA hS (z_inC _ (k := 5) (by decide) (by decide)) dL_law_2365 ?_
  have hPc := hP.sub (ws' := [(h0, .inr (9, [.ref tp, .int 0, .int 0, .int (-1), .ref nw, .ref im, .ref sl, .ref rd, .ref wk, .ref fm, .ref mt, .ref ch, .ref dy])), (nw, .inr (3, [.int 0, .ref tn, .int 0, .int 0, .int 0, .int 0])), (tn, .inr (7, [.int 0, .int 0, .int 0, .int 0, .int 0, .int 0, .int 0, .int 0, .ref ta0, .ref ta1, .ref ta2, .ref ta3, .ref ta4, .ref ta5, .ref ta6, .ref ta7, .ref ta8, .ref ta9]))]) [0, 1, 2] rfl
  have hDc := hD.sub (ws' := [(h0, .inr (9, [.ref tp, .int 0, .int 0, .int (-1), .ref nw, .ref im, .ref sl, .ref rd, .ref wk, .ref fm, .ref mt, .ref ch, .ref dy])), (nw, .inr (3, [.int 0, .ref tn, .int 0, .int 0, .int 0, .int 0])), (tn, .inr (7, [.int 0, .int 0, .int 0, .int 0, .int 0, .int 0, .int 0, .int 0, .ref ta0, .ref ta1, .ref ta2, .ref ta3, .ref ta4, .ref ta5, .ref ta6, .ref ta7, .ref ta8, .ref ta9]))]) [0, 1, 2] (by decide) rfl
  have hKc := hK.sub (tys' := []) [] rfl
  have hFc := va_free (wc := [(h0, .inr (9, [.ref tp, .int 0, .int 0, .int (-1), .ref nw, .ref im, .ref sl, .ref rd, .ref wk, .ref fm, .ref mt, .ref ch, .ref dy])), (nw, .inr (3, [.int 0, .ref tn, .int 0, .int 0, .int 0, .int 0])), (tn, .inr (7, [.int 0, .int 0, .int 0, .int 0, .int 0, .int 0, .int 0, .int 0, .ref ta0, .ref ta1, .ref ta2, .ref ta3, .ref ta4, .ref ta5, .ref ta6, .ref ta7, .ref ta8, .ref ta9]))]) hD hS hA [0, 1, 2] rfl
  refine va_calli (va_runV (As := [.int (xs (Int32.toNatClampNeg 1)), .int (xs (Int32.toNatClampNeg 2)), .int (xs (Int32.toNatClampNeg 3)), .int (xs (Int32.toNatClampNeg 4)), .int (xs (Int32.toNatClampNeg 5))]) (rest := []) ⟨hx, hb, hml, hown, hts⟩ (k_X9_days l dC dI h0 (xs (Int32.toNatClampNeg 1)) (xs (Int32.toNatClampNeg 2)) (xs (Int32.toNatClampNeg 3)) (xs (Int32.toNatClampNeg 4)) (xs (Int32.toNatClampNeg 5)) tp nw im sl rd wk fm mt ch dy tn ta0 ta1 ta2 ta3 ta4 ta5 ta6 ta7 ta8 ta9 H.size) (cwV 5 hts (z_gV zw_t6_23 zw_t6_24 zw_t6_25 zw_t1_1 zw_t6_26) rfl rfl rfl (by decide +kernel) ⟨(Nat.le_of_ble_eq_true rfl), (Nat.le_of_ble_eq_true rfl)⟩) (z_preV hPc hKc hDc (ci := 9) (q0 := 0) rfl rfl) rfl rfl hl.1 rfl (lv_room (Nat.le_of_ble_eq_true rfl)) dL_law_2366 ⟨(Nat.le_of_ble_eq_true rfl), (Nat.le_of_ble_eq_true rfl)⟩) hS (fun q _ h => hFc q h) hFc (fun r_6 u t H1 locs ht hvm hw hB hz1 hk1 hS => ?_)
  have hB : zW dC dI [] [] (va_A [(h0, .inr (9, [.ref tp, .int 0, .int 0, .int (-1), .ref nw, .ref im, .ref sl, .ref rd, .ref wk, .ref fm, .ref mt, .ref ch, .ref dy])), (nw, .inr (3, [.int 0, .ref tn, .int 0, .int 0, .int 0, .int 0])), (tn, .inr (7, [.int 0, .int 0, .int 0, .int 0, .int 0, .int 0, .int 0, .int 0, .ref ta0, .ref ta1, .ref ta2, .ref ta3, .ref ta4, .ref ta5, .ref ta6, .ref ta7, .ref ta8, .ref ta9]))] H.size) t := z_none (va_K.moved hvm hK)
  obtain ⟨hP, hD, hK⟩ := z_after [(m0, .inr (10, [.int 0, .ref m_width, .ref m_many, .ref m_cells, .ref m_moved, .ref m_tape, .int 0, .int 0, .int 0, .int 0, .int 0, .long 0, .int 0, .int 0, .int 0, .int (-1), .ref m_lines, .ref m_hours, .ref m_courts, .ref m_in, .ref m_gates, .ref m_gate, .ref m_people, .ref m_at0, .ref m_stray, .ref m_set, .ref m_once, .ref m_truth, .ref m_known, .ref m_isKept, .int 0, .int (-1), .int 0, .int 0, .ref m_inside, .ref m_can, .ref m_fewest, .ref m_waysTo, .ref m_then, .ref m_two, .ref m_nextTwo, .ref m_three, .ref m_nextThree, .int (-1), .ref m_worth, .ref m_digit, .int 0, .long 0, .int 0, .int 0, .int 0, .int 0, .long 0])), (m_courts, .inl (cm_courts, 5, .inl (fun _ => 0)))] hB ht hvm hP hD hK [0, 1, 2] [3, 4] rfl rfl (by decide) (by decide) hk1 hFc
  generalize H1 = H at hP hS ⊢
  have hP : va_P (dC, dI) vwCl [(m0, .inr (10, [.int 0, .ref m_width, .ref m_many, .ref m_cells, .ref m_moved, .ref m_tape, .int 0, .int 0, .int 0, .int 0, .int 0, .long 0, .int 0, .int 0, .int 0, .int (-1), .ref m_lines, .ref m_hours, .ref m_courts, .ref m_in, .ref m_gates, .ref m_gate, .ref m_people, .ref m_at0, .ref m_stray, .ref m_set, .ref m_once, .ref m_truth, .ref m_known, .ref m_isKept, .int 0, .int (-1), .int 0, .int 0, .ref m_inside, .ref m_can, .ref m_fewest, .ref m_waysTo, .ref m_then, .ref m_two, .ref m_nextTwo, .ref m_three, .ref m_nextThree, .int (-1), .ref m_worth, .ref m_digit, .int 0, .long 0, .int 0, .int 0, .int 0, .int 0, .long 0])), (m_courts, .inl (cm_courts, 5, .inl (fun _ => 0)))] H := hP
  have hD : va_D A [(m0, .inr (10, [.int 0, .ref m_width, .ref m_many, .ref m_cells, .ref m_moved, .ref m_tape, .int 0, .int 0, .int 0, .int 0, .int 0, .long 0, .int 0, .int 0, .int 0, .int (-1), .ref m_lines, .ref m_hours, .ref m_courts, .ref m_in, .ref m_gates, .ref m_gate, .ref m_people, .ref m_at0, .ref m_stray, .ref m_set, .ref m_once, .ref m_truth, .ref m_known, .ref m_isKept, .int 0, .int (-1), .int 0, .int 0, .ref m_inside, .ref m_can, .ref m_fewest, .ref m_waysTo, .ref m_then, .ref m_two, .ref m_nextTwo, .ref m_three, .ref m_nextThree, .int (-1), .ref m_worth, .ref m_digit, .int 0, .long 0, .int 0, .int 0, .int 0, .int 0, .long 0])), (m_courts, .inl (cm_courts, 5, .inl (fun _ => 0)))] := hD
  have hK : va_K (dC, dI) vwCl [(cm_courts, .int)] s := hK
  obtain rfl : r_6 = (-2) := hw
  refine lv_aload_n hx hb dL_law_2369 rfl (lv_at hl 1 rfl) ?_
  refine lv_aload_n hx hb dL_law_2370 rfl (lv_at hl 3 rfl) ?_
  refine lv_iload_n hx hb dL_law_2371 rfl (lv_at hl 0 rfl) ?_
  refine lv_iconst (v := 1) hx hb dL_law_2372 (by decide) ?_
  refine lv_iadd hx hb dL_law_2373 ?_
  refine lv_topi (fun x_7 ex_7 => ?_)
  obtain rfl : x_7 = 1 := ex_7.trans (by decide)
  refine va_sld hx hb hX hbl hbA hS (z_inC _ (k := 1) (by decide) (by decide)) dL_law_2374 ?_
  refine lv_aload_n hx hb dL_law_2375 rfl (lv_at hl 3 rfl) ?_
  refine lv_iload_n hx hb dL_law_2376 rfl (lv_at hl 0 rfl) ?_
  refine lv_iconst (v := 2) hx hb dL_law_2377 (by decide) ?_
  refine lv_iadd hx hb dL_law_2378 ?_
  refine lv_topi (fun x_8 ex_8 => ?_)
  obtain rfl : x_8 = 2 := ex_8.trans (by decide)
  refine va_sld hx hb hX hbl hbA hS (z_inC _ (k := 2) (by decide) (by decide)) dL_law_2379 ?_
  refine lv_aload_n hx hb dL_law_2380 rfl (lv_at hl 3 rfl) ?_
  refine lv_iload_n hx hb dL_law_2381 rfl (lv_at hl 0 rfl) ?_
  refine lv_iconst (v := 3) hx hb dL_law_2382 (by decide) ?_
  refine lv_iadd hx hb dL_law_2383 ?_
  refine lv_topi (fun x_9 ex_9 => ?_)
  obtain rfl : x_9 = 3 := ex_9.trans (by decide)
  refine va_sld hx hb hX hbl hbA hS (z_inC _ (k := 3) (by decide) (by decide)) dL_law_2384 ?_
  refine lv_aload_n hx hb dL_law_2385 rfl (lv_at hl 3 rfl) ?_
  refine lv_iload_n hx hb dL_law_2386 rfl (lv_at hl 0 rfl) ?_
  refine lv_iconst (v := 4) hx hb dL_law_2387 (by decide) ?_
  refine lv_iadd hx hb dL_law_2388 ?_
  refine lv_topi (fun x_10 ex_10 => ?_)
  obtain rfl : x_10 = 4 := ex_10.trans (by decide)
  refine va_sld hx hb hX hbl hbA hS (z_inC _ (k := 4) (by decide) (by decide)) dL_law_2389 ?_
  refine lv_aload_n hx hb dL_law_2390 rfl (lv_at hl 3 rfl) ?_
  refine lv_iload_n hx hb dL_law_2391 rfl (lv_at hl 0 rfl) ?_
  refine lv_iconst (v := 5) hx hb dL_law_2392 (by decide) ?_
  refine lv_iadd hx hb dL_law_2393 ?_
  refine lv_topi (fun x_11 ex_11 => ?_)
  obtain rfl : x_11 = 5 := ex_11.trans (by decide)
  refine va_sld hx hb hX hbl hbA hS (z_inC _ (k := 5) (by decide) (by decide)) dL_law_2394 ?_
  have hPc := hP.sub (ws' := [(m0, .inr (10, [.int 0, .ref m_width, .ref m_many, .ref m_cells, .ref m_moved, .ref m_tape, .int 0, .int 0, .int 0, .int 0, .int 0, .long 0, .int 0, .int 0, .int 0, .int (-1), .ref m_lines, .ref m_hours, .ref m_courts, .ref m_in, .ref m_gates, .ref m_gate, .ref m_people, .ref m_at0, .ref m_stray, .ref m_set, .ref m_once, .ref m_truth, .ref m_known, .ref m_isKept, .int 0, .int (-1), .int 0, .int 0, .ref m_inside, .ref m_can, .ref m_fewest, .ref m_waysTo, .ref m_then, .ref m_two, .ref m_nextTwo, .ref m_three, .ref m_nextThree, .int (-1), .ref m_worth, .ref m_digit, .int 0, .long 0, .int 0, .int 0, .int 0, .int 0, .long 0])), (m_courts, .inl (cm_courts, 5, .inl (fun _ => 0)))]) [0, 1] rfl
  have hDc := hD.sub (ws' := [(m0, .inr (10, [.int 0, .ref m_width, .ref m_many, .ref m_cells, .ref m_moved, .ref m_tape, .int 0, .int 0, .int 0, .int 0, .int 0, .long 0, .int 0, .int 0, .int 0, .int (-1), .ref m_lines, .ref m_hours, .ref m_courts, .ref m_in, .ref m_gates, .ref m_gate, .ref m_people, .ref m_at0, .ref m_stray, .ref m_set, .ref m_once, .ref m_truth, .ref m_known, .ref m_isKept, .int 0, .int (-1), .int 0, .int 0, .ref m_inside, .ref m_can, .ref m_fewest, .ref m_waysTo, .ref m_then, .ref m_two, .ref m_nextTwo, .ref m_three, .ref m_nextThree, .int (-1), .ref m_worth, .ref m_digit, .int 0, .long 0, .int 0, .int 0, .int 0, .int 0, .long 0])), (m_courts, .inl (cm_courts, 5, .inl (fun _ => 0)))]) [0, 1] (by decide) rfl
  have hKc := hK.sub (tys' := [(cm_courts, .int)]) [0] rfl
  have hFc := va_free (wc := [(m0, .inr (10, [.int 0, .ref m_width, .ref m_many, .ref m_cells, .ref m_moved, .ref m_tape, .int 0, .int 0, .int 0, .int 0, .int 0, .long 0, .int 0, .int 0, .int 0, .int (-1), .ref m_lines, .ref m_hours, .ref m_courts, .ref m_in, .ref m_gates, .ref m_gate, .ref m_people, .ref m_at0, .ref m_stray, .ref m_set, .ref m_once, .ref m_truth, .ref m_known, .ref m_isKept, .int 0, .int (-1), .int 0, .int 0, .ref m_inside, .ref m_can, .ref m_fewest, .ref m_waysTo, .ref m_then, .ref m_two, .ref m_nextTwo, .ref m_three, .ref m_nextThree, .int (-1), .ref m_worth, .ref m_digit, .int 0, .long 0, .int 0, .int 0, .int 0, .int 0, .long 0])), (m_courts, .inl (cm_courts, 5, .inl (fun _ => 0)))]) hD hS hA [0, 1] rfl
  refine va_calli (va_runV (As := [.int (xs (Int32.toNatClampNeg 1)), .int (xs (Int32.toNatClampNeg 2)), .int (xs (Int32.toNatClampNeg 3)), .int (xs (Int32.toNatClampNeg 4)), .int (xs (Int32.toNatClampNeg 5))]) (rest := [.int (-2)]) ⟨hx, hb, hml, hown, hts⟩ (k_X10_days l dC dI m0 (xs (Int32.toNatClampNeg 1)) (xs (Int32.toNatClampNeg 2)) (xs (Int32.toNatClampNeg 3)) (xs (Int32.toNatClampNeg 4)) (xs (Int32.toNatClampNeg 5)) m_width m_many m_cells m_moved m_tape m_lines m_hours m_courts m_in m_gates m_gate m_people m_at0 m_stray m_set m_once m_truth m_known m_isKept m_inside m_can m_fewest m_waysTo m_then m_two m_nextTwo m_three m_nextThree m_worth m_digit cm_courts H.size) (cwV 5 hts (z_gV zw_t9_68 zw_t9_69 zw_t9_70 zw_t1_11 zw_t9_71) rfl rfl rfl (by decide +kernel) ⟨(Nat.le_of_ble_eq_true rfl), (Nat.le_of_ble_eq_true rfl)⟩) (z_preV hPc hKc hDc (ci := 10) (q0 := 0) rfl rfl) rfl rfl hl.1 rfl (lv_room (Nat.le_of_ble_eq_true rfl)) dL_law_2395 ⟨(Nat.le_of_ble_eq_true rfl), (Nat.le_of_ble_eq_true rfl)⟩) hS (fun q _ h => hFc q h) hFc (fun r_12 u t H1 locs ht hvm hw hB hz1 hk1 hS => ?_)
  have hB : zW dC dI [] [] (va_A [(m0, .inr (10, [.int 0, .ref m_width, .ref m_many, .ref m_cells, .ref m_moved, .ref m_tape, .int 0, .int 0, .int 0, .int 0, .int 0, .long 0, .int 0, .int 0, .int 0, .int (-1), .ref m_lines, .ref m_hours, .ref m_courts, .ref m_in, .ref m_gates, .ref m_gate, .ref m_people, .ref m_at0, .ref m_stray, .ref m_set, .ref m_once, .ref m_truth, .ref m_known, .ref m_isKept, .int 0, .int (-1), .int 0, .int 0, .ref m_inside, .ref m_can, .ref m_fewest, .ref m_waysTo, .ref m_then, .ref m_two, .ref m_nextTwo, .ref m_three, .ref m_nextThree, .int (-1), .ref m_worth, .ref m_digit, .int 0, .long 0, .int 0, .int 0, .int 0, .int 0, .long 0])), (m_courts, .inl (cm_courts, 5, .inl (fun _ => 0)))] H.size) t := z_none (va_K.moved hvm hK)
  obtain ⟨hP, hD, hK⟩ := z_after [] hB ht hvm hP hD hK [0, 1] [] rfl rfl (by decide) (by decide) hk1 hFc
  generalize H1 = H at hP hS ⊢
  have hP : va_P (dC, dI) vwCl [] H := hP
  have hD : va_D A [] := hD
  have hK : va_K (dC, dI) vwCl [(cm_courts, .int)] s := hK
  obtain rfl : r_12 = (-2) := hw
  refine lv_icmp_eq (tgt := 2651) hx hb dL_law_2398 (by decide) (fun _ => ?_) (fun q => absurd q (by decide))
  exact law_tail C0 hA2 (Nat.le_of_ble_eq_true rfl) (Nat.le_of_ble_eq_true rfl) hS (lv_sub hl [0, 3] rfl)
set_option maxHeartbeats 4000000 in
set_option maxRecDepth 100000 in
theorem law_count {p : Program} {e : Env} {s : State} {m : MethodId} {below : List Frame} {meth : Method} {c : Code} {l : Launch} {b : Nat} {xs : Nat → Int32} (C0 : lw_At p s m meth c b 6 xs) {dC : Nat → ClassId} {dI : Nat → Nat → Nat} {A : Nat → Prop} (hA : ∀ q, s.heap.size ≤ q → A q) (hA2 : ∀ q, A q → s.heap.size ≤ q) {h0 : Nat} {tp : Nat} {nw : Nat} {im : Nat} {sl : Nat} {rd : Nat} {wk : Nat} {fm : Nat} {mt : Nat} {ch : Nat} {dy : Nat} {tn : Nat} {ta0 : Nat} {ta1 : Nat} {ta2 : Nat} {ta3 : Nat} {ta4 : Nat} {ta5 : Nat} {ta6 : Nat} {ta7 : Nat} {ta8 : Nat} {ta9 : Nat} {cA_sl : ClassId} {f_sl : Nat → Option Nat} {r0 : Nat} {r1 : Nat} {r2 : Nat} {r3 : Nat} {n0 : Nat} {n1 : Nat} {n2 : Nat} {n3 : Nat} {m0 : Nat} {m_width : Nat} {m_many : Nat} {m_cells : Nat} {m_moved : Nat} {m_tape : Nat} {m_lines : Nat} {m_hours : Nat} {m_courts : Nat} {m_in : Nat} {m_gates : Nat} {m_gate : Nat} {m_people : Nat} {m_at0 : Nat} {m_stray : Nat} {m_set : Nat} {m_once : Nat} {m_truth : Nat} {m_known : Nat} {m_isKept : Nat} {m_inside : Nat} {m_can : Nat} {m_fewest : Nat} {m_waysTo : Nat} {m_then : Nat} {m_two : Nat} {m_nextTwo : Nat} {m_three : Nat} {m_nextThree : Nat} {m_worth : Nat} {m_digit : Nat} {cm_width : ClassId} {f_width : Nat → Int32} {cm_lines : ClassId} {cm_hours : ClassId} {cm_courts : ClassId} {cm_gates : ClassId} {cm_people : ClassId} {cm_set : ClassId} (hsl0 : f_sl 0 = some r0) (hsl1 : f_sl 1 = some r1) (hsl2 : f_sl 2 = some r2) (hsl3 : f_sl 3 = some r3) (hfw0 : f_width 0 = (-1)) (hfw1 : f_width 1 = (-1)) (hfw2 : f_width 2 = (-1)) (hfw3 : f_width 3 = (-1)) {H : Heap} {locs : List Loc} {ls : Array Slot} (hP : va_P (dC, dI) vwCl [(h0, .inr (9, [.ref tp, .int 0, .int 0, .int (-1), .ref nw, .ref im, .ref sl, .ref rd, .ref wk, .ref fm, .ref mt, .ref ch, .ref dy])), (nw, .inr (3, [.int 0, .ref tn, .int 0, .int 0, .int 0, .int 0])), (tn, .inr (7, [.int 0, .int 0, .int 0, .int 0, .int 0, .int 0, .int 0, .int 0, .ref ta0, .ref ta1, .ref ta2, .ref ta3, .ref ta4, .ref ta5, .ref ta6, .ref ta7, .ref ta8, .ref ta9])), (sl, .inl (cA_sl, 4, .inr (.inr (.inr (.inr f_sl))))), (r0, .inr (6, [.int (-1), .int 0, .ref n0])), (r1, .inr (6, [.int (-1), .int 0, .ref n1])), (r2, .inr (6, [.int (-1), .int 0, .ref n2])), (r3, .inr (6, [.int (-1), .int 0, .ref n3])), (m0, .inr (10, [.int 0, .ref m_width, .ref m_many, .ref m_cells, .ref m_moved, .ref m_tape, .int 0, .int 0, .int 0, .int 0, .int 0, .long 0, .int 0, .int 0, .int 0, .int (-1), .ref m_lines, .ref m_hours, .ref m_courts, .ref m_in, .ref m_gates, .ref m_gate, .ref m_people, .ref m_at0, .ref m_stray, .ref m_set, .ref m_once, .ref m_truth, .ref m_known, .ref m_isKept, .int 0, .int (-1), .int 0, .int 0, .ref m_inside, .ref m_can, .ref m_fewest, .ref m_waysTo, .ref m_then, .ref m_two, .ref m_nextTwo, .ref m_three, .ref m_nextThree, .int (-1), .ref m_worth, .ref m_digit, .int 0, .long 0, .int 0, .int 0, .int 0, .int 0, .long 0])), (m_width, .inl (cm_width, 4, .inl f_width)), (m_lines, .inl (cm_lines, 5, .inl (fun _ => 0))), (m_hours, .inl (cm_hours, 5, .inl (fun _ => 0))), (m_courts, .inl (cm_courts, 5, .inl (fun _ => 0))), (m_gates, .inl (cm_gates, 5, .inl (fun _ => 0))), (m_people, .inl (cm_people, 5, .inl (fun _ => 0))), (m_set, .inl (cm_set, 10, .inl (fun _ => 0)))] H) (hD : va_D A [(h0, .inr (9, [.ref tp, .int 0, .int 0, .int (-1), .ref nw, .ref im, .ref sl, .ref rd, .ref wk, .ref fm, .ref mt, .ref ch, .ref dy])), (nw, .inr (3, [.int 0, .ref tn, .int 0, .int 0, .int 0, .int 0])), (tn, .inr (7, [.int 0, .int 0, .int 0, .int 0, .int 0, .int 0, .int 0, .int 0, .ref ta0, .ref ta1, .ref ta2, .ref ta3, .ref ta4, .ref ta5, .ref ta6, .ref ta7, .ref ta8, .ref ta9])), (sl, .inl (cA_sl, 4, .inr (.inr (.inr (.inr f_sl))))), (r0, .inr (6, [.int (-1), .int 0, .ref n0])), (r1, .inr (6, [.int (-1), .int 0, .ref n1])), (r2, .inr (6, [.int (-1), .int 0, .ref n2])), (r3, .inr (6, [.int (-1), .int 0, .ref n3])), (m0, .inr (10, [.int 0, .ref m_width, .ref m_many, .ref m_cells, .ref m_moved, .ref m_tape, .int 0, .int 0, .int 0, .int 0, .int 0, .long 0, .int 0, .int 0, .int 0, .int (-1), .ref m_lines, .ref m_hours, .ref m_courts, .ref m_in, .ref m_gates, .ref m_gate, .ref m_people, .ref m_at0, .ref m_stray, .ref m_set, .ref m_once, .ref m_truth, .ref m_known, .ref m_isKept, .int 0, .int (-1), .int 0, .int 0, .ref m_inside, .ref m_can, .ref m_fewest, .ref m_waysTo, .ref m_then, .ref m_two, .ref m_nextTwo, .ref m_three, .ref m_nextThree, .int (-1), .ref m_worth, .ref m_digit, .int 0, .long 0, .int 0, .int 0, .int 0, .int 0, .long 0])), (m_width, .inl (cm_width, 4, .inl f_width)), (m_lines, .inl (cm_lines, 5, .inl (fun _ => 0))), (m_hours, .inl (cm_hours, 5, .inl (fun _ => 0))), (m_courts, .inl (cm_courts, 5, .inl (fun _ => 0))), (m_gates, .inl (cm_gates, 5, .inl (fun _ => 0))), (m_people, .inl (cm_people, 5, .inl (fun _ => 0))), (m_set, .inl (cm_set, 10, .inl (fun _ => 0)))]) (hK : va_K (dC, dI) vwCl [(cA_sl, .object RX6), (cm_width, .int), (cm_lines, .int), (cm_hours, .int), (cm_courts, .int), (cm_gates, .int), (cm_people, .int), (cm_set, .int)] s) (hS : va_S A s.heap H locs) (hl : lv_has ls 4 [(3, .int 0), (2, .ref m0), (1, .ref h0), (0, .ref b)]) : W p l e room_1 s m #[Value.ref b] below meth c H locs 166 101284 (lw_Z below #[Value.ref b] s) (F0 m 2403 ls []) := by
  obtain ⟨hx, hb, hr, hml, hown, hts, hX, hbl, hlocks, hgv⟩ := id C0
  have hown : s.vm.findClass RL = some m.cls := hown
  have hb : c.code = cL_law := hb
  have hts : ∀ w ∈ zT, w.before #[Value.ref b] s = true := fun w h => hts w (zT_in w h)
  have hbA : ¬ A b := fun q => absurd (hA2 b q) (Nat.not_le.mpr hbl)
  refine lv_aload_n hx hb dL_law_2403 rfl (lv_at hl 2 rfl) ?_
  refine lv_aload_n hx hb dL_law_2404 rfl (lv_at hl 3 rfl) ?_
  refine lv_iload_n hx hb dL_law_2405 rfl (lv_at hl 0 rfl) ?_
  refine lv_iconst (v := 1) hx hb dL_law_2406 (by decide) ?_
  refine lv_iadd hx hb dL_law_2407 ?_
  refine lv_topi (fun x_1 ex_1 => ?_)
  obtain rfl : x_1 = 1 := ex_1.trans (by decide)
  refine va_sld hx hb hX hbl hbA hS (z_inC _ (k := 1) (by decide) (by decide)) dL_law_2408 ?_
  have hPc := hP.sub (ws' := [(h0, .inr (9, [.ref tp, .int 0, .int 0, .int (-1), .ref nw, .ref im, .ref sl, .ref rd, .ref wk, .ref fm, .ref mt, .ref ch, .ref dy])), (nw, .inr (3, [.int 0, .ref tn, .int 0, .int 0, .int 0, .int 0])), (tn, .inr (7, [.int 0, .int 0, .int 0, .int 0, .int 0, .int 0, .int 0, .int 0, .ref ta0, .ref ta1, .ref ta2, .ref ta3, .ref ta4, .ref ta5, .ref ta6, .ref ta7, .ref ta8, .ref ta9])), (sl, .inl (cA_sl, 4, .inr (.inr (.inr (.inr f_sl))))), (r0, .inr (6, [.int (-1), .int 0, .ref n0])), (r1, .inr (6, [.int (-1), .int 0, .ref n1])), (r2, .inr (6, [.int (-1), .int 0, .ref n2])), (r3, .inr (6, [.int (-1), .int 0, .ref n3]))]) [0, 1, 2, 3, 4, 5, 6, 7] rfl
  have hDc := hD.sub (ws' := [(h0, .inr (9, [.ref tp, .int 0, .int 0, .int (-1), .ref nw, .ref im, .ref sl, .ref rd, .ref wk, .ref fm, .ref mt, .ref ch, .ref dy])), (nw, .inr (3, [.int 0, .ref tn, .int 0, .int 0, .int 0, .int 0])), (tn, .inr (7, [.int 0, .int 0, .int 0, .int 0, .int 0, .int 0, .int 0, .int 0, .ref ta0, .ref ta1, .ref ta2, .ref ta3, .ref ta4, .ref ta5, .ref ta6, .ref ta7, .ref ta8, .ref ta9])), (sl, .inl (cA_sl, 4, .inr (.inr (.inr (.inr f_sl))))), (r0, .inr (6, [.int (-1), .int 0, .ref n0])), (r1, .inr (6, [.int (-1), .int 0, .ref n1])), (r2, .inr (6, [.int (-1), .int 0, .ref n2])), (r3, .inr (6, [.int (-1), .int 0, .ref n3]))]) [0, 1, 2, 3, 4, 5, 6, 7] (by decide) rfl
  have hKc := hK.sub (tys' := [(cA_sl, .object RX6)]) [0] rfl
  have hFc := va_free (wc := [(h0, .inr (9, [.ref tp, .int 0, .int 0, .int (-1), .ref nw, .ref im, .ref sl, .ref rd, .ref wk, .ref fm, .ref mt, .ref ch, .ref dy])), (nw, .inr (3, [.int 0, .ref tn, .int 0, .int 0, .int 0, .int 0])), (tn, .inr (7, [.int 0, .int 0, .int 0, .int 0, .int 0, .int 0, .int 0, .int 0, .ref ta0, .ref ta1, .ref ta2, .ref ta3, .ref ta4, .ref ta5, .ref ta6, .ref ta7, .ref ta8, .ref ta9])), (sl, .inl (cA_sl, 4, .inr (.inr (.inr (.inr f_sl))))), (r0, .inr (6, [.int (-1), .int 0, .ref n0])), (r1, .inr (6, [.int (-1), .int 0, .ref n1])), (r2, .inr (6, [.int (-1), .int 0, .ref n2])), (r3, .inr (6, [.int (-1), .int 0, .ref n3]))]) hD hS hA [0, 1, 2, 3, 4, 5, 6, 7] rfl
  refine va_calli (va_runV (As := [.int (xs (Int32.toNatClampNeg 1))]) (rest := []) ⟨hx, hb, hml, hown, hts⟩ (k_X9_count l dC dI h0 (xs (Int32.toNatClampNeg 1)) tp nw im sl rd wk fm mt ch dy tn ta0 ta1 ta2 ta3 ta4 ta5 ta6 ta7 ta8 ta9 cA_sl f_sl r0 r1 r2 r3 n0 n1 n2 n3 hsl0 hsl1 hsl2 hsl3 H.size) (cwV 1 hts (z_gV zw_t6_44 zw_t6_45 zw_t6_46 zw_t1_1 zw_t6_47) rfl rfl rfl (by decide +kernel) ⟨(Nat.le_of_ble_eq_true rfl), (Nat.le_of_ble_eq_true rfl)⟩) (z_preV hPc hKc hDc (ci := 9) (q0 := 0) rfl rfl) rfl rfl hl.1 rfl (lv_room (Nat.le_of_ble_eq_true rfl)) dL_law_2409 ⟨(Nat.le_of_ble_eq_true rfl), (Nat.le_of_ble_eq_true rfl)⟩) hS (fun q _ h => hFc q h) hFc (fun r_2 u t H1 locs ht hvm hw hB hz1 hk1 hS => ?_)
  have hB : zW dC dI [] [] (va_A [(h0, .inr (9, [.ref tp, .int 0, .int 0, .int (-1), .ref nw, .ref im, .ref sl, .ref rd, .ref wk, .ref fm, .ref mt, .ref ch, .ref dy])), (nw, .inr (3, [.int 0, .ref tn, .int 0, .int 0, .int 0, .int 0])), (tn, .inr (7, [.int 0, .int 0, .int 0, .int 0, .int 0, .int 0, .int 0, .int 0, .ref ta0, .ref ta1, .ref ta2, .ref ta3, .ref ta4, .ref ta5, .ref ta6, .ref ta7, .ref ta8, .ref ta9])), (sl, .inl (cA_sl, 4, .inr (.inr (.inr (.inr f_sl))))), (r0, .inr (6, [.int (-1), .int 0, .ref n0])), (r1, .inr (6, [.int (-1), .int 0, .ref n1])), (r2, .inr (6, [.int (-1), .int 0, .ref n2])), (r3, .inr (6, [.int (-1), .int 0, .ref n3]))] H.size) t := z_none (va_K.moved hvm hK)
  obtain ⟨hP, hD, hK⟩ := z_after [(m0, .inr (10, [.int 0, .ref m_width, .ref m_many, .ref m_cells, .ref m_moved, .ref m_tape, .int 0, .int 0, .int 0, .int 0, .int 0, .long 0, .int 0, .int 0, .int 0, .int (-1), .ref m_lines, .ref m_hours, .ref m_courts, .ref m_in, .ref m_gates, .ref m_gate, .ref m_people, .ref m_at0, .ref m_stray, .ref m_set, .ref m_once, .ref m_truth, .ref m_known, .ref m_isKept, .int 0, .int (-1), .int 0, .int 0, .ref m_inside, .ref m_can, .ref m_fewest, .ref m_waysTo, .ref m_then, .ref m_two, .ref m_nextTwo, .ref m_three, .ref m_nextThree, .int (-1), .ref m_worth, .ref m_digit, .int 0, .long 0, .int 0, .int 0, .int 0, .int 0, .long 0])), (m_width, .inl (cm_width, 4, .inl f_width)), (m_lines, .inl (cm_lines, 5, .inl (fun _ => 0))), (m_hours, .inl (cm_hours, 5, .inl (fun _ => 0))), (m_courts, .inl (cm_courts, 5, .inl (fun _ => 0))), (m_gates, .inl (cm_gates, 5, .inl (fun _ => 0))), (m_people, .inl (cm_people, 5, .inl (fun _ => 0))), (m_set, .inl (cm_set, 10, .inl (fun _ => 0)))] hB ht hvm hP hD hK [0, 1, 2, 3, 4, 5, 6, 7] [8, 9, 10, 11, 12, 13, 14, 15] rfl rfl (by decide) (by decide) hk1 hFc
  generalize H1 = H at hP hS ⊢
  have hP : va_P (dC, dI) vwCl [(m0, .inr (10, [.int 0, .ref m_width, .ref m_many, .ref m_cells, .ref m_moved, .ref m_tape, .int 0, .int 0, .int 0, .int 0, .int 0, .long 0, .int 0, .int 0, .int 0, .int (-1), .ref m_lines, .ref m_hours, .ref m_courts, .ref m_in, .ref m_gates, .ref m_gate, .ref m_people, .ref m_at0, .ref m_stray, .ref m_set, .ref m_once, .ref m_truth, .ref m_known, .ref m_isKept, .int 0, .int (-1), .int 0, .int 0, .ref m_inside, .ref m_can, .ref m_fewest, .ref m_waysTo, .ref m_then, .ref m_two, .ref m_nextTwo, .ref m_three, .ref m_nextThree, .int (-1), .ref m_worth, .ref m_digit, .int 0, .long 0, .int 0, .int 0, .int 0, .int 0, .long 0])), (m_width, .inl (cm_width, 4, .inl f_width)), (m_lines, .inl (cm_lines, 5, .inl (fun _ => 0))), (m_hours, .inl (cm_hours, 5, .inl (fun _ => 0))), (m_courts, .inl (cm_courts, 5, .inl (fun _ => 0))), (m_gates, .inl (cm_gates, 5, .inl (fun _ => 0))), (m_people, .inl (cm_people, 5, .inl (fun _ => 0))), (m_set, .inl (cm_set, 10, .inl (fun _ => 0)))] H := hP
  have hD : va_D A [(m0, .inr (10, [.int 0, .ref m_width, .ref m_many, .ref m_cells, .ref m_moved, .ref m_tape, .int 0, .int 0, .int 0, .int 0, .int 0, .long 0, .int 0, .int 0, .int 0, .int (-1), .ref m_lines, .ref m_hours, .ref m_courts, .ref m_in, .ref m_gates, .ref m_gate, .ref m_people, .ref m_at0, .ref m_stray, .ref m_set, .ref m_once, .ref m_truth, .ref m_known, .ref m_isKept, .int 0, .int (-1), .int 0, .int 0, .ref m_inside, .ref m_can, .ref m_fewest, .ref m_waysTo, .ref m_then, .ref m_two, .ref m_nextTwo, .ref m_three, .ref m_nextThree, .int (-1), .ref m_worth, .ref m_digit, .int 0, .long 0, .int 0, .int 0, .int 0, .int 0, .long 0])), (m_width, .inl (cm_width, 4, .inl f_width)), (m_lines, .inl (cm_lines, 5, .inl (fun _ => 0))), (m_hours, .inl (cm_hours, 5, .inl (fun _ => 0))), (m_courts, .inl (cm_courts, 5, .inl (fun _ => 0))), (m_gates, .inl (cm_gates, 5, .inl (fun _ => 0))), (m_people, .inl (cm_people, 5, .inl (fun _ => 0))), (m_set, .inl (cm_set, 10, .inl (fun _ => 0)))] := hD
  have hK : va_K (dC, dI) vwCl [(cA_sl, .object RX6), (cm_width, .int), (cm_lines, .int), (cm_hours, .int), (cm_courts, .int), (cm_gates, .int), (cm_people, .int), (cm_set, .int)] s := hK
  have hw_r_2 := hw
  refine lv_aload_n hx hb dL_law_2412 rfl (lv_at hl 1 rfl) ?_
  refine lv_aload_n hx hb dL_law_2413 rfl (lv_at hl 3 rfl) ?_
  refine lv_iload_n hx hb dL_law_2414 rfl (lv_at hl 0 rfl) ?_
  refine lv_iconst (v := 1) hx hb dL_law_2415 (by decide) ?_
  refine lv_iadd hx hb dL_law_2416 ?_
  refine lv_topi (fun x_3 ex_3 => ?_)
  obtain rfl : x_3 = 1 := ex_3.trans (by decide)
  refine va_sld hx hb hX hbl hbA hS (z_inC _ (k := 1) (by decide) (by decide)) dL_law_2417 ?_
  have hPc := hP.sub (ws' := [(m0, .inr (10, [.int 0, .ref m_width, .ref m_many, .ref m_cells, .ref m_moved, .ref m_tape, .int 0, .int 0, .int 0, .int 0, .int 0, .long 0, .int 0, .int 0, .int 0, .int (-1), .ref m_lines, .ref m_hours, .ref m_courts, .ref m_in, .ref m_gates, .ref m_gate, .ref m_people, .ref m_at0, .ref m_stray, .ref m_set, .ref m_once, .ref m_truth, .ref m_known, .ref m_isKept, .int 0, .int (-1), .int 0, .int 0, .ref m_inside, .ref m_can, .ref m_fewest, .ref m_waysTo, .ref m_then, .ref m_two, .ref m_nextTwo, .ref m_three, .ref m_nextThree, .int (-1), .ref m_worth, .ref m_digit, .int 0, .long 0, .int 0, .int 0, .int 0, .int 0, .long 0])), (m_width, .inl (cm_width, 4, .inl f_width)), (m_lines, .inl (cm_lines, 5, .inl (fun _ => 0))), (m_hours, .inl (cm_hours, 5, .inl (fun _ => 0))), (m_courts, .inl (cm_courts, 5, .inl (fun _ => 0))), (m_gates, .inl (cm_gates, 5, .inl (fun _ => 0))), (m_people, .inl (cm_people, 5, .inl (fun _ => 0))), (m_set, .inl (cm_set, 10, .inl (fun _ => 0)))]) [0, 1, 2, 3, 4, 5, 6, 7] rfl
  have hDc := hD.sub (ws' := [(m0, .inr (10, [.int 0, .ref m_width, .ref m_many, .ref m_cells, .ref m_moved, .ref m_tape, .int 0, .int 0, .int 0, .int 0, .int 0, .long 0, .int 0, .int 0, .int 0, .int (-1), .ref m_lines, .ref m_hours, .ref m_courts, .ref m_in, .ref m_gates, .ref m_gate, .ref m_people, .ref m_at0, .ref m_stray, .ref m_set, .ref m_once, .ref m_truth, .ref m_known, .ref m_isKept, .int 0, .int (-1), .int 0, .int 0, .ref m_inside, .ref m_can, .ref m_fewest, .ref m_waysTo, .ref m_then, .ref m_two, .ref m_nextTwo, .ref m_three, .ref m_nextThree, .int (-1), .ref m_worth, .ref m_digit, .int 0, .long 0, .int 0, .int 0, .int 0, .int 0, .long 0])), (m_width, .inl (cm_width, 4, .inl f_width)), (m_lines, .inl (cm_lines, 5, .inl (fun _ => 0))), (m_hours, .inl (cm_hours, 5, .inl (fun _ => 0))), (m_courts, .inl (cm_courts, 5, .inl (fun _ => 0))), (m_gates, .inl (cm_gates, 5, .inl (fun _ => 0))), (m_people, .inl (cm_people, 5, .inl (fun _ => 0))), (m_set, .inl (cm_set, 10, .inl (fun _ => 0)))]) [0, 1, 2, 3, 4, 5, 6, 7] (by decide) rfl
  have hKc := hK.sub (tys' := [(cm_width, .int), (cm_lines, .int), (cm_hours, .int), (cm_courts, .int), (cm_gates, .int), (cm_people, .int), (cm_set, .int)]) [1, 2, 3, 4, 5, 6, 7] rfl
  have hFc := va_free (wc := [(m0, .inr (10, [.int 0, .ref m_width, .ref m_many, .ref m_cells, .ref m_moved, .ref m_tape, .int 0, .int 0, .int 0, .int 0, .int 0, .long 0, .int 0, .int 0, .int 0, .int (-1), .ref m_lines, .ref m_hours, .ref m_courts, .ref m_in, .ref m_gates, .ref m_gate, .ref m_people, .ref m_at0, .ref m_stray, .ref m_set, .ref m_once, .ref m_truth, .ref m_known, .ref m_isKept, .int 0, .int (-1), .int 0, .int 0, .ref m_inside, .ref m_can, .ref m_fewest, .ref m_waysTo, .ref m_then, .ref m_two, .ref m_nextTwo, .ref m_three, .ref m_nextThree, .int (-1), .ref m_worth, .ref m_digit, .int 0, .long 0, .int 0, .int 0, .int 0, .int 0, .long 0])), (m_width, .inl (cm_width, 4, .inl f_width)), (m_lines, .inl (cm_lines, 5, .inl (fun _ => 0))), (m_hours, .inl (cm_hours, 5, .inl (fun _ => 0))), (m_courts, .inl (cm_courts, 5, .inl (fun _ => 0))), (m_gates, .inl (cm_gates, 5, .inl (fun _ => 0))), (m_people, .inl (cm_people, 5, .inl (fun _ => 0))), (m_set, .inl (cm_set, 10, .inl (fun _ => 0)))]) hD hS hA [0, 1, 2, 3, 4, 5, 6, 7] rfl
  refine va_calli (va_runV (As := [.int (xs (Int32.toNatClampNeg 1))]) (rest := [.int r_2]) ⟨hx, hb, hml, hown, hts⟩ (k_X10_count l dC dI m0 (xs (Int32.toNatClampNeg 1)) m_width m_many m_cells m_moved m_tape m_lines m_hours m_courts m_in m_gates m_gate m_people m_at0 m_stray m_set m_once m_truth m_known m_isKept m_inside m_can m_fewest m_waysTo m_then m_two m_nextTwo m_three m_nextThree m_worth m_digit cm_width f_width cm_lines cm_hours cm_courts cm_gates cm_people cm_set hfw0 hfw1 hfw2 hfw3 H.size) (cwV 1 hts (z_gV zw_t9_76 zw_t9_77 zw_t9_78 zw_t1_11 zw_t9_79) rfl rfl rfl (by decide +kernel) ⟨(Nat.le_of_ble_eq_true rfl), (Nat.le_of_ble_eq_true rfl)⟩) (z_preV hPc hKc hDc (ci := 10) (q0 := 0) rfl rfl) rfl rfl hl.1 rfl (lv_room (Nat.le_of_ble_eq_true rfl)) dL_law_2418 ⟨(Nat.le_of_ble_eq_true rfl), (Nat.le_of_ble_eq_true rfl)⟩) hS (fun q _ h => hFc q h) hFc (fun r_4 u t H1 locs ht hvm hw hB hz1 hk1 hS => ?_)
  have hB : zW dC dI [] [] (va_A [(m0, .inr (10, [.int 0, .ref m_width, .ref m_many, .ref m_cells, .ref m_moved, .ref m_tape, .int 0, .int 0, .int 0, .int 0, .int 0, .long 0, .int 0, .int 0, .int 0, .int (-1), .ref m_lines, .ref m_hours, .ref m_courts, .ref m_in, .ref m_gates, .ref m_gate, .ref m_people, .ref m_at0, .ref m_stray, .ref m_set, .ref m_once, .ref m_truth, .ref m_known, .ref m_isKept, .int 0, .int (-1), .int 0, .int 0, .ref m_inside, .ref m_can, .ref m_fewest, .ref m_waysTo, .ref m_then, .ref m_two, .ref m_nextTwo, .ref m_three, .ref m_nextThree, .int (-1), .ref m_worth, .ref m_digit, .int 0, .long 0, .int 0, .int 0, .int 0, .int 0, .long 0])), (m_width, .inl (cm_width, 4, .inl f_width)), (m_lines, .inl (cm_lines, 5, .inl (fun _ => 0))), (m_hours, .inl (cm_hours, 5, .inl (fun _ => 0))), (m_courts, .inl (cm_courts, 5, .inl (fun _ => 0))), (m_gates, .inl (cm_gates, 5, .inl (fun _ => 0))), (m_people, .inl (cm_people, 5, .inl (fun _ => 0))), (m_set, .inl (cm_set, 10, .inl (fun _ => 0)))] H.size) t := z_none (va_K.moved hvm hK)
  obtain ⟨hP, hD, hK⟩ := z_after [] hB ht hvm hP hD hK [0, 1, 2, 3, 4, 5, 6, 7] [] rfl rfl (by decide) (by decide) hk1 hFc
  generalize H1 = H at hP hS ⊢
  have hP : va_P (dC, dI) vwCl [] H := hP
  have hD : va_D A [] := hD
  have hK : va_K (dC, dI) vwCl [(cA_sl, .object RX6), (cm_width, .int), (cm_lines, .int), (cm_hours, .int), (cm_courts, .int), (cm_gates, .int), (cm_people, .int), (cm_set, .int)] s := hK
  have hw_r_4 := hw
  refine lv_icmp_eq (tgt := 2651) hx hb dL_law_2421 (by decide) (fun _ => ?_) (fun q => absurd (Eq.trans hw_r_2 (Eq.symm hw_r_4)) q)
  exact law_tail C0 hA2 (Nat.le_of_ble_eq_true rfl) (Nat.le_of_ble_eq_true rfl) hS (lv_sub hl [0, 3] rfl)
set_option maxHeartbeats 4000000 in
set_option maxRecDepth 100000 in
theorem law_keep {p : Program} {e : Env} {s : State} {m : MethodId} {below : List Frame} {meth : Method} {c : Code} {l : Launch} {b : Nat} {xs : Nat → Int32} (C0 : lw_At p s m meth c b 6 xs) {dC : Nat → ClassId} {dI : Nat → Nat → Nat} {A : Nat → Prop} (hA : ∀ q, s.heap.size ≤ q → A q) (hA2 : ∀ q, A q → s.heap.size ≤ q) {h0 : Nat} {tp : Nat} {nw : Nat} {im : Nat} {sl : Nat} {rd : Nat} {wk : Nat} {fm : Nat} {mt : Nat} {ch : Nat} {dy : Nat} {tn : Nat} {cA_im : ClassId} {f_im : Nat → Option Nat} {i0 : Nat} {i1 : Nat} {i2 : Nat} {it0 : Nat} {it1 : Nat} {it2 : Nat} {m0 : Nat} {m_width : Nat} {m_many : Nat} {m_cells : Nat} {m_moved : Nat} {m_tape : Nat} {m_lines : Nat} {m_hours : Nat} {m_courts : Nat} {m_in : Nat} {m_gates : Nat} {m_gate : Nat} {m_people : Nat} {m_at0 : Nat} {m_stray : Nat} {m_set : Nat} {m_once : Nat} {m_truth : Nat} {m_known : Nat} {m_isKept : Nat} {m_inside : Nat} {m_can : Nat} {m_fewest : Nat} {m_waysTo : Nat} {m_then : Nat} {m_two : Nat} {m_nextTwo : Nat} {m_three : Nat} {m_nextThree : Nat} {m_worth : Nat} {m_digit : Nat} {cm_lines : ClassId} {cm_hours : ClassId} {cm_courts : ClassId} {cm_in : ClassId} {cm_gates : ClassId} {cm_gate : ClassId} {cm_people : ClassId} {cm_at0 : ClassId} {cm_stray : ClassId} {cm_set : ClassId} {cm_truth : ClassId} {cm_known : ClassId} {cm_isKept : ClassId} (him0 : f_im 0 = some i0) (him1 : f_im 1 = some i1) (him2 : f_im 2 = some i2) {H : Heap} {locs : List Loc} {ls : Array Slot} (hP : va_P (dC, dI) vwCl [(h0, .inr (9, [.ref tp, .int 0, .int 0, .int (-1), .ref nw, .ref im, .ref sl, .ref rd, .ref wk, .ref fm, .ref mt, .ref ch, .ref dy])), (nw, .inr (3, [.int 0, .ref tn, .int 0, .int 0, .int 0, .int 0])), (im, .inl (cA_im, 3, .inr (.inr (.inr (.inr f_im))))), (i0, .inr (3, [.int 0, .ref it0, .int 0, .int 0, .int 0, .int 0])), (i1, .inr (3, [.int 0, .ref it1, .int 0, .int 0, .int 0, .int 0])), (i2, .inr (3, [.int 0, .ref it2, .int 0, .int 0, .int 0, .int 0])), (m0, .inr (10, [.int 0, .ref m_width, .ref m_many, .ref m_cells, .ref m_moved, .ref m_tape, .int 0, .int 0, .int 0, .int 0, .int 0, .long 0, .int 0, .int 0, .int 0, .int (-1), .ref m_lines, .ref m_hours, .ref m_courts, .ref m_in, .ref m_gates, .ref m_gate, .ref m_people, .ref m_at0, .ref m_stray, .ref m_set, .ref m_once, .ref m_truth, .ref m_known, .ref m_isKept, .int 0, .int (-1), .int 0, .int 0, .ref m_inside, .ref m_can, .ref m_fewest, .ref m_waysTo, .ref m_then, .ref m_two, .ref m_nextTwo, .ref m_three, .ref m_nextThree, .int (-1), .ref m_worth, .ref m_digit, .int 0, .long 0, .int 0, .int 0, .int 0, .int 0, .long 0])), (m_lines, .inl (cm_lines, 5, .inl (fun _ => 0))), (m_hours, .inl (cm_hours, 5, .inl (fun _ => 0))), (m_courts, .inl (cm_courts, 5, .inl (fun _ => 0))), (m_in, .inl (cm_in, 50, .inl (fun _ => 0))), (m_gates, .inl (cm_gates, 5, .inl (fun _ => 0))), (m_gate, .inl (cm_gate, 160, .inl (fun _ => 0))), (m_people, .inl (cm_people, 5, .inl (fun _ => 0))), (m_at0, .inl (cm_at0, 2400, .inl (fun _ => 0))), (m_stray, .inl (cm_stray, 100, .inl (fun _ => 0))), (m_set, .inl (cm_set, 10, .inl (fun _ => 0))), (m_truth, .inl (cm_truth, 10, .inl (fun _ => 0))), (m_known, .inl (cm_known, 50, .inl (fun _ => 0))), (m_isKept, .inl (cm_isKept, 3, .inl (fun _ => 0)))] H) (hD : va_D A [(h0, .inr (9, [.ref tp, .int 0, .int 0, .int (-1), .ref nw, .ref im, .ref sl, .ref rd, .ref wk, .ref fm, .ref mt, .ref ch, .ref dy])), (nw, .inr (3, [.int 0, .ref tn, .int 0, .int 0, .int 0, .int 0])), (im, .inl (cA_im, 3, .inr (.inr (.inr (.inr f_im))))), (i0, .inr (3, [.int 0, .ref it0, .int 0, .int 0, .int 0, .int 0])), (i1, .inr (3, [.int 0, .ref it1, .int 0, .int 0, .int 0, .int 0])), (i2, .inr (3, [.int 0, .ref it2, .int 0, .int 0, .int 0, .int 0])), (m0, .inr (10, [.int 0, .ref m_width, .ref m_many, .ref m_cells, .ref m_moved, .ref m_tape, .int 0, .int 0, .int 0, .int 0, .int 0, .long 0, .int 0, .int 0, .int 0, .int (-1), .ref m_lines, .ref m_hours, .ref m_courts, .ref m_in, .ref m_gates, .ref m_gate, .ref m_people, .ref m_at0, .ref m_stray, .ref m_set, .ref m_once, .ref m_truth, .ref m_known, .ref m_isKept, .int 0, .int (-1), .int 0, .int 0, .ref m_inside, .ref m_can, .ref m_fewest, .ref m_waysTo, .ref m_then, .ref m_two, .ref m_nextTwo, .ref m_three, .ref m_nextThree, .int (-1), .ref m_worth, .ref m_digit, .int 0, .long 0, .int 0, .int 0, .int 0, .int 0, .long 0])), (m_lines, .inl (cm_lines, 5, .inl (fun _ => 0))), (m_hours, .inl (cm_hours, 5, .inl (fun _ => 0))), (m_courts, .inl (cm_courts, 5, .inl (fun _ => 0))), (m_in, .inl (cm_in, 50, .inl (fun _ => 0))), (m_gates, .inl (cm_gates, 5, .inl (fun _ => 0))), (m_gate, .inl (cm_gate, 160, .inl (fun _ => 0))), (m_people, .inl (cm_people, 5, .inl (fun _ => 0))), (m_at0, .inl (cm_at0, 2400, .inl (fun _ => 0))), (m_stray, .inl (cm_stray, 100, .inl (fun _ => 0))), (m_set, .inl (cm_set, 10, .inl (fun _ => 0))), (m_truth, .inl (cm_truth, 10, .inl (fun _ => 0))), (m_known, .inl (cm_known, 50, .inl (fun _ => 0))), (m_isKept, .inl (cm_isKept, 3, .inl (fun _ => 0)))]) (hK : va_K (dC, dI) vwCl [(cA_im, .object RX3), (cm_lines, .int), (cm_hours, .int), (cm_courts, .int), (cm_in, .int), (cm_gates, .int), (cm_gate, .int), (cm_people, .int), (cm_at0, .int), (cm_stray, .int), (cm_set, .int), (cm_truth, .int), (cm_known, .int), (cm_isKept, .boolean)] s) (hS : va_S A s.heap H locs) (hl : lv_has ls 4 [(3, .int 0), (2, .ref m0), (1, .ref h0), (0, .ref b)]) : W p l e room_1 s m #[Value.ref b] below meth c H locs 166 101284 (lw_Z below #[Value.ref b] s) (F0 m 2426 ls []) := by
  obtain ⟨hx, hb, hr, hml, hown, hts, hX, hbl, hlocks, hgv⟩ := id C0
  have hown : s.vm.findClass RL = some m.cls := hown
  have hb : c.code = cL_law := hb
  have hts : ∀ w ∈ zT, w.before #[Value.ref b] s = true := fun w h => hts w (zT_in w h)
  have hbA : ¬ A b := fun q => absurd (hA2 b q) (Nat.not_le.mpr hbl)
  refine lv_aload_n hx hb dL_law_2426 rfl (lv_at hl 2 rfl) ?_
  refine lv_aload_n hx hb dL_law_2427 rfl (lv_at hl 3 rfl) ?_
  refine lv_iload_n hx hb dL_law_2428 rfl (lv_at hl 0 rfl) ?_
  refine lv_iconst (v := 1) hx hb dL_law_2429 (by decide) ?_
  refine lv_iadd hx hb dL_law_2430 ?_
  refine lv_topi (fun x_1 ex_1 => ?_)
  obtain rfl : x_1 = 1 := ex_1.trans (by decide)
  refine va_sld hx hb hX hbl hbA hS (z_inC _ (k := 1) (by decide) (by decide)) dL_law_2431 ?_
  have hPc := hP.sub (ws' := [(h0, .inr (9, [.ref tp, .int 0, .int 0, .int (-1), .ref nw, .ref im, .ref sl, .ref rd, .ref wk, .ref fm, .ref mt, .ref ch, .ref dy])), (nw, .inr (3, [.int 0, .ref tn, .int 0, .int 0, .int 0, .int 0])), (im, .inl (cA_im, 3, .inr (.inr (.inr (.inr f_im))))), (i0, .inr (3, [.int 0, .ref it0, .int 0, .int 0, .int 0, .int 0])), (i1, .inr (3, [.int 0, .ref it1, .int 0, .int 0, .int 0, .int 0])), (i2, .inr (3, [.int 0, .ref it2, .int 0, .int 0, .int 0, .int 0]))]) [0, 1, 2, 3, 4, 5] rfl
  have hDc := hD.sub (ws' := [(h0, .inr (9, [.ref tp, .int 0, .int 0, .int (-1), .ref nw, .ref im, .ref sl, .ref rd, .ref wk, .ref fm, .ref mt, .ref ch, .ref dy])), (nw, .inr (3, [.int 0, .ref tn, .int 0, .int 0, .int 0, .int 0])), (im, .inl (cA_im, 3, .inr (.inr (.inr (.inr f_im))))), (i0, .inr (3, [.int 0, .ref it0, .int 0, .int 0, .int 0, .int 0])), (i1, .inr (3, [.int 0, .ref it1, .int 0, .int 0, .int 0, .int 0])), (i2, .inr (3, [.int 0, .ref it2, .int 0, .int 0, .int 0, .int 0]))]) [0, 1, 2, 3, 4, 5] (by decide) rfl
  have hKc := hK.sub (tys' := [(cA_im, .object RX3)]) [0] rfl
  have hFc := va_free (wc := [(h0, .inr (9, [.ref tp, .int 0, .int 0, .int (-1), .ref nw, .ref im, .ref sl, .ref rd, .ref wk, .ref fm, .ref mt, .ref ch, .ref dy])), (nw, .inr (3, [.int 0, .ref tn, .int 0, .int 0, .int 0, .int 0])), (im, .inl (cA_im, 3, .inr (.inr (.inr (.inr f_im))))), (i0, .inr (3, [.int 0, .ref it0, .int 0, .int 0, .int 0, .int 0])), (i1, .inr (3, [.int 0, .ref it1, .int 0, .int 0, .int 0, .int 0])), (i2, .inr (3, [.int 0, .ref it2, .int 0, .int 0, .int 0, .int 0]))]) hD hS hA [0, 1, 2, 3, 4, 5] rfl
  refine va_calli (va_runV (As := [.int (xs (Int32.toNatClampNeg 1))]) (rest := []) ⟨hx, hb, hml, hown, hts⟩ (k_X9_keep l dC dI h0 (xs (Int32.toNatClampNeg 1)) tp nw im sl rd wk fm mt ch dy tn cA_im f_im i0 i1 i2 it0 it1 it2 him0 him1 him2 H.size) (cwV 1 hts (z_gV zw_t6_52 zw_t6_53 zw_t6_54 zw_t1_1 zw_t6_55) rfl rfl rfl (by decide +kernel) ⟨(Nat.le_of_ble_eq_true rfl), (Nat.le_of_ble_eq_true rfl)⟩) (z_preV hPc hKc hDc (ci := 9) (q0 := 0) rfl rfl) rfl rfl hl.1 rfl (lv_room (Nat.le_of_ble_eq_true rfl)) dL_law_2432 ⟨(Nat.le_of_ble_eq_true rfl), (Nat.le_of_ble_eq_true rfl)⟩) hS (fun q _ h => hFc q h) hFc (fun r_2 u t H1 locs ht hvm hw hB hz1 hk1 hS => ?_)
  have hB : zW dC dI [] [] (va_A [(h0, .inr (9, [.ref tp, .int 0, .int 0, .int (-1), .ref nw, .ref im, .ref sl, .ref rd, .ref wk, .ref fm, .ref mt, .ref ch, .ref dy])), (nw, .inr (3, [.int 0, .ref tn, .int 0, .int 0, .int 0, .int 0])), (im, .inl (cA_im, 3, .inr (.inr (.inr (.inr f_im))))), (i0, .inr (3, [.int 0, .ref it0, .int 0, .int 0, .int 0, .int 0])), (i1, .inr (3, [.int 0, .ref it1, .int 0, .int 0, .int 0, .int 0])), (i2, .inr (3, [.int 0, .ref it2, .int 0, .int 0, .int 0, .int 0]))] H.size) t := z_none (va_K.moved hvm hK)
  obtain ⟨hP, hD, hK⟩ := z_after [(m0, .inr (10, [.int 0, .ref m_width, .ref m_many, .ref m_cells, .ref m_moved, .ref m_tape, .int 0, .int 0, .int 0, .int 0, .int 0, .long 0, .int 0, .int 0, .int 0, .int (-1), .ref m_lines, .ref m_hours, .ref m_courts, .ref m_in, .ref m_gates, .ref m_gate, .ref m_people, .ref m_at0, .ref m_stray, .ref m_set, .ref m_once, .ref m_truth, .ref m_known, .ref m_isKept, .int 0, .int (-1), .int 0, .int 0, .ref m_inside, .ref m_can, .ref m_fewest, .ref m_waysTo, .ref m_then, .ref m_two, .ref m_nextTwo, .ref m_three, .ref m_nextThree, .int (-1), .ref m_worth, .ref m_digit, .int 0, .long 0, .int 0, .int 0, .int 0, .int 0, .long 0])), (m_lines, .inl (cm_lines, 5, .inl (fun _ => 0))), (m_hours, .inl (cm_hours, 5, .inl (fun _ => 0))), (m_courts, .inl (cm_courts, 5, .inl (fun _ => 0))), (m_in, .inl (cm_in, 50, .inl (fun _ => 0))), (m_gates, .inl (cm_gates, 5, .inl (fun _ => 0))), (m_gate, .inl (cm_gate, 160, .inl (fun _ => 0))), (m_people, .inl (cm_people, 5, .inl (fun _ => 0))), (m_at0, .inl (cm_at0, 2400, .inl (fun _ => 0))), (m_stray, .inl (cm_stray, 100, .inl (fun _ => 0))), (m_set, .inl (cm_set, 10, .inl (fun _ => 0))), (m_truth, .inl (cm_truth, 10, .inl (fun _ => 0))), (m_known, .inl (cm_known, 50, .inl (fun _ => 0))), (m_isKept, .inl (cm_isKept, 3, .inl (fun _ => 0)))] hB ht hvm hP hD hK [0, 1, 2, 3, 4, 5] [6, 7, 8, 9, 10, 11, 12, 13, 14, 15, 16, 17, 18, 19] rfl rfl (by decide) (by decide) hk1 hFc
  generalize H1 = H at hP hS ⊢
  have hP : va_P (dC, dI) vwCl [(m0, .inr (10, [.int 0, .ref m_width, .ref m_many, .ref m_cells, .ref m_moved, .ref m_tape, .int 0, .int 0, .int 0, .int 0, .int 0, .long 0, .int 0, .int 0, .int 0, .int (-1), .ref m_lines, .ref m_hours, .ref m_courts, .ref m_in, .ref m_gates, .ref m_gate, .ref m_people, .ref m_at0, .ref m_stray, .ref m_set, .ref m_once, .ref m_truth, .ref m_known, .ref m_isKept, .int 0, .int (-1), .int 0, .int 0, .ref m_inside, .ref m_can, .ref m_fewest, .ref m_waysTo, .ref m_then, .ref m_two, .ref m_nextTwo, .ref m_three, .ref m_nextThree, .int (-1), .ref m_worth, .ref m_digit, .int 0, .long 0, .int 0, .int 0, .int 0, .int 0, .long 0])), (m_lines, .inl (cm_lines, 5, .inl (fun _ => 0))), (m_hours, .inl (cm_hours, 5, .inl (fun _ => 0))), (m_courts, .inl (cm_courts, 5, .inl (fun _ => 0))), (m_in, .inl (cm_in, 50, .inl (fun _ => 0))), (m_gates, .inl (cm_gates, 5, .inl (fun _ => 0))), (m_gate, .inl (cm_gate, 160, .inl (fun _ => 0))), (m_people, .inl (cm_people, 5, .inl (fun _ => 0))), (m_at0, .inl (cm_at0, 2400, .inl (fun _ => 0))), (m_stray, .inl (cm_stray, 100, .inl (fun _ => 0))), (m_set, .inl (cm_set, 10, .inl (fun _ => 0))), (m_truth, .inl (cm_truth, 10, .inl (fun _ => 0))), (m_known, .inl (cm_known, 50, .inl (fun _ => 0))), (m_isKept, .inl (cm_isKept, 3, .inl (fun _ => 0)))] H := hP
  have hD : va_D A [(m0, .inr (10, [.int 0, .ref m_width, .ref m_many, .ref m_cells, .ref m_moved, .ref m_tape, .int 0, .int 0, .int 0, .int 0, .int 0, .long 0, .int 0, .int 0, .int 0, .int (-1), .ref m_lines, .ref m_hours, .ref m_courts, .ref m_in, .ref m_gates, .ref m_gate, .ref m_people, .ref m_at0, .ref m_stray, .ref m_set, .ref m_once, .ref m_truth, .ref m_known, .ref m_isKept, .int 0, .int (-1), .int 0, .int 0, .ref m_inside, .ref m_can, .ref m_fewest, .ref m_waysTo, .ref m_then, .ref m_two, .ref m_nextTwo, .ref m_three, .ref m_nextThree, .int (-1), .ref m_worth, .ref m_digit, .int 0, .long 0, .int 0, .int 0, .int 0, .int 0, .long 0])), (m_lines, .inl (cm_lines, 5, .inl (fun _ => 0))), (m_hours, .inl (cm_hours, 5, .inl (fun _ => 0))), (m_courts, .inl (cm_courts, 5, .inl (fun _ => 0))), (m_in, .inl (cm_in, 50, .inl (fun _ => 0))), (m_gates, .inl (cm_gates, 5, .inl (fun _ => 0))), (m_gate, .inl (cm_gate, 160, .inl (fun _ => 0))), (m_people, .inl (cm_people, 5, .inl (fun _ => 0))), (m_at0, .inl (cm_at0, 2400, .inl (fun _ => 0))), (m_stray, .inl (cm_stray, 100, .inl (fun _ => 0))), (m_set, .inl (cm_set, 10, .inl (fun _ => 0))), (m_truth, .inl (cm_truth, 10, .inl (fun _ => 0))), (m_known, .inl (cm_known, 50, .inl (fun _ => 0))), (m_isKept, .inl (cm_isKept, 3, .inl (fun _ => 0)))] := hD
  have hK : va_K (dC, dI) vwCl [(cA_im, .object RX3), (cm_lines, .int), (cm_hours, .int), (cm_courts, .int), (cm_in, .int), (cm_gates, .int), (cm_gate, .int), (cm_people, .int), (cm_at0, .int), (cm_stray, .int), (cm_set, .int), (cm_truth, .int), (cm_known, .int), (cm_isKept, .boolean)] s := hK
  have hw_r_2 := hw
  refine lv_aload_n hx hb dL_law_2435 rfl (lv_at hl 1 rfl) ?_
  refine lv_aload_n hx hb dL_law_2436 rfl (lv_at hl 3 rfl) ?_
  refine lv_iload_n hx hb dL_law_2437 rfl (lv_at hl 0 rfl) ?_
  refine lv_iconst (v := 1) hx hb dL_law_2438 (by decide) ?_
  refine lv_iadd hx hb dL_law_2439 ?_
  refine lv_topi (fun x_3 ex_3 => ?_)
  obtain rfl : x_3 = 1 := ex_3.trans (by decide)
  refine va_sld hx hb hX hbl hbA hS (z_inC _ (k := 1) (by decide) (by decide)) dL_law_2440 ?_
  have hPc := hP.sub (ws' := [(m0, .inr (10, [.int 0, .ref m_width, .ref m_many, .ref m_cells, .ref m_moved, .ref m_tape, .int 0, .int 0, .int 0, .int 0, .int 0, .long 0, .int 0, .int 0, .int 0, .int (-1), .ref m_lines, .ref m_hours, .ref m_courts, .ref m_in, .ref m_gates, .ref m_gate, .ref m_people, .ref m_at0, .ref m_stray, .ref m_set, .ref m_once, .ref m_truth, .ref m_known, .ref m_isKept, .int 0, .int (-1), .int 0, .int 0, .ref m_inside, .ref m_can, .ref m_fewest, .ref m_waysTo, .ref m_then, .ref m_two, .ref m_nextTwo, .ref m_three, .ref m_nextThree, .int (-1), .ref m_worth, .ref m_digit, .int 0, .long 0, .int 0, .int 0, .int 0, .int 0, .long 0])), (m_lines, .inl (cm_lines, 5, .inl (fun _ => 0))), (m_hours, .inl (cm_hours, 5, .inl (fun _ => 0))), (m_courts, .inl (cm_courts, 5, .inl (fun _ => 0))), (m_in, .inl (cm_in, 50, .inl (fun _ => 0))), (m_gates, .inl (cm_gates, 5, .inl (fun _ => 0))), (m_gate, .inl (cm_gate, 160, .inl (fun _ => 0))), (m_people, .inl (cm_people, 5, .inl (fun _ => 0))), (m_at0, .inl (cm_at0, 2400, .inl (fun _ => 0))), (m_stray, .inl (cm_stray, 100, .inl (fun _ => 0))), (m_set, .inl (cm_set, 10, .inl (fun _ => 0))), (m_truth, .inl (cm_truth, 10, .inl (fun _ => 0))), (m_known, .inl (cm_known, 50, .inl (fun _ => 0))), (m_isKept, .inl (cm_isKept, 3, .inl (fun _ => 0)))]) [0, 1, 2, 3, 4, 5, 6, 7, 8, 9, 10, 11, 12, 13] rfl
  have hDc := hD.sub (ws' := [(m0, .inr (10, [.int 0, .ref m_width, .ref m_many, .ref m_cells, .ref m_moved, .ref m_tape, .int 0, .int 0, .int 0, .int 0, .int 0, .long 0, .int 0, .int 0, .int 0, .int (-1), .ref m_lines, .ref m_hours, .ref m_courts, .ref m_in, .ref m_gates, .ref m_gate, .ref m_people, .ref m_at0, .ref m_stray, .ref m_set, .ref m_once, .ref m_truth, .ref m_known, .ref m_isKept, .int 0, .int (-1), .int 0, .int 0, .ref m_inside, .ref m_can, .ref m_fewest, .ref m_waysTo, .ref m_then, .ref m_two, .ref m_nextTwo, .ref m_three, .ref m_nextThree, .int (-1), .ref m_worth, .ref m_digit, .int 0, .long 0, .int 0, .int 0, .int 0, .int 0, .long 0])), (m_lines, .inl (cm_lines, 5, .inl (fun _ => 0))), (m_hours, .inl (cm_hours, 5, .inl (fun _ => 0))), (m_courts, .inl (cm_courts, 5, .inl (fun _ => 0))), (m_in, .inl (cm_in, 50, .inl (fun _ => 0))), (m_gates, .inl (cm_gates, 5, .inl (fun _ => 0))), (m_gate, .inl (cm_gate, 160, .inl (fun _ => 0))), (m_people, .inl (cm_people, 5, .inl (fun _ => 0))), (m_at0, .inl (cm_at0, 2400, .inl (fun _ => 0))), (m_stray, .inl (cm_stray, 100, .inl (fun _ => 0))), (m_set, .inl (cm_set, 10, .inl (fun _ => 0))), (m_truth, .inl (cm_truth, 10, .inl (fun _ => 0))), (m_known, .inl (cm_known, 50, .inl (fun _ => 0))), (m_isKept, .inl (cm_isKept, 3, .inl (fun _ => 0)))]) [0, 1, 2, 3, 4, 5, 6, 7, 8, 9, 10, 11, 12, 13] (by decide) rfl
  have hKc := hK.sub (tys' := [(cm_lines, .int), (cm_hours, .int), (cm_courts, .int), (cm_in, .int), (cm_gates, .int), (cm_gate, .int), (cm_people, .int), (cm_at0, .int), (cm_stray, .int), (cm_set, .int), (cm_truth, .int), (cm_known, .int), (cm_isKept, .boolean)]) [1, 2, 3, 4, 5, 6, 7, 8, 9, 10, 11, 12, 13] rfl
  have hFc := va_free (wc := [(m0, .inr (10, [.int 0, .ref m_width, .ref m_many, .ref m_cells, .ref m_moved, .ref m_tape, .int 0, .int 0, .int 0, .int 0, .int 0, .long 0, .int 0, .int 0, .int 0, .int (-1), .ref m_lines, .ref m_hours, .ref m_courts, .ref m_in, .ref m_gates, .ref m_gate, .ref m_people, .ref m_at0, .ref m_stray, .ref m_set, .ref m_once, .ref m_truth, .ref m_known, .ref m_isKept, .int 0, .int (-1), .int 0, .int 0, .ref m_inside, .ref m_can, .ref m_fewest, .ref m_waysTo, .ref m_then, .ref m_two, .ref m_nextTwo, .ref m_three, .ref m_nextThree, .int (-1), .ref m_worth, .ref m_digit, .int 0, .long 0, .int 0, .int 0, .int 0, .int 0, .long 0])), (m_lines, .inl (cm_lines, 5, .inl (fun _ => 0))), (m_hours, .inl (cm_hours, 5, .inl (fun _ => 0))), (m_courts, .inl (cm_courts, 5, .inl (fun _ => 0))), (m_in, .inl (cm_in, 50, .inl (fun _ => 0))), (m_gates, .inl (cm_gates, 5, .inl (fun _ => 0))), (m_gate, .inl (cm_gate, 160, .inl (fun _ => 0))), (m_people, .inl (cm_people, 5, .inl (fun _ => 0))), (m_at0, .inl (cm_at0, 2400, .inl (fun _ => 0))), (m_stray, .inl (cm_stray, 100, .inl (fun _ => 0))), (m_set, .inl (cm_set, 10, .inl (fun _ => 0))), (m_truth, .inl (cm_truth, 10, .inl (fun _ => 0))), (m_known, .inl (cm_known, 50, .inl (fun _ => 0))), (m_isKept, .inl (cm_isKept, 3, .inl (fun _ => 0)))]) hD hS hA [0, 1, 2, 3, 4, 5, 6, 7, 8, 9, 10, 11, 12, 13] rfl
  refine va_calli (va_runV (As := [.int (xs (Int32.toNatClampNeg 1))]) (rest := [.int r_2]) ⟨hx, hb, hml, hown, hts⟩ (k_X10_keep l dC dI m0 (xs (Int32.toNatClampNeg 1)) m_width m_many m_cells m_moved m_tape m_lines m_hours m_courts m_in m_gates m_gate m_people m_at0 m_stray m_set m_once m_truth m_known m_isKept m_inside m_can m_fewest m_waysTo m_then m_two m_nextTwo m_three m_nextThree m_worth m_digit cm_lines cm_hours cm_courts cm_in cm_gates cm_gate cm_people cm_at0 cm_stray cm_set cm_truth cm_known cm_isKept H.size) (cwV 1 hts (z_gV zw_t9_80 zw_t9_81 zw_t9_82 zw_t1_11 zw_t9_83) rfl rfl rfl (by decide +kernel) ⟨(Nat.le_of_ble_eq_true rfl), (Nat.le_of_ble_eq_true rfl)⟩) (z_preV hPc hKc hDc (ci := 10) (q0 := 0) rfl rfl) rfl rfl hl.1 rfl (lv_room (Nat.le_of_ble_eq_true rfl)) dL_law_2441 ⟨(Nat.le_of_ble_eq_true rfl), (Nat.le_of_ble_eq_true rfl)⟩) hS (fun q _ h => hFc q h) hFc (fun r_4 u t H1 locs ht hvm hw hB hz1 hk1 hS => ?_)
  have hB : zW dC dI [] [] (va_A [(m0, .inr (10, [.int 0, .ref m_width, .ref m_many, .ref m_cells, .ref m_moved, .ref m_tape, .int 0, .int 0, .int 0, .int 0, .int 0, .long 0, .int 0, .int 0, .int 0, .int (-1), .ref m_lines, .ref m_hours, .ref m_courts, .ref m_in, .ref m_gates, .ref m_gate, .ref m_people, .ref m_at0, .ref m_stray, .ref m_set, .ref m_once, .ref m_truth, .ref m_known, .ref m_isKept, .int 0, .int (-1), .int 0, .int 0, .ref m_inside, .ref m_can, .ref m_fewest, .ref m_waysTo, .ref m_then, .ref m_two, .ref m_nextTwo, .ref m_three, .ref m_nextThree, .int (-1), .ref m_worth, .ref m_digit, .int 0, .long 0, .int 0, .int 0, .int 0, .int 0, .long 0])), (m_lines, .inl (cm_lines, 5, .inl (fun _ => 0))), (m_hours, .inl (cm_hours, 5, .inl (fun _ => 0))), (m_courts, .inl (cm_courts, 5, .inl (fun _ => 0))), (m_in, .inl (cm_in, 50, .inl (fun _ => 0))), (m_gates, .inl (cm_gates, 5, .inl (fun _ => 0))), (m_gate, .inl (cm_gate, 160, .inl (fun _ => 0))), (m_people, .inl (cm_people, 5, .inl (fun _ => 0))), (m_at0, .inl (cm_at0, 2400, .inl (fun _ => 0))), (m_stray, .inl (cm_stray, 100, .inl (fun _ => 0))), (m_set, .inl (cm_set, 10, .inl (fun _ => 0))), (m_truth, .inl (cm_truth, 10, .inl (fun _ => 0))), (m_known, .inl (cm_known, 50, .inl (fun _ => 0))), (m_isKept, .inl (cm_isKept, 3, .inl (fun _ => 0)))] H.size) t := z_none (va_K.moved hvm hK)
  obtain ⟨hP, hD, hK⟩ := z_after [] hB ht hvm hP hD hK [0, 1, 2, 3, 4, 5, 6, 7, 8, 9, 10, 11, 12, 13] [] rfl rfl (by decide) (by decide) hk1 hFc
  generalize H1 = H at hP hS ⊢
  have hP : va_P (dC, dI) vwCl [] H := hP
  have hD : va_D A [] := hD
  have hK : va_K (dC, dI) vwCl [(cA_im, .object RX3), (cm_lines, .int), (cm_hours, .int), (cm_courts, .int), (cm_in, .int), (cm_gates, .int), (cm_gate, .int), (cm_people, .int), (cm_at0, .int), (cm_stray, .int), (cm_set, .int), (cm_truth, .int), (cm_known, .int), (cm_isKept, .boolean)] s := hK
  have hw_r_4 := hw
  refine lv_icmp_eq (tgt := 2651) hx hb dL_law_2444 (by decide) (fun _ => ?_) (fun q => absurd (Eq.trans hw_r_2 (Eq.symm hw_r_4)) q)
  exact law_tail C0 hA2 (Nat.le_of_ble_eq_true rfl) (Nat.le_of_ble_eq_true rfl) hS (lv_sub hl [0, 3] rfl)
set_option maxHeartbeats 4000000 in
set_option maxRecDepth 100000 in
theorem law_back {p : Program} {e : Env} {s : State} {m : MethodId} {below : List Frame} {meth : Method} {c : Code} {l : Launch} {b : Nat} {xs : Nat → Int32} (C0 : lw_At p s m meth c b 6 xs) {dC : Nat → ClassId} {dI : Nat → Nat → Nat} {A : Nat → Prop} (hA : ∀ q, s.heap.size ≤ q → A q) (hA2 : ∀ q, A q → s.heap.size ≤ q) {h0 : Nat} {tp : Nat} {nw : Nat} {im : Nat} {sl : Nat} {rd : Nat} {wk : Nat} {fm : Nat} {mt : Nat} {ch : Nat} {dy : Nat} {cA_im : ClassId} {f_im : Nat → Option Nat} {i0 : Nat} {i1 : Nat} {i2 : Nat} {it0 : Nat} {it1 : Nat} {it2 : Nat} {m0 : Nat} {m_width : Nat} {m_many : Nat} {m_cells : Nat} {m_moved : Nat} {m_tape : Nat} {m_lines : Nat} {m_hours : Nat} {m_courts : Nat} {m_in : Nat} {m_gates : Nat} {m_gate : Nat} {m_people : Nat} {m_at0 : Nat} {m_stray : Nat} {m_set : Nat} {m_once : Nat} {m_truth : Nat} {m_known : Nat} {m_isKept : Nat} {m_inside : Nat} {m_can : Nat} {m_fewest : Nat} {m_waysTo : Nat} {m_then : Nat} {m_two : Nat} {m_nextTwo : Nat} {m_three : Nat} {m_nextThree : Nat} {m_worth : Nat} {m_digit : Nat} {cm_isKept : ClassId} (him0 : f_im 0 = some i0) (him1 : f_im 1 = some i1) (him2 : f_im 2 = some i2) {H : Heap} {locs : List Loc} {ls : Array Slot} (hP : va_P (dC, dI) vwCl [(h0, .inr (9, [.ref tp, .int 0, .int 0, .int (-1), .ref nw, .ref im, .ref sl, .ref rd, .ref wk, .ref fm, .ref mt, .ref ch, .ref dy])), (im, .inl (cA_im, 3, .inr (.inr (.inr (.inr f_im))))), (i0, .inr (3, [.int 0, .ref it0, .int 0, .int 0, .int 0, .int 0])), (i1, .inr (3, [.int 0, .ref it1, .int 0, .int 0, .int 0, .int 0])), (i2, .inr (3, [.int 0, .ref it2, .int 0, .int 0, .int 0, .int 0])), (m0, .inr (10, [.int 0, .ref m_width, .ref m_many, .ref m_cells, .ref m_moved, .ref m_tape, .int 0, .int 0, .int 0, .int 0, .int 0, .long 0, .int 0, .int 0, .int 0, .int (-1), .ref m_lines, .ref m_hours, .ref m_courts, .ref m_in, .ref m_gates, .ref m_gate, .ref m_people, .ref m_at0, .ref m_stray, .ref m_set, .ref m_once, .ref m_truth, .ref m_known, .ref m_isKept, .int 0, .int (-1), .int 0, .int 0, .ref m_inside, .ref m_can, .ref m_fewest, .ref m_waysTo, .ref m_then, .ref m_two, .ref m_nextTwo, .ref m_three, .ref m_nextThree, .int (-1), .ref m_worth, .ref m_digit, .int 0, .long 0, .int 0, .int 0, .int 0, .int 0, .long 0])), (m_isKept, .inl (cm_isKept, 3, .inl (fun _ => 0)))] H) (hD : va_D A [(h0, .inr (9, [.ref tp, .int 0, .int 0, .int (-1), .ref nw, .ref im, .ref sl, .ref rd, .ref wk, .ref fm, .ref mt, .ref ch, .ref dy])), (im, .inl (cA_im, 3, .inr (.inr (.inr (.inr f_im))))), (i0, .inr (3, [.int 0, .ref it0, .int 0, .int 0, .int 0, .int 0])), (i1, .inr (3, [.int 0, .ref it1, .int 0, .int 0, .int 0, .int 0])), (i2, .inr (3, [.int 0, .ref it2, .int 0, .int 0, .int 0, .int 0])), (m0, .inr (10, [.int 0, .ref m_width, .ref m_many, .ref m_cells, .ref m_moved, .ref m_tape, .int 0, .int 0, .int 0, .int 0, .int 0, .long 0, .int 0, .int 0, .int 0, .int (-1), .ref m_lines, .ref m_hours, .ref m_courts, .ref m_in, .ref m_gates, .ref m_gate, .ref m_people, .ref m_at0, .ref m_stray, .ref m_set, .ref m_once, .ref m_truth, .ref m_known, .ref m_isKept, .int 0, .int (-1), .int 0, .int 0, .ref m_inside, .ref m_can, .ref m_fewest, .ref m_waysTo, .ref m_then, .ref m_two, .ref m_nextTwo, .ref m_three, .ref m_nextThree, .int (-1), .ref m_worth, .ref m_digit, .int 0, .long 0, .int 0, .int 0, .int 0, .int 0, .long 0])), (m_isKept, .inl (cm_isKept, 3, .inl (fun _ => 0)))]) (hK : va_K (dC, dI) vwCl [(cA_im, .object RX3), (cm_isKept, .boolean)] s) (hS : va_S A s.heap H locs) (hl : lv_has ls 4 [(3, .int 0), (2, .ref m0), (1, .ref h0), (0, .ref b)]) : W p l e room_1 s m #[Value.ref b] below meth c H locs 166 101284 (lw_Z below #[Value.ref b] s) (F0 m 2449 ls []) := by
  obtain ⟨hx, hb, hr, hml, hown, hts, hX, hbl, hlocks, hgv⟩ := id C0
  have hown : s.vm.findClass RL = some m.cls := hown
  have hb : c.code = cL_law := hb
  have hts : ∀ w ∈ zT, w.before #[Value.ref b] s = true := fun w h => hts w (zT_in w h)
  have hbA : ¬ A b := fun q => absurd (hA2 b q) (Nat.not_le.mpr hbl)
  refine lv_aload_n hx hb dL_law_2449 rfl (lv_at hl 2 rfl) ?_
  refine lv_aload_n hx hb dL_law_2450 rfl (lv_at hl 3 rfl) ?_
  refine lv_iload_n hx hb dL_law_2451 rfl (lv_at hl 0 rfl) ?_
  refine lv_iconst (v := 1) hx hb dL_law_2452 (by decide) ?_
  refine lv_iadd hx hb dL_law_2453 ?_
  refine lv_topi (fun x_1 ex_1 => ?_)
  obtain rfl : x_1 = 1 := ex_1.trans (by decide)
  refine va_sld hx hb hX hbl hbA hS (z_inC _ (k := 1) (by decide) (by decide)) dL_law_2454 ?_
  have hPc := hP.sub (ws' := [(h0, .inr (9, [.ref tp, .int 0, .int 0, .int (-1), .ref nw, .ref im, .ref sl, .ref rd, .ref wk, .ref fm, .ref mt, .ref ch, .ref dy])), (im, .inl (cA_im, 3, .inr (.inr (.inr (.inr f_im))))), (i0, .inr (3, [.int 0, .ref it0, .int 0, .int 0, .int 0, .int 0])), (i1, .inr (3, [.int 0, .ref it1, .int 0, .int 0, .int 0, .int 0])), (i2, .inr (3, [.int 0, .ref it2, .int 0, .int 0, .int 0, .int 0]))]) [0, 1, 2, 3, 4] rfl
  have hDc := hD.sub (ws' := [(h0, .inr (9, [.ref tp, .int 0, .int 0, .int (-1), .ref nw, .ref im, .ref sl, .ref rd, .ref wk, .ref fm, .ref mt, .ref ch, .ref dy])), (im, .inl (cA_im, 3, .inr (.inr (.inr (.inr f_im))))), (i0, .inr (3, [.int 0, .ref it0, .int 0, .int 0, .int 0, .int 0])), (i1, .inr (3, [.int 0, .ref it1, .int 0, .int 0, .int 0, .int 0])), (i2, .inr (3, [.int 0, .ref it2, .int 0, .int 0, .int 0, .int 0]))]) [0, 1, 2, 3, 4] (by decide) rfl
  have hKc := hK.sub (tys' := [(cA_im, .object RX3)]) [0] rfl
  have hFc := va_free (wc := [(h0, .inr (9, [.ref tp, .int 0, .int 0, .int (-1), .ref nw, .ref im, .ref sl, .ref rd, .ref wk, .ref fm, .ref mt, .ref ch, .ref dy])), (im, .inl (cA_im, 3, .inr (.inr (.inr (.inr f_im))))), (i0, .inr (3, [.int 0, .ref it0, .int 0, .int 0, .int 0, .int 0])), (i1, .inr (3, [.int 0, .ref it1, .int 0, .int 0, .int 0, .int 0])), (i2, .inr (3, [.int 0, .ref it2, .int 0, .int 0, .int 0, .int 0]))]) hD hS hA [0, 1, 2, 3, 4] rfl
  refine va_calli (va_runV (As := [.int (xs (Int32.toNatClampNeg 1))]) (rest := []) ⟨hx, hb, hml, hown, hts⟩ (k_X9_back l dC dI h0 (xs (Int32.toNatClampNeg 1)) tp nw im sl rd wk fm mt ch dy cA_im f_im i0 i1 i2 it0 it1 it2 him0 him1 him2 H.size) (cwV 1 hts (z_gV zw_t6_63 zw_t6_64 zw_t6_65 zw_t1_1 zw_t6_66) rfl rfl rfl (by decide +kernel) ⟨(Nat.le_of_ble_eq_true rfl), (Nat.le_of_ble_eq_true rfl)⟩) (z_preV hPc hKc hDc (ci := 9) (q0 := 0) rfl rfl) rfl rfl hl.1 rfl (lv_room (Nat.le_of_ble_eq_true rfl)) dL_law_2455 ⟨(Nat.le_of_ble_eq_true rfl), (Nat.le_of_ble_eq_true rfl)⟩) hS (fun q _ h => hFc q h) hFc (fun r_2 u t H1 locs ht hvm hw hB hz1 hk1 hS => ?_)
  have hB : zW dC dI [] [] (va_A [(h0, .inr (9, [.ref tp, .int 0, .int 0, .int (-1), .ref nw, .ref im, .ref sl, .ref rd, .ref wk, .ref fm, .ref mt, .ref ch, .ref dy])), (im, .inl (cA_im, 3, .inr (.inr (.inr (.inr f_im))))), (i0, .inr (3, [.int 0, .ref it0, .int 0, .int 0, .int 0, .int 0])), (i1, .inr (3, [.int 0, .ref it1, .int 0, .int 0, .int 0, .int 0])), (i2, .inr (3, [.int 0, .ref it2, .int 0, .int 0, .int 0, .int 0]))] H.size) t := z_none (va_K.moved hvm hK)
  obtain ⟨hP, hD, hK⟩ := z_after [(m0, .inr (10, [.int 0, .ref m_width, .ref m_many, .ref m_cells, .ref m_moved, .ref m_tape, .int 0, .int 0, .int 0, .int 0, .int 0, .long 0, .int 0, .int 0, .int 0, .int (-1), .ref m_lines, .ref m_hours, .ref m_courts, .ref m_in, .ref m_gates, .ref m_gate, .ref m_people, .ref m_at0, .ref m_stray, .ref m_set, .ref m_once, .ref m_truth, .ref m_known, .ref m_isKept, .int 0, .int (-1), .int 0, .int 0, .ref m_inside, .ref m_can, .ref m_fewest, .ref m_waysTo, .ref m_then, .ref m_two, .ref m_nextTwo, .ref m_three, .ref m_nextThree, .int (-1), .ref m_worth, .ref m_digit, .int 0, .long 0, .int 0, .int 0, .int 0, .int 0, .long 0])), (m_isKept, .inl (cm_isKept, 3, .inl (fun _ => 0)))] hB ht hvm hP hD hK [0, 1, 2, 3, 4] [5, 6] rfl rfl (by decide) (by decide) hk1 hFc
  generalize H1 = H at hP hS ⊢
  have hP : va_P (dC, dI) vwCl [(m0, .inr (10, [.int 0, .ref m_width, .ref m_many, .ref m_cells, .ref m_moved, .ref m_tape, .int 0, .int 0, .int 0, .int 0, .int 0, .long 0, .int 0, .int 0, .int 0, .int (-1), .ref m_lines, .ref m_hours, .ref m_courts, .ref m_in, .ref m_gates, .ref m_gate, .ref m_people, .ref m_at0, .ref m_stray, .ref m_set, .ref m_once, .ref m_truth, .ref m_known, .ref m_isKept, .int 0, .int (-1), .int 0, .int 0, .ref m_inside, .ref m_can, .ref m_fewest, .ref m_waysTo, .ref m_then, .ref m_two, .ref m_nextTwo, .ref m_three, .ref m_nextThree, .int (-1), .ref m_worth, .ref m_digit, .int 0, .long 0, .int 0, .int 0, .int 0, .int 0, .long 0])), (m_isKept, .inl (cm_isKept, 3, .inl (fun _ => 0)))] H := hP
  have hD : va_D A [(m0, .inr (10, [.int 0, .ref m_width, .ref m_many, .ref m_cells, .ref m_moved, .ref m_tape, .int 0, .int 0, .int 0, .int 0, .int 0, .long 0, .int 0, .int 0, .int 0, .int (-1), .ref m_lines, .ref m_hours, .ref m_courts, .ref m_in, .ref m_gates, .ref m_gate, .ref m_people, .ref m_at0, .ref m_stray, .ref m_set, .ref m_once, .ref m_truth, .ref m_known, .ref m_isKept, .int 0, .int (-1), .int 0, .int 0, .ref m_inside, .ref m_can, .ref m_fewest, .ref m_waysTo, .ref m_then, .ref m_two, .ref m_nextTwo, .ref m_three, .ref m_nextThree, .int (-1), .ref m_worth, .ref m_digit, .int 0, .long 0, .int 0, .int 0, .int 0, .int 0, .long 0])), (m_isKept, .inl (cm_isKept, 3, .inl (fun _ => 0)))] := hD
  have hK : va_K (dC, dI) vwCl [(cA_im, .object RX3), (cm_isKept, .boolean)] s := hK
  have hw_r_2 := hw
  refine lv_aload_n hx hb dL_law_2458 rfl (lv_at hl 1 rfl) ?_
  refine lv_aload_n hx hb dL_law_2459 rfl (lv_at hl 3 rfl) ?_
  refine lv_iload_n hx hb dL_law_2460 rfl (lv_at hl 0 rfl) ?_
  refine lv_iconst (v := 1) hx hb dL_law_2461 (by decide) ?_
  refine lv_iadd hx hb dL_law_2462 ?_
  refine lv_topi (fun x_3 ex_3 => ?_)
  obtain rfl : x_3 = 1 := ex_3.trans (by decide)
  refine va_sld hx hb hX hbl hbA hS (z_inC _ (k := 1) (by decide) (by decide)) dL_law_2463 ?_
  have hPc := hP.sub (ws' := [(m0, .inr (10, [.int 0, .ref m_width, .ref m_many, .ref m_cells, .ref m_moved, .ref m_tape, .int 0, .int 0, .int 0, .int 0, .int 0, .long 0, .int 0, .int 0, .int 0, .int (-1), .ref m_lines, .ref m_hours, .ref m_courts, .ref m_in, .ref m_gates, .ref m_gate, .ref m_people, .ref m_at0, .ref m_stray, .ref m_set, .ref m_once, .ref m_truth, .ref m_known, .ref m_isKept, .int 0, .int (-1), .int 0, .int 0, .ref m_inside, .ref m_can, .ref m_fewest, .ref m_waysTo, .ref m_then, .ref m_two, .ref m_nextTwo, .ref m_three, .ref m_nextThree, .int (-1), .ref m_worth, .ref m_digit, .int 0, .long 0, .int 0, .int 0, .int 0, .int 0, .long 0])), (m_isKept, .inl (cm_isKept, 3, .inl (fun _ => 0)))]) [0, 1] rfl
  have hDc := hD.sub (ws' := [(m0, .inr (10, [.int 0, .ref m_width, .ref m_many, .ref m_cells, .ref m_moved, .ref m_tape, .int 0, .int 0, .int 0, .int 0, .int 0, .long 0, .int 0, .int 0, .int 0, .int (-1), .ref m_lines, .ref m_hours, .ref m_courts, .ref m_in, .ref m_gates, .ref m_gate, .ref m_people, .ref m_at0, .ref m_stray, .ref m_set, .ref m_once, .ref m_truth, .ref m_known, .ref m_isKept, .int 0, .int (-1), .int 0, .int 0, .ref m_inside, .ref m_can, .ref m_fewest, .ref m_waysTo, .ref m_then, .ref m_two, .ref m_nextTwo, .ref m_three, .ref m_nextThree, .int (-1), .ref m_worth, .ref m_digit, .int 0, .long 0, .int 0, .int 0, .int 0, .int 0, .long 0])), (m_isKept, .inl (cm_isKept, 3, .inl (fun _ => 0)))]) [0, 1] (by decide) rfl
  have hKc := hK.sub (tys' := [(cm_isKept, .boolean)]) [1] rfl
  have hFc := va_free (wc := [(m0, .inr (10, [.int 0, .ref m_width, .ref m_many, .ref m_cells, .ref m_moved, .ref m_tape, .int 0, .int 0, .int 0, .int 0, .int 0, .long 0, .int 0, .int 0, .int 0, .int (-1), .ref m_lines, .ref m_hours, .ref m_courts, .ref m_in, .ref m_gates, .ref m_gate, .ref m_people, .ref m_at0, .ref m_stray, .ref m_set, .ref m_once, .ref m_truth, .ref m_known, .ref m_isKept, .int 0, .int (-1), .int 0, .int 0, .ref m_inside, .ref m_can, .ref m_fewest, .ref m_waysTo, .ref m_then, .ref m_two, .ref m_nextTwo, .ref m_three, .ref m_nextThree, .int (-1), .ref m_worth, .ref m_digit, .int 0, .long 0, .int 0, .int 0, .int 0, .int 0, .long 0])), (m_isKept, .inl (cm_isKept, 3, .inl (fun _ => 0)))]) hD hS hA [0, 1] rfl
  refine va_calli (va_runV (As := [.int (xs (Int32.toNatClampNeg 1))]) (rest := [.int r_2]) ⟨hx, hb, hml, hown, hts⟩ (k_X10_back l dC dI m0 (xs (Int32.toNatClampNeg 1)) m_width m_many m_cells m_moved m_tape m_lines m_hours m_courts m_in m_gates m_gate m_people m_at0 m_stray m_set m_once m_truth m_known m_isKept m_inside m_can m_fewest m_waysTo m_then m_two m_nextTwo m_three m_nextThree m_worth m_digit cm_isKept H.size) (cwV 1 hts (z_gV zw_t9_84 zw_t9_85 zw_t9_86 zw_t1_11 zw_t9_87) rfl rfl rfl (by decide +kernel) ⟨(Nat.le_of_ble_eq_true rfl), (Nat.le_of_ble_eq_true rfl)⟩) (z_preV hPc hKc hDc (ci := 10) (q0 := 0) rfl rfl) rfl rfl hl.1 rfl (lv_room (Nat.le_of_ble_eq_true rfl)) dL_law_2464 ⟨(Nat.le_of_ble_eq_true rfl), (Nat.le_of_ble_eq_true rfl)⟩) hS (fun q _ h => hFc q h) hFc (fun r_4 u t H1 locs ht hvm hw hB hz1 hk1 hS => ?_)
  have hB : zW dC dI [] [] (va_A [(m0, .inr (10, [.int 0, .ref m_width, .ref m_many, .ref m_cells, .ref m_moved, .ref m_tape, .int 0, .int 0, .int 0, .int 0, .int 0, .long 0, .int 0, .int 0, .int 0, .int (-1), .ref m_lines, .ref m_hours, .ref m_courts, .ref m_in, .ref m_gates, .ref m_gate, .ref m_people, .ref m_at0, .ref m_stray, .ref m_set, .ref m_once, .ref m_truth, .ref m_known, .ref m_isKept, .int 0, .int (-1), .int 0, .int 0, .ref m_inside, .ref m_can, .ref m_fewest, .ref m_waysTo, .ref m_then, .ref m_two, .ref m_nextTwo, .ref m_three, .ref m_nextThree, .int (-1), .ref m_worth, .ref m_digit, .int 0, .long 0, .int 0, .int 0, .int 0, .int 0, .long 0])), (m_isKept, .inl (cm_isKept, 3, .inl (fun _ => 0)))] H.size) t := z_none (va_K.moved hvm hK)
  obtain ⟨hP, hD, hK⟩ := z_after [] hB ht hvm hP hD hK [0, 1] [] rfl rfl (by decide) (by decide) hk1 hFc
  generalize H1 = H at hP hS ⊢
  have hP : va_P (dC, dI) vwCl [] H := hP
  have hD : va_D A [] := hD
  have hK : va_K (dC, dI) vwCl [(cA_im, .object RX3), (cm_isKept, .boolean)] s := hK
  have hw_r_4 := hw
  refine lv_icmp_eq (tgt := 2651) hx hb dL_law_2467 (by decide) (fun _ => ?_) (fun q => absurd (Eq.trans hw_r_2 (Eq.symm hw_r_4)) q)
  exact law_tail C0 hA2 (Nat.le_of_ble_eq_true rfl) (Nat.le_of_ble_eq_true rfl) hS (lv_sub hl [0, 3] rfl)
set_option maxHeartbeats 4000000 in
set_option maxRecDepth 100000 in
theorem law_row {p : Program} {e : Env} {s : State} {m : MethodId} {below : List Frame} {meth : Method} {c : Code} {l : Launch} {b : Nat} {xs : Nat → Int32} (C0 : lw_At p s m meth c b 6 xs) {dC : Nat → ClassId} {dI : Nat → Nat → Nat} {A : Nat → Prop} (hA : ∀ q, s.heap.size ≤ q → A q) (hA2 : ∀ q, A q → s.heap.size ≤ q) {h0 : Nat} {tp : Nat} {nw : Nat} {im : Nat} {sl : Nat} {rd : Nat} {wk : Nat} {fm : Nat} {mt : Nat} {ch : Nat} {dy : Nat} {cA_sl : ClassId} {f_sl : Nat → Option Nat} {r0 : Nat} {r1 : Nat} {r2 : Nat} {r3 : Nat} {n0 : Nat} {n1 : Nat} {n2 : Nat} {n3 : Nat} {cA_n0 : ClassId} {cA_n1 : ClassId} {cA_n2 : ClassId} {cA_n3 : ClassId} {m0 : Nat} {m_width : Nat} {m_many : Nat} {m_cells : Nat} {m_moved : Nat} {m_tape : Nat} {m_lines : Nat} {m_hours : Nat} {m_courts : Nat} {m_in : Nat} {m_gates : Nat} {m_gate : Nat} {m_people : Nat} {m_at0 : Nat} {m_stray : Nat} {m_set : Nat} {m_once : Nat} {m_truth : Nat} {m_known : Nat} {m_isKept : Nat} {m_inside : Nat} {m_can : Nat} {m_fewest : Nat} {m_waysTo : Nat} {m_then : Nat} {m_two : Nat} {m_nextTwo : Nat} {m_three : Nat} {m_nextThree : Nat} {m_worth : Nat} {m_digit : Nat} {cm_width : ClassId} {f_width : Nat → Int32} {cm_many : ClassId} {cm_cells : ClassId} (hsl0 : f_sl 0 = some r0) (hsl1 : f_sl 1 = some r1) (hsl2 : f_sl 2 = some r2) (hsl3 : f_sl 3 = some r3) (hfw0 : f_width 0 = (-1)) (hfw1 : f_width 1 = (-1)) (hfw2 : f_width 2 = (-1)) (hfw3 : f_width 3 = (-1)) {H : Heap} {locs : List Loc} {ls : Array Slot} (hP : va_P (dC, dI) vwCl [(h0, .inr (9, [.ref tp, .int 0, .int 0, .int (-1), .ref nw, .ref im, .ref sl, .ref rd, .ref wk, .ref fm, .ref mt, .ref ch, .ref dy])), (sl, .inl (cA_sl, 4, .inr (.inr (.inr (.inr f_sl))))), (r0, .inr (6, [.int (-1), .int 0, .ref n0])), (r1, .inr (6, [.int (-1), .int 0, .ref n1])), (r2, .inr (6, [.int (-1), .int 0, .ref n2])), (r3, .inr (6, [.int (-1), .int 0, .ref n3])), (n0, .inl (cA_n0, 60, .inr (.inl (fun _ => 0)))), (n1, .inl (cA_n1, 60, .inr (.inl (fun _ => 0)))), (n2, .inl (cA_n2, 60, .inr (.inl (fun _ => 0)))), (n3, .inl (cA_n3, 60, .inr (.inl (fun _ => 0)))), (m0, .inr (10, [.int 0, .ref m_width, .ref m_many, .ref m_cells, .ref m_moved, .ref m_tape, .int 0, .int 0, .int 0, .int 0, .int 0, .long 0, .int 0, .int 0, .int 0, .int (-1), .ref m_lines, .ref m_hours, .ref m_courts, .ref m_in, .ref m_gates, .ref m_gate, .ref m_people, .ref m_at0, .ref m_stray, .ref m_set, .ref m_once, .ref m_truth, .ref m_known, .ref m_isKept, .int 0, .int (-1), .int 0, .int 0, .ref m_inside, .ref m_can, .ref m_fewest, .ref m_waysTo, .ref m_then, .ref m_two, .ref m_nextTwo, .ref m_three, .ref m_nextThree, .int (-1), .ref m_worth, .ref m_digit, .int 0, .long 0, .int 0, .int 0, .int 0, .int 0, .long 0])), (m_width, .inl (cm_width, 4, .inl f_width)), (m_many, .inl (cm_many, 4, .inl (fun _ => 0))), (m_cells, .inl (cm_cells, 240, .inr (.inl (fun _ => 0))))] H) (hD : va_D A [(h0, .inr (9, [.ref tp, .int 0, .int 0, .int (-1), .ref nw, .ref im, .ref sl, .ref rd, .ref wk, .ref fm, .ref mt, .ref ch, .ref dy])), (sl, .inl (cA_sl, 4, .inr (.inr (.inr (.inr f_sl))))), (r0, .inr (6, [.int (-1), .int 0, .ref n0])), (r1, .inr (6, [.int (-1), .int 0, .ref n1])), (r2, .inr (6, [.int (-1), .int 0, .ref n2])), (r3, .inr (6, [.int (-1), .int 0, .ref n3])), (n0, .inl (cA_n0, 60, .inr (.inl (fun _ => 0)))), (n1, .inl (cA_n1, 60, .inr (.inl (fun _ => 0)))), (n2, .inl (cA_n2, 60, .inr (.inl (fun _ => 0)))), (n3, .inl (cA_n3, 60, .inr (.inl (fun _ => 0)))), (m0, .inr (10, [.int 0, .ref m_width, .ref m_many, .ref m_cells, .ref m_moved, .ref m_tape, .int 0, .int 0, .int 0, .int 0, .int 0, .long 0, .int 0, .int 0, .int 0, .int (-1), .ref m_lines, .ref m_hours, .ref m_courts, .ref m_in, .ref m_gates, .ref m_gate, .ref m_people, .ref m_at0, .ref m_stray, .ref m_set, .ref m_once, .ref m_truth, .ref m_known, .ref m_isKept, .int 0, .int (-1), .int 0, .int 0, .ref m_inside, .ref m_can, .ref m_fewest, .ref m_waysTo, .ref m_then, .ref m_two, .ref m_nextTwo, .ref m_three, .ref m_nextThree, .int (-1), .ref m_worth, .ref m_digit, .int 0, .long 0, .int 0, .int 0, .int 0, .int 0, .long 0])), (m_width, .inl (cm_width, 4, .inl f_width)), (m_many, .inl (cm_many, 4, .inl (fun _ => 0))), (m_cells, .inl (cm_cells, 240, .inr (.inl (fun _ => 0))))]) (hK : va_K (dC, dI) vwCl [(cA_sl, .object RX6), (cA_n0, .long), (cA_n1, .long), (cA_n2, .long), (cA_n3, .long), (cm_width, .int), (cm_many, .int), (cm_cells, .long)] s) (hS : va_S A s.heap H locs) (hl : lv_has ls 4 [(3, .int 0), (2, .ref m0), (1, .ref h0), (0, .ref b)]) : W p l e room_1 s m #[Value.ref b] below meth c H locs 166 101284 (lw_Z below #[Value.ref b] s) (F0 m 2472 ls []) := by
  obtain ⟨hx, hb, hr, hml, hown, hts, hX, hbl, hlocks, hgv⟩ := id C0
  have hown : s.vm.findClass RL = some m.cls := hown
  have hb : c.code = cL_law := hb
  have hts : ∀ w ∈ zT, w.before #[Value.ref b] s = true := fun w h => hts w (zT_in w h)
  have hbA : ¬ A b := fun q => absurd (hA2 b q) (Nat.not_le.mpr hbl)
  refine lv_aload_n hx hb dL_law_2472 rfl (lv_at hl 2 rfl) ?_
  refine lv_aload_n hx hb dL_law_2473 rfl (lv_at hl 3 rfl) ?_
  refine lv_iload_n hx hb dL_law_2474 rfl (lv_at hl 0 rfl) ?_
  refine lv_iconst (v := 1) hx hb dL_law_2475 (by decide) ?_
  refine lv_iadd hx hb dL_law_2476 ?_
  refine lv_topi (fun x_1 ex_1 => ?_)
  obtain rfl : x_1 = 1 := ex_1.trans (by decide)
  refine va_sld hx hb hX hbl hbA hS (z_inC _ (k := 1) (by decide) (by decide)) dL_law_2477 ?_
  refine lv_aload_n hx hb dL_law_2478 rfl (lv_at hl 3 rfl) ?_
  refine lv_iload_n hx hb dL_law_2479 rfl (lv_at hl 0 rfl) ?_
  refine lv_iconst (v := 2) hx hb dL_law_2480 (by decide) ?_
  refine lv_iadd hx hb dL_law_2481 ?_
  refine lv_topi (fun x_2 ex_2 => ?_)
  obtain rfl : x_2 = 2 := ex_2.trans (by decide)
  refine va_sld hx hb hX hbl hbA hS (z_inC _ (k := 2) (by decide) (by decide)) dL_law_2482 ?_
  refine lv_aload_n hx hb dL_law_2483 rfl (lv_at hl 3 rfl) ?_
  refine lv_iload_n hx hb dL_law_2484 rfl (lv_at hl 0 rfl) ?_
  refine lv_iconst (v := 3) hx hb dL_law_2485 (by decide) ?_
  refine lv_iadd hx hb dL_law_2486 ?_
  refine lv_topi (fun x_3 ex_3 => ?_)
  obtain rfl : x_3 = 3 := ex_3.trans (by decide)
  refine va_sld hx hb hX hbl hbA hS (z_inC _ (k := 3) (by decide) (by decide)) dL_law_2487 ?_
  have hPc := hP.sub (ws' := [(h0, .inr (9, [.ref tp, .int 0, .int 0, .int (-1), .ref nw, .ref im, .ref sl, .ref rd, .ref wk, .ref fm, .ref mt, .ref ch, .ref dy])), (sl, .inl (cA_sl, 4, .inr (.inr (.inr (.inr f_sl))))), (r0, .inr (6, [.int (-1), .int 0, .ref n0])), (r1, .inr (6, [.int (-1), .int 0, .ref n1])), (r2, .inr (6, [.int (-1), .int 0, .ref n2])), (r3, .inr (6, [.int (-1), .int 0, .ref n3])), (n0, .inl (cA_n0, 60, .inr (.inl (fun _ => 0)))), (n1, .inl (cA_n1, 60, .inr (.inl (fun _ => 0)))), (n2, .inl (cA_n2, 60, .inr (.inl (fun _ => 0)))), (n3, .inl (cA_n3, 60, .inr (.inl (fun _ => 0))))]) [0, 1, 2, 3, 4, 5, 6, 7, 8, 9] rfl
  have hDc := hD.sub (ws' := [(h0, .inr (9, [.ref tp, .int 0, .int 0, .int (-1), .ref nw, .ref im, .ref sl, .ref rd, .ref wk, .ref fm, .ref mt, .ref ch, .ref dy])), (sl, .inl (cA_sl, 4, .inr (.inr (.inr (.inr f_sl))))), (r0, .inr (6, [.int (-1), .int 0, .ref n0])), (r1, .inr (6, [.int (-1), .int 0, .ref n1])), (r2, .inr (6, [.int (-1), .int 0, .ref n2])), (r3, .inr (6, [.int (-1), .int 0, .ref n3])), (n0, .inl (cA_n0, 60, .inr (.inl (fun _ => 0)))), (n1, .inl (cA_n1, 60, .inr (.inl (fun _ => 0)))), (n2, .inl (cA_n2, 60, .inr (.inl (fun _ => 0)))), (n3, .inl (cA_n3, 60, .inr (.inl (fun _ => 0))))]) [0, 1, 2, 3, 4, 5, 6, 7, 8, 9] (by decide) rfl
  have hKc := hK.sub (tys' := [(cA_sl, .object RX6), (cA_n0, .long), (cA_n1, .long), (cA_n2, .long), (cA_n3, .long)]) [0, 1, 2, 3, 4] rfl
  have hFc := va_free (wc := [(h0, .inr (9, [.ref tp, .int 0, .int 0, .int (-1), .ref nw, .ref im, .ref sl, .ref rd, .ref wk, .ref fm, .ref mt, .ref ch, .ref dy])), (sl, .inl (cA_sl, 4, .inr (.inr (.inr (.inr f_sl))))), (r0, .inr (6, [.int (-1), .int 0, .ref n0])), (r1, .inr (6, [.int (-1), .int 0, .ref n1])), (r2, .inr (6, [.int (-1), .int 0, .ref n2])), (r3, .inr (6, [.int (-1), .int 0, .ref n3])), (n0, .inl (cA_n0, 60, .inr (.inl (fun _ => 0)))), (n1, .inl (cA_n1, 60, .inr (.inl (fun _ => 0)))), (n2, .inl (cA_n2, 60, .inr (.inl (fun _ => 0)))), (n3, .inl (cA_n3, 60, .inr (.inl (fun _ => 0))))]) hD hS hA [0, 1, 2, 3, 4, 5, 6, 7, 8, 9] rfl
  refine va_calli (va_runV (As := [.int (xs (Int32.toNatClampNeg 1)), .int (xs (Int32.toNatClampNeg 2)), .int (xs (Int32.toNatClampNeg 3))]) (rest := []) ⟨hx, hb, hml, hown, hts⟩ (k_X9_row l dC dI h0 (xs (Int32.toNatClampNeg 1)) (xs (Int32.toNatClampNeg 2)) (xs (Int32.toNatClampNeg 3)) tp nw im sl rd wk fm mt ch dy cA_sl f_sl r0 r1 r2 r3 n0 n1 n2 n3 cA_n0 cA_n1 cA_n2 cA_n3 hsl0 hsl1 hsl2 hsl3 H.size) (cwV 3 hts (z_gV zw_t6_67 zw_t6_68 zw_t6_69 zw_t1_1 zw_t6_70) rfl rfl rfl (by decide +kernel) ⟨(Nat.le_of_ble_eq_true rfl), (Nat.le_of_ble_eq_true rfl)⟩) (z_preV hPc hKc hDc (ci := 9) (q0 := 0) rfl rfl) rfl rfl hl.1 rfl (lv_room (Nat.le_of_ble_eq_true rfl)) dL_law_2488 ⟨(Nat.le_of_ble_eq_true rfl), (Nat.le_of_ble_eq_true rfl)⟩) hS (fun q _ h => hFc q h) hFc (fun r_4 u t H1 locs ht hvm hw hB hz1 hk1 hS => ?_)
  have hB : zW dC dI [] [] (va_A [(h0, .inr (9, [.ref tp, .int 0, .int 0, .int (-1), .ref nw, .ref im, .ref sl, .ref rd, .ref wk, .ref fm, .ref mt, .ref ch, .ref dy])), (sl, .inl (cA_sl, 4, .inr (.inr (.inr (.inr f_sl))))), (r0, .inr (6, [.int (-1), .int 0, .ref n0])), (r1, .inr (6, [.int (-1), .int 0, .ref n1])), (r2, .inr (6, [.int (-1), .int 0, .ref n2])), (r3, .inr (6, [.int (-1), .int 0, .ref n3])), (n0, .inl (cA_n0, 60, .inr (.inl (fun _ => 0)))), (n1, .inl (cA_n1, 60, .inr (.inl (fun _ => 0)))), (n2, .inl (cA_n2, 60, .inr (.inl (fun _ => 0)))), (n3, .inl (cA_n3, 60, .inr (.inl (fun _ => 0))))] H.size) t := z_none (va_K.moved hvm hK)
  obtain ⟨hP, hD, hK⟩ := z_after [(m0, .inr (10, [.int 0, .ref m_width, .ref m_many, .ref m_cells, .ref m_moved, .ref m_tape, .int 0, .int 0, .int 0, .int 0, .int 0, .long 0, .int 0, .int 0, .int 0, .int (-1), .ref m_lines, .ref m_hours, .ref m_courts, .ref m_in, .ref m_gates, .ref m_gate, .ref m_people, .ref m_at0, .ref m_stray, .ref m_set, .ref m_once, .ref m_truth, .ref m_known, .ref m_isKept, .int 0, .int (-1), .int 0, .int 0, .ref m_inside, .ref m_can, .ref m_fewest, .ref m_waysTo, .ref m_then, .ref m_two, .ref m_nextTwo, .ref m_three, .ref m_nextThree, .int (-1), .ref m_worth, .ref m_digit, .int 0, .long 0, .int 0, .int 0, .int 0, .int 0, .long 0])), (m_width, .inl (cm_width, 4, .inl f_width)), (m_many, .inl (cm_many, 4, .inl (fun _ => 0))), (m_cells, .inl (cm_cells, 240, .inr (.inl (fun _ => 0))))] hB ht hvm hP hD hK [0, 1, 2, 3, 4, 5, 6, 7, 8, 9] [10, 11, 12, 13] rfl rfl (by decide) (by decide) hk1 hFc
  generalize H1 = H at hP hS ⊢
  have hP : va_P (dC, dI) vwCl [(m0, .inr (10, [.int 0, .ref m_width, .ref m_many, .ref m_cells, .ref m_moved, .ref m_tape, .int 0, .int 0, .int 0, .int 0, .int 0, .long 0, .int 0, .int 0, .int 0, .int (-1), .ref m_lines, .ref m_hours, .ref m_courts, .ref m_in, .ref m_gates, .ref m_gate, .ref m_people, .ref m_at0, .ref m_stray, .ref m_set, .ref m_once, .ref m_truth, .ref m_known, .ref m_isKept, .int 0, .int (-1), .int 0, .int 0, .ref m_inside, .ref m_can, .ref m_fewest, .ref m_waysTo, .ref m_then, .ref m_two, .ref m_nextTwo, .ref m_three, .ref m_nextThree, .int (-1), .ref m_worth, .ref m_digit, .int 0, .long 0, .int 0, .int 0, .int 0, .int 0, .long 0])), (m_width, .inl (cm_width, 4, .inl f_width)), (m_many, .inl (cm_many, 4, .inl (fun _ => 0))), (m_cells, .inl (cm_cells, 240, .inr (.inl (fun _ => 0))))] H := hP
  have hD : va_D A [(m0, .inr (10, [.int 0, .ref m_width, .ref m_many, .ref m_cells, .ref m_moved, .ref m_tape, .int 0, .int 0, .int 0, .int 0, .int 0, .long 0, .int 0, .int 0, .int 0, .int (-1), .ref m_lines, .ref m_hours, .ref m_courts, .ref m_in, .ref m_gates, .ref m_gate, .ref m_people, .ref m_at0, .ref m_stray, .ref m_set, .ref m_once, .ref m_truth, .ref m_known, .ref m_isKept, .int 0, .int (-1), .int 0, .int 0, .ref m_inside, .ref m_can, .ref m_fewest, .ref m_waysTo, .ref m_then, .ref m_two, .ref m_nextTwo, .ref m_three, .ref m_nextThree, .int (-1), .ref m_worth, .ref m_digit, .int 0, .long 0, .int 0, .int 0, .int 0, .int 0, .long 0])), (m_width, .inl (cm_width, 4, .inl f_width)), (m_many, .inl (cm_many, 4, .inl (fun _ => 0))), (m_cells, .inl (cm_cells, 240, .inr (.inl (fun _ => 0))))] := hD
  have hK : va_K (dC, dI) vwCl [(cA_sl, .object RX6), (cA_n0, .long), (cA_n1, .long), (cA_n2, .long), (cA_n3, .long), (cm_width, .int), (cm_many, .int), (cm_cells, .long)] s := hK
  have hw_r_4 := hw
  refine lv_aload_n hx hb dL_law_2491 rfl (lv_at hl 1 rfl) ?_
  refine lv_aload_n hx hb dL_law_2492 rfl (lv_at hl 3 rfl) ?_
  refine lv_iload_n hx hb dL_law_2493 rfl (lv_at hl 0 rfl) ?_
  refine lv_iconst (v := 1) hx hb dL_law_2494 (by decide) ?_
  refine lv_iadd hx hb dL_law_2495 ?_
  refine lv_topi (fun x_5 ex_5 => ?_)
  obtain rfl : x_5 = 1 := ex_5.trans (by decide)
  refine va_sld hx hb hX hbl hbA hS (z_inC _ (k := 1) (by decide) (by decide)) dL_law_2496 ?_
  refine lv_aload_n hx hb dL_law_2497 rfl (lv_at hl 3 rfl) ?_
  refine lv_iload_n hx hb dL_law_2498 rfl (lv_at hl 0 rfl) ?_
  refine lv_iconst (v := 2) hx hb dL_law_2499 (by decide) ?_
  refine lv_iadd hx hb dL_law_2500 ?_
  refine lv_topi (fun x_6 ex_6 => ?_)
  obtain rfl : x_6 = 2 := ex_6.trans (by decide)
  refine va_sld hx hb hX hbl hbA hS (z_inC _ (k := 2) (by decide) (by decide)) dL_law_2501 ?_
  refine lv_aload_n hx hb dL_law_2502 rfl (lv_at hl 3 rfl) ?_
  refine lv_iload_n hx hb dL_law_2503 rfl (lv_at hl 0 rfl) ?_
  refine lv_iconst (v := 3) hx hb dL_law_2504 (by decide) ?_
  refine lv_iadd hx hb dL_law_2505 ?_
  refine lv_topi (fun x_7 ex_7 => ?_)
  obtain rfl : x_7 = 3 := ex_7.trans (by decide)
  refine va_sld hx hb hX hbl hbA hS (z_inC _ (k := 3) (by decide) (by decide)) dL_law_2506 ?_
  have hPc := hP.sub (ws' := [(m0, .inr (10, [.int 0, .ref m_width, .ref m_many, .ref m_cells, .ref m_moved, .ref m_tape, .int 0, .int 0, .int 0, .int 0, .int 0, .long 0, .int 0, .int 0, .int 0, .int (-1), .ref m_lines, .ref m_hours, .ref m_courts, .ref m_in, .ref m_gates, .ref m_gate, .ref m_people, .ref m_at0, .ref m_stray, .ref m_set, .ref m_once, .ref m_truth, .ref m_known, .ref m_isKept, .int 0, .int (-1), .int 0, .int 0, .ref m_inside, .ref m_can, .ref m_fewest, .ref m_waysTo, .ref m_then, .ref m_two, .ref m_nextTwo, .ref m_three, .ref m_nextThree, .int (-1), .ref m_worth, .ref m_digit, .int 0, .long 0, .int 0, .int 0, .int 0, .int 0, .long 0])), (m_width, .inl (cm_width, 4, .inl f_width)), (m_many, .inl (cm_many, 4, .inl (fun _ => 0))), (m_cells, .inl (cm_cells, 240, .inr (.inl (fun _ => 0))))]) [0, 1, 2, 3] rfl
  have hDc := hD.sub (ws' := [(m0, .inr (10, [.int 0, .ref m_width, .ref m_many, .ref m_cells, .ref m_moved, .ref m_tape, .int 0, .int 0, .int 0, .int 0, .int 0, .long 0, .int 0, .int 0, .int 0, .int (-1), .ref m_lines, .ref m_hours, .ref m_courts, .ref m_in, .ref m_gates, .ref m_gate, .ref m_people, .ref m_at0, .ref m_stray, .ref m_set, .ref m_once, .ref m_truth, .ref m_known, .ref m_isKept, .int 0, .int (-1), .int 0, .int 0, .ref m_inside, .ref m_can, .ref m_fewest, .ref m_waysTo, .ref m_then, .ref m_two, .ref m_nextTwo, .ref m_three, .ref m_nextThree, .int (-1), .ref m_worth, .ref m_digit, .int 0, .long 0, .int 0, .int 0, .int 0, .int 0, .long 0])), (m_width, .inl (cm_width, 4, .inl f_width)), (m_many, .inl (cm_many, 4, .inl (fun _ => 0))), (m_cells, .inl (cm_cells, 240, .inr (.inl (fun _ => 0))))]) [0, 1, 2, 3] (by decide) rfl
  have hKc := hK.sub (tys' := [(cm_width, .int), (cm_many, .int), (cm_cells, .long)]) [5, 6, 7] rfl
  have hFc := va_free (wc := [(m0, .inr (10, [.int 0, .ref m_width, .ref m_many, .ref m_cells, .ref m_moved, .ref m_tape, .int 0, .int 0, .int 0, .int 0, .int 0, .long 0, .int 0, .int 0, .int 0, .int (-1), .ref m_lines, .ref m_hours, .ref m_courts, .ref m_in, .ref m_gates, .ref m_gate, .ref m_people, .ref m_at0, .ref m_stray, .ref m_set, .ref m_once, .ref m_truth, .ref m_known, .ref m_isKept, .int 0, .int (-1), .int 0, .int 0, .ref m_inside, .ref m_can, .ref m_fewest, .ref m_waysTo, .ref m_then, .ref m_two, .ref m_nextTwo, .ref m_three, .ref m_nextThree, .int (-1), .ref m_worth, .ref m_digit, .int 0, .long 0, .int 0, .int 0, .int 0, .int 0, .long 0])), (m_width, .inl (cm_width, 4, .inl f_width)), (m_many, .inl (cm_many, 4, .inl (fun _ => 0))), (m_cells, .inl (cm_cells, 240, .inr (.inl (fun _ => 0))))]) hD hS hA [0, 1, 2, 3] rfl
  refine va_calli (va_runV (As := [.int (xs (Int32.toNatClampNeg 1)), .int (xs (Int32.toNatClampNeg 2)), .int (xs (Int32.toNatClampNeg 3))]) (rest := [.int r_4]) ⟨hx, hb, hml, hown, hts⟩ (k_X10_row l dC dI m0 (xs (Int32.toNatClampNeg 1)) (xs (Int32.toNatClampNeg 2)) (xs (Int32.toNatClampNeg 3)) m_width m_many m_cells m_moved m_tape m_lines m_hours m_courts m_in m_gates m_gate m_people m_at0 m_stray m_set m_once m_truth m_known m_isKept m_inside m_can m_fewest m_waysTo m_then m_two m_nextTwo m_three m_nextThree m_worth m_digit cm_width f_width cm_many cm_cells hfw0 hfw1 hfw2 hfw3 H.size) (cwV 3 hts (z_gV zw_t7_21 zw_t7_22 zw_t7_23 zw_t1_11 zw_t7_24) rfl rfl rfl (by decide +kernel) ⟨(Nat.le_of_ble_eq_true rfl), (Nat.le_of_ble_eq_true rfl)⟩) (z_preV hPc hKc hDc (ci := 10) (q0 := 0) rfl rfl) rfl rfl hl.1 rfl (lv_room (Nat.le_of_ble_eq_true rfl)) dL_law_2507 ⟨(Nat.le_of_ble_eq_true rfl), (Nat.le_of_ble_eq_true rfl)⟩) hS (fun q _ h => hFc q h) hFc (fun r_8 u t H1 locs ht hvm hw hB hz1 hk1 hS => ?_)
  have hB : zW dC dI [] [] (va_A [(m0, .inr (10, [.int 0, .ref m_width, .ref m_many, .ref m_cells, .ref m_moved, .ref m_tape, .int 0, .int 0, .int 0, .int 0, .int 0, .long 0, .int 0, .int 0, .int 0, .int (-1), .ref m_lines, .ref m_hours, .ref m_courts, .ref m_in, .ref m_gates, .ref m_gate, .ref m_people, .ref m_at0, .ref m_stray, .ref m_set, .ref m_once, .ref m_truth, .ref m_known, .ref m_isKept, .int 0, .int (-1), .int 0, .int 0, .ref m_inside, .ref m_can, .ref m_fewest, .ref m_waysTo, .ref m_then, .ref m_two, .ref m_nextTwo, .ref m_three, .ref m_nextThree, .int (-1), .ref m_worth, .ref m_digit, .int 0, .long 0, .int 0, .int 0, .int 0, .int 0, .long 0])), (m_width, .inl (cm_width, 4, .inl f_width)), (m_many, .inl (cm_many, 4, .inl (fun _ => 0))), (m_cells, .inl (cm_cells, 240, .inr (.inl (fun _ => 0))))] H.size) t := z_none (va_K.moved hvm hK)
  obtain ⟨hP, hD, hK⟩ := z_after [] hB ht hvm hP hD hK [0, 1, 2, 3] [] rfl rfl (by decide) (by decide) hk1 hFc
  generalize H1 = H at hP hS ⊢
  have hP : va_P (dC, dI) vwCl [] H := hP
  have hD : va_D A [] := hD
  have hK : va_K (dC, dI) vwCl [(cA_sl, .object RX6), (cA_n0, .long), (cA_n1, .long), (cA_n2, .long), (cA_n3, .long), (cm_width, .int), (cm_many, .int), (cm_cells, .long)] s := hK
  have hw_r_8 := hw
  refine lv_icmp_eq (tgt := 2651) hx hb dL_law_2510 (by decide) (fun _ => ?_) (fun q => absurd (Eq.trans hw_r_4 (Eq.symm hw_r_8)) q)
  exact law_tail C0 hA2 (Nat.le_of_ble_eq_true rfl) (Nat.le_of_ble_eq_true rfl) hS (lv_sub hl [0, 3] rfl)
set_option maxHeartbeats 4000000 in
set_option maxRecDepth 100000 in
theorem law_write {p : Program} {e : Env} {s : State} {m : MethodId} {below : List Frame} {meth : Method} {c : Code} {l : Launch} {b : Nat} {xs : Nat → Int32} (C0 : lw_At p s m meth c b 6 xs) {dC : Nat → ClassId} {dI : Nat → Nat → Nat} {A : Nat → Prop} (hA : ∀ q, s.heap.size ≤ q → A q) (hA2 : ∀ q, A q → s.heap.size ≤ q) {h0 : Nat} {tp : Nat} {nw : Nat} {im : Nat} {sl : Nat} {rd : Nat} {wk : Nat} {fm : Nat} {mt : Nat} {ch : Nat} {dy : Nat} {cA_sl : ClassId} {f_sl : Nat → Option Nat} {r0 : Nat} {r1 : Nat} {r2 : Nat} {r3 : Nat} {n0 : Nat} {n1 : Nat} {n2 : Nat} {n3 : Nat} {m0 : Nat} {m_width : Nat} {m_many : Nat} {m_cells : Nat} {m_moved : Nat} {m_tape : Nat} {m_lines : Nat} {m_hours : Nat} {m_courts : Nat} {m_in : Nat} {m_gates : Nat} {m_gate : Nat} {m_people : Nat} {m_at0 : Nat} {m_stray : Nat} {m_set : Nat} {m_once : Nat} {m_truth : Nat} {m_known : Nat} {m_isKept : Nat} {m_inside : Nat} {m_can : Nat} {m_fewest : Nat} {m_waysTo : Nat} {m_then : Nat} {m_two : Nat} {m_nextTwo : Nat} {m_three : Nat} {m_nextThree : Nat} {m_worth : Nat} {m_digit : Nat} {cm_width : ClassId} {f_width : Nat → Int32} (hsl0 : f_sl 0 = some r0) (hsl1 : f_sl 1 = some r1) (hsl2 : f_sl 2 = some r2) (hsl3 : f_sl 3 = some r3) (hfw0 : f_width 0 = (-1)) (hfw1 : f_width 1 = (-1)) (hfw2 : f_width 2 = (-1)) (hfw3 : f_width 3 = (-1)) {H : Heap} {locs : List Loc} {ls : Array Slot} (hP : va_P (dC, dI) vwCl [(h0, .inr (9, [.ref tp, .int 0, .int 0, .int (-1), .ref nw, .ref im, .ref sl, .ref rd, .ref wk, .ref fm, .ref mt, .ref ch, .ref dy])), (sl, .inl (cA_sl, 4, .inr (.inr (.inr (.inr f_sl))))), (r0, .inr (6, [.int (-1), .int 0, .ref n0])), (r1, .inr (6, [.int (-1), .int 0, .ref n1])), (r2, .inr (6, [.int (-1), .int 0, .ref n2])), (r3, .inr (6, [.int (-1), .int 0, .ref n3])), (m0, .inr (10, [.int 0, .ref m_width, .ref m_many, .ref m_cells, .ref m_moved, .ref m_tape, .int 0, .int 0, .int 0, .int 0, .int 0, .long 0, .int 0, .int 0, .int 0, .int (-1), .ref m_lines, .ref m_hours, .ref m_courts, .ref m_in, .ref m_gates, .ref m_gate, .ref m_people, .ref m_at0, .ref m_stray, .ref m_set, .ref m_once, .ref m_truth, .ref m_known, .ref m_isKept, .int 0, .int (-1), .int 0, .int 0, .ref m_inside, .ref m_can, .ref m_fewest, .ref m_waysTo, .ref m_then, .ref m_two, .ref m_nextTwo, .ref m_three, .ref m_nextThree, .int (-1), .ref m_worth, .ref m_digit, .int 0, .long 0, .int 0, .int 0, .int 0, .int 0, .long 0])), (m_width, .inl (cm_width, 4, .inl f_width))] H) (hD : va_D A [(h0, .inr (9, [.ref tp, .int 0, .int 0, .int (-1), .ref nw, .ref im, .ref sl, .ref rd, .ref wk, .ref fm, .ref mt, .ref ch, .ref dy])), (sl, .inl (cA_sl, 4, .inr (.inr (.inr (.inr f_sl))))), (r0, .inr (6, [.int (-1), .int 0, .ref n0])), (r1, .inr (6, [.int (-1), .int 0, .ref n1])), (r2, .inr (6, [.int (-1), .int 0, .ref n2])), (r3, .inr (6, [.int (-1), .int 0, .ref n3])), (m0, .inr (10, [.int 0, .ref m_width, .ref m_many, .ref m_cells, .ref m_moved, .ref m_tape, .int 0, .int 0, .int 0, .int 0, .int 0, .long 0, .int 0, .int 0, .int 0, .int (-1), .ref m_lines, .ref m_hours, .ref m_courts, .ref m_in, .ref m_gates, .ref m_gate, .ref m_people, .ref m_at0, .ref m_stray, .ref m_set, .ref m_once, .ref m_truth, .ref m_known, .ref m_isKept, .int 0, .int (-1), .int 0, .int 0, .ref m_inside, .ref m_can, .ref m_fewest, .ref m_waysTo, .ref m_then, .ref m_two, .ref m_nextTwo, .ref m_three, .ref m_nextThree, .int (-1), .ref m_worth, .ref m_digit, .int 0, .long 0, .int 0, .int 0, .int 0, .int 0, .long 0])), (m_width, .inl (cm_width, 4, .inl f_width))]) (hK : va_K (dC, dI) vwCl [(cA_sl, .object RX6), (cm_width, .int)] s) (hS : va_S A s.heap H locs) (hl : lv_has ls 4 [(3, .int 0), (2, .ref m0), (1, .ref h0), (0, .ref b)]) : W p l e room_1 s m #[Value.ref b] below meth c H locs 166 101284 (lw_Z below #[Value.ref b] s) (F0 m 2515 ls []) := by
  obtain ⟨hx, hb, hr, hml, hown, hts, hX, hbl, hlocks, hgv⟩ := id C0
  have hown : s.vm.findClass RL = some m.cls := hown
  have hb : c.code = cL_law := hb
  have hts : ∀ w ∈ zT, w.before #[Value.ref b] s = true := fun w h => hts w (zT_in w h)
  have hbA : ¬ A b := fun q => absurd (hA2 b q) (Nat.not_le.mpr hbl)
  refine lv_aload_n hx hb dL_law_2515 rfl (lv_at hl 2 rfl) ?_
  refine lv_aload_n hx hb dL_law_2516 rfl (lv_at hl 3 rfl) ?_
  refine lv_iload_n hx hb dL_law_2517 rfl (lv_at hl 0 rfl) ?_
  refine lv_iconst (v := 1) hx hb dL_law_2518 (by decide) ?_
  refine lv_iadd hx hb dL_law_2519 ?_
  refine lv_topi (fun x_1 ex_1 => ?_)
  obtain rfl : x_1 = 1 := ex_1.trans (by decide)
  refine va_sld hx hb hX hbl hbA hS (z_inC _ (k := 1) (by decide) (by decide)) dL_law_2520 ?_
  refine lv_aload_n hx hb dL_law_2521 rfl (lv_at hl 3 rfl) ?_
  refine lv_iload_n hx hb dL_law_2522 rfl (lv_at hl 0 rfl) ?_
  refine lv_iconst (v := 2) hx hb dL_law_2523 (by decide) ?_
  refine lv_iadd hx hb dL_law_2524 ?_
  refine lv_topi (fun x_2 ex_2 => ?_)
  obtain rfl : x_2 = 2 := ex_2.trans (by decide)
  refine va_sld hx hb hX hbl hbA hS (z_inC _ (k := 2) (by decide) (by decide)) dL_law_2525 ?_
  refine lv_aload_n hx hb dL_law_2526 rfl (lv_at hl 3 rfl) ?_
  refine lv_iload_n hx hb dL_law_2527 rfl (lv_at hl 0 rfl) ?_
  refine lv_iconst (v := 3) hx hb dL_law_2528 (by decide) ?_
  refine lv_iadd hx hb dL_law_2529 ?_
  refine lv_topi (fun x_3 ex_3 => ?_)
  obtain rfl : x_3 = 3 := ex_3.trans (by decide)
  refine va_sld hx hb hX hbl hbA hS (z_inC _ (k := 3) (by decide) (by decide)) dL_law_2530 ?_
  refine lv_i2l (v := (xs (Int32.toNatClampNeg 3)).toInt64) hx hb dL_law_2531 rfl ?_
  refine lv_bipush (v := 32) hx hb dL_law_2532 (by decide) ?_
  refine lv_lshl (v := _) hx hb dL_law_2534 rfl ?_
  refine lv_topl (fun x_4 ex_4 => ?_)
  refine lv_aload_n hx hb dL_law_2535 rfl (lv_at hl 3 rfl) ?_
  refine lv_iload_n hx hb dL_law_2536 rfl (lv_at hl 0 rfl) ?_
  refine lv_iconst (v := 4) hx hb dL_law_2537 (by decide) ?_
  refine lv_iadd hx hb dL_law_2538 ?_
  refine lv_topi (fun x_5 ex_5 => ?_)
  obtain rfl : x_5 = 4 := ex_5.trans (by decide)
  refine va_sld hx hb hX hbl hbA hS (z_inC _ (k := 4) (by decide) (by decide)) dL_law_2539 ?_
  refine lv_i2l (v := (xs (Int32.toNatClampNeg 4)).toInt64) hx hb dL_law_2540 rfl ?_
  refine lv_ldc2 (v := 4294967295) hx hb hown (hts _ zw_t9_88) dL_law_2541 ?_
  refine lv_land hx hb dL_law_2544 ?_
  refine lv_topl (fun x_6 ex_6 => ?_)
  refine lv_lor hx hb dL_law_2545 ?_
  refine lv_topl (fun x_7 ex_7 => ?_)
  have hPc := hP.sub (ws' := [(h0, .inr (9, [.ref tp, .int 0, .int 0, .int (-1), .ref nw, .ref im, .ref sl, .ref rd, .ref wk, .ref fm, .ref mt, .ref ch, .ref dy])), (sl, .inl (cA_sl, 4, .inr (.inr (.inr (.inr f_sl))))), (r0, .inr (6, [.int (-1), .int 0, .ref n0])), (r1, .inr (6, [.int (-1), .int 0, .ref n1])), (r2, .inr (6, [.int (-1), .int 0, .ref n2])), (r3, .inr (6, [.int (-1), .int 0, .ref n3]))]) [0, 1, 2, 3, 4, 5] rfl
  have hDc := hD.sub (ws' := [(h0, .inr (9, [.ref tp, .int 0, .int 0, .int (-1), .ref nw, .ref im, .ref sl, .ref rd, .ref wk, .ref fm, .ref mt, .ref ch, .ref dy])), (sl, .inl (cA_sl, 4, .inr (.inr (.inr (.inr f_sl))))), (r0, .inr (6, [.int (-1), .int 0, .ref n0])), (r1, .inr (6, [.int (-1), .int 0, .ref n1])), (r2, .inr (6, [.int (-1), .int 0, .ref n2])), (r3, .inr (6, [.int (-1), .int 0, .ref n3]))]) [0, 1, 2, 3, 4, 5] (by decide) rfl
  have hKc := hK.sub (tys' := [(cA_sl, .object RX6)]) [0] rfl
  have hFc := va_free (wc := [(h0, .inr (9, [.ref tp, .int 0, .int 0, .int (-1), .ref nw, .ref im, .ref sl, .ref rd, .ref wk, .ref fm, .ref mt, .ref ch, .ref dy])), (sl, .inl (cA_sl, 4, .inr (.inr (.inr (.inr f_sl))))), (r0, .inr (6, [.int (-1), .int 0, .ref n0])), (r1, .inr (6, [.int (-1), .int 0, .ref n1])), (r2, .inr (6, [.int (-1), .int 0, .ref n2])), (r3, .inr (6, [.int (-1), .int 0, .ref n3]))]) hD hS hA [0, 1, 2, 3, 4, 5] rfl
  refine va_calli (va_runV (As := [.int (xs (Int32.toNatClampNeg 1)), .int (xs (Int32.toNatClampNeg 2)), .long x_7]) (rest := []) ⟨hx, hb, hml, hown, hts⟩ (k_X9_write l dC dI h0 (xs (Int32.toNatClampNeg 1)) (xs (Int32.toNatClampNeg 2)) x_7 tp nw im sl rd wk fm mt ch dy cA_sl f_sl r0 r1 r2 r3 n0 n1 n2 n3 hsl0 hsl1 hsl2 hsl3 H.size) (cwV 3 hts (z_gV zw_t6_76 zw_t6_77 zw_t6_78 zw_t1_1 zw_t6_79) rfl rfl rfl (by decide +kernel) ⟨(Nat.le_of_ble_eq_true rfl), (Nat.le_of_ble_eq_true rfl)⟩) (z_preV hPc hKc hDc (ci := 9) (q0 := 0) rfl rfl) rfl rfl hl.1 rfl (lv_room (Nat.le_of_ble_eq_true rfl)) dL_law_2546 ⟨(Nat.le_of_ble_eq_true rfl), (Nat.le_of_ble_eq_true rfl)⟩) hS (fun q _ h => hFc q h) hFc (fun r_8 u t H1 locs ht hvm hw hB hz1 hk1 hS => ?_)
  have hB : zW dC dI [] [] (va_A [(h0, .inr (9, [.ref tp, .int 0, .int 0, .int (-1), .ref nw, .ref im, .ref sl, .ref rd, .ref wk, .ref fm, .ref mt, .ref ch, .ref dy])), (sl, .inl (cA_sl, 4, .inr (.inr (.inr (.inr f_sl))))), (r0, .inr (6, [.int (-1), .int 0, .ref n0])), (r1, .inr (6, [.int (-1), .int 0, .ref n1])), (r2, .inr (6, [.int (-1), .int 0, .ref n2])), (r3, .inr (6, [.int (-1), .int 0, .ref n3]))] H.size) t := z_none (va_K.moved hvm hK)
  obtain ⟨hP, hD, hK⟩ := z_after [(m0, .inr (10, [.int 0, .ref m_width, .ref m_many, .ref m_cells, .ref m_moved, .ref m_tape, .int 0, .int 0, .int 0, .int 0, .int 0, .long 0, .int 0, .int 0, .int 0, .int (-1), .ref m_lines, .ref m_hours, .ref m_courts, .ref m_in, .ref m_gates, .ref m_gate, .ref m_people, .ref m_at0, .ref m_stray, .ref m_set, .ref m_once, .ref m_truth, .ref m_known, .ref m_isKept, .int 0, .int (-1), .int 0, .int 0, .ref m_inside, .ref m_can, .ref m_fewest, .ref m_waysTo, .ref m_then, .ref m_two, .ref m_nextTwo, .ref m_three, .ref m_nextThree, .int (-1), .ref m_worth, .ref m_digit, .int 0, .long 0, .int 0, .int 0, .int 0, .int 0, .long 0])), (m_width, .inl (cm_width, 4, .inl f_width))] hB ht hvm hP hD hK [0, 1, 2, 3, 4, 5] [6, 7] rfl rfl (by decide) (by decide) hk1 hFc
  generalize H1 = H at hP hS ⊢
  have hP : va_P (dC, dI) vwCl [(m0, .inr (10, [.int 0, .ref m_width, .ref m_many, .ref m_cells, .ref m_moved, .ref m_tape, .int 0, .int 0, .int 0, .int 0, .int 0, .long 0, .int 0, .int 0, .int 0, .int (-1), .ref m_lines, .ref m_hours, .ref m_courts, .ref m_in, .ref m_gates, .ref m_gate, .ref m_people, .ref m_at0, .ref m_stray, .ref m_set, .ref m_once, .ref m_truth, .ref m_known, .ref m_isKept, .int 0, .int (-1), .int 0, .int 0, .ref m_inside, .ref m_can, .ref m_fewest, .ref m_waysTo, .ref m_then, .ref m_two, .ref m_nextTwo, .ref m_three, .ref m_nextThree, .int (-1), .ref m_worth, .ref m_digit, .int 0, .long 0, .int 0, .int 0, .int 0, .int 0, .long 0])), (m_width, .inl (cm_width, 4, .inl f_width))] H := hP
  have hD : va_D A [(m0, .inr (10, [.int 0, .ref m_width, .ref m_many, .ref m_cells, .ref m_moved, .ref m_tape, .int 0, .int 0, .int 0, .int 0, .int 0, .long 0, .int 0, .int 0, .int 0, .int (-1), .ref m_lines, .ref m_hours, .ref m_courts, .ref m_in, .ref m_gates, .ref m_gate, .ref m_people, .ref m_at0, .ref m_stray, .ref m_set, .ref m_once, .ref m_truth, .ref m_known, .ref m_isKept, .int 0, .int (-1), .int 0, .int 0, .ref m_inside, .ref m_can, .ref m_fewest, .ref m_waysTo, .ref m_then, .ref m_two, .ref m_nextTwo, .ref m_three, .ref m_nextThree, .int (-1), .ref m_worth, .ref m_digit, .int 0, .long 0, .int 0, .int 0, .int 0, .int 0, .long 0])), (m_width, .inl (cm_width, 4, .inl f_width))] := hD
  have hK : va_K (dC, dI) vwCl [(cA_sl, .object RX6), (cm_width, .int)] s := hK
  have hw_r_8 := hw
  refine lv_aload_n hx hb dL_law_2549 rfl (lv_at hl 1 rfl) ?_
  refine lv_aload_n hx hb dL_law_2550 rfl (lv_at hl 3 rfl) ?_
  refine lv_iload_n hx hb dL_law_2551 rfl (lv_at hl 0 rfl) ?_
  refine lv_iconst (v := 1) hx hb dL_law_2552 (by decide) ?_
  refine lv_iadd hx hb dL_law_2553 ?_
  refine lv_topi (fun x_9 ex_9 => ?_)
  obtain rfl : x_9 = 1 := ex_9.trans (by decide)
  refine va_sld hx hb hX hbl hbA hS (z_inC _ (k := 1) (by decide) (by decide)) dL_law_2554 ?_
  refine lv_aload_n hx hb dL_law_2555 rfl (lv_at hl 3 rfl) ?_
  refine lv_iload_n hx hb dL_law_2556 rfl (lv_at hl 0 rfl) ?_
  refine lv_iconst (v := 2) hx hb dL_law_2557 (by decide) ?_
  refine lv_iadd hx hb dL_law_2558 ?_
  refine lv_topi (fun x_10 ex_10 => ?_)
  obtain rfl : x_10 = 2 := ex_10.trans (by decide)
  refine va_sld hx hb hX hbl hbA hS (z_inC _ (k := 2) (by decide) (by decide)) dL_law_2559 ?_
  refine lv_aload_n hx hb dL_law_2560 rfl (lv_at hl 3 rfl) ?_
  refine lv_iload_n hx hb dL_law_2561 rfl (lv_at hl 0 rfl) ?_
  refine lv_iconst (v := 3) hx hb dL_law_2562 (by decide) ?_
  refine lv_iadd hx hb dL_law_2563 ?_
  refine lv_topi (fun x_11 ex_11 => ?_)
  obtain rfl : x_11 = 3 := ex_11.trans (by decide)
  refine va_sld hx hb hX hbl hbA hS (z_inC _ (k := 3) (by decide) (by decide)) dL_law_2564 ?_
  refine lv_i2l (v := (xs (Int32.toNatClampNeg 3)).toInt64) hx hb dL_law_2565 rfl ?_
  refine lv_bipush (v := 32) hx hb dL_law_2566 (by decide) ?_
  refine lv_lshl (v := _) hx hb dL_law_2568 rfl ?_
  refine lv_topl (fun x_12 ex_12 => ?_)
  refine lv_aload_n hx hb dL_law_2569 rfl (lv_at hl 3 rfl) ?_
  refine lv_iload_n hx hb dL_law_2570 rfl (lv_at hl 0 rfl) ?_
  refine lv_iconst (v := 4) hx hb dL_law_2571 (by decide) ?_
  refine lv_iadd hx hb dL_law_2572 ?_
  refine lv_topi (fun x_13 ex_13 => ?_)
  obtain rfl : x_13 = 4 := ex_13.trans (by decide)
  refine va_sld hx hb hX hbl hbA hS (z_inC _ (k := 4) (by decide) (by decide)) dL_law_2573 ?_
  refine lv_i2l (v := (xs (Int32.toNatClampNeg 4)).toInt64) hx hb dL_law_2574 rfl ?_
  refine lv_ldc2 (v := 4294967295) hx hb hown (hts _ zw_t9_88) dL_law_2575 ?_
  refine lv_land hx hb dL_law_2578 ?_
  refine lv_topl (fun x_14 ex_14 => ?_)
  refine lv_lor hx hb dL_law_2579 ?_
  refine lv_topl (fun x_15 ex_15 => ?_)
  have hPc := hP.sub (ws' := [(m0, .inr (10, [.int 0, .ref m_width, .ref m_many, .ref m_cells, .ref m_moved, .ref m_tape, .int 0, .int 0, .int 0, .int 0, .int 0, .long 0, .int 0, .int 0, .int 0, .int (-1), .ref m_lines, .ref m_hours, .ref m_courts, .ref m_in, .ref m_gates, .ref m_gate, .ref m_people, .ref m_at0, .ref m_stray, .ref m_set, .ref m_once, .ref m_truth, .ref m_known, .ref m_isKept, .int 0, .int (-1), .int 0, .int 0, .ref m_inside, .ref m_can, .ref m_fewest, .ref m_waysTo, .ref m_then, .ref m_two, .ref m_nextTwo, .ref m_three, .ref m_nextThree, .int (-1), .ref m_worth, .ref m_digit, .int 0, .long 0, .int 0, .int 0, .int 0, .int 0, .long 0])), (m_width, .inl (cm_width, 4, .inl f_width))]) [0, 1] rfl
  have hDc := hD.sub (ws' := [(m0, .inr (10, [.int 0, .ref m_width, .ref m_many, .ref m_cells, .ref m_moved, .ref m_tape, .int 0, .int 0, .int 0, .int 0, .int 0, .long 0, .int 0, .int 0, .int 0, .int (-1), .ref m_lines, .ref m_hours, .ref m_courts, .ref m_in, .ref m_gates, .ref m_gate, .ref m_people, .ref m_at0, .ref m_stray, .ref m_set, .ref m_once, .ref m_truth, .ref m_known, .ref m_isKept, .int 0, .int (-1), .int 0, .int 0, .ref m_inside, .ref m_can, .ref m_fewest, .ref m_waysTo, .ref m_then, .ref m_two, .ref m_nextTwo, .ref m_three, .ref m_nextThree, .int (-1), .ref m_worth, .ref m_digit, .int 0, .long 0, .int 0, .int 0, .int 0, .int 0, .long 0])), (m_width, .inl (cm_width, 4, .inl f_width))]) [0, 1] (by decide) rfl
  have hKc := hK.sub (tys' := [(cm_width, .int)]) [1] rfl
  have hFc := va_free (wc := [(m0, .inr (10, [.int 0, .ref m_width, .ref m_many, .ref m_cells, .ref m_moved, .ref m_tape, .int 0, .int 0, .int 0, .int 0, .int 0, .long 0, .int 0, .int 0, .int 0, .int (-1), .ref m_lines, .ref m_hours, .ref m_courts, .ref m_in, .ref m_gates, .ref m_gate, .ref m_people, .ref m_at0, .ref m_stray, .ref m_set, .ref m_once, .ref m_truth, .ref m_known, .ref m_isKept, .int 0, .int (-1), .int 0, .int 0, .ref m_inside, .ref m_can, .ref m_fewest, .ref m_waysTo, .ref m_then, .ref m_two, .ref m_nextTwo, .ref m_three, .ref m_nextThree, .int (-1), .ref m_worth, .ref m_digit, .int 0, .long 0, .int 0, .int 0, .int 0, .int 0, .long 0])), (m_width, .inl (cm_width, 4, .inl f_width))]) hD hS hA [0, 1] rfl
  refine va_calli (va_runV (As := [.int (xs (Int32.toNatClampNeg 1)), .int (xs (Int32.toNatClampNeg 2)), .long x_15]) (rest := [.int r_8]) ⟨hx, hb, hml, hown, hts⟩ (k_X10_write l dC dI m0 (xs (Int32.toNatClampNeg 1)) (xs (Int32.toNatClampNeg 2)) x_15 m_width m_many m_cells m_moved m_tape m_lines m_hours m_courts m_in m_gates m_gate m_people m_at0 m_stray m_set m_once m_truth m_known m_isKept m_inside m_can m_fewest m_waysTo m_then m_two m_nextTwo m_three m_nextThree m_worth m_digit cm_width f_width hfw0 hfw1 hfw2 hfw3 H.size) (cwV 3 hts (z_gV zw_t7_32 zw_t7_33 zw_t7_34 zw_t1_11 zw_t7_35) rfl rfl rfl (by decide +kernel) ⟨(Nat.le_of_ble_eq_true rfl), (Nat.le_of_ble_eq_true rfl)⟩) (z_preV hPc hKc hDc (ci := 10) (q0 := 0) rfl rfl) rfl rfl hl.1 rfl (lv_room (Nat.le_of_ble_eq_true rfl)) dL_law_2580 ⟨(Nat.le_of_ble_eq_true rfl), (Nat.le_of_ble_eq_true rfl)⟩) hS (fun q _ h => hFc q h) hFc (fun r_16 u t H1 locs ht hvm hw hB hz1 hk1 hS => ?_)
  have hB : zW dC dI [] [] (va_A [(m0, .inr (10, [.int 0, .ref m_width, .ref m_many, .ref m_cells, .ref m_moved, .ref m_tape, .int 0, .int 0, .int 0, .int 0, .int 0, .long 0, .int 0, .int 0, .int 0, .int (-1), .ref m_lines, .ref m_hours, .ref m_courts, .ref m_in, .ref m_gates, .ref m_gate, .ref m_people, .ref m_at0, .ref m_stray, .ref m_set, .ref m_once, .ref m_truth, .ref m_known, .ref m_isKept, .int 0, .int (-1), .int 0, .int 0, .ref m_inside, .ref m_can, .ref m_fewest, .ref m_waysTo, .ref m_then, .ref m_two, .ref m_nextTwo, .ref m_three, .ref m_nextThree, .int (-1), .ref m_worth, .ref m_digit, .int 0, .long 0, .int 0, .int 0, .int 0, .int 0, .long 0])), (m_width, .inl (cm_width, 4, .inl f_width))] H.size) t := z_none (va_K.moved hvm hK)
  obtain ⟨hP, hD, hK⟩ := z_after [] hB ht hvm hP hD hK [0, 1] [] rfl rfl (by decide) (by decide) hk1 hFc
  generalize H1 = H at hP hS ⊢
  have hP : va_P (dC, dI) vwCl [] H := hP
  have hD : va_D A [] := hD
  have hK : va_K (dC, dI) vwCl [(cA_sl, .object RX6), (cm_width, .int)] s := hK
  have hw_r_16 := hw
  refine lv_icmp_eq (tgt := 2651) hx hb dL_law_2583 (by decide) (fun _ => ?_) (fun q => absurd (Eq.trans hw_r_8 (Eq.symm hw_r_16)) q)
  exact law_tail C0 hA2 (Nat.le_of_ble_eq_true rfl) (Nat.le_of_ble_eq_true rfl) hS (lv_sub hl [0, 3] rfl)
set_option maxHeartbeats 4000000 in
set_option maxRecDepth 100000 in
theorem law_paste {p : Program} {e : Env} {s : State} {m : MethodId} {below : List Frame} {meth : Method} {c : Code} {l : Launch} {b : Nat} {xs : Nat → Int32} (C0 : lw_At p s m meth c b 6 xs) {dC : Nat → ClassId} {dI : Nat → Nat → Nat} {A : Nat → Prop} (hA : ∀ q, s.heap.size ≤ q → A q) (hA2 : ∀ q, A q → s.heap.size ≤ q) {h0 : Nat} {tp : Nat} {nw : Nat} {im : Nat} {sl : Nat} {rd : Nat} {wk : Nat} {fm : Nat} {mt : Nat} {ch : Nat} {dy : Nat} {cA_sl : ClassId} {f_sl : Nat → Option Nat} {r0 : Nat} {r1 : Nat} {r2 : Nat} {r3 : Nat} {n0 : Nat} {n1 : Nat} {n2 : Nat} {n3 : Nat} {m0 : Nat} {m_width : Nat} {m_many : Nat} {m_cells : Nat} {m_moved : Nat} {m_tape : Nat} {m_lines : Nat} {m_hours : Nat} {m_courts : Nat} {m_in : Nat} {m_gates : Nat} {m_gate : Nat} {m_people : Nat} {m_at0 : Nat} {m_stray : Nat} {m_set : Nat} {m_once : Nat} {m_truth : Nat} {m_known : Nat} {m_isKept : Nat} {m_inside : Nat} {m_can : Nat} {m_fewest : Nat} {m_waysTo : Nat} {m_then : Nat} {m_two : Nat} {m_nextTwo : Nat} {m_three : Nat} {m_nextThree : Nat} {m_worth : Nat} {m_digit : Nat} {cm_width : ClassId} {f_width : Nat → Int32} (hsl0 : f_sl 0 = some r0) (hsl1 : f_sl 1 = some r1) (hsl2 : f_sl 2 = some r2) (hsl3 : f_sl 3 = some r3) (hfw0 : f_width 0 = (-1)) (hfw1 : f_width 1 = (-1)) (hfw2 : f_width 2 = (-1)) (hfw3 : f_width 3 = (-1)) {H : Heap} {locs : List Loc} {ls : Array Slot} (hP : va_P (dC, dI) vwCl [(h0, .inr (9, [.ref tp, .int 0, .int 0, .int (-1), .ref nw, .ref im, .ref sl, .ref rd, .ref wk, .ref fm, .ref mt, .ref ch, .ref dy])), (sl, .inl (cA_sl, 4, .inr (.inr (.inr (.inr f_sl))))), (r0, .inr (6, [.int (-1), .int 0, .ref n0])), (r1, .inr (6, [.int (-1), .int 0, .ref n1])), (r2, .inr (6, [.int (-1), .int 0, .ref n2])), (r3, .inr (6, [.int (-1), .int 0, .ref n3])), (m0, .inr (10, [.int 0, .ref m_width, .ref m_many, .ref m_cells, .ref m_moved, .ref m_tape, .int 0, .int 0, .int 0, .int 0, .int 0, .long 0, .int 0, .int 0, .int 0, .int (-1), .ref m_lines, .ref m_hours, .ref m_courts, .ref m_in, .ref m_gates, .ref m_gate, .ref m_people, .ref m_at0, .ref m_stray, .ref m_set, .ref m_once, .ref m_truth, .ref m_known, .ref m_isKept, .int 0, .int (-1), .int 0, .int 0, .ref m_inside, .ref m_can, .ref m_fewest, .ref m_waysTo, .ref m_then, .ref m_two, .ref m_nextTwo, .ref m_three, .ref m_nextThree, .int (-1), .ref m_worth, .ref m_digit, .int 0, .long 0, .int 0, .int 0, .int 0, .int 0, .long 0])), (m_width, .inl (cm_width, 4, .inl f_width))] H) (hD : va_D A [(h0, .inr (9, [.ref tp, .int 0, .int 0, .int (-1), .ref nw, .ref im, .ref sl, .ref rd, .ref wk, .ref fm, .ref mt, .ref ch, .ref dy])), (sl, .inl (cA_sl, 4, .inr (.inr (.inr (.inr f_sl))))), (r0, .inr (6, [.int (-1), .int 0, .ref n0])), (r1, .inr (6, [.int (-1), .int 0, .ref n1])), (r2, .inr (6, [.int (-1), .int 0, .ref n2])), (r3, .inr (6, [.int (-1), .int 0, .ref n3])), (m0, .inr (10, [.int 0, .ref m_width, .ref m_many, .ref m_cells, .ref m_moved, .ref m_tape, .int 0, .int 0, .int 0, .int 0, .int 0, .long 0, .int 0, .int 0, .int 0, .int (-1), .ref m_lines, .ref m_hours, .ref m_courts, .ref m_in, .ref m_gates, .ref m_gate, .ref m_people, .ref m_at0, .ref m_stray, .ref m_set, .ref m_once, .ref m_truth, .ref m_known, .ref m_isKept, .int 0, .int (-1), .int 0, .int 0, .ref m_inside, .ref m_can, .ref m_fewest, .ref m_waysTo, .ref m_then, .ref m_two, .ref m_nextTwo, .ref m_three, .ref m_nextThree, .int (-1), .ref m_worth, .ref m_digit, .int 0, .long 0, .int 0, .int 0, .int 0, .int 0, .long 0])), (m_width, .inl (cm_width, 4, .inl f_width))]) (hK : va_K (dC, dI) vwCl [(cA_sl, .object RX6), (cm_width, .int)] s) (hS : va_S A s.heap H locs) (hl : lv_has ls 4 [(3, .int 0), (2, .ref m0), (1, .ref h0), (0, .ref b)]) : W p l e room_1 s m #[Value.ref b] below meth c H locs 166 101284 (lw_Z below #[Value.ref b] s) (F0 m 2588 ls []) := by
  obtain ⟨hx, hb, hr, hml, hown, hts, hX, hbl, hlocks, hgv⟩ := id C0
  have hown : s.vm.findClass RL = some m.cls := hown
  have hb : c.code = cL_law := hb
  have hts : ∀ w ∈ zT, w.before #[Value.ref b] s = true := fun w h => hts w (zT_in w h)
  have hbA : ¬ A b := fun q => absurd (hA2 b q) (Nat.not_le.mpr hbl)
  refine lv_aload_n hx hb dL_law_2588 rfl (lv_at hl 2 rfl) ?_
  refine lv_aload_n hx hb dL_law_2589 rfl (lv_at hl 3 rfl) ?_
  refine lv_iload_n hx hb dL_law_2590 rfl (lv_at hl 0 rfl) ?_
  refine lv_iconst (v := 1) hx hb dL_law_2591 (by decide) ?_
  refine lv_iadd hx hb dL_law_2592 ?_
  refine lv_topi (fun x_1 ex_1 => ?_)
  obtain rfl : x_1 = 1 := ex_1.trans (by decide)
  refine va_sld hx hb hX hbl hbA hS (z_inC _ (k := 1) (by decide) (by decide)) dL_law_2593 ?_
  refine lv_aload_n hx hb dL_law_2594 rfl (lv_at hl 3 rfl) ?_
  refine lv_iload_n hx hb dL_law_2595 rfl (lv_at hl 0 rfl) ?_
  refine lv_iconst (v := 2) hx hb dL_law_2596 (by decide) ?_
  refine lv_iadd hx hb dL_law_2597 ?_
  refine lv_topi (fun x_2 ex_2 => ?_)
  obtain rfl : x_2 = 2 := ex_2.trans (by decide)
  refine va_sld hx hb hX hbl hbA hS (z_inC _ (k := 2) (by decide) (by decide)) dL_law_2598 ?_
  refine lv_aload_n hx hb dL_law_2599 rfl (lv_at hl 3 rfl) ?_
  refine lv_iload_n hx hb dL_law_2600 rfl (lv_at hl 0 rfl) ?_
  refine lv_iconst (v := 3) hx hb dL_law_2601 (by decide) ?_
  refine lv_iadd hx hb dL_law_2602 ?_
  refine lv_topi (fun x_3 ex_3 => ?_)
  obtain rfl : x_3 = 3 := ex_3.trans (by decide)
  refine va_sld hx hb hX hbl hbA hS (z_inC _ (k := 3) (by decide) (by decide)) dL_law_2603 ?_
  refine lv_aload_n hx hb dL_law_2604 rfl (lv_at hl 3 rfl) ?_
  refine lv_iload_n hx hb dL_law_2605 rfl (lv_at hl 0 rfl) ?_
  refine lv_iconst (v := 4) hx hb dL_law_2606 (by decide) ?_
  refine lv_iadd hx hb dL_law_2607 ?_
  refine lv_topi (fun x_4 ex_4 => ?_)
  obtain rfl : x_4 = 4 := ex_4.trans (by decide)
  refine va_sld hx hb hX hbl hbA hS (z_inC _ (k := 4) (by decide) (by decide)) dL_law_2608 ?_
  refine lv_aload_n hx hb dL_law_2609 rfl (lv_at hl 3 rfl) ?_
  refine lv_iload_n hx hb dL_law_2610 rfl (lv_at hl 0 rfl) ?_
  refine lv_iconst (v := 5) hx hb dL_law_2611 (by decide) ?_
  refine lv_iadd hx hb dL_law_2612 ?_
  refine lv_topi (fun x_5 ex_5 => ?_)
  obtain rfl : x_5 = 5 := ex_5.trans (by decide)
  refine va_sld hx hb hX hbl hbA hS (z_inC _ (k := 5) (by decide) (by decide)) dL_law_2613 ?_
  have hPc := hP.sub (ws' := [(h0, .inr (9, [.ref tp, .int 0, .int 0, .int (-1), .ref nw, .ref im, .ref sl, .ref rd, .ref wk, .ref fm, .ref mt, .ref ch, .ref dy])), (sl, .inl (cA_sl, 4, .inr (.inr (.inr (.inr f_sl))))), (r0, .inr (6, [.int (-1), .int 0, .ref n0])), (r1, .inr (6, [.int (-1), .int 0, .ref n1])), (r2, .inr (6, [.int (-1), .int 0, .ref n2])), (r3, .inr (6, [.int (-1), .int 0, .ref n3]))]) [0, 1, 2, 3, 4, 5] rfl
  have hDc := hD.sub (ws' := [(h0, .inr (9, [.ref tp, .int 0, .int 0, .int (-1), .ref nw, .ref im, .ref sl, .ref rd, .ref wk, .ref fm, .ref mt, .ref ch, .ref dy])), (sl, .inl (cA_sl, 4, .inr (.inr (.inr (.inr f_sl))))), (r0, .inr (6, [.int (-1), .int 0, .ref n0])), (r1, .inr (6, [.int (-1), .int 0, .ref n1])), (r2, .inr (6, [.int (-1), .int 0, .ref n2])), (r3, .inr (6, [.int (-1), .int 0, .ref n3]))]) [0, 1, 2, 3, 4, 5] (by decide) rfl
  have hKc := hK.sub (tys' := [(cA_sl, .object RX6)]) [0] rfl
  have hFc := va_free (wc := [(h0, .inr (9, [.ref tp, .int 0, .int 0, .int (-1), .ref nw, .ref im, .ref sl, .ref rd, .ref wk, .ref fm, .ref mt, .ref ch, .ref dy])), (sl, .inl (cA_sl, 4, .inr (.inr (.inr (.inr f_sl))))), (r0, .inr (6, [.int (-1), .int 0, .ref n0])), (r1, .inr (6, [.int (-1), .int 0, .ref n1])), (r2, .inr (6, [.int (-1), .int 0, .ref n2])), (r3, .inr (6, [.int (-1), .int 0, .ref n3]))]) hD hS hA [0, 1, 2, 3, 4, 5] rfl
  refine va_calli (va_runV (As := [.int (xs (Int32.toNatClampNeg 1)), .int (xs (Int32.toNatClampNeg 2)), .int (xs (Int32.toNatClampNeg 3)), .int (xs (Int32.toNatClampNeg 4)), .int (xs (Int32.toNatClampNeg 5))]) (rest := []) ⟨hx, hb, hml, hown, hts⟩ (k_X9_paste l dC dI h0 (xs (Int32.toNatClampNeg 1)) (xs (Int32.toNatClampNeg 2)) (xs (Int32.toNatClampNeg 3)) (xs (Int32.toNatClampNeg 4)) (xs (Int32.toNatClampNeg 5)) tp nw im sl rd wk fm mt ch dy cA_sl f_sl r0 r1 r2 r3 n0 n1 n2 n3 hsl0 hsl1 hsl2 hsl3 H.size) (cwV 5 hts (z_gV zw_t6_88 zw_t6_89 zw_t6_90 zw_t1_1 zw_t6_91) rfl rfl rfl (by decide +kernel) ⟨(Nat.le_of_ble_eq_true rfl), (Nat.le_of_ble_eq_true rfl)⟩) (z_preV hPc hKc hDc (ci := 9) (q0 := 0) rfl rfl) rfl rfl hl.1 rfl (lv_room (Nat.le_of_ble_eq_true rfl)) dL_law_2614 ⟨(Nat.le_of_ble_eq_true rfl), (Nat.le_of_ble_eq_true rfl)⟩) hS (fun q _ h => hFc q h) hFc (fun r_6 u t H1 locs ht hvm hw hB hz1 hk1 hS => ?_)
  have hB : zW dC dI [] [] (va_A [(h0, .inr (9, [.ref tp, .int 0, .int 0, .int (-1), .ref nw, .ref im, .ref sl, .ref rd, .ref wk, .ref fm, .ref mt, .ref ch, .ref dy])), (sl, .inl (cA_sl, 4, .inr (.inr (.inr (.inr f_sl))))), (r0, .inr (6, [.int (-1), .int 0, .ref n0])), (r1, .inr (6, [.int (-1), .int 0, .ref n1])), (r2, .inr (6, [.int (-1), .int 0, .ref n2])), (r3, .inr (6, [.int (-1), .int 0, .ref n3]))] H.size) t := z_none (va_K.moved hvm hK)
  obtain ⟨hP, hD, hK⟩ := z_after [(m0, .inr (10, [.int 0, .ref m_width, .ref m_many, .ref m_cells, .ref m_moved, .ref m_tape, .int 0, .int 0, .int 0, .int 0, .int 0, .long 0, .int 0, .int 0, .int 0, .int (-1), .ref m_lines, .ref m_hours, .ref m_courts, .ref m_in, .ref m_gates, .ref m_gate, .ref m_people, .ref m_at0, .ref m_stray, .ref m_set, .ref m_once, .ref m_truth, .ref m_known, .ref m_isKept, .int 0, .int (-1), .int 0, .int 0, .ref m_inside, .ref m_can, .ref m_fewest, .ref m_waysTo, .ref m_then, .ref m_two, .ref m_nextTwo, .ref m_three, .ref m_nextThree, .int (-1), .ref m_worth, .ref m_digit, .int 0, .long 0, .int 0, .int 0, .int 0, .int 0, .long 0])), (m_width, .inl (cm_width, 4, .inl f_width))] hB ht hvm hP hD hK [0, 1, 2, 3, 4, 5] [6, 7] rfl rfl (by decide) (by decide) hk1 hFc
  generalize H1 = H at hP hS ⊢
  have hP : va_P (dC, dI) vwCl [(m0, .inr (10, [.int 0, .ref m_width, .ref m_many, .ref m_cells, .ref m_moved, .ref m_tape, .int 0, .int 0, .int 0, .int 0, .int 0, .long 0, .int 0, .int 0, .int 0, .int (-1), .ref m_lines, .ref m_hours, .ref m_courts, .ref m_in, .ref m_gates, .ref m_gate, .ref m_people, .ref m_at0, .ref m_stray, .ref m_set, .ref m_once, .ref m_truth, .ref m_known, .ref m_isKept, .int 0, .int (-1), .int 0, .int 0, .ref m_inside, .ref m_can, .ref m_fewest, .ref m_waysTo, .ref m_then, .ref m_two, .ref m_nextTwo, .ref m_three, .ref m_nextThree, .int (-1), .ref m_worth, .ref m_digit, .int 0, .long 0, .int 0, .int 0, .int 0, .int 0, .long 0])), (m_width, .inl (cm_width, 4, .inl f_width))] H := hP
  have hD : va_D A [(m0, .inr (10, [.int 0, .ref m_width, .ref m_many, .ref m_cells, .ref m_moved, .ref m_tape, .int 0, .int 0, .int 0, .int 0, .int 0, .long 0, .int 0, .int 0, .int 0, .int (-1), .ref m_lines, .ref m_hours, .ref m_courts, .ref m_in, .ref m_gates, .ref m_gate, .ref m_people, .ref m_at0, .ref m_stray, .ref m_set, .ref m_once, .ref m_truth, .ref m_known, .ref m_isKept, .int 0, .int (-1), .int 0, .int 0, .ref m_inside, .ref m_can, .ref m_fewest, .ref m_waysTo, .ref m_then, .ref m_two, .ref m_nextTwo, .ref m_three, .ref m_nextThree, .int (-1), .ref m_worth, .ref m_digit, .int 0, .long 0, .int 0, .int 0, .int 0, .int 0, .long 0])), (m_width, .inl (cm_width, 4, .inl f_width))] := hD
  have hK : va_K (dC, dI) vwCl [(cA_sl, .object RX6), (cm_width, .int)] s := hK
  have hw_r_6 := hw
  refine lv_aload_n hx hb dL_law_2617 rfl (lv_at hl 1 rfl) ?_
  refine lv_aload_n hx hb dL_law_2618 rfl (lv_at hl 3 rfl) ?_
  refine lv_iload_n hx hb dL_law_2619 rfl (lv_at hl 0 rfl) ?_
  refine lv_iconst (v := 1) hx hb dL_law_2620 (by decide) ?_
  refine lv_iadd hx hb dL_law_2621 ?_
  refine lv_topi (fun x_7 ex_7 => ?_)
  obtain rfl : x_7 = 1 := ex_7.trans (by decide)
  refine va_sld hx hb hX hbl hbA hS (z_inC _ (k := 1) (by decide) (by decide)) dL_law_2622 ?_
  refine lv_aload_n hx hb dL_law_2623 rfl (lv_at hl 3 rfl) ?_
  refine lv_iload_n hx hb dL_law_2624 rfl (lv_at hl 0 rfl) ?_
  refine lv_iconst (v := 2) hx hb dL_law_2625 (by decide) ?_
  refine lv_iadd hx hb dL_law_2626 ?_
  refine lv_topi (fun x_8 ex_8 => ?_)
  obtain rfl : x_8 = 2 := ex_8.trans (by decide)
  refine va_sld hx hb hX hbl hbA hS (z_inC _ (k := 2) (by decide) (by decide)) dL_law_2627 ?_
  refine lv_aload_n hx hb dL_law_2628 rfl (lv_at hl 3 rfl) ?_
  refine lv_iload_n hx hb dL_law_2629 rfl (lv_at hl 0 rfl) ?_
  refine lv_iconst (v := 3) hx hb dL_law_2630 (by decide) ?_
  refine lv_iadd hx hb dL_law_2631 ?_
  refine lv_topi (fun x_9 ex_9 => ?_)
  obtain rfl : x_9 = 3 := ex_9.trans (by decide)
  refine va_sld hx hb hX hbl hbA hS (z_inC _ (k := 3) (by decide) (by decide)) dL_law_2632 ?_
  refine lv_aload_n hx hb dL_law_2633 rfl (lv_at hl 3 rfl) ?_
  refine lv_iload_n hx hb dL_law_2634 rfl (lv_at hl 0 rfl) ?_
  refine lv_iconst (v := 4) hx hb dL_law_2635 (by decide) ?_
  refine lv_iadd hx hb dL_law_2636 ?_
  refine lv_topi (fun x_10 ex_10 => ?_)
  obtain rfl : x_10 = 4 := ex_10.trans (by decide)
  refine va_sld hx hb hX hbl hbA hS (z_inC _ (k := 4) (by decide) (by decide)) dL_law_2637 ?_
  refine lv_aload_n hx hb dL_law_2638 rfl (lv_at hl 3 rfl) ?_
  refine lv_iload_n hx hb dL_law_2639 rfl (lv_at hl 0 rfl) ?_
  refine lv_iconst (v := 5) hx hb dL_law_2640 (by decide) ?_
  refine lv_iadd hx hb dL_law_2641 ?_
  refine lv_topi (fun x_11 ex_11 => ?_)
  obtain rfl : x_11 = 5 := ex_11.trans (by decide)
  refine va_sld hx hb hX hbl hbA hS (z_inC _ (k := 5) (by decide) (by decide)) dL_law_2642 ?_
  have hPc := hP.sub (ws' := [(m0, .inr (10, [.int 0, .ref m_width, .ref m_many, .ref m_cells, .ref m_moved, .ref m_tape, .int 0, .int 0, .int 0, .int 0, .int 0, .long 0, .int 0, .int 0, .int 0, .int (-1), .ref m_lines, .ref m_hours, .ref m_courts, .ref m_in, .ref m_gates, .ref m_gate, .ref m_people, .ref m_at0, .ref m_stray, .ref m_set, .ref m_once, .ref m_truth, .ref m_known, .ref m_isKept, .int 0, .int (-1), .int 0, .int 0, .ref m_inside, .ref m_can, .ref m_fewest, .ref m_waysTo, .ref m_then, .ref m_two, .ref m_nextTwo, .ref m_three, .ref m_nextThree, .int (-1), .ref m_worth, .ref m_digit, .int 0, .long 0, .int 0, .int 0, .int 0, .int 0, .long 0])), (m_width, .inl (cm_width, 4, .inl f_width))]) [0, 1] rfl
  have hDc := hD.sub (ws' := [(m0, .inr (10, [.int 0, .ref m_width, .ref m_many, .ref m_cells, .ref m_moved, .ref m_tape, .int 0, .int 0, .int 0, .int 0, .int 0, .long 0, .int 0, .int 0, .int 0, .int (-1), .ref m_lines, .ref m_hours, .ref m_courts, .ref m_in, .ref m_gates, .ref m_gate, .ref m_people, .ref m_at0, .ref m_stray, .ref m_set, .ref m_once, .ref m_truth, .ref m_known, .ref m_isKept, .int 0, .int (-1), .int 0, .int 0, .ref m_inside, .ref m_can, .ref m_fewest, .ref m_waysTo, .ref m_then, .ref m_two, .ref m_nextTwo, .ref m_three, .ref m_nextThree, .int (-1), .ref m_worth, .ref m_digit, .int 0, .long 0, .int 0, .int 0, .int 0, .int 0, .long 0])), (m_width, .inl (cm_width, 4, .inl f_width))]) [0, 1] (by decide) rfl
  have hKc := hK.sub (tys' := [(cm_width, .int)]) [1] rfl
  have hFc := va_free (wc := [(m0, .inr (10, [.int 0, .ref m_width, .ref m_many, .ref m_cells, .ref m_moved, .ref m_tape, .int 0, .int 0, .int 0, .int 0, .int 0, .long 0, .int 0, .int 0, .int 0, .int (-1), .ref m_lines, .ref m_hours, .ref m_courts, .ref m_in, .ref m_gates, .ref m_gate, .ref m_people, .ref m_at0, .ref m_stray, .ref m_set, .ref m_once, .ref m_truth, .ref m_known, .ref m_isKept, .int 0, .int (-1), .int 0, .int 0, .ref m_inside, .ref m_can, .ref m_fewest, .ref m_waysTo, .ref m_then, .ref m_two, .ref m_nextTwo, .ref m_three, .ref m_nextThree, .int (-1), .ref m_worth, .ref m_digit, .int 0, .long 0, .int 0, .int 0, .int 0, .int 0, .long 0])), (m_width, .inl (cm_width, 4, .inl f_width))]) hD hS hA [0, 1] rfl
  refine va_calli (va_runV (As := [.int (xs (Int32.toNatClampNeg 1)), .int (xs (Int32.toNatClampNeg 2)), .int (xs (Int32.toNatClampNeg 3)), .int (xs (Int32.toNatClampNeg 4)), .int (xs (Int32.toNatClampNeg 5))]) (rest := [.int r_6]) ⟨hx, hb, hml, hown, hts⟩ (k_X10_paste l dC dI m0 (xs (Int32.toNatClampNeg 1)) (xs (Int32.toNatClampNeg 2)) (xs (Int32.toNatClampNeg 3)) (xs (Int32.toNatClampNeg 4)) (xs (Int32.toNatClampNeg 5)) m_width m_many m_cells m_moved m_tape m_lines m_hours m_courts m_in m_gates m_gate m_people m_at0 m_stray m_set m_once m_truth m_known m_isKept m_inside m_can m_fewest m_waysTo m_then m_two m_nextTwo m_three m_nextThree m_worth m_digit cm_width f_width hfw0 hfw1 hfw2 hfw3 H.size) (cwV 5 hts (z_gV zw_t7_39 zw_t7_40 zw_t7_41 zw_t1_11 zw_t7_42) rfl rfl rfl (by decide +kernel) ⟨(Nat.le_of_ble_eq_true rfl), (Nat.le_of_ble_eq_true rfl)⟩) (z_preV hPc hKc hDc (ci := 10) (q0 := 0) rfl rfl) rfl rfl hl.1 rfl (lv_room (Nat.le_of_ble_eq_true rfl)) dL_law_2643 ⟨(Nat.le_of_ble_eq_true rfl), (Nat.le_of_ble_eq_true rfl)⟩) hS (fun q _ h => hFc q h) hFc (fun r_12 u t H1 locs ht hvm hw hB hz1 hk1 hS => ?_)
  have hB : zW dC dI [] [] (va_A [(m0, .inr (10, [.int 0, .ref m_width, .ref m_many, .ref m_cells, .ref m_moved, .ref m_tape, .int 0, .int 0, .int 0, .int 0, .int 0, .long 0, .int 0, .int 0, .int 0, .int (-1), .ref m_lines, .ref m_hours, .ref m_courts, .ref m_in, .ref m_gates, .ref m_gate, .ref m_people, .ref m_at0, .ref m_stray, .ref m_set, .ref m_once, .ref m_truth, .ref m_known, .ref m_isKept, .int 0, .int (-1), .int 0, .int 0, .ref m_inside, .ref m_can, .ref m_fewest, .ref m_waysTo, .ref m_then, .ref m_two, .ref m_nextTwo, .ref m_three, .ref m_nextThree, .int (-1), .ref m_worth, .ref m_digit, .int 0, .long 0, .int 0, .int 0, .int 0, .int 0, .long 0])), (m_width, .inl (cm_width, 4, .inl f_width))] H.size) t := z_none (va_K.moved hvm hK)
  obtain ⟨hP, hD, hK⟩ := z_after [] hB ht hvm hP hD hK [0, 1] [] rfl rfl (by decide) (by decide) hk1 hFc
  generalize H1 = H at hP hS ⊢
  have hP : va_P (dC, dI) vwCl [] H := hP
  have hD : va_D A [] := hD
  have hK : va_K (dC, dI) vwCl [(cA_sl, .object RX6), (cm_width, .int)] s := hK
  have hw_r_12 := hw
  refine lv_icmp_eq (tgt := 2651) hx hb dL_law_2646 (by decide) (fun _ => ?_) (fun q => absurd (Eq.trans hw_r_6 (Eq.symm hw_r_12)) q)
  exact law_tail C0 hA2 (Nat.le_of_ble_eq_true rfl) (Nat.le_of_ble_eq_true rfl) hS (lv_sub hl [0, 3] rfl)
