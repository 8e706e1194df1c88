theorem zw_t4_100 : Cond.instanceMethod yX9_latest ∈ zT := zt_4 (List.mem_of_getElem? (i := 100) (by decide +kernel)) (by decide +kernel)
theorem zw_t4_101 : Cond.selects RX9 yX9_latest yX9_latest ∈ zT := zt_4 (List.mem_of_getElem? (i := 101) (by decide +kernel)) (by decide +kernel)
theorem zw_t4_102 : Cond.code yX9_latest cX9_latest 3 (some .int) ∈ zT := zt_4 (List.mem_of_getElem? (i := 102) (by decide +kernel)) (by decide +kernel)
theorem zw_t4_107 : Cond.methodLink RL 91 yX9_need ∈ zT := zt_4 (List.mem_of_getElem? (i := 107) (by decide +kernel)) (by decide +kernel)
theorem zw_t4_108 : Cond.instanceMethod yX9_need ∈ zT := zt_4 (List.mem_of_getElem? (i := 108) (by decide +kernel)) (by decide +kernel)
theorem zw_t4_109 : Cond.selects RX9 yX9_need yX9_need ∈ zT := zt_4 (List.mem_of_getElem? (i := 109) (by decide +kernel)) (by decide +kernel)
theorem zw_t4_110 : Cond.code yX9_need cX9_need 7 (some .int) ∈ zT := zt_4 (List.mem_of_getElem? (i := 110) (by decide +kernel)) (by decide +kernel)
theorem zw_t4_111 : Cond.methodLink RL 95 yX9_fewest ∈ zT := zt_4 (List.mem_of_getElem? (i := 111) (by decide +kernel)) (by decide +kernel)
theorem zw_t4_112 : Cond.instanceMethod yX9_fewest ∈ zT := zt_4 (List.mem_of_getElem? (i := 112) (by decide +kernel)) (by decide +kernel)
theorem zw_t4_113 : Cond.selects RX9 yX9_fewest yX9_fewest ∈ zT := zt_4 (List.mem_of_getElem? (i := 113) (by decide +kernel)) (by decide +kernel)
theorem zw_t4_114 : Cond.code yX9_fewest cX9_fewest 7 (some .int) ∈ zT := zt_4 (List.mem_of_getElem? (i := 114) (by decide +kernel)) (by decide +kernel)
theorem zw_t4_167 : Cond.methodLink RL 99 yX9_every ∈ zT := zt_4 (List.mem_of_getElem? (i := 167) (by decide +kernel)) (by decide +kernel)
theorem zw_t4_168 : Cond.instanceMethod yX9_every ∈ zT := zt_4 (List.mem_of_getElem? (i := 168) (by decide +kernel)) (by decide +kernel)
theorem zw_t4_169 : Cond.selects RX9 yX9_every yX9_every ∈ zT := zt_4 (List.mem_of_getElem? (i := 169) (by decide +kernel)) (by decide +kernel)
theorem zw_t4_170 : Cond.code yX9_every cX9_every 3 (some .int) ∈ zT := zt_4 (List.mem_of_getElem? (i := 170) (by decide +kernel)) (by decide +kernel)
theorem zw_t4_171 : Cond.methodLink RL 103 yX9_ways ∈ zT := zt_4 (List.mem_of_getElem? (i := 171) (by decide +kernel)) (by decide +kernel)
theorem zw_t4_172 : Cond.instanceMethod yX9_ways ∈ zT := zt_4 (List.mem_of_getElem? (i := 172) (by decide +kernel)) (by decide +kernel)
theorem zw_t4_173 : Cond.selects RX9 yX9_ways yX9_ways ∈ zT := zt_4 (List.mem_of_getElem? (i := 173) (by decide +kernel)) (by decide +kernel)
theorem zw_t4_174 : Cond.code yX9_ways cX9_ways 6 (some .int) ∈ zT := zt_4 (List.mem_of_getElem? (i := 174) (by decide +kernel)) (by decide +kernel)
theorem zw_t4_185 : Cond.methodLink RL 107 yX9_out ∈ zT := zt_4 (List.mem_of_getElem? (i := 185) (by decide +kernel)) (by decide +kernel)
theorem zw_t4_186 : Cond.instanceMethod yX9_out ∈ zT := zt_4 (List.mem_of_getElem? (i := 186) (by decide +kernel)) (by decide +kernel)
theorem zw_t4_187 : Cond.selects RX9 yX9_out yX9_out ∈ zT := zt_4 (List.mem_of_getElem? (i := 187) (by decide +kernel)) (by decide +kernel)
theorem zw_t4_188 : Cond.code yX9_out cX9_out 6 (some .int) ∈ zT := zt_4 (List.mem_of_getElem? (i := 188) (by decide +kernel)) (by decide +kernel)
theorem zw_t4_193 : Cond.methodLink RL 111 yX9_alone ∈ zT := zt_4 (List.mem_of_getElem? (i := 193) (by decide +kernel)) (by decide +kernel)
theorem zw_t4_194 : Cond.instanceMethod yX9_alone ∈ zT := zt_4 (List.mem_of_getElem? (i := 194) (by decide +kernel)) (by decide +kernel)
theorem zw_t4_195 : Cond.selects RX9 yX9_alone yX9_alone ∈ zT := zt_4 (List.mem_of_getElem? (i := 195) (by decide +kernel)) (by decide +kernel)
theorem zw_t4_196 : Cond.code yX9_alone cX9_alone 6 (some .int) ∈ zT := zt_4 (List.mem_of_getElem? (i := 196) (by decide +kernel)) (by decide +kernel)
theorem zw_t4_205 : Cond.methodLink RL 115 yX9_both ∈ zT := zt_4 (List.mem_of_getElem? (i := 205) (by decide +kernel)) (by decide +kernel)
theorem zw_t4_228 : Cond.methodLink RL 119 yX9_friend ∈ zT := zt_4 (List.mem_of_getElem? (i := 228) (by decide +kernel)) (by decide +kernel)
theorem zw_t4_229 : Cond.instanceMethod yX9_friend ∈ zT := zt_4 (List.mem_of_getElem? (i := 229) (by decide +kernel)) (by decide +kernel)
theorem zw_t4_230 : Cond.selects RX9 yX9_friend yX9_friend ∈ zT := zt_4 (List.mem_of_getElem? (i := 230) (by decide +kernel)) (by decide +kernel)
theorem zw_t4_231 : Cond.code yX9_friend cX9_friend 8 (some .int) ∈ zT := zt_4 (List.mem_of_getElem? (i := 231) (by decide +kernel)) (by decide +kernel)
theorem zw_t4_234 : Cond.methodLink RL 123 yX9_teach ∈ zT := zt_4 (List.mem_of_getElem? (i := 234) (by decide +kernel)) (by decide +kernel)
theorem zw_t4_235 : Cond.instanceMethod yX9_teach ∈ zT := zt_4 (List.mem_of_getElem? (i := 235) (by decide +kernel)) (by decide +kernel)
theorem zw_t4_236 : Cond.selects RX9 yX9_teach yX9_teach ∈ zT := zt_4 (List.mem_of_getElem? (i := 236) (by decide +kernel)) (by decide +kernel)
theorem zw_t4_237 : Cond.code yX9_teach cX9_teach 11 (some .int) ∈ zT := zt_4 (List.mem_of_getElem? (i := 237) (by decide +kernel)) (by decide +kernel)
theorem zw_t4_57 : Cond.methodLink RL 75 yX9_gates ∈ zT := zt_4 (List.mem_of_getElem? (i := 57) (by decide +kernel)) (by decide +kernel)
theorem zw_t4_58 : Cond.instanceMethod yX9_gates ∈ zT := zt_4 (List.mem_of_getElem? (i := 58) (by decide +kernel)) (by decide +kernel)
theorem zw_t4_59 : Cond.selects RX9 yX9_gates yX9_gates ∈ zT := zt_4 (List.mem_of_getElem? (i := 59) (by decide +kernel)) (by decide +kernel)
theorem zw_t4_60 : Cond.code yX9_gates cX9_gates 4 (some .int) ∈ zT := zt_4 (List.mem_of_getElem? (i := 60) (by decide +kernel)) (by decide +kernel)
theorem zw_t4_79 : Cond.methodLink RL 79 yX9_way ∈ zT := zt_4 (List.mem_of_getElem? (i := 79) (by decide +kernel)) (by decide +kernel)
theorem zw_t4_80 : Cond.instanceMethod yX9_way ∈ zT := zt_4 (List.mem_of_getElem? (i := 80) (by decide +kernel)) (by decide +kernel)
theorem zw_t4_81 : Cond.selects RX9 yX9_way yX9_way ∈ zT := zt_4 (List.mem_of_getElem? (i := 81) (by decide +kernel)) (by decide +kernel)
theorem zw_t4_82 : Cond.code yX9_way cX9_way 6 (some .int) ∈ zT := zt_4 (List.mem_of_getElem? (i := 82) (by decide +kernel)) (by decide +kernel)
theorem zw_t4_91 : Cond.methodLink RL 83 yX9_reach ∈ zT := zt_4 (List.mem_of_getElem? (i := 91) (by decide +kernel)) (by decide +kernel)
theorem zw_t4_92 : Cond.instanceMethod yX9_reach ∈ zT := zt_4 (List.mem_of_getElem? (i := 92) (by decide +kernel)) (by decide +kernel)
theorem zw_t4_93 : Cond.selects RX9 yX9_reach yX9_reach ∈ zT := zt_4 (List.mem_of_getElem? (i := 93) (by decide +kernel)) (by decide +kernel)
theorem zw_t4_94 : Cond.code yX9_reach cX9_reach 3 (some .int) ∈ zT := zt_4 (List.mem_of_getElem? (i := 94) (by decide +kernel)) (by decide +kernel)
theorem zw_t4_99 : Cond.methodLink RL 87 yX9_latest ∈ zT := zt_4 (List.mem_of_getElem? (i := 99) (by decide +kernel)) (by decide +kernel)
theorem zw_t5_1 : Cond.methodLink RL 127 yX9_host ∈ zT := zt_5 (List.mem_of_getElem? (i := 1) (by decide +kernel)) (by decide +kernel)
theorem zw_t5_2 : Cond.instanceMethod yX9_host ∈ zT := zt_5 (List.mem_of_getElem? (i := 2) (by decide +kernel)) (by decide +kernel)
theorem zw_t5_3 : Cond.selects RX9 yX9_host yX9_host ∈ zT := zt_5 (List.mem_of_getElem? (i := 3) (by decide +kernel)) (by decide +kernel)
theorem zw_t5_4 : Cond.code yX9_host cX9_host 12 (some .int) ∈ zT := zt_5 (List.mem_of_getElem? (i := 4) (by decide +kernel)) (by decide +kernel)
theorem zw_t8_100 : Cond.methodLink RL 118 yX10_both ∈ zT := zt_8 (List.mem_of_getElem? (i := 100) (by decide +kernel)) (by decide +kernel)
theorem zw_t8_101 : Cond.instanceMethod yX10_both ∈ zT := zt_8 (List.mem_of_getElem? (i := 101) (by decide +kernel)) (by decide +kernel)
theorem zw_t8_102 : Cond.selects RX10 yX10_both yX10_both ∈ zT := zt_8 (List.mem_of_getElem? (i := 102) (by decide +kernel)) (by decide +kernel)
theorem zw_t8_103 : Cond.code yX10_both cX10_both 5 (some .int) ∈ zT := zt_8 (List.mem_of_getElem? (i := 103) (by decide +kernel)) (by decide +kernel)
theorem zw_t8_112 : Cond.methodLink RL 122 yX10_friend ∈ zT := zt_8 (List.mem_of_getElem? (i := 112) (by decide +kernel)) (by decide +kernel)
theorem zw_t8_113 : Cond.instanceMethod yX10_friend ∈ zT := zt_8 (List.mem_of_getElem? (i := 113) (by decide +kernel)) (by decide +kernel)
theorem zw_t8_114 : Cond.selects RX10 yX10_friend yX10_friend ∈ zT := zt_8 (List.mem_of_getElem? (i := 114) (by decide +kernel)) (by decide +kernel)
theorem zw_t8_115 : Cond.code yX10_friend cX10_friend 7 (some .int) ∈ zT := zt_8 (List.mem_of_getElem? (i := 115) (by decide +kernel)) (by decide +kernel)
theorem zw_t8_124 : Cond.methodLink RL 126 yX10_teach ∈ zT := zt_8 (List.mem_of_getElem? (i := 124) (by decide +kernel)) (by decide +kernel)
theorem zw_t8_125 : Cond.instanceMethod yX10_teach ∈ zT := zt_8 (List.mem_of_getElem? (i := 125) (by decide +kernel)) (by decide +kernel)
theorem zw_t8_126 : Cond.selects RX10 yX10_teach yX10_teach ∈ zT := zt_8 (List.mem_of_getElem? (i := 126) (by decide +kernel)) (by decide +kernel)
theorem zw_t8_127 : Cond.code yX10_teach cX10_teach 10 (some .int) ∈ zT := zt_8 (List.mem_of_getElem? (i := 127) (by decide +kernel)) (by decide +kernel)
theorem zw_t8_132 : Cond.methodLink RL 130 yX10_host ∈ zT := zt_8 (List.mem_of_getElem? (i := 132) (by decide +kernel)) (by decide +kernel)
theorem zw_t8_133 : Cond.instanceMethod yX10_host ∈ zT := zt_8 (List.mem_of_getElem? (i := 133) (by decide +kernel)) (by decide +kernel)
theorem zw_t8_134 : Cond.selects RX10 yX10_host yX10_host ∈ zT := zt_8 (List.mem_of_getElem? (i := 134) (by decide +kernel)) (by decide +kernel)
theorem zw_t8_135 : Cond.code yX10_host cX10_host 10 (some .int) ∈ zT := zt_8 (List.mem_of_getElem? (i := 135) (by decide +kernel)) (by decide +kernel)
theorem zw_t8_33 : Cond.methodLink RL 78 yX10_gates ∈ zT := zt_8 (List.mem_of_getElem? (i := 33) (by decide +kernel)) (by decide +kernel)
theorem zw_t8_34 : Cond.instanceMethod yX10_gates ∈ zT := zt_8 (List.mem_of_getElem? (i := 34) (by decide +kernel)) (by decide +kernel)
theorem zw_t8_35 : Cond.selects RX10 yX10_gates yX10_gates ∈ zT := zt_8 (List.mem_of_getElem? (i := 35) (by decide +kernel)) (by decide +kernel)
theorem zw_t8_36 : Cond.code yX10_gates cX10_gates 5 (some .int) ∈ zT := zt_8 (List.mem_of_getElem? (i := 36) (by decide +kernel)) (by decide +kernel)
theorem zw_t8_44 : Cond.methodLink RL 82 yX10_way ∈ zT := zt_8 (List.mem_of_getElem? (i := 44) (by decide +kernel)) (by decide +kernel)
theorem zw_t8_45 : Cond.instanceMethod yX10_way ∈ zT := zt_8 (List.mem_of_getElem? (i := 45) (by decide +kernel)) (by decide +kernel)
theorem zw_t8_46 : Cond.selects RX10 yX10_way yX10_way ∈ zT := zt_8 (List.mem_of_getElem? (i := 46) (by decide +kernel)) (by decide +kernel)
theorem zw_t8_47 : Cond.code yX10_way cX10_way 10 (some .int) ∈ zT := zt_8 (List.mem_of_getElem? (i := 47) (by decide +kernel)) (by decide +kernel)
theorem zw_t8_53 : Cond.methodLink RL 86 yX10_reach ∈ zT := zt_8 (List.mem_of_getElem? (i := 53) (by decide +kernel)) (by decide +kernel)
theorem zw_t8_54 : Cond.instanceMethod yX10_reach ∈ zT := zt_8 (List.mem_of_getElem? (i := 54) (by decide +kernel)) (by decide +kernel)
theorem zw_t8_55 : Cond.selects RX10 yX10_reach yX10_reach ∈ zT := zt_8 (List.mem_of_getElem? (i := 55) (by decide +kernel)) (by decide +kernel)
theorem zw_t8_56 : Cond.code yX10_reach cX10_reach 3 (some .int) ∈ zT := zt_8 (List.mem_of_getElem? (i := 56) (by decide +kernel)) (by decide +kernel)
theorem zw_t8_57 : Cond.methodLink RL 90 yX10_latest ∈ zT := zt_8 (List.mem_of_getElem? (i := 57) (by decide +kernel)) (by decide +kernel)
theorem zw_t8_58 : Cond.instanceMethod yX10_latest ∈ zT := zt_8 (List.mem_of_getElem? (i := 58) (by decide +kernel)) (by decide +kernel)
theorem zw_t8_59 : Cond.selects RX10 yX10_latest yX10_latest ∈ zT := zt_8 (List.mem_of_getElem? (i := 59) (by decide +kernel)) (by decide +kernel)
theorem zw_t8_60 : Cond.code yX10_latest cX10_latest 4 (some .int) ∈ zT := zt_8 (List.mem_of_getElem? (i := 60) (by decide +kernel)) (by decide +kernel)
theorem zw_t8_61 : Cond.methodLink RL 94 yX10_need ∈ zT := zt_8 (List.mem_of_getElem? (i := 61) (by decide +kernel)) (by decide +kernel)
theorem zw_t8_62 : Cond.instanceMethod yX10_need ∈ zT := zt_8 (List.mem_of_getElem? (i := 62) (by decide +kernel)) (by decide +kernel)
theorem zw_t8_63 : Cond.selects RX10 yX10_need yX10_need ∈ zT := zt_8 (List.mem_of_getElem? (i := 63) (by decide +kernel)) (by decide +kernel)
theorem zw_t8_64 : Cond.code yX10_need cX10_need 7 (some .int) ∈ zT := zt_8 (List.mem_of_getElem? (i := 64) (by decide +kernel)) (by decide +kernel)
theorem zw_t8_65 : Cond.methodLink RL 98 yX10_fewest ∈ zT := zt_8 (List.mem_of_getElem? (i := 65) (by decide +kernel)) (by decide +kernel)
theorem zw_t8_66 : Cond.instanceMethod yX10_fewest ∈ zT := zt_8 (List.mem_of_getElem? (i := 66) (by decide +kernel)) (by decide +kernel)
theorem zw_t8_67 : Cond.selects RX10 yX10_fewest yX10_fewest ∈ zT := zt_8 (List.mem_of_getElem? (i := 67) (by decide +kernel)) (by decide +kernel)
theorem zw_t8_68 : Cond.code yX10_fewest cX10_fewest 6 (some .int) ∈ zT := zt_8 (List.mem_of_getElem? (i := 68) (by decide +kernel)) (by decide +kernel)
theorem zw_t8_79 : Cond.methodLink RL 102 yX10_every ∈ zT := zt_8 (List.mem_of_getElem? (i := 79) (by decide +kernel)) (by decide +kernel)
theorem zw_t8_80 : Cond.instanceMethod yX10_every ∈ zT := zt_8 (List.mem_of_getElem? (i := 80) (by decide +kernel)) (by decide +kernel)
theorem zw_t8_81 : Cond.selects RX10 yX10_every yX10_every ∈ zT := zt_8 (List.mem_of_getElem? (i := 81) (by decide +kernel)) (by decide +kernel)
theorem zw_t8_82 : Cond.code yX10_every cX10_every 2 (some .int) ∈ zT := zt_8 (List.mem_of_getElem? (i := 82) (by decide +kernel)) (by decide +kernel)
theorem zw_t8_83 : Cond.methodLink RL 106 yX10_ways ∈ zT := zt_8 (List.mem_of_getElem? (i := 83) (by decide +kernel)) (by decide +kernel)
theorem zw_t8_84 : Cond.instanceMethod yX10_ways ∈ zT := zt_8 (List.mem_of_getElem? (i := 84) (by decide +kernel)) (by decide +kernel)
theorem zw_t8_85 : Cond.selects RX10 yX10_ways yX10_ways ∈ zT := zt_8 (List.mem_of_getElem? (i := 85) (by decide +kernel)) (by decide +kernel)
theorem zw_t8_86 : Cond.code yX10_ways cX10_ways 8 (some .int) ∈ zT := zt_8 (List.mem_of_getElem? (i := 86) (by decide +kernel)) (by decide +kernel)
theorem zw_t8_92 : Cond.methodLink RL 110 yX10_out ∈ zT := zt_8 (List.mem_of_getElem? (i := 92) (by decide +kernel)) (by decide +kernel)
theorem zw_t8_93 : Cond.instanceMethod yX10_out ∈ zT := zt_8 (List.mem_of_getElem? (i := 93) (by decide +kernel)) (by decide +kernel)
theorem zw_t8_94 : Cond.selects RX10 yX10_out yX10_out ∈ zT := zt_8 (List.mem_of_getElem? (i := 94) (by decide +kernel)) (by decide +kernel)
theorem zw_t8_95 : Cond.code yX10_out cX10_out 7 (some .int) ∈ zT := zt_8 (List.mem_of_getElem? (i := 95) (by decide +kernel)) (by decide +kernel)
theorem zw_t8_96 : Cond.methodLink RL 114 yX10_alone ∈ zT := zt_8 (List.mem_of_getElem? (i := 96) (by decide +kernel)) (by decide +kernel)
theorem zw_t8_97 : Cond.instanceMethod yX10_alone ∈ zT := zt_8 (List.mem_of_getElem? (i := 97) (by decide +kernel)) (by decide +kernel)
theorem zw_t8_98 : Cond.selects RX10 yX10_alone yX10_alone ∈ zT := zt_8 (List.mem_of_getElem? (i := 98) (by decide +kernel)) (by decide +kernel)
theorem zw_t8_99 : Cond.code yX10_alone cX10_alone 14 (some .int) ∈ zT := zt_8 (List.mem_of_getElem? (i := 99) (by decide +kernel)) (by decide +kernel)
theorem dL_law_1000 : decode cL_law 1000 = .ok (.iload_n 3, 1) := by decide +kernel
theorem dL_law_1001 : decode cL_law 1001 = .ok (.iconst 5, 1) := by decide +kernel
theorem dL_law_1002 : decode cL_law 1002 = .ok (.iadd, 1) := by decide +kernel
theorem dL_law_1003 : decode cL_law 1003 = .ok (.iaload, 1) := by decide +kernel
theorem dL_law_1004 : decode cL_law 1004 = .ok (.invokevirtual 98, 3) := by decide +kernel
theorem dL_law_1007 : decode cL_law 1007 = .ok (.if_icmp .eq 1644, 3) := by decide +kernel
theorem dL_law_1012 : decode cL_law 1012 = .ok (.aload_n 1, 1) := by decide +kernel
theorem dL_law_1013 : decode cL_law 1013 = .ok (.aload_n 0, 1) := by decide +kernel
theorem dL_law_1014 : decode cL_law 1014 = .ok (.iload_n 3, 1) := by decide +kernel
theorem dL_law_1015 : decode cL_law 1015 = .ok (.iconst 1, 1) := by decide +kernel
theorem dL_law_1016 : decode cL_law 1016 = .ok (.iadd, 1) := by decide +kernel
theorem dL_law_1017 : decode cL_law 1017 = .ok (.iaload, 1) := by decide +kernel
theorem dL_law_1018 : decode cL_law 1018 = .ok (.invokevirtual 99, 3) := by decide +kernel
theorem dL_law_1021 : decode cL_law 1021 = .ok (.aload_n 2, 1) := by decide +kernel
theorem dL_law_1022 : decode cL_law 1022 = .ok (.aload_n 0, 1) := by decide +kernel
theorem dL_law_1023 : decode cL_law 1023 = .ok (.iload_n 3, 1) := by decide +kernel
theorem dL_law_1024 : decode cL_law 1024 = .ok (.iconst 1, 1) := by decide +kernel
theorem dL_law_1025 : decode cL_law 1025 = .ok (.iadd, 1) := by decide +kernel
theorem dL_law_1026 : decode cL_law 1026 = .ok (.iaload, 1) := by decide +kernel
theorem dL_law_1027 : decode cL_law 1027 = .ok (.invokevirtual 102, 3) := by decide +kernel
theorem dL_law_1030 : decode cL_law 1030 = .ok (.if_icmp .eq 1621, 3) := by decide +kernel
theorem dL_law_1035 : decode cL_law 1035 = .ok (.aload_n 1, 1) := by decide +kernel
theorem dL_law_1036 : decode cL_law 1036 = .ok (.aload_n 0, 1) := by decide +kernel
theorem dL_law_1037 : decode cL_law 1037 = .ok (.iload_n 3, 1) := by decide +kernel
theorem dL_law_1038 : decode cL_law 1038 = .ok (.iconst 1, 1) := by decide +kernel
theorem dL_law_1039 : decode cL_law 1039 = .ok (.iadd, 1) := by decide +kernel
theorem dL_law_1040 : decode cL_law 1040 = .ok (.iaload, 1) := by decide +kernel
theorem dL_law_1041 : decode cL_law 1041 = .ok (.aload_n 0, 1) := by decide +kernel
theorem dL_law_1042 : decode cL_law 1042 = .ok (.iload_n 3, 1) := by decide +kernel
theorem dL_law_1043 : decode cL_law 1043 = .ok (.iconst 2, 1) := by decide +kernel
theorem dL_law_1044 : decode cL_law 1044 = .ok (.iadd, 1) := by decide +kernel
theorem dL_law_1045 : decode cL_law 1045 = .ok (.iaload, 1) := by decide +kernel
theorem dL_law_1046 : decode cL_law 1046 = .ok (.aload_n 0, 1) := by decide +kernel
theorem dL_law_1047 : decode cL_law 1047 = .ok (.iload_n 3, 1) := by decide +kernel
theorem dL_law_1048 : decode cL_law 1048 = .ok (.iconst 3, 1) := by decide +kernel
theorem dL_law_1049 : decode cL_law 1049 = .ok (.iadd, 1) := by decide +kernel
theorem dL_law_1050 : decode cL_law 1050 = .ok (.iaload, 1) := by decide +kernel
theorem dL_law_1051 : decode cL_law 1051 = .ok (.aload_n 0, 1) := by decide +kernel
theorem dL_law_1052 : decode cL_law 1052 = .ok (.iload_n 3, 1) := by decide +kernel
theorem dL_law_1053 : decode cL_law 1053 = .ok (.iconst 4, 1) := by decide +kernel
theorem dL_law_1054 : decode cL_law 1054 = .ok (.iadd, 1) := by decide +kernel
theorem dL_law_1055 : decode cL_law 1055 = .ok (.iaload, 1) := by decide +kernel
theorem dL_law_1056 : decode cL_law 1056 = .ok (.invokevirtual 103, 3) := by decide +kernel
theorem dL_law_1059 : decode cL_law 1059 = .ok (.aload_n 2, 1) := by decide +kernel
theorem dL_law_1060 : decode cL_law 1060 = .ok (.aload_n 0, 1) := by decide +kernel
theorem dL_law_1061 : decode cL_law 1061 = .ok (.iload_n 3, 1) := by decide +kernel
theorem dL_law_1062 : decode cL_law 1062 = .ok (.iconst 1, 1) := by decide +kernel
theorem dL_law_1063 : decode cL_law 1063 = .ok (.iadd, 1) := by decide +kernel
theorem dL_law_1064 : decode cL_law 1064 = .ok (.iaload, 1) := by decide +kernel
theorem dL_law_1065 : decode cL_law 1065 = .ok (.aload_n 0, 1) := by decide +kernel
theorem dL_law_1066 : decode cL_law 1066 = .ok (.iload_n 3, 1) := by decide +kernel
theorem dL_law_1067 : decode cL_law 1067 = .ok (.iconst 2, 1) := by decide +kernel
theorem dL_law_1068 : decode cL_law 1068 = .ok (.iadd, 1) := by decide +kernel
theorem dL_law_1069 : decode cL_law 1069 = .ok (.iaload, 1) := by decide +kernel
theorem dL_law_1070 : decode cL_law 1070 = .ok (.aload_n 0, 1) := by decide +kernel
theorem dL_law_1071 : decode cL_law 1071 = .ok (.iload_n 3, 1) := by decide +kernel
theorem dL_law_1072 : decode cL_law 1072 = .ok (.iconst 3, 1) := by decide +kernel
theorem dL_law_1073 : decode cL_law 1073 = .ok (.iadd, 1) := by decide +kernel
theorem dL_law_1074 : decode cL_law 1074 = .ok (.iaload, 1) := by decide +kernel
theorem dL_law_1075 : decode cL_law 1075 = .ok (.aload_n 0, 1) := by decide +kernel
theorem dL_law_1076 : decode cL_law 1076 = .ok (.iload_n 3, 1) := by decide +kernel
theorem dL_law_1077 : decode cL_law 1077 = .ok (.iconst 4, 1) := by decide +kernel
theorem dL_law_1078 : decode cL_law 1078 = .ok (.iadd, 1) := by decide +kernel
theorem dL_law_1079 : decode cL_law 1079 = .ok (.iaload, 1) := by decide +kernel
theorem dL_law_1080 : decode cL_law 1080 = .ok (.invokevirtual 106, 3) := by decide +kernel
theorem dL_law_1083 : decode cL_law 1083 = .ok (.if_icmp .eq 1568, 3) := by decide +kernel
theorem dL_law_1088 : decode cL_law 1088 = .ok (.aload_n 1, 1) := by decide +kernel
theorem dL_law_1089 : decode cL_law 1089 = .ok (.aload_n 0, 1) := by decide +kernel
theorem dL_law_1090 : decode cL_law 1090 = .ok (.iload_n 3, 1) := by decide +kernel
theorem dL_law_1091 : decode cL_law 1091 = .ok (.iconst 1, 1) := by decide +kernel
theorem dL_law_1092 : decode cL_law 1092 = .ok (.iadd, 1) := by decide +kernel
theorem dL_law_1093 : decode cL_law 1093 = .ok (.iaload, 1) := by decide +kernel
theorem dL_law_1094 : decode cL_law 1094 = .ok (.aload_n 0, 1) := by decide +kernel
theorem dL_law_1095 : decode cL_law 1095 = .ok (.iload_n 3, 1) := by decide +kernel
theorem dL_law_1096 : decode cL_law 1096 = .ok (.iconst 2, 1) := by decide +kernel
theorem dL_law_1097 : decode cL_law 1097 = .ok (.iadd, 1) := by decide +kernel
theorem dL_law_1098 : decode cL_law 1098 = .ok (.iaload, 1) := by decide +kernel
theorem dL_law_1099 : decode cL_law 1099 = .ok (.aload_n 0, 1) := by decide +kernel
theorem dL_law_1100 : decode cL_law 1100 = .ok (.iload_n 3, 1) := by decide +kernel
theorem dL_law_1101 : decode cL_law 1101 = .ok (.iconst 3, 1) := by decide +kernel
theorem dL_law_1102 : decode cL_law 1102 = .ok (.iadd, 1) := by decide +kernel
theorem dL_law_1103 : decode cL_law 1103 = .ok (.iaload, 1) := by decide +kernel
theorem dL_law_1104 : decode cL_law 1104 = .ok (.aload_n 0, 1) := by decide +kernel
theorem dL_law_1105 : decode cL_law 1105 = .ok (.iload_n 3, 1) := by decide +kernel
theorem dL_law_1106 : decode cL_law 1106 = .ok (.iconst 4, 1) := by decide +kernel
theorem dL_law_1107 : decode cL_law 1107 = .ok (.iadd, 1) := by decide +kernel
theorem dL_law_1108 : decode cL_law 1108 = .ok (.iaload, 1) := by decide +kernel
theorem dL_law_1109 : decode cL_law 1109 = .ok (.invokevirtual 107, 3) := by decide +kernel
theorem dL_law_1112 : decode cL_law 1112 = .ok (.aload_n 2, 1) := by decide +kernel
theorem dL_law_1113 : decode cL_law 1113 = .ok (.aload_n 0, 1) := by decide +kernel
theorem dL_law_1114 : decode cL_law 1114 = .ok (.iload_n 3, 1) := by decide +kernel
theorem dL_law_1115 : decode cL_law 1115 = .ok (.iconst 1, 1) := by decide +kernel
theorem dL_law_1116 : decode cL_law 1116 = .ok (.iadd, 1) := by decide +kernel
theorem dL_law_1117 : decode cL_law 1117 = .ok (.iaload, 1) := by decide +kernel
theorem dL_law_1118 : decode cL_law 1118 = .ok (.aload_n 0, 1) := by decide +kernel
theorem dL_law_1119 : decode cL_law 1119 = .ok (.iload_n 3, 1) := by decide +kernel
theorem dL_law_1120 : decode cL_law 1120 = .ok (.iconst 2, 1) := by decide +kernel
theorem dL_law_1121 : decode cL_law 1121 = .ok (.iadd, 1) := by decide +kernel
theorem dL_law_1122 : decode cL_law 1122 = .ok (.iaload, 1) := by decide +kernel
theorem dL_law_1123 : decode cL_law 1123 = .ok (.aload_n 0, 1) := by decide +kernel
theorem dL_law_1124 : decode cL_law 1124 = .ok (.iload_n 3, 1) := by decide +kernel
theorem dL_law_1125 : decode cL_law 1125 = .ok (.iconst 3, 1) := by decide +kernel
theorem dL_law_1126 : decode cL_law 1126 = .ok (.iadd, 1) := by decide +kernel
theorem dL_law_1127 : decode cL_law 1127 = .ok (.iaload, 1) := by decide +kernel
theorem dL_law_1128 : decode cL_law 1128 = .ok (.aload_n 0, 1) := by decide +kernel
theorem dL_law_1129 : decode cL_law 1129 = .ok (.iload_n 3, 1) := by decide +kernel
theorem dL_law_1130 : decode cL_law 1130 = .ok (.iconst 4, 1) := by decide +kernel
theorem dL_law_1131 : decode cL_law 1131 = .ok (.iadd, 1) := by decide +kernel
theorem dL_law_1132 : decode cL_law 1132 = .ok (.iaload, 1) := by decide +kernel
theorem dL_law_1133 : decode cL_law 1133 = .ok (.invokevirtual 110, 3) := by decide +kernel
theorem dL_law_1136 : decode cL_law 1136 = .ok (.if_icmp .eq 1515, 3) := by decide +kernel
theorem dL_law_1141 : decode cL_law 1141 = .ok (.aload_n 1, 1) := by decide +kernel
theorem dL_law_1142 : decode cL_law 1142 = .ok (.aload_n 0, 1) := by decide +kernel
theorem dL_law_1143 : decode cL_law 1143 = .ok (.iload_n 3, 1) := by decide +kernel
theorem dL_law_1144 : decode cL_law 1144 = .ok (.iconst 1, 1) := by decide +kernel
theorem dL_law_1145 : decode cL_law 1145 = .ok (.iadd, 1) := by decide +kernel
theorem dL_law_1146 : decode cL_law 1146 = .ok (.iaload, 1) := by decide +kernel
theorem dL_law_1147 : decode cL_law 1147 = .ok (.aload_n 0, 1) := by decide +kernel
theorem dL_law_1148 : decode cL_law 1148 = .ok (.iload_n 3, 1) := by decide +kernel
theorem dL_law_1149 : decode cL_law 1149 = .ok (.iconst 2, 1) := by decide +kernel
theorem dL_law_1150 : decode cL_law 1150 = .ok (.iadd, 1) := by decide +kernel
theorem dL_law_1151 : decode cL_law 1151 = .ok (.iaload, 1) := by decide +kernel
theorem dL_law_1152 : decode cL_law 1152 = .ok (.aload_n 0, 1) := by decide +kernel
theorem dL_law_1153 : decode cL_law 1153 = .ok (.iload_n 3, 1) := by decide +kernel
theorem dL_law_1154 : decode cL_law 1154 = .ok (.iconst 3, 1) := by decide +kernel
theorem dL_law_1155 : decode cL_law 1155 = .ok (.iadd, 1) := by decide +kernel
theorem dL_law_1156 : decode cL_law 1156 = .ok (.iaload, 1) := by decide +kernel
theorem dL_law_1157 : decode cL_law 1157 = .ok (.aload_n 0, 1) := by decide +kernel
theorem dL_law_1158 : decode cL_law 1158 = .ok (.iload_n 3, 1) := by decide +kernel
theorem dL_law_1159 : decode cL_law 1159 = .ok (.iconst 4, 1) := by decide +kernel
theorem dL_law_1160 : decode cL_law 1160 = .ok (.iadd, 1) := by decide +kernel
theorem dL_law_1161 : decode cL_law 1161 = .ok (.iaload, 1) := by decide +kernel
theorem dL_law_1162 : decode cL_law 1162 = .ok (.invokevirtual 111, 3) := by decide +kernel
theorem dL_law_1165 : decode cL_law 1165 = .ok (.aload_n 2, 1) := by decide +kernel
theorem dL_law_1166 : decode cL_law 1166 = .ok (.aload_n 0, 1) := by decide +kernel
theorem dL_law_1167 : decode cL_law 1167 = .ok (.iload_n 3, 1) := by decide +kernel
theorem dL_law_1168 : decode cL_law 1168 = .ok (.iconst 1, 1) := by decide +kernel
theorem dL_law_1169 : decode cL_law 1169 = .ok (.iadd, 1) := by decide +kernel
theorem dL_law_1170 : decode cL_law 1170 = .ok (.iaload, 1) := by decide +kernel
theorem dL_law_1171 : decode cL_law 1171 = .ok (.aload_n 0, 1) := by decide +kernel
theorem dL_law_1172 : decode cL_law 1172 = .ok (.iload_n 3, 1) := by decide +kernel
theorem dL_law_1173 : decode cL_law 1173 = .ok (.iconst 2, 1) := by decide +kernel
theorem dL_law_1174 : decode cL_law 1174 = .ok (.iadd, 1) := by decide +kernel
theorem dL_law_1175 : decode cL_law 1175 = .ok (.iaload, 1) := by decide +kernel
theorem dL_law_1176 : decode cL_law 1176 = .ok (.aload_n 0, 1) := by decide +kernel
theorem dL_law_1177 : decode cL_law 1177 = .ok (.iload_n 3, 1) := by decide +kernel
theorem dL_law_1178 : decode cL_law 1178 = .ok (.iconst 3, 1) := by decide +kernel
theorem dL_law_1179 : decode cL_law 1179 = .ok (.iadd, 1) := by decide +kernel
theorem dL_law_1180 : decode cL_law 1180 = .ok (.iaload, 1) := by decide +kernel
theorem dL_law_1181 : decode cL_law 1181 = .ok (.aload_n 0, 1) := by decide +kernel
theorem dL_law_1182 : decode cL_law 1182 = .ok (.iload_n 3, 1) := by decide +kernel
theorem dL_law_1183 : decode cL_law 1183 = .ok (.iconst 4, 1) := by decide +kernel
theorem dL_law_1184 : decode cL_law 1184 = .ok (.iadd, 1) := by decide +kernel
theorem dL_law_1185 : decode cL_law 1185 = .ok (.iaload, 1) := by decide +kernel
theorem dL_law_1186 : decode cL_law 1186 = .ok (.invokevirtual 114, 3) := by decide +kernel
theorem dL_law_1189 : decode cL_law 1189 = .ok (.if_icmp .eq 1462, 3) := by decide +kernel
theorem dL_law_1194 : decode cL_law 1194 = .ok (.aload_n 1, 1) := by decide +kernel
theorem dL_law_1195 : decode cL_law 1195 = .ok (.aload_n 0, 1) := by decide +kernel
theorem dL_law_1196 : decode cL_law 1196 = .ok (.iload_n 3, 1) := by decide +kernel
theorem dL_law_1197 : decode cL_law 1197 = .ok (.iconst 1, 1) := by decide +kernel
theorem dL_law_1198 : decode cL_law 1198 = .ok (.iadd, 1) := by decide +kernel
theorem dL_law_1199 : decode cL_law 1199 = .ok (.iaload, 1) := by decide +kernel
theorem dL_law_1200 : decode cL_law 1200 = .ok (.aload_n 0, 1) := by decide +kernel
theorem dL_law_1201 : decode cL_law 1201 = .ok (.iload_n 3, 1) := by decide +kernel
theorem dL_law_1202 : decode cL_law 1202 = .ok (.iconst 2, 1) := by decide +kernel
theorem dL_law_1203 : decode cL_law 1203 = .ok (.iadd, 1) := by decide +kernel
theorem dL_law_1204 : decode cL_law 1204 = .ok (.iaload, 1) := by decide +kernel
theorem dL_law_1205 : decode cL_law 1205 = .ok (.aload_n 0, 1) := by decide +kernel
theorem dL_law_1206 : decode cL_law 1206 = .ok (.iload_n 3, 1) := by decide +kernel
theorem dL_law_1207 : decode cL_law 1207 = .ok (.iconst 3, 1) := by decide +kernel
theorem dL_law_1208 : decode cL_law 1208 = .ok (.iadd, 1) := by decide +kernel
theorem dL_law_1209 : decode cL_law 1209 = .ok (.iaload, 1) := by decide +kernel
theorem dL_law_1210 : decode cL_law 1210 = .ok (.aload_n 0, 1) := by decide +kernel
theorem dL_law_1211 : decode cL_law 1211 = .ok (.iload_n 3, 1) := by decide +kernel
theorem dL_law_1212 : decode cL_law 1212 = .ok (.iconst 4, 1) := by decide +kernel
theorem dL_law_1213 : decode cL_law 1213 = .ok (.iadd, 1) := by decide +kernel
theorem dL_law_1214 : decode cL_law 1214 = .ok (.iaload, 1) := by decide +kernel
theorem dL_law_1215 : decode cL_law 1215 = .ok (.invokevirtual 115, 3) := by decide +kernel
theorem dL_law_1218 : decode cL_law 1218 = .ok (.aload_n 2, 1) := by decide +kernel
theorem dL_law_1219 : decode cL_law 1219 = .ok (.aload_n 0, 1) := by decide +kernel
theorem dL_law_1220 : decode cL_law 1220 = .ok (.iload_n 3, 1) := by decide +kernel
theorem dL_law_1221 : decode cL_law 1221 = .ok (.iconst 1, 1) := by decide +kernel
theorem dL_law_1222 : decode cL_law 1222 = .ok (.iadd, 1) := by decide +kernel
theorem dL_law_1223 : decode cL_law 1223 = .ok (.iaload, 1) := by decide +kernel
theorem dL_law_1224 : decode cL_law 1224 = .ok (.aload_n 0, 1) := by decide +kernel
theorem dL_law_1225 : decode cL_law 1225 = .ok (.iload_n 3, 1) := by decide +kernel
theorem dL_law_1226 : decode cL_law 1226 = .ok (.iconst 2, 1) := by decide +kernel
theorem dL_law_1227 : decode cL_law 1227 = .ok (.iadd, 1) := by decide +kernel
theorem dL_law_1228 : decode cL_law 1228 = .ok (.iaload, 1) := by decide +kernel
theorem dL_law_1229 : decode cL_law 1229 = .ok (.aload_n 0, 1) := by decide +kernel
theorem dL_law_1230 : decode cL_law 1230 = .ok (.iload_n 3, 1) := by decide +kernel
theorem dL_law_1231 : decode cL_law 1231 = .ok (.iconst 3, 1) := by decide +kernel
theorem dL_law_1232 : decode cL_law 1232 = .ok (.iadd, 1) := by decide +kernel
theorem dL_law_1233 : decode cL_law 1233 = .ok (.iaload, 1) := by decide +kernel
theorem dL_law_1234 : decode cL_law 1234 = .ok (.aload_n 0, 1) := by decide +kernel
theorem dL_law_1235 : decode cL_law 1235 = .ok (.iload_n 3, 1) := by decide +kernel
theorem dL_law_1236 : decode cL_law 1236 = .ok (.iconst 4, 1) := by decide +kernel
theorem dL_law_1237 : decode cL_law 1237 = .ok (.iadd, 1) := by decide +kernel
theorem dL_law_1238 : decode cL_law 1238 = .ok (.iaload, 1) := by decide +kernel
theorem dL_law_1239 : decode cL_law 1239 = .ok (.invokevirtual 118, 3) := by decide +kernel
theorem dL_law_1242 : decode cL_law 1242 = .ok (.if_icmp .eq 1409, 3) := by decide +kernel
theorem dL_law_1247 : decode cL_law 1247 = .ok (.aload_n 1, 1) := by decide +kernel
theorem dL_law_1248 : decode cL_law 1248 = .ok (.aload_n 0, 1) := by decide +kernel
theorem dL_law_1249 : decode cL_law 1249 = .ok (.iload_n 3, 1) := by decide +kernel
theorem dL_law_1250 : decode cL_law 1250 = .ok (.iconst 1, 1) := by decide +kernel
theorem dL_law_1251 : decode cL_law 1251 = .ok (.iadd, 1) := by decide +kernel
theorem dL_law_1252 : decode cL_law 1252 = .ok (.iaload, 1) := by decide +kernel
theorem dL_law_1253 : decode cL_law 1253 = .ok (.aload_n 0, 1) := by decide +kernel
theorem dL_law_1254 : decode cL_law 1254 = .ok (.iload_n 3, 1) := by decide +kernel
theorem dL_law_1255 : decode cL_law 1255 = .ok (.iconst 2, 1) := by decide +kernel
theorem dL_law_1256 : decode cL_law 1256 = .ok (.iadd, 1) := by decide +kernel
theorem dL_law_1257 : decode cL_law 1257 = .ok (.iaload, 1) := by decide +kernel
theorem dL_law_1258 : decode cL_law 1258 = .ok (.aload_n 0, 1) := by decide +kernel
theorem dL_law_1259 : decode cL_law 1259 = .ok (.iload_n 3, 1) := by decide +kernel
theorem dL_law_1260 : decode cL_law 1260 = .ok (.iconst 3, 1) := by decide +kernel
theorem dL_law_1261 : decode cL_law 1261 = .ok (.iadd, 1) := by decide +kernel
theorem dL_law_1262 : decode cL_law 1262 = .ok (.iaload, 1) := by decide +kernel
theorem dL_law_1263 : decode cL_law 1263 = .ok (.aload_n 0, 1) := by decide +kernel
theorem dL_law_1264 : decode cL_law 1264 = .ok (.iload_n 3, 1) := by decide +kernel
theorem dL_law_1265 : decode cL_law 1265 = .ok (.iconst 4, 1) := by decide +kernel
theorem dL_law_1266 : decode cL_law 1266 = .ok (.iadd, 1) := by decide +kernel
theorem dL_law_1267 : decode cL_law 1267 = .ok (.iaload, 1) := by decide +kernel
theorem dL_law_1268 : decode cL_law 1268 = .ok (.invokevirtual 119, 3) := by decide +kernel
theorem dL_law_1271 : decode cL_law 1271 = .ok (.aload_n 2, 1) := by decide +kernel
theorem dL_law_1272 : decode cL_law 1272 = .ok (.aload_n 0, 1) := by decide +kernel
theorem dL_law_1273 : decode cL_law 1273 = .ok (.iload_n 3, 1) := by decide +kernel
theorem dL_law_1274 : decode cL_law 1274 = .ok (.iconst 1, 1) := by decide +kernel
theorem dL_law_1275 : decode cL_law 1275 = .ok (.iadd, 1) := by decide +kernel
theorem dL_law_1276 : decode cL_law 1276 = .ok (.iaload, 1) := by decide +kernel
theorem dL_law_1277 : decode cL_law 1277 = .ok (.aload_n 0, 1) := by decide +kernel
theorem dL_law_1278 : decode cL_law 1278 = .ok (.iload_n 3, 1) := by decide +kernel
theorem dL_law_1279 : decode cL_law 1279 = .ok (.iconst 2, 1) := by decide +kernel
theorem dL_law_1280 : decode cL_law 1280 = .ok (.iadd, 1) := by decide +kernel
theorem dL_law_1281 : decode cL_law 1281 = .ok (.iaload, 1) := by decide +kernel
theorem dL_law_1282 : decode cL_law 1282 = .ok (.aload_n 0, 1) := by decide +kernel
theorem dL_law_1283 : decode cL_law 1283 = .ok (.iload_n 3, 1) := by decide +kernel
theorem dL_law_1284 : decode cL_law 1284 = .ok (.iconst 3, 1) := by decide +kernel
theorem dL_law_1285 : decode cL_law 1285 = .ok (.iadd, 1) := by decide +kernel
theorem dL_law_1286 : decode cL_law 1286 = .ok (.iaload, 1) := by decide +kernel
theorem dL_law_1287 : decode cL_law 1287 = .ok (.aload_n 0, 1) := by decide +kernel
theorem dL_law_1288 : decode cL_law 1288 = .ok (.iload_n 3, 1) := by decide +kernel
theorem dL_law_1289 : decode cL_law 1289 = .ok (.iconst 4, 1) := by decide +kernel
theorem dL_law_1290 : decode cL_law 1290 = .ok (.iadd, 1) := by decide +kernel
theorem dL_law_1291 : decode cL_law 1291 = .ok (.iaload, 1) := by decide +kernel
theorem dL_law_1292 : decode cL_law 1292 = .ok (.invokevirtual 122, 3) := by decide +kernel
theorem dL_law_1295 : decode cL_law 1295 = .ok (.if_icmp .eq 1356, 3) := by decide +kernel
theorem dL_law_1300 : decode cL_law 1300 = .ok (.aload_n 1, 1) := by decide +kernel
theorem dL_law_1301 : decode cL_law 1301 = .ok (.aload_n 0, 1) := by decide +kernel
theorem dL_law_1302 : decode cL_law 1302 = .ok (.iload_n 3, 1) := by decide +kernel
theorem dL_law_1303 : decode cL_law 1303 = .ok (.iconst 1, 1) := by decide +kernel
theorem dL_law_1304 : decode cL_law 1304 = .ok (.iadd, 1) := by decide +kernel
theorem dL_law_1305 : decode cL_law 1305 = .ok (.iaload, 1) := by decide +kernel
theorem dL_law_1306 : decode cL_law 1306 = .ok (.aload_n 0, 1) := by decide +kernel
theorem dL_law_1307 : decode cL_law 1307 = .ok (.iload_n 3, 1) := by decide +kernel
theorem dL_law_1308 : decode cL_law 1308 = .ok (.iconst 2, 1) := by decide +kernel
theorem dL_law_1309 : decode cL_law 1309 = .ok (.iadd, 1) := by decide +kernel
theorem dL_law_1310 : decode cL_law 1310 = .ok (.iaload, 1) := by decide +kernel
theorem dL_law_1311 : decode cL_law 1311 = .ok (.aload_n 0, 1) := by decide +kernel
theorem dL_law_1312 : decode cL_law 1312 = .ok (.iload_n 3, 1) := by decide +kernel
theorem dL_law_1313 : decode cL_law 1313 = .ok (.iconst 3, 1) := by decide +kernel
theorem dL_law_1314 : decode cL_law 1314 = .ok (.iadd, 1) := by decide +kernel
theorem dL_law_1315 : decode cL_law 1315 = .ok (.iaload, 1) := by decide +kernel
theorem dL_law_1316 : decode cL_law 1316 = .ok (.aload_n 0, 1) := by decide +kernel
theorem dL_law_1317 : decode cL_law 1317 = .ok (.iload_n 3, 1) := by decide +kernel
theorem dL_law_1318 : decode cL_law 1318 = .ok (.iconst 4, 1) := by decide +kernel
theorem dL_law_1319 : decode cL_law 1319 = .ok (.iadd, 1) := by decide +kernel
theorem dL_law_1320 : decode cL_law 1320 = .ok (.iaload, 1) := by decide +kernel
theorem dL_law_1321 : decode cL_law 1321 = .ok (.invokevirtual 123, 3) := by decide +kernel
theorem dL_law_1324 : decode cL_law 1324 = .ok (.aload_n 2, 1) := by decide +kernel
theorem dL_law_1325 : decode cL_law 1325 = .ok (.aload_n 0, 1) := by decide +kernel
theorem dL_law_1326 : decode cL_law 1326 = .ok (.iload_n 3, 1) := by decide +kernel
theorem dL_law_1327 : decode cL_law 1327 = .ok (.iconst 1, 1) := by decide +kernel
theorem dL_law_1328 : decode cL_law 1328 = .ok (.iadd, 1) := by decide +kernel
theorem dL_law_1329 : decode cL_law 1329 = .ok (.iaload, 1) := by decide +kernel
theorem dL_law_1330 : decode cL_law 1330 = .ok (.aload_n 0, 1) := by decide +kernel
theorem dL_law_1331 : decode cL_law 1331 = .ok (.iload_n 3, 1) := by decide +kernel
theorem dL_law_1332 : decode cL_law 1332 = .ok (.iconst 2, 1) := by decide +kernel
theorem dL_law_1333 : decode cL_law 1333 = .ok (.iadd, 1) := by decide +kernel
theorem dL_law_1334 : decode cL_law 1334 = .ok (.iaload, 1) := by decide +kernel
theorem dL_law_1335 : decode cL_law 1335 = .ok (.aload_n 0, 1) := by decide +kernel
theorem dL_law_1336 : decode cL_law 1336 = .ok (.iload_n 3, 1) := by decide +kernel
theorem dL_law_1337 : decode cL_law 1337 = .ok (.iconst 3, 1) := by decide +kernel
theorem dL_law_1338 : decode cL_law 1338 = .ok (.iadd, 1) := by decide +kernel
theorem dL_law_1339 : decode cL_law 1339 = .ok (.iaload, 1) := by decide +kernel
theorem dL_law_1340 : decode cL_law 1340 = .ok (.aload_n 0, 1) := by decide +kernel
theorem dL_law_1341 : decode cL_law 1341 = .ok (.iload_n 3, 1) := by decide +kernel
theorem dL_law_1342 : decode cL_law 1342 = .ok (.iconst 4, 1) := by decide +kernel
theorem dL_law_1343 : decode cL_law 1343 = .ok (.iadd, 1) := by decide +kernel
theorem dL_law_1344 : decode cL_law 1344 = .ok (.iaload, 1) := by decide +kernel
theorem dL_law_1345 : decode cL_law 1345 = .ok (.invokevirtual 126, 3) := by decide +kernel
theorem dL_law_1348 : decode cL_law 1348 = .ok (.if_icmp .eq 1303, 3) := by decide +kernel
theorem dL_law_1353 : decode cL_law 1353 = .ok (.aload_n 1, 1) := by decide +kernel
theorem dL_law_1354 : decode cL_law 1354 = .ok (.aload_n 0, 1) := by decide +kernel
theorem dL_law_1355 : decode cL_law 1355 = .ok (.iload_n 3, 1) := by decide +kernel
theorem dL_law_1356 : decode cL_law 1356 = .ok (.iconst 1, 1) := by decide +kernel
theorem dL_law_1357 : decode cL_law 1357 = .ok (.iadd, 1) := by decide +kernel
theorem dL_law_1358 : decode cL_law 1358 = .ok (.iaload, 1) := by decide +kernel
theorem dL_law_1359 : decode cL_law 1359 = .ok (.aload_n 0, 1) := by decide +kernel
theorem dL_law_1360 : decode cL_law 1360 = .ok (.iload_n 3, 1) := by decide +kernel
theorem dL_law_1361 : decode cL_law 1361 = .ok (.iconst 2, 1) := by decide +kernel
theorem dL_law_1362 : decode cL_law 1362 = .ok (.iadd, 1) := by decide +kernel
theorem dL_law_1363 : decode cL_law 1363 = .ok (.iaload, 1) := by decide +kernel
theorem dL_law_1364 : decode cL_law 1364 = .ok (.aload_n 0, 1) := by decide +kernel
theorem dL_law_1365 : decode cL_law 1365 = .ok (.iload_n 3, 1) := by decide +kernel
theorem dL_law_1366 : decode cL_law 1366 = .ok (.iconst 3, 1) := by decide +kernel
theorem dL_law_1367 : decode cL_law 1367 = .ok (.iadd, 1) := by decide +kernel
theorem dL_law_1368 : decode cL_law 1368 = .ok (.iaload, 1) := by decide +kernel
theorem dL_law_1369 : decode cL_law 1369 = .ok (.aload_n 0, 1) := by decide +kernel
theorem dL_law_1370 : decode cL_law 1370 = .ok (.iload_n 3, 1) := by decide +kernel
theorem dL_law_1371 : decode cL_law 1371 = .ok (.iconst 4, 1) := by decide +kernel
theorem dL_law_1372 : decode cL_law 1372 = .ok (.iadd, 1) := by decide +kernel
theorem dL_law_1373 : decode cL_law 1373 = .ok (.iaload, 1) := by decide +kernel
theorem dL_law_1374 : decode cL_law 1374 = .ok (.aload_n 0, 1) := by decide +kernel
theorem dL_law_1375 : decode cL_law 1375 = .ok (.iload_n 3, 1) := by decide +kernel
theorem dL_law_1376 : decode cL_law 1376 = .ok (.iconst 5, 1) := by decide +kernel
theorem dL_law_1377 : decode cL_law 1377 = .ok (.iadd, 1) := by decide +kernel
theorem dL_law_1378 : decode cL_law 1378 = .ok (.iaload, 1) := by decide +kernel
theorem dL_law_1379 : decode cL_law 1379 = .ok (.invokevirtual 127, 3) := by decide +kernel
theorem dL_law_1382 : decode cL_law 1382 = .ok (.aload_n 2, 1) := by decide +kernel
theorem dL_law_1383 : decode cL_law 1383 = .ok (.aload_n 0, 1) := by decide +kernel
theorem dL_law_1384 : decode cL_law 1384 = .ok (.iload_n 3, 1) := by decide +kernel
theorem dL_law_1385 : decode cL_law 1385 = .ok (.iconst 1, 1) := by decide +kernel
theorem dL_law_1386 : decode cL_law 1386 = .ok (.iadd, 1) := by decide +kernel
theorem dL_law_1387 : decode cL_law 1387 = .ok (.iaload, 1) := by decide +kernel
theorem dL_law_1388 : decode cL_law 1388 = .ok (.aload_n 0, 1) := by decide +kernel
theorem dL_law_1389 : decode cL_law 1389 = .ok (.iload_n 3, 1) := by decide +kernel
theorem dL_law_1390 : decode cL_law 1390 = .ok (.iconst 2, 1) := by decide +kernel
theorem dL_law_1391 : decode cL_law 1391 = .ok (.iadd, 1) := by decide +kernel
theorem dL_law_1392 : decode cL_law 1392 = .ok (.iaload, 1) := by decide +kernel
theorem dL_law_1393 : decode cL_law 1393 = .ok (.aload_n 0, 1) := by decide +kernel
theorem dL_law_1394 : decode cL_law 1394 = .ok (.iload_n 3, 1) := by decide +kernel
theorem dL_law_1395 : decode cL_law 1395 = .ok (.iconst 3, 1) := by decide +kernel
theorem dL_law_1396 : decode cL_law 1396 = .ok (.iadd, 1) := by decide +kernel
theorem dL_law_1397 : decode cL_law 1397 = .ok (.iaload, 1) := by decide +kernel
theorem dL_law_1398 : decode cL_law 1398 = .ok (.aload_n 0, 1) := by decide +kernel
theorem dL_law_1399 : decode cL_law 1399 = .ok (.iload_n 3, 1) := by decide +kernel
theorem dL_law_1400 : decode cL_law 1400 = .ok (.iconst 4, 1) := by decide +kernel
theorem dL_law_1401 : decode cL_law 1401 = .ok (.iadd, 1) := by decide +kernel
theorem dL_law_1402 : decode cL_law 1402 = .ok (.iaload, 1) := by decide +kernel
theorem dL_law_1403 : decode cL_law 1403 = .ok (.aload_n 0, 1) := by decide +kernel
theorem dL_law_1404 : decode cL_law 1404 = .ok (.iload_n 3, 1) := by decide +kernel
theorem dL_law_1405 : decode cL_law 1405 = .ok (.iconst 5, 1) := by decide +kernel
theorem dL_law_1406 : decode cL_law 1406 = .ok (.iadd, 1) := by decide +kernel
theorem dL_law_1407 : decode cL_law 1407 = .ok (.iaload, 1) := by decide +kernel
theorem dL_law_1408 : decode cL_law 1408 = .ok (.invokevirtual 130, 3) := by decide +kernel
theorem dL_law_1411 : decode cL_law 1411 = .ok (.if_icmp .eq 1240, 3) := by decide +kernel
theorem dL_law_734 : decode cL_law 734 = .ok (.aload_n 1, 1) := by decide +kernel
theorem dL_law_735 : decode cL_law 735 = .ok (.aload_n 0, 1) := by decide +kernel
theorem dL_law_736 : decode cL_law 736 = .ok (.iload_n 3, 1) := by decide +kernel
theorem dL_law_737 : decode cL_law 737 = .ok (.iconst 1, 1) := by decide +kernel
theorem dL_law_738 : decode cL_law 738 = .ok (.iadd, 1) := by decide +kernel
theorem dL_law_739 : decode cL_law 739 = .ok (.iaload, 1) := by decide +kernel
theorem dL_law_740 : decode cL_law 740 = .ok (.aload_n 0, 1) := by decide +kernel
theorem dL_law_741 : decode cL_law 741 = .ok (.iload_n 3, 1) := by decide +kernel
theorem dL_law_742 : decode cL_law 742 = .ok (.iconst 2, 1) := by decide +kernel
theorem dL_law_743 : decode cL_law 743 = .ok (.iadd, 1) := by decide +kernel
theorem dL_law_744 : decode cL_law 744 = .ok (.iaload, 1) := by decide +kernel
theorem dL_law_745 : decode cL_law 745 = .ok (.aload_n 0, 1) := by decide +kernel
theorem dL_law_746 : decode cL_law 746 = .ok (.iload_n 3, 1) := by decide +kernel
theorem dL_law_747 : decode cL_law 747 = .ok (.iconst 3, 1) := by decide +kernel
theorem dL_law_748 : decode cL_law 748 = .ok (.iadd, 1) := by decide +kernel
theorem dL_law_749 : decode cL_law 749 = .ok (.iaload, 1) := by decide +kernel
theorem dL_law_750 : decode cL_law 750 = .ok (.invokevirtual 75, 3) := by decide +kernel
theorem dL_law_753 : decode cL_law 753 = .ok (.aload_n 2, 1) := by decide +kernel
theorem dL_law_754 : decode cL_law 754 = .ok (.aload_n 0, 1) := by decide +kernel
theorem dL_law_755 : decode cL_law 755 = .ok (.iload_n 3, 1) := by decide +kernel
theorem dL_law_756 : decode cL_law 756 = .ok (.iconst 1, 1) := by decide +kernel
theorem dL_law_757 : decode cL_law 757 = .ok (.iadd, 1) := by decide +kernel
theorem dL_law_758 : decode cL_law 758 = .ok (.iaload, 1) := by decide +kernel
theorem dL_law_759 : decode cL_law 759 = .ok (.aload_n 0, 1) := by decide +kernel
theorem dL_law_760 : decode cL_law 760 = .ok (.iload_n 3, 1) := by decide +kernel
theorem dL_law_761 : decode cL_law 761 = .ok (.iconst 2, 1) := by decide +kernel
theorem dL_law_762 : decode cL_law 762 = .ok (.iadd, 1) := by decide +kernel
theorem dL_law_763 : decode cL_law 763 = .ok (.iaload, 1) := by decide +kernel
theorem dL_law_764 : decode cL_law 764 = .ok (.aload_n 0, 1) := by decide +kernel
theorem dL_law_765 : decode cL_law 765 = .ok (.iload_n 3, 1) := by decide +kernel
theorem dL_law_766 : decode cL_law 766 = .ok (.iconst 3, 1) := by decide +kernel
theorem dL_law_767 : decode cL_law 767 = .ok (.iadd, 1) := by decide +kernel
theorem dL_law_768 : decode cL_law 768 = .ok (.iaload, 1) := by decide +kernel
theorem dL_law_769 : decode cL_law 769 = .ok (.invokevirtual 78, 3) := by decide +kernel
theorem dL_law_772 : decode cL_law 772 = .ok (.if_icmp .eq 1879, 3) := by decide +kernel
theorem dL_law_777 : decode cL_law 777 = .ok (.aload_n 1, 1) := by decide +kernel
theorem dL_law_778 : decode cL_law 778 = .ok (.aload_n 0, 1) := by decide +kernel
theorem dL_law_779 : decode cL_law 779 = .ok (.iload_n 3, 1) := by decide +kernel
theorem dL_law_780 : decode cL_law 780 = .ok (.iconst 1, 1) := by decide +kernel
theorem dL_law_781 : decode cL_law 781 = .ok (.iadd, 1) := by decide +kernel
theorem dL_law_782 : decode cL_law 782 = .ok (.iaload, 1) := by decide +kernel
theorem dL_law_783 : decode cL_law 783 = .ok (.aload_n 0, 1) := by decide +kernel
theorem dL_law_784 : decode cL_law 784 = .ok (.iload_n 3, 1) := by decide +kernel
theorem dL_law_785 : decode cL_law 785 = .ok (.iconst 2, 1) := by decide +kernel
theorem dL_law_786 : decode cL_law 786 = .ok (.iadd, 1) := by decide +kernel
theorem dL_law_787 : decode cL_law 787 = .ok (.iaload, 1) := by decide +kernel
theorem dL_law_788 : decode cL_law 788 = .ok (.aload_n 0, 1) := by decide +kernel
theorem dL_law_789 : decode cL_law 789 = .ok (.iload_n 3, 1) := by decide +kernel
theorem dL_law_790 : decode cL_law 790 = .ok (.iconst 3, 1) := by decide +kernel
theorem dL_law_791 : decode cL_law 791 = .ok (.iadd, 1) := by decide +kernel
theorem dL_law_792 : decode cL_law 792 = .ok (.iaload, 1) := by decide +kernel
theorem dL_law_793 : decode cL_law 793 = .ok (.aload_n 0, 1) := by decide +kernel
theorem dL_law_794 : decode cL_law 794 = .ok (.iload_n 3, 1) := by decide +kernel
theorem dL_law_795 : decode cL_law 795 = .ok (.iconst 4, 1) := by decide +kernel
theorem dL_law_796 : decode cL_law 796 = .ok (.iadd, 1) := by decide +kernel
theorem dL_law_797 : decode cL_law 797 = .ok (.iaload, 1) := by decide +kernel
theorem dL_law_798 : decode cL_law 798 = .ok (.invokevirtual 79, 3) := by decide +kernel
theorem dL_law_801 : decode cL_law 801 = .ok (.aload_n 2, 1) := by decide +kernel
theorem dL_law_802 : decode cL_law 802 = .ok (.aload_n 0, 1) := by decide +kernel
theorem dL_law_803 : decode cL_law 803 = .ok (.iload_n 3, 1) := by decide +kernel
theorem dL_law_804 : decode cL_law 804 = .ok (.iconst 1, 1) := by decide +kernel
theorem dL_law_805 : decode cL_law 805 = .ok (.iadd, 1) := by decide +kernel
theorem dL_law_806 : decode cL_law 806 = .ok (.iaload, 1) := by decide +kernel
theorem dL_law_807 : decode cL_law 807 = .ok (.aload_n 0, 1) := by decide +kernel
theorem dL_law_808 : decode cL_law 808 = .ok (.iload_n 3, 1) := by decide +kernel
theorem dL_law_809 : decode cL_law 809 = .ok (.iconst 2, 1) := by decide +kernel
theorem dL_law_810 : decode cL_law 810 = .ok (.iadd, 1) := by decide +kernel
theorem dL_law_811 : decode cL_law 811 = .ok (.iaload, 1) := by decide +kernel
theorem dL_law_812 : decode cL_law 812 = .ok (.aload_n 0, 1) := by decide +kernel
theorem dL_law_813 : decode cL_law 813 = .ok (.iload_n 3, 1) := by decide +kernel
theorem dL_law_814 : decode cL_law 814 = .ok (.iconst 3, 1) := by decide +kernel
theorem dL_law_815 : decode cL_law 815 = .ok (.iadd, 1) := by decide +kernel
theorem dL_law_816 : decode cL_law 816 = .ok (.iaload, 1) := by decide +kernel
theorem dL_law_817 : decode cL_law 817 = .ok (.aload_n 0, 1) := by decide +kernel
theorem dL_law_818 : decode cL_law 818 = .ok (.iload_n 3, 1) := by decide +kernel
theorem dL_law_819 : decode cL_law 819 = .ok (.iconst 4, 1) := by decide +kernel
theorem dL_law_820 : decode cL_law 820 = .ok (.iadd, 1) := by decide +kernel
theorem dL_law_821 : decode cL_law 821 = .ok (.iaload, 1) := by decide +kernel
theorem dL_law_822 : decode cL_law 822 = .ok (.invokevirtual 82, 3) := by decide +kernel
theorem dL_law_825 : decode cL_law 825 = .ok (.if_icmp .eq 1826, 3) := by decide +kernel
theorem dL_law_830 : decode cL_law 830 = .ok (.aload_n 1, 1) := by decide +kernel
theorem dL_law_831 : decode cL_law 831 = .ok (.aload_n 0, 1) := by decide +kernel
theorem dL_law_832 : decode cL_law 832 = .ok (.iload_n 3, 1) := by decide +kernel
theorem dL_law_833 : decode cL_law 833 = .ok (.iconst 1, 1) := by decide +kernel
theorem dL_law_834 : decode cL_law 834 = .ok (.iadd, 1) := by decide +kernel
theorem dL_law_835 : decode cL_law 835 = .ok (.iaload, 1) := by decide +kernel
theorem dL_law_836 : decode cL_law 836 = .ok (.aload_n 0, 1) := by decide +kernel
theorem dL_law_837 : decode cL_law 837 = .ok (.iload_n 3, 1) := by decide +kernel
theorem dL_law_838 : decode cL_law 838 = .ok (.iconst 2, 1) := by decide +kernel
theorem dL_law_839 : decode cL_law 839 = .ok (.iadd, 1) := by decide +kernel
theorem dL_law_840 : decode cL_law 840 = .ok (.iaload, 1) := by decide +kernel
theorem dL_law_841 : decode cL_law 841 = .ok (.invokevirtual 83, 3) := by decide +kernel
theorem dL_law_844 : decode cL_law 844 = .ok (.aload_n 2, 1) := by decide +kernel
theorem dL_law_845 : decode cL_law 845 = .ok (.aload_n 0, 1) := by decide +kernel
theorem dL_law_846 : decode cL_law 846 = .ok (.iload_n 3, 1) := by decide +kernel
theorem dL_law_847 : decode cL_law 847 = .ok (.iconst 1, 1) := by decide +kernel
theorem dL_law_848 : decode cL_law 848 = .ok (.iadd, 1) := by decide +kernel
theorem dL_law_849 : decode cL_law 849 = .ok (.iaload, 1) := by decide +kernel
theorem dL_law_850 : decode cL_law 850 = .ok (.aload_n 0, 1) := by decide +kernel
theorem dL_law_851 : decode cL_law 851 = .ok (.iload_n 3, 1) := by decide +kernel
theorem dL_law_852 : decode cL_law 852 = .ok (.iconst 2, 1) := by decide +kernel
theorem dL_law_853 : decode cL_law 853 = .ok (.iadd, 1) := by decide +kernel
theorem dL_law_854 : decode cL_law 854 = .ok (.iaload, 1) := by decide +kernel
theorem dL_law_855 : decode cL_law 855 = .ok (.invokevirtual 86, 3) := by decide +kernel
theorem dL_law_858 : decode cL_law 858 = .ok (.if_icmp .eq 1793, 3) := by decide +kernel
theorem dL_law_863 : decode cL_law 863 = .ok (.aload_n 1, 1) := by decide +kernel
theorem dL_law_864 : decode cL_law 864 = .ok (.aload_n 0, 1) := by decide +kernel
theorem dL_law_865 : decode cL_law 865 = .ok (.iload_n 3, 1) := by decide +kernel
theorem dL_law_866 : decode cL_law 866 = .ok (.iconst 1, 1) := by decide +kernel
theorem dL_law_867 : decode cL_law 867 = .ok (.iadd, 1) := by decide +kernel
theorem dL_law_868 : decode cL_law 868 = .ok (.iaload, 1) := by decide +kernel
theorem dL_law_869 : decode cL_law 869 = .ok (.aload_n 0, 1) := by decide +kernel
theorem dL_law_870 : decode cL_law 870 = .ok (.iload_n 3, 1) := by decide +kernel
theorem dL_law_871 : decode cL_law 871 = .ok (.iconst 2, 1) := by decide +kernel
theorem dL_law_872 : decode cL_law 872 = .ok (.iadd, 1) := by decide +kernel
theorem dL_law_873 : decode cL_law 873 = .ok (.iaload, 1) := by decide +kernel
theorem dL_law_874 : decode cL_law 874 = .ok (.invokevirtual 87, 3) := by decide +kernel
theorem dL_law_877 : decode cL_law 877 = .ok (.aload_n 2, 1) := by decide +kernel
theorem dL_law_878 : decode cL_law 878 = .ok (.aload_n 0, 1) := by decide +kernel
theorem dL_law_879 : decode cL_law 879 = .ok (.iload_n 3, 1) := by decide +kernel
theorem dL_law_880 : decode cL_law 880 = .ok (.iconst 1, 1) := by decide +kernel
theorem dL_law_881 : decode cL_law 881 = .ok (.iadd, 1) := by decide +kernel
theorem dL_law_882 : decode cL_law 882 = .ok (.iaload, 1) := by decide +kernel
theorem dL_law_883 : decode cL_law 883 = .ok (.aload_n 0, 1) := by decide +kernel
theorem dL_law_884 : decode cL_law 884 = .ok (.iload_n 3, 1) := by decide +kernel
theorem dL_law_885 : decode cL_law 885 = .ok (.iconst 2, 1) := by decide +kernel
theorem dL_law_886 : decode cL_law 886 = .ok (.iadd, 1) := by decide +kernel
theorem dL_law_887 : decode cL_law 887 = .ok (.iaload, 1) := by decide +kernel
theorem dL_law_888 : decode cL_law 888 = .ok (.invokevirtual 90, 3) := by decide +kernel
theorem dL_law_891 : decode cL_law 891 = .ok (.if_icmp .eq 1760, 3) := by decide +kernel
theorem dL_law_896 : decode cL_law 896 = .ok (.aload_n 1, 1) := by decide +kernel
theorem dL_law_897 : decode cL_law 897 = .ok (.aload_n 0, 1) := by decide +kernel
theorem dL_law_898 : decode cL_law 898 = .ok (.iload_n 3, 1) := by decide +kernel
theorem dL_law_899 : decode cL_law 899 = .ok (.iconst 1, 1) := by decide +kernel
theorem dL_law_900 : decode cL_law 900 = .ok (.iadd, 1) := by decide +kernel
theorem dL_law_901 : decode cL_law 901 = .ok (.iaload, 1) := by decide +kernel
theorem dL_law_902 : decode cL_law 902 = .ok (.aload_n 0, 1) := by decide +kernel
theorem dL_law_903 : decode cL_law 903 = .ok (.iload_n 3, 1) := by decide +kernel
theorem dL_law_904 : decode cL_law 904 = .ok (.iconst 2, 1) := by decide +kernel
theorem dL_law_905 : decode cL_law 905 = .ok (.iadd, 1) := by decide +kernel
theorem dL_law_906 : decode cL_law 906 = .ok (.iaload, 1) := by decide +kernel
theorem dL_law_907 : decode cL_law 907 = .ok (.aload_n 0, 1) := by decide +kernel
theorem dL_law_908 : decode cL_law 908 = .ok (.iload_n 3, 1) := by decide +kernel
theorem dL_law_909 : decode cL_law 909 = .ok (.iconst 3, 1) := by decide +kernel
theorem dL_law_910 : decode cL_law 910 = .ok (.iadd, 1) := by decide +kernel
theorem dL_law_911 : decode cL_law 911 = .ok (.iaload, 1) := by decide +kernel
theorem dL_law_912 : decode cL_law 912 = .ok (.aload_n 0, 1) := by decide +kernel
theorem dL_law_913 : decode cL_law 913 = .ok (.iload_n 3, 1) := by decide +kernel
theorem dL_law_914 : decode cL_law 914 = .ok (.iconst 4, 1) := by decide +kernel
theorem dL_law_915 : decode cL_law 915 = .ok (.iadd, 1) := by decide +kernel
theorem dL_law_916 : decode cL_law 916 = .ok (.iaload, 1) := by decide +kernel
theorem dL_law_917 : decode cL_law 917 = .ok (.invokevirtual 91, 3) := by decide +kernel
theorem dL_law_920 : decode cL_law 920 = .ok (.aload_n 2, 1) := by decide +kernel
theorem dL_law_921 : decode cL_law 921 = .ok (.aload_n 0, 1) := by decide +kernel
theorem dL_law_922 : decode cL_law 922 = .ok (.iload_n 3, 1) := by decide +kernel
theorem dL_law_923 : decode cL_law 923 = .ok (.iconst 1, 1) := by decide +kernel
theorem dL_law_924 : decode cL_law 924 = .ok (.iadd, 1) := by decide +kernel
theorem dL_law_925 : decode cL_law 925 = .ok (.iaload, 1) := by decide +kernel
theorem dL_law_926 : decode cL_law 926 = .ok (.aload_n 0, 1) := by decide +kernel
theorem dL_law_927 : decode cL_law 927 = .ok (.iload_n 3, 1) := by decide +kernel
theorem dL_law_928 : decode cL_law 928 = .ok (.iconst 2, 1) := by decide +kernel
theorem dL_law_929 : decode cL_law 929 = .ok (.iadd, 1) := by decide +kernel
theorem dL_law_930 : decode cL_law 930 = .ok (.iaload, 1) := by decide +kernel
theorem dL_law_931 : decode cL_law 931 = .ok (.aload_n 0, 1) := by decide +kernel
theorem dL_law_932 : decode cL_law 932 = .ok (.iload_n 3, 1) := by decide +kernel
theorem dL_law_933 : decode cL_law 933 = .ok (.iconst 3, 1) := by decide +kernel
theorem dL_law_934 : decode cL_law 934 = .ok (.iadd, 1) := by decide +kernel
theorem dL_law_935 : decode cL_law 935 = .ok (.iaload, 1) := by decide +kernel
theorem dL_law_936 : decode cL_law 936 = .ok (.aload_n 0, 1) := by decide +kernel
theorem dL_law_937 : decode cL_law 937 = .ok (.iload_n 3, 1) := by decide +kernel
theorem dL_law_938 : decode cL_law 938 = .ok (.iconst 4, 1) := by decide +kernel
theorem dL_law_939 : decode cL_law 939 = .ok (.iadd, 1) := by decide +kernel
theorem dL_law_940 : decode cL_law 940 = .ok (.iaload, 1) := by decide +kernel
theorem dL_law_941 : decode cL_law 941 = .ok (.invokevirtual 94, 3) := by decide +kernel
theorem dL_law_944 : decode cL_law 944 = .ok (.if_icmp .eq 1707, 3) := by decide +kernel
theorem dL_law_949 : decode cL_law 949 = .ok (.aload_n 1, 1) := by decide +kernel
theorem dL_law_950 : decode cL_law 950 = .ok (.aload_n 0, 1) := by decide +kernel
theorem dL_law_951 : decode cL_law 951 = .ok (.iload_n 3, 1) := by decide +kernel
theorem dL_law_952 : decode cL_law 952 = .ok (.iconst 1, 1) := by decide +kernel
theorem dL_law_953 : decode cL_law 953 = .ok (.iadd, 1) := by decide +kernel
theorem dL_law_954 : decode cL_law 954 = .ok (.iaload, 1) := by decide +kernel
theorem dL_law_955 : decode cL_law 955 = .ok (.aload_n 0, 1) := by decide +kernel
theorem dL_law_956 : decode cL_law 956 = .ok (.iload_n 3, 1) := by decide +kernel
theorem dL_law_957 : decode cL_law 957 = .ok (.iconst 2, 1) := by decide +kernel
theorem dL_law_958 : decode cL_law 958 = .ok (.iadd, 1) := by decide +kernel
theorem dL_law_959 : decode cL_law 959 = .ok (.iaload, 1) := by decide +kernel
theorem dL_law_960 : decode cL_law 960 = .ok (.aload_n 0, 1) := by decide +kernel
theorem dL_law_961 : decode cL_law 961 = .ok (.iload_n 3, 1) := by decide +kernel
theorem dL_law_962 : decode cL_law 962 = .ok (.iconst 3, 1) := by decide +kernel
theorem dL_law_963 : decode cL_law 963 = .ok (.iadd, 1) := by decide +kernel
theorem dL_law_964 : decode cL_law 964 = .ok (.iaload, 1) := by decide +kernel
theorem dL_law_965 : decode cL_law 965 = .ok (.aload_n 0, 1) := by decide +kernel
theorem dL_law_966 : decode cL_law 966 = .ok (.iload_n 3, 1) := by decide +kernel
theorem dL_law_967 : decode cL_law 967 = .ok (.iconst 4, 1) := by decide +kernel
theorem dL_law_968 : decode cL_law 968 = .ok (.iadd, 1) := by decide +kernel
theorem dL_law_969 : decode cL_law 969 = .ok (.iaload, 1) := by decide +kernel
theorem dL_law_970 : decode cL_law 970 = .ok (.aload_n 0, 1) := by decide +kernel
theorem dL_law_971 : decode cL_law 971 = .ok (.iload_n 3, 1) := by decide +kernel
theorem dL_law_972 : decode cL_law 972 = .ok (.iconst 5, 1) := by decide +kernel
theorem dL_law_973 : decode cL_law 973 = .ok (.iadd, 1) := by decide +kernel
theorem dL_law_974 : decode cL_law 974 = .ok (.iaload, 1) := by decide +kernel
theorem dL_law_975 : decode cL_law 975 = .ok (.invokevirtual 95, 3) := by decide +kernel
theorem dL_law_978 : decode cL_law 978 = .ok (.aload_n 2, 1) := by decide +kernel
theorem dL_law_979 : decode cL_law 979 = .ok (.aload_n 0, 1) := by decide +kernel
theorem dL_law_980 : decode cL_law 980 = .ok (.iload_n 3, 1) := by decide +kernel
theorem dL_law_981 : decode cL_law 981 = .ok (.iconst 1, 1) := by decide +kernel
theorem dL_law_982 : decode cL_law 982 = .ok (.iadd, 1) := by decide +kernel
theorem dL_law_983 : decode cL_law 983 = .ok (.iaload, 1) := by decide +kernel
theorem dL_law_984 : decode cL_law 984 = .ok (.aload_n 0, 1) := by decide +kernel
theorem dL_law_985 : decode cL_law 985 = .ok (.iload_n 3, 1) := by decide +kernel
theorem dL_law_986 : decode cL_law 986 = .ok (.iconst 2, 1) := by decide +kernel
theorem dL_law_987 : decode cL_law 987 = .ok (.iadd, 1) := by decide +kernel
theorem dL_law_988 : decode cL_law 988 = .ok (.iaload, 1) := by decide +kernel
theorem dL_law_989 : decode cL_law 989 = .ok (.aload_n 0, 1) := by decide +kernel
theorem dL_law_990 : decode cL_law 990 = .ok (.iload_n 3, 1) := by decide +kernel
theorem dL_law_991 : decode cL_law 991 = .ok (.iconst 3, 1) := by decide +kernel
theorem dL_law_992 : decode cL_law 992 = .ok (.iadd, 1) := by decide +kernel
theorem dL_law_993 : decode cL_law 993 = .ok (.iaload, 1) := by decide +kernel
theorem dL_law_994 : decode cL_law 994 = .ok (.aload_n 0, 1) := by decide +kernel
theorem dL_law_995 : decode cL_law 995 = .ok (.iload_n 3, 1) := by decide +kernel
theorem dL_law_996 : decode cL_law 996 = .ok (.iconst 4, 1) := by decide +kernel
theorem dL_law_997 : decode cL_law 997 = .ok (.iadd, 1) := by decide +kernel
theorem dL_law_998 : decode cL_law 998 = .ok (.iaload, 1) := by decide +kernel
theorem dL_law_999 : decode cL_law 999 = .ok (.aload_n 0, 1) := by decide +kernel
set_option maxHeartbeats 4000000 in
set_option maxRecDepth 100000 in
theorem law_gates {p : Program} {e : Env} {s : State} {m : MethodId} {below : List Frame} {meth : Method} {c : Code} {l : Launch} {b : Nat} {xs : Nat → Int32} (C0 : lw_At p s m meth c b 6 xs) {dC : Nat → ClassId} {dI : Nat → Nat → Nat} {A : Nat → Prop} (hA : ∀ q, s.heap.size ≤ q → A q) (hA2 : ∀ q, A q → s.heap.size ≤ q) {h0 : Nat} {tp : Nat} {nw : Nat} {im : Nat} {sl : Nat} {rd : Nat} {wk : Nat} {fm : Nat} {mt : Nat} {ch : Nat} {dy : Nat} {tn : Nat} {ta0 : Nat} {ta1 : Nat} {ta2 : Nat} {ta3 : Nat} {ta4 : Nat} {ta5 : Nat} {ta6 : Nat} {ta7 : Nat} {ta8 : Nat} {ta9 : Nat} {m0 : Nat} {m_width : Nat} {m_many : Nat} {m_cells : Nat} {m_moved : Nat} {m_tape : Nat} {m_lines : Nat} {m_hours : Nat} {m_courts : Nat} {m_in : Nat} {m_gates : Nat} {m_gate : Nat} {m_people : Nat} {m_at0 : Nat} {m_stray : Nat} {m_set : Nat} {m_once : Nat} {m_truth : Nat} {m_known : Nat} {m_isKept : Nat} {m_inside : Nat} {m_can : Nat} {m_fewest : Nat} {m_waysTo : Nat} {m_then : Nat} {m_two : Nat} {m_nextTwo : Nat} {m_three : Nat} {m_nextThree : Nat} {m_worth : Nat} {m_digit : Nat} {cm_courts : ClassId}  {H : Heap} {locs : List Loc} {ls : Array Slot} (hP : va_P (dC, dI) vwCl [(h0, .inr (9, [.ref tp, .int 0, .int 0, .int (-1), .ref nw, .ref im, .ref sl, .ref rd, .ref wk, .ref fm, .ref mt, .ref ch, .ref dy])), (nw, .inr (3, [.int 0, .ref tn, .int 0, .int 0, .int 0, .int 0])), (tn, .inr (7, [.int 0, .int 0, .int 0, .int 0, .int 0, .int 0, .int 0, .int 0, .ref ta0, .ref ta1, .ref ta2, .ref ta3, .ref ta4, .ref ta5, .ref ta6, .ref ta7, .ref ta8, .ref ta9])), (m0, .inr (10, [.int 0, .ref m_width, .ref m_many, .ref m_cells, .ref m_moved, .ref m_tape, .int 0, .int 0, .int 0, .int 0, .int 0, .long 0, .int 0, .int 0, .int 0, .int (-1), .ref m_lines, .ref m_hours, .ref m_courts, .ref m_in, .ref m_gates, .ref m_gate, .ref m_people, .ref m_at0, .ref m_stray, .ref m_set, .ref m_once, .ref m_truth, .ref m_known, .ref m_isKept, .int 0, .int (-1), .int 0, .int 0, .ref m_inside, .ref m_can, .ref m_fewest, .ref m_waysTo, .ref m_then, .ref m_two, .ref m_nextTwo, .ref m_three, .ref m_nextThree, .int (-1), .ref m_worth, .ref m_digit, .int 0, .long 0, .int 0, .int 0, .int 0, .int 0, .long 0])), (m_courts, .inl (cm_courts, 5, .inl (fun _ => 0)))] H) (hD : va_D A [(h0, .inr (9, [.ref tp, .int 0, .int 0, .int (-1), .ref nw, .ref im, .ref sl, .ref rd, .ref wk, .ref fm, .ref mt, .ref ch, .ref dy])), (nw, .inr (3, [.int 0, .ref tn, .int 0, .int 0, .int 0, .int 0])), (tn, .inr (7, [.int 0, .int 0, .int 0, .int 0, .int 0, .int 0, .int 0, .int 0, .ref ta0, .ref ta1, .ref ta2, .ref ta3, .ref ta4, .ref ta5, .ref ta6, .ref ta7, .ref ta8, .ref ta9])), (m0, .inr (10, [.int 0, .ref m_width, .ref m_many, .ref m_cells, .ref m_moved, .ref m_tape, .int 0, .int 0, .int 0, .int 0, .int 0, .long 0, .int 0, .int 0, .int 0, .int (-1), .ref m_lines, .ref m_hours, .ref m_courts, .ref m_in, .ref m_gates, .ref m_gate, .ref m_people, .ref m_at0, .ref m_stray, .ref m_set, .ref m_once, .ref m_truth, .ref m_known, .ref m_isKept, .int 0, .int (-1), .int 0, .int 0, .ref m_inside, .ref m_can, .ref m_fewest, .ref m_waysTo, .ref m_then, .ref m_two, .ref m_nextTwo, .ref m_three, .ref m_nextThree, .int (-1), .ref m_worth, .ref m_digit, .int 0, .long 0, .int 0, .int 0, .int 0, .int 0, .long 0])), (m_courts, .inl (cm_courts, 5, .inl (fun _ => 0)))]) (hK : va_K (dC, dI) vwCl [(cm_courts, .int)] s) (hS : va_S A s.heap H locs) (hl : lv_has ls 4 [(3, .int 0), (2, .ref m0), (1, .ref h0), (0, .ref b)]) : W p l e room_1 s m #[Value.ref b] below meth c H locs 166 101284 (lw_Z below #[Value.ref b] s) (F0 m 734 ls []) := by
  obtain ⟨hx, hb, hr, hml, hown, hts, hX, hbl, hlocks, hgv⟩ := id C0
  have hown : s.vm.findClass RL = some m.cls := hown
  have hb : c.code = cL_law := hb
  have hts : ∀ w ∈ zT, w.before #[Value.ref b] s = true := fun w h => hts w (zT_in w h)
  have hbA : ¬ A b := fun q => absurd (hA2 b q) (Nat.not_le.mpr hbl)
  refine lv_aload_n hx hb dL_law_734 rfl (lv_at hl 2 rfl) ?_
  refine lv_aload_n hx hb dL_law_735 rfl (lv_at hl 3 rfl) ?_
  refine lv_iload_n hx hb dL_law_736 rfl (lv_at hl 0 rfl) ?_
  refine lv_iconst (v := 1) hx hb dL_law_737 (by decide) ?_
  refine lv_iadd hx hb dL_law_738 ?_
  refine lv_topi (fun x_1 ex_1 => ?_)
  obtain rfl : x_1 = 1 := ex_1.trans (by decide)
  refine va_sld hx hb hX hbl hbA hS (z_inC _ (k := 1) (by decide) (by decide)) dL_law_739 ?_
  refine lv_aload_n hx hb dL_law_740 rfl (lv_at hl 3 rfl) ?_
  refine lv_iload_n hx hb dL_law_741 rfl (lv_at hl 0 rfl) ?_
  refine lv_iconst (v := 2) hx hb dL_law_742 (by decide) ?_
  refine lv_iadd hx hb dL_law_743 ?_
  refine lv_topi (fun x_2 ex_2 => ?_)
  obtain rfl : x_2 = 2 := ex_2.trans (by decide)
  refine va_sld hx hb hX hbl hbA hS (z_inC _ (k := 2) (by decide) (by decide)) dL_law_744 ?_
  refine lv_aload_n hx hb dL_law_745 rfl (lv_at hl 3 rfl) ?_
  refine lv_iload_n hx hb dL_law_746 rfl (lv_at hl 0 rfl) ?_
  refine lv_iconst (v := 3) hx hb dL_law_747 (by decide) ?_
  refine lv_iadd hx hb dL_law_748 ?_
  refine lv_topi (fun x_3 ex_3 => ?_)
  obtain rfl : x_3 = 3 := ex_3.trans (by decide)
  refine va_sld hx hb hX hbl hbA hS (z_inC _ (k := 3) (by decide) (by decide)) dL_law_749 ?_
  have hPc := hP.sub (ws' := [(h0, .inr (9, [.ref tp, .int 0, .int 0, .int (-1), .ref nw, .ref im, .ref sl, .ref rd, .ref wk, .ref fm, .ref mt, .ref ch, .ref dy])), (nw, .inr (3, [.int 0, .ref tn, .int 0, .int 0, .int 0, .int 0])), (tn, .inr (7, [.int 0, .int 0, .int 0, .int 0, .int 0, .int 0, .int 0, .int 0, .ref ta0, .ref ta1, .ref ta2, .ref ta3, .ref ta4, .ref ta5, .ref ta6, .ref ta7, .ref ta8, .ref ta9]))]) [0, 1, 2] rfl
  have hDc := hD.sub (ws' := [(h0, .inr (9, [.ref tp, .int 0, .int 0, .int (-1), .ref nw, .ref im, .ref sl, .ref rd, .ref wk, .ref fm, .ref mt, .ref ch, .ref dy])), (nw, .inr (3, [.int 0, .ref tn, .int 0, .int 0, .int 0, .int 0])), (tn, .inr (7, [.int 0, .int 0, .int 0, .int 0, .int 0, .int 0, .int 0, .int 0, .ref ta0, .ref ta1, .ref ta2, .ref ta3, .ref ta4, .ref ta5, .ref ta6, .ref ta7, .ref ta8, .ref ta9]))]) [0, 1, 2] (by decide) rfl
  have hKc := hK.sub (tys' := []) [] rfl
  have hFc := va_free (wc := [(h0, .inr (9, [.ref tp, .int 0, .int 0, .int (-1), .ref nw, .ref im, .ref sl, .ref rd, .ref wk, .ref fm, .ref mt, .ref ch, .ref dy])), (nw, .inr (3, [.int 0, .ref tn, .int 0, .int 0, .int 0, .int 0])), (tn, .inr (7, [.int 0, .int 0, .int 0, .int 0, .int 0, .int 0, .int 0, .int 0, .ref ta0, .ref ta1, .ref ta2, .ref ta3, .ref ta4, .ref ta5, .ref ta6, .ref ta7, .ref ta8, .ref ta9]))]) hD hS hA [0, 1, 2] rfl
  refine va_calli (va_runV (As := [.int (xs (Int32.toNatClampNeg 1)), .int (xs (Int32.toNatClampNeg 2)), .int (xs (Int32.toNatClampNeg 3))]) (rest := []) ⟨hx, hb, hml, hown, hts⟩ (k_X9_gates l dC dI h0 (xs (Int32.toNatClampNeg 1)) (xs (Int32.toNatClampNeg 2)) (xs (Int32.toNatClampNeg 3)) tp nw im sl rd wk fm mt ch dy tn ta0 ta1 ta2 ta3 ta4 ta5 ta6 ta7 ta8 ta9 H.size) (cwV 3 hts (z_gV zw_t4_57 zw_t4_58 zw_t4_59 zw_t1_1 zw_t4_60) rfl rfl rfl (by decide +kernel) ⟨(Nat.le_of_ble_eq_true rfl), (Nat.le_of_ble_eq_true rfl)⟩) (z_preV hPc hKc hDc (ci := 9) (q0 := 0) rfl rfl) rfl rfl hl.1 rfl (lv_room (Nat.le_of_ble_eq_true rfl)) dL_law_750 ⟨(Nat.le_of_ble_eq_true rfl), (Nat.le_of_ble_eq_true rfl)⟩) hS (fun q _ h => hFc q h) hFc (fun r_4 u t H1 locs ht hvm hw hB hz1 hk1 hS => ?_)
  have hB : zW dC dI [] [] (va_A [(h0, .inr (9, [.ref tp, .int 0, .int 0, .int (-1), .ref nw, .ref im, .ref sl, .ref rd, .ref wk, .ref fm, .ref mt, .ref ch, .ref dy])), (nw, .inr (3, [.int 0, .ref tn, .int 0, .int 0, .int 0, .int 0])), (tn, .inr (7, [.int 0, .int 0, .int 0, .int 0, .int 0, .int 0, .int 0, .int 0, .ref ta0, .ref ta1, .ref ta2, .ref ta3, .ref ta4, .ref ta5, .ref ta6, .ref ta7, .ref ta8, .ref ta9]))] H.size) t := z_none (va_K.moved hvm hK)
  obtain ⟨hP, hD, hK⟩ := z_after [(m0, .inr (10, [.int 0, .ref m_width, .ref m_many, .ref m_cells, .ref m_moved, .ref m_tape, .int 0, .int 0, .int 0, .int 0, .int 0, .long 0, .int 0, .int 0, .int 0, .int (-1), .ref m_lines, .ref m_hours, .ref m_courts, .ref m_in, .ref m_gates, .ref m_gate, .ref m_people, .ref m_at0, .ref m_stray, .ref m_set, .ref m_once, .ref m_truth, .ref m_known, .ref m_isKept, .int 0, .int (-1), .int 0, .int 0, .ref m_inside, .ref m_can, .ref m_fewest, .ref m_waysTo, .ref m_then, .ref m_two, .ref m_nextTwo, .ref m_three, .ref m_nextThree, .int (-1), .ref m_worth, .ref m_digit, .int 0, .long 0, .int 0, .int 0, .int 0, .int 0, .long 0])), (m_courts, .inl (cm_courts, 5, .inl (fun _ => 0)))] hB ht hvm hP hD hK [0, 1, 2] [3, 4] rfl rfl (by decide) (by decide) hk1 hFc
  generalize H1 = H at hP hS ⊢
  have hP : va_P (dC, dI) vwCl [(m0, .inr (10, [.int 0, .ref m_width, .ref m_many, .ref m_cells, .ref m_moved, .ref m_tape, .int 0, .int 0, .int 0, .int 0, .int 0, .long 0, .int 0, .int 0, .int 0, .int (-1), .ref m_lines, .ref m_hours, .ref m_courts, .ref m_in, .ref m_gates, .ref m_gate, .ref m_people, .ref m_at0, .ref m_stray, .ref m_set, .ref m_once, .ref m_truth, .ref m_known, .ref m_isKept, .int 0, .int (-1), .int 0, .int 0, .ref m_inside, .ref m_can, .ref m_fewest, .ref m_waysTo, .ref m_then, .ref m_two, .ref m_nextTwo, .ref m_three, .ref m_nextThree, .int (-1), .ref m_worth, .ref m_digit, .int 0, .long 0, .int 0, .int 0, .int 0, .int 0, .long 0])), (m_courts, .inl (cm_courts, 5, .inl (fun _ => 0)))] H := hP
  have hD : va_D A [(m0, .inr (10, [.int 0, .ref m_width, .ref m_many, .ref m_cells, .ref m_moved, .ref m_tape, .int 0, .int 0, .int 0, .int 0, .int 0, .long 0, .int 0, .int 0, .int 0, .int (-1), .ref m_lines, .ref m_hours, .ref m_courts, .ref m_in, .ref m_gates, .ref m_gate, .ref m_people, .ref m_at0, .ref m_stray, .ref m_set, .ref m_once, .ref m_truth, .ref m_known, .ref m_isKept, .int 0, .int (-1), .int 0, .int 0, .ref m_inside, .ref m_can, .ref m_fewest, .ref m_waysTo, .ref m_then, .ref m_two, .ref m_nextTwo, .ref m_three, .ref m_nextThree, .int (-1), .ref m_worth, .ref m_digit, .int 0, .long 0, .int 0, .int 0, .int 0, .int 0, .long 0])), (m_courts, .inl (cm_courts, 5, .inl (fun _ => 0)))] := hD
  have hK : va_K (dC, dI) vwCl [(cm_courts, .int)] s := hK
  obtain rfl : r_4 = (-2) := hw
  refine lv_aload_n hx hb dL_law_753 rfl (lv_at hl 1 rfl) ?_
  refine lv_aload_n hx hb dL_law_754 rfl (lv_at hl 3 rfl) ?_
  refine lv_iload_n hx hb dL_law_755 rfl (lv_at hl 0 rfl) ?_
  refine lv_iconst (v := 1) hx hb dL_law_756 (by decide) ?_
  refine lv_iadd hx hb dL_law_757 ?_
  refine lv_topi (fun x_5 ex_5 => ?_)
  obtain rfl : x_5 = 1 := ex_5.trans (by decide)
  refine va_sld hx hb hX hbl hbA hS (z_inC _ (k := 1) (by decide) (by decide)) dL_law_758 ?_
  refine lv_aload_n hx hb dL_law_759 rfl (lv_at hl 3 rfl) ?_
  refine lv_iload_n hx hb dL_law_760 rfl (lv_at hl 0 rfl) ?_
  refine lv_iconst (v := 2) hx hb dL_law_761 (by decide) ?_
  refine lv_iadd hx hb dL_law_762 ?_
  refine lv_topi (fun x_6 ex_6 => ?_)
  obtain rfl : x_6 = 2 := ex_6.trans (by decide)
  refine va_sld hx hb hX hbl hbA hS (z_inC _ (k := 2) (by decide) (by decide)) dL_law_763 ?_
  refine lv_aload_n hx hb dL_law_764 rfl (lv_at hl 3 rfl) ?_
  refine lv_iload_n hx hb dL_law_765 rfl (lv_at hl 0 rfl) ?_
  refine lv_iconst (v := 3) hx hb dL_law_766 (by decide) ?_
  refine lv_iadd hx hb dL_law_767 ?_
  refine lv_topi (fun x_7 ex_7 => ?_)
  obtain rfl : x_7 = 3 := ex_7.trans (by decide)
  refine va_sld hx hb hX hbl hbA hS (z_inC _ (k := 3) (by decide) (by decide)) dL_law_768 ?_
  have hPc := hP.sub (ws' := [(m0, .inr (10, [.int 0, .ref m_width, .ref m_many, .ref m_cells, .ref m_moved, .ref m_tape, .int 0, .int 0, .int 0, .int 0, .int 0, .long 0, .int 0, .int 0, .int 0, .int (-1), .ref m_lines, .ref m_hours, .ref m_courts, .ref m_in, .ref m_gates, .ref m_gate, .ref m_people, .ref m_at0, .ref m_stray, .ref m_set, .ref m_once, .ref m_truth, .ref m_known, .ref m_isKept, .int 0, .int (-1), .int 0, .int 0, .ref m_inside, .ref m_can, .ref m_fewest, .ref m_waysTo, .ref m_then, .ref m_two, .ref m_nextTwo, .ref m_three, .ref m_nextThree, .int (-1), .ref m_worth, .ref m_digit, .int 0, .long 0, .int 0, .int 0, .int 0, .int 0, .long 0])), (m_courts, .inl (cm_courts, 5, .inl (fun _ => 0)))]) [0, 1] rfl
  have hDc := hD.sub (ws' := [(m0, .inr (10, [.int 0, .ref m_width, .ref m_many, .ref m_cells, .ref m_moved, .ref m_tape, .int 0, .int 0, .int 0, .int 0, .int 0, .long 0, .int 0, .int 0, .int 0, .int (-1), .ref m_lines, .ref m_hours, .ref m_courts, .ref m_in, .ref m_gates, .ref m_gate, .ref m_people, .ref m_at0, .ref m_stray, .ref m_set, .ref m_once, .ref m_truth, .ref m_known, .ref m_isKept, .int 0, .int (-1), .int 0, .int 0, .ref m_inside, .ref m_can, .ref m_fewest, .ref m_waysTo, .ref m_then, .ref m_two, .ref m_nextTwo, .ref m_three, .ref m_nextThree, .int (-1), .ref m_worth, .ref m_digit, .int 0, .long 0, .int 0, .int 0, .int 0, .int 0, .long 0])), (m_courts, .inl (cm_courts, 5, .inl (fun _ => 0)))]) [0, 1] (by decide) rfl
  have hKc := hK.sub (tys' := [(cm_courts, .int)]) [0] rfl
  have hFc := va_free (wc := [(m0, .inr (10, [.int 0, .ref m_width, .ref m_many, .ref m_cells, .ref m_moved, .ref m_tape, .int 0, .int 0, .int 0, .int 0, .int 0, .long 0, .int 0, .int 0, .int 0, .int (-1), .ref m_lines, .ref m_hours, .ref m_courts, .ref m_in, .ref m_gates, .ref m_gate, .ref m_people, .ref m_at0, .ref m_stray, .ref m_set, .ref m_once, .ref m_truth, .ref m_known, .ref m_isKept, .int 0, .int (-1), .int 0, .int 0, .ref m_inside, .ref m_can, .ref m_fewest, .ref m_waysTo, .ref m_then, .ref m_two, .ref m_nextTwo, .ref m_three, .ref m_nextThree, .int (-1), .ref m_worth, .ref m_digit, .int 0, .long 0, .int 0, .int 0, .int 0, .int 0, .long 0])), (m_courts, .inl (cm_courts, 5, .inl (fun _ => 0)))]) hD hS hA [0, 1] rfl
  refine va_calli (va_runV (As := [.int (xs (Int32.toNatClampNeg 1)), .int (xs (Int32.toNatClampNeg 2)), .int (xs (Int32.toNatClampNeg 3))]) (rest := [.int (-2)]) ⟨hx, hb, hml, hown, hts⟩ (k_X10_gates l dC dI m0 (xs (Int32.toNatClampNeg 1)) (xs (Int32.toNatClampNeg 2)) (xs (Int32.toNatClampNeg 3)) m_width m_many m_cells m_moved m_tape m_lines m_hours m_courts m_in m_gates m_gate m_people m_at0 m_stray m_set m_once m_truth m_known m_isKept m_inside m_can m_fewest m_waysTo m_then m_two m_nextTwo m_three m_nextThree m_worth m_digit cm_courts H.size) (cwV 3 hts (z_gV zw_t8_33 zw_t8_34 zw_t8_35 zw_t1_11 zw_t8_36) rfl rfl rfl (by decide +kernel) ⟨(Nat.le_of_ble_eq_true rfl), (Nat.le_of_ble_eq_true rfl)⟩) (z_preV hPc hKc hDc (ci := 10) (q0 := 0) rfl rfl) rfl rfl hl.1 rfl (lv_room (Nat.le_of_ble_eq_true rfl)) dL_law_769 ⟨(Nat.le_of_ble_eq_true rfl), (Nat.le_of_ble_eq_true rfl)⟩) hS (fun q _ h => hFc q h) hFc (fun r_8 u t H1 locs ht hvm hw hB hz1 hk1 hS => ?_)
  have hB : zW dC dI [] [] (va_A [(m0, .inr (10, [.int 0, .ref m_width, .ref m_many, .ref m_cells, .ref m_moved, .ref m_tape, .int 0, .int 0, .int 0, .int 0, .int 0, .long 0, .int 0, .int 0, .int 0, .int (-1), .ref m_lines, .ref m_hours, .ref m_courts, .ref m_in, .ref m_gates, .ref m_gate, .ref m_people, .ref m_at0, .ref m_stray, .ref m_set, .ref m_once, .ref m_truth, .ref m_known, .ref m_isKept, .int 0, .int (-1), .int 0, .int 0, .ref m_inside, .ref m_can, .ref m_fewest, .ref m_waysTo, .ref m_then, .ref m_two, .ref m_nextTwo, .ref m_three, .ref m_nextThree, .int (-1), .ref m_worth, .ref m_digit, .int 0, .long 0, .int 0, .int 0, .int 0, .int 0, .long 0])), (m_courts, .inl (cm_courts, 5, .inl (fun _ => 0)))] H.size) t := z_none (va_K.moved hvm hK)
  obtain ⟨hP, hD, hK⟩ := z_after [] hB ht hvm hP hD hK [0, 1] [] rfl rfl (by decide) (by decide) hk1 hFc
  generalize H1 = H at hP hS ⊢
  have hP : va_P (dC, dI) vwCl [] H := hP
  have hD : va_D A [] := hD
  have hK : va_K (dC, dI) vwCl [(cm_courts, .int)] s := hK
  obtain rfl : r_8 = (-2) := hw
  refine lv_icmp_eq (tgt := 2651) hx hb dL_law_772 (by decide) (fun _ => ?_) (fun q => absurd q (by decide))
  exact law_tail C0 hA2 (Nat.le_of_ble_eq_true rfl) (Nat.le_of_ble_eq_true rfl) hS (lv_sub hl [0, 3] rfl)
set_option maxHeartbeats 4000000 in
set_option maxRecDepth 100000 in
theorem law_way {p : Program} {e : Env} {s : State} {m : MethodId} {below : List Frame} {meth : Method} {c : Code} {l : Launch} {b : Nat} {xs : Nat → Int32} (C0 : lw_At p s m meth c b 6 xs) {dC : Nat → ClassId} {dI : Nat → Nat → Nat} {A : Nat → Prop} (hA : ∀ q, s.heap.size ≤ q → A q) (hA2 : ∀ q, A q → s.heap.size ≤ q) {h0 : Nat} {tp : Nat} {nw : Nat} {im : Nat} {sl : Nat} {rd : Nat} {wk : Nat} {fm : Nat} {mt : Nat} {ch : Nat} {dy : Nat} {tn : Nat} {ta0 : Nat} {ta1 : Nat} {ta2 : Nat} {ta3 : Nat} {ta4 : Nat} {ta5 : Nat} {ta6 : Nat} {ta7 : Nat} {ta8 : Nat} {ta9 : Nat} {m0 : Nat} {m_width : Nat} {m_many : Nat} {m_cells : Nat} {m_moved : Nat} {m_tape : Nat} {m_lines : Nat} {m_hours : Nat} {m_courts : Nat} {m_in : Nat} {m_gates : Nat} {m_gate : Nat} {m_people : Nat} {m_at0 : Nat} {m_stray : Nat} {m_set : Nat} {m_once : Nat} {m_truth : Nat} {m_known : Nat} {m_isKept : Nat} {m_inside : Nat} {m_can : Nat} {m_fewest : Nat} {m_waysTo : Nat} {m_then : Nat} {m_two : Nat} {m_nextTwo : Nat} {m_three : Nat} {m_nextThree : Nat} {m_worth : Nat} {m_digit : Nat} {cm_courts : ClassId}  {H : Heap} {locs : List Loc} {ls : Array Slot} (hP : va_P (dC, dI) vwCl [(h0, .inr (9, [.ref tp, .int 0, .int 0, .int (-1), .ref nw, .ref im, .ref sl, .ref rd, .ref wk, .ref fm, .ref mt, .ref ch, .ref dy])), (nw, .inr (3, [.int 0, .ref tn, .int 0, .int 0, .int 0, .int 0])), (tn, .inr (7, [.int 0, .int 0, .int 0, .int 0, .int 0, .int 0, .int 0, .int 0, .ref ta0, .ref ta1, .ref ta2, .ref ta3, .ref ta4, .ref ta5, .ref ta6, .ref ta7, .ref ta8, .ref ta9])), (m0, .inr (10, [.int 0, .ref m_width, .ref m_many, .ref m_cells, .ref m_moved, .ref m_tape, .int 0, .int 0, .int 0, .int 0, .int 0, .long 0, .int 0, .int 0, .int 0, .int (-1), .ref m_lines, .ref m_hours, .ref m_courts, .ref m_in, .ref m_gates, .ref m_gate, .ref m_people, .ref m_at0, .ref m_stray, .ref m_set, .ref m_once, .ref m_truth, .ref m_known, .ref m_isKept, .int 0, .int (-1), .int 0, .int 0, .ref m_inside, .ref m_can, .ref m_fewest, .ref m_waysTo, .ref m_then, .ref m_two, .ref m_nextTwo, .ref m_three, .ref m_nextThree, .int (-1), .ref m_worth, .ref m_digit, .int 0, .long 0, .int 0, .int 0, .int 0, .int 0, .long 0])), (m_courts, .inl (cm_courts, 5, .inl (fun _ => 0)))] H) (hD : va_D A [(h0, .inr (9, [.ref tp, .int 0, .int 0, .int (-1), .ref nw, .ref im, .ref sl, .ref rd, .ref wk, .ref fm, .ref mt, .ref ch, .ref dy])), (nw, .inr (3, [.int 0, .ref tn, .int 0, .int 0, .int 0, .int 0])), (tn, .inr (7, [.int 0, .int 0, .int 0, .int 0, .int 0, .int 0, .int 0, .int 0, .ref ta0, .ref ta1, .ref ta2, .ref ta3, .ref ta4, .ref ta5, .ref ta6, .ref ta7, .ref ta8, .ref ta9])), (m0, .inr (10, [.int 0, .ref m_width, .ref m_many, .ref m_cells, .ref m_moved, .ref m_tape, .int 0, .int 0, .int 0, .int 0, .int 0, .long 0, .int 0, .int 0, .int 0, .int (-1), .ref m_lines, .ref m_hours, .ref m_courts, .ref m_in, .ref m_gates, .ref m_gate, .ref m_people, .ref m_at0, .ref m_stray, .ref m_set, .ref m_once, .ref m_truth, .ref m_known, .ref m_isKept, .int 0, .int (-1), .int 0, .int 0, .ref m_inside, .ref m_can, .ref m_fewest, .ref m_waysTo, .ref m_then, .ref m_two, .ref m_nextTwo, .ref m_three, .ref m_nextThree, .int (-1), .ref m_worth, .ref m_digit, .int 0, .long 0, .int 0, .int 0, .int 0, .int 0, .long 0])), (m_courts, .inl (cm_courts, 5, .inl (fun _ => 0)))]) (hK : va_K (dC, dI) vwCl [(cm_courts, .int)] s) (hS : va_S A s.heap H locs) (hl : lv_has ls 4 [(3, .int 0), (2, .ref m0), (1, .ref h0), (0, .ref b)]) : W p l e room_1 s m #[Value.ref b] below meth c H locs 166 101284 (lw_Z below #[Value.ref b] s) (F0 m 777 ls []) := by
  obtain ⟨hx, hb, hr, hml, hown, hts, hX, hbl, hlocks, hgv⟩ := id C0
  have hown : s.vm.findClass RL = some m.cls := hown
  have hb : c.code = cL_law := hb
  have hts : ∀ w ∈ zT, w.before #[Value.ref b] s = true := fun w h => hts w (zT_in w h)
  have hbA : ¬ A b := fun q => absurd (hA2 b q) (Nat.not_le.mpr hbl)
  refine lv_aload_n hx hb dL_law_777 rfl (lv_at hl 2 rfl) ?_
  refine lv_aload_n hx hb dL_law_778 rfl (lv_at hl 3 rfl) ?_
  refine lv_iload_n hx hb dL_law_779 rfl (lv_at hl 0 rfl) ?_
  refine lv_iconst (v := 1) hx hb dL_law_780 (by decide) ?_
  refine lv_iadd hx hb dL_law_781 ?_
  refine lv_topi (fun x_1 ex_1 => ?_)
  obtain rfl : x_1 = 1 := ex_1.trans (by decide)
  refine va_sld hx hb hX hbl hbA hS (z_inC _ (k := 1) (by decide) (by decide)) dL_law_782 ?_
  refine lv_aload_n hx hb dL_law_783 rfl (lv_at hl 3 rfl) ?_
  refine lv_iload_n hx hb dL_law_784 rfl (lv_at hl 0 rfl) ?_
  refine lv_iconst (v := 2) hx hb dL_law_785 (by decide) ?_
  refine lv_iadd hx hb dL_law_786 ?_
  refine lv_topi (fun x_2 ex_2 => ?_)
  obtain rfl : x_2 = 2 := ex_2.trans (by decide)
  refine va_sld hx hb hX hbl hbA hS (z_inC _ (k := 2) (by decide) (by decide)) dL_law_787 ?_
  refine lv_aload_n hx hb dL_law_788 rfl (lv_at hl 3 rfl) ?_
  refine lv_iload_n hx hb dL_law_789 rfl (lv_at hl 0 rfl) ?_
  refine lv_iconst (v := 3) hx hb dL_law_790 (by decide) ?_
  refine lv_iadd hx hb dL_law_791 ?_
  refine lv_topi (fun x_3 ex_3 => ?_)
  obtain rfl : x_3 = 3 := ex_3.trans (by decide)
  refine va_sld hx hb hX hbl hbA hS (z_inC _ (k := 3) (by decide) (by decide)) dL_law_792 ?_
  refine lv_aload_n hx hb dL_law_793 rfl (lv_at hl 3 rfl) ?_
  refine lv_iload_n hx hb dL_law_794 rfl (lv_at hl 0 rfl) ?_
  refine lv_iconst (v := 4) hx hb dL_law_795 (by decide) ?_
  refine lv_iadd hx hb dL_law_796 ?_
  refine lv_topi (fun x_4 ex_4 => ?_)
  obtain rfl : x_4 = 4 := ex_4.trans (by decide)
  refine va_sld hx hb hX hbl hbA hS (z_inC _ (k := 4) (by decide) (by decide)) dL_law_797 ?_
  have hPc := hP.sub (ws' := [(h0, .inr (9, [.ref tp, .int 0, .int 0, .int (-1), .ref nw, .ref im, .ref sl, .ref rd, .ref wk, .ref fm, .ref mt, .ref ch, .ref dy])), (nw, .inr (3, [.int 0, .ref tn, .int 0, .int 0, .int 0, .int 0])), (tn, .inr (7, [.int 0, .int 0, .int 0, .int 0, .int 0, .int 0, .int 0, .int 0, .ref ta0, .ref ta1, .ref ta2, .ref ta3, .ref ta4, .ref ta5, .ref ta6, .ref ta7, .ref ta8, .ref ta9]))]) [0, 1, 2] rfl
  have hDc := hD.sub (ws' := [(h0, .inr (9, [.ref tp, .int 0, .int 0, .int (-1), .ref nw, .ref im, .ref sl, .ref rd, .ref wk, .ref fm, .ref mt, .ref ch, .ref dy])), (nw, .inr (3, [.int 0, .ref tn, .int 0, .int 0, .int 0, .int 0])), (tn, .inr (7, [.int 0, .int 0, .int 0, .int 0, .int 0, .int 0, .int 0, .int 0, .ref ta0, .ref ta1, .ref ta2, .ref ta3, .ref ta4, .ref ta5, .ref ta6, .ref ta7, .ref ta8, .ref ta9]))]) [0, 1, 2] (by decide) rfl
  have hKc := hK.sub (tys' := []) [] rfl
  have hFc := va_free (wc := [(h0, .inr (9, [.ref tp, .int 0, .int 0, .int (-1), .ref nw, .ref im, .ref sl, .ref rd, .ref wk, .ref fm, .ref mt, .ref ch, .ref dy])), (nw, .inr (3, [.int 0, .ref tn, .int 0, .int 0, .int 0, .int 0])), (tn, .inr (7, [.int 0, .int 0, .int 0, .int 0, .int 0, .int 0, .int 0, .int 0, .ref ta0, .ref ta1, .ref ta2, .ref ta3, .ref ta4, .ref ta5, .ref ta6, .ref ta7, .ref ta8, .ref ta9]))]) hD hS hA [0, 1, 2] rfl
  refine va_calli (va_runV (As := [.int (xs (Int32.toNatClampNeg 1)), .int (xs (Int32.toNatClampNeg 2)), .int (xs (Int32.toNatClampNeg 3)), .int (xs (Int32.toNatClampNeg 4))]) (rest := []) ⟨hx, hb, hml, hown, hts⟩ (k_X9_way l dC dI h0 (xs (Int32.toNatClampNeg 1)) (xs (Int32.toNatClampNeg 2)) (xs (Int32.toNatClampNeg 3)) (xs (Int32.toNatClampNeg 4)) tp nw im sl rd wk fm mt ch dy tn ta0 ta1 ta2 ta3 ta4 ta5 ta6 ta7 ta8 ta9 H.size) (cwV 4 hts (z_gV zw_t4_79 zw_t4_80 zw_t4_81 zw_t1_1 zw_t4_82) rfl rfl rfl (by decide +kernel) ⟨(Nat.le_of_ble_eq_true rfl), (Nat.le_of_ble_eq_true rfl)⟩) (z_preV hPc hKc hDc (ci := 9) (q0 := 0) rfl rfl) rfl rfl hl.1 rfl (lv_room (Nat.le_of_ble_eq_true rfl)) dL_law_798 ⟨(Nat.le_of_ble_eq_true rfl), (Nat.le_of_ble_eq_true rfl)⟩) hS (fun q _ h => hFc q h) hFc (fun r_5 u t H1 locs ht hvm hw hB hz1 hk1 hS => ?_)
  have hB : zW dC dI [] [] (va_A [(h0, .inr (9, [.ref tp, .int 0, .int 0, .int (-1), .ref nw, .ref im, .ref sl, .ref rd, .ref wk, .ref fm, .ref mt, .ref ch, .ref dy])), (nw, .inr (3, [.int 0, .ref tn, .int 0, .int 0, .int 0, .int 0])), (tn, .inr (7, [.int 0, .int 0, .int 0, .int 0, .int 0, .int 0, .int 0, .int 0, .ref ta0, .ref ta1, .ref ta2, .ref ta3, .ref ta4, .ref ta5, .ref ta6, .ref ta7, .ref ta8, .ref ta9]))] H.size) t := z_none (va_K.moved hvm hK)
  obtain ⟨hP, hD, hK⟩ := z_after [(m0, .inr (10, [.int 0, .ref m_width, .ref m_many, .ref m_cells, .ref m_moved, .ref m_tape, .int 0, .int 0, .int 0, .int 0, .int 0, .long 0, .int 0, .int 0, .int 0, .int (-1), .ref m_lines, .ref m_hours, .ref m_courts, .ref m_in, .ref m_gates, .ref m_gate, .ref m_people, .ref m_at0, .ref m_stray, .ref m_set, .ref m_once, .ref m_truth, .ref m_known, .ref m_isKept, .int 0, .int (-1), .int 0, .int 0, .ref m_inside, .ref m_can, .ref m_fewest, .ref m_waysTo, .ref m_then, .ref m_two, .ref m_nextTwo, .ref m_three, .ref m_nextThree, .int (-1), .ref m_worth, .ref m_digit, .int 0, .long 0, .int 0, .int 0, .int 0, .int 0, .long 0])), (m_courts, .inl (cm_courts, 5, .inl (fun _ => 0)))] hB ht hvm hP hD hK [0, 1, 2] [3, 4] rfl rfl (by decide) (by decide) hk1 hFc
  generalize H1 = H at hP hS ⊢
  have hP : va_P (dC, dI) vwCl [(m0, .inr (10, [.int 0, .ref m_width, .ref m_many, .ref m_cells, .ref m_moved, .ref m_tape, .int 0, .int 0, .int 0, .int 0, .int 0, .long 0, .int 0, .int 0, .int 0, .int (-1), .ref m_lines, .ref m_hours, .ref m_courts, .ref m_in, .ref m_gates, .ref m_gate, .ref m_people, .ref m_at0, .ref m_stray, .ref m_set, .ref m_once, .ref m_truth, .ref m_known, .ref m_isKept, .int 0, .int (-1), .int 0, .int 0, .ref m_inside, .ref m_can, .ref m_fewest, .ref m_waysTo, .ref m_then, .ref m_two, .ref m_nextTwo, .ref m_three, .ref m_nextThree, .int (-1), .ref m_worth, .ref m_digit, .int 0, .long 0, .int 0, .int 0, .int 0, .int 0, .long 0])), (m_courts, .inl (cm_courts, 5, .inl (fun _ => 0)))] H := hP
  have hD : va_D A [(m0, .inr (10, [.int 0, .ref m_width, .ref m_many, .ref m_cells, .ref m_moved, .ref m_tape, .int 0, .int 0, .int 0, .int 0, .int 0, .long 0, .int 0, .int 0, .int 0, .int (-1), .ref m_lines, .ref m_hours, .ref m_courts, .ref m_in, .ref m_gates, .ref m_gate, .ref m_people, .ref m_at0, .ref m_stray, .ref m_set, .ref m_once, .ref m_truth, .ref m_known, .ref m_isKept, .int 0, .int (-1), .int 0, .int 0, .ref m_inside, .ref m_can, .ref m_fewest, .ref m_waysTo, .ref m_then, .ref m_two, .ref m_nextTwo, .ref m_three, .ref m_nextThree, .int (-1), .ref m_worth, .ref m_digit, .int 0, .long 0, .int 0, .int 0, .int 0, .int 0, .long 0])), (m_courts, .inl (cm_courts, 5, .inl (fun _ => 0)))] := hD
  have hK : va_K (dC, dI) vwCl [(cm_courts, .int)] s := hK
  obtain rfl : r_5 = (-2) := hw
  refine lv_aload_n hx hb dL_law_801 rfl (lv_at hl 1 rfl) ?_
  refine lv_aload_n hx hb dL_law_802 rfl (lv_at hl 3 rfl) ?_
  refine lv_iload_n hx hb dL_law_803 rfl (lv_at hl 0 rfl) ?_
  refine lv_iconst (v := 1) hx hb dL_law_804 (by decide) ?_
  refine lv_iadd hx hb dL_law_805 ?_
  refine lv_topi (fun x_6 ex_6 => ?_)
  obtain rfl : x_6 = 1 := ex_6.trans (by decide)
  refine va_sld hx hb hX hbl hbA hS (z_inC _ (k := 1) (by decide) (by decide)) dL_law_806 ?_
  refine lv_aload_n hx hb dL_law_807 rfl (lv_at hl 3 rfl) ?_
  refine lv_iload_n hx hb dL_law_808 rfl (lv_at hl 0 rfl) ?_
  refine lv_iconst (v := 2) hx hb dL_law_809 (by decide) ?_
  refine lv_iadd hx hb dL_law_810 ?_
  refine lv_topi (fun x_7 ex_7 => ?_)
  obtain rfl : x_7 = 2 := ex_7.trans (by decide)
  refine va_sld hx hb hX hbl hbA hS (z_inC _ (k := 2) (by decide) (by decide)) dL_law_811 ?_
  refine lv_aload_n hx hb dL_law_812 rfl (lv_at hl 3 rfl) ?_
  refine lv_iload_n hx hb dL_law_813 rfl (lv_at hl 0 rfl) ?_
  refine lv_iconst (v := 3) hx hb dL_law_814 (by decide) ?_
  refine lv_iadd hx hb dL_law_815 ?_
  refine lv_topi (fun x_8 ex_8 => ?_)
  obtain rfl : x_8 = 3 := ex_8.trans (by decide)
  refine va_sld hx hb hX hbl hbA hS (z_inC _ (k := 3) (by decide) (by decide)) dL_law_816 ?_
  refine lv_aload_n hx hb dL_law_817 rfl (lv_at hl 3 rfl) ?_
  refine lv_iload_n hx hb dL_law_818 rfl (lv_at hl 0 rfl) ?_
  refine lv_iconst (v := 4) hx hb dL_law_819 (by decide) ?_
  refine lv_iadd hx hb dL_law_820 ?_
  refine lv_topi (fun x_9 ex_9 => ?_)
  obtain rfl : x_9 = 4 := ex_9.trans (by decide)
  refine va_sld hx hb hX hbl hbA hS (z_inC _ (k := 4) (by decide) (by decide)) dL_law_821 ?_
  have hPc := hP.sub (ws' := [(m0, .inr (10, [.int 0, .ref m_width, .ref m_many, .ref m_cells, .ref m_moved, .ref m_tape, .int 0, .int 0, .int 0, .int 0, .int 0, .long 0, .int 0, .int 0, .int 0, .int (-1), .ref m_lines, .ref m_hours, .ref m_courts, .ref m_in, .ref m_gates, .ref m_gate, .ref m_people, .ref m_at0, .ref m_stray, .ref m_set, .ref m_once, .ref m_truth, .ref m_known, .ref m_isKept, .int 0, .int (-1), .int 0, .int 0, .ref m_inside, .ref m_can, .ref m_fewest, .ref m_waysTo, .ref m_then, .ref m_two, .ref m_nextTwo, .ref m_three, .ref m_nextThree, .int (-1), .ref m_worth, .ref m_digit, .int 0, .long 0, .int 0, .int 0, .int 0, .int 0, .long 0])), (m_courts, .inl (cm_courts, 5, .inl (fun _ => 0)))]) [0, 1] rfl
  have hDc := hD.sub (ws' := [(m0, .inr (10, [.int 0, .ref m_width, .ref m_many, .ref m_cells, .ref m_moved, .ref m_tape, .int 0, .int 0, .int 0, .int 0, .int 0, .long 0, .int 0, .int 0, .int 0, .int (-1), .ref m_lines, .ref m_hours, .ref m_courts, .ref m_in, .ref m_gates, .ref m_gate, .ref m_people, .ref m_at0, .ref m_stray, .ref m_set, .ref m_once, .ref m_truth, .ref m_known, .ref m_isKept, .int 0, .int (-1), .int 0, .int 0, .ref m_inside, .ref m_can, .ref m_fewest, .ref m_waysTo, .ref m_then, .ref m_two, .ref m_nextTwo, .ref m_three, .ref m_nextThree, .int (-1), .ref m_worth, .ref m_digit, .int 0, .long 0, .int 0, .int 0, .int 0, .int 0, .long 0])), (m_courts, .inl (cm_courts, 5, .inl (fun _ => 0)))]) [0, 1] (by decide) rfl
  have hKc := hK.sub (tys' := [(cm_courts, .int)]) [0] rfl
  have hFc := va_free (wc := [(m0, .inr (10, [.int 0, .ref m_width, .ref m_many, .ref m_cells, .ref m_moved, .ref m_tape, .int 0, .int 0, .int 0, .int 0, .int 0, .long 0, .int 0, .int 0, .int 0, .int (-1), .ref m_lines, .ref m_hours, .ref m_courts, .ref m_in, .ref m_gates, .ref m_gate, .ref m_people, .ref m_at0, .ref m_stray, .ref m_set, .ref m_once, .ref m_truth, .ref m_known, .ref m_isKept, .int 0, .int (-1), .int 0, .int 0, .ref m_inside, .ref m_can, .ref m_fewest, .ref m_waysTo, .ref m_then, .ref m_two, .ref m_nextTwo, .ref m_three, .ref m_nextThree, .int (-1), .ref m_worth, .ref m_digit, .int 0, .long 0, .int 0, .int 0, .int 0, .int 0, .long 0])), (m_courts, .inl (cm_courts, 5, .inl (fun _ => 0)))]) hD hS hA [0, 1] rfl
  refine va_calli (va_runV (As := [.int (xs (Int32.toNatClampNeg 1)), .int (xs (Int32.toNatClampNeg 2)), .int (xs (Int32.toNatClampNeg 3)), .int (xs (Int32.toNatClampNeg 4))]) (rest := [.int (-2)]) ⟨hx, hb, hml, hown, hts⟩ (k_X10_way l dC dI m0 (xs (Int32.toNatClampNeg 1)) (xs (Int32.toNatClampNeg 2)) (xs (Int32.toNatClampNeg 3)) (xs (Int32.toNatClampNeg 4)) m_width m_many m_cells m_moved m_tape m_lines m_hours m_courts m_in m_gates m_gate m_people m_at0 m_stray m_set m_once m_truth m_known m_isKept m_inside m_can m_fewest m_waysTo m_then m_two m_nextTwo m_three m_nextThree m_worth m_digit cm_courts H.size) (cwV 4 hts (z_gV zw_t8_44 zw_t8_45 zw_t8_46 zw_t1_11 zw_t8_47) rfl rfl rfl (by decide +kernel) ⟨(Nat.le_of_ble_eq_true rfl), (Nat.le_of_ble_eq_true rfl)⟩) (z_preV hPc hKc hDc (ci := 10) (q0 := 0) rfl rfl) rfl rfl hl.1 rfl (lv_room (Nat.le_of_ble_eq_true rfl)) dL_law_822 ⟨(Nat.le_of_ble_eq_true rfl), (Nat.le_of_ble_eq_true rfl)⟩) hS (fun q _ h => hFc q h) hFc (fun r_10 u t H1 locs ht hvm hw hB hz1 hk1 hS => ?_)
  have hB : zW dC dI [] [] (va_A [(m0, .inr (10, [.int 0, .ref m_width, .ref m_many, .ref m_cells, .ref m_moved, .ref m_tape, .int 0, .int 0, .int 0, .int 0, .int 0, .long 0, .int 0, .int 0, .int 0, .int (-1), .ref m_lines, .ref m_hours, .ref m_courts, .ref m_in, .ref m_gates, .ref m_gate, .ref m_people, .ref m_at0, .ref m_stray, .ref m_set, .ref m_once, .ref m_truth, .ref m_known, .ref m_isKept, .int 0, .int (-1), .int 0, .int 0, .ref m_inside, .ref m_can, .ref m_fewest, .ref m_waysTo, .ref m_then, .ref m_two, .ref m_nextTwo, .ref m_three, .ref m_nextThree, .int (-1), .ref m_worth, .ref m_digit, .int 0, .long 0, .int 0, .int 0, .int 0, .int 0, .long 0])), (m_courts, .inl (cm_courts, 5, .inl (fun _ => 0)))] H.size) t := z_none (va_K.moved hvm hK)
  obtain ⟨hP, hD, hK⟩ := z_after [] hB ht hvm hP hD hK [0, 1] [] rfl rfl (by decide) (by decide) hk1 hFc
  generalize H1 = H at hP hS ⊢
  have hP : va_P (dC, dI) vwCl [] H := hP
  have hD : va_D A [] := hD
  have hK : va_K (dC, dI) vwCl [(cm_courts, .int)] s := hK
  obtain rfl : r_10 = (-2) := hw
  refine lv_icmp_eq (tgt := 2651) hx hb dL_law_825 (by decide) (fun _ => ?_) (fun q => absurd q (by decide))
  exact law_tail C0 hA2 (Nat.le_of_ble_eq_true rfl) (Nat.le_of_ble_eq_true rfl) hS (lv_sub hl [0, 3] rfl)
set_option maxHeartbeats 4000000 in
set_option maxRecDepth 100000 in
theorem law_reach {p : Program} {e : Env} {s : State} {m : MethodId} {below : List Frame} {meth : Method} {c : Code} {l : Launch} {b : Nat} {xs : Nat → Int32} (C0 : lw_At p s m meth c b 6 xs) {dC : Nat → ClassId} {dI : Nat → Nat → Nat} {A : Nat → Prop} (hA : ∀ q, s.heap.size ≤ q → A q) (hA2 : ∀ q, A q → s.heap.size ≤ q) {h0 : Nat} {tp : Nat} {nw : Nat} {im : Nat} {sl : Nat} {rd : Nat} {wk : Nat} {fm : Nat} {mt : Nat} {ch : Nat} {dy : Nat} {tn : Nat} {ta0 : Nat} {ta1 : Nat} {ta2 : Nat} {ta3 : Nat} {ta4 : Nat} {ta5 : Nat} {ta6 : Nat} {ta7 : Nat} {ta8 : Nat} {ta9 : Nat} {m0 : Nat} {m_width : Nat} {m_many : Nat} {m_cells : Nat} {m_moved : Nat} {m_tape : Nat} {m_lines : Nat} {m_hours : Nat} {m_courts : Nat} {m_in : Nat} {m_gates : Nat} {m_gate : Nat} {m_people : Nat} {m_at0 : Nat} {m_stray : Nat} {m_set : Nat} {m_once : Nat} {m_truth : Nat} {m_known : Nat} {m_isKept : Nat} {m_inside : Nat} {m_can : Nat} {m_fewest : Nat} {m_waysTo : Nat} {m_then : Nat} {m_two : Nat} {m_nextTwo : Nat} {m_three : Nat} {m_nextThree : Nat} {m_worth : Nat} {m_digit : Nat} {cm_courts : ClassId}  {H : Heap} {locs : List Loc} {ls : Array Slot} (hP : va_P (dC, dI) vwCl [(h0, .inr (9, [.ref tp, .int 0, .int 0, .int (-1), .ref nw, .ref im, .ref sl, .ref rd, .ref wk, .ref fm, .ref mt, .ref ch, .ref dy])), (nw, .inr (3, [.int 0, .ref tn, .int 0, .int 0, .int 0, .int 0])), (tn, .inr (7, [.int 0, .int 0, .int 0, .int 0, .int 0, .int 0, .int 0, .int 0, .ref ta0, .ref ta1, .ref ta2, .ref ta3, .ref ta4, .ref ta5, .ref ta6, .ref ta7, .ref ta8, .ref ta9])), (m0, .inr (10, [.int 0, .ref m_width, .ref m_many, .ref m_cells, .ref m_moved, .ref m_tape, .int 0, .int 0, .int 0, .int 0, .int 0, .long 0, .int 0, .int 0, .int 0, .int (-1), .ref m_lines, .ref m_hours, .ref m_courts, .ref m_in, .ref m_gates, .ref m_gate, .ref m_people, .ref m_at0, .ref m_stray, .ref m_set, .ref m_once, .ref m_truth, .ref m_known, .ref m_isKept, .int 0, .int (-1), .int 0, .int 0, .ref m_inside, .ref m_can, .ref m_fewest, .ref m_waysTo, .ref m_then, .ref m_two, .ref m_nextTwo, .ref m_three, .ref m_nextThree, .int (-1), .ref m_worth, .ref m_digit, .int 0, .long 0, .int 0, .int 0, .int 0, .int 0, .long 0])), (m_courts, .inl (cm_courts, 5, .inl (fun _ => 0)))] H) (hD : va_D A [(h0, .inr (9, [.ref tp, .int 0, .int 0, .int (-1), .ref nw, .ref im, .ref sl, .ref rd, .ref wk, .ref fm, .ref mt, .ref ch, .ref dy])), (nw, .inr (3, [.int 0, .ref tn, .int 0, .int 0, .int 0, .int 0])), (tn, .inr (7, [.int 0, .int 0, .int 0, .int 0, .int 0, .int 0, .int 0, .int 0, .ref ta0, .ref ta1, .ref ta2, .ref ta3, .ref ta4, .ref ta5, .ref ta6, .ref ta7, .ref ta8, .ref ta9])), (m0, .inr (10, [.int 0, .ref m_width, .ref m_many, .ref m_cells, .ref m_moved, .ref m_tape, .int 0, .int 0, .int 0, .int 0, .int 0, .long 0, .int 0, .int 0, .int 0, .int (-1), .ref m_lines, .ref m_hours, .ref m_courts, .ref m_in, .ref m_gates, .ref m_gate, .ref m_people, .ref m_at0, .ref m_stray, .ref m_set, .ref m_once, .ref m_truth, .ref m_known, .ref m_isKept, .int 0, .int (-1), .int 0, .int 0, .ref m_inside, .ref m_can, .ref m_fewest, .ref m_waysTo, .ref m_then, .ref m_two, .ref m_nextTwo, .ref m_three, .ref m_nextThree, .int (-1), .ref m_worth, .ref m_digit, .int 0, .long 0, .int 0, .int 0, .int 0, .int 0, .long 0])), (m_courts, .inl (cm_courts, 5, .inl (fun _ => 0)))]) (hK : va_K (dC, dI) vwCl [(cm_courts, .int)] s) (hS : va_S A s.heap H locs) (hl : lv_has ls 4 [(3, .int 0), (2, .ref m0), (1, .ref h0), (0, .ref b)]) : W p l e room_1 s m #[Value.ref b] below meth c H locs 166 101284 (lw_Z below #[Value.ref b] s) (F0 m 830 ls []) := by
  obtain ⟨hx, hb, hr, hml, hown, hts, hX, hbl, hlocks, hgv⟩ := id C0
  have hown : s.vm.findClass RL = some m.cls := hown
  have hb : c.code = cL_law := hb
  have hts : ∀ w ∈ zT, w.before #[Value.ref b] s = true := fun w h => hts w (zT_in w h)
  have hbA : ¬ A b := fun q => absurd (hA2 b q) (Nat.not_le.mpr hbl)
  refine lv_aload_n hx hb dL_law_830 rfl (lv_at hl 2 rfl) ?_
  refine lv_aload_n hx hb dL_law_831 rfl (lv_at hl 3 rfl) ?_
  refine lv_iload_n hx hb dL_law_832 rfl (lv_at hl 0 rfl) ?_
  refine lv_iconst (v := 1) hx hb dL_law_833 (by decide) ?_
  refine lv_iadd hx hb dL_law_834 ?_
  refine lv_topi (fun x_1 ex_1 => ?_)
  obtain rfl : x_1 = 1 := ex_1.trans (by decide)
  refine va_sld hx hb hX hbl hbA hS (z_inC _ (k := 1) (by decide) (by decide)) dL_law_835 ?_
  refine lv_aload_n hx hb dL_law_836 rfl (lv_at hl 3 rfl) ?_
  refine lv_iload_n hx hb dL_law_837 rfl (lv_at hl 0 rfl) ?_
  refine lv_iconst (v := 2) hx hb dL_law_838 (by decide) ?_
  refine lv_iadd hx hb dL_law_839 ?_
  refine lv_topi (fun x_2 ex_2 => ?_)
  obtain rfl : x_2 = 2 := ex_2.trans (by decide)
  refine va_sld hx hb hX hbl hbA hS (z_inC _ (k := 2) (by decide) (by decide)) dL_law_840 ?_
  have hPc := hP.sub (ws' := [(h0, .inr (9, [.ref tp, .int 0, .int 0, .int (-1), .ref nw, .ref im, .ref sl, .ref rd, .ref wk, .ref fm, .ref mt, .ref ch, .ref dy])), (nw, .inr (3, [.int 0, .ref tn, .int 0, .int 0, .int 0, .int 0])), (tn, .inr (7, [.int 0, .int 0, .int 0, .int 0, .int 0, .int 0, .int 0, .int 0, .ref ta0, .ref ta1, .ref ta2, .ref ta3, .ref ta4, .ref ta5, .ref ta6, .ref ta7, .ref ta8, .ref ta9]))]) [0, 1, 2] rfl
  have hDc := hD.sub (ws' := [(h0, .inr (9, [.ref tp, .int 0, .int 0, .int (-1), .ref nw, .ref im, .ref sl, .ref rd, .ref wk, .ref fm, .ref mt, .ref ch, .ref dy])), (nw, .inr (3, [.int 0, .ref tn, .int 0, .int 0, .int 0, .int 0])), (tn, .inr (7, [.int 0, .int 0, .int 0, .int 0, .int 0, .int 0, .int 0, .int 0, .ref ta0, .ref ta1, .ref ta2, .ref ta3, .ref ta4, .ref ta5, .ref ta6, .ref ta7, .ref ta8, .ref ta9]))]) [0, 1, 2] (by decide) rfl
  have hKc := hK.sub (tys' := []) [] rfl
  have hFc := va_free (wc := [(h0, .inr (9, [.ref tp, .int 0, .int 0, .int (-1), .ref nw, .ref im, .ref sl, .ref rd, .ref wk, .ref fm, .ref mt, .ref ch, .ref dy])), (nw, .inr (3, [.int 0, .ref tn, .int 0, .int 0, .int 0, .int 0])), (tn, .inr (7, [.int 0, .int 0, .int 0, .int 0, .int 0, .int 0, .int 0, .int 0, .ref ta0, .ref ta1, .ref ta2, .ref ta3, .ref ta4, .ref ta5, .ref ta6, .ref ta7, .ref ta8, .ref ta9]))]) hD hS hA [0, 1, 2] rfl
  refine va_calli (va_runV (As := [.int (xs (Int32.toNatClampNeg 1)), .int (xs (Int32.toNatClampNeg 2))]) (rest := []) ⟨hx, hb, hml, hown, hts⟩ (k_X9_reach l dC dI h0 (xs (Int32.toNatClampNeg 1)) (xs (Int32.toNatClampNeg 2)) tp nw im sl rd wk fm mt ch dy tn ta0 ta1 ta2 ta3 ta4 ta5 ta6 ta7 ta8 ta9 H.size) (cwV 2 hts (z_gV zw_t4_91 zw_t4_92 zw_t4_93 zw_t1_1 zw_t4_94) rfl rfl rfl (by decide +kernel) ⟨(Nat.le_of_ble_eq_true rfl), (Nat.le_of_ble_eq_true rfl)⟩) (z_preV hPc hKc hDc (ci := 9) (q0 := 0) rfl rfl) rfl rfl hl.1 rfl (lv_room (Nat.le_of_ble_eq_true rfl)) dL_law_841 ⟨(Nat.le_of_ble_eq_true rfl), (Nat.le_of_ble_eq_true rfl)⟩) hS (fun q _ h => hFc q h) hFc (fun r_3 u t H1 locs ht hvm hw hB hz1 hk1 hS => ?_)
  have hB : zW dC dI [] [] (va_A [(h0, .inr (9, [.ref tp, .int 0, .int 0, .int (-1), .ref nw, .ref im, .ref sl, .ref rd, .ref wk, .ref fm, .ref mt, .ref ch, .ref dy])), (nw, .inr (3, [.int 0, .ref tn, .int 0, .int 0, .int 0, .int 0])), (tn, .inr (7, [.int 0, .int 0, .int 0, .int 0, .int 0, .int 0, .int 0, .int 0, .ref ta0, .ref ta1, .ref ta2, .ref ta3, .ref ta4, .ref ta5, .ref ta6, .ref ta7, .ref ta8, .ref ta9]))] H.size) t := z_none (va_K.moved hvm hK)
  obtain ⟨hP, hD, hK⟩ := z_after [(m0, .inr (10, [.int 0, .ref m_width, .ref m_many, .ref m_cells, .ref m_moved, .ref m_tape, .int 0, .int 0, .int 0, .int 0, .int 0, .long 0, .int 0, .int 0, .int 0, .int (-1), .ref m_lines, .ref m_hours, .ref m_courts, .ref m_in, .ref m_gates, .ref m_gate, .ref m_people, .ref m_at0, .ref m_stray, .ref m_set, .ref m_once, .ref m_truth, .ref m_known, .ref m_isKept, .int 0, .int (-1), .int 0, .int 0, .ref m_inside, .ref m_can, .ref m_fewest, .ref m_waysTo, .ref m_then, .ref m_two, .ref m_nextTwo, .ref m_three, .ref m_nextThree, .int (-1), .ref m_worth, .ref m_digit, .int 0, .long 0, .int 0, .int 0, .int 0, .int 0, .long 0])), (m_courts, .inl (cm_courts, 5, .inl (fun _ => 0)))] hB ht hvm hP hD hK [0, 1, 2] [3, 4] rfl rfl (by decide) (by decide) hk1 hFc
  generalize H1 = H at hP hS ⊢
  have hP : va_P (dC, dI) vwCl [(m0, .inr (10, [.int 0, .ref m_width, .ref m_many, .ref m_cells, .ref m_moved, .ref m_tape, .int 0, .int 0, .int 0, .int 0, .int 0, .long 0, .int 0, .int 0, .int 0, .int (-1), .ref m_lines, .ref m_hours, .ref m_courts, .ref m_in, .ref m_gates, .ref m_gate, .ref m_people, .ref m_at0, .ref m_stray, .ref m_set, .ref m_once, .ref m_truth, .ref m_known, .ref m_isKept, .int 0, .int (-1), .int 0, .int 0, .ref m_inside, .ref m_can, .ref m_fewest, .ref m_waysTo, .ref m_then, .ref m_two, .ref m_nextTwo, .ref m_three, .ref m_nextThree, .int (-1), .ref m_worth, .ref m_digit, .int 0, .long 0, .int 0, .int 0, .int 0, .int 0, .long 0])), (m_courts, .inl (cm_courts, 5, .inl (fun _ => 0)))] H := hP
  have hD : va_D A [(m0, .inr (10, [.int 0, .ref m_width, .ref m_many, .ref m_cells, .ref m_moved, .ref m_tape, .int 0, .int 0, .int 0, .int 0, .int 0, .long 0, .int 0, .int 0, .int 0, .int (-1), .ref m_lines, .ref m_hours, .ref m_courts, .ref m_in, .ref m_gates, .ref m_gate, .ref m_people, .ref m_at0, .ref m_stray, .ref m_set, .ref m_once, .ref m_truth, .ref m_known, .ref m_isKept, .int 0, .int (-1), .int 0, .int 0, .ref m_inside, .ref m_can, .ref m_fewest, .ref m_waysTo, .ref m_then, .ref m_two, .ref m_nextTwo, .ref m_three, .ref m_nextThree, .int (-1), .ref m_worth, .ref m_digit, .int 0, .long 0, .int 0, .int 0, .int 0, .int 0, .long 0])), (m_courts, .inl (cm_courts, 5, .inl (fun _ => 0)))] := hD
  have hK : va_K (dC, dI) vwCl [(cm_courts, .int)] s := hK
  obtain rfl : r_3 = (-2) := hw
  refine lv_aload_n hx hb dL_law_844 rfl (lv_at hl 1 rfl) ?_
  refine lv_aload_n hx hb dL_law_845 rfl (lv_at hl 3 rfl) ?_
  refine lv_iload_n hx hb dL_law_846 rfl (lv_at hl 0 rfl) ?_
  refine lv_iconst (v := 1) hx hb dL_law_847 (by decide) ?_
  refine lv_iadd hx hb dL_law_848 ?_
  refine lv_topi (fun x_4 ex_4 => ?_)
  obtain rfl : x_4 = 1 := ex_4.trans (by decide)
  refine va_sld hx hb hX hbl hbA hS (z_inC _ (k := 1) (by decide) (by decide)) dL_law_849 ?_
  refine lv_aload_n hx hb dL_law_850 rfl (lv_at hl 3 rfl) ?_
  refine lv_iload_n hx hb dL_law_851 rfl (lv_at hl 0 rfl) ?_
  refine lv_iconst (v := 2) hx hb dL_law_852 (by decide) ?_
  refine lv_iadd hx hb dL_law_853 ?_
  refine lv_topi (fun x_5 ex_5 => ?_)
  obtain rfl : x_5 = 2 := ex_5.trans (by decide)
  refine va_sld hx hb hX hbl hbA hS (z_inC _ (k := 2) (by decide) (by decide)) dL_law_854 ?_
  have hPc := hP.sub (ws' := [(m0, .inr (10, [.int 0, .ref m_width, .ref m_many, .ref m_cells, .ref m_moved, .ref m_tape, .int 0, .int 0, .int 0, .int 0, .int 0, .long 0, .int 0, .int 0, .int 0, .int (-1), .ref m_lines, .ref m_hours, .ref m_courts, .ref m_in, .ref m_gates, .ref m_gate, .ref m_people, .ref m_at0, .ref m_stray, .ref m_set, .ref m_once, .ref m_truth, .ref m_known, .ref m_isKept, .int 0, .int (-1), .int 0, .int 0, .ref m_inside, .ref m_can, .ref m_fewest, .ref m_waysTo, .ref m_then, .ref m_two, .ref m_nextTwo, .ref m_three, .ref m_nextThree, .int (-1), .ref m_worth, .ref m_digit, .int 0, .long 0, .int 0, .int 0, .int 0, .int 0, .long 0])), (m_courts, .inl (cm_courts, 5, .inl (fun _ => 0)))]) [0, 1] rfl
  have hDc := hD.sub (ws' := [(m0, .inr (10, [.int 0, .ref m_width, .ref m_many, .ref m_cells, .ref m_moved, .ref m_tape, .int 0, .int 0, .int 0, .int 0, .int 0, .long 0, .int 0, .int 0, .int 0, .int (-1), .ref m_lines, .ref m_hours, .ref m_courts, .ref m_in, .ref m_gates, .ref m_gate, .ref m_people, .ref m_at0, .ref m_stray, .ref m_set, .ref m_once, .ref m_truth, .ref m_known, .ref m_isKept, .int 0, .int (-1), .int 0, .int 0, .ref m_inside, .ref m_can, .ref m_fewest, .ref m_waysTo, .ref m_then, .ref m_two, .ref m_nextTwo, .ref m_three, .ref m_nextThree, .int (-1), .ref m_worth, .ref m_digit, .int 0, .long 0, .int 0, .int 0, .int 0, .int 0, .long 0])), (m_courts, .inl (cm_courts, 5, .inl (fun _ => 0)))]) [0, 1] (by decide) rfl
  have hKc := hK.sub (tys' := [(cm_courts, .int)]) [0] rfl
  have hFc := va_free (wc := [(m0, .inr (10, [.int 0, .ref m_width, .ref m_many, .ref m_cells, .ref m_moved, .ref m_tape, .int 0, .int 0, .int 0, .int 0, .int 0, .long 0, .int 0, .int 0, .int 0, .int (-1), .ref m_lines, .ref m_hours, .ref m_courts, .ref m_in, .ref m_gates, .ref m_gate, .ref m_people, .ref m_at0, .ref m_stray, .ref m_set, .ref m_once, .ref m_truth, .ref m_known, .ref m_isKept, .int 0, .int (-1), .int 0, .int 0, .ref m_inside, .ref m_can, .ref m_fewest, .ref m_waysTo, .ref m_then, .ref m_two, .ref m_nextTwo, .ref m_three, .ref m_nextThree, .int (-1), .ref m_worth, .ref m_digit, .int 0, .long 0, .int 0, .int 0, .int 0, .int 0, .long 0])), (m_courts, .inl (cm_courts, 5, .inl (fun _ => 0)))]) hD hS hA [0, 1] rfl
  refine va_calli (va_runV (As := [.int (xs (Int32.toNatClampNeg 1)), .int (xs (Int32.toNatClampNeg 2))]) (rest := [.int (-2)]) ⟨hx, hb, hml, hown, hts⟩ (k_X10_reach l dC dI m0 (xs (Int32.toNatClampNeg 1)) (xs (Int32.toNatClampNeg 2)) m_width m_many m_cells m_moved m_tape m_lines m_hours m_courts m_in m_gates m_gate m_people m_at0 m_stray m_set m_once m_truth m_known m_isKept m_inside m_can m_fewest m_waysTo m_then m_two m_nextTwo m_three m_nextThree m_worth m_digit cm_courts H.size) (cwV 2 hts (z_gV zw_t8_53 zw_t8_54 zw_t8_55 zw_t1_11 zw_t8_56) rfl rfl rfl (by decide +kernel) ⟨(Nat.le_of_ble_eq_true rfl), (Nat.le_of_ble_eq_true rfl)⟩) (z_preV hPc hKc hDc (ci := 10) (q0 := 0) rfl rfl) rfl rfl hl.1 rfl (lv_room (Nat.le_of_ble_eq_true rfl)) dL_law_855 ⟨(Nat.le_of_ble_eq_true rfl), (Nat.le_of_ble_eq_true rfl)⟩) hS (fun q _ h => hFc q h) hFc (fun r_6 u t H1 locs ht hvm hw hB hz1 hk1 hS => ?_)
  have hB : zW dC dI [] [] (va_A [(m0, .inr (10, [.int 0, .ref m_width, .ref m_many, .ref m_cells, .ref m_moved, .ref m_tape, .int 0, .int 0, .int 0, .int 0, .int 0, .long 0, .int 0, .int 0, .int 0, .int (-1), .ref m_lines, .ref m_hours, .ref m_courts, .ref m_in, .ref m_gates, .ref m_gate, .ref m_people, .ref m_at0, .ref m_stray, .ref m_set, .ref m_once, .ref m_truth, .ref m_known, .ref m_isKept, .int 0, .int (-1), .int 0, .int 0, .ref m_inside, .ref m_can, .ref m_fewest, .ref m_waysTo, .ref m_then, .ref m_two, .ref m_nextTwo, .ref m_three, .ref m_nextThree, .int (-1), .ref m_worth, .ref m_digit, .int 0, .long 0, .int 0, .int 0, .int 0, .int 0, .long 0])), (m_courts, .inl (cm_courts, 5, .inl (fun _ => 0)))] H.size) t := z_none (va_K.moved hvm hK)
  obtain ⟨hP, hD, hK⟩ := z_after [] hB ht hvm hP hD hK [0, 1] [] rfl rfl (by decide) (by decide) hk1 hFc
  generalize H1 = H at hP hS ⊢
  have hP : va_P (dC, dI) vwCl [] H := hP
  have hD : va_D A [] := hD
  have hK : va_K (dC, dI) vwCl [(cm_courts, .int)] s := hK
  obtain rfl : r_6 = (-2) := hw
  refine lv_icmp_eq (tgt := 2651) hx hb dL_law_858 (by decide) (fun _ => ?_) (fun q => absurd q (by decide))
  exact law_tail C0 hA2 (Nat.le_of_ble_eq_true rfl) (Nat.le_of_ble_eq_true rfl) hS (lv_sub hl [0, 3] rfl)
set_option maxHeartbeats 4000000 in
set_option maxRecDepth 100000 in
theorem law_latest {p : Program} {e : Env} {s : State} {m : MethodId} {below : List Frame} {meth : Method} {c : Code} {l : Launch} {b : Nat} {xs : Nat → Int32} (C0 : lw_At p s m meth c b 6 xs) {dC : Nat → ClassId} {dI : Nat → Nat → Nat} {A : Nat → Prop} (hA : ∀ q, s.heap.size ≤ q → A q) (hA2 : ∀ q, A q → s.heap.size ≤ q) {h0 : Nat} {tp : Nat} {nw : Nat} {im : Nat} {sl : Nat} {rd : Nat} {wk : Nat} {fm : Nat} {mt : Nat} {ch : Nat} {dy : Nat} {tn : Nat} {ta0 : Nat} {ta1 : Nat} {ta2 : Nat} {ta3 : Nat} {ta4 : Nat} {ta5 : Nat} {ta6 : Nat} {ta7 : Nat} {ta8 : Nat} {ta9 : Nat} {m0 : Nat} {m_width : Nat} {m_many : Nat} {m_cells : Nat} {m_moved : Nat} {m_tape : Nat} {m_lines : Nat} {m_hours : Nat} {m_courts : Nat} {m_in : Nat} {m_gates : Nat} {m_gate : Nat} {m_people : Nat} {m_at0 : Nat} {m_stray : Nat} {m_set : Nat} {m_once : Nat} {m_truth : Nat} {m_known : Nat} {m_isKept : Nat} {m_inside : Nat} {m_can : Nat} {m_fewest : Nat} {m_waysTo : Nat} {m_then : Nat} {m_two : Nat} {m_nextTwo : Nat} {m_three : Nat} {m_nextThree : Nat} {m_worth : Nat} {m_digit : Nat} {cm_courts : ClassId}  {H : Heap} {locs : List Loc} {ls : Array Slot} (hP : va_P (dC, dI) vwCl [(h0, .inr (9, [.ref tp, .int 0, .int 0, .int (-1), .ref nw, .ref im, .ref sl, .ref rd, .ref wk, .ref fm, .ref mt, .ref ch, .ref dy])), (nw, .inr (3, [.int 0, .ref tn, .int 0, .int 0, .int 0, .int 0])), (tn, .inr (7, [.int 0, .int 0, .int 0, .int 0, .int 0, .int 0, .int 0, .int 0, .ref ta0, .ref ta1, .ref ta2, .ref ta3, .ref ta4, .ref ta5, .ref ta6, .ref ta7, .ref ta8, .ref ta9])), (m0, .inr (10, [.int 0, .ref m_width, .ref m_many, .ref m_cells, .ref m_moved, .ref m_tape, .int 0, .int 0, .int 0, .int 0, .int 0, .long 0, .int 0, .int 0, .int 0, .int (-1), .ref m_lines, .ref m_hours, .ref m_courts, .ref m_in, .ref m_gates, .ref m_gate, .ref m_people, .ref m_at0, .ref m_stray, .ref m_set, .ref m_once, .ref m_truth, .ref m_known, .ref m_isKept, .int 0, .int (-1), .int 0, .int 0, .ref m_inside, .ref m_can, .ref m_fewest, .ref m_waysTo, .ref m_then, .ref m_two, .ref m_nextTwo, .ref m_three, .ref m_nextThree, .int (-1), .ref m_worth, .ref m_digit, .int 0, .long 0, .int 0, .int 0, .int 0, .int 0, .long 0])), (m_courts, .inl (cm_courts, 5, .inl (fun _ => 0)))] H) (hD : va_D A [(h0, .inr (9, [.ref tp, .int 0, .int 0, .int (-1), .ref nw, .ref im, .ref sl, .ref rd, .ref wk, .ref fm, .ref mt, .ref ch, .ref dy])), (nw, .inr (3, [.int 0, .ref tn, .int 0, .int 0, .int 0, .int 0])), (tn, .inr (7, [.int 0, .int 0, .int 0, .int 0, .int 0, .int 0, .int 0, .int 0, .ref ta0, .ref ta1, .ref ta2, .ref ta3, .ref ta4, .ref ta5, .ref ta6, .ref ta7, .ref ta8, .ref ta9])), (m0, .inr (10, [.int 0, .ref m_width, .ref m_many, .ref m_cells, .ref m_moved, .ref m_tape, .int 0, .int 0, .int 0, .int 0, .int 0, .long 0, .int 0, .int 0, .int 0, .int (-1), .ref m_lines, .ref m_hours, .ref m_courts, .ref m_in, .ref m_gates, .ref m_gate, .ref m_people, .ref m_at0, .ref m_stray, .ref m_set, .ref m_once, .ref m_truth, .ref m_known, .ref m_isKept, .int 0, .int (-1), .int 0, .int 0, .ref m_inside, .ref m_can, .ref m_fewest, .ref m_waysTo, .ref m_then, .ref m_two, .ref m_nextTwo, .ref m_three, .ref m_nextThree, .int (-1), .ref m_worth, .ref m_digit, .int 0, .long 0, .int 0, .int 0, .int 0, .int 0, .long 0])), (m_courts, .inl (cm_courts, 5, .inl (fun _ => 0)))]) (hK : va_K (dC, dI) vwCl [(cm_courts, .int)] s) (hS : va_S A s.heap H locs) (hl : lv_has ls 4 [(3, .int 0), (2, .ref m0), (1, .ref h0), (0, .ref b)]) : W p l e room_1 s m #[Value.ref b] below meth c H locs 166 101284 (lw_Z below #[Value.ref b] s) (F0 m 863 ls []) := by
  obtain ⟨hx, hb, hr, hml, hown, hts, hX, hbl, hlocks, hgv⟩ := id C0
  have hown : s.vm.findClass RL = some m.cls := hown
  have hb : c.code = cL_law := hb
  have hts : ∀ w ∈ zT, w.before #[Value.ref b] s = true := fun w h => hts w (zT_in w h)
  have hbA : ¬ A b := fun q => absurd (hA2 b q) (Nat.not_le.mpr hbl)
  refine lv_aload_n hx hb dL_law_863 rfl (lv_at hl 2 rfl) ?_
  refine lv_aload_n hx hb dL_law_864 rfl (lv_at hl 3 rfl) ?_
  refine lv_iload_n hx hb dL_law_865 rfl (lv_at hl 0 rfl) ?_
  refine lv_iconst (v := 1) hx hb dL_law_866 (by decide) ?_
  refine lv_iadd hx hb dL_law_867 ?_
  refine lv_topi (fun x_1 ex_1 => ?_)
  obtain rfl : x_1 = 1 := ex_1.trans (by decide)
  refine va_sld hx hb hX hbl hbA hS (z_inC _ (k := 1) (by decide) (by decide)) dL_law_868 ?_
  refine lv_aload_n hx hb dL_law_869 rfl (lv_at hl 3 rfl) ?_
  refine lv_iload_n hx hb dL_law_870 rfl (lv_at hl 0 rfl) ?_
  refine lv_iconst (v := 2) hx hb dL_law_871 (by decide) ?_
  refine lv_iadd hx hb dL_law_872 ?_
  refine lv_topi (fun x_2 ex_2 => ?_)
  obtain rfl : x_2 = 2 := ex_2.trans (by decide)
  refine va_sld hx hb hX hbl hbA hS (z_inC _ (k := 2) (by decide) (by decide)) dL_law_873 ?_
  have hPc := hP.sub (ws' := [(h0, .inr (9, [.ref tp, .int 0, .int 0, .int (-1), .ref nw, .ref im, .ref sl, .ref rd, .ref wk, .ref fm, .ref mt, .ref ch, .ref dy])), (nw, .inr (3, [.int 0, .ref tn, .int 0, .int 0, .int 0, .int 0])), (tn, .inr (7, [.int 0, .int 0, .int 0, .int 0, .int 0, .int 0, .int 0, .int 0, .ref ta0, .ref ta1, .ref ta2, .ref ta3, .ref ta4, .ref ta5, .ref ta6, .ref ta7, .ref ta8, .ref ta9]))]) [0, 1, 2] rfl
  have hDc := hD.sub (ws' := [(h0, .inr (9, [.ref tp, .int 0, .int 0, .int (-1), .ref nw, .ref im, .ref sl, .ref rd, .ref wk, .ref fm, .ref mt, .ref ch, .ref dy])), (nw, .inr (3, [.int 0, .ref tn, .int 0, .int 0, .int 0, .int 0])), (tn, .inr (7, [.int 0, .int 0, .int 0, .int 0, .int 0, .int 0, .int 0, .int 0, .ref ta0, .ref ta1, .ref ta2, .ref ta3, .ref ta4, .ref ta5, .ref ta6, .ref ta7, .ref ta8, .ref ta9]))]) [0, 1, 2] (by decide) rfl
  have hKc := hK.sub (tys' := []) [] rfl
  have hFc := va_free (wc := [(h0, .inr (9, [.ref tp, .int 0, .int 0, .int (-1), .ref nw, .ref im, .ref sl, .ref rd, .ref wk, .ref fm, .ref mt, .ref ch, .ref dy])), (nw, .inr (3, [.int 0, .ref tn, .int 0, .int 0, .int 0, .int 0])), (tn, .inr (7, [.int 0, .int 0, .int 0, .int 0, .int 0, .int 0, .int 0, .int 0, .ref ta0, .ref ta1, .ref ta2, .ref ta3, .ref ta4, .ref ta5, .ref ta6, .ref ta7, .ref ta8, .ref ta9]))]) hD hS hA [0, 1, 2] rfl
  refine va_calli (va_runV (As := [.int (xs (Int32.toNatClampNeg 1)), .int (xs (Int32.toNatClampNeg 2))]) (rest := []) ⟨hx, hb, hml, hown, hts⟩ (k_X9_latest l dC dI h0 (xs (Int32.toNatClampNeg 1)) (xs (Int32.toNatClampNeg 2)) tp nw im sl rd wk fm mt ch dy tn ta0 ta1 ta2 ta3 ta4 ta5 ta6 ta7 ta8 ta9 H.size) (cwV 2 hts (z_gV zw_t4_99 zw_t4_100 zw_t4_101 zw_t1_1 zw_t4_102) rfl rfl rfl (by decide +kernel) ⟨(Nat.le_of_ble_eq_true rfl), (Nat.le_of_ble_eq_true rfl)⟩) (z_preV hPc hKc hDc (ci := 9) (q0 := 0) rfl rfl) rfl rfl hl.1 rfl (lv_room (Nat.le_of_ble_eq_true rfl)) dL_law_874 ⟨(Nat.le_of_ble_eq_true rfl), (Nat.le_of_ble_eq_true rfl)⟩) hS (fun q _ h => hFc q h) hFc (fun r_3 u t H1 locs ht hvm hw hB hz1 hk1 hS => ?_)
  have hB : zW dC dI [] [] (va_A [(h0, .inr (9, [.ref tp, .int 0, .int 0, .int (-1), .ref nw, .ref im, .ref sl, .ref rd, .ref wk, .ref fm, .ref mt, .ref ch, .ref dy])), (nw, .inr (3, [.int 0, .ref tn, .int 0, .int 0, .int 0, .int 0])), (tn, .inr (7, [.int 0, .int 0, .int 0, .int 0, .int 0, .int 0, .int 0, .int 0, .ref ta0, .ref ta1, .ref ta2, .ref ta3, .ref ta4, .ref ta5, .ref ta6, .ref ta7, .ref ta8, .ref ta9]))] H.size) t := z_none (va_K.moved hvm hK)
  obtain ⟨hP, hD, hK⟩ := z_after [(m0, .inr (10, [.int 0, .ref m_width, .ref m_many, .ref m_cells, .ref m_moved, .ref m_tape, .int 0, .int 0, .int 0, .int 0, .int 0, .long 0, .int 0, .int 0, .int 0, .int (-1), .ref m_lines, .ref m_hours, .ref m_courts, .ref m_in, .ref m_gates, .ref m_gate, .ref m_people, .ref m_at0, .ref m_stray, .ref m_set, .ref m_once, .ref m_truth, .ref m_known, .ref m_isKept, .int 0, .int (-1), .int 0, .int 0, .ref m_inside, .ref m_can, .ref m_fewest, .ref m_waysTo, .ref m_then, .ref m_two, .ref m_nextTwo, .ref m_three, .ref m_nextThree, .int (-1), .ref m_worth, .ref m_digit, .int 0, .long 0, .int 0, .int 0, .int 0, .int 0, .long 0])), (m_courts, .inl (cm_courts, 5, .inl (fun _ => 0)))] hB ht hvm hP hD hK [0, 1, 2] [3, 4] rfl rfl (by decide) (by decide) hk1 hFc
  generalize H1 = H at hP hS ⊢
  have hP : va_P (dC, dI) vwCl [(m0, .inr (10, [.int 0, .ref m_width, .ref m_many, .ref m_cells, .ref m_moved, .ref m_tape, .int 0, .int 0, .int 0, .int 0, .int 0, .long 0, .int 0, .int 0, .int 0, .int (-1), .ref m_lines, .ref m_hours, .ref m_courts, .ref m_in, .ref m_gates, .ref m_gate, .ref m_people, .ref m_at0, .ref m_stray, .ref m_set, .ref m_once, .ref m_truth, .ref m_known, .ref m_isKept, .int 0, .int (-1), .int 0, .int 0, .ref m_inside, .ref m_can, .ref m_fewest, .ref m_waysTo, .ref m_then, .ref m_two, .ref m_nextTwo, .ref m_three, .ref m_nextThree, .int (-1), .ref m_worth, .ref m_digit, .int 0, .long 0, .int 0, .int 0, .int 0, .int 0, .long 0])), (m_courts, .inl (cm_courts, 5, .inl (fun _ => 0)))] H := hP
  have hD : va_D A [(m0, .inr (10, [.int 0, .ref m_width, .ref m_many, .ref m_cells, .ref m_moved, .ref m_tape, .int 0, .int 0, .int 0, .int 0, .int 0, .long 0, .int 0, .int 0, .int 0, .int (-1), .ref m_lines, .ref m_hours, .ref m_courts, .ref m_in, .ref m_gates, .ref m_gate, .ref m_people, .ref m_at0, .ref m_stray, .ref m_set, .ref m_once, .ref m_truth, .ref m_known, .ref m_isKept, .int 0, .int (-1), .int 0, .int 0, .ref m_inside, .ref m_can, .ref m_fewest, .ref m_waysTo, .ref m_then, .ref m_two, .ref m_nextTwo, .ref m_three, .ref m_nextThree, .int (-1), .ref m_worth, .ref m_digit, .int 0, .long 0, .int 0, .int 0, .int 0, .int 0, .long 0])), (m_courts, .inl (cm_courts, 5, .inl (fun _ => 0)))] := hD
  have hK : va_K (dC, dI) vwCl [(cm_courts, .int)] s := hK
  obtain rfl : r_3 = (-2) := hw
  refine lv_aload_n hx hb dL_law_877 rfl (lv_at hl 1 rfl) ?_
  refine lv_aload_n hx hb dL_law_878 rfl (lv_at hl 3 rfl) ?_
  refine lv_iload_n hx hb dL_law_879 rfl (lv_at hl 0 rfl) ?_
  refine lv_iconst (v := 1) hx hb dL_law_880 (by decide) ?_
  refine lv_iadd hx hb dL_law_881 ?_
  refine lv_topi (fun x_4 ex_4 => ?_)
  obtain rfl : x_4 = 1 := ex_4.trans (by decide)
  refine va_sld hx hb hX hbl hbA hS (z_inC _ (k := 1) (by decide) (by decide)) dL_law_882 ?_
  refine lv_aload_n hx hb dL_law_883 rfl (lv_at hl 3 rfl) ?_
  refine lv_iload_n hx hb dL_law_884 rfl (lv_at hl 0 rfl) ?_
  refine lv_iconst (v := 2) hx hb dL_law_885 (by decide) ?_
  refine lv_iadd hx hb dL_law_886 ?_
  refine lv_topi (fun x_5 ex_5 => ?_)
  obtain rfl : x_5 = 2 := ex_5.trans (by decide)
  refine va_sld hx hb hX hbl hbA hS (z_inC _ (k := 2) (by decide) (by decide)) dL_law_887 ?_
  have hPc := hP.sub (ws' := [(m0, .inr (10, [.int 0, .ref m_width, .ref m_many, .ref m_cells, .ref m_moved, .ref m_tape, .int 0, .int 0, .int 0, .int 0, .int 0, .long 0, .int 0, .int 0, .int 0, .int (-1), .ref m_lines, .ref m_hours, .ref m_courts, .ref m_in, .ref m_gates, .ref m_gate, .ref m_people, .ref m_at0, .ref m_stray, .ref m_set, .ref m_once, .ref m_truth, .ref m_known, .ref m_isKept, .int 0, .int (-1), .int 0, .int 0, .ref m_inside, .ref m_can, .ref m_fewest, .ref m_waysTo, .ref m_then, .ref m_two, .ref m_nextTwo, .ref m_three, .ref m_nextThree, .int (-1), .ref m_worth, .ref m_digit, .int 0, .long 0, .int 0, .int 0, .int 0, .int 0, .long 0])), (m_courts, .inl (cm_courts, 5, .inl (fun _ => 0)))]) [0, 1] rfl
  have hDc := hD.sub (ws' := [(m0, .inr (10, [.int 0, .ref m_width, .ref m_many, .ref m_cells, .ref m_moved, .ref m_tape, .int 0, .int 0, .int 0, .int 0, .int 0, .long 0, .int 0, .int 0, .int 0, .int (-1), .ref m_lines, .ref m_hours, .ref m_courts, .ref m_in, .ref m_gates, .ref m_gate, .ref m_people, .ref m_at0, .ref m_stray, .ref m_set, .ref m_once, .ref m_truth, .ref m_known, .ref m_isKept, .int 0, .int (-1), .int 0, .int 0, .ref m_inside, .ref m_can, .ref m_fewest, .ref m_waysTo, .ref m_then, .ref m_two, .ref m_nextTwo, .ref m_three, .ref m_nextThree, .int (-1), .ref m_worth, .ref m_digit, .int 0, .long 0, .int 0, .int 0, .int 0, .int 0, .long 0])), (m_courts, .inl (cm_courts, 5, .inl (fun _ => 0)))]) [0, 1] (by decide) rfl
  have hKc := hK.sub (tys' := [(cm_courts, .int)]) [0] rfl
  have hFc := va_free (wc := [(m0, .inr (10, [.int 0, .ref m_width, .ref m_many, .ref m_cells, .ref m_moved, .ref m_tape, .int 0, .int 0, .int 0, .int 0, .int 0, .long 0, .int 0, .int 0, .int 0, .int (-1), .ref m_lines, .ref m_hours, .ref m_courts, .ref m_in, .ref m_gates, .ref m_gate, .ref m_people, .ref m_at0, .ref m_stray, .ref m_set, .ref m_once, .ref m_truth, .ref m_known, .ref m_isKept, .int 0, .int (-1), .int 0, .int 0, .ref m_inside, .ref m_can, .ref m_fewest, .ref m_waysTo, .ref m_then, .ref m_two, .ref m_nextTwo, .ref m_three, .ref m_nextThree, .int (-1), .ref m_worth, .ref m_digit, .int 0, .long 0, .int 0, .int 0, .int 0, .int 0, .long 0])), (m_courts, .inl (cm_courts, 5, .inl (fun _ => 0)))]) hD hS hA [0, 1] rfl
  refine va_calli (va_runV (As := [.int (xs (Int32.toNatClampNeg 1)), .int (xs (Int32.toNatClampNeg 2))]) (rest := [.int (-2)]) ⟨hx, hb, hml, hown, hts⟩ (k_X10_latest l dC dI m0 (xs (Int32.toNatClampNeg 1)) (xs (Int32.toNatClampNeg 2)) m_width m_many m_cells m_moved m_tape m_lines m_hours m_courts m_in m_gates m_gate m_people m_at0 m_stray m_set m_once m_truth m_known m_isKept m_inside m_can m_fewest m_waysTo m_then m_two m_nextTwo m_three m_nextThree m_worth m_digit cm_courts H.size) (cwV 2 hts (z_gV zw_t8_57 zw_t8_58 zw_t8_59 zw_t1_11 zw_t8_60) rfl rfl rfl (by decide +kernel) ⟨(Nat.le_of_ble_eq_true rfl), (Nat.le_of_ble_eq_true rfl)⟩) (z_preV hPc hKc hDc (ci := 10) (q0 := 0) rfl rfl) rfl rfl hl.1 rfl (lv_room (Nat.le_of_ble_eq_true rfl)) dL_law_888 ⟨(Nat.le_of_ble_eq_true rfl), (Nat.le_of_ble_eq_true rfl)⟩) hS (fun q _ h => hFc q h) hFc (fun r_6 u t H1 locs ht hvm hw hB hz1 hk1 hS => ?_)
  have hB : zW dC dI [] [] (va_A [(m0, .inr (10, [.int 0, .ref m_width, .ref m_many, .ref m_cells, .ref m_moved, .ref m_tape, .int 0, .int 0, .int 0, .int 0, .int 0, .long 0, .int 0, .int 0, .int 0, .int (-1), .ref m_lines, .ref m_hours, .ref m_courts, .ref m_in, .ref m_gates, .ref m_gate, .ref m_people, .ref m_at0, .ref m_stray, .ref m_set, .ref m_once, .ref m_truth, .ref m_known, .ref m_isKept, .int 0, .int (-1), .int 0, .int 0, .ref m_inside, .ref m_can, .ref m_fewest, .ref m_waysTo, .ref m_then, .ref m_two, .ref m_nextTwo, .ref m_three, .ref m_nextThree, .int (-1), .ref m_worth, .ref m_digit, .int 0, .long 0, .int 0, .int 0, .int 0, .int 0, .long 0])), (m_courts, .inl (cm_courts, 5, .inl (fun _ => 0)))] H.size) t := z_none (va_K.moved hvm hK)
  obtain ⟨hP, hD, hK⟩ := z_after [] hB ht hvm hP hD hK [0, 1] [] rfl rfl (by decide) (by decide) hk1 hFc
  generalize H1 = H at hP hS ⊢
  have hP : va_P (dC, dI) vwCl [] H := hP
  have hD : va_D A [] := hD
  have hK : va_K (dC, dI) vwCl [(cm_courts, .int)] s := hK
  obtain rfl : r_6 = (-2) := hw
  refine lv_icmp_eq (tgt := 2651) hx hb dL_law_891 (by decide) (fun _ => ?_) (fun q => absurd q (by decide))
  exact law_tail C0 hA2 (Nat.le_of_ble_eq_true rfl) (Nat.le_of_ble_eq_true rfl) hS (lv_sub hl [0, 3] rfl)
set_option maxHeartbeats 4000000 in
set_option maxRecDepth 100000 in
theorem law_need {p : Program} {e : Env} {s : State} {m : MethodId} {below : List Frame} {meth : Method} {c : Code} {l : Launch} {b : Nat} {xs : Nat → Int32} (C0 : lw_At p s m meth c b 6 xs) {dC : Nat → ClassId} {dI : Nat → Nat → Nat} {A : Nat → Prop} (hA : ∀ q, s.heap.size ≤ q → A q) (hA2 : ∀ q, A q → s.heap.size ≤ q) {h0 : Nat} {tp : Nat} {nw : Nat} {im : Nat} {sl : Nat} {rd : Nat} {wk : Nat} {fm : Nat} {mt : Nat} {ch : Nat} {dy : Nat} {tn : Nat} {ta0 : Nat} {ta1 : Nat} {ta2 : Nat} {ta3 : Nat} {ta4 : Nat} {ta5 : Nat} {ta6 : Nat} {ta7 : Nat} {ta8 : Nat} {ta9 : Nat} {m0 : Nat} {m_width : Nat} {m_many : Nat} {m_cells : Nat} {m_moved : Nat} {m_tape : Nat} {m_lines : Nat} {m_hours : Nat} {m_courts : Nat} {m_in : Nat} {m_gates : Nat} {m_gate : Nat} {m_people : Nat} {m_at0 : Nat} {m_stray : Nat} {m_set : Nat} {m_once : Nat} {m_truth : Nat} {m_known : Nat} {m_isKept : Nat} {m_inside : Nat} {m_can : Nat} {m_fewest : Nat} {m_waysTo : Nat} {m_then : Nat} {m_two : Nat} {m_nextTwo : Nat} {m_three : Nat} {m_nextThree : Nat} {m_worth : Nat} {m_digit : Nat} {cm_people : ClassId}  {H : Heap} {locs : List Loc} {ls : Array Slot} (hP : va_P (dC, dI) vwCl [(h0, .inr (9, [.ref tp, .int 0, .int 0, .int (-1), .ref nw, .ref im, .ref sl, .ref rd, .ref wk, .ref fm, .ref mt, .ref ch, .ref dy])), (nw, .inr (3, [.int 0, .ref tn, .int 0, .int 0, .int 0, .int 0])), (tn, .inr (7, [.int 0, .int 0, .int 0, .int 0, .int 0, .int 0, .int 0, .int 0, .ref ta0, .ref ta1, .ref ta2, .ref ta3, .ref ta4, .ref ta5, .ref ta6, .ref ta7, .ref ta8, .ref ta9])), (m0, .inr (10, [.int 0, .ref m_width, .ref m_many, .ref m_cells, .ref m_moved, .ref m_tape, .int 0, .int 0, .int 0, .int 0, .int 0, .long 0, .int 0, .int 0, .int 0, .int (-1), .ref m_lines, .ref m_hours, .ref m_courts, .ref m_in, .ref m_gates, .ref m_gate, .ref m_people, .ref m_at0, .ref m_stray, .ref m_set, .ref m_once, .ref m_truth, .ref m_known, .ref m_isKept, .int 0, .int (-1), .int 0, .int 0, .ref m_inside, .ref m_can, .ref m_fewest, .ref m_waysTo, .ref m_then, .ref m_two, .ref m_nextTwo, .ref m_three, .ref m_nextThree, .int (-1), .ref m_worth, .ref m_digit, .int 0, .long 0, .int 0, .int 0, .int 0, .int 0, .long 0])), (m_people, .inl (cm_people, 5, .inl (fun _ => 0)))] H) (hD : va_D A [(h0, .inr (9, [.ref tp, .int 0, .int 0, .int (-1), .ref nw, .ref im, .ref sl, .ref rd, .ref wk, .ref fm, .ref mt, .ref ch, .ref dy])), (nw, .inr (3, [.int 0, .ref tn, .int 0, .int 0, .int 0, .int 0])), (tn, .inr (7, [.int 0, .int 0, .int 0, .int 0, .int 0, .int 0, .int 0, .int 0, .ref ta0, .ref ta1, .ref ta2, .ref ta3, .ref ta4, .ref ta5, .ref ta6, .ref ta7, .ref ta8, .ref ta9])), (m0, .inr (10, [.int 0, .ref m_width, .ref m_many, .ref m_cells, .ref m_moved, .ref m_tape, .int 0, .int 0, .int 0, .int 0, .int 0, .long 0, .int 0, .int 0, .int 0, .int (-1), .ref m_lines, .ref m_hours, .ref m_courts, .ref m_in, .ref m_gates, .ref m_gate, .ref m_people, .ref m_at0, .ref m_stray, .ref m_set, .ref m_once, .ref m_truth, .ref m_known, .ref m_isKept, .int 0, .int (-1), .int 0, .int 0, .ref m_inside, .ref m_can, .ref m_fewest, .ref m_waysTo, .ref m_then, .ref m_two, .ref m_nextTwo, .ref m_three, .ref m_nextThree, .int (-1), .ref m_worth, .ref m_digit, .int 0, .long 0, .int 0, .int 0, .int 0, .int 0, .long 0])), (m_people, .inl (cm_people, 5, .inl (fun _ => 0)))]) (hK : va_K (dC, dI) vwCl [(cm_people, .int)] s) (hS : va_S A s.heap H locs) (hl : lv_has ls 4 [(3, .int 0), (2, .ref m0), (1, .ref h0), (0, .ref b)]) : W p l e room_1 s m #[Value.ref b] below meth c H locs 166 101284 (lw_Z below #[Value.ref b] s) (F0 m 896 ls []) := by
  obtain ⟨hx, hb, hr, hml, hown, hts, hX, hbl, hlocks, hgv⟩ := id C0
  have hown : s.vm.findClass RL = some m.cls := hown
  have hb : c.code = cL_law := hb
  have hts : ∀ w ∈ zT, w.before #[Value.ref b] s = true := fun w h => hts w (zT_in w h)
  have hbA : ¬ A b := fun q => absurd (hA2 b q) (Nat.not_le.mpr hbl)
  refine lv_aload_n hx hb dL_law_896 rfl (lv_at hl 2 rfl) ?_
  refine lv_aload_n hx hb dL_law_897 rfl (lv_at hl 3 rfl) ?_
  refine lv_iload_n hx hb dL_law_898 rfl (lv_at hl 0 rfl) ?_
  refine lv_iconst (v := 1) hx hb dL_law_899 (by decide) ?_
  refine lv_iadd hx hb dL_law_900 ?_
  refine lv_topi (fun x_1 ex_1 => ?_)
  obtain rfl : x_1 = 1 := ex_1.trans (by decide)
  refine va_sld hx hb hX hbl hbA hS (z_inC _ (k := 1) (by decide) (by decide)) dL_law_901 ?_
  refine lv_aload_n hx hb dL_law_902 rfl (lv_at hl 3 rfl) ?_
  refine lv_iload_n hx hb dL_law_903 rfl (lv_at hl 0 rfl) ?_
  refine lv_iconst (v := 2) hx hb dL_law_904 (by decide) ?_
  refine lv_iadd hx hb dL_law_905 ?_
  refine lv_topi (fun x_2 ex_2 => ?_)
  obtain rfl : x_2 = 2 := ex_2.trans (by decide)
  refine va_sld hx hb hX hbl hbA hS (z_inC _ (k := 2) (by decide) (by decide)) dL_law_906 ?_
  refine lv_aload_n hx hb dL_law_907 rfl (lv_at hl 3 rfl) ?_
  refine lv_iload_n hx hb dL_law_908 rfl (lv_at hl 0 rfl) ?_
  refine lv_iconst (v := 3) hx hb dL_law_909 (by decide) ?_
  refine lv_iadd hx hb dL_law_910 ?_
  refine lv_topi (fun x_3 ex_3 => ?_)
  obtain rfl : x_3 = 3 := ex_3.trans (by decide)
  refine va_sld hx hb hX hbl hbA hS (z_inC _ (k := 3) (by decide) (by decide)) dL_law_911 ?_
  refine lv_aload_n hx hb dL_law_912 rfl (lv_at hl 3 rfl) ?_
  refine lv_iload_n hx hb dL_law_913 rfl (lv_at hl 0 rfl) ?_
  refine lv_iconst (v := 4) hx hb dL_law_914 (by decide) ?_
  refine lv_iadd hx hb dL_law_915 ?_
  refine lv_topi (fun x_4 ex_4 => ?_)
  obtain rfl : x_4 = 4 := ex_4.trans (by decide)
  refine va_sld hx hb hX hbl hbA hS (z_inC _ (k := 4) (by decide) (by decide)) dL_law_916 ?_
  have hPc := hP.sub (ws' := [(h0, .inr (9, [.ref tp, .int 0, .int 0, .int (-1), .ref nw, .ref im, .ref sl, .ref rd, .ref wk, .ref fm, .ref mt, .ref ch, .ref dy])), (nw, .inr (3, [.int 0, .ref tn, .int 0, .int 0, .int 0, .int 0])), (tn, .inr (7, [.int 0, .int 0, .int 0, .int 0, .int 0, .int 0, .int 0, .int 0, .ref ta0, .ref ta1, .ref ta2, .ref ta3, .ref ta4, .ref ta5, .ref ta6, .ref ta7, .ref ta8, .ref ta9]))]) [0, 1, 2] rfl
  have hDc := hD.sub (ws' := [(h0, .inr (9, [.ref tp, .int 0, .int 0, .int (-1), .ref nw, .ref im, .ref sl, .ref rd, .ref wk, .ref fm, .ref mt, .ref ch, .ref dy])), (nw, .inr (3, [.int 0, .ref tn, .int 0, .int 0, .int 0, .int 0])), (tn, .inr (7, [.int 0, .int 0, .int 0, .int 0, .int 0, .int 0, .int 0, .int 0, .ref ta0, .ref ta1, .ref ta2, .ref ta3, .ref ta4, .ref ta5, .ref ta6, .ref ta7, .ref ta8, .ref ta9]))]) [0, 1, 2] (by decide) rfl
  have hKc := hK.sub (tys' := []) [] rfl
  have hFc := va_free (wc := [(h0, .inr (9, [.ref tp, .int 0, .int 0, .int (-1), .ref nw, .ref im, .ref sl, .ref rd, .ref wk, .ref fm, .ref mt, .ref ch, .ref dy])), (nw, .inr (3, [.int 0, .ref tn, .int 0, .int 0, .int 0, .int 0])), (tn, .inr (7, [.int 0, .int 0, .int 0, .int 0, .int 0, .int 0, .int 0, .int 0, .ref ta0, .ref ta1, .ref ta2, .ref ta3, .ref ta4, .ref ta5, .ref ta6, .ref ta7, .ref ta8, .ref ta9]))]) hD hS hA [0, 1, 2] rfl
  refine va_calli (va_runV (As := [.int (xs (Int32.toNatClampNeg 1)), .int (xs (Int32.toNatClampNeg 2)), .int (xs (Int32.toNatClampNeg 3)), .int (xs (Int32.toNatClampNeg 4))]) (rest := []) ⟨hx, hb, hml, hown, hts⟩ (k_X9_need l dC dI h0 (xs (Int32.toNatClampNeg 1)) (xs (Int32.toNatClampNeg 2)) (xs (Int32.toNatClampNeg 3)) (xs (Int32.toNatClampNeg 4)) tp nw im sl rd wk fm mt ch dy tn ta0 ta1 ta2 ta3 ta4 ta5 ta6 ta7 ta8 ta9 H.size) (cwV 4 hts (z_gV zw_t4_107 zw_t4_108 zw_t4_109 zw_t1_1 zw_t4_110) rfl rfl rfl (by decide +kernel) ⟨(Nat.le_of_ble_eq_true rfl), (Nat.le_of_ble_eq_true rfl)⟩) (z_preV hPc hKc hDc (ci := 9) (q0 := 0) rfl rfl) rfl rfl hl.1 rfl (lv_room (Nat.le_of_ble_eq_true rfl)) dL_law_917 ⟨(Nat.le_of_ble_eq_true rfl), (Nat.le_of_ble_eq_true rfl)⟩) hS (fun q _ h => hFc q h) hFc (fun r_5 u t H1 locs ht hvm hw hB hz1 hk1 hS => ?_)
  have hB : zW dC dI [] [] (va_A [(h0, .inr (9, [.ref tp, .int 0, .int 0, .int (-1), .ref nw, .ref im, .ref sl, .ref rd, .ref wk, .ref fm, .ref mt, .ref ch, .ref dy])), (nw, .inr (3, [.int 0, .ref tn, .int 0, .int 0, .int 0, .int 0])), (tn, .inr (7, [.int 0, .int 0, .int 0, .int 0, .int 0, .int 0, .int 0, .int 0, .ref ta0, .ref ta1, .ref ta2, .ref ta3, .ref ta4, .ref ta5, .ref ta6, .ref ta7, .ref ta8, .ref ta9]))] H.size) t := z_none (va_K.moved hvm hK)
  obtain ⟨hP, hD, hK⟩ := z_after [(m0, .inr (10, [.int 0, .ref m_width, .ref m_many, .ref m_cells, .ref m_moved, .ref m_tape, .int 0, .int 0, .int 0, .int 0, .int 0, .long 0, .int 0, .int 0, .int 0, .int (-1), .ref m_lines, .ref m_hours, .ref m_courts, .ref m_in, .ref m_gates, .ref m_gate, .ref m_people, .ref m_at0, .ref m_stray, .ref m_set, .ref m_once, .ref m_truth, .ref m_known, .ref m_isKept, .int 0, .int (-1), .int 0, .int 0, .ref m_inside, .ref m_can, .ref m_fewest, .ref m_waysTo, .ref m_then, .ref m_two, .ref m_nextTwo, .ref m_three, .ref m_nextThree, .int (-1), .ref m_worth, .ref m_digit, .int 0, .long 0, .int 0, .int 0, .int 0, .int 0, .long 0])), (m_people, .inl (cm_people, 5, .inl (fun _ => 0)))] hB ht hvm hP hD hK [0, 1, 2] [3, 4] rfl rfl (by decide) (by decide) hk1 hFc
  generalize H1 = H at hP hS ⊢
  have hP : va_P (dC, dI) vwCl [(m0, .inr (10, [.int 0, .ref m_width, .ref m_many, .ref m_cells, .ref m_moved, .ref m_tape, .int 0, .int 0, .int 0, .int 0, .int 0, .long 0, .int 0, .int 0, .int 0, .int (-1), .ref m_lines, .ref m_hours, .ref m_courts, .ref m_in, .ref m_gates, .ref m_gate, .ref m_people, .ref m_at0, .ref m_stray, .ref m_set, .ref m_once, .ref m_truth, .ref m_known, .ref m_isKept, .int 0, .int (-1), .int 0, .int 0, .ref m_inside, .ref m_can, .ref m_fewest, .ref m_waysTo, .ref m_then, .ref m_two, .ref m_nextTwo, .ref m_three, .ref m_nextThree, .int (-1), .ref m_worth, .ref m_digit, .int 0, .long 0, .int 0, .int 0, .int 0, .int 0, .long 0])), (m_people, .inl (cm_people, 5, .inl (fun _ => 0)))] H := hP
  have hD : va_D A [(m0, .inr (10, [.int 0, .ref m_width, .ref m_many, .ref m_cells, .ref m_moved, .ref m_tape, .int 0, .int 0, .int 0, .int 0, .int 0, .long 0, .int 0, .int 0, .int 0, .int (-1), .ref m_lines, .ref m_hours, .ref m_courts, .ref m_in, .ref m_gates, .ref m_gate, .ref m_people, .ref m_at0, .ref m_stray, .ref m_set, .ref m_once, .ref m_truth, .ref m_known, .ref m_isKept, .int 0, .int (-1), .int 0, .int 0, .ref m_inside, .ref m_can, .ref m_fewest, .ref m_waysTo, .ref m_then, .ref m_two, .ref m_nextTwo, .ref m_three, .ref m_nextThree, .int (-1), .ref m_worth, .ref m_digit, .int 0, .long 0, .int 0, .int 0, .int 0, .int 0, .long 0])), (m_people, .inl (cm_people, 5, .inl (fun _ => 0)))] := hD
  have hK : va_K (dC, dI) vwCl [(cm_people, .int)] s := hK
  obtain rfl : r_5 = (-2) := hw
  refine lv_aload_n hx hb dL_law_920 rfl (lv_at hl 1 rfl) ?_
  refine lv_aload_n hx hb dL_law_921 rfl (lv_at hl 3 rfl) ?_
  refine lv_iload_n hx hb dL_law_922 rfl (lv_at hl 0 rfl) ?_
  refine lv_iconst (v := 1) hx hb dL_law_923 (by decide) ?_
  refine lv_iadd hx hb dL_law_924 ?_
  refine lv_topi (fun x_6 ex_6 => ?_)
  obtain rfl : x_6 = 1 := ex_6.trans (by decide)
  refine va_sld hx hb hX hbl hbA hS (z_inC _ (k := 1) (by decide) (by decide)) dL_law_925 ?_
  refine lv_aload_n hx hb dL_law_926 rfl (lv_at hl 3 rfl) ?_
  refine lv_iload_n hx hb dL_law_927 rfl (lv_at hl 0 rfl) ?_
  refine lv_iconst (v := 2) hx hb dL_law_928 (by decide) ?_
  refine lv_iadd hx hb dL_law_929 ?_
  refine lv_topi (fun x_7 ex_7 => ?_)
  obtain rfl : x_7 = 2 := ex_7.trans (by decide)
  refine va_sld hx hb hX hbl hbA hS (z_inC _ (k := 2) (by decide) (by decide)) dL_law_930 ?_
  refine lv_aload_n hx hb dL_law_931 rfl (lv_at hl 3 rfl) ?_
  refine lv_iload_n hx hb dL_law_932 rfl (lv_at hl 0 rfl) ?_
  refine lv_iconst (v := 3) hx hb dL_law_933 (by decide) ?_
  refine lv_iadd hx hb dL_law_934 ?_
  refine lv_topi (fun x_8 ex_8 => ?_)
  obtain rfl : x_8 = 3 := ex_8.trans (by decide)
  refine va_sld hx hb hX hbl hbA hS (z_inC _ (k := 3) (by decide) (by decide)) dL_law_935 ?_
  refine lv_aload_n hx hb dL_law_936 rfl (lv_at hl 3 rfl) ?_
  refine lv_iload_n hx hb dL_law_937 rfl (lv_at hl 0 rfl) ?_
  refine lv_iconst (v := 4) hx hb dL_law_938 (by decide) ?_
  refine lv_iadd hx hb dL_law_939 ?_
  refine lv_topi (fun x_9 ex_9 => ?_)
  obtain rfl : x_9 = 4 := ex_9.trans (by decide)
  refine va_sld hx hb hX hbl hbA hS (z_inC _ (k := 4) (by decide) (by decide)) dL_law_940 ?_
  have hPc := hP.sub (ws' := [(m0, .inr (10, [.int 0, .ref m_width, .ref m_many, .ref m_cells, .ref m_moved, .ref m_tape, .int 0, .int 0, .int 0, .int 0, .int 0, .long 0, .int 0, .int 0, .int 0, .int (-1), .ref m_lines, .ref m_hours, .ref m_courts, .ref m_in, .ref m_gates, .ref m_gate, .ref m_people, .ref m_at0, .ref m_stray, .ref m_set, .ref m_once, .ref m_truth, .ref m_known, .ref m_isKept, .int 0, .int (-1), .int 0, .int 0, .ref m_inside, .ref m_can, .ref m_fewest, .ref m_waysTo, .ref m_then, .ref m_two, .ref m_nextTwo, .ref m_three, .ref m_nextThree, .int (-1), .ref m_worth, .ref m_digit, .int 0, .long 0, .int 0, .int 0, .int 0, .int 0, .long 0])), (m_people, .inl (cm_people, 5, .inl (fun _ => 0)))]) [0, 1] rfl
  have hDc := hD.sub (ws' := [(m0, .inr (10, [.int 0, .ref m_width, .ref m_many, .ref m_cells, .ref m_moved, .ref m_tape, .int 0, .int 0, .int 0, .int 0, .int 0, .long 0, .int 0, .int 0, .int 0, .int (-1), .ref m_lines, .ref m_hours, .ref m_courts, .ref m_in, .ref m_gates, .ref m_gate, .ref m_people, .ref m_at0, .ref m_stray, .ref m_set, .ref m_once, .ref m_truth, .ref m_known, .ref m_isKept, .int 0, .int (-1), .int 0, .int 0, .ref m_inside, .ref m_can, .ref m_fewest, .ref m_waysTo, .ref m_then, .ref m_two, .ref m_nextTwo, .ref m_three, .ref m_nextThree, .int (-1), .ref m_worth, .ref m_digit, .int 0, .long 0, .int 0, .int 0, .int 0, .int 0, .long 0])), (m_people, .inl (cm_people, 5, .inl (fun _ => 0)))]) [0, 1] (by decide) rfl
  have hKc := hK.sub (tys' := [(cm_people, .int)]) [0] rfl
  have hFc := va_free (wc := [(m0, .inr (10, [.int 0, .ref m_width, .ref m_many, .ref m_cells, .ref m_moved, .ref m_tape, .int 0, .int 0, .int 0, .int 0, .int 0, .long 0, .int 0, .int 0, .int 0, .int (-1), .ref m_lines, .ref m_hours, .ref m_courts, .ref m_in, .ref m_gates, .ref m_gate, .ref m_people, .ref m_at0, .ref m_stray, .ref m_set, .ref m_once, .ref m_truth, .ref m_known, .ref m_isKept, .int 0, .int (-1), .int 0, .int 0, .ref m_inside, .ref m_can, .ref m_fewest, .ref m_waysTo, .ref m_then, .ref m_two, .ref m_nextTwo, .ref m_three, .ref m_nextThree, .int (-1), .ref m_worth, .ref m_digit, .int 0, .long 0, .int 0, .int 0, .int 0, .int 0, .long 0])), (m_people, .inl (cm_people, 5, .inl (fun _ => 0)))]) hD hS hA [0, 1] rfl
  refine va_calli (va_runV (As := [.int (xs (Int32.toNatClampNeg 1)), .int (xs (Int32.toNatClampNeg 2)), .int (xs (Int32.toNatClampNeg 3)), .int (xs (Int32.toNatClampNeg 4))]) (rest := [.int (-2)]) ⟨hx, hb, hml, hown, hts⟩ (k_X10_need l dC dI m0 (xs (Int32.toNatClampNeg 1)) (xs (Int32.toNatClampNeg 2)) (xs (Int32.toNatClampNeg 3)) (xs (Int32.toNatClampNeg 4)) m_width m_many m_cells m_moved m_tape m_lines m_hours m_courts m_in m_gates m_gate m_people m_at0 m_stray m_set m_once m_truth m_known m_isKept m_inside m_can m_fewest m_waysTo m_then m_two m_nextTwo m_three m_nextThree m_worth m_digit cm_people H.size) (cwV 4 hts (z_gV zw_t8_61 zw_t8_62 zw_t8_63 zw_t1_11 zw_t8_64) rfl rfl rfl (by decide +kernel) ⟨(Nat.le_of_ble_eq_true rfl), (Nat.le_of_ble_eq_true rfl)⟩) (z_preV hPc hKc hDc (ci := 10) (q0 := 0) rfl rfl) rfl rfl hl.1 rfl (lv_room (Nat.le_of_ble_eq_true rfl)) dL_law_941 ⟨(Nat.le_of_ble_eq_true rfl), (Nat.le_of_ble_eq_true rfl)⟩) hS (fun q _ h => hFc q h) hFc (fun r_10 u t H1 locs ht hvm hw hB hz1 hk1 hS => ?_)
  have hB : zW dC dI [] [] (va_A [(m0, .inr (10, [.int 0, .ref m_width, .ref m_many, .ref m_cells, .ref m_moved, .ref m_tape, .int 0, .int 0, .int 0, .int 0, .int 0, .long 0, .int 0, .int 0, .int 0, .int (-1), .ref m_lines, .ref m_hours, .ref m_courts, .ref m_in, .ref m_gates, .ref m_gate, .ref m_people, .ref m_at0, .ref m_stray, .ref m_set, .ref m_once, .ref m_truth, .ref m_known, .ref m_isKept, .int 0, .int (-1), .int 0, .int 0, .ref m_inside, .ref m_can, .ref m_fewest, .ref m_waysTo, .ref m_then, .ref m_two, .ref m_nextTwo, .ref m_three, .ref m_nextThree, .int (-1), .ref m_worth, .ref m_digit, .int 0, .long 0, .int 0, .int 0, .int 0, .int 0, .long 0])), (m_people, .inl (cm_people, 5, .inl (fun _ => 0)))] H.size) t := z_none (va_K.moved hvm hK)
  obtain ⟨hP, hD, hK⟩ := z_after [] hB ht hvm hP hD hK [0, 1] [] rfl rfl (by decide) (by decide) hk1 hFc
  generalize H1 = H at hP hS ⊢
  have hP : va_P (dC, dI) vwCl [] H := hP
  have hD : va_D A [] := hD
  have hK : va_K (dC, dI) vwCl [(cm_people, .int)] s := hK
  obtain rfl : r_10 = (-2) := hw
  refine lv_icmp_eq (tgt := 2651) hx hb dL_law_944 (by decide) (fun _ => ?_) (fun q => absurd q (by decide))
  exact law_tail C0 hA2 (Nat.le_of_ble_eq_true rfl) (Nat.le_of_ble_eq_true rfl) hS (lv_sub hl [0, 3] rfl)
set_option maxHeartbeats 4000000 in
set_option maxRecDepth 100000 in
theorem law_fewest {p : Program} {e : Env} {s : State} {m : MethodId} {below : List Frame} {meth : Method} {c : Code} {l : Launch} {b : Nat} {xs : Nat → Int32} (C0 : lw_At p s m meth c b 6 xs) {dC : Nat → ClassId} {dI : Nat → Nat → Nat} {A : Nat → Prop} (hA : ∀ q, s.heap.size ≤ q → A q) (hA2 : ∀ q, A q → s.heap.size ≤ q) {h0 : Nat} {tp : Nat} {nw : Nat} {im : Nat} {sl : Nat} {rd : Nat} {wk : Nat} {fm : Nat} {mt : Nat} {ch : Nat} {dy : Nat} {tn : Nat} {ta0 : Nat} {ta1 : Nat} {ta2 : Nat} {ta3 : Nat} {ta4 : Nat} {ta5 : Nat} {ta6 : Nat} {ta7 : Nat} {ta8 : Nat} {ta9 : Nat} {m0 : Nat} {m_width : Nat} {m_many : Nat} {m_cells : Nat} {m_moved : Nat} {m_tape : Nat} {m_lines : Nat} {m_hours : Nat} {m_courts : Nat} {m_in : Nat} {m_gates : Nat} {m_gate : Nat} {m_people : Nat} {m_at0 : Nat} {m_stray : Nat} {m_set : Nat} {m_once : Nat} {m_truth : Nat} {m_known : Nat} {m_isKept : Nat} {m_inside : Nat} {m_can : Nat} {m_fewest : Nat} {m_waysTo : Nat} {m_then : Nat} {m_two : Nat} {m_nextTwo : Nat} {m_three : Nat} {m_nextThree : Nat} {m_worth : Nat} {m_digit : Nat} {cm_courts : ClassId}  {H : Heap} {locs : List Loc} {ls : Array Slot} (hP : va_P (dC, dI) vwCl [(h0, .inr (9, [.ref tp, .int 0, .int 0, .int (-1), .ref nw, .ref im, .ref sl, .ref rd, .ref wk, .ref fm, .ref mt, .ref ch, .ref dy])), (nw, .inr (3, [.int 0, .ref tn, .int 0, .int 0, .int 0, .int 0])), (tn, .inr (7, [.int 0, .int 0, .int 0, .int 0, .int 0, .int 0, .int 0, .int 0, .ref ta0, .ref ta1, .ref ta2, .ref ta3, .ref ta4, .ref ta5, .ref ta6, .ref ta7, .ref ta8, .ref ta9])), (m0, .inr (10, [.int 0, .ref m_width, .ref m_many, .ref m_cells, .ref m_moved, .ref m_tape, .int 0, .int 0, .int 0, .int 0, .int 0, .long 0, .int 0, .int 0, .int 0, .int (-1), .ref m_lines, .ref m_hours, .ref m_courts, .ref m_in, .ref m_gates, .ref m_gate, .ref m_people, .ref m_at0, .ref m_stray, .ref m_set, .ref m_once, .ref m_truth, .ref m_known, .ref m_isKept, .int 0, .int (-1), .int 0, .int 0, .ref m_inside, .ref m_can, .ref m_fewest, .ref m_waysTo, .ref m_then, .ref m_two, .ref m_nextTwo, .ref m_three, .ref m_nextThree, .int (-1), .ref m_worth, .ref m_digit, .int 0, .long 0, .int 0, .int 0, .int 0, .int 0, .long 0])), (m_courts, .inl (cm_courts, 5, .inl (fun _ => 0)))] H) (hD : va_D A [(h0, .inr (9, [.ref tp, .int 0, .int 0, .int (-1), .ref nw, .ref im, .ref sl, .ref rd, .ref wk, .ref fm, .ref mt, .ref ch, .ref dy])), (nw, .inr (3, [.int 0, .ref tn, .int 0, .int 0, .int 0, .int 0])), (tn, .inr (7, [.int 0, .int 0, .int 0, .int 0, .int 0, .int 0, .int 0, .int 0, .ref ta0, .ref ta1, .ref ta2, .ref ta3, .ref ta4, .ref ta5, .ref ta6, .ref ta7, .ref ta8, .ref ta9])), (m0, .inr (10, [.int 0, .ref m_width, .ref m_many, .ref m_cells, .ref m_moved, .ref m_tape, .int 0, .int 0, .int 0, .int 0, .int 0, .long 0, .int 0, .int 0, .int 0, .int (-1), .ref m_lines, .ref m_hours, .ref m_courts, .ref m_in, .ref m_gates, .ref m_gate, .ref m_people, .ref m_at0, .ref m_stray, .ref m_set, .ref m_once, .ref m_truth, .ref m_known, .ref m_isKept, .int 0, .int (-1), .int 0, .int 0, .ref m_inside, .ref m_can, .ref m_fewest, .ref m_waysTo, .ref m_then, .ref m_two, .ref m_nextTwo, .ref m_three, .ref m_nextThree, .int (-1), .ref m_worth, .ref m_digit, .int 0, .long 0, .int 0, .int 0, .int 0, .int 0, .long 0])), (m_courts, .inl (cm_courts, 5, .inl (fun _ => 0)))]) (hK : va_K (dC, dI) vwCl [(cm_courts, .int)] s) (hS : va_S A s.heap H locs) (hl : lv_has ls 4 [(3, .int 0), (2, .ref m0), (1, .ref h0), (0, .ref b)]) : W p l e room_1 s m #[Value.ref b] below meth c H locs 166 101284 (lw_Z below #[Value.ref b] s) (F0 m 949 ls []) := by
  obtain ⟨hx, hb, hr, hml, hown, hts, hX, hbl, hlocks, hgv⟩ := id C0
  have hown : s.vm.findClass RL = some m.cls := hown
  have hb : c.code = cL_law := hb
  have hts : ∀ w ∈ zT, w.before #[Value.ref b] s = true := fun w h => hts w (zT_in w h)
  have hbA : ¬ A b := fun q => absurd (hA2 b q) (Nat.not_le.mpr hbl)
  refine lv_aload_n hx hb dL_law_949 rfl (lv_at hl 2 rfl) ?_
  refine lv_aload_n hx hb dL_law_950 rfl (lv_at hl 3 rfl) ?_
  refine lv_iload_n hx hb dL_law_951 rfl (lv_at hl 0 rfl) ?_
  refine lv_iconst (v := 1) hx hb dL_law_952 (by decide) ?_
  refine lv_iadd hx hb dL_law_953 ?_
  refine lv_topi (fun x_1 ex_1 => ?_)
  obtain rfl : x_1 = 1 := ex_1.trans (by decide)
  refine va_sld hx hb hX hbl hbA hS (z_inC _ (k := 1) (by decide) (by decide)) dL_law_954 ?_
  refine lv_aload_n hx hb dL_law_955 rfl (lv_at hl 3 rfl) ?_
  refine lv_iload_n hx hb dL_law_956 rfl (lv_at hl 0 rfl) ?_
  refine lv_iconst (v := 2) hx hb dL_law_957 (by decide) ?_
  refine lv_iadd hx hb dL_law_958 ?_
  refine lv_topi (fun x_2 ex_2 => ?_)
  obtain rfl : x_2 = 2 := ex_2.trans (by decide)
  refine va_sld hx hb hX hbl hbA hS (z_inC _ (k := 2) (by decide) (by decide)) dL_law_959 ?_
  refine lv_aload_n hx hb dL_law_960 rfl (lv_at hl 3 rfl) ?_
  refine lv_iload_n hx hb dL_law_961 rfl (lv_at hl 0 rfl) ?_
  refine lv_iconst (v := 3) hx hb dL_law_962 (by decide) ?_
  refine lv_iadd hx hb dL_law_963 ?_
  refine lv_topi (fun x_3 ex_3 => ?_)
  obtain rfl : x_3 = 3 := ex_3.trans (by decide)
  refine va_sld hx hb hX hbl hbA hS (z_inC _ (k := 3) (by decide) (by decide)) dL_law_964 ?_
  refine lv_aload_n hx hb dL_law_965 rfl (lv_at hl 3 rfl) ?_
  refine lv_iload_n hx hb dL_law_966 rfl (lv_at hl 0 rfl) ?_
  refine lv_iconst (v := 4) hx hb dL_law_967 (by decide) ?_
  refine lv_iadd hx hb dL_law_968 ?_
  refine lv_topi (fun x_4 ex_4 => ?_)
  obtain rfl : x_4 = 4 := ex_4.trans (by decide)
  refine va_sld hx hb hX hbl hbA hS (z_inC _ (k := 4) (by decide) (by decide)) dL_law_969 ?_
  refine lv_aload_n hx hb dL_law_970 rfl (lv_at hl 3 rfl) ?_
  refine lv_iload_n hx hb dL_law_971 rfl (lv_at hl 0 rfl) ?_
  refine lv_iconst (v := 5) hx hb dL_law_972 (by decide) ?_
  refine lv_iadd hx hb dL_law_973 ?_
  refine lv_topi (fun x_5 ex_5 => ?_)
  obtain rfl : x_5 = 5 := ex_5.trans (by decide)
  refine va_sld hx hb hX hbl hbA hS (z_inC _ (k := 5) (by decide) (by decide)) dL_law_974 ?_
  have hPc := hP.sub (ws' := [(h0, .inr (9, [.ref tp, .int 0, .int 0, .int (-1), .ref nw, .ref im, .ref sl, .ref rd, .ref wk, .ref fm, .ref mt, .ref ch, .ref dy])), (nw, .inr (3, [.int 0, .ref tn, .int 0, .int 0, .int 0, .int 0])), (tn, .inr (7, [.int 0, .int 0, .int 0, .int 0, .int 0, .int 0, .int 0, .int 0, .ref ta0, .ref ta1, .ref ta2, .ref ta3, .ref ta4, .ref ta5, .ref ta6, .ref ta7, .ref ta8, .ref ta9]))]) [0, 1, 2] rfl
  have hDc := hD.sub (ws' := [(h0, .inr (9, [.ref tp, .int 0, .int 0, .int (-1), .ref nw, .ref im, .ref sl, .ref rd, .ref wk, .ref fm, .ref mt, .ref ch, .ref dy])), (nw, .inr (3, [.int 0, .ref tn, .int 0, .int 0, .int 0, .int 0])), (tn, .inr (7, [.int 0, .int 0, .int 0, .int 0, .int 0, .int 0, .int 0, .int 0, .ref ta0, .ref ta1, .ref ta2, .ref ta3, .ref ta4, .ref ta5, .ref ta6, .ref ta7, .ref ta8, .ref ta9]))]) [0, 1, 2] (by decide) rfl
  have hKc := hK.sub (tys' := []) [] rfl
  have hFc := va_free (wc := [(h0, .inr (9, [.ref tp, .int 0, .int 0, .int (-1), .ref nw, .ref im, .ref sl, .ref rd, .ref wk, .ref fm, .ref mt, .ref ch, .ref dy])), (nw, .inr (3, [.int 0, .ref tn, .int 0, .int 0, .int 0, .int 0])), (tn, .inr (7, [.int 0, .int 0, .int 0, .int 0, .int 0, .int 0, .int 0, .int 0, .ref ta0, .ref ta1, .ref ta2, .ref ta3, .ref ta4, .ref ta5, .ref ta6, .ref ta7, .ref ta8, .ref ta9]))]) hD hS hA [0, 1, 2] rfl
  refine va_calli (va_runV (As := [.int (xs (Int32.toNatClampNeg 1)), .int (xs (Int32.toNatClampNeg 2)), .int (xs (Int32.toNatClampNeg 3)), .int (xs (Int32.toNatClampNeg 4)), .int (xs (Int32.toNatClampNeg 5))]) (rest := []) ⟨hx, hb, hml, hown, hts⟩ (k_X9_fewest l dC dI h0 (xs (Int32.toNatClampNeg 1)) (xs (Int32.toNatClampNeg 2)) (xs (Int32.toNatClampNeg 3)) (xs (Int32.toNatClampNeg 4)) (xs (Int32.toNatClampNeg 5)) tp nw im sl rd wk fm mt ch dy tn ta0 ta1 ta2 ta3 ta4 ta5 ta6 ta7 ta8 ta9 H.size) (cwV 5 hts (z_gV zw_t4_111 zw_t4_112 zw_t4_113 zw_t1_1 zw_t4_114) rfl rfl rfl (by decide +kernel) ⟨(Nat.le_of_ble_eq_true rfl), (Nat.le_of_ble_eq_true rfl)⟩) (z_preV hPc hKc hDc (ci := 9) (q0 := 0) rfl rfl) rfl rfl hl.1 rfl (lv_room (Nat.le_of_ble_eq_true rfl)) dL_law_975 ⟨(Nat.le_of_ble_eq_true rfl), (Nat.le_of_ble_eq_true rfl)⟩) hS (fun q _ h => hFc q h) hFc (fun r_6 u t H1 locs ht hvm hw hB hz1 hk1 hS => ?_)
  have hB : zW dC dI [] [] (va_A [(h0, .inr (9, [.ref tp, .int 0, .int 0, .int (-1), .ref nw, .ref im, .ref sl, .ref rd, .ref wk, .ref fm, .ref mt, .ref ch, .ref dy])), (nw, .inr (3, [.int 0, .ref tn, .int 0, .int 0, .int 0, .int 0])), (tn, .inr (7, [.int 0, .int 0, .int 0, .int 0, .int 0, .int 0, .int 0, .int 0, .ref ta0, .ref ta1, .ref ta2, .ref ta3, .ref ta4, .ref ta5, .ref ta6, .ref ta7, .ref ta8, .ref ta9]))] H.size) t := z_none (va_K.moved hvm hK)
  obtain ⟨hP, hD, hK⟩ := z_after [(m0, .inr (10, [.int 0, .ref m_width, .ref m_many, .ref m_cells, .ref m_moved, .ref m_tape, .int 0, .int 0, .int 0, .int 0, .int 0, .long 0, .int 0, .int 0, .int 0, .int (-1), .ref m_lines, .ref m_hours, .ref m_courts, .ref m_in, .ref m_gates, .ref m_gate, .ref m_people, .ref m_at0, .ref m_stray, .ref m_set, .ref m_once, .ref m_truth, .ref m_known, .ref m_isKept, .int 0, .int (-1), .int 0, .int 0, .ref m_inside, .ref m_can, .ref m_fewest, .ref m_waysTo, .ref m_then, .ref m_two, .ref m_nextTwo, .ref m_three, .ref m_nextThree, .int (-1), .ref m_worth, .ref m_digit, .int 0, .long 0, .int 0, .int 0, .int 0, .int 0, .long 0])), (m_courts, .inl (cm_courts, 5, .inl (fun _ => 0)))] hB ht hvm hP hD hK [0, 1, 2] [3, 4] rfl rfl (by decide) (by decide) hk1 hFc
  generalize H1 = H at hP hS ⊢
  have hP : va_P (dC, dI) vwCl [(m0, .inr (10, [.int 0, .ref m_width, .ref m_many, .ref m_cells, .ref m_moved, .ref m_tape, .int 0, .int 0, .int 0, .int 0, .int 0, .long 0, .int 0, .int 0, .int 0, .int (-1), .ref m_lines, .ref m_hours, .ref m_courts, .ref m_in, .ref m_gates, .ref m_gate, .ref m_people, .ref m_at0, .ref m_stray, .ref m_set, .ref m_once, .ref m_truth, .ref m_known, .ref m_isKept, .int 0, .int (-1), .int 0, .int 0, .ref m_inside, .ref m_can, .ref m_fewest, .ref m_waysTo, .ref m_then, .ref m_two, .ref m_nextTwo, .ref m_three, .ref m_nextThree, .int (-1), .ref m_worth, .ref m_digit, .int 0, .long 0, .int 0, .int 0, .int 0, .int 0, .long 0])), (m_courts, .inl (cm_courts, 5, .inl (fun _ => 0)))] H := hP
  have hD : va_D A [(m0, .inr (10, [.int 0, .ref m_width, .ref m_many, .ref m_cells, .ref m_moved, .ref m_tape, .int 0, .int 0, .int 0, .int 0, .int 0, .long 0, .int 0, .int 0, .int 0, .int (-1), .ref m_lines, .ref m_hours, .ref m_courts, .ref m_in, .ref m_gates, .ref m_gate, .ref m_people, .ref m_at0, .ref m_stray, .ref m_set, .ref m_once, .ref m_truth, .ref m_known, .ref m_isKept, .int 0, .int (-1), .int 0, .int 0, .ref m_inside, .ref m_can, .ref m_fewest, .ref m_waysTo, .ref m_then, .ref m_two, .ref m_nextTwo, .ref m_three, .ref m_nextThree, .int (-1), .ref m_worth, .ref m_digit, .int 0, .long 0, .int 0, .int 0, .int 0, .int 0, .long 0])), (m_courts, .inl (cm_courts, 5, .inl (fun _ => 0)))] := hD
  have hK : va_K (dC, dI) vwCl [(cm_courts, .int)] s := hK
  obtain rfl : r_6 = (-2) := hw
  refine lv_aload_n hx hb dL_law_978 rfl (lv_at hl 1 rfl) ?_
  refine lv_aload_n hx hb dL_law_979 rfl (lv_at hl 3 rfl) ?_
  refine lv_iload_n hx hb dL_law_980 rfl (lv_at hl 0 rfl) ?_
  refine lv_iconst (v := 1) hx hb dL_law_981 (by decide) ?_
  refine lv_iadd hx hb dL_law_982 ?_
  refine lv_topi (fun x_7 ex_7 => ?_)
  obtain rfl : x_7 = 1 := ex_7.trans (by decide)
  refine va_sld hx hb hX hbl hbA hS (z_inC _ (k := 1) (by decide) (by decide)) dL_law_983 ?_
  refine lv_aload_n hx hb dL_law_984 rfl (lv_at hl 3 rfl) ?_
  refine lv_iload_n hx hb dL_law_985 rfl (lv_at hl 0 rfl) ?_
  refine lv_iconst (v := 2) hx hb dL_law_986 (by decide) ?_
  refine lv_iadd hx hb dL_law_987 ?_
  refine lv_topi (fun x_8 ex_8 => ?_)
  obtain rfl : x_8 = 2 := ex_8.trans (by decide)
  refine va_sld hx hb hX hbl hbA hS (z_inC _ (k := 2) (by decide) (by decide)) dL_law_988 ?_
  refine lv_aload_n hx hb dL_law_989 rfl (lv_at hl 3 rfl) ?_
  refine lv_iload_n hx hb dL_law_990 rfl (lv_at hl 0 rfl) ?_
  refine lv_iconst (v := 3) hx hb dL_law_991 (by decide) ?_
  refine lv_iadd hx hb dL_law_992 ?_
  refine lv_topi (fun x_9 ex_9 => ?_)
  obtain rfl : x_9 = 3 := ex_9.trans (by decide)
  refine va_sld hx hb hX hbl hbA hS (z_inC _ (k := 3) (by decide) (by decide)) dL_law_993 ?_
  refine lv_aload_n hx hb dL_law_994 rfl (lv_at hl 3 rfl) ?_
  refine lv_iload_n hx hb dL_law_995 rfl (lv_at hl 0 rfl) ?_
  refine lv_iconst (v := 4) hx hb dL_law_996 (by decide) ?_
  refine lv_iadd hx hb dL_law_997 ?_
  refine lv_topi (fun x_10 ex_10 => ?_)
  obtain rfl : x_10 = 4 := ex_10.trans (by decide)
  refine va_sld hx hb hX hbl hbA hS (z_inC _ (k := 4) (by decide) (by decide)) dL_law_998 ?_
  refine lv_aload_n hx hb dL_law_999 rfl (lv_at hl 3 rfl) ?_
  refine lv_iload_n hx hb dL_law_1000 rfl (lv_at hl 0 rfl) ?_
  refine lv_iconst (v := 5) hx hb dL_law_1001 (by decide) ?_
  refine lv_iadd hx hb dL_law_1002 ?_
  refine lv_topi (fun x_11 ex_11 => ?_)
  obtain rfl : x_11 = 5 := ex_11.trans (by decide)
  refine va_sld hx hb hX hbl hbA hS (z_inC _ (k := 5) (by decide) (by decide)) dL_law_1003 ?_
  have hPc := hP.sub (ws' := [(m0, .inr (10, [.int 0, .ref m_width, .ref m_many, .ref m_cells, .ref m_moved, .ref m_tape, .int 0, .int 0, .int 0, .int 0, .int 0, .long 0, .int 0, .int 0, .int 0, .int (-1), .ref m_lines, .ref m_hours, .ref m_courts, .ref m_in, .ref m_gates, .ref m_gate, .ref m_people, .ref m_at0, .ref m_stray, .ref m_set, .ref m_once, .ref m_truth, .ref m_known, .ref m_isKept, .int 0, .int (-1), .int 0, .int 0, .ref m_inside, .ref m_can, .ref m_fewest, .ref m_waysTo, .ref m_then, .ref m_two, .ref m_nextTwo, .ref m_three, .ref m_nextThree, .int (-1), .ref m_worth, .ref m_digit, .int 0, .long 0, .int 0, .int 0, .int 0, .int 0, .long 0])), (m_courts, .inl (cm_courts, 5, .inl (fun _ => 0)))]) [0, 1] rfl
  have hDc := hD.sub (ws' := [(m0, .inr (10, [.int 0, .ref m_width, .ref m_many, .ref m_cells, .ref m_moved, .ref m_tape, .int 0, .int 0, .int 0, .int 0, .int 0, .long 0, .int 0, .int 0, .int 0, .int (-1), .ref m_lines, .ref m_hours, .ref m_courts, .ref m_in, .ref m_gates, .ref m_gate, .ref m_people, .ref m_at0, .ref m_stray, .ref m_set, .ref m_once, .ref m_truth, .ref m_known, .ref m_isKept, .int 0, .int (-1), .int 0, .int 0, .ref m_inside, .ref m_can, .ref m_fewest, .ref m_waysTo, .ref m_then, .ref m_two, .ref m_nextTwo, .ref m_three, .ref m_nextThree, .int (-1), .ref m_worth, .ref m_digit, .int 0, .long 0, .int 0, .int 0, .int 0, .int 0, .long 0])), (m_courts, .inl (cm_courts, 5, .inl (fun _ => 0)))]) [0, 1] (by decide) rfl
  have hKc := hK.sub (tys' := [(cm_courts, .int)]) [0] rfl
  have hFc := va_free (wc := [(m0, .inr (10, [.int 0, .ref m_width, .ref m_many, .ref m_cells, .ref m_moved, .ref m_tape, .int 0, .int 0, .int 0, .int 0, .int 0, .long 0, .int 0, .int 0, .int 0, .int (-1), .ref m_lines, .ref m_hours, .ref m_courts, .ref m_in, .ref m_gates, .ref m_gate, .ref m_people, .ref m_at0, .ref m_stray, .ref m_set, .ref m_once, .ref m_truth, .ref m_known, .ref m_isKept, .int 0, .int (-1), .int 0, .int 0, .ref m_inside, .ref m_can, .ref m_fewest, .ref m_waysTo, .ref m_then, .ref m_two, .ref m_nextTwo, .ref m_three, .ref m_nextThree, .int (-1), .ref m_worth, .ref m_digit, .int 0, .long 0, .int 0, .int 0, .int 0, .int 0, .long 0])), (m_courts, .inl (cm_courts, 5, .inl (fun _ => 0)))]) hD hS hA [0, 1] rfl
  refine va_calli (va_runV (As := [.int (xs (Int32.toNatClampNeg 1)), .int (xs (Int32.toNatClampNeg 2)), .int (xs (Int32.toNatClampNeg 3)), .int (xs (Int32.toNatClampNeg 4)), .int (xs (Int32.toNatClampNeg 5))]) (rest := [.int (-2)]) ⟨hx, hb, hml, hown, hts⟩ (k_X10_fewest l dC dI m0 (xs (Int32.toNatClampNeg 1)) (xs (Int32.toNatClampNeg 2)) (xs (Int32.toNatClampNeg 3)) (xs (Int32.toNatClampNeg 4)) (xs (Int32.toNatClampNeg 5)) m_width m_many m_cells m_moved m_tape m_lines m_hours m_courts m_in m_gates m_gate m_people m_at0 m_stray m_set m_once m_truth m_known m_isKept m_inside m_can m_fewest m_waysTo m_then m_two m_nextTwo m_three m_nextThree m_worth m_digit cm_courts H.size) (cwV 5 hts (z_gV zw_t8_65 zw_t8_66 zw_t8_67 zw_t1_11 zw_t8_68) rfl rfl rfl (by decide +kernel) ⟨(Nat.le_of_ble_eq_true rfl), (Nat.le_of_ble_eq_true rfl)⟩) (z_preV hPc hKc hDc (ci := 10) (q0 := 0) rfl rfl) rfl rfl hl.1 rfl (lv_room (Nat.le_of_ble_eq_true rfl)) dL_law_1004 ⟨(Nat.le_of_ble_eq_true rfl), (Nat.le_of_ble_eq_true rfl)⟩) hS (fun q _ h => hFc q h) hFc (fun r_12 u t H1 locs ht hvm hw hB hz1 hk1 hS => ?_)
  have hB : zW dC dI [] [] (va_A [(m0, .inr (10, [.int 0, .ref m_width, .ref m_many, .ref m_cells, .ref m_moved, .ref m_tape, .int 0, .int 0, .int 0, .int 0, .int 0, .long 0, .int 0, .int 0, .int 0, .int (-1), .ref m_lines, .ref m_hours, .ref m_courts, .ref m_in, .ref m_gates, .ref m_gate, .ref m_people, .ref m_at0, .ref m_stray, .ref m_set, .ref m_once, .ref m_truth, .ref m_known, .ref m_isKept, .int 0, .int (-1), .int 0, .int 0, .ref m_inside, .ref m_can, .ref m_fewest, .ref m_waysTo, .ref m_then, .ref m_two, .ref m_nextTwo, .ref m_three, .ref m_nextThree, .int (-1), .ref m_worth, .ref m_digit, .int 0, .long 0, .int 0, .int 0, .int 0, .int 0, .long 0])), (m_courts, .inl (cm_courts, 5, .inl (fun _ => 0)))] H.size) t := z_none (va_K.moved hvm hK)
  obtain ⟨hP, hD, hK⟩ := z_after [] hB ht hvm hP hD hK [0, 1] [] rfl rfl (by decide) (by decide) hk1 hFc
  generalize H1 = H at hP hS ⊢
  have hP : va_P (dC, dI) vwCl [] H := hP
  have hD : va_D A [] := hD
  have hK : va_K (dC, dI) vwCl [(cm_courts, .int)] s := hK
  obtain rfl : r_12 = (-2) := hw
  refine lv_icmp_eq (tgt := 2651) hx hb dL_law_1007 (by decide) (fun _ => ?_) (fun q => absurd q (by decide))
  exact law_tail C0 hA2 (Nat.le_of_ble_eq_true rfl) (Nat.le_of_ble_eq_true rfl) hS (lv_sub hl [0, 3] rfl)
set_option maxHeartbeats 4000000 in
set_option maxRecDepth 100000 in
theorem law_every {p : Program} {e : Env} {s : State} {m : MethodId} {below : List Frame} {meth : Method} {c : Code} {l : Launch} {b : Nat} {xs : Nat → Int32} (C0 : lw_At p s m meth c b 6 xs) {dC : Nat → ClassId} {dI : Nat → Nat → Nat} {A : Nat → Prop} (hA : ∀ q, s.heap.size ≤ q → A q) (hA2 : ∀ q, A q → s.heap.size ≤ q) {h0 : Nat} {tp : Nat} {nw : Nat} {im : Nat} {sl : Nat} {rd : Nat} {wk : Nat} {fm : Nat} {mt : Nat} {ch : Nat} {dy : Nat} {tn : Nat} {ta0 : Nat} {ta1 : Nat} {ta2 : Nat} {ta3 : Nat} {ta4 : Nat} {ta5 : Nat} {ta6 : Nat} {ta7 : Nat} {ta8 : Nat} {ta9 : Nat} {m0 : Nat} {m_width : Nat} {m_many : Nat} {m_cells : Nat} {m_moved : Nat} {m_tape : Nat} {m_lines : Nat} {m_hours : Nat} {m_courts : Nat} {m_in : Nat} {m_gates : Nat} {m_gate : Nat} {m_people : Nat} {m_at0 : Nat} {m_stray : Nat} {m_set : Nat} {m_once : Nat} {m_truth : Nat} {m_known : Nat} {m_isKept : Nat} {m_inside : Nat} {m_can : Nat} {m_fewest : Nat} {m_waysTo : Nat} {m_then : Nat} {m_two : Nat} {m_nextTwo : Nat} {m_three : Nat} {m_nextThree : Nat} {m_worth : Nat} {m_digit : Nat} {cm_hours : ClassId}  {H : Heap} {locs : List Loc} {ls : Array Slot} (hP : va_P (dC, dI) vwCl [(h0, .inr (9, [.ref tp, .int 0, .int 0, .int (-1), .ref nw, .ref im, .ref sl, .ref rd, .ref wk, .ref fm, .ref mt, .ref ch, .ref dy])), (nw, .inr (3, [.int 0, .ref tn, .int 0, .int 0, .int 0, .int 0])), (tn, .inr (7, [.int 0, .int 0, .int 0, .int 0, .int 0, .int 0, .int 0, .int 0, .ref ta0, .ref ta1, .ref ta2, .ref ta3, .ref ta4, .ref ta5, .ref ta6, .ref ta7, .ref ta8, .ref ta9])), (m0, .inr (10, [.int 0, .ref m_width, .ref m_many, .ref m_cells, .ref m_moved, .ref m_tape, .int 0, .int 0, .int 0, .int 0, .int 0, .long 0, .int 0, .int 0, .int 0, .int (-1), .ref m_lines, .ref m_hours, .ref m_courts, .ref m_in, .ref m_gates, .ref m_gate, .ref m_people, .ref m_at0, .ref m_stray, .ref m_set, .ref m_once, .ref m_truth, .ref m_known, .ref m_isKept, .int 0, .int (-1), .int 0, .int 0, .ref m_inside, .ref m_can, .ref m_fewest, .ref m_waysTo, .ref m_then, .ref m_two, .ref m_nextTwo, .ref m_three, .ref m_nextThree, .int (-1), .ref m_worth, .ref m_digit, .int 0, .long 0, .int 0, .int 0, .int 0, .int 0, .long 0])), (m_hours, .inl (cm_hours, 5, .inl (fun _ => 0)))] H) (hD : va_D A [(h0, .inr (9, [.ref tp, .int 0, .int 0, .int (-1), .ref nw, .ref im, .ref sl, .ref rd, .ref wk, .ref fm, .ref mt, .ref ch, .ref dy])), (nw, .inr (3, [.int 0, .ref tn, .int 0, .int 0, .int 0, .int 0])), (tn, .inr (7, [.int 0, .int 0, .int 0, .int 0, .int 0, .int 0, .int 0, .int 0, .ref ta0, .ref ta1, .ref ta2, .ref ta3, .ref ta4, .ref ta5, .ref ta6, .ref ta7, .ref ta8, .ref ta9])), (m0, .inr (10, [.int 0, .ref m_width, .ref m_many, .ref m_cells, .ref m_moved, .ref m_tape, .int 0, .int 0, .int 0, .int 0, .int 0, .long 0, .int 0, .int 0, .int 0, .int (-1), .ref m_lines, .ref m_hours, .ref m_courts, .ref m_in, .ref m_gates, .ref m_gate, .ref m_people, .ref m_at0, .ref m_stray, .ref m_set, .ref m_once, .ref m_truth, .ref m_known, .ref m_isKept, .int 0, .int (-1), .int 0, .int 0, .ref m_inside, .ref m_can, .ref m_fewest, .ref m_waysTo, .ref m_then, .ref m_two, .ref m_nextTwo, .ref m_three, .ref m_nextThree, .int (-1), .ref m_worth, .ref m_digit, .int 0, .long 0, .int 0, .int 0, .int 0, .int 0, .long 0])), (m_hours, .inl (cm_hours, 5, .inl (fun _ => 0)))]) (hK : va_K (dC, dI) vwCl [(cm_hours, .int)] s) (hS : va_S A s.heap H locs) (hl : lv_has ls 4 [(3, .int 0), (2, .ref m0), (1, .ref h0), (0, .ref b)]) : W p l e room_1 s m #[Value.ref b] below meth c H locs 166 101284 (lw_Z below #[Value.ref b] s) (F0 m 1012 ls []) := by
  obtain ⟨hx, hb, hr, hml, hown, hts, hX, hbl, hlocks, hgv⟩ := id C0
  have hown : s.vm.findClass RL = some m.cls := hown
  have hb : c.code = cL_law := hb
  have hts : ∀ w ∈ zT, w.before #[Value.ref b] s = true := fun w h => hts w (zT_in w h)
  have hbA : ¬ A b := fun q => absurd (hA2 b q) (Nat.not_le.mpr hbl)
  refine lv_aload_n hx hb dL_law_1012 rfl (lv_at hl 2 rfl) ?_
  refine lv_aload_n hx hb dL_law_1013 rfl (lv_at hl 3 rfl) ?_
  refine lv_iload_n hx hb dL_law_1014 rfl (lv_at hl 0 rfl) ?_
  refine lv_iconst (v := 1) hx hb dL_law_1015 (by decide) ?_
  refine lv_iadd hx hb dL_law_1016 ?_
  refine lv_topi (fun x_1 ex_1 => ?_)
  obtain rfl : x_1 = 1 := ex_1.trans (by decide)
  refine va_sld hx hb hX hbl hbA hS (z_inC _ (k := 1) (by decide) (by decide)) dL_law_1017 ?_
  have hPc := hP.sub (ws' := [(h0, .inr (9, [.ref tp, .int 0, .int 0, .int (-1), .ref nw, .ref im, .ref sl, .ref rd, .ref wk, .ref fm, .ref mt, .ref ch, .ref dy])), (nw, .inr (3, [.int 0, .ref tn, .int 0, .int 0, .int 0, .int 0])), (tn, .inr (7, [.int 0, .int 0, .int 0, .int 0, .int 0, .int 0, .int 0, .int 0, .ref ta0, .ref ta1, .ref ta2, .ref ta3, .ref ta4, .ref ta5, .ref ta6, .ref ta7, .ref ta8, .ref ta9]))]) [0, 1, 2] rfl
  have hDc := hD.sub (ws' := [(h0, .inr (9, [.ref tp, .int 0, .int 0, .int (-1), .ref nw, .ref im, .ref sl, .ref rd, .ref wk, .ref fm, .ref mt, .ref ch, .ref dy])), (nw, .inr (3, [.int 0, .ref tn, .int 0, .int 0, .int 0, .int 0])), (tn, .inr (7, [.int 0, .int 0, .int 0, .int 0, .int 0, .int 0, .int 0, .int 0, .ref ta0, .ref ta1, .ref ta2, .ref ta3, .ref ta4, .ref ta5, .ref ta6, .ref ta7, .ref ta8, .ref ta9]))]) [0, 1, 2] (by decide) rfl
  have hKc := hK.sub (tys' := []) [] rfl
  have hFc := va_free (wc := [(h0, .inr (9, [.ref tp, .int 0, .int 0, .int (-1), .ref nw, .ref im, .ref sl, .ref rd, .ref wk, .ref fm, .ref mt, .ref ch, .ref dy])), (nw, .inr (3, [.int 0, .ref tn, .int 0, .int 0, .int 0, .int 0])), (tn, .inr (7, [.int 0, .int 0, .int 0, .int 0, .int 0, .int 0, .int 0, .int 0, .ref ta0, .ref ta1, .ref ta2, .ref ta3, .ref ta4, .ref ta5, .ref ta6, .ref ta7, .ref ta8, .ref ta9]))]) hD hS hA [0, 1, 2] rfl
  refine va_calli (va_runV (As := [.int (xs (Int32.toNatClampNeg 1))]) (rest := []) ⟨hx, hb, hml, hown, hts⟩ (k_X9_every l dC dI h0 (xs (Int32.toNatClampNeg 1)) tp nw im sl rd wk fm mt ch dy tn ta0 ta1 ta2 ta3 ta4 ta5 ta6 ta7 ta8 ta9 H.size) (cwV 1 hts (z_gV zw_t4_167 zw_t4_168 zw_t4_169 zw_t1_1 zw_t4_170) rfl rfl rfl (by decide +kernel) ⟨(Nat.le_of_ble_eq_true rfl), (Nat.le_of_ble_eq_true rfl)⟩) (z_preV hPc hKc hDc (ci := 9) (q0 := 0) rfl rfl) rfl rfl hl.1 rfl (lv_room (Nat.le_of_ble_eq_true rfl)) dL_law_1018 ⟨(Nat.le_of_ble_eq_true rfl), (Nat.le_of_ble_eq_true rfl)⟩) hS (fun q _ h => hFc q h) hFc (fun r_2 u t H1 locs ht hvm hw hB hz1 hk1 hS => ?_)
  have hB : zW dC dI [] [] (va_A [(h0, .inr (9, [.ref tp, .int 0, .int 0, .int (-1), .ref nw, .ref im, .ref sl, .ref rd, .ref wk, .ref fm, .ref mt, .ref ch, .ref dy])), (nw, .inr (3, [.int 0, .ref tn, .int 0, .int 0, .int 0, .int 0])), (tn, .inr (7, [.int 0, .int 0, .int 0, .int 0, .int 0, .int 0, .int 0, .int 0, .ref ta0, .ref ta1, .ref ta2, .ref ta3, .ref ta4, .ref ta5, .ref ta6, .ref ta7, .ref ta8, .ref ta9]))] H.size) t := z_none (va_K.moved hvm hK)
  obtain ⟨hP, hD, hK⟩ := z_after [(m0, .inr (10, [.int 0, .ref m_width, .ref m_many, .ref m_cells, .ref m_moved, .ref m_tape, .int 0, .int 0, .int 0, .int 0, .int 0, .long 0, .int 0, .int 0, .int 0, .int (-1), .ref m_lines, .ref m_hours, .ref m_courts, .ref m_in, .ref m_gates, .ref m_gate, .ref m_people, .ref m_at0, .ref m_stray, .ref m_set, .ref m_once, .ref m_truth, .ref m_known, .ref m_isKept, .int 0, .int (-1), .int 0, .int 0, .ref m_inside, .ref m_can, .ref m_fewest, .ref m_waysTo, .ref m_then, .ref m_two, .ref m_nextTwo, .ref m_three, .ref m_nextThree, .int (-1), .ref m_worth, .ref m_digit, .int 0, .long 0, .int 0, .int 0, .int 0, .int 0, .long 0])), (m_hours, .inl (cm_hours, 5, .inl (fun _ => 0)))] hB ht hvm hP hD hK [0, 1, 2] [3, 4] rfl rfl (by decide) (by decide) hk1 hFc
  generalize H1 = H at hP hS ⊢
  have hP : va_P (dC, dI) vwCl [(m0, .inr (10, [.int 0, .ref m_width, .ref m_many, .ref m_cells, .ref m_moved, .ref m_tape, .int 0, .int 0, .int 0, .int 0, .int 0, .long 0, .int 0, .int 0, .int 0, .int (-1), .ref m_lines, .ref m_hours, .ref m_courts, .ref m_in, .ref m_gates, .ref m_gate, .ref m_people, .ref m_at0, .ref m_stray, .ref m_set, .ref m_once, .ref m_truth, .ref m_known, .ref m_isKept, .int 0, .int (-1), .int 0, .int 0, .ref m_inside, .ref m_can, .ref m_fewest, .ref m_waysTo, .ref m_then, .ref m_two, .ref m_nextTwo, .ref m_three, .ref m_nextThree, .int (-1), .ref m_worth, .ref m_digit, .int 0, .long 0, .int 0, .int 0, .int 0, .int 0, .long 0])), (m_hours, .inl (cm_hours, 5, .inl (fun _ => 0)))] H := hP
  have hD : va_D A [(m0, .inr (10, [.int 0, .ref m_width, .ref m_many, .ref m_cells, .ref m_moved, .ref m_tape, .int 0, .int 0, .int 0, .int 0, .int 0, .long 0, .int 0, .int 0, .int 0, .int (-1), .ref m_lines, .ref m_hours, .ref m_courts, .ref m_in, .ref m_gates, .ref m_gate, .ref m_people, .ref m_at0, .ref m_stray, .ref m_set, .ref m_once, .ref m_truth, .ref m_known, .ref m_isKept, .int 0, .int (-1), .int 0, .int 0, .ref m_inside, .ref m_can, .ref m_fewest, .ref m_waysTo, .ref m_then, .ref m_two, .ref m_nextTwo, .ref m_three, .ref m_nextThree, .int (-1), .ref m_worth, .ref m_digit, .int 0, .long 0, .int 0, .int 0, .int 0, .int 0, .long 0])), (m_hours, .inl (cm_hours, 5, .inl (fun _ => 0)))] := hD
  have hK : va_K (dC, dI) vwCl [(cm_hours, .int)] s := hK
  obtain rfl : r_2 = (-2) := hw
  refine lv_aload_n hx hb dL_law_1021 rfl (lv_at hl 1 rfl) ?_
  refine lv_aload_n hx hb dL_law_1022 rfl (lv_at hl 3 rfl) ?_
  refine lv_iload_n hx hb dL_law_1023 rfl (lv_at hl 0 rfl) ?_
  refine lv_iconst (v := 1) hx hb dL_law_1024 (by decide) ?_
  refine lv_iadd hx hb dL_law_1025 ?_
  refine lv_topi (fun x_3 ex_3 => ?_)
  obtain rfl : x_3 = 1 := ex_3.trans (by decide)
  refine va_sld hx hb hX hbl hbA hS (z_inC _ (k := 1) (by decide) (by decide)) dL_law_1026 ?_
  have hPc := hP.sub (ws' := [(m0, .inr (10, [.int 0, .ref m_width, .ref m_many, .ref m_cells, .ref m_moved, .ref m_tape, .int 0, .int 0, .int 0, .int 0, .int 0, .long 0, .int 0, .int 0, .int 0, .int (-1), .ref m_lines, .ref m_hours, .ref m_courts, .ref m_in, .ref m_gates, .ref m_gate, .ref m_people, .ref m_at0, .ref m_stray, .ref m_set, .ref m_once, .ref m_truth, .ref m_known, .ref m_isKept, .int 0, .int (-1), .int 0, .int 0, .ref m_inside, .ref m_can, .ref m_fewest, .ref m_waysTo, .ref m_then, .ref m_two, .ref m_nextTwo, .ref m_three, .ref m_nextThree, .int (-1), .ref m_worth, .ref m_digit, .int 0, .long 0, .int 0, .int 0, .int 0, .int 0, .long 0])), (m_hours, .inl (cm_hours, 5, .inl (fun _ => 0)))]) [0, 1] rfl
  have hDc := hD.sub (ws' := [(m0, .inr (10, [.int 0, .ref m_width, .ref m_many, .ref m_cells, .ref m_moved, .ref m_tape, .int 0, .int 0, .int 0, .int 0, .int 0, .long 0, .int 0, .int 0, .int 0, .int (-1), .ref m_lines, .ref m_hours, .ref m_courts, .ref m_in, .ref m_gates, .ref m_gate, .ref m_people, .ref m_at0, .ref m_stray, .ref m_set, .ref m_once, .ref m_truth, .ref m_known, .ref m_isKept, .int 0, .int (-1), .int 0, .int 0, .ref m_inside, .ref m_can, .ref m_fewest, .ref m_waysTo, .ref m_then, .ref m_two, .ref m_nextTwo, .ref m_three, .ref m_nextThree, .int (-1), .ref m_worth, .ref m_digit, .int 0, .long 0, .int 0, .int 0, .int 0, .int 0, .long 0])), (m_hours, .inl (cm_hours, 5, .inl (fun _ => 0)))]) [0, 1] (by decide) rfl
  have hKc := hK.sub (tys' := [(cm_hours, .int)]) [0] rfl
  have hFc := va_free (wc := [(m0, .inr (10, [.int 0, .ref m_width, .ref m_many, .ref m_cells, .ref m_moved, .ref m_tape, .int 0, .int 0, .int 0, .int 0, .int 0, .long 0, .int 0, .int 0, .int 0, .int (-1), .ref m_lines, .ref m_hours, .ref m_courts, .ref m_in, .ref m_gates, .ref m_gate, .ref m_people, .ref m_at0, .ref m_stray, .ref m_set, .ref m_once, .ref m_truth, .ref m_known, .ref m_isKept, .int 0, .int (-1), .int 0, .int 0, .ref m_inside, .ref m_can, .ref m_fewest, .ref m_waysTo, .ref m_then, .ref m_two, .ref m_nextTwo, .ref m_three, .ref m_nextThree, .int (-1), .ref m_worth, .ref m_digit, .int 0, .long 0, .int 0, .int 0, .int 0, .int 0, .long 0])), (m_hours, .inl (cm_hours, 5, .inl (fun _ => 0)))]) hD hS hA [0, 1] rfl
  refine va_calli (va_runV (As := [.int (xs (Int32.toNatClampNeg 1))]) (rest := [.int (-2)]) ⟨hx, hb, hml, hown, hts⟩ (k_X10_every l dC dI m0 (xs (Int32.toNatClampNeg 1)) m_width m_many m_cells m_moved m_tape m_lines m_hours m_courts m_in m_gates m_gate m_people m_at0 m_stray m_set m_once m_truth m_known m_isKept m_inside m_can m_fewest m_waysTo m_then m_two m_nextTwo m_three m_nextThree m_worth m_digit cm_hours H.size) (cwV 1 hts (z_gV zw_t8_79 zw_t8_80 zw_t8_81 zw_t1_11 zw_t8_82) rfl rfl rfl (by decide +kernel) ⟨(Nat.le_of_ble_eq_true rfl), (Nat.le_of_ble_eq_true rfl)⟩) (z_preV hPc hKc hDc (ci := 10) (q0 := 0) rfl rfl) rfl rfl hl.1 rfl (lv_room (Nat.le_of_ble_eq_true rfl)) dL_law_1027 ⟨(Nat.le_of_ble_eq_true rfl), (Nat.le_of_ble_eq_true rfl)⟩) hS (fun q _ h => hFc q h) hFc (fun r_4 u t H1 locs ht hvm hw hB hz1 hk1 hS => ?_)
  have hB : zW dC dI [] [] (va_A [(m0, .inr (10, [.int 0, .ref m_width, .ref m_many, .ref m_cells, .ref m_moved, .ref m_tape, .int 0, .int 0, .int 0, .int 0, .int 0, .long 0, .int 0, .int 0, .int 0, .int (-1), .ref m_lines, .ref m_hours, .ref m_courts, .ref m_in, .ref m_gates, .ref m_gate, .ref m_people, .ref m_at0, .ref m_stray, .ref m_set, .ref m_once, .ref m_truth, .ref m_known, .ref m_isKept, .int 0, .int (-1), .int 0, .int 0, .ref m_inside, .ref m_can, .ref m_fewest, .ref m_waysTo, .ref m_then, .ref m_two, .ref m_nextTwo, .ref m_three, .ref m_nextThree, .int (-1), .ref m_worth, .ref m_digit, .int 0, .long 0, .int 0, .int 0, .int 0, .int 0, .long 0])), (m_hours, .inl (cm_hours, 5, .inl (fun _ => 0)))] H.size) t := z_none (va_K.moved hvm hK)
  obtain ⟨hP, hD, hK⟩ := z_after [] hB ht hvm hP hD hK [0, 1] [] rfl rfl (by decide) (by decide) hk1 hFc
  generalize H1 = H at hP hS ⊢
  have hP : va_P (dC, dI) vwCl [] H := hP
  have hD : va_D A [] := hD
  have hK : va_K (dC, dI) vwCl [(cm_hours, .int)] s := hK
  obtain rfl : r_4 = (-2) := hw
  refine lv_icmp_eq (tgt := 2651) hx hb dL_law_1030 (by decide) (fun _ => ?_) (fun q => absurd q (by decide))
  exact law_tail C0 hA2 (Nat.le_of_ble_eq_true rfl) (Nat.le_of_ble_eq_true rfl) hS (lv_sub hl [0, 3] rfl)
set_option maxHeartbeats 4000000 in
set_option maxRecDepth 100000 in
theorem law_ways {p : Program} {e : Env} {s : State} {m : MethodId} {below : List Frame} {meth : Method} {c : Code} {l : Launch} {b : Nat} {xs : Nat → Int32} (C0 : lw_At p s m meth c b 6 xs) {dC : Nat → ClassId} {dI : Nat → Nat → Nat} {A : Nat → Prop} (hA : ∀ q, s.heap.size ≤ q → A q) (hA2 : ∀ q, A q → s.heap.size ≤ q) {h0 : Nat} {tp : Nat} {nw : Nat} {im : Nat} {sl : Nat} {rd : Nat} {wk : Nat} {fm : Nat} {mt : Nat} {ch : Nat} {dy : Nat} {tn : Nat} {ta0 : Nat} {ta1 : Nat} {ta2 : Nat} {ta3 : Nat} {ta4 : Nat} {ta5 : Nat} {ta6 : Nat} {ta7 : Nat} {ta8 : Nat} {ta9 : Nat} {m0 : Nat} {m_width : Nat} {m_many : Nat} {m_cells : Nat} {m_moved : Nat} {m_tape : Nat} {m_lines : Nat} {m_hours : Nat} {m_courts : Nat} {m_in : Nat} {m_gates : Nat} {m_gate : Nat} {m_people : Nat} {m_at0 : Nat} {m_stray : Nat} {m_set : Nat} {m_once : Nat} {m_truth : Nat} {m_known : Nat} {m_isKept : Nat} {m_inside : Nat} {m_can : Nat} {m_fewest : Nat} {m_waysTo : Nat} {m_then : Nat} {m_two : Nat} {m_nextTwo : Nat} {m_three : Nat} {m_nextThree : Nat} {m_worth : Nat} {m_digit : Nat} {cm_courts : ClassId}  {H : Heap} {locs : List Loc} {ls : Array Slot} (hP : va_P (dC, dI) vwCl [(h0, .inr (9, [.ref tp, .int 0, .int 0, .int (-1), .ref nw, .ref im, .ref sl, .ref rd, .ref wk, .ref fm, .ref mt, .ref ch, .ref dy])), (nw, .inr (3, [.int 0, .ref tn, .int 0, .int 0, .int 0, .int 0])), (tn, .inr (7, [.int 0, .int 0, .int 0, .int 0, .int 0, .int 0, .int 0, .int 0, .ref ta0, .ref ta1, .ref ta2, .ref ta3, .ref ta4, .ref ta5, .ref ta6, .ref ta7, .ref ta8, .ref ta9])), (m0, .inr (10, [.int 0, .ref m_width, .ref m_many, .ref m_cells, .ref m_moved, .ref m_tape, .int 0, .int 0, .int 0, .int 0, .int 0, .long 0, .int 0, .int 0, .int 0, .int (-1), .ref m_lines, .ref m_hours, .ref m_courts, .ref m_in, .ref m_gates, .ref m_gate, .ref m_people, .ref m_at0, .ref m_stray, .ref m_set, .ref m_once, .ref m_truth, .ref m_known, .ref m_isKept, .int 0, .int (-1), .int 0, .int 0, .ref m_inside, .ref m_can, .ref m_fewest, .ref m_waysTo, .ref m_then, .ref m_two, .ref m_nextTwo, .ref m_three, .ref m_nextThree, .int (-1), .ref m_worth, .ref m_digit, .int 0, .long 0, .int 0, .int 0, .int 0, .int 0, .long 0])), (m_courts, .inl (cm_courts, 5, .inl (fun _ => 0)))] H) (hD : va_D A [(h0, .inr (9, [.ref tp, .int 0, .int 0, .int (-1), .ref nw, .ref im, .ref sl, .ref rd, .ref wk, .ref fm, .ref mt, .ref ch, .ref dy])), (nw, .inr (3, [.int 0, .ref tn, .int 0, .int 0, .int 0, .int 0])), (tn, .inr (7, [.int 0, .int 0, .int 0, .int 0, .int 0, .int 0, .int 0, .int 0, .ref ta0, .ref ta1, .ref ta2, .ref ta3, .ref ta4, .ref ta5, .ref ta6, .ref ta7, .ref ta8, .ref ta9])), (m0, .inr (10, [.int 0, .ref m_width, .ref m_many, .ref m_cells, .ref m_moved, .ref m_tape, .int 0, .int 0, .int 0, .int 0, .int 0, .long 0, .int 0, .int 0, .int 0, .int (-1), .ref m_lines, .ref m_hours, .ref m_courts, .ref m_in, .ref m_gates, .ref m_gate, .ref m_people, .ref m_at0, .ref m_stray, .ref m_set, .ref m_once, .ref m_truth, .ref m_known, .ref m_isKept, .int 0, .int (-1), .int 0, .int 0, .ref m_inside, .ref m_can, .ref m_fewest, .ref m_waysTo, .ref m_then, .ref m_two, .ref m_nextTwo, .ref m_three, .ref m_nextThree, .int (-1), .ref m_worth, .ref m_digit, .int 0, .long 0, .int 0, .int 0, .int 0, .int 0, .long 0])), (m_courts, .inl (cm_courts, 5, .inl (fun _ => 0)))]) (hK : va_K (dC, dI) vwCl [(cm_courts, .int)] s) (hS : va_S A s.heap H locs) (hl : lv_has ls 4 [(3, .int 0), (2, .ref m0), (1, .ref h0), (0, .ref b)]) : W p l e room_1 s m #[Value.ref b] below meth c H locs 166 101284 (lw_Z below #[Value.ref b] s) (F0 m 1035 ls []) := by
  obtain ⟨hx, hb, hr, hml, hown, hts, hX, hbl, hlocks, hgv⟩ := id C0
  have hown : s.vm.findClass RL = some m.cls := hown
  have hb : c.code = cL_law := hb
  have hts : ∀ w ∈ zT, w.before #[Value.ref b] s = true := fun w h => hts w (zT_in w h)
  have hbA : ¬ A b := fun q => absurd (hA2 b q) (Nat.not_le.mpr hbl)
  refine lv_aload_n hx hb dL_law_1035 rfl (lv_at hl 2 rfl) ?_
  refine lv_aload_n hx hb dL_law_1036 rfl (lv_at hl 3 rfl) ?_
  refine lv_iload_n hx hb dL_law_1037 rfl (lv_at hl 0 rfl) ?_
  refine lv_iconst (v := 1) hx hb dL_law_1038 (by decide) ?_
  refine lv_iadd hx hb dL_law_1039 ?_
  refine lv_topi (fun x_1 ex_1 => ?_)
  obtain rfl : x_1 = 1 := ex_1.trans (by decide)
  refine va_sld hx hb hX hbl hbA hS (z_inC _ (k := 1) (by decide) (by decide)) dL_law_1040 ?_
  refine lv_aload_n hx hb dL_law_1041 rfl (lv_at hl 3 rfl) ?_
  refine lv_iload_n hx hb dL_law_1042 rfl (lv_at hl 0 rfl) ?_
  refine lv_iconst (v := 2) hx hb dL_law_1043 (by decide) ?_
  refine lv_iadd hx hb dL_law_1044 ?_
  refine lv_topi (fun x_2 ex_2 => ?_)
  obtain rfl : x_2 = 2 := ex_2.trans (by decide)
  refine va_sld hx hb hX hbl hbA hS (z_inC _ (k := 2) (by decide) (by decide)) dL_law_1045 ?_
  refine lv_aload_n hx hb dL_law_1046 rfl (lv_at hl 3 rfl) ?_
  refine lv_iload_n hx hb dL_law_1047 rfl (lv_at hl 0 rfl) ?_
  refine lv_iconst (v := 3) hx hb dL_law_1048 (by decide) ?_
  refine lv_iadd hx hb dL_law_1049 ?_
  refine lv_topi (fun x_3 ex_3 => ?_)
  obtain rfl : x_3 = 3 := ex_3.trans (by decide)
  refine va_sld hx hb hX hbl hbA hS (z_inC _ (k := 3) (by decide) (by decide)) dL_law_1050 ?_
  refine lv_aload_n hx hb dL_law_1051 rfl (lv_at hl 3 rfl) ?_
  refine lv_iload_n hx hb dL_law_1052 rfl (lv_at hl 0 rfl) ?_
  refine lv_iconst (v := 4) hx hb dL_law_1053 (by decide) ?_
  refine lv_iadd hx hb dL_law_1054 ?_
  refine lv_topi (fun x_4 ex_4 => ?_)
  obtain rfl : x_4 = 4 := ex_4.trans (by decide)
  refine va_sld hx hb hX hbl hbA hS (z_inC _ (k := 4) (by decide) (by decide)) dL_law_1055 ?_
  have hPc := hP.sub (ws' := [(h0, .inr (9, [.ref tp, .int 0, .int 0, .int (-1), .ref nw, .ref im, .ref sl, .ref rd, .ref wk, .ref fm, .ref mt, .ref ch, .ref dy])), (nw, .inr (3, [.int 0, .ref tn, .int 0, .int 0, .int 0, .int 0])), (tn, .inr (7, [.int 0, .int 0, .int 0, .int 0, .int 0, .int 0, .int 0, .int 0, .ref ta0, .ref ta1, .ref ta2, .ref ta3, .ref ta4, .ref ta5, .ref ta6, .ref ta7, .ref ta8, .ref ta9]))]) [0, 1, 2] rfl
  have hDc := hD.sub (ws' := [(h0, .inr (9, [.ref tp, .int 0, .int 0, .int (-1), .ref nw, .ref im, .ref sl, .ref rd, .ref wk, .ref fm, .ref mt, .ref ch, .ref dy])), (nw, .inr (3, [.int 0, .ref tn, .int 0, .int 0, .int 0, .int 0])), (tn, .inr (7, [.int 0, .int 0, .int 0, .int 0, .int 0, .int 0, .int 0, .int 0, .ref ta0, .ref ta1, .ref ta2, .ref ta3, .ref ta4, .ref ta5, .ref ta6, .ref ta7, .ref ta8, .ref ta9]))]) [0, 1, 2] (by decide) rfl
  have hKc := hK.sub (tys' := []) [] rfl
  have hFc := va_free (wc := [(h0, .inr (9, [.ref tp, .int 0, .int 0, .int (-1), .ref nw, .ref im, .ref sl, .ref rd, .ref wk, .ref fm, .ref mt, .ref ch, .ref dy])), (nw, .inr (3, [.int 0, .ref tn, .int 0, .int 0, .int 0, .int 0])), (tn, .inr (7, [.int 0, .int 0, .int 0, .int 0, .int 0, .int 0, .int 0, .int 0, .ref ta0, .ref ta1, .ref ta2, .ref ta3, .ref ta4, .ref ta5, .ref ta6, .ref ta7, .ref ta8, .ref ta9]))]) hD hS hA [0, 1, 2] rfl
  refine va_calli (va_runV (As := [.int (xs (Int32.toNatClampNeg 1)), .int (xs (Int32.toNatClampNeg 2)), .int (xs (Int32.toNatClampNeg 3)), .int (xs (Int32.toNatClampNeg 4))]) (rest := []) ⟨hx, hb, hml, hown, hts⟩ (k_X9_ways l dC dI h0 (xs (Int32.toNatClampNeg 1)) (xs (Int32.toNatClampNeg 2)) (xs (Int32.toNatClampNeg 3)) (xs (Int32.toNatClampNeg 4)) tp nw im sl rd wk fm mt ch dy tn ta0 ta1 ta2 ta3 ta4 ta5 ta6 ta7 ta8 ta9 H.size) (cwV 4 hts (z_gV zw_t4_171 zw_t4_172 zw_t4_173 zw_t1_1 zw_t4_174) rfl rfl rfl (by decide +kernel) ⟨(Nat.le_of_ble_eq_true rfl), (Nat.le_of_ble_eq_true rfl)⟩) (z_preV hPc hKc hDc (ci := 9) (q0 := 0) rfl rfl) rfl rfl hl.1 rfl (lv_room (Nat.le_of_ble_eq_true rfl)) dL_law_1056 ⟨(Nat.le_of_ble_eq_true rfl), (Nat.le_of_ble_eq_true rfl)⟩) hS (fun q _ h => hFc q h) hFc (fun r_5 u t H1 locs ht hvm hw hB hz1 hk1 hS => ?_)
  have hB : zW dC dI [] [] (va_A [(h0, .inr (9, [.ref tp, .int 0, .int 0, .int (-1), .ref nw, .ref im, .ref sl, .ref rd, .ref wk, .ref fm, .ref mt, .ref ch, .ref dy])), (nw, .inr (3, [.int 0, .ref tn, .int 0, .int 0, .int 0, .int 0])), (tn, .inr (7, [.int 0, .int 0, .int 0, .int 0, .int 0, .int 0, .int 0, .int 0, .ref ta0, .ref ta1, .ref ta2, .ref ta3, .ref ta4, .ref ta5, .ref ta6, .ref ta7, .ref ta8, .ref ta9]))] H.size) t := z_none (va_K.moved hvm hK)
  obtain ⟨hP, hD, hK⟩ := z_after [(m0, .inr (10, [.int 0, .ref m_width, .ref m_many, .ref m_cells, .ref m_moved, .ref m_tape, .int 0, .int 0, .int 0, .int 0, .int 0, .long 0, .int 0, .int 0, .int 0, .int (-1), .ref m_lines, .ref m_hours, .ref m_courts, .ref m_in, .ref m_gates, .ref m_gate, .ref m_people, .ref m_at0, .ref m_stray, .ref m_set, .ref m_once, .ref m_truth, .ref m_known, .ref m_isKept, .int 0, .int (-1), .int 0, .int 0, .ref m_inside, .ref m_can, .ref m_fewest, .ref m_waysTo, .ref m_then, .ref m_two, .ref m_nextTwo, .ref m_three, .ref m_nextThree, .int (-1), .ref m_worth, .ref m_digit, .int 0, .long 0, .int 0, .int 0, .int 0, .int 0, .long 0])), (m_courts, .inl (cm_courts, 5, .inl (fun _ => 0)))] hB ht hvm hP hD hK [0, 1, 2] [3, 4] rfl rfl (by decide) (by decide) hk1 hFc
  generalize H1 = H at hP hS ⊢
  have hP : va_P (dC, dI) vwCl [(m0, .inr (10, [.int 0, .ref m_width, .ref m_many, .ref m_cells, .ref m_moved, .ref m_tape, .int 0, .int 0, .int 0, .int 0, .int 0, .long 0, .int 0, .int 0, .int 0, .int (-1), .ref m_lines, .ref m_hours, .ref m_courts, .ref m_in, .ref m_gates, .ref m_gate, .ref m_people, .ref m_at0, .ref m_stray, .ref m_set, .ref m_once, .ref m_truth, .ref m_known, .ref m_isKept, .int 0, .int (-1), .int 0, .int 0, .ref m_inside, .ref m_can, .ref m_fewest, .ref m_waysTo, .ref m_then, .ref m_two, .ref m_nextTwo, .ref m_three, .ref m_nextThree, .int (-1), .ref m_worth, .ref m_digit, .int 0, .long 0, .int 0, .int 0, .int 0, .int 0, .long 0])), (m_courts, .inl (cm_courts, 5, .inl (fun _ => 0)))] H := hP
  have hD : va_D A [(m0, .inr (10, [.int 0, .ref m_width, .ref m_many, .ref m_cells, .ref m_moved, .ref m_tape, .int 0, .int 0, .int 0, .int 0, .int 0, .long 0, .int 0, .int 0, .int 0, .int (-1), .ref m_lines, .ref m_hours, .ref m_courts, .ref m_in, .ref m_gates, .ref m_gate, .ref m_people, .ref m_at0, .ref m_stray, .ref m_set, .ref m_once, .ref m_truth, .ref m_known, .ref m_isKept, .int 0, .int (-1), .int 0, .int 0, .ref m_inside, .ref m_can, .ref m_fewest, .ref m_waysTo, .ref m_then, .ref m_two, .ref m_nextTwo, .ref m_three, .ref m_nextThree, .int (-1), .ref m_worth, .ref m_digit, .int 0, .long 0, .int 0, .int 0, .int 0, .int 0, .long 0])), (m_courts, .inl (cm_courts, 5, .inl (fun _ => 0)))] := hD
  have hK : va_K (dC, dI) vwCl [(cm_courts, .int)] s := hK
  obtain rfl : r_5 = (-2) := hw
  refine lv_aload_n hx hb dL_law_1059 rfl (lv_at hl 1 rfl) ?_
  refine lv_aload_n hx hb dL_law_1060 rfl (lv_at hl 3 rfl) ?_
  refine lv_iload_n hx hb dL_law_1061 rfl (lv_at hl 0 rfl) ?_
  refine lv_iconst (v := 1) hx hb dL_law_1062 (by decide) ?_
  refine lv_iadd hx hb dL_law_1063 ?_
  refine lv_topi (fun x_6 ex_6 => ?_)
  obtain rfl : x_6 = 1 := ex_6.trans (by decide)
  refine va_sld hx hb hX hbl hbA hS (z_inC _ (k := 1) (by decide) (by decide)) dL_law_1064 ?_
  refine lv_aload_n hx hb dL_law_1065 rfl (lv_at hl 3 rfl) ?_
  refine lv_iload_n hx hb dL_law_1066 rfl (lv_at hl 0 rfl) ?_
  refine lv_iconst (v := 2) hx hb dL_law_1067 (by decide) ?_
  refine lv_iadd hx hb dL_law_1068 ?_
  refine lv_topi (fun x_7 ex_7 => ?_)
  obtain rfl : x_7 = 2 := ex_7.trans (by decide)
  refine va_sld hx hb hX hbl hbA hS (z_inC _ (k := 2) (by decide) (by decide)) dL_law_1069 ?_
  refine lv_aload_n hx hb dL_law_1070 rfl (lv_at hl 3 rfl) ?_
  refine lv_iload_n hx hb dL_law_1071 rfl (lv_at hl 0 rfl) ?_
  refine lv_iconst (v := 3) hx hb dL_law_1072 (by decide) ?_
  refine lv_iadd hx hb dL_law_1073 ?_
  refine lv_topi (fun x_8 ex_8 => ?_)
  obtain rfl : x_8 = 3 := ex_8.trans (by decide)
  refine va_sld hx hb hX hbl hbA hS (z_inC _ (k := 3) (by decide) (by decide)) dL_law_1074 ?_
  refine lv_aload_n hx hb dL_law_1075 rfl (lv_at hl 3 rfl) ?_
  refine lv_iload_n hx hb dL_law_1076 rfl (lv_at hl 0 rfl) ?_
  refine lv_iconst (v := 4) hx hb dL_law_1077 (by decide) ?_
  refine lv_iadd hx hb dL_law_1078 ?_
  refine lv_topi (fun x_9 ex_9 => ?_)
  obtain rfl : x_9 = 4 := ex_9.trans (by decide)
  refine va_sld hx hb hX hbl hbA hS (z_inC _ (k := 4) (by decide) (by decide)) dL_law_1079 ?_
  have hPc := hP.sub (ws' := [(m0, .inr (10, [.int 0, .ref m_width, .ref m_many, .ref m_cells, .ref m_moved, .ref m_tape, .int 0, .int 0, .int 0, .int 0, .int 0, .long 0, .int 0, .int 0, .int 0, .int (-1), .ref m_lines, .ref m_hours, .ref m_courts, .ref m_in, .ref m_gates, .ref m_gate, .ref m_people, .ref m_at0, .ref m_stray, .ref m_set, .ref m_once, .ref m_truth, .ref m_known, .ref m_isKept, .int 0, .int (-1), .int 0, .int 0, .ref m_inside, .ref m_can, .ref m_fewest, .ref m_waysTo, .ref m_then, .ref m_two, .ref m_nextTwo, .ref m_three, .ref m_nextThree, .int (-1), .ref m_worth, .ref m_digit, .int 0, .long 0, .int 0, .int 0, .int 0, .int 0, .long 0])), (m_courts, .inl (cm_courts, 5, .inl (fun _ => 0)))]) [0, 1] rfl
  have hDc := hD.sub (ws' := [(m0, .inr (10, [.int 0, .ref m_width, .ref m_many, .ref m_cells, .ref m_moved, .ref m_tape, .int 0, .int 0, .int 0, .int 0, .int 0, .long 0, .int 0, .int 0, .int 0, .int (-1), .ref m_lines, .ref m_hours, .ref m_courts, .ref m_in, .ref m_gates, .ref m_gate, .ref m_people, .ref m_at0, .ref m_stray, .ref m_set, .ref m_once, .ref m_truth, .ref m_known, .ref m_isKept, .int 0, .int (-1), .int 0, .int 0, .ref m_inside, .ref m_can, .ref m_fewest, .ref m_waysTo, .ref m_then, .ref m_two, .ref m_nextTwo, .ref m_three, .ref m_nextThree, .int (-1), .ref m_worth, .ref m_digit, .int 0, .long 0, .int 0, .int 0, .int 0, .int 0, .long 0])), (m_courts, .inl (cm_courts, 5, .inl (fun _ => 0)))]) [0, 1] (by decide) rfl
  have hKc := hK.sub (tys' := [(cm_courts, .int)]) [0] rfl
  have hFc := va_free (wc := [(m0, .inr (10, [.int 0, .ref m_width, .ref m_many, .ref m_cells, .ref m_moved, .ref m_tape, .int 0, .int 0, .int 0, .int 0, .int 0, .long 0, .int 0, .int 0, .int 0, .int (-1), .ref m_lines, .ref m_hours, .ref m_courts, .ref m_in, .ref m_gates, .ref m_gate, .ref m_people, .ref m_at0, .ref m_stray, .ref m_set, .ref m_once, .ref m_truth, .ref m_known, .ref m_isKept, .int 0, .int (-1), .int 0, .int 0, .ref m_inside, .ref m_can, .ref m_fewest, .ref m_waysTo, .ref m_then, .ref m_two, .ref m_nextTwo, .ref m_three, .ref m_nextThree, .int (-1), .ref m_worth, .ref m_digit, .int 0, .long 0, .int 0, .int 0, .int 0, .int 0, .long 0])), (m_courts, .inl (cm_courts, 5, .inl (fun _ => 0)))]) hD hS hA [0, 1] rfl
  refine va_calli (va_runV (As := [.int (xs (Int32.toNatClampNeg 1)), .int (xs (Int32.toNatClampNeg 2)), .int (xs (Int32.toNatClampNeg 3)), .int (xs (Int32.toNatClampNeg 4))]) (rest := [.int (-2)]) ⟨hx, hb, hml, hown, hts⟩ (k_X10_ways l dC dI m0 (xs (Int32.toNatClampNeg 1)) (xs (Int32.toNatClampNeg 2)) (xs (Int32.toNatClampNeg 3)) (xs (Int32.toNatClampNeg 4)) m_width m_many m_cells m_moved m_tape m_lines m_hours m_courts m_in m_gates m_gate m_people m_at0 m_stray m_set m_once m_truth m_known m_isKept m_inside m_can m_fewest m_waysTo m_then m_two m_nextTwo m_three m_nextThree m_worth m_digit cm_courts H.size) (cwV 4 hts (z_gV zw_t8_83 zw_t8_84 zw_t8_85 zw_t1_11 zw_t8_86) rfl rfl rfl (by decide +kernel) ⟨(Nat.le_of_ble_eq_true rfl), (Nat.le_of_ble_eq_true rfl)⟩) (z_preV hPc hKc hDc (ci := 10) (q0 := 0) rfl rfl) rfl rfl hl.1 rfl (lv_room (Nat.le_of_ble_eq_true rfl)) dL_law_1080 ⟨(Nat.le_of_ble_eq_true rfl), (Nat.le_of_ble_eq_true rfl)⟩) hS (fun q _ h => hFc q h) hFc (fun r_10 u t H1 locs ht hvm hw hB hz1 hk1 hS => ?_)
  have hB : zW dC dI [] [] (va_A [(m0, .inr (10, [.int 0, .ref m_width, .ref m_many, .ref m_cells, .ref m_moved, .ref m_tape, .int 0, .int 0, .int 0, .int 0, .int 0, .long 0, .int 0, .int 0, .int 0, .int (-1), .ref m_lines, .ref m_hours, .ref m_courts, .ref m_in, .ref m_gates, .ref m_gate, .ref m_people, .ref m_at0, .ref m_stray, .ref m_set, .ref m_once, .ref m_truth, .ref m_known, .ref m_isKept, .int 0, .int (-1), .int 0, .int 0, .ref m_inside, .ref m_can, .ref m_fewest, .ref m_waysTo, .ref m_then, .ref m_two, .ref m_nextTwo, .ref m_three, .ref m_nextThree, .int (-1), .ref m_worth, .ref m_digit, .int 0, .long 0, .int 0, .int 0, .int 0, .int 0, .long 0])), (m_courts, .inl (cm_courts, 5, .inl (fun _ => 0)))] H.size) t := z_none (va_K.moved hvm hK)
  obtain ⟨hP, hD, hK⟩ := z_after [] hB ht hvm hP hD hK [0, 1] [] rfl rfl (by decide) (by decide) hk1 hFc
  generalize H1 = H at hP hS ⊢
  have hP : va_P (dC, dI) vwCl [] H := hP
  have hD : va_D A [] := hD
  have hK : va_K (dC, dI) vwCl [(cm_courts, .int)] s := hK
  obtain rfl : r_10 = (-2) := hw
  refine lv_icmp_eq (tgt := 2651) hx hb dL_law_1083 (by decide) (fun _ => ?_) (fun q => absurd q (by decide))
  exact law_tail C0 hA2 (Nat.le_of_ble_eq_true rfl) (Nat.le_of_ble_eq_true rfl) hS (lv_sub hl [0, 3] rfl)
set_option maxHeartbeats 4000000 in
set_option maxRecDepth 100000 in
theorem law_out {p : Program} {e : Env} {s : State} {m : MethodId} {below : List Frame} {meth : Method} {c : Code} {l : Launch} {b : Nat} {xs : Nat → Int32} (C0 : lw_At p s m meth c b 6 xs) {dC : Nat → ClassId} {dI : Nat → Nat → Nat} {A : Nat → Prop} (hA : ∀ q, s.heap.size ≤ q → A q) (hA2 : ∀ q, A q → s.heap.size ≤ q) {h0 : Nat} {tp : Nat} {nw : Nat} {im : Nat} {sl : Nat} {rd : Nat} {wk : Nat} {fm : Nat} {mt : Nat} {ch : Nat} {dy : Nat} {tn : Nat} {ta0 : Nat} {ta1 : Nat} {ta2 : Nat} {ta3 : Nat} {ta4 : Nat} {ta5 : Nat} {ta6 : Nat} {ta7 : Nat} {ta8 : Nat} {ta9 : Nat} {m0 : Nat} {m_width : Nat} {m_many : Nat} {m_cells : Nat} {m_moved : Nat} {m_tape : Nat} {m_lines : Nat} {m_hours : Nat} {m_courts : Nat} {m_in : Nat} {m_gates : Nat} {m_gate : Nat} {m_people : Nat} {m_at0 : Nat} {m_stray : Nat} {m_set : Nat} {m_once : Nat} {m_truth : Nat} {m_known : Nat} {m_isKept : Nat} {m_inside : Nat} {m_can : Nat} {m_fewest : Nat} {m_waysTo : Nat} {m_then : Nat} {m_two : Nat} {m_nextTwo : Nat} {m_three : Nat} {m_nextThree : Nat} {m_worth : Nat} {m_digit : Nat} {cm_courts : ClassId}  {H : Heap} {locs : List Loc} {ls : Array Slot} (hP : va_P (dC, dI) vwCl [(h0, .inr (9, [.ref tp, .int 0, .int 0, .int (-1), .ref nw, .ref im, .ref sl, .ref rd, .ref wk, .ref fm, .ref mt, .ref ch, .ref dy])), (nw, .inr (3, [.int 0, .ref tn, .int 0, .int 0, .int 0, .int 0])), (tn, .inr (7, [.int 0, .int 0, .int 0, .int 0, .int 0, .int 0, .int 0, .int 0, .ref ta0, .ref ta1, .ref ta2, .ref ta3, .ref ta4, .ref ta5, .ref ta6, .ref ta7, .ref ta8, .ref ta9])), (m0, .inr (10, [.int 0, .ref m_width, .ref m_many, .ref m_cells, .ref m_moved, .ref m_tape, .int 0, .int 0, .int 0, .int 0, .int 0, .long 0, .int 0, .int 0, .int 0, .int (-1), .ref m_lines, .ref m_hours, .ref m_courts, .ref m_in, .ref m_gates, .ref m_gate, .ref m_people, .ref m_at0, .ref m_stray, .ref m_set, .ref m_once, .ref m_truth, .ref m_known, .ref m_isKept, .int 0, .int (-1), .int 0, .int 0, .ref m_inside, .ref m_can, .ref m_fewest, .ref m_waysTo, .ref m_then, .ref m_two, .ref m_nextTwo, .ref m_three, .ref m_nextThree, .int (-1), .ref m_worth, .ref m_digit, .int 0, .long 0, .int 0, .int 0, .int 0, .int 0, .long 0])), (m_courts, .inl (cm_courts, 5, .inl (fun _ => 0)))] H) (hD : va_D A [(h0, .inr (9, [.ref tp, .int 0, .int 0, .int (-1), .ref nw, .ref im, .ref sl, .ref rd, .ref wk, .ref fm, .ref mt, .ref ch, .ref dy])), (nw, .inr (3, [.int 0, .ref tn, .int 0, .int 0, .int 0, .int 0])), (tn, .inr (7, [.int 0, .int 0, .int 0, .int 0, .int 0, .int 0, .int 0, .int 0, .ref ta0, .ref ta1, .ref ta2, .ref ta3, .ref ta4, .ref ta5, .ref ta6, .ref ta7, .ref ta8, .ref ta9])), (m0, .inr (10, [.int 0, .ref m_width, .ref m_many, .ref m_cells, .ref m_moved, .ref m_tape, .int 0, .int 0, .int 0, .int 0, .int 0, .long 0, .int 0, .int 0, .int 0, .int (-1), .ref m_lines, .ref m_hours, .ref m_courts, .ref m_in, .ref m_gates, .ref m_gate, .ref m_people, .ref m_at0, .ref m_stray, .ref m_set, .ref m_once, .ref m_truth, .ref m_known, .ref m_isKept, .int 0, .int (-1), .int 0, .int 0, .ref m_inside, .ref m_can, .ref m_fewest, .ref m_waysTo, .ref m_then, .ref m_two, .ref m_nextTwo, .ref m_three, .ref m_nextThree, .int (-1), .ref m_worth, .ref m_digit, .int 0, .long 0, .int 0, .int 0, .int 0, .int 0, .long 0])), (m_courts, .inl (cm_courts, 5, .inl (fun _ => 0)))]) (hK : va_K (dC, dI) vwCl [(cm_courts, .int)] s) (hS : va_S A s.heap H locs) (hl : lv_has ls 4 [(3, .int 0), (2, .ref m0), (1, .ref h0), (0, .ref b)]) : W p l e room_1 s m #[Value.ref b] below meth c H locs 166 101284 (lw_Z below #[Value.ref b] s) (F0 m 1088 ls []) := by
  obtain ⟨hx, hb, hr, hml, hown, hts, hX, hbl, hlocks, hgv⟩ := id C0
  have hown : s.vm.findClass RL = some m.cls := hown
  have hb : c.code = cL_law := hb
  have hts : ∀ w ∈ zT, w.before #[Value.ref b] s = true := fun w h => hts w (zT_in w h)
  have hbA : ¬ A b := fun q => absurd (hA2 b q) (Nat.not_le.mpr hbl)
  refine lv_aload_n hx hb dL_law_1088 rfl (lv_at hl 2 rfl) ?_
  refine lv_aload_n hx hb dL_law_1089 rfl (lv_at hl 3 rfl) ?_
  refine lv_iload_n hx hb dL_law_1090 rfl (lv_at hl 0 rfl) ?_
  refine lv_iconst (v := 1) hx hb dL_law_1091 (by decide) ?_
  refine lv_iadd hx hb dL_law_1092 ?_
  refine lv_topi (fun x_1 ex_1 => ?_)
  obtain rfl : x_1 = 1 := ex_1.trans (by decide)
  refine va_sld hx hb hX hbl hbA hS (z_inC _ (k := 1) (by decide) (by decide)) dL_law_1093 ?_
  refine lv_aload_n hx hb dL_law_1094 rfl (lv_at hl 3 rfl) ?_
  refine lv_iload_n hx hb dL_law_1095 rfl (lv_at hl 0 rfl) ?_
  refine lv_iconst (v := 2) hx hb dL_law_1096 (by decide) ?_
  refine lv_iadd hx hb dL_law_1097 ?_
  refine lv_topi (fun x_2 ex_2 => ?_)
  obtain rfl : x_2 = 2 := ex_2.trans (by decide)
  refine va_sld hx hb hX hbl hbA hS (z_inC _ (k := 2) (by decide) (by decide)) dL_law_1098 ?_
  refine lv_aload_n hx hb dL_law_1099 rfl (lv_at hl 3 rfl) ?_
  refine lv_iload_n hx hb dL_law_1100 rfl (lv_at hl 0 rfl) ?_
  refine lv_iconst (v := 3) hx hb dL_law_1101 (by decide) ?_
  refine lv_iadd hx hb dL_law_1102 ?_
  refine lv_topi (fun x_3 ex_3 => ?_)
  obtain rfl : x_3 = 3 := ex_3.trans (by decide)
  refine va_sld hx hb hX hbl hbA hS (z_inC _ (k := 3) (by decide) (by decide)) dL_law_1103 ?_
  refine lv_aload_n hx hb dL_law_1104 rfl (lv_at hl 3 rfl) ?_
  refine lv_iload_n hx hb dL_law_1105 rfl (lv_at hl 0 rfl) ?_
  refine lv_iconst (v := 4) hx hb dL_law_1106 (by decide) ?_
  refine lv_iadd hx hb dL_law_1107 ?_
  refine lv_topi (fun x_4 ex_4 => ?_)
  obtain rfl : x_4 = 4 := ex_4.trans (by decide)
  refine va_sld hx hb hX hbl hbA hS (z_inC _ (k := 4) (by decide) (by decide)) dL_law_1108 ?_
  have hPc := hP.sub (ws' := [(h0, .inr (9, [.ref tp, .int 0, .int 0, .int (-1), .ref nw, .ref im, .ref sl, .ref rd, .ref wk, .ref fm, .ref mt, .ref ch, .ref dy])), (nw, .inr (3, [.int 0, .ref tn, .int 0, .int 0, .int 0, .int 0])), (tn, .inr (7, [.int 0, .int 0, .int 0, .int 0, .int 0, .int 0, .int 0, .int 0, .ref ta0, .ref ta1, .ref ta2, .ref ta3, .ref ta4, .ref ta5, .ref ta6, .ref ta7, .ref ta8, .ref ta9]))]) [0, 1, 2] rfl
  have hDc := hD.sub (ws' := [(h0, .inr (9, [.ref tp, .int 0, .int 0, .int (-1), .ref nw, .ref im, .ref sl, .ref rd, .ref wk, .ref fm, .ref mt, .ref ch, .ref dy])), (nw, .inr (3, [.int 0, .ref tn, .int 0, .int 0, .int 0, .int 0])), (tn, .inr (7, [.int 0, .int 0, .int 0, .int 0, .int 0, .int 0, .int 0, .int 0, .ref ta0, .ref ta1, .ref ta2, .ref ta3, .ref ta4, .ref ta5, .ref ta6, .ref ta7, .ref ta8, .ref ta9]))]) [0, 1, 2] (by decide) rfl
  have hKc := hK.sub (tys' := []) [] rfl
  have hFc := va_free (wc := [(h0, .inr (9, [.ref tp, .int 0, .int 0, .int (-1), .ref nw, .ref im, .ref sl, .ref rd, .ref wk, .ref fm, .ref mt, .ref ch, .ref dy])), (nw, .inr (3, [.int 0, .ref tn, .int 0, .int 0, .int 0, .int 0])), (tn, .inr (7, [.int 0, .int 0, .int 0, .int 0, .int 0, .int 0, .int 0, .int 0, .ref ta0, .ref ta1, .ref ta2, .ref ta3, .ref ta4, .ref ta5, .ref ta6, .ref ta7, .ref ta8, .ref ta9]))]) hD hS hA [0, 1, 2] rfl
  refine va_calli (va_runV (As := [.int (xs (Int32.toNatClampNeg 1)), .int (xs (Int32.toNatClampNeg 2)), .int (xs (Int32.toNatClampNeg 3)), .int (xs (Int32.toNatClampNeg 4))]) (rest := []) ⟨hx, hb, hml, hown, hts⟩ (k_X9_out l dC dI h0 (xs (Int32.toNatClampNeg 1)) (xs (Int32.toNatClampNeg 2)) (xs (Int32.toNatClampNeg 3)) (xs (Int32.toNatClampNeg 4)) tp nw im sl rd wk fm mt ch dy tn ta0 ta1 ta2 ta3 ta4 ta5 ta6 ta7 ta8 ta9 H.size) (cwV 4 hts (z_gV zw_t4_185 zw_t4_186 zw_t4_187 zw_t1_1 zw_t4_188) rfl rfl rfl (by decide +kernel) ⟨(Nat.le_of_ble_eq_true rfl), (Nat.le_of_ble_eq_true rfl)⟩) (z_preV hPc hKc hDc (ci := 9) (q0 := 0) rfl rfl) rfl rfl hl.1 rfl (lv_room (Nat.le_of_ble_eq_true rfl)) dL_law_1109 ⟨(Nat.le_of_ble_eq_true rfl), (Nat.le_of_ble_eq_true rfl)⟩) hS (fun q _ h => hFc q h) hFc (fun r_5 u t H1 locs ht hvm hw hB hz1 hk1 hS => ?_)
  have hB : zW dC dI [] [] (va_A [(h0, .inr (9, [.ref tp, .int 0, .int 0, .int (-1), .ref nw, .ref im, .ref sl, .ref rd, .ref wk, .ref fm, .ref mt, .ref ch, .ref dy])), (nw, .inr (3, [.int 0, .ref tn, .int 0, .int 0, .int 0, .int 0])), (tn, .inr (7, [.int 0, .int 0, .int 0, .int 0, .int 0, .int 0, .int 0, .int 0, .ref ta0, .ref ta1, .ref ta2, .ref ta3, .ref ta4, .ref ta5, .ref ta6, .ref ta7, .ref ta8, .ref ta9]))] H.size) t := z_none (va_K.moved hvm hK)
  obtain ⟨hP, hD, hK⟩ := z_after [(m0, .inr (10, [.int 0, .ref m_width, .ref m_many, .ref m_cells, .ref m_moved, .ref m_tape, .int 0, .int 0, .int 0, .int 0, .int 0, .long 0, .int 0, .int 0, .int 0, .int (-1), .ref m_lines, .ref m_hours, .ref m_courts, .ref m_in, .ref m_gates, .ref m_gate, .ref m_people, .ref m_at0, .ref m_stray, .ref m_set, .ref m_once, .ref m_truth, .ref m_known, .ref m_isKept, .int 0, .int (-1), .int 0, .int 0, .ref m_inside, .ref m_can, .ref m_fewest, .ref m_waysTo, .ref m_then, .ref m_two, .ref m_nextTwo, .ref m_three, .ref m_nextThree, .int (-1), .ref m_worth, .ref m_digit, .int 0, .long 0, .int 0, .int 0, .int 0, .int 0, .long 0])), (m_courts, .inl (cm_courts, 5, .inl (fun _ => 0)))] hB ht hvm hP hD hK [0, 1, 2] [3, 4] rfl rfl (by decide) (by decide) hk1 hFc
  generalize H1 = H at hP hS ⊢
  have hP : va_P (dC, dI) vwCl [(m0, .inr (10, [.int 0, .ref m_width, .ref m_many, .ref m_cells, .ref m_moved, .ref m_tape, .int 0, .int 0, .int 0, .int 0, .int 0, .long 0, .int 0, .int 0, .int 0, .int (-1), .ref m_lines, .ref m_hours, .ref m_courts, .ref m_in, .ref m_gates, .ref m_gate, .ref m_people, .ref m_at0, .ref m_stray, .ref m_set, .ref m_once, .ref m_truth, .ref m_known, .ref m_isKept, .int 0, .int (-1), .int 0, .int 0, .ref m_inside, .ref m_can, .ref m_fewest, .ref m_waysTo, .ref m_then, .ref m_two, .ref m_nextTwo, .ref m_three, .ref m_nextThree, .int (-1), .ref m_worth, .ref m_digit, .int 0, .long 0, .int 0, .int 0, .int 0, .int 0, .long 0])), (m_courts, .inl (cm_courts, 5, .inl (fun _ => 0)))] H := hP
  have hD : va_D A [(m0, .inr (10, [.int 0, .ref m_width, .ref m_many, .ref m_cells, .ref m_moved, .ref m_tape, .int 0, .int 0, .int 0, .int 0, .int 0, .long 0, .int 0, .int 0, .int 0, .int (-1), .ref m_lines, .ref m_hours, .ref m_courts, .ref m_in, .ref m_gates, .ref m_gate, .ref m_people, .ref m_at0, .ref m_stray, .ref m_set, .ref m_once, .ref m_truth, .ref m_known, .ref m_isKept, .int 0, .int (-1), .int 0, .int 0, .ref m_inside, .ref m_can, .ref m_fewest, .ref m_waysTo, .ref m_then, .ref m_two, .ref m_nextTwo, .ref m_three, .ref m_nextThree, .int (-1), .ref m_worth, .ref m_digit, .int 0, .long 0, .int 0, .int 0, .int 0, .int 0, .long 0])), (m_courts, .inl (cm_courts, 5, .inl (fun _ => 0)))] := hD
  have hK : va_K (dC, dI) vwCl [(cm_courts, .int)] s := hK
  obtain rfl : r_5 = (-2) := hw
  refine lv_aload_n hx hb dL_law_1112 rfl (lv_at hl 1 rfl) ?_
  refine lv_aload_n hx hb dL_law_1113 rfl (lv_at hl 3 rfl) ?_
  refine lv_iload_n hx hb dL_law_1114 rfl (lv_at hl 0 rfl) ?_
  refine lv_iconst (v := 1) hx hb dL_law_1115 (by decide) ?_
  refine lv_iadd hx hb dL_law_1116 ?_
  refine lv_topi (fun x_6 ex_6 => ?_)
  obtain rfl : x_6 = 1 := ex_6.trans (by decide)
  refine va_sld hx hb hX hbl hbA hS (z_inC _ (k := 1) (by decide) (by decide)) dL_law_1117 ?_
  refine lv_aload_n hx hb dL_law_1118 rfl (lv_at hl 3 rfl) ?_
  refine lv_iload_n hx hb dL_law_1119 rfl (lv_at hl 0 rfl) ?_
  refine lv_iconst (v := 2) hx hb dL_law_1120 (by decide) ?_
  refine lv_iadd hx hb dL_law_1121 ?_
  refine lv_topi (fun x_7 ex_7 => ?_)
  obtain rfl : x_7 = 2 := ex_7.trans (by decide)
  refine va_sld hx hb hX hbl hbA hS (z_inC _ (k := 2) (by decide) (by decide)) dL_law_1122 ?_
  refine lv_aload_n hx hb dL_law_1123 rfl (lv_at hl 3 rfl) ?_
  refine lv_iload_n hx hb dL_law_1124 rfl (lv_at hl 0 rfl) ?_
  refine lv_iconst (v := 3) hx hb dL_law_1125 (by decide) ?_
  refine lv_iadd hx hb dL_law_1126 ?_
  refine lv_topi (fun x_8 ex_8 => ?_)
  obtain rfl : x_8 = 3 := ex_8.trans (by decide)
  refine va_sld hx hb hX hbl hbA hS (z_inC _ (k := 3) (by decide) (by decide)) dL_law_1127 ?_
  refine lv_aload_n hx hb dL_law_1128 rfl (lv_at hl 3 rfl) ?_
  refine lv_iload_n hx hb dL_law_1129 rfl (lv_at hl 0 rfl) ?_
  refine lv_iconst (v := 4) hx hb dL_law_1130 (by decide) ?_
  refine lv_iadd hx hb dL_law_1131 ?_
  refine lv_topi (fun x_9 ex_9 => ?_)
  obtain rfl : x_9 = 4 := ex_9.trans (by decide)
  refine va_sld hx hb hX hbl hbA hS (z_inC _ (k := 4) (by decide) (by decide)) dL_law_1132 ?_
  have hPc := hP.sub (ws' := [(m0, .inr (10, [.int 0, .ref m_width, .ref m_many, .ref m_cells, .ref m_moved, .ref m_tape, .int 0, .int 0, .int 0, .int 0, .int 0, .long 0, .int 0, .int 0, .int 0, .int (-1), .ref m_lines, .ref m_hours, .ref m_courts, .ref m_in, .ref m_gates, .ref m_gate, .ref m_people, .ref m_at0, .ref m_stray, .ref m_set, .ref m_once, .ref m_truth, .ref m_known, .ref m_isKept, .int 0, .int (-1), .int 0, .int 0, .ref m_inside, .ref m_can, .ref m_fewest, .ref m_waysTo, .ref m_then, .ref m_two, .ref m_nextTwo, .ref m_three, .ref m_nextThree, .int (-1), .ref m_worth, .ref m_digit, .int 0, .long 0, .int 0, .int 0, .int 0, .int 0, .long 0])), (m_courts, .inl (cm_courts, 5, .inl (fun _ => 0)))]) [0, 1] rfl
  have hDc := hD.sub (ws' := [(m0, .inr (10, [.int 0, .ref m_width, .ref m_many, .ref m_cells, .ref m_moved, .ref m_tape, .int 0, .int 0, .int 0, .int 0, .int 0, .long 0, .int 0, .int 0, .int 0, .int (-1), .ref m_lines, .ref m_hours, .ref m_courts, .ref m_in, .ref m_gates, .ref m_gate, .ref m_people, .ref m_at0, .ref m_stray, .ref m_set, .ref m_once, .ref m_truth, .ref m_known, .ref m_isKept, .int 0, .int (-1), .int 0, .int 0, .ref m_inside, .ref m_can, .ref m_fewest, .ref m_waysTo, .ref m_then, .ref m_two, .ref m_nextTwo, .ref m_three, .ref m_nextThree, .int (-1), .ref m_worth, .ref m_digit, .int 0, .long 0, .int 0, .int 0, .int 0, .int 0, .long 0])), (m_courts, .inl (cm_courts, 5, .inl (fun _ => 0)))]) [0, 1] (by decide) rfl
  have hKc := hK.sub (tys' := [(cm_courts, .int)]) [0] rfl
  have hFc := va_free (wc := [(m0, .inr (10, [.int 0, .ref m_width, .ref m_many, .ref m_cells, .ref m_moved, .ref m_tape, .int 0, .int 0, .int 0, .int 0, .int 0, .long 0, .int 0, .int 0, .int 0, .int (-1), .ref m_lines, .ref m_hours, .ref m_courts, .ref m_in, .ref m_gates, .ref m_gate, .ref m_people, .ref m_at0, .ref m_stray, .ref m_set, .ref m_once, .ref m_truth, .ref m_known, .ref m_isKept, .int 0, .int (-1), .int 0, .int 0, .ref m_inside, .ref m_can, .ref m_fewest, .ref m_waysTo, .ref m_then, .ref m_two, .ref m_nextTwo, .ref m_three, .ref m_nextThree, .int (-1), .ref m_worth, .ref m_digit, .int 0, .long 0, .int 0, .int 0, .int 0, .int 0, .long 0])), (m_courts, .inl (cm_courts, 5, .inl (fun _ => 0)))]) hD hS hA [0, 1] rfl
  refine va_calli (va_runV (As := [.int (xs (Int32.toNatClampNeg 1)), .int (xs (Int32.toNatClampNeg 2)), .int (xs (Int32.toNatClampNeg 3)), .int (xs (Int32.toNatClampNeg 4))]) (rest := [.int (-2)]) ⟨hx, hb, hml, hown, hts⟩ (k_X10_out l dC dI m0 (xs (Int32.toNatClampNeg 1)) (xs (Int32.toNatClampNeg 2)) (xs (Int32.toNatClampNeg 3)) (xs (Int32.toNatClampNeg 4)) m_width m_many m_cells m_moved m_tape m_lines m_hours m_courts m_in m_gates m_gate m_people m_at0 m_stray m_set m_once m_truth m_known m_isKept m_inside m_can m_fewest m_waysTo m_then m_two m_nextTwo m_three m_nextThree m_worth m_digit cm_courts H.size) (cwV 4 hts (z_gV zw_t8_92 zw_t8_93 zw_t8_94 zw_t1_11 zw_t8_95) rfl rfl rfl (by decide +kernel) ⟨(Nat.le_of_ble_eq_true rfl), (Nat.le_of_ble_eq_true rfl)⟩) (z_preV hPc hKc hDc (ci := 10) (q0 := 0) rfl rfl) rfl rfl hl.1 rfl (lv_room (Nat.le_of_ble_eq_true rfl)) dL_law_1133 ⟨(Nat.le_of_ble_eq_true rfl), (Nat.le_of_ble_eq_true rfl)⟩) hS (fun q _ h => hFc q h) hFc (fun r_10 u t H1 locs ht hvm hw hB hz1 hk1 hS => ?_)
  have hB : zW dC dI [] [] (va_A [(m0, .inr (10, [.int 0, .ref m_width, .ref m_many, .ref m_cells, .ref m_moved, .ref m_tape, .int 0, .int 0, .int 0, .int 0, .int 0, .long 0, .int 0, .int 0, .int 0, .int (-1), .ref m_lines, .ref m_hours, .ref m_courts, .ref m_in, .ref m_gates, .ref m_gate, .ref m_people, .ref m_at0, .ref m_stray, .ref m_set, .ref m_once, .ref m_truth, .ref m_known, .ref m_isKept, .int 0, .int (-1), .int 0, .int 0, .ref m_inside, .ref m_can, .ref m_fewest, .ref m_waysTo, .ref m_then, .ref m_two, .ref m_nextTwo, .ref m_three, .ref m_nextThree, .int (-1), .ref m_worth, .ref m_digit, .int 0, .long 0, .int 0, .int 0, .int 0, .int 0, .long 0])), (m_courts, .inl (cm_courts, 5, .inl (fun _ => 0)))] H.size) t := z_none (va_K.moved hvm hK)
  obtain ⟨hP, hD, hK⟩ := z_after [] hB ht hvm hP hD hK [0, 1] [] rfl rfl (by decide) (by decide) hk1 hFc
  generalize H1 = H at hP hS ⊢
  have hP : va_P (dC, dI) vwCl [] H := hP
  have hD : va_D A [] := hD
  have hK : va_K (dC, dI) vwCl [(cm_courts, .int)] s := hK
  obtain rfl : r_10 = (-2) := hw
  refine lv_icmp_eq (tgt := 2651) hx hb dL_law_1136 (by decide) (fun _ => ?_) (fun q => absurd q (by decide))
  exact law_tail C0 hA2 (Nat.le_of_ble_eq_true rfl) (Nat.le_of_ble_eq_true rfl) hS (lv_sub hl [0, 3] rfl)
set_option maxHeartbeats 4000000 in
set_option maxRecDepth 100000 in
theorem law_alone {p : Program} {e : Env} {s : State} {m : MethodId} {below : List Frame} {meth : Method} {c : Code} {l : Launch} {b : Nat} {xs : Nat → Int32} (C0 : lw_At p s m meth c b 6 xs) {dC : Nat → ClassId} {dI : Nat → Nat → Nat} {A : Nat → Prop} (hA : ∀ q, s.heap.size ≤ q → A q) (hA2 : ∀ q, A q → s.heap.size ≤ q) {h0 : Nat} {tp : Nat} {nw : Nat} {im : Nat} {sl : Nat} {rd : Nat} {wk : Nat} {fm : Nat} {mt : Nat} {ch : Nat} {dy : Nat} {tn : Nat} {ta0 : Nat} {ta1 : Nat} {ta2 : Nat} {ta3 : Nat} {ta4 : Nat} {ta5 : Nat} {ta6 : Nat} {ta7 : Nat} {ta8 : Nat} {ta9 : Nat} {m0 : Nat} {m_width : Nat} {m_many : Nat} {m_cells : Nat} {m_moved : Nat} {m_tape : Nat} {m_lines : Nat} {m_hours : Nat} {m_courts : Nat} {m_in : Nat} {m_gates : Nat} {m_gate : Nat} {m_people : Nat} {m_at0 : Nat} {m_stray : Nat} {m_set : Nat} {m_once : Nat} {m_truth : Nat} {m_known : Nat} {m_isKept : Nat} {m_inside : Nat} {m_can : Nat} {m_fewest : Nat} {m_waysTo : Nat} {m_then : Nat} {m_two : Nat} {m_nextTwo : Nat} {m_three : Nat} {m_nextThree : Nat} {m_worth : Nat} {m_digit : Nat} {cm_courts : ClassId}  {H : Heap} {locs : List Loc} {ls : Array Slot} (hP : va_P (dC, dI) vwCl [(h0, .inr (9, [.ref tp, .int 0, .int 0, .int (-1), .ref nw, .ref im, .ref sl, .ref rd, .ref wk, .ref fm, .ref mt, .ref ch, .ref dy])), (nw, .inr (3, [.int 0, .ref tn, .int 0, .int 0, .int 0, .int 0])), (tn, .inr (7, [.int 0, .int 0, .int 0, .int 0, .int 0, .int 0, .int 0, .int 0, .ref ta0, .ref ta1, .ref ta2, .ref ta3, .ref ta4, .ref ta5, .ref ta6, .ref ta7, .ref ta8, .ref ta9])), (m0, .inr (10, [.int 0, .ref m_width, .ref m_many, .ref m_cells, .ref m_moved, .ref m_tape, .int 0, .int 0, .int 0, .int 0, .int 0, .long 0, .int 0, .int 0, .int 0, .int (-1), .ref m_lines, .ref m_hours, .ref m_courts, .ref m_in, .ref m_gates, .ref m_gate, .ref m_people, .ref m_at0, .ref m_stray, .ref m_set, .ref m_once, .ref m_truth, .ref m_known, .ref m_isKept, .int 0, .int (-1), .int 0, .int 0, .ref m_inside, .ref m_can, .ref m_fewest, .ref m_waysTo, .ref m_then, .ref m_two, .ref m_nextTwo, .ref m_three, .ref m_nextThree, .int (-1), .ref m_worth, .ref m_digit, .int 0, .long 0, .int 0, .int 0, .int 0, .int 0, .long 0])), (m_courts, .inl (cm_courts, 5, .inl (fun _ => 0)))] H) (hD : va_D A [(h0, .inr (9, [.ref tp, .int 0, .int 0, .int (-1), .ref nw, .ref im, .ref sl, .ref rd, .ref wk, .ref fm, .ref mt, .ref ch, .ref dy])), (nw, .inr (3, [.int 0, .ref tn, .int 0, .int 0, .int 0, .int 0])), (tn, .inr (7, [.int 0, .int 0, .int 0, .int 0, .int 0, .int 0, .int 0, .int 0, .ref ta0, .ref ta1, .ref ta2, .ref ta3, .ref ta4, .ref ta5, .ref ta6, .ref ta7, .ref ta8, .ref ta9])), (m0, .inr (10, [.int 0, .ref m_width, .ref m_many, .ref m_cells, .ref m_moved, .ref m_tape, .int 0, .int 0, .int 0, .int 0, .int 0, .long 0, .int 0, .int 0, .int 0, .int (-1), .ref m_lines, .ref m_hours, .ref m_courts, .ref m_in, .ref m_gates, .ref m_gate, .ref m_people, .ref m_at0, .ref m_stray, .ref m_set, .ref m_once, .ref m_truth, .ref m_known, .ref m_isKept, .int 0, .int (-1), .int 0, .int 0, .ref m_inside, .ref m_can, .ref m_fewest, .ref m_waysTo, .ref m_then, .ref m_two, .ref m_nextTwo, .ref m_three, .ref m_nextThree, .int (-1), .ref m_worth, .ref m_digit, .int 0, .long 0, .int 0, .int 0, .int 0, .int 0, .long 0])), (m_courts, .inl (cm_courts, 5, .inl (fun _ => 0)))]) (hK : va_K (dC, dI) vwCl [(cm_courts, .int)] s) (hS : va_S A s.heap H locs) (hl : lv_has ls 4 [(3, .int 0), (2, .ref m0), (1, .ref h0), (0, .ref b)]) : W p l e room_1 s m #[Value.ref b] below meth c H locs 166 101284 (lw_Z below #[Value.ref b] s) (F0 m 1141 ls []) := by
  obtain ⟨hx, hb, hr, hml, hown, hts, hX, hbl, hlocks, hgv⟩ := id C0
  have hown : s.vm.findClass RL = some m.cls := hown
  have hb : c.code = cL_law := hb
  have hts : ∀ w ∈ zT, w.before #[Value.ref b] s = true := fun w h => hts w (zT_in w h)
  have hbA : ¬ A b := fun q => absurd (hA2 b q) (Nat.not_le.mpr hbl)
  refine lv_aload_n hx hb dL_law_1141 rfl (lv_at hl 2 rfl) ?_
  refine lv_aload_n hx hb dL_law_1142 rfl (lv_at hl 3 rfl) ?_
  refine lv_iload_n hx hb dL_law_1143 rfl (lv_at hl 0 rfl) ?_
  refine lv_iconst (v := 1) hx hb dL_law_1144 (by decide) ?_
  refine lv_iadd hx hb dL_law_1145 ?_
  refine lv_topi (fun x_1 ex_1 => ?_)
  obtain rfl : x_1 = 1 := ex_1.trans (by decide)
  refine va_sld hx hb hX hbl hbA hS (z_inC _ (k := 1) (by decide) (by decide)) dL_law_1146 ?_
  refine lv_aload_n hx hb dL_law_1147 rfl (lv_at hl 3 rfl) ?_
  refine lv_iload_n hx hb dL_law_1148 rfl (lv_at hl 0 rfl) ?_
  refine lv_iconst (v := 2) hx hb dL_law_1149 (by decide) ?_
  refine lv_iadd hx hb dL_law_1150 ?_
  refine lv_topi (fun x_2 ex_2 => ?_)
  obtain rfl : x_2 = 2 := ex_2.trans (by decide)
  refine va_sld hx hb hX hbl hbA hS (z_inC _ (k := 2) (by decide) (by decide)) dL_law_1151 ?_
  refine lv_aload_n hx hb dL_law_1152 rfl (lv_at hl 3 rfl) ?_
  refine lv_iload_n hx hb dL_law_1153 rfl (lv_at hl 0 rfl) ?_
  refine lv_iconst (v := 3) hx hb dL_law_1154 (by decide) ?_
  refine lv_iadd hx hb dL_law_1155 ?_
  refine lv_topi (fun x_3 ex_3 => ?_)
  obtain rfl : x_3 = 3 := ex_3.trans (by decide)
  refine va_sld hx hb hX hbl hbA hS (z_inC _ (k := 3) (by decide) (by decide)) dL_law_1156 ?_
  refine lv_aload_n hx hb dL_law_1157 rfl (lv_at hl 3 rfl) ?_
  refine lv_iload_n hx hb dL_law_1158 rfl (lv_at hl 0 rfl) ?_
  refine lv_iconst (v := 4) hx hb dL_law_1159 (by decide) ?_
  refine lv_iadd hx hb dL_law_1160 ?_
  refine lv_topi (fun x_4 ex_4 => ?_)
  obtain rfl : x_4 = 4 := ex_4.trans (by decide)
  refine va_sld hx hb hX hbl hbA hS (z_inC _ (k := 4) (by decide) (by decide)) dL_law_1161 ?_
  have hPc := hP.sub (ws' := [(h0, .inr (9, [.ref tp, .int 0, .int 0, .int (-1), .ref nw, .ref im, .ref sl, .ref rd, .ref wk, .ref fm, .ref mt, .ref ch, .ref dy])), (nw, .inr (3, [.int 0, .ref tn, .int 0, .int 0, .int 0, .int 0])), (tn, .inr (7, [.int 0, .int 0, .int 0, .int 0, .int 0, .int 0, .int 0, .int 0, .ref ta0, .ref ta1, .ref ta2, .ref ta3, .ref ta4, .ref ta5, .ref ta6, .ref ta7, .ref ta8, .ref ta9]))]) [0, 1, 2] rfl
  have hDc := hD.sub (ws' := [(h0, .inr (9, [.ref tp, .int 0, .int 0, .int (-1), .ref nw, .ref im, .ref sl, .ref rd, .ref wk, .ref fm, .ref mt, .ref ch, .ref dy])), (nw, .inr (3, [.int 0, .ref tn, .int 0, .int 0, .int 0, .int 0])), (tn, .inr (7, [.int 0, .int 0, .int 0, .int 0, .int 0, .int 0, .int 0, .int 0, .ref ta0, .ref ta1, .ref ta2, .ref ta3, .ref ta4, .ref ta5, .ref ta6, .ref ta7, .ref ta8, .ref ta9]))]) [0, 1, 2] (by decide) rfl
  have hKc := hK.sub (tys' := []) [] rfl
  have hFc := va_free (wc := [(h0, .inr (9, [.ref tp, .int 0, .int 0, .int (-1), .ref nw, .ref im, .ref sl, .ref rd, .ref wk, .ref fm, .ref mt, .ref ch, .ref dy])), (nw, .inr (3, [.int 0, .ref tn, .int 0, .int 0, .int 0, .int 0])), (tn, .inr (7, [.int 0, .int 0, .int 0, .int 0, .int 0, .int 0, .int 0, .int 0, .ref ta0, .ref ta1, .ref ta2, .ref ta3, .ref ta4, .ref ta5, .ref ta6, .ref ta7, .ref ta8, .ref ta9]))]) hD hS hA [0, 1, 2] rfl
  refine va_calli (va_runV (As := [.int (xs (Int32.toNatClampNeg 1)), .int (xs (Int32.toNatClampNeg 2)), .int (xs (Int32.toNatClampNeg 3)), .int (xs (Int32.toNatClampNeg 4))]) (rest := []) ⟨hx, hb, hml, hown, hts⟩ (k_X9_alone l dC dI h0 (xs (Int32.toNatClampNeg 1)) (xs (Int32.toNatClampNeg 2)) (xs (Int32.toNatClampNeg 3)) (xs (Int32.toNatClampNeg 4)) tp nw im sl rd wk fm mt ch dy tn ta0 ta1 ta2 ta3 ta4 ta5 ta6 ta7 ta8 ta9 H.size) (cwV 4 hts (z_gV zw_t4_193 zw_t4_194 zw_t4_195 zw_t1_1 zw_t4_196) rfl rfl rfl (by decide +kernel) ⟨(Nat.le_of_ble_eq_true rfl), (Nat.le_of_ble_eq_true rfl)⟩) (z_preV hPc hKc hDc (ci := 9) (q0 := 0) rfl rfl) rfl rfl hl.1 rfl (lv_room (Nat.le_of_ble_eq_true rfl)) dL_law_1162 ⟨(Nat.le_of_ble_eq_true rfl), (Nat.le_of_ble_eq_true rfl)⟩) hS (fun q _ h => hFc q h) hFc (fun r_5 u t H1 locs ht hvm hw hB hz1 hk1 hS => ?_)
  have hB : zW dC dI [] [] (va_A [(h0, .inr (9, [.ref tp, .int 0, .int 0, .int (-1), .ref nw, .ref im, .ref sl, .ref rd, .ref wk, .ref fm, .ref mt, .ref ch, .ref dy])), (nw, .inr (3, [.int 0, .ref tn, .int 0, .int 0, .int 0, .int 0])), (tn, .inr (7, [.int 0, .int 0, .int 0, .int 0, .int 0, .int 0, .int 0, .int 0, .ref ta0, .ref ta1, .ref ta2, .ref ta3, .ref ta4, .ref ta5, .ref ta6, .ref ta7, .ref ta8, .ref ta9]))] H.size) t := z_none (va_K.moved hvm hK)
  obtain ⟨hP, hD, hK⟩ := z_after [(m0, .inr (10, [.int 0, .ref m_width, .ref m_many, .ref m_cells, .ref m_moved, .ref m_tape, .int 0, .int 0, .int 0, .int 0, .int 0, .long 0, .int 0, .int 0, .int 0, .int (-1), .ref m_lines, .ref m_hours, .ref m_courts, .ref m_in, .ref m_gates, .ref m_gate, .ref m_people, .ref m_at0, .ref m_stray, .ref m_set, .ref m_once, .ref m_truth, .ref m_known, .ref m_isKept, .int 0, .int (-1), .int 0, .int 0, .ref m_inside, .ref m_can, .ref m_fewest, .ref m_waysTo, .ref m_then, .ref m_two, .ref m_nextTwo, .ref m_three, .ref m_nextThree, .int (-1), .ref m_worth, .ref m_digit, .int 0, .long 0, .int 0, .int 0, .int 0, .int 0, .long 0])), (m_courts, .inl (cm_courts, 5, .inl (fun _ => 0)))] hB ht hvm hP hD hK [0, 1, 2] [3, 4] rfl rfl (by decide) (by decide) hk1 hFc
  generalize H1 = H at hP hS ⊢
  have hP : va_P (dC, dI) vwCl [(m0, .inr (10, [.int 0, .ref m_width, .ref m_many, .ref m_cells, .ref m_moved, .ref m_tape, .int 0, .int 0, .int 0, .int 0, .int 0, .long 0, .int 0, .int 0, .int 0, .int (-1), .ref m_lines, .ref m_hours, .ref m_courts, .ref m_in, .ref m_gates, .ref m_gate, .ref m_people, .ref m_at0, .ref m_stray, .ref m_set, .ref m_once, .ref m_truth, .ref m_known, .ref m_isKept, .int 0, .int (-1), .int 0, .int 0, .ref m_inside, .ref m_can, .ref m_fewest, .ref m_waysTo, .ref m_then, .ref m_two, .ref m_nextTwo, .ref m_three, .ref m_nextThree, .int (-1), .ref m_worth, .ref m_digit, .int 0, .long 0, .int 0, .int 0, .int 0, .int 0, .long 0])), (m_courts, .inl (cm_courts, 5, .inl (fun _ => 0)))] H := hP
  have hD : va_D A [(m0, .inr (10, [.int 0, .ref m_width, .ref m_many, .ref m_cells, .ref m_moved, .ref m_tape, .int 0, .int 0, .int 0, .int 0, .int 0, .long 0, .int 0, .int 0, .int 0, .int (-1), .ref m_lines, .ref m_hours, .ref m_courts, .ref m_in, .ref m_gates, .ref m_gate, .ref m_people, .ref m_at0, .ref m_stray, .ref m_set, .ref m_once, .ref m_truth, .ref m_known, .ref m_isKept, .int 0, .int (-1), .int 0, .int 0, .ref m_inside, .ref m_can, .ref m_fewest, .ref m_waysTo, .ref m_then, .ref m_two, .ref m_nextTwo, .ref m_three, .ref m_nextThree, .int (-1), .ref m_worth, .ref m_digit, .int 0, .long 0, .int 0, .int 0, .int 0, .int 0, .long 0])), (m_courts, .inl (cm_courts, 5, .inl (fun _ => 0)))] := hD
  have hK : va_K (dC, dI) vwCl [(cm_courts, .int)] s := hK
  obtain rfl : r_5 = (-2) := hw
  refine lv_aload_n hx hb dL_law_1165 rfl (lv_at hl 1 rfl) ?_
  refine lv_aload_n hx hb dL_law_1166 rfl (lv_at hl 3 rfl) ?_
  refine lv_iload_n hx hb dL_law_1167 rfl (lv_at hl 0 rfl) ?_
  refine lv_iconst (v := 1) hx hb dL_law_1168 (by decide) ?_
  refine lv_iadd hx hb dL_law_1169 ?_
  refine lv_topi (fun x_6 ex_6 => ?_)
  obtain rfl : x_6 = 1 := ex_6.trans (by decide)
  refine va_sld hx hb hX hbl hbA hS (z_inC _ (k := 1) (by decide) (by decide)) dL_law_1170 ?_
  refine lv_aload_n hx hb dL_law_1171 rfl (lv_at hl 3 rfl) ?_
  refine lv_iload_n hx hb dL_law_1172 rfl (lv_at hl 0 rfl) ?_
  refine lv_iconst (v := 2) hx hb dL_law_1173 (by decide) ?_
  refine lv_iadd hx hb dL_law_1174 ?_
  refine lv_topi (fun x_7 ex_7 => ?_)
  obtain rfl : x_7 = 2 := ex_7.trans (by decide)
  refine va_sld hx hb hX hbl hbA hS (z_inC _ (k := 2) (by decide) (by decide)) dL_law_1175 ?_
  refine lv_aload_n hx hb dL_law_1176 rfl (lv_at hl 3 rfl) ?_
  refine lv_iload_n hx hb dL_law_1177 rfl (lv_at hl 0 rfl) ?_
  refine lv_iconst (v := 3) hx hb dL_law_1178 (by decide) ?_
  refine lv_iadd hx hb dL_law_1179 ?_
  refine lv_topi (fun x_8 ex_8 => ?_)
  obtain rfl : x_8 = 3 := ex_8.trans (by decide)
  refine va_sld hx hb hX hbl hbA hS (z_inC _ (k := 3) (by decide) (by decide)) dL_law_1180 ?_
  refine lv_aload_n hx hb dL_law_1181 rfl (lv_at hl 3 rfl) ?_
  refine lv_iload_n hx hb dL_law_1182 rfl (lv_at hl 0 rfl) ?_
  refine lv_iconst (v := 4) hx hb dL_law_1183 (by decide) ?_
  refine lv_iadd hx hb dL_law_1184 ?_
  refine lv_topi (fun x_9 ex_9 => ?_)
  obtain rfl : x_9 = 4 := ex_9.trans (by decide)
  refine va_sld hx hb hX hbl hbA hS (z_inC _ (k := 4) (by decide) (by decide)) dL_law_1185 ?_
  have hPc := hP.sub (ws' := [(m0, .inr (10, [.int 0, .ref m_width, .ref m_many, .ref m_cells, .ref m_moved, .ref m_tape, .int 0, .int 0, .int 0, .int 0, .int 0, .long 0, .int 0, .int 0, .int 0, .int (-1), .ref m_lines, .ref m_hours, .ref m_courts, .ref m_in, .ref m_gates, .ref m_gate, .ref m_people, .ref m_at0, .ref m_stray, .ref m_set, .ref m_once, .ref m_truth, .ref m_known, .ref m_isKept, .int 0, .int (-1), .int 0, .int 0, .ref m_inside, .ref m_can, .ref m_fewest, .ref m_waysTo, .ref m_then, .ref m_two, .ref m_nextTwo, .ref m_three, .ref m_nextThree, .int (-1), .ref m_worth, .ref m_digit, .int 0, .long 0, .int 0, .int 0, .int 0, .int 0, .long 0])), (m_courts, .inl (cm_courts, 5, .inl (fun _ => 0)))]) [0, 1] rfl
  have hDc := hD.sub (ws' := [(m0, .inr (10, [.int 0, .ref m_width, .ref m_many, .ref m_cells, .ref m_moved, .ref m_tape, .int 0, .int 0, .int 0, .int 0, .int 0, .long 0, .int 0, .int 0, .int 0, .int (-1), .ref m_lines, .ref m_hours, .ref m_courts, .ref m_in, .ref m_gates, .ref m_gate, .ref m_people, .ref m_at0, .ref m_stray, .ref m_set, .ref m_once, .ref m_truth, .ref m_known, .ref m_isKept, .int 0, .int (-1), .int 0, .int 0, .ref m_inside, .ref m_can, .ref m_fewest, .ref m_waysTo, .ref m_then, .ref m_two, .ref m_nextTwo, .ref m_three, .ref m_nextThree, .int (-1), .ref m_worth, .ref m_digit, .int 0, .long 0, .int 0, .int 0, .int 0, .int 0, .long 0])), (m_courts, .inl (cm_courts, 5, .inl (fun _ => 0)))]) [0, 1] (by decide) rfl
  have hKc := hK.sub (tys' := [(cm_courts, .int)]) [0] rfl
  have hFc := va_free (wc := [(m0, .inr (10, [.int 0, .ref m_width, .ref m_many, .ref m_cells, .ref m_moved, .ref m_tape, .int 0, .int 0, .int 0, .int 0, .int 0, .long 0, .int 0, .int 0, .int 0, .int (-1), .ref m_lines, .ref m_hours, .ref m_courts, .ref m_in, .ref m_gates, .ref m_gate, .ref m_people, .ref m_at0, .ref m_stray, .ref m_set, .ref m_once, .ref m_truth, .ref m_known, .ref m_isKept, .int 0, .int (-1), .int 0, .int 0, .ref m_inside, .ref m_can, .ref m_fewest, .ref m_waysTo, .ref m_then, .ref m_two, .ref m_nextTwo, .ref m_three, .ref m_nextThree, .int (-1), .ref m_worth, .ref m_digit, .int 0, .long 0, .int 0, .int 0, .int 0, .int 0, .long 0])), (m_courts, .inl (cm_courts, 5, .inl (fun _ => 0)))]) hD hS hA [0, 1] rfl
  refine va_calli (va_runV (As := [.int (xs (Int32.toNatClampNeg 1)), .int (xs (Int32.toNatClampNeg 2)), .int (xs (Int32.toNatClampNeg 3)), .int (xs (Int32.toNatClampNeg 4))]) (rest := [.int (-2)]) ⟨hx, hb, hml, hown, hts⟩ (k_X10_alone l dC dI m0 (xs (Int32.toNatClampNeg 1)) (xs (Int32.toNatClampNeg 2)) (xs (Int32.toNatClampNeg 3)) (xs (Int32.toNatClampNeg 4)) m_width m_many m_cells m_moved m_tape m_lines m_hours m_courts m_in m_gates m_gate m_people m_at0 m_stray m_set m_once m_truth m_known m_isKept m_inside m_can m_fewest m_waysTo m_then m_two m_nextTwo m_three m_nextThree m_worth m_digit cm_courts H.size) (cwV 4 hts (z_gV zw_t8_96 zw_t8_97 zw_t8_98 zw_t1_11 zw_t8_99) rfl rfl rfl (by decide +kernel) ⟨(Nat.le_of_ble_eq_true rfl), (Nat.le_of_ble_eq_true rfl)⟩) (z_preV hPc hKc hDc (ci := 10) (q0 := 0) rfl rfl) rfl rfl hl.1 rfl (lv_room (Nat.le_of_ble_eq_true rfl)) dL_law_1186 ⟨(Nat.le_of_ble_eq_true rfl), (Nat.le_of_ble_eq_true rfl)⟩) hS (fun q _ h => hFc q h) hFc (fun r_10 u t H1 locs ht hvm hw hB hz1 hk1 hS => ?_)
  have hB : zW dC dI [] [] (va_A [(m0, .inr (10, [.int 0, .ref m_width, .ref m_many, .ref m_cells, .ref m_moved, .ref m_tape, .int 0, .int 0, .int 0, .int 0, .int 0, .long 0, .int 0, .int 0, .int 0, .int (-1), .ref m_lines, .ref m_hours, .ref m_courts, .ref m_in, .ref m_gates, .ref m_gate, .ref m_people, .ref m_at0, .ref m_stray, .ref m_set, .ref m_once, .ref m_truth, .ref m_known, .ref m_isKept, .int 0, .int (-1), .int 0, .int 0, .ref m_inside, .ref m_can, .ref m_fewest, .ref m_waysTo, .ref m_then, .ref m_two, .ref m_nextTwo, .ref m_three, .ref m_nextThree, .int (-1), .ref m_worth, .ref m_digit, .int 0, .long 0, .int 0, .int 0, .int 0, .int 0, .long 0])), (m_courts, .inl (cm_courts, 5, .inl (fun _ => 0)))] H.size) t := z_none (va_K.moved hvm hK)
  obtain ⟨hP, hD, hK⟩ := z_after [] hB ht hvm hP hD hK [0, 1] [] rfl rfl (by decide) (by decide) hk1 hFc
  generalize H1 = H at hP hS ⊢
  have hP : va_P (dC, dI) vwCl [] H := hP
  have hD : va_D A [] := hD
  have hK : va_K (dC, dI) vwCl [(cm_courts, .int)] s := hK
  obtain rfl : r_10 = (-2) := hw
  refine lv_icmp_eq (tgt := 2651) hx hb dL_law_1189 (by decide) (fun _ => ?_) (fun q => absurd q (by decide))
  exact law_tail C0 hA2 (Nat.le_of_ble_eq_true rfl) (Nat.le_of_ble_eq_true rfl) hS (lv_sub hl [0, 3] rfl)
set_option maxHeartbeats 4000000 in
set_option maxRecDepth 100000 in
theorem law_both {p : Program} {e : Env} {s : State} {m : MethodId} {below : List Frame} {meth : Method} {c : Code} {l : Launch} {b : Nat} {xs : Nat → Int32} (C0 : lw_At p s m meth c b 6 xs) {dC : Nat → ClassId} {dI : Nat → Nat → Nat} {A : Nat → Prop} (hA : ∀ q, s.heap.size ≤ q → A q) (hA2 : ∀ q, A q → s.heap.size ≤ q) {h0 : Nat} {tp : Nat} {nw : Nat} {im : Nat} {sl : Nat} {rd : Nat} {wk : Nat} {fm : Nat} {mt : Nat} {ch : Nat} {dy : Nat} {tn : Nat} {ta0 : Nat} {ta1 : Nat} {ta2 : Nat} {ta3 : Nat} {ta4 : Nat} {ta5 : Nat} {ta6 : Nat} {ta7 : Nat} {ta8 : Nat} {ta9 : Nat} {m0 : Nat} {m_width : Nat} {m_many : Nat} {m_cells : Nat} {m_moved : Nat} {m_tape : Nat} {m_lines : Nat} {m_hours : Nat} {m_courts : Nat} {m_in : Nat} {m_gates : Nat} {m_gate : Nat} {m_people : Nat} {m_at0 : Nat} {m_stray : Nat} {m_set : Nat} {m_once : Nat} {m_truth : Nat} {m_known : Nat} {m_isKept : Nat} {m_inside : Nat} {m_can : Nat} {m_fewest : Nat} {m_waysTo : Nat} {m_then : Nat} {m_two : Nat} {m_nextTwo : Nat} {m_three : Nat} {m_nextThree : Nat} {m_worth : Nat} {m_digit : Nat} {cm_courts : ClassId}  {H : Heap} {locs : List Loc} {ls : Array Slot} (hP : va_P (dC, dI) vwCl [(h0, .inr (9, [.ref tp, .int 0, .int 0, .int (-1), .ref nw, .ref im, .ref sl, .ref rd, .ref wk, .ref fm, .ref mt, .ref ch, .ref dy])), (nw, .inr (3, [.int 0, .ref tn, .int 0, .int 0, .int 0, .int 0])), (tn, .inr (7, [.int 0, .int 0, .int 0, .int 0, .int 0, .int 0, .int 0, .int 0, .ref ta0, .ref ta1, .ref ta2, .ref ta3, .ref ta4, .ref ta5, .ref ta6, .ref ta7, .ref ta8, .ref ta9])), (m0, .inr (10, [.int 0, .ref m_width, .ref m_many, .ref m_cells, .ref m_moved, .ref m_tape, .int 0, .int 0, .int 0, .int 0, .int 0, .long 0, .int 0, .int 0, .int 0, .int (-1), .ref m_lines, .ref m_hours, .ref m_courts, .ref m_in, .ref m_gates, .ref m_gate, .ref m_people, .ref m_at0, .ref m_stray, .ref m_set, .ref m_once, .ref m_truth, .ref m_known, .ref m_isKept, .int 0, .int (-1), .int 0, .int 0, .ref m_inside, .ref m_can, .ref m_fewest, .ref m_waysTo, .ref m_then, .ref m_two, .ref m_nextTwo, .ref m_three, .ref m_nextThree, .int (-1), .ref m_worth, .ref m_digit, .int 0, .long 0, .int 0, .int 0, .int 0, .int 0, .long 0])), (m_courts, .inl (cm_courts, 5, .inl (fun _ => 0)))] H) (hD : va_D A [(h0, .inr (9, [.ref tp, .int 0, .int 0, .int (-1), .ref nw, .ref im, .ref sl, .ref rd, .ref wk, .ref fm, .ref mt, .ref ch, .ref dy])), (nw, .inr (3, [.int 0, .ref tn, .int 0, .int 0, .int 0, .int 0])), (tn, .inr (7, [.int 0, .int 0, .int 0, .int 0, .int 0, .int 0, .int 0, .int 0, .ref ta0, .ref ta1, .ref ta2, .ref ta3, .ref ta4, .ref ta5, .ref ta6, .ref ta7, .ref ta8, .ref ta9])), (m0, .inr (10, [.int 0, .ref m_width, .ref m_many, .ref m_cells, .ref m_moved, .ref m_tape, .int 0, .int 0, .int 0, .int 0, .int 0, .long 0, .int 0, .int 0, .int 0, .int (-1), .ref m_lines, .ref m_hours, .ref m_courts, .ref m_in, .ref m_gates, .ref m_gate, .ref m_people, .ref m_at0, .ref m_stray, .ref m_set, .ref m_once, .ref m_truth, .ref m_known, .ref m_isKept, .int 0, .int (-1), .int 0, .int 0, .ref m_inside, .ref m_can, .ref m_fewest, .ref m_waysTo, .ref m_then, .ref m_two, .ref m_nextTwo, .ref m_three, .ref m_nextThree, .int (-1), .ref m_worth, .ref m_digit, .int 0, .long 0, .int 0, .int 0, .int 0, .int 0, .long 0])), (m_courts, .inl (cm_courts, 5, .inl (fun _ => 0)))]) (hK : va_K (dC, dI) vwCl [(cm_courts, .int)] s) (hS : va_S A s.heap H locs) (hl : lv_has ls 4 [(3, .int 0), (2, .ref m0), (1, .ref h0), (0, .ref b)]) : W p l e room_1 s m #[Value.ref b] below meth c H locs 166 101284 (lw_Z below #[Value.ref b] s) (F0 m 1194 ls []) := by
  obtain ⟨hx, hb, hr, hml, hown, hts, hX, hbl, hlocks, hgv⟩ := id C0
  have hown : s.vm.findClass RL = some m.cls := hown
  have hb : c.code = cL_law := hb
  have hts : ∀ w ∈ zT, w.before #[Value.ref b] s = true := fun w h => hts w (zT_in w h)
  have hbA : ¬ A b := fun q => absurd (hA2 b q) (Nat.not_le.mpr hbl)
  refine lv_aload_n hx hb dL_law_1194 rfl (lv_at hl 2 rfl) ?_
  refine lv_aload_n hx hb dL_law_1195 rfl (lv_at hl 3 rfl) ?_
  refine lv_iload_n hx hb dL_law_1196 rfl (lv_at hl 0 rfl) ?_
  refine lv_iconst (v := 1) hx hb dL_law_1197 (by decide) ?_
  refine lv_iadd hx hb dL_law_1198 ?_
  refine lv_topi (fun x_1 ex_1 => ?_)
  obtain rfl : x_1 = 1 := ex_1.trans (by decide)
  refine va_sld hx hb hX hbl hbA hS (z_inC _ (k := 1) (by decide) (by decide)) dL_law_1199 ?_
  refine lv_aload_n hx hb dL_law_1200 rfl (lv_at hl 3 rfl) ?_
  refine lv_iload_n hx hb dL_law_1201 rfl (lv_at hl 0 rfl) ?_
  refine lv_iconst (v := 2) hx hb dL_law_1202 (by decide) ?_
  refine lv_iadd hx hb dL_law_1203 ?_
  refine lv_topi (fun x_2 ex_2 => ?_)
  obtain rfl : x_2 = 2 := ex_2.trans (by decide)
  refine va_sld hx hb hX hbl hbA hS (z_inC _ (k := 2) (by decide) (by decide)) dL_law_1204 ?_
  refine lv_aload_n hx hb dL_law_1205 rfl (lv_at hl 3 rfl) ?_
  refine lv_iload_n hx hb dL_law_1206 rfl (lv_at hl 0 rfl) ?_
  refine lv_iconst (v := 3) hx hb dL_law_1207 (by decide) ?_
  refine lv_iadd hx hb dL_law_1208 ?_
  refine lv_topi (fun x_3 ex_3 => ?_)
  obtain rfl : x_3 = 3 := ex_3.trans (by decide)
  refine va_sld hx hb hX hbl hbA hS (z_inC _ (k := 3) (by decide) (by decide)) dL_law_1209 ?_
  refine lv_aload_n hx hb dL_law_1210 rfl (lv_at hl 3 rfl) ?_
  refine lv_iload_n hx hb dL_law_1211 rfl (lv_at hl 0 rfl) ?_
  refine lv_iconst (v := 4) hx hb dL_law_1212 (by decide) ?_
  refine lv_iadd hx hb dL_law_1213 ?_
  refine lv_topi (fun x_4 ex_4 => ?_)
  obtain rfl : x_4 = 4 := ex_4.trans (by decide)
  refine va_sld hx hb hX hbl hbA hS (z_inC _ (k := 4) (by decide) (by decide)) dL_law_1214 ?_
  have hPc := hP.sub (ws' := [(h0, .inr (9, [.ref tp, .int 0, .int 0, .int (-1), .ref nw, .ref im, .ref sl, .ref rd, .ref wk, .ref fm, .ref mt, .ref ch, .ref dy])), (nw, .inr (3, [.int 0, .ref tn, .int 0, .int 0, .int 0, .int 0])), (tn, .inr (7, [.int 0, .int 0, .int 0, .int 0, .int 0, .int 0, .int 0, .int 0, .ref ta0, .ref ta1, .ref ta2, .ref ta3, .ref ta4, .ref ta5, .ref ta6, .ref ta7, .ref ta8, .ref ta9]))]) [0, 1, 2] rfl
  have hDc := hD.sub (ws' := [(h0, .inr (9, [.ref tp, .int 0, .int 0, .int (-1), .ref nw, .ref im, .ref sl, .ref rd, .ref wk, .ref fm, .ref mt, .ref ch, .ref dy])), (nw, .inr (3, [.int 0, .ref tn, .int 0, .int 0, .int 0, .int 0])), (tn, .inr (7, [.int 0, .int 0, .int 0, .int 0, .int 0, .int 0, .int 0, .int 0, .ref ta0, .ref ta1, .ref ta2, .ref ta3, .ref ta4, .ref ta5, .ref ta6, .ref ta7, .ref ta8, .ref ta9]))]) [0, 1, 2] (by decide) rfl
  have hKc := hK.sub (tys' := []) [] rfl
  have hFc := va_free (wc := [(h0, .inr (9, [.ref tp, .int 0, .int 0, .int (-1), .ref nw, .ref im, .ref sl, .ref rd, .ref wk, .ref fm, .ref mt, .ref ch, .ref dy])), (nw, .inr (3, [.int 0, .ref tn, .int 0, .int 0, .int 0, .int 0])), (tn, .inr (7, [.int 0, .int 0, .int 0, .int 0, .int 0, .int 0, .int 0, .int 0, .ref ta0, .ref ta1, .ref ta2, .ref ta3, .ref ta4, .ref ta5, .ref ta6, .ref ta7, .ref ta8, .ref ta9]))]) hD hS hA [0, 1, 2] rfl
  refine va_calli (va_runV (As := [.int (xs (Int32.toNatClampNeg 1)), .int (xs (Int32.toNatClampNeg 2)), .int (xs (Int32.toNatClampNeg 3)), .int (xs (Int32.toNatClampNeg 4))]) (rest := []) ⟨hx, hb, hml, hown, hts⟩ (k_X9_both l dC dI h0 (xs (Int32.toNatClampNeg 1)) (xs (Int32.toNatClampNeg 2)) (xs (Int32.toNatClampNeg 3)) (xs (Int32.toNatClampNeg 4)) tp nw im sl rd wk fm mt ch dy tn ta0 ta1 ta2 ta3 ta4 ta5 ta6 ta7 ta8 ta9 H.size) (cwV 4 hts (z_gV zw_t4_205 zw_t4_206 zw_t4_207 zw_t1_1 zw_t4_208) rfl rfl rfl (by decide +kernel) ⟨(Nat.le_of_ble_eq_true rfl), (Nat.le_of_ble_eq_true rfl)⟩) (z_preV hPc hKc hDc (ci := 9) (q0 := 0) rfl rfl) rfl rfl hl.1 rfl (lv_room (Nat.le_of_ble_eq_true rfl)) dL_law_1215 ⟨(Nat.le_of_ble_eq_true rfl), (Nat.le_of_ble_eq_true rfl)⟩) hS (fun q _ h => hFc q h) hFc (fun r_5 u t H1 locs ht hvm hw hB hz1 hk1 hS => ?_)
  have hB : zW dC dI [] [] (va_A [(h0, .inr (9, [.ref tp, .int 0, .int 0, .int (-1), .ref nw, .ref im, .ref sl, .ref rd, .ref wk, .ref fm, .ref mt, .ref ch, .ref dy])), (nw, .inr (3, [.int 0, .ref tn, .int 0, .int 0, .int 0, .int 0])), (tn, .inr (7, [.int 0, .int 0, .int 0, .int 0, .int 0, .int 0, .int 0, .int 0, .ref ta0, .ref ta1, .ref ta2, .ref ta3, .ref ta4, .ref ta5, .ref ta6, .ref ta7, .ref ta8, .ref ta9]))] H.size) t := z_none (va_K.moved hvm hK)
  obtain ⟨hP, hD, hK⟩ := z_after [(m0, .inr (10, [.int 0, .ref m_width, .ref m_many, .ref m_cells, .ref m_moved, .ref m_tape, .int 0, .int 0, .int 0, .int 0, .int 0, .long 0, .int 0, .int 0, .int 0, .int (-1), .ref m_lines, .ref m_hours, .ref m_courts, .ref m_in, .ref m_gates, .ref m_gate, .ref m_people, .ref m_at0, .ref m_stray, .ref m_set, .ref m_once, .ref m_truth, .ref m_known, .ref m_isKept, .int 0, .int (-1), .int 0, .int 0, .ref m_inside, .ref m_can, .ref m_fewest, .ref m_waysTo, .ref m_then, .ref m_two, .ref m_nextTwo, .ref m_three, .ref m_nextThree, .int (-1), .ref m_worth, .ref m_digit, .int 0, .long 0, .int 0, .int 0, .int 0, .int 0, .long 0])), (m_courts, .inl (cm_courts, 5, .inl (fun _ => 0)))] hB ht hvm hP hD hK [0, 1, 2] [3, 4] rfl rfl (by decide) (by decide) hk1 hFc
  generalize H1 = H at hP hS ⊢
  have hP : va_P (dC, dI) vwCl [(m0, .inr (10, [.int 0, .ref m_width, .ref m_many, .ref m_cells, .ref m_moved, .ref m_tape, .int 0, .int 0, .int 0, .int 0, .int 0, .long 0, .int 0, .int 0, .int 0, .int (-1), .ref m_lines, .ref m_hours, .ref m_courts, .ref m_in, .ref m_gates, .ref m_gate, .ref m_people, .ref m_at0, .ref m_stray, .ref m_set, .ref m_once, .ref m_truth, .ref m_known, .ref m_isKept, .int 0, .int (-1), .int 0, .int 0, .ref m_inside, .ref m_can, .ref m_fewest, .ref m_waysTo, .ref m_then, .ref m_two, .ref m_nextTwo, .ref m_three, .ref m_nextThree, .int (-1), .ref m_worth, .ref m_digit, .int 0, .long 0, .int 0, .int 0, .int 0, .int 0, .long 0])), (m_courts, .inl (cm_courts, 5, .inl (fun _ => 0)))] H := hP
  have hD : va_D A [(m0, .inr (10, [.int 0, .ref m_width, .ref m_many, .ref m_cells, .ref m_moved, .ref m_tape, .int 0, .int 0, .int 0, .int 0, .int 0, .long 0, .int 0, .int 0, .int 0, .int (-1), .ref m_lines, .ref m_hours, .ref m_courts, .ref m_in, .ref m_gates, .ref m_gate, .ref m_people, .ref m_at0, .ref m_stray, .ref m_set, .ref m_once, .ref m_truth, .ref m_known, .ref m_isKept, .int 0, .int (-1), .int 0, .int 0, .ref m_inside, .ref m_can, .ref m_fewest, .ref m_waysTo, .ref m_then, .ref m_two, .ref m_nextTwo, .ref m_three, .ref m_nextThree, .int (-1), .ref m_worth, .ref m_digit, .int 0, .long 0, .int 0, .int 0, .int 0, .int 0, .long 0])), (m_courts, .inl (cm_courts, 5, .inl (fun _ => 0)))] := hD
  have hK : va_K (dC, dI) vwCl [(cm_courts, .int)] s := hK
  obtain rfl : r_5 = (-2) := hw
  refine lv_aload_n hx hb dL_law_1218 rfl (lv_at hl 1 rfl) ?_
  refine lv_aload_n hx hb dL_law_1219 rfl (lv_at hl 3 rfl) ?_
  refine lv_iload_n hx hb dL_law_1220 rfl (lv_at hl 0 rfl) ?_
  refine lv_iconst (v := 1) hx hb dL_law_1221 (by decide) ?_
  refine lv_iadd hx hb dL_law_1222 ?_
  refine lv_topi (fun x_6 ex_6 => ?_)
  obtain rfl : x_6 = 1 := ex_6.trans (by decide)
  refine va_sld hx hb hX hbl hbA hS (z_inC _ (k := 1) (by decide) (by decide)) dL_law_1223 ?_
  refine lv_aload_n hx hb dL_law_1224 rfl (lv_at hl 3 rfl) ?_
  refine lv_iload_n hx hb dL_law_1225 rfl (lv_at hl 0 rfl) ?_
  refine lv_iconst (v := 2) hx hb dL_law_1226 (by decide) ?_
  refine lv_iadd hx hb dL_law_1227 ?_
  refine lv_topi (fun x_7 ex_7 => ?_)
  obtain rfl : x_7 = 2 := ex_7.trans (by decide)
  refine va_sld hx hb hX hbl hbA hS (z_inC _ (k := 2) (by decide) (by decide)) dL_law_1228 ?_
  refine lv_aload_n hx hb dL_law_1229 rfl (lv_at hl 3 rfl) ?_
  refine lv_iload_n hx hb dL_law_1230 rfl (lv_at hl 0 rfl) ?_
  refine lv_iconst (v := 3) hx hb dL_law_1231 (by decide) ?_
  refine lv_iadd hx hb dL_law_1232 ?_
  refine lv_topi (fun x_8 ex_8 => ?_)
  obtain rfl : x_8 = 3 := ex_8.trans (by decide)
  refine va_sld hx hb hX hbl hbA hS (z_inC _ (k := 3) (by decide) (by decide)) dL_law_1233 ?_
  refine lv_aload_n hx hb dL_law_1234 rfl (lv_at hl 3 rfl) ?_
  refine lv_iload_n hx hb dL_law_1235 rfl (lv_at hl 0 rfl) ?_
  refine lv_iconst (v := 4) hx hb dL_law_1236 (by decide) ?_
  refine lv_iadd hx hb dL_law_1237 ?_
  refine lv_topi (fun x_9 ex_9 => ?_)
  obtain rfl : x_9 = 4 := ex_9.trans (by decide)
  refine va_sld hx hb hX hbl hbA hS (z_inC _ (k := 4) (by decide) (by decide)) dL_law_1238 ?_
  have hPc := hP.sub (ws' := [(m0, .inr (10, [.int 0, .ref m_width, .ref m_many, .ref m_cells, .ref m_moved, .ref m_tape, .int 0, .int 0, .int 0, .int 0, .int 0, .long 0, .int 0, .int 0, .int 0, .int (-1), .ref m_lines, .ref m_hours, .ref m_courts, .ref m_in, .ref m_gates, .ref m_gate, .ref m_people, .ref m_at0, .ref m_stray, .ref m_set, .ref m_once, .ref m_truth, .ref m_known, .ref m_isKept, .int 0, .int (-1), .int 0, .int 0, .ref m_inside, .ref m_can, .ref m_fewest, .ref m_waysTo, .ref m_then, .ref m_two, .ref m_nextTwo, .ref m_three, .ref m_nextThree, .int (-1), .ref m_worth, .ref m_digit, .int 0, .long 0, .int 0, .int 0, .int 0, .int 0, .long 0])), (m_courts, .inl (cm_courts, 5, .inl (fun _ => 0)))]) [0, 1] rfl
  have hDc := hD.sub (ws' := [(m0, .inr (10, [.int 0, .ref m_width, .ref m_many, .ref m_cells, .ref m_moved, .ref m_tape, .int 0, .int 0, .int 0, .int 0, .int 0, .long 0, .int 0, .int 0, .int 0, .int (-1), .ref m_lines, .ref m_hours, .ref m_courts, .ref m_in, .ref m_gates, .ref m_gate, .ref m_people, .ref m_at0, .ref m_stray, .ref m_set, .ref m_once, .ref m_truth, .ref m_known, .ref m_isKept, .int 0, .int (-1), .int 0, .int 0, .ref m_inside, .ref m_can, .ref m_fewest, .ref m_waysTo, .ref m_then, .ref m_two, .ref m_nextTwo, .ref m_three, .ref m_nextThree, .int (-1), .ref m_worth, .ref m_digit, .int 0, .long 0, .int 0, .int 0, .int 0, .int 0, .long 0])), (m_courts, .inl (cm_courts, 5, .inl (fun _ => 0)))]) [0, 1] (by decide) rfl
  have hKc := hK.sub (tys' := [(cm_courts, .int)]) [0] rfl
  have hFc := va_free (wc := [(m0, .inr (10, [.int 0, .ref m_width, .ref m_many, .ref m_cells, .ref m_moved, .ref m_tape, .int 0, .int 0, .int 0, .int 0, .int 0, .long 0, .int 0, .int 0, .int 0, .int (-1), .ref m_lines, .ref m_hours, .ref m_courts, .ref m_in, .ref m_gates, .ref m_gate, .ref m_people, .ref m_at0, .ref m_stray, .ref m_set, .ref m_once, .ref m_truth, .ref m_known, .ref m_isKept, .int 0, .int (-1), .int 0, .int 0, .ref m_inside, .ref m_can, .ref m_fewest, .ref m_waysTo, .ref m_then, .ref m_two, .ref m_nextTwo, .ref m_three, .ref m_nextThree, .int (-1), .ref m_worth, .ref m_digit, .int 0, .long 0, .int 0, .int 0, .int 0, .int 0, .long 0])), (m_courts, .inl (cm_courts, 5, .inl (fun _ => 0)))]) hD hS hA [0, 1] rfl
  refine va_calli (va_runV (As := [.int (xs (Int32.toNatClampNeg 1)), .int (xs (Int32.toNatClampNeg 2)), .int (xs (Int32.toNatClampNeg 3)), .int (xs (Int32.toNatClampNeg 4))]) (rest := [.int (-2)]) ⟨hx, hb, hml, hown, hts⟩ (k_X10_both l dC dI m0 (xs (Int32.toNatClampNeg 1)) (xs (Int32.toNatClampNeg 2)) (xs (Int32.toNatClampNeg 3)) (xs (Int32.toNatClampNeg 4)) m_width m_many m_cells m_moved m_tape m_lines m_hours m_courts m_in m_gates m_gate m_people m_at0 m_stray m_set m_once m_truth m_known m_isKept m_inside m_can m_fewest m_waysTo m_then m_two m_nextTwo m_three m_nextThree m_worth m_digit cm_courts H.size) (cwV 4 hts (z_gV zw_t8_100 zw_t8_101 zw_t8_102 zw_t1_11 zw_t8_103) rfl rfl rfl (by decide +kernel) ⟨(Nat.le_of_ble_eq_true rfl), (Nat.le_of_ble_eq_true rfl)⟩) (z_preV hPc hKc hDc (ci := 10) (q0 := 0) rfl rfl) rfl rfl hl.1 rfl (lv_room (Nat.le_of_ble_eq_true rfl)) dL_law_1239 ⟨(Nat.le_of_ble_eq_true rfl), (Nat.le_of_ble_eq_true rfl)⟩) hS (fun q _ h => hFc q h) hFc (fun r_10 u t H1 locs ht hvm hw hB hz1 hk1 hS => ?_)
  have hB : zW dC dI [] [] (va_A [(m0, .inr (10, [.int 0, .ref m_width, .ref m_many, .ref m_cells, .ref m_moved, .ref m_tape, .int 0, .int 0, .int 0, .int 0, .int 0, .long 0, .int 0, .int 0, .int 0, .int (-1), .ref m_lines, .ref m_hours, .ref m_courts, .ref m_in, .ref m_gates, .ref m_gate, .ref m_people, .ref m_at0, .ref m_stray, .ref m_set, .ref m_once, .ref m_truth, .ref m_known, .ref m_isKept, .int 0, .int (-1), .int 0, .int 0, .ref m_inside, .ref m_can, .ref m_fewest, .ref m_waysTo, .ref m_then, .ref m_two, .ref m_nextTwo, .ref m_three, .ref m_nextThree, .int (-1), .ref m_worth, .ref m_digit, .int 0, .long 0, .int 0, .int 0, .int 0, .int 0, .long 0])), (m_courts, .inl (cm_courts, 5, .inl (fun _ => 0)))] H.size) t := z_none (va_K.moved hvm hK)
  obtain ⟨hP, hD, hK⟩ := z_after [] hB ht hvm hP hD hK [0, 1] [] rfl rfl (by decide) (by decide) hk1 hFc
  generalize H1 = H at hP hS ⊢
  have hP : va_P (dC, dI) vwCl [] H := hP
  have hD : va_D A [] := hD
  have hK : va_K (dC, dI) vwCl [(cm_courts, .int)] s := hK
  obtain rfl : r_10 = (-2) := hw
  refine lv_icmp_eq (tgt := 2651) hx hb dL_law_1242 (by decide) (fun _ => ?_) (fun q => absurd q (by decide))
  exact law_tail C0 hA2 (Nat.le_of_ble_eq_true rfl) (Nat.le_of_ble_eq_true rfl) hS (lv_sub hl [0, 3] rfl)
set_option maxHeartbeats 4000000 in
set_option maxRecDepth 100000 in
theorem law_friend {p : Program} {e : Env} {s : State} {m : MethodId} {below : List Frame} {meth : Method} {c : Code} {l : Launch} {b : Nat} {xs : Nat → Int32} (C0 : lw_At p s m meth c b 6 xs) {dC : Nat → ClassId} {dI : Nat → Nat → Nat} {A : Nat → Prop} (hA : ∀ q, s.heap.size ≤ q → A q) (hA2 : ∀ q, A q → s.heap.size ≤ q) {h0 : Nat} {tp : Nat} {nw : Nat} {im : Nat} {sl : Nat} {rd : Nat} {wk : Nat} {fm : Nat} {mt : Nat} {ch : Nat} {dy : Nat} {tn : Nat} {ta0 : Nat} {ta1 : Nat} {ta2 : Nat} {ta3 : Nat} {ta4 : Nat} {ta5 : Nat} {ta6 : Nat} {ta7 : Nat} {ta8 : Nat} {ta9 : Nat} {m0 : Nat} {m_width : Nat} {m_many : Nat} {m_cells : Nat} {m_moved : Nat} {m_tape : Nat} {m_lines : Nat} {m_hours : Nat} {m_courts : Nat} {m_in : Nat} {m_gates : Nat} {m_gate : Nat} {m_people : Nat} {m_at0 : Nat} {m_stray : Nat} {m_set : Nat} {m_once : Nat} {m_truth : Nat} {m_known : Nat} {m_isKept : Nat} {m_inside : Nat} {m_can : Nat} {m_fewest : Nat} {m_waysTo : Nat} {m_then : Nat} {m_two : Nat} {m_nextTwo : Nat} {m_three : Nat} {m_nextThree : Nat} {m_worth : Nat} {m_digit : Nat} {cm_courts : ClassId}  {H : Heap} {locs : List Loc} {ls : Array Slot} (hP : va_P (dC, dI) vwCl [(h0, .inr (9, [.ref tp, .int 0, .int 0, .int (-1), .ref nw, .ref im, .ref sl, .ref rd, .ref wk, .ref fm, .ref mt, .ref ch, .ref dy])), (nw, .inr (3, [.int 0, .ref tn, .int 0, .int 0, .int 0, .int 0])), (tn, .inr (7, [.int 0, .int 0, .int 0, .int 0, .int 0, .int 0, .int 0, .int 0, .ref ta0, .ref ta1, .ref ta2, .ref ta3, .ref ta4, .ref ta5, .ref ta6, .ref ta7, .ref ta8, .ref ta9])), (m0, .inr (10, [.int 0, .ref m_width, .ref m_many, .ref m_cells, .ref m_moved, .ref m_tape, .int 0, .int 0, .int 0, .int 0, .int 0, .long 0, .int 0, .int 0, .int 0, .int (-1), .ref m_lines, .ref m_hours, .ref m_courts, .ref m_in, .ref m_gates, .ref m_gate, .ref m_people, .ref m_at0, .ref m_stray, .ref m_set, .ref m_once, .ref m_truth, .ref m_known, .ref m_isKept, .int 0, .int (-1), .int 0, .int 0, .ref m_inside, .ref m_can, .ref m_fewest, .ref m_waysTo, .ref m_then, .ref m_two, .ref m_nextTwo, .ref m_three, .ref m_nextThree, .int (-1), .ref m_worth, .ref m_digit, .int 0, .long 0, .int 0, .int 0, .int 0, .int 0, .long 0])), (m_courts, .inl (cm_courts, 5, .inl (fun _ => 0)))] H) (hD : va_D A [(h0, .inr (9, [.ref tp, .int 0, .int 0, .int (-1), .ref nw, .ref im, .ref sl, .ref rd, .ref wk, .ref fm, .ref mt, .ref ch, .ref dy])), (nw, .inr (3, [.int 0, .ref tn, .int 0, .int 0, .int 0, .int 0])), (tn, .inr (7, [.int 0, .int 0, .int 0, .int 0, .int 0, .int 0, .int 0, .int 0, .ref ta0, .ref ta1, .ref ta2, .ref ta3, .ref ta4, .ref ta5, .ref ta6, .ref ta7, .ref ta8, .ref ta9])), (m0, .inr (10, [.int 0, .ref m_width, .ref m_many, .ref m_cells, .ref m_moved, .ref m_tape, .int 0, .int 0, .int 0, .int 0, .int 0, .long 0, .int 0, .int 0, .int 0, .int (-1), .ref m_lines, .ref m_hours, .ref m_courts, .ref m_in, .ref m_gates, .ref m_gate, .ref m_people, .ref m_at0, .ref m_stray, .ref m_set, .ref m_once, .ref m_truth, .ref m_known, .ref m_isKept, .int 0, .int (-1), .int 0, .int 0, .ref m_inside, .ref m_can, .ref m_fewest, .ref m_waysTo, .ref m_then, .ref m_two, .ref m_nextTwo, .ref m_three, .ref m_nextThree, .int (-1), .ref m_worth, .ref m_digit, .int 0, .long 0, .int 0, .int 0, .int 0, .int 0, .long 0])), (m_courts, .inl (cm_courts, 5, .inl (fun _ => 0)))]) (hK : va_K (dC, dI) vwCl [(cm_courts, .int)] s) (hS : va_S A s.heap H locs) (hl : lv_has ls 4 [(3, .int 0), (2, .ref m0), (1, .ref h0), (0, .ref b)]) : W p l e room_1 s m #[Value.ref b] below meth c H locs 166 101284 (lw_Z below #[Value.ref b] s) (F0 m 1247 ls []) := by
  obtain ⟨hx, hb, hr, hml, hown, hts, hX, hbl, hlocks, hgv⟩ := id C0
  have hown : s.vm.findClass RL = some m.cls := hown
  have hb : c.code = cL_law := hb
  have hts : ∀ w ∈ zT, w.before #[Value.ref b] s = true := fun w h => hts w (zT_in w h)
  have hbA : ¬ A b := fun q => absurd (hA2 b q) (Nat.not_le.mpr hbl)
  refine lv_aload_n hx hb dL_law_1247 rfl (lv_at hl 2 rfl) ?_
  refine lv_aload_n hx hb dL_law_1248 rfl (lv_at hl 3 rfl) ?_
  refine lv_iload_n hx hb dL_law_1249 rfl (lv_at hl 0 rfl) ?_
  refine lv_iconst (v := 1) hx hb dL_law_1250 (by decide) ?_
  refine lv_iadd hx hb dL_law_1251 ?_
  refine lv_topi (fun x_1 ex_1 => ?_)
  obtain rfl : x_1 = 1 := ex_1.trans (by decide)
  refine va_sld hx hb hX hbl hbA hS (z_inC _ (k := 1) (by decide) (by decide)) dL_law_1252 ?_
  refine lv_aload_n hx hb dL_law_1253 rfl (lv_at hl 3 rfl) ?_
  refine lv_iload_n hx hb dL_law_1254 rfl (lv_at hl 0 rfl) ?_
  refine lv_iconst (v := 2) hx hb dL_law_1255 (by decide) ?_
  refine lv_iadd hx hb dL_law_1256 ?_
  refine lv_topi (fun x_2 ex_2 => ?_)
  obtain rfl : x_2 = 2 := ex_2.trans (by decide)
  refine va_sld hx hb hX hbl hbA hS (z_inC _ (k := 2) (by decide) (by decide)) dL_law_1257 ?_
  refine lv_aload_n hx hb dL_law_1258 rfl (lv_at hl 3 rfl) ?_
  refine lv_iload_n hx hb dL_law_1259 rfl (lv_at hl 0 rfl) ?_
  refine lv_iconst (v := 3) hx hb dL_law_1260 (by decide) ?_
  refine lv_iadd hx hb dL_law_1261 ?_
  refine lv_topi (fun x_3 ex_3 => ?_)
  obtain rfl : x_3 = 3 := ex_3.trans (by decide)
  refine va_sld hx hb hX hbl hbA hS (z_inC _ (k := 3) (by decide) (by decide)) dL_law_1262 ?_
  refine lv_aload_n hx hb dL_law_1263 rfl (lv_at hl 3 rfl) ?_
  refine lv_iload_n hx hb dL_law_1264 rfl (lv_at hl 0 rfl) ?_
  refine lv_iconst (v := 4) hx hb dL_law_1265 (by decide) ?_
  refine lv_iadd hx hb dL_law_1266 ?_
  refine lv_topi (fun x_4 ex_4 => ?_)
  obtain rfl : x_4 = 4 := ex_4.trans (by decide)
  refine va_sld hx hb hX hbl hbA hS (z_inC _ (k := 4) (by decide) (by decide)) dL_law_1267 ?_
  have hPc := hP.sub (ws' := [(h0, .inr (9, [.ref tp, .int 0, .int 0, .int (-1), .ref nw, .ref im, .ref sl, .ref rd, .ref wk, .ref fm, .ref mt, .ref ch, .ref dy])), (nw, .inr (3, [.int 0, .ref tn, .int 0, .int 0, .int 0, .int 0])), (tn, .inr (7, [.int 0, .int 0, .int 0, .int 0, .int 0, .int 0, .int 0, .int 0, .ref ta0, .ref ta1, .ref ta2, .ref ta3, .ref ta4, .ref ta5, .ref ta6, .ref ta7, .ref ta8, .ref ta9]))]) [0, 1, 2] rfl
  have hDc := hD.sub (ws' := [(h0, .inr (9, [.ref tp, .int 0, .int 0, .int (-1), .ref nw, .ref im, .ref sl, .ref rd, .ref wk, .ref fm, .ref mt, .ref ch, .ref dy])), (nw, .inr (3, [.int 0, .ref tn, .int 0, .int 0, .int 0, .int 0])), (tn, .inr (7, [.int 0, .int 0, .int 0, .int 0, .int 0, .int 0, .int 0, .int 0, .ref ta0, .ref ta1, .ref ta2, .ref ta3, .ref ta4, .ref ta5, .ref ta6, .ref ta7, .ref ta8, .ref ta9]))]) [0, 1, 2] (by decide) rfl
  have hKc := hK.sub (tys' := []) [] rfl
  have hFc := va_free (wc := [(h0, .inr (9, [.ref tp, .int 0, .int 0, .int (-1), .ref nw, .ref im, .ref sl, .ref rd, .ref wk, .ref fm, .ref mt, .ref ch, .ref dy])), (nw, .inr (3, [.int 0, .ref tn, .int 0, .int 0, .int 0, .int 0])), (tn, .inr (7, [.int 0, .int 0, .int 0, .int 0, .int 0, .int 0, .int 0, .int 0, .ref ta0, .ref ta1, .ref ta2, .ref ta3, .ref ta4, .ref ta5, .ref ta6, .ref ta7, .ref ta8, .ref ta9]))]) hD hS hA [0, 1, 2] rfl
  refine va_calli (va_runV (As := [.int (xs (Int32.toNatClampNeg 1)), .int (xs (Int32.toNatClampNeg 2)), .int (xs (Int32.toNatClampNeg 3)), .int (xs (Int32.toNatClampNeg 4))]) (rest := []) ⟨hx, hb, hml, hown, hts⟩ (k_X9_friend l dC dI h0 (xs (Int32.toNatClampNeg 1)) (xs (Int32.toNatClampNeg 2)) (xs (Int32.toNatClampNeg 3)) (xs (Int32.toNatClampNeg 4)) tp nw im sl rd wk fm mt ch dy tn ta0 ta1 ta2 ta3 ta4 ta5 ta6 ta7 ta8 ta9 H.size) (cwV 4 hts (z_gV zw_t4_228 zw_t4_229 zw_t4_230 zw_t1_1 zw_t4_231) rfl rfl rfl (by decide +kernel) ⟨(Nat.le_of_ble_eq_true rfl), (Nat.le_of_ble_eq_true rfl)⟩) (z_preV hPc hKc hDc (ci := 9) (q0 := 0) rfl rfl) rfl rfl hl.1 rfl (lv_room (Nat.le_of_ble_eq_true rfl)) dL_law_1268 ⟨(Nat.le_of_ble_eq_true rfl), (Nat.le_of_ble_eq_true rfl)⟩) hS (fun q _ h => hFc q h) hFc (fun r_5 u t H1 locs ht hvm hw hB hz1 hk1 hS => ?_)
  have hB : zW dC dI [] [] (va_A [(h0, .inr (9, [.ref tp, .int 0, .int 0, .int (-1), .ref nw, .ref im, .ref sl, .ref rd, .ref wk, .ref fm, .ref mt, .ref ch, .ref dy])), (nw, .inr (3, [.int 0, .ref tn, .int 0, .int 0, .int 0, .int 0])), (tn, .inr (7, [.int 0, .int 0, .int 0, .int 0, .int 0, .int 0, .int 0, .int 0, .ref ta0, .ref ta1, .ref ta2, .ref ta3, .ref ta4, .ref ta5, .ref ta6, .ref ta7, .ref ta8, .ref ta9]))] H.size) t := z_none (va_K.moved hvm hK)
  obtain ⟨hP, hD, hK⟩ := z_after [(m0, .inr (10, [.int 0, .ref m_width, .ref m_many, .ref m_cells, .ref m_moved, .ref m_tape, .int 0, .int 0, .int 0, .int 0, .int 0, .long 0, .int 0, .int 0, .int 0, .int (-1), .ref m_lines, .ref m_hours, .ref m_courts, .ref m_in, .ref m_gates, .ref m_gate, .ref m_people, .ref m_at0, .ref m_stray, .ref m_set, .ref m_once, .ref m_truth, .ref m_known, .ref m_isKept, .int 0, .int (-1), .int 0, .int 0, .ref m_inside, .ref m_can, .ref m_fewest, .ref m_waysTo, .ref m_then, .ref m_two, .ref m_nextTwo, .ref m_three, .ref m_nextThree, .int (-1), .ref m_worth, .ref m_digit, .int 0, .long 0, .int 0, .int 0, .int 0, .int 0, .long 0])), (m_courts, .inl (cm_courts, 5, .inl (fun _ => 0)))] hB ht hvm hP hD hK [0, 1, 2] [3, 4] rfl rfl (by decide) (by decide) hk1 hFc
  generalize H1 = H at hP hS ⊢
  have hP : va_P (dC, dI) vwCl [(m0, .inr (10, [.int 0, .ref m_width, .ref m_many, .ref m_cells, .ref m_moved, .ref m_tape, .int 0, .int 0, .int 0, .int 0, .int 0, .long 0, .int 0, .int 0, .int 0, .int (-1), .ref m_lines, .ref m_hours, .ref m_courts, .ref m_in, .ref m_gates, .ref m_gate, .ref m_people, .ref m_at0, .ref m_stray, .ref m_set, .ref m_once, .ref m_truth, .ref m_known, .ref m_isKept, .int 0, .int (-1), .int 0, .int 0, .ref m_inside, .ref m_can, .ref m_fewest, .ref m_waysTo, .ref m_then, .ref m_two, .ref m_nextTwo, .ref m_three, .ref m_nextThree, .int (-1), .ref m_worth, .ref m_digit, .int 0, .long 0, .int 0, .int 0, .int 0, .int 0, .long 0])), (m_courts, .inl (cm_courts, 5, .inl (fun _ => 0)))] H := hP
  have hD : va_D A [(m0, .inr (10, [.int 0, .ref m_width, .ref m_many, .ref m_cells, .ref m_moved, .ref m_tape, .int 0, .int 0, .int 0, .int 0, .int 0, .long 0, .int 0, .int 0, .int 0, .int (-1), .ref m_lines, .ref m_hours, .ref m_courts, .ref m_in, .ref m_gates, .ref m_gate, .ref m_people, .ref m_at0, .ref m_stray, .ref m_set, .ref m_once, .ref m_truth, .ref m_known, .ref m_isKept, .int 0, .int (-1), .int 0, .int 0, .ref m_inside, .ref m_can, .ref m_fewest, .ref m_waysTo, .ref m_then, .ref m_two, .ref m_nextTwo, .ref m_three, .ref m_nextThree, .int (-1), .ref m_worth, .ref m_digit, .int 0, .long 0, .int 0, .int 0, .int 0, .int 0, .long 0])), (m_courts, .inl (cm_courts, 5, .inl (fun _ => 0)))] := hD
  have hK : va_K (dC, dI) vwCl [(cm_courts, .int)] s := hK
  obtain rfl : r_5 = (-2) := hw
  refine lv_aload_n hx hb dL_law_1271 rfl (lv_at hl 1 rfl) ?_
  refine lv_aload_n hx hb dL_law_1272 rfl (lv_at hl 3 rfl) ?_
  refine lv_iload_n hx hb dL_law_1273 rfl (lv_at hl 0 rfl) ?_
  refine lv_iconst (v := 1) hx hb dL_law_1274 (by decide) ?_
  refine lv_iadd hx hb dL_law_1275 ?_
  refine lv_topi (fun x_6 ex_6 => ?_)
  obtain rfl : x_6 = 1 := ex_6.trans (by decide)
  refine va_sld hx hb hX hbl hbA hS (z_inC _ (k := 1) (by decide) (by decide)) dL_law_1276 ?_
  refine lv_aload_n hx hb dL_law_1277 rfl (lv_at hl 3 rfl) ?_
  refine lv_iload_n hx hb dL_law_1278 rfl (lv_at hl 0 rfl) ?_
  refine lv_iconst (v := 2) hx hb dL_law_1279 (by decide) ?_
  refine lv_iadd hx hb dL_law_1280 ?_
  refine lv_topi (fun x_7 ex_7 => ?_)
  obtain rfl : x_7 = 2 := ex_7.trans (by decide)
  refine va_sld hx hb hX hbl hbA hS (z_inC _ (k := 2) (by decide) (by decide)) dL_law_1281 ?_
  refine lv_aload_n hx hb dL_law_1282 rfl (lv_at hl 3 rfl) ?_
  refine lv_iload_n hx hb dL_law_1283 rfl (lv_at hl 0 rfl) ?_
  refine lv_iconst (v := 3) hx hb dL_law_1284 (by decide) ?_
  refine lv_iadd hx hb dL_law_1285 ?_
  refine lv_topi (fun x_8 ex_8 => ?_)
  obtain rfl : x_8 = 3 := ex_8.trans (by decide)
  refine va_sld hx hb hX hbl hbA hS (z_inC _ (k := 3) (by decide) (by decide)) dL_law_1286 ?_
  refine lv_aload_n hx hb dL_law_1287 rfl (lv_at hl 3 rfl) ?_
  refine lv_iload_n hx hb dL_law_1288 rfl (lv_at hl 0 rfl) ?_
  refine lv_iconst (v := 4) hx hb dL_law_1289 (by decide) ?_
  refine lv_iadd hx hb dL_law_1290 ?_
  refine lv_topi (fun x_9 ex_9 => ?_)
  obtain rfl : x_9 = 4 := ex_9.trans (by decide)
  refine va_sld hx hb hX hbl hbA hS (z_inC _ (k := 4) (by decide) (by decide)) dL_law_1291 ?_
  have hPc := hP.sub (ws' := [(m0, .inr (10, [.int 0, .ref m_width, .ref m_many, .ref m_cells, .ref m_moved, .ref m_tape, .int 0, .int 0, .int 0, .int 0, .int 0, .long 0, .int 0, .int 0, .int 0, .int (-1), .ref m_lines, .ref m_hours, .ref m_courts, .ref m_in, .ref m_gates, .ref m_gate, .ref m_people, .ref m_at0, .ref m_stray, .ref m_set, .ref m_once, .ref m_truth, .ref m_known, .ref m_isKept, .int 0, .int (-1), .int 0, .int 0, .ref m_inside, .ref m_can, .ref m_fewest, .ref m_waysTo, .ref m_then, .ref m_two, .ref m_nextTwo, .ref m_three, .ref m_nextThree, .int (-1), .ref m_worth, .ref m_digit, .int 0, .long 0, .int 0, .int 0, .int 0, .int 0, .long 0])), (m_courts, .inl (cm_courts, 5, .inl (fun _ => 0)))]) [0, 1] rfl
  have hDc := hD.sub (ws' := [(m0, .inr (10, [.int 0, .ref m_width, .ref m_many, .ref m_cells, .ref m_moved, .ref m_tape, .int 0, .int 0, .int 0, .int 0, .int 0, .long 0, .int 0, .int 0, .int 0, .int (-1), .ref m_lines, .ref m_hours, .ref m_courts, .ref m_in, .ref m_gates, .ref m_gate, .ref m_people, .ref m_at0, .ref m_stray, .ref m_set, .ref m_once, .ref m_truth, .ref m_known, .ref m_isKept, .int 0, .int (-1), .int 0, .int 0, .ref m_inside, .ref m_can, .ref m_fewest, .ref m_waysTo, .ref m_then, .ref m_two, .ref m_nextTwo, .ref m_three, .ref m_nextThree, .int (-1), .ref m_worth, .ref m_digit, .int 0, .long 0, .int 0, .int 0, .int 0, .int 0, .long 0])), (m_courts, .inl (cm_courts, 5, .inl (fun _ => 0)))]) [0, 1] (by decide) rfl
  have hKc := hK.sub (tys' := [(cm_courts, .int)]) [0] rfl
  have hFc := va_free (wc := [(m0, .inr (10, [.int 0, .ref m_width, .ref m_many, .ref m_cells, .ref m_moved, .ref m_tape, .int 0, .int 0, .int 0, .int 0, .int 0, .long 0, .int 0, .int 0, .int 0, .int (-1), .ref m_lines, .ref m_hours, .ref m_courts, .ref m_in, .ref m_gates, .ref m_gate, .ref m_people, .ref m_at0, .ref m_stray, .ref m_set, .ref m_once, .ref m_truth, .ref m_known, .ref m_isKept, .int 0, .int (-1), .int 0, .int 0, .ref m_inside, .ref m_can, .ref m_fewest, .ref m_waysTo, .ref m_then, .ref m_two, .ref m_nextTwo, .ref m_three, .ref m_nextThree, .int (-1), .ref m_worth, .ref m_digit, .int 0, .long 0, .int 0, .int 0, .int 0, .int 0, .long 0])), (m_courts, .inl (cm_courts, 5, .inl (fun _ => 0)))]) hD hS hA [0, 1] rfl
  refine va_calli (va_runV (As := [.int (xs (Int32.toNatClampNeg 1)), .int (xs (Int32.toNatClampNeg 2)), .int (xs (Int32.toNatClampNeg 3)), .int (xs (Int32.toNatClampNeg 4))]) (rest := [.int (-2)]) ⟨hx, hb, hml, hown, hts⟩ (k_X10_friend l dC dI m0 (xs (Int32.toNatClampNeg 1)) (xs (Int32.toNatClampNeg 2)) (xs (Int32.toNatClampNeg 3)) (xs (Int32.toNatClampNeg 4)) m_width m_many m_cells m_moved m_tape m_lines m_hours m_courts m_in m_gates m_gate m_people m_at0 m_stray m_set m_once m_truth m_known m_isKept m_inside m_can m_fewest m_waysTo m_then m_two m_nextTwo m_three m_nextThree m_worth m_digit cm_courts H.size) (cwV 4 hts (z_gV zw_t8_112 zw_t8_113 zw_t8_114 zw_t1_11 zw_t8_115) rfl rfl rfl (by decide +kernel) ⟨(Nat.le_of_ble_eq_true rfl), (Nat.le_of_ble_eq_true rfl)⟩) (z_preV hPc hKc hDc (ci := 10) (q0 := 0) rfl rfl) rfl rfl hl.1 rfl (lv_room (Nat.le_of_ble_eq_true rfl)) dL_law_1292 ⟨(Nat.le_of_ble_eq_true rfl), (Nat.le_of_ble_eq_true rfl)⟩) hS (fun q _ h => hFc q h) hFc (fun r_10 u t H1 locs ht hvm hw hB hz1 hk1 hS => ?_)
  have hB : zW dC dI [] [] (va_A [(m0, .inr (10, [.int 0, .ref m_width, .ref m_many, .ref m_cells, .ref m_moved, .ref m_tape, .int 0, .int 0, .int 0, .int 0, .int 0, .long 0, .int 0, .int 0, .int 0, .int (-1), .ref m_lines, .ref m_hours, .ref m_courts, .ref m_in, .ref m_gates, .ref m_gate, .ref m_people, .ref m_at0, .ref m_stray, .ref m_set, .ref m_once, .ref m_truth, .ref m_known, .ref m_isKept, .int 0, .int (-1), .int 0, .int 0, .ref m_inside, .ref m_can, .ref m_fewest, .ref m_waysTo, .ref m_then, .ref m_two, .ref m_nextTwo, .ref m_three, .ref m_nextThree, .int (-1), .ref m_worth, .ref m_digit, .int 0, .long 0, .int 0, .int 0, .int 0, .int 0, .long 0])), (m_courts, .inl (cm_courts, 5, .inl (fun _ => 0)))] H.size) t := z_none (va_K.moved hvm hK)
  obtain ⟨hP, hD, hK⟩ := z_after [] hB ht hvm hP hD hK [0, 1] [] rfl rfl (by decide) (by decide) hk1 hFc
  generalize H1 = H at hP hS ⊢
  have hP : va_P (dC, dI) vwCl [] H := hP
  have hD : va_D A [] := hD
  have hK : va_K (dC, dI) vwCl [(cm_courts, .int)] s := hK
  obtain rfl : r_10 = (-2) := hw
  refine lv_icmp_eq (tgt := 2651) hx hb dL_law_1295 (by decide) (fun _ => ?_) (fun q => absurd q (by decide))
  exact law_tail C0 hA2 (Nat.le_of_ble_eq_true rfl) (Nat.le_of_ble_eq_true rfl) hS (lv_sub hl [0, 3] rfl)
set_option maxHeartbeats 4000000 in
set_option maxRecDepth 100000 in
theorem law_teach {p : Program} {e : Env} {s : State} {m : MethodId} {below : List Frame} {meth : Method} {c : Code} {l : Launch} {b : Nat} {xs : Nat → Int32} (C0 : lw_At p s m meth c b 6 xs) {dC : Nat → ClassId} {dI : Nat → Nat → Nat} {A : Nat → Prop} (hA : ∀ q, s.heap.size ≤ q → A q) (hA2 : ∀ q, A q → s.heap.size ≤ q) {h0 : Nat} {tp : Nat} {nw : Nat} {im : Nat} {sl : Nat} {rd : Nat} {wk : Nat} {fm : Nat} {mt : Nat} {ch : Nat} {dy : Nat} {tn : Nat} {ta0 : Nat} {ta1 : Nat} {ta2 : Nat} {ta3 : Nat} {ta4 : Nat} {ta5 : Nat} {ta6 : Nat} {ta7 : Nat} {ta8 : Nat} {ta9 : Nat} {m0 : Nat} {m_width : Nat} {m_many : Nat} {m_cells : Nat} {m_moved : Nat} {m_tape : Nat} {m_lines : Nat} {m_hours : Nat} {m_courts : Nat} {m_in : Nat} {m_gates : Nat} {m_gate : Nat} {m_people : Nat} {m_at0 : Nat} {m_stray : Nat} {m_set : Nat} {m_once : Nat} {m_truth : Nat} {m_known : Nat} {m_isKept : Nat} {m_inside : Nat} {m_can : Nat} {m_fewest : Nat} {m_waysTo : Nat} {m_then : Nat} {m_two : Nat} {m_nextTwo : Nat} {m_three : Nat} {m_nextThree : Nat} {m_worth : Nat} {m_digit : Nat} {cm_courts : ClassId}  {H : Heap} {locs : List Loc} {ls : Array Slot} (hP : va_P (dC, dI) vwCl [(h0, .inr (9, [.ref tp, .int 0, .int 0, .int (-1), .ref nw, .ref im, .ref sl, .ref rd, .ref wk, .ref fm, .ref mt, .ref ch, .ref dy])), (nw, .inr (3, [.int 0, .ref tn, .int 0, .int 0, .int 0, .int 0])), (tn, .inr (7, [.int 0, .int 0, .int 0, .int 0, .int 0, .int 0, .int 0, .int 0, .ref ta0, .ref ta1, .ref ta2, .ref ta3, .ref ta4, .ref ta5, .ref ta6, .ref ta7, .ref ta8, .ref ta9])), (m0, .inr (10, [.int 0, .ref m_width, .ref m_many, .ref m_cells, .ref m_moved, .ref m_tape, .int 0, .int 0, .int 0, .int 0, .int 0, .long 0, .int 0, .int 0, .int 0, .int (-1), .ref m_lines, .ref m_hours, .ref m_courts, .ref m_in, .ref m_gates, .ref m_gate, .ref m_people, .ref m_at0, .ref m_stray, .ref m_set, .ref m_once, .ref m_truth, .ref m_known, .ref m_isKept, .int 0, .int (-1), .int 0, .int 0, .ref m_inside, .ref m_can, .ref m_fewest, .ref m_waysTo, .ref m_then, .ref m_two, .ref m_nextTwo, .ref m_three, .ref m_nextThree, .int (-1), .ref m_worth, .ref m_digit, .int 0, .long 0, .int 0, .int 0, .int 0, .int 0, .long 0])), (m_courts, .inl (cm_courts, 5, .inl (fun _ => 0)))] H) (hD : va_D A [(h0, .inr (9, [.ref tp, .int 0, .int 0, .int (-1), .ref nw, .ref im, .ref sl, .ref rd, .ref wk, .ref fm, .ref mt, .ref ch, .ref dy])), (nw, .inr (3, [.int 0, .ref tn, .int 0, .int 0, .int 0, .int 0])), (tn, .inr (7, [.int 0, .int 0, .int 0, .int 0, .int 0, .int 0, .int 0, .int 0, .ref ta0, .ref ta1, .ref ta2, .ref ta3, .ref ta4, .ref ta5, .ref ta6, .ref ta7, .ref ta8, .ref ta9])), (m0, .inr (10, [.int 0, .ref m_width, .ref m_many, .ref m_cells, .ref m_moved, .ref m_tape, .int 0, .int 0, .int 0, .int 0, .int 0, .long 0, .int 0, .int 0, .int 0, .int (-1), .ref m_lines, .ref m_hours, .ref m_courts, .ref m_in, .ref m_gates, .ref m_gate, .ref m_people, .ref m_at0, .ref m_stray, .ref m_set, .ref m_once, .ref m_truth, .ref m_known, .ref m_isKept, .int 0, .int (-1), .int 0, .int 0, .ref m_inside, .ref m_can, .ref m_fewest, .ref m_waysTo, .ref m_then, .ref m_two, .ref m_nextTwo, .ref m_three, .ref m_nextThree, .int (-1), .ref m_worth, .ref m_digit, .int 0, .long 0, .int 0, .int 0, .int 0, .int 0, .long 0])), (m_courts, .inl (cm_courts, 5, .inl (fun _ => 0)))]) (hK : va_K (dC, dI) vwCl [(cm_courts, .int)] s) (hS : va_S A s.heap H locs) (hl : lv_has ls 4 [(3, .int 0), (2, .ref m0), (1, .ref h0), (0, .ref b)]) : W p l e room_1 s m #[Value.ref b] below meth c H locs 166 101284 (lw_Z below #[Value.ref b] s) (F0 m 1300 ls []) := by
  obtain ⟨hx, hb, hr, hml, hown, hts, hX, hbl, hlocks, hgv⟩ := id C0
  have hown : s.vm.findClass RL = some m.cls := hown
  have hb : c.code = cL_law := hb
  have hts : ∀ w ∈ zT, w.before #[Value.ref b] s = true := fun w h => hts w (zT_in w h)
  have hbA : ¬ A b := fun q => absurd (hA2 b q) (Nat.not_le.mpr hbl)
  refine lv_aload_n hx hb dL_law_1300 rfl (lv_at hl 2 rfl) ?_
  refine lv_aload_n hx hb dL_law_1301 rfl (lv_at hl 3 rfl) ?_
  refine lv_iload_n hx hb dL_law_1302 rfl (lv_at hl 0 rfl) ?_
  refine lv_iconst (v := 1) hx hb dL_law_1303 (by decide) ?_
  refine lv_iadd hx hb dL_law_1304 ?_
  refine lv_topi (fun x_1 ex_1 => ?_)
  obtain rfl : x_1 = 1 := ex_1.trans (by decide)
  refine va_sld hx hb hX hbl hbA hS (z_inC _ (k := 1) (by decide) (by decide)) dL_law_1305 ?_
  refine lv_aload_n hx hb dL_law_1306 rfl (lv_at hl 3 rfl) ?_
  refine lv_iload_n hx hb dL_law_1307 rfl (lv_at hl 0 rfl) ?_
  refine lv_iconst (v := 2) hx hb dL_law_1308 (by decide) ?_
  refine lv_iadd hx hb dL_law_1309 ?_
  refine lv_topi (fun x_2 ex_2 => ?_)
  obtain rfl : x_2 = 2 := ex_2.trans (by decide)
  refine va_sld hx hb hX hbl hbA hS (z_inC _ (k := 2) (by decide) (by decide)) dL_law_1310 ?_
  refine lv_aload_n hx hb dL_law_1311 rfl (lv_at hl 3 rfl) ?_
  refine lv_iload_n hx hb dL_law_1312 rfl (lv_at hl 0 rfl) ?_
  refine lv_iconst (v := 3) hx hb dL_law_1313 (by decide) ?_
  refine lv_iadd hx hb dL_law_1314 ?_
  refine lv_topi (fun x_3 ex_3 => ?_)
  obtain rfl : x_3 = 3 := ex_3.trans (by decide)
  refine va_sld hx hb hX hbl hbA hS (z_inC _ (k := 3) (by decide) (by decide)) dL_law_1315 ?_
  refine lv_aload_n hx hb dL_law_1316 rfl (lv_at hl 3 rfl) ?_
  refine lv_iload_n hx hb dL_law_1317 rfl (lv_at hl 0 rfl) ?_
  refine lv_iconst (v := 4) hx hb dL_law_1318 (by decide) ?_
  refine lv_iadd hx hb dL_law_1319 ?_
  refine lv_topi (fun x_4 ex_4 => ?_)
  obtain rfl : x_4 = 4 := ex_4.trans (by decide)
  refine va_sld hx hb hX hbl hbA hS (z_inC _ (k := 4) (by decide) (by decide)) dL_law_1320 ?_
  have hPc := hP.sub (ws' := [(h0, .inr (9, [.ref tp, .int 0, .int 0, .int (-1), .ref nw, .ref im, .ref sl, .ref rd, .ref wk, .ref fm, .ref mt, .ref ch, .ref dy])), (nw, .inr (3, [.int 0, .ref tn, .int 0, .int 0, .int 0, .int 0])), (tn, .inr (7, [.int 0, .int 0, .int 0, .int 0, .int 0, .int 0, .int 0, .int 0, .ref ta0, .ref ta1, .ref ta2, .ref ta3, .ref ta4, .ref ta5, .ref ta6, .ref ta7, .ref ta8, .ref ta9]))]) [0, 1, 2] rfl
  have hDc := hD.sub (ws' := [(h0, .inr (9, [.ref tp, .int 0, .int 0, .int (-1), .ref nw, .ref im, .ref sl, .ref rd, .ref wk, .ref fm, .ref mt, .ref ch, .ref dy])), (nw, .inr (3, [.int 0, .ref tn, .int 0, .int 0, .int 0, .int 0])), (tn, .inr (7, [.int 0, .int 0, .int 0, .int 0, .int 0, .int 0, .int 0, .int 0, .ref ta0, .ref ta1, .ref ta2, .ref ta3, .ref ta4, .ref ta5, .ref ta6, .ref ta7, .ref ta8, .ref ta9]))]) [0, 1, 2] (by decide) rfl
  have hKc := hK.sub (tys' := []) [] rfl
  have hFc := va_free (wc := [(h0, .inr (9, [.ref tp, .int 0, .int 0, .int (-1), .ref nw, .ref im, .ref sl, .ref rd, .ref wk, .ref fm, .ref mt, .ref ch, .ref dy])), (nw, .inr (3, [.int 0, .ref tn, .int 0, .int 0, .int 0, .int 0])), (tn, .inr (7, [.int 0, .int 0, .int 0, .int 0, .int 0, .int 0, .int 0, .int 0, .ref ta0, .ref ta1, .ref ta2, .ref ta3, .ref ta4, .ref ta5, .ref ta6, .ref ta7, .ref ta8, .ref ta9]))]) hD hS hA [0, 1, 2] rfl
  refine va_calli (va_runV (As := [.int (xs (Int32.toNatClampNeg 1)), .int (xs (Int32.toNatClampNeg 2)), .int (xs (Int32.toNatClampNeg 3)), .int (xs (Int32.toNatClampNeg 4))]) (rest := []) ⟨hx, hb, hml, hown, hts⟩ (k_X9_teach l dC dI h0 (xs (Int32.toNatClampNeg 1)) (xs (Int32.toNatClampNeg 2)) (xs (Int32.toNatClampNeg 3)) (xs (Int32.toNatClampNeg 4)) tp nw im sl rd wk fm mt ch dy tn ta0 ta1 ta2 ta3 ta4 ta5 ta6 ta7 ta8 ta9 H.size) (cwV 4 hts (z_gV zw_t4_234 zw_t4_235 zw_t4_236 zw_t1_1 zw_t4_237) rfl rfl rfl (by decide +kernel) ⟨(Nat.le_of_ble_eq_true rfl), (Nat.le_of_ble_eq_true rfl)⟩) (z_preV hPc hKc hDc (ci := 9) (q0 := 0) rfl rfl) rfl rfl hl.1 rfl (lv_room (Nat.le_of_ble_eq_true rfl)) dL_law_1321 ⟨(Nat.le_of_ble_eq_true rfl), (Nat.le_of_ble_eq_true rfl)⟩) hS (fun q _ h => hFc q h) hFc (fun r_5 u t H1 locs ht hvm hw hB hz1 hk1 hS => ?_)
  have hB : zW dC dI [] [] (va_A [(h0, .inr (9, [.ref tp, .int 0, .int 0, .int (-1), .ref nw, .ref im, .ref sl, .ref rd, .ref wk, .ref fm, .ref mt, .ref ch, .ref dy])), (nw, .inr (3, [.int 0, .ref tn, .int 0, .int 0, .int 0, .int 0])), (tn, .inr (7, [.int 0, .int 0, .int 0, .int 0, .int 0, .int 0, .int 0, .int 0, .ref ta0, .ref ta1, .ref ta2, .ref ta3, .ref ta4, .ref ta5, .ref ta6, .ref ta7, .ref ta8, .ref ta9]))] H.size) t := z_none (va_K.moved hvm hK)
  obtain ⟨hP, hD, hK⟩ := z_after [(m0, .inr (10, [.int 0, .ref m_width, .ref m_many, .ref m_cells, .ref m_moved, .ref m_tape, .int 0, .int 0, .int 0, .int 0, .int 0, .long 0, .int 0, .int 0, .int 0, .int (-1), .ref m_lines, .ref m_hours, .ref m_courts, .ref m_in, .ref m_gates, .ref m_gate, .ref m_people, .ref m_at0, .ref m_stray, .ref m_set, .ref m_once, .ref m_truth, .ref m_known, .ref m_isKept, .int 0, .int (-1), .int 0, .int 0, .ref m_inside, .ref m_can, .ref m_fewest, .ref m_waysTo, .ref m_then, .ref m_two, .ref m_nextTwo, .ref m_three, .ref m_nextThree, .int (-1), .ref m_worth, .ref m_digit, .int 0, .long 0, .int 0, .int 0, .int 0, .int 0, .long 0])), (m_courts, .inl (cm_courts, 5, .inl (fun _ => 0)))] hB ht hvm hP hD hK [0, 1, 2] [3, 4] rfl rfl (by decide) (by decide) hk1 hFc
  generalize H1 = H at hP hS ⊢
  have hP : va_P (dC, dI) vwCl [(m0, .inr (10, [.int 0, .ref m_width, .ref m_many, .ref m_cells, .ref m_moved, .ref m_tape, .int 0, .int 0, .int 0, .int 0, .int 0, .long 0, .int 0, .int 0, .int 0, .int (-1), .ref m_lines, .ref m_hours, .ref m_courts, .ref m_in, .ref m_gates, .ref m_gate, .ref m_people, .ref m_at0, .ref m_stray, .ref m_set, .ref m_once, .ref m_truth, .ref m_known, .ref m_isKept, .int 0, .int (-1), .int 0, .int 0, .ref m_inside, .ref m_can, .ref m_fewest, .ref m_waysTo, .ref m_then, .ref m_two, .ref m_nextTwo, .ref m_three, .ref m_nextThree, .int (-1), .ref m_worth, .ref m_digit, .int 0, .long 0, .int 0, .int 0, .int 0, .int 0, .long 0])), (m_courts, .inl (cm_courts, 5, .inl (fun _ => 0)))] H := hP
  have hD : va_D A [(m0, .inr (10, [.int 0, .ref m_width, .ref m_many, .ref m_cells, .ref m_moved, .ref m_tape, .int 0, .int 0, .int 0, .int 0, .int 0, .long 0, .int 0, .int 0, .int 0, .int (-1), .ref m_lines, .ref m_hours, .ref m_courts, .ref m_in, .ref m_gates, .ref m_gate, .ref m_people, .ref m_at0, .ref m_stray, .ref m_set, .ref m_once, .ref m_truth, .ref m_known, .ref m_isKept, .int 0, .int (-1), .int 0, .int 0, .ref m_inside, .ref m_can, .ref m_fewest, .ref m_waysTo, .ref m_then, .ref m_two, .ref m_nextTwo, .ref m_three, .ref m_nextThree, .int (-1), .ref m_worth, .ref m_digit, .int 0, .long 0, .int 0, .int 0, .int 0, .int 0, .long 0])), (m_courts, .inl (cm_courts, 5, .inl (fun _ => 0)))] := hD
  have hK : va_K (dC, dI) vwCl [(cm_courts, .int)] s := hK
  obtain rfl : r_5 = (-2) := hw
  refine lv_aload_n hx hb dL_law_1324 rfl (lv_at hl 1 rfl) ?_
  refine lv_aload_n hx hb dL_law_1325 rfl (lv_at hl 3 rfl) ?_
  refine lv_iload_n hx hb dL_law_1326 rfl (lv_at hl 0 rfl) ?_
  refine lv_iconst (v := 1) hx hb dL_law_1327 (by decide) ?_
  refine lv_iadd hx hb dL_law_1328 ?_
  refine lv_topi (fun x_6 ex_6 => ?_)
  obtain rfl : x_6 = 1 := ex_6.trans (by decide)
  refine va_sld hx hb hX hbl hbA hS (z_inC _ (k := 1) (by decide) (by decide)) dL_law_1329 ?_
  refine lv_aload_n hx hb dL_law_1330 rfl (lv_at hl 3 rfl) ?_
  refine lv_iload_n hx hb dL_law_1331 rfl (lv_at hl 0 rfl) ?_
  refine lv_iconst (v := 2) hx hb dL_law_1332 (by decide) ?_
  refine lv_iadd hx hb dL_law_1333 ?_
  refine lv_topi (fun x_7 ex_7 => ?_)
  obtain rfl : x_7 = 2 := ex_7.trans (by decide)
  refine va_sld hx hb hX hbl hbA hS (z_inC _ (k := 2) (by decide) (by decide)) dL_law_1334 ?_
  refine lv_aload_n hx hb dL_law_1335 rfl (lv_at hl 3 rfl) ?_
  refine lv_iload_n hx hb dL_law_1336 rfl (lv_at hl 0 rfl) ?_
  refine lv_iconst (v := 3) hx hb dL_law_1337 (by decide) ?_
  refine lv_iadd hx hb dL_law_1338 ?_
  refine lv_topi (fun x_8 ex_8 => ?_)
  obtain rfl : x_8 = 3 := ex_8.trans (by decide)
  refine va_sld hx hb hX hbl hbA hS (z_inC _ (k := 3) (by decide) (by decide)) dL_law_1339 ?_
  refine lv_aload_n hx hb dL_law_1340 rfl (lv_at hl 3 rfl) ?_
  refine lv_iload_n hx hb dL_law_1341 rfl (lv_at hl 0 rfl) ?_
  refine lv_iconst (v := 4) hx hb dL_law_1342 (by decide) ?_
  refine lv_iadd hx hb dL_law_1343 ?_
  refine lv_topi (fun x_9 ex_9 => ?_)
  obtain rfl : x_9 = 4 := ex_9.trans (by decide)
  refine va_sld hx hb hX hbl hbA hS (z_inC _ (k := 4) (by decide) (by decide)) dL_law_1344 ?_
  have hPc := hP.sub (ws' := [(m0, .inr (10, [.int 0, .ref m_width, .ref m_many, .ref m_cells, .ref m_moved, .ref m_tape, .int 0, .int 0, .int 0, .int 0, .int 0, .long 0, .int 0, .int 0, .int 0, .int (-1), .ref m_lines, .ref m_hours, .ref m_courts, .ref m_in, .ref m_gates, .ref m_gate, .ref m_people, .ref m_at0, .ref m_stray, .ref m_set, .ref m_once, .ref m_truth, .ref m_known, .ref m_isKept, .int 0, .int (-1), .int 0, .int 0, .ref m_inside, .ref m_can, .ref m_fewest, .ref m_waysTo, .ref m_then, .ref m_two, .ref m_nextTwo, .ref m_three, .ref m_nextThree, .int (-1), .ref m_worth, .ref m_digit, .int 0, .long 0, .int 0, .int 0, .int 0, .int 0, .long 0])), (m_courts, .inl (cm_courts, 5, .inl (fun _ => 0)))]) [0, 1] rfl
  have hDc := hD.sub (ws' := [(m0, .inr (10, [.int 0, .ref m_width, .ref m_many, .ref m_cells, .ref m_moved, .ref m_tape, .int 0, .int 0, .int 0, .int 0, .int 0, .long 0, .int 0, .int 0, .int 0, .int (-1), .ref m_lines, .ref m_hours, .ref m_courts, .ref m_in, .ref m_gates, .ref m_gate, .ref m_people, .ref m_at0, .ref m_stray, .ref m_set, .ref m_once, .ref m_truth, .ref m_known, .ref m_isKept, .int 0, .int (-1), .int 0, .int 0, .ref m_inside, .ref m_can, .ref m_fewest, .ref m_waysTo, .ref m_then, .ref m_two, .ref m_nextTwo, .ref m_three, .ref m_nextThree, .int (-1), .ref m_worth, .ref m_digit, .int 0, .long 0, .int 0, .int 0, .int 0, .int 0, .long 0])), (m_courts, .inl (cm_courts, 5, .inl (fun _ => 0)))]) [0, 1] (by decide) rfl
  have hKc := hK.sub (tys' := [(cm_courts, .int)]) [0] rfl
  have hFc := va_free (wc := [(m0, .inr (10, [.int 0, .ref m_width, .ref m_many, .ref m_cells, .ref m_moved, .ref m_tape, .int 0, .int 0, .int 0, .int 0, .int 0, .long 0, .int 0, .int 0, .int 0, .int (-1), .ref m_lines, .ref m_hours, .ref m_courts, .ref m_in, .ref m_gates, .ref m_gate, .ref m_people, .ref m_at0, .ref m_stray, .ref m_set, .ref m_once, .ref m_truth, .ref m_known, .ref m_isKept, .int 0, .int (-1), .int 0, .int 0, .ref m_inside, .ref m_can, .ref m_fewest, .ref m_waysTo, .ref m_then, .ref m_two, .ref m_nextTwo, .ref m_three, .ref m_nextThree, .int (-1), .ref m_worth, .ref m_digit, .int 0, .long 0, .int 0, .int 0, .int 0, .int 0, .long 0])), (m_courts, .inl (cm_courts, 5, .inl (fun _ => 0)))]) hD hS hA [0, 1] rfl
  refine va_calli (va_runV (As := [.int (xs (Int32.toNatClampNeg 1)), .int (xs (Int32.toNatClampNeg 2)), .int (xs (Int32.toNatClampNeg 3)), .int (xs (Int32.toNatClampNeg 4))]) (rest := [.int (-2)]) ⟨hx, hb, hml, hown, hts⟩ (k_X10_teach l dC dI m0 (xs (Int32.toNatClampNeg 1)) (xs (Int32.toNatClampNeg 2)) (xs (Int32.toNatClampNeg 3)) (xs (Int32.toNatClampNeg 4)) m_width m_many m_cells m_moved m_tape m_lines m_hours m_courts m_in m_gates m_gate m_people m_at0 m_stray m_set m_once m_truth m_known m_isKept m_inside m_can m_fewest m_waysTo m_then m_two m_nextTwo m_three m_nextThree m_worth m_digit cm_courts H.size) (cwV 4 hts (z_gV zw_t8_124 zw_t8_125 zw_t8_126 zw_t1_11 zw_t8_127) rfl rfl rfl (by decide +kernel) ⟨(Nat.le_of_ble_eq_true rfl), (Nat.le_of_ble_eq_true rfl)⟩) (z_preV hPc hKc hDc (ci := 10) (q0 := 0) rfl rfl) rfl rfl hl.1 rfl (lv_room (Nat.le_of_ble_eq_true rfl)) dL_law_1345 ⟨(Nat.le_of_ble_eq_true rfl), (Nat.le_of_ble_eq_true rfl)⟩) hS (fun q _ h => hFc q h) hFc (fun r_10 u t H1 locs ht hvm hw hB hz1 hk1 hS => ?_)
  have hB : zW dC dI [] [] (va_A [(m0, .inr (10, [.int 0, .ref m_width, .ref m_many, .ref m_cells, .ref m_moved, .ref m_tape, .int 0, .int 0, .int 0, .int 0, .int 0, .long 0, .int 0, .int 0, .int 0, .int (-1), .ref m_lines, .ref m_hours, .ref m_courts, .ref m_in, .ref m_gates, .ref m_gate, .ref m_people, .ref m_at0, .ref m_stray, .ref m_set, .ref m_once, .ref m_truth, .ref m_known, .ref m_isKept, .int 0, .int (-1), .int 0, .int 0, .ref m_inside, .ref m_can, .ref m_fewest, .ref m_waysTo, .ref m_then, .ref m_two, .ref m_nextTwo, .ref m_three, .ref m_nextThree, .int (-1), .ref m_worth, .ref m_digit, .int 0, .long 0, .int 0, .int 0, .int 0, .int 0, .long 0])), (m_courts, .inl (cm_courts, 5, .inl (fun _ => 0)))] H.size) t := z_none (va_K.moved hvm hK)
  obtain ⟨hP, hD, hK⟩ := z_after [] hB ht hvm hP hD hK [0, 1] [] rfl rfl (by decide) (by decide) hk1 hFc
  generalize H1 = H at hP hS ⊢
  have hP : va_P (dC, dI) vwCl [] H := hP
  have hD : va_D A [] := hD
  have hK : va_K (dC, dI) vwCl [(cm_courts, .int)] s := hK
  obtain rfl : r_10 = (-2) := hw
  refine lv_icmp_eq (tgt := 2651) hx hb dL_law_1348 (by decide) (fun _ => ?_) (fun q => absurd q (by decide))
  exact law_tail C0 hA2 (Nat.le_of_ble_eq_true rfl) (Nat.le_of_ble_eq_true rfl) hS (lv_sub hl [0, 3] rfl)
set_option maxHeartbeats 4000000 in
set_option maxRecDepth 100000 in
theorem law_host {p : Program} {e : Env} {s : State} {m : MethodId} {below : List Frame} {meth : Method} {c : Code} {l : Launch} {b : Nat} {xs : Nat → Int32} (C0 : lw_At p s m meth c b 6 xs) {dC : Nat → ClassId} {dI : Nat → Nat → Nat} {A : Nat → Prop} (hA : ∀ q, s.heap.size ≤ q → A q) (hA2 : ∀ q, A q → s.heap.size ≤ q) {h0 : Nat} {tp : Nat} {nw : Nat} {im : Nat} {sl : Nat} {rd : Nat} {wk : Nat} {fm : Nat} {mt : Nat} {ch : Nat} {dy : Nat} {tn : Nat} {ta0 : Nat} {ta1 : Nat} {ta2 : Nat} {ta3 : Nat} {ta4 : Nat} {ta5 : Nat} {ta6 : Nat} {ta7 : Nat} {ta8 : Nat} {ta9 : Nat} {m0 : Nat} {m_width : Nat} {m_many : Nat} {m_cells : Nat} {m_moved : Nat} {m_tape : Nat} {m_lines : Nat} {m_hours : Nat} {m_courts : Nat} {m_in : Nat} {m_gates : Nat} {m_gate : Nat} {m_people : Nat} {m_at0 : Nat} {m_stray : Nat} {m_set : Nat} {m_once : Nat} {m_truth : Nat} {m_known : Nat} {m_isKept : Nat} {m_inside : Nat} {m_can : Nat} {m_fewest : Nat} {m_waysTo : Nat} {m_then : Nat} {m_two : Nat} {m_nextTwo : Nat} {m_three : Nat} {m_nextThree : Nat} {m_worth : Nat} {m_digit : Nat} {cm_people : ClassId}  {H : Heap} {locs : List Loc} {ls : Array Slot} (hP : va_P (dC, dI) vwCl [(h0, .inr (9, [.ref tp, .int 0, .int 0, .int (-1), .ref nw, .ref im, .ref sl, .ref rd, .ref wk, .ref fm, .ref mt, .ref ch, .ref dy])), (nw, .inr (3, [.int 0, .ref tn, .int 0, .int 0, .int 0, .int 0])), (tn, .inr (7, [.int 0, .int 0, .int 0, .int 0, .int 0, .int 0, .int 0, .int 0, .ref ta0, .ref ta1, .ref ta2, .ref ta3, .ref ta4, .ref ta5, .ref ta6, .ref ta7, .ref ta8, .ref ta9])), (m0, .inr (10, [.int 0, .ref m_width, .ref m_many, .ref m_cells, .ref m_moved, .ref m_tape, .int 0, .int 0, .int 0, .int 0, .int 0, .long 0, .int 0, .int 0, .int 0, .int (-1), .ref m_lines, .ref m_hours, .ref m_courts, .ref m_in, .ref m_gates, .ref m_gate, .ref m_people, .ref m_at0, .ref m_stray, .ref m_set, .ref m_once, .ref m_truth, .ref m_known, .ref m_isKept, .int 0, .int (-1), .int 0, .int 0, .ref m_inside, .ref m_can, .ref m_fewest, .ref m_waysTo, .ref m_then, .ref m_two, .ref m_nextTwo, .ref m_three, .ref m_nextThree, .int (-1), .ref m_worth, .ref m_digit, .int 0, .long 0, .int 0, .int 0, .int 0, .int 0, .long 0])), (m_people, .inl (cm_people, 5, .inl (fun _ => 0)))] H) (hD : va_D A [(h0, .inr (9, [.ref tp, .int 0, .int 0, .int (-1), .ref nw, .ref im, .ref sl, .ref rd, .ref wk, .ref fm, .ref mt, .ref ch, .ref dy])), (nw, .inr (3, [.int 0, .ref tn, .int 0, .int 0, .int 0, .int 0])), (tn, .inr (7, [.int 0, .int 0, .int 0, .int 0, .int 0, .int 0, .int 0, .int 0, .ref ta0, .ref ta1, .ref ta2, .ref ta3, .ref ta4, .ref ta5, .ref ta6, .ref ta7, .ref ta8, .ref ta9])), (m0, .inr (10, [.int 0, .ref m_width, .ref m_many, .ref m_cells, .ref m_moved, .ref m_tape, .int 0, .int 0, .int 0, .int 0, .int 0, .long 0, .int 0, .int 0, .int 0, .int (-1), .ref m_lines, .ref m_hours, .ref m_courts, .ref m_in, .ref m_gates, .ref m_gate, .ref m_people, .ref m_at0, .ref m_stray, .ref m_set, .ref m_once, .ref m_truth, .ref m_known, .ref m_isKept, .int 0, .int (-1), .int 0, .int 0, .ref m_inside, .ref m_can, .ref m_fewest, .ref m_waysTo, .ref m_then, .ref m_two, .ref m_nextTwo, .ref m_three, .ref m_nextThree, .int (-1), .ref m_worth, .ref m_digit, .int 0, .long 0, .int 0, .int 0, .int 0, .int 0, .long 0])), (m_people, .inl (cm_people, 5, .inl (fun _ => 0)))]) (hK : va_K (dC, dI) vwCl [(cm_people, .int)] s) (hS : va_S A s.heap H locs) (hl : lv_has ls 4 [(3, .int 0), (2, .ref m0), (1, .ref h0), (0, .ref b)]) : W p l e room_1 s m #[Value.ref b] below meth c H locs 166 101284 (lw_Z below #[Value.ref b] s) (F0 m 1353 ls []) := by
  obtain ⟨hx, hb, hr, hml, hown, hts, hX, hbl, hlocks, hgv⟩ := id C0
  have hown : s.vm.findClass RL = some m.cls := hown
  have hb : c.code = cL_law := hb
  have hts : ∀ w ∈ zT, w.before #[Value.ref b] s = true := fun w h => hts w (zT_in w h)
  have hbA : ¬ A b := fun q => absurd (hA2 b q) (Nat.not_le.mpr hbl)
  refine lv_aload_n hx hb dL_law_1353 rfl (lv_at hl 2 rfl) ?_
  refine lv_aload_n hx hb dL_law_1354 rfl (lv_at hl 3 rfl) ?_
  refine lv_iload_n hx hb dL_law_1355 rfl (lv_at hl 0 rfl) ?_
  refine lv_iconst (v := 1) hx hb dL_law_1356 (by decide) ?_
  refine lv_iadd hx hb dL_law_1357 ?_
  refine lv_topi (fun x_1 ex_1 => ?_)
  obtain rfl : x_1 = 1 := ex_1.trans (by decide)
  refine va_sld hx hb hX hbl hbA hS (z_inC _ (k := 1) (by decide) (by decide)) dL_law_1358 ?_
  refine lv_aload_n hx hb dL_law_1359 rfl (lv_at hl 3 rfl) ?_
  refine lv_iload_n hx hb dL_law_1360 rfl (lv_at hl 0 rfl) ?_
  refine lv_iconst (v := 2) hx hb dL_law_1361 (by decide) ?_
  refine lv_iadd hx hb dL_law_1362 ?_
  refine lv_topi (fun x_2 ex_2 => ?_)
  obtain rfl : x_2 = 2 := ex_2.trans (by decide)
  refine va_sld hx hb hX hbl hbA hS (z_inC _ (k := 2) (by decide) (by decide)) dL_law_1363 ?_
  refine lv_aload_n hx hb dL_law_1364 rfl (lv_at hl 3 rfl) ?_
  refine lv_iload_n hx hb dL_law_1365 rfl (lv_at hl 0 rfl) ?_
  refine lv_iconst (v := 3) hx hb dL_law_1366 (by decide) ?_
  refine lv_iadd hx hb dL_law_1367 ?_
  refine lv_topi (fun x_3 ex_3 => ?_)
  obtain rfl : x_3 = 3 := ex_3.trans (by decide)
  refine va_sld hx hb hX hbl hbA hS (z_inC _ (k := 3) (by decide) (by decide)) dL_law_1368 ?_
  refine lv_aload_n hx hb dL_law_1369 rfl (lv_at hl 3 rfl) ?_
  refine lv_iload_n hx hb dL_law_1370 rfl (lv_at hl 0 rfl) ?_
  refine lv_iconst (v := 4) hx hb dL_law_1371 (by decide) ?_
  refine lv_iadd hx hb dL_law_1372 ?_
  refine lv_topi (fun x_4 ex_4 => ?_)
  obtain rfl : x_4 = 4 := ex_4.trans (by decide)
  refine va_sld hx hb hX hbl hbA hS (z_inC _ (k := 4) (by decide) (by decide)) dL_law_1373 ?_
  refine lv_aload_n hx hb dL_law_1374 rfl (lv_at hl 3 rfl) ?_
  refine lv_iload_n hx hb dL_law_1375 rfl (lv_at hl 0 rfl) ?_
  refine lv_iconst (v := 5) hx hb dL_law_1376 (by decide) ?_
  refine lv_iadd hx hb dL_law_1377 ?_
  refine lv_topi (fun x_5 ex_5 => ?_)
  obtain rfl : x_5 = 5 := ex_5.trans (by decide)
  refine va_sld hx hb hX hbl hbA hS (z_inC _ (k := 5) (by decide) (by decide)) dL_law_1378 ?_
  have hPc := hP.sub (ws' := [(h0, .inr (9, [.ref tp, .int 0, .int 0, .int (-1), .ref nw, .ref im, .ref sl, .ref rd, .ref wk, .ref fm, .ref mt, .ref ch, .ref dy])), (nw, .inr (3, [.int 0, .ref tn, .int 0, .int 0, .int 0, .int 0])), (tn, .inr (7, [.int 0, .int 0, .int 0, .int 0, .int 0, .int 0, .int 0, .int 0, .ref ta0, .ref ta1, .ref ta2, .ref ta3, .ref ta4, .ref ta5, .ref ta6, .ref ta7, .ref ta8, .ref ta9]))]) [0, 1, 2] rfl
  have hDc := hD.sub (ws' := [(h0, .inr (9, [.ref tp, .int 0, .int 0, .int (-1), .ref nw, .ref im, .ref sl, .ref rd, .ref wk, .ref fm, .ref mt, .ref ch, .ref dy])), (nw, .inr (3, [.int 0, .ref tn, .int 0, .int 0, .int 0, .int 0])), (tn, .inr (7, [.int 0, .int 0, .int 0, .int 0, .int 0, .int 0, .int 0, .int 0, .ref ta0, .ref ta1, .ref ta2, .ref ta3, .ref ta4, .ref ta5, .ref ta6, .ref ta7, .ref ta8, .ref ta9]))]) [0, 1, 2] (by decide) rfl
  have hKc := hK.sub (tys' := []) [] rfl
  have hFc := va_free (wc := [(h0, .inr (9, [.ref tp, .int 0, .int 0, .int (-1), .ref nw, .ref im, .ref sl, .ref rd, .ref wk, .ref fm, .ref mt, .ref ch, .ref dy])), (nw, .inr (3, [.int 0, .ref tn, .int 0, .int 0, .int 0, .int 0])), (tn, .inr (7, [.int 0, .int 0, .int 0, .int 0, .int 0, .int 0, .int 0, .int 0, .ref ta0, .ref ta1, .ref ta2, .ref ta3, .ref ta4, .ref ta5, .ref ta6, .ref ta7, .ref ta8, .ref ta9]))]) hD hS hA [0, 1, 2] rfl
  refine va_calli (va_runV (As := [.int (xs (Int32.toNatClampNeg 1)), .int (xs (Int32.toNatClampNeg 2)), .int (xs (Int32.toNatClampNeg 3)), .int (xs (Int32.toNatClampNeg 4)), .int (xs (Int32.toNatClampNeg 5))]) (rest := []) ⟨hx, hb, hml, hown, hts⟩ (k_X9_host l dC dI h0 (xs (Int32.toNatClampNeg 1)) (xs (Int32.toNatClampNeg 2)) (xs (Int32.toNatClampNeg 3)) (xs (Int32.toNatClampNeg 4)) (xs (Int32.toNatClampNeg 5)) tp nw im sl rd wk fm mt ch dy tn ta0 ta1 ta2 ta3 ta4 ta5 ta6 ta7 ta8 ta9 H.size) (cwV 5 hts (z_gV zw_t5_1 zw_t5_2 zw_t5_3 zw_t1_1 zw_t5_4) rfl rfl rfl (by decide +kernel) ⟨(Nat.le_of_ble_eq_true rfl), (Nat.le_of_ble_eq_true rfl)⟩) (z_preV hPc hKc hDc (ci := 9) (q0 := 0) rfl rfl) rfl rfl hl.1 rfl (lv_room (Nat.le_of_ble_eq_true rfl)) dL_law_1379 ⟨(Nat.le_of_ble_eq_true rfl), (Nat.le_of_ble_eq_true rfl)⟩) hS (fun q _ h => hFc q h) hFc (fun r_6 u t H1 locs ht hvm hw hB hz1 hk1 hS => ?_)
  have hB : zW dC dI [] [] (va_A [(h0, .inr (9, [.ref tp, .int 0, .int 0, .int (-1), .ref nw, .ref im, .ref sl, .ref rd, .ref wk, .ref fm, .ref mt, .ref ch, .ref dy])), (nw, .inr (3, [.int 0, .ref tn, .int 0, .int 0, .int 0, .int 0])), (tn, .inr (7, [.int 0, .int 0, .int 0, .int 0, .int 0, .int 0, .int 0, .int 0, .ref ta0, .ref ta1, .ref ta2, .ref ta3, .ref ta4, .ref ta5, .ref ta6, .ref ta7, .ref ta8, .ref ta9]))] H.size) t := z_none (va_K.moved hvm hK)
  obtain ⟨hP, hD, hK⟩ := z_after [(m0, .inr (10, [.int 0, .ref m_width, .ref m_many, .ref m_cells, .ref m_moved, .ref m_tape, .int 0, .int 0, .int 0, .int 0, .int 0, .long 0, .int 0, .int 0, .int 0, .int (-1), .ref m_lines, .ref m_hours, .ref m_courts, .ref m_in, .ref m_gates, .ref m_gate, .ref m_people, .ref m_at0, .ref m_stray, .ref m_set, .ref m_once, .ref m_truth, .ref m_known, .ref m_isKept, .int 0, .int (-1), .int 0, .int 0, .ref m_inside, .ref m_can, .ref m_fewest, .ref m_waysTo, .ref m_then, .ref m_two, .ref m_nextTwo, .ref m_three, .ref m_nextThree, .int (-1), .ref m_worth, .ref m_digit, .int 0, .long 0, .int 0, .int 0, .int 0, .int 0, .long 0])), (m_people, .inl (cm_people, 5, .inl (fun _ => 0)))] hB ht hvm hP hD hK [0, 1, 2] [3, 4] rfl rfl (by decide) (by decide) hk1 hFc
  generalize H1 = H at hP hS ⊢
  have hP : va_P (dC, dI) vwCl [(m0, .inr (10, [.int 0, .ref m_width, .ref m_many, .ref m_cells, .ref m_moved, .ref m_tape, .int 0, .int 0, .int 0, .int 0, .int 0, .long 0, .int 0, .int 0, .int 0, .int (-1), .ref m_lines, .ref m_hours, .ref m_courts, .ref m_in, .ref m_gates, .ref m_gate, .ref m_people, .ref m_at0, .ref m_stray, .ref m_set, .ref m_once, .ref m_truth, .ref m_known, .ref m_isKept, .int 0, .int (-1), .int 0, .int 0, .ref m_inside, .ref m_can, .ref m_fewest, .ref m_waysTo, .ref m_then, .ref m_two, .ref m_nextTwo, .ref m_three, .ref m_nextThree, .int (-1), .ref m_worth, .ref m_digit, .int 0, .long 0, .int 0, .int 0, .int 0, .int 0, .long 0])), (m_people, .inl (cm_people, 5, .inl (fun _ => 0)))] H := hP
  have hD : va_D A [(m0, .inr (10, [.int 0, .ref m_width, .ref m_many, .ref m_cells, .ref m_moved, .ref m_tape, .int 0, .int 0, .int 0, .int 0, .int 0, .long 0, .int 0, .int 0, .int 0, .int (-1), .ref m_lines, .ref m_hours, .ref m_courts, .ref m_in, .ref m_gates, .ref m_gate, .ref m_people, .ref m_at0, .ref m_stray, .ref m_set, .ref m_once, .ref m_truth, .ref m_known, .ref m_isKept, .int 0, .int (-1), .int 0, .int 0, .ref m_inside, .ref m_can, .ref m_fewest, .ref m_waysTo, .ref m_then, .ref m_two, .ref m_nextTwo, .ref m_three, .ref m_nextThree, .int (-1), .ref m_worth, .ref m_digit, .int 0, .long 0, .int 0, .int 0, .int 0, .int 0, .long 0])), (m_people, .inl (cm_people, 5, .inl (fun _ => 0)))] := hD
  have hK : va_K (dC, dI) vwCl [(cm_people, .int)] s := hK
  obtain rfl : r_6 = (-2) := hw
  refine lv_aload_n hx hb dL_law_1382 rfl (lv_at hl 1 rfl) ?_
  refine lv_aload_n hx hb dL_law_1383 rfl (lv_at hl 3 rfl) ?_
  refine lv_iload_n hx hb dL_law_1384 rfl (lv_at hl 0 rfl) ?_
  refine lv_iconst (v := 1) hx hb dL_law_1385 (by decide) ?_
  refine lv_iadd hx hb dL_law_1386 ?_
  refine lv_topi (fun x_7 ex_7 => ?_)
  obtain rfl : x_7 = 1 := ex_7.trans (by decide)
  refine va_sld hx hb hX hbl hbA hS (z_inC _ (k := 1) (by decide) (by decide)) dL_law_1387 ?_
  refine lv_aload_n hx hb dL_law_1388 rfl (lv_at hl 3 rfl) ?_
  refine lv_iload_n hx hb dL_law_1389 rfl (lv_at hl 0 rfl) ?_
  refine lv_iconst (v := 2) hx hb dL_law_1390 (by decide) ?_
  refine lv_iadd hx hb dL_law_1391 ?_
  refine lv_topi (fun x_8 ex_8 => ?_)
  obtain rfl : x_8 = 2 := ex_8.trans (by decide)
  refine va_sld hx hb hX hbl hbA hS (z_inC _ (k := 2) (by decide) (by decide)) dL_law_1392 ?_
  refine lv_aload_n hx hb dL_law_1393 rfl (lv_at hl 3 rfl) ?_
  refine lv_iload_n hx hb dL_law_1394 rfl (lv_at hl 0 rfl) ?_
  refine lv_iconst (v := 3) hx hb dL_law_1395 (by decide) ?_
  refine lv_iadd hx hb dL_law_1396 ?_
  refine lv_topi (fun x_9 ex_9 => ?_)
  obtain rfl : x_9 = 3 := ex_9.trans (by decide)
  refine va_sld hx hb hX hbl hbA hS (z_inC _ (k := 3) (by decide) (by decide)) dL_law_1397 ?_
  refine lv_aload_n hx hb dL_law_1398 rfl (lv_at hl 3 rfl) ?_
  refine lv_iload_n hx hb dL_law_1399 rfl (lv_at hl 0 rfl) ?_
  refine lv_iconst (v := 4) hx hb dL_law_1400 (by decide) ?_
  refine lv_iadd hx hb dL_law_1401 ?_
  refine lv_topi (fun x_10 ex_10 => ?_)
  obtain rfl : x_10 = 4 := ex_10.trans (by decide)
  refine va_sld hx hb hX hbl hbA hS (z_inC _ (k := 4) (by decide) (by decide)) dL_law_1402 ?_
  refine lv_aload_n hx hb dL_law_1403 rfl (lv_at hl 3 rfl) ?_
  refine lv_iload_n hx hb dL_law_1404 rfl (lv_at hl 0 rfl) ?_
  refine lv_iconst (v := 5) hx hb dL_law_1405 (by decide) ?_
  refine lv_iadd hx hb dL_law_1406 ?_
  refine lv_topi (fun x_11 ex_11 => ?_)
  obtain rfl : x_11 = 5 := ex_11.trans (by decide)
  refine va_sld hx hb hX hbl hbA hS (z_inC _ (k := 5) (by decide) (by decide)) dL_law_1407 ?_
  have hPc := hP.sub (ws' := [(m0, .inr (10, [.int 0, .ref m_width, .ref m_many, .ref m_cells, .ref m_moved, .ref m_tape, .int 0, .int 0, .int 0, .int 0, .int 0, .long 0, .int 0, .int 0, .int 0, .int (-1), .ref m_lines, .ref m_hours, .ref m_courts, .ref m_in, .ref m_gates, .ref m_gate, .ref m_people, .ref m_at0, .ref m_stray, .ref m_set, .ref m_once, .ref m_truth, .ref m_known, .ref m_isKept, .int 0, .int (-1), .int 0, .int 0, .ref m_inside, .ref m_can, .ref m_fewest, .ref m_waysTo, .ref m_then, .ref m_two, .ref m_nextTwo, .ref m_three, .ref m_nextThree, .int (-1), .ref m_worth, .ref m_digit, .int 0, .long 0, .int 0, .int 0, .int 0, .int 0, .long 0])), (m_people, .inl (cm_people, 5, .inl (fun _ => 0)))]) [0, 1] rfl
  have hDc := hD.sub (ws' := [(m0, .inr (10, [.int 0, .ref m_width, .ref m_many, .ref m_cells, .ref m_moved, .ref m_tape, .int 0, .int 0, .int 0, .int 0, .int 0, .long 0, .int 0, .int 0, .int 0, .int (-1), .ref m_lines, .ref m_hours, .ref m_courts, .ref m_in, .ref m_gates, .ref m_gate, .ref m_people, .ref m_at0, .ref m_stray, .ref m_set, .ref m_once, .ref m_truth, .ref m_known, .ref m_isKept, .int 0, .int (-1), .int 0, .int 0, .ref m_inside, .ref m_can, .ref m_fewest, .ref m_waysTo, .ref m_then, .ref m_two, .ref m_nextTwo, .ref m_three, .ref m_nextThree, .int (-1), .ref m_worth, .ref m_digit, .int 0, .long 0, .int 0, .int 0, .int 0, .int 0, .long 0])), (m_people, .inl (cm_people, 5, .inl (fun _ => 0)))]) [0, 1] (by decide) rfl
  have hKc := hK.sub (tys' := [(cm_people, .int)]) [0] rfl
  have hFc := va_free (wc := [(m0, .inr (10, [.int 0, .ref m_width, .ref m_many, .ref m_cells, .ref m_moved, .ref m_tape, .int 0, .int 0, .int 0, .int 0, .int 0, .long 0, .int 0, .int 0, .int 0, .int (-1), .ref m_lines, .ref m_hours, .ref m_courts, .ref m_in, .ref m_gates, .ref m_gate, .ref m_people, .ref m_at0, .ref m_stray, .ref m_set, .ref m_once, .ref m_truth, .ref m_known, .ref m_isKept, .int 0, .int (-1), .int 0, .int 0, .ref m_inside, .ref m_can, .ref m_fewest, .ref m_waysTo, .ref m_then, .ref m_two, .ref m_nextTwo, .ref m_three, .ref m_nextThree, .int (-1), .ref m_worth, .ref m_digit, .int 0, .long 0, .int 0, .int 0, .int 0, .int 0, .long 0])), (m_people, .inl (cm_people, 5, .inl (fun _ => 0)))]) hD hS hA [0, 1] rfl
  refine va_calli (va_runV (As := [.int (xs (Int32.toNatClampNeg 1)), .int (xs (Int32.toNatClampNeg 2)), .int (xs (Int32.toNatClampNeg 3)), .int (xs (Int32.toNatClampNeg 4)), .int (xs (Int32.toNatClampNeg 5))]) (rest := [.int (-2)]) ⟨hx, hb, hml, hown, hts⟩ (k_X10_host l dC dI m0 (xs (Int32.toNatClampNeg 1)) (xs (Int32.toNatClampNeg 2)) (xs (Int32.toNatClampNeg 3)) (xs (Int32.toNatClampNeg 4)) (xs (Int32.toNatClampNeg 5)) m_width m_many m_cells m_moved m_tape m_lines m_hours m_courts m_in m_gates m_gate m_people m_at0 m_stray m_set m_once m_truth m_known m_isKept m_inside m_can m_fewest m_waysTo m_then m_two m_nextTwo m_three m_nextThree m_worth m_digit cm_people H.size) (cwV 5 hts (z_gV zw_t8_132 zw_t8_133 zw_t8_134 zw_t1_11 zw_t8_135) rfl rfl rfl (by decide +kernel) ⟨(Nat.le_of_ble_eq_true rfl), (Nat.le_of_ble_eq_true rfl)⟩) (z_preV hPc hKc hDc (ci := 10) (q0 := 0) rfl rfl) rfl rfl hl.1 rfl (lv_room (Nat.le_of_ble_eq_true rfl)) dL_law_1408 ⟨(Nat.le_of_ble_eq_true rfl), (Nat.le_of_ble_eq_true rfl)⟩) hS (fun q _ h => hFc q h) hFc (fun r_12 u t H1 locs ht hvm hw hB hz1 hk1 hS => ?_)
  have hB : zW dC dI [] [] (va_A [(m0, .inr (10, [.int 0, .ref m_width, .ref m_many, .ref m_cells, .ref m_moved, .ref m_tape, .int 0, .int 0, .int 0, .int 0, .int 0, .long 0, .int 0, .int 0, .int 0, .int (-1), .ref m_lines, .ref m_hours, .ref m_courts, .ref m_in, .ref m_gates, .ref m_gate, .ref m_people, .ref m_at0, .ref m_stray, .ref m_set, .ref m_once, .ref m_truth, .ref m_known, .ref m_isKept, .int 0, .int (-1), .int 0, .int 0, .ref m_inside, .ref m_can, .ref m_fewest, .ref m_waysTo, .ref m_then, .ref m_two, .ref m_nextTwo, .ref m_three, .ref m_nextThree, .int (-1), .ref m_worth, .ref m_digit, .int 0, .long 0, .int 0, .int 0, .int 0, .int 0, .long 0])), (m_people, .inl (cm_people, 5, .inl (fun _ => 0)))] H.size) t := z_none (va_K.moved hvm hK)
  obtain ⟨hP, hD, hK⟩ := z_after [] hB ht hvm hP hD hK [0, 1] [] rfl rfl (by decide) (by decide) hk1 hFc
  generalize H1 = H at hP hS ⊢
  have hP : va_P (dC, dI) vwCl [] H := hP
  have hD : va_D A [] := hD
  have hK : va_K (dC, dI) vwCl [(cm_people, .int)] s := hK
  obtain rfl : r_12 = (-2) := hw
  refine lv_icmp_eq (tgt := 2651) hx hb dL_law_1411 (by decide) (fun _ => ?_) (fun q => absurd q (by decide))
  exact law_tail C0 hA2 (Nat.le_of_ble_eq_true rfl) (Nat.le_of_ble_eq_true rfl) hS (lv_sub hl [0, 3] rfl)
