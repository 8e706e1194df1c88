theorem zw_t5_108 : Cond.methodLink RL 144 yX9_tells ∈ zT := zt_5 (List.mem_of_getElem? (i := 108) (by decide +kernel)) (by decide +kernel)
theorem zw_t5_109 : Cond.instanceMethod yX9_tells ∈ zT := zt_5 (List.mem_of_getElem? (i := 109) (by decide +kernel)) (by decide +kernel)
theorem zw_t5_110 : Cond.selects RX9 yX9_tells yX9_tells ∈ zT := zt_5 (List.mem_of_getElem? (i := 110) (by decide +kernel)) (by decide +kernel)
theorem zw_t5_111 : Cond.code yX9_tells cX9_tells 11 (some .int) ∈ zT := zt_5 (List.mem_of_getElem? (i := 111) (by decide +kernel)) (by decide +kernel)
theorem zw_t5_112 : Cond.methodLink RL 148 yX9_until ∈ zT := zt_5 (List.mem_of_getElem? (i := 112) (by decide +kernel)) (by decide +kernel)
theorem zw_t5_113 : Cond.instanceMethod yX9_until ∈ zT := zt_5 (List.mem_of_getElem? (i := 113) (by decide +kernel)) (by decide +kernel)
theorem zw_t5_114 : Cond.selects RX9 yX9_until yX9_until ∈ zT := zt_5 (List.mem_of_getElem? (i := 114) (by decide +kernel)) (by decide +kernel)
theorem zw_t5_115 : Cond.code yX9_until cX9_until 12 (some .int) ∈ zT := zt_5 (List.mem_of_getElem? (i := 115) (by decide +kernel)) (by decide +kernel)
theorem zw_t5_117 : Cond.methodLink RL 152 yX9_empty ∈ zT := zt_5 (List.mem_of_getElem? (i := 117) (by decide +kernel)) (by decide +kernel)
theorem zw_t5_118 : Cond.instanceMethod yX9_empty ∈ zT := zt_5 (List.mem_of_getElem? (i := 118) (by decide +kernel)) (by decide +kernel)
theorem zw_t5_119 : Cond.selects RX9 yX9_empty yX9_empty ∈ zT := zt_5 (List.mem_of_getElem? (i := 119) (by decide +kernel)) (by decide +kernel)
theorem zw_t5_120 : Cond.code yX9_empty cX9_empty 5 (some .int) ∈ zT := zt_5 (List.mem_of_getElem? (i := 120) (by decide +kernel)) (by decide +kernel)
theorem zw_t5_121 : Cond.methodLink RL 156 yX9_hollow ∈ zT := zt_5 (List.mem_of_getElem? (i := 121) (by decide +kernel)) (by decide +kernel)
theorem zw_t5_122 : Cond.instanceMethod yX9_hollow ∈ zT := zt_5 (List.mem_of_getElem? (i := 122) (by decide +kernel)) (by decide +kernel)
theorem zw_t5_123 : Cond.selects RX9 yX9_hollow yX9_hollow ∈ zT := zt_5 (List.mem_of_getElem? (i := 123) (by decide +kernel)) (by decide +kernel)
theorem zw_t5_124 : Cond.code yX9_hollow cX9_hollow 5 (some .int) ∈ zT := zt_5 (List.mem_of_getElem? (i := 124) (by decide +kernel)) (by decide +kernel)
theorem zw_t5_125 : Cond.methodLink RL 160 yX9_keeper ∈ zT := zt_5 (List.mem_of_getElem? (i := 125) (by decide +kernel)) (by decide +kernel)
theorem zw_t5_126 : Cond.instanceMethod yX9_keeper ∈ zT := zt_5 (List.mem_of_getElem? (i := 126) (by decide +kernel)) (by decide +kernel)
theorem zw_t5_127 : Cond.selects RX9 yX9_keeper yX9_keeper ∈ zT := zt_5 (List.mem_of_getElem? (i := 127) (by decide +kernel)) (by decide +kernel)
theorem zw_t5_128 : Cond.code yX9_keeper cX9_keeper 8 (some .int) ∈ zT := zt_5 (List.mem_of_getElem? (i := 128) (by decide +kernel)) (by decide +kernel)
theorem zw_t5_129 : Cond.methodLink RL 164 yX9_hear ∈ zT := zt_5 (List.mem_of_getElem? (i := 129) (by decide +kernel)) (by decide +kernel)
theorem zw_t5_130 : Cond.instanceMethod yX9_hear ∈ zT := zt_5 (List.mem_of_getElem? (i := 130) (by decide +kernel)) (by decide +kernel)
theorem zw_t5_131 : Cond.selects RX9 yX9_hear yX9_hear ∈ zT := zt_5 (List.mem_of_getElem? (i := 131) (by decide +kernel)) (by decide +kernel)
theorem zw_t5_132 : Cond.code yX9_hear cX9_hear 11 (some .int) ∈ zT := zt_5 (List.mem_of_getElem? (i := 132) (by decide +kernel)) (by decide +kernel)
theorem zw_t5_134 : Cond.methodLink RL 169 yX9_forget ∈ zT := zt_5 (List.mem_of_getElem? (i := 134) (by decide +kernel)) (by decide +kernel)
theorem zw_t5_135 : Cond.instanceMethod yX9_forget ∈ zT := zt_5 (List.mem_of_getElem? (i := 135) (by decide +kernel)) (by decide +kernel)
theorem zw_t5_136 : Cond.selects RX9 yX9_forget yX9_forget ∈ zT := zt_5 (List.mem_of_getElem? (i := 136) (by decide +kernel)) (by decide +kernel)
theorem zw_t5_137 : Cond.code yX9_forget cX9_forget 2 (some .int) ∈ zT := zt_5 (List.mem_of_getElem? (i := 137) (by decide +kernel)) (by decide +kernel)
theorem zw_t5_138 : Cond.methodLink RL 173 yX9_think ∈ zT := zt_5 (List.mem_of_getElem? (i := 138) (by decide +kernel)) (by decide +kernel)
theorem zw_t5_139 : Cond.instanceMethod yX9_think ∈ zT := zt_5 (List.mem_of_getElem? (i := 139) (by decide +kernel)) (by decide +kernel)
theorem zw_t5_140 : Cond.selects RX9 yX9_think yX9_think ∈ zT := zt_5 (List.mem_of_getElem? (i := 140) (by decide +kernel)) (by decide +kernel)
theorem zw_t5_141 : Cond.code yX9_think cX9_think 5 (some .int) ∈ zT := zt_5 (List.mem_of_getElem? (i := 141) (by decide +kernel)) (by decide +kernel)
theorem zw_t5_152 : Cond.methodLink RL 177 yX9_likely ∈ zT := zt_5 (List.mem_of_getElem? (i := 152) (by decide +kernel)) (by decide +kernel)
theorem zw_t5_153 : Cond.instanceMethod yX9_likely ∈ zT := zt_5 (List.mem_of_getElem? (i := 153) (by decide +kernel)) (by decide +kernel)
theorem zw_t5_154 : Cond.selects RX9 yX9_likely yX9_likely ∈ zT := zt_5 (List.mem_of_getElem? (i := 154) (by decide +kernel)) (by decide +kernel)
theorem zw_t5_155 : Cond.code yX9_likely cX9_likely 10 (some .int) ∈ zT := zt_5 (List.mem_of_getElem? (i := 155) (by decide +kernel)) (by decide +kernel)
theorem zw_t5_156 : Cond.methodLink RL 181 yX9_odds ∈ zT := zt_5 (List.mem_of_getElem? (i := 156) (by decide +kernel)) (by decide +kernel)
theorem zw_t5_157 : Cond.instanceMethod yX9_odds ∈ zT := zt_5 (List.mem_of_getElem? (i := 157) (by decide +kernel)) (by decide +kernel)
theorem zw_t5_158 : Cond.selects RX9 yX9_odds yX9_odds ∈ zT := zt_5 (List.mem_of_getElem? (i := 158) (by decide +kernel)) (by decide +kernel)
theorem zw_t5_159 : Cond.code yX9_odds cX9_odds 5 (some .long) ∈ zT := zt_5 (List.mem_of_getElem? (i := 159) (by decide +kernel)) (by decide +kernel)
theorem zw_t5_160 : Cond.methodLink RL 186 yX9_best ∈ zT := zt_5 (List.mem_of_getElem? (i := 160) (by decide +kernel)) (by decide +kernel)
theorem zw_t5_161 : Cond.instanceMethod yX9_best ∈ zT := zt_5 (List.mem_of_getElem? (i := 161) (by decide +kernel)) (by decide +kernel)
theorem zw_t5_162 : Cond.selects RX9 yX9_best yX9_best ∈ zT := zt_5 (List.mem_of_getElem? (i := 162) (by decide +kernel)) (by decide +kernel)
theorem zw_t5_163 : Cond.code yX9_best cX9_best 5 (some .int) ∈ zT := zt_5 (List.mem_of_getElem? (i := 163) (by decide +kernel)) (by decide +kernel)
theorem zw_t5_29 : Cond.methodLink RL 135 yX9_vital ∈ zT := zt_5 (List.mem_of_getElem? (i := 29) (by decide +kernel)) (by decide +kernel)
theorem zw_t5_30 : Cond.instanceMethod yX9_vital ∈ zT := zt_5 (List.mem_of_getElem? (i := 30) (by decide +kernel)) (by decide +kernel)
theorem zw_t5_31 : Cond.selects RX9 yX9_vital yX9_vital ∈ zT := zt_5 (List.mem_of_getElem? (i := 31) (by decide +kernel)) (by decide +kernel)
theorem zw_t5_32 : Cond.code yX9_vital cX9_vital 4 (some .int) ∈ zT := zt_5 (List.mem_of_getElem? (i := 32) (by decide +kernel)) (by decide +kernel)
theorem zw_t5_41 : Cond.methodLink RL 139 yX9_tell ∈ zT := zt_5 (List.mem_of_getElem? (i := 41) (by decide +kernel)) (by decide +kernel)
theorem zw_t5_42 : Cond.instanceMethod yX9_tell ∈ zT := zt_5 (List.mem_of_getElem? (i := 42) (by decide +kernel)) (by decide +kernel)
theorem zw_t5_43 : Cond.selects RX9 yX9_tell yX9_tell ∈ zT := zt_5 (List.mem_of_getElem? (i := 43) (by decide +kernel)) (by decide +kernel)
theorem zw_t5_44 : Cond.code yX9_tell cX9_tell 6 (some .long) ∈ zT := zt_5 (List.mem_of_getElem? (i := 44) (by decide +kernel)) (by decide +kernel)
theorem zw_t5_5 : Cond.methodLink RL 131 yX9_three ∈ zT := zt_5 (List.mem_of_getElem? (i := 5) (by decide +kernel)) (by decide +kernel)
theorem zw_t5_6 : Cond.instanceMethod yX9_three ∈ zT := zt_5 (List.mem_of_getElem? (i := 6) (by decide +kernel)) (by decide +kernel)
theorem zw_t5_7 : Cond.selects RX9 yX9_three yX9_three ∈ zT := zt_5 (List.mem_of_getElem? (i := 7) (by decide +kernel)) (by decide +kernel)
theorem zw_t5_8 : Cond.code yX9_three cX9_three 7 (some .int) ∈ zT := zt_5 (List.mem_of_getElem? (i := 8) (by decide +kernel)) (by decide +kernel)
theorem zw_t8_116 : Cond.methodLink RL 134 yX10_three ∈ zT := zt_8 (List.mem_of_getElem? (i := 116) (by decide +kernel)) (by decide +kernel)
theorem zw_t8_117 : Cond.instanceMethod yX10_three ∈ zT := zt_8 (List.mem_of_getElem? (i := 117) (by decide +kernel)) (by decide +kernel)
theorem zw_t8_118 : Cond.selects RX10 yX10_three yX10_three ∈ zT := zt_8 (List.mem_of_getElem? (i := 118) (by decide +kernel)) (by decide +kernel)
theorem zw_t8_119 : Cond.code yX10_three cX10_three 7 (some .int) ∈ zT := zt_8 (List.mem_of_getElem? (i := 119) (by decide +kernel)) (by decide +kernel)
theorem zw_t8_136 : Cond.methodLink RL 138 yX10_vital ∈ zT := zt_8 (List.mem_of_getElem? (i := 136) (by decide +kernel)) (by decide +kernel)
theorem zw_t8_137 : Cond.instanceMethod yX10_vital ∈ zT := zt_8 (List.mem_of_getElem? (i := 137) (by decide +kernel)) (by decide +kernel)
theorem zw_t8_138 : Cond.selects RX10 yX10_vital yX10_vital ∈ zT := zt_8 (List.mem_of_getElem? (i := 138) (by decide +kernel)) (by decide +kernel)
theorem zw_t8_139 : Cond.code yX10_vital cX10_vital 5 (some .int) ∈ zT := zt_8 (List.mem_of_getElem? (i := 139) (by decide +kernel)) (by decide +kernel)
theorem zw_t8_140 : Cond.methodLink RL 155 yX10_empty ∈ zT := zt_8 (List.mem_of_getElem? (i := 140) (by decide +kernel)) (by decide +kernel)
theorem zw_t8_141 : Cond.instanceMethod yX10_empty ∈ zT := zt_8 (List.mem_of_getElem? (i := 141) (by decide +kernel)) (by decide +kernel)
theorem zw_t8_142 : Cond.selects RX10 yX10_empty yX10_empty ∈ zT := zt_8 (List.mem_of_getElem? (i := 142) (by decide +kernel)) (by decide +kernel)
theorem zw_t8_143 : Cond.code yX10_empty cX10_empty 3 (some .int) ∈ zT := zt_8 (List.mem_of_getElem? (i := 143) (by decide +kernel)) (by decide +kernel)
theorem zw_t8_144 : Cond.methodLink RL 159 yX10_hollow ∈ zT := zt_8 (List.mem_of_getElem? (i := 144) (by decide +kernel)) (by decide +kernel)
theorem zw_t8_145 : Cond.instanceMethod yX10_hollow ∈ zT := zt_8 (List.mem_of_getElem? (i := 145) (by decide +kernel)) (by decide +kernel)
theorem zw_t8_146 : Cond.selects RX10 yX10_hollow yX10_hollow ∈ zT := zt_8 (List.mem_of_getElem? (i := 146) (by decide +kernel)) (by decide +kernel)
theorem zw_t8_147 : Cond.code yX10_hollow cX10_hollow 4 (some .int) ∈ zT := zt_8 (List.mem_of_getElem? (i := 147) (by decide +kernel)) (by decide +kernel)
theorem zw_t8_148 : Cond.methodLink RL 163 yX10_keeper ∈ zT := zt_8 (List.mem_of_getElem? (i := 148) (by decide +kernel)) (by decide +kernel)
theorem zw_t8_149 : Cond.instanceMethod yX10_keeper ∈ zT := zt_8 (List.mem_of_getElem? (i := 149) (by decide +kernel)) (by decide +kernel)
theorem zw_t8_150 : Cond.selects RX10 yX10_keeper yX10_keeper ∈ zT := zt_8 (List.mem_of_getElem? (i := 150) (by decide +kernel)) (by decide +kernel)
theorem zw_t8_151 : Cond.code yX10_keeper cX10_keeper 7 (some .int) ∈ zT := zt_8 (List.mem_of_getElem? (i := 151) (by decide +kernel)) (by decide +kernel)
theorem zw_t8_152 : Cond.methodLink RL 168 yX10_hear ∈ zT := zt_8 (List.mem_of_getElem? (i := 152) (by decide +kernel)) (by decide +kernel)
theorem zw_t8_153 : Cond.instanceMethod yX10_hear ∈ zT := zt_8 (List.mem_of_getElem? (i := 153) (by decide +kernel)) (by decide +kernel)
theorem zw_t8_154 : Cond.selects RX10 yX10_hear yX10_hear ∈ zT := zt_8 (List.mem_of_getElem? (i := 154) (by decide +kernel)) (by decide +kernel)
theorem zw_t8_155 : Cond.code yX10_hear cX10_hear 8 (some .int) ∈ zT := zt_8 (List.mem_of_getElem? (i := 155) (by decide +kernel)) (by decide +kernel)
theorem zw_t8_156 : Cond.methodLink RL 172 yX10_forget ∈ zT := zt_8 (List.mem_of_getElem? (i := 156) (by decide +kernel)) (by decide +kernel)
theorem zw_t8_157 : Cond.instanceMethod yX10_forget ∈ zT := zt_8 (List.mem_of_getElem? (i := 157) (by decide +kernel)) (by decide +kernel)
theorem zw_t8_158 : Cond.selects RX10 yX10_forget yX10_forget ∈ zT := zt_8 (List.mem_of_getElem? (i := 158) (by decide +kernel)) (by decide +kernel)
theorem zw_t8_159 : Cond.code yX10_forget cX10_forget 3 (some .int) ∈ zT := zt_8 (List.mem_of_getElem? (i := 159) (by decide +kernel)) (by decide +kernel)
theorem zw_t8_164 : Cond.methodLink RL 176 yX10_think ∈ zT := zt_8 (List.mem_of_getElem? (i := 164) (by decide +kernel)) (by decide +kernel)
theorem zw_t8_165 : Cond.instanceMethod yX10_think ∈ zT := zt_8 (List.mem_of_getElem? (i := 165) (by decide +kernel)) (by decide +kernel)
theorem zw_t8_166 : Cond.selects RX10 yX10_think yX10_think ∈ zT := zt_8 (List.mem_of_getElem? (i := 166) (by decide +kernel)) (by decide +kernel)
theorem zw_t8_167 : Cond.code yX10_think cX10_think 4 (some .int) ∈ zT := zt_8 (List.mem_of_getElem? (i := 167) (by decide +kernel)) (by decide +kernel)
theorem zw_t8_176 : Cond.methodLink RL 180 yX10_likely ∈ zT := zt_8 (List.mem_of_getElem? (i := 176) (by decide +kernel)) (by decide +kernel)
theorem zw_t8_177 : Cond.instanceMethod yX10_likely ∈ zT := zt_8 (List.mem_of_getElem? (i := 177) (by decide +kernel)) (by decide +kernel)
theorem zw_t8_178 : Cond.selects RX10 yX10_likely yX10_likely ∈ zT := zt_8 (List.mem_of_getElem? (i := 178) (by decide +kernel)) (by decide +kernel)
theorem zw_t8_179 : Cond.code yX10_likely cX10_likely 10 (some .int) ∈ zT := zt_8 (List.mem_of_getElem? (i := 179) (by decide +kernel)) (by decide +kernel)
theorem zw_t8_180 : Cond.methodLink RL 185 yX10_odds ∈ zT := zt_8 (List.mem_of_getElem? (i := 180) (by decide +kernel)) (by decide +kernel)
theorem zw_t8_181 : Cond.instanceMethod yX10_odds ∈ zT := zt_8 (List.mem_of_getElem? (i := 181) (by decide +kernel)) (by decide +kernel)
theorem zw_t8_182 : Cond.selects RX10 yX10_odds yX10_odds ∈ zT := zt_8 (List.mem_of_getElem? (i := 182) (by decide +kernel)) (by decide +kernel)
theorem zw_t8_183 : Cond.code yX10_odds cX10_odds 5 (some .long) ∈ zT := zt_8 (List.mem_of_getElem? (i := 183) (by decide +kernel)) (by decide +kernel)
theorem zw_t8_226 : Cond.methodLink RL 189 yX10_best ∈ zT := zt_8 (List.mem_of_getElem? (i := 226) (by decide +kernel)) (by decide +kernel)
theorem zw_t8_227 : Cond.instanceMethod yX10_best ∈ zT := zt_8 (List.mem_of_getElem? (i := 227) (by decide +kernel)) (by decide +kernel)
theorem zw_t8_228 : Cond.selects RX10 yX10_best yX10_best ∈ zT := zt_8 (List.mem_of_getElem? (i := 228) (by decide +kernel)) (by decide +kernel)
theorem zw_t8_229 : Cond.code yX10_best cX10_best 5 (some .int) ∈ zT := zt_8 (List.mem_of_getElem? (i := 229) (by decide +kernel)) (by decide +kernel)
theorem zw_t9_14 : Cond.methodLink RL 147 yX10_tells ∈ zT := zt_9 (List.mem_of_getElem? (i := 14) (by decide +kernel)) (by decide +kernel)
theorem zw_t9_15 : Cond.instanceMethod yX10_tells ∈ zT := zt_9 (List.mem_of_getElem? (i := 15) (by decide +kernel)) (by decide +kernel)
theorem zw_t9_16 : Cond.selects RX10 yX10_tells yX10_tells ∈ zT := zt_9 (List.mem_of_getElem? (i := 16) (by decide +kernel)) (by decide +kernel)
theorem zw_t9_17 : Cond.code yX10_tells cX10_tells 11 (some .int) ∈ zT := zt_9 (List.mem_of_getElem? (i := 17) (by decide +kernel)) (by decide +kernel)
theorem zw_t9_18 : Cond.methodLink RL 151 yX10_until ∈ zT := zt_9 (List.mem_of_getElem? (i := 18) (by decide +kernel)) (by decide +kernel)
theorem zw_t9_19 : Cond.instanceMethod yX10_until ∈ zT := zt_9 (List.mem_of_getElem? (i := 19) (by decide +kernel)) (by decide +kernel)
theorem zw_t9_20 : Cond.selects RX10 yX10_until yX10_until ∈ zT := zt_9 (List.mem_of_getElem? (i := 20) (by decide +kernel)) (by decide +kernel)
theorem zw_t9_21 : Cond.code yX10_until cX10_until 6 (some .int) ∈ zT := zt_9 (List.mem_of_getElem? (i := 21) (by decide +kernel)) (by decide +kernel)
theorem zw_t9_6 : Cond.methodLink RL 143 yX10_tell ∈ zT := zt_9 (List.mem_of_getElem? (i := 6) (by decide +kernel)) (by decide +kernel)
theorem zw_t9_7 : Cond.instanceMethod yX10_tell ∈ zT := zt_9 (List.mem_of_getElem? (i := 7) (by decide +kernel)) (by decide +kernel)
theorem zw_t9_8 : Cond.selects RX10 yX10_tell yX10_tell ∈ zT := zt_9 (List.mem_of_getElem? (i := 8) (by decide +kernel)) (by decide +kernel)
theorem zw_t9_9 : Cond.code yX10_tell cX10_tell 6 (some .long) ∈ zT := zt_9 (List.mem_of_getElem? (i := 9) (by decide +kernel)) (by decide +kernel)
theorem dL_law_1416 : decode cL_law 1416 = .ok (.aload_n 1, 1) := by decide +kernel
theorem dL_law_1417 : decode cL_law 1417 = .ok (.aload_n 0, 1) := by decide +kernel
theorem dL_law_1418 : decode cL_law 1418 = .ok (.iload_n 3, 1) := by decide +kernel
theorem dL_law_1419 : decode cL_law 1419 = .ok (.iconst 1, 1) := by decide +kernel
theorem dL_law_1420 : decode cL_law 1420 = .ok (.iadd, 1) := by decide +kernel
theorem dL_law_1421 : decode cL_law 1421 = .ok (.iaload, 1) := by decide +kernel
theorem dL_law_1422 : decode cL_law 1422 = .ok (.aload_n 0, 1) := by decide +kernel
theorem dL_law_1423 : decode cL_law 1423 = .ok (.iload_n 3, 1) := by decide +kernel
theorem dL_law_1424 : decode cL_law 1424 = .ok (.iconst 2, 1) := by decide +kernel
theorem dL_law_1425 : decode cL_law 1425 = .ok (.iadd, 1) := by decide +kernel
theorem dL_law_1426 : decode cL_law 1426 = .ok (.iaload, 1) := by decide +kernel
theorem dL_law_1427 : decode cL_law 1427 = .ok (.aload_n 0, 1) := by decide +kernel
theorem dL_law_1428 : decode cL_law 1428 = .ok (.iload_n 3, 1) := by decide +kernel
theorem dL_law_1429 : decode cL_law 1429 = .ok (.iconst 3, 1) := by decide +kernel
theorem dL_law_1430 : decode cL_law 1430 = .ok (.iadd, 1) := by decide +kernel
theorem dL_law_1431 : decode cL_law 1431 = .ok (.iaload, 1) := by decide +kernel
theorem dL_law_1432 : decode cL_law 1432 = .ok (.aload_n 0, 1) := by decide +kernel
theorem dL_law_1433 : decode cL_law 1433 = .ok (.iload_n 3, 1) := by decide +kernel
theorem dL_law_1434 : decode cL_law 1434 = .ok (.iconst 4, 1) := by decide +kernel
theorem dL_law_1435 : decode cL_law 1435 = .ok (.iadd, 1) := by decide +kernel
theorem dL_law_1436 : decode cL_law 1436 = .ok (.iaload, 1) := by decide +kernel
theorem dL_law_1437 : decode cL_law 1437 = .ok (.aload_n 0, 1) := by decide +kernel
theorem dL_law_1438 : decode cL_law 1438 = .ok (.iload_n 3, 1) := by decide +kernel
theorem dL_law_1439 : decode cL_law 1439 = .ok (.iconst 5, 1) := by decide +kernel
theorem dL_law_1440 : decode cL_law 1440 = .ok (.iadd, 1) := by decide +kernel
theorem dL_law_1441 : decode cL_law 1441 = .ok (.iaload, 1) := by decide +kernel
theorem dL_law_1442 : decode cL_law 1442 = .ok (.invokevirtual 131, 3) := by decide +kernel
theorem dL_law_1445 : decode cL_law 1445 = .ok (.aload_n 2, 1) := by decide +kernel
theorem dL_law_1446 : decode cL_law 1446 = .ok (.aload_n 0, 1) := by decide +kernel
theorem dL_law_1447 : decode cL_law 1447 = .ok (.iload_n 3, 1) := by decide +kernel
theorem dL_law_1448 : decode cL_law 1448 = .ok (.iconst 1, 1) := by decide +kernel
theorem dL_law_1449 : decode cL_law 1449 = .ok (.iadd, 1) := by decide +kernel
theorem dL_law_1450 : decode cL_law 1450 = .ok (.iaload, 1) := by decide +kernel
theorem dL_law_1451 : decode cL_law 1451 = .ok (.aload_n 0, 1) := by decide +kernel
theorem dL_law_1452 : decode cL_law 1452 = .ok (.iload_n 3, 1) := by decide +kernel
theorem dL_law_1453 : decode cL_law 1453 = .ok (.iconst 2, 1) := by decide +kernel
theorem dL_law_1454 : decode cL_law 1454 = .ok (.iadd, 1) := by decide +kernel
theorem dL_law_1455 : decode cL_law 1455 = .ok (.iaload, 1) := by decide +kernel
theorem dL_law_1456 : decode cL_law 1456 = .ok (.aload_n 0, 1) := by decide +kernel
theorem dL_law_1457 : decode cL_law 1457 = .ok (.iload_n 3, 1) := by decide +kernel
theorem dL_law_1458 : decode cL_law 1458 = .ok (.iconst 3, 1) := by decide +kernel
theorem dL_law_1459 : decode cL_law 1459 = .ok (.iadd, 1) := by decide +kernel
theorem dL_law_1460 : decode cL_law 1460 = .ok (.iaload, 1) := by decide +kernel
theorem dL_law_1461 : decode cL_law 1461 = .ok (.aload_n 0, 1) := by decide +kernel
theorem dL_law_1462 : decode cL_law 1462 = .ok (.iload_n 3, 1) := by decide +kernel
theorem dL_law_1463 : decode cL_law 1463 = .ok (.iconst 4, 1) := by decide +kernel
theorem dL_law_1464 : decode cL_law 1464 = .ok (.iadd, 1) := by decide +kernel
theorem dL_law_1465 : decode cL_law 1465 = .ok (.iaload, 1) := by decide +kernel
theorem dL_law_1466 : decode cL_law 1466 = .ok (.aload_n 0, 1) := by decide +kernel
theorem dL_law_1467 : decode cL_law 1467 = .ok (.iload_n 3, 1) := by decide +kernel
theorem dL_law_1468 : decode cL_law 1468 = .ok (.iconst 5, 1) := by decide +kernel
theorem dL_law_1469 : decode cL_law 1469 = .ok (.iadd, 1) := by decide +kernel
theorem dL_law_1470 : decode cL_law 1470 = .ok (.iaload, 1) := by decide +kernel
theorem dL_law_1471 : decode cL_law 1471 = .ok (.invokevirtual 134, 3) := by decide +kernel
theorem dL_law_1474 : decode cL_law 1474 = .ok (.if_icmp .eq 1177, 3) := by decide +kernel
theorem dL_law_1479 : decode cL_law 1479 = .ok (.aload_n 1, 1) := by decide +kernel
theorem dL_law_1480 : decode cL_law 1480 = .ok (.aload_n 0, 1) := by decide +kernel
theorem dL_law_1481 : decode cL_law 1481 = .ok (.iload_n 3, 1) := by decide +kernel
theorem dL_law_1482 : decode cL_law 1482 = .ok (.iconst 1, 1) := by decide +kernel
theorem dL_law_1483 : decode cL_law 1483 = .ok (.iadd, 1) := by decide +kernel
theorem dL_law_1484 : decode cL_law 1484 = .ok (.iaload, 1) := by decide +kernel
theorem dL_law_1485 : decode cL_law 1485 = .ok (.aload_n 0, 1) := by decide +kernel
theorem dL_law_1486 : decode cL_law 1486 = .ok (.iload_n 3, 1) := by decide +kernel
theorem dL_law_1487 : decode cL_law 1487 = .ok (.iconst 2, 1) := by decide +kernel
theorem dL_law_1488 : decode cL_law 1488 = .ok (.iadd, 1) := by decide +kernel
theorem dL_law_1489 : decode cL_law 1489 = .ok (.iaload, 1) := by decide +kernel
theorem dL_law_1490 : decode cL_law 1490 = .ok (.aload_n 0, 1) := by decide +kernel
theorem dL_law_1491 : decode cL_law 1491 = .ok (.iload_n 3, 1) := by decide +kernel
theorem dL_law_1492 : decode cL_law 1492 = .ok (.iconst 3, 1) := by decide +kernel
theorem dL_law_1493 : decode cL_law 1493 = .ok (.iadd, 1) := by decide +kernel
theorem dL_law_1494 : decode cL_law 1494 = .ok (.iaload, 1) := by decide +kernel
theorem dL_law_1495 : decode cL_law 1495 = .ok (.invokevirtual 135, 3) := by decide +kernel
theorem dL_law_1498 : decode cL_law 1498 = .ok (.aload_n 2, 1) := by decide +kernel
theorem dL_law_1499 : decode cL_law 1499 = .ok (.aload_n 0, 1) := by decide +kernel
theorem dL_law_1500 : decode cL_law 1500 = .ok (.iload_n 3, 1) := by decide +kernel
theorem dL_law_1501 : decode cL_law 1501 = .ok (.iconst 1, 1) := by decide +kernel
theorem dL_law_1502 : decode cL_law 1502 = .ok (.iadd, 1) := by decide +kernel
theorem dL_law_1503 : decode cL_law 1503 = .ok (.iaload, 1) := by decide +kernel
theorem dL_law_1504 : decode cL_law 1504 = .ok (.aload_n 0, 1) := by decide +kernel
theorem dL_law_1505 : decode cL_law 1505 = .ok (.iload_n 3, 1) := by decide +kernel
theorem dL_law_1506 : decode cL_law 1506 = .ok (.iconst 2, 1) := by decide +kernel
theorem dL_law_1507 : decode cL_law 1507 = .ok (.iadd, 1) := by decide +kernel
theorem dL_law_1508 : decode cL_law 1508 = .ok (.iaload, 1) := by decide +kernel
theorem dL_law_1509 : decode cL_law 1509 = .ok (.aload_n 0, 1) := by decide +kernel
theorem dL_law_1510 : decode cL_law 1510 = .ok (.iload_n 3, 1) := by decide +kernel
theorem dL_law_1511 : decode cL_law 1511 = .ok (.iconst 3, 1) := by decide +kernel
theorem dL_law_1512 : decode cL_law 1512 = .ok (.iadd, 1) := by decide +kernel
theorem dL_law_1513 : decode cL_law 1513 = .ok (.iaload, 1) := by decide +kernel
theorem dL_law_1514 : decode cL_law 1514 = .ok (.invokevirtual 138, 3) := by decide +kernel
theorem dL_law_1517 : decode cL_law 1517 = .ok (.if_icmp .eq 1134, 3) := by decide +kernel
theorem dL_law_1522 : decode cL_law 1522 = .ok (.aload_n 1, 1) := by decide +kernel
theorem dL_law_1523 : decode cL_law 1523 = .ok (.aload_n 0, 1) := by decide +kernel
theorem dL_law_1524 : decode cL_law 1524 = .ok (.iload_n 3, 1) := by decide +kernel
theorem dL_law_1525 : decode cL_law 1525 = .ok (.iconst 1, 1) := by decide +kernel
theorem dL_law_1526 : decode cL_law 1526 = .ok (.iadd, 1) := by decide +kernel
theorem dL_law_1527 : decode cL_law 1527 = .ok (.iaload, 1) := by decide +kernel
theorem dL_law_1528 : decode cL_law 1528 = .ok (.aload_n 0, 1) := by decide +kernel
theorem dL_law_1529 : decode cL_law 1529 = .ok (.iload_n 3, 1) := by decide +kernel
theorem dL_law_1530 : decode cL_law 1530 = .ok (.iconst 2, 1) := by decide +kernel
theorem dL_law_1531 : decode cL_law 1531 = .ok (.iadd, 1) := by decide +kernel
theorem dL_law_1532 : decode cL_law 1532 = .ok (.iaload, 1) := by decide +kernel
theorem dL_law_1533 : decode cL_law 1533 = .ok (.aload_n 0, 1) := by decide +kernel
theorem dL_law_1534 : decode cL_law 1534 = .ok (.iload_n 3, 1) := by decide +kernel
theorem dL_law_1535 : decode cL_law 1535 = .ok (.iconst 3, 1) := by decide +kernel
theorem dL_law_1536 : decode cL_law 1536 = .ok (.iadd, 1) := by decide +kernel
theorem dL_law_1537 : decode cL_law 1537 = .ok (.iaload, 1) := by decide +kernel
theorem dL_law_1538 : decode cL_law 1538 = .ok (.aload_n 0, 1) := by decide +kernel
theorem dL_law_1539 : decode cL_law 1539 = .ok (.iload_n 3, 1) := by decide +kernel
theorem dL_law_1540 : decode cL_law 1540 = .ok (.iconst 4, 1) := by decide +kernel
theorem dL_law_1541 : decode cL_law 1541 = .ok (.iadd, 1) := by decide +kernel
theorem dL_law_1542 : decode cL_law 1542 = .ok (.iaload, 1) := by decide +kernel
theorem dL_law_1543 : decode cL_law 1543 = .ok (.aload_n 0, 1) := by decide +kernel
theorem dL_law_1544 : decode cL_law 1544 = .ok (.iload_n 3, 1) := by decide +kernel
theorem dL_law_1545 : decode cL_law 1545 = .ok (.iconst 5, 1) := by decide +kernel
theorem dL_law_1546 : decode cL_law 1546 = .ok (.iadd, 1) := by decide +kernel
theorem dL_law_1547 : decode cL_law 1547 = .ok (.iaload, 1) := by decide +kernel
theorem dL_law_1548 : decode cL_law 1548 = .ok (.invokevirtual 139, 3) := by decide +kernel
theorem dL_law_1551 : decode cL_law 1551 = .ok (.aload_n 2, 1) := by decide +kernel
theorem dL_law_1552 : decode cL_law 1552 = .ok (.aload_n 0, 1) := by decide +kernel
theorem dL_law_1553 : decode cL_law 1553 = .ok (.iload_n 3, 1) := by decide +kernel
theorem dL_law_1554 : decode cL_law 1554 = .ok (.iconst 1, 1) := by decide +kernel
theorem dL_law_1555 : decode cL_law 1555 = .ok (.iadd, 1) := by decide +kernel
theorem dL_law_1556 : decode cL_law 1556 = .ok (.iaload, 1) := by decide +kernel
theorem dL_law_1557 : decode cL_law 1557 = .ok (.aload_n 0, 1) := by decide +kernel
theorem dL_law_1558 : decode cL_law 1558 = .ok (.iload_n 3, 1) := by decide +kernel
theorem dL_law_1559 : decode cL_law 1559 = .ok (.iconst 2, 1) := by decide +kernel
theorem dL_law_1560 : decode cL_law 1560 = .ok (.iadd, 1) := by decide +kernel
theorem dL_law_1561 : decode cL_law 1561 = .ok (.iaload, 1) := by decide +kernel
theorem dL_law_1562 : decode cL_law 1562 = .ok (.aload_n 0, 1) := by decide +kernel
theorem dL_law_1563 : decode cL_law 1563 = .ok (.iload_n 3, 1) := by decide +kernel
theorem dL_law_1564 : decode cL_law 1564 = .ok (.iconst 3, 1) := by decide +kernel
theorem dL_law_1565 : decode cL_law 1565 = .ok (.iadd, 1) := by decide +kernel
theorem dL_law_1566 : decode cL_law 1566 = .ok (.iaload, 1) := by decide +kernel
theorem dL_law_1567 : decode cL_law 1567 = .ok (.aload_n 0, 1) := by decide +kernel
theorem dL_law_1568 : decode cL_law 1568 = .ok (.iload_n 3, 1) := by decide +kernel
theorem dL_law_1569 : decode cL_law 1569 = .ok (.iconst 4, 1) := by decide +kernel
theorem dL_law_1570 : decode cL_law 1570 = .ok (.iadd, 1) := by decide +kernel
theorem dL_law_1571 : decode cL_law 1571 = .ok (.iaload, 1) := by decide +kernel
theorem dL_law_1572 : decode cL_law 1572 = .ok (.aload_n 0, 1) := by decide +kernel
theorem dL_law_1573 : decode cL_law 1573 = .ok (.iload_n 3, 1) := by decide +kernel
theorem dL_law_1574 : decode cL_law 1574 = .ok (.iconst 5, 1) := by decide +kernel
theorem dL_law_1575 : decode cL_law 1575 = .ok (.iadd, 1) := by decide +kernel
theorem dL_law_1576 : decode cL_law 1576 = .ok (.iaload, 1) := by decide +kernel
theorem dL_law_1577 : decode cL_law 1577 = .ok (.invokevirtual 143, 3) := by decide +kernel
theorem dL_law_1580 : decode cL_law 1580 = .ok (.lcmp, 1) := by decide +kernel
theorem dL_law_1581 : decode cL_law 1581 = .ok (.ifCond .eq 1070, 3) := by decide +kernel
theorem dL_law_1586 : decode cL_law 1586 = .ok (.aload_n 1, 1) := by decide +kernel
theorem dL_law_1587 : decode cL_law 1587 = .ok (.aload_n 0, 1) := by decide +kernel
theorem dL_law_1588 : decode cL_law 1588 = .ok (.iload_n 3, 1) := by decide +kernel
theorem dL_law_1589 : decode cL_law 1589 = .ok (.iconst 1, 1) := by decide +kernel
theorem dL_law_1590 : decode cL_law 1590 = .ok (.iadd, 1) := by decide +kernel
theorem dL_law_1591 : decode cL_law 1591 = .ok (.iaload, 1) := by decide +kernel
theorem dL_law_1592 : decode cL_law 1592 = .ok (.aload_n 0, 1) := by decide +kernel
theorem dL_law_1593 : decode cL_law 1593 = .ok (.iload_n 3, 1) := by decide +kernel
theorem dL_law_1594 : decode cL_law 1594 = .ok (.iconst 2, 1) := by decide +kernel
theorem dL_law_1595 : decode cL_law 1595 = .ok (.iadd, 1) := by decide +kernel
theorem dL_law_1596 : decode cL_law 1596 = .ok (.iaload, 1) := by decide +kernel
theorem dL_law_1597 : decode cL_law 1597 = .ok (.aload_n 0, 1) := by decide +kernel
theorem dL_law_1598 : decode cL_law 1598 = .ok (.iload_n 3, 1) := by decide +kernel
theorem dL_law_1599 : decode cL_law 1599 = .ok (.iconst 3, 1) := by decide +kernel
theorem dL_law_1600 : decode cL_law 1600 = .ok (.iadd, 1) := by decide +kernel
theorem dL_law_1601 : decode cL_law 1601 = .ok (.iaload, 1) := by decide +kernel
theorem dL_law_1602 : decode cL_law 1602 = .ok (.aload_n 0, 1) := by decide +kernel
theorem dL_law_1603 : decode cL_law 1603 = .ok (.iload_n 3, 1) := by decide +kernel
theorem dL_law_1604 : decode cL_law 1604 = .ok (.iconst 4, 1) := by decide +kernel
theorem dL_law_1605 : decode cL_law 1605 = .ok (.iadd, 1) := by decide +kernel
theorem dL_law_1606 : decode cL_law 1606 = .ok (.iaload, 1) := by decide +kernel
theorem dL_law_1607 : decode cL_law 1607 = .ok (.invokevirtual 144, 3) := by decide +kernel
theorem dL_law_1610 : decode cL_law 1610 = .ok (.aload_n 2, 1) := by decide +kernel
theorem dL_law_1611 : decode cL_law 1611 = .ok (.aload_n 0, 1) := by decide +kernel
theorem dL_law_1612 : decode cL_law 1612 = .ok (.iload_n 3, 1) := by decide +kernel
theorem dL_law_1613 : decode cL_law 1613 = .ok (.iconst 1, 1) := by decide +kernel
theorem dL_law_1614 : decode cL_law 1614 = .ok (.iadd, 1) := by decide +kernel
theorem dL_law_1615 : decode cL_law 1615 = .ok (.iaload, 1) := by decide +kernel
theorem dL_law_1616 : decode cL_law 1616 = .ok (.aload_n 0, 1) := by decide +kernel
theorem dL_law_1617 : decode cL_law 1617 = .ok (.iload_n 3, 1) := by decide +kernel
theorem dL_law_1618 : decode cL_law 1618 = .ok (.iconst 2, 1) := by decide +kernel
theorem dL_law_1619 : decode cL_law 1619 = .ok (.iadd, 1) := by decide +kernel
theorem dL_law_1620 : decode cL_law 1620 = .ok (.iaload, 1) := by decide +kernel
theorem dL_law_1621 : decode cL_law 1621 = .ok (.aload_n 0, 1) := by decide +kernel
theorem dL_law_1622 : decode cL_law 1622 = .ok (.iload_n 3, 1) := by decide +kernel
theorem dL_law_1623 : decode cL_law 1623 = .ok (.iconst 3, 1) := by decide +kernel
theorem dL_law_1624 : decode cL_law 1624 = .ok (.iadd, 1) := by decide +kernel
theorem dL_law_1625 : decode cL_law 1625 = .ok (.iaload, 1) := by decide +kernel
theorem dL_law_1626 : decode cL_law 1626 = .ok (.aload_n 0, 1) := by decide +kernel
theorem dL_law_1627 : decode cL_law 1627 = .ok (.iload_n 3, 1) := by decide +kernel
theorem dL_law_1628 : decode cL_law 1628 = .ok (.iconst 4, 1) := by decide +kernel
theorem dL_law_1629 : decode cL_law 1629 = .ok (.iadd, 1) := by decide +kernel
theorem dL_law_1630 : decode cL_law 1630 = .ok (.iaload, 1) := by decide +kernel
theorem dL_law_1631 : decode cL_law 1631 = .ok (.invokevirtual 147, 3) := by decide +kernel
theorem dL_law_1634 : decode cL_law 1634 = .ok (.if_icmp .eq 1017, 3) := by decide +kernel
theorem dL_law_1639 : decode cL_law 1639 = .ok (.aload_n 1, 1) := by decide +kernel
theorem dL_law_1640 : decode cL_law 1640 = .ok (.aload_n 0, 1) := by decide +kernel
theorem dL_law_1641 : decode cL_law 1641 = .ok (.iload_n 3, 1) := by decide +kernel
theorem dL_law_1642 : decode cL_law 1642 = .ok (.iconst 1, 1) := by decide +kernel
theorem dL_law_1643 : decode cL_law 1643 = .ok (.iadd, 1) := by decide +kernel
theorem dL_law_1644 : decode cL_law 1644 = .ok (.iaload, 1) := by decide +kernel
theorem dL_law_1645 : decode cL_law 1645 = .ok (.aload_n 0, 1) := by decide +kernel
theorem dL_law_1646 : decode cL_law 1646 = .ok (.iload_n 3, 1) := by decide +kernel
theorem dL_law_1647 : decode cL_law 1647 = .ok (.iconst 2, 1) := by decide +kernel
theorem dL_law_1648 : decode cL_law 1648 = .ok (.iadd, 1) := by decide +kernel
theorem dL_law_1649 : decode cL_law 1649 = .ok (.iaload, 1) := by decide +kernel
theorem dL_law_1650 : decode cL_law 1650 = .ok (.aload_n 0, 1) := by decide +kernel
theorem dL_law_1651 : decode cL_law 1651 = .ok (.iload_n 3, 1) := by decide +kernel
theorem dL_law_1652 : decode cL_law 1652 = .ok (.iconst 3, 1) := by decide +kernel
theorem dL_law_1653 : decode cL_law 1653 = .ok (.iadd, 1) := by decide +kernel
theorem dL_law_1654 : decode cL_law 1654 = .ok (.iaload, 1) := by decide +kernel
theorem dL_law_1655 : decode cL_law 1655 = .ok (.aload_n 0, 1) := by decide +kernel
theorem dL_law_1656 : decode cL_law 1656 = .ok (.iload_n 3, 1) := by decide +kernel
theorem dL_law_1657 : decode cL_law 1657 = .ok (.iconst 4, 1) := by decide +kernel
theorem dL_law_1658 : decode cL_law 1658 = .ok (.iadd, 1) := by decide +kernel
theorem dL_law_1659 : decode cL_law 1659 = .ok (.iaload, 1) := by decide +kernel
theorem dL_law_1660 : decode cL_law 1660 = .ok (.invokevirtual 148, 3) := by decide +kernel
theorem dL_law_1663 : decode cL_law 1663 = .ok (.aload_n 2, 1) := by decide +kernel
theorem dL_law_1664 : decode cL_law 1664 = .ok (.aload_n 0, 1) := by decide +kernel
theorem dL_law_1665 : decode cL_law 1665 = .ok (.iload_n 3, 1) := by decide +kernel
theorem dL_law_1666 : decode cL_law 1666 = .ok (.iconst 1, 1) := by decide +kernel
theorem dL_law_1667 : decode cL_law 1667 = .ok (.iadd, 1) := by decide +kernel
theorem dL_law_1668 : decode cL_law 1668 = .ok (.iaload, 1) := by decide +kernel
theorem dL_law_1669 : decode cL_law 1669 = .ok (.aload_n 0, 1) := by decide +kernel
theorem dL_law_1670 : decode cL_law 1670 = .ok (.iload_n 3, 1) := by decide +kernel
theorem dL_law_1671 : decode cL_law 1671 = .ok (.iconst 2, 1) := by decide +kernel
theorem dL_law_1672 : decode cL_law 1672 = .ok (.iadd, 1) := by decide +kernel
theorem dL_law_1673 : decode cL_law 1673 = .ok (.iaload, 1) := by decide +kernel
theorem dL_law_1674 : decode cL_law 1674 = .ok (.aload_n 0, 1) := by decide +kernel
theorem dL_law_1675 : decode cL_law 1675 = .ok (.iload_n 3, 1) := by decide +kernel
theorem dL_law_1676 : decode cL_law 1676 = .ok (.iconst 3, 1) := by decide +kernel
theorem dL_law_1677 : decode cL_law 1677 = .ok (.iadd, 1) := by decide +kernel
theorem dL_law_1678 : decode cL_law 1678 = .ok (.iaload, 1) := by decide +kernel
theorem dL_law_1679 : decode cL_law 1679 = .ok (.aload_n 0, 1) := by decide +kernel
theorem dL_law_1680 : decode cL_law 1680 = .ok (.iload_n 3, 1) := by decide +kernel
theorem dL_law_1681 : decode cL_law 1681 = .ok (.iconst 4, 1) := by decide +kernel
theorem dL_law_1682 : decode cL_law 1682 = .ok (.iadd, 1) := by decide +kernel
theorem dL_law_1683 : decode cL_law 1683 = .ok (.iaload, 1) := by decide +kernel
theorem dL_law_1684 : decode cL_law 1684 = .ok (.invokevirtual 151, 3) := by decide +kernel
theorem dL_law_1687 : decode cL_law 1687 = .ok (.if_icmp .eq 964, 3) := by decide +kernel
theorem dL_law_1692 : decode cL_law 1692 = .ok (.aload_n 1, 1) := by decide +kernel
theorem dL_law_1693 : decode cL_law 1693 = .ok (.aload_n 0, 1) := by decide +kernel
theorem dL_law_1694 : decode cL_law 1694 = .ok (.iload_n 3, 1) := by decide +kernel
theorem dL_law_1695 : decode cL_law 1695 = .ok (.iconst 1, 1) := by decide +kernel
theorem dL_law_1696 : decode cL_law 1696 = .ok (.iadd, 1) := by decide +kernel
theorem dL_law_1697 : decode cL_law 1697 = .ok (.iaload, 1) := by decide +kernel
theorem dL_law_1698 : decode cL_law 1698 = .ok (.invokevirtual 152, 3) := by decide +kernel
theorem dL_law_1701 : decode cL_law 1701 = .ok (.aload_n 2, 1) := by decide +kernel
theorem dL_law_1702 : decode cL_law 1702 = .ok (.aload_n 0, 1) := by decide +kernel
theorem dL_law_1703 : decode cL_law 1703 = .ok (.iload_n 3, 1) := by decide +kernel
theorem dL_law_1704 : decode cL_law 1704 = .ok (.iconst 1, 1) := by decide +kernel
theorem dL_law_1705 : decode cL_law 1705 = .ok (.iadd, 1) := by decide +kernel
theorem dL_law_1706 : decode cL_law 1706 = .ok (.iaload, 1) := by decide +kernel
theorem dL_law_1707 : decode cL_law 1707 = .ok (.invokevirtual 155, 3) := by decide +kernel
theorem dL_law_1710 : decode cL_law 1710 = .ok (.if_icmp .eq 941, 3) := by decide +kernel
theorem dL_law_1715 : decode cL_law 1715 = .ok (.aload_n 1, 1) := by decide +kernel
theorem dL_law_1716 : decode cL_law 1716 = .ok (.aload_n 0, 1) := by decide +kernel
theorem dL_law_1717 : decode cL_law 1717 = .ok (.iload_n 3, 1) := by decide +kernel
theorem dL_law_1718 : decode cL_law 1718 = .ok (.iconst 1, 1) := by decide +kernel
theorem dL_law_1719 : decode cL_law 1719 = .ok (.iadd, 1) := by decide +kernel
theorem dL_law_1720 : decode cL_law 1720 = .ok (.iaload, 1) := by decide +kernel
theorem dL_law_1721 : decode cL_law 1721 = .ok (.invokevirtual 156, 3) := by decide +kernel
theorem dL_law_1724 : decode cL_law 1724 = .ok (.aload_n 2, 1) := by decide +kernel
theorem dL_law_1725 : decode cL_law 1725 = .ok (.aload_n 0, 1) := by decide +kernel
theorem dL_law_1726 : decode cL_law 1726 = .ok (.iload_n 3, 1) := by decide +kernel
theorem dL_law_1727 : decode cL_law 1727 = .ok (.iconst 1, 1) := by decide +kernel
theorem dL_law_1728 : decode cL_law 1728 = .ok (.iadd, 1) := by decide +kernel
theorem dL_law_1729 : decode cL_law 1729 = .ok (.iaload, 1) := by decide +kernel
theorem dL_law_1730 : decode cL_law 1730 = .ok (.invokevirtual 159, 3) := by decide +kernel
theorem dL_law_1733 : decode cL_law 1733 = .ok (.if_icmp .eq 918, 3) := by decide +kernel
theorem dL_law_1738 : decode cL_law 1738 = .ok (.aload_n 1, 1) := by decide +kernel
theorem dL_law_1739 : decode cL_law 1739 = .ok (.aload_n 0, 1) := by decide +kernel
theorem dL_law_1740 : decode cL_law 1740 = .ok (.iload_n 3, 1) := by decide +kernel
theorem dL_law_1741 : decode cL_law 1741 = .ok (.iconst 1, 1) := by decide +kernel
theorem dL_law_1742 : decode cL_law 1742 = .ok (.iadd, 1) := by decide +kernel
theorem dL_law_1743 : decode cL_law 1743 = .ok (.iaload, 1) := by decide +kernel
theorem dL_law_1744 : decode cL_law 1744 = .ok (.invokevirtual 160, 3) := by decide +kernel
theorem dL_law_1747 : decode cL_law 1747 = .ok (.aload_n 2, 1) := by decide +kernel
theorem dL_law_1748 : decode cL_law 1748 = .ok (.aload_n 0, 1) := by decide +kernel
theorem dL_law_1749 : decode cL_law 1749 = .ok (.iload_n 3, 1) := by decide +kernel
theorem dL_law_1750 : decode cL_law 1750 = .ok (.iconst 1, 1) := by decide +kernel
theorem dL_law_1751 : decode cL_law 1751 = .ok (.iadd, 1) := by decide +kernel
theorem dL_law_1752 : decode cL_law 1752 = .ok (.iaload, 1) := by decide +kernel
theorem dL_law_1753 : decode cL_law 1753 = .ok (.invokevirtual 163, 3) := by decide +kernel
theorem dL_law_1756 : decode cL_law 1756 = .ok (.if_icmp .eq 895, 3) := by decide +kernel
theorem dL_law_1761 : decode cL_law 1761 = .ok (.aload_n 1, 1) := by decide +kernel
theorem dL_law_1762 : decode cL_law 1762 = .ok (.aload_n 0, 1) := by decide +kernel
theorem dL_law_1763 : decode cL_law 1763 = .ok (.iload_n 3, 1) := by decide +kernel
theorem dL_law_1764 : decode cL_law 1764 = .ok (.iconst 1, 1) := by decide +kernel
theorem dL_law_1765 : decode cL_law 1765 = .ok (.iadd, 1) := by decide +kernel
theorem dL_law_1766 : decode cL_law 1766 = .ok (.iaload, 1) := by decide +kernel
theorem dL_law_1767 : decode cL_law 1767 = .ok (.aload_n 0, 1) := by decide +kernel
theorem dL_law_1768 : decode cL_law 1768 = .ok (.iload_n 3, 1) := by decide +kernel
theorem dL_law_1769 : decode cL_law 1769 = .ok (.iconst 2, 1) := by decide +kernel
theorem dL_law_1770 : decode cL_law 1770 = .ok (.iadd, 1) := by decide +kernel
theorem dL_law_1771 : decode cL_law 1771 = .ok (.iaload, 1) := by decide +kernel
theorem dL_law_1772 : decode cL_law 1772 = .ok (.aload_n 0, 1) := by decide +kernel
theorem dL_law_1773 : decode cL_law 1773 = .ok (.iload_n 3, 1) := by decide +kernel
theorem dL_law_1774 : decode cL_law 1774 = .ok (.iconst 3, 1) := by decide +kernel
theorem dL_law_1775 : decode cL_law 1775 = .ok (.iadd, 1) := by decide +kernel
theorem dL_law_1776 : decode cL_law 1776 = .ok (.iaload, 1) := by decide +kernel
theorem dL_law_1777 : decode cL_law 1777 = .ok (.aload_n 0, 1) := by decide +kernel
theorem dL_law_1778 : decode cL_law 1778 = .ok (.iload_n 3, 1) := by decide +kernel
theorem dL_law_1779 : decode cL_law 1779 = .ok (.iconst 4, 1) := by decide +kernel
theorem dL_law_1780 : decode cL_law 1780 = .ok (.iadd, 1) := by decide +kernel
theorem dL_law_1781 : decode cL_law 1781 = .ok (.iaload, 1) := by decide +kernel
theorem dL_law_1782 : decode cL_law 1782 = .ok (.ifCond .eq 7, 3) := by decide +kernel
theorem dL_law_1785 : decode cL_law 1785 = .ok (.iconst 1, 1) := by decide +kernel
theorem dL_law_1786 : decode cL_law 1786 = .ok (.goto 4, 3) := by decide +kernel
theorem dL_law_1789 : decode cL_law 1789 = .ok (.iconst 0, 1) := by decide +kernel
theorem dL_law_1790 : decode cL_law 1790 = .ok (.invokevirtual 164, 3) := by decide +kernel
theorem dL_law_1793 : decode cL_law 1793 = .ok (.aload_n 2, 1) := by decide +kernel
theorem dL_law_1794 : decode cL_law 1794 = .ok (.aload_n 0, 1) := by decide +kernel
theorem dL_law_1795 : decode cL_law 1795 = .ok (.iload_n 3, 1) := by decide +kernel
theorem dL_law_1796 : decode cL_law 1796 = .ok (.iconst 1, 1) := by decide +kernel
theorem dL_law_1797 : decode cL_law 1797 = .ok (.iadd, 1) := by decide +kernel
theorem dL_law_1798 : decode cL_law 1798 = .ok (.iaload, 1) := by decide +kernel
theorem dL_law_1799 : decode cL_law 1799 = .ok (.aload_n 0, 1) := by decide +kernel
theorem dL_law_1800 : decode cL_law 1800 = .ok (.iload_n 3, 1) := by decide +kernel
theorem dL_law_1801 : decode cL_law 1801 = .ok (.iconst 2, 1) := by decide +kernel
theorem dL_law_1802 : decode cL_law 1802 = .ok (.iadd, 1) := by decide +kernel
theorem dL_law_1803 : decode cL_law 1803 = .ok (.iaload, 1) := by decide +kernel
theorem dL_law_1804 : decode cL_law 1804 = .ok (.aload_n 0, 1) := by decide +kernel
theorem dL_law_1805 : decode cL_law 1805 = .ok (.iload_n 3, 1) := by decide +kernel
theorem dL_law_1806 : decode cL_law 1806 = .ok (.iconst 3, 1) := by decide +kernel
theorem dL_law_1807 : decode cL_law 1807 = .ok (.iadd, 1) := by decide +kernel
theorem dL_law_1808 : decode cL_law 1808 = .ok (.iaload, 1) := by decide +kernel
theorem dL_law_1809 : decode cL_law 1809 = .ok (.aload_n 0, 1) := by decide +kernel
theorem dL_law_1810 : decode cL_law 1810 = .ok (.iload_n 3, 1) := by decide +kernel
theorem dL_law_1811 : decode cL_law 1811 = .ok (.iconst 4, 1) := by decide +kernel
theorem dL_law_1812 : decode cL_law 1812 = .ok (.iadd, 1) := by decide +kernel
theorem dL_law_1813 : decode cL_law 1813 = .ok (.iaload, 1) := by decide +kernel
theorem dL_law_1814 : decode cL_law 1814 = .ok (.ifCond .eq 7, 3) := by decide +kernel
theorem dL_law_1817 : decode cL_law 1817 = .ok (.iconst 1, 1) := by decide +kernel
theorem dL_law_1818 : decode cL_law 1818 = .ok (.goto 4, 3) := by decide +kernel
theorem dL_law_1821 : decode cL_law 1821 = .ok (.iconst 0, 1) := by decide +kernel
theorem dL_law_1822 : decode cL_law 1822 = .ok (.invokevirtual 168, 3) := by decide +kernel
theorem dL_law_1825 : decode cL_law 1825 = .ok (.if_icmp .eq 826, 3) := by decide +kernel
theorem dL_law_1830 : decode cL_law 1830 = .ok (.aload_n 1, 1) := by decide +kernel
theorem dL_law_1831 : decode cL_law 1831 = .ok (.invokevirtual 169, 3) := by decide +kernel
theorem dL_law_1834 : decode cL_law 1834 = .ok (.aload_n 2, 1) := by decide +kernel
theorem dL_law_1835 : decode cL_law 1835 = .ok (.invokevirtual 172, 3) := by decide +kernel
theorem dL_law_1838 : decode cL_law 1838 = .ok (.if_icmp .eq 813, 3) := by decide +kernel
theorem dL_law_1843 : decode cL_law 1843 = .ok (.aload_n 1, 1) := by decide +kernel
theorem dL_law_1844 : decode cL_law 1844 = .ok (.aload_n 0, 1) := by decide +kernel
theorem dL_law_1845 : decode cL_law 1845 = .ok (.iload_n 3, 1) := by decide +kernel
theorem dL_law_1846 : decode cL_law 1846 = .ok (.iconst 1, 1) := by decide +kernel
theorem dL_law_1847 : decode cL_law 1847 = .ok (.iadd, 1) := by decide +kernel
theorem dL_law_1848 : decode cL_law 1848 = .ok (.iaload, 1) := by decide +kernel
theorem dL_law_1849 : decode cL_law 1849 = .ok (.aload_n 0, 1) := by decide +kernel
theorem dL_law_1850 : decode cL_law 1850 = .ok (.iload_n 3, 1) := by decide +kernel
theorem dL_law_1851 : decode cL_law 1851 = .ok (.iconst 2, 1) := by decide +kernel
theorem dL_law_1852 : decode cL_law 1852 = .ok (.iadd, 1) := by decide +kernel
theorem dL_law_1853 : decode cL_law 1853 = .ok (.iaload, 1) := by decide +kernel
theorem dL_law_1854 : decode cL_law 1854 = .ok (.aload_n 0, 1) := by decide +kernel
theorem dL_law_1855 : decode cL_law 1855 = .ok (.iload_n 3, 1) := by decide +kernel
theorem dL_law_1856 : decode cL_law 1856 = .ok (.iconst 3, 1) := by decide +kernel
theorem dL_law_1857 : decode cL_law 1857 = .ok (.iadd, 1) := by decide +kernel
theorem dL_law_1858 : decode cL_law 1858 = .ok (.iaload, 1) := by decide +kernel
theorem dL_law_1859 : decode cL_law 1859 = .ok (.invokevirtual 173, 3) := by decide +kernel
theorem dL_law_1862 : decode cL_law 1862 = .ok (.aload_n 2, 1) := by decide +kernel
theorem dL_law_1863 : decode cL_law 1863 = .ok (.aload_n 0, 1) := by decide +kernel
theorem dL_law_1864 : decode cL_law 1864 = .ok (.iload_n 3, 1) := by decide +kernel
theorem dL_law_1865 : decode cL_law 1865 = .ok (.iconst 1, 1) := by decide +kernel
theorem dL_law_1866 : decode cL_law 1866 = .ok (.iadd, 1) := by decide +kernel
theorem dL_law_1867 : decode cL_law 1867 = .ok (.iaload, 1) := by decide +kernel
theorem dL_law_1868 : decode cL_law 1868 = .ok (.aload_n 0, 1) := by decide +kernel
theorem dL_law_1869 : decode cL_law 1869 = .ok (.iload_n 3, 1) := by decide +kernel
theorem dL_law_1870 : decode cL_law 1870 = .ok (.iconst 2, 1) := by decide +kernel
theorem dL_law_1871 : decode cL_law 1871 = .ok (.iadd, 1) := by decide +kernel
theorem dL_law_1872 : decode cL_law 1872 = .ok (.iaload, 1) := by decide +kernel
theorem dL_law_1873 : decode cL_law 1873 = .ok (.aload_n 0, 1) := by decide +kernel
theorem dL_law_1874 : decode cL_law 1874 = .ok (.iload_n 3, 1) := by decide +kernel
theorem dL_law_1875 : decode cL_law 1875 = .ok (.iconst 3, 1) := by decide +kernel
theorem dL_law_1876 : decode cL_law 1876 = .ok (.iadd, 1) := by decide +kernel
theorem dL_law_1877 : decode cL_law 1877 = .ok (.iaload, 1) := by decide +kernel
theorem dL_law_1878 : decode cL_law 1878 = .ok (.invokevirtual 176, 3) := by decide +kernel
theorem dL_law_1881 : decode cL_law 1881 = .ok (.if_icmp .eq 770, 3) := by decide +kernel
theorem dL_law_1886 : decode cL_law 1886 = .ok (.aload_n 1, 1) := by decide +kernel
theorem dL_law_1887 : decode cL_law 1887 = .ok (.aload_n 0, 1) := by decide +kernel
theorem dL_law_1888 : decode cL_law 1888 = .ok (.iload_n 3, 1) := by decide +kernel
theorem dL_law_1889 : decode cL_law 1889 = .ok (.iconst 1, 1) := by decide +kernel
theorem dL_law_1890 : decode cL_law 1890 = .ok (.iadd, 1) := by decide +kernel
theorem dL_law_1891 : decode cL_law 1891 = .ok (.iaload, 1) := by decide +kernel
theorem dL_law_1892 : decode cL_law 1892 = .ok (.aload_n 0, 1) := by decide +kernel
theorem dL_law_1893 : decode cL_law 1893 = .ok (.iload_n 3, 1) := by decide +kernel
theorem dL_law_1894 : decode cL_law 1894 = .ok (.iconst 2, 1) := by decide +kernel
theorem dL_law_1895 : decode cL_law 1895 = .ok (.iadd, 1) := by decide +kernel
theorem dL_law_1896 : decode cL_law 1896 = .ok (.iaload, 1) := by decide +kernel
theorem dL_law_1897 : decode cL_law 1897 = .ok (.aload_n 0, 1) := by decide +kernel
theorem dL_law_1898 : decode cL_law 1898 = .ok (.iload_n 3, 1) := by decide +kernel
theorem dL_law_1899 : decode cL_law 1899 = .ok (.iconst 3, 1) := by decide +kernel
theorem dL_law_1900 : decode cL_law 1900 = .ok (.iadd, 1) := by decide +kernel
theorem dL_law_1901 : decode cL_law 1901 = .ok (.iaload, 1) := by decide +kernel
theorem dL_law_1902 : decode cL_law 1902 = .ok (.aload_n 0, 1) := by decide +kernel
theorem dL_law_1903 : decode cL_law 1903 = .ok (.iload_n 3, 1) := by decide +kernel
theorem dL_law_1904 : decode cL_law 1904 = .ok (.iconst 4, 1) := by decide +kernel
theorem dL_law_1905 : decode cL_law 1905 = .ok (.iadd, 1) := by decide +kernel
theorem dL_law_1906 : decode cL_law 1906 = .ok (.iaload, 1) := by decide +kernel
theorem dL_law_1907 : decode cL_law 1907 = .ok (.invokevirtual 177, 3) := by decide +kernel
theorem dL_law_1910 : decode cL_law 1910 = .ok (.aload_n 2, 1) := by decide +kernel
theorem dL_law_1911 : decode cL_law 1911 = .ok (.aload_n 0, 1) := by decide +kernel
theorem dL_law_1912 : decode cL_law 1912 = .ok (.iload_n 3, 1) := by decide +kernel
theorem dL_law_1913 : decode cL_law 1913 = .ok (.iconst 1, 1) := by decide +kernel
theorem dL_law_1914 : decode cL_law 1914 = .ok (.iadd, 1) := by decide +kernel
theorem dL_law_1915 : decode cL_law 1915 = .ok (.iaload, 1) := by decide +kernel
theorem dL_law_1916 : decode cL_law 1916 = .ok (.aload_n 0, 1) := by decide +kernel
theorem dL_law_1917 : decode cL_law 1917 = .ok (.iload_n 3, 1) := by decide +kernel
theorem dL_law_1918 : decode cL_law 1918 = .ok (.iconst 2, 1) := by decide +kernel
theorem dL_law_1919 : decode cL_law 1919 = .ok (.iadd, 1) := by decide +kernel
theorem dL_law_1920 : decode cL_law 1920 = .ok (.iaload, 1) := by decide +kernel
theorem dL_law_1921 : decode cL_law 1921 = .ok (.aload_n 0, 1) := by decide +kernel
theorem dL_law_1922 : decode cL_law 1922 = .ok (.iload_n 3, 1) := by decide +kernel
theorem dL_law_1923 : decode cL_law 1923 = .ok (.iconst 3, 1) := by decide +kernel
theorem dL_law_1924 : decode cL_law 1924 = .ok (.iadd, 1) := by decide +kernel
theorem dL_law_1925 : decode cL_law 1925 = .ok (.iaload, 1) := by decide +kernel
theorem dL_law_1926 : decode cL_law 1926 = .ok (.aload_n 0, 1) := by decide +kernel
theorem dL_law_1927 : decode cL_law 1927 = .ok (.iload_n 3, 1) := by decide +kernel
theorem dL_law_1928 : decode cL_law 1928 = .ok (.iconst 4, 1) := by decide +kernel
theorem dL_law_1929 : decode cL_law 1929 = .ok (.iadd, 1) := by decide +kernel
theorem dL_law_1930 : decode cL_law 1930 = .ok (.iaload, 1) := by decide +kernel
theorem dL_law_1931 : decode cL_law 1931 = .ok (.invokevirtual 180, 3) := by decide +kernel
theorem dL_law_1934 : decode cL_law 1934 = .ok (.if_icmp .eq 717, 3) := by decide +kernel
theorem dL_law_1939 : decode cL_law 1939 = .ok (.aload_n 1, 1) := by decide +kernel
theorem dL_law_1940 : decode cL_law 1940 = .ok (.aload_n 0, 1) := by decide +kernel
theorem dL_law_1941 : decode cL_law 1941 = .ok (.iload_n 3, 1) := by decide +kernel
theorem dL_law_1942 : decode cL_law 1942 = .ok (.iconst 1, 1) := by decide +kernel
theorem dL_law_1943 : decode cL_law 1943 = .ok (.iadd, 1) := by decide +kernel
theorem dL_law_1944 : decode cL_law 1944 = .ok (.iaload, 1) := by decide +kernel
theorem dL_law_1945 : decode cL_law 1945 = .ok (.aload_n 0, 1) := by decide +kernel
theorem dL_law_1946 : decode cL_law 1946 = .ok (.iload_n 3, 1) := by decide +kernel
theorem dL_law_1947 : decode cL_law 1947 = .ok (.iconst 2, 1) := by decide +kernel
theorem dL_law_1948 : decode cL_law 1948 = .ok (.iadd, 1) := by decide +kernel
theorem dL_law_1949 : decode cL_law 1949 = .ok (.iaload, 1) := by decide +kernel
theorem dL_law_1950 : decode cL_law 1950 = .ok (.aload_n 0, 1) := by decide +kernel
theorem dL_law_1951 : decode cL_law 1951 = .ok (.iload_n 3, 1) := by decide +kernel
theorem dL_law_1952 : decode cL_law 1952 = .ok (.iconst 3, 1) := by decide +kernel
theorem dL_law_1953 : decode cL_law 1953 = .ok (.iadd, 1) := by decide +kernel
theorem dL_law_1954 : decode cL_law 1954 = .ok (.iaload, 1) := by decide +kernel
theorem dL_law_1955 : decode cL_law 1955 = .ok (.aload_n 0, 1) := by decide +kernel
theorem dL_law_1956 : decode cL_law 1956 = .ok (.iload_n 3, 1) := by decide +kernel
theorem dL_law_1957 : decode cL_law 1957 = .ok (.iconst 4, 1) := by decide +kernel
theorem dL_law_1958 : decode cL_law 1958 = .ok (.iadd, 1) := by decide +kernel
theorem dL_law_1959 : decode cL_law 1959 = .ok (.iaload, 1) := by decide +kernel
theorem dL_law_1960 : decode cL_law 1960 = .ok (.invokevirtual 181, 3) := by decide +kernel
theorem dL_law_1963 : decode cL_law 1963 = .ok (.aload_n 2, 1) := by decide +kernel
theorem dL_law_1964 : decode cL_law 1964 = .ok (.aload_n 0, 1) := by decide +kernel
theorem dL_law_1965 : decode cL_law 1965 = .ok (.iload_n 3, 1) := by decide +kernel
theorem dL_law_1966 : decode cL_law 1966 = .ok (.iconst 1, 1) := by decide +kernel
theorem dL_law_1967 : decode cL_law 1967 = .ok (.iadd, 1) := by decide +kernel
theorem dL_law_1968 : decode cL_law 1968 = .ok (.iaload, 1) := by decide +kernel
theorem dL_law_1969 : decode cL_law 1969 = .ok (.aload_n 0, 1) := by decide +kernel
theorem dL_law_1970 : decode cL_law 1970 = .ok (.iload_n 3, 1) := by decide +kernel
theorem dL_law_1971 : decode cL_law 1971 = .ok (.iconst 2, 1) := by decide +kernel
theorem dL_law_1972 : decode cL_law 1972 = .ok (.iadd, 1) := by decide +kernel
theorem dL_law_1973 : decode cL_law 1973 = .ok (.iaload, 1) := by decide +kernel
theorem dL_law_1974 : decode cL_law 1974 = .ok (.aload_n 0, 1) := by decide +kernel
theorem dL_law_1975 : decode cL_law 1975 = .ok (.iload_n 3, 1) := by decide +kernel
theorem dL_law_1976 : decode cL_law 1976 = .ok (.iconst 3, 1) := by decide +kernel
theorem dL_law_1977 : decode cL_law 1977 = .ok (.iadd, 1) := by decide +kernel
theorem dL_law_1978 : decode cL_law 1978 = .ok (.iaload, 1) := by decide +kernel
theorem dL_law_1979 : decode cL_law 1979 = .ok (.aload_n 0, 1) := by decide +kernel
theorem dL_law_1980 : decode cL_law 1980 = .ok (.iload_n 3, 1) := by decide +kernel
theorem dL_law_1981 : decode cL_law 1981 = .ok (.iconst 4, 1) := by decide +kernel
theorem dL_law_1982 : decode cL_law 1982 = .ok (.iadd, 1) := by decide +kernel
theorem dL_law_1983 : decode cL_law 1983 = .ok (.iaload, 1) := by decide +kernel
theorem dL_law_1984 : decode cL_law 1984 = .ok (.invokevirtual 185, 3) := by decide +kernel
theorem dL_law_1987 : decode cL_law 1987 = .ok (.lcmp, 1) := by decide +kernel
theorem dL_law_1988 : decode cL_law 1988 = .ok (.ifCond .eq 663, 3) := by decide +kernel
theorem dL_law_1993 : decode cL_law 1993 = .ok (.aload_n 1, 1) := by decide +kernel
theorem dL_law_1994 : decode cL_law 1994 = .ok (.aload_n 0, 1) := by decide +kernel
theorem dL_law_1995 : decode cL_law 1995 = .ok (.iload_n 3, 1) := by decide +kernel
theorem dL_law_1996 : decode cL_law 1996 = .ok (.iconst 1, 1) := by decide +kernel
theorem dL_law_1997 : decode cL_law 1997 = .ok (.iadd, 1) := by decide +kernel
theorem dL_law_1998 : decode cL_law 1998 = .ok (.iaload, 1) := by decide +kernel
theorem dL_law_1999 : decode cL_law 1999 = .ok (.aload_n 0, 1) := by decide +kernel
theorem dL_law_2000 : decode cL_law 2000 = .ok (.iload_n 3, 1) := by decide +kernel
theorem dL_law_2001 : decode cL_law 2001 = .ok (.iconst 2, 1) := by decide +kernel
theorem dL_law_2002 : decode cL_law 2002 = .ok (.iadd, 1) := by decide +kernel
theorem dL_law_2003 : decode cL_law 2003 = .ok (.iaload, 1) := by decide +kernel
theorem dL_law_2004 : decode cL_law 2004 = .ok (.aload_n 0, 1) := by decide +kernel
theorem dL_law_2005 : decode cL_law 2005 = .ok (.iload_n 3, 1) := by decide +kernel
theorem dL_law_2006 : decode cL_law 2006 = .ok (.iconst 3, 1) := by decide +kernel
theorem dL_law_2007 : decode cL_law 2007 = .ok (.iadd, 1) := by decide +kernel
theorem dL_law_2008 : decode cL_law 2008 = .ok (.iaload, 1) := by decide +kernel
theorem dL_law_2009 : decode cL_law 2009 = .ok (.aload_n 0, 1) := by decide +kernel
theorem dL_law_2010 : decode cL_law 2010 = .ok (.iload_n 3, 1) := by decide +kernel
theorem dL_law_2011 : decode cL_law 2011 = .ok (.iconst 4, 1) := by decide +kernel
theorem dL_law_2012 : decode cL_law 2012 = .ok (.iadd, 1) := by decide +kernel
theorem dL_law_2013 : decode cL_law 2013 = .ok (.iaload, 1) := by decide +kernel
theorem dL_law_2014 : decode cL_law 2014 = .ok (.invokevirtual 186, 3) := by decide +kernel
theorem dL_law_2017 : decode cL_law 2017 = .ok (.aload_n 2, 1) := by decide +kernel
theorem dL_law_2018 : decode cL_law 2018 = .ok (.aload_n 0, 1) := by decide +kernel
theorem dL_law_2019 : decode cL_law 2019 = .ok (.iload_n 3, 1) := by decide +kernel
theorem dL_law_2020 : decode cL_law 2020 = .ok (.iconst 1, 1) := by decide +kernel
theorem dL_law_2021 : decode cL_law 2021 = .ok (.iadd, 1) := by decide +kernel
theorem dL_law_2022 : decode cL_law 2022 = .ok (.iaload, 1) := by decide +kernel
theorem dL_law_2023 : decode cL_law 2023 = .ok (.aload_n 0, 1) := by decide +kernel
theorem dL_law_2024 : decode cL_law 2024 = .ok (.iload_n 3, 1) := by decide +kernel
theorem dL_law_2025 : decode cL_law 2025 = .ok (.iconst 2, 1) := by decide +kernel
theorem dL_law_2026 : decode cL_law 2026 = .ok (.iadd, 1) := by decide +kernel
theorem dL_law_2027 : decode cL_law 2027 = .ok (.iaload, 1) := by decide +kernel
theorem dL_law_2028 : decode cL_law 2028 = .ok (.aload_n 0, 1) := by decide +kernel
theorem dL_law_2029 : decode cL_law 2029 = .ok (.iload_n 3, 1) := by decide +kernel
theorem dL_law_2030 : decode cL_law 2030 = .ok (.iconst 3, 1) := by decide +kernel
theorem dL_law_2031 : decode cL_law 2031 = .ok (.iadd, 1) := by decide +kernel
theorem dL_law_2032 : decode cL_law 2032 = .ok (.iaload, 1) := by decide +kernel
theorem dL_law_2033 : decode cL_law 2033 = .ok (.aload_n 0, 1) := by decide +kernel
theorem dL_law_2034 : decode cL_law 2034 = .ok (.iload_n 3, 1) := by decide +kernel
theorem dL_law_2035 : decode cL_law 2035 = .ok (.iconst 4, 1) := by decide +kernel
theorem dL_law_2036 : decode cL_law 2036 = .ok (.iadd, 1) := by decide +kernel
theorem dL_law_2037 : decode cL_law 2037 = .ok (.iaload, 1) := by decide +kernel
theorem dL_law_2038 : decode cL_law 2038 = .ok (.invokevirtual 189, 3) := by decide +kernel
theorem dL_law_2041 : decode cL_law 2041 = .ok (.if_icmp .eq 610, 3) := by decide +kernel
set_option maxHeartbeats 4000000 in
set_option maxRecDepth 100000 in
theorem law_three {p : Program} {e : Env} {s : State} {m : MethodId} {below : List Frame} {meth : Method} {c : Code} {l : Launch} {b : Nat} {xs : Nat → Int32} (C0 : lw_At p s m meth c b 6 xs) {dC : Nat → ClassId} {dI : Nat → Nat → Nat} {A : Nat → Prop} (hA : ∀ q, s.heap.size ≤ q → A q) (hA2 : ∀ q, A q → s.heap.size ≤ q) {h0 : Nat} {tp : Nat} {nw : Nat} {im : Nat} {sl : Nat} {rd : Nat} {wk : Nat} {fm : Nat} {mt : Nat} {ch : Nat} {dy : Nat} {tn : Nat} {ta0 : Nat} {ta1 : Nat} {ta2 : Nat} {ta3 : Nat} {ta4 : Nat} {ta5 : Nat} {ta6 : Nat} {ta7 : Nat} {ta8 : Nat} {ta9 : Nat} {m0 : Nat} {m_width : Nat} {m_many : Nat} {m_cells : Nat} {m_moved : Nat} {m_tape : Nat} {m_lines : Nat} {m_hours : Nat} {m_courts : Nat} {m_in : Nat} {m_gates : Nat} {m_gate : Nat} {m_people : Nat} {m_at0 : Nat} {m_stray : Nat} {m_set : Nat} {m_once : Nat} {m_truth : Nat} {m_known : Nat} {m_isKept : Nat} {m_inside : Nat} {m_can : Nat} {m_fewest : Nat} {m_waysTo : Nat} {m_then : Nat} {m_two : Nat} {m_nextTwo : Nat} {m_three : Nat} {m_nextThree : Nat} {m_worth : Nat} {m_digit : Nat} {cm_courts : ClassId}  {H : Heap} {locs : List Loc} {ls : Array Slot} (hP : va_P (dC, dI) vwCl [(h0, .inr (9, [.ref tp, .int 0, .int 0, .int (-1), .ref nw, .ref im, .ref sl, .ref rd, .ref wk, .ref fm, .ref mt, .ref ch, .ref dy])), (nw, .inr (3, [.int 0, .ref tn, .int 0, .int 0, .int 0, .int 0])), (tn, .inr (7, [.int 0, .int 0, .int 0, .int 0, .int 0, .int 0, .int 0, .int 0, .ref ta0, .ref ta1, .ref ta2, .ref ta3, .ref ta4, .ref ta5, .ref ta6, .ref ta7, .ref ta8, .ref ta9])), (m0, .inr (10, [.int 0, .ref m_width, .ref m_many, .ref m_cells, .ref m_moved, .ref m_tape, .int 0, .int 0, .int 0, .int 0, .int 0, .long 0, .int 0, .int 0, .int 0, .int (-1), .ref m_lines, .ref m_hours, .ref m_courts, .ref m_in, .ref m_gates, .ref m_gate, .ref m_people, .ref m_at0, .ref m_stray, .ref m_set, .ref m_once, .ref m_truth, .ref m_known, .ref m_isKept, .int 0, .int (-1), .int 0, .int 0, .ref m_inside, .ref m_can, .ref m_fewest, .ref m_waysTo, .ref m_then, .ref m_two, .ref m_nextTwo, .ref m_three, .ref m_nextThree, .int (-1), .ref m_worth, .ref m_digit, .int 0, .long 0, .int 0, .int 0, .int 0, .int 0, .long 0])), (m_courts, .inl (cm_courts, 5, .inl (fun _ => 0)))] H) (hD : va_D A [(h0, .inr (9, [.ref tp, .int 0, .int 0, .int (-1), .ref nw, .ref im, .ref sl, .ref rd, .ref wk, .ref fm, .ref mt, .ref ch, .ref dy])), (nw, .inr (3, [.int 0, .ref tn, .int 0, .int 0, .int 0, .int 0])), (tn, .inr (7, [.int 0, .int 0, .int 0, .int 0, .int 0, .int 0, .int 0, .int 0, .ref ta0, .ref ta1, .ref ta2, .ref ta3, .ref ta4, .ref ta5, .ref ta6, .ref ta7, .ref ta8, .ref ta9])), (m0, .inr (10, [.int 0, .ref m_width, .ref m_many, .ref m_cells, .ref m_moved, .ref m_tape, .int 0, .int 0, .int 0, .int 0, .int 0, .long 0, .int 0, .int 0, .int 0, .int (-1), .ref m_lines, .ref m_hours, .ref m_courts, .ref m_in, .ref m_gates, .ref m_gate, .ref m_people, .ref m_at0, .ref m_stray, .ref m_set, .ref m_once, .ref m_truth, .ref m_known, .ref m_isKept, .int 0, .int (-1), .int 0, .int 0, .ref m_inside, .ref m_can, .ref m_fewest, .ref m_waysTo, .ref m_then, .ref m_two, .ref m_nextTwo, .ref m_three, .ref m_nextThree, .int (-1), .ref m_worth, .ref m_digit, .int 0, .long 0, .int 0, .int 0, .int 0, .int 0, .long 0])), (m_courts, .inl (cm_courts, 5, .inl (fun _ => 0)))]) (hK : va_K (dC, dI) vwCl [(cm_courts, .int)] s) (hS : va_S A s.heap H locs) (hl : lv_has ls 4 [(3, .int 0), (2, .ref m0), (1, .ref h0), (0, .ref b)]) : W p l e room_1 s m #[Value.ref b] below meth c H locs 166 101284 (lw_Z below #[Value.ref b] s) (F0 m 1416 ls []) := by
  obtain ⟨hx, hb, hr, hml, hown, hts, hX, hbl, hlocks, hgv⟩ := id C0
  have hown : s.vm.findClass RL = some m.cls := hown
  have hb : c.code = cL_law := hb
  have hts : ∀ w ∈ zT, w.before #[Value.ref b] s = true := fun w h => hts w (zT_in w h)
  have hbA : ¬ A b := fun q => absurd (hA2 b q) (Nat.not_le.mpr hbl)
  refine lv_aload_n hx hb dL_law_1416 rfl (lv_at hl 2 rfl) ?_
  refine lv_aload_n hx hb dL_law_1417 rfl (lv_at hl 3 rfl) ?_
  refine lv_iload_n hx hb dL_law_1418 rfl (lv_at hl 0 rfl) ?_
  refine lv_iconst (v := 1) hx hb dL_law_1419 (by decide) ?_
  refine lv_iadd hx hb dL_law_1420 ?_
  refine lv_topi (fun x_1 ex_1 => ?_)
  obtain rfl : x_1 = 1 := ex_1.trans (by decide)
  refine va_sld hx hb hX hbl hbA hS (z_inC _ (k := 1) (by decide) (by decide)) dL_law_1421 ?_
  refine lv_aload_n hx hb dL_law_1422 rfl (lv_at hl 3 rfl) ?_
  refine lv_iload_n hx hb dL_law_1423 rfl (lv_at hl 0 rfl) ?_
  refine lv_iconst (v := 2) hx hb dL_law_1424 (by decide) ?_
  refine lv_iadd hx hb dL_law_1425 ?_
  refine lv_topi (fun x_2 ex_2 => ?_)
  obtain rfl : x_2 = 2 := ex_2.trans (by decide)
  refine va_sld hx hb hX hbl hbA hS (z_inC _ (k := 2) (by decide) (by decide)) dL_law_1426 ?_
  refine lv_aload_n hx hb dL_law_1427 rfl (lv_at hl 3 rfl) ?_
  refine lv_iload_n hx hb dL_law_1428 rfl (lv_at hl 0 rfl) ?_
  refine lv_iconst (v := 3) hx hb dL_law_1429 (by decide) ?_
  refine lv_iadd hx hb dL_law_1430 ?_
  refine lv_topi (fun x_3 ex_3 => ?_)
  obtain rfl : x_3 = 3 := ex_3.trans (by decide)
  refine va_sld hx hb hX hbl hbA hS (z_inC _ (k := 3) (by decide) (by decide)) dL_law_1431 ?_
  refine lv_aload_n hx hb dL_law_1432 rfl (lv_at hl 3 rfl) ?_
  refine lv_iload_n hx hb dL_law_1433 rfl (lv_at hl 0 rfl) ?_
  refine lv_iconst (v := 4) hx hb dL_law_1434 (by decide) ?_
  refine lv_iadd hx hb dL_law_1435 ?_
  refine lv_topi (fun x_4 ex_4 => ?_)
  obtain rfl : x_4 = 4 := ex_4.trans (by decide)
  refine va_sld hx hb hX hbl hbA hS (z_inC _ (k := 4) (by decide) (by decide)) dL_law_1436 ?_
  refine lv_aload_n hx hb dL_law_1437 rfl (lv_at hl 3 rfl) ?_
  refine lv_iload_n hx hb dL_law_1438 rfl (lv_at hl 0 rfl) ?_
  refine lv_iconst (v := 5) hx hb dL_law_1439 (by decide) ?_
  refine lv_iadd hx hb dL_law_1440 ?_
  refine lv_topi (fun x_5 ex_5 => ?_)
  obtain rfl : x_5 = 5 := ex_5.trans (by decide)
  refine va_sld hx hb hX hbl hbA hS (z_inC _ (k := 5) (by decide) (by decide)) dL_law_1441 ?_
  have hPc := hP.sub (ws' := [(h0, .inr (9, [.ref tp, .int 0, .int 0, .int (-1), .ref nw, .ref im, .ref sl, .ref rd, .ref wk, .ref fm, .ref mt, .ref ch, .ref dy])), (nw, .inr (3, [.int 0, .ref tn, .int 0, .int 0, .int 0, .int 0])), (tn, .inr (7, [.int 0, .int 0, .int 0, .int 0, .int 0, .int 0, .int 0, .int 0, .ref ta0, .ref ta1, .ref ta2, .ref ta3, .ref ta4, .ref ta5, .ref ta6, .ref ta7, .ref ta8, .ref ta9]))]) [0, 1, 2] rfl
  have hDc := hD.sub (ws' := [(h0, .inr (9, [.ref tp, .int 0, .int 0, .int (-1), .ref nw, .ref im, .ref sl, .ref rd, .ref wk, .ref fm, .ref mt, .ref ch, .ref dy])), (nw, .inr (3, [.int 0, .ref tn, .int 0, .int 0, .int 0, .int 0])), (tn, .inr (7, [.int 0, .int 0, .int 0, .int 0, .int 0, .int 0, .int 0, .int 0, .ref ta0, .ref ta1, .ref ta2, .ref ta3, .ref ta4, .ref ta5, .ref ta6, .ref ta7, .ref ta8, .ref ta9]))]) [0, 1, 2] (by decide) rfl
  have hKc := hK.sub (tys' := []) [] rfl
  have hFc := va_free (wc := [(h0, .inr (9, [.ref tp, .int 0, .int 0, .int (-1), .ref nw, .ref im, .ref sl, .ref rd, .ref wk, .ref fm, .ref mt, .ref ch, .ref dy])), (nw, .inr (3, [.int 0, .ref tn, .int 0, .int 0, .int 0, .int 0])), (tn, .inr (7, [.int 0, .int 0, .int 0, .int 0, .int 0, .int 0, .int 0, .int 0, .ref ta0, .ref ta1, .ref ta2, .ref ta3, .ref ta4, .ref ta5, .ref ta6, .ref ta7, .ref ta8, .ref ta9]))]) hD hS hA [0, 1, 2] rfl
  refine va_calli (va_runV (As := [.int (xs (Int32.toNatClampNeg 1)), .int (xs (Int32.toNatClampNeg 2)), .int (xs (Int32.toNatClampNeg 3)), .int (xs (Int32.toNatClampNeg 4)), .int (xs (Int32.toNatClampNeg 5))]) (rest := []) ⟨hx, hb, hml, hown, hts⟩ (k_X9_three l dC dI h0 (xs (Int32.toNatClampNeg 1)) (xs (Int32.toNatClampNeg 2)) (xs (Int32.toNatClampNeg 3)) (xs (Int32.toNatClampNeg 4)) (xs (Int32.toNatClampNeg 5)) tp nw im sl rd wk fm mt ch dy tn ta0 ta1 ta2 ta3 ta4 ta5 ta6 ta7 ta8 ta9 H.size) (cwV 5 hts (z_gV zw_t5_5 zw_t5_6 zw_t5_7 zw_t1_1 zw_t5_8) rfl rfl rfl (by decide +kernel) ⟨(Nat.le_of_ble_eq_true rfl), (Nat.le_of_ble_eq_true rfl)⟩) (z_preV hPc hKc hDc (ci := 9) (q0 := 0) rfl rfl) rfl rfl hl.1 rfl (lv_room (Nat.le_of_ble_eq_true rfl)) dL_law_1442 ⟨(Nat.le_of_ble_eq_true rfl), (Nat.le_of_ble_eq_true rfl)⟩) hS (fun q _ h => hFc q h) hFc (fun r_6 u t H1 locs ht hvm hw hB hz1 hk1 hS => ?_)
  have hB : zW dC dI [] [] (va_A [(h0, .inr (9, [.ref tp, .int 0, .int 0, .int (-1), .ref nw, .ref im, .ref sl, .ref rd, .ref wk, .ref fm, .ref mt, .ref ch, .ref dy])), (nw, .inr (3, [.int 0, .ref tn, .int 0, .int 0, .int 0, .int 0])), (tn, .inr (7, [.int 0, .int 0, .int 0, .int 0, .int 0, .int 0, .int 0, .int 0, .ref ta0, .ref ta1, .ref ta2, .ref ta3, .ref ta4, .ref ta5, .ref ta6, .ref ta7, .ref ta8, .ref ta9]))] H.size) t := z_none (va_K.moved hvm hK)
  obtain ⟨hP, hD, hK⟩ := z_after [(m0, .inr (10, [.int 0, .ref m_width, .ref m_many, .ref m_cells, .ref m_moved, .ref m_tape, .int 0, .int 0, .int 0, .int 0, .int 0, .long 0, .int 0, .int 0, .int 0, .int (-1), .ref m_lines, .ref m_hours, .ref m_courts, .ref m_in, .ref m_gates, .ref m_gate, .ref m_people, .ref m_at0, .ref m_stray, .ref m_set, .ref m_once, .ref m_truth, .ref m_known, .ref m_isKept, .int 0, .int (-1), .int 0, .int 0, .ref m_inside, .ref m_can, .ref m_fewest, .ref m_waysTo, .ref m_then, .ref m_two, .ref m_nextTwo, .ref m_three, .ref m_nextThree, .int (-1), .ref m_worth, .ref m_digit, .int 0, .long 0, .int 0, .int 0, .int 0, .int 0, .long 0])), (m_courts, .inl (cm_courts, 5, .inl (fun _ => 0)))] hB ht hvm hP hD hK [0, 1, 2] [3, 4] rfl rfl (by decide) (by decide) hk1 hFc
  generalize H1 = H at hP hS ⊢
  have hP : va_P (dC, dI) vwCl [(m0, .inr (10, [.int 0, .ref m_width, .ref m_many, .ref m_cells, .ref m_moved, .ref m_tape, .int 0, .int 0, .int 0, .int 0, .int 0, .long 0, .int 0, .int 0, .int 0, .int (-1), .ref m_lines, .ref m_hours, .ref m_courts, .ref m_in, .ref m_gates, .ref m_gate, .ref m_people, .ref m_at0, .ref m_stray, .ref m_set, .ref m_once, .ref m_truth, .ref m_known, .ref m_isKept, .int 0, .int (-1), .int 0, .int 0, .ref m_inside, .ref m_can, .ref m_fewest, .ref m_waysTo, .ref m_then, .ref m_two, .ref m_nextTwo, .ref m_three, .ref m_nextThree, .int (-1), .ref m_worth, .ref m_digit, .int 0, .long 0, .int 0, .int 0, .int 0, .int 0, .long 0])), (m_courts, .inl (cm_courts, 5, .inl (fun _ => 0)))] H := hP
  have hD : va_D A [(m0, .inr (10, [.int 0, .ref m_width, .ref m_many, .ref m_cells, .ref m_moved, .ref m_tape, .int 0, .int 0, .int 0, .int 0, .int 0, .long 0, .int 0, .int 0, .int 0, .int (-1), .ref m_lines, .ref m_hours, .ref m_courts, .ref m_in, .ref m_gates, .ref m_gate, .ref m_people, .ref m_at0, .ref m_stray, .ref m_set, .ref m_once, .ref m_truth, .ref m_known, .ref m_isKept, .int 0, .int (-1), .int 0, .int 0, .ref m_inside, .ref m_can, .ref m_fewest, .ref m_waysTo, .ref m_then, .ref m_two, .ref m_nextTwo, .ref m_three, .ref m_nextThree, .int (-1), .ref m_worth, .ref m_digit, .int 0, .long 0, .int 0, .int 0, .int 0, .int 0, .long 0])), (m_courts, .inl (cm_courts, 5, .inl (fun _ => 0)))] := hD
  have hK : va_K (dC, dI) vwCl [(cm_courts, .int)] s := hK
  obtain rfl : r_6 = (-2) := hw
  refine lv_aload_n hx hb dL_law_1445 rfl (lv_at hl 1 rfl) ?_
  refine lv_aload_n hx hb dL_law_1446 rfl (lv_at hl 3 rfl) ?_
  refine lv_iload_n hx hb dL_law_1447 rfl (lv_at hl 0 rfl) ?_
  refine lv_iconst (v := 1) hx hb dL_law_1448 (by decide) ?_
  refine lv_iadd hx hb dL_law_1449 ?_
  refine lv_topi (fun x_7 ex_7 => ?_)
  obtain rfl : x_7 = 1 := ex_7.trans (by decide)
  refine va_sld hx hb hX hbl hbA hS (z_inC _ (k := 1) (by decide) (by decide)) dL_law_1450 ?_
  refine lv_aload_n hx hb dL_law_1451 rfl (lv_at hl 3 rfl) ?_
  refine lv_iload_n hx hb dL_law_1452 rfl (lv_at hl 0 rfl) ?_
  refine lv_iconst (v := 2) hx hb dL_law_1453 (by decide) ?_
  refine lv_iadd hx hb dL_law_1454 ?_
  refine lv_topi (fun x_8 ex_8 => ?_)
  obtain rfl : x_8 = 2 := ex_8.trans (by decide)
  refine va_sld hx hb hX hbl hbA hS (z_inC _ (k := 2) (by decide) (by decide)) dL_law_1455 ?_
  refine lv_aload_n hx hb dL_law_1456 rfl (lv_at hl 3 rfl) ?_
  refine lv_iload_n hx hb dL_law_1457 rfl (lv_at hl 0 rfl) ?_
  refine lv_iconst (v := 3) hx hb dL_law_1458 (by decide) ?_
  refine lv_iadd hx hb dL_law_1459 ?_
  refine lv_topi (fun x_9 ex_9 => ?_)
  obtain rfl : x_9 = 3 := ex_9.trans (by decide)
  refine va_sld hx hb hX hbl hbA hS (z_inC _ (k := 3) (by decide) (by decide)) dL_law_1460 ?_
  refine lv_aload_n hx hb dL_law_1461 rfl (lv_at hl 3 rfl) ?_
  refine lv_iload_n hx hb dL_law_1462 rfl (lv_at hl 0 rfl) ?_
  refine lv_iconst (v := 4) hx hb dL_law_1463 (by decide) ?_
  refine lv_iadd hx hb dL_law_1464 ?_
  refine lv_topi (fun x_10 ex_10 => ?_)
  obtain rfl : x_10 = 4 := ex_10.trans (by decide)
  refine va_sld hx hb hX hbl hbA hS (z_inC _ (k := 4) (by decide) (by decide)) dL_law_1465 ?_
  refine lv_aload_n hx hb dL_law_1466 rfl (lv_at hl 3 rfl) ?_
  refine lv_iload_n hx hb dL_law_1467 rfl (lv_at hl 0 rfl) ?_
  refine lv_iconst (v := 5) hx hb dL_law_1468 (by decide) ?_
  refine lv_iadd hx hb dL_law_1469 ?_
  refine lv_topi (fun x_11 ex_11 => ?_)
  obtain rfl : x_11 = 5 := ex_11.trans (by decide)
  refine va_sld hx hb hX hbl hbA hS (z_inC _ (k := 5) (by decide) (by decide)) dL_law_1470 ?_
  have hPc := hP.sub (ws' := [(m0, .inr (10, [.int 0, .ref m_width, .ref m_many, .ref m_cells, .ref m_moved, .ref m_tape, .int 0, .int 0, .int 0, .int 0, .int 0, .long 0, .int 0, .int 0, .int 0, .int (-1), .ref m_lines, .ref m_hours, .ref m_courts, .ref m_in, .ref m_gates, .ref m_gate, .ref m_people, .ref m_at0, .ref m_stray, .ref m_set, .ref m_once, .ref m_truth, .ref m_known, .ref m_isKept, .int 0, .int (-1), .int 0, .int 0, .ref m_inside, .ref m_can, .ref m_fewest, .ref m_waysTo, .ref m_then, .ref m_two, .ref m_nextTwo, .ref m_three, .ref m_nextThree, .int (-1), .ref m_worth, .ref m_digit, .int 0, .long 0, .int 0, .int 0, .int 0, .int 0, .long 0])), (m_courts, .inl (cm_courts, 5, .inl (fun _ => 0)))]) [0, 1] rfl
  have hDc := hD.sub (ws' := [(m0, .inr (10, [.int 0, .ref m_width, .ref m_many, .ref m_cells, .ref m_moved, .ref m_tape, .int 0, .int 0, .int 0, .int 0, .int 0, .long 0, .int 0, .int 0, .int 0, .int (-1), .ref m_lines, .ref m_hours, .ref m_courts, .ref m_in, .ref m_gates, .ref m_gate, .ref m_people, .ref m_at0, .ref m_stray, .ref m_set, .ref m_once, .ref m_truth, .ref m_known, .ref m_isKept, .int 0, .int (-1), .int 0, .int 0, .ref m_inside, .ref m_can, .ref m_fewest, .ref m_waysTo, .ref m_then, .ref m_two, .ref m_nextTwo, .ref m_three, .ref m_nextThree, .int (-1), .ref m_worth, .ref m_digit, .int 0, .long 0, .int 0, .int 0, .int 0, .int 0, .long 0])), (m_courts, .inl (cm_courts, 5, .inl (fun _ => 0)))]) [0, 1] (by decide) rfl
  have hKc := hK.sub (tys' := [(cm_courts, .int)]) [0] rfl
  have hFc := va_free (wc := [(m0, .inr (10, [.int 0, .ref m_width, .ref m_many, .ref m_cells, .ref m_moved, .ref m_tape, .int 0, .int 0, .int 0, .int 0, .int 0, .long 0, .int 0, .int 0, .int 0, .int (-1), .ref m_lines, .ref m_hours, .ref m_courts, .ref m_in, .ref m_gates, .ref m_gate, .ref m_people, .ref m_at0, .ref m_stray, .ref m_set, .ref m_once, .ref m_truth, .ref m_known, .ref m_isKept, .int 0, .int (-1), .int 0, .int 0, .ref m_inside, .ref m_can, .ref m_fewest, .ref m_waysTo, .ref m_then, .ref m_two, .ref m_nextTwo, .ref m_three, .ref m_nextThree, .int (-1), .ref m_worth, .ref m_digit, .int 0, .long 0, .int 0, .int 0, .int 0, .int 0, .long 0])), (m_courts, .inl (cm_courts, 5, .inl (fun _ => 0)))]) hD hS hA [0, 1] rfl
  refine va_calli (va_runV (As := [.int (xs (Int32.toNatClampNeg 1)), .int (xs (Int32.toNatClampNeg 2)), .int (xs (Int32.toNatClampNeg 3)), .int (xs (Int32.toNatClampNeg 4)), .int (xs (Int32.toNatClampNeg 5))]) (rest := [.int (-2)]) ⟨hx, hb, hml, hown, hts⟩ (k_X10_three l dC dI m0 (xs (Int32.toNatClampNeg 1)) (xs (Int32.toNatClampNeg 2)) (xs (Int32.toNatClampNeg 3)) (xs (Int32.toNatClampNeg 4)) (xs (Int32.toNatClampNeg 5)) m_width m_many m_cells m_moved m_tape m_lines m_hours m_courts m_in m_gates m_gate m_people m_at0 m_stray m_set m_once m_truth m_known m_isKept m_inside m_can m_fewest m_waysTo m_then m_two m_nextTwo m_three m_nextThree m_worth m_digit cm_courts H.size) (cwV 5 hts (z_gV zw_t8_116 zw_t8_117 zw_t8_118 zw_t1_11 zw_t8_119) rfl rfl rfl (by decide +kernel) ⟨(Nat.le_of_ble_eq_true rfl), (Nat.le_of_ble_eq_true rfl)⟩) (z_preV hPc hKc hDc (ci := 10) (q0 := 0) rfl rfl) rfl rfl hl.1 rfl (lv_room (Nat.le_of_ble_eq_true rfl)) dL_law_1471 ⟨(Nat.le_of_ble_eq_true rfl), (Nat.le_of_ble_eq_true rfl)⟩) hS (fun q _ h => hFc q h) hFc (fun r_12 u t H1 locs ht hvm hw hB hz1 hk1 hS => ?_)
  have hB : zW dC dI [] [] (va_A [(m0, .inr (10, [.int 0, .ref m_width, .ref m_many, .ref m_cells, .ref m_moved, .ref m_tape, .int 0, .int 0, .int 0, .int 0, .int 0, .long 0, .int 0, .int 0, .int 0, .int (-1), .ref m_lines, .ref m_hours, .ref m_courts, .ref m_in, .ref m_gates, .ref m_gate, .ref m_people, .ref m_at0, .ref m_stray, .ref m_set, .ref m_once, .ref m_truth, .ref m_known, .ref m_isKept, .int 0, .int (-1), .int 0, .int 0, .ref m_inside, .ref m_can, .ref m_fewest, .ref m_waysTo, .ref m_then, .ref m_two, .ref m_nextTwo, .ref m_three, .ref m_nextThree, .int (-1), .ref m_worth, .ref m_digit, .int 0, .long 0, .int 0, .int 0, .int 0, .int 0, .long 0])), (m_courts, .inl (cm_courts, 5, .inl (fun _ => 0)))] H.size) t := z_none (va_K.moved hvm hK)
  obtain ⟨hP, hD, hK⟩ := z_after [] hB ht hvm hP hD hK [0, 1] [] rfl rfl (by decide) (by decide) hk1 hFc
  generalize H1 = H at hP hS ⊢
  have hP : va_P (dC, dI) vwCl [] H := hP
  have hD : va_D A [] := hD
  have hK : va_K (dC, dI) vwCl [(cm_courts, .int)] s := hK
  obtain rfl : r_12 = (-2) := hw
  refine lv_icmp_eq (tgt := 2651) hx hb dL_law_1474 (by decide) (fun _ => ?_) (fun q => absurd q (by decide))
  exact law_tail C0 hA2 (Nat.le_of_ble_eq_true rfl) (Nat.le_of_ble_eq_true rfl) hS (lv_sub hl [0, 3] rfl)
set_option maxHeartbeats 4000000 in
set_option maxRecDepth 100000 in
theorem law_vital {p : Program} {e : Env} {s : State} {m : MethodId} {below : List Frame} {meth : Method} {c : Code} {l : Launch} {b : Nat} {xs : Nat → Int32} (C0 : lw_At p s m meth c b 6 xs) {dC : Nat → ClassId} {dI : Nat → Nat → Nat} {A : Nat → Prop} (hA : ∀ q, s.heap.size ≤ q → A q) (hA2 : ∀ q, A q → s.heap.size ≤ q) {h0 : Nat} {tp : Nat} {nw : Nat} {im : Nat} {sl : Nat} {rd : Nat} {wk : Nat} {fm : Nat} {mt : Nat} {ch : Nat} {dy : Nat} {tn : Nat} {ta0 : Nat} {ta1 : Nat} {ta2 : Nat} {ta3 : Nat} {ta4 : Nat} {ta5 : Nat} {ta6 : Nat} {ta7 : Nat} {ta8 : Nat} {ta9 : Nat} {m0 : Nat} {m_width : Nat} {m_many : Nat} {m_cells : Nat} {m_moved : Nat} {m_tape : Nat} {m_lines : Nat} {m_hours : Nat} {m_courts : Nat} {m_in : Nat} {m_gates : Nat} {m_gate : Nat} {m_people : Nat} {m_at0 : Nat} {m_stray : Nat} {m_set : Nat} {m_once : Nat} {m_truth : Nat} {m_known : Nat} {m_isKept : Nat} {m_inside : Nat} {m_can : Nat} {m_fewest : Nat} {m_waysTo : Nat} {m_then : Nat} {m_two : Nat} {m_nextTwo : Nat} {m_three : Nat} {m_nextThree : Nat} {m_worth : Nat} {m_digit : Nat} {cm_courts : ClassId}  {H : Heap} {locs : List Loc} {ls : Array Slot} (hP : va_P (dC, dI) vwCl [(h0, .inr (9, [.ref tp, .int 0, .int 0, .int (-1), .ref nw, .ref im, .ref sl, .ref rd, .ref wk, .ref fm, .ref mt, .ref ch, .ref dy])), (nw, .inr (3, [.int 0, .ref tn, .int 0, .int 0, .int 0, .int 0])), (tn, .inr (7, [.int 0, .int 0, .int 0, .int 0, .int 0, .int 0, .int 0, .int 0, .ref ta0, .ref ta1, .ref ta2, .ref ta3, .ref ta4, .ref ta5, .ref ta6, .ref ta7, .ref ta8, .ref ta9])), (m0, .inr (10, [.int 0, .ref m_width, .ref m_many, .ref m_cells, .ref m_moved, .ref m_tape, .int 0, .int 0, .int 0, .int 0, .int 0, .long 0, .int 0, .int 0, .int 0, .int (-1), .ref m_lines, .ref m_hours, .ref m_courts, .ref m_in, .ref m_gates, .ref m_gate, .ref m_people, .ref m_at0, .ref m_stray, .ref m_set, .ref m_once, .ref m_truth, .ref m_known, .ref m_isKept, .int 0, .int (-1), .int 0, .int 0, .ref m_inside, .ref m_can, .ref m_fewest, .ref m_waysTo, .ref m_then, .ref m_two, .ref m_nextTwo, .ref m_three, .ref m_nextThree, .int (-1), .ref m_worth, .ref m_digit, .int 0, .long 0, .int 0, .int 0, .int 0, .int 0, .long 0])), (m_courts, .inl (cm_courts, 5, .inl (fun _ => 0)))] H) (hD : va_D A [(h0, .inr (9, [.ref tp, .int 0, .int 0, .int (-1), .ref nw, .ref im, .ref sl, .ref rd, .ref wk, .ref fm, .ref mt, .ref ch, .ref dy])), (nw, .inr (3, [.int 0, .ref tn, .int 0, .int 0, .int 0, .int 0])), (tn, .inr (7, [.int 0, .int 0, .int 0, .int 0, .int 0, .int 0, .int 0, .int 0, .ref ta0, .ref ta1, .ref ta2, .ref ta3, .ref ta4, .ref ta5, .ref ta6, .ref ta7, .ref ta8, .ref ta9])), (m0, .inr (10, [.int 0, .ref m_width, .ref m_many, .ref m_cells, .ref m_moved, .ref m_tape, .int 0, .int 0, .int 0, .int 0, .int 0, .long 0, .int 0, .int 0, .int 0, .int (-1), .ref m_lines, .ref m_hours, .ref m_courts, .ref m_in, .ref m_gates, .ref m_gate, .ref m_people, .ref m_at0, .ref m_stray, .ref m_set, .ref m_once, .ref m_truth, .ref m_known, .ref m_isKept, .int 0, .int (-1), .int 0, .int 0, .ref m_inside, .ref m_can, .ref m_fewest, .ref m_waysTo, .ref m_then, .ref m_two, .ref m_nextTwo, .ref m_three, .ref m_nextThree, .int (-1), .ref m_worth, .ref m_digit, .int 0, .long 0, .int 0, .int 0, .int 0, .int 0, .long 0])), (m_courts, .inl (cm_courts, 5, .inl (fun _ => 0)))]) (hK : va_K (dC, dI) vwCl [(cm_courts, .int)] s) (hS : va_S A s.heap H locs) (hl : lv_has ls 4 [(3, .int 0), (2, .ref m0), (1, .ref h0), (0, .ref b)]) : W p l e room_1 s m #[Value.ref b] below meth c H locs 166 101284 (lw_Z below #[Value.ref b] s) (F0 m 1479 ls []) := by
  obtain ⟨hx, hb, hr, hml, hown, hts, hX, hbl, hlocks, hgv⟩ := id C0
  have hown : s.vm.findClass RL = some m.cls := hown
  have hb : c.code = cL_law := hb
  have hts : ∀ w ∈ zT, w.before #[Value.ref b] s = true := fun w h => hts w (zT_in w h)
  have hbA : ¬ A b := fun q => absurd (hA2 b q) (Nat.not_le.mpr hbl)
  refine lv_aload_n hx hb dL_law_1479 rfl (lv_at hl 2 rfl) ?_
  refine lv_aload_n hx hb dL_law_1480 rfl (lv_at hl 3 rfl) ?_
  refine lv_iload_n hx hb dL_law_1481 rfl (lv_at hl 0 rfl) ?_
  refine lv_iconst (v := 1) hx hb dL_law_1482 (by decide) ?_
  refine lv_iadd hx hb dL_law_1483 ?_
  refine lv_topi (fun x_1 ex_1 => ?_)
  obtain rfl : x_1 = 1 := ex_1.trans (by decide)
  refine va_sld hx hb hX hbl hbA hS (z_inC _ (k := 1) (by decide) (by decide)) dL_law_1484 ?_
  refine lv_aload_n hx hb dL_law_1485 rfl (lv_at hl 3 rfl) ?_
  refine lv_iload_n hx hb dL_law_1486 rfl (lv_at hl 0 rfl) ?_
  refine lv_iconst (v := 2) hx hb dL_law_1487 (by decide) ?_
  refine lv_iadd hx hb dL_law_1488 ?_
  refine lv_topi (fun x_2 ex_2 => ?_)
  obtain rfl : x_2 = 2 := ex_2.trans (by decide)
  refine va_sld hx hb hX hbl hbA hS (z_inC _ (k := 2) (by decide) (by decide)) dL_law_1489 ?_
  refine lv_aload_n hx hb dL_law_1490 rfl (lv_at hl 3 rfl) ?_
  refine lv_iload_n hx hb dL_law_1491 rfl (lv_at hl 0 rfl) ?_
  refine lv_iconst (v := 3) hx hb dL_law_1492 (by decide) ?_
  refine lv_iadd hx hb dL_law_1493 ?_
  refine lv_topi (fun x_3 ex_3 => ?_)
  obtain rfl : x_3 = 3 := ex_3.trans (by decide)
  refine va_sld hx hb hX hbl hbA hS (z_inC _ (k := 3) (by decide) (by decide)) dL_law_1494 ?_
  have hPc := hP.sub (ws' := [(h0, .inr (9, [.ref tp, .int 0, .int 0, .int (-1), .ref nw, .ref im, .ref sl, .ref rd, .ref wk, .ref fm, .ref mt, .ref ch, .ref dy])), (nw, .inr (3, [.int 0, .ref tn, .int 0, .int 0, .int 0, .int 0])), (tn, .inr (7, [.int 0, .int 0, .int 0, .int 0, .int 0, .int 0, .int 0, .int 0, .ref ta0, .ref ta1, .ref ta2, .ref ta3, .ref ta4, .ref ta5, .ref ta6, .ref ta7, .ref ta8, .ref ta9]))]) [0, 1, 2] rfl
  have hDc := hD.sub (ws' := [(h0, .inr (9, [.ref tp, .int 0, .int 0, .int (-1), .ref nw, .ref im, .ref sl, .ref rd, .ref wk, .ref fm, .ref mt, .ref ch, .ref dy])), (nw, .inr (3, [.int 0, .ref tn, .int 0, .int 0, .int 0, .int 0])), (tn, .inr (7, [.int 0, .int 0, .int 0, .int 0, .int 0, .int 0, .int 0, .int 0, .ref ta0, .ref ta1, .ref ta2, .ref ta3, .ref ta4, .ref ta5, .ref ta6, .ref ta7, .ref ta8, .ref ta9]))]) [0, 1, 2] (by decide) rfl
  have hKc := hK.sub (tys' := []) [] rfl
  have hFc := va_free (wc := [(h0, .inr (9, [.ref tp, .int 0, .int 0, .int (-1), .ref nw, .ref im, .ref sl, .ref rd, .ref wk, .ref fm, .ref mt, .ref ch, .ref dy])), (nw, .inr (3, [.int 0, .ref tn, .int 0, .int 0, .int 0, .int 0])), (tn, .inr (7, [.int 0, .int 0, .int 0, .int 0, .int 0, .int 0, .int 0, .int 0, .ref ta0, .ref ta1, .ref ta2, .ref ta3, .ref ta4, .ref ta5, .ref ta6, .ref ta7, .ref ta8, .ref ta9]))]) hD hS hA [0, 1, 2] rfl
  refine va_calli (va_runV (As := [.int (xs (Int32.toNatClampNeg 1)), .int (xs (Int32.toNatClampNeg 2)), .int (xs (Int32.toNatClampNeg 3))]) (rest := []) ⟨hx, hb, hml, hown, hts⟩ (k_X9_vital l dC dI h0 (xs (Int32.toNatClampNeg 1)) (xs (Int32.toNatClampNeg 2)) (xs (Int32.toNatClampNeg 3)) tp nw im sl rd wk fm mt ch dy tn ta0 ta1 ta2 ta3 ta4 ta5 ta6 ta7 ta8 ta9 H.size) (cwV 3 hts (z_gV zw_t5_29 zw_t5_30 zw_t5_31 zw_t1_1 zw_t5_32) rfl rfl rfl (by decide +kernel) ⟨(Nat.le_of_ble_eq_true rfl), (Nat.le_of_ble_eq_true rfl)⟩) (z_preV hPc hKc hDc (ci := 9) (q0 := 0) rfl rfl) rfl rfl hl.1 rfl (lv_room (Nat.le_of_ble_eq_true rfl)) dL_law_1495 ⟨(Nat.le_of_ble_eq_true rfl), (Nat.le_of_ble_eq_true rfl)⟩) hS (fun q _ h => hFc q h) hFc (fun r_4 u t H1 locs ht hvm hw hB hz1 hk1 hS => ?_)
  have hB : zW dC dI [] [] (va_A [(h0, .inr (9, [.ref tp, .int 0, .int 0, .int (-1), .ref nw, .ref im, .ref sl, .ref rd, .ref wk, .ref fm, .ref mt, .ref ch, .ref dy])), (nw, .inr (3, [.int 0, .ref tn, .int 0, .int 0, .int 0, .int 0])), (tn, .inr (7, [.int 0, .int 0, .int 0, .int 0, .int 0, .int 0, .int 0, .int 0, .ref ta0, .ref ta1, .ref ta2, .ref ta3, .ref ta4, .ref ta5, .ref ta6, .ref ta7, .ref ta8, .ref ta9]))] H.size) t := z_none (va_K.moved hvm hK)
  obtain ⟨hP, hD, hK⟩ := z_after [(m0, .inr (10, [.int 0, .ref m_width, .ref m_many, .ref m_cells, .ref m_moved, .ref m_tape, .int 0, .int 0, .int 0, .int 0, .int 0, .long 0, .int 0, .int 0, .int 0, .int (-1), .ref m_lines, .ref m_hours, .ref m_courts, .ref m_in, .ref m_gates, .ref m_gate, .ref m_people, .ref m_at0, .ref m_stray, .ref m_set, .ref m_once, .ref m_truth, .ref m_known, .ref m_isKept, .int 0, .int (-1), .int 0, .int 0, .ref m_inside, .ref m_can, .ref m_fewest, .ref m_waysTo, .ref m_then, .ref m_two, .ref m_nextTwo, .ref m_three, .ref m_nextThree, .int (-1), .ref m_worth, .ref m_digit, .int 0, .long 0, .int 0, .int 0, .int 0, .int 0, .long 0])), (m_courts, .inl (cm_courts, 5, .inl (fun _ => 0)))] hB ht hvm hP hD hK [0, 1, 2] [3, 4] rfl rfl (by decide) (by decide) hk1 hFc
  generalize H1 = H at hP hS ⊢
  have hP : va_P (dC, dI) vwCl [(m0, .inr (10, [.int 0, .ref m_width, .ref m_many, .ref m_cells, .ref m_moved, .ref m_tape, .int 0, .int 0, .int 0, .int 0, .int 0, .long 0, .int 0, .int 0, .int 0, .int (-1), .ref m_lines, .ref m_hours, .ref m_courts, .ref m_in, .ref m_gates, .ref m_gate, .ref m_people, .ref m_at0, .ref m_stray, .ref m_set, .ref m_once, .ref m_truth, .ref m_known, .ref m_isKept, .int 0, .int (-1), .int 0, .int 0, .ref m_inside, .ref m_can, .ref m_fewest, .ref m_waysTo, .ref m_then, .ref m_two, .ref m_nextTwo, .ref m_three, .ref m_nextThree, .int (-1), .ref m_worth, .ref m_digit, .int 0, .long 0, .int 0, .int 0, .int 0, .int 0, .long 0])), (m_courts, .inl (cm_courts, 5, .inl (fun _ => 0)))] H := hP
  have hD : va_D A [(m0, .inr (10, [.int 0, .ref m_width, .ref m_many, .ref m_cells, .ref m_moved, .ref m_tape, .int 0, .int 0, .int 0, .int 0, .int 0, .long 0, .int 0, .int 0, .int 0, .int (-1), .ref m_lines, .ref m_hours, .ref m_courts, .ref m_in, .ref m_gates, .ref m_gate, .ref m_people, .ref m_at0, .ref m_stray, .ref m_set, .ref m_once, .ref m_truth, .ref m_known, .ref m_isKept, .int 0, .int (-1), .int 0, .int 0, .ref m_inside, .ref m_can, .ref m_fewest, .ref m_waysTo, .ref m_then, .ref m_two, .ref m_nextTwo, .ref m_three, .ref m_nextThree, .int (-1), .ref m_worth, .ref m_digit, .int 0, .long 0, .int 0, .int 0, .int 0, .int 0, .long 0])), (m_courts, .inl (cm_courts, 5, .inl (fun _ => 0)))] := hD
  have hK : va_K (dC, dI) vwCl [(cm_courts, .int)] s := hK
  obtain rfl : r_4 = (-2) := hw
  refine lv_aload_n hx hb dL_law_1498 rfl (lv_at hl 1 rfl) ?_
  refine lv_aload_n hx hb dL_law_1499 rfl (lv_at hl 3 rfl) ?_
  refine lv_iload_n hx hb dL_law_1500 rfl (lv_at hl 0 rfl) ?_
  refine lv_iconst (v := 1) hx hb dL_law_1501 (by decide) ?_
  refine lv_iadd hx hb dL_law_1502 ?_
  refine lv_topi (fun x_5 ex_5 => ?_)
  obtain rfl : x_5 = 1 := ex_5.trans (by decide)
  refine va_sld hx hb hX hbl hbA hS (z_inC _ (k := 1) (by decide) (by decide)) dL_law_1503 ?_
  refine lv_aload_n hx hb dL_law_1504 rfl (lv_at hl 3 rfl) ?_
  refine lv_iload_n hx hb dL_law_1505 rfl (lv_at hl 0 rfl) ?_
  refine lv_iconst (v := 2) hx hb dL_law_1506 (by decide) ?_
  refine lv_iadd hx hb dL_law_1507 ?_
  refine lv_topi (fun x_6 ex_6 => ?_)
  obtain rfl : x_6 = 2 := ex_6.trans (by decide)
  refine va_sld hx hb hX hbl hbA hS (z_inC _ (k := 2) (by decide) (by decide)) dL_law_1508 ?_
  refine lv_aload_n hx hb dL_law_1509 rfl (lv_at hl 3 rfl) ?_
  refine lv_iload_n hx hb dL_law_1510 rfl (lv_at hl 0 rfl) ?_
  refine lv_iconst (v := 3) hx hb dL_law_1511 (by decide) ?_
  refine lv_iadd hx hb dL_law_1512 ?_
  refine lv_topi (fun x_7 ex_7 => ?_)
  obtain rfl : x_7 = 3 := ex_7.trans (by decide)
  refine va_sld hx hb hX hbl hbA hS (z_inC _ (k := 3) (by decide) (by decide)) dL_law_1513 ?_
  have hPc := hP.sub (ws' := [(m0, .inr (10, [.int 0, .ref m_width, .ref m_many, .ref m_cells, .ref m_moved, .ref m_tape, .int 0, .int 0, .int 0, .int 0, .int 0, .long 0, .int 0, .int 0, .int 0, .int (-1), .ref m_lines, .ref m_hours, .ref m_courts, .ref m_in, .ref m_gates, .ref m_gate, .ref m_people, .ref m_at0, .ref m_stray, .ref m_set, .ref m_once, .ref m_truth, .ref m_known, .ref m_isKept, .int 0, .int (-1), .int 0, .int 0, .ref m_inside, .ref m_can, .ref m_fewest, .ref m_waysTo, .ref m_then, .ref m_two, .ref m_nextTwo, .ref m_three, .ref m_nextThree, .int (-1), .ref m_worth, .ref m_digit, .int 0, .long 0, .int 0, .int 0, .int 0, .int 0, .long 0])), (m_courts, .inl (cm_courts, 5, .inl (fun _ => 0)))]) [0, 1] rfl
  have hDc := hD.sub (ws' := [(m0, .inr (10, [.int 0, .ref m_width, .ref m_many, .ref m_cells, .ref m_moved, .ref m_tape, .int 0, .int 0, .int 0, .int 0, .int 0, .long 0, .int 0, .int 0, .int 0, .int (-1), .ref m_lines, .ref m_hours, .ref m_courts, .ref m_in, .ref m_gates, .ref m_gate, .ref m_people, .ref m_at0, .ref m_stray, .ref m_set, .ref m_once, .ref m_truth, .ref m_known, .ref m_isKept, .int 0, .int (-1), .int 0, .int 0, .ref m_inside, .ref m_can, .ref m_fewest, .ref m_waysTo, .ref m_then, .ref m_two, .ref m_nextTwo, .ref m_three, .ref m_nextThree, .int (-1), .ref m_worth, .ref m_digit, .int 0, .long 0, .int 0, .int 0, .int 0, .int 0, .long 0])), (m_courts, .inl (cm_courts, 5, .inl (fun _ => 0)))]) [0, 1] (by decide) rfl
  have hKc := hK.sub (tys' := [(cm_courts, .int)]) [0] rfl
  have hFc := va_free (wc := [(m0, .inr (10, [.int 0, .ref m_width, .ref m_many, .ref m_cells, .ref m_moved, .ref m_tape, .int 0, .int 0, .int 0, .int 0, .int 0, .long 0, .int 0, .int 0, .int 0, .int (-1), .ref m_lines, .ref m_hours, .ref m_courts, .ref m_in, .ref m_gates, .ref m_gate, .ref m_people, .ref m_at0, .ref m_stray, .ref m_set, .ref m_once, .ref m_truth, .ref m_known, .ref m_isKept, .int 0, .int (-1), .int 0, .int 0, .ref m_inside, .ref m_can, .ref m_fewest, .ref m_waysTo, .ref m_then, .ref m_two, .ref m_nextTwo, .ref m_three, .ref m_nextThree, .int (-1), .ref m_worth, .ref m_digit, .int 0, .long 0, .int 0, .int 0, .int 0, .int 0, .long 0])), (m_courts, .inl (cm_courts, 5, .inl (fun _ => 0)))]) hD hS hA [0, 1] rfl
  refine va_calli (va_runV (As := [.int (xs (Int32.toNatClampNeg 1)), .int (xs (Int32.toNatClampNeg 2)), .int (xs (Int32.toNatClampNeg 3))]) (rest := [.int (-2)]) ⟨hx, hb, hml, hown, hts⟩ (k_X10_vital l dC dI m0 (xs (Int32.toNatClampNeg 1)) (xs (Int32.toNatClampNeg 2)) (xs (Int32.toNatClampNeg 3)) m_width m_many m_cells m_moved m_tape m_lines m_hours m_courts m_in m_gates m_gate m_people m_at0 m_stray m_set m_once m_truth m_known m_isKept m_inside m_can m_fewest m_waysTo m_then m_two m_nextTwo m_three m_nextThree m_worth m_digit cm_courts H.size) (cwV 3 hts (z_gV zw_t8_136 zw_t8_137 zw_t8_138 zw_t1_11 zw_t8_139) rfl rfl rfl (by decide +kernel) ⟨(Nat.le_of_ble_eq_true rfl), (Nat.le_of_ble_eq_true rfl)⟩) (z_preV hPc hKc hDc (ci := 10) (q0 := 0) rfl rfl) rfl rfl hl.1 rfl (lv_room (Nat.le_of_ble_eq_true rfl)) dL_law_1514 ⟨(Nat.le_of_ble_eq_true rfl), (Nat.le_of_ble_eq_true rfl)⟩) hS (fun q _ h => hFc q h) hFc (fun r_8 u t H1 locs ht hvm hw hB hz1 hk1 hS => ?_)
  have hB : zW dC dI [] [] (va_A [(m0, .inr (10, [.int 0, .ref m_width, .ref m_many, .ref m_cells, .ref m_moved, .ref m_tape, .int 0, .int 0, .int 0, .int 0, .int 0, .long 0, .int 0, .int 0, .int 0, .int (-1), .ref m_lines, .ref m_hours, .ref m_courts, .ref m_in, .ref m_gates, .ref m_gate, .ref m_people, .ref m_at0, .ref m_stray, .ref m_set, .ref m_once, .ref m_truth, .ref m_known, .ref m_isKept, .int 0, .int (-1), .int 0, .int 0, .ref m_inside, .ref m_can, .ref m_fewest, .ref m_waysTo, .ref m_then, .ref m_two, .ref m_nextTwo, .ref m_three, .ref m_nextThree, .int (-1), .ref m_worth, .ref m_digit, .int 0, .long 0, .int 0, .int 0, .int 0, .int 0, .long 0])), (m_courts, .inl (cm_courts, 5, .inl (fun _ => 0)))] H.size) t := z_none (va_K.moved hvm hK)
  obtain ⟨hP, hD, hK⟩ := z_after [] hB ht hvm hP hD hK [0, 1] [] rfl rfl (by decide) (by decide) hk1 hFc
  generalize H1 = H at hP hS ⊢
  have hP : va_P (dC, dI) vwCl [] H := hP
  have hD : va_D A [] := hD
  have hK : va_K (dC, dI) vwCl [(cm_courts, .int)] s := hK
  obtain rfl : r_8 = (-2) := hw
  refine lv_icmp_eq (tgt := 2651) hx hb dL_law_1517 (by decide) (fun _ => ?_) (fun q => absurd q (by decide))
  exact law_tail C0 hA2 (Nat.le_of_ble_eq_true rfl) (Nat.le_of_ble_eq_true rfl) hS (lv_sub hl [0, 3] rfl)
set_option maxHeartbeats 4000000 in
set_option maxRecDepth 100000 in
theorem law_tell {p : Program} {e : Env} {s : State} {m : MethodId} {below : List Frame} {meth : Method} {c : Code} {l : Launch} {b : Nat} {xs : Nat → Int32} (C0 : lw_At p s m meth c b 6 xs) {dC : Nat → ClassId} {dI : Nat → Nat → Nat} {A : Nat → Prop} (hA : ∀ q, s.heap.size ≤ q → A q) (hA2 : ∀ q, A q → s.heap.size ≤ q) {h0 : Nat} {tp : Nat} {nw : Nat} {im : Nat} {sl : Nat} {rd : Nat} {wk : Nat} {fm : Nat} {mt : Nat} {ch : Nat} {dy : Nat} {tn : Nat} {ta0 : Nat} {ta1 : Nat} {ta2 : Nat} {ta3 : Nat} {ta4 : Nat} {ta5 : Nat} {ta6 : Nat} {ta7 : Nat} {ta8 : Nat} {ta9 : Nat} {m0 : Nat} {m_width : Nat} {m_many : Nat} {m_cells : Nat} {m_moved : Nat} {m_tape : Nat} {m_lines : Nat} {m_hours : Nat} {m_courts : Nat} {m_in : Nat} {m_gates : Nat} {m_gate : Nat} {m_people : Nat} {m_at0 : Nat} {m_stray : Nat} {m_set : Nat} {m_once : Nat} {m_truth : Nat} {m_known : Nat} {m_isKept : Nat} {m_inside : Nat} {m_can : Nat} {m_fewest : Nat} {m_waysTo : Nat} {m_then : Nat} {m_two : Nat} {m_nextTwo : Nat} {m_three : Nat} {m_nextThree : Nat} {m_worth : Nat} {m_digit : Nat} {cm_people : ClassId}  {H : Heap} {locs : List Loc} {ls : Array Slot} (hP : va_P (dC, dI) vwCl [(h0, .inr (9, [.ref tp, .int 0, .int 0, .int (-1), .ref nw, .ref im, .ref sl, .ref rd, .ref wk, .ref fm, .ref mt, .ref ch, .ref dy])), (nw, .inr (3, [.int 0, .ref tn, .int 0, .int 0, .int 0, .int 0])), (tn, .inr (7, [.int 0, .int 0, .int 0, .int 0, .int 0, .int 0, .int 0, .int 0, .ref ta0, .ref ta1, .ref ta2, .ref ta3, .ref ta4, .ref ta5, .ref ta6, .ref ta7, .ref ta8, .ref ta9])), (m0, .inr (10, [.int 0, .ref m_width, .ref m_many, .ref m_cells, .ref m_moved, .ref m_tape, .int 0, .int 0, .int 0, .int 0, .int 0, .long 0, .int 0, .int 0, .int 0, .int (-1), .ref m_lines, .ref m_hours, .ref m_courts, .ref m_in, .ref m_gates, .ref m_gate, .ref m_people, .ref m_at0, .ref m_stray, .ref m_set, .ref m_once, .ref m_truth, .ref m_known, .ref m_isKept, .int 0, .int (-1), .int 0, .int 0, .ref m_inside, .ref m_can, .ref m_fewest, .ref m_waysTo, .ref m_then, .ref m_two, .ref m_nextTwo, .ref m_three, .ref m_nextThree, .int (-1), .ref m_worth, .ref m_digit, .int 0, .long 0, .int 0, .int 0, .int 0, .int 0, .long 0])), (m_people, .inl (cm_people, 5, .inl (fun _ => 0)))] H) (hD : va_D A [(h0, .inr (9, [.ref tp, .int 0, .int 0, .int (-1), .ref nw, .ref im, .ref sl, .ref rd, .ref wk, .ref fm, .ref mt, .ref ch, .ref dy])), (nw, .inr (3, [.int 0, .ref tn, .int 0, .int 0, .int 0, .int 0])), (tn, .inr (7, [.int 0, .int 0, .int 0, .int 0, .int 0, .int 0, .int 0, .int 0, .ref ta0, .ref ta1, .ref ta2, .ref ta3, .ref ta4, .ref ta5, .ref ta6, .ref ta7, .ref ta8, .ref ta9])), (m0, .inr (10, [.int 0, .ref m_width, .ref m_many, .ref m_cells, .ref m_moved, .ref m_tape, .int 0, .int 0, .int 0, .int 0, .int 0, .long 0, .int 0, .int 0, .int 0, .int (-1), .ref m_lines, .ref m_hours, .ref m_courts, .ref m_in, .ref m_gates, .ref m_gate, .ref m_people, .ref m_at0, .ref m_stray, .ref m_set, .ref m_once, .ref m_truth, .ref m_known, .ref m_isKept, .int 0, .int (-1), .int 0, .int 0, .ref m_inside, .ref m_can, .ref m_fewest, .ref m_waysTo, .ref m_then, .ref m_two, .ref m_nextTwo, .ref m_three, .ref m_nextThree, .int (-1), .ref m_worth, .ref m_digit, .int 0, .long 0, .int 0, .int 0, .int 0, .int 0, .long 0])), (m_people, .inl (cm_people, 5, .inl (fun _ => 0)))]) (hK : va_K (dC, dI) vwCl [(cm_people, .int)] s) (hS : va_S A s.heap H locs) (hl : lv_has ls 4 [(3, .int 0), (2, .ref m0), (1, .ref h0), (0, .ref b)]) : W p l e room_1 s m #[Value.ref b] below meth c H locs 166 101284 (lw_Z below #[Value.ref b] s) (F0 m 1522 ls []) := by
  obtain ⟨hx, hb, hr, hml, hown, hts, hX, hbl, hlocks, hgv⟩ := id C0
  have hown : s.vm.findClass RL = some m.cls := hown
  have hb : c.code = cL_law := hb
  have hts : ∀ w ∈ zT, w.before #[Value.ref b] s = true := fun w h => hts w (zT_in w h)
  have hbA : ¬ A b := fun q => absurd (hA2 b q) (Nat.not_le.mpr hbl)
  refine lv_aload_n hx hb dL_law_1522 rfl (lv_at hl 2 rfl) ?_
  refine lv_aload_n hx hb dL_law_1523 rfl (lv_at hl 3 rfl) ?_
  refine lv_iload_n hx hb dL_law_1524 rfl (lv_at hl 0 rfl) ?_
  refine lv_iconst (v := 1) hx hb dL_law_1525 (by decide) ?_
  refine lv_iadd hx hb dL_law_1526 ?_
  refine lv_topi (fun x_1 ex_1 => ?_)
  obtain rfl : x_1 = 1 := ex_1.trans (by decide)
  refine va_sld hx hb hX hbl hbA hS (z_inC _ (k := 1) (by decide) (by decide)) dL_law_1527 ?_
  refine lv_aload_n hx hb dL_law_1528 rfl (lv_at hl 3 rfl) ?_
  refine lv_iload_n hx hb dL_law_1529 rfl (lv_at hl 0 rfl) ?_
  refine lv_iconst (v := 2) hx hb dL_law_1530 (by decide) ?_
  refine lv_iadd hx hb dL_law_1531 ?_
  refine lv_topi (fun x_2 ex_2 => ?_)
  obtain rfl : x_2 = 2 := ex_2.trans (by decide)
  refine va_sld hx hb hX hbl hbA hS (z_inC _ (k := 2) (by decide) (by decide)) dL_law_1532 ?_
  refine lv_aload_n hx hb dL_law_1533 rfl (lv_at hl 3 rfl) ?_
  refine lv_iload_n hx hb dL_law_1534 rfl (lv_at hl 0 rfl) ?_
  refine lv_iconst (v := 3) hx hb dL_law_1535 (by decide) ?_
  refine lv_iadd hx hb dL_law_1536 ?_
  refine lv_topi (fun x_3 ex_3 => ?_)
  obtain rfl : x_3 = 3 := ex_3.trans (by decide)
  refine va_sld hx hb hX hbl hbA hS (z_inC _ (k := 3) (by decide) (by decide)) dL_law_1537 ?_
  refine lv_aload_n hx hb dL_law_1538 rfl (lv_at hl 3 rfl) ?_
  refine lv_iload_n hx hb dL_law_1539 rfl (lv_at hl 0 rfl) ?_
  refine lv_iconst (v := 4) hx hb dL_law_1540 (by decide) ?_
  refine lv_iadd hx hb dL_law_1541 ?_
  refine lv_topi (fun x_4 ex_4 => ?_)
  obtain rfl : x_4 = 4 := ex_4.trans (by decide)
  refine va_sld hx hb hX hbl hbA hS (z_inC _ (k := 4) (by decide) (by decide)) dL_law_1542 ?_
  refine lv_aload_n hx hb dL_law_1543 rfl (lv_at hl 3 rfl) ?_
  refine lv_iload_n hx hb dL_law_1544 rfl (lv_at hl 0 rfl) ?_
  refine lv_iconst (v := 5) hx hb dL_law_1545 (by decide) ?_
  refine lv_iadd hx hb dL_law_1546 ?_
  refine lv_topi (fun x_5 ex_5 => ?_)
  obtain rfl : x_5 = 5 := ex_5.trans (by decide)
  refine va_sld hx hb hX hbl hbA hS (z_inC _ (k := 5) (by decide) (by decide)) dL_law_1547 ?_
  have hPc := hP.sub (ws' := [(h0, .inr (9, [.ref tp, .int 0, .int 0, .int (-1), .ref nw, .ref im, .ref sl, .ref rd, .ref wk, .ref fm, .ref mt, .ref ch, .ref dy])), (nw, .inr (3, [.int 0, .ref tn, .int 0, .int 0, .int 0, .int 0])), (tn, .inr (7, [.int 0, .int 0, .int 0, .int 0, .int 0, .int 0, .int 0, .int 0, .ref ta0, .ref ta1, .ref ta2, .ref ta3, .ref ta4, .ref ta5, .ref ta6, .ref ta7, .ref ta8, .ref ta9]))]) [0, 1, 2] rfl
  have hDc := hD.sub (ws' := [(h0, .inr (9, [.ref tp, .int 0, .int 0, .int (-1), .ref nw, .ref im, .ref sl, .ref rd, .ref wk, .ref fm, .ref mt, .ref ch, .ref dy])), (nw, .inr (3, [.int 0, .ref tn, .int 0, .int 0, .int 0, .int 0])), (tn, .inr (7, [.int 0, .int 0, .int 0, .int 0, .int 0, .int 0, .int 0, .int 0, .ref ta0, .ref ta1, .ref ta2, .ref ta3, .ref ta4, .ref ta5, .ref ta6, .ref ta7, .ref ta8, .ref ta9]))]) [0, 1, 2] (by decide) rfl
  have hKc := hK.sub (tys' := []) [] rfl
  have hFc := va_free (wc := [(h0, .inr (9, [.ref tp, .int 0, .int 0, .int (-1), .ref nw, .ref im, .ref sl, .ref rd, .ref wk, .ref fm, .ref mt, .ref ch, .ref dy])), (nw, .inr (3, [.int 0, .ref tn, .int 0, .int 0, .int 0, .int 0])), (tn, .inr (7, [.int 0, .int 0, .int 0, .int 0, .int 0, .int 0, .int 0, .int 0, .ref ta0, .ref ta1, .ref ta2, .ref ta3, .ref ta4, .ref ta5, .ref ta6, .ref ta7, .ref ta8, .ref ta9]))]) hD hS hA [0, 1, 2] rfl
  refine va_calll (va_runV (As := [.int (xs (Int32.toNatClampNeg 1)), .int (xs (Int32.toNatClampNeg 2)), .int (xs (Int32.toNatClampNeg 3)), .int (xs (Int32.toNatClampNeg 4)), .int (xs (Int32.toNatClampNeg 5))]) (rest := []) ⟨hx, hb, hml, hown, hts⟩ (k_X9_tell l dC dI h0 (xs (Int32.toNatClampNeg 1)) (xs (Int32.toNatClampNeg 2)) (xs (Int32.toNatClampNeg 3)) (xs (Int32.toNatClampNeg 4)) (xs (Int32.toNatClampNeg 5)) tp nw im sl rd wk fm mt ch dy tn ta0 ta1 ta2 ta3 ta4 ta5 ta6 ta7 ta8 ta9 H.size) (cwV 5 hts (z_gV zw_t5_41 zw_t5_42 zw_t5_43 zw_t1_1 zw_t5_44) rfl rfl rfl (by decide +kernel) ⟨(Nat.le_of_ble_eq_true rfl), (Nat.le_of_ble_eq_true rfl)⟩) (z_preV hPc hKc hDc (ci := 9) (q0 := 0) rfl rfl) rfl rfl hl.1 rfl (lv_room (Nat.le_of_ble_eq_true rfl)) dL_law_1548 ⟨(Nat.le_of_ble_eq_true rfl), (Nat.le_of_ble_eq_true rfl)⟩) hS (fun q _ h => hFc q h) hFc (fun r_6 u t H1 locs ht hvm hw hB hz1 hk1 hS => ?_)
  have hB : zW dC dI [] [] (va_A [(h0, .inr (9, [.ref tp, .int 0, .int 0, .int (-1), .ref nw, .ref im, .ref sl, .ref rd, .ref wk, .ref fm, .ref mt, .ref ch, .ref dy])), (nw, .inr (3, [.int 0, .ref tn, .int 0, .int 0, .int 0, .int 0])), (tn, .inr (7, [.int 0, .int 0, .int 0, .int 0, .int 0, .int 0, .int 0, .int 0, .ref ta0, .ref ta1, .ref ta2, .ref ta3, .ref ta4, .ref ta5, .ref ta6, .ref ta7, .ref ta8, .ref ta9]))] H.size) t := z_none (va_K.moved hvm hK)
  obtain ⟨hP, hD, hK⟩ := z_after [(m0, .inr (10, [.int 0, .ref m_width, .ref m_many, .ref m_cells, .ref m_moved, .ref m_tape, .int 0, .int 0, .int 0, .int 0, .int 0, .long 0, .int 0, .int 0, .int 0, .int (-1), .ref m_lines, .ref m_hours, .ref m_courts, .ref m_in, .ref m_gates, .ref m_gate, .ref m_people, .ref m_at0, .ref m_stray, .ref m_set, .ref m_once, .ref m_truth, .ref m_known, .ref m_isKept, .int 0, .int (-1), .int 0, .int 0, .ref m_inside, .ref m_can, .ref m_fewest, .ref m_waysTo, .ref m_then, .ref m_two, .ref m_nextTwo, .ref m_three, .ref m_nextThree, .int (-1), .ref m_worth, .ref m_digit, .int 0, .long 0, .int 0, .int 0, .int 0, .int 0, .long 0])), (m_people, .inl (cm_people, 5, .inl (fun _ => 0)))] hB ht hvm hP hD hK [0, 1, 2] [3, 4] rfl rfl (by decide) (by decide) hk1 hFc
  generalize H1 = H at hP hS ⊢
  have hP : va_P (dC, dI) vwCl [(m0, .inr (10, [.int 0, .ref m_width, .ref m_many, .ref m_cells, .ref m_moved, .ref m_tape, .int 0, .int 0, .int 0, .int 0, .int 0, .long 0, .int 0, .int 0, .int 0, .int (-1), .ref m_lines, .ref m_hours, .ref m_courts, .ref m_in, .ref m_gates, .ref m_gate, .ref m_people, .ref m_at0, .ref m_stray, .ref m_set, .ref m_once, .ref m_truth, .ref m_known, .ref m_isKept, .int 0, .int (-1), .int 0, .int 0, .ref m_inside, .ref m_can, .ref m_fewest, .ref m_waysTo, .ref m_then, .ref m_two, .ref m_nextTwo, .ref m_three, .ref m_nextThree, .int (-1), .ref m_worth, .ref m_digit, .int 0, .long 0, .int 0, .int 0, .int 0, .int 0, .long 0])), (m_people, .inl (cm_people, 5, .inl (fun _ => 0)))] H := hP
  have hD : va_D A [(m0, .inr (10, [.int 0, .ref m_width, .ref m_many, .ref m_cells, .ref m_moved, .ref m_tape, .int 0, .int 0, .int 0, .int 0, .int 0, .long 0, .int 0, .int 0, .int 0, .int (-1), .ref m_lines, .ref m_hours, .ref m_courts, .ref m_in, .ref m_gates, .ref m_gate, .ref m_people, .ref m_at0, .ref m_stray, .ref m_set, .ref m_once, .ref m_truth, .ref m_known, .ref m_isKept, .int 0, .int (-1), .int 0, .int 0, .ref m_inside, .ref m_can, .ref m_fewest, .ref m_waysTo, .ref m_then, .ref m_two, .ref m_nextTwo, .ref m_three, .ref m_nextThree, .int (-1), .ref m_worth, .ref m_digit, .int 0, .long 0, .int 0, .int 0, .int 0, .int 0, .long 0])), (m_people, .inl (cm_people, 5, .inl (fun _ => 0)))] := hD
  have hK : va_K (dC, dI) vwCl [(cm_people, .int)] s := hK
  obtain rfl : r_6 = (-2) := hw
  refine lv_aload_n hx hb dL_law_1551 rfl (lv_at hl 1 rfl) ?_
  refine lv_aload_n hx hb dL_law_1552 rfl (lv_at hl 3 rfl) ?_
  refine lv_iload_n hx hb dL_law_1553 rfl (lv_at hl 0 rfl) ?_
  refine lv_iconst (v := 1) hx hb dL_law_1554 (by decide) ?_
  refine lv_iadd hx hb dL_law_1555 ?_
  refine lv_topi (fun x_7 ex_7 => ?_)
  obtain rfl : x_7 = 1 := ex_7.trans (by decide)
  refine va_sld hx hb hX hbl hbA hS (z_inC _ (k := 1) (by decide) (by decide)) dL_law_1556 ?_
  refine lv_aload_n hx hb dL_law_1557 rfl (lv_at hl 3 rfl) ?_
  refine lv_iload_n hx hb dL_law_1558 rfl (lv_at hl 0 rfl) ?_
  refine lv_iconst (v := 2) hx hb dL_law_1559 (by decide) ?_
  refine lv_iadd hx hb dL_law_1560 ?_
  refine lv_topi (fun x_8 ex_8 => ?_)
  obtain rfl : x_8 = 2 := ex_8.trans (by decide)
  refine va_sld hx hb hX hbl hbA hS (z_inC _ (k := 2) (by decide) (by decide)) dL_law_1561 ?_
  refine lv_aload_n hx hb dL_law_1562 rfl (lv_at hl 3 rfl) ?_
  refine lv_iload_n hx hb dL_law_1563 rfl (lv_at hl 0 rfl) ?_
  refine lv_iconst (v := 3) hx hb dL_law_1564 (by decide) ?_
  refine lv_iadd hx hb dL_law_1565 ?_
  refine lv_topi (fun x_9 ex_9 => ?_)
  obtain rfl : x_9 = 3 := ex_9.trans (by decide)
  refine va_sld hx hb hX hbl hbA hS (z_inC _ (k := 3) (by decide) (by decide)) dL_law_1566 ?_
  refine lv_aload_n hx hb dL_law_1567 rfl (lv_at hl 3 rfl) ?_
  refine lv_iload_n hx hb dL_law_1568 rfl (lv_at hl 0 rfl) ?_
  refine lv_iconst (v := 4) hx hb dL_law_1569 (by decide) ?_
  refine lv_iadd hx hb dL_law_1570 ?_
  refine lv_topi (fun x_10 ex_10 => ?_)
  obtain rfl : x_10 = 4 := ex_10.trans (by decide)
  refine va_sld hx hb hX hbl hbA hS (z_inC _ (k := 4) (by decide) (by decide)) dL_law_1571 ?_
  refine lv_aload_n hx hb dL_law_1572 rfl (lv_at hl 3 rfl) ?_
  refine lv_iload_n hx hb dL_law_1573 rfl (lv_at hl 0 rfl) ?_
  refine lv_iconst (v := 5) hx hb dL_law_1574 (by decide) ?_
  refine lv_iadd hx hb dL_law_1575 ?_
  refine lv_topi (fun x_11 ex_11 => ?_)
  obtain rfl : x_11 = 5 := ex_11.trans (by decide)
  refine va_sld hx hb hX hbl hbA hS (z_inC _ (k := 5) (by decide) (by decide)) dL_law_1576 ?_
  have hPc := hP.sub (ws' := [(m0, .inr (10, [.int 0, .ref m_width, .ref m_many, .ref m_cells, .ref m_moved, .ref m_tape, .int 0, .int 0, .int 0, .int 0, .int 0, .long 0, .int 0, .int 0, .int 0, .int (-1), .ref m_lines, .ref m_hours, .ref m_courts, .ref m_in, .ref m_gates, .ref m_gate, .ref m_people, .ref m_at0, .ref m_stray, .ref m_set, .ref m_once, .ref m_truth, .ref m_known, .ref m_isKept, .int 0, .int (-1), .int 0, .int 0, .ref m_inside, .ref m_can, .ref m_fewest, .ref m_waysTo, .ref m_then, .ref m_two, .ref m_nextTwo, .ref m_three, .ref m_nextThree, .int (-1), .ref m_worth, .ref m_digit, .int 0, .long 0, .int 0, .int 0, .int 0, .int 0, .long 0])), (m_people, .inl (cm_people, 5, .inl (fun _ => 0)))]) [0, 1] rfl
  have hDc := hD.sub (ws' := [(m0, .inr (10, [.int 0, .ref m_width, .ref m_many, .ref m_cells, .ref m_moved, .ref m_tape, .int 0, .int 0, .int 0, .int 0, .int 0, .long 0, .int 0, .int 0, .int 0, .int (-1), .ref m_lines, .ref m_hours, .ref m_courts, .ref m_in, .ref m_gates, .ref m_gate, .ref m_people, .ref m_at0, .ref m_stray, .ref m_set, .ref m_once, .ref m_truth, .ref m_known, .ref m_isKept, .int 0, .int (-1), .int 0, .int 0, .ref m_inside, .ref m_can, .ref m_fewest, .ref m_waysTo, .ref m_then, .ref m_two, .ref m_nextTwo, .ref m_three, .ref m_nextThree, .int (-1), .ref m_worth, .ref m_digit, .int 0, .long 0, .int 0, .int 0, .int 0, .int 0, .long 0])), (m_people, .inl (cm_people, 5, .inl (fun _ => 0)))]) [0, 1] (by decide) rfl
  have hKc := hK.sub (tys' := [(cm_people, .int)]) [0] rfl
  have hFc := va_free (wc := [(m0, .inr (10, [.int 0, .ref m_width, .ref m_many, .ref m_cells, .ref m_moved, .ref m_tape, .int 0, .int 0, .int 0, .int 0, .int 0, .long 0, .int 0, .int 0, .int 0, .int (-1), .ref m_lines, .ref m_hours, .ref m_courts, .ref m_in, .ref m_gates, .ref m_gate, .ref m_people, .ref m_at0, .ref m_stray, .ref m_set, .ref m_once, .ref m_truth, .ref m_known, .ref m_isKept, .int 0, .int (-1), .int 0, .int 0, .ref m_inside, .ref m_can, .ref m_fewest, .ref m_waysTo, .ref m_then, .ref m_two, .ref m_nextTwo, .ref m_three, .ref m_nextThree, .int (-1), .ref m_worth, .ref m_digit, .int 0, .long 0, .int 0, .int 0, .int 0, .int 0, .long 0])), (m_people, .inl (cm_people, 5, .inl (fun _ => 0)))]) hD hS hA [0, 1] rfl
  refine va_calll (va_runV (As := [.int (xs (Int32.toNatClampNeg 1)), .int (xs (Int32.toNatClampNeg 2)), .int (xs (Int32.toNatClampNeg 3)), .int (xs (Int32.toNatClampNeg 4)), .int (xs (Int32.toNatClampNeg 5))]) (rest := [.long (-2)]) ⟨hx, hb, hml, hown, hts⟩ (k_X10_tell l dC dI m0 (xs (Int32.toNatClampNeg 1)) (xs (Int32.toNatClampNeg 2)) (xs (Int32.toNatClampNeg 3)) (xs (Int32.toNatClampNeg 4)) (xs (Int32.toNatClampNeg 5)) m_width m_many m_cells m_moved m_tape m_lines m_hours m_courts m_in m_gates m_gate m_people m_at0 m_stray m_set m_once m_truth m_known m_isKept m_inside m_can m_fewest m_waysTo m_then m_two m_nextTwo m_three m_nextThree m_worth m_digit cm_people H.size) (cwV 5 hts (z_gV zw_t9_6 zw_t9_7 zw_t9_8 zw_t1_11 zw_t9_9) rfl rfl rfl (by decide +kernel) ⟨(Nat.le_of_ble_eq_true rfl), (Nat.le_of_ble_eq_true rfl)⟩) (z_preV hPc hKc hDc (ci := 10) (q0 := 0) rfl rfl) rfl rfl hl.1 rfl (lv_room (Nat.le_of_ble_eq_true rfl)) dL_law_1577 ⟨(Nat.le_of_ble_eq_true rfl), (Nat.le_of_ble_eq_true rfl)⟩) hS (fun q _ h => hFc q h) hFc (fun r_12 u t H1 locs ht hvm hw hB hz1 hk1 hS => ?_)
  have hB : zW dC dI [] [] (va_A [(m0, .inr (10, [.int 0, .ref m_width, .ref m_many, .ref m_cells, .ref m_moved, .ref m_tape, .int 0, .int 0, .int 0, .int 0, .int 0, .long 0, .int 0, .int 0, .int 0, .int (-1), .ref m_lines, .ref m_hours, .ref m_courts, .ref m_in, .ref m_gates, .ref m_gate, .ref m_people, .ref m_at0, .ref m_stray, .ref m_set, .ref m_once, .ref m_truth, .ref m_known, .ref m_isKept, .int 0, .int (-1), .int 0, .int 0, .ref m_inside, .ref m_can, .ref m_fewest, .ref m_waysTo, .ref m_then, .ref m_two, .ref m_nextTwo, .ref m_three, .ref m_nextThree, .int (-1), .ref m_worth, .ref m_digit, .int 0, .long 0, .int 0, .int 0, .int 0, .int 0, .long 0])), (m_people, .inl (cm_people, 5, .inl (fun _ => 0)))] H.size) t := z_none (va_K.moved hvm hK)
  obtain ⟨hP, hD, hK⟩ := z_after [] hB ht hvm hP hD hK [0, 1] [] rfl rfl (by decide) (by decide) hk1 hFc
  generalize H1 = H at hP hS ⊢
  have hP : va_P (dC, dI) vwCl [] H := hP
  have hD : va_D A [] := hD
  have hK : va_K (dC, dI) vwCl [(cm_people, .int)] s := hK
  obtain rfl : r_12 = (-2) := hw
  refine W.lcmp hx hb dL_law_1580 ?_
  refine lv_topi (fun x_13 ex_13 => ?_)
  obtain rfl : x_13 = 0 := ex_13.trans (by decide)
  refine lv_if_eq (tgt := 2651) hx hb dL_law_1581 (by decide) (fun _ => ?_) (fun q => absurd q (by decide))
  exact law_tail C0 hA2 (Nat.le_of_ble_eq_true rfl) (Nat.le_of_ble_eq_true rfl) hS (lv_sub hl [0, 3] rfl)
set_option maxHeartbeats 4000000 in
set_option maxRecDepth 100000 in
theorem law_tells {p : Program} {e : Env} {s : State} {m : MethodId} {below : List Frame} {meth : Method} {c : Code} {l : Launch} {b : Nat} {xs : Nat → Int32} (C0 : lw_At p s m meth c b 6 xs) {dC : Nat → ClassId} {dI : Nat → Nat → Nat} {A : Nat → Prop} (hA : ∀ q, s.heap.size ≤ q → A q) (hA2 : ∀ q, A q → s.heap.size ≤ q) {h0 : Nat} {tp : Nat} {nw : Nat} {im : Nat} {sl : Nat} {rd : Nat} {wk : Nat} {fm : Nat} {mt : Nat} {ch : Nat} {dy : Nat} {tn : Nat} {ta0 : Nat} {ta1 : Nat} {ta2 : Nat} {ta3 : Nat} {ta4 : Nat} {ta5 : Nat} {ta6 : Nat} {ta7 : Nat} {ta8 : Nat} {ta9 : Nat} {m0 : Nat} {m_width : Nat} {m_many : Nat} {m_cells : Nat} {m_moved : Nat} {m_tape : Nat} {m_lines : Nat} {m_hours : Nat} {m_courts : Nat} {m_in : Nat} {m_gates : Nat} {m_gate : Nat} {m_people : Nat} {m_at0 : Nat} {m_stray : Nat} {m_set : Nat} {m_once : Nat} {m_truth : Nat} {m_known : Nat} {m_isKept : Nat} {m_inside : Nat} {m_can : Nat} {m_fewest : Nat} {m_waysTo : Nat} {m_then : Nat} {m_two : Nat} {m_nextTwo : Nat} {m_three : Nat} {m_nextThree : Nat} {m_worth : Nat} {m_digit : Nat} {cm_courts : ClassId}  {H : Heap} {locs : List Loc} {ls : Array Slot} (hP : va_P (dC, dI) vwCl [(h0, .inr (9, [.ref tp, .int 0, .int 0, .int (-1), .ref nw, .ref im, .ref sl, .ref rd, .ref wk, .ref fm, .ref mt, .ref ch, .ref dy])), (nw, .inr (3, [.int 0, .ref tn, .int 0, .int 0, .int 0, .int 0])), (tn, .inr (7, [.int 0, .int 0, .int 0, .int 0, .int 0, .int 0, .int 0, .int 0, .ref ta0, .ref ta1, .ref ta2, .ref ta3, .ref ta4, .ref ta5, .ref ta6, .ref ta7, .ref ta8, .ref ta9])), (m0, .inr (10, [.int 0, .ref m_width, .ref m_many, .ref m_cells, .ref m_moved, .ref m_tape, .int 0, .int 0, .int 0, .int 0, .int 0, .long 0, .int 0, .int 0, .int 0, .int (-1), .ref m_lines, .ref m_hours, .ref m_courts, .ref m_in, .ref m_gates, .ref m_gate, .ref m_people, .ref m_at0, .ref m_stray, .ref m_set, .ref m_once, .ref m_truth, .ref m_known, .ref m_isKept, .int 0, .int (-1), .int 0, .int 0, .ref m_inside, .ref m_can, .ref m_fewest, .ref m_waysTo, .ref m_then, .ref m_two, .ref m_nextTwo, .ref m_three, .ref m_nextThree, .int (-1), .ref m_worth, .ref m_digit, .int 0, .long 0, .int 0, .int 0, .int 0, .int 0, .long 0])), (m_courts, .inl (cm_courts, 5, .inl (fun _ => 0)))] H) (hD : va_D A [(h0, .inr (9, [.ref tp, .int 0, .int 0, .int (-1), .ref nw, .ref im, .ref sl, .ref rd, .ref wk, .ref fm, .ref mt, .ref ch, .ref dy])), (nw, .inr (3, [.int 0, .ref tn, .int 0, .int 0, .int 0, .int 0])), (tn, .inr (7, [.int 0, .int 0, .int 0, .int 0, .int 0, .int 0, .int 0, .int 0, .ref ta0, .ref ta1, .ref ta2, .ref ta3, .ref ta4, .ref ta5, .ref ta6, .ref ta7, .ref ta8, .ref ta9])), (m0, .inr (10, [.int 0, .ref m_width, .ref m_many, .ref m_cells, .ref m_moved, .ref m_tape, .int 0, .int 0, .int 0, .int 0, .int 0, .long 0, .int 0, .int 0, .int 0, .int (-1), .ref m_lines, .ref m_hours, .ref m_courts, .ref m_in, .ref m_gates, .ref m_gate, .ref m_people, .ref m_at0, .ref m_stray, .ref m_set, .ref m_once, .ref m_truth, .ref m_known, .ref m_isKept, .int 0, .int (-1), .int 0, .int 0, .ref m_inside, .ref m_can, .ref m_fewest, .ref m_waysTo, .ref m_then, .ref m_two, .ref m_nextTwo, .ref m_three, .ref m_nextThree, .int (-1), .ref m_worth, .ref m_digit, .int 0, .long 0, .int 0, .int 0, .int 0, .int 0, .long 0])), (m_courts, .inl (cm_courts, 5, .inl (fun _ => 0)))]) (hK : va_K (dC, dI) vwCl [(cm_courts, .int)] s) (hS : va_S A s.heap H locs) (hl : lv_has ls 4 [(3, .int 0), (2, .ref m0), (1, .ref h0), (0, .ref b)]) : W p l e room_1 s m #[Value.ref b] below meth c H locs 166 101284 (lw_Z below #[Value.ref b] s) (F0 m 1586 ls []) := by
  obtain ⟨hx, hb, hr, hml, hown, hts, hX, hbl, hlocks, hgv⟩ := id C0
  have hown : s.vm.findClass RL = some m.cls := hown
  have hb : c.code = cL_law := hb
  have hts : ∀ w ∈ zT, w.before #[Value.ref b] s = true := fun w h => hts w (zT_in w h)
  have hbA : ¬ A b := fun q => absurd (hA2 b q) (Nat.not_le.mpr hbl)
  refine lv_aload_n hx hb dL_law_1586 rfl (lv_at hl 2 rfl) ?_
  refine lv_aload_n hx hb dL_law_1587 rfl (lv_at hl 3 rfl) ?_
  refine lv_iload_n hx hb dL_law_1588 rfl (lv_at hl 0 rfl) ?_
  refine lv_iconst (v := 1) hx hb dL_law_1589 (by decide) ?_
  refine lv_iadd hx hb dL_law_1590 ?_
  refine lv_topi (fun x_1 ex_1 => ?_)
  obtain rfl : x_1 = 1 := ex_1.trans (by decide)
  refine va_sld hx hb hX hbl hbA hS (z_inC _ (k := 1) (by decide) (by decide)) dL_law_1591 ?_
  refine lv_aload_n hx hb dL_law_1592 rfl (lv_at hl 3 rfl) ?_
  refine lv_iload_n hx hb dL_law_1593 rfl (lv_at hl 0 rfl) ?_
  refine lv_iconst (v := 2) hx hb dL_law_1594 (by decide) ?_
  refine lv_iadd hx hb dL_law_1595 ?_
  refine lv_topi (fun x_2 ex_2 => ?_)
  obtain rfl : x_2 = 2 := ex_2.trans (by decide)
  refine va_sld hx hb hX hbl hbA hS (z_inC _ (k := 2) (by decide) (by decide)) dL_law_1596 ?_
  refine lv_aload_n hx hb dL_law_1597 rfl (lv_at hl 3 rfl) ?_
  refine lv_iload_n hx hb dL_law_1598 rfl (lv_at hl 0 rfl) ?_
  refine lv_iconst (v := 3) hx hb dL_law_1599 (by decide) ?_
  refine lv_iadd hx hb dL_law_1600 ?_
  refine lv_topi (fun x_3 ex_3 => ?_)
  obtain rfl : x_3 = 3 := ex_3.trans (by decide)
  refine va_sld hx hb hX hbl hbA hS (z_inC _ (k := 3) (by decide) (by decide)) dL_law_1601 ?_
  refine lv_aload_n hx hb dL_law_1602 rfl (lv_at hl 3 rfl) ?_
  refine lv_iload_n hx hb dL_law_1603 rfl (lv_at hl 0 rfl) ?_
  refine lv_iconst (v := 4) hx hb dL_law_1604 (by decide) ?_
  refine lv_iadd hx hb dL_law_1605 ?_
  refine lv_topi (fun x_4 ex_4 => ?_)
  obtain rfl : x_4 = 4 := ex_4.trans (by decide)
  refine va_sld hx hb hX hbl hbA hS (z_inC _ (k := 4) (by decide) (by decide)) dL_law_1606 ?_
  have hPc := hP.sub (ws' := [(h0, .inr (9, [.ref tp, .int 0, .int 0, .int (-1), .ref nw, .ref im, .ref sl, .ref rd, .ref wk, .ref fm, .ref mt, .ref ch, .ref dy])), (nw, .inr (3, [.int 0, .ref tn, .int 0, .int 0, .int 0, .int 0])), (tn, .inr (7, [.int 0, .int 0, .int 0, .int 0, .int 0, .int 0, .int 0, .int 0, .ref ta0, .ref ta1, .ref ta2, .ref ta3, .ref ta4, .ref ta5, .ref ta6, .ref ta7, .ref ta8, .ref ta9]))]) [0, 1, 2] rfl
  have hDc := hD.sub (ws' := [(h0, .inr (9, [.ref tp, .int 0, .int 0, .int (-1), .ref nw, .ref im, .ref sl, .ref rd, .ref wk, .ref fm, .ref mt, .ref ch, .ref dy])), (nw, .inr (3, [.int 0, .ref tn, .int 0, .int 0, .int 0, .int 0])), (tn, .inr (7, [.int 0, .int 0, .int 0, .int 0, .int 0, .int 0, .int 0, .int 0, .ref ta0, .ref ta1, .ref ta2, .ref ta3, .ref ta4, .ref ta5, .ref ta6, .ref ta7, .ref ta8, .ref ta9]))]) [0, 1, 2] (by decide) rfl
  have hKc := hK.sub (tys' := []) [] rfl
  have hFc := va_free (wc := [(h0, .inr (9, [.ref tp, .int 0, .int 0, .int (-1), .ref nw, .ref im, .ref sl, .ref rd, .ref wk, .ref fm, .ref mt, .ref ch, .ref dy])), (nw, .inr (3, [.int 0, .ref tn, .int 0, .int 0, .int 0, .int 0])), (tn, .inr (7, [.int 0, .int 0, .int 0, .int 0, .int 0, .int 0, .int 0, .int 0, .ref ta0, .ref ta1, .ref ta2, .ref ta3, .ref ta4, .ref ta5, .ref ta6, .ref ta7, .ref ta8, .ref ta9]))]) hD hS hA [0, 1, 2] rfl
  refine va_calli (va_runV (As := [.int (xs (Int32.toNatClampNeg 1)), .int (xs (Int32.toNatClampNeg 2)), .int (xs (Int32.toNatClampNeg 3)), .int (xs (Int32.toNatClampNeg 4))]) (rest := []) ⟨hx, hb, hml, hown, hts⟩ (k_X9_tells l dC dI h0 (xs (Int32.toNatClampNeg 1)) (xs (Int32.toNatClampNeg 2)) (xs (Int32.toNatClampNeg 3)) (xs (Int32.toNatClampNeg 4)) tp nw im sl rd wk fm mt ch dy tn ta0 ta1 ta2 ta3 ta4 ta5 ta6 ta7 ta8 ta9 H.size) (cwV 4 hts (z_gV zw_t5_108 zw_t5_109 zw_t5_110 zw_t1_1 zw_t5_111) rfl rfl rfl (by decide +kernel) ⟨(Nat.le_of_ble_eq_true rfl), (Nat.le_of_ble_eq_true rfl)⟩) (z_preV hPc hKc hDc (ci := 9) (q0 := 0) rfl rfl) rfl rfl hl.1 rfl (lv_room (Nat.le_of_ble_eq_true rfl)) dL_law_1607 ⟨(Nat.le_of_ble_eq_true rfl), (Nat.le_of_ble_eq_true rfl)⟩) hS (fun q _ h => hFc q h) hFc (fun r_5 u t H1 locs ht hvm hw hB hz1 hk1 hS => ?_)
  have hB : zW dC dI [] [] (va_A [(h0, .inr (9, [.ref tp, .int 0, .int 0, .int (-1), .ref nw, .ref im, .ref sl, .ref rd, .ref wk, .ref fm, .ref mt, .ref ch, .ref dy])), (nw, .inr (3, [.int 0, .ref tn, .int 0, .int 0, .int 0, .int 0])), (tn, .inr (7, [.int 0, .int 0, .int 0, .int 0, .int 0, .int 0, .int 0, .int 0, .ref ta0, .ref ta1, .ref ta2, .ref ta3, .ref ta4, .ref ta5, .ref ta6, .ref ta7, .ref ta8, .ref ta9]))] H.size) t := z_none (va_K.moved hvm hK)
  obtain ⟨hP, hD, hK⟩ := z_after [(m0, .inr (10, [.int 0, .ref m_width, .ref m_many, .ref m_cells, .ref m_moved, .ref m_tape, .int 0, .int 0, .int 0, .int 0, .int 0, .long 0, .int 0, .int 0, .int 0, .int (-1), .ref m_lines, .ref m_hours, .ref m_courts, .ref m_in, .ref m_gates, .ref m_gate, .ref m_people, .ref m_at0, .ref m_stray, .ref m_set, .ref m_once, .ref m_truth, .ref m_known, .ref m_isKept, .int 0, .int (-1), .int 0, .int 0, .ref m_inside, .ref m_can, .ref m_fewest, .ref m_waysTo, .ref m_then, .ref m_two, .ref m_nextTwo, .ref m_three, .ref m_nextThree, .int (-1), .ref m_worth, .ref m_digit, .int 0, .long 0, .int 0, .int 0, .int 0, .int 0, .long 0])), (m_courts, .inl (cm_courts, 5, .inl (fun _ => 0)))] hB ht hvm hP hD hK [0, 1, 2] [3, 4] rfl rfl (by decide) (by decide) hk1 hFc
  generalize H1 = H at hP hS ⊢
  have hP : va_P (dC, dI) vwCl [(m0, .inr (10, [.int 0, .ref m_width, .ref m_many, .ref m_cells, .ref m_moved, .ref m_tape, .int 0, .int 0, .int 0, .int 0, .int 0, .long 0, .int 0, .int 0, .int 0, .int (-1), .ref m_lines, .ref m_hours, .ref m_courts, .ref m_in, .ref m_gates, .ref m_gate, .ref m_people, .ref m_at0, .ref m_stray, .ref m_set, .ref m_once, .ref m_truth, .ref m_known, .ref m_isKept, .int 0, .int (-1), .int 0, .int 0, .ref m_inside, .ref m_can, .ref m_fewest, .ref m_waysTo, .ref m_then, .ref m_two, .ref m_nextTwo, .ref m_three, .ref m_nextThree, .int (-1), .ref m_worth, .ref m_digit, .int 0, .long 0, .int 0, .int 0, .int 0, .int 0, .long 0])), (m_courts, .inl (cm_courts, 5, .inl (fun _ => 0)))] H := hP
  have hD : va_D A [(m0, .inr (10, [.int 0, .ref m_width, .ref m_many, .ref m_cells, .ref m_moved, .ref m_tape, .int 0, .int 0, .int 0, .int 0, .int 0, .long 0, .int 0, .int 0, .int 0, .int (-1), .ref m_lines, .ref m_hours, .ref m_courts, .ref m_in, .ref m_gates, .ref m_gate, .ref m_people, .ref m_at0, .ref m_stray, .ref m_set, .ref m_once, .ref m_truth, .ref m_known, .ref m_isKept, .int 0, .int (-1), .int 0, .int 0, .ref m_inside, .ref m_can, .ref m_fewest, .ref m_waysTo, .ref m_then, .ref m_two, .ref m_nextTwo, .ref m_three, .ref m_nextThree, .int (-1), .ref m_worth, .ref m_digit, .int 0, .long 0, .int 0, .int 0, .int 0, .int 0, .long 0])), (m_courts, .inl (cm_courts, 5, .inl (fun _ => 0)))] := hD
  have hK : va_K (dC, dI) vwCl [(cm_courts, .int)] s := hK
  obtain rfl : r_5 = (-2) := hw
  refine lv_aload_n hx hb dL_law_1610 rfl (lv_at hl 1 rfl) ?_
  refine lv_aload_n hx hb dL_law_1611 rfl (lv_at hl 3 rfl) ?_
  refine lv_iload_n hx hb dL_law_1612 rfl (lv_at hl 0 rfl) ?_
  refine lv_iconst (v := 1) hx hb dL_law_1613 (by decide) ?_
  refine lv_iadd hx hb dL_law_1614 ?_
  refine lv_topi (fun x_6 ex_6 => ?_)
  obtain rfl : x_6 = 1 := ex_6.trans (by decide)
  refine va_sld hx hb hX hbl hbA hS (z_inC _ (k := 1) (by decide) (by decide)) dL_law_1615 ?_
  refine lv_aload_n hx hb dL_law_1616 rfl (lv_at hl 3 rfl) ?_
  refine lv_iload_n hx hb dL_law_1617 rfl (lv_at hl 0 rfl) ?_
  refine lv_iconst (v := 2) hx hb dL_law_1618 (by decide) ?_
  refine lv_iadd hx hb dL_law_1619 ?_
  refine lv_topi (fun x_7 ex_7 => ?_)
  obtain rfl : x_7 = 2 := ex_7.trans (by decide)
  refine va_sld hx hb hX hbl hbA hS (z_inC _ (k := 2) (by decide) (by decide)) dL_law_1620 ?_
  refine lv_aload_n hx hb dL_law_1621 rfl (lv_at hl 3 rfl) ?_
  refine lv_iload_n hx hb dL_law_1622 rfl (lv_at hl 0 rfl) ?_
  refine lv_iconst (v := 3) hx hb dL_law_1623 (by decide) ?_
  refine lv_iadd hx hb dL_law_1624 ?_
  refine lv_topi (fun x_8 ex_8 => ?_)
  obtain rfl : x_8 = 3 := ex_8.trans (by decide)
  refine va_sld hx hb hX hbl hbA hS (z_inC _ (k := 3) (by decide) (by decide)) dL_law_1625 ?_
  refine lv_aload_n hx hb dL_law_1626 rfl (lv_at hl 3 rfl) ?_
  refine lv_iload_n hx hb dL_law_1627 rfl (lv_at hl 0 rfl) ?_
  refine lv_iconst (v := 4) hx hb dL_law_1628 (by decide) ?_
  refine lv_iadd hx hb dL_law_1629 ?_
  refine lv_topi (fun x_9 ex_9 => ?_)
  obtain rfl : x_9 = 4 := ex_9.trans (by decide)
  refine va_sld hx hb hX hbl hbA hS (z_inC _ (k := 4) (by decide) (by decide)) dL_law_1630 ?_
  have hPc := hP.sub (ws' := [(m0, .inr (10, [.int 0, .ref m_width, .ref m_many, .ref m_cells, .ref m_moved, .ref m_tape, .int 0, .int 0, .int 0, .int 0, .int 0, .long 0, .int 0, .int 0, .int 0, .int (-1), .ref m_lines, .ref m_hours, .ref m_courts, .ref m_in, .ref m_gates, .ref m_gate, .ref m_people, .ref m_at0, .ref m_stray, .ref m_set, .ref m_once, .ref m_truth, .ref m_known, .ref m_isKept, .int 0, .int (-1), .int 0, .int 0, .ref m_inside, .ref m_can, .ref m_fewest, .ref m_waysTo, .ref m_then, .ref m_two, .ref m_nextTwo, .ref m_three, .ref m_nextThree, .int (-1), .ref m_worth, .ref m_digit, .int 0, .long 0, .int 0, .int 0, .int 0, .int 0, .long 0])), (m_courts, .inl (cm_courts, 5, .inl (fun _ => 0)))]) [0, 1] rfl
  have hDc := hD.sub (ws' := [(m0, .inr (10, [.int 0, .ref m_width, .ref m_many, .ref m_cells, .ref m_moved, .ref m_tape, .int 0, .int 0, .int 0, .int 0, .int 0, .long 0, .int 0, .int 0, .int 0, .int (-1), .ref m_lines, .ref m_hours, .ref m_courts, .ref m_in, .ref m_gates, .ref m_gate, .ref m_people, .ref m_at0, .ref m_stray, .ref m_set, .ref m_once, .ref m_truth, .ref m_known, .ref m_isKept, .int 0, .int (-1), .int 0, .int 0, .ref m_inside, .ref m_can, .ref m_fewest, .ref m_waysTo, .ref m_then, .ref m_two, .ref m_nextTwo, .ref m_three, .ref m_nextThree, .int (-1), .ref m_worth, .ref m_digit, .int 0, .long 0, .int 0, .int 0, .int 0, .int 0, .long 0])), (m_courts, .inl (cm_courts, 5, .inl (fun _ => 0)))]) [0, 1] (by decide) rfl
  have hKc := hK.sub (tys' := [(cm_courts, .int)]) [0] rfl
  have hFc := va_free (wc := [(m0, .inr (10, [.int 0, .ref m_width, .ref m_many, .ref m_cells, .ref m_moved, .ref m_tape, .int 0, .int 0, .int 0, .int 0, .int 0, .long 0, .int 0, .int 0, .int 0, .int (-1), .ref m_lines, .ref m_hours, .ref m_courts, .ref m_in, .ref m_gates, .ref m_gate, .ref m_people, .ref m_at0, .ref m_stray, .ref m_set, .ref m_once, .ref m_truth, .ref m_known, .ref m_isKept, .int 0, .int (-1), .int 0, .int 0, .ref m_inside, .ref m_can, .ref m_fewest, .ref m_waysTo, .ref m_then, .ref m_two, .ref m_nextTwo, .ref m_three, .ref m_nextThree, .int (-1), .ref m_worth, .ref m_digit, .int 0, .long 0, .int 0, .int 0, .int 0, .int 0, .long 0])), (m_courts, .inl (cm_courts, 5, .inl (fun _ => 0)))]) hD hS hA [0, 1] rfl
  refine va_calli (va_runV (As := [.int (xs (Int32.toNatClampNeg 1)), .int (xs (Int32.toNatClampNeg 2)), .int (xs (Int32.toNatClampNeg 3)), .int (xs (Int32.toNatClampNeg 4))]) (rest := [.int (-2)]) ⟨hx, hb, hml, hown, hts⟩ (k_X10_tells l dC dI m0 (xs (Int32.toNatClampNeg 1)) (xs (Int32.toNatClampNeg 2)) (xs (Int32.toNatClampNeg 3)) (xs (Int32.toNatClampNeg 4)) m_width m_many m_cells m_moved m_tape m_lines m_hours m_courts m_in m_gates m_gate m_people m_at0 m_stray m_set m_once m_truth m_known m_isKept m_inside m_can m_fewest m_waysTo m_then m_two m_nextTwo m_three m_nextThree m_worth m_digit cm_courts H.size) (cwV 4 hts (z_gV zw_t9_14 zw_t9_15 zw_t9_16 zw_t1_11 zw_t9_17) rfl rfl rfl (by decide +kernel) ⟨(Nat.le_of_ble_eq_true rfl), (Nat.le_of_ble_eq_true rfl)⟩) (z_preV hPc hKc hDc (ci := 10) (q0 := 0) rfl rfl) rfl rfl hl.1 rfl (lv_room (Nat.le_of_ble_eq_true rfl)) dL_law_1631 ⟨(Nat.le_of_ble_eq_true rfl), (Nat.le_of_ble_eq_true rfl)⟩) hS (fun q _ h => hFc q h) hFc (fun r_10 u t H1 locs ht hvm hw hB hz1 hk1 hS => ?_)
  have hB : zW dC dI [] [] (va_A [(m0, .inr (10, [.int 0, .ref m_width, .ref m_many, .ref m_cells, .ref m_moved, .ref m_tape, .int 0, .int 0, .int 0, .int 0, .int 0, .long 0, .int 0, .int 0, .int 0, .int (-1), .ref m_lines, .ref m_hours, .ref m_courts, .ref m_in, .ref m_gates, .ref m_gate, .ref m_people, .ref m_at0, .ref m_stray, .ref m_set, .ref m_once, .ref m_truth, .ref m_known, .ref m_isKept, .int 0, .int (-1), .int 0, .int 0, .ref m_inside, .ref m_can, .ref m_fewest, .ref m_waysTo, .ref m_then, .ref m_two, .ref m_nextTwo, .ref m_three, .ref m_nextThree, .int (-1), .ref m_worth, .ref m_digit, .int 0, .long 0, .int 0, .int 0, .int 0, .int 0, .long 0])), (m_courts, .inl (cm_courts, 5, .inl (fun _ => 0)))] H.size) t := z_none (va_K.moved hvm hK)
  obtain ⟨hP, hD, hK⟩ := z_after [] hB ht hvm hP hD hK [0, 1] [] rfl rfl (by decide) (by decide) hk1 hFc
  generalize H1 = H at hP hS ⊢
  have hP : va_P (dC, dI) vwCl [] H := hP
  have hD : va_D A [] := hD
  have hK : va_K (dC, dI) vwCl [(cm_courts, .int)] s := hK
  obtain rfl : r_10 = (-2) := hw
  refine lv_icmp_eq (tgt := 2651) hx hb dL_law_1634 (by decide) (fun _ => ?_) (fun q => absurd q (by decide))
  exact law_tail C0 hA2 (Nat.le_of_ble_eq_true rfl) (Nat.le_of_ble_eq_true rfl) hS (lv_sub hl [0, 3] rfl)
set_option maxHeartbeats 4000000 in
set_option maxRecDepth 100000 in
theorem law_until {p : Program} {e : Env} {s : State} {m : MethodId} {below : List Frame} {meth : Method} {c : Code} {l : Launch} {b : Nat} {xs : Nat → Int32} (C0 : lw_At p s m meth c b 6 xs) {dC : Nat → ClassId} {dI : Nat → Nat → Nat} {A : Nat → Prop} (hA : ∀ q, s.heap.size ≤ q → A q) (hA2 : ∀ q, A q → s.heap.size ≤ q) {h0 : Nat} {tp : Nat} {nw : Nat} {im : Nat} {sl : Nat} {rd : Nat} {wk : Nat} {fm : Nat} {mt : Nat} {ch : Nat} {dy : Nat} {tn : Nat} {ta0 : Nat} {ta1 : Nat} {ta2 : Nat} {ta3 : Nat} {ta4 : Nat} {ta5 : Nat} {ta6 : Nat} {ta7 : Nat} {ta8 : Nat} {ta9 : Nat} {m0 : Nat} {m_width : Nat} {m_many : Nat} {m_cells : Nat} {m_moved : Nat} {m_tape : Nat} {m_lines : Nat} {m_hours : Nat} {m_courts : Nat} {m_in : Nat} {m_gates : Nat} {m_gate : Nat} {m_people : Nat} {m_at0 : Nat} {m_stray : Nat} {m_set : Nat} {m_once : Nat} {m_truth : Nat} {m_known : Nat} {m_isKept : Nat} {m_inside : Nat} {m_can : Nat} {m_fewest : Nat} {m_waysTo : Nat} {m_then : Nat} {m_two : Nat} {m_nextTwo : Nat} {m_three : Nat} {m_nextThree : Nat} {m_worth : Nat} {m_digit : Nat} {cm_courts : ClassId}  {H : Heap} {locs : List Loc} {ls : Array Slot} (hP : va_P (dC, dI) vwCl [(h0, .inr (9, [.ref tp, .int 0, .int 0, .int (-1), .ref nw, .ref im, .ref sl, .ref rd, .ref wk, .ref fm, .ref mt, .ref ch, .ref dy])), (nw, .inr (3, [.int 0, .ref tn, .int 0, .int 0, .int 0, .int 0])), (tn, .inr (7, [.int 0, .int 0, .int 0, .int 0, .int 0, .int 0, .int 0, .int 0, .ref ta0, .ref ta1, .ref ta2, .ref ta3, .ref ta4, .ref ta5, .ref ta6, .ref ta7, .ref ta8, .ref ta9])), (m0, .inr (10, [.int 0, .ref m_width, .ref m_many, .ref m_cells, .ref m_moved, .ref m_tape, .int 0, .int 0, .int 0, .int 0, .int 0, .long 0, .int 0, .int 0, .int 0, .int (-1), .ref m_lines, .ref m_hours, .ref m_courts, .ref m_in, .ref m_gates, .ref m_gate, .ref m_people, .ref m_at0, .ref m_stray, .ref m_set, .ref m_once, .ref m_truth, .ref m_known, .ref m_isKept, .int 0, .int (-1), .int 0, .int 0, .ref m_inside, .ref m_can, .ref m_fewest, .ref m_waysTo, .ref m_then, .ref m_two, .ref m_nextTwo, .ref m_three, .ref m_nextThree, .int (-1), .ref m_worth, .ref m_digit, .int 0, .long 0, .int 0, .int 0, .int 0, .int 0, .long 0])), (m_courts, .inl (cm_courts, 5, .inl (fun _ => 0)))] H) (hD : va_D A [(h0, .inr (9, [.ref tp, .int 0, .int 0, .int (-1), .ref nw, .ref im, .ref sl, .ref rd, .ref wk, .ref fm, .ref mt, .ref ch, .ref dy])), (nw, .inr (3, [.int 0, .ref tn, .int 0, .int 0, .int 0, .int 0])), (tn, .inr (7, [.int 0, .int 0, .int 0, .int 0, .int 0, .int 0, .int 0, .int 0, .ref ta0, .ref ta1, .ref ta2, .ref ta3, .ref ta4, .ref ta5, .ref ta6, .ref ta7, .ref ta8, .ref ta9])), (m0, .inr (10, [.int 0, .ref m_width, .ref m_many, .ref m_cells, .ref m_moved, .ref m_tape, .int 0, .int 0, .int 0, .int 0, .int 0, .long 0, .int 0, .int 0, .int 0, .int (-1), .ref m_lines, .ref m_hours, .ref m_courts, .ref m_in, .ref m_gates, .ref m_gate, .ref m_people, .ref m_at0, .ref m_stray, .ref m_set, .ref m_once, .ref m_truth, .ref m_known, .ref m_isKept, .int 0, .int (-1), .int 0, .int 0, .ref m_inside, .ref m_can, .ref m_fewest, .ref m_waysTo, .ref m_then, .ref m_two, .ref m_nextTwo, .ref m_three, .ref m_nextThree, .int (-1), .ref m_worth, .ref m_digit, .int 0, .long 0, .int 0, .int 0, .int 0, .int 0, .long 0])), (m_courts, .inl (cm_courts, 5, .inl (fun _ => 0)))]) (hK : va_K (dC, dI) vwCl [(cm_courts, .int)] s) (hS : va_S A s.heap H locs) (hl : lv_has ls 4 [(3, .int 0), (2, .ref m0), (1, .ref h0), (0, .ref b)]) : W p l e room_1 s m #[Value.ref b] below meth c H locs 166 101284 (lw_Z below #[Value.ref b] s) (F0 m 1639 ls []) := by
  obtain ⟨hx, hb, hr, hml, hown, hts, hX, hbl, hlocks, hgv⟩ := id C0
  have hown : s.vm.findClass RL = some m.cls := hown
  have hb : c.code = cL_law := hb
  have hts : ∀ w ∈ zT, w.before #[Value.ref b] s = true := fun w h => hts w (zT_in w h)
  have hbA : ¬ A b := fun q => absurd (hA2 b q) (Nat.not_le.mpr hbl)
  refine lv_aload_n hx hb dL_law_1639 rfl (lv_at hl 2 rfl) ?_
  refine lv_aload_n hx hb dL_law_1640 rfl (lv_at hl 3 rfl) ?_
  refine lv_iload_n hx hb dL_law_1641 rfl (lv_at hl 0 rfl) ?_
  refine lv_iconst (v := 1) hx hb dL_law_1642 (by decide) ?_
  refine lv_iadd hx hb dL_law_1643 ?_
  refine lv_topi (fun x_1 ex_1 => ?_)
  obtain rfl : x_1 = 1 := ex_1.trans (by decide)
  refine va_sld hx hb hX hbl hbA hS (z_inC _ (k := 1) (by decide) (by decide)) dL_law_1644 ?_
  refine lv_aload_n hx hb dL_law_1645 rfl (lv_at hl 3 rfl) ?_
  refine lv_iload_n hx hb dL_law_1646 rfl (lv_at hl 0 rfl) ?_
  refine lv_iconst (v := 2) hx hb dL_law_1647 (by decide) ?_
  refine lv_iadd hx hb dL_law_1648 ?_
  refine lv_topi (fun x_2 ex_2 => ?_)
  obtain rfl : x_2 = 2 := ex_2.trans (by decide)
  refine va_sld hx hb hX hbl hbA hS (z_inC _ (k := 2) (by decide) (by decide)) dL_law_1649 ?_
  refine lv_aload_n hx hb dL_law_1650 rfl (lv_at hl 3 rfl) ?_
  refine lv_iload_n hx hb dL_law_1651 rfl (lv_at hl 0 rfl) ?_
  refine lv_iconst (v := 3) hx hb dL_law_1652 (by decide) ?_
  refine lv_iadd hx hb dL_law_1653 ?_
  refine lv_topi (fun x_3 ex_3 => ?_)
  obtain rfl : x_3 = 3 := ex_3.trans (by decide)
  refine va_sld hx hb hX hbl hbA hS (z_inC _ (k := 3) (by decide) (by decide)) dL_law_1654 ?_
  refine lv_aload_n hx hb dL_law_1655 rfl (lv_at hl 3 rfl) ?_
  refine lv_iload_n hx hb dL_law_1656 rfl (lv_at hl 0 rfl) ?_
  refine lv_iconst (v := 4) hx hb dL_law_1657 (by decide) ?_
  refine lv_iadd hx hb dL_law_1658 ?_
  refine lv_topi (fun x_4 ex_4 => ?_)
  obtain rfl : x_4 = 4 := ex_4.trans (by decide)
  refine va_sld hx hb hX hbl hbA hS (z_inC _ (k := 4) (by decide) (by decide)) dL_law_1659 ?_
  have hPc := hP.sub (ws' := [(h0, .inr (9, [.ref tp, .int 0, .int 0, .int (-1), .ref nw, .ref im, .ref sl, .ref rd, .ref wk, .ref fm, .ref mt, .ref ch, .ref dy])), (nw, .inr (3, [.int 0, .ref tn, .int 0, .int 0, .int 0, .int 0])), (tn, .inr (7, [.int 0, .int 0, .int 0, .int 0, .int 0, .int 0, .int 0, .int 0, .ref ta0, .ref ta1, .ref ta2, .ref ta3, .ref ta4, .ref ta5, .ref ta6, .ref ta7, .ref ta8, .ref ta9]))]) [0, 1, 2] rfl
  have hDc := hD.sub (ws' := [(h0, .inr (9, [.ref tp, .int 0, .int 0, .int (-1), .ref nw, .ref im, .ref sl, .ref rd, .ref wk, .ref fm, .ref mt, .ref ch, .ref dy])), (nw, .inr (3, [.int 0, .ref tn, .int 0, .int 0, .int 0, .int 0])), (tn, .inr (7, [.int 0, .int 0, .int 0, .int 0, .int 0, .int 0, .int 0, .int 0, .ref ta0, .ref ta1, .ref ta2, .ref ta3, .ref ta4, .ref ta5, .ref ta6, .ref ta7, .ref ta8, .ref ta9]))]) [0, 1, 2] (by decide) rfl
  have hKc := hK.sub (tys' := []) [] rfl
  have hFc := va_free (wc := [(h0, .inr (9, [.ref tp, .int 0, .int 0, .int (-1), .ref nw, .ref im, .ref sl, .ref rd, .ref wk, .ref fm, .ref mt, .ref ch, .ref dy])), (nw, .inr (3, [.int 0, .ref tn, .int 0, .int 0, .int 0, .int 0])), (tn, .inr (7, [.int 0, .int 0, .int 0, .int 0, .int 0, .int 0, .int 0, .int 0, .ref ta0, .ref ta1, .ref ta2, .ref ta3, .ref ta4, .ref ta5, .ref ta6, .ref ta7, .ref ta8, .ref ta9]))]) hD hS hA [0, 1, 2] rfl
  refine va_calli (va_runV (As := [.int (xs (Int32.toNatClampNeg 1)), .int (xs (Int32.toNatClampNeg 2)), .int (xs (Int32.toNatClampNeg 3)), .int (xs (Int32.toNatClampNeg 4))]) (rest := []) ⟨hx, hb, hml, hown, hts⟩ (k_X9_until l dC dI h0 (xs (Int32.toNatClampNeg 1)) (xs (Int32.toNatClampNeg 2)) (xs (Int32.toNatClampNeg 3)) (xs (Int32.toNatClampNeg 4)) tp nw im sl rd wk fm mt ch dy tn ta0 ta1 ta2 ta3 ta4 ta5 ta6 ta7 ta8 ta9 H.size) (cwV 4 hts (z_gV zw_t5_112 zw_t5_113 zw_t5_114 zw_t1_1 zw_t5_115) rfl rfl rfl (by decide +kernel) ⟨(Nat.le_of_ble_eq_true rfl), (Nat.le_of_ble_eq_true rfl)⟩) (z_preV hPc hKc hDc (ci := 9) (q0 := 0) rfl rfl) rfl rfl hl.1 rfl (lv_room (Nat.le_of_ble_eq_true rfl)) dL_law_1660 ⟨(Nat.le_of_ble_eq_true rfl), (Nat.le_of_ble_eq_true rfl)⟩) hS (fun q _ h => hFc q h) hFc (fun r_5 u t H1 locs ht hvm hw hB hz1 hk1 hS => ?_)
  have hB : zW dC dI [] [] (va_A [(h0, .inr (9, [.ref tp, .int 0, .int 0, .int (-1), .ref nw, .ref im, .ref sl, .ref rd, .ref wk, .ref fm, .ref mt, .ref ch, .ref dy])), (nw, .inr (3, [.int 0, .ref tn, .int 0, .int 0, .int 0, .int 0])), (tn, .inr (7, [.int 0, .int 0, .int 0, .int 0, .int 0, .int 0, .int 0, .int 0, .ref ta0, .ref ta1, .ref ta2, .ref ta3, .ref ta4, .ref ta5, .ref ta6, .ref ta7, .ref ta8, .ref ta9]))] H.size) t := z_none (va_K.moved hvm hK)
  obtain ⟨hP, hD, hK⟩ := z_after [(m0, .inr (10, [.int 0, .ref m_width, .ref m_many, .ref m_cells, .ref m_moved, .ref m_tape, .int 0, .int 0, .int 0, .int 0, .int 0, .long 0, .int 0, .int 0, .int 0, .int (-1), .ref m_lines, .ref m_hours, .ref m_courts, .ref m_in, .ref m_gates, .ref m_gate, .ref m_people, .ref m_at0, .ref m_stray, .ref m_set, .ref m_once, .ref m_truth, .ref m_known, .ref m_isKept, .int 0, .int (-1), .int 0, .int 0, .ref m_inside, .ref m_can, .ref m_fewest, .ref m_waysTo, .ref m_then, .ref m_two, .ref m_nextTwo, .ref m_three, .ref m_nextThree, .int (-1), .ref m_worth, .ref m_digit, .int 0, .long 0, .int 0, .int 0, .int 0, .int 0, .long 0])), (m_courts, .inl (cm_courts, 5, .inl (fun _ => 0)))] hB ht hvm hP hD hK [0, 1, 2] [3, 4] rfl rfl (by decide) (by decide) hk1 hFc
  generalize H1 = H at hP hS ⊢
  have hP : va_P (dC, dI) vwCl [(m0, .inr (10, [.int 0, .ref m_width, .ref m_many, .ref m_cells, .ref m_moved, .ref m_tape, .int 0, .int 0, .int 0, .int 0, .int 0, .long 0, .int 0, .int 0, .int 0, .int (-1), .ref m_lines, .ref m_hours, .ref m_courts, .ref m_in, .ref m_gates, .ref m_gate, .ref m_people, .ref m_at0, .ref m_stray, .ref m_set, .ref m_once, .ref m_truth, .ref m_known, .ref m_isKept, .int 0, .int (-1), .int 0, .int 0, .ref m_inside, .ref m_can, .ref m_fewest, .ref m_waysTo, .ref m_then, .ref m_two, .ref m_nextTwo, .ref m_three, .ref m_nextThree, .int (-1), .ref m_worth, .ref m_digit, .int 0, .long 0, .int 0, .int 0, .int 0, .int 0, .long 0])), (m_courts, .inl (cm_courts, 5, .inl (fun _ => 0)))] H := hP
  have hD : va_D A [(m0, .inr (10, [.int 0, .ref m_width, .ref m_many, .ref m_cells, .ref m_moved, .ref m_tape, .int 0, .int 0, .int 0, .int 0, .int 0, .long 0, .int 0, .int 0, .int 0, .int (-1), .ref m_lines, .ref m_hours, .ref m_courts, .ref m_in, .ref m_gates, .ref m_gate, .ref m_people, .ref m_at0, .ref m_stray, .ref m_set, .ref m_once, .ref m_truth, .ref m_known, .ref m_isKept, .int 0, .int (-1), .int 0, .int 0, .ref m_inside, .ref m_can, .ref m_fewest, .ref m_waysTo, .ref m_then, .ref m_two, .ref m_nextTwo, .ref m_three, .ref m_nextThree, .int (-1), .ref m_worth, .ref m_digit, .int 0, .long 0, .int 0, .int 0, .int 0, .int 0, .long 0])), (m_courts, .inl (cm_courts, 5, .inl (fun _ => 0)))] := hD
  have hK : va_K (dC, dI) vwCl [(cm_courts, .int)] s := hK
  obtain rfl : r_5 = (-2) := hw
  refine lv_aload_n hx hb dL_law_1663 rfl (lv_at hl 1 rfl) ?_
  refine lv_aload_n hx hb dL_law_1664 rfl (lv_at hl 3 rfl) ?_
  refine lv_iload_n hx hb dL_law_1665 rfl (lv_at hl 0 rfl) ?_
  refine lv_iconst (v := 1) hx hb dL_law_1666 (by decide) ?_
  refine lv_iadd hx hb dL_law_1667 ?_
  refine lv_topi (fun x_6 ex_6 => ?_)
  obtain rfl : x_6 = 1 := ex_6.trans (by decide)
  refine va_sld hx hb hX hbl hbA hS (z_inC _ (k := 1) (by decide) (by decide)) dL_law_1668 ?_
  refine lv_aload_n hx hb dL_law_1669 rfl (lv_at hl 3 rfl) ?_
  refine lv_iload_n hx hb dL_law_1670 rfl (lv_at hl 0 rfl) ?_
  refine lv_iconst (v := 2) hx hb dL_law_1671 (by decide) ?_
  refine lv_iadd hx hb dL_law_1672 ?_
  refine lv_topi (fun x_7 ex_7 => ?_)
  obtain rfl : x_7 = 2 := ex_7.trans (by decide)
  refine va_sld hx hb hX hbl hbA hS (z_inC _ (k := 2) (by decide) (by decide)) dL_law_1673 ?_
  refine lv_aload_n hx hb dL_law_1674 rfl (lv_at hl 3 rfl) ?_
  refine lv_iload_n hx hb dL_law_1675 rfl (lv_at hl 0 rfl) ?_
  refine lv_iconst (v := 3) hx hb dL_law_1676 (by decide) ?_
  refine lv_iadd hx hb dL_law_1677 ?_
  refine lv_topi (fun x_8 ex_8 => ?_)
  obtain rfl : x_8 = 3 := ex_8.trans (by decide)
  refine va_sld hx hb hX hbl hbA hS (z_inC _ (k := 3) (by decide) (by decide)) dL_law_1678 ?_
  refine lv_aload_n hx hb dL_law_1679 rfl (lv_at hl 3 rfl) ?_
  refine lv_iload_n hx hb dL_law_1680 rfl (lv_at hl 0 rfl) ?_
  refine lv_iconst (v := 4) hx hb dL_law_1681 (by decide) ?_
  refine lv_iadd hx hb dL_law_1682 ?_
  refine lv_topi (fun x_9 ex_9 => ?_)
  obtain rfl : x_9 = 4 := ex_9.trans (by decide)
  refine va_sld hx hb hX hbl hbA hS (z_inC _ (k := 4) (by decide) (by decide)) dL_law_1683 ?_
  have hPc := hP.sub (ws' := [(m0, .inr (10, [.int 0, .ref m_width, .ref m_many, .ref m_cells, .ref m_moved, .ref m_tape, .int 0, .int 0, .int 0, .int 0, .int 0, .long 0, .int 0, .int 0, .int 0, .int (-1), .ref m_lines, .ref m_hours, .ref m_courts, .ref m_in, .ref m_gates, .ref m_gate, .ref m_people, .ref m_at0, .ref m_stray, .ref m_set, .ref m_once, .ref m_truth, .ref m_known, .ref m_isKept, .int 0, .int (-1), .int 0, .int 0, .ref m_inside, .ref m_can, .ref m_fewest, .ref m_waysTo, .ref m_then, .ref m_two, .ref m_nextTwo, .ref m_three, .ref m_nextThree, .int (-1), .ref m_worth, .ref m_digit, .int 0, .long 0, .int 0, .int 0, .int 0, .int 0, .long 0])), (m_courts, .inl (cm_courts, 5, .inl (fun _ => 0)))]) [0, 1] rfl
  have hDc := hD.sub (ws' := [(m0, .inr (10, [.int 0, .ref m_width, .ref m_many, .ref m_cells, .ref m_moved, .ref m_tape, .int 0, .int 0, .int 0, .int 0, .int 0, .long 0, .int 0, .int 0, .int 0, .int (-1), .ref m_lines, .ref m_hours, .ref m_courts, .ref m_in, .ref m_gates, .ref m_gate, .ref m_people, .ref m_at0, .ref m_stray, .ref m_set, .ref m_once, .ref m_truth, .ref m_known, .ref m_isKept, .int 0, .int (-1), .int 0, .int 0, .ref m_inside, .ref m_can, .ref m_fewest, .ref m_waysTo, .ref m_then, .ref m_two, .ref m_nextTwo, .ref m_three, .ref m_nextThree, .int (-1), .ref m_worth, .ref m_digit, .int 0, .long 0, .int 0, .int 0, .int 0, .int 0, .long 0])), (m_courts, .inl (cm_courts, 5, .inl (fun _ => 0)))]) [0, 1] (by decide) rfl
  have hKc := hK.sub (tys' := [(cm_courts, .int)]) [0] rfl
  have hFc := va_free (wc := [(m0, .inr (10, [.int 0, .ref m_width, .ref m_many, .ref m_cells, .ref m_moved, .ref m_tape, .int 0, .int 0, .int 0, .int 0, .int 0, .long 0, .int 0, .int 0, .int 0, .int (-1), .ref m_lines, .ref m_hours, .ref m_courts, .ref m_in, .ref m_gates, .ref m_gate, .ref m_people, .ref m_at0, .ref m_stray, .ref m_set, .ref m_once, .ref m_truth, .ref m_known, .ref m_isKept, .int 0, .int (-1), .int 0, .int 0, .ref m_inside, .ref m_can, .ref m_fewest, .ref m_waysTo, .ref m_then, .ref m_two, .ref m_nextTwo, .ref m_three, .ref m_nextThree, .int (-1), .ref m_worth, .ref m_digit, .int 0, .long 0, .int 0, .int 0, .int 0, .int 0, .long 0])), (m_courts, .inl (cm_courts, 5, .inl (fun _ => 0)))]) hD hS hA [0, 1] rfl
  refine va_calli (va_runV (As := [.int (xs (Int32.toNatClampNeg 1)), .int (xs (Int32.toNatClampNeg 2)), .int (xs (Int32.toNatClampNeg 3)), .int (xs (Int32.toNatClampNeg 4))]) (rest := [.int (-2)]) ⟨hx, hb, hml, hown, hts⟩ (k_X10_until l dC dI m0 (xs (Int32.toNatClampNeg 1)) (xs (Int32.toNatClampNeg 2)) (xs (Int32.toNatClampNeg 3)) (xs (Int32.toNatClampNeg 4)) m_width m_many m_cells m_moved m_tape m_lines m_hours m_courts m_in m_gates m_gate m_people m_at0 m_stray m_set m_once m_truth m_known m_isKept m_inside m_can m_fewest m_waysTo m_then m_two m_nextTwo m_three m_nextThree m_worth m_digit cm_courts H.size) (cwV 4 hts (z_gV zw_t9_18 zw_t9_19 zw_t9_20 zw_t1_11 zw_t9_21) rfl rfl rfl (by decide +kernel) ⟨(Nat.le_of_ble_eq_true rfl), (Nat.le_of_ble_eq_true rfl)⟩) (z_preV hPc hKc hDc (ci := 10) (q0 := 0) rfl rfl) rfl rfl hl.1 rfl (lv_room (Nat.le_of_ble_eq_true rfl)) dL_law_1684 ⟨(Nat.le_of_ble_eq_true rfl), (Nat.le_of_ble_eq_true rfl)⟩) hS (fun q _ h => hFc q h) hFc (fun r_10 u t H1 locs ht hvm hw hB hz1 hk1 hS => ?_)
  have hB : zW dC dI [] [] (va_A [(m0, .inr (10, [.int 0, .ref m_width, .ref m_many, .ref m_cells, .ref m_moved, .ref m_tape, .int 0, .int 0, .int 0, .int 0, .int 0, .long 0, .int 0, .int 0, .int 0, .int (-1), .ref m_lines, .ref m_hours, .ref m_courts, .ref m_in, .ref m_gates, .ref m_gate, .ref m_people, .ref m_at0, .ref m_stray, .ref m_set, .ref m_once, .ref m_truth, .ref m_known, .ref m_isKept, .int 0, .int (-1), .int 0, .int 0, .ref m_inside, .ref m_can, .ref m_fewest, .ref m_waysTo, .ref m_then, .ref m_two, .ref m_nextTwo, .ref m_three, .ref m_nextThree, .int (-1), .ref m_worth, .ref m_digit, .int 0, .long 0, .int 0, .int 0, .int 0, .int 0, .long 0])), (m_courts, .inl (cm_courts, 5, .inl (fun _ => 0)))] H.size) t := z_none (va_K.moved hvm hK)
  obtain ⟨hP, hD, hK⟩ := z_after [] hB ht hvm hP hD hK [0, 1] [] rfl rfl (by decide) (by decide) hk1 hFc
  generalize H1 = H at hP hS ⊢
  have hP : va_P (dC, dI) vwCl [] H := hP
  have hD : va_D A [] := hD
  have hK : va_K (dC, dI) vwCl [(cm_courts, .int)] s := hK
  obtain rfl : r_10 = (-2) := hw
  refine lv_icmp_eq (tgt := 2651) hx hb dL_law_1687 (by decide) (fun _ => ?_) (fun q => absurd q (by decide))
  exact law_tail C0 hA2 (Nat.le_of_ble_eq_true rfl) (Nat.le_of_ble_eq_true rfl) hS (lv_sub hl [0, 3] rfl)
set_option maxHeartbeats 4000000 in
set_option maxRecDepth 100000 in
theorem law_empty {p : Program} {e : Env} {s : State} {m : MethodId} {below : List Frame} {meth : Method} {c : Code} {l : Launch} {b : Nat} {xs : Nat → Int32} (C0 : lw_At p s m meth c b 6 xs) {dC : Nat → ClassId} {dI : Nat → Nat → Nat} {A : Nat → Prop} (hA : ∀ q, s.heap.size ≤ q → A q) (hA2 : ∀ q, A q → s.heap.size ≤ q) {h0 : Nat} {tp : Nat} {nw : Nat} {im : Nat} {sl : Nat} {rd : Nat} {wk : Nat} {fm : Nat} {mt : Nat} {ch : Nat} {dy : Nat} {tn : Nat} {ta0 : Nat} {ta1 : Nat} {ta2 : Nat} {ta3 : Nat} {ta4 : Nat} {ta5 : Nat} {ta6 : Nat} {ta7 : Nat} {ta8 : Nat} {ta9 : Nat} {m0 : Nat} {m_width : Nat} {m_many : Nat} {m_cells : Nat} {m_moved : Nat} {m_tape : Nat} {m_lines : Nat} {m_hours : Nat} {m_courts : Nat} {m_in : Nat} {m_gates : Nat} {m_gate : Nat} {m_people : Nat} {m_at0 : Nat} {m_stray : Nat} {m_set : Nat} {m_once : Nat} {m_truth : Nat} {m_known : Nat} {m_isKept : Nat} {m_inside : Nat} {m_can : Nat} {m_fewest : Nat} {m_waysTo : Nat} {m_then : Nat} {m_two : Nat} {m_nextTwo : Nat} {m_three : Nat} {m_nextThree : Nat} {m_worth : Nat} {m_digit : Nat} {cm_courts : ClassId}  {H : Heap} {locs : List Loc} {ls : Array Slot} (hP : va_P (dC, dI) vwCl [(h0, .inr (9, [.ref tp, .int 0, .int 0, .int (-1), .ref nw, .ref im, .ref sl, .ref rd, .ref wk, .ref fm, .ref mt, .ref ch, .ref dy])), (nw, .inr (3, [.int 0, .ref tn, .int 0, .int 0, .int 0, .int 0])), (tn, .inr (7, [.int 0, .int 0, .int 0, .int 0, .int 0, .int 0, .int 0, .int 0, .ref ta0, .ref ta1, .ref ta2, .ref ta3, .ref ta4, .ref ta5, .ref ta6, .ref ta7, .ref ta8, .ref ta9])), (m0, .inr (10, [.int 0, .ref m_width, .ref m_many, .ref m_cells, .ref m_moved, .ref m_tape, .int 0, .int 0, .int 0, .int 0, .int 0, .long 0, .int 0, .int 0, .int 0, .int (-1), .ref m_lines, .ref m_hours, .ref m_courts, .ref m_in, .ref m_gates, .ref m_gate, .ref m_people, .ref m_at0, .ref m_stray, .ref m_set, .ref m_once, .ref m_truth, .ref m_known, .ref m_isKept, .int 0, .int (-1), .int 0, .int 0, .ref m_inside, .ref m_can, .ref m_fewest, .ref m_waysTo, .ref m_then, .ref m_two, .ref m_nextTwo, .ref m_three, .ref m_nextThree, .int (-1), .ref m_worth, .ref m_digit, .int 0, .long 0, .int 0, .int 0, .int 0, .int 0, .long 0])), (m_courts, .inl (cm_courts, 5, .inl (fun _ => 0)))] H) (hD : va_D A [(h0, .inr (9, [.ref tp, .int 0, .int 0, .int (-1), .ref nw, .ref im, .ref sl, .ref rd, .ref wk, .ref fm, .ref mt, .ref ch, .ref dy])), (nw, .inr (3, [.int 0, .ref tn, .int 0, .int 0, .int 0, .int 0])), (tn, .inr (7, [.int 0, .int 0, .int 0, .int 0, .int 0, .int 0, .int 0, .int 0, .ref ta0, .ref ta1, .ref ta2, .ref ta3, .ref ta4, .ref ta5, .ref ta6, .ref ta7, .ref ta8, .ref ta9])), (m0, .inr (10, [.int 0, .ref m_width, .ref m_many, .ref m_cells, .ref m_moved, .ref m_tape, .int 0, .int 0, .int 0, .int 0, .int 0, .long 0, .int 0, .int 0, .int 0, .int (-1), .ref m_lines, .ref m_hours, .ref m_courts, .ref m_in, .ref m_gates, .ref m_gate, .ref m_people, .ref m_at0, .ref m_stray, .ref m_set, .ref m_once, .ref m_truth, .ref m_known, .ref m_isKept, .int 0, .int (-1), .int 0, .int 0, .ref m_inside, .ref m_can, .ref m_fewest, .ref m_waysTo, .ref m_then, .ref m_two, .ref m_nextTwo, .ref m_three, .ref m_nextThree, .int (-1), .ref m_worth, .ref m_digit, .int 0, .long 0, .int 0, .int 0, .int 0, .int 0, .long 0])), (m_courts, .inl (cm_courts, 5, .inl (fun _ => 0)))]) (hK : va_K (dC, dI) vwCl [(cm_courts, .int)] s) (hS : va_S A s.heap H locs) (hl : lv_has ls 4 [(3, .int 0), (2, .ref m0), (1, .ref h0), (0, .ref b)]) : W p l e room_1 s m #[Value.ref b] below meth c H locs 166 101284 (lw_Z below #[Value.ref b] s) (F0 m 1692 ls []) := by
  obtain ⟨hx, hb, hr, hml, hown, hts, hX, hbl, hlocks, hgv⟩ := id C0
  have hown : s.vm.findClass RL = some m.cls := hown
  have hb : c.code = cL_law := hb
  have hts : ∀ w ∈ zT, w.before #[Value.ref b] s = true := fun w h => hts w (zT_in w h)
  have hbA : ¬ A b := fun q => absurd (hA2 b q) (Nat.not_le.mpr hbl)
  refine lv_aload_n hx hb dL_law_1692 rfl (lv_at hl 2 rfl) ?_
  refine lv_aload_n hx hb dL_law_1693 rfl (lv_at hl 3 rfl) ?_
  refine lv_iload_n hx hb dL_law_1694 rfl (lv_at hl 0 rfl) ?_
  refine lv_iconst (v := 1) hx hb dL_law_1695 (by decide) ?_
  refine lv_iadd hx hb dL_law_1696 ?_
  refine lv_topi (fun x_1 ex_1 => ?_)
  obtain rfl : x_1 = 1 := ex_1.trans (by decide)
  refine va_sld hx hb hX hbl hbA hS (z_inC _ (k := 1) (by decide) (by decide)) dL_law_1697 ?_
  have hPc := hP.sub (ws' := [(h0, .inr (9, [.ref tp, .int 0, .int 0, .int (-1), .ref nw, .ref im, .ref sl, .ref rd, .ref wk, .ref fm, .ref mt, .ref ch, .ref dy])), (nw, .inr (3, [.int 0, .ref tn, .int 0, .int 0, .int 0, .int 0])), (tn, .inr (7, [.int 0, .int 0, .int 0, .int 0, .int 0, .int 0, .int 0, .int 0, .ref ta0, .ref ta1, .ref ta2, .ref ta3, .ref ta4, .ref ta5, .ref ta6, .ref ta7, .ref ta8, .ref ta9]))]) [0, 1, 2] rfl
  have hDc := hD.sub (ws' := [(h0, .inr (9, [.ref tp, .int 0, .int 0, .int (-1), .ref nw, .ref im, .ref sl, .ref rd, .ref wk, .ref fm, .ref mt, .ref ch, .ref dy])), (nw, .inr (3, [.int 0, .ref tn, .int 0, .int 0, .int 0, .int 0])), (tn, .inr (7, [.int 0, .int 0, .int 0, .int 0, .int 0, .int 0, .int 0, .int 0, .ref ta0, .ref ta1, .ref ta2, .ref ta3, .ref ta4, .ref ta5, .ref ta6, .ref ta7, .ref ta8, .ref ta9]))]) [0, 1, 2] (by decide) rfl
  have hKc := hK.sub (tys' := []) [] rfl
  have hFc := va_free (wc := [(h0, .inr (9, [.ref tp, .int 0, .int 0, .int (-1), .ref nw, .ref im, .ref sl, .ref rd, .ref wk, .ref fm, .ref mt, .ref ch, .ref dy])), (nw, .inr (3, [.int 0, .ref tn, .int 0, .int 0, .int 0, .int 0])), (tn, .inr (7, [.int 0, .int 0, .int 0, .int 0, .int 0, .int 0, .int 0, .int 0, .ref ta0, .ref ta1, .ref ta2, .ref ta3, .ref ta4, .ref ta5, .ref ta6, .ref ta7, .ref ta8, .ref ta9]))]) hD hS hA [0, 1, 2] rfl
  refine va_calli (va_runV (As := [.int (xs (Int32.toNatClampNeg 1))]) (rest := []) ⟨hx, hb, hml, hown, hts⟩ (k_X9_empty l dC dI h0 (xs (Int32.toNatClampNeg 1)) tp nw im sl rd wk fm mt ch dy tn ta0 ta1 ta2 ta3 ta4 ta5 ta6 ta7 ta8 ta9 H.size) (cwV 1 hts (z_gV zw_t5_117 zw_t5_118 zw_t5_119 zw_t1_1 zw_t5_120) rfl rfl rfl (by decide +kernel) ⟨(Nat.le_of_ble_eq_true rfl), (Nat.le_of_ble_eq_true rfl)⟩) (z_preV hPc hKc hDc (ci := 9) (q0 := 0) rfl rfl) rfl rfl hl.1 rfl (lv_room (Nat.le_of_ble_eq_true rfl)) dL_law_1698 ⟨(Nat.le_of_ble_eq_true rfl), (Nat.le_of_ble_eq_true rfl)⟩) hS (fun q _ h => hFc q h) hFc (fun r_2 u t H1 locs ht hvm hw hB hz1 hk1 hS => ?_)
  have hB : zW dC dI [] [] (va_A [(h0, .inr (9, [.ref tp, .int 0, .int 0, .int (-1), .ref nw, .ref im, .ref sl, .ref rd, .ref wk, .ref fm, .ref mt, .ref ch, .ref dy])), (nw, .inr (3, [.int 0, .ref tn, .int 0, .int 0, .int 0, .int 0])), (tn, .inr (7, [.int 0, .int 0, .int 0, .int 0, .int 0, .int 0, .int 0, .int 0, .ref ta0, .ref ta1, .ref ta2, .ref ta3, .ref ta4, .ref ta5, .ref ta6, .ref ta7, .ref ta8, .ref ta9]))] H.size) t := z_none (va_K.moved hvm hK)
  obtain ⟨hP, hD, hK⟩ := z_after [(m0, .inr (10, [.int 0, .ref m_width, .ref m_many, .ref m_cells, .ref m_moved, .ref m_tape, .int 0, .int 0, .int 0, .int 0, .int 0, .long 0, .int 0, .int 0, .int 0, .int (-1), .ref m_lines, .ref m_hours, .ref m_courts, .ref m_in, .ref m_gates, .ref m_gate, .ref m_people, .ref m_at0, .ref m_stray, .ref m_set, .ref m_once, .ref m_truth, .ref m_known, .ref m_isKept, .int 0, .int (-1), .int 0, .int 0, .ref m_inside, .ref m_can, .ref m_fewest, .ref m_waysTo, .ref m_then, .ref m_two, .ref m_nextTwo, .ref m_three, .ref m_nextThree, .int (-1), .ref m_worth, .ref m_digit, .int 0, .long 0, .int 0, .int 0, .int 0, .int 0, .long 0])), (m_courts, .inl (cm_courts, 5, .inl (fun _ => 0)))] hB ht hvm hP hD hK [0, 1, 2] [3, 4] rfl rfl (by decide) (by decide) hk1 hFc
  generalize H1 = H at hP hS ⊢
  have hP : va_P (dC, dI) vwCl [(m0, .inr (10, [.int 0, .ref m_width, .ref m_many, .ref m_cells, .ref m_moved, .ref m_tape, .int 0, .int 0, .int 0, .int 0, .int 0, .long 0, .int 0, .int 0, .int 0, .int (-1), .ref m_lines, .ref m_hours, .ref m_courts, .ref m_in, .ref m_gates, .ref m_gate, .ref m_people, .ref m_at0, .ref m_stray, .ref m_set, .ref m_once, .ref m_truth, .ref m_known, .ref m_isKept, .int 0, .int (-1), .int 0, .int 0, .ref m_inside, .ref m_can, .ref m_fewest, .ref m_waysTo, .ref m_then, .ref m_two, .ref m_nextTwo, .ref m_three, .ref m_nextThree, .int (-1), .ref m_worth, .ref m_digit, .int 0, .long 0, .int 0, .int 0, .int 0, .int 0, .long 0])), (m_courts, .inl (cm_courts, 5, .inl (fun _ => 0)))] H := hP
  have hD : va_D A [(m0, .inr (10, [.int 0, .ref m_width, .ref m_many, .ref m_cells, .ref m_moved, .ref m_tape, .int 0, .int 0, .int 0, .int 0, .int 0, .long 0, .int 0, .int 0, .int 0, .int (-1), .ref m_lines, .ref m_hours, .ref m_courts, .ref m_in, .ref m_gates, .ref m_gate, .ref m_people, .ref m_at0, .ref m_stray, .ref m_set, .ref m_once, .ref m_truth, .ref m_known, .ref m_isKept, .int 0, .int (-1), .int 0, .int 0, .ref m_inside, .ref m_can, .ref m_fewest, .ref m_waysTo, .ref m_then, .ref m_two, .ref m_nextTwo, .ref m_three, .ref m_nextThree, .int (-1), .ref m_worth, .ref m_digit, .int 0, .long 0, .int 0, .int 0, .int 0, .int 0, .long 0])), (m_courts, .inl (cm_courts, 5, .inl (fun _ => 0)))] := hD
  have hK : va_K (dC, dI) vwCl [(cm_courts, .int)] s := hK
  obtain rfl : r_2 = (-2) := hw
  refine lv_aload_n hx hb dL_law_1701 rfl (lv_at hl 1 rfl) ?_
  refine lv_aload_n hx hb dL_law_1702 rfl (lv_at hl 3 rfl) ?_
  refine lv_iload_n hx hb dL_law_1703 rfl (lv_at hl 0 rfl) ?_
  refine lv_iconst (v := 1) hx hb dL_law_1704 (by decide) ?_
  refine lv_iadd hx hb dL_law_1705 ?_
  refine lv_topi (fun x_3 ex_3 => ?_)
  obtain rfl : x_3 = 1 := ex_3.trans (by decide)
  refine va_sld hx hb hX hbl hbA hS (z_inC _ (k := 1) (by decide) (by decide)) dL_law_1706 ?_
  have hPc := hP.sub (ws' := [(m0, .inr (10, [.int 0, .ref m_width, .ref m_many, .ref m_cells, .ref m_moved, .ref m_tape, .int 0, .int 0, .int 0, .int 0, .int 0, .long 0, .int 0, .int 0, .int 0, .int (-1), .ref m_lines, .ref m_hours, .ref m_courts, .ref m_in, .ref m_gates, .ref m_gate, .ref m_people, .ref m_at0, .ref m_stray, .ref m_set, .ref m_once, .ref m_truth, .ref m_known, .ref m_isKept, .int 0, .int (-1), .int 0, .int 0, .ref m_inside, .ref m_can, .ref m_fewest, .ref m_waysTo, .ref m_then, .ref m_two, .ref m_nextTwo, .ref m_three, .ref m_nextThree, .int (-1), .ref m_worth, .ref m_digit, .int 0, .long 0, .int 0, .int 0, .int 0, .int 0, .long 0])), (m_courts, .inl (cm_courts, 5, .inl (fun _ => 0)))]) [0, 1] rfl
  have hDc := hD.sub (ws' := [(m0, .inr (10, [.int 0, .ref m_width, .ref m_many, .ref m_cells, .ref m_moved, .ref m_tape, .int 0, .int 0, .int 0, .int 0, .int 0, .long 0, .int 0, .int 0, .int 0, .int (-1), .ref m_lines, .ref m_hours, .ref m_courts, .ref m_in, .ref m_gates, .ref m_gate, .ref m_people, .ref m_at0, .ref m_stray, .ref m_set, .ref m_once, .ref m_truth, .ref m_known, .ref m_isKept, .int 0, .int (-1), .int 0, .int 0, .ref m_inside, .ref m_can, .ref m_fewest, .ref m_waysTo, .ref m_then, .ref m_two, .ref m_nextTwo, .ref m_three, .ref m_nextThree, .int (-1), .ref m_worth, .ref m_digit, .int 0, .long 0, .int 0, .int 0, .int 0, .int 0, .long 0])), (m_courts, .inl (cm_courts, 5, .inl (fun _ => 0)))]) [0, 1] (by decide) rfl
  have hKc := hK.sub (tys' := [(cm_courts, .int)]) [0] rfl
  have hFc := va_free (wc := [(m0, .inr (10, [.int 0, .ref m_width, .ref m_many, .ref m_cells, .ref m_moved, .ref m_tape, .int 0, .int 0, .int 0, .int 0, .int 0, .long 0, .int 0, .int 0, .int 0, .int (-1), .ref m_lines, .ref m_hours, .ref m_courts, .ref m_in, .ref m_gates, .ref m_gate, .ref m_people, .ref m_at0, .ref m_stray, .ref m_set, .ref m_once, .ref m_truth, .ref m_known, .ref m_isKept, .int 0, .int (-1), .int 0, .int 0, .ref m_inside, .ref m_can, .ref m_fewest, .ref m_waysTo, .ref m_then, .ref m_two, .ref m_nextTwo, .ref m_three, .ref m_nextThree, .int (-1), .ref m_worth, .ref m_digit, .int 0, .long 0, .int 0, .int 0, .int 0, .int 0, .long 0])), (m_courts, .inl (cm_courts, 5, .inl (fun _ => 0)))]) hD hS hA [0, 1] rfl
  refine va_calli (va_runV (As := [.int (xs (Int32.toNatClampNeg 1))]) (rest := [.int (-2)]) ⟨hx, hb, hml, hown, hts⟩ (k_X10_empty l dC dI m0 (xs (Int32.toNatClampNeg 1)) m_width m_many m_cells m_moved m_tape m_lines m_hours m_courts m_in m_gates m_gate m_people m_at0 m_stray m_set m_once m_truth m_known m_isKept m_inside m_can m_fewest m_waysTo m_then m_two m_nextTwo m_three m_nextThree m_worth m_digit cm_courts H.size) (cwV 1 hts (z_gV zw_t8_140 zw_t8_141 zw_t8_142 zw_t1_11 zw_t8_143) rfl rfl rfl (by decide +kernel) ⟨(Nat.le_of_ble_eq_true rfl), (Nat.le_of_ble_eq_true rfl)⟩) (z_preV hPc hKc hDc (ci := 10) (q0 := 0) rfl rfl) rfl rfl hl.1 rfl (lv_room (Nat.le_of_ble_eq_true rfl)) dL_law_1707 ⟨(Nat.le_of_ble_eq_true rfl), (Nat.le_of_ble_eq_true rfl)⟩) hS (fun q _ h => hFc q h) hFc (fun r_4 u t H1 locs ht hvm hw hB hz1 hk1 hS => ?_)
  have hB : zW dC dI [] [] (va_A [(m0, .inr (10, [.int 0, .ref m_width, .ref m_many, .ref m_cells, .ref m_moved, .ref m_tape, .int 0, .int 0, .int 0, .int 0, .int 0, .long 0, .int 0, .int 0, .int 0, .int (-1), .ref m_lines, .ref m_hours, .ref m_courts, .ref m_in, .ref m_gates, .ref m_gate, .ref m_people, .ref m_at0, .ref m_stray, .ref m_set, .ref m_once, .ref m_truth, .ref m_known, .ref m_isKept, .int 0, .int (-1), .int 0, .int 0, .ref m_inside, .ref m_can, .ref m_fewest, .ref m_waysTo, .ref m_then, .ref m_two, .ref m_nextTwo, .ref m_three, .ref m_nextThree, .int (-1), .ref m_worth, .ref m_digit, .int 0, .long 0, .int 0, .int 0, .int 0, .int 0, .long 0])), (m_courts, .inl (cm_courts, 5, .inl (fun _ => 0)))] H.size) t := z_none (va_K.moved hvm hK)
  obtain ⟨hP, hD, hK⟩ := z_after [] hB ht hvm hP hD hK [0, 1] [] rfl rfl (by decide) (by decide) hk1 hFc
  generalize H1 = H at hP hS ⊢
  have hP : va_P (dC, dI) vwCl [] H := hP
  have hD : va_D A [] := hD
  have hK : va_K (dC, dI) vwCl [(cm_courts, .int)] s := hK
  obtain rfl : r_4 = (-2) := hw
  refine lv_icmp_eq (tgt := 2651) hx hb dL_law_1710 (by decide) (fun _ => ?_) (fun q => absurd q (by decide))
  exact law_tail C0 hA2 (Nat.le_of_ble_eq_true rfl) (Nat.le_of_ble_eq_true rfl) hS (lv_sub hl [0, 3] rfl)
set_option maxHeartbeats 4000000 in
set_option maxRecDepth 100000 in
theorem law_hollow {p : Program} {e : Env} {s : State} {m : MethodId} {below : List Frame} {meth : Method} {c : Code} {l : Launch} {b : Nat} {xs : Nat → Int32} (C0 : lw_At p s m meth c b 6 xs) {dC : Nat → ClassId} {dI : Nat → Nat → Nat} {A : Nat → Prop} (hA : ∀ q, s.heap.size ≤ q → A q) (hA2 : ∀ q, A q → s.heap.size ≤ q) {h0 : Nat} {tp : Nat} {nw : Nat} {im : Nat} {sl : Nat} {rd : Nat} {wk : Nat} {fm : Nat} {mt : Nat} {ch : Nat} {dy : Nat} {tn : Nat} {ta0 : Nat} {ta1 : Nat} {ta2 : Nat} {ta3 : Nat} {ta4 : Nat} {ta5 : Nat} {ta6 : Nat} {ta7 : Nat} {ta8 : Nat} {ta9 : Nat} {m0 : Nat} {m_width : Nat} {m_many : Nat} {m_cells : Nat} {m_moved : Nat} {m_tape : Nat} {m_lines : Nat} {m_hours : Nat} {m_courts : Nat} {m_in : Nat} {m_gates : Nat} {m_gate : Nat} {m_people : Nat} {m_at0 : Nat} {m_stray : Nat} {m_set : Nat} {m_once : Nat} {m_truth : Nat} {m_known : Nat} {m_isKept : Nat} {m_inside : Nat} {m_can : Nat} {m_fewest : Nat} {m_waysTo : Nat} {m_then : Nat} {m_two : Nat} {m_nextTwo : Nat} {m_three : Nat} {m_nextThree : Nat} {m_worth : Nat} {m_digit : Nat} {cm_courts : ClassId}  {H : Heap} {locs : List Loc} {ls : Array Slot} (hP : va_P (dC, dI) vwCl [(h0, .inr (9, [.ref tp, .int 0, .int 0, .int (-1), .ref nw, .ref im, .ref sl, .ref rd, .ref wk, .ref fm, .ref mt, .ref ch, .ref dy])), (nw, .inr (3, [.int 0, .ref tn, .int 0, .int 0, .int 0, .int 0])), (tn, .inr (7, [.int 0, .int 0, .int 0, .int 0, .int 0, .int 0, .int 0, .int 0, .ref ta0, .ref ta1, .ref ta2, .ref ta3, .ref ta4, .ref ta5, .ref ta6, .ref ta7, .ref ta8, .ref ta9])), (m0, .inr (10, [.int 0, .ref m_width, .ref m_many, .ref m_cells, .ref m_moved, .ref m_tape, .int 0, .int 0, .int 0, .int 0, .int 0, .long 0, .int 0, .int 0, .int 0, .int (-1), .ref m_lines, .ref m_hours, .ref m_courts, .ref m_in, .ref m_gates, .ref m_gate, .ref m_people, .ref m_at0, .ref m_stray, .ref m_set, .ref m_once, .ref m_truth, .ref m_known, .ref m_isKept, .int 0, .int (-1), .int 0, .int 0, .ref m_inside, .ref m_can, .ref m_fewest, .ref m_waysTo, .ref m_then, .ref m_two, .ref m_nextTwo, .ref m_three, .ref m_nextThree, .int (-1), .ref m_worth, .ref m_digit, .int 0, .long 0, .int 0, .int 0, .int 0, .int 0, .long 0])), (m_courts, .inl (cm_courts, 5, .inl (fun _ => 0)))] H) (hD : va_D A [(h0, .inr (9, [.ref tp, .int 0, .int 0, .int (-1), .ref nw, .ref im, .ref sl, .ref rd, .ref wk, .ref fm, .ref mt, .ref ch, .ref dy])), (nw, .inr (3, [.int 0, .ref tn, .int 0, .int 0, .int 0, .int 0])), (tn, .inr (7, [.int 0, .int 0, .int 0, .int 0, .int 0, .int 0, .int 0, .int 0, .ref ta0, .ref ta1, .ref ta2, .ref ta3, .ref ta4, .ref ta5, .ref ta6, .ref ta7, .ref ta8, .ref ta9])), (m0, .inr (10, [.int 0, .ref m_width, .ref m_many, .ref m_cells, .ref m_moved, .ref m_tape, .int 0, .int 0, .int 0, .int 0, .int 0, .long 0, .int 0, .int 0, .int 0, .int (-1), .ref m_lines, .ref m_hours, .ref m_courts, .ref m_in, .ref m_gates, .ref m_gate, .ref m_people, .ref m_at0, .ref m_stray, .ref m_set, .ref m_once, .ref m_truth, .ref m_known, .ref m_isKept, .int 0, .int (-1), .int 0, .int 0, .ref m_inside, .ref m_can, .ref m_fewest, .ref m_waysTo, .ref m_then, .ref m_two, .ref m_nextTwo, .ref m_three, .ref m_nextThree, .int (-1), .ref m_worth, .ref m_digit, .int 0, .long 0, .int 0, .int 0, .int 0, .int 0, .long 0])), (m_courts, .inl (cm_courts, 5, .inl (fun _ => 0)))]) (hK : va_K (dC, dI) vwCl [(cm_courts, .int)] s) (hS : va_S A s.heap H locs) (hl : lv_has ls 4 [(3, .int 0), (2, .ref m0), (1, .ref h0), (0, .ref b)]) : W p l e room_1 s m #[Value.ref b] below meth c H locs 166 101284 (lw_Z below #[Value.ref b] s) (F0 m 1715 ls []) := by
  obtain ⟨hx, hb, hr, hml, hown, hts, hX, hbl, hlocks, hgv⟩ := id C0
  have hown : s.vm.findClass RL = some m.cls := hown
  have hb : c.code = cL_law := hb
  have hts : ∀ w ∈ zT, w.before #[Value.ref b] s = true := fun w h => hts w (zT_in w h)
  have hbA : ¬ A b := fun q => absurd (hA2 b q) (Nat.not_le.mpr hbl)
  refine lv_aload_n hx hb dL_law_1715 rfl (lv_at hl 2 rfl) ?_
  refine lv_aload_n hx hb dL_law_1716 rfl (lv_at hl 3 rfl) ?_
  refine lv_iload_n hx hb dL_law_1717 rfl (lv_at hl 0 rfl) ?_
  refine lv_iconst (v := 1) hx hb dL_law_1718 (by decide) ?_
  refine lv_iadd hx hb dL_law_1719 ?_
  refine lv_topi (fun x_1 ex_1 => ?_)
  obtain rfl : x_1 = 1 := ex_1.trans (by decide)
  refine va_sld hx hb hX hbl hbA hS (z_inC _ (k := 1) (by decide) (by decide)) dL_law_1720 ?_
  have hPc := hP.sub (ws' := [(h0, .inr (9, [.ref tp, .int 0, .int 0, .int (-1), .ref nw, .ref im, .ref sl, .ref rd, .ref wk, .ref fm, .ref mt, .ref ch, .ref dy])), (nw, .inr (3, [.int 0, .ref tn, .int 0, .int 0, .int 0, .int 0])), (tn, .inr (7, [.int 0, .int 0, .int 0, .int 0, .int 0, .int 0, .int 0, .int 0, .ref ta0, .ref ta1, .ref ta2, .ref ta3, .ref ta4, .ref ta5, .ref ta6, .ref ta7, .ref ta8, .ref ta9]))]) [0, 1, 2] rfl
  have hDc := hD.sub (ws' := [(h0, .inr (9, [.ref tp, .int 0, .int 0, .int (-1), .ref nw, .ref im, .ref sl, .ref rd, .ref wk, .ref fm, .ref mt, .ref ch, .ref dy])), (nw, .inr (3, [.int 0, .ref tn, .int 0, .int 0, .int 0, .int 0])), (tn, .inr (7, [.int 0, .int 0, .int 0, .int 0, .int 0, .int 0, .int 0, .int 0, .ref ta0, .ref ta1, .ref ta2, .ref ta3, .ref ta4, .ref ta5, .ref ta6, .ref ta7, .ref ta8, .ref ta9]))]) [0, 1, 2] (by decide) rfl
  have hKc := hK.sub (tys' := []) [] rfl
  have hFc := va_free (wc := [(h0, .inr (9, [.ref tp, .int 0, .int 0, .int (-1), .ref nw, .ref im, .ref sl, .ref rd, .ref wk, .ref fm, .ref mt, .ref ch, .ref dy])), (nw, .inr (3, [.int 0, .ref tn, .int 0, .int 0, .int 0, .int 0])), (tn, .inr (7, [.int 0, .int 0, .int 0, .int 0, .int 0, .int 0, .int 0, .int 0, .ref ta0, .ref ta1, .ref ta2, .ref ta3, .ref ta4, .ref ta5, .ref ta6, .ref ta7, .ref ta8, .ref ta9]))]) hD hS hA [0, 1, 2] rfl
  refine va_calli (va_runV (As := [.int (xs (Int32.toNatClampNeg 1))]) (rest := []) ⟨hx, hb, hml, hown, hts⟩ (k_X9_hollow l dC dI h0 (xs (Int32.toNatClampNeg 1)) tp nw im sl rd wk fm mt ch dy tn ta0 ta1 ta2 ta3 ta4 ta5 ta6 ta7 ta8 ta9 H.size) (cwV 1 hts (z_gV zw_t5_121 zw_t5_122 zw_t5_123 zw_t1_1 zw_t5_124) rfl rfl rfl (by decide +kernel) ⟨(Nat.le_of_ble_eq_true rfl), (Nat.le_of_ble_eq_true rfl)⟩) (z_preV hPc hKc hDc (ci := 9) (q0 := 0) rfl rfl) rfl rfl hl.1 rfl (lv_room (Nat.le_of_ble_eq_true rfl)) dL_law_1721 ⟨(Nat.le_of_ble_eq_true rfl), (Nat.le_of_ble_eq_true rfl)⟩) hS (fun q _ h => hFc q h) hFc (fun r_2 u t H1 locs ht hvm hw hB hz1 hk1 hS => ?_)
  have hB : zW dC dI [] [] (va_A [(h0, .inr (9, [.ref tp, .int 0, .int 0, .int (-1), .ref nw, .ref im, .ref sl, .ref rd, .ref wk, .ref fm, .ref mt, .ref ch, .ref dy])), (nw, .inr (3, [.int 0, .ref tn, .int 0, .int 0, .int 0, .int 0])), (tn, .inr (7, [.int 0, .int 0, .int 0, .int 0, .int 0, .int 0, .int 0, .int 0, .ref ta0, .ref ta1, .ref ta2, .ref ta3, .ref ta4, .ref ta5, .ref ta6, .ref ta7, .ref ta8, .ref ta9]))] H.size) t := z_none (va_K.moved hvm hK)
  obtain ⟨hP, hD, hK⟩ := z_after [(m0, .inr (10, [.int 0, .ref m_width, .ref m_many, .ref m_cells, .ref m_moved, .ref m_tape, .int 0, .int 0, .int 0, .int 0, .int 0, .long 0, .int 0, .int 0, .int 0, .int (-1), .ref m_lines, .ref m_hours, .ref m_courts, .ref m_in, .ref m_gates, .ref m_gate, .ref m_people, .ref m_at0, .ref m_stray, .ref m_set, .ref m_once, .ref m_truth, .ref m_known, .ref m_isKept, .int 0, .int (-1), .int 0, .int 0, .ref m_inside, .ref m_can, .ref m_fewest, .ref m_waysTo, .ref m_then, .ref m_two, .ref m_nextTwo, .ref m_three, .ref m_nextThree, .int (-1), .ref m_worth, .ref m_digit, .int 0, .long 0, .int 0, .int 0, .int 0, .int 0, .long 0])), (m_courts, .inl (cm_courts, 5, .inl (fun _ => 0)))] hB ht hvm hP hD hK [0, 1, 2] [3, 4] rfl rfl (by decide) (by decide) hk1 hFc
  generalize H1 = H at hP hS ⊢
  have hP : va_P (dC, dI) vwCl [(m0, .inr (10, [.int 0, .ref m_width, .ref m_many, .ref m_cells, .ref m_moved, .ref m_tape, .int 0, .int 0, .int 0, .int 0, .int 0, .long 0, .int 0, .int 0, .int 0, .int (-1), .ref m_lines, .ref m_hours, .ref m_courts, .ref m_in, .ref m_gates, .ref m_gate, .ref m_people, .ref m_at0, .ref m_stray, .ref m_set, .ref m_once, .ref m_truth, .ref m_known, .ref m_isKept, .int 0, .int (-1), .int 0, .int 0, .ref m_inside, .ref m_can, .ref m_fewest, .ref m_waysTo, .ref m_then, .ref m_two, .ref m_nextTwo, .ref m_three, .ref m_nextThree, .int (-1), .ref m_worth, .ref m_digit, .int 0, .long 0, .int 0, .int 0, .int 0, .int 0, .long 0])), (m_courts, .inl (cm_courts, 5, .inl (fun _ => 0)))] H := hP
  have hD : va_D A [(m0, .inr (10, [.int 0, .ref m_width, .ref m_many, .ref m_cells, .ref m_moved, .ref m_tape, .int 0, .int 0, .int 0, .int 0, .int 0, .long 0, .int 0, .int 0, .int 0, .int (-1), .ref m_lines, .ref m_hours, .ref m_courts, .ref m_in, .ref m_gates, .ref m_gate, .ref m_people, .ref m_at0, .ref m_stray, .ref m_set, .ref m_once, .ref m_truth, .ref m_known, .ref m_isKept, .int 0, .int (-1), .int 0, .int 0, .ref m_inside, .ref m_can, .ref m_fewest, .ref m_waysTo, .ref m_then, .ref m_two, .ref m_nextTwo, .ref m_three, .ref m_nextThree, .int (-1), .ref m_worth, .ref m_digit, .int 0, .long 0, .int 0, .int 0, .int 0, .int 0, .long 0])), (m_courts, .inl (cm_courts, 5, .inl (fun _ => 0)))] := hD
  have hK : va_K (dC, dI) vwCl [(cm_courts, .int)] s := hK
  obtain rfl : r_2 = (-2) := hw
  refine lv_aload_n hx hb dL_law_1724 rfl (lv_at hl 1 rfl) ?_
  refine lv_aload_n hx hb dL_law_1725 rfl (lv_at hl 3 rfl) ?_
  refine lv_iload_n hx hb dL_law_1726 rfl (lv_at hl 0 rfl) ?_
  refine lv_iconst (v := 1) hx hb dL_law_1727 (by decide) ?_
  refine lv_iadd hx hb dL_law_1728 ?_
  refine lv_topi (fun x_3 ex_3 => ?_)
  obtain rfl : x_3 = 1 := ex_3.trans (by decide)
  refine va_sld hx hb hX hbl hbA hS (z_inC _ (k := 1) (by decide) (by decide)) dL_law_1729 ?_
  have hPc := hP.sub (ws' := [(m0, .inr (10, [.int 0, .ref m_width, .ref m_many, .ref m_cells, .ref m_moved, .ref m_tape, .int 0, .int 0, .int 0, .int 0, .int 0, .long 0, .int 0, .int 0, .int 0, .int (-1), .ref m_lines, .ref m_hours, .ref m_courts, .ref m_in, .ref m_gates, .ref m_gate, .ref m_people, .ref m_at0, .ref m_stray, .ref m_set, .ref m_once, .ref m_truth, .ref m_known, .ref m_isKept, .int 0, .int (-1), .int 0, .int 0, .ref m_inside, .ref m_can, .ref m_fewest, .ref m_waysTo, .ref m_then, .ref m_two, .ref m_nextTwo, .ref m_three, .ref m_nextThree, .int (-1), .ref m_worth, .ref m_digit, .int 0, .long 0, .int 0, .int 0, .int 0, .int 0, .long 0])), (m_courts, .inl (cm_courts, 5, .inl (fun _ => 0)))]) [0, 1] rfl
  have hDc := hD.sub (ws' := [(m0, .inr (10, [.int 0, .ref m_width, .ref m_many, .ref m_cells, .ref m_moved, .ref m_tape, .int 0, .int 0, .int 0, .int 0, .int 0, .long 0, .int 0, .int 0, .int 0, .int (-1), .ref m_lines, .ref m_hours, .ref m_courts, .ref m_in, .ref m_gates, .ref m_gate, .ref m_people, .ref m_at0, .ref m_stray, .ref m_set, .ref m_once, .ref m_truth, .ref m_known, .ref m_isKept, .int 0, .int (-1), .int 0, .int 0, .ref m_inside, .ref m_can, .ref m_fewest, .ref m_waysTo, .ref m_then, .ref m_two, .ref m_nextTwo, .ref m_three, .ref m_nextThree, .int (-1), .ref m_worth, .ref m_digit, .int 0, .long 0, .int 0, .int 0, .int 0, .int 0, .long 0])), (m_courts, .inl (cm_courts, 5, .inl (fun _ => 0)))]) [0, 1] (by decide) rfl
  have hKc := hK.sub (tys' := [(cm_courts, .int)]) [0] rfl
  have hFc := va_free (wc := [(m0, .inr (10, [.int 0, .ref m_width, .ref m_many, .ref m_cells, .ref m_moved, .ref m_tape, .int 0, .int 0, .int 0, .int 0, .int 0, .long 0, .int 0, .int 0, .int 0, .int (-1), .ref m_lines, .ref m_hours, .ref m_courts, .ref m_in, .ref m_gates, .ref m_gate, .ref m_people, .ref m_at0, .ref m_stray, .ref m_set, .ref m_once, .ref m_truth, .ref m_known, .ref m_isKept, .int 0, .int (-1), .int 0, .int 0, .ref m_inside, .ref m_can, .ref m_fewest, .ref m_waysTo, .ref m_then, .ref m_two, .ref m_nextTwo, .ref m_three, .ref m_nextThree, .int (-1), .ref m_worth, .ref m_digit, .int 0, .long 0, .int 0, .int 0, .int 0, .int 0, .long 0])), (m_courts, .inl (cm_courts, 5, .inl (fun _ => 0)))]) hD hS hA [0, 1] rfl
  refine va_calli (va_runV (As := [.int (xs (Int32.toNatClampNeg 1))]) (rest := [.int (-2)]) ⟨hx, hb, hml, hown, hts⟩ (k_X10_hollow l dC dI m0 (xs (Int32.toNatClampNeg 1)) m_width m_many m_cells m_moved m_tape m_lines m_hours m_courts m_in m_gates m_gate m_people m_at0 m_stray m_set m_once m_truth m_known m_isKept m_inside m_can m_fewest m_waysTo m_then m_two m_nextTwo m_three m_nextThree m_worth m_digit cm_courts H.size) (cwV 1 hts (z_gV zw_t8_144 zw_t8_145 zw_t8_146 zw_t1_11 zw_t8_147) rfl rfl rfl (by decide +kernel) ⟨(Nat.le_of_ble_eq_true rfl), (Nat.le_of_ble_eq_true rfl)⟩) (z_preV hPc hKc hDc (ci := 10) (q0 := 0) rfl rfl) rfl rfl hl.1 rfl (lv_room (Nat.le_of_ble_eq_true rfl)) dL_law_1730 ⟨(Nat.le_of_ble_eq_true rfl), (Nat.le_of_ble_eq_true rfl)⟩) hS (fun q _ h => hFc q h) hFc (fun r_4 u t H1 locs ht hvm hw hB hz1 hk1 hS => ?_)
  have hB : zW dC dI [] [] (va_A [(m0, .inr (10, [.int 0, .ref m_width, .ref m_many, .ref m_cells, .ref m_moved, .ref m_tape, .int 0, .int 0, .int 0, .int 0, .int 0, .long 0, .int 0, .int 0, .int 0, .int (-1), .ref m_lines, .ref m_hours, .ref m_courts, .ref m_in, .ref m_gates, .ref m_gate, .ref m_people, .ref m_at0, .ref m_stray, .ref m_set, .ref m_once, .ref m_truth, .ref m_known, .ref m_isKept, .int 0, .int (-1), .int 0, .int 0, .ref m_inside, .ref m_can, .ref m_fewest, .ref m_waysTo, .ref m_then, .ref m_two, .ref m_nextTwo, .ref m_three, .ref m_nextThree, .int (-1), .ref m_worth, .ref m_digit, .int 0, .long 0, .int 0, .int 0, .int 0, .int 0, .long 0])), (m_courts, .inl (cm_courts, 5, .inl (fun _ => 0)))] H.size) t := z_none (va_K.moved hvm hK)
  obtain ⟨hP, hD, hK⟩ := z_after [] hB ht hvm hP hD hK [0, 1] [] rfl rfl (by decide) (by decide) hk1 hFc
  generalize H1 = H at hP hS ⊢
  have hP : va_P (dC, dI) vwCl [] H := hP
  have hD : va_D A [] := hD
  have hK : va_K (dC, dI) vwCl [(cm_courts, .int)] s := hK
  obtain rfl : r_4 = (-2) := hw
  refine lv_icmp_eq (tgt := 2651) hx hb dL_law_1733 (by decide) (fun _ => ?_) (fun q => absurd q (by decide))
  exact law_tail C0 hA2 (Nat.le_of_ble_eq_true rfl) (Nat.le_of_ble_eq_true rfl) hS (lv_sub hl [0, 3] rfl)
set_option maxHeartbeats 4000000 in
set_option maxRecDepth 100000 in
theorem law_keeper {p : Program} {e : Env} {s : State} {m : MethodId} {below : List Frame} {meth : Method} {c : Code} {l : Launch} {b : Nat} {xs : Nat → Int32} (C0 : lw_At p s m meth c b 6 xs) {dC : Nat → ClassId} {dI : Nat → Nat → Nat} {A : Nat → Prop} (hA : ∀ q, s.heap.size ≤ q → A q) (hA2 : ∀ q, A q → s.heap.size ≤ q) {h0 : Nat} {tp : Nat} {nw : Nat} {im : Nat} {sl : Nat} {rd : Nat} {wk : Nat} {fm : Nat} {mt : Nat} {ch : Nat} {dy : Nat} {tn : Nat} {ta0 : Nat} {ta1 : Nat} {ta2 : Nat} {ta3 : Nat} {ta4 : Nat} {ta5 : Nat} {ta6 : Nat} {ta7 : Nat} {ta8 : Nat} {ta9 : Nat} {m0 : Nat} {m_width : Nat} {m_many : Nat} {m_cells : Nat} {m_moved : Nat} {m_tape : Nat} {m_lines : Nat} {m_hours : Nat} {m_courts : Nat} {m_in : Nat} {m_gates : Nat} {m_gate : Nat} {m_people : Nat} {m_at0 : Nat} {m_stray : Nat} {m_set : Nat} {m_once : Nat} {m_truth : Nat} {m_known : Nat} {m_isKept : Nat} {m_inside : Nat} {m_can : Nat} {m_fewest : Nat} {m_waysTo : Nat} {m_then : Nat} {m_two : Nat} {m_nextTwo : Nat} {m_three : Nat} {m_nextThree : Nat} {m_worth : Nat} {m_digit : Nat} {cm_courts : ClassId}  {H : Heap} {locs : List Loc} {ls : Array Slot} (hP : va_P (dC, dI) vwCl [(h0, .inr (9, [.ref tp, .int 0, .int 0, .int (-1), .ref nw, .ref im, .ref sl, .ref rd, .ref wk, .ref fm, .ref mt, .ref ch, .ref dy])), (nw, .inr (3, [.int 0, .ref tn, .int 0, .int 0, .int 0, .int 0])), (tn, .inr (7, [.int 0, .int 0, .int 0, .int 0, .int 0, .int 0, .int 0, .int 0, .ref ta0, .ref ta1, .ref ta2, .ref ta3, .ref ta4, .ref ta5, .ref ta6, .ref ta7, .ref ta8, .ref ta9])), (m0, .inr (10, [.int 0, .ref m_width, .ref m_many, .ref m_cells, .ref m_moved, .ref m_tape, .int 0, .int 0, .int 0, .int 0, .int 0, .long 0, .int 0, .int 0, .int 0, .int (-1), .ref m_lines, .ref m_hours, .ref m_courts, .ref m_in, .ref m_gates, .ref m_gate, .ref m_people, .ref m_at0, .ref m_stray, .ref m_set, .ref m_once, .ref m_truth, .ref m_known, .ref m_isKept, .int 0, .int (-1), .int 0, .int 0, .ref m_inside, .ref m_can, .ref m_fewest, .ref m_waysTo, .ref m_then, .ref m_two, .ref m_nextTwo, .ref m_three, .ref m_nextThree, .int (-1), .ref m_worth, .ref m_digit, .int 0, .long 0, .int 0, .int 0, .int 0, .int 0, .long 0])), (m_courts, .inl (cm_courts, 5, .inl (fun _ => 0)))] H) (hD : va_D A [(h0, .inr (9, [.ref tp, .int 0, .int 0, .int (-1), .ref nw, .ref im, .ref sl, .ref rd, .ref wk, .ref fm, .ref mt, .ref ch, .ref dy])), (nw, .inr (3, [.int 0, .ref tn, .int 0, .int 0, .int 0, .int 0])), (tn, .inr (7, [.int 0, .int 0, .int 0, .int 0, .int 0, .int 0, .int 0, .int 0, .ref ta0, .ref ta1, .ref ta2, .ref ta3, .ref ta4, .ref ta5, .ref ta6, .ref ta7, .ref ta8, .ref ta9])), (m0, .inr (10, [.int 0, .ref m_width, .ref m_many, .ref m_cells, .ref m_moved, .ref m_tape, .int 0, .int 0, .int 0, .int 0, .int 0, .long 0, .int 0, .int 0, .int 0, .int (-1), .ref m_lines, .ref m_hours, .ref m_courts, .ref m_in, .ref m_gates, .ref m_gate, .ref m_people, .ref m_at0, .ref m_stray, .ref m_set, .ref m_once, .ref m_truth, .ref m_known, .ref m_isKept, .int 0, .int (-1), .int 0, .int 0, .ref m_inside, .ref m_can, .ref m_fewest, .ref m_waysTo, .ref m_then, .ref m_two, .ref m_nextTwo, .ref m_three, .ref m_nextThree, .int (-1), .ref m_worth, .ref m_digit, .int 0, .long 0, .int 0, .int 0, .int 0, .int 0, .long 0])), (m_courts, .inl (cm_courts, 5, .inl (fun _ => 0)))]) (hK : va_K (dC, dI) vwCl [(cm_courts, .int)] s) (hS : va_S A s.heap H locs) (hl : lv_has ls 4 [(3, .int 0), (2, .ref m0), (1, .ref h0), (0, .ref b)]) : W p l e room_1 s m #[Value.ref b] below meth c H locs 166 101284 (lw_Z below #[Value.ref b] s) (F0 m 1738 ls []) := by
  obtain ⟨hx, hb, hr, hml, hown, hts, hX, hbl, hlocks, hgv⟩ := id C0
  have hown : s.vm.findClass RL = some m.cls := hown
  have hb : c.code = cL_law := hb
  have hts : ∀ w ∈ zT, w.before #[Value.ref b] s = true := fun w h => hts w (zT_in w h)
  have hbA : ¬ A b := fun q => absurd (hA2 b q) (Nat.not_le.mpr hbl)
  refine lv_aload_n hx hb dL_law_1738 rfl (lv_at hl 2 rfl) ?_
  refine lv_aload_n hx hb dL_law_1739 rfl (lv_at hl 3 rfl) ?_
  refine lv_iload_n hx hb dL_law_1740 rfl (lv_at hl 0 rfl) ?_
  refine lv_iconst (v := 1) hx hb dL_law_1741 (by decide) ?_
  refine lv_iadd hx hb dL_law_1742 ?_
  refine lv_topi (fun x_1 ex_1 => ?_)
  obtain rfl : x_1 = 1 := ex_1.trans (by decide)
  refine va_sld hx hb hX hbl hbA hS (z_inC _ (k := 1) (by decide) (by decide)) dL_law_1743 ?_
  have hPc := hP.sub (ws' := [(h0, .inr (9, [.ref tp, .int 0, .int 0, .int (-1), .ref nw, .ref im, .ref sl, .ref rd, .ref wk, .ref fm, .ref mt, .ref ch, .ref dy])), (nw, .inr (3, [.int 0, .ref tn, .int 0, .int 0, .int 0, .int 0])), (tn, .inr (7, [.int 0, .int 0, .int 0, .int 0, .int 0, .int 0, .int 0, .int 0, .ref ta0, .ref ta1, .ref ta2, .ref ta3, .ref ta4, .ref ta5, .ref ta6, .ref ta7, .ref ta8, .ref ta9]))]) [0, 1, 2] rfl
  have hDc := hD.sub (ws' := [(h0, .inr (9, [.ref tp, .int 0, .int 0, .int (-1), .ref nw, .ref im, .ref sl, .ref rd, .ref wk, .ref fm, .ref mt, .ref ch, .ref dy])), (nw, .inr (3, [.int 0, .ref tn, .int 0, .int 0, .int 0, .int 0])), (tn, .inr (7, [.int 0, .int 0, .int 0, .int 0, .int 0, .int 0, .int 0, .int 0, .ref ta0, .ref ta1, .ref ta2, .ref ta3, .ref ta4, .ref ta5, .ref ta6, .ref ta7, .ref ta8, .ref ta9]))]) [0, 1, 2] (by decide) rfl
  have hKc := hK.sub (tys' := []) [] rfl
  have hFc := va_free (wc := [(h0, .inr (9, [.ref tp, .int 0, .int 0, .int (-1), .ref nw, .ref im, .ref sl, .ref rd, .ref wk, .ref fm, .ref mt, .ref ch, .ref dy])), (nw, .inr (3, [.int 0, .ref tn, .int 0, .int 0, .int 0, .int 0])), (tn, .inr (7, [.int 0, .int 0, .int 0, .int 0, .int 0, .int 0, .int 0, .int 0, .ref ta0, .ref ta1, .ref ta2, .ref ta3, .ref ta4, .ref ta5, .ref ta6, .ref ta7, .ref ta8, .ref ta9]))]) hD hS hA [0, 1, 2] rfl
  refine va_calli (va_runV (As := [.int (xs (Int32.toNatClampNeg 1))]) (rest := []) ⟨hx, hb, hml, hown, hts⟩ (k_X9_keeper l dC dI h0 (xs (Int32.toNatClampNeg 1)) tp nw im sl rd wk fm mt ch dy tn ta0 ta1 ta2 ta3 ta4 ta5 ta6 ta7 ta8 ta9 H.size) (cwV 1 hts (z_gV zw_t5_125 zw_t5_126 zw_t5_127 zw_t1_1 zw_t5_128) rfl rfl rfl (by decide +kernel) ⟨(Nat.le_of_ble_eq_true rfl), (Nat.le_of_ble_eq_true rfl)⟩) (z_preV hPc hKc hDc (ci := 9) (q0 := 0) rfl rfl) rfl rfl hl.1 rfl (lv_room (Nat.le_of_ble_eq_true rfl)) dL_law_1744 ⟨(Nat.le_of_ble_eq_true rfl), (Nat.le_of_ble_eq_true rfl)⟩) hS (fun q _ h => hFc q h) hFc (fun r_2 u t H1 locs ht hvm hw hB hz1 hk1 hS => ?_)
  have hB : zW dC dI [] [] (va_A [(h0, .inr (9, [.ref tp, .int 0, .int 0, .int (-1), .ref nw, .ref im, .ref sl, .ref rd, .ref wk, .ref fm, .ref mt, .ref ch, .ref dy])), (nw, .inr (3, [.int 0, .ref tn, .int 0, .int 0, .int 0, .int 0])), (tn, .inr (7, [.int 0, .int 0, .int 0, .int 0, .int 0, .int 0, .int 0, .int 0, .ref ta0, .ref ta1, .ref ta2, .ref ta3, .ref ta4, .ref ta5, .ref ta6, .ref ta7, .ref ta8, .ref ta9]))] H.size) t := z_none (va_K.moved hvm hK)
  obtain ⟨hP, hD, hK⟩ := z_after [(m0, .inr (10, [.int 0, .ref m_width, .ref m_many, .ref m_cells, .ref m_moved, .ref m_tape, .int 0, .int 0, .int 0, .int 0, .int 0, .long 0, .int 0, .int 0, .int 0, .int (-1), .ref m_lines, .ref m_hours, .ref m_courts, .ref m_in, .ref m_gates, .ref m_gate, .ref m_people, .ref m_at0, .ref m_stray, .ref m_set, .ref m_once, .ref m_truth, .ref m_known, .ref m_isKept, .int 0, .int (-1), .int 0, .int 0, .ref m_inside, .ref m_can, .ref m_fewest, .ref m_waysTo, .ref m_then, .ref m_two, .ref m_nextTwo, .ref m_three, .ref m_nextThree, .int (-1), .ref m_worth, .ref m_digit, .int 0, .long 0, .int 0, .int 0, .int 0, .int 0, .long 0])), (m_courts, .inl (cm_courts, 5, .inl (fun _ => 0)))] hB ht hvm hP hD hK [0, 1, 2] [3, 4] rfl rfl (by decide) (by decide) hk1 hFc
  generalize H1 = H at hP hS ⊢
  have hP : va_P (dC, dI) vwCl [(m0, .inr (10, [.int 0, .ref m_width, .ref m_many, .ref m_cells, .ref m_moved, .ref m_tape, .int 0, .int 0, .int 0, .int 0, .int 0, .long 0, .int 0, .int 0, .int 0, .int (-1), .ref m_lines, .ref m_hours, .ref m_courts, .ref m_in, .ref m_gates, .ref m_gate, .ref m_people, .ref m_at0, .ref m_stray, .ref m_set, .ref m_once, .ref m_truth, .ref m_known, .ref m_isKept, .int 0, .int (-1), .int 0, .int 0, .ref m_inside, .ref m_can, .ref m_fewest, .ref m_waysTo, .ref m_then, .ref m_two, .ref m_nextTwo, .ref m_three, .ref m_nextThree, .int (-1), .ref m_worth, .ref m_digit, .int 0, .long 0, .int 0, .int 0, .int 0, .int 0, .long 0])), (m_courts, .inl (cm_courts, 5, .inl (fun _ => 0)))] H := hP
  have hD : va_D A [(m0, .inr (10, [.int 0, .ref m_width, .ref m_many, .ref m_cells, .ref m_moved, .ref m_tape, .int 0, .int 0, .int 0, .int 0, .int 0, .long 0, .int 0, .int 0, .int 0, .int (-1), .ref m_lines, .ref m_hours, .ref m_courts, .ref m_in, .ref m_gates, .ref m_gate, .ref m_people, .ref m_at0, .ref m_stray, .ref m_set, .ref m_once, .ref m_truth, .ref m_known, .ref m_isKept, .int 0, .int (-1), .int 0, .int 0, .ref m_inside, .ref m_can, .ref m_fewest, .ref m_waysTo, .ref m_then, .ref m_two, .ref m_nextTwo, .ref m_three, .ref m_nextThree, .int (-1), .ref m_worth, .ref m_digit, .int 0, .long 0, .int 0, .int 0, .int 0, .int 0, .long 0])), (m_courts, .inl (cm_courts, 5, .inl (fun _ => 0)))] := hD
  have hK : va_K (dC, dI) vwCl [(cm_courts, .int)] s := hK
  obtain rfl : r_2 = (-2) := hw
  refine lv_aload_n hx hb dL_law_1747 rfl (lv_at hl 1 rfl) ?_
  refine lv_aload_n hx hb dL_law_1748 rfl (lv_at hl 3 rfl) ?_
  refine lv_iload_n hx hb dL_law_1749 rfl (lv_at hl 0 rfl) ?_
  refine lv_iconst (v := 1) hx hb dL_law_1750 (by decide) ?_
  refine lv_iadd hx hb dL_law_1751 ?_
  refine lv_topi (fun x_3 ex_3 => ?_)
  obtain rfl : x_3 = 1 := ex_3.trans (by decide)
  refine va_sld hx hb hX hbl hbA hS (z_inC _ (k := 1) (by decide) (by decide)) dL_law_1752 ?_
  have hPc := hP.sub (ws' := [(m0, .inr (10, [.int 0, .ref m_width, .ref m_many, .ref m_cells, .ref m_moved, .ref m_tape, .int 0, .int 0, .int 0, .int 0, .int 0, .long 0, .int 0, .int 0, .int 0, .int (-1), .ref m_lines, .ref m_hours, .ref m_courts, .ref m_in, .ref m_gates, .ref m_gate, .ref m_people, .ref m_at0, .ref m_stray, .ref m_set, .ref m_once, .ref m_truth, .ref m_known, .ref m_isKept, .int 0, .int (-1), .int 0, .int 0, .ref m_inside, .ref m_can, .ref m_fewest, .ref m_waysTo, .ref m_then, .ref m_two, .ref m_nextTwo, .ref m_three, .ref m_nextThree, .int (-1), .ref m_worth, .ref m_digit, .int 0, .long 0, .int 0, .int 0, .int 0, .int 0, .long 0])), (m_courts, .inl (cm_courts, 5, .inl (fun _ => 0)))]) [0, 1] rfl
  have hDc := hD.sub (ws' := [(m0, .inr (10, [.int 0, .ref m_width, .ref m_many, .ref m_cells, .ref m_moved, .ref m_tape, .int 0, .int 0, .int 0, .int 0, .int 0, .long 0, .int 0, .int 0, .int 0, .int (-1), .ref m_lines, .ref m_hours, .ref m_courts, .ref m_in, .ref m_gates, .ref m_gate, .ref m_people, .ref m_at0, .ref m_stray, .ref m_set, .ref m_once, .ref m_truth, .ref m_known, .ref m_isKept, .int 0, .int (-1), .int 0, .int 0, .ref m_inside, .ref m_can, .ref m_fewest, .ref m_waysTo, .ref m_then, .ref m_two, .ref m_nextTwo, .ref m_three, .ref m_nextThree, .int (-1), .ref m_worth, .ref m_digit, .int 0, .long 0, .int 0, .int 0, .int 0, .int 0, .long 0])), (m_courts, .inl (cm_courts, 5, .inl (fun _ => 0)))]) [0, 1] (by decide) rfl
  have hKc := hK.sub (tys' := [(cm_courts, .int)]) [0] rfl
  have hFc := va_free (wc := [(m0, .inr (10, [.int 0, .ref m_width, .ref m_many, .ref m_cells, .ref m_moved, .ref m_tape, .int 0, .int 0, .int 0, .int 0, .int 0, .long 0, .int 0, .int 0, .int 0, .int (-1), .ref m_lines, .ref m_hours, .ref m_courts, .ref m_in, .ref m_gates, .ref m_gate, .ref m_people, .ref m_at0, .ref m_stray, .ref m_set, .ref m_once, .ref m_truth, .ref m_known, .ref m_isKept, .int 0, .int (-1), .int 0, .int 0, .ref m_inside, .ref m_can, .ref m_fewest, .ref m_waysTo, .ref m_then, .ref m_two, .ref m_nextTwo, .ref m_three, .ref m_nextThree, .int (-1), .ref m_worth, .ref m_digit, .int 0, .long 0, .int 0, .int 0, .int 0, .int 0, .long 0])), (m_courts, .inl (cm_courts, 5, .inl (fun _ => 0)))]) hD hS hA [0, 1] rfl
  refine va_calli (va_runV (As := [.int (xs (Int32.toNatClampNeg 1))]) (rest := [.int (-2)]) ⟨hx, hb, hml, hown, hts⟩ (k_X10_keeper l dC dI m0 (xs (Int32.toNatClampNeg 1)) m_width m_many m_cells m_moved m_tape m_lines m_hours m_courts m_in m_gates m_gate m_people m_at0 m_stray m_set m_once m_truth m_known m_isKept m_inside m_can m_fewest m_waysTo m_then m_two m_nextTwo m_three m_nextThree m_worth m_digit cm_courts H.size) (cwV 1 hts (z_gV zw_t8_148 zw_t8_149 zw_t8_150 zw_t1_11 zw_t8_151) rfl rfl rfl (by decide +kernel) ⟨(Nat.le_of_ble_eq_true rfl), (Nat.le_of_ble_eq_true rfl)⟩) (z_preV hPc hKc hDc (ci := 10) (q0 := 0) rfl rfl) rfl rfl hl.1 rfl (lv_room (Nat.le_of_ble_eq_true rfl)) dL_law_1753 ⟨(Nat.le_of_ble_eq_true rfl), (Nat.le_of_ble_eq_true rfl)⟩) hS (fun q _ h => hFc q h) hFc (fun r_4 u t H1 locs ht hvm hw hB hz1 hk1 hS => ?_)
  have hB : zW dC dI [] [] (va_A [(m0, .inr (10, [.int 0, .ref m_width, .ref m_many, .ref m_cells, .ref m_moved, .ref m_tape, .int 0, .int 0, .int 0, .int 0, .int 0, .long 0, .int 0, .int 0, .int 0, .int (-1), .ref m_lines, .ref m_hours, .ref m_courts, .ref m_in, .ref m_gates, .ref m_gate, .ref m_people, .ref m_at0, .ref m_stray, .ref m_set, .ref m_once, .ref m_truth, .ref m_known, .ref m_isKept, .int 0, .int (-1), .int 0, .int 0, .ref m_inside, .ref m_can, .ref m_fewest, .ref m_waysTo, .ref m_then, .ref m_two, .ref m_nextTwo, .ref m_three, .ref m_nextThree, .int (-1), .ref m_worth, .ref m_digit, .int 0, .long 0, .int 0, .int 0, .int 0, .int 0, .long 0])), (m_courts, .inl (cm_courts, 5, .inl (fun _ => 0)))] H.size) t := z_none (va_K.moved hvm hK)
  obtain ⟨hP, hD, hK⟩ := z_after [] hB ht hvm hP hD hK [0, 1] [] rfl rfl (by decide) (by decide) hk1 hFc
  generalize H1 = H at hP hS ⊢
  have hP : va_P (dC, dI) vwCl [] H := hP
  have hD : va_D A [] := hD
  have hK : va_K (dC, dI) vwCl [(cm_courts, .int)] s := hK
  obtain rfl : r_4 = (-2) := hw
  refine lv_icmp_eq (tgt := 2651) hx hb dL_law_1756 (by decide) (fun _ => ?_) (fun q => absurd q (by decide))
  exact law_tail C0 hA2 (Nat.le_of_ble_eq_true rfl) (Nat.le_of_ble_eq_true rfl) hS (lv_sub hl [0, 3] rfl)
set_option maxHeartbeats 4000000 in
set_option maxRecDepth 100000 in
theorem law_hear {p : Program} {e : Env} {s : State} {m : MethodId} {below : List Frame} {meth : Method} {c : Code} {l : Launch} {b : Nat} {xs : Nat → Int32} (C0 : lw_At p s m meth c b 6 xs) {dC : Nat → ClassId} {dI : Nat → Nat → Nat} {A : Nat → Prop} (hA : ∀ q, s.heap.size ≤ q → A q) (hA2 : ∀ q, A q → s.heap.size ≤ q) {h0 : Nat} {tp : Nat} {nw : Nat} {im : Nat} {sl : Nat} {rd : Nat} {wk : Nat} {fm : Nat} {mt : Nat} {ch : Nat} {dy : Nat} {tn : Nat} {ta0 : Nat} {ta1 : Nat} {ta2 : Nat} {ta3 : Nat} {ta4 : Nat} {ta5 : Nat} {ta6 : Nat} {ta7 : Nat} {ta8 : Nat} {ta9 : Nat} {m0 : Nat} {m_width : Nat} {m_many : Nat} {m_cells : Nat} {m_moved : Nat} {m_tape : Nat} {m_lines : Nat} {m_hours : Nat} {m_courts : Nat} {m_in : Nat} {m_gates : Nat} {m_gate : Nat} {m_people : Nat} {m_at0 : Nat} {m_stray : Nat} {m_set : Nat} {m_once : Nat} {m_truth : Nat} {m_known : Nat} {m_isKept : Nat} {m_inside : Nat} {m_can : Nat} {m_fewest : Nat} {m_waysTo : Nat} {m_then : Nat} {m_two : Nat} {m_nextTwo : Nat} {m_three : Nat} {m_nextThree : Nat} {m_worth : Nat} {m_digit : Nat} {cm_people : ClassId}  {H : Heap} {locs : List Loc} {ls : Array Slot} (hP : va_P (dC, dI) vwCl [(h0, .inr (9, [.ref tp, .int 0, .int 0, .int (-1), .ref nw, .ref im, .ref sl, .ref rd, .ref wk, .ref fm, .ref mt, .ref ch, .ref dy])), (nw, .inr (3, [.int 0, .ref tn, .int 0, .int 0, .int 0, .int 0])), (tn, .inr (7, [.int 0, .int 0, .int 0, .int 0, .int 0, .int 0, .int 0, .int 0, .ref ta0, .ref ta1, .ref ta2, .ref ta3, .ref ta4, .ref ta5, .ref ta6, .ref ta7, .ref ta8, .ref ta9])), (m0, .inr (10, [.int 0, .ref m_width, .ref m_many, .ref m_cells, .ref m_moved, .ref m_tape, .int 0, .int 0, .int 0, .int 0, .int 0, .long 0, .int 0, .int 0, .int 0, .int (-1), .ref m_lines, .ref m_hours, .ref m_courts, .ref m_in, .ref m_gates, .ref m_gate, .ref m_people, .ref m_at0, .ref m_stray, .ref m_set, .ref m_once, .ref m_truth, .ref m_known, .ref m_isKept, .int 0, .int (-1), .int 0, .int 0, .ref m_inside, .ref m_can, .ref m_fewest, .ref m_waysTo, .ref m_then, .ref m_two, .ref m_nextTwo, .ref m_three, .ref m_nextThree, .int (-1), .ref m_worth, .ref m_digit, .int 0, .long 0, .int 0, .int 0, .int 0, .int 0, .long 0])), (m_people, .inl (cm_people, 5, .inl (fun _ => 0)))] H) (hD : va_D A [(h0, .inr (9, [.ref tp, .int 0, .int 0, .int (-1), .ref nw, .ref im, .ref sl, .ref rd, .ref wk, .ref fm, .ref mt, .ref ch, .ref dy])), (nw, .inr (3, [.int 0, .ref tn, .int 0, .int 0, .int 0, .int 0])), (tn, .inr (7, [.int 0, .int 0, .int 0, .int 0, .int 0, .int 0, .int 0, .int 0, .ref ta0, .ref ta1, .ref ta2, .ref ta3, .ref ta4, .ref ta5, .ref ta6, .ref ta7, .ref ta8, .ref ta9])), (m0, .inr (10, [.int 0, .ref m_width, .ref m_many, .ref m_cells, .ref m_moved, .ref m_tape, .int 0, .int 0, .int 0, .int 0, .int 0, .long 0, .int 0, .int 0, .int 0, .int (-1), .ref m_lines, .ref m_hours, .ref m_courts, .ref m_in, .ref m_gates, .ref m_gate, .ref m_people, .ref m_at0, .ref m_stray, .ref m_set, .ref m_once, .ref m_truth, .ref m_known, .ref m_isKept, .int 0, .int (-1), .int 0, .int 0, .ref m_inside, .ref m_can, .ref m_fewest, .ref m_waysTo, .ref m_then, .ref m_two, .ref m_nextTwo, .ref m_three, .ref m_nextThree, .int (-1), .ref m_worth, .ref m_digit, .int 0, .long 0, .int 0, .int 0, .int 0, .int 0, .long 0])), (m_people, .inl (cm_people, 5, .inl (fun _ => 0)))]) (hK : va_K (dC, dI) vwCl [(cm_people, .int)] s) (hS : va_S A s.heap H locs) (hl : lv_has ls 4 [(3, .int 0), (2, .ref m0), (1, .ref h0), (0, .ref b)]) : W p l e room_1 s m #[Value.ref b] below meth c H locs 166 101284 (lw_Z below #[Value.ref b] s) (F0 m 1761 ls []) := by
  obtain ⟨hx, hb, hr, hml, hown, hts, hX, hbl, hlocks, hgv⟩ := id C0
  have hown : s.vm.findClass RL = some m.cls := hown
  have hb : c.code = cL_law := hb
  have hts : ∀ w ∈ zT, w.before #[Value.ref b] s = true := fun w h => hts w (zT_in w h)
  have hbA : ¬ A b := fun q => absurd (hA2 b q) (Nat.not_le.mpr hbl)
  refine lv_aload_n hx hb dL_law_1761 rfl (lv_at hl 2 rfl) ?_
  refine lv_aload_n hx hb dL_law_1762 rfl (lv_at hl 3 rfl) ?_
  refine lv_iload_n hx hb dL_law_1763 rfl (lv_at hl 0 rfl) ?_
  refine lv_iconst (v := 1) hx hb dL_law_1764 (by decide) ?_
  refine lv_iadd hx hb dL_law_1765 ?_
  refine lv_topi (fun x_1 ex_1 => ?_)
  obtain rfl : x_1 = 1 := ex_1.trans (by decide)
  refine va_sld hx hb hX hbl hbA hS (z_inC _ (k := 1) (by decide) (by decide)) dL_law_1766 ?_
  refine lv_aload_n hx hb dL_law_1767 rfl (lv_at hl 3 rfl) ?_
  refine lv_iload_n hx hb dL_law_1768 rfl (lv_at hl 0 rfl) ?_
  refine lv_iconst (v := 2) hx hb dL_law_1769 (by decide) ?_
  refine lv_iadd hx hb dL_law_1770 ?_
  refine lv_topi (fun x_2 ex_2 => ?_)
  obtain rfl : x_2 = 2 := ex_2.trans (by decide)
  refine va_sld hx hb hX hbl hbA hS (z_inC _ (k := 2) (by decide) (by decide)) dL_law_1771 ?_
  refine lv_aload_n hx hb dL_law_1772 rfl (lv_at hl 3 rfl) ?_
  refine lv_iload_n hx hb dL_law_1773 rfl (lv_at hl 0 rfl) ?_
  refine lv_iconst (v := 3) hx hb dL_law_1774 (by decide) ?_
  refine lv_iadd hx hb dL_law_1775 ?_
  refine lv_topi (fun x_3 ex_3 => ?_)
  obtain rfl : x_3 = 3 := ex_3.trans (by decide)
  refine va_sld hx hb hX hbl hbA hS (z_inC _ (k := 3) (by decide) (by decide)) dL_law_1776 ?_
  refine lv_aload_n hx hb dL_law_1777 rfl (lv_at hl 3 rfl) ?_
  refine lv_iload_n hx hb dL_law_1778 rfl (lv_at hl 0 rfl) ?_
  refine lv_iconst (v := 4) hx hb dL_law_1779 (by decide) ?_
  refine lv_iadd hx hb dL_law_1780 ?_
  refine lv_topi (fun x_4 ex_4 => ?_)
  obtain rfl : x_4 = 4 := ex_4.trans (by decide)
  refine va_sld hx hb hX hbl hbA hS (z_inC _ (k := 4) (by decide) (by decide)) dL_law_1781 ?_
  refine lv_if_eq (tgt := 1789) hx hb dL_law_1782 (by decide) (fun c_5 => ?_) (fun c_5 => ?_)
  · have ic_5 := z_eq (k := 0) (by decide) c_5
    refine lv_iconst (v := 0) hx hb dL_law_1789 (by decide) ?_
    have hPc := hP.sub (ws' := [(h0, .inr (9, [.ref tp, .int 0, .int 0, .int (-1), .ref nw, .ref im, .ref sl, .ref rd, .ref wk, .ref fm, .ref mt, .ref ch, .ref dy])), (nw, .inr (3, [.int 0, .ref tn, .int 0, .int 0, .int 0, .int 0])), (tn, .inr (7, [.int 0, .int 0, .int 0, .int 0, .int 0, .int 0, .int 0, .int 0, .ref ta0, .ref ta1, .ref ta2, .ref ta3, .ref ta4, .ref ta5, .ref ta6, .ref ta7, .ref ta8, .ref ta9]))]) [0, 1, 2] rfl
    have hDc := hD.sub (ws' := [(h0, .inr (9, [.ref tp, .int 0, .int 0, .int (-1), .ref nw, .ref im, .ref sl, .ref rd, .ref wk, .ref fm, .ref mt, .ref ch, .ref dy])), (nw, .inr (3, [.int 0, .ref tn, .int 0, .int 0, .int 0, .int 0])), (tn, .inr (7, [.int 0, .int 0, .int 0, .int 0, .int 0, .int 0, .int 0, .int 0, .ref ta0, .ref ta1, .ref ta2, .ref ta3, .ref ta4, .ref ta5, .ref ta6, .ref ta7, .ref ta8, .ref ta9]))]) [0, 1, 2] (by decide) rfl
    have hKc := hK.sub (tys' := []) [] rfl
    have hFc := va_free (wc := [(h0, .inr (9, [.ref tp, .int 0, .int 0, .int (-1), .ref nw, .ref im, .ref sl, .ref rd, .ref wk, .ref fm, .ref mt, .ref ch, .ref dy])), (nw, .inr (3, [.int 0, .ref tn, .int 0, .int 0, .int 0, .int 0])), (tn, .inr (7, [.int 0, .int 0, .int 0, .int 0, .int 0, .int 0, .int 0, .int 0, .ref ta0, .ref ta1, .ref ta2, .ref ta3, .ref ta4, .ref ta5, .ref ta6, .ref ta7, .ref ta8, .ref ta9]))]) hD hS hA [0, 1, 2] rfl
    refine va_calli (va_runV (As := [.int (xs (Int32.toNatClampNeg 1)), .int (xs (Int32.toNatClampNeg 2)), .int (xs (Int32.toNatClampNeg 3)), .int 0]) (rest := []) ⟨hx, hb, hml, hown, hts⟩ (k_X9_hear l dC dI h0 (xs (Int32.toNatClampNeg 1)) (xs (Int32.toNatClampNeg 2)) (xs (Int32.toNatClampNeg 3)) (0) tp nw im sl rd wk fm mt ch dy tn ta0 ta1 ta2 ta3 ta4 ta5 ta6 ta7 ta8 ta9 H.size) (cwV 4 hts (z_gV zw_t5_129 zw_t5_130 zw_t5_131 zw_t1_1 zw_t5_132) rfl rfl rfl (by decide +kernel) ⟨(Nat.le_of_ble_eq_true rfl), (Nat.le_of_ble_eq_true rfl)⟩) (z_preV hPc hKc hDc (ci := 9) (q0 := 0) rfl rfl) rfl rfl hl.1 rfl (lv_room (Nat.le_of_ble_eq_true rfl)) dL_law_1790 ⟨(Nat.le_of_ble_eq_true rfl), (Nat.le_of_ble_eq_true rfl)⟩) hS (fun q _ h => hFc q h) hFc (fun r_6 u t H1 locs ht hvm hw hB hz1 hk1 hS => ?_)
    have hB : zW dC dI [] [] (va_A [(h0, .inr (9, [.ref tp, .int 0, .int 0, .int (-1), .ref nw, .ref im, .ref sl, .ref rd, .ref wk, .ref fm, .ref mt, .ref ch, .ref dy])), (nw, .inr (3, [.int 0, .ref tn, .int 0, .int 0, .int 0, .int 0])), (tn, .inr (7, [.int 0, .int 0, .int 0, .int 0, .int 0, .int 0, .int 0, .int 0, .ref ta0, .ref ta1, .ref ta2, .ref ta3, .ref ta4, .ref ta5, .ref ta6, .ref ta7, .ref ta8, .ref ta9]))] H.size) t := z_none (va_K.moved hvm hK)
    obtain ⟨hP, hD, hK⟩ := z_after [(m0, .inr (10, [.int 0, .ref m_width, .ref m_many, .ref m_cells, .ref m_moved, .ref m_tape, .int 0, .int 0, .int 0, .int 0, .int 0, .long 0, .int 0, .int 0, .int 0, .int (-1), .ref m_lines, .ref m_hours, .ref m_courts, .ref m_in, .ref m_gates, .ref m_gate, .ref m_people, .ref m_at0, .ref m_stray, .ref m_set, .ref m_once, .ref m_truth, .ref m_known, .ref m_isKept, .int 0, .int (-1), .int 0, .int 0, .ref m_inside, .ref m_can, .ref m_fewest, .ref m_waysTo, .ref m_then, .ref m_two, .ref m_nextTwo, .ref m_three, .ref m_nextThree, .int (-1), .ref m_worth, .ref m_digit, .int 0, .long 0, .int 0, .int 0, .int 0, .int 0, .long 0])), (m_people, .inl (cm_people, 5, .inl (fun _ => 0)))] hB ht hvm hP hD hK [0, 1, 2] [3, 4] rfl rfl (by decide) (by decide) hk1 hFc
    generalize H1 = H at hP hS ⊢
    have hP : va_P (dC, dI) vwCl [(m0, .inr (10, [.int 0, .ref m_width, .ref m_many, .ref m_cells, .ref m_moved, .ref m_tape, .int 0, .int 0, .int 0, .int 0, .int 0, .long 0, .int 0, .int 0, .int 0, .int (-1), .ref m_lines, .ref m_hours, .ref m_courts, .ref m_in, .ref m_gates, .ref m_gate, .ref m_people, .ref m_at0, .ref m_stray, .ref m_set, .ref m_once, .ref m_truth, .ref m_known, .ref m_isKept, .int 0, .int (-1), .int 0, .int 0, .ref m_inside, .ref m_can, .ref m_fewest, .ref m_waysTo, .ref m_then, .ref m_two, .ref m_nextTwo, .ref m_three, .ref m_nextThree, .int (-1), .ref m_worth, .ref m_digit, .int 0, .long 0, .int 0, .int 0, .int 0, .int 0, .long 0])), (m_people, .inl (cm_people, 5, .inl (fun _ => 0)))] H := hP
    have hD : va_D A [(m0, .inr (10, [.int 0, .ref m_width, .ref m_many, .ref m_cells, .ref m_moved, .ref m_tape, .int 0, .int 0, .int 0, .int 0, .int 0, .long 0, .int 0, .int 0, .int 0, .int (-1), .ref m_lines, .ref m_hours, .ref m_courts, .ref m_in, .ref m_gates, .ref m_gate, .ref m_people, .ref m_at0, .ref m_stray, .ref m_set, .ref m_once, .ref m_truth, .ref m_known, .ref m_isKept, .int 0, .int (-1), .int 0, .int 0, .ref m_inside, .ref m_can, .ref m_fewest, .ref m_waysTo, .ref m_then, .ref m_two, .ref m_nextTwo, .ref m_three, .ref m_nextThree, .int (-1), .ref m_worth, .ref m_digit, .int 0, .long 0, .int 0, .int 0, .int 0, .int 0, .long 0])), (m_people, .inl (cm_people, 5, .inl (fun _ => 0)))] := hD
    have hK : va_K (dC, dI) vwCl [(cm_people, .int)] s := hK
    obtain rfl : r_6 = (-2) := hw
    refine lv_aload_n hx hb dL_law_1793 rfl (lv_at hl 1 rfl) ?_
    refine lv_aload_n hx hb dL_law_1794 rfl (lv_at hl 3 rfl) ?_
    refine lv_iload_n hx hb dL_law_1795 rfl (lv_at hl 0 rfl) ?_
    refine lv_iconst (v := 1) hx hb dL_law_1796 (by decide) ?_
    refine lv_iadd hx hb dL_law_1797 ?_
    refine lv_topi (fun x_7 ex_7 => ?_)
    obtain rfl : x_7 = 1 := ex_7.trans (by decide)
    refine va_sld hx hb hX hbl hbA hS (z_inC _ (k := 1) (by decide) (by decide)) dL_law_1798 ?_
    refine lv_aload_n hx hb dL_law_1799 rfl (lv_at hl 3 rfl) ?_
    refine lv_iload_n hx hb dL_law_1800 rfl (lv_at hl 0 rfl) ?_
    refine lv_iconst (v := 2) hx hb dL_law_1801 (by decide) ?_
    refine lv_iadd hx hb dL_law_1802 ?_
    refine lv_topi (fun x_8 ex_8 => ?_)
    obtain rfl : x_8 = 2 := ex_8.trans (by decide)
    refine va_sld hx hb hX hbl hbA hS (z_inC _ (k := 2) (by decide) (by decide)) dL_law_1803 ?_
    refine lv_aload_n hx hb dL_law_1804 rfl (lv_at hl 3 rfl) ?_
    refine lv_iload_n hx hb dL_law_1805 rfl (lv_at hl 0 rfl) ?_
    refine lv_iconst (v := 3) hx hb dL_law_1806 (by decide) ?_
    refine lv_iadd hx hb dL_law_1807 ?_
    refine lv_topi (fun x_9 ex_9 => ?_)
    obtain rfl : x_9 = 3 := ex_9.trans (by decide)
    refine va_sld hx hb hX hbl hbA hS (z_inC _ (k := 3) (by decide) (by decide)) dL_law_1808 ?_
    refine lv_aload_n hx hb dL_law_1809 rfl (lv_at hl 3 rfl) ?_
    refine lv_iload_n hx hb dL_law_1810 rfl (lv_at hl 0 rfl) ?_
    refine lv_iconst (v := 4) hx hb dL_law_1811 (by decide) ?_
    refine lv_iadd hx hb dL_law_1812 ?_
    refine lv_topi (fun x_10 ex_10 => ?_)
    obtain rfl : x_10 = 4 := ex_10.trans (by decide)
    refine va_sld hx hb hX hbl hbA hS (z_inC _ (k := 4) (by decide) (by decide)) dL_law_1813 ?_
    refine lv_if_eq (tgt := 1821) hx hb dL_law_1814 (by decide) (fun c_11 => ?_) (fun q => absurd (z_ne (k := 0) (by decide) q) (by omega))
    have ic_11 := z_eq (k := 0) (by decide) c_11
    refine lv_iconst (v := 0) hx hb dL_law_1821 (by decide) ?_
    have hPc := hP.sub (ws' := [(m0, .inr (10, [.int 0, .ref m_width, .ref m_many, .ref m_cells, .ref m_moved, .ref m_tape, .int 0, .int 0, .int 0, .int 0, .int 0, .long 0, .int 0, .int 0, .int 0, .int (-1), .ref m_lines, .ref m_hours, .ref m_courts, .ref m_in, .ref m_gates, .ref m_gate, .ref m_people, .ref m_at0, .ref m_stray, .ref m_set, .ref m_once, .ref m_truth, .ref m_known, .ref m_isKept, .int 0, .int (-1), .int 0, .int 0, .ref m_inside, .ref m_can, .ref m_fewest, .ref m_waysTo, .ref m_then, .ref m_two, .ref m_nextTwo, .ref m_three, .ref m_nextThree, .int (-1), .ref m_worth, .ref m_digit, .int 0, .long 0, .int 0, .int 0, .int 0, .int 0, .long 0])), (m_people, .inl (cm_people, 5, .inl (fun _ => 0)))]) [0, 1] rfl
    have hDc := hD.sub (ws' := [(m0, .inr (10, [.int 0, .ref m_width, .ref m_many, .ref m_cells, .ref m_moved, .ref m_tape, .int 0, .int 0, .int 0, .int 0, .int 0, .long 0, .int 0, .int 0, .int 0, .int (-1), .ref m_lines, .ref m_hours, .ref m_courts, .ref m_in, .ref m_gates, .ref m_gate, .ref m_people, .ref m_at0, .ref m_stray, .ref m_set, .ref m_once, .ref m_truth, .ref m_known, .ref m_isKept, .int 0, .int (-1), .int 0, .int 0, .ref m_inside, .ref m_can, .ref m_fewest, .ref m_waysTo, .ref m_then, .ref m_two, .ref m_nextTwo, .ref m_three, .ref m_nextThree, .int (-1), .ref m_worth, .ref m_digit, .int 0, .long 0, .int 0, .int 0, .int 0, .int 0, .long 0])), (m_people, .inl (cm_people, 5, .inl (fun _ => 0)))]) [0, 1] (by decide) rfl
    have hKc := hK.sub (tys' := [(cm_people, .int)]) [0] rfl
    have hFc := va_free (wc := [(m0, .inr (10, [.int 0, .ref m_width, .ref m_many, .ref m_cells, .ref m_moved, .ref m_tape, .int 0, .int 0, .int 0, .int 0, .int 0, .long 0, .int 0, .int 0, .int 0, .int (-1), .ref m_lines, .ref m_hours, .ref m_courts, .ref m_in, .ref m_gates, .ref m_gate, .ref m_people, .ref m_at0, .ref m_stray, .ref m_set, .ref m_once, .ref m_truth, .ref m_known, .ref m_isKept, .int 0, .int (-1), .int 0, .int 0, .ref m_inside, .ref m_can, .ref m_fewest, .ref m_waysTo, .ref m_then, .ref m_two, .ref m_nextTwo, .ref m_three, .ref m_nextThree, .int (-1), .ref m_worth, .ref m_digit, .int 0, .long 0, .int 0, .int 0, .int 0, .int 0, .long 0])), (m_people, .inl (cm_people, 5, .inl (fun _ => 0)))]) hD hS hA [0, 1] rfl
    refine va_calli (va_runV (As := [.int (xs (Int32.toNatClampNeg 1)), .int (xs (Int32.toNatClampNeg 2)), .int (xs (Int32.toNatClampNeg 3)), .int 0]) (rest := [.int (-2)]) ⟨hx, hb, hml, hown, hts⟩ (k_X10_hear l dC dI m0 (xs (Int32.toNatClampNeg 1)) (xs (Int32.toNatClampNeg 2)) (xs (Int32.toNatClampNeg 3)) (0) m_width m_many m_cells m_moved m_tape m_lines m_hours m_courts m_in m_gates m_gate m_people m_at0 m_stray m_set m_once m_truth m_known m_isKept m_inside m_can m_fewest m_waysTo m_then m_two m_nextTwo m_three m_nextThree m_worth m_digit cm_people H.size) (cwV 4 hts (z_gV zw_t8_152 zw_t8_153 zw_t8_154 zw_t1_11 zw_t8_155) rfl rfl rfl (by decide +kernel) ⟨(Nat.le_of_ble_eq_true rfl), (Nat.le_of_ble_eq_true rfl)⟩) (z_preV hPc hKc hDc (ci := 10) (q0 := 0) rfl rfl) rfl rfl hl.1 rfl (lv_room (Nat.le_of_ble_eq_true rfl)) dL_law_1822 ⟨(Nat.le_of_ble_eq_true rfl), (Nat.le_of_ble_eq_true rfl)⟩) hS (fun q _ h => hFc q h) hFc (fun r_12 u t H1 locs ht hvm hw hB hz1 hk1 hS => ?_)
    have hB : zW dC dI [] [] (va_A [(m0, .inr (10, [.int 0, .ref m_width, .ref m_many, .ref m_cells, .ref m_moved, .ref m_tape, .int 0, .int 0, .int 0, .int 0, .int 0, .long 0, .int 0, .int 0, .int 0, .int (-1), .ref m_lines, .ref m_hours, .ref m_courts, .ref m_in, .ref m_gates, .ref m_gate, .ref m_people, .ref m_at0, .ref m_stray, .ref m_set, .ref m_once, .ref m_truth, .ref m_known, .ref m_isKept, .int 0, .int (-1), .int 0, .int 0, .ref m_inside, .ref m_can, .ref m_fewest, .ref m_waysTo, .ref m_then, .ref m_two, .ref m_nextTwo, .ref m_three, .ref m_nextThree, .int (-1), .ref m_worth, .ref m_digit, .int 0, .long 0, .int 0, .int 0, .int 0, .int 0, .long 0])), (m_people, .inl (cm_people, 5, .inl (fun _ => 0)))] H.size) t := z_none (va_K.moved hvm hK)
    obtain ⟨hP, hD, hK⟩ := z_after [] hB ht hvm hP hD hK [0, 1] [] rfl rfl (by decide) (by decide) hk1 hFc
    generalize H1 = H at hP hS ⊢
    have hP : va_P (dC, dI) vwCl [] H := hP
    have hD : va_D A [] := hD
    have hK : va_K (dC, dI) vwCl [(cm_people, .int)] s := hK
    obtain rfl : r_12 = (-2) := hw
    refine lv_icmp_eq (tgt := 2651) hx hb dL_law_1825 (by decide) (fun _ => ?_) (fun q => absurd q (by decide))
    exact law_tail C0 hA2 (Nat.le_of_ble_eq_true rfl) (Nat.le_of_ble_eq_true rfl) hS (lv_sub hl [0, 3] rfl)
  · have ic_5 := z_ne (k := 0) (by decide) c_5
    refine lv_iconst (v := 1) hx hb dL_law_1785 (by decide) ?_
    refine lv_goto (tgt := 1790) hx hb dL_law_1786 (by decide) ?_
    have hPc := hP.sub (ws' := [(h0, .inr (9, [.ref tp, .int 0, .int 0, .int (-1), .ref nw, .ref im, .ref sl, .ref rd, .ref wk, .ref fm, .ref mt, .ref ch, .ref dy])), (nw, .inr (3, [.int 0, .ref tn, .int 0, .int 0, .int 0, .int 0])), (tn, .inr (7, [.int 0, .int 0, .int 0, .int 0, .int 0, .int 0, .int 0, .int 0, .ref ta0, .ref ta1, .ref ta2, .ref ta3, .ref ta4, .ref ta5, .ref ta6, .ref ta7, .ref ta8, .ref ta9]))]) [0, 1, 2] rfl
    have hDc := hD.sub (ws' := [(h0, .inr (9, [.ref tp, .int 0, .int 0, .int (-1), .ref nw, .ref im, .ref sl, .ref rd, .ref wk, .ref fm, .ref mt, .ref ch, .ref dy])), (nw, .inr (3, [.int 0, .ref tn, .int 0, .int 0, .int 0, .int 0])), (tn, .inr (7, [.int 0, .int 0, .int 0, .int 0, .int 0, .int 0, .int 0, .int 0, .ref ta0, .ref ta1, .ref ta2, .ref ta3, .ref ta4, .ref ta5, .ref ta6, .ref ta7, .ref ta8, .ref ta9]))]) [0, 1, 2] (by decide) rfl
    have hKc := hK.sub (tys' := []) [] rfl
    have hFc := va_free (wc := [(h0, .inr (9, [.ref tp, .int 0, .int 0, .int (-1), .ref nw, .ref im, .ref sl, .ref rd, .ref wk, .ref fm, .ref mt, .ref ch, .ref dy])), (nw, .inr (3, [.int 0, .ref tn, .int 0, .int 0, .int 0, .int 0])), (tn, .inr (7, [.int 0, .int 0, .int 0, .int 0, .int 0, .int 0, .int 0, .int 0, .ref ta0, .ref ta1, .ref ta2, .ref ta3, .ref ta4, .ref ta5, .ref ta6, .ref ta7, .ref ta8, .ref ta9]))]) hD hS hA [0, 1, 2] rfl
    refine va_calli (va_runV (As := [.int (xs (Int32.toNatClampNeg 1)), .int (xs (Int32.toNatClampNeg 2)), .int (xs (Int32.toNatClampNeg 3)), .int 1]) (rest := []) ⟨hx, hb, hml, hown, hts⟩ (k_X9_hear l dC dI h0 (xs (Int32.toNatClampNeg 1)) (xs (Int32.toNatClampNeg 2)) (xs (Int32.toNatClampNeg 3)) (1) tp nw im sl rd wk fm mt ch dy tn ta0 ta1 ta2 ta3 ta4 ta5 ta6 ta7 ta8 ta9 H.size) (cwV 4 hts (z_gV zw_t5_129 zw_t5_130 zw_t5_131 zw_t1_1 zw_t5_132) rfl rfl rfl (by decide +kernel) ⟨(Nat.le_of_ble_eq_true rfl), (Nat.le_of_ble_eq_true rfl)⟩) (z_preV hPc hKc hDc (ci := 9) (q0 := 0) rfl rfl) rfl rfl hl.1 rfl (lv_room (Nat.le_of_ble_eq_true rfl)) dL_law_1790 ⟨(Nat.le_of_ble_eq_true rfl), (Nat.le_of_ble_eq_true rfl)⟩) hS (fun q _ h => hFc q h) hFc (fun r_13 u t H1 locs ht hvm hw hB hz1 hk1 hS => ?_)
    have hB : zW dC dI [] [] (va_A [(h0, .inr (9, [.ref tp, .int 0, .int 0, .int (-1), .ref nw, .ref im, .ref sl, .ref rd, .ref wk, .ref fm, .ref mt, .ref ch, .ref dy])), (nw, .inr (3, [.int 0, .ref tn, .int 0, .int 0, .int 0, .int 0])), (tn, .inr (7, [.int 0, .int 0, .int 0, .int 0, .int 0, .int 0, .int 0, .int 0, .ref ta0, .ref ta1, .ref ta2, .ref ta3, .ref ta4, .ref ta5, .ref ta6, .ref ta7, .ref ta8, .ref ta9]))] H.size) t := z_none (va_K.moved hvm hK)
    obtain ⟨hP, hD, hK⟩ := z_after [(m0, .inr (10, [.int 0, .ref m_width, .ref m_many, .ref m_cells, .ref m_moved, .ref m_tape, .int 0, .int 0, .int 0, .int 0, .int 0, .long 0, .int 0, .int 0, .int 0, .int (-1), .ref m_lines, .ref m_hours, .ref m_courts, .ref m_in, .ref m_gates, .ref m_gate, .ref m_people, .ref m_at0, .ref m_stray, .ref m_set, .ref m_once, .ref m_truth, .ref m_known, .ref m_isKept, .int 0, .int (-1), .int 0, .int 0, .ref m_inside, .ref m_can, .ref m_fewest, .ref m_waysTo, .ref m_then, .ref m_two, .ref m_nextTwo, .ref m_three, .ref m_nextThree, .int (-1), .ref m_worth, .ref m_digit, .int 0, .long 0, .int 0, .int 0, .int 0, .int 0, .long 0])), (m_people, .inl (cm_people, 5, .inl (fun _ => 0)))] hB ht hvm hP hD hK [0, 1, 2] [3, 4] rfl rfl (by decide) (by decide) hk1 hFc
    generalize H1 = H at hP hS ⊢
    have hP : va_P (dC, dI) vwCl [(m0, .inr (10, [.int 0, .ref m_width, .ref m_many, .ref m_cells, .ref m_moved, .ref m_tape, .int 0, .int 0, .int 0, .int 0, .int 0, .long 0, .int 0, .int 0, .int 0, .int (-1), .ref m_lines, .ref m_hours, .ref m_courts, .ref m_in, .ref m_gates, .ref m_gate, .ref m_people, .ref m_at0, .ref m_stray, .ref m_set, .ref m_once, .ref m_truth, .ref m_known, .ref m_isKept, .int 0, .int (-1), .int 0, .int 0, .ref m_inside, .ref m_can, .ref m_fewest, .ref m_waysTo, .ref m_then, .ref m_two, .ref m_nextTwo, .ref m_three, .ref m_nextThree, .int (-1), .ref m_worth, .ref m_digit, .int 0, .long 0, .int 0, .int 0, .int 0, .int 0, .long 0])), (m_people, .inl (cm_people, 5, .inl (fun _ => 0)))] H := hP
    have hD : va_D A [(m0, .inr (10, [.int 0, .ref m_width, .ref m_many, .ref m_cells, .ref m_moved, .ref m_tape, .int 0, .int 0, .int 0, .int 0, .int 0, .long 0, .int 0, .int 0, .int 0, .int (-1), .ref m_lines, .ref m_hours, .ref m_courts, .ref m_in, .ref m_gates, .ref m_gate, .ref m_people, .ref m_at0, .ref m_stray, .ref m_set, .ref m_once, .ref m_truth, .ref m_known, .ref m_isKept, .int 0, .int (-1), .int 0, .int 0, .ref m_inside, .ref m_can, .ref m_fewest, .ref m_waysTo, .ref m_then, .ref m_two, .ref m_nextTwo, .ref m_three, .ref m_nextThree, .int (-1), .ref m_worth, .ref m_digit, .int 0, .long 0, .int 0, .int 0, .int 0, .int 0, .long 0])), (m_people, .inl (cm_people, 5, .inl (fun _ => 0)))] := hD
    have hK : va_K (dC, dI) vwCl [(cm_people, .int)] s := hK
    obtain rfl : r_13 = (-2) := hw
    refine lv_aload_n hx hb dL_law_1793 rfl (lv_at hl 1 rfl) ?_
    refine lv_aload_n hx hb dL_law_1794 rfl (lv_at hl 3 rfl) ?_
    refine lv_iload_n hx hb dL_law_1795 rfl (lv_at hl 0 rfl) ?_
    refine lv_iconst (v := 1) hx hb dL_law_1796 (by decide) ?_
    refine lv_iadd hx hb dL_law_1797 ?_
    refine lv_topi (fun x_14 ex_14 => ?_)
    obtain rfl : x_14 = 1 := ex_14.trans (by decide)
    refine va_sld hx hb hX hbl hbA hS (z_inC _ (k := 1) (by decide) (by decide)) dL_law_1798 ?_
    refine lv_aload_n hx hb dL_law_1799 rfl (lv_at hl 3 rfl) ?_
    refine lv_iload_n hx hb dL_law_1800 rfl (lv_at hl 0 rfl) ?_
    refine lv_iconst (v := 2) hx hb dL_law_1801 (by decide) ?_
    refine lv_iadd hx hb dL_law_1802 ?_
    refine lv_topi (fun x_15 ex_15 => ?_)
    obtain rfl : x_15 = 2 := ex_15.trans (by decide)
    refine va_sld hx hb hX hbl hbA hS (z_inC _ (k := 2) (by decide) (by decide)) dL_law_1803 ?_
    refine lv_aload_n hx hb dL_law_1804 rfl (lv_at hl 3 rfl) ?_
    refine lv_iload_n hx hb dL_law_1805 rfl (lv_at hl 0 rfl) ?_
    refine lv_iconst (v := 3) hx hb dL_law_1806 (by decide) ?_
    refine lv_iadd hx hb dL_law_1807 ?_
    refine lv_topi (fun x_16 ex_16 => ?_)
    obtain rfl : x_16 = 3 := ex_16.trans (by decide)
    refine va_sld hx hb hX hbl hbA hS (z_inC _ (k := 3) (by decide) (by decide)) dL_law_1808 ?_
    refine lv_aload_n hx hb dL_law_1809 rfl (lv_at hl 3 rfl) ?_
    refine lv_iload_n hx hb dL_law_1810 rfl (lv_at hl 0 rfl) ?_
    refine lv_iconst (v := 4) hx hb dL_law_1811 (by decide) ?_
    refine lv_iadd hx hb dL_law_1812 ?_
    refine lv_topi (fun x_17 ex_17 => ?_)
    obtain rfl : x_17 = 4 := ex_17.trans (by decide)
    refine va_sld hx hb hX hbl hbA hS (z_inC _ (k := 4) (by decide) (by decide)) dL_law_1813 ?_
    refine lv_if_eq (tgt := 1821) hx hb dL_law_1814 (by decide) (fun c_18 => ?_) (fun c_18 => ?_)
    · have ic_18 := z_eq (k := 0) (by decide) c_18
      refine lv_iconst (v := 0) hx hb dL_law_1821 (by decide) ?_
      have hPc := hP.sub (ws' := [(m0, .inr (10, [.int 0, .ref m_width, .ref m_many, .ref m_cells, .ref m_moved, .ref m_tape, .int 0, .int 0, .int 0, .int 0, .int 0, .long 0, .int 0, .int 0, .int 0, .int (-1), .ref m_lines, .ref m_hours, .ref m_courts, .ref m_in, .ref m_gates, .ref m_gate, .ref m_people, .ref m_at0, .ref m_stray, .ref m_set, .ref m_once, .ref m_truth, .ref m_known, .ref m_isKept, .int 0, .int (-1), .int 0, .int 0, .ref m_inside, .ref m_can, .ref m_fewest, .ref m_waysTo, .ref m_then, .ref m_two, .ref m_nextTwo, .ref m_three, .ref m_nextThree, .int (-1), .ref m_worth, .ref m_digit, .int 0, .long 0, .int 0, .int 0, .int 0, .int 0, .long 0])), (m_people, .inl (cm_people, 5, .inl (fun _ => 0)))]) [0, 1] rfl
      have hDc := hD.sub (ws' := [(m0, .inr (10, [.int 0, .ref m_width, .ref m_many, .ref m_cells, .ref m_moved, .ref m_tape, .int 0, .int 0, .int 0, .int 0, .int 0, .long 0, .int 0, .int 0, .int 0, .int (-1), .ref m_lines, .ref m_hours, .ref m_courts, .ref m_in, .ref m_gates, .ref m_gate, .ref m_people, .ref m_at0, .ref m_stray, .ref m_set, .ref m_once, .ref m_truth, .ref m_known, .ref m_isKept, .int 0, .int (-1), .int 0, .int 0, .ref m_inside, .ref m_can, .ref m_fewest, .ref m_waysTo, .ref m_then, .ref m_two, .ref m_nextTwo, .ref m_three, .ref m_nextThree, .int (-1), .ref m_worth, .ref m_digit, .int 0, .long 0, .int 0, .int 0, .int 0, .int 0, .long 0])), (m_people, .inl (cm_people, 5, .inl (fun _ => 0)))]) [0, 1] (by decide) rfl
      have hKc := hK.sub (tys' := [(cm_people, .int)]) [0] rfl
      have hFc := va_free (wc := [(m0, .inr (10, [.int 0, .ref m_width, .ref m_many, .ref m_cells, .ref m_moved, .ref m_tape, .int 0, .int 0, .int 0, .int 0, .int 0, .long 0, .int 0, .int 0, .int 0, .int (-1), .ref m_lines, .ref m_hours, .ref m_courts, .ref m_in, .ref m_gates, .ref m_gate, .ref m_people, .ref m_at0, .ref m_stray, .ref m_set, .ref m_once, .ref m_truth, .ref m_known, .ref m_isKept, .int 0, .int (-1), .int 0, .int 0, .ref m_inside, .ref m_can, .ref m_fewest, .ref m_waysTo, .ref m_then, .ref m_two, .ref m_nextTwo, .ref m_three, .ref m_nextThree, .int (-1), .ref m_worth, .ref m_digit, .int 0, .long 0, .int 0, .int 0, .int 0, .int 0, .long 0])), (m_people, .inl (cm_people, 5, .inl (fun _ => 0)))]) hD hS hA [0, 1] rfl
      refine va_calli (va_runV (As := [.int (xs (Int32.toNatClampNeg 1)), .int (xs (Int32.toNatClampNeg 2)), .int (xs (Int32.toNatClampNeg 3)), .int 0]) (rest := [.int (-2)]) ⟨hx, hb, hml, hown, hts⟩ (k_X10_hear l dC dI m0 (xs (Int32.toNatClampNeg 1)) (xs (Int32.toNatClampNeg 2)) (xs (Int32.toNatClampNeg 3)) (0) m_width m_many m_cells m_moved m_tape m_lines m_hours m_courts m_in m_gates m_gate m_people m_at0 m_stray m_set m_once m_truth m_known m_isKept m_inside m_can m_fewest m_waysTo m_then m_two m_nextTwo m_three m_nextThree m_worth m_digit cm_people H.size) (cwV 4 hts (z_gV zw_t8_152 zw_t8_153 zw_t8_154 zw_t1_11 zw_t8_155) rfl rfl rfl (by decide +kernel) ⟨(Nat.le_of_ble_eq_true rfl), (Nat.le_of_ble_eq_true rfl)⟩) (z_preV hPc hKc hDc (ci := 10) (q0 := 0) rfl rfl) rfl rfl hl.1 rfl (lv_room (Nat.le_of_ble_eq_true rfl)) dL_law_1822 ⟨(Nat.le_of_ble_eq_true rfl), (Nat.le_of_ble_eq_true rfl)⟩) hS (fun q _ h => hFc q h) hFc (fun r_19 u t H1 locs ht hvm hw hB hz1 hk1 hS => ?_)
      have hB : zW dC dI [] [] (va_A [(m0, .inr (10, [.int 0, .ref m_width, .ref m_many, .ref m_cells, .ref m_moved, .ref m_tape, .int 0, .int 0, .int 0, .int 0, .int 0, .long 0, .int 0, .int 0, .int 0, .int (-1), .ref m_lines, .ref m_hours, .ref m_courts, .ref m_in, .ref m_gates, .ref m_gate, .ref m_people, .ref m_at0, .ref m_stray, .ref m_set, .ref m_once, .ref m_truth, .ref m_known, .ref m_isKept, .int 0, .int (-1), .int 0, .int 0, .ref m_inside, .ref m_can, .ref m_fewest, .ref m_waysTo, .ref m_then, .ref m_two, .ref m_nextTwo, .ref m_three, .ref m_nextThree, .int (-1), .ref m_worth, .ref m_digit, .int 0, .long 0, .int 0, .int 0, .int 0, .int 0, .long 0])), (m_people, .inl (cm_people, 5, .inl (fun _ => 0)))] H.size) t := z_none (va_K.moved hvm hK)
      obtain ⟨hP, hD, hK⟩ := z_after [] hB ht hvm hP hD hK [0, 1] [] rfl rfl (by decide) (by decide) hk1 hFc
      generalize H1 = H at hP hS ⊢
      have hP : va_P (dC, dI) vwCl [] H := hP
      have hD : va_D A [] := hD
      have hK : va_K (dC, dI) vwCl [(cm_people, .int)] s := hK
      obtain rfl : r_19 = (-2) := hw
      refine lv_icmp_eq (tgt := 2651) hx hb dL_law_1825 (by decide) (fun _ => ?_) (fun q => absurd q (by decide))
      exact law_tail C0 hA2 (Nat.le_of_ble_eq_true rfl) (Nat.le_of_ble_eq_true rfl) hS (lv_sub hl [0, 3] rfl)
    · have ic_18 := z_ne (k := 0) (by decide) c_18
      refine lv_iconst (v := 1) hx hb dL_law_1817 (by decide) ?_
      refine lv_goto (tgt := 1822) hx hb dL_law_1818 (by decide) ?_
      have hPc := hP.sub (ws' := [(m0, .inr (10, [.int 0, .ref m_width, .ref m_many, .ref m_cells, .ref m_moved, .ref m_tape, .int 0, .int 0, .int 0, .int 0, .int 0, .long 0, .int 0, .int 0, .int 0, .int (-1), .ref m_lines, .ref m_hours, .ref m_courts, .ref m_in, .ref m_gates, .ref m_gate, .ref m_people, .ref m_at0, .ref m_stray, .ref m_set, .ref m_once, .ref m_truth, .ref m_known, .ref m_isKept, .int 0, .int (-1), .int 0, .int 0, .ref m_inside, .ref m_can, .ref m_fewest, .ref m_waysTo, .ref m_then, .ref m_two, .ref m_nextTwo, .ref m_three, .ref m_nextThree, .int (-1), .ref m_worth, .ref m_digit, .int 0, .long 0, .int 0, .int 0, .int 0, .int 0, .long 0])), (m_people, .inl (cm_people, 5, .inl (fun _ => 0)))]) [0, 1] rfl
      have hDc := hD.sub (ws' := [(m0, .inr (10, [.int 0, .ref m_width, .ref m_many, .ref m_cells, .ref m_moved, .ref m_tape, .int 0, .int 0, .int 0, .int 0, .int 0, .long 0, .int 0, .int 0, .int 0, .int (-1), .ref m_lines, .ref m_hours, .ref m_courts, .ref m_in, .ref m_gates, .ref m_gate, .ref m_people, .ref m_at0, .ref m_stray, .ref m_set, .ref m_once, .ref m_truth, .ref m_known, .ref m_isKept, .int 0, .int (-1), .int 0, .int 0, .ref m_inside, .ref m_can, .ref m_fewest, .ref m_waysTo, .ref m_then, .ref m_two, .ref m_nextTwo, .ref m_three, .ref m_nextThree, .int (-1), .ref m_worth, .ref m_digit, .int 0, .long 0, .int 0, .int 0, .int 0, .int 0, .long 0])), (m_people, .inl (cm_people, 5, .inl (fun _ => 0)))]) [0, 1] (by decide) rfl
      have hKc := hK.sub (tys' := [(cm_people, .int)]) [0] rfl
      have hFc := va_free (wc := [(m0, .inr (10, [.int 0, .ref m_width, .ref m_many, .ref m_cells, .ref m_moved, .ref m_tape, .int 0, .int 0, .int 0, .int 0, .int 0, .long 0, .int 0, .int 0, .int 0, .int (-1), .ref m_lines, .ref m_hours, .ref m_courts, .ref m_in, .ref m_gates, .ref m_gate, .ref m_people, .ref m_at0, .ref m_stray, .ref m_set, .ref m_once, .ref m_truth, .ref m_known, .ref m_isKept, .int 0, .int (-1), .int 0, .int 0, .ref m_inside, .ref m_can, .ref m_fewest, .ref m_waysTo, .ref m_then, .ref m_two, .ref m_nextTwo, .ref m_three, .ref m_nextThree, .int (-1), .ref m_worth, .ref m_digit, .int 0, .long 0, .int 0, .int 0, .int 0, .int 0, .long 0])), (m_people, .inl (cm_people, 5, .inl (fun _ => 0)))]) hD hS hA [0, 1] rfl
      refine va_calli (va_runV (As := [.int (xs (Int32.toNatClampNeg 1)), .int (xs (Int32.toNatClampNeg 2)), .int (xs (Int32.toNatClampNeg 3)), .int 1]) (rest := [.int (-2)]) ⟨hx, hb, hml, hown, hts⟩ (k_X10_hear l dC dI m0 (xs (Int32.toNatClampNeg 1)) (xs (Int32.toNatClampNeg 2)) (xs (Int32.toNatClampNeg 3)) (1) m_width m_many m_cells m_moved m_tape m_lines m_hours m_courts m_in m_gates m_gate m_people m_at0 m_stray m_set m_once m_truth m_known m_isKept m_inside m_can m_fewest m_waysTo m_then m_two m_nextTwo m_three m_nextThree m_worth m_digit cm_people H.size) (cwV 4 hts (z_gV zw_t8_152 zw_t8_153 zw_t8_154 zw_t1_11 zw_t8_155) rfl rfl rfl (by decide +kernel) ⟨(Nat.le_of_ble_eq_true rfl), (Nat.le_of_ble_eq_true rfl)⟩) (z_preV hPc hKc hDc (ci := 10) (q0 := 0) rfl rfl) rfl rfl hl.1 rfl (lv_room (Nat.le_of_ble_eq_true rfl)) dL_law_1822 ⟨(Nat.le_of_ble_eq_true rfl), (Nat.le_of_ble_eq_true rfl)⟩) hS (fun q _ h => hFc q h) hFc (fun r_20 u t H1 locs ht hvm hw hB hz1 hk1 hS => ?_)
      have hB : zW dC dI [] [] (va_A [(m0, .inr (10, [.int 0, .ref m_width, .ref m_many, .ref m_cells, .ref m_moved, .ref m_tape, .int 0, .int 0, .int 0, .int 0, .int 0, .long 0, .int 0, .int 0, .int 0, .int (-1), .ref m_lines, .ref m_hours, .ref m_courts, .ref m_in, .ref m_gates, .ref m_gate, .ref m_people, .ref m_at0, .ref m_stray, .ref m_set, .ref m_once, .ref m_truth, .ref m_known, .ref m_isKept, .int 0, .int (-1), .int 0, .int 0, .ref m_inside, .ref m_can, .ref m_fewest, .ref m_waysTo, .ref m_then, .ref m_two, .ref m_nextTwo, .ref m_three, .ref m_nextThree, .int (-1), .ref m_worth, .ref m_digit, .int 0, .long 0, .int 0, .int 0, .int 0, .int 0, .long 0])), (m_people, .inl (cm_people, 5, .inl (fun _ => 0)))] H.size) t := z_none (va_K.moved hvm hK)
      obtain ⟨hP, hD, hK⟩ := z_after [] hB ht hvm hP hD hK [0, 1] [] rfl rfl (by decide) (by decide) hk1 hFc
      generalize H1 = H at hP hS ⊢
      have hP : va_P (dC, dI) vwCl [] H := hP
      have hD : va_D A [] := hD
      have hK : va_K (dC, dI) vwCl [(cm_people, .int)] s := hK
      obtain rfl : r_20 = (-2) := hw
      refine lv_icmp_eq (tgt := 2651) hx hb dL_law_1825 (by decide) (fun _ => ?_) (fun q => absurd q (by decide))
      exact law_tail C0 hA2 (Nat.le_of_ble_eq_true rfl) (Nat.le_of_ble_eq_true rfl) hS (lv_sub hl [0, 3] rfl)
set_option maxHeartbeats 4000000 in
set_option maxRecDepth 100000 in
theorem law_forget {p : Program} {e : Env} {s : State} {m : MethodId} {below : List Frame} {meth : Method} {c : Code} {l : Launch} {b : Nat} {xs : Nat → Int32} (C0 : lw_At p s m meth c b 6 xs) {dC : Nat → ClassId} {dI : Nat → Nat → Nat} {A : Nat → Prop} (hA : ∀ q, s.heap.size ≤ q → A q) (hA2 : ∀ q, A q → s.heap.size ≤ q) {h0 : Nat} {tp : Nat} {nw : Nat} {im : Nat} {sl : Nat} {rd : Nat} {wk : Nat} {fm : Nat} {mt : Nat} {ch : Nat} {dy : Nat} {tn : Nat} {m0 : Nat} {m_width : Nat} {m_many : Nat} {m_cells : Nat} {m_moved : Nat} {m_tape : Nat} {m_lines : Nat} {m_hours : Nat} {m_courts : Nat} {m_in : Nat} {m_gates : Nat} {m_gate : Nat} {m_people : Nat} {m_at0 : Nat} {m_stray : Nat} {m_set : Nat} {m_once : Nat} {m_truth : Nat} {m_known : Nat} {m_isKept : Nat} {m_inside : Nat} {m_can : Nat} {m_fewest : Nat} {m_waysTo : Nat} {m_then : Nat} {m_two : Nat} {m_nextTwo : Nat} {m_three : Nat} {m_nextThree : Nat} {m_worth : Nat} {m_digit : Nat} {cm_people : ClassId} {cm_known : ClassId}  {H : Heap} {locs : List Loc} {ls : Array Slot} (hP : va_P (dC, dI) vwCl [(h0, .inr (9, [.ref tp, .int 0, .int 0, .int (-1), .ref nw, .ref im, .ref sl, .ref rd, .ref wk, .ref fm, .ref mt, .ref ch, .ref dy])), (nw, .inr (3, [.int 0, .ref tn, .int 0, .int 0, .int 0, .int 0])), (m0, .inr (10, [.int 0, .ref m_width, .ref m_many, .ref m_cells, .ref m_moved, .ref m_tape, .int 0, .int 0, .int 0, .int 0, .int 0, .long 0, .int 0, .int 0, .int 0, .int (-1), .ref m_lines, .ref m_hours, .ref m_courts, .ref m_in, .ref m_gates, .ref m_gate, .ref m_people, .ref m_at0, .ref m_stray, .ref m_set, .ref m_once, .ref m_truth, .ref m_known, .ref m_isKept, .int 0, .int (-1), .int 0, .int 0, .ref m_inside, .ref m_can, .ref m_fewest, .ref m_waysTo, .ref m_then, .ref m_two, .ref m_nextTwo, .ref m_three, .ref m_nextThree, .int (-1), .ref m_worth, .ref m_digit, .int 0, .long 0, .int 0, .int 0, .int 0, .int 0, .long 0])), (m_people, .inl (cm_people, 5, .inl (fun _ => 0))), (m_known, .inl (cm_known, 50, .inl (fun _ => 0)))] H) (hD : va_D A [(h0, .inr (9, [.ref tp, .int 0, .int 0, .int (-1), .ref nw, .ref im, .ref sl, .ref rd, .ref wk, .ref fm, .ref mt, .ref ch, .ref dy])), (nw, .inr (3, [.int 0, .ref tn, .int 0, .int 0, .int 0, .int 0])), (m0, .inr (10, [.int 0, .ref m_width, .ref m_many, .ref m_cells, .ref m_moved, .ref m_tape, .int 0, .int 0, .int 0, .int 0, .int 0, .long 0, .int 0, .int 0, .int 0, .int (-1), .ref m_lines, .ref m_hours, .ref m_courts, .ref m_in, .ref m_gates, .ref m_gate, .ref m_people, .ref m_at0, .ref m_stray, .ref m_set, .ref m_once, .ref m_truth, .ref m_known, .ref m_isKept, .int 0, .int (-1), .int 0, .int 0, .ref m_inside, .ref m_can, .ref m_fewest, .ref m_waysTo, .ref m_then, .ref m_two, .ref m_nextTwo, .ref m_three, .ref m_nextThree, .int (-1), .ref m_worth, .ref m_digit, .int 0, .long 0, .int 0, .int 0, .int 0, .int 0, .long 0])), (m_people, .inl (cm_people, 5, .inl (fun _ => 0))), (m_known, .inl (cm_known, 50, .inl (fun _ => 0)))]) (hK : va_K (dC, dI) vwCl [(cm_people, .int), (cm_known, .int)] s) (hS : va_S A s.heap H locs) (hl : lv_has ls 4 [(3, .int 0), (2, .ref m0), (1, .ref h0), (0, .ref b)]) : W p l e room_1 s m #[Value.ref b] below meth c H locs 166 101284 (lw_Z below #[Value.ref b] s) (F0 m 1830 ls []) := by
  obtain ⟨hx, hb, hr, hml, hown, hts, hX, hbl, hlocks, hgv⟩ := id C0
  have hown : s.vm.findClass RL = some m.cls := hown
  have hb : c.code = cL_law := hb
  have hts : ∀ w ∈ zT, w.before #[Value.ref b] s = true := fun w h => hts w (zT_in w h)
  have hbA : ¬ A b := fun q => absurd (hA2 b q) (Nat.not_le.mpr hbl)
  refine lv_aload_n hx hb dL_law_1830 rfl (lv_at hl 2 rfl) ?_
  have hPc := hP.sub (ws' := [(h0, .inr (9, [.ref tp, .int 0, .int 0, .int (-1), .ref nw, .ref im, .ref sl, .ref rd, .ref wk, .ref fm, .ref mt, .ref ch, .ref dy])), (nw, .inr (3, [.int 0, .ref tn, .int 0, .int 0, .int 0, .int 0]))]) [0, 1] rfl
  have hDc := hD.sub (ws' := [(h0, .inr (9, [.ref tp, .int 0, .int 0, .int (-1), .ref nw, .ref im, .ref sl, .ref rd, .ref wk, .ref fm, .ref mt, .ref ch, .ref dy])), (nw, .inr (3, [.int 0, .ref tn, .int 0, .int 0, .int 0, .int 0]))]) [0, 1] (by decide) rfl
  have hKc := hK.sub (tys' := []) [] rfl
  have hFc := va_free (wc := [(h0, .inr (9, [.ref tp, .int 0, .int 0, .int (-1), .ref nw, .ref im, .ref sl, .ref rd, .ref wk, .ref fm, .ref mt, .ref ch, .ref dy])), (nw, .inr (3, [.int 0, .ref tn, .int 0, .int 0, .int 0, .int 0]))]) hD hS hA [0, 1] rfl
  refine va_calli (va_runV (As := []) (rest := []) ⟨hx, hb, hml, hown, hts⟩ (k_X9_forget l dC dI h0 tp nw im sl rd wk fm mt ch dy tn H.size) (cwV 0 hts (z_gV zw_t5_134 zw_t5_135 zw_t5_136 zw_t1_1 zw_t5_137) rfl rfl rfl (by decide +kernel) ⟨(Nat.le_of_ble_eq_true rfl), (Nat.le_of_ble_eq_true rfl)⟩) (z_preV hPc hKc hDc (ci := 9) (q0 := 0) rfl rfl) rfl rfl hl.1 rfl (lv_room (Nat.le_of_ble_eq_true rfl)) dL_law_1831 ⟨(Nat.le_of_ble_eq_true rfl), (Nat.le_of_ble_eq_true rfl)⟩) hS (fun q _ h => hFc q h) hFc (fun r_1 u t H1 locs ht hvm hw hB hz1 hk1 hS => ?_)
  have hB : zW dC dI [] [] (va_A [(h0, .inr (9, [.ref tp, .int 0, .int 0, .int (-1), .ref nw, .ref im, .ref sl, .ref rd, .ref wk, .ref fm, .ref mt, .ref ch, .ref dy])), (nw, .inr (3, [.int 0, .ref tn, .int 0, .int 0, .int 0, .int 0]))] H.size) t := z_none (va_K.moved hvm hK)
  obtain ⟨hP, hD, hK⟩ := z_after [(m0, .inr (10, [.int 0, .ref m_width, .ref m_many, .ref m_cells, .ref m_moved, .ref m_tape, .int 0, .int 0, .int 0, .int 0, .int 0, .long 0, .int 0, .int 0, .int 0, .int (-1), .ref m_lines, .ref m_hours, .ref m_courts, .ref m_in, .ref m_gates, .ref m_gate, .ref m_people, .ref m_at0, .ref m_stray, .ref m_set, .ref m_once, .ref m_truth, .ref m_known, .ref m_isKept, .int 0, .int (-1), .int 0, .int 0, .ref m_inside, .ref m_can, .ref m_fewest, .ref m_waysTo, .ref m_then, .ref m_two, .ref m_nextTwo, .ref m_three, .ref m_nextThree, .int (-1), .ref m_worth, .ref m_digit, .int 0, .long 0, .int 0, .int 0, .int 0, .int 0, .long 0])), (m_people, .inl (cm_people, 5, .inl (fun _ => 0))), (m_known, .inl (cm_known, 50, .inl (fun _ => 0)))] hB ht hvm hP hD hK [0, 1] [2, 3, 4] rfl rfl (by decide) (by decide) hk1 hFc
  generalize H1 = H at hP hS ⊢
  have hP : va_P (dC, dI) vwCl [(m0, .inr (10, [.int 0, .ref m_width, .ref m_many, .ref m_cells, .ref m_moved, .ref m_tape, .int 0, .int 0, .int 0, .int 0, .int 0, .long 0, .int 0, .int 0, .int 0, .int (-1), .ref m_lines, .ref m_hours, .ref m_courts, .ref m_in, .ref m_gates, .ref m_gate, .ref m_people, .ref m_at0, .ref m_stray, .ref m_set, .ref m_once, .ref m_truth, .ref m_known, .ref m_isKept, .int 0, .int (-1), .int 0, .int 0, .ref m_inside, .ref m_can, .ref m_fewest, .ref m_waysTo, .ref m_then, .ref m_two, .ref m_nextTwo, .ref m_three, .ref m_nextThree, .int (-1), .ref m_worth, .ref m_digit, .int 0, .long 0, .int 0, .int 0, .int 0, .int 0, .long 0])), (m_people, .inl (cm_people, 5, .inl (fun _ => 0))), (m_known, .inl (cm_known, 50, .inl (fun _ => 0)))] H := hP
  have hD : va_D A [(m0, .inr (10, [.int 0, .ref m_width, .ref m_many, .ref m_cells, .ref m_moved, .ref m_tape, .int 0, .int 0, .int 0, .int 0, .int 0, .long 0, .int 0, .int 0, .int 0, .int (-1), .ref m_lines, .ref m_hours, .ref m_courts, .ref m_in, .ref m_gates, .ref m_gate, .ref m_people, .ref m_at0, .ref m_stray, .ref m_set, .ref m_once, .ref m_truth, .ref m_known, .ref m_isKept, .int 0, .int (-1), .int 0, .int 0, .ref m_inside, .ref m_can, .ref m_fewest, .ref m_waysTo, .ref m_then, .ref m_two, .ref m_nextTwo, .ref m_three, .ref m_nextThree, .int (-1), .ref m_worth, .ref m_digit, .int 0, .long 0, .int 0, .int 0, .int 0, .int 0, .long 0])), (m_people, .inl (cm_people, 5, .inl (fun _ => 0))), (m_known, .inl (cm_known, 50, .inl (fun _ => 0)))] := hD
  have hK : va_K (dC, dI) vwCl [(cm_people, .int), (cm_known, .int)] s := hK
  obtain rfl : r_1 = 0 := hw
  refine lv_aload_n hx hb dL_law_1834 rfl (lv_at hl 1 rfl) ?_
  have hPc := hP.sub (ws' := [(m0, .inr (10, [.int 0, .ref m_width, .ref m_many, .ref m_cells, .ref m_moved, .ref m_tape, .int 0, .int 0, .int 0, .int 0, .int 0, .long 0, .int 0, .int 0, .int 0, .int (-1), .ref m_lines, .ref m_hours, .ref m_courts, .ref m_in, .ref m_gates, .ref m_gate, .ref m_people, .ref m_at0, .ref m_stray, .ref m_set, .ref m_once, .ref m_truth, .ref m_known, .ref m_isKept, .int 0, .int (-1), .int 0, .int 0, .ref m_inside, .ref m_can, .ref m_fewest, .ref m_waysTo, .ref m_then, .ref m_two, .ref m_nextTwo, .ref m_three, .ref m_nextThree, .int (-1), .ref m_worth, .ref m_digit, .int 0, .long 0, .int 0, .int 0, .int 0, .int 0, .long 0])), (m_people, .inl (cm_people, 5, .inl (fun _ => 0))), (m_known, .inl (cm_known, 50, .inl (fun _ => 0)))]) [0, 1, 2] rfl
  have hDc := hD.sub (ws' := [(m0, .inr (10, [.int 0, .ref m_width, .ref m_many, .ref m_cells, .ref m_moved, .ref m_tape, .int 0, .int 0, .int 0, .int 0, .int 0, .long 0, .int 0, .int 0, .int 0, .int (-1), .ref m_lines, .ref m_hours, .ref m_courts, .ref m_in, .ref m_gates, .ref m_gate, .ref m_people, .ref m_at0, .ref m_stray, .ref m_set, .ref m_once, .ref m_truth, .ref m_known, .ref m_isKept, .int 0, .int (-1), .int 0, .int 0, .ref m_inside, .ref m_can, .ref m_fewest, .ref m_waysTo, .ref m_then, .ref m_two, .ref m_nextTwo, .ref m_three, .ref m_nextThree, .int (-1), .ref m_worth, .ref m_digit, .int 0, .long 0, .int 0, .int 0, .int 0, .int 0, .long 0])), (m_people, .inl (cm_people, 5, .inl (fun _ => 0))), (m_known, .inl (cm_known, 50, .inl (fun _ => 0)))]) [0, 1, 2] (by decide) rfl
  have hKc := hK.sub (tys' := [(cm_people, .int), (cm_known, .int)]) [0, 1] rfl
  have hFc := va_free (wc := [(m0, .inr (10, [.int 0, .ref m_width, .ref m_many, .ref m_cells, .ref m_moved, .ref m_tape, .int 0, .int 0, .int 0, .int 0, .int 0, .long 0, .int 0, .int 0, .int 0, .int (-1), .ref m_lines, .ref m_hours, .ref m_courts, .ref m_in, .ref m_gates, .ref m_gate, .ref m_people, .ref m_at0, .ref m_stray, .ref m_set, .ref m_once, .ref m_truth, .ref m_known, .ref m_isKept, .int 0, .int (-1), .int 0, .int 0, .ref m_inside, .ref m_can, .ref m_fewest, .ref m_waysTo, .ref m_then, .ref m_two, .ref m_nextTwo, .ref m_three, .ref m_nextThree, .int (-1), .ref m_worth, .ref m_digit, .int 0, .long 0, .int 0, .int 0, .int 0, .int 0, .long 0])), (m_people, .inl (cm_people, 5, .inl (fun _ => 0))), (m_known, .inl (cm_known, 50, .inl (fun _ => 0)))]) hD hS hA [0, 1, 2] rfl
  refine va_calli (va_runV (As := []) (rest := [.int 0]) ⟨hx, hb, hml, hown, hts⟩ (k_X10_forget l dC dI m0 m_width m_many m_cells m_moved m_tape m_lines m_hours m_courts m_in m_gates m_gate m_people m_at0 m_stray m_set m_once m_truth m_known m_isKept m_inside m_can m_fewest m_waysTo m_then m_two m_nextTwo m_three m_nextThree m_worth m_digit cm_people cm_known H.size) (cwV 0 hts (z_gV zw_t8_156 zw_t8_157 zw_t8_158 zw_t1_11 zw_t8_159) rfl rfl rfl (by decide +kernel) ⟨(Nat.le_of_ble_eq_true rfl), (Nat.le_of_ble_eq_true rfl)⟩) (z_preV hPc hKc hDc (ci := 10) (q0 := 0) rfl rfl) rfl rfl hl.1 rfl (lv_room (Nat.le_of_ble_eq_true rfl)) dL_law_1835 ⟨(Nat.le_of_ble_eq_true rfl), (Nat.le_of_ble_eq_true rfl)⟩) hS (fun q _ h => hFc q h) hFc (fun r_2 u t H1 locs ht hvm hw hB hz1 hk1 hS => ?_)
  have hB : zW dC dI [] [] (va_A [(m0, .inr (10, [.int 0, .ref m_width, .ref m_many, .ref m_cells, .ref m_moved, .ref m_tape, .int 0, .int 0, .int 0, .int 0, .int 0, .long 0, .int 0, .int 0, .int 0, .int (-1), .ref m_lines, .ref m_hours, .ref m_courts, .ref m_in, .ref m_gates, .ref m_gate, .ref m_people, .ref m_at0, .ref m_stray, .ref m_set, .ref m_once, .ref m_truth, .ref m_known, .ref m_isKept, .int 0, .int (-1), .int 0, .int 0, .ref m_inside, .ref m_can, .ref m_fewest, .ref m_waysTo, .ref m_then, .ref m_two, .ref m_nextTwo, .ref m_three, .ref m_nextThree, .int (-1), .ref m_worth, .ref m_digit, .int 0, .long 0, .int 0, .int 0, .int 0, .int 0, .long 0])), (m_people, .inl (cm_people, 5, .inl (fun _ => 0))), (m_known, .inl (cm_known, 50, .inl (fun _ => 0)))] H.size) t := z_none (va_K.moved hvm hK)
  obtain ⟨hP, hD, hK⟩ := z_after [] hB ht hvm hP hD hK [0, 1, 2] [] rfl rfl (by decide) (by decide) hk1 hFc
  generalize H1 = H at hP hS ⊢
  have hP : va_P (dC, dI) vwCl [] H := hP
  have hD : va_D A [] := hD
  have hK : va_K (dC, dI) vwCl [(cm_people, .int), (cm_known, .int)] s := hK
  obtain rfl : r_2 = 0 := hw
  refine lv_icmp_eq (tgt := 2651) hx hb dL_law_1838 (by decide) (fun _ => ?_) (fun q => absurd q (by decide))
  exact law_tail C0 hA2 (Nat.le_of_ble_eq_true rfl) (Nat.le_of_ble_eq_true rfl) hS (lv_sub hl [0, 3] rfl)
set_option maxHeartbeats 4000000 in
set_option maxRecDepth 100000 in
theorem law_think {p : Program} {e : Env} {s : State} {m : MethodId} {below : List Frame} {meth : Method} {c : Code} {l : Launch} {b : Nat} {xs : Nat → Int32} (C0 : lw_At p s m meth c b 6 xs) {dC : Nat → ClassId} {dI : Nat → Nat → Nat} {A : Nat → Prop} (hA : ∀ q, s.heap.size ≤ q → A q) (hA2 : ∀ q, A q → s.heap.size ≤ q) {h0 : Nat} {tp : Nat} {nw : Nat} {im : Nat} {sl : Nat} {rd : Nat} {wk : Nat} {fm : Nat} {mt : Nat} {ch : Nat} {dy : Nat} {tn : Nat} {ta0 : Nat} {ta1 : Nat} {ta2 : Nat} {ta3 : Nat} {ta4 : Nat} {ta5 : Nat} {ta6 : Nat} {ta7 : Nat} {ta8 : Nat} {ta9 : Nat} {m0 : Nat} {m_width : Nat} {m_many : Nat} {m_cells : Nat} {m_moved : Nat} {m_tape : Nat} {m_lines : Nat} {m_hours : Nat} {m_courts : Nat} {m_in : Nat} {m_gates : Nat} {m_gate : Nat} {m_people : Nat} {m_at0 : Nat} {m_stray : Nat} {m_set : Nat} {m_once : Nat} {m_truth : Nat} {m_known : Nat} {m_isKept : Nat} {m_inside : Nat} {m_can : Nat} {m_fewest : Nat} {m_waysTo : Nat} {m_then : Nat} {m_two : Nat} {m_nextTwo : Nat} {m_three : Nat} {m_nextThree : Nat} {m_worth : Nat} {m_digit : Nat} {cm_people : ClassId}  {H : Heap} {locs : List Loc} {ls : Array Slot} (hP : va_P (dC, dI) vwCl [(h0, .inr (9, [.ref tp, .int 0, .int 0, .int (-1), .ref nw, .ref im, .ref sl, .ref rd, .ref wk, .ref fm, .ref mt, .ref ch, .ref dy])), (nw, .inr (3, [.int 0, .ref tn, .int 0, .int 0, .int 0, .int 0])), (tn, .inr (7, [.int 0, .int 0, .int 0, .int 0, .int 0, .int 0, .int 0, .int 0, .ref ta0, .ref ta1, .ref ta2, .ref ta3, .ref ta4, .ref ta5, .ref ta6, .ref ta7, .ref ta8, .ref ta9])), (m0, .inr (10, [.int 0, .ref m_width, .ref m_many, .ref m_cells, .ref m_moved, .ref m_tape, .int 0, .int 0, .int 0, .int 0, .int 0, .long 0, .int 0, .int 0, .int 0, .int (-1), .ref m_lines, .ref m_hours, .ref m_courts, .ref m_in, .ref m_gates, .ref m_gate, .ref m_people, .ref m_at0, .ref m_stray, .ref m_set, .ref m_once, .ref m_truth, .ref m_known, .ref m_isKept, .int 0, .int (-1), .int 0, .int 0, .ref m_inside, .ref m_can, .ref m_fewest, .ref m_waysTo, .ref m_then, .ref m_two, .ref m_nextTwo, .ref m_three, .ref m_nextThree, .int (-1), .ref m_worth, .ref m_digit, .int 0, .long 0, .int 0, .int 0, .int 0, .int 0, .long 0])), (m_people, .inl (cm_people, 5, .inl (fun _ => 0)))] H) (hD : va_D A [(h0, .inr (9, [.ref tp, .int 0, .int 0, .int (-1), .ref nw, .ref im, .ref sl, .ref rd, .ref wk, .ref fm, .ref mt, .ref ch, .ref dy])), (nw, .inr (3, [.int 0, .ref tn, .int 0, .int 0, .int 0, .int 0])), (tn, .inr (7, [.int 0, .int 0, .int 0, .int 0, .int 0, .int 0, .int 0, .int 0, .ref ta0, .ref ta1, .ref ta2, .ref ta3, .ref ta4, .ref ta5, .ref ta6, .ref ta7, .ref ta8, .ref ta9])), (m0, .inr (10, [.int 0, .ref m_width, .ref m_many, .ref m_cells, .ref m_moved, .ref m_tape, .int 0, .int 0, .int 0, .int 0, .int 0, .long 0, .int 0, .int 0, .int 0, .int (-1), .ref m_lines, .ref m_hours, .ref m_courts, .ref m_in, .ref m_gates, .ref m_gate, .ref m_people, .ref m_at0, .ref m_stray, .ref m_set, .ref m_once, .ref m_truth, .ref m_known, .ref m_isKept, .int 0, .int (-1), .int 0, .int 0, .ref m_inside, .ref m_can, .ref m_fewest, .ref m_waysTo, .ref m_then, .ref m_two, .ref m_nextTwo, .ref m_three, .ref m_nextThree, .int (-1), .ref m_worth, .ref m_digit, .int 0, .long 0, .int 0, .int 0, .int 0, .int 0, .long 0])), (m_people, .inl (cm_people, 5, .inl (fun _ => 0)))]) (hK : va_K (dC, dI) vwCl [(cm_people, .int)] s) (hS : va_S A s.heap H locs) (hl : lv_has ls 4 [(3, .int 0), (2, .ref m0), (1, .ref h0), (0, .ref b)]) : W p l e room_1 s m #[Value.ref b] below meth c H locs 166 101284 (lw_Z below #[Value.ref b] s) (F0 m 1843 ls []) := by
  obtain ⟨hx, hb, hr, hml, hown, hts, hX, hbl, hlocks, hgv⟩ := id C0
  have hown : s.vm.findClass RL = some m.cls := hown
  have hb : c.code = cL_law := hb
  have hts : ∀ w ∈ zT, w.before #[Value.ref b] s = true := fun w h => hts w (zT_in w h)
  have hbA : ¬ A b := fun q => absurd (hA2 b q) (Nat.not_le.mpr hbl)
  refine lv_aload_n hx hb dL_law_1843 rfl (lv_at hl 2 rfl) ?_
  refine lv_aload_n hx hb dL_law_1844 rfl (lv_at hl 3 rfl) ?_
  refine lv_iload_n hx hb dL_law_1845 rfl (lv_at hl 0 rfl) ?_
  refine lv_iconst (v := 1) hx hb dL_law_1846 (by decide) ?_
  refine lv_iadd hx hb dL_law_1847 ?_
  refine lv_topi (fun x_1 ex_1 => ?_)
  obtain rfl : x_1 = 1 := ex_1.trans (by decide)
  refine va_sld hx hb hX hbl hbA hS (z_inC _ (k := 1) (by decide) (by decide)) dL_law_1848 ?_
  refine lv_aload_n hx hb dL_law_1849 rfl (lv_at hl 3 rfl) ?_
  refine lv_iload_n hx hb dL_law_1850 rfl (lv_at hl 0 rfl) ?_
  refine lv_iconst (v := 2) hx hb dL_law_1851 (by decide) ?_
  refine lv_iadd hx hb dL_law_1852 ?_
  refine lv_topi (fun x_2 ex_2 => ?_)
  obtain rfl : x_2 = 2 := ex_2.trans (by decide)
  refine va_sld hx hb hX hbl hbA hS (z_inC _ (k := 2) (by decide) (by decide)) dL_law_1853 ?_
  refine lv_aload_n hx hb dL_law_1854 rfl (lv_at hl 3 rfl) ?_
  refine lv_iload_n hx hb dL_law_1855 rfl (lv_at hl 0 rfl) ?_
  refine lv_iconst (v := 3) hx hb dL_law_1856 (by decide) ?_
  refine lv_iadd hx hb dL_law_1857 ?_
  refine lv_topi (fun x_3 ex_3 => ?_)
  obtain rfl : x_3 = 3 := ex_3.trans (by decide)
  refine va_sld hx hb hX hbl hbA hS (z_inC _ (k := 3) (by decide) (by decide)) dL_law_1858 ?_
  have hPc := hP.sub (ws' := [(h0, .inr (9, [.ref tp, .int 0, .int 0, .int (-1), .ref nw, .ref im, .ref sl, .ref rd, .ref wk, .ref fm, .ref mt, .ref ch, .ref dy])), (nw, .inr (3, [.int 0, .ref tn, .int 0, .int 0, .int 0, .int 0])), (tn, .inr (7, [.int 0, .int 0, .int 0, .int 0, .int 0, .int 0, .int 0, .int 0, .ref ta0, .ref ta1, .ref ta2, .ref ta3, .ref ta4, .ref ta5, .ref ta6, .ref ta7, .ref ta8, .ref ta9]))]) [0, 1, 2] rfl
  have hDc := hD.sub (ws' := [(h0, .inr (9, [.ref tp, .int 0, .int 0, .int (-1), .ref nw, .ref im, .ref sl, .ref rd, .ref wk, .ref fm, .ref mt, .ref ch, .ref dy])), (nw, .inr (3, [.int 0, .ref tn, .int 0, .int 0, .int 0, .int 0])), (tn, .inr (7, [.int 0, .int 0, .int 0, .int 0, .int 0, .int 0, .int 0, .int 0, .ref ta0, .ref ta1, .ref ta2, .ref ta3, .ref ta4, .ref ta5, .ref ta6, .ref ta7, .ref ta8, .ref ta9]))]) [0, 1, 2] (by decide) rfl
  have hKc := hK.sub (tys' := []) [] rfl
  have hFc := va_free (wc := [(h0, .inr (9, [.ref tp, .int 0, .int 0, .int (-1), .ref nw, .ref im, .ref sl, .ref rd, .ref wk, .ref fm, .ref mt, .ref ch, .ref dy])), (nw, .inr (3, [.int 0, .ref tn, .int 0, .int 0, .int 0, .int 0])), (tn, .inr (7, [.int 0, .int 0, .int 0, .int 0, .int 0, .int 0, .int 0, .int 0, .ref ta0, .ref ta1, .ref ta2, .ref ta3, .ref ta4, .ref ta5, .ref ta6, .ref ta7, .ref ta8, .ref ta9]))]) hD hS hA [0, 1, 2] rfl
  refine va_calli (va_runV (As := [.int (xs (Int32.toNatClampNeg 1)), .int (xs (Int32.toNatClampNeg 2)), .int (xs (Int32.toNatClampNeg 3))]) (rest := []) ⟨hx, hb, hml, hown, hts⟩ (k_X9_think l dC dI h0 (xs (Int32.toNatClampNeg 1)) (xs (Int32.toNatClampNeg 2)) (xs (Int32.toNatClampNeg 3)) tp nw im sl rd wk fm mt ch dy tn ta0 ta1 ta2 ta3 ta4 ta5 ta6 ta7 ta8 ta9 H.size) (cwV 3 hts (z_gV zw_t5_138 zw_t5_139 zw_t5_140 zw_t1_1 zw_t5_141) rfl rfl rfl (by decide +kernel) ⟨(Nat.le_of_ble_eq_true rfl), (Nat.le_of_ble_eq_true rfl)⟩) (z_preV hPc hKc hDc (ci := 9) (q0 := 0) rfl rfl) rfl rfl hl.1 rfl (lv_room (Nat.le_of_ble_eq_true rfl)) dL_law_1859 ⟨(Nat.le_of_ble_eq_true rfl), (Nat.le_of_ble_eq_true rfl)⟩) hS (fun q _ h => hFc q h) hFc (fun r_4 u t H1 locs ht hvm hw hB hz1 hk1 hS => ?_)
  have hB : zW dC dI [] [] (va_A [(h0, .inr (9, [.ref tp, .int 0, .int 0, .int (-1), .ref nw, .ref im, .ref sl, .ref rd, .ref wk, .ref fm, .ref mt, .ref ch, .ref dy])), (nw, .inr (3, [.int 0, .ref tn, .int 0, .int 0, .int 0, .int 0])), (tn, .inr (7, [.int 0, .int 0, .int 0, .int 0, .int 0, .int 0, .int 0, .int 0, .ref ta0, .ref ta1, .ref ta2, .ref ta3, .ref ta4, .ref ta5, .ref ta6, .ref ta7, .ref ta8, .ref ta9]))] H.size) t := z_none (va_K.moved hvm hK)
  obtain ⟨hP, hD, hK⟩ := z_after [(m0, .inr (10, [.int 0, .ref m_width, .ref m_many, .ref m_cells, .ref m_moved, .ref m_tape, .int 0, .int 0, .int 0, .int 0, .int 0, .long 0, .int 0, .int 0, .int 0, .int (-1), .ref m_lines, .ref m_hours, .ref m_courts, .ref m_in, .ref m_gates, .ref m_gate, .ref m_people, .ref m_at0, .ref m_stray, .ref m_set, .ref m_once, .ref m_truth, .ref m_known, .ref m_isKept, .int 0, .int (-1), .int 0, .int 0, .ref m_inside, .ref m_can, .ref m_fewest, .ref m_waysTo, .ref m_then, .ref m_two, .ref m_nextTwo, .ref m_three, .ref m_nextThree, .int (-1), .ref m_worth, .ref m_digit, .int 0, .long 0, .int 0, .int 0, .int 0, .int 0, .long 0])), (m_people, .inl (cm_people, 5, .inl (fun _ => 0)))] hB ht hvm hP hD hK [0, 1, 2] [3, 4] rfl rfl (by decide) (by decide) hk1 hFc
  generalize H1 = H at hP hS ⊢
  have hP : va_P (dC, dI) vwCl [(m0, .inr (10, [.int 0, .ref m_width, .ref m_many, .ref m_cells, .ref m_moved, .ref m_tape, .int 0, .int 0, .int 0, .int 0, .int 0, .long 0, .int 0, .int 0, .int 0, .int (-1), .ref m_lines, .ref m_hours, .ref m_courts, .ref m_in, .ref m_gates, .ref m_gate, .ref m_people, .ref m_at0, .ref m_stray, .ref m_set, .ref m_once, .ref m_truth, .ref m_known, .ref m_isKept, .int 0, .int (-1), .int 0, .int 0, .ref m_inside, .ref m_can, .ref m_fewest, .ref m_waysTo, .ref m_then, .ref m_two, .ref m_nextTwo, .ref m_three, .ref m_nextThree, .int (-1), .ref m_worth, .ref m_digit, .int 0, .long 0, .int 0, .int 0, .int 0, .int 0, .long 0])), (m_people, .inl (cm_people, 5, .inl (fun _ => 0)))] H := hP
  have hD : va_D A [(m0, .inr (10, [.int 0, .ref m_width, .ref m_many, .ref m_cells, .ref m_moved, .ref m_tape, .int 0, .int 0, .int 0, .int 0, .int 0, .long 0, .int 0, .int 0, .int 0, .int (-1), .ref m_lines, .ref m_hours, .ref m_courts, .ref m_in, .ref m_gates, .ref m_gate, .ref m_people, .ref m_at0, .ref m_stray, .ref m_set, .ref m_once, .ref m_truth, .ref m_known, .ref m_isKept, .int 0, .int (-1), .int 0, .int 0, .ref m_inside, .ref m_can, .ref m_fewest, .ref m_waysTo, .ref m_then, .ref m_two, .ref m_nextTwo, .ref m_three, .ref m_nextThree, .int (-1), .ref m_worth, .ref m_digit, .int 0, .long 0, .int 0, .int 0, .int 0, .int 0, .long 0])), (m_people, .inl (cm_people, 5, .inl (fun _ => 0)))] := hD
  have hK : va_K (dC, dI) vwCl [(cm_people, .int)] s := hK
  obtain rfl : r_4 = (-2) := hw
  refine lv_aload_n hx hb dL_law_1862 rfl (lv_at hl 1 rfl) ?_
  refine lv_aload_n hx hb dL_law_1863 rfl (lv_at hl 3 rfl) ?_
  refine lv_iload_n hx hb dL_law_1864 rfl (lv_at hl 0 rfl) ?_
  refine lv_iconst (v := 1) hx hb dL_law_1865 (by decide) ?_
  refine lv_iadd hx hb dL_law_1866 ?_
  refine lv_topi (fun x_5 ex_5 => ?_)
  obtain rfl : x_5 = 1 := ex_5.trans (by decide)
  refine va_sld hx hb hX hbl hbA hS (z_inC _ (k := 1) (by decide) (by decide)) dL_law_1867 ?_
  refine lv_aload_n hx hb dL_law_1868 rfl (lv_at hl 3 rfl) ?_
  refine lv_iload_n hx hb dL_law_1869 rfl (lv_at hl 0 rfl) ?_
  refine lv_iconst (v := 2) hx hb dL_law_1870 (by decide) ?_
  refine lv_iadd hx hb dL_law_1871 ?_
  refine lv_topi (fun x_6 ex_6 => ?_)
  obtain rfl : x_6 = 2 := ex_6.trans (by decide)
  refine va_sld hx hb hX hbl hbA hS (z_inC _ (k := 2) (by decide) (by decide)) dL_law_1872 ?_
  refine lv_aload_n hx hb dL_law_1873 rfl (lv_at hl 3 rfl) ?_
  refine lv_iload_n hx hb dL_law_1874 rfl (lv_at hl 0 rfl) ?_
  refine lv_iconst (v := 3) hx hb dL_law_1875 (by decide) ?_
  refine lv_iadd hx hb dL_law_1876 ?_
  refine lv_topi (fun x_7 ex_7 => ?_)
  obtain rfl : x_7 = 3 := ex_7.trans (by decide)
  refine va_sld hx hb hX hbl hbA hS (z_inC _ (k := 3) (by decide) (by decide)) dL_law_1877 ?_
  have hPc := hP.sub (ws' := [(m0, .inr (10, [.int 0, .ref m_width, .ref m_many, .ref m_cells, .ref m_moved, .ref m_tape, .int 0, .int 0, .int 0, .int 0, .int 0, .long 0, .int 0, .int 0, .int 0, .int (-1), .ref m_lines, .ref m_hours, .ref m_courts, .ref m_in, .ref m_gates, .ref m_gate, .ref m_people, .ref m_at0, .ref m_stray, .ref m_set, .ref m_once, .ref m_truth, .ref m_known, .ref m_isKept, .int 0, .int (-1), .int 0, .int 0, .ref m_inside, .ref m_can, .ref m_fewest, .ref m_waysTo, .ref m_then, .ref m_two, .ref m_nextTwo, .ref m_three, .ref m_nextThree, .int (-1), .ref m_worth, .ref m_digit, .int 0, .long 0, .int 0, .int 0, .int 0, .int 0, .long 0])), (m_people, .inl (cm_people, 5, .inl (fun _ => 0)))]) [0, 1] rfl
  have hDc := hD.sub (ws' := [(m0, .inr (10, [.int 0, .ref m_width, .ref m_many, .ref m_cells, .ref m_moved, .ref m_tape, .int 0, .int 0, .int 0, .int 0, .int 0, .long 0, .int 0, .int 0, .int 0, .int (-1), .ref m_lines, .ref m_hours, .ref m_courts, .ref m_in, .ref m_gates, .ref m_gate, .ref m_people, .ref m_at0, .ref m_stray, .ref m_set, .ref m_once, .ref m_truth, .ref m_known, .ref m_isKept, .int 0, .int (-1), .int 0, .int 0, .ref m_inside, .ref m_can, .ref m_fewest, .ref m_waysTo, .ref m_then, .ref m_two, .ref m_nextTwo, .ref m_three, .ref m_nextThree, .int (-1), .ref m_worth, .ref m_digit, .int 0, .long 0, .int 0, .int 0, .int 0, .int 0, .long 0])), (m_people, .inl (cm_people, 5, .inl (fun _ => 0)))]) [0, 1] (by decide) rfl
  have hKc := hK.sub (tys' := [(cm_people, .int)]) [0] rfl
  have hFc := va_free (wc := [(m0, .inr (10, [.int 0, .ref m_width, .ref m_many, .ref m_cells, .ref m_moved, .ref m_tape, .int 0, .int 0, .int 0, .int 0, .int 0, .long 0, .int 0, .int 0, .int 0, .int (-1), .ref m_lines, .ref m_hours, .ref m_courts, .ref m_in, .ref m_gates, .ref m_gate, .ref m_people, .ref m_at0, .ref m_stray, .ref m_set, .ref m_once, .ref m_truth, .ref m_known, .ref m_isKept, .int 0, .int (-1), .int 0, .int 0, .ref m_inside, .ref m_can, .ref m_fewest, .ref m_waysTo, .ref m_then, .ref m_two, .ref m_nextTwo, .ref m_three, .ref m_nextThree, .int (-1), .ref m_worth, .ref m_digit, .int 0, .long 0, .int 0, .int 0, .int 0, .int 0, .long 0])), (m_people, .inl (cm_people, 5, .inl (fun _ => 0)))]) hD hS hA [0, 1] rfl
  refine va_calli (va_runV (As := [.int (xs (Int32.toNatClampNeg 1)), .int (xs (Int32.toNatClampNeg 2)), .int (xs (Int32.toNatClampNeg 3))]) (rest := [.int (-2)]) ⟨hx, hb, hml, hown, hts⟩ (k_X10_think l dC dI m0 (xs (Int32.toNatClampNeg 1)) (xs (Int32.toNatClampNeg 2)) (xs (Int32.toNatClampNeg 3)) m_width m_many m_cells m_moved m_tape m_lines m_hours m_courts m_in m_gates m_gate m_people m_at0 m_stray m_set m_once m_truth m_known m_isKept m_inside m_can m_fewest m_waysTo m_then m_two m_nextTwo m_three m_nextThree m_worth m_digit cm_people H.size) (cwV 3 hts (z_gV zw_t8_164 zw_t8_165 zw_t8_166 zw_t1_11 zw_t8_167) rfl rfl rfl (by decide +kernel) ⟨(Nat.le_of_ble_eq_true rfl), (Nat.le_of_ble_eq_true rfl)⟩) (z_preV hPc hKc hDc (ci := 10) (q0 := 0) rfl rfl) rfl rfl hl.1 rfl (lv_room (Nat.le_of_ble_eq_true rfl)) dL_law_1878 ⟨(Nat.le_of_ble_eq_true rfl), (Nat.le_of_ble_eq_true rfl)⟩) hS (fun q _ h => hFc q h) hFc (fun r_8 u t H1 locs ht hvm hw hB hz1 hk1 hS => ?_)
  have hB : zW dC dI [] [] (va_A [(m0, .inr (10, [.int 0, .ref m_width, .ref m_many, .ref m_cells, .ref m_moved, .ref m_tape, .int 0, .int 0, .int 0, .int 0, .int 0, .long 0, .int 0, .int 0, .int 0, .int (-1), .ref m_lines, .ref m_hours, .ref m_courts, .ref m_in, .ref m_gates, .ref m_gate, .ref m_people, .ref m_at0, .ref m_stray, .ref m_set, .ref m_once, .ref m_truth, .ref m_known, .ref m_isKept, .int 0, .int (-1), .int 0, .int 0, .ref m_inside, .ref m_can, .ref m_fewest, .ref m_waysTo, .ref m_then, .ref m_two, .ref m_nextTwo, .ref m_three, .ref m_nextThree, .int (-1), .ref m_worth, .ref m_digit, .int 0, .long 0, .int 0, .int 0, .int 0, .int 0, .long 0])), (m_people, .inl (cm_people, 5, .inl (fun _ => 0)))] H.size) t := z_none (va_K.moved hvm hK)
  obtain ⟨hP, hD, hK⟩ := z_after [] hB ht hvm hP hD hK [0, 1] [] rfl rfl (by decide) (by decide) hk1 hFc
  generalize H1 = H at hP hS ⊢
  have hP : va_P (dC, dI) vwCl [] H := hP
  have hD : va_D A [] := hD
  have hK : va_K (dC, dI) vwCl [(cm_people, .int)] s := hK
  obtain rfl : r_8 = (-2) := hw
  refine lv_icmp_eq (tgt := 2651) hx hb dL_law_1881 (by decide) (fun _ => ?_) (fun q => absurd q (by decide))
  exact law_tail C0 hA2 (Nat.le_of_ble_eq_true rfl) (Nat.le_of_ble_eq_true rfl) hS (lv_sub hl [0, 3] rfl)
set_option maxHeartbeats 4000000 in
set_option maxRecDepth 100000 in
theorem law_likely {p : Program} {e : Env} {s : State} {m : MethodId} {below : List Frame} {meth : Method} {c : Code} {l : Launch} {b : Nat} {xs : Nat → Int32} (C0 : lw_At p s m meth c b 6 xs) {dC : Nat → ClassId} {dI : Nat → Nat → Nat} {A : Nat → Prop} (hA : ∀ q, s.heap.size ≤ q → A q) (hA2 : ∀ q, A q → s.heap.size ≤ q) {h0 : Nat} {tp : Nat} {nw : Nat} {im : Nat} {sl : Nat} {rd : Nat} {wk : Nat} {fm : Nat} {mt : Nat} {ch : Nat} {dy : Nat} {tn : Nat} {ta0 : Nat} {ta1 : Nat} {ta2 : Nat} {ta3 : Nat} {ta4 : Nat} {ta5 : Nat} {ta6 : Nat} {ta7 : Nat} {ta8 : Nat} {ta9 : Nat} {m0 : Nat} {m_width : Nat} {m_many : Nat} {m_cells : Nat} {m_moved : Nat} {m_tape : Nat} {m_lines : Nat} {m_hours : Nat} {m_courts : Nat} {m_in : Nat} {m_gates : Nat} {m_gate : Nat} {m_people : Nat} {m_at0 : Nat} {m_stray : Nat} {m_set : Nat} {m_once : Nat} {m_truth : Nat} {m_known : Nat} {m_isKept : Nat} {m_inside : Nat} {m_can : Nat} {m_fewest : Nat} {m_waysTo : Nat} {m_then : Nat} {m_two : Nat} {m_nextTwo : Nat} {m_three : Nat} {m_nextThree : Nat} {m_worth : Nat} {m_digit : Nat} {cm_gates : ClassId}  {H : Heap} {locs : List Loc} {ls : Array Slot} (hP : va_P (dC, dI) vwCl [(h0, .inr (9, [.ref tp, .int 0, .int 0, .int (-1), .ref nw, .ref im, .ref sl, .ref rd, .ref wk, .ref fm, .ref mt, .ref ch, .ref dy])), (nw, .inr (3, [.int 0, .ref tn, .int 0, .int 0, .int 0, .int 0])), (tn, .inr (7, [.int 0, .int 0, .int 0, .int 0, .int 0, .int 0, .int 0, .int 0, .ref ta0, .ref ta1, .ref ta2, .ref ta3, .ref ta4, .ref ta5, .ref ta6, .ref ta7, .ref ta8, .ref ta9])), (m0, .inr (10, [.int 0, .ref m_width, .ref m_many, .ref m_cells, .ref m_moved, .ref m_tape, .int 0, .int 0, .int 0, .int 0, .int 0, .long 0, .int 0, .int 0, .int 0, .int (-1), .ref m_lines, .ref m_hours, .ref m_courts, .ref m_in, .ref m_gates, .ref m_gate, .ref m_people, .ref m_at0, .ref m_stray, .ref m_set, .ref m_once, .ref m_truth, .ref m_known, .ref m_isKept, .int 0, .int (-1), .int 0, .int 0, .ref m_inside, .ref m_can, .ref m_fewest, .ref m_waysTo, .ref m_then, .ref m_two, .ref m_nextTwo, .ref m_three, .ref m_nextThree, .int (-1), .ref m_worth, .ref m_digit, .int 0, .long 0, .int 0, .int 0, .int 0, .int 0, .long 0])), (m_gates, .inl (cm_gates, 5, .inl (fun _ => 0)))] H) (hD : va_D A [(h0, .inr (9, [.ref tp, .int 0, .int 0, .int (-1), .ref nw, .ref im, .ref sl, .ref rd, .ref wk, .ref fm, .ref mt, .ref ch, .ref dy])), (nw, .inr (3, [.int 0, .ref tn, .int 0, .int 0, .int 0, .int 0])), (tn, .inr (7, [.int 0, .int 0, .int 0, .int 0, .int 0, .int 0, .int 0, .int 0, .ref ta0, .ref ta1, .ref ta2, .ref ta3, .ref ta4, .ref ta5, .ref ta6, .ref ta7, .ref ta8, .ref ta9])), (m0, .inr (10, [.int 0, .ref m_width, .ref m_many, .ref m_cells, .ref m_moved, .ref m_tape, .int 0, .int 0, .int 0, .int 0, .int 0, .long 0, .int 0, .int 0, .int 0, .int (-1), .ref m_lines, .ref m_hours, .ref m_courts, .ref m_in, .ref m_gates, .ref m_gate, .ref m_people, .ref m_at0, .ref m_stray, .ref m_set, .ref m_once, .ref m_truth, .ref m_known, .ref m_isKept, .int 0, .int (-1), .int 0, .int 0, .ref m_inside, .ref m_can, .ref m_fewest, .ref m_waysTo, .ref m_then, .ref m_two, .ref m_nextTwo, .ref m_three, .ref m_nextThree, .int (-1), .ref m_worth, .ref m_digit, .int 0, .long 0, .int 0, .int 0, .int 0, .int 0, .long 0])), (m_gates, .inl (cm_gates, 5, .inl (fun _ => 0)))]) (hK : va_K (dC, dI) vwCl [(cm_gates, .int)] s) (hS : va_S A s.heap H locs) (hl : lv_has ls 4 [(3, .int 0), (2, .ref m0), (1, .ref h0), (0, .ref b)]) : W p l e room_1 s m #[Value.ref b] below meth c H locs 166 101284 (lw_Z below #[Value.ref b] s) (F0 m 1886 ls []) := by
  obtain ⟨hx, hb, hr, hml, hown, hts, hX, hbl, hlocks, hgv⟩ := id C0
  have hown : s.vm.findClass RL = some m.cls := hown
  have hb : c.code = cL_law := hb
  have hts : ∀ w ∈ zT, w.before #[Value.ref b] s = true := fun w h => hts w (zT_in w h)
  have hbA : ¬ A b := fun q => absurd (hA2 b q) (Nat.not_le.mpr hbl)
  refine lv_aload_n hx hb dL_law_1886 rfl (lv_at hl 2 rfl) ?_
  refine lv_aload_n hx hb dL_law_1887 rfl (lv_at hl 3 rfl) ?_
  refine lv_iload_n hx hb dL_law_1888 rfl (lv_at hl 0 rfl) ?_
  refine lv_iconst (v := 1) hx hb dL_law_1889 (by decide) ?_
  refine lv_iadd hx hb dL_law_1890 ?_
  refine lv_topi (fun x_1 ex_1 => ?_)
  obtain rfl : x_1 = 1 := ex_1.trans (by decide)
  refine va_sld hx hb hX hbl hbA hS (z_inC _ (k := 1) (by decide) (by decide)) dL_law_1891 ?_
  refine lv_aload_n hx hb dL_law_1892 rfl (lv_at hl 3 rfl) ?_
  refine lv_iload_n hx hb dL_law_1893 rfl (lv_at hl 0 rfl) ?_
  refine lv_iconst (v := 2) hx hb dL_law_1894 (by decide) ?_
  refine lv_iadd hx hb dL_law_1895 ?_
  refine lv_topi (fun x_2 ex_2 => ?_)
  obtain rfl : x_2 = 2 := ex_2.trans (by decide)
  refine va_sld hx hb hX hbl hbA hS (z_inC _ (k := 2) (by decide) (by decide)) dL_law_1896 ?_
  refine lv_aload_n hx hb dL_law_1897 rfl (lv_at hl 3 rfl) ?_
  refine lv_iload_n hx hb dL_law_1898 rfl (lv_at hl 0 rfl) ?_
  refine lv_iconst (v := 3) hx hb dL_law_1899 (by decide) ?_
  refine lv_iadd hx hb dL_law_1900 ?_
  refine lv_topi (fun x_3 ex_3 => ?_)
  obtain rfl : x_3 = 3 := ex_3.trans (by decide)
  refine va_sld hx hb hX hbl hbA hS (z_inC _ (k := 3) (by decide) (by decide)) dL_law_1901 ?_
  refine lv_aload_n hx hb dL_law_1902 rfl (lv_at hl 3 rfl) ?_
  refine lv_iload_n hx hb dL_law_1903 rfl (lv_at hl 0 rfl) ?_
  refine lv_iconst (v := 4) hx hb dL_law_1904 (by decide) ?_
  refine lv_iadd hx hb dL_law_1905 ?_
  refine lv_topi (fun x_4 ex_4 => ?_)
  obtain rfl : x_4 = 4 := ex_4.trans (by decide)
  refine va_sld hx hb hX hbl hbA hS (z_inC _ (k := 4) (by decide) (by decide)) dL_law_1906 ?_
  have hPc := hP.sub (ws' := [(h0, .inr (9, [.ref tp, .int 0, .int 0, .int (-1), .ref nw, .ref im, .ref sl, .ref rd, .ref wk, .ref fm, .ref mt, .ref ch, .ref dy])), (nw, .inr (3, [.int 0, .ref tn, .int 0, .int 0, .int 0, .int 0])), (tn, .inr (7, [.int 0, .int 0, .int 0, .int 0, .int 0, .int 0, .int 0, .int 0, .ref ta0, .ref ta1, .ref ta2, .ref ta3, .ref ta4, .ref ta5, .ref ta6, .ref ta7, .ref ta8, .ref ta9]))]) [0, 1, 2] rfl
  have hDc := hD.sub (ws' := [(h0, .inr (9, [.ref tp, .int 0, .int 0, .int (-1), .ref nw, .ref im, .ref sl, .ref rd, .ref wk, .ref fm, .ref mt, .ref ch, .ref dy])), (nw, .inr (3, [.int 0, .ref tn, .int 0, .int 0, .int 0, .int 0])), (tn, .inr (7, [.int 0, .int 0, .int 0, .int 0, .int 0, .int 0, .int 0, .int 0, .ref ta0, .ref ta1, .ref ta2, .ref ta3, .ref ta4, .ref ta5, .ref ta6, .ref ta7, .ref ta8, .ref ta9]))]) [0, 1, 2] (by decide) rfl
  have hKc := hK.sub (tys' := []) [] rfl
  have hFc := va_free (wc := [(h0, .inr (9, [.ref tp, .int 0, .int 0, .int (-1), .ref nw, .ref im, .ref sl, .ref rd, .ref wk, .ref fm, .ref mt, .ref ch, .ref dy])), (nw, .inr (3, [.int 0, .ref tn, .int 0, .int 0, .int 0, .int 0])), (tn, .inr (7, [.int 0, .int 0, .int 0, .int 0, .int 0, .int 0, .int 0, .int 0, .ref ta0, .ref ta1, .ref ta2, .ref ta3, .ref ta4, .ref ta5, .ref ta6, .ref ta7, .ref ta8, .ref ta9]))]) hD hS hA [0, 1, 2] rfl
  refine va_calli (va_runV (As := [.int (xs (Int32.toNatClampNeg 1)), .int (xs (Int32.toNatClampNeg 2)), .int (xs (Int32.toNatClampNeg 3)), .int (xs (Int32.toNatClampNeg 4))]) (rest := []) ⟨hx, hb, hml, hown, hts⟩ (k_X9_likely l dC dI h0 (xs (Int32.toNatClampNeg 1)) (xs (Int32.toNatClampNeg 2)) (xs (Int32.toNatClampNeg 3)) (xs (Int32.toNatClampNeg 4)) tp nw im sl rd wk fm mt ch dy tn ta0 ta1 ta2 ta3 ta4 ta5 ta6 ta7 ta8 ta9 H.size) (cwV 4 hts (z_gV zw_t5_152 zw_t5_153 zw_t5_154 zw_t1_1 zw_t5_155) rfl rfl rfl (by decide +kernel) ⟨(Nat.le_of_ble_eq_true rfl), (Nat.le_of_ble_eq_true rfl)⟩) (z_preV hPc hKc hDc (ci := 9) (q0 := 0) rfl rfl) rfl rfl hl.1 rfl (lv_room (Nat.le_of_ble_eq_true rfl)) dL_law_1907 ⟨(Nat.le_of_ble_eq_true rfl), (Nat.le_of_ble_eq_true rfl)⟩) hS (fun q _ h => hFc q h) hFc (fun r_5 u t H1 locs ht hvm hw hB hz1 hk1 hS => ?_)
  have hB : zW dC dI [] [] (va_A [(h0, .inr (9, [.ref tp, .int 0, .int 0, .int (-1), .ref nw, .ref im, .ref sl, .ref rd, .ref wk, .ref fm, .ref mt, .ref ch, .ref dy])), (nw, .inr (3, [.int 0, .ref tn, .int 0, .int 0, .int 0, .int 0])), (tn, .inr (7, [.int 0, .int 0, .int 0, .int 0, .int 0, .int 0, .int 0, .int 0, .ref ta0, .ref ta1, .ref ta2, .ref ta3, .ref ta4, .ref ta5, .ref ta6, .ref ta7, .ref ta8, .ref ta9]))] H.size) t := z_none (va_K.moved hvm hK)
  obtain ⟨hP, hD, hK⟩ := z_after [(m0, .inr (10, [.int 0, .ref m_width, .ref m_many, .ref m_cells, .ref m_moved, .ref m_tape, .int 0, .int 0, .int 0, .int 0, .int 0, .long 0, .int 0, .int 0, .int 0, .int (-1), .ref m_lines, .ref m_hours, .ref m_courts, .ref m_in, .ref m_gates, .ref m_gate, .ref m_people, .ref m_at0, .ref m_stray, .ref m_set, .ref m_once, .ref m_truth, .ref m_known, .ref m_isKept, .int 0, .int (-1), .int 0, .int 0, .ref m_inside, .ref m_can, .ref m_fewest, .ref m_waysTo, .ref m_then, .ref m_two, .ref m_nextTwo, .ref m_three, .ref m_nextThree, .int (-1), .ref m_worth, .ref m_digit, .int 0, .long 0, .int 0, .int 0, .int 0, .int 0, .long 0])), (m_gates, .inl (cm_gates, 5, .inl (fun _ => 0)))] hB ht hvm hP hD hK [0, 1, 2] [3, 4] rfl rfl (by decide) (by decide) hk1 hFc
  generalize H1 = H at hP hS ⊢
  have hP : va_P (dC, dI) vwCl [(m0, .inr (10, [.int 0, .ref m_width, .ref m_many, .ref m_cells, .ref m_moved, .ref m_tape, .int 0, .int 0, .int 0, .int 0, .int 0, .long 0, .int 0, .int 0, .int 0, .int (-1), .ref m_lines, .ref m_hours, .ref m_courts, .ref m_in, .ref m_gates, .ref m_gate, .ref m_people, .ref m_at0, .ref m_stray, .ref m_set, .ref m_once, .ref m_truth, .ref m_known, .ref m_isKept, .int 0, .int (-1), .int 0, .int 0, .ref m_inside, .ref m_can, .ref m_fewest, .ref m_waysTo, .ref m_then, .ref m_two, .ref m_nextTwo, .ref m_three, .ref m_nextThree, .int (-1), .ref m_worth, .ref m_digit, .int 0, .long 0, .int 0, .int 0, .int 0, .int 0, .long 0])), (m_gates, .inl (cm_gates, 5, .inl (fun _ => 0)))] H := hP
  have hD : va_D A [(m0, .inr (10, [.int 0, .ref m_width, .ref m_many, .ref m_cells, .ref m_moved, .ref m_tape, .int 0, .int 0, .int 0, .int 0, .int 0, .long 0, .int 0, .int 0, .int 0, .int (-1), .ref m_lines, .ref m_hours, .ref m_courts, .ref m_in, .ref m_gates, .ref m_gate, .ref m_people, .ref m_at0, .ref m_stray, .ref m_set, .ref m_once, .ref m_truth, .ref m_known, .ref m_isKept, .int 0, .int (-1), .int 0, .int 0, .ref m_inside, .ref m_can, .ref m_fewest, .ref m_waysTo, .ref m_then, .ref m_two, .ref m_nextTwo, .ref m_three, .ref m_nextThree, .int (-1), .ref m_worth, .ref m_digit, .int 0, .long 0, .int 0, .int 0, .int 0, .int 0, .long 0])), (m_gates, .inl (cm_gates, 5, .inl (fun _ => 0)))] := hD
  have hK : va_K (dC, dI) vwCl [(cm_gates, .int)] s := hK
  obtain rfl : r_5 = (-2) := hw
  refine lv_aload_n hx hb dL_law_1910 rfl (lv_at hl 1 rfl) ?_
  refine lv_aload_n hx hb dL_law_1911 rfl (lv_at hl 3 rfl) ?_
  refine lv_iload_n hx hb dL_law_1912 rfl (lv_at hl 0 rfl) ?_
  refine lv_iconst (v := 1) hx hb dL_law_1913 (by decide) ?_
  refine lv_iadd hx hb dL_law_1914 ?_
  refine lv_topi (fun x_6 ex_6 => ?_)
  obtain rfl : x_6 = 1 := ex_6.trans (by decide)
  refine va_sld hx hb hX hbl hbA hS (z_inC _ (k := 1) (by decide) (by decide)) dL_law_1915 ?_
  refine lv_aload_n hx hb dL_law_1916 rfl (lv_at hl 3 rfl) ?_
  refine lv_iload_n hx hb dL_law_1917 rfl (lv_at hl 0 rfl) ?_
  refine lv_iconst (v := 2) hx hb dL_law_1918 (by decide) ?_
  refine lv_iadd hx hb dL_law_1919 ?_
  refine lv_topi (fun x_7 ex_7 => ?_)
  obtain rfl : x_7 = 2 := ex_7.trans (by decide)
  refine va_sld hx hb hX hbl hbA hS (z_inC _ (k := 2) (by decide) (by decide)) dL_law_1920 ?_
  refine lv_aload_n hx hb dL_law_1921 rfl (lv_at hl 3 rfl) ?_
  refine lv_iload_n hx hb dL_law_1922 rfl (lv_at hl 0 rfl) ?_
  refine lv_iconst (v := 3) hx hb dL_law_1923 (by decide) ?_
  refine lv_iadd hx hb dL_law_1924 ?_
  refine lv_topi (fun x_8 ex_8 => ?_)
  obtain rfl : x_8 = 3 := ex_8.trans (by decide)
  refine va_sld hx hb hX hbl hbA hS (z_inC _ (k := 3) (by decide) (by decide)) dL_law_1925 ?_
  refine lv_aload_n hx hb dL_law_1926 rfl (lv_at hl 3 rfl) ?_
  refine lv_iload_n hx hb dL_law_1927 rfl (lv_at hl 0 rfl) ?_
  refine lv_iconst (v := 4) hx hb dL_law_1928 (by decide) ?_
  refine lv_iadd hx hb dL_law_1929 ?_
  refine lv_topi (fun x_9 ex_9 => ?_)
  obtain rfl : x_9 = 4 := ex_9.trans (by decide)
  refine va_sld hx hb hX hbl hbA hS (z_inC _ (k := 4) (by decide) (by decide)) dL_law_1930 ?_
  have hPc := hP.sub (ws' := [(m0, .inr (10, [.int 0, .ref m_width, .ref m_many, .ref m_cells, .ref m_moved, .ref m_tape, .int 0, .int 0, .int 0, .int 0, .int 0, .long 0, .int 0, .int 0, .int 0, .int (-1), .ref m_lines, .ref m_hours, .ref m_courts, .ref m_in, .ref m_gates, .ref m_gate, .ref m_people, .ref m_at0, .ref m_stray, .ref m_set, .ref m_once, .ref m_truth, .ref m_known, .ref m_isKept, .int 0, .int (-1), .int 0, .int 0, .ref m_inside, .ref m_can, .ref m_fewest, .ref m_waysTo, .ref m_then, .ref m_two, .ref m_nextTwo, .ref m_three, .ref m_nextThree, .int (-1), .ref m_worth, .ref m_digit, .int 0, .long 0, .int 0, .int 0, .int 0, .int 0, .long 0])), (m_gates, .inl (cm_gates, 5, .inl (fun _ => 0)))]) [0, 1] rfl
  have hDc := hD.sub (ws' := [(m0, .inr (10, [.int 0, .ref m_width, .ref m_many, .ref m_cells, .ref m_moved, .ref m_tape, .int 0, .int 0, .int 0, .int 0, .int 0, .long 0, .int 0, .int 0, .int 0, .int (-1), .ref m_lines, .ref m_hours, .ref m_courts, .ref m_in, .ref m_gates, .ref m_gate, .ref m_people, .ref m_at0, .ref m_stray, .ref m_set, .ref m_once, .ref m_truth, .ref m_known, .ref m_isKept, .int 0, .int (-1), .int 0, .int 0, .ref m_inside, .ref m_can, .ref m_fewest, .ref m_waysTo, .ref m_then, .ref m_two, .ref m_nextTwo, .ref m_three, .ref m_nextThree, .int (-1), .ref m_worth, .ref m_digit, .int 0, .long 0, .int 0, .int 0, .int 0, .int 0, .long 0])), (m_gates, .inl (cm_gates, 5, .inl (fun _ => 0)))]) [0, 1] (by decide) rfl
  have hKc := hK.sub (tys' := [(cm_gates, .int)]) [0] rfl
  have hFc := va_free (wc := [(m0, .inr (10, [.int 0, .ref m_width, .ref m_many, .ref m_cells, .ref m_moved, .ref m_tape, .int 0, .int 0, .int 0, .int 0, .int 0, .long 0, .int 0, .int 0, .int 0, .int (-1), .ref m_lines, .ref m_hours, .ref m_courts, .ref m_in, .ref m_gates, .ref m_gate, .ref m_people, .ref m_at0, .ref m_stray, .ref m_set, .ref m_once, .ref m_truth, .ref m_known, .ref m_isKept, .int 0, .int (-1), .int 0, .int 0, .ref m_inside, .ref m_can, .ref m_fewest, .ref m_waysTo, .ref m_then, .ref m_two, .ref m_nextTwo, .ref m_three, .ref m_nextThree, .int (-1), .ref m_worth, .ref m_digit, .int 0, .long 0, .int 0, .int 0, .int 0, .int 0, .long 0])), (m_gates, .inl (cm_gates, 5, .inl (fun _ => 0)))]) hD hS hA [0, 1] rfl
  refine va_calli (va_runV (As := [.int (xs (Int32.toNatClampNeg 1)), .int (xs (Int32.toNatClampNeg 2)), .int (xs (Int32.toNatClampNeg 3)), .int (xs (Int32.toNatClampNeg 4))]) (rest := [.int (-2)]) ⟨hx, hb, hml, hown, hts⟩ (k_X10_likely l dC dI m0 (xs (Int32.toNatClampNeg 1)) (xs (Int32.toNatClampNeg 2)) (xs (Int32.toNatClampNeg 3)) (xs (Int32.toNatClampNeg 4)) m_width m_many m_cells m_moved m_tape m_lines m_hours m_courts m_in m_gates m_gate m_people m_at0 m_stray m_set m_once m_truth m_known m_isKept m_inside m_can m_fewest m_waysTo m_then m_two m_nextTwo m_three m_nextThree m_worth m_digit cm_gates H.size) (cwV 4 hts (z_gV zw_t8_176 zw_t8_177 zw_t8_178 zw_t1_11 zw_t8_179) rfl rfl rfl (by decide +kernel) ⟨(Nat.le_of_ble_eq_true rfl), (Nat.le_of_ble_eq_true rfl)⟩) (z_preV hPc hKc hDc (ci := 10) (q0 := 0) rfl rfl) rfl rfl hl.1 rfl (lv_room (Nat.le_of_ble_eq_true rfl)) dL_law_1931 ⟨(Nat.le_of_ble_eq_true rfl), (Nat.le_of_ble_eq_true rfl)⟩) hS (fun q _ h => hFc q h) hFc (fun r_10 u t H1 locs ht hvm hw hB hz1 hk1 hS => ?_)
  have hB : zW dC dI [] [] (va_A [(m0, .inr (10, [.int 0, .ref m_width, .ref m_many, .ref m_cells, .ref m_moved, .ref m_tape, .int 0, .int 0, .int 0, .int 0, .int 0, .long 0, .int 0, .int 0, .int 0, .int (-1), .ref m_lines, .ref m_hours, .ref m_courts, .ref m_in, .ref m_gates, .ref m_gate, .ref m_people, .ref m_at0, .ref m_stray, .ref m_set, .ref m_once, .ref m_truth, .ref m_known, .ref m_isKept, .int 0, .int (-1), .int 0, .int 0, .ref m_inside, .ref m_can, .ref m_fewest, .ref m_waysTo, .ref m_then, .ref m_two, .ref m_nextTwo, .ref m_three, .ref m_nextThree, .int (-1), .ref m_worth, .ref m_digit, .int 0, .long 0, .int 0, .int 0, .int 0, .int 0, .long 0])), (m_gates, .inl (cm_gates, 5, .inl (fun _ => 0)))] H.size) t := z_none (va_K.moved hvm hK)
  obtain ⟨hP, hD, hK⟩ := z_after [] hB ht hvm hP hD hK [0, 1] [] rfl rfl (by decide) (by decide) hk1 hFc
  generalize H1 = H at hP hS ⊢
  have hP : va_P (dC, dI) vwCl [] H := hP
  have hD : va_D A [] := hD
  have hK : va_K (dC, dI) vwCl [(cm_gates, .int)] s := hK
  obtain rfl : r_10 = (-2) := hw
  refine lv_icmp_eq (tgt := 2651) hx hb dL_law_1934 (by decide) (fun _ => ?_) (fun q => absurd q (by decide))
  exact law_tail C0 hA2 (Nat.le_of_ble_eq_true rfl) (Nat.le_of_ble_eq_true rfl) hS (lv_sub hl [0, 3] rfl)
set_option maxHeartbeats 4000000 in
set_option maxRecDepth 100000 in
theorem law_odds {p : Program} {e : Env} {s : State} {m : MethodId} {below : List Frame} {meth : Method} {c : Code} {l : Launch} {b : Nat} {xs : Nat → Int32} (C0 : lw_At p s m meth c b 6 xs) {dC : Nat → ClassId} {dI : Nat → Nat → Nat} {A : Nat → Prop} (hA : ∀ q, s.heap.size ≤ q → A q) (hA2 : ∀ q, A q → s.heap.size ≤ q) {h0 : Nat} {tp : Nat} {nw : Nat} {im : Nat} {sl : Nat} {rd : Nat} {wk : Nat} {fm : Nat} {mt : Nat} {ch : Nat} {dy : Nat} {tn : Nat} {ta0 : Nat} {ta1 : Nat} {ta2 : Nat} {ta3 : Nat} {ta4 : Nat} {ta5 : Nat} {ta6 : Nat} {ta7 : Nat} {ta8 : Nat} {ta9 : Nat} {m0 : Nat} {m_width : Nat} {m_many : Nat} {m_cells : Nat} {m_moved : Nat} {m_tape : Nat} {m_lines : Nat} {m_hours : Nat} {m_courts : Nat} {m_in : Nat} {m_gates : Nat} {m_gate : Nat} {m_people : Nat} {m_at0 : Nat} {m_stray : Nat} {m_set : Nat} {m_once : Nat} {m_truth : Nat} {m_known : Nat} {m_isKept : Nat} {m_inside : Nat} {m_can : Nat} {m_fewest : Nat} {m_waysTo : Nat} {m_then : Nat} {m_two : Nat} {m_nextTwo : Nat} {m_three : Nat} {m_nextThree : Nat} {m_worth : Nat} {m_digit : Nat} {cm_courts : ClassId}  {H : Heap} {locs : List Loc} {ls : Array Slot} (hP : va_P (dC, dI) vwCl [(h0, .inr (9, [.ref tp, .int 0, .int 0, .int (-1), .ref nw, .ref im, .ref sl, .ref rd, .ref wk, .ref fm, .ref mt, .ref ch, .ref dy])), (nw, .inr (3, [.int 0, .ref tn, .int 0, .int 0, .int 0, .int 0])), (tn, .inr (7, [.int 0, .int 0, .int 0, .int 0, .int 0, .int 0, .int 0, .int 0, .ref ta0, .ref ta1, .ref ta2, .ref ta3, .ref ta4, .ref ta5, .ref ta6, .ref ta7, .ref ta8, .ref ta9])), (m0, .inr (10, [.int 0, .ref m_width, .ref m_many, .ref m_cells, .ref m_moved, .ref m_tape, .int 0, .int 0, .int 0, .int 0, .int 0, .long 0, .int 0, .int 0, .int 0, .int (-1), .ref m_lines, .ref m_hours, .ref m_courts, .ref m_in, .ref m_gates, .ref m_gate, .ref m_people, .ref m_at0, .ref m_stray, .ref m_set, .ref m_once, .ref m_truth, .ref m_known, .ref m_isKept, .int 0, .int (-1), .int 0, .int 0, .ref m_inside, .ref m_can, .ref m_fewest, .ref m_waysTo, .ref m_then, .ref m_two, .ref m_nextTwo, .ref m_three, .ref m_nextThree, .int (-1), .ref m_worth, .ref m_digit, .int 0, .long 0, .int 0, .int 0, .int 0, .int 0, .long 0])), (m_courts, .inl (cm_courts, 5, .inl (fun _ => 0)))] H) (hD : va_D A [(h0, .inr (9, [.ref tp, .int 0, .int 0, .int (-1), .ref nw, .ref im, .ref sl, .ref rd, .ref wk, .ref fm, .ref mt, .ref ch, .ref dy])), (nw, .inr (3, [.int 0, .ref tn, .int 0, .int 0, .int 0, .int 0])), (tn, .inr (7, [.int 0, .int 0, .int 0, .int 0, .int 0, .int 0, .int 0, .int 0, .ref ta0, .ref ta1, .ref ta2, .ref ta3, .ref ta4, .ref ta5, .ref ta6, .ref ta7, .ref ta8, .ref ta9])), (m0, .inr (10, [.int 0, .ref m_width, .ref m_many, .ref m_cells, .ref m_moved, .ref m_tape, .int 0, .int 0, .int 0, .int 0, .int 0, .long 0, .int 0, .int 0, .int 0, .int (-1), .ref m_lines, .ref m_hours, .ref m_courts, .ref m_in, .ref m_gates, .ref m_gate, .ref m_people, .ref m_at0, .ref m_stray, .ref m_set, .ref m_once, .ref m_truth, .ref m_known, .ref m_isKept, .int 0, .int (-1), .int 0, .int 0, .ref m_inside, .ref m_can, .ref m_fewest, .ref m_waysTo, .ref m_then, .ref m_two, .ref m_nextTwo, .ref m_three, .ref m_nextThree, .int (-1), .ref m_worth, .ref m_digit, .int 0, .long 0, .int 0, .int 0, .int 0, .int 0, .long 0])), (m_courts, .inl (cm_courts, 5, .inl (fun _ => 0)))]) (hK : va_K (dC, dI) vwCl [(cm_courts, .int)] s) (hS : va_S A s.heap H locs) (hl : lv_has ls 4 [(3, .int 0), (2, .ref m0), (1, .ref h0), (0, .ref b)]) : W p l e room_1 s m #[Value.ref b] below meth c H locs 166 101284 (lw_Z below #[Value.ref b] s) (F0 m 1939 ls []) := by
  obtain ⟨hx, hb, hr, hml, hown, hts, hX, hbl, hlocks, hgv⟩ := id C0
  have hown : s.vm.findClass RL = some m.cls := hown
  have hb : c.code = cL_law := hb
  have hts : ∀ w ∈ zT, w.before #[Value.ref b] s = true := fun w h => hts w (zT_in w h)
  have hbA : ¬ A b := fun q => absurd (hA2 b q) (Nat.not_le.mpr hbl)
  refine lv_aload_n hx hb dL_law_1939 rfl (lv_at hl 2 rfl) ?_
  refine lv_aload_n hx hb dL_law_1940 rfl (lv_at hl 3 rfl) ?_
  refine lv_iload_n hx hb dL_law_1941 rfl (lv_at hl 0 rfl) ?_
  refine lv_iconst (v := 1) hx hb dL_law_1942 (by decide) ?_
  refine lv_iadd hx hb dL_law_1943 ?_
  refine lv_topi (fun x_1 ex_1 => ?_)
  obtain rfl : x_1 = 1 := ex_1.trans (by decide)
  refine va_sld hx hb hX hbl hbA hS (z_inC _ (k := 1) (by decide) (by decide)) dL_law_1944 ?_
  refine lv_aload_n hx hb dL_law_1945 rfl (lv_at hl 3 rfl) ?_
  refine lv_iload_n hx hb dL_law_1946 rfl (lv_at hl 0 rfl) ?_
  refine lv_iconst (v := 2) hx hb dL_law_1947 (by decide) ?_
  refine lv_iadd hx hb dL_law_1948 ?_
  refine lv_topi (fun x_2 ex_2 => ?_)
  obtain rfl : x_2 = 2 := ex_2.trans (by decide)
  refine va_sld hx hb hX hbl hbA hS (z_inC _ (k := 2) (by decide) (by decide)) dL_law_1949 ?_
  refine lv_aload_n hx hb dL_law_1950 rfl (lv_at hl 3 rfl) ?_
  refine lv_iload_n hx hb dL_law_1951 rfl (lv_at hl 0 rfl) ?_
  refine lv_iconst (v := 3) hx hb dL_law_1952 (by decide) ?_
  refine lv_iadd hx hb dL_law_1953 ?_
  refine lv_topi (fun x_3 ex_3 => ?_)
  obtain rfl : x_3 = 3 := ex_3.trans (by decide)
  refine va_sld hx hb hX hbl hbA hS (z_inC _ (k := 3) (by decide) (by decide)) dL_law_1954 ?_
  refine lv_aload_n hx hb dL_law_1955 rfl (lv_at hl 3 rfl) ?_
  refine lv_iload_n hx hb dL_law_1956 rfl (lv_at hl 0 rfl) ?_
  refine lv_iconst (v := 4) hx hb dL_law_1957 (by decide) ?_
  refine lv_iadd hx hb dL_law_1958 ?_
  refine lv_topi (fun x_4 ex_4 => ?_)
  obtain rfl : x_4 = 4 := ex_4.trans (by decide)
  refine va_sld hx hb hX hbl hbA hS (z_inC _ (k := 4) (by decide) (by decide)) dL_law_1959 ?_
  have hPc := hP.sub (ws' := [(h0, .inr (9, [.ref tp, .int 0, .int 0, .int (-1), .ref nw, .ref im, .ref sl, .ref rd, .ref wk, .ref fm, .ref mt, .ref ch, .ref dy])), (nw, .inr (3, [.int 0, .ref tn, .int 0, .int 0, .int 0, .int 0])), (tn, .inr (7, [.int 0, .int 0, .int 0, .int 0, .int 0, .int 0, .int 0, .int 0, .ref ta0, .ref ta1, .ref ta2, .ref ta3, .ref ta4, .ref ta5, .ref ta6, .ref ta7, .ref ta8, .ref ta9]))]) [0, 1, 2] rfl
  have hDc := hD.sub (ws' := [(h0, .inr (9, [.ref tp, .int 0, .int 0, .int (-1), .ref nw, .ref im, .ref sl, .ref rd, .ref wk, .ref fm, .ref mt, .ref ch, .ref dy])), (nw, .inr (3, [.int 0, .ref tn, .int 0, .int 0, .int 0, .int 0])), (tn, .inr (7, [.int 0, .int 0, .int 0, .int 0, .int 0, .int 0, .int 0, .int 0, .ref ta0, .ref ta1, .ref ta2, .ref ta3, .ref ta4, .ref ta5, .ref ta6, .ref ta7, .ref ta8, .ref ta9]))]) [0, 1, 2] (by decide) rfl
  have hKc := hK.sub (tys' := []) [] rfl
  have hFc := va_free (wc := [(h0, .inr (9, [.ref tp, .int 0, .int 0, .int (-1), .ref nw, .ref im, .ref sl, .ref rd, .ref wk, .ref fm, .ref mt, .ref ch, .ref dy])), (nw, .inr (3, [.int 0, .ref tn, .int 0, .int 0, .int 0, .int 0])), (tn, .inr (7, [.int 0, .int 0, .int 0, .int 0, .int 0, .int 0, .int 0, .int 0, .ref ta0, .ref ta1, .ref ta2, .ref ta3, .ref ta4, .ref ta5, .ref ta6, .ref ta7, .ref ta8, .ref ta9]))]) hD hS hA [0, 1, 2] rfl
  refine va_calll (va_runV (As := [.int (xs (Int32.toNatClampNeg 1)), .int (xs (Int32.toNatClampNeg 2)), .int (xs (Int32.toNatClampNeg 3)), .int (xs (Int32.toNatClampNeg 4))]) (rest := []) ⟨hx, hb, hml, hown, hts⟩ (k_X9_odds l dC dI h0 (xs (Int32.toNatClampNeg 1)) (xs (Int32.toNatClampNeg 2)) (xs (Int32.toNatClampNeg 3)) (xs (Int32.toNatClampNeg 4)) tp nw im sl rd wk fm mt ch dy tn ta0 ta1 ta2 ta3 ta4 ta5 ta6 ta7 ta8 ta9 H.size) (cwV 4 hts (z_gV zw_t5_156 zw_t5_157 zw_t5_158 zw_t1_1 zw_t5_159) rfl rfl rfl (by decide +kernel) ⟨(Nat.le_of_ble_eq_true rfl), (Nat.le_of_ble_eq_true rfl)⟩) (z_preV hPc hKc hDc (ci := 9) (q0 := 0) rfl rfl) rfl rfl hl.1 rfl (lv_room (Nat.le_of_ble_eq_true rfl)) dL_law_1960 ⟨(Nat.le_of_ble_eq_true rfl), (Nat.le_of_ble_eq_true rfl)⟩) hS (fun q _ h => hFc q h) hFc (fun r_5 u t H1 locs ht hvm hw hB hz1 hk1 hS => ?_)
  have hB : zW dC dI [] [] (va_A [(h0, .inr (9, [.ref tp, .int 0, .int 0, .int (-1), .ref nw, .ref im, .ref sl, .ref rd, .ref wk, .ref fm, .ref mt, .ref ch, .ref dy])), (nw, .inr (3, [.int 0, .ref tn, .int 0, .int 0, .int 0, .int 0])), (tn, .inr (7, [.int 0, .int 0, .int 0, .int 0, .int 0, .int 0, .int 0, .int 0, .ref ta0, .ref ta1, .ref ta2, .ref ta3, .ref ta4, .ref ta5, .ref ta6, .ref ta7, .ref ta8, .ref ta9]))] H.size) t := z_none (va_K.moved hvm hK)
  obtain ⟨hP, hD, hK⟩ := z_after [(m0, .inr (10, [.int 0, .ref m_width, .ref m_many, .ref m_cells, .ref m_moved, .ref m_tape, .int 0, .int 0, .int 0, .int 0, .int 0, .long 0, .int 0, .int 0, .int 0, .int (-1), .ref m_lines, .ref m_hours, .ref m_courts, .ref m_in, .ref m_gates, .ref m_gate, .ref m_people, .ref m_at0, .ref m_stray, .ref m_set, .ref m_once, .ref m_truth, .ref m_known, .ref m_isKept, .int 0, .int (-1), .int 0, .int 0, .ref m_inside, .ref m_can, .ref m_fewest, .ref m_waysTo, .ref m_then, .ref m_two, .ref m_nextTwo, .ref m_three, .ref m_nextThree, .int (-1), .ref m_worth, .ref m_digit, .int 0, .long 0, .int 0, .int 0, .int 0, .int 0, .long 0])), (m_courts, .inl (cm_courts, 5, .inl (fun _ => 0)))] hB ht hvm hP hD hK [0, 1, 2] [3, 4] rfl rfl (by decide) (by decide) hk1 hFc
  generalize H1 = H at hP hS ⊢
  have hP : va_P (dC, dI) vwCl [(m0, .inr (10, [.int 0, .ref m_width, .ref m_many, .ref m_cells, .ref m_moved, .ref m_tape, .int 0, .int 0, .int 0, .int 0, .int 0, .long 0, .int 0, .int 0, .int 0, .int (-1), .ref m_lines, .ref m_hours, .ref m_courts, .ref m_in, .ref m_gates, .ref m_gate, .ref m_people, .ref m_at0, .ref m_stray, .ref m_set, .ref m_once, .ref m_truth, .ref m_known, .ref m_isKept, .int 0, .int (-1), .int 0, .int 0, .ref m_inside, .ref m_can, .ref m_fewest, .ref m_waysTo, .ref m_then, .ref m_two, .ref m_nextTwo, .ref m_three, .ref m_nextThree, .int (-1), .ref m_worth, .ref m_digit, .int 0, .long 0, .int 0, .int 0, .int 0, .int 0, .long 0])), (m_courts, .inl (cm_courts, 5, .inl (fun _ => 0)))] H := hP
  have hD : va_D A [(m0, .inr (10, [.int 0, .ref m_width, .ref m_many, .ref m_cells, .ref m_moved, .ref m_tape, .int 0, .int 0, .int 0, .int 0, .int 0, .long 0, .int 0, .int 0, .int 0, .int (-1), .ref m_lines, .ref m_hours, .ref m_courts, .ref m_in, .ref m_gates, .ref m_gate, .ref m_people, .ref m_at0, .ref m_stray, .ref m_set, .ref m_once, .ref m_truth, .ref m_known, .ref m_isKept, .int 0, .int (-1), .int 0, .int 0, .ref m_inside, .ref m_can, .ref m_fewest, .ref m_waysTo, .ref m_then, .ref m_two, .ref m_nextTwo, .ref m_three, .ref m_nextThree, .int (-1), .ref m_worth, .ref m_digit, .int 0, .long 0, .int 0, .int 0, .int 0, .int 0, .long 0])), (m_courts, .inl (cm_courts, 5, .inl (fun _ => 0)))] := hD
  have hK : va_K (dC, dI) vwCl [(cm_courts, .int)] s := hK
  obtain rfl : r_5 = (-2) := hw
  refine lv_aload_n hx hb dL_law_1963 rfl (lv_at hl 1 rfl) ?_
  refine lv_aload_n hx hb dL_law_1964 rfl (lv_at hl 3 rfl) ?_
  refine lv_iload_n hx hb dL_law_1965 rfl (lv_at hl 0 rfl) ?_
  refine lv_iconst (v := 1) hx hb dL_law_1966 (by decide) ?_
  refine lv_iadd hx hb dL_law_1967 ?_
  refine lv_topi (fun x_6 ex_6 => ?_)
  obtain rfl : x_6 = 1 := ex_6.trans (by decide)
  refine va_sld hx hb hX hbl hbA hS (z_inC _ (k := 1) (by decide) (by decide)) dL_law_1968 ?_
  refine lv_aload_n hx hb dL_law_1969 rfl (lv_at hl 3 rfl) ?_
  refine lv_iload_n hx hb dL_law_1970 rfl (lv_at hl 0 rfl) ?_
  refine lv_iconst (v := 2) hx hb dL_law_1971 (by decide) ?_
  refine lv_iadd hx hb dL_law_1972 ?_
  refine lv_topi (fun x_7 ex_7 => ?_)
  obtain rfl : x_7 = 2 := ex_7.trans (by decide)
  refine va_sld hx hb hX hbl hbA hS (z_inC _ (k := 2) (by decide) (by decide)) dL_law_1973 ?_
  refine lv_aload_n hx hb dL_law_1974 rfl (lv_at hl 3 rfl) ?_
  refine lv_iload_n hx hb dL_law_1975 rfl (lv_at hl 0 rfl) ?_
  refine lv_iconst (v := 3) hx hb dL_law_1976 (by decide) ?_
  refine lv_iadd hx hb dL_law_1977 ?_
  refine lv_topi (fun x_8 ex_8 => ?_)
  obtain rfl : x_8 = 3 := ex_8.trans (by decide)
  refine va_sld hx hb hX hbl hbA hS (z_inC _ (k := 3) (by decide) (by decide)) dL_law_1978 ?_
  refine lv_aload_n hx hb dL_law_1979 rfl (lv_at hl 3 rfl) ?_
  refine lv_iload_n hx hb dL_law_1980 rfl (lv_at hl 0 rfl) ?_
  refine lv_iconst (v := 4) hx hb dL_law_1981 (by decide) ?_
  refine lv_iadd hx hb dL_law_1982 ?_
  refine lv_topi (fun x_9 ex_9 => ?_)
  obtain rfl : x_9 = 4 := ex_9.trans (by decide)
  refine va_sld hx hb hX hbl hbA hS (z_inC _ (k := 4) (by decide) (by decide)) dL_law_1983 ?_
  have hPc := hP.sub (ws' := [(m0, .inr (10, [.int 0, .ref m_width, .ref m_many, .ref m_cells, .ref m_moved, .ref m_tape, .int 0, .int 0, .int 0, .int 0, .int 0, .long 0, .int 0, .int 0, .int 0, .int (-1), .ref m_lines, .ref m_hours, .ref m_courts, .ref m_in, .ref m_gates, .ref m_gate, .ref m_people, .ref m_at0, .ref m_stray, .ref m_set, .ref m_once, .ref m_truth, .ref m_known, .ref m_isKept, .int 0, .int (-1), .int 0, .int 0, .ref m_inside, .ref m_can, .ref m_fewest, .ref m_waysTo, .ref m_then, .ref m_two, .ref m_nextTwo, .ref m_three, .ref m_nextThree, .int (-1), .ref m_worth, .ref m_digit, .int 0, .long 0, .int 0, .int 0, .int 0, .int 0, .long 0])), (m_courts, .inl (cm_courts, 5, .inl (fun _ => 0)))]) [0, 1] rfl
  have hDc := hD.sub (ws' := [(m0, .inr (10, [.int 0, .ref m_width, .ref m_many, .ref m_cells, .ref m_moved, .ref m_tape, .int 0, .int 0, .int 0, .int 0, .int 0, .long 0, .int 0, .int 0, .int 0, .int (-1), .ref m_lines, .ref m_hours, .ref m_courts, .ref m_in, .ref m_gates, .ref m_gate, .ref m_people, .ref m_at0, .ref m_stray, .ref m_set, .ref m_once, .ref m_truth, .ref m_known, .ref m_isKept, .int 0, .int (-1), .int 0, .int 0, .ref m_inside, .ref m_can, .ref m_fewest, .ref m_waysTo, .ref m_then, .ref m_two, .ref m_nextTwo, .ref m_three, .ref m_nextThree, .int (-1), .ref m_worth, .ref m_digit, .int 0, .long 0, .int 0, .int 0, .int 0, .int 0, .long 0])), (m_courts, .inl (cm_courts, 5, .inl (fun _ => 0)))]) [0, 1] (by decide) rfl
  have hKc := hK.sub (tys' := [(cm_courts, .int)]) [0] rfl
  have hFc := va_free (wc := [(m0, .inr (10, [.int 0, .ref m_width, .ref m_many, .ref m_cells, .ref m_moved, .ref m_tape, .int 0, .int 0, .int 0, .int 0, .int 0, .long 0, .int 0, .int 0, .int 0, .int (-1), .ref m_lines, .ref m_hours, .ref m_courts, .ref m_in, .ref m_gates, .ref m_gate, .ref m_people, .ref m_at0, .ref m_stray, .ref m_set, .ref m_once, .ref m_truth, .ref m_known, .ref m_isKept, .int 0, .int (-1), .int 0, .int 0, .ref m_inside, .ref m_can, .ref m_fewest, .ref m_waysTo, .ref m_then, .ref m_two, .ref m_nextTwo, .ref m_three, .ref m_nextThree, .int (-1), .ref m_worth, .ref m_digit, .int 0, .long 0, .int 0, .int 0, .int 0, .int 0, .long 0])), (m_courts, .inl (cm_courts, 5, .inl (fun _ => 0)))]) hD hS hA [0, 1] rfl
  refine va_calll (va_runV (As := [.int (xs (Int32.toNatClampNeg 1)), .int (xs (Int32.toNatClampNeg 2)), .int (xs (Int32.toNatClampNeg 3)), .int (xs (Int32.toNatClampNeg 4))]) (rest := [.long (-2)]) ⟨hx, hb, hml, hown, hts⟩ (k_X10_odds l dC dI m0 (xs (Int32.toNatClampNeg 1)) (xs (Int32.toNatClampNeg 2)) (xs (Int32.toNatClampNeg 3)) (xs (Int32.toNatClampNeg 4)) m_width m_many m_cells m_moved m_tape m_lines m_hours m_courts m_in m_gates m_gate m_people m_at0 m_stray m_set m_once m_truth m_known m_isKept m_inside m_can m_fewest m_waysTo m_then m_two m_nextTwo m_three m_nextThree m_worth m_digit cm_courts H.size) (cwV 4 hts (z_gV zw_t8_180 zw_t8_181 zw_t8_182 zw_t1_11 zw_t8_183) rfl rfl rfl (by decide +kernel) ⟨(Nat.le_of_ble_eq_true rfl), (Nat.le_of_ble_eq_true rfl)⟩) (z_preV hPc hKc hDc (ci := 10) (q0 := 0) rfl rfl) rfl rfl hl.1 rfl (lv_room (Nat.le_of_ble_eq_true rfl)) dL_law_1984 ⟨(Nat.le_of_ble_eq_true rfl), (Nat.le_of_ble_eq_true rfl)⟩) hS (fun q _ h => hFc q h) hFc (fun r_10 u t H1 locs ht hvm hw hB hz1 hk1 hS => ?_)
  have hB : zW dC dI [] [] (va_A [(m0, .inr (10, [.int 0, .ref m_width, .ref m_many, .ref m_cells, .ref m_moved, .ref m_tape, .int 0, .int 0, .int 0, .int 0, .int 0, .long 0, .int 0, .int 0, .int 0, .int (-1), .ref m_lines, .ref m_hours, .ref m_courts, .ref m_in, .ref m_gates, .ref m_gate, .ref m_people, .ref m_at0, .ref m_stray, .ref m_set, .ref m_once, .ref m_truth, .ref m_known, .ref m_isKept, .int 0, .int (-1), .int 0, .int 0, .ref m_inside, .ref m_can, .ref m_fewest, .ref m_waysTo, .ref m_then, .ref m_two, .ref m_nextTwo, .ref m_three, .ref m_nextThree, .int (-1), .ref m_worth, .ref m_digit, .int 0, .long 0, .int 0, .int 0, .int 0, .int 0, .long 0])), (m_courts, .inl (cm_courts, 5, .inl (fun _ => 0)))] H.size) t := z_none (va_K.moved hvm hK)
  obtain ⟨hP, hD, hK⟩ := z_after [] hB ht hvm hP hD hK [0, 1] [] rfl rfl (by decide) (by decide) hk1 hFc
  generalize H1 = H at hP hS ⊢
  have hP : va_P (dC, dI) vwCl [] H := hP
  have hD : va_D A [] := hD
  have hK : va_K (dC, dI) vwCl [(cm_courts, .int)] s := hK
  obtain rfl : r_10 = (-2) := hw
  refine W.lcmp hx hb dL_law_1987 ?_
  refine lv_topi (fun x_11 ex_11 => ?_)
  obtain rfl : x_11 = 0 := ex_11.trans (by decide)
  refine lv_if_eq (tgt := 2651) hx hb dL_law_1988 (by decide) (fun _ => ?_) (fun q => absurd q (by decide))
  exact law_tail C0 hA2 (Nat.le_of_ble_eq_true rfl) (Nat.le_of_ble_eq_true rfl) hS (lv_sub hl [0, 3] rfl)
set_option maxHeartbeats 4000000 in
set_option maxRecDepth 100000 in
theorem law_best {p : Program} {e : Env} {s : State} {m : MethodId} {below : List Frame} {meth : Method} {c : Code} {l : Launch} {b : Nat} {xs : Nat → Int32} (C0 : lw_At p s m meth c b 6 xs) {dC : Nat → ClassId} {dI : Nat → Nat → Nat} {A : Nat → Prop} (hA : ∀ q, s.heap.size ≤ q → A q) (hA2 : ∀ q, A q → s.heap.size ≤ q) {h0 : Nat} {tp : Nat} {nw : Nat} {im : Nat} {sl : Nat} {rd : Nat} {wk : Nat} {fm : Nat} {mt : Nat} {ch : Nat} {dy : Nat} {tn : Nat} {ta0 : Nat} {ta1 : Nat} {ta2 : Nat} {ta3 : Nat} {ta4 : Nat} {ta5 : Nat} {ta6 : Nat} {ta7 : Nat} {ta8 : Nat} {ta9 : Nat} {m0 : Nat} {m_width : Nat} {m_many : Nat} {m_cells : Nat} {m_moved : Nat} {m_tape : Nat} {m_lines : Nat} {m_hours : Nat} {m_courts : Nat} {m_in : Nat} {m_gates : Nat} {m_gate : Nat} {m_people : Nat} {m_at0 : Nat} {m_stray : Nat} {m_set : Nat} {m_once : Nat} {m_truth : Nat} {m_known : Nat} {m_isKept : Nat} {m_inside : Nat} {m_can : Nat} {m_fewest : Nat} {m_waysTo : Nat} {m_then : Nat} {m_two : Nat} {m_nextTwo : Nat} {m_three : Nat} {m_nextThree : Nat} {m_worth : Nat} {m_digit : Nat} {cm_courts : ClassId}  {H : Heap} {locs : List Loc} {ls : Array Slot} (hP : va_P (dC, dI) vwCl [(h0, .inr (9, [.ref tp, .int 0, .int 0, .int (-1), .ref nw, .ref im, .ref sl, .ref rd, .ref wk, .ref fm, .ref mt, .ref ch, .ref dy])), (nw, .inr (3, [.int 0, .ref tn, .int 0, .int 0, .int 0, .int 0])), (tn, .inr (7, [.int 0, .int 0, .int 0, .int 0, .int 0, .int 0, .int 0, .int 0, .ref ta0, .ref ta1, .ref ta2, .ref ta3, .ref ta4, .ref ta5, .ref ta6, .ref ta7, .ref ta8, .ref ta9])), (m0, .inr (10, [.int 0, .ref m_width, .ref m_many, .ref m_cells, .ref m_moved, .ref m_tape, .int 0, .int 0, .int 0, .int 0, .int 0, .long 0, .int 0, .int 0, .int 0, .int (-1), .ref m_lines, .ref m_hours, .ref m_courts, .ref m_in, .ref m_gates, .ref m_gate, .ref m_people, .ref m_at0, .ref m_stray, .ref m_set, .ref m_once, .ref m_truth, .ref m_known, .ref m_isKept, .int 0, .int (-1), .int 0, .int 0, .ref m_inside, .ref m_can, .ref m_fewest, .ref m_waysTo, .ref m_then, .ref m_two, .ref m_nextTwo, .ref m_three, .ref m_nextThree, .int (-1), .ref m_worth, .ref m_digit, .int 0, .long 0, .int 0, .int 0, .int 0, .int 0, .long 0])), (m_courts, .inl (cm_courts, 5, .inl (fun _ => 0)))] H) (hD : va_D A [(h0, .inr (9, [.ref tp, .int 0, .int 0, .int (-1), .ref nw, .ref im, .ref sl, .ref rd, .ref wk, .ref fm, .ref mt, .ref ch, .ref dy])), (nw, .inr (3, [.int 0, .ref tn, .int 0, .int 0, .int 0, .int 0])), (tn, .inr (7, [.int 0, .int 0, .int 0, .int 0, .int 0, .int 0, .int 0, .int 0, .ref ta0, .ref ta1, .ref ta2, .ref ta3, .ref ta4, .ref ta5, .ref ta6, .ref ta7, .ref ta8, .ref ta9])), (m0, .inr (10, [.int 0, .ref m_width, .ref m_many, .ref m_cells, .ref m_moved, .ref m_tape, .int 0, .int 0, .int 0, .int 0, .int 0, .long 0, .int 0, .int 0, .int 0, .int (-1), .ref m_lines, .ref m_hours, .ref m_courts, .ref m_in, .ref m_gates, .ref m_gate, .ref m_people, .ref m_at0, .ref m_stray, .ref m_set, .ref m_once, .ref m_truth, .ref m_known, .ref m_isKept, .int 0, .int (-1), .int 0, .int 0, .ref m_inside, .ref m_can, .ref m_fewest, .ref m_waysTo, .ref m_then, .ref m_two, .ref m_nextTwo, .ref m_three, .ref m_nextThree, .int (-1), .ref m_worth, .ref m_digit, .int 0, .long 0, .int 0, .int 0, .int 0, .int 0, .long 0])), (m_courts, .inl (cm_courts, 5, .inl (fun _ => 0)))]) (hK : va_K (dC, dI) vwCl [(cm_courts, .int)] s) (hS : va_S A s.heap H locs) (hl : lv_has ls 4 [(3, .int 0), (2, .ref m0), (1, .ref h0), (0, .ref b)]) : W p l e room_1 s m #[Value.ref b] below meth c H locs 166 101284 (lw_Z below #[Value.ref b] s) (F0 m 1993 ls []) := by
  obtain ⟨hx, hb, hr, hml, hown, hts, hX, hbl, hlocks, hgv⟩ := id C0
  have hown : s.vm.findClass RL = some m.cls := hown
  have hb : c.code = cL_law := hb
  have hts : ∀ w ∈ zT, w.before #[Value.ref b] s = true := fun w h => hts w (zT_in w h)
  have hbA : ¬ A b := fun q => absurd (hA2 b q) (Nat.not_le.mpr hbl)
  refine lv_aload_n hx hb dL_law_1993 rfl (lv_at hl 2 rfl) ?_
  refine lv_aload_n hx hb dL_law_1994 rfl (lv_at hl 3 rfl) ?_
  refine lv_iload_n hx hb dL_law_1995 rfl (lv_at hl 0 rfl) ?_
  refine lv_iconst (v := 1) hx hb dL_law_1996 (by decide) ?_
  refine lv_iadd hx hb dL_law_1997 ?_
  refine lv_topi (fun x_1 ex_1 => ?_)
  obtain rfl : x_1 = 1 := ex_1.trans (by decide)
  refine va_sld hx hb hX hbl hbA hS (z_inC _ (k := 1) (by decide) (by decide)) dL_law_1998 ?_
  refine lv_aload_n hx hb dL_law_1999 rfl (lv_at hl 3 rfl) ?_
  refine lv_iload_n hx hb dL_law_2000 rfl (lv_at hl 0 rfl) ?_
  refine lv_iconst (v := 2) hx hb dL_law_2001 (by decide) ?_
  refine lv_iadd hx hb dL_law_2002 ?_
  refine lv_topi (fun x_2 ex_2 => ?_)
  obtain rfl : x_2 = 2 := ex_2.trans (by decide)
  refine va_sld hx hb hX hbl hbA hS (z_inC _ (k := 2) (by decide) (by decide)) dL_law_2003 ?_
  refine lv_aload_n hx hb dL_law_2004 rfl (lv_at hl 3 rfl) ?_
  refine lv_iload_n hx hb dL_law_2005 rfl (lv_at hl 0 rfl) ?_
  refine lv_iconst (v := 3) hx hb dL_law_2006 (by decide) ?_
  refine lv_iadd hx hb dL_law_2007 ?_
  refine lv_topi (fun x_3 ex_3 => ?_)
  obtain rfl : x_3 = 3 := ex_3.trans (by decide)
  refine va_sld hx hb hX hbl hbA hS (z_inC _ (k := 3) (by decide) (by decide)) dL_law_2008 ?_
  refine lv_aload_n hx hb dL_law_2009 rfl (lv_at hl 3 rfl) ?_
  refine lv_iload_n hx hb dL_law_2010 rfl (lv_at hl 0 rfl) ?_
  refine lv_iconst (v := 4) hx hb dL_law_2011 (by decide) ?_
  refine lv_iadd hx hb dL_law_2012 ?_
  refine lv_topi (fun x_4 ex_4 => ?_)
  obtain rfl : x_4 = 4 := ex_4.trans (by decide)
  refine va_sld hx hb hX hbl hbA hS (z_inC _ (k := 4) (by decide) (by decide)) dL_law_2013 ?_
  have hPc := hP.sub (ws' := [(h0, .inr (9, [.ref tp, .int 0, .int 0, .int (-1), .ref nw, .ref im, .ref sl, .ref rd, .ref wk, .ref fm, .ref mt, .ref ch, .ref dy])), (nw, .inr (3, [.int 0, .ref tn, .int 0, .int 0, .int 0, .int 0])), (tn, .inr (7, [.int 0, .int 0, .int 0, .int 0, .int 0, .int 0, .int 0, .int 0, .ref ta0, .ref ta1, .ref ta2, .ref ta3, .ref ta4, .ref ta5, .ref ta6, .ref ta7, .ref ta8, .ref ta9]))]) [0, 1, 2] rfl
  have hDc := hD.sub (ws' := [(h0, .inr (9, [.ref tp, .int 0, .int 0, .int (-1), .ref nw, .ref im, .ref sl, .ref rd, .ref wk, .ref fm, .ref mt, .ref ch, .ref dy])), (nw, .inr (3, [.int 0, .ref tn, .int 0, .int 0, .int 0, .int 0])), (tn, .inr (7, [.int 0, .int 0, .int 0, .int 0, .int 0, .int 0, .int 0, .int 0, .ref ta0, .ref ta1, .ref ta2, .ref ta3, .ref ta4, .ref ta5, .ref ta6, .ref ta7, .ref ta8, .ref ta9]))]) [0, 1, 2] (by decide) rfl
  have hKc := hK.sub (tys' := []) [] rfl
  have hFc := va_free (wc := [(h0, .inr (9, [.ref tp, .int 0, .int 0, .int (-1), .ref nw, .ref im, .ref sl, .ref rd, .ref wk, .ref fm, .ref mt, .ref ch, .ref dy])), (nw, .inr (3, [.int 0, .ref tn, .int 0, .int 0, .int 0, .int 0])), (tn, .inr (7, [.int 0, .int 0, .int 0, .int 0, .int 0, .int 0, .int 0, .int 0, .ref ta0, .ref ta1, .ref ta2, .ref ta3, .ref ta4, .ref ta5, .ref ta6, .ref ta7, .ref ta8, .ref ta9]))]) hD hS hA [0, 1, 2] rfl
  refine va_calli (va_runV (As := [.int (xs (Int32.toNatClampNeg 1)), .int (xs (Int32.toNatClampNeg 2)), .int (xs (Int32.toNatClampNeg 3)), .int (xs (Int32.toNatClampNeg 4))]) (rest := []) ⟨hx, hb, hml, hown, hts⟩ (k_X9_best l dC dI h0 (xs (Int32.toNatClampNeg 1)) (xs (Int32.toNatClampNeg 2)) (xs (Int32.toNatClampNeg 3)) (xs (Int32.toNatClampNeg 4)) tp nw im sl rd wk fm mt ch dy tn ta0 ta1 ta2 ta3 ta4 ta5 ta6 ta7 ta8 ta9 H.size) (cwV 4 hts (z_gV zw_t5_160 zw_t5_161 zw_t5_162 zw_t1_1 zw_t5_163) rfl rfl rfl (by decide +kernel) ⟨(Nat.le_of_ble_eq_true rfl), (Nat.le_of_ble_eq_true rfl)⟩) (z_preV hPc hKc hDc (ci := 9) (q0 := 0) rfl rfl) rfl rfl hl.1 rfl (lv_room (Nat.le_of_ble_eq_true rfl)) dL_law_2014 ⟨(Nat.le_of_ble_eq_true rfl), (Nat.le_of_ble_eq_true rfl)⟩) hS (fun q _ h => hFc q h) hFc (fun r_5 u t H1 locs ht hvm hw hB hz1 hk1 hS => ?_)
  have hB : zW dC dI [] [] (va_A [(h0, .inr (9, [.ref tp, .int 0, .int 0, .int (-1), .ref nw, .ref im, .ref sl, .ref rd, .ref wk, .ref fm, .ref mt, .ref ch, .ref dy])), (nw, .inr (3, [.int 0, .ref tn, .int 0, .int 0, .int 0, .int 0])), (tn, .inr (7, [.int 0, .int 0, .int 0, .int 0, .int 0, .int 0, .int 0, .int 0, .ref ta0, .ref ta1, .ref ta2, .ref ta3, .ref ta4, .ref ta5, .ref ta6, .ref ta7, .ref ta8, .ref ta9]))] H.size) t := z_none (va_K.moved hvm hK)
  obtain ⟨hP, hD, hK⟩ := z_after [(m0, .inr (10, [.int 0, .ref m_width, .ref m_many, .ref m_cells, .ref m_moved, .ref m_tape, .int 0, .int 0, .int 0, .int 0, .int 0, .long 0, .int 0, .int 0, .int 0, .int (-1), .ref m_lines, .ref m_hours, .ref m_courts, .ref m_in, .ref m_gates, .ref m_gate, .ref m_people, .ref m_at0, .ref m_stray, .ref m_set, .ref m_once, .ref m_truth, .ref m_known, .ref m_isKept, .int 0, .int (-1), .int 0, .int 0, .ref m_inside, .ref m_can, .ref m_fewest, .ref m_waysTo, .ref m_then, .ref m_two, .ref m_nextTwo, .ref m_three, .ref m_nextThree, .int (-1), .ref m_worth, .ref m_digit, .int 0, .long 0, .int 0, .int 0, .int 0, .int 0, .long 0])), (m_courts, .inl (cm_courts, 5, .inl (fun _ => 0)))] hB ht hvm hP hD hK [0, 1, 2] [3, 4] rfl rfl (by decide) (by decide) hk1 hFc
  generalize H1 = H at hP hS ⊢
  have hP : va_P (dC, dI) vwCl [(m0, .inr (10, [.int 0, .ref m_width, .ref m_many, .ref m_cells, .ref m_moved, .ref m_tape, .int 0, .int 0, .int 0, .int 0, .int 0, .long 0, .int 0, .int 0, .int 0, .int (-1), .ref m_lines, .ref m_hours, .ref m_courts, .ref m_in, .ref m_gates, .ref m_gate, .ref m_people, .ref m_at0, .ref m_stray, .ref m_set, .ref m_once, .ref m_truth, .ref m_known, .ref m_isKept, .int 0, .int (-1), .int 0, .int 0, .ref m_inside, .ref m_can, .ref m_fewest, .ref m_waysTo, .ref m_then, .ref m_two, .ref m_nextTwo, .ref m_three, .ref m_nextThree, .int (-1), .ref m_worth, .ref m_digit, .int 0, .long 0, .int 0, .int 0, .int 0, .int 0, .long 0])), (m_courts, .inl (cm_courts, 5, .inl (fun _ => 0)))] H := hP
  have hD : va_D A [(m0, .inr (10, [.int 0, .ref m_width, .ref m_many, .ref m_cells, .ref m_moved, .ref m_tape, .int 0, .int 0, .int 0, .int 0, .int 0, .long 0, .int 0, .int 0, .int 0, .int (-1), .ref m_lines, .ref m_hours, .ref m_courts, .ref m_in, .ref m_gates, .ref m_gate, .ref m_people, .ref m_at0, .ref m_stray, .ref m_set, .ref m_once, .ref m_truth, .ref m_known, .ref m_isKept, .int 0, .int (-1), .int 0, .int 0, .ref m_inside, .ref m_can, .ref m_fewest, .ref m_waysTo, .ref m_then, .ref m_two, .ref m_nextTwo, .ref m_three, .ref m_nextThree, .int (-1), .ref m_worth, .ref m_digit, .int 0, .long 0, .int 0, .int 0, .int 0, .int 0, .long 0])), (m_courts, .inl (cm_courts, 5, .inl (fun _ => 0)))] := hD
  have hK : va_K (dC, dI) vwCl [(cm_courts, .int)] s := hK
  obtain rfl : r_5 = (-2) := hw
  refine lv_aload_n hx hb dL_law_2017 rfl (lv_at hl 1 rfl) ?_
  refine lv_aload_n hx hb dL_law_2018 rfl (lv_at hl 3 rfl) ?_
  refine lv_iload_n hx hb dL_law_2019 rfl (lv_at hl 0 rfl) ?_
  refine lv_iconst (v := 1) hx hb dL_law_2020 (by decide) ?_
  refine lv_iadd hx hb dL_law_2021 ?_
  refine lv_topi (fun x_6 ex_6 => ?_)
  obtain rfl : x_6 = 1 := ex_6.trans (by decide)
  refine va_sld hx hb hX hbl hbA hS (z_inC _ (k := 1) (by decide) (by decide)) dL_law_2022 ?_
  refine lv_aload_n hx hb dL_law_2023 rfl (lv_at hl 3 rfl) ?_
  refine lv_iload_n hx hb dL_law_2024 rfl (lv_at hl 0 rfl) ?_
  refine lv_iconst (v := 2) hx hb dL_law_2025 (by decide) ?_
  refine lv_iadd hx hb dL_law_2026 ?_
  refine lv_topi (fun x_7 ex_7 => ?_)
  obtain rfl : x_7 = 2 := ex_7.trans (by decide)
  refine va_sld hx hb hX hbl hbA hS (z_inC _ (k := 2) (by decide) (by decide)) dL_law_2027 ?_
  refine lv_aload_n hx hb dL_law_2028 rfl (lv_at hl 3 rfl) ?_
  refine lv_iload_n hx hb dL_law_2029 rfl (lv_at hl 0 rfl) ?_
  refine lv_iconst (v := 3) hx hb dL_law_2030 (by decide) ?_
  refine lv_iadd hx hb dL_law_2031 ?_
  refine lv_topi (fun x_8 ex_8 => ?_)
  obtain rfl : x_8 = 3 := ex_8.trans (by decide)
  refine va_sld hx hb hX hbl hbA hS (z_inC _ (k := 3) (by decide) (by decide)) dL_law_2032 ?_
  refine lv_aload_n hx hb dL_law_2033 rfl (lv_at hl 3 rfl) ?_
  refine lv_iload_n hx hb dL_law_2034 rfl (lv_at hl 0 rfl) ?_
  refine lv_iconst (v := 4) hx hb dL_law_2035 (by decide) ?_
  refine lv_iadd hx hb dL_law_2036 ?_
  refine lv_topi (fun x_9 ex_9 => ?_)
  obtain rfl : x_9 = 4 := ex_9.trans (by decide)
  refine va_sld hx hb hX hbl hbA hS (z_inC _ (k := 4) (by decide) (by decide)) dL_law_2037 ?_
  have hPc := hP.sub (ws' := [(m0, .inr (10, [.int 0, .ref m_width, .ref m_many, .ref m_cells, .ref m_moved, .ref m_tape, .int 0, .int 0, .int 0, .int 0, .int 0, .long 0, .int 0, .int 0, .int 0, .int (-1), .ref m_lines, .ref m_hours, .ref m_courts, .ref m_in, .ref m_gates, .ref m_gate, .ref m_people, .ref m_at0, .ref m_stray, .ref m_set, .ref m_once, .ref m_truth, .ref m_known, .ref m_isKept, .int 0, .int (-1), .int 0, .int 0, .ref m_inside, .ref m_can, .ref m_fewest, .ref m_waysTo, .ref m_then, .ref m_two, .ref m_nextTwo, .ref m_three, .ref m_nextThree, .int (-1), .ref m_worth, .ref m_digit, .int 0, .long 0, .int 0, .int 0, .int 0, .int 0, .long 0])), (m_courts, .inl (cm_courts, 5, .inl (fun _ => 0)))]) [0, 1] rfl
  have hDc := hD.sub (ws' := [(m0, .inr (10, [.int 0, .ref m_width, .ref m_many, .ref m_cells, .ref m_moved, .ref m_tape, .int 0, .int 0, .int 0, .int 0, .int 0, .long 0, .int 0, .int 0, .int 0, .int (-1), .ref m_lines, .ref m_hours, .ref m_courts, .ref m_in, .ref m_gates, .ref m_gate, .ref m_people, .ref m_at0, .ref m_stray, .ref m_set, .ref m_once, .ref m_truth, .ref m_known, .ref m_isKept, .int 0, .int (-1), .int 0, .int 0, .ref m_inside, .ref m_can, .ref m_fewest, .ref m_waysTo, .ref m_then, .ref m_two, .ref m_nextTwo, .ref m_three, .ref m_nextThree, .int (-1), .ref m_worth, .ref m_digit, .int 0, .long 0, .int 0, .int 0, .int 0, .int 0, .long 0])), (m_courts, .inl (cm_courts, 5, .inl (fun _ => 0)))]) [0, 1] (by decide) rfl
  have hKc := hK.sub (tys' := [(cm_courts, .int)]) [0] rfl
  have hFc := va_free (wc := [(m0, .inr (10, [.int 0, .ref m_width, .ref m_many, .ref m_cells, .ref m_moved, .ref m_tape, .int 0, .int 0, .int 0, .int 0, .int 0, .long 0, .int 0, .int 0, .int 0, .int (-1), .ref m_lines, .ref m_hours, .ref m_courts, .ref m_in, .ref m_gates, .ref m_gate, .ref m_people, .ref m_at0, .ref m_stray, .ref m_set, .ref m_once, .ref m_truth, .ref m_known, .ref m_isKept, .int 0, .int (-1), .int 0, .int 0, .ref m_inside, .ref m_can, .ref m_fewest, .ref m_waysTo, .ref m_then, .ref m_two, .ref m_nextTwo, .ref m_three, .ref m_nextThree, .int (-1), .ref m_worth, .ref m_digit, .int 0, .long 0, .int 0, .int 0, .int 0, .int 0, .long 0])), (m_courts, .inl (cm_courts, 5, .inl (fun _ => 0)))]) hD hS hA [0, 1] rfl
  refine va_calli (va_runV (As := [.int (xs (Int32.toNatClampNeg 1)), .int (xs (Int32.toNatClampNeg 2)), .int (xs (Int32.toNatClampNeg 3)), .int (xs (Int32.toNatClampNeg 4))]) (rest := [.int (-2)]) ⟨hx, hb, hml, hown, hts⟩ (k_X10_best l dC dI m0 (xs (Int32.toNatClampNeg 1)) (xs (Int32.toNatClampNeg 2)) (xs (Int32.toNatClampNeg 3)) (xs (Int32.toNatClampNeg 4)) m_width m_many m_cells m_moved m_tape m_lines m_hours m_courts m_in m_gates m_gate m_people m_at0 m_stray m_set m_once m_truth m_known m_isKept m_inside m_can m_fewest m_waysTo m_then m_two m_nextTwo m_three m_nextThree m_worth m_digit cm_courts H.size) (cwV 4 hts (z_gV zw_t8_226 zw_t8_227 zw_t8_228 zw_t1_11 zw_t8_229) rfl rfl rfl (by decide +kernel) ⟨(Nat.le_of_ble_eq_true rfl), (Nat.le_of_ble_eq_true rfl)⟩) (z_preV hPc hKc hDc (ci := 10) (q0 := 0) rfl rfl) rfl rfl hl.1 rfl (lv_room (Nat.le_of_ble_eq_true rfl)) dL_law_2038 ⟨(Nat.le_of_ble_eq_true rfl), (Nat.le_of_ble_eq_true rfl)⟩) hS (fun q _ h => hFc q h) hFc (fun r_10 u t H1 locs ht hvm hw hB hz1 hk1 hS => ?_)
  have hB : zW dC dI [] [] (va_A [(m0, .inr (10, [.int 0, .ref m_width, .ref m_many, .ref m_cells, .ref m_moved, .ref m_tape, .int 0, .int 0, .int 0, .int 0, .int 0, .long 0, .int 0, .int 0, .int 0, .int (-1), .ref m_lines, .ref m_hours, .ref m_courts, .ref m_in, .ref m_gates, .ref m_gate, .ref m_people, .ref m_at0, .ref m_stray, .ref m_set, .ref m_once, .ref m_truth, .ref m_known, .ref m_isKept, .int 0, .int (-1), .int 0, .int 0, .ref m_inside, .ref m_can, .ref m_fewest, .ref m_waysTo, .ref m_then, .ref m_two, .ref m_nextTwo, .ref m_three, .ref m_nextThree, .int (-1), .ref m_worth, .ref m_digit, .int 0, .long 0, .int 0, .int 0, .int 0, .int 0, .long 0])), (m_courts, .inl (cm_courts, 5, .inl (fun _ => 0)))] H.size) t := z_none (va_K.moved hvm hK)
  obtain ⟨hP, hD, hK⟩ := z_after [] hB ht hvm hP hD hK [0, 1] [] rfl rfl (by decide) (by decide) hk1 hFc
  generalize H1 = H at hP hS ⊢
  have hP : va_P (dC, dI) vwCl [] H := hP
  have hD : va_D A [] := hD
  have hK : va_K (dC, dI) vwCl [(cm_courts, .int)] s := hK
  obtain rfl : r_10 = (-2) := hw
  refine lv_icmp_eq (tgt := 2651) hx hb dL_law_2041 (by decide) (fun _ => ?_) (fun q => absurd q (by decide))
  exact law_tail C0 hA2 (Nat.le_of_ble_eq_true rfl) (Nat.le_of_ble_eq_true rfl) hS (lv_sub hl [0, 3] rfl)
