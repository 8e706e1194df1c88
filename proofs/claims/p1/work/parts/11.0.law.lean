theorem zw_t2_229 : Cond.methodLink RL 13 yX9_feed ∈ zT := zt_2 (List.mem_of_getElem? (i := 229) (by decide +kernel)) (by decide +kernel)
theorem zw_t2_230 : Cond.instanceMethod yX9_feed ∈ zT := zt_2 (List.mem_of_getElem? (i := 230) (by decide +kernel)) (by decide +kernel)
theorem zw_t2_231 : Cond.selects RX9 yX9_feed yX9_feed ∈ zT := zt_2 (List.mem_of_getElem? (i := 231) (by decide +kernel)) (by decide +kernel)
theorem zw_t2_232 : Cond.code yX9_feed cX9_feed 6 (some .int) ∈ zT := zt_2 (List.mem_of_getElem? (i := 232) (by decide +kernel)) (by decide +kernel)
theorem zw_t2_237 : Cond.methodLink RL 18 yX9_end ∈ zT := zt_2 (List.mem_of_getElem? (i := 237) (by decide +kernel)) (by decide +kernel)
theorem zw_t2_238 : Cond.instanceMethod yX9_end ∈ zT := zt_2 (List.mem_of_getElem? (i := 238) (by decide +kernel)) (by decide +kernel)
theorem zw_t2_239 : Cond.selects RX9 yX9_end yX9_end ∈ zT := zt_2 (List.mem_of_getElem? (i := 239) (by decide +kernel)) (by decide +kernel)
theorem zw_t3_0 : Cond.code yX9_end cX9_end 2 (some .int) ∈ zT := zt_3 (List.mem_of_getElem? (i := 0) (by decide +kernel)) (by decide +kernel)
theorem zw_t3_1 : Cond.methodLink RL 23 yX9_town ∈ zT := zt_3 (List.mem_of_getElem? (i := 1) (by decide +kernel)) (by decide +kernel)
theorem zw_t3_161 : Cond.methodLink RL 28 yX9_fault ∈ zT := zt_3 (List.mem_of_getElem? (i := 161) (by decide +kernel)) (by decide +kernel)
theorem zw_t3_162 : Cond.instanceMethod yX9_fault ∈ zT := zt_3 (List.mem_of_getElem? (i := 162) (by decide +kernel)) (by decide +kernel)
theorem zw_t3_163 : Cond.selects RX9 yX9_fault yX9_fault ∈ zT := zt_3 (List.mem_of_getElem? (i := 163) (by decide +kernel)) (by decide +kernel)
theorem zw_t3_164 : Cond.code yX9_fault cX9_fault 2 (some .int) ∈ zT := zt_3 (List.mem_of_getElem? (i := 164) (by decide +kernel)) (by decide +kernel)
theorem zw_t3_165 : Cond.methodLink RL 32 yX9_names ∈ zT := zt_3 (List.mem_of_getElem? (i := 165) (by decide +kernel)) (by decide +kernel)
theorem zw_t3_166 : Cond.instanceMethod yX9_names ∈ zT := zt_3 (List.mem_of_getElem? (i := 166) (by decide +kernel)) (by decide +kernel)
theorem zw_t3_167 : Cond.selects RX9 yX9_names yX9_names ∈ zT := zt_3 (List.mem_of_getElem? (i := 167) (by decide +kernel)) (by decide +kernel)
theorem zw_t3_168 : Cond.code yX9_names cX9_names 3 (some .int) ∈ zT := zt_3 (List.mem_of_getElem? (i := 168) (by decide +kernel)) (by decide +kernel)
theorem zw_t3_173 : Cond.methodLink RL 36 yX9_strayed ∈ zT := zt_3 (List.mem_of_getElem? (i := 173) (by decide +kernel)) (by decide +kernel)
theorem zw_t3_174 : Cond.instanceMethod yX9_strayed ∈ zT := zt_3 (List.mem_of_getElem? (i := 174) (by decide +kernel)) (by decide +kernel)
theorem zw_t3_175 : Cond.selects RX9 yX9_strayed yX9_strayed ∈ zT := zt_3 (List.mem_of_getElem? (i := 175) (by decide +kernel)) (by decide +kernel)
theorem zw_t3_176 : Cond.code yX9_strayed cX9_strayed 3 (some .int) ∈ zT := zt_3 (List.mem_of_getElem? (i := 176) (by decide +kernel)) (by decide +kernel)
theorem zw_t3_177 : Cond.methodLink RL 40 yX9_where ∈ zT := zt_3 (List.mem_of_getElem? (i := 177) (by decide +kernel)) (by decide +kernel)
theorem zw_t3_178 : Cond.instanceMethod yX9_where ∈ zT := zt_3 (List.mem_of_getElem? (i := 178) (by decide +kernel)) (by decide +kernel)
theorem zw_t3_179 : Cond.selects RX9 yX9_where yX9_where ∈ zT := zt_3 (List.mem_of_getElem? (i := 179) (by decide +kernel)) (by decide +kernel)
theorem zw_t3_180 : Cond.code yX9_where cX9_where 4 (some .int) ∈ zT := zt_3 (List.mem_of_getElem? (i := 180) (by decide +kernel)) (by decide +kernel)
theorem zw_t3_193 : Cond.methodLink RL 45 yX9_within ∈ zT := zt_3 (List.mem_of_getElem? (i := 193) (by decide +kernel)) (by decide +kernel)
theorem zw_t3_194 : Cond.instanceMethod yX9_within ∈ zT := zt_3 (List.mem_of_getElem? (i := 194) (by decide +kernel)) (by decide +kernel)
theorem zw_t3_195 : Cond.selects RX9 yX9_within yX9_within ∈ zT := zt_3 (List.mem_of_getElem? (i := 195) (by decide +kernel)) (by decide +kernel)
theorem zw_t3_196 : Cond.code yX9_within cX9_within 4 (some .int) ∈ zT := zt_3 (List.mem_of_getElem? (i := 196) (by decide +kernel)) (by decide +kernel)
theorem zw_t3_2 : Cond.instanceMethod yX9_town ∈ zT := zt_3 (List.mem_of_getElem? (i := 2) (by decide +kernel)) (by decide +kernel)
theorem zw_t3_211 : Cond.methodLink RL 49 yX9_depth ∈ zT := zt_3 (List.mem_of_getElem? (i := 211) (by decide +kernel)) (by decide +kernel)
theorem zw_t3_212 : Cond.instanceMethod yX9_depth ∈ zT := zt_3 (List.mem_of_getElem? (i := 212) (by decide +kernel)) (by decide +kernel)
theorem zw_t3_213 : Cond.selects RX9 yX9_depth yX9_depth ∈ zT := zt_3 (List.mem_of_getElem? (i := 213) (by decide +kernel)) (by decide +kernel)
theorem zw_t3_214 : Cond.code yX9_depth cX9_depth 2 (some .int) ∈ zT := zt_3 (List.mem_of_getElem? (i := 214) (by decide +kernel)) (by decide +kernel)
theorem zw_t3_221 : Cond.methodLink RL 53 yX9_lies ∈ zT := zt_3 (List.mem_of_getElem? (i := 221) (by decide +kernel)) (by decide +kernel)
theorem zw_t3_222 : Cond.instanceMethod yX9_lies ∈ zT := zt_3 (List.mem_of_getElem? (i := 222) (by decide +kernel)) (by decide +kernel)
theorem zw_t3_223 : Cond.selects RX9 yX9_lies yX9_lies ∈ zT := zt_3 (List.mem_of_getElem? (i := 223) (by decide +kernel)) (by decide +kernel)
theorem zw_t3_224 : Cond.code yX9_lies cX9_lies 4 (some .int) ∈ zT := zt_3 (List.mem_of_getElem? (i := 224) (by decide +kernel)) (by decide +kernel)
theorem zw_t3_229 : Cond.methodLink RL 57 yX9_leads ∈ zT := zt_3 (List.mem_of_getElem? (i := 229) (by decide +kernel)) (by decide +kernel)
theorem zw_t3_230 : Cond.instanceMethod yX9_leads ∈ zT := zt_3 (List.mem_of_getElem? (i := 230) (by decide +kernel)) (by decide +kernel)
theorem zw_t3_231 : Cond.selects RX9 yX9_leads yX9_leads ∈ zT := zt_3 (List.mem_of_getElem? (i := 231) (by decide +kernel)) (by decide +kernel)
theorem zw_t3_232 : Cond.code yX9_leads cX9_leads 4 (some .int) ∈ zT := zt_3 (List.mem_of_getElem? (i := 232) (by decide +kernel)) (by decide +kernel)
theorem zw_t3_3 : Cond.selects RX9 yX9_town yX9_town ∈ zT := zt_3 (List.mem_of_getElem? (i := 3) (by decide +kernel)) (by decide +kernel)
theorem zw_t3_4 : Cond.code yX9_town cX9_town 2 (some .int) ∈ zT := zt_3 (List.mem_of_getElem? (i := 4) (by decide +kernel)) (by decide +kernel)
theorem zw_t4_1 : Cond.methodLink RL 61 yX9_opens ∈ zT := zt_4 (List.mem_of_getElem? (i := 1) (by decide +kernel)) (by decide +kernel)
theorem zw_t4_13 : Cond.methodLink RL 66 yX9_keys ∈ zT := zt_4 (List.mem_of_getElem? (i := 13) (by decide +kernel)) (by decide +kernel)
theorem zw_t4_14 : Cond.instanceMethod yX9_keys ∈ zT := zt_4 (List.mem_of_getElem? (i := 14) (by decide +kernel)) (by decide +kernel)
theorem zw_t4_15 : Cond.selects RX9 yX9_keys yX9_keys ∈ zT := zt_4 (List.mem_of_getElem? (i := 15) (by decide +kernel)) (by decide +kernel)
theorem zw_t4_16 : Cond.code yX9_keys cX9_keys 6 (some .int) ∈ zT := zt_4 (List.mem_of_getElem? (i := 16) (by decide +kernel)) (by decide +kernel)
theorem zw_t4_17 : Cond.methodLink RL 71 yX9_soonest ∈ zT := zt_4 (List.mem_of_getElem? (i := 17) (by decide +kernel)) (by decide +kernel)
theorem zw_t4_18 : Cond.instanceMethod yX9_soonest ∈ zT := zt_4 (List.mem_of_getElem? (i := 18) (by decide +kernel)) (by decide +kernel)
theorem zw_t4_19 : Cond.selects RX9 yX9_soonest yX9_soonest ∈ zT := zt_4 (List.mem_of_getElem? (i := 19) (by decide +kernel)) (by decide +kernel)
theorem zw_t4_2 : Cond.instanceMethod yX9_opens ∈ zT := zt_4 (List.mem_of_getElem? (i := 2) (by decide +kernel)) (by decide +kernel)
theorem zw_t4_20 : Cond.code yX9_soonest cX9_soonest 4 (some .int) ∈ zT := zt_4 (List.mem_of_getElem? (i := 20) (by decide +kernel)) (by decide +kernel)
theorem zw_t4_3 : Cond.selects RX9 yX9_opens yX9_opens ∈ zT := zt_4 (List.mem_of_getElem? (i := 3) (by decide +kernel)) (by decide +kernel)
theorem zw_t4_4 : Cond.code yX9_opens cX9_opens 7 (some .int) ∈ zT := zt_4 (List.mem_of_getElem? (i := 4) (by decide +kernel)) (by decide +kernel)
theorem zw_t7_157 : Cond.methodLink RL 35 yX10_names ∈ zT := zt_7 (List.mem_of_getElem? (i := 157) (by decide +kernel)) (by decide +kernel)
theorem zw_t7_158 : Cond.instanceMethod yX10_names ∈ zT := zt_7 (List.mem_of_getElem? (i := 158) (by decide +kernel)) (by decide +kernel)
theorem zw_t7_159 : Cond.selects RX10 yX10_names yX10_names ∈ zT := zt_7 (List.mem_of_getElem? (i := 159) (by decide +kernel)) (by decide +kernel)
theorem zw_t7_160 : Cond.code yX10_names cX10_names 3 (some .int) ∈ zT := zt_7 (List.mem_of_getElem? (i := 160) (by decide +kernel)) (by decide +kernel)
theorem zw_t7_165 : Cond.methodLink RL 39 yX10_strayed ∈ zT := zt_7 (List.mem_of_getElem? (i := 165) (by decide +kernel)) (by decide +kernel)
theorem zw_t7_166 : Cond.instanceMethod yX10_strayed ∈ zT := zt_7 (List.mem_of_getElem? (i := 166) (by decide +kernel)) (by decide +kernel)
theorem zw_t7_167 : Cond.selects RX10 yX10_strayed yX10_strayed ∈ zT := zt_7 (List.mem_of_getElem? (i := 167) (by decide +kernel)) (by decide +kernel)
theorem zw_t7_168 : Cond.code yX10_strayed cX10_strayed 3 (some .int) ∈ zT := zt_7 (List.mem_of_getElem? (i := 168) (by decide +kernel)) (by decide +kernel)
theorem zw_t7_173 : Cond.methodLink RL 44 yX10_where ∈ zT := zt_7 (List.mem_of_getElem? (i := 173) (by decide +kernel)) (by decide +kernel)
theorem zw_t7_174 : Cond.instanceMethod yX10_where ∈ zT := zt_7 (List.mem_of_getElem? (i := 174) (by decide +kernel)) (by decide +kernel)
theorem zw_t7_175 : Cond.selects RX10 yX10_where yX10_where ∈ zT := zt_7 (List.mem_of_getElem? (i := 175) (by decide +kernel)) (by decide +kernel)
theorem zw_t7_176 : Cond.code yX10_where cX10_where 3 (some .int) ∈ zT := zt_7 (List.mem_of_getElem? (i := 176) (by decide +kernel)) (by decide +kernel)
theorem zw_t7_193 : Cond.methodLink RL 48 yX10_within ∈ zT := zt_7 (List.mem_of_getElem? (i := 193) (by decide +kernel)) (by decide +kernel)
theorem zw_t7_194 : Cond.instanceMethod yX10_within ∈ zT := zt_7 (List.mem_of_getElem? (i := 194) (by decide +kernel)) (by decide +kernel)
theorem zw_t7_195 : Cond.selects RX10 yX10_within yX10_within ∈ zT := zt_7 (List.mem_of_getElem? (i := 195) (by decide +kernel)) (by decide +kernel)
theorem zw_t7_196 : Cond.code yX10_within cX10_within 3 (some .int) ∈ zT := zt_7 (List.mem_of_getElem? (i := 196) (by decide +kernel)) (by decide +kernel)
theorem zw_t7_217 : Cond.methodLink RL 52 yX10_depth ∈ zT := zt_7 (List.mem_of_getElem? (i := 217) (by decide +kernel)) (by decide +kernel)
theorem zw_t7_218 : Cond.instanceMethod yX10_depth ∈ zT := zt_7 (List.mem_of_getElem? (i := 218) (by decide +kernel)) (by decide +kernel)
theorem zw_t7_219 : Cond.selects RX10 yX10_depth yX10_depth ∈ zT := zt_7 (List.mem_of_getElem? (i := 219) (by decide +kernel)) (by decide +kernel)
theorem zw_t7_220 : Cond.code yX10_depth cX10_depth 4 (some .int) ∈ zT := zt_7 (List.mem_of_getElem? (i := 220) (by decide +kernel)) (by decide +kernel)
theorem zw_t7_221 : Cond.methodLink RL 56 yX10_lies ∈ zT := zt_7 (List.mem_of_getElem? (i := 221) (by decide +kernel)) (by decide +kernel)
theorem zw_t7_222 : Cond.instanceMethod yX10_lies ∈ zT := zt_7 (List.mem_of_getElem? (i := 222) (by decide +kernel)) (by decide +kernel)
theorem zw_t7_223 : Cond.selects RX10 yX10_lies yX10_lies ∈ zT := zt_7 (List.mem_of_getElem? (i := 223) (by decide +kernel)) (by decide +kernel)
theorem zw_t7_224 : Cond.code yX10_lies cX10_lies 3 (some .int) ∈ zT := zt_7 (List.mem_of_getElem? (i := 224) (by decide +kernel)) (by decide +kernel)
theorem zw_t7_225 : Cond.methodLink RL 60 yX10_leads ∈ zT := zt_7 (List.mem_of_getElem? (i := 225) (by decide +kernel)) (by decide +kernel)
theorem zw_t7_226 : Cond.instanceMethod yX10_leads ∈ zT := zt_7 (List.mem_of_getElem? (i := 226) (by decide +kernel)) (by decide +kernel)
theorem zw_t7_227 : Cond.selects RX10 yX10_leads yX10_leads ∈ zT := zt_7 (List.mem_of_getElem? (i := 227) (by decide +kernel)) (by decide +kernel)
theorem zw_t7_228 : Cond.code yX10_leads cX10_leads 3 (some .int) ∈ zT := zt_7 (List.mem_of_getElem? (i := 228) (by decide +kernel)) (by decide +kernel)
theorem zw_t7_237 : Cond.methodLink RL 65 yX10_opens ∈ zT := zt_7 (List.mem_of_getElem? (i := 237) (by decide +kernel)) (by decide +kernel)
theorem zw_t7_238 : Cond.instanceMethod yX10_opens ∈ zT := zt_7 (List.mem_of_getElem? (i := 238) (by decide +kernel)) (by decide +kernel)
theorem zw_t7_239 : Cond.selects RX10 yX10_opens yX10_opens ∈ zT := zt_7 (List.mem_of_getElem? (i := 239) (by decide +kernel)) (by decide +kernel)
theorem zw_t7_43 : Cond.methodLink RL 17 yX10_feed ∈ zT := zt_7 (List.mem_of_getElem? (i := 43) (by decide +kernel)) (by decide +kernel)
theorem zw_t7_44 : Cond.instanceMethod yX10_feed ∈ zT := zt_7 (List.mem_of_getElem? (i := 44) (by decide +kernel)) (by decide +kernel)
theorem zw_t7_45 : Cond.selects RX10 yX10_feed yX10_feed ∈ zT := zt_7 (List.mem_of_getElem? (i := 45) (by decide +kernel)) (by decide +kernel)
theorem zw_t7_46 : Cond.code yX10_feed cX10_feed 6 (some .int) ∈ zT := zt_7 (List.mem_of_getElem? (i := 46) (by decide +kernel)) (by decide +kernel)
theorem zw_t7_51 : Cond.methodLink RL 22 yX10_end ∈ zT := zt_7 (List.mem_of_getElem? (i := 51) (by decide +kernel)) (by decide +kernel)
theorem zw_t7_52 : Cond.instanceMethod yX10_end ∈ zT := zt_7 (List.mem_of_getElem? (i := 52) (by decide +kernel)) (by decide +kernel)
theorem zw_t7_53 : Cond.selects RX10 yX10_end yX10_end ∈ zT := zt_7 (List.mem_of_getElem? (i := 53) (by decide +kernel)) (by decide +kernel)
theorem zw_t7_54 : Cond.code yX10_end cX10_end 2 (some .int) ∈ zT := zt_7 (List.mem_of_getElem? (i := 54) (by decide +kernel)) (by decide +kernel)
theorem zw_t7_55 : Cond.methodLink RL 31 yX10_fault ∈ zT := zt_7 (List.mem_of_getElem? (i := 55) (by decide +kernel)) (by decide +kernel)
theorem zw_t7_56 : Cond.instanceMethod yX10_fault ∈ zT := zt_7 (List.mem_of_getElem? (i := 56) (by decide +kernel)) (by decide +kernel)
theorem zw_t7_57 : Cond.selects RX10 yX10_fault yX10_fault ∈ zT := zt_7 (List.mem_of_getElem? (i := 57) (by decide +kernel)) (by decide +kernel)
theorem zw_t7_58 : Cond.code yX10_fault cX10_fault 2 (some .int) ∈ zT := zt_7 (List.mem_of_getElem? (i := 58) (by decide +kernel)) (by decide +kernel)
theorem zw_t7_59 : Cond.methodLink RL 27 yX10_town ∈ zT := zt_7 (List.mem_of_getElem? (i := 59) (by decide +kernel)) (by decide +kernel)
theorem zw_t7_60 : Cond.instanceMethod yX10_town ∈ zT := zt_7 (List.mem_of_getElem? (i := 60) (by decide +kernel)) (by decide +kernel)
theorem zw_t7_61 : Cond.selects RX10 yX10_town yX10_town ∈ zT := zt_7 (List.mem_of_getElem? (i := 61) (by decide +kernel)) (by decide +kernel)
theorem zw_t7_62 : Cond.code yX10_town cX10_town 1 (some .int) ∈ zT := zt_7 (List.mem_of_getElem? (i := 62) (by decide +kernel)) (by decide +kernel)
theorem zw_t8_0 : Cond.code yX10_opens cX10_opens 6 (some .int) ∈ zT := zt_8 (List.mem_of_getElem? (i := 0) (by decide +kernel)) (by decide +kernel)
theorem zw_t8_1 : Cond.methodLink RL 70 yX10_keys ∈ zT := zt_8 (List.mem_of_getElem? (i := 1) (by decide +kernel)) (by decide +kernel)
theorem zw_t8_2 : Cond.instanceMethod yX10_keys ∈ zT := zt_8 (List.mem_of_getElem? (i := 2) (by decide +kernel)) (by decide +kernel)
theorem zw_t8_3 : Cond.selects RX10 yX10_keys yX10_keys ∈ zT := zt_8 (List.mem_of_getElem? (i := 3) (by decide +kernel)) (by decide +kernel)
theorem zw_t8_4 : Cond.code yX10_keys cX10_keys 5 (some .int) ∈ zT := zt_8 (List.mem_of_getElem? (i := 4) (by decide +kernel)) (by decide +kernel)
theorem zw_t8_5 : Cond.methodLink RL 74 yX10_soonest ∈ zT := zt_8 (List.mem_of_getElem? (i := 5) (by decide +kernel)) (by decide +kernel)
theorem zw_t8_6 : Cond.instanceMethod yX10_soonest ∈ zT := zt_8 (List.mem_of_getElem? (i := 6) (by decide +kernel)) (by decide +kernel)
theorem zw_t8_7 : Cond.selects RX10 yX10_soonest yX10_soonest ∈ zT := zt_8 (List.mem_of_getElem? (i := 7) (by decide +kernel)) (by decide +kernel)
theorem zw_t8_8 : Cond.code yX10_soonest cX10_soonest 4 (some .int) ∈ zT := zt_8 (List.mem_of_getElem? (i := 8) (by decide +kernel)) (by decide +kernel)
theorem dL_law_272 : decode cL_law 272 = .ok (.aload_n 1, 1) := by decide +kernel
theorem dL_law_273 : decode cL_law 273 = .ok (.aload_n 0, 1) := by decide +kernel
theorem dL_law_274 : decode cL_law 274 = .ok (.iload_n 3, 1) := by decide +kernel
theorem dL_law_275 : decode cL_law 275 = .ok (.iconst 1, 1) := by decide +kernel
theorem dL_law_276 : decode cL_law 276 = .ok (.iadd, 1) := by decide +kernel
theorem dL_law_277 : decode cL_law 277 = .ok (.iaload, 1) := by decide +kernel
theorem dL_law_278 : decode cL_law 278 = .ok (.aload_n 0, 1) := by decide +kernel
theorem dL_law_279 : decode cL_law 279 = .ok (.iload_n 3, 1) := by decide +kernel
theorem dL_law_280 : decode cL_law 280 = .ok (.iconst 2, 1) := by decide +kernel
theorem dL_law_281 : decode cL_law 281 = .ok (.iadd, 1) := by decide +kernel
theorem dL_law_282 : decode cL_law 282 = .ok (.iaload, 1) := by decide +kernel
theorem dL_law_283 : decode cL_law 283 = .ok (.aload_n 0, 1) := by decide +kernel
theorem dL_law_284 : decode cL_law 284 = .ok (.iload_n 3, 1) := by decide +kernel
theorem dL_law_285 : decode cL_law 285 = .ok (.iconst 3, 1) := by decide +kernel
theorem dL_law_286 : decode cL_law 286 = .ok (.iadd, 1) := by decide +kernel
theorem dL_law_287 : decode cL_law 287 = .ok (.iaload, 1) := by decide +kernel
theorem dL_law_288 : decode cL_law 288 = .ok (.aload_n 0, 1) := by decide +kernel
theorem dL_law_289 : decode cL_law 289 = .ok (.iload_n 3, 1) := by decide +kernel
theorem dL_law_290 : decode cL_law 290 = .ok (.iconst 4, 1) := by decide +kernel
theorem dL_law_291 : decode cL_law 291 = .ok (.iadd, 1) := by decide +kernel
theorem dL_law_292 : decode cL_law 292 = .ok (.iaload, 1) := by decide +kernel
theorem dL_law_293 : decode cL_law 293 = .ok (.aload_n 0, 1) := by decide +kernel
theorem dL_law_294 : decode cL_law 294 = .ok (.iload_n 3, 1) := by decide +kernel
theorem dL_law_295 : decode cL_law 295 = .ok (.iconst 5, 1) := by decide +kernel
theorem dL_law_296 : decode cL_law 296 = .ok (.iadd, 1) := by decide +kernel
theorem dL_law_297 : decode cL_law 297 = .ok (.iaload, 1) := by decide +kernel
theorem dL_law_298 : decode cL_law 298 = .ok (.invokevirtual 13, 3) := by decide +kernel
theorem dL_law_301 : decode cL_law 301 = .ok (.aload_n 2, 1) := by decide +kernel
theorem dL_law_302 : decode cL_law 302 = .ok (.aload_n 0, 1) := by decide +kernel
theorem dL_law_303 : decode cL_law 303 = .ok (.iload_n 3, 1) := by decide +kernel
theorem dL_law_304 : decode cL_law 304 = .ok (.iconst 1, 1) := by decide +kernel
theorem dL_law_305 : decode cL_law 305 = .ok (.iadd, 1) := by decide +kernel
theorem dL_law_306 : decode cL_law 306 = .ok (.iaload, 1) := by decide +kernel
theorem dL_law_307 : decode cL_law 307 = .ok (.aload_n 0, 1) := by decide +kernel
theorem dL_law_308 : decode cL_law 308 = .ok (.iload_n 3, 1) := by decide +kernel
theorem dL_law_309 : decode cL_law 309 = .ok (.iconst 2, 1) := by decide +kernel
theorem dL_law_310 : decode cL_law 310 = .ok (.iadd, 1) := by decide +kernel
theorem dL_law_311 : decode cL_law 311 = .ok (.iaload, 1) := by decide +kernel
theorem dL_law_312 : decode cL_law 312 = .ok (.aload_n 0, 1) := by decide +kernel
theorem dL_law_313 : decode cL_law 313 = .ok (.iload_n 3, 1) := by decide +kernel
theorem dL_law_314 : decode cL_law 314 = .ok (.iconst 3, 1) := by decide +kernel
theorem dL_law_315 : decode cL_law 315 = .ok (.iadd, 1) := by decide +kernel
theorem dL_law_316 : decode cL_law 316 = .ok (.iaload, 1) := by decide +kernel
theorem dL_law_317 : decode cL_law 317 = .ok (.aload_n 0, 1) := by decide +kernel
theorem dL_law_318 : decode cL_law 318 = .ok (.iload_n 3, 1) := by decide +kernel
theorem dL_law_319 : decode cL_law 319 = .ok (.iconst 4, 1) := by decide +kernel
theorem dL_law_320 : decode cL_law 320 = .ok (.iadd, 1) := by decide +kernel
theorem dL_law_321 : decode cL_law 321 = .ok (.iaload, 1) := by decide +kernel
theorem dL_law_322 : decode cL_law 322 = .ok (.aload_n 0, 1) := by decide +kernel
theorem dL_law_323 : decode cL_law 323 = .ok (.iload_n 3, 1) := by decide +kernel
theorem dL_law_324 : decode cL_law 324 = .ok (.iconst 5, 1) := by decide +kernel
theorem dL_law_325 : decode cL_law 325 = .ok (.iadd, 1) := by decide +kernel
theorem dL_law_326 : decode cL_law 326 = .ok (.iaload, 1) := by decide +kernel
theorem dL_law_327 : decode cL_law 327 = .ok (.invokevirtual 17, 3) := by decide +kernel
theorem dL_law_330 : decode cL_law 330 = .ok (.if_icmp .eq 2321, 3) := by decide +kernel
theorem dL_law_335 : decode cL_law 335 = .ok (.aload_n 1, 1) := by decide +kernel
theorem dL_law_336 : decode cL_law 336 = .ok (.aload_n 0, 1) := by decide +kernel
theorem dL_law_337 : decode cL_law 337 = .ok (.iload_n 3, 1) := by decide +kernel
theorem dL_law_338 : decode cL_law 338 = .ok (.iconst 1, 1) := by decide +kernel
theorem dL_law_339 : decode cL_law 339 = .ok (.iadd, 1) := by decide +kernel
theorem dL_law_340 : decode cL_law 340 = .ok (.iaload, 1) := by decide +kernel
theorem dL_law_341 : decode cL_law 341 = .ok (.invokevirtual 18, 3) := by decide +kernel
theorem dL_law_344 : decode cL_law 344 = .ok (.aload_n 2, 1) := by decide +kernel
theorem dL_law_345 : decode cL_law 345 = .ok (.aload_n 0, 1) := by decide +kernel
theorem dL_law_346 : decode cL_law 346 = .ok (.iload_n 3, 1) := by decide +kernel
theorem dL_law_347 : decode cL_law 347 = .ok (.iconst 1, 1) := by decide +kernel
theorem dL_law_348 : decode cL_law 348 = .ok (.iadd, 1) := by decide +kernel
theorem dL_law_349 : decode cL_law 349 = .ok (.iaload, 1) := by decide +kernel
theorem dL_law_350 : decode cL_law 350 = .ok (.invokevirtual 22, 3) := by decide +kernel
theorem dL_law_353 : decode cL_law 353 = .ok (.if_icmp .eq 2298, 3) := by decide +kernel
theorem dL_law_358 : decode cL_law 358 = .ok (.aload_n 1, 1) := by decide +kernel
theorem dL_law_359 : decode cL_law 359 = .ok (.invokevirtual 23, 3) := by decide +kernel
theorem dL_law_362 : decode cL_law 362 = .ok (.aload_n 2, 1) := by decide +kernel
theorem dL_law_363 : decode cL_law 363 = .ok (.invokevirtual 27, 3) := by decide +kernel
theorem dL_law_366 : decode cL_law 366 = .ok (.if_icmp .eq 2285, 3) := by decide +kernel
theorem dL_law_371 : decode cL_law 371 = .ok (.aload_n 1, 1) := by decide +kernel
theorem dL_law_372 : decode cL_law 372 = .ok (.aload_n 0, 1) := by decide +kernel
theorem dL_law_373 : decode cL_law 373 = .ok (.iload_n 3, 1) := by decide +kernel
theorem dL_law_374 : decode cL_law 374 = .ok (.iconst 1, 1) := by decide +kernel
theorem dL_law_375 : decode cL_law 375 = .ok (.iadd, 1) := by decide +kernel
theorem dL_law_376 : decode cL_law 376 = .ok (.iaload, 1) := by decide +kernel
theorem dL_law_377 : decode cL_law 377 = .ok (.invokevirtual 28, 3) := by decide +kernel
theorem dL_law_380 : decode cL_law 380 = .ok (.aload_n 2, 1) := by decide +kernel
theorem dL_law_381 : decode cL_law 381 = .ok (.aload_n 0, 1) := by decide +kernel
theorem dL_law_382 : decode cL_law 382 = .ok (.iload_n 3, 1) := by decide +kernel
theorem dL_law_383 : decode cL_law 383 = .ok (.iconst 1, 1) := by decide +kernel
theorem dL_law_384 : decode cL_law 384 = .ok (.iadd, 1) := by decide +kernel
theorem dL_law_385 : decode cL_law 385 = .ok (.iaload, 1) := by decide +kernel
theorem dL_law_386 : decode cL_law 386 = .ok (.invokevirtual 31, 3) := by decide +kernel
theorem dL_law_389 : decode cL_law 389 = .ok (.if_icmp .eq 2262, 3) := by decide +kernel
theorem dL_law_394 : decode cL_law 394 = .ok (.aload_n 1, 1) := by decide +kernel
theorem dL_law_395 : decode cL_law 395 = .ok (.aload_n 0, 1) := by decide +kernel
theorem dL_law_396 : decode cL_law 396 = .ok (.iload_n 3, 1) := by decide +kernel
theorem dL_law_397 : decode cL_law 397 = .ok (.iconst 1, 1) := by decide +kernel
theorem dL_law_398 : decode cL_law 398 = .ok (.iadd, 1) := by decide +kernel
theorem dL_law_399 : decode cL_law 399 = .ok (.iaload, 1) := by decide +kernel
theorem dL_law_400 : decode cL_law 400 = .ok (.invokevirtual 32, 3) := by decide +kernel
theorem dL_law_403 : decode cL_law 403 = .ok (.aload_n 2, 1) := by decide +kernel
theorem dL_law_404 : decode cL_law 404 = .ok (.aload_n 0, 1) := by decide +kernel
theorem dL_law_405 : decode cL_law 405 = .ok (.iload_n 3, 1) := by decide +kernel
theorem dL_law_406 : decode cL_law 406 = .ok (.iconst 1, 1) := by decide +kernel
theorem dL_law_407 : decode cL_law 407 = .ok (.iadd, 1) := by decide +kernel
theorem dL_law_408 : decode cL_law 408 = .ok (.iaload, 1) := by decide +kernel
theorem dL_law_409 : decode cL_law 409 = .ok (.invokevirtual 35, 3) := by decide +kernel
theorem dL_law_412 : decode cL_law 412 = .ok (.if_icmp .eq 2239, 3) := by decide +kernel
theorem dL_law_417 : decode cL_law 417 = .ok (.aload_n 1, 1) := by decide +kernel
theorem dL_law_418 : decode cL_law 418 = .ok (.aload_n 0, 1) := by decide +kernel
theorem dL_law_419 : decode cL_law 419 = .ok (.iload_n 3, 1) := by decide +kernel
theorem dL_law_420 : decode cL_law 420 = .ok (.iconst 1, 1) := by decide +kernel
theorem dL_law_421 : decode cL_law 421 = .ok (.iadd, 1) := by decide +kernel
theorem dL_law_422 : decode cL_law 422 = .ok (.iaload, 1) := by decide +kernel
theorem dL_law_423 : decode cL_law 423 = .ok (.invokevirtual 36, 3) := by decide +kernel
theorem dL_law_426 : decode cL_law 426 = .ok (.aload_n 2, 1) := by decide +kernel
theorem dL_law_427 : decode cL_law 427 = .ok (.aload_n 0, 1) := by decide +kernel
theorem dL_law_428 : decode cL_law 428 = .ok (.iload_n 3, 1) := by decide +kernel
theorem dL_law_429 : decode cL_law 429 = .ok (.iconst 1, 1) := by decide +kernel
theorem dL_law_430 : decode cL_law 430 = .ok (.iadd, 1) := by decide +kernel
theorem dL_law_431 : decode cL_law 431 = .ok (.iaload, 1) := by decide +kernel
theorem dL_law_432 : decode cL_law 432 = .ok (.invokevirtual 39, 3) := by decide +kernel
theorem dL_law_435 : decode cL_law 435 = .ok (.if_icmp .eq 2216, 3) := by decide +kernel
theorem dL_law_440 : decode cL_law 440 = .ok (.aload_n 1, 1) := by decide +kernel
theorem dL_law_441 : decode cL_law 441 = .ok (.aload_n 0, 1) := by decide +kernel
theorem dL_law_442 : decode cL_law 442 = .ok (.iload_n 3, 1) := by decide +kernel
theorem dL_law_443 : decode cL_law 443 = .ok (.iconst 1, 1) := by decide +kernel
theorem dL_law_444 : decode cL_law 444 = .ok (.iadd, 1) := by decide +kernel
theorem dL_law_445 : decode cL_law 445 = .ok (.iaload, 1) := by decide +kernel
theorem dL_law_446 : decode cL_law 446 = .ok (.aload_n 0, 1) := by decide +kernel
theorem dL_law_447 : decode cL_law 447 = .ok (.iload_n 3, 1) := by decide +kernel
theorem dL_law_448 : decode cL_law 448 = .ok (.iconst 2, 1) := by decide +kernel
theorem dL_law_449 : decode cL_law 449 = .ok (.iadd, 1) := by decide +kernel
theorem dL_law_450 : decode cL_law 450 = .ok (.iaload, 1) := by decide +kernel
theorem dL_law_451 : decode cL_law 451 = .ok (.invokevirtual 40, 3) := by decide +kernel
theorem dL_law_454 : decode cL_law 454 = .ok (.aload_n 2, 1) := by decide +kernel
theorem dL_law_455 : decode cL_law 455 = .ok (.aload_n 0, 1) := by decide +kernel
theorem dL_law_456 : decode cL_law 456 = .ok (.iload_n 3, 1) := by decide +kernel
theorem dL_law_457 : decode cL_law 457 = .ok (.iconst 1, 1) := by decide +kernel
theorem dL_law_458 : decode cL_law 458 = .ok (.iadd, 1) := by decide +kernel
theorem dL_law_459 : decode cL_law 459 = .ok (.iaload, 1) := by decide +kernel
theorem dL_law_460 : decode cL_law 460 = .ok (.aload_n 0, 1) := by decide +kernel
theorem dL_law_461 : decode cL_law 461 = .ok (.iload_n 3, 1) := by decide +kernel
theorem dL_law_462 : decode cL_law 462 = .ok (.iconst 2, 1) := by decide +kernel
theorem dL_law_463 : decode cL_law 463 = .ok (.iadd, 1) := by decide +kernel
theorem dL_law_464 : decode cL_law 464 = .ok (.iaload, 1) := by decide +kernel
theorem dL_law_465 : decode cL_law 465 = .ok (.invokevirtual 44, 3) := by decide +kernel
theorem dL_law_468 : decode cL_law 468 = .ok (.if_icmp .eq 2183, 3) := by decide +kernel
theorem dL_law_473 : decode cL_law 473 = .ok (.aload_n 1, 1) := by decide +kernel
theorem dL_law_474 : decode cL_law 474 = .ok (.aload_n 0, 1) := by decide +kernel
theorem dL_law_475 : decode cL_law 475 = .ok (.iload_n 3, 1) := by decide +kernel
theorem dL_law_476 : decode cL_law 476 = .ok (.iconst 1, 1) := by decide +kernel
theorem dL_law_477 : decode cL_law 477 = .ok (.iadd, 1) := by decide +kernel
theorem dL_law_478 : decode cL_law 478 = .ok (.iaload, 1) := by decide +kernel
theorem dL_law_479 : decode cL_law 479 = .ok (.aload_n 0, 1) := by decide +kernel
theorem dL_law_480 : decode cL_law 480 = .ok (.iload_n 3, 1) := by decide +kernel
theorem dL_law_481 : decode cL_law 481 = .ok (.iconst 2, 1) := by decide +kernel
theorem dL_law_482 : decode cL_law 482 = .ok (.iadd, 1) := by decide +kernel
theorem dL_law_483 : decode cL_law 483 = .ok (.iaload, 1) := by decide +kernel
theorem dL_law_484 : decode cL_law 484 = .ok (.invokevirtual 45, 3) := by decide +kernel
theorem dL_law_487 : decode cL_law 487 = .ok (.aload_n 2, 1) := by decide +kernel
theorem dL_law_488 : decode cL_law 488 = .ok (.aload_n 0, 1) := by decide +kernel
theorem dL_law_489 : decode cL_law 489 = .ok (.iload_n 3, 1) := by decide +kernel
theorem dL_law_490 : decode cL_law 490 = .ok (.iconst 1, 1) := by decide +kernel
theorem dL_law_491 : decode cL_law 491 = .ok (.iadd, 1) := by decide +kernel
theorem dL_law_492 : decode cL_law 492 = .ok (.iaload, 1) := by decide +kernel
theorem dL_law_493 : decode cL_law 493 = .ok (.aload_n 0, 1) := by decide +kernel
theorem dL_law_494 : decode cL_law 494 = .ok (.iload_n 3, 1) := by decide +kernel
theorem dL_law_495 : decode cL_law 495 = .ok (.iconst 2, 1) := by decide +kernel
theorem dL_law_496 : decode cL_law 496 = .ok (.iadd, 1) := by decide +kernel
theorem dL_law_497 : decode cL_law 497 = .ok (.iaload, 1) := by decide +kernel
theorem dL_law_498 : decode cL_law 498 = .ok (.invokevirtual 48, 3) := by decide +kernel
theorem dL_law_501 : decode cL_law 501 = .ok (.if_icmp .eq 2150, 3) := by decide +kernel
theorem dL_law_506 : decode cL_law 506 = .ok (.aload_n 1, 1) := by decide +kernel
theorem dL_law_507 : decode cL_law 507 = .ok (.aload_n 0, 1) := by decide +kernel
theorem dL_law_508 : decode cL_law 508 = .ok (.iload_n 3, 1) := by decide +kernel
theorem dL_law_509 : decode cL_law 509 = .ok (.iconst 1, 1) := by decide +kernel
theorem dL_law_510 : decode cL_law 510 = .ok (.iadd, 1) := by decide +kernel
theorem dL_law_511 : decode cL_law 511 = .ok (.iaload, 1) := by decide +kernel
theorem dL_law_512 : decode cL_law 512 = .ok (.invokevirtual 49, 3) := by decide +kernel
theorem dL_law_515 : decode cL_law 515 = .ok (.aload_n 2, 1) := by decide +kernel
theorem dL_law_516 : decode cL_law 516 = .ok (.aload_n 0, 1) := by decide +kernel
theorem dL_law_517 : decode cL_law 517 = .ok (.iload_n 3, 1) := by decide +kernel
theorem dL_law_518 : decode cL_law 518 = .ok (.iconst 1, 1) := by decide +kernel
theorem dL_law_519 : decode cL_law 519 = .ok (.iadd, 1) := by decide +kernel
theorem dL_law_520 : decode cL_law 520 = .ok (.iaload, 1) := by decide +kernel
theorem dL_law_521 : decode cL_law 521 = .ok (.invokevirtual 52, 3) := by decide +kernel
theorem dL_law_524 : decode cL_law 524 = .ok (.if_icmp .eq 2127, 3) := by decide +kernel
theorem dL_law_529 : decode cL_law 529 = .ok (.aload_n 1, 1) := by decide +kernel
theorem dL_law_530 : decode cL_law 530 = .ok (.aload_n 0, 1) := by decide +kernel
theorem dL_law_531 : decode cL_law 531 = .ok (.iload_n 3, 1) := by decide +kernel
theorem dL_law_532 : decode cL_law 532 = .ok (.iconst 1, 1) := by decide +kernel
theorem dL_law_533 : decode cL_law 533 = .ok (.iadd, 1) := by decide +kernel
theorem dL_law_534 : decode cL_law 534 = .ok (.iaload, 1) := by decide +kernel
theorem dL_law_535 : decode cL_law 535 = .ok (.aload_n 0, 1) := by decide +kernel
theorem dL_law_536 : decode cL_law 536 = .ok (.iload_n 3, 1) := by decide +kernel
theorem dL_law_537 : decode cL_law 537 = .ok (.iconst 2, 1) := by decide +kernel
theorem dL_law_538 : decode cL_law 538 = .ok (.iadd, 1) := by decide +kernel
theorem dL_law_539 : decode cL_law 539 = .ok (.iaload, 1) := by decide +kernel
theorem dL_law_540 : decode cL_law 540 = .ok (.invokevirtual 53, 3) := by decide +kernel
theorem dL_law_543 : decode cL_law 543 = .ok (.aload_n 2, 1) := by decide +kernel
theorem dL_law_544 : decode cL_law 544 = .ok (.aload_n 0, 1) := by decide +kernel
theorem dL_law_545 : decode cL_law 545 = .ok (.iload_n 3, 1) := by decide +kernel
theorem dL_law_546 : decode cL_law 546 = .ok (.iconst 1, 1) := by decide +kernel
theorem dL_law_547 : decode cL_law 547 = .ok (.iadd, 1) := by decide +kernel
theorem dL_law_548 : decode cL_law 548 = .ok (.iaload, 1) := by decide +kernel
theorem dL_law_549 : decode cL_law 549 = .ok (.aload_n 0, 1) := by decide +kernel
theorem dL_law_550 : decode cL_law 550 = .ok (.iload_n 3, 1) := by decide +kernel
theorem dL_law_551 : decode cL_law 551 = .ok (.iconst 2, 1) := by decide +kernel
theorem dL_law_552 : decode cL_law 552 = .ok (.iadd, 1) := by decide +kernel
theorem dL_law_553 : decode cL_law 553 = .ok (.iaload, 1) := by decide +kernel
theorem dL_law_554 : decode cL_law 554 = .ok (.invokevirtual 56, 3) := by decide +kernel
theorem dL_law_557 : decode cL_law 557 = .ok (.if_icmp .eq 2094, 3) := by decide +kernel
theorem dL_law_562 : decode cL_law 562 = .ok (.aload_n 1, 1) := by decide +kernel
theorem dL_law_563 : decode cL_law 563 = .ok (.aload_n 0, 1) := by decide +kernel
theorem dL_law_564 : decode cL_law 564 = .ok (.iload_n 3, 1) := by decide +kernel
theorem dL_law_565 : decode cL_law 565 = .ok (.iconst 1, 1) := by decide +kernel
theorem dL_law_566 : decode cL_law 566 = .ok (.iadd, 1) := by decide +kernel
theorem dL_law_567 : decode cL_law 567 = .ok (.iaload, 1) := by decide +kernel
theorem dL_law_568 : decode cL_law 568 = .ok (.aload_n 0, 1) := by decide +kernel
theorem dL_law_569 : decode cL_law 569 = .ok (.iload_n 3, 1) := by decide +kernel
theorem dL_law_570 : decode cL_law 570 = .ok (.iconst 2, 1) := by decide +kernel
theorem dL_law_571 : decode cL_law 571 = .ok (.iadd, 1) := by decide +kernel
theorem dL_law_572 : decode cL_law 572 = .ok (.iaload, 1) := by decide +kernel
theorem dL_law_573 : decode cL_law 573 = .ok (.invokevirtual 57, 3) := by decide +kernel
theorem dL_law_576 : decode cL_law 576 = .ok (.aload_n 2, 1) := by decide +kernel
theorem dL_law_577 : decode cL_law 577 = .ok (.aload_n 0, 1) := by decide +kernel
theorem dL_law_578 : decode cL_law 578 = .ok (.iload_n 3, 1) := by decide +kernel
theorem dL_law_579 : decode cL_law 579 = .ok (.iconst 1, 1) := by decide +kernel
theorem dL_law_580 : decode cL_law 580 = .ok (.iadd, 1) := by decide +kernel
theorem dL_law_581 : decode cL_law 581 = .ok (.iaload, 1) := by decide +kernel
theorem dL_law_582 : decode cL_law 582 = .ok (.aload_n 0, 1) := by decide +kernel
theorem dL_law_583 : decode cL_law 583 = .ok (.iload_n 3, 1) := by decide +kernel
theorem dL_law_584 : decode cL_law 584 = .ok (.iconst 2, 1) := by decide +kernel
theorem dL_law_585 : decode cL_law 585 = .ok (.iadd, 1) := by decide +kernel
theorem dL_law_586 : decode cL_law 586 = .ok (.iaload, 1) := by decide +kernel
theorem dL_law_587 : decode cL_law 587 = .ok (.invokevirtual 60, 3) := by decide +kernel
theorem dL_law_590 : decode cL_law 590 = .ok (.if_icmp .eq 2061, 3) := by decide +kernel
theorem dL_law_595 : decode cL_law 595 = .ok (.aload_n 1, 1) := by decide +kernel
theorem dL_law_596 : decode cL_law 596 = .ok (.aload_n 0, 1) := by decide +kernel
theorem dL_law_597 : decode cL_law 597 = .ok (.iload_n 3, 1) := by decide +kernel
theorem dL_law_598 : decode cL_law 598 = .ok (.iconst 1, 1) := by decide +kernel
theorem dL_law_599 : decode cL_law 599 = .ok (.iadd, 1) := by decide +kernel
theorem dL_law_600 : decode cL_law 600 = .ok (.iaload, 1) := by decide +kernel
theorem dL_law_601 : decode cL_law 601 = .ok (.aload_n 0, 1) := by decide +kernel
theorem dL_law_602 : decode cL_law 602 = .ok (.iload_n 3, 1) := by decide +kernel
theorem dL_law_603 : decode cL_law 603 = .ok (.iconst 2, 1) := by decide +kernel
theorem dL_law_604 : decode cL_law 604 = .ok (.iadd, 1) := by decide +kernel
theorem dL_law_605 : decode cL_law 605 = .ok (.iaload, 1) := by decide +kernel
theorem dL_law_606 : decode cL_law 606 = .ok (.aload_n 0, 1) := by decide +kernel
theorem dL_law_607 : decode cL_law 607 = .ok (.iload_n 3, 1) := by decide +kernel
theorem dL_law_608 : decode cL_law 608 = .ok (.iconst 3, 1) := by decide +kernel
theorem dL_law_609 : decode cL_law 609 = .ok (.iadd, 1) := by decide +kernel
theorem dL_law_610 : decode cL_law 610 = .ok (.iaload, 1) := by decide +kernel
theorem dL_law_611 : decode cL_law 611 = .ok (.aload_n 0, 1) := by decide +kernel
theorem dL_law_612 : decode cL_law 612 = .ok (.iload_n 3, 1) := by decide +kernel
theorem dL_law_613 : decode cL_law 613 = .ok (.iconst 4, 1) := by decide +kernel
theorem dL_law_614 : decode cL_law 614 = .ok (.iadd, 1) := by decide +kernel
theorem dL_law_615 : decode cL_law 615 = .ok (.iaload, 1) := by decide +kernel
theorem dL_law_616 : decode cL_law 616 = .ok (.invokevirtual 61, 3) := by decide +kernel
theorem dL_law_619 : decode cL_law 619 = .ok (.aload_n 2, 1) := by decide +kernel
theorem dL_law_620 : decode cL_law 620 = .ok (.aload_n 0, 1) := by decide +kernel
theorem dL_law_621 : decode cL_law 621 = .ok (.iload_n 3, 1) := by decide +kernel
theorem dL_law_622 : decode cL_law 622 = .ok (.iconst 1, 1) := by decide +kernel
theorem dL_law_623 : decode cL_law 623 = .ok (.iadd, 1) := by decide +kernel
theorem dL_law_624 : decode cL_law 624 = .ok (.iaload, 1) := by decide +kernel
theorem dL_law_625 : decode cL_law 625 = .ok (.aload_n 0, 1) := by decide +kernel
theorem dL_law_626 : decode cL_law 626 = .ok (.iload_n 3, 1) := by decide +kernel
theorem dL_law_627 : decode cL_law 627 = .ok (.iconst 2, 1) := by decide +kernel
theorem dL_law_628 : decode cL_law 628 = .ok (.iadd, 1) := by decide +kernel
theorem dL_law_629 : decode cL_law 629 = .ok (.iaload, 1) := by decide +kernel
theorem dL_law_630 : decode cL_law 630 = .ok (.aload_n 0, 1) := by decide +kernel
theorem dL_law_631 : decode cL_law 631 = .ok (.iload_n 3, 1) := by decide +kernel
theorem dL_law_632 : decode cL_law 632 = .ok (.iconst 3, 1) := by decide +kernel
theorem dL_law_633 : decode cL_law 633 = .ok (.iadd, 1) := by decide +kernel
theorem dL_law_634 : decode cL_law 634 = .ok (.iaload, 1) := by decide +kernel
theorem dL_law_635 : decode cL_law 635 = .ok (.aload_n 0, 1) := by decide +kernel
theorem dL_law_636 : decode cL_law 636 = .ok (.iload_n 3, 1) := by decide +kernel
theorem dL_law_637 : decode cL_law 637 = .ok (.iconst 4, 1) := by decide +kernel
theorem dL_law_638 : decode cL_law 638 = .ok (.iadd, 1) := by decide +kernel
theorem dL_law_639 : decode cL_law 639 = .ok (.iaload, 1) := by decide +kernel
theorem dL_law_640 : decode cL_law 640 = .ok (.invokevirtual 65, 3) := by decide +kernel
theorem dL_law_643 : decode cL_law 643 = .ok (.if_icmp .eq 2008, 3) := by decide +kernel
theorem dL_law_648 : decode cL_law 648 = .ok (.aload_n 1, 1) := by decide +kernel
theorem dL_law_649 : decode cL_law 649 = .ok (.aload_n 0, 1) := by decide +kernel
theorem dL_law_650 : decode cL_law 650 = .ok (.iload_n 3, 1) := by decide +kernel
theorem dL_law_651 : decode cL_law 651 = .ok (.iconst 1, 1) := by decide +kernel
theorem dL_law_652 : decode cL_law 652 = .ok (.iadd, 1) := by decide +kernel
theorem dL_law_653 : decode cL_law 653 = .ok (.iaload, 1) := by decide +kernel
theorem dL_law_654 : decode cL_law 654 = .ok (.aload_n 0, 1) := by decide +kernel
theorem dL_law_655 : decode cL_law 655 = .ok (.iload_n 3, 1) := by decide +kernel
theorem dL_law_656 : decode cL_law 656 = .ok (.iconst 2, 1) := by decide +kernel
theorem dL_law_657 : decode cL_law 657 = .ok (.iadd, 1) := by decide +kernel
theorem dL_law_658 : decode cL_law 658 = .ok (.iaload, 1) := by decide +kernel
theorem dL_law_659 : decode cL_law 659 = .ok (.aload_n 0, 1) := by decide +kernel
theorem dL_law_660 : decode cL_law 660 = .ok (.iload_n 3, 1) := by decide +kernel
theorem dL_law_661 : decode cL_law 661 = .ok (.iconst 3, 1) := by decide +kernel
theorem dL_law_662 : decode cL_law 662 = .ok (.iadd, 1) := by decide +kernel
theorem dL_law_663 : decode cL_law 663 = .ok (.iaload, 1) := by decide +kernel
theorem dL_law_664 : decode cL_law 664 = .ok (.invokevirtual 66, 3) := by decide +kernel
theorem dL_law_667 : decode cL_law 667 = .ok (.aload_n 2, 1) := by decide +kernel
theorem dL_law_668 : decode cL_law 668 = .ok (.aload_n 0, 1) := by decide +kernel
theorem dL_law_669 : decode cL_law 669 = .ok (.iload_n 3, 1) := by decide +kernel
theorem dL_law_670 : decode cL_law 670 = .ok (.iconst 1, 1) := by decide +kernel
theorem dL_law_671 : decode cL_law 671 = .ok (.iadd, 1) := by decide +kernel
theorem dL_law_672 : decode cL_law 672 = .ok (.iaload, 1) := by decide +kernel
theorem dL_law_673 : decode cL_law 673 = .ok (.aload_n 0, 1) := by decide +kernel
theorem dL_law_674 : decode cL_law 674 = .ok (.iload_n 3, 1) := by decide +kernel
theorem dL_law_675 : decode cL_law 675 = .ok (.iconst 2, 1) := by decide +kernel
theorem dL_law_676 : decode cL_law 676 = .ok (.iadd, 1) := by decide +kernel
theorem dL_law_677 : decode cL_law 677 = .ok (.iaload, 1) := by decide +kernel
theorem dL_law_678 : decode cL_law 678 = .ok (.aload_n 0, 1) := by decide +kernel
theorem dL_law_679 : decode cL_law 679 = .ok (.iload_n 3, 1) := by decide +kernel
theorem dL_law_680 : decode cL_law 680 = .ok (.iconst 3, 1) := by decide +kernel
theorem dL_law_681 : decode cL_law 681 = .ok (.iadd, 1) := by decide +kernel
theorem dL_law_682 : decode cL_law 682 = .ok (.iaload, 1) := by decide +kernel
theorem dL_law_683 : decode cL_law 683 = .ok (.invokevirtual 70, 3) := by decide +kernel
theorem dL_law_686 : decode cL_law 686 = .ok (.if_icmp .eq 1965, 3) := by decide +kernel
theorem dL_law_691 : decode cL_law 691 = .ok (.aload_n 1, 1) := by decide +kernel
theorem dL_law_692 : decode cL_law 692 = .ok (.aload_n 0, 1) := by decide +kernel
theorem dL_law_693 : decode cL_law 693 = .ok (.iload_n 3, 1) := by decide +kernel
theorem dL_law_694 : decode cL_law 694 = .ok (.iconst 1, 1) := by decide +kernel
theorem dL_law_695 : decode cL_law 695 = .ok (.iadd, 1) := by decide +kernel
theorem dL_law_696 : decode cL_law 696 = .ok (.iaload, 1) := by decide +kernel
theorem dL_law_697 : decode cL_law 697 = .ok (.aload_n 0, 1) := by decide +kernel
theorem dL_law_698 : decode cL_law 698 = .ok (.iload_n 3, 1) := by decide +kernel
theorem dL_law_699 : decode cL_law 699 = .ok (.iconst 2, 1) := by decide +kernel
theorem dL_law_700 : decode cL_law 700 = .ok (.iadd, 1) := by decide +kernel
theorem dL_law_701 : decode cL_law 701 = .ok (.iaload, 1) := by decide +kernel
theorem dL_law_702 : decode cL_law 702 = .ok (.aload_n 0, 1) := by decide +kernel
theorem dL_law_703 : decode cL_law 703 = .ok (.iload_n 3, 1) := by decide +kernel
theorem dL_law_704 : decode cL_law 704 = .ok (.iconst 3, 1) := by decide +kernel
theorem dL_law_705 : decode cL_law 705 = .ok (.iadd, 1) := by decide +kernel
theorem dL_law_706 : decode cL_law 706 = .ok (.iaload, 1) := by decide +kernel
theorem dL_law_707 : decode cL_law 707 = .ok (.invokevirtual 71, 3) := by decide +kernel
theorem dL_law_710 : decode cL_law 710 = .ok (.aload_n 2, 1) := by decide +kernel
theorem dL_law_711 : decode cL_law 711 = .ok (.aload_n 0, 1) := by decide +kernel
theorem dL_law_712 : decode cL_law 712 = .ok (.iload_n 3, 1) := by decide +kernel
theorem dL_law_713 : decode cL_law 713 = .ok (.iconst 1, 1) := by decide +kernel
theorem dL_law_714 : decode cL_law 714 = .ok (.iadd, 1) := by decide +kernel
theorem dL_law_715 : decode cL_law 715 = .ok (.iaload, 1) := by decide +kernel
theorem dL_law_716 : decode cL_law 716 = .ok (.aload_n 0, 1) := by decide +kernel
theorem dL_law_717 : decode cL_law 717 = .ok (.iload_n 3, 1) := by decide +kernel
theorem dL_law_718 : decode cL_law 718 = .ok (.iconst 2, 1) := by decide +kernel
theorem dL_law_719 : decode cL_law 719 = .ok (.iadd, 1) := by decide +kernel
theorem dL_law_720 : decode cL_law 720 = .ok (.iaload, 1) := by decide +kernel
theorem dL_law_721 : decode cL_law 721 = .ok (.aload_n 0, 1) := by decide +kernel
theorem dL_law_722 : decode cL_law 722 = .ok (.iload_n 3, 1) := by decide +kernel
theorem dL_law_723 : decode cL_law 723 = .ok (.iconst 3, 1) := by decide +kernel
theorem dL_law_724 : decode cL_law 724 = .ok (.iadd, 1) := by decide +kernel
theorem dL_law_725 : decode cL_law 725 = .ok (.iaload, 1) := by decide +kernel
theorem dL_law_726 : decode cL_law 726 = .ok (.invokevirtual 74, 3) := by decide +kernel
theorem dL_law_729 : decode cL_law 729 = .ok (.if_icmp .eq 1922, 3) := by decide +kernel
set_option maxHeartbeats 4000000 in
set_option maxRecDepth 100000 in
theorem law_feed {p : Program} {e : Env} {s : State} {m : MethodId} {below : List Frame} {meth : Method} {c : Code} {l : Launch} {b : Nat} {xs : Nat → Int32} (C0 : lw_At p s m meth c b 6 xs) {dC : Nat → ClassId} {dI : Nat → Nat → Nat} {A : Nat → Prop} (hA : ∀ q, s.heap.size ≤ q → A q) (hA2 : ∀ q, A q → s.heap.size ≤ q) {h0 : Nat} {tp : Nat} {nw : Nat} {im : Nat} {sl : Nat} {rd : Nat} {wk : Nat} {fm : Nat} {mt : Nat} {ch : Nat} {dy : Nat} {cA_tp : ClassId} {m0 : Nat} {m_width : Nat} {m_many : Nat} {m_cells : Nat} {m_moved : Nat} {m_tape : Nat} {m_lines : Nat} {m_hours : Nat} {m_courts : Nat} {m_in : Nat} {m_gates : Nat} {m_gate : Nat} {m_people : Nat} {m_at0 : Nat} {m_stray : Nat} {m_set : Nat} {m_once : Nat} {m_truth : Nat} {m_known : Nat} {m_isKept : Nat} {m_inside : Nat} {m_can : Nat} {m_fewest : Nat} {m_waysTo : Nat} {m_then : Nat} {m_two : Nat} {m_nextTwo : Nat} {m_three : Nat} {m_nextThree : Nat} {m_worth : Nat} {m_digit : Nat} {cm_tape : ClassId}  {H : Heap} {locs : List Loc} {ls : Array Slot} (hP : va_P (dC, dI) vwCl [(h0, .inr (9, [.ref tp, .int 0, .int 0, .int (-1), .ref nw, .ref im, .ref sl, .ref rd, .ref wk, .ref fm, .ref mt, .ref ch, .ref dy])), (tp, .inl (cA_tp, 1600, .inl (fun _ => 0))), (m0, .inr (10, [.int 0, .ref m_width, .ref m_many, .ref m_cells, .ref m_moved, .ref m_tape, .int 0, .int 0, .int 0, .int 0, .int 0, .long 0, .int 0, .int 0, .int 0, .int (-1), .ref m_lines, .ref m_hours, .ref m_courts, .ref m_in, .ref m_gates, .ref m_gate, .ref m_people, .ref m_at0, .ref m_stray, .ref m_set, .ref m_once, .ref m_truth, .ref m_known, .ref m_isKept, .int 0, .int (-1), .int 0, .int 0, .ref m_inside, .ref m_can, .ref m_fewest, .ref m_waysTo, .ref m_then, .ref m_two, .ref m_nextTwo, .ref m_three, .ref m_nextThree, .int (-1), .ref m_worth, .ref m_digit, .int 0, .long 0, .int 0, .int 0, .int 0, .int 0, .long 0])), (m_tape, .inl (cm_tape, 1600, .inl (fun _ => 0)))] H) (hD : va_D A [(h0, .inr (9, [.ref tp, .int 0, .int 0, .int (-1), .ref nw, .ref im, .ref sl, .ref rd, .ref wk, .ref fm, .ref mt, .ref ch, .ref dy])), (tp, .inl (cA_tp, 1600, .inl (fun _ => 0))), (m0, .inr (10, [.int 0, .ref m_width, .ref m_many, .ref m_cells, .ref m_moved, .ref m_tape, .int 0, .int 0, .int 0, .int 0, .int 0, .long 0, .int 0, .int 0, .int 0, .int (-1), .ref m_lines, .ref m_hours, .ref m_courts, .ref m_in, .ref m_gates, .ref m_gate, .ref m_people, .ref m_at0, .ref m_stray, .ref m_set, .ref m_once, .ref m_truth, .ref m_known, .ref m_isKept, .int 0, .int (-1), .int 0, .int 0, .ref m_inside, .ref m_can, .ref m_fewest, .ref m_waysTo, .ref m_then, .ref m_two, .ref m_nextTwo, .ref m_three, .ref m_nextThree, .int (-1), .ref m_worth, .ref m_digit, .int 0, .long 0, .int 0, .int 0, .int 0, .int 0, .long 0])), (m_tape, .inl (cm_tape, 1600, .inl (fun _ => 0)))]) (hK : va_K (dC, dI) vwCl [(cA_tp, .byte), (cm_tape, .byte)] s) (hS : va_S A s.heap H locs) (hl : lv_has ls 4 [(3, .int 0), (2, .ref m0), (1, .ref h0), (0, .ref b)]) : W p l e room_1 s m #[Value.ref b] below meth c H locs 166 101284 (lw_Z below #[Value.ref b] s) (F0 m 272 ls []) := by
  obtain ⟨hx, hb, hr, hml, hown, hts, hX, hbl, hlocks, hgv⟩ := id C0
  have hown : s.vm.findClass RL = some m.cls := hown
  have hb : c.code = cL_law := hb
  have hts : ∀ w ∈ zT, w.before #[Value.ref b] s = true := fun w h => hts w (zT_in w h)
  have hbA : ¬ A b := fun q => absurd (hA2 b q) (Nat.not_le.mpr hbl)
  refine lv_aload_n hx hb dL_law_272 rfl (lv_at hl 2 rfl) ?_
  refine lv_aload_n hx hb dL_law_273 rfl (lv_at hl 3 rfl) ?_
  refine lv_iload_n hx hb dL_law_274 rfl (lv_at hl 0 rfl) ?_
  refine lv_iconst (v := 1) hx hb dL_law_275 (by decide) ?_
  refine lv_iadd hx hb dL_law_276 ?_
  refine lv_topi (fun x_1 ex_1 => ?_)
  obtain rfl : x_1 = 1 := ex_1.trans (by decide)
  refine va_sld hx hb hX hbl hbA hS (z_inC _ (k := 1) (by decide) (by decide)) dL_law_277 ?_
  refine lv_aload_n hx hb dL_law_278 rfl (lv_at hl 3 rfl) ?_
  refine lv_iload_n hx hb dL_law_279 rfl (lv_at hl 0 rfl) ?_
  refine lv_iconst (v := 2) hx hb dL_law_280 (by decide) ?_
  refine lv_iadd hx hb dL_law_281 ?_
  refine lv_topi (fun x_2 ex_2 => ?_)
  obtain rfl : x_2 = 2 := ex_2.trans (by decide)
  refine va_sld hx hb hX hbl hbA hS (z_inC _ (k := 2) (by decide) (by decide)) dL_law_282 ?_
  refine lv_aload_n hx hb dL_law_283 rfl (lv_at hl 3 rfl) ?_
  refine lv_iload_n hx hb dL_law_284 rfl (lv_at hl 0 rfl) ?_
  refine lv_iconst (v := 3) hx hb dL_law_285 (by decide) ?_
  refine lv_iadd hx hb dL_law_286 ?_
  refine lv_topi (fun x_3 ex_3 => ?_)
  obtain rfl : x_3 = 3 := ex_3.trans (by decide)
  refine va_sld hx hb hX hbl hbA hS (z_inC _ (k := 3) (by decide) (by decide)) dL_law_287 ?_
  refine lv_aload_n hx hb dL_law_288 rfl (lv_at hl 3 rfl) ?_
  refine lv_iload_n hx hb dL_law_289 rfl (lv_at hl 0 rfl) ?_
  refine lv_iconst (v := 4) hx hb dL_law_290 (by decide) ?_
  refine lv_iadd hx hb dL_law_291 ?_
  refine lv_topi (fun x_4 ex_4 => ?_)
  obtain rfl : x_4 = 4 := ex_4.trans (by decide)
  refine va_sld hx hb hX hbl hbA hS (z_inC _ (k := 4) (by decide) (by decide)) dL_law_292 ?_
  refine lv_aload_n hx hb dL_law_293 rfl (lv_at hl 3 rfl) ?_
  refine lv_iload_n hx hb dL_law_294 rfl (lv_at hl 0 rfl) ?_
  refine lv_iconst (v := 5) hx hb dL_law_295 (by decide) ?_
  refine lv_iadd hx hb dL_law_296 ?_
  refine lv_topi (fun x_5 ex_5 => ?_)
  obtain rfl : x_5 = 5 := ex_5.trans (by decide)
  refine va_sld hx hb hX hbl hbA hS (z_inC _ (k := 5) (by decide) (by decide)) dL_law_297 ?_
  have hPc := hP.sub (ws' := [(h0, .inr (9, [.ref tp, .int 0, .int 0, .int (-1), .ref nw, .ref im, .ref sl, .ref rd, .ref wk, .ref fm, .ref mt, .ref ch, .ref dy])), (tp, .inl (cA_tp, 1600, .inl (fun _ => 0)))]) [0, 1] rfl
  have hDc := hD.sub (ws' := [(h0, .inr (9, [.ref tp, .int 0, .int 0, .int (-1), .ref nw, .ref im, .ref sl, .ref rd, .ref wk, .ref fm, .ref mt, .ref ch, .ref dy])), (tp, .inl (cA_tp, 1600, .inl (fun _ => 0)))]) [0, 1] (by decide) rfl
  have hKc := hK.sub (tys' := [(cA_tp, .byte)]) [0] rfl
  have hFc := va_free (wc := [(h0, .inr (9, [.ref tp, .int 0, .int 0, .int (-1), .ref nw, .ref im, .ref sl, .ref rd, .ref wk, .ref fm, .ref mt, .ref ch, .ref dy])), (tp, .inl (cA_tp, 1600, .inl (fun _ => 0)))]) hD hS hA [0, 1] rfl
  refine va_calli (va_runV (As := [.int (xs (Int32.toNatClampNeg 1)), .int (xs (Int32.toNatClampNeg 2)), .int (xs (Int32.toNatClampNeg 3)), .int (xs (Int32.toNatClampNeg 4)), .int (xs (Int32.toNatClampNeg 5))]) (rest := []) ⟨hx, hb, hml, hown, hts⟩ (k_X9_feed l dC dI h0 (xs (Int32.toNatClampNeg 1)) (xs (Int32.toNatClampNeg 2)) (xs (Int32.toNatClampNeg 3)) (xs (Int32.toNatClampNeg 4)) (xs (Int32.toNatClampNeg 5)) tp nw im sl rd wk fm mt ch dy cA_tp H.size) (cwV 5 hts (z_gV zw_t2_229 zw_t2_230 zw_t2_231 zw_t1_1 zw_t2_232) rfl rfl rfl (by decide +kernel) ⟨(Nat.le_of_ble_eq_true rfl), (Nat.le_of_ble_eq_true rfl)⟩) (z_preV hPc hKc hDc (ci := 9) (q0 := 0) rfl rfl) rfl rfl hl.1 rfl (lv_room (Nat.le_of_ble_eq_true rfl)) dL_law_298 ⟨(Nat.le_of_ble_eq_true rfl), (Nat.le_of_ble_eq_true rfl)⟩) hS (fun q _ h => hFc q h) hFc (fun r_6 u t H1 locs ht hvm hw hB hz1 hk1 hS => ?_)
  have hB : zW dC dI [] [] (va_A [(h0, .inr (9, [.ref tp, .int 0, .int 0, .int (-1), .ref nw, .ref im, .ref sl, .ref rd, .ref wk, .ref fm, .ref mt, .ref ch, .ref dy])), (tp, .inl (cA_tp, 1600, .inl (fun _ => 0)))] H.size) t := z_none (va_K.moved hvm hK)
  obtain ⟨hP, hD, hK⟩ := z_after [(m0, .inr (10, [.int 0, .ref m_width, .ref m_many, .ref m_cells, .ref m_moved, .ref m_tape, .int 0, .int 0, .int 0, .int 0, .int 0, .long 0, .int 0, .int 0, .int 0, .int (-1), .ref m_lines, .ref m_hours, .ref m_courts, .ref m_in, .ref m_gates, .ref m_gate, .ref m_people, .ref m_at0, .ref m_stray, .ref m_set, .ref m_once, .ref m_truth, .ref m_known, .ref m_isKept, .int 0, .int (-1), .int 0, .int 0, .ref m_inside, .ref m_can, .ref m_fewest, .ref m_waysTo, .ref m_then, .ref m_two, .ref m_nextTwo, .ref m_three, .ref m_nextThree, .int (-1), .ref m_worth, .ref m_digit, .int 0, .long 0, .int 0, .int 0, .int 0, .int 0, .long 0])), (m_tape, .inl (cm_tape, 1600, .inl (fun _ => 0)))] hB ht hvm hP hD hK [0, 1] [2, 3] rfl rfl (by decide) (by decide) hk1 hFc
  generalize H1 = H at hP hS ⊢
  have hP : va_P (dC, dI) vwCl [(m0, .inr (10, [.int 0, .ref m_width, .ref m_many, .ref m_cells, .ref m_moved, .ref m_tape, .int 0, .int 0, .int 0, .int 0, .int 0, .long 0, .int 0, .int 0, .int 0, .int (-1), .ref m_lines, .ref m_hours, .ref m_courts, .ref m_in, .ref m_gates, .ref m_gate, .ref m_people, .ref m_at0, .ref m_stray, .ref m_set, .ref m_once, .ref m_truth, .ref m_known, .ref m_isKept, .int 0, .int (-1), .int 0, .int 0, .ref m_inside, .ref m_can, .ref m_fewest, .ref m_waysTo, .ref m_then, .ref m_two, .ref m_nextTwo, .ref m_three, .ref m_nextThree, .int (-1), .ref m_worth, .ref m_digit, .int 0, .long 0, .int 0, .int 0, .int 0, .int 0, .long 0])), (m_tape, .inl (cm_tape, 1600, .inl (fun _ => 0)))] H := hP
  have hD : va_D A [(m0, .inr (10, [.int 0, .ref m_width, .ref m_many, .ref m_cells, .ref m_moved, .ref m_tape, .int 0, .int 0, .int 0, .int 0, .int 0, .long 0, .int 0, .int 0, .int 0, .int (-1), .ref m_lines, .ref m_hours, .ref m_courts, .ref m_in, .ref m_gates, .ref m_gate, .ref m_people, .ref m_at0, .ref m_stray, .ref m_set, .ref m_once, .ref m_truth, .ref m_known, .ref m_isKept, .int 0, .int (-1), .int 0, .int 0, .ref m_inside, .ref m_can, .ref m_fewest, .ref m_waysTo, .ref m_then, .ref m_two, .ref m_nextTwo, .ref m_three, .ref m_nextThree, .int (-1), .ref m_worth, .ref m_digit, .int 0, .long 0, .int 0, .int 0, .int 0, .int 0, .long 0])), (m_tape, .inl (cm_tape, 1600, .inl (fun _ => 0)))] := hD
  have hK : va_K (dC, dI) vwCl [(cA_tp, .byte), (cm_tape, .byte)] s := hK
  obtain rfl : r_6 = 20 := hw
  refine lv_aload_n hx hb dL_law_301 rfl (lv_at hl 1 rfl) ?_
  refine lv_aload_n hx hb dL_law_302 rfl (lv_at hl 3 rfl) ?_
  refine lv_iload_n hx hb dL_law_303 rfl (lv_at hl 0 rfl) ?_
  refine lv_iconst (v := 1) hx hb dL_law_304 (by decide) ?_
  refine lv_iadd hx hb dL_law_305 ?_
  refine lv_topi (fun x_7 ex_7 => ?_)
  obtain rfl : x_7 = 1 := ex_7.trans (by decide)
  refine va_sld hx hb hX hbl hbA hS (z_inC _ (k := 1) (by decide) (by decide)) dL_law_306 ?_
  refine lv_aload_n hx hb dL_law_307 rfl (lv_at hl 3 rfl) ?_
  refine lv_iload_n hx hb dL_law_308 rfl (lv_at hl 0 rfl) ?_
  refine lv_iconst (v := 2) hx hb dL_law_309 (by decide) ?_
  refine lv_iadd hx hb dL_law_310 ?_
  refine lv_topi (fun x_8 ex_8 => ?_)
  obtain rfl : x_8 = 2 := ex_8.trans (by decide)
  refine va_sld hx hb hX hbl hbA hS (z_inC _ (k := 2) (by decide) (by decide)) dL_law_311 ?_
  refine lv_aload_n hx hb dL_law_312 rfl (lv_at hl 3 rfl) ?_
  refine lv_iload_n hx hb dL_law_313 rfl (lv_at hl 0 rfl) ?_
  refine lv_iconst (v := 3) hx hb dL_law_314 (by decide) ?_
  refine lv_iadd hx hb dL_law_315 ?_
  refine lv_topi (fun x_9 ex_9 => ?_)
  obtain rfl : x_9 = 3 := ex_9.trans (by decide)
  refine va_sld hx hb hX hbl hbA hS (z_inC _ (k := 3) (by decide) (by decide)) dL_law_316 ?_
  refine lv_aload_n hx hb dL_law_317 rfl (lv_at hl 3 rfl) ?_
  refine lv_iload_n hx hb dL_law_318 rfl (lv_at hl 0 rfl) ?_
  refine lv_iconst (v := 4) hx hb dL_law_319 (by decide) ?_
  refine lv_iadd hx hb dL_law_320 ?_
  refine lv_topi (fun x_10 ex_10 => ?_)
  obtain rfl : x_10 = 4 := ex_10.trans (by decide)
  refine va_sld hx hb hX hbl hbA hS (z_inC _ (k := 4) (by decide) (by decide)) dL_law_321 ?_
  refine lv_aload_n hx hb dL_law_322 rfl (lv_at hl 3 rfl) ?_
  refine lv_iload_n hx hb dL_law_323 rfl (lv_at hl 0 rfl) ?_
  refine lv_iconst (v := 5) hx hb dL_law_324 (by decide) ?_
  refine lv_iadd hx hb dL_law_325 ?_
  refine lv_topi (fun x_11 ex_11 => ?_)
  obtain rfl : x_11 = 5 := ex_11.trans (by decide)
  refine va_sld hx hb hX hbl hbA hS (z_inC _ (k := 5) (by decide) (by decide)) dL_law_326 ?_
  have hPc := hP.sub (ws' := [(m0, .inr (10, [.int 0, .ref m_width, .ref m_many, .ref m_cells, .ref m_moved, .ref m_tape, .int 0, .int 0, .int 0, .int 0, .int 0, .long 0, .int 0, .int 0, .int 0, .int (-1), .ref m_lines, .ref m_hours, .ref m_courts, .ref m_in, .ref m_gates, .ref m_gate, .ref m_people, .ref m_at0, .ref m_stray, .ref m_set, .ref m_once, .ref m_truth, .ref m_known, .ref m_isKept, .int 0, .int (-1), .int 0, .int 0, .ref m_inside, .ref m_can, .ref m_fewest, .ref m_waysTo, .ref m_then, .ref m_two, .ref m_nextTwo, .ref m_three, .ref m_nextThree, .int (-1), .ref m_worth, .ref m_digit, .int 0, .long 0, .int 0, .int 0, .int 0, .int 0, .long 0])), (m_tape, .inl (cm_tape, 1600, .inl (fun _ => 0)))]) [0, 1] rfl
  have hDc := hD.sub (ws' := [(m0, .inr (10, [.int 0, .ref m_width, .ref m_many, .ref m_cells, .ref m_moved, .ref m_tape, .int 0, .int 0, .int 0, .int 0, .int 0, .long 0, .int 0, .int 0, .int 0, .int (-1), .ref m_lines, .ref m_hours, .ref m_courts, .ref m_in, .ref m_gates, .ref m_gate, .ref m_people, .ref m_at0, .ref m_stray, .ref m_set, .ref m_once, .ref m_truth, .ref m_known, .ref m_isKept, .int 0, .int (-1), .int 0, .int 0, .ref m_inside, .ref m_can, .ref m_fewest, .ref m_waysTo, .ref m_then, .ref m_two, .ref m_nextTwo, .ref m_three, .ref m_nextThree, .int (-1), .ref m_worth, .ref m_digit, .int 0, .long 0, .int 0, .int 0, .int 0, .int 0, .long 0])), (m_tape, .inl (cm_tape, 1600, .inl (fun _ => 0)))]) [0, 1] (by decide) rfl
  have hKc := hK.sub (tys' := [(cm_tape, .byte)]) [1] rfl
  have hFc := va_free (wc := [(m0, .inr (10, [.int 0, .ref m_width, .ref m_many, .ref m_cells, .ref m_moved, .ref m_tape, .int 0, .int 0, .int 0, .int 0, .int 0, .long 0, .int 0, .int 0, .int 0, .int (-1), .ref m_lines, .ref m_hours, .ref m_courts, .ref m_in, .ref m_gates, .ref m_gate, .ref m_people, .ref m_at0, .ref m_stray, .ref m_set, .ref m_once, .ref m_truth, .ref m_known, .ref m_isKept, .int 0, .int (-1), .int 0, .int 0, .ref m_inside, .ref m_can, .ref m_fewest, .ref m_waysTo, .ref m_then, .ref m_two, .ref m_nextTwo, .ref m_three, .ref m_nextThree, .int (-1), .ref m_worth, .ref m_digit, .int 0, .long 0, .int 0, .int 0, .int 0, .int 0, .long 0])), (m_tape, .inl (cm_tape, 1600, .inl (fun _ => 0)))]) hD hS hA [0, 1] rfl
  refine va_calli (va_runV (As := [.int (xs (Int32.toNatClampNeg 1)), .int (xs (Int32.toNatClampNeg 2)), .int (xs (Int32.toNatClampNeg 3)), .int (xs (Int32.toNatClampNeg 4)), .int (xs (Int32.toNatClampNeg 5))]) (rest := [.int 20]) ⟨hx, hb, hml, hown, hts⟩ (k_X10_feed l dC dI m0 (xs (Int32.toNatClampNeg 1)) (xs (Int32.toNatClampNeg 2)) (xs (Int32.toNatClampNeg 3)) (xs (Int32.toNatClampNeg 4)) (xs (Int32.toNatClampNeg 5)) m_width m_many m_cells m_moved m_tape m_lines m_hours m_courts m_in m_gates m_gate m_people m_at0 m_stray m_set m_once m_truth m_known m_isKept m_inside m_can m_fewest m_waysTo m_then m_two m_nextTwo m_three m_nextThree m_worth m_digit cm_tape H.size) (cwV 5 hts (z_gV zw_t7_43 zw_t7_44 zw_t7_45 zw_t1_11 zw_t7_46) rfl rfl rfl (by decide +kernel) ⟨(Nat.le_of_ble_eq_true rfl), (Nat.le_of_ble_eq_true rfl)⟩) (z_preV hPc hKc hDc (ci := 10) (q0 := 0) rfl rfl) rfl rfl hl.1 rfl (lv_room (Nat.le_of_ble_eq_true rfl)) dL_law_327 ⟨(Nat.le_of_ble_eq_true rfl), (Nat.le_of_ble_eq_true rfl)⟩) hS (fun q _ h => hFc q h) hFc (fun r_12 u t H1 locs ht hvm hw hB hz1 hk1 hS => ?_)
  have hB : zW dC dI [] [] (va_A [(m0, .inr (10, [.int 0, .ref m_width, .ref m_many, .ref m_cells, .ref m_moved, .ref m_tape, .int 0, .int 0, .int 0, .int 0, .int 0, .long 0, .int 0, .int 0, .int 0, .int (-1), .ref m_lines, .ref m_hours, .ref m_courts, .ref m_in, .ref m_gates, .ref m_gate, .ref m_people, .ref m_at0, .ref m_stray, .ref m_set, .ref m_once, .ref m_truth, .ref m_known, .ref m_isKept, .int 0, .int (-1), .int 0, .int 0, .ref m_inside, .ref m_can, .ref m_fewest, .ref m_waysTo, .ref m_then, .ref m_two, .ref m_nextTwo, .ref m_three, .ref m_nextThree, .int (-1), .ref m_worth, .ref m_digit, .int 0, .long 0, .int 0, .int 0, .int 0, .int 0, .long 0])), (m_tape, .inl (cm_tape, 1600, .inl (fun _ => 0)))] H.size) t := z_none (va_K.moved hvm hK)
  obtain ⟨hP, hD, hK⟩ := z_after [] hB ht hvm hP hD hK [0, 1] [] rfl rfl (by decide) (by decide) hk1 hFc
  generalize H1 = H at hP hS ⊢
  have hP : va_P (dC, dI) vwCl [] H := hP
  have hD : va_D A [] := hD
  have hK : va_K (dC, dI) vwCl [(cA_tp, .byte), (cm_tape, .byte)] s := hK
  obtain rfl : r_12 = 20 := hw
  refine lv_icmp_eq (tgt := 2651) hx hb dL_law_330 (by decide) (fun _ => ?_) (fun q => absurd q (by decide))
  exact law_tail C0 hA2 (Nat.le_of_ble_eq_true rfl) (Nat.le_of_ble_eq_true rfl) hS (lv_sub hl [0, 3] rfl)
set_option maxHeartbeats 4000000 in
set_option maxRecDepth 100000 in
theorem law_end {p : Program} {e : Env} {s : State} {m : MethodId} {below : List Frame} {meth : Method} {c : Code} {l : Launch} {b : Nat} {xs : Nat → Int32} (C0 : lw_At p s m meth c b 6 xs) {dC : Nat → ClassId} {dI : Nat → Nat → Nat} {A : Nat → Prop} (hA : ∀ q, s.heap.size ≤ q → A q) (hA2 : ∀ q, A q → s.heap.size ≤ q) {h0 : Nat} {tp : Nat} {nw : Nat} {im : Nat} {sl : Nat} {rd : Nat} {wk : Nat} {fm : Nat} {mt : Nat} {ch : Nat} {dy : Nat} {m0 : Nat} {m_width : Nat} {m_many : Nat} {m_cells : Nat} {m_moved : Nat} {m_tape : Nat} {m_lines : Nat} {m_hours : Nat} {m_courts : Nat} {m_in : Nat} {m_gates : Nat} {m_gate : Nat} {m_people : Nat} {m_at0 : Nat} {m_stray : Nat} {m_set : Nat} {m_once : Nat} {m_truth : Nat} {m_known : Nat} {m_isKept : Nat} {m_inside : Nat} {m_can : Nat} {m_fewest : Nat} {m_waysTo : Nat} {m_then : Nat} {m_two : Nat} {m_nextTwo : Nat} {m_three : Nat} {m_nextThree : Nat} {m_worth : Nat} {m_digit : Nat}  {H : Heap} {locs : List Loc} {ls : Array Slot} (hP : va_P (dC, dI) vwCl [(h0, .inr (9, [.ref tp, .int 0, .int 0, .int (-1), .ref nw, .ref im, .ref sl, .ref rd, .ref wk, .ref fm, .ref mt, .ref ch, .ref dy])), (m0, .inr (10, [.int 0, .ref m_width, .ref m_many, .ref m_cells, .ref m_moved, .ref m_tape, .int 0, .int 0, .int 0, .int 0, .int 0, .long 0, .int 0, .int 0, .int 0, .int (-1), .ref m_lines, .ref m_hours, .ref m_courts, .ref m_in, .ref m_gates, .ref m_gate, .ref m_people, .ref m_at0, .ref m_stray, .ref m_set, .ref m_once, .ref m_truth, .ref m_known, .ref m_isKept, .int 0, .int (-1), .int 0, .int 0, .ref m_inside, .ref m_can, .ref m_fewest, .ref m_waysTo, .ref m_then, .ref m_two, .ref m_nextTwo, .ref m_three, .ref m_nextThree, .int (-1), .ref m_worth, .ref m_digit, .int 0, .long 0, .int 0, .int 0, .int 0, .int 0, .long 0]))] H) (hD : va_D A [(h0, .inr (9, [.ref tp, .int 0, .int 0, .int (-1), .ref nw, .ref im, .ref sl, .ref rd, .ref wk, .ref fm, .ref mt, .ref ch, .ref dy])), (m0, .inr (10, [.int 0, .ref m_width, .ref m_many, .ref m_cells, .ref m_moved, .ref m_tape, .int 0, .int 0, .int 0, .int 0, .int 0, .long 0, .int 0, .int 0, .int 0, .int (-1), .ref m_lines, .ref m_hours, .ref m_courts, .ref m_in, .ref m_gates, .ref m_gate, .ref m_people, .ref m_at0, .ref m_stray, .ref m_set, .ref m_once, .ref m_truth, .ref m_known, .ref m_isKept, .int 0, .int (-1), .int 0, .int 0, .ref m_inside, .ref m_can, .ref m_fewest, .ref m_waysTo, .ref m_then, .ref m_two, .ref m_nextTwo, .ref m_three, .ref m_nextThree, .int (-1), .ref m_worth, .ref m_digit, .int 0, .long 0, .int 0, .int 0, .int 0, .int 0, .long 0]))]) (hK : va_K (dC, dI) vwCl [] s) (hS : va_S A s.heap H locs) (hl : lv_has ls 4 [(3, .int 0), (2, .ref m0), (1, .ref h0), (0, .ref b)]) : W p l e room_1 s m #[Value.ref b] below meth c H locs 166 101284 (lw_Z below #[Value.ref b] s) (F0 m 335 ls []) := by
  obtain ⟨hx, hb, hr, hml, hown, hts, hX, hbl, hlocks, hgv⟩ := id C0
  have hown : s.vm.findClass RL = some m.cls := hown
  have hb : c.code = cL_law := hb
  have hts : ∀ w ∈ zT, w.before #[Value.ref b] s = true := fun w h => hts w (zT_in w h)
  have hbA : ¬ A b := fun q => absurd (hA2 b q) (Nat.not_le.mpr hbl)
  refine lv_aload_n hx hb dL_law_335 rfl (lv_at hl 2 rfl) ?_
  refine lv_aload_n hx hb dL_law_336 rfl (lv_at hl 3 rfl) ?_
  refine lv_iload_n hx hb dL_law_337 rfl (lv_at hl 0 rfl) ?_
  refine lv_iconst (v := 1) hx hb dL_law_338 (by decide) ?_
  refine lv_iadd hx hb dL_law_339 ?_
  refine lv_topi (fun x_1 ex_1 => ?_)
  obtain rfl : x_1 = 1 := ex_1.trans (by decide)
  refine va_sld hx hb hX hbl hbA hS (z_inC _ (k := 1) (by decide) (by decide)) dL_law_340 ?_
  have hPc := hP.sub (ws' := [(h0, .inr (9, [.ref tp, .int 0, .int 0, .int (-1), .ref nw, .ref im, .ref sl, .ref rd, .ref wk, .ref fm, .ref mt, .ref ch, .ref dy]))]) [0] rfl
  have hDc := hD.sub (ws' := [(h0, .inr (9, [.ref tp, .int 0, .int 0, .int (-1), .ref nw, .ref im, .ref sl, .ref rd, .ref wk, .ref fm, .ref mt, .ref ch, .ref dy]))]) [0] (by decide) rfl
  have hKc := hK.sub (tys' := []) [] rfl
  have hFc := va_free (wc := [(h0, .inr (9, [.ref tp, .int 0, .int 0, .int (-1), .ref nw, .ref im, .ref sl, .ref rd, .ref wk, .ref fm, .ref mt, .ref ch, .ref dy]))]) hD hS hA [0] rfl
  refine va_calli (va_runV (As := [.int (xs (Int32.toNatClampNeg 1))]) (rest := []) ⟨hx, hb, hml, hown, hts⟩ (k_X9_end l dC dI h0 (xs (Int32.toNatClampNeg 1)) tp nw im sl rd wk fm mt ch dy H.size) (cwV 1 hts (z_gV zw_t2_237 zw_t2_238 zw_t2_239 zw_t1_1 zw_t3_0) rfl rfl rfl (by decide +kernel) ⟨(Nat.le_of_ble_eq_true rfl), (Nat.le_of_ble_eq_true rfl)⟩) (z_preV hPc hKc hDc (ci := 9) (q0 := 0) rfl rfl) rfl rfl hl.1 rfl (lv_room (Nat.le_of_ble_eq_true rfl)) dL_law_341 ⟨(Nat.le_of_ble_eq_true rfl), (Nat.le_of_ble_eq_true rfl)⟩) hS (fun q _ h => hFc q h) hFc (fun r_2 u t H1 locs ht hvm hw hB hz1 hk1 hS => ?_)
  have hB : zW dC dI [] [] (va_A [(h0, .inr (9, [.ref tp, .int 0, .int 0, .int (-1), .ref nw, .ref im, .ref sl, .ref rd, .ref wk, .ref fm, .ref mt, .ref ch, .ref dy]))] H.size) t := z_none (va_K.moved hvm hK)
  obtain ⟨hP, hD, hK⟩ := z_after [(m0, .inr (10, [.int 0, .ref m_width, .ref m_many, .ref m_cells, .ref m_moved, .ref m_tape, .int 0, .int 0, .int 0, .int 0, .int 0, .long 0, .int 0, .int 0, .int 0, .int (-1), .ref m_lines, .ref m_hours, .ref m_courts, .ref m_in, .ref m_gates, .ref m_gate, .ref m_people, .ref m_at0, .ref m_stray, .ref m_set, .ref m_once, .ref m_truth, .ref m_known, .ref m_isKept, .int 0, .int (-1), .int 0, .int 0, .ref m_inside, .ref m_can, .ref m_fewest, .ref m_waysTo, .ref m_then, .ref m_two, .ref m_nextTwo, .ref m_three, .ref m_nextThree, .int (-1), .ref m_worth, .ref m_digit, .int 0, .long 0, .int 0, .int 0, .int 0, .int 0, .long 0]))] hB ht hvm hP hD hK [0] [1] rfl rfl (by decide) (by decide) hk1 hFc
  generalize H1 = H at hP hS ⊢
  have hP : va_P (dC, dI) vwCl [(m0, .inr (10, [.int 0, .ref m_width, .ref m_many, .ref m_cells, .ref m_moved, .ref m_tape, .int 0, .int 0, .int 0, .int 0, .int 0, .long 0, .int 0, .int 0, .int 0, .int (-1), .ref m_lines, .ref m_hours, .ref m_courts, .ref m_in, .ref m_gates, .ref m_gate, .ref m_people, .ref m_at0, .ref m_stray, .ref m_set, .ref m_once, .ref m_truth, .ref m_known, .ref m_isKept, .int 0, .int (-1), .int 0, .int 0, .ref m_inside, .ref m_can, .ref m_fewest, .ref m_waysTo, .ref m_then, .ref m_two, .ref m_nextTwo, .ref m_three, .ref m_nextThree, .int (-1), .ref m_worth, .ref m_digit, .int 0, .long 0, .int 0, .int 0, .int 0, .int 0, .long 0]))] H := hP
  have hD : va_D A [(m0, .inr (10, [.int 0, .ref m_width, .ref m_many, .ref m_cells, .ref m_moved, .ref m_tape, .int 0, .int 0, .int 0, .int 0, .int 0, .long 0, .int 0, .int 0, .int 0, .int (-1), .ref m_lines, .ref m_hours, .ref m_courts, .ref m_in, .ref m_gates, .ref m_gate, .ref m_people, .ref m_at0, .ref m_stray, .ref m_set, .ref m_once, .ref m_truth, .ref m_known, .ref m_isKept, .int 0, .int (-1), .int 0, .int 0, .ref m_inside, .ref m_can, .ref m_fewest, .ref m_waysTo, .ref m_then, .ref m_two, .ref m_nextTwo, .ref m_three, .ref m_nextThree, .int (-1), .ref m_worth, .ref m_digit, .int 0, .long 0, .int 0, .int 0, .int 0, .int 0, .long 0]))] := hD
  have hK : va_K (dC, dI) vwCl [] s := hK
  have hw_r_2 := hw
  refine lv_aload_n hx hb dL_law_344 rfl (lv_at hl 1 rfl) ?_
  refine lv_aload_n hx hb dL_law_345 rfl (lv_at hl 3 rfl) ?_
  refine lv_iload_n hx hb dL_law_346 rfl (lv_at hl 0 rfl) ?_
  refine lv_iconst (v := 1) hx hb dL_law_347 (by decide) ?_
  refine lv_iadd hx hb dL_law_348 ?_
  refine lv_topi (fun x_3 ex_3 => ?_)
  obtain rfl : x_3 = 1 := ex_3.trans (by decide)
  refine va_sld hx hb hX hbl hbA hS (z_inC _ (k := 1) (by decide) (by decide)) dL_law_349 ?_
  have hPc := hP.sub (ws' := [(m0, .inr (10, [.int 0, .ref m_width, .ref m_many, .ref m_cells, .ref m_moved, .ref m_tape, .int 0, .int 0, .int 0, .int 0, .int 0, .long 0, .int 0, .int 0, .int 0, .int (-1), .ref m_lines, .ref m_hours, .ref m_courts, .ref m_in, .ref m_gates, .ref m_gate, .ref m_people, .ref m_at0, .ref m_stray, .ref m_set, .ref m_once, .ref m_truth, .ref m_known, .ref m_isKept, .int 0, .int (-1), .int 0, .int 0, .ref m_inside, .ref m_can, .ref m_fewest, .ref m_waysTo, .ref m_then, .ref m_two, .ref m_nextTwo, .ref m_three, .ref m_nextThree, .int (-1), .ref m_worth, .ref m_digit, .int 0, .long 0, .int 0, .int 0, .int 0, .int 0, .long 0]))]) [0] rfl
  have hDc := hD.sub (ws' := [(m0, .inr (10, [.int 0, .ref m_width, .ref m_many, .ref m_cells, .ref m_moved, .ref m_tape, .int 0, .int 0, .int 0, .int 0, .int 0, .long 0, .int 0, .int 0, .int 0, .int (-1), .ref m_lines, .ref m_hours, .ref m_courts, .ref m_in, .ref m_gates, .ref m_gate, .ref m_people, .ref m_at0, .ref m_stray, .ref m_set, .ref m_once, .ref m_truth, .ref m_known, .ref m_isKept, .int 0, .int (-1), .int 0, .int 0, .ref m_inside, .ref m_can, .ref m_fewest, .ref m_waysTo, .ref m_then, .ref m_two, .ref m_nextTwo, .ref m_three, .ref m_nextThree, .int (-1), .ref m_worth, .ref m_digit, .int 0, .long 0, .int 0, .int 0, .int 0, .int 0, .long 0]))]) [0] (by decide) rfl
  have hKc := hK.sub (tys' := []) [] rfl
  have hFc := va_free (wc := [(m0, .inr (10, [.int 0, .ref m_width, .ref m_many, .ref m_cells, .ref m_moved, .ref m_tape, .int 0, .int 0, .int 0, .int 0, .int 0, .long 0, .int 0, .int 0, .int 0, .int (-1), .ref m_lines, .ref m_hours, .ref m_courts, .ref m_in, .ref m_gates, .ref m_gate, .ref m_people, .ref m_at0, .ref m_stray, .ref m_set, .ref m_once, .ref m_truth, .ref m_known, .ref m_isKept, .int 0, .int (-1), .int 0, .int 0, .ref m_inside, .ref m_can, .ref m_fewest, .ref m_waysTo, .ref m_then, .ref m_two, .ref m_nextTwo, .ref m_three, .ref m_nextThree, .int (-1), .ref m_worth, .ref m_digit, .int 0, .long 0, .int 0, .int 0, .int 0, .int 0, .long 0]))]) hD hS hA [0] rfl
  refine va_calli (va_runV (As := [.int (xs (Int32.toNatClampNeg 1))]) (rest := [.int r_2]) ⟨hx, hb, hml, hown, hts⟩ (k_X10_end l dC dI m0 (xs (Int32.toNatClampNeg 1)) m_width m_many m_cells m_moved m_tape m_lines m_hours m_courts m_in m_gates m_gate m_people m_at0 m_stray m_set m_once m_truth m_known m_isKept m_inside m_can m_fewest m_waysTo m_then m_two m_nextTwo m_three m_nextThree m_worth m_digit H.size) (cwV 1 hts (z_gV zw_t7_51 zw_t7_52 zw_t7_53 zw_t1_11 zw_t7_54) rfl rfl rfl (by decide +kernel) ⟨(Nat.le_of_ble_eq_true rfl), (Nat.le_of_ble_eq_true rfl)⟩) (z_preV hPc hKc hDc (ci := 10) (q0 := 0) rfl rfl) rfl rfl hl.1 rfl (lv_room (Nat.le_of_ble_eq_true rfl)) dL_law_350 ⟨(Nat.le_of_ble_eq_true rfl), (Nat.le_of_ble_eq_true rfl)⟩) hS (fun q _ h => hFc q h) hFc (fun r_4 u t H1 locs ht hvm hw hB hz1 hk1 hS => ?_)
  have hB : zW dC dI [] [] (va_A [(m0, .inr (10, [.int 0, .ref m_width, .ref m_many, .ref m_cells, .ref m_moved, .ref m_tape, .int 0, .int 0, .int 0, .int 0, .int 0, .long 0, .int 0, .int 0, .int 0, .int (-1), .ref m_lines, .ref m_hours, .ref m_courts, .ref m_in, .ref m_gates, .ref m_gate, .ref m_people, .ref m_at0, .ref m_stray, .ref m_set, .ref m_once, .ref m_truth, .ref m_known, .ref m_isKept, .int 0, .int (-1), .int 0, .int 0, .ref m_inside, .ref m_can, .ref m_fewest, .ref m_waysTo, .ref m_then, .ref m_two, .ref m_nextTwo, .ref m_three, .ref m_nextThree, .int (-1), .ref m_worth, .ref m_digit, .int 0, .long 0, .int 0, .int 0, .int 0, .int 0, .long 0]))] H.size) t := z_none (va_K.moved hvm hK)
  obtain ⟨hP, hD, hK⟩ := z_after [] hB ht hvm hP hD hK [0] [] rfl rfl (by decide) (by decide) hk1 hFc
  generalize H1 = H at hP hS ⊢
  have hP : va_P (dC, dI) vwCl [] H := hP
  have hD : va_D A [] := hD
  have hK : va_K (dC, dI) vwCl [] s := hK
  have hw_r_4 := hw
  refine lv_icmp_eq (tgt := 2651) hx hb dL_law_353 (by decide) (fun _ => ?_) (fun q => absurd (Eq.trans hw_r_2 (Eq.symm hw_r_4)) q)
  exact law_tail C0 hA2 (Nat.le_of_ble_eq_true rfl) (Nat.le_of_ble_eq_true rfl) hS (lv_sub hl [0, 3] rfl)
set_option maxHeartbeats 4000000 in
set_option maxRecDepth 100000 in
theorem law_town {p : Program} {e : Env} {s : State} {m : MethodId} {below : List Frame} {meth : Method} {c : Code} {l : Launch} {b : Nat} {xs : Nat → Int32} (C0 : lw_At p s m meth c b 6 xs) {dC : Nat → ClassId} {dI : Nat → Nat → Nat} {A : Nat → Prop} (hA : ∀ q, s.heap.size ≤ q → A q) (hA2 : ∀ q, A q → s.heap.size ≤ q) {h0 : Nat} {tp : Nat} {nw : Nat} {im : Nat} {sl : Nat} {rd : Nat} {wk : Nat} {fm : Nat} {mt : Nat} {ch : Nat} {dy : Nat} {cA_tp : ClassId} {tn : Nat} {tx : Nat} {kd : Nat} {st : Nat} {sp : Nat} {vl : Nat} {rt : Nat} {cA_kd : ClassId} {cA_st : ClassId} {m0 : Nat} {m_width : Nat} {m_many : Nat} {m_cells : Nat} {m_moved : Nat} {m_tape : Nat} {m_lines : Nat} {m_hours : Nat} {m_courts : Nat} {m_in : Nat} {m_gates : Nat} {m_gate : Nat} {m_people : Nat} {m_at0 : Nat} {m_stray : Nat} {m_set : Nat} {m_once : Nat} {m_truth : Nat} {m_known : Nat} {m_isKept : Nat} {m_inside : Nat} {m_can : Nat} {m_fewest : Nat} {m_waysTo : Nat} {m_then : Nat} {m_two : Nat} {m_nextTwo : Nat} {m_three : Nat} {m_nextThree : Nat} {m_worth : Nat} {m_digit : Nat} {cm_lines : ClassId} {cm_hours : ClassId} {cm_courts : ClassId} {cm_in : ClassId} {cm_gates : ClassId} {cm_gate : ClassId} {cm_people : ClassId} {cm_at0 : ClassId} {cm_stray : ClassId} {cm_set : ClassId} {cm_once : ClassId} {cm_truth : ClassId} {cm_known : ClassId}  {H : Heap} {locs : List Loc} {ls : Array Slot} (hP : va_P (dC, dI) vwCl [(h0, .inr (9, [.ref tp, .int 0, .int 0, .int (-1), .ref nw, .ref im, .ref sl, .ref rd, .ref wk, .ref fm, .ref mt, .ref ch, .ref dy])), (tp, .inl (cA_tp, 1600, .inl (fun _ => 0))), (nw, .inr (3, [.int 0, .ref tn, .int 0, .int 0, .int 0, .int 0])), (rd, .inr (5, [.int 0, .int 0, .ref tx, .ref kd, .ref st, .ref sp, .ref vl, .int 0, .int 0, .ref rt, .int 0, .int 0, .int 0])), (kd, .inl (cA_kd, 1601, .inl (fun _ => 0))), (st, .inl (cA_st, 1601, .inl (fun _ => 0))), (m0, .inr (10, [.int 0, .ref m_width, .ref m_many, .ref m_cells, .ref m_moved, .ref m_tape, .int 0, .int 0, .int 0, .int 0, .int 0, .long 0, .int 0, .int 0, .int 0, .int (-1), .ref m_lines, .ref m_hours, .ref m_courts, .ref m_in, .ref m_gates, .ref m_gate, .ref m_people, .ref m_at0, .ref m_stray, .ref m_set, .ref m_once, .ref m_truth, .ref m_known, .ref m_isKept, .int 0, .int (-1), .int 0, .int 0, .ref m_inside, .ref m_can, .ref m_fewest, .ref m_waysTo, .ref m_then, .ref m_two, .ref m_nextTwo, .ref m_three, .ref m_nextThree, .int (-1), .ref m_worth, .ref m_digit, .int 0, .long 0, .int 0, .int 0, .int 0, .int 0, .long 0])), (m_lines, .inl (cm_lines, 5, .inl (fun _ => 0))), (m_hours, .inl (cm_hours, 5, .inl (fun _ => 0))), (m_courts, .inl (cm_courts, 5, .inl (fun _ => 0))), (m_in, .inl (cm_in, 50, .inl (fun _ => 0))), (m_gates, .inl (cm_gates, 5, .inl (fun _ => 0))), (m_gate, .inl (cm_gate, 160, .inl (fun _ => 0))), (m_people, .inl (cm_people, 5, .inl (fun _ => 0))), (m_at0, .inl (cm_at0, 2400, .inl (fun _ => 0))), (m_stray, .inl (cm_stray, 100, .inl (fun _ => 0))), (m_set, .inl (cm_set, 10, .inl (fun _ => 0))), (m_once, .inl (cm_once, 10, .inl (fun _ => 0))), (m_truth, .inl (cm_truth, 10, .inl (fun _ => 0))), (m_known, .inl (cm_known, 50, .inl (fun _ => 0)))] H) (hD : va_D A [(h0, .inr (9, [.ref tp, .int 0, .int 0, .int (-1), .ref nw, .ref im, .ref sl, .ref rd, .ref wk, .ref fm, .ref mt, .ref ch, .ref dy])), (tp, .inl (cA_tp, 1600, .inl (fun _ => 0))), (nw, .inr (3, [.int 0, .ref tn, .int 0, .int 0, .int 0, .int 0])), (rd, .inr (5, [.int 0, .int 0, .ref tx, .ref kd, .ref st, .ref sp, .ref vl, .int 0, .int 0, .ref rt, .int 0, .int 0, .int 0])), (kd, .inl (cA_kd, 1601, .inl (fun _ => 0))), (st, .inl (cA_st, 1601, .inl (fun _ => 0))), (m0, .inr (10, [.int 0, .ref m_width, .ref m_many, .ref m_cells, .ref m_moved, .ref m_tape, .int 0, .int 0, .int 0, .int 0, .int 0, .long 0, .int 0, .int 0, .int 0, .int (-1), .ref m_lines, .ref m_hours, .ref m_courts, .ref m_in, .ref m_gates, .ref m_gate, .ref m_people, .ref m_at0, .ref m_stray, .ref m_set, .ref m_once, .ref m_truth, .ref m_known, .ref m_isKept, .int 0, .int (-1), .int 0, .int 0, .ref m_inside, .ref m_can, .ref m_fewest, .ref m_waysTo, .ref m_then, .ref m_two, .ref m_nextTwo, .ref m_three, .ref m_nextThree, .int (-1), .ref m_worth, .ref m_digit, .int 0, .long 0, .int 0, .int 0, .int 0, .int 0, .long 0])), (m_lines, .inl (cm_lines, 5, .inl (fun _ => 0))), (m_hours, .inl (cm_hours, 5, .inl (fun _ => 0))), (m_courts, .inl (cm_courts, 5, .inl (fun _ => 0))), (m_in, .inl (cm_in, 50, .inl (fun _ => 0))), (m_gates, .inl (cm_gates, 5, .inl (fun _ => 0))), (m_gate, .inl (cm_gate, 160, .inl (fun _ => 0))), (m_people, .inl (cm_people, 5, .inl (fun _ => 0))), (m_at0, .inl (cm_at0, 2400, .inl (fun _ => 0))), (m_stray, .inl (cm_stray, 100, .inl (fun _ => 0))), (m_set, .inl (cm_set, 10, .inl (fun _ => 0))), (m_once, .inl (cm_once, 10, .inl (fun _ => 0))), (m_truth, .inl (cm_truth, 10, .inl (fun _ => 0))), (m_known, .inl (cm_known, 50, .inl (fun _ => 0)))]) (hK : va_K (dC, dI) vwCl [(cA_tp, .byte), (cA_kd, .int), (cA_st, .int), (cm_lines, .int), (cm_hours, .int), (cm_courts, .int), (cm_in, .int), (cm_gates, .int), (cm_gate, .int), (cm_people, .int), (cm_at0, .int), (cm_stray, .int), (cm_set, .int), (cm_once, .boolean), (cm_truth, .int), (cm_known, .int)] s) (hS : va_S A s.heap H locs) (hl : lv_has ls 4 [(3, .int 0), (2, .ref m0), (1, .ref h0), (0, .ref b)]) : W p l e room_1 s m #[Value.ref b] below meth c H locs 166 101284 (lw_Z below #[Value.ref b] s) (F0 m 358 ls []) := by
  obtain ⟨hx, hb, hr, hml, hown, hts, hX, hbl, hlocks, hgv⟩ := id C0
  have hown : s.vm.findClass RL = some m.cls := hown
  have hb : c.code = cL_law := hb
  have hts : ∀ w ∈ zT, w.before #[Value.ref b] s = true := fun w h => hts w (zT_in w h)
  have hbA : ¬ A b := fun q => absurd (hA2 b q) (Nat.not_le.mpr hbl)
  refine lv_aload_n hx hb dL_law_358 rfl (lv_at hl 2 rfl) ?_
  have hPc := hP.sub (ws' := [(h0, .inr (9, [.ref tp, .int 0, .int 0, .int (-1), .ref nw, .ref im, .ref sl, .ref rd, .ref wk, .ref fm, .ref mt, .ref ch, .ref dy])), (tp, .inl (cA_tp, 1600, .inl (fun _ => 0))), (nw, .inr (3, [.int 0, .ref tn, .int 0, .int 0, .int 0, .int 0])), (rd, .inr (5, [.int 0, .int 0, .ref tx, .ref kd, .ref st, .ref sp, .ref vl, .int 0, .int 0, .ref rt, .int 0, .int 0, .int 0])), (kd, .inl (cA_kd, 1601, .inl (fun _ => 0))), (st, .inl (cA_st, 1601, .inl (fun _ => 0)))]) [0, 1, 2, 3, 4, 5] rfl
  have hDc := hD.sub (ws' := [(h0, .inr (9, [.ref tp, .int 0, .int 0, .int (-1), .ref nw, .ref im, .ref sl, .ref rd, .ref wk, .ref fm, .ref mt, .ref ch, .ref dy])), (tp, .inl (cA_tp, 1600, .inl (fun _ => 0))), (nw, .inr (3, [.int 0, .ref tn, .int 0, .int 0, .int 0, .int 0])), (rd, .inr (5, [.int 0, .int 0, .ref tx, .ref kd, .ref st, .ref sp, .ref vl, .int 0, .int 0, .ref rt, .int 0, .int 0, .int 0])), (kd, .inl (cA_kd, 1601, .inl (fun _ => 0))), (st, .inl (cA_st, 1601, .inl (fun _ => 0)))]) [0, 1, 2, 3, 4, 5] (by decide) rfl
  have hKc := hK.sub (tys' := [(cA_tp, .byte), (cA_kd, .int), (cA_st, .int)]) [0, 1, 2] rfl
  have hFc := va_free (wc := [(h0, .inr (9, [.ref tp, .int 0, .int 0, .int (-1), .ref nw, .ref im, .ref sl, .ref rd, .ref wk, .ref fm, .ref mt, .ref ch, .ref dy])), (tp, .inl (cA_tp, 1600, .inl (fun _ => 0))), (nw, .inr (3, [.int 0, .ref tn, .int 0, .int 0, .int 0, .int 0])), (rd, .inr (5, [.int 0, .int 0, .ref tx, .ref kd, .ref st, .ref sp, .ref vl, .int 0, .int 0, .ref rt, .int 0, .int 0, .int 0])), (kd, .inl (cA_kd, 1601, .inl (fun _ => 0))), (st, .inl (cA_st, 1601, .inl (fun _ => 0)))]) hD hS hA [0, 1, 2, 3, 4, 5] rfl
  refine va_calli (va_runV (As := []) (rest := []) ⟨hx, hb, hml, hown, hts⟩ (k_X9_town l dC dI h0 tp nw im sl rd wk fm mt ch dy cA_tp tn tx kd st sp vl rt cA_kd cA_st H.size) (cwV 0 hts (z_gV zw_t3_1 zw_t3_2 zw_t3_3 zw_t1_1 zw_t3_4) rfl rfl rfl (by decide +kernel) ⟨(Nat.le_of_ble_eq_true rfl), (Nat.le_of_ble_eq_true rfl)⟩) (z_preV hPc hKc hDc (ci := 9) (q0 := 0) rfl rfl) rfl rfl hl.1 rfl (lv_room (Nat.le_of_ble_eq_true rfl)) dL_law_359 ⟨(Nat.le_of_ble_eq_true rfl), (Nat.le_of_ble_eq_true rfl)⟩) hS (fun q _ h => hFc q h) hFc (fun r_1 u t H1 locs ht hvm hw hB hz1 hk1 hS => ?_)
  have hB : zW dC dI [] [] (va_A [(h0, .inr (9, [.ref tp, .int 0, .int 0, .int (-1), .ref nw, .ref im, .ref sl, .ref rd, .ref wk, .ref fm, .ref mt, .ref ch, .ref dy])), (tp, .inl (cA_tp, 1600, .inl (fun _ => 0))), (nw, .inr (3, [.int 0, .ref tn, .int 0, .int 0, .int 0, .int 0])), (rd, .inr (5, [.int 0, .int 0, .ref tx, .ref kd, .ref st, .ref sp, .ref vl, .int 0, .int 0, .ref rt, .int 0, .int 0, .int 0])), (kd, .inl (cA_kd, 1601, .inl (fun _ => 0))), (st, .inl (cA_st, 1601, .inl (fun _ => 0)))] H.size) t := z_none (va_K.moved hvm hK)
  obtain ⟨hP, hD, hK⟩ := z_after [(m0, .inr (10, [.int 0, .ref m_width, .ref m_many, .ref m_cells, .ref m_moved, .ref m_tape, .int 0, .int 0, .int 0, .int 0, .int 0, .long 0, .int 0, .int 0, .int 0, .int (-1), .ref m_lines, .ref m_hours, .ref m_courts, .ref m_in, .ref m_gates, .ref m_gate, .ref m_people, .ref m_at0, .ref m_stray, .ref m_set, .ref m_once, .ref m_truth, .ref m_known, .ref m_isKept, .int 0, .int (-1), .int 0, .int 0, .ref m_inside, .ref m_can, .ref m_fewest, .ref m_waysTo, .ref m_then, .ref m_two, .ref m_nextTwo, .ref m_three, .ref m_nextThree, .int (-1), .ref m_worth, .ref m_digit, .int 0, .long 0, .int 0, .int 0, .int 0, .int 0, .long 0])), (m_lines, .inl (cm_lines, 5, .inl (fun _ => 0))), (m_hours, .inl (cm_hours, 5, .inl (fun _ => 0))), (m_courts, .inl (cm_courts, 5, .inl (fun _ => 0))), (m_in, .inl (cm_in, 50, .inl (fun _ => 0))), (m_gates, .inl (cm_gates, 5, .inl (fun _ => 0))), (m_gate, .inl (cm_gate, 160, .inl (fun _ => 0))), (m_people, .inl (cm_people, 5, .inl (fun _ => 0))), (m_at0, .inl (cm_at0, 2400, .inl (fun _ => 0))), (m_stray, .inl (cm_stray, 100, .inl (fun _ => 0))), (m_set, .inl (cm_set, 10, .inl (fun _ => 0))), (m_once, .inl (cm_once, 10, .inl (fun _ => 0))), (m_truth, .inl (cm_truth, 10, .inl (fun _ => 0))), (m_known, .inl (cm_known, 50, .inl (fun _ => 0)))] hB ht hvm hP hD hK [0, 1, 2, 3, 4, 5] [6, 7, 8, 9, 10, 11, 12, 13, 14, 15, 16, 17, 18, 19] rfl rfl (by decide) (by decide) hk1 hFc
  generalize H1 = H at hP hS ⊢
  have hP : va_P (dC, dI) vwCl [(m0, .inr (10, [.int 0, .ref m_width, .ref m_many, .ref m_cells, .ref m_moved, .ref m_tape, .int 0, .int 0, .int 0, .int 0, .int 0, .long 0, .int 0, .int 0, .int 0, .int (-1), .ref m_lines, .ref m_hours, .ref m_courts, .ref m_in, .ref m_gates, .ref m_gate, .ref m_people, .ref m_at0, .ref m_stray, .ref m_set, .ref m_once, .ref m_truth, .ref m_known, .ref m_isKept, .int 0, .int (-1), .int 0, .int 0, .ref m_inside, .ref m_can, .ref m_fewest, .ref m_waysTo, .ref m_then, .ref m_two, .ref m_nextTwo, .ref m_three, .ref m_nextThree, .int (-1), .ref m_worth, .ref m_digit, .int 0, .long 0, .int 0, .int 0, .int 0, .int 0, .long 0])), (m_lines, .inl (cm_lines, 5, .inl (fun _ => 0))), (m_hours, .inl (cm_hours, 5, .inl (fun _ => 0))), (m_courts, .inl (cm_courts, 5, .inl (fun _ => 0))), (m_in, .inl (cm_in, 50, .inl (fun _ => 0))), (m_gates, .inl (cm_gates, 5, .inl (fun _ => 0))), (m_gate, .inl (cm_gate, 160, .inl (fun _ => 0))), (m_people, .inl (cm_people, 5, .inl (fun _ => 0))), (m_at0, .inl (cm_at0, 2400, .inl (fun _ => 0))), (m_stray, .inl (cm_stray, 100, .inl (fun _ => 0))), (m_set, .inl (cm_set, 10, .inl (fun _ => 0))), (m_once, .inl (cm_once, 10, .inl (fun _ => 0))), (m_truth, .inl (cm_truth, 10, .inl (fun _ => 0))), (m_known, .inl (cm_known, 50, .inl (fun _ => 0)))] H := hP
  have hD : va_D A [(m0, .inr (10, [.int 0, .ref m_width, .ref m_many, .ref m_cells, .ref m_moved, .ref m_tape, .int 0, .int 0, .int 0, .int 0, .int 0, .long 0, .int 0, .int 0, .int 0, .int (-1), .ref m_lines, .ref m_hours, .ref m_courts, .ref m_in, .ref m_gates, .ref m_gate, .ref m_people, .ref m_at0, .ref m_stray, .ref m_set, .ref m_once, .ref m_truth, .ref m_known, .ref m_isKept, .int 0, .int (-1), .int 0, .int 0, .ref m_inside, .ref m_can, .ref m_fewest, .ref m_waysTo, .ref m_then, .ref m_two, .ref m_nextTwo, .ref m_three, .ref m_nextThree, .int (-1), .ref m_worth, .ref m_digit, .int 0, .long 0, .int 0, .int 0, .int 0, .int 0, .long 0])), (m_lines, .inl (cm_lines, 5, .inl (fun _ => 0))), (m_hours, .inl (cm_hours, 5, .inl (fun _ => 0))), (m_courts, .inl (cm_courts, 5, .inl (fun _ => 0))), (m_in, .inl (cm_in, 50, .inl (fun _ => 0))), (m_gates, .inl (cm_gates, 5, .inl (fun _ => 0))), (m_gate, .inl (cm_gate, 160, .inl (fun _ => 0))), (m_people, .inl (cm_people, 5, .inl (fun _ => 0))), (m_at0, .inl (cm_at0, 2400, .inl (fun _ => 0))), (m_stray, .inl (cm_stray, 100, .inl (fun _ => 0))), (m_set, .inl (cm_set, 10, .inl (fun _ => 0))), (m_once, .inl (cm_once, 10, .inl (fun _ => 0))), (m_truth, .inl (cm_truth, 10, .inl (fun _ => 0))), (m_known, .inl (cm_known, 50, .inl (fun _ => 0)))] := hD
  have hK : va_K (dC, dI) vwCl [(cA_tp, .byte), (cA_kd, .int), (cA_st, .int), (cm_lines, .int), (cm_hours, .int), (cm_courts, .int), (cm_in, .int), (cm_gates, .int), (cm_gate, .int), (cm_people, .int), (cm_at0, .int), (cm_stray, .int), (cm_set, .int), (cm_once, .boolean), (cm_truth, .int), (cm_known, .int)] s := hK
  refine W.widen (k := 177) (n := 101974) (Nat.le_of_ble_eq_true rfl) (Nat.le_of_ble_eq_true rfl) ?_
  obtain rfl : r_1 = 0 := hw
  refine lv_aload_n hx hb dL_law_362 rfl (lv_at hl 1 rfl) ?_
  have hPc := hP.sub (ws' := [(m0, .inr (10, [.int 0, .ref m_width, .ref m_many, .ref m_cells, .ref m_moved, .ref m_tape, .int 0, .int 0, .int 0, .int 0, .int 0, .long 0, .int 0, .int 0, .int 0, .int (-1), .ref m_lines, .ref m_hours, .ref m_courts, .ref m_in, .ref m_gates, .ref m_gate, .ref m_people, .ref m_at0, .ref m_stray, .ref m_set, .ref m_once, .ref m_truth, .ref m_known, .ref m_isKept, .int 0, .int (-1), .int 0, .int 0, .ref m_inside, .ref m_can, .ref m_fewest, .ref m_waysTo, .ref m_then, .ref m_two, .ref m_nextTwo, .ref m_three, .ref m_nextThree, .int (-1), .ref m_worth, .ref m_digit, .int 0, .long 0, .int 0, .int 0, .int 0, .int 0, .long 0])), (m_lines, .inl (cm_lines, 5, .inl (fun _ => 0))), (m_hours, .inl (cm_hours, 5, .inl (fun _ => 0))), (m_courts, .inl (cm_courts, 5, .inl (fun _ => 0))), (m_in, .inl (cm_in, 50, .inl (fun _ => 0))), (m_gates, .inl (cm_gates, 5, .inl (fun _ => 0))), (m_gate, .inl (cm_gate, 160, .inl (fun _ => 0))), (m_people, .inl (cm_people, 5, .inl (fun _ => 0))), (m_at0, .inl (cm_at0, 2400, .inl (fun _ => 0))), (m_stray, .inl (cm_stray, 100, .inl (fun _ => 0))), (m_set, .inl (cm_set, 10, .inl (fun _ => 0))), (m_once, .inl (cm_once, 10, .inl (fun _ => 0))), (m_truth, .inl (cm_truth, 10, .inl (fun _ => 0))), (m_known, .inl (cm_known, 50, .inl (fun _ => 0)))]) [0, 1, 2, 3, 4, 5, 6, 7, 8, 9, 10, 11, 12, 13] rfl
  have hDc := hD.sub (ws' := [(m0, .inr (10, [.int 0, .ref m_width, .ref m_many, .ref m_cells, .ref m_moved, .ref m_tape, .int 0, .int 0, .int 0, .int 0, .int 0, .long 0, .int 0, .int 0, .int 0, .int (-1), .ref m_lines, .ref m_hours, .ref m_courts, .ref m_in, .ref m_gates, .ref m_gate, .ref m_people, .ref m_at0, .ref m_stray, .ref m_set, .ref m_once, .ref m_truth, .ref m_known, .ref m_isKept, .int 0, .int (-1), .int 0, .int 0, .ref m_inside, .ref m_can, .ref m_fewest, .ref m_waysTo, .ref m_then, .ref m_two, .ref m_nextTwo, .ref m_three, .ref m_nextThree, .int (-1), .ref m_worth, .ref m_digit, .int 0, .long 0, .int 0, .int 0, .int 0, .int 0, .long 0])), (m_lines, .inl (cm_lines, 5, .inl (fun _ => 0))), (m_hours, .inl (cm_hours, 5, .inl (fun _ => 0))), (m_courts, .inl (cm_courts, 5, .inl (fun _ => 0))), (m_in, .inl (cm_in, 50, .inl (fun _ => 0))), (m_gates, .inl (cm_gates, 5, .inl (fun _ => 0))), (m_gate, .inl (cm_gate, 160, .inl (fun _ => 0))), (m_people, .inl (cm_people, 5, .inl (fun _ => 0))), (m_at0, .inl (cm_at0, 2400, .inl (fun _ => 0))), (m_stray, .inl (cm_stray, 100, .inl (fun _ => 0))), (m_set, .inl (cm_set, 10, .inl (fun _ => 0))), (m_once, .inl (cm_once, 10, .inl (fun _ => 0))), (m_truth, .inl (cm_truth, 10, .inl (fun _ => 0))), (m_known, .inl (cm_known, 50, .inl (fun _ => 0)))]) [0, 1, 2, 3, 4, 5, 6, 7, 8, 9, 10, 11, 12, 13] (by decide) rfl
  have hKc := hK.sub (tys' := [(cm_lines, .int), (cm_hours, .int), (cm_courts, .int), (cm_in, .int), (cm_gates, .int), (cm_gate, .int), (cm_people, .int), (cm_at0, .int), (cm_stray, .int), (cm_set, .int), (cm_once, .boolean), (cm_truth, .int), (cm_known, .int)]) [3, 4, 5, 6, 7, 8, 9, 10, 11, 12, 13, 14, 15] rfl
  have hFc := va_free (wc := [(m0, .inr (10, [.int 0, .ref m_width, .ref m_many, .ref m_cells, .ref m_moved, .ref m_tape, .int 0, .int 0, .int 0, .int 0, .int 0, .long 0, .int 0, .int 0, .int 0, .int (-1), .ref m_lines, .ref m_hours, .ref m_courts, .ref m_in, .ref m_gates, .ref m_gate, .ref m_people, .ref m_at0, .ref m_stray, .ref m_set, .ref m_once, .ref m_truth, .ref m_known, .ref m_isKept, .int 0, .int (-1), .int 0, .int 0, .ref m_inside, .ref m_can, .ref m_fewest, .ref m_waysTo, .ref m_then, .ref m_two, .ref m_nextTwo, .ref m_three, .ref m_nextThree, .int (-1), .ref m_worth, .ref m_digit, .int 0, .long 0, .int 0, .int 0, .int 0, .int 0, .long 0])), (m_lines, .inl (cm_lines, 5, .inl (fun _ => 0))), (m_hours, .inl (cm_hours, 5, .inl (fun _ => 0))), (m_courts, .inl (cm_courts, 5, .inl (fun _ => 0))), (m_in, .inl (cm_in, 50, .inl (fun _ => 0))), (m_gates, .inl (cm_gates, 5, .inl (fun _ => 0))), (m_gate, .inl (cm_gate, 160, .inl (fun _ => 0))), (m_people, .inl (cm_people, 5, .inl (fun _ => 0))), (m_at0, .inl (cm_at0, 2400, .inl (fun _ => 0))), (m_stray, .inl (cm_stray, 100, .inl (fun _ => 0))), (m_set, .inl (cm_set, 10, .inl (fun _ => 0))), (m_once, .inl (cm_once, 10, .inl (fun _ => 0))), (m_truth, .inl (cm_truth, 10, .inl (fun _ => 0))), (m_known, .inl (cm_known, 50, .inl (fun _ => 0)))]) hD hS hA [0, 1, 2, 3, 4, 5, 6, 7, 8, 9, 10, 11, 12, 13] rfl
  refine va_calli (va_runV (As := []) (rest := [.int 0]) ⟨hx, hb, hml, hown, hts⟩ (k_X10_town l dC dI m0 m_width m_many m_cells m_moved m_tape m_lines m_hours m_courts m_in m_gates m_gate m_people m_at0 m_stray m_set m_once m_truth m_known m_isKept m_inside m_can m_fewest m_waysTo m_then m_two m_nextTwo m_three m_nextThree m_worth m_digit cm_lines cm_hours cm_courts cm_in cm_gates cm_gate cm_people cm_at0 cm_stray cm_set cm_once cm_truth cm_known H.size) (cwV 0 hts (z_gV zw_t7_59 zw_t7_60 zw_t7_61 zw_t1_11 zw_t7_62) rfl rfl rfl (by decide +kernel) ⟨(Nat.le_of_ble_eq_true rfl), (Nat.le_of_ble_eq_true rfl)⟩) (z_preV hPc hKc hDc (ci := 10) (q0 := 0) rfl rfl) rfl rfl hl.1 rfl (lv_room (Nat.le_of_ble_eq_true rfl)) dL_law_363 ⟨(Nat.le_of_ble_eq_true rfl), (Nat.le_of_ble_eq_true rfl)⟩) hS (fun q _ h => hFc q h) hFc (fun r_2 u t H1 locs ht hvm hw hB hz1 hk1 hS => ?_)
  have hB : zW dC dI [] [] (va_A [(m0, .inr (10, [.int 0, .ref m_width, .ref m_many, .ref m_cells, .ref m_moved, .ref m_tape, .int 0, .int 0, .int 0, .int 0, .int 0, .long 0, .int 0, .int 0, .int 0, .int (-1), .ref m_lines, .ref m_hours, .ref m_courts, .ref m_in, .ref m_gates, .ref m_gate, .ref m_people, .ref m_at0, .ref m_stray, .ref m_set, .ref m_once, .ref m_truth, .ref m_known, .ref m_isKept, .int 0, .int (-1), .int 0, .int 0, .ref m_inside, .ref m_can, .ref m_fewest, .ref m_waysTo, .ref m_then, .ref m_two, .ref m_nextTwo, .ref m_three, .ref m_nextThree, .int (-1), .ref m_worth, .ref m_digit, .int 0, .long 0, .int 0, .int 0, .int 0, .int 0, .long 0])), (m_lines, .inl (cm_lines, 5, .inl (fun _ => 0))), (m_hours, .inl (cm_hours, 5, .inl (fun _ => 0))), (m_courts, .inl (cm_courts, 5, .inl (fun _ => 0))), (m_in, .inl (cm_in, 50, .inl (fun _ => 0))), (m_gates, .inl (cm_gates, 5, .inl (fun _ => 0))), (m_gate, .inl (cm_gate, 160, .inl (fun _ => 0))), (m_people, .inl (cm_people, 5, .inl (fun _ => 0))), (m_at0, .inl (cm_at0, 2400, .inl (fun _ => 0))), (m_stray, .inl (cm_stray, 100, .inl (fun _ => 0))), (m_set, .inl (cm_set, 10, .inl (fun _ => 0))), (m_once, .inl (cm_once, 10, .inl (fun _ => 0))), (m_truth, .inl (cm_truth, 10, .inl (fun _ => 0))), (m_known, .inl (cm_known, 50, .inl (fun _ => 0)))] H.size) t := z_none (va_K.moved hvm hK)
  obtain ⟨hP, hD, hK⟩ := z_after [] hB ht hvm hP hD hK [0, 1, 2, 3, 4, 5, 6, 7, 8, 9, 10, 11, 12, 13] [] rfl rfl (by decide) (by decide) hk1 hFc
  generalize H1 = H at hP hS ⊢
  have hP : va_P (dC, dI) vwCl [] H := hP
  have hD : va_D A [] := hD
  have hK : va_K (dC, dI) vwCl [(cA_tp, .byte), (cA_kd, .int), (cA_st, .int), (cm_lines, .int), (cm_hours, .int), (cm_courts, .int), (cm_in, .int), (cm_gates, .int), (cm_gate, .int), (cm_people, .int), (cm_at0, .int), (cm_stray, .int), (cm_set, .int), (cm_once, .boolean), (cm_truth, .int), (cm_known, .int)] s := hK
  obtain rfl : r_2 = 0 := hw
  refine lv_icmp_eq (tgt := 2651) hx hb dL_law_366 (by decide) (fun _ => ?_) (fun q => absurd q (by decide))
  exact law_tail C0 hA2 (Nat.le_of_ble_eq_true rfl) (Nat.le_of_ble_eq_true rfl) hS (lv_sub hl [0, 3] rfl)
set_option maxHeartbeats 4000000 in
set_option maxRecDepth 100000 in
theorem law_fault {p : Program} {e : Env} {s : State} {m : MethodId} {below : List Frame} {meth : Method} {c : Code} {l : Launch} {b : Nat} {xs : Nat → Int32} (C0 : lw_At p s m meth c b 6 xs) {dC : Nat → ClassId} {dI : Nat → Nat → Nat} {A : Nat → Prop} (hA : ∀ q, s.heap.size ≤ q → A q) (hA2 : ∀ q, A q → s.heap.size ≤ q) {h0 : Nat} {tp : Nat} {nw : Nat} {im : Nat} {sl : Nat} {rd : Nat} {wk : Nat} {fm : Nat} {mt : Nat} {ch : Nat} {dy : Nat} {m0 : Nat} {m_width : Nat} {m_many : Nat} {m_cells : Nat} {m_moved : Nat} {m_tape : Nat} {m_lines : Nat} {m_hours : Nat} {m_courts : Nat} {m_in : Nat} {m_gates : Nat} {m_gate : Nat} {m_people : Nat} {m_at0 : Nat} {m_stray : Nat} {m_set : Nat} {m_once : Nat} {m_truth : Nat} {m_known : Nat} {m_isKept : Nat} {m_inside : Nat} {m_can : Nat} {m_fewest : Nat} {m_waysTo : Nat} {m_then : Nat} {m_two : Nat} {m_nextTwo : Nat} {m_three : Nat} {m_nextThree : Nat} {m_worth : Nat} {m_digit : Nat}  {H : Heap} {locs : List Loc} {ls : Array Slot} (hP : va_P (dC, dI) vwCl [(h0, .inr (9, [.ref tp, .int 0, .int 0, .int (-1), .ref nw, .ref im, .ref sl, .ref rd, .ref wk, .ref fm, .ref mt, .ref ch, .ref dy])), (m0, .inr (10, [.int 0, .ref m_width, .ref m_many, .ref m_cells, .ref m_moved, .ref m_tape, .int 0, .int 0, .int 0, .int 0, .int 0, .long 0, .int 0, .int 0, .int 0, .int (-1), .ref m_lines, .ref m_hours, .ref m_courts, .ref m_in, .ref m_gates, .ref m_gate, .ref m_people, .ref m_at0, .ref m_stray, .ref m_set, .ref m_once, .ref m_truth, .ref m_known, .ref m_isKept, .int 0, .int (-1), .int 0, .int 0, .ref m_inside, .ref m_can, .ref m_fewest, .ref m_waysTo, .ref m_then, .ref m_two, .ref m_nextTwo, .ref m_three, .ref m_nextThree, .int (-1), .ref m_worth, .ref m_digit, .int 0, .long 0, .int 0, .int 0, .int 0, .int 0, .long 0]))] H) (hD : va_D A [(h0, .inr (9, [.ref tp, .int 0, .int 0, .int (-1), .ref nw, .ref im, .ref sl, .ref rd, .ref wk, .ref fm, .ref mt, .ref ch, .ref dy])), (m0, .inr (10, [.int 0, .ref m_width, .ref m_many, .ref m_cells, .ref m_moved, .ref m_tape, .int 0, .int 0, .int 0, .int 0, .int 0, .long 0, .int 0, .int 0, .int 0, .int (-1), .ref m_lines, .ref m_hours, .ref m_courts, .ref m_in, .ref m_gates, .ref m_gate, .ref m_people, .ref m_at0, .ref m_stray, .ref m_set, .ref m_once, .ref m_truth, .ref m_known, .ref m_isKept, .int 0, .int (-1), .int 0, .int 0, .ref m_inside, .ref m_can, .ref m_fewest, .ref m_waysTo, .ref m_then, .ref m_two, .ref m_nextTwo, .ref m_three, .ref m_nextThree, .int (-1), .ref m_worth, .ref m_digit, .int 0, .long 0, .int 0, .int 0, .int 0, .int 0, .long 0]))]) (hK : va_K (dC, dI) vwCl [] s) (hS : va_S A s.heap H locs) (hl : lv_has ls 4 [(3, .int 0), (2, .ref m0), (1, .ref h0), (0, .ref b)]) : W p l e room_1 s m #[Value.ref b] below meth c H locs 166 101284 (lw_Z below #[Value.ref b] s) (F0 m 371 ls []) := by
  obtain ⟨hx, hb, hr, hml, hown, hts, hX, hbl, hlocks, hgv⟩ := id C0
  have hown : s.vm.findClass RL = some m.cls := hown
  have hb : c.code = cL_law := hb
  have hts : ∀ w ∈ zT, w.before #[Value.ref b] s = true := fun w h => hts w (zT_in w h)
  have hbA : ¬ A b := fun q => absurd (hA2 b q) (Nat.not_le.mpr hbl)
  refine lv_aload_n hx hb dL_law_371 rfl (lv_at hl 2 rfl) ?_
  refine lv_aload_n hx hb dL_law_372 rfl (lv_at hl 3 rfl) ?_
  refine lv_iload_n hx hb dL_law_373 rfl (lv_at hl 0 rfl) ?_
  refine lv_iconst (v := 1) hx hb dL_law_374 (by decide) ?_
  refine lv_iadd hx hb dL_law_375 ?_
  refine lv_topi (fun x_1 ex_1 => ?_)
  obtain rfl : x_1 = 1 := ex_1.trans (by decide)
  refine va_sld hx hb hX hbl hbA hS (z_inC _ (k := 1) (by decide) (by decide)) dL_law_376 ?_
  have hPc := hP.sub (ws' := [(h0, .inr (9, [.ref tp, .int 0, .int 0, .int (-1), .ref nw, .ref im, .ref sl, .ref rd, .ref wk, .ref fm, .ref mt, .ref ch, .ref dy]))]) [0] rfl
  have hDc := hD.sub (ws' := [(h0, .inr (9, [.ref tp, .int 0, .int 0, .int (-1), .ref nw, .ref im, .ref sl, .ref rd, .ref wk, .ref fm, .ref mt, .ref ch, .ref dy]))]) [0] (by decide) rfl
  have hKc := hK.sub (tys' := []) [] rfl
  have hFc := va_free (wc := [(h0, .inr (9, [.ref tp, .int 0, .int 0, .int (-1), .ref nw, .ref im, .ref sl, .ref rd, .ref wk, .ref fm, .ref mt, .ref ch, .ref dy]))]) hD hS hA [0] rfl
  refine va_calli (va_runV (As := [.int (xs (Int32.toNatClampNeg 1))]) (rest := []) ⟨hx, hb, hml, hown, hts⟩ (k_X9_fault l dC dI h0 (xs (Int32.toNatClampNeg 1)) tp nw im sl rd wk fm mt ch dy H.size) (cwV 1 hts (z_gV zw_t3_161 zw_t3_162 zw_t3_163 zw_t1_1 zw_t3_164) rfl rfl rfl (by decide +kernel) ⟨(Nat.le_of_ble_eq_true rfl), (Nat.le_of_ble_eq_true rfl)⟩) (z_preV hPc hKc hDc (ci := 9) (q0 := 0) rfl rfl) rfl rfl hl.1 rfl (lv_room (Nat.le_of_ble_eq_true rfl)) dL_law_377 ⟨(Nat.le_of_ble_eq_true rfl), (Nat.le_of_ble_eq_true rfl)⟩) hS (fun q _ h => hFc q h) hFc (fun r_2 u t H1 locs ht hvm hw hB hz1 hk1 hS => ?_)
  have hB : zW dC dI [] [] (va_A [(h0, .inr (9, [.ref tp, .int 0, .int 0, .int (-1), .ref nw, .ref im, .ref sl, .ref rd, .ref wk, .ref fm, .ref mt, .ref ch, .ref dy]))] H.size) t := z_none (va_K.moved hvm hK)
  obtain ⟨hP, hD, hK⟩ := z_after [(m0, .inr (10, [.int 0, .ref m_width, .ref m_many, .ref m_cells, .ref m_moved, .ref m_tape, .int 0, .int 0, .int 0, .int 0, .int 0, .long 0, .int 0, .int 0, .int 0, .int (-1), .ref m_lines, .ref m_hours, .ref m_courts, .ref m_in, .ref m_gates, .ref m_gate, .ref m_people, .ref m_at0, .ref m_stray, .ref m_set, .ref m_once, .ref m_truth, .ref m_known, .ref m_isKept, .int 0, .int (-1), .int 0, .int 0, .ref m_inside, .ref m_can, .ref m_fewest, .ref m_waysTo, .ref m_then, .ref m_two, .ref m_nextTwo, .ref m_three, .ref m_nextThree, .int (-1), .ref m_worth, .ref m_digit, .int 0, .long 0, .int 0, .int 0, .int 0, .int 0, .long 0]))] hB ht hvm hP hD hK [0] [1] rfl rfl (by decide) (by decide) hk1 hFc
  generalize H1 = H at hP hS ⊢
  have hP : va_P (dC, dI) vwCl [(m0, .inr (10, [.int 0, .ref m_width, .ref m_many, .ref m_cells, .ref m_moved, .ref m_tape, .int 0, .int 0, .int 0, .int 0, .int 0, .long 0, .int 0, .int 0, .int 0, .int (-1), .ref m_lines, .ref m_hours, .ref m_courts, .ref m_in, .ref m_gates, .ref m_gate, .ref m_people, .ref m_at0, .ref m_stray, .ref m_set, .ref m_once, .ref m_truth, .ref m_known, .ref m_isKept, .int 0, .int (-1), .int 0, .int 0, .ref m_inside, .ref m_can, .ref m_fewest, .ref m_waysTo, .ref m_then, .ref m_two, .ref m_nextTwo, .ref m_three, .ref m_nextThree, .int (-1), .ref m_worth, .ref m_digit, .int 0, .long 0, .int 0, .int 0, .int 0, .int 0, .long 0]))] H := hP
  have hD : va_D A [(m0, .inr (10, [.int 0, .ref m_width, .ref m_many, .ref m_cells, .ref m_moved, .ref m_tape, .int 0, .int 0, .int 0, .int 0, .int 0, .long 0, .int 0, .int 0, .int 0, .int (-1), .ref m_lines, .ref m_hours, .ref m_courts, .ref m_in, .ref m_gates, .ref m_gate, .ref m_people, .ref m_at0, .ref m_stray, .ref m_set, .ref m_once, .ref m_truth, .ref m_known, .ref m_isKept, .int 0, .int (-1), .int 0, .int 0, .ref m_inside, .ref m_can, .ref m_fewest, .ref m_waysTo, .ref m_then, .ref m_two, .ref m_nextTwo, .ref m_three, .ref m_nextThree, .int (-1), .ref m_worth, .ref m_digit, .int 0, .long 0, .int 0, .int 0, .int 0, .int 0, .long 0]))] := hD
  have hK : va_K (dC, dI) vwCl [] s := hK
  have hw_r_2 := hw
  refine lv_aload_n hx hb dL_law_380 rfl (lv_at hl 1 rfl) ?_
  refine lv_aload_n hx hb dL_law_381 rfl (lv_at hl 3 rfl) ?_
  refine lv_iload_n hx hb dL_law_382 rfl (lv_at hl 0 rfl) ?_
  refine lv_iconst (v := 1) hx hb dL_law_383 (by decide) ?_
  refine lv_iadd hx hb dL_law_384 ?_
  refine lv_topi (fun x_3 ex_3 => ?_)
  obtain rfl : x_3 = 1 := ex_3.trans (by decide)
  refine va_sld hx hb hX hbl hbA hS (z_inC _ (k := 1) (by decide) (by decide)) dL_law_385 ?_
  have hPc := hP.sub (ws' := [(m0, .inr (10, [.int 0, .ref m_width, .ref m_many, .ref m_cells, .ref m_moved, .ref m_tape, .int 0, .int 0, .int 0, .int 0, .int 0, .long 0, .int 0, .int 0, .int 0, .int (-1), .ref m_lines, .ref m_hours, .ref m_courts, .ref m_in, .ref m_gates, .ref m_gate, .ref m_people, .ref m_at0, .ref m_stray, .ref m_set, .ref m_once, .ref m_truth, .ref m_known, .ref m_isKept, .int 0, .int (-1), .int 0, .int 0, .ref m_inside, .ref m_can, .ref m_fewest, .ref m_waysTo, .ref m_then, .ref m_two, .ref m_nextTwo, .ref m_three, .ref m_nextThree, .int (-1), .ref m_worth, .ref m_digit, .int 0, .long 0, .int 0, .int 0, .int 0, .int 0, .long 0]))]) [0] rfl
  have hDc := hD.sub (ws' := [(m0, .inr (10, [.int 0, .ref m_width, .ref m_many, .ref m_cells, .ref m_moved, .ref m_tape, .int 0, .int 0, .int 0, .int 0, .int 0, .long 0, .int 0, .int 0, .int 0, .int (-1), .ref m_lines, .ref m_hours, .ref m_courts, .ref m_in, .ref m_gates, .ref m_gate, .ref m_people, .ref m_at0, .ref m_stray, .ref m_set, .ref m_once, .ref m_truth, .ref m_known, .ref m_isKept, .int 0, .int (-1), .int 0, .int 0, .ref m_inside, .ref m_can, .ref m_fewest, .ref m_waysTo, .ref m_then, .ref m_two, .ref m_nextTwo, .ref m_three, .ref m_nextThree, .int (-1), .ref m_worth, .ref m_digit, .int 0, .long 0, .int 0, .int 0, .int 0, .int 0, .long 0]))]) [0] (by decide) rfl
  have hKc := hK.sub (tys' := []) [] rfl
  have hFc := va_free (wc := [(m0, .inr (10, [.int 0, .ref m_width, .ref m_many, .ref m_cells, .ref m_moved, .ref m_tape, .int 0, .int 0, .int 0, .int 0, .int 0, .long 0, .int 0, .int 0, .int 0, .int (-1), .ref m_lines, .ref m_hours, .ref m_courts, .ref m_in, .ref m_gates, .ref m_gate, .ref m_people, .ref m_at0, .ref m_stray, .ref m_set, .ref m_once, .ref m_truth, .ref m_known, .ref m_isKept, .int 0, .int (-1), .int 0, .int 0, .ref m_inside, .ref m_can, .ref m_fewest, .ref m_waysTo, .ref m_then, .ref m_two, .ref m_nextTwo, .ref m_three, .ref m_nextThree, .int (-1), .ref m_worth, .ref m_digit, .int 0, .long 0, .int 0, .int 0, .int 0, .int 0, .long 0]))]) hD hS hA [0] rfl
  refine va_calli (va_runV (As := [.int (xs (Int32.toNatClampNeg 1))]) (rest := [.int r_2]) ⟨hx, hb, hml, hown, hts⟩ (k_X10_fault l dC dI m0 (xs (Int32.toNatClampNeg 1)) m_width m_many m_cells m_moved m_tape m_lines m_hours m_courts m_in m_gates m_gate m_people m_at0 m_stray m_set m_once m_truth m_known m_isKept m_inside m_can m_fewest m_waysTo m_then m_two m_nextTwo m_three m_nextThree m_worth m_digit H.size) (cwV 1 hts (z_gV zw_t7_55 zw_t7_56 zw_t7_57 zw_t1_11 zw_t7_58) rfl rfl rfl (by decide +kernel) ⟨(Nat.le_of_ble_eq_true rfl), (Nat.le_of_ble_eq_true rfl)⟩) (z_preV hPc hKc hDc (ci := 10) (q0 := 0) rfl rfl) rfl rfl hl.1 rfl (lv_room (Nat.le_of_ble_eq_true rfl)) dL_law_386 ⟨(Nat.le_of_ble_eq_true rfl), (Nat.le_of_ble_eq_true rfl)⟩) hS (fun q _ h => hFc q h) hFc (fun r_4 u t H1 locs ht hvm hw hB hz1 hk1 hS => ?_)
  have hB : zW dC dI [] [] (va_A [(m0, .inr (10, [.int 0, .ref m_width, .ref m_many, .ref m_cells, .ref m_moved, .ref m_tape, .int 0, .int 0, .int 0, .int 0, .int 0, .long 0, .int 0, .int 0, .int 0, .int (-1), .ref m_lines, .ref m_hours, .ref m_courts, .ref m_in, .ref m_gates, .ref m_gate, .ref m_people, .ref m_at0, .ref m_stray, .ref m_set, .ref m_once, .ref m_truth, .ref m_known, .ref m_isKept, .int 0, .int (-1), .int 0, .int 0, .ref m_inside, .ref m_can, .ref m_fewest, .ref m_waysTo, .ref m_then, .ref m_two, .ref m_nextTwo, .ref m_three, .ref m_nextThree, .int (-1), .ref m_worth, .ref m_digit, .int 0, .long 0, .int 0, .int 0, .int 0, .int 0, .long 0]))] H.size) t := z_none (va_K.moved hvm hK)
  obtain ⟨hP, hD, hK⟩ := z_after [] hB ht hvm hP hD hK [0] [] rfl rfl (by decide) (by decide) hk1 hFc
  generalize H1 = H at hP hS ⊢
  have hP : va_P (dC, dI) vwCl [] H := hP
  have hD : va_D A [] := hD
  have hK : va_K (dC, dI) vwCl [] s := hK
  have hw_r_4 := hw
  refine lv_icmp_eq (tgt := 2651) hx hb dL_law_389 (by decide) (fun _ => ?_) (fun q => absurd (Eq.trans hw_r_2 (Eq.symm hw_r_4)) q)
  exact law_tail C0 hA2 (Nat.le_of_ble_eq_true rfl) (Nat.le_of_ble_eq_true rfl) hS (lv_sub hl [0, 3] rfl)
set_option maxHeartbeats 4000000 in
set_option maxRecDepth 100000 in
theorem law_names {p : Program} {e : Env} {s : State} {m : MethodId} {below : List Frame} {meth : Method} {c : Code} {l : Launch} {b : Nat} {xs : Nat → Int32} (C0 : lw_At p s m meth c b 6 xs) {dC : Nat → ClassId} {dI : Nat → Nat → Nat} {A : Nat → Prop} (hA : ∀ q, s.heap.size ≤ q → A q) (hA2 : ∀ q, A q → s.heap.size ≤ q) {h0 : Nat} {tp : Nat} {nw : Nat} {im : Nat} {sl : Nat} {rd : Nat} {wk : Nat} {fm : Nat} {mt : Nat} {ch : Nat} {dy : Nat} {tn : Nat} {ta0 : Nat} {ta1 : Nat} {ta2 : Nat} {ta3 : Nat} {ta4 : Nat} {ta5 : Nat} {ta6 : Nat} {ta7 : Nat} {ta8 : Nat} {ta9 : Nat} {m0 : Nat} {m_width : Nat} {m_many : Nat} {m_cells : Nat} {m_moved : Nat} {m_tape : Nat} {m_lines : Nat} {m_hours : Nat} {m_courts : Nat} {m_in : Nat} {m_gates : Nat} {m_gate : Nat} {m_people : Nat} {m_at0 : Nat} {m_stray : Nat} {m_set : Nat} {m_once : Nat} {m_truth : Nat} {m_known : Nat} {m_isKept : Nat} {m_inside : Nat} {m_can : Nat} {m_fewest : Nat} {m_waysTo : Nat} {m_then : Nat} {m_two : Nat} {m_nextTwo : Nat} {m_three : Nat} {m_nextThree : Nat} {m_worth : Nat} {m_digit : Nat} {cm_people : ClassId} {cm_truth : ClassId}  {H : Heap} {locs : List Loc} {ls : Array Slot} (hP : va_P (dC, dI) vwCl [(h0, .inr (9, [.ref tp, .int 0, .int 0, .int (-1), .ref nw, .ref im, .ref sl, .ref rd, .ref wk, .ref fm, .ref mt, .ref ch, .ref dy])), (nw, .inr (3, [.int 0, .ref tn, .int 0, .int 0, .int 0, .int 0])), (tn, .inr (7, [.int 0, .int 0, .int 0, .int 0, .int 0, .int 0, .int 0, .int 0, .ref ta0, .ref ta1, .ref ta2, .ref ta3, .ref ta4, .ref ta5, .ref ta6, .ref ta7, .ref ta8, .ref ta9])), (m0, .inr (10, [.int 0, .ref m_width, .ref m_many, .ref m_cells, .ref m_moved, .ref m_tape, .int 0, .int 0, .int 0, .int 0, .int 0, .long 0, .int 0, .int 0, .int 0, .int (-1), .ref m_lines, .ref m_hours, .ref m_courts, .ref m_in, .ref m_gates, .ref m_gate, .ref m_people, .ref m_at0, .ref m_stray, .ref m_set, .ref m_once, .ref m_truth, .ref m_known, .ref m_isKept, .int 0, .int (-1), .int 0, .int 0, .ref m_inside, .ref m_can, .ref m_fewest, .ref m_waysTo, .ref m_then, .ref m_two, .ref m_nextTwo, .ref m_three, .ref m_nextThree, .int (-1), .ref m_worth, .ref m_digit, .int 0, .long 0, .int 0, .int 0, .int 0, .int 0, .long 0])), (m_people, .inl (cm_people, 5, .inl (fun _ => 0))), (m_truth, .inl (cm_truth, 10, .inl (fun _ => 0)))] H) (hD : va_D A [(h0, .inr (9, [.ref tp, .int 0, .int 0, .int (-1), .ref nw, .ref im, .ref sl, .ref rd, .ref wk, .ref fm, .ref mt, .ref ch, .ref dy])), (nw, .inr (3, [.int 0, .ref tn, .int 0, .int 0, .int 0, .int 0])), (tn, .inr (7, [.int 0, .int 0, .int 0, .int 0, .int 0, .int 0, .int 0, .int 0, .ref ta0, .ref ta1, .ref ta2, .ref ta3, .ref ta4, .ref ta5, .ref ta6, .ref ta7, .ref ta8, .ref ta9])), (m0, .inr (10, [.int 0, .ref m_width, .ref m_many, .ref m_cells, .ref m_moved, .ref m_tape, .int 0, .int 0, .int 0, .int 0, .int 0, .long 0, .int 0, .int 0, .int 0, .int (-1), .ref m_lines, .ref m_hours, .ref m_courts, .ref m_in, .ref m_gates, .ref m_gate, .ref m_people, .ref m_at0, .ref m_stray, .ref m_set, .ref m_once, .ref m_truth, .ref m_known, .ref m_isKept, .int 0, .int (-1), .int 0, .int 0, .ref m_inside, .ref m_can, .ref m_fewest, .ref m_waysTo, .ref m_then, .ref m_two, .ref m_nextTwo, .ref m_three, .ref m_nextThree, .int (-1), .ref m_worth, .ref m_digit, .int 0, .long 0, .int 0, .int 0, .int 0, .int 0, .long 0])), (m_people, .inl (cm_people, 5, .inl (fun _ => 0))), (m_truth, .inl (cm_truth, 10, .inl (fun _ => 0)))]) (hK : va_K (dC, dI) vwCl [(cm_people, .int), (cm_truth, .int)] s) (hS : va_S A s.heap H locs) (hl : lv_has ls 4 [(3, .int 0), (2, .ref m0), (1, .ref h0), (0, .ref b)]) : W p l e room_1 s m #[Value.ref b] below meth c H locs 166 101284 (lw_Z below #[Value.ref b] s) (F0 m 394 ls []) := by
  obtain ⟨hx, hb, hr, hml, hown, hts, hX, hbl, hlocks, hgv⟩ := id C0
  have hown : s.vm.findClass RL = some m.cls := hown
  have hb : c.code = cL_law := hb
  have hts : ∀ w ∈ zT, w.before #[Value.ref b] s = true := fun w h => hts w (zT_in w h)
  have hbA : ¬ A b := fun q => absurd (hA2 b q) (Nat.not_le.mpr hbl)
  refine lv_aload_n hx hb dL_law_394 rfl (lv_at hl 2 rfl) ?_
  refine lv_aload_n hx hb dL_law_395 rfl (lv_at hl 3 rfl) ?_
  refine lv_iload_n hx hb dL_law_396 rfl (lv_at hl 0 rfl) ?_
  refine lv_iconst (v := 1) hx hb dL_law_397 (by decide) ?_
  refine lv_iadd hx hb dL_law_398 ?_
  refine lv_topi (fun x_1 ex_1 => ?_)
  obtain rfl : x_1 = 1 := ex_1.trans (by decide)
  refine va_sld hx hb hX hbl hbA hS (z_inC _ (k := 1) (by decide) (by decide)) dL_law_399 ?_
  have hPc := hP.sub (ws' := [(h0, .inr (9, [.ref tp, .int 0, .int 0, .int (-1), .ref nw, .ref im, .ref sl, .ref rd, .ref wk, .ref fm, .ref mt, .ref ch, .ref dy])), (nw, .inr (3, [.int 0, .ref tn, .int 0, .int 0, .int 0, .int 0])), (tn, .inr (7, [.int 0, .int 0, .int 0, .int 0, .int 0, .int 0, .int 0, .int 0, .ref ta0, .ref ta1, .ref ta2, .ref ta3, .ref ta4, .ref ta5, .ref ta6, .ref ta7, .ref ta8, .ref ta9]))]) [0, 1, 2] rfl
  have hDc := hD.sub (ws' := [(h0, .inr (9, [.ref tp, .int 0, .int 0, .int (-1), .ref nw, .ref im, .ref sl, .ref rd, .ref wk, .ref fm, .ref mt, .ref ch, .ref dy])), (nw, .inr (3, [.int 0, .ref tn, .int 0, .int 0, .int 0, .int 0])), (tn, .inr (7, [.int 0, .int 0, .int 0, .int 0, .int 0, .int 0, .int 0, .int 0, .ref ta0, .ref ta1, .ref ta2, .ref ta3, .ref ta4, .ref ta5, .ref ta6, .ref ta7, .ref ta8, .ref ta9]))]) [0, 1, 2] (by decide) rfl
  have hKc := hK.sub (tys' := []) [] rfl
  have hFc := va_free (wc := [(h0, .inr (9, [.ref tp, .int 0, .int 0, .int (-1), .ref nw, .ref im, .ref sl, .ref rd, .ref wk, .ref fm, .ref mt, .ref ch, .ref dy])), (nw, .inr (3, [.int 0, .ref tn, .int 0, .int 0, .int 0, .int 0])), (tn, .inr (7, [.int 0, .int 0, .int 0, .int 0, .int 0, .int 0, .int 0, .int 0, .ref ta0, .ref ta1, .ref ta2, .ref ta3, .ref ta4, .ref ta5, .ref ta6, .ref ta7, .ref ta8, .ref ta9]))]) hD hS hA [0, 1, 2] rfl
  refine va_calli (va_runV (As := [.int (xs (Int32.toNatClampNeg 1))]) (rest := []) ⟨hx, hb, hml, hown, hts⟩ (k_X9_names l dC dI h0 (xs (Int32.toNatClampNeg 1)) tp nw im sl rd wk fm mt ch dy tn ta0 ta1 ta2 ta3 ta4 ta5 ta6 ta7 ta8 ta9 H.size) (cwV 1 hts (z_gV zw_t3_165 zw_t3_166 zw_t3_167 zw_t1_1 zw_t3_168) rfl rfl rfl (by decide +kernel) ⟨(Nat.le_of_ble_eq_true rfl), (Nat.le_of_ble_eq_true rfl)⟩) (z_preV hPc hKc hDc (ci := 9) (q0 := 0) rfl rfl) rfl rfl hl.1 rfl (lv_room (Nat.le_of_ble_eq_true rfl)) dL_law_400 ⟨(Nat.le_of_ble_eq_true rfl), (Nat.le_of_ble_eq_true rfl)⟩) hS (fun q _ h => hFc q h) hFc (fun r_2 u t H1 locs ht hvm hw hB hz1 hk1 hS => ?_)
  have hB : zW dC dI [] [] (va_A [(h0, .inr (9, [.ref tp, .int 0, .int 0, .int (-1), .ref nw, .ref im, .ref sl, .ref rd, .ref wk, .ref fm, .ref mt, .ref ch, .ref dy])), (nw, .inr (3, [.int 0, .ref tn, .int 0, .int 0, .int 0, .int 0])), (tn, .inr (7, [.int 0, .int 0, .int 0, .int 0, .int 0, .int 0, .int 0, .int 0, .ref ta0, .ref ta1, .ref ta2, .ref ta3, .ref ta4, .ref ta5, .ref ta6, .ref ta7, .ref ta8, .ref ta9]))] H.size) t := z_none (va_K.moved hvm hK)
  obtain ⟨hP, hD, hK⟩ := z_after [(m0, .inr (10, [.int 0, .ref m_width, .ref m_many, .ref m_cells, .ref m_moved, .ref m_tape, .int 0, .int 0, .int 0, .int 0, .int 0, .long 0, .int 0, .int 0, .int 0, .int (-1), .ref m_lines, .ref m_hours, .ref m_courts, .ref m_in, .ref m_gates, .ref m_gate, .ref m_people, .ref m_at0, .ref m_stray, .ref m_set, .ref m_once, .ref m_truth, .ref m_known, .ref m_isKept, .int 0, .int (-1), .int 0, .int 0, .ref m_inside, .ref m_can, .ref m_fewest, .ref m_waysTo, .ref m_then, .ref m_two, .ref m_nextTwo, .ref m_three, .ref m_nextThree, .int (-1), .ref m_worth, .ref m_digit, .int 0, .long 0, .int 0, .int 0, .int 0, .int 0, .long 0])), (m_people, .inl (cm_people, 5, .inl (fun _ => 0))), (m_truth, .inl (cm_truth, 10, .inl (fun _ => 0)))] hB ht hvm hP hD hK [0, 1, 2] [3, 4, 5] rfl rfl (by decide) (by decide) hk1 hFc
  generalize H1 = H at hP hS ⊢
  have hP : va_P (dC, dI) vwCl [(m0, .inr (10, [.int 0, .ref m_width, .ref m_many, .ref m_cells, .ref m_moved, .ref m_tape, .int 0, .int 0, .int 0, .int 0, .int 0, .long 0, .int 0, .int 0, .int 0, .int (-1), .ref m_lines, .ref m_hours, .ref m_courts, .ref m_in, .ref m_gates, .ref m_gate, .ref m_people, .ref m_at0, .ref m_stray, .ref m_set, .ref m_once, .ref m_truth, .ref m_known, .ref m_isKept, .int 0, .int (-1), .int 0, .int 0, .ref m_inside, .ref m_can, .ref m_fewest, .ref m_waysTo, .ref m_then, .ref m_two, .ref m_nextTwo, .ref m_three, .ref m_nextThree, .int (-1), .ref m_worth, .ref m_digit, .int 0, .long 0, .int 0, .int 0, .int 0, .int 0, .long 0])), (m_people, .inl (cm_people, 5, .inl (fun _ => 0))), (m_truth, .inl (cm_truth, 10, .inl (fun _ => 0)))] H := hP
  have hD : va_D A [(m0, .inr (10, [.int 0, .ref m_width, .ref m_many, .ref m_cells, .ref m_moved, .ref m_tape, .int 0, .int 0, .int 0, .int 0, .int 0, .long 0, .int 0, .int 0, .int 0, .int (-1), .ref m_lines, .ref m_hours, .ref m_courts, .ref m_in, .ref m_gates, .ref m_gate, .ref m_people, .ref m_at0, .ref m_stray, .ref m_set, .ref m_once, .ref m_truth, .ref m_known, .ref m_isKept, .int 0, .int (-1), .int 0, .int 0, .ref m_inside, .ref m_can, .ref m_fewest, .ref m_waysTo, .ref m_then, .ref m_two, .ref m_nextTwo, .ref m_three, .ref m_nextThree, .int (-1), .ref m_worth, .ref m_digit, .int 0, .long 0, .int 0, .int 0, .int 0, .int 0, .long 0])), (m_people, .inl (cm_people, 5, .inl (fun _ => 0))), (m_truth, .inl (cm_truth, 10, .inl (fun _ => 0)))] := hD
  have hK : va_K (dC, dI) vwCl [(cm_people, .int), (cm_truth, .int)] s := hK
  have hw_r_2 := hw
  refine lv_aload_n hx hb dL_law_403 rfl (lv_at hl 1 rfl) ?_
  refine lv_aload_n hx hb dL_law_404 rfl (lv_at hl 3 rfl) ?_
  refine lv_iload_n hx hb dL_law_405 rfl (lv_at hl 0 rfl) ?_
  refine lv_iconst (v := 1) hx hb dL_law_406 (by decide) ?_
  refine lv_iadd hx hb dL_law_407 ?_
  refine lv_topi (fun x_3 ex_3 => ?_)
  obtain rfl : x_3 = 1 := ex_3.trans (by decide)
  refine va_sld hx hb hX hbl hbA hS (z_inC _ (k := 1) (by decide) (by decide)) dL_law_408 ?_
  have hPc := hP.sub (ws' := [(m0, .inr (10, [.int 0, .ref m_width, .ref m_many, .ref m_cells, .ref m_moved, .ref m_tape, .int 0, .int 0, .int 0, .int 0, .int 0, .long 0, .int 0, .int 0, .int 0, .int (-1), .ref m_lines, .ref m_hours, .ref m_courts, .ref m_in, .ref m_gates, .ref m_gate, .ref m_people, .ref m_at0, .ref m_stray, .ref m_set, .ref m_once, .ref m_truth, .ref m_known, .ref m_isKept, .int 0, .int (-1), .int 0, .int 0, .ref m_inside, .ref m_can, .ref m_fewest, .ref m_waysTo, .ref m_then, .ref m_two, .ref m_nextTwo, .ref m_three, .ref m_nextThree, .int (-1), .ref m_worth, .ref m_digit, .int 0, .long 0, .int 0, .int 0, .int 0, .int 0, .long 0])), (m_people, .inl (cm_people, 5, .inl (fun _ => 0))), (m_truth, .inl (cm_truth, 10, .inl (fun _ => 0)))]) [0, 1, 2] rfl
  have hDc := hD.sub (ws' := [(m0, .inr (10, [.int 0, .ref m_width, .ref m_many, .ref m_cells, .ref m_moved, .ref m_tape, .int 0, .int 0, .int 0, .int 0, .int 0, .long 0, .int 0, .int 0, .int 0, .int (-1), .ref m_lines, .ref m_hours, .ref m_courts, .ref m_in, .ref m_gates, .ref m_gate, .ref m_people, .ref m_at0, .ref m_stray, .ref m_set, .ref m_once, .ref m_truth, .ref m_known, .ref m_isKept, .int 0, .int (-1), .int 0, .int 0, .ref m_inside, .ref m_can, .ref m_fewest, .ref m_waysTo, .ref m_then, .ref m_two, .ref m_nextTwo, .ref m_three, .ref m_nextThree, .int (-1), .ref m_worth, .ref m_digit, .int 0, .long 0, .int 0, .int 0, .int 0, .int 0, .long 0])), (m_people, .inl (cm_people, 5, .inl (fun _ => 0))), (m_truth, .inl (cm_truth, 10, .inl (fun _ => 0)))]) [0, 1, 2] (by decide) rfl
  have hKc := hK.sub (tys' := [(cm_people, .int), (cm_truth, .int)]) [0, 1] rfl
  have hFc := va_free (wc := [(m0, .inr (10, [.int 0, .ref m_width, .ref m_many, .ref m_cells, .ref m_moved, .ref m_tape, .int 0, .int 0, .int 0, .int 0, .int 0, .long 0, .int 0, .int 0, .int 0, .int (-1), .ref m_lines, .ref m_hours, .ref m_courts, .ref m_in, .ref m_gates, .ref m_gate, .ref m_people, .ref m_at0, .ref m_stray, .ref m_set, .ref m_once, .ref m_truth, .ref m_known, .ref m_isKept, .int 0, .int (-1), .int 0, .int 0, .ref m_inside, .ref m_can, .ref m_fewest, .ref m_waysTo, .ref m_then, .ref m_two, .ref m_nextTwo, .ref m_three, .ref m_nextThree, .int (-1), .ref m_worth, .ref m_digit, .int 0, .long 0, .int 0, .int 0, .int 0, .int 0, .long 0])), (m_people, .inl (cm_people, 5, .inl (fun _ => 0))), (m_truth, .inl (cm_truth, 10, .inl (fun _ => 0)))]) hD hS hA [0, 1, 2] rfl
  refine va_calli (va_runV (As := [.int (xs (Int32.toNatClampNeg 1))]) (rest := [.int r_2]) ⟨hx, hb, hml, hown, hts⟩ (k_X10_names l dC dI m0 (xs (Int32.toNatClampNeg 1)) m_width m_many m_cells m_moved m_tape m_lines m_hours m_courts m_in m_gates m_gate m_people m_at0 m_stray m_set m_once m_truth m_known m_isKept m_inside m_can m_fewest m_waysTo m_then m_two m_nextTwo m_three m_nextThree m_worth m_digit cm_people cm_truth H.size) (cwV 1 hts (z_gV zw_t7_157 zw_t7_158 zw_t7_159 zw_t1_11 zw_t7_160) rfl rfl rfl (by decide +kernel) ⟨(Nat.le_of_ble_eq_true rfl), (Nat.le_of_ble_eq_true rfl)⟩) (z_preV hPc hKc hDc (ci := 10) (q0 := 0) rfl rfl) rfl rfl hl.1 rfl (lv_room (Nat.le_of_ble_eq_true rfl)) dL_law_409 ⟨(Nat.le_of_ble_eq_true rfl), (Nat.le_of_ble_eq_true rfl)⟩) hS (fun q _ h => hFc q h) hFc (fun r_4 u t H1 locs ht hvm hw hB hz1 hk1 hS => ?_)
  have hB : zW dC dI [] [] (va_A [(m0, .inr (10, [.int 0, .ref m_width, .ref m_many, .ref m_cells, .ref m_moved, .ref m_tape, .int 0, .int 0, .int 0, .int 0, .int 0, .long 0, .int 0, .int 0, .int 0, .int (-1), .ref m_lines, .ref m_hours, .ref m_courts, .ref m_in, .ref m_gates, .ref m_gate, .ref m_people, .ref m_at0, .ref m_stray, .ref m_set, .ref m_once, .ref m_truth, .ref m_known, .ref m_isKept, .int 0, .int (-1), .int 0, .int 0, .ref m_inside, .ref m_can, .ref m_fewest, .ref m_waysTo, .ref m_then, .ref m_two, .ref m_nextTwo, .ref m_three, .ref m_nextThree, .int (-1), .ref m_worth, .ref m_digit, .int 0, .long 0, .int 0, .int 0, .int 0, .int 0, .long 0])), (m_people, .inl (cm_people, 5, .inl (fun _ => 0))), (m_truth, .inl (cm_truth, 10, .inl (fun _ => 0)))] H.size) t := z_none (va_K.moved hvm hK)
  obtain ⟨hP, hD, hK⟩ := z_after [] hB ht hvm hP hD hK [0, 1, 2] [] rfl rfl (by decide) (by decide) hk1 hFc
  generalize H1 = H at hP hS ⊢
  have hP : va_P (dC, dI) vwCl [] H := hP
  have hD : va_D A [] := hD
  have hK : va_K (dC, dI) vwCl [(cm_people, .int), (cm_truth, .int)] s := hK
  have hw_r_4 := hw
  refine lv_icmp_eq (tgt := 2651) hx hb dL_law_412 (by decide) (fun _ => ?_) (fun q => absurd (Eq.trans hw_r_2 (Eq.symm hw_r_4)) q)
  exact law_tail C0 hA2 (Nat.le_of_ble_eq_true rfl) (Nat.le_of_ble_eq_true rfl) hS (lv_sub hl [0, 3] rfl)
set_option maxHeartbeats 4000000 in
set_option maxRecDepth 100000 in
theorem law_strayed {p : Program} {e : Env} {s : State} {m : MethodId} {below : List Frame} {meth : Method} {c : Code} {l : Launch} {b : Nat} {xs : Nat → Int32} (C0 : lw_At p s m meth c b 6 xs) {dC : Nat → ClassId} {dI : Nat → Nat → Nat} {A : Nat → Prop} (hA : ∀ q, s.heap.size ≤ q → A q) (hA2 : ∀ q, A q → s.heap.size ≤ q) {h0 : Nat} {tp : Nat} {nw : Nat} {im : Nat} {sl : Nat} {rd : Nat} {wk : Nat} {fm : Nat} {mt : Nat} {ch : Nat} {dy : Nat} {tn : Nat} {ta0 : Nat} {ta1 : Nat} {ta2 : Nat} {ta3 : Nat} {ta4 : Nat} {ta5 : Nat} {ta6 : Nat} {ta7 : Nat} {ta8 : Nat} {ta9 : Nat} {m0 : Nat} {m_width : Nat} {m_many : Nat} {m_cells : Nat} {m_moved : Nat} {m_tape : Nat} {m_lines : Nat} {m_hours : Nat} {m_courts : Nat} {m_in : Nat} {m_gates : Nat} {m_gate : Nat} {m_people : Nat} {m_at0 : Nat} {m_stray : Nat} {m_set : Nat} {m_once : Nat} {m_truth : Nat} {m_known : Nat} {m_isKept : Nat} {m_inside : Nat} {m_can : Nat} {m_fewest : Nat} {m_waysTo : Nat} {m_then : Nat} {m_two : Nat} {m_nextTwo : Nat} {m_three : Nat} {m_nextThree : Nat} {m_worth : Nat} {m_digit : Nat} {cm_people : ClassId} {cm_truth : ClassId}  {H : Heap} {locs : List Loc} {ls : Array Slot} (hP : va_P (dC, dI) vwCl [(h0, .inr (9, [.ref tp, .int 0, .int 0, .int (-1), .ref nw, .ref im, .ref sl, .ref rd, .ref wk, .ref fm, .ref mt, .ref ch, .ref dy])), (nw, .inr (3, [.int 0, .ref tn, .int 0, .int 0, .int 0, .int 0])), (tn, .inr (7, [.int 0, .int 0, .int 0, .int 0, .int 0, .int 0, .int 0, .int 0, .ref ta0, .ref ta1, .ref ta2, .ref ta3, .ref ta4, .ref ta5, .ref ta6, .ref ta7, .ref ta8, .ref ta9])), (m0, .inr (10, [.int 0, .ref m_width, .ref m_many, .ref m_cells, .ref m_moved, .ref m_tape, .int 0, .int 0, .int 0, .int 0, .int 0, .long 0, .int 0, .int 0, .int 0, .int (-1), .ref m_lines, .ref m_hours, .ref m_courts, .ref m_in, .ref m_gates, .ref m_gate, .ref m_people, .ref m_at0, .ref m_stray, .ref m_set, .ref m_once, .ref m_truth, .ref m_known, .ref m_isKept, .int 0, .int (-1), .int 0, .int 0, .ref m_inside, .ref m_can, .ref m_fewest, .ref m_waysTo, .ref m_then, .ref m_two, .ref m_nextTwo, .ref m_three, .ref m_nextThree, .int (-1), .ref m_worth, .ref m_digit, .int 0, .long 0, .int 0, .int 0, .int 0, .int 0, .long 0])), (m_people, .inl (cm_people, 5, .inl (fun _ => 0))), (m_truth, .inl (cm_truth, 10, .inl (fun _ => 0)))] H) (hD : va_D A [(h0, .inr (9, [.ref tp, .int 0, .int 0, .int (-1), .ref nw, .ref im, .ref sl, .ref rd, .ref wk, .ref fm, .ref mt, .ref ch, .ref dy])), (nw, .inr (3, [.int 0, .ref tn, .int 0, .int 0, .int 0, .int 0])), (tn, .inr (7, [.int 0, .int 0, .int 0, .int 0, .int 0, .int 0, .int 0, .int 0, .ref ta0, .ref ta1, .ref ta2, .ref ta3, .ref ta4, .ref ta5, .ref ta6, .ref ta7, .ref ta8, .ref ta9])), (m0, .inr (10, [.int 0, .ref m_width, .ref m_many, .ref m_cells, .ref m_moved, .ref m_tape, .int 0, .int 0, .int 0, .int 0, .int 0, .long 0, .int 0, .int 0, .int 0, .int (-1), .ref m_lines, .ref m_hours, .ref m_courts, .ref m_in, .ref m_gates, .ref m_gate, .ref m_people, .ref m_at0, .ref m_stray, .ref m_set, .ref m_once, .ref m_truth, .ref m_known, .ref m_isKept, .int 0, .int (-1), .int 0, .int 0, .ref m_inside, .ref m_can, .ref m_fewest, .ref m_waysTo, .ref m_then, .ref m_two, .ref m_nextTwo, .ref m_three, .ref m_nextThree, .int (-1), .ref m_worth, .ref m_digit, .int 0, .long 0, .int 0, .int 0, .int 0, .int 0, .long 0])), (m_people, .inl (cm_people, 5, .inl (fun _ => 0))), (m_truth, .inl (cm_truth, 10, .inl (fun _ => 0)))]) (hK : va_K (dC, dI) vwCl [(cm_people, .int), (cm_truth, .int)] s) (hS : va_S A s.heap H locs) (hl : lv_has ls 4 [(3, .int 0), (2, .ref m0), (1, .ref h0), (0, .ref b)]) : W p l e room_1 s m #[Value.ref b] below meth c H locs 166 101284 (lw_Z below #[Value.ref b] s) (F0 m 417 ls []) := by
  obtain ⟨hx, hb, hr, hml, hown, hts, hX, hbl, hlocks, hgv⟩ := id C0
  have hown : s.vm.findClass RL = some m.cls := hown
  have hb : c.code = cL_law := hb
  have hts : ∀ w ∈ zT, w.before #[Value.ref b] s = true := fun w h => hts w (zT_in w h)
  have hbA : ¬ A b := fun q => absurd (hA2 b q) (Nat.not_le.mpr hbl)
  refine lv_aload_n hx hb dL_law_417 rfl (lv_at hl 2 rfl) ?_
  refine lv_aload_n hx hb dL_law_418 rfl (lv_at hl 3 rfl) ?_
  refine lv_iload_n hx hb dL_law_419 rfl (lv_at hl 0 rfl) ?_
  refine lv_iconst (v := 1) hx hb dL_law_420 (by decide) ?_
  refine lv_iadd hx hb dL_law_421 ?_
  refine lv_topi (fun x_1 ex_1 => ?_)
  obtain rfl : x_1 = 1 := ex_1.trans (by decide)
  refine va_sld hx hb hX hbl hbA hS (z_inC _ (k := 1) (by decide) (by decide)) dL_law_422 ?_
  have hPc := hP.sub (ws' := [(h0, .inr (9, [.ref tp, .int 0, .int 0, .int (-1), .ref nw, .ref im, .ref sl, .ref rd, .ref wk, .ref fm, .ref mt, .ref ch, .ref dy])), (nw, .inr (3, [.int 0, .ref tn, .int 0, .int 0, .int 0, .int 0])), (tn, .inr (7, [.int 0, .int 0, .int 0, .int 0, .int 0, .int 0, .int 0, .int 0, .ref ta0, .ref ta1, .ref ta2, .ref ta3, .ref ta4, .ref ta5, .ref ta6, .ref ta7, .ref ta8, .ref ta9]))]) [0, 1, 2] rfl
  have hDc := hD.sub (ws' := [(h0, .inr (9, [.ref tp, .int 0, .int 0, .int (-1), .ref nw, .ref im, .ref sl, .ref rd, .ref wk, .ref fm, .ref mt, .ref ch, .ref dy])), (nw, .inr (3, [.int 0, .ref tn, .int 0, .int 0, .int 0, .int 0])), (tn, .inr (7, [.int 0, .int 0, .int 0, .int 0, .int 0, .int 0, .int 0, .int 0, .ref ta0, .ref ta1, .ref ta2, .ref ta3, .ref ta4, .ref ta5, .ref ta6, .ref ta7, .ref ta8, .ref ta9]))]) [0, 1, 2] (by decide) rfl
  have hKc := hK.sub (tys' := []) [] rfl
  have hFc := va_free (wc := [(h0, .inr (9, [.ref tp, .int 0, .int 0, .int (-1), .ref nw, .ref im, .ref sl, .ref rd, .ref wk, .ref fm, .ref mt, .ref ch, .ref dy])), (nw, .inr (3, [.int 0, .ref tn, .int 0, .int 0, .int 0, .int 0])), (tn, .inr (7, [.int 0, .int 0, .int 0, .int 0, .int 0, .int 0, .int 0, .int 0, .ref ta0, .ref ta1, .ref ta2, .ref ta3, .ref ta4, .ref ta5, .ref ta6, .ref ta7, .ref ta8, .ref ta9]))]) hD hS hA [0, 1, 2] rfl
  refine va_calli (va_runV (As := [.int (xs (Int32.toNatClampNeg 1))]) (rest := []) ⟨hx, hb, hml, hown, hts⟩ (k_X9_strayed l dC dI h0 (xs (Int32.toNatClampNeg 1)) tp nw im sl rd wk fm mt ch dy tn ta0 ta1 ta2 ta3 ta4 ta5 ta6 ta7 ta8 ta9 H.size) (cwV 1 hts (z_gV zw_t3_173 zw_t3_174 zw_t3_175 zw_t1_1 zw_t3_176) rfl rfl rfl (by decide +kernel) ⟨(Nat.le_of_ble_eq_true rfl), (Nat.le_of_ble_eq_true rfl)⟩) (z_preV hPc hKc hDc (ci := 9) (q0 := 0) rfl rfl) rfl rfl hl.1 rfl (lv_room (Nat.le_of_ble_eq_true rfl)) dL_law_423 ⟨(Nat.le_of_ble_eq_true rfl), (Nat.le_of_ble_eq_true rfl)⟩) hS (fun q _ h => hFc q h) hFc (fun r_2 u t H1 locs ht hvm hw hB hz1 hk1 hS => ?_)
  have hB : zW dC dI [] [] (va_A [(h0, .inr (9, [.ref tp, .int 0, .int 0, .int (-1), .ref nw, .ref im, .ref sl, .ref rd, .ref wk, .ref fm, .ref mt, .ref ch, .ref dy])), (nw, .inr (3, [.int 0, .ref tn, .int 0, .int 0, .int 0, .int 0])), (tn, .inr (7, [.int 0, .int 0, .int 0, .int 0, .int 0, .int 0, .int 0, .int 0, .ref ta0, .ref ta1, .ref ta2, .ref ta3, .ref ta4, .ref ta5, .ref ta6, .ref ta7, .ref ta8, .ref ta9]))] H.size) t := z_none (va_K.moved hvm hK)
  obtain ⟨hP, hD, hK⟩ := z_after [(m0, .inr (10, [.int 0, .ref m_width, .ref m_many, .ref m_cells, .ref m_moved, .ref m_tape, .int 0, .int 0, .int 0, .int 0, .int 0, .long 0, .int 0, .int 0, .int 0, .int (-1), .ref m_lines, .ref m_hours, .ref m_courts, .ref m_in, .ref m_gates, .ref m_gate, .ref m_people, .ref m_at0, .ref m_stray, .ref m_set, .ref m_once, .ref m_truth, .ref m_known, .ref m_isKept, .int 0, .int (-1), .int 0, .int 0, .ref m_inside, .ref m_can, .ref m_fewest, .ref m_waysTo, .ref m_then, .ref m_two, .ref m_nextTwo, .ref m_three, .ref m_nextThree, .int (-1), .ref m_worth, .ref m_digit, .int 0, .long 0, .int 0, .int 0, .int 0, .int 0, .long 0])), (m_people, .inl (cm_people, 5, .inl (fun _ => 0))), (m_truth, .inl (cm_truth, 10, .inl (fun _ => 0)))] hB ht hvm hP hD hK [0, 1, 2] [3, 4, 5] rfl rfl (by decide) (by decide) hk1 hFc
  generalize H1 = H at hP hS ⊢
  have hP : va_P (dC, dI) vwCl [(m0, .inr (10, [.int 0, .ref m_width, .ref m_many, .ref m_cells, .ref m_moved, .ref m_tape, .int 0, .int 0, .int 0, .int 0, .int 0, .long 0, .int 0, .int 0, .int 0, .int (-1), .ref m_lines, .ref m_hours, .ref m_courts, .ref m_in, .ref m_gates, .ref m_gate, .ref m_people, .ref m_at0, .ref m_stray, .ref m_set, .ref m_once, .ref m_truth, .ref m_known, .ref m_isKept, .int 0, .int (-1), .int 0, .int 0, .ref m_inside, .ref m_can, .ref m_fewest, .ref m_waysTo, .ref m_then, .ref m_two, .ref m_nextTwo, .ref m_three, .ref m_nextThree, .int (-1), .ref m_worth, .ref m_digit, .int 0, .long 0, .int 0, .int 0, .int 0, .int 0, .long 0])), (m_people, .inl (cm_people, 5, .inl (fun _ => 0))), (m_truth, .inl (cm_truth, 10, .inl (fun _ => 0)))] H := hP
  have hD : va_D A [(m0, .inr (10, [.int 0, .ref m_width, .ref m_many, .ref m_cells, .ref m_moved, .ref m_tape, .int 0, .int 0, .int 0, .int 0, .int 0, .long 0, .int 0, .int 0, .int 0, .int (-1), .ref m_lines, .ref m_hours, .ref m_courts, .ref m_in, .ref m_gates, .ref m_gate, .ref m_people, .ref m_at0, .ref m_stray, .ref m_set, .ref m_once, .ref m_truth, .ref m_known, .ref m_isKept, .int 0, .int (-1), .int 0, .int 0, .ref m_inside, .ref m_can, .ref m_fewest, .ref m_waysTo, .ref m_then, .ref m_two, .ref m_nextTwo, .ref m_three, .ref m_nextThree, .int (-1), .ref m_worth, .ref m_digit, .int 0, .long 0, .int 0, .int 0, .int 0, .int 0, .long 0])), (m_people, .inl (cm_people, 5, .inl (fun _ => 0))), (m_truth, .inl (cm_truth, 10, .inl (fun _ => 0)))] := hD
  have hK : va_K (dC, dI) vwCl [(cm_people, .int), (cm_truth, .int)] s := hK
  have hw_r_2 := hw
  refine lv_aload_n hx hb dL_law_426 rfl (lv_at hl 1 rfl) ?_
  refine lv_aload_n hx hb dL_law_427 rfl (lv_at hl 3 rfl) ?_
  refine lv_iload_n hx hb dL_law_428 rfl (lv_at hl 0 rfl) ?_
  refine lv_iconst (v := 1) hx hb dL_law_429 (by decide) ?_
  refine lv_iadd hx hb dL_law_430 ?_
  refine lv_topi (fun x_3 ex_3 => ?_)
  obtain rfl : x_3 = 1 := ex_3.trans (by decide)
  refine va_sld hx hb hX hbl hbA hS (z_inC _ (k := 1) (by decide) (by decide)) dL_law_431 ?_
  have hPc := hP.sub (ws' := [(m0, .inr (10, [.int 0, .ref m_width, .ref m_many, .ref m_cells, .ref m_moved, .ref m_tape, .int 0, .int 0, .int 0, .int 0, .int 0, .long 0, .int 0, .int 0, .int 0, .int (-1), .ref m_lines, .ref m_hours, .ref m_courts, .ref m_in, .ref m_gates, .ref m_gate, .ref m_people, .ref m_at0, .ref m_stray, .ref m_set, .ref m_once, .ref m_truth, .ref m_known, .ref m_isKept, .int 0, .int (-1), .int 0, .int 0, .ref m_inside, .ref m_can, .ref m_fewest, .ref m_waysTo, .ref m_then, .ref m_two, .ref m_nextTwo, .ref m_three, .ref m_nextThree, .int (-1), .ref m_worth, .ref m_digit, .int 0, .long 0, .int 0, .int 0, .int 0, .int 0, .long 0])), (m_people, .inl (cm_people, 5, .inl (fun _ => 0))), (m_truth, .inl (cm_truth, 10, .inl (fun _ => 0)))]) [0, 1, 2] rfl
  have hDc := hD.sub (ws' := [(m0, .inr (10, [.int 0, .ref m_width, .ref m_many, .ref m_cells, .ref m_moved, .ref m_tape, .int 0, .int 0, .int 0, .int 0, .int 0, .long 0, .int 0, .int 0, .int 0, .int (-1), .ref m_lines, .ref m_hours, .ref m_courts, .ref m_in, .ref m_gates, .ref m_gate, .ref m_people, .ref m_at0, .ref m_stray, .ref m_set, .ref m_once, .ref m_truth, .ref m_known, .ref m_isKept, .int 0, .int (-1), .int 0, .int 0, .ref m_inside, .ref m_can, .ref m_fewest, .ref m_waysTo, .ref m_then, .ref m_two, .ref m_nextTwo, .ref m_three, .ref m_nextThree, .int (-1), .ref m_worth, .ref m_digit, .int 0, .long 0, .int 0, .int 0, .int 0, .int 0, .long 0])), (m_people, .inl (cm_people, 5, .inl (fun _ => 0))), (m_truth, .inl (cm_truth, 10, .inl (fun _ => 0)))]) [0, 1, 2] (by decide) rfl
  have hKc := hK.sub (tys' := [(cm_people, .int), (cm_truth, .int)]) [0, 1] rfl
  have hFc := va_free (wc := [(m0, .inr (10, [.int 0, .ref m_width, .ref m_many, .ref m_cells, .ref m_moved, .ref m_tape, .int 0, .int 0, .int 0, .int 0, .int 0, .long 0, .int 0, .int 0, .int 0, .int (-1), .ref m_lines, .ref m_hours, .ref m_courts, .ref m_in, .ref m_gates, .ref m_gate, .ref m_people, .ref m_at0, .ref m_stray, .ref m_set, .ref m_once, .ref m_truth, .ref m_known, .ref m_isKept, .int 0, .int (-1), .int 0, .int 0, .ref m_inside, .ref m_can, .ref m_fewest, .ref m_waysTo, .ref m_then, .ref m_two, .ref m_nextTwo, .ref m_three, .ref m_nextThree, .int (-1), .ref m_worth, .ref m_digit, .int 0, .long 0, .int 0, .int 0, .int 0, .int 0, .long 0])), (m_people, .inl (cm_people, 5, .inl (fun _ => 0))), (m_truth, .inl (cm_truth, 10, .inl (fun _ => 0)))]) hD hS hA [0, 1, 2] rfl
  refine va_calli (va_runV (As := [.int (xs (Int32.toNatClampNeg 1))]) (rest := [.int r_2]) ⟨hx, hb, hml, hown, hts⟩ (k_X10_strayed l dC dI m0 (xs (Int32.toNatClampNeg 1)) m_width m_many m_cells m_moved m_tape m_lines m_hours m_courts m_in m_gates m_gate m_people m_at0 m_stray m_set m_once m_truth m_known m_isKept m_inside m_can m_fewest m_waysTo m_then m_two m_nextTwo m_three m_nextThree m_worth m_digit cm_people cm_truth H.size) (cwV 1 hts (z_gV zw_t7_165 zw_t7_166 zw_t7_167 zw_t1_11 zw_t7_168) rfl rfl rfl (by decide +kernel) ⟨(Nat.le_of_ble_eq_true rfl), (Nat.le_of_ble_eq_true rfl)⟩) (z_preV hPc hKc hDc (ci := 10) (q0 := 0) rfl rfl) rfl rfl hl.1 rfl (lv_room (Nat.le_of_ble_eq_true rfl)) dL_law_432 ⟨(Nat.le_of_ble_eq_true rfl), (Nat.le_of_ble_eq_true rfl)⟩) hS (fun q _ h => hFc q h) hFc (fun r_4 u t H1 locs ht hvm hw hB hz1 hk1 hS => ?_)
  have hB : zW dC dI [] [] (va_A [(m0, .inr (10, [.int 0, .ref m_width, .ref m_many, .ref m_cells, .ref m_moved, .ref m_tape, .int 0, .int 0, .int 0, .int 0, .int 0, .long 0, .int 0, .int 0, .int 0, .int (-1), .ref m_lines, .ref m_hours, .ref m_courts, .ref m_in, .ref m_gates, .ref m_gate, .ref m_people, .ref m_at0, .ref m_stray, .ref m_set, .ref m_once, .ref m_truth, .ref m_known, .ref m_isKept, .int 0, .int (-1), .int 0, .int 0, .ref m_inside, .ref m_can, .ref m_fewest, .ref m_waysTo, .ref m_then, .ref m_two, .ref m_nextTwo, .ref m_three, .ref m_nextThree, .int (-1), .ref m_worth, .ref m_digit, .int 0, .long 0, .int 0, .int 0, .int 0, .int 0, .long 0])), (m_people, .inl (cm_people, 5, .inl (fun _ => 0))), (m_truth, .inl (cm_truth, 10, .inl (fun _ => 0)))] H.size) t := z_none (va_K.moved hvm hK)
  obtain ⟨hP, hD, hK⟩ := z_after [] hB ht hvm hP hD hK [0, 1, 2] [] rfl rfl (by decide) (by decide) hk1 hFc
  generalize H1 = H at hP hS ⊢
  have hP : va_P (dC, dI) vwCl [] H := hP
  have hD : va_D A [] := hD
  have hK : va_K (dC, dI) vwCl [(cm_people, .int), (cm_truth, .int)] s := hK
  have hw_r_4 := hw
  refine lv_icmp_eq (tgt := 2651) hx hb dL_law_435 (by decide) (fun _ => ?_) (fun q => absurd (Eq.trans hw_r_2 (Eq.symm hw_r_4)) q)
  exact law_tail C0 hA2 (Nat.le_of_ble_eq_true rfl) (Nat.le_of_ble_eq_true rfl) hS (lv_sub hl [0, 3] rfl)
set_option maxHeartbeats 4000000 in
set_option maxRecDepth 100000 in
theorem law_where {p : Program} {e : Env} {s : State} {m : MethodId} {below : List Frame} {meth : Method} {c : Code} {l : Launch} {b : Nat} {xs : Nat → Int32} (C0 : lw_At p s m meth c b 6 xs) {dC : Nat → ClassId} {dI : Nat → Nat → Nat} {A : Nat → Prop} (hA : ∀ q, s.heap.size ≤ q → A q) (hA2 : ∀ q, A q → s.heap.size ≤ q) {h0 : Nat} {tp : Nat} {nw : Nat} {im : Nat} {sl : Nat} {rd : Nat} {wk : Nat} {fm : Nat} {mt : Nat} {ch : Nat} {dy : Nat} {tn : Nat} {ta0 : Nat} {ta1 : Nat} {ta2 : Nat} {ta3 : Nat} {ta4 : Nat} {ta5 : Nat} {ta6 : Nat} {ta7 : Nat} {ta8 : Nat} {ta9 : Nat} {m0 : Nat} {m_width : Nat} {m_many : Nat} {m_cells : Nat} {m_moved : Nat} {m_tape : Nat} {m_lines : Nat} {m_hours : Nat} {m_courts : Nat} {m_in : Nat} {m_gates : Nat} {m_gate : Nat} {m_people : Nat} {m_at0 : Nat} {m_stray : Nat} {m_set : Nat} {m_once : Nat} {m_truth : Nat} {m_known : Nat} {m_isKept : Nat} {m_inside : Nat} {m_can : Nat} {m_fewest : Nat} {m_waysTo : Nat} {m_then : Nat} {m_two : Nat} {m_nextTwo : Nat} {m_three : Nat} {m_nextThree : Nat} {m_worth : Nat} {m_digit : Nat} {cm_people : ClassId}  {H : Heap} {locs : List Loc} {ls : Array Slot} (hP : va_P (dC, dI) vwCl [(h0, .inr (9, [.ref tp, .int 0, .int 0, .int (-1), .ref nw, .ref im, .ref sl, .ref rd, .ref wk, .ref fm, .ref mt, .ref ch, .ref dy])), (nw, .inr (3, [.int 0, .ref tn, .int 0, .int 0, .int 0, .int 0])), (tn, .inr (7, [.int 0, .int 0, .int 0, .int 0, .int 0, .int 0, .int 0, .int 0, .ref ta0, .ref ta1, .ref ta2, .ref ta3, .ref ta4, .ref ta5, .ref ta6, .ref ta7, .ref ta8, .ref ta9])), (m0, .inr (10, [.int 0, .ref m_width, .ref m_many, .ref m_cells, .ref m_moved, .ref m_tape, .int 0, .int 0, .int 0, .int 0, .int 0, .long 0, .int 0, .int 0, .int 0, .int (-1), .ref m_lines, .ref m_hours, .ref m_courts, .ref m_in, .ref m_gates, .ref m_gate, .ref m_people, .ref m_at0, .ref m_stray, .ref m_set, .ref m_once, .ref m_truth, .ref m_known, .ref m_isKept, .int 0, .int (-1), .int 0, .int 0, .ref m_inside, .ref m_can, .ref m_fewest, .ref m_waysTo, .ref m_then, .ref m_two, .ref m_nextTwo, .ref m_three, .ref m_nextThree, .int (-1), .ref m_worth, .ref m_digit, .int 0, .long 0, .int 0, .int 0, .int 0, .int 0, .long 0])), (m_people, .inl (cm_people, 5, .inl (fun _ => 0)))] H) (hD : va_D A [(h0, .inr (9, [.ref tp, .int 0, .int 0, .int (-1), .ref nw, .ref im, .ref sl, .ref rd, .ref wk, .ref fm, .ref mt, .ref ch, .ref dy])), (nw, .inr (3, [.int 0, .ref tn, .int 0, .int 0, .int 0, .int 0])), (tn, .inr (7, [.int 0, .int 0, .int 0, .int 0, .int 0, .int 0, .int 0, .int 0, .ref ta0, .ref ta1, .ref ta2, .ref ta3, .ref ta4, .ref ta5, .ref ta6, .ref ta7, .ref ta8, .ref ta9])), (m0, .inr (10, [.int 0, .ref m_width, .ref m_many, .ref m_cells, .ref m_moved, .ref m_tape, .int 0, .int 0, .int 0, .int 0, .int 0, .long 0, .int 0, .int 0, .int 0, .int (-1), .ref m_lines, .ref m_hours, .ref m_courts, .ref m_in, .ref m_gates, .ref m_gate, .ref m_people, .ref m_at0, .ref m_stray, .ref m_set, .ref m_once, .ref m_truth, .ref m_known, .ref m_isKept, .int 0, .int (-1), .int 0, .int 0, .ref m_inside, .ref m_can, .ref m_fewest, .ref m_waysTo, .ref m_then, .ref m_two, .ref m_nextTwo, .ref m_three, .ref m_nextThree, .int (-1), .ref m_worth, .ref m_digit, .int 0, .long 0, .int 0, .int 0, .int 0, .int 0, .long 0])), (m_people, .inl (cm_people, 5, .inl (fun _ => 0)))]) (hK : va_K (dC, dI) vwCl [(cm_people, .int)] s) (hS : va_S A s.heap H locs) (hl : lv_has ls 4 [(3, .int 0), (2, .ref m0), (1, .ref h0), (0, .ref b)]) : W p l e room_1 s m #[Value.ref b] below meth c H locs 166 101284 (lw_Z below #[Value.ref b] s) (F0 m 440 ls []) := by
  obtain ⟨hx, hb, hr, hml, hown, hts, hX, hbl, hlocks, hgv⟩ := id C0
  have hown : s.vm.findClass RL = some m.cls := hown
  have hb : c.code = cL_law := hb
  have hts : ∀ w ∈ zT, w.before #[Value.ref b] s = true := fun w h => hts w (zT_in w h)
  have hbA : ¬ A b := fun q => absurd (hA2 b q) (Nat.not_le.mpr hbl)
  refine lv_aload_n hx hb dL_law_440 rfl (lv_at hl 2 rfl) ?_
  refine lv_aload_n hx hb dL_law_441 rfl (lv_at hl 3 rfl) ?_
  refine lv_iload_n hx hb dL_law_442 rfl (lv_at hl 0 rfl) ?_
  refine lv_iconst (v := 1) hx hb dL_law_443 (by decide) ?_
  refine lv_iadd hx hb dL_law_444 ?_
  refine lv_topi (fun x_1 ex_1 => ?_)
  obtain rfl : x_1 = 1 := ex_1.trans (by decide)
  refine va_sld hx hb hX hbl hbA hS (z_inC _ (k := 1) (by decide) (by decide)) dL_law_445 ?_
  refine lv_aload_n hx hb dL_law_446 rfl (lv_at hl 3 rfl) ?_
  refine lv_iload_n hx hb dL_law_447 rfl (lv_at hl 0 rfl) ?_
  refine lv_iconst (v := 2) hx hb dL_law_448 (by decide) ?_
  refine lv_iadd hx hb dL_law_449 ?_
  refine lv_topi (fun x_2 ex_2 => ?_)
  obtain rfl : x_2 = 2 := ex_2.trans (by decide)
  refine va_sld hx hb hX hbl hbA hS (z_inC _ (k := 2) (by decide) (by decide)) dL_law_450 ?_
  have hPc := hP.sub (ws' := [(h0, .inr (9, [.ref tp, .int 0, .int 0, .int (-1), .ref nw, .ref im, .ref sl, .ref rd, .ref wk, .ref fm, .ref mt, .ref ch, .ref dy])), (nw, .inr (3, [.int 0, .ref tn, .int 0, .int 0, .int 0, .int 0])), (tn, .inr (7, [.int 0, .int 0, .int 0, .int 0, .int 0, .int 0, .int 0, .int 0, .ref ta0, .ref ta1, .ref ta2, .ref ta3, .ref ta4, .ref ta5, .ref ta6, .ref ta7, .ref ta8, .ref ta9]))]) [0, 1, 2] rfl
  have hDc := hD.sub (ws' := [(h0, .inr (9, [.ref tp, .int 0, .int 0, .int (-1), .ref nw, .ref im, .ref sl, .ref rd, .ref wk, .ref fm, .ref mt, .ref ch, .ref dy])), (nw, .inr (3, [.int 0, .ref tn, .int 0, .int 0, .int 0, .int 0])), (tn, .inr (7, [.int 0, .int 0, .int 0, .int 0, .int 0, .int 0, .int 0, .int 0, .ref ta0, .ref ta1, .ref ta2, .ref ta3, .ref ta4, .ref ta5, .ref ta6, .ref ta7, .ref ta8, .ref ta9]))]) [0, 1, 2] (by decide) rfl
  have hKc := hK.sub (tys' := []) [] rfl
  have hFc := va_free (wc := [(h0, .inr (9, [.ref tp, .int 0, .int 0, .int (-1), .ref nw, .ref im, .ref sl, .ref rd, .ref wk, .ref fm, .ref mt, .ref ch, .ref dy])), (nw, .inr (3, [.int 0, .ref tn, .int 0, .int 0, .int 0, .int 0])), (tn, .inr (7, [.int 0, .int 0, .int 0, .int 0, .int 0, .int 0, .int 0, .int 0, .ref ta0, .ref ta1, .ref ta2, .ref ta3, .ref ta4, .ref ta5, .ref ta6, .ref ta7, .ref ta8, .ref ta9]))]) hD hS hA [0, 1, 2] rfl
  refine va_calli (va_runV (As := [.int (xs (Int32.toNatClampNeg 1)), .int (xs (Int32.toNatClampNeg 2))]) (rest := []) ⟨hx, hb, hml, hown, hts⟩ (k_X9_where l dC dI h0 (xs (Int32.toNatClampNeg 1)) (xs (Int32.toNatClampNeg 2)) tp nw im sl rd wk fm mt ch dy tn ta0 ta1 ta2 ta3 ta4 ta5 ta6 ta7 ta8 ta9 H.size) (cwV 2 hts (z_gV zw_t3_177 zw_t3_178 zw_t3_179 zw_t1_1 zw_t3_180) rfl rfl rfl (by decide +kernel) ⟨(Nat.le_of_ble_eq_true rfl), (Nat.le_of_ble_eq_true rfl)⟩) (z_preV hPc hKc hDc (ci := 9) (q0 := 0) rfl rfl) rfl rfl hl.1 rfl (lv_room (Nat.le_of_ble_eq_true rfl)) dL_law_451 ⟨(Nat.le_of_ble_eq_true rfl), (Nat.le_of_ble_eq_true rfl)⟩) hS (fun q _ h => hFc q h) hFc (fun r_3 u t H1 locs ht hvm hw hB hz1 hk1 hS => ?_)
  have hB : zW dC dI [] [] (va_A [(h0, .inr (9, [.ref tp, .int 0, .int 0, .int (-1), .ref nw, .ref im, .ref sl, .ref rd, .ref wk, .ref fm, .ref mt, .ref ch, .ref dy])), (nw, .inr (3, [.int 0, .ref tn, .int 0, .int 0, .int 0, .int 0])), (tn, .inr (7, [.int 0, .int 0, .int 0, .int 0, .int 0, .int 0, .int 0, .int 0, .ref ta0, .ref ta1, .ref ta2, .ref ta3, .ref ta4, .ref ta5, .ref ta6, .ref ta7, .ref ta8, .ref ta9]))] H.size) t := z_none (va_K.moved hvm hK)
  obtain ⟨hP, hD, hK⟩ := z_after [(m0, .inr (10, [.int 0, .ref m_width, .ref m_many, .ref m_cells, .ref m_moved, .ref m_tape, .int 0, .int 0, .int 0, .int 0, .int 0, .long 0, .int 0, .int 0, .int 0, .int (-1), .ref m_lines, .ref m_hours, .ref m_courts, .ref m_in, .ref m_gates, .ref m_gate, .ref m_people, .ref m_at0, .ref m_stray, .ref m_set, .ref m_once, .ref m_truth, .ref m_known, .ref m_isKept, .int 0, .int (-1), .int 0, .int 0, .ref m_inside, .ref m_can, .ref m_fewest, .ref m_waysTo, .ref m_then, .ref m_two, .ref m_nextTwo, .ref m_three, .ref m_nextThree, .int (-1), .ref m_worth, .ref m_digit, .int 0, .long 0, .int 0, .int 0, .int 0, .int 0, .long 0])), (m_people, .inl (cm_people, 5, .inl (fun _ => 0)))] hB ht hvm hP hD hK [0, 1, 2] [3, 4] rfl rfl (by decide) (by decide) hk1 hFc
  generalize H1 = H at hP hS ⊢
  have hP : va_P (dC, dI) vwCl [(m0, .inr (10, [.int 0, .ref m_width, .ref m_many, .ref m_cells, .ref m_moved, .ref m_tape, .int 0, .int 0, .int 0, .int 0, .int 0, .long 0, .int 0, .int 0, .int 0, .int (-1), .ref m_lines, .ref m_hours, .ref m_courts, .ref m_in, .ref m_gates, .ref m_gate, .ref m_people, .ref m_at0, .ref m_stray, .ref m_set, .ref m_once, .ref m_truth, .ref m_known, .ref m_isKept, .int 0, .int (-1), .int 0, .int 0, .ref m_inside, .ref m_can, .ref m_fewest, .ref m_waysTo, .ref m_then, .ref m_two, .ref m_nextTwo, .ref m_three, .ref m_nextThree, .int (-1), .ref m_worth, .ref m_digit, .int 0, .long 0, .int 0, .int 0, .int 0, .int 0, .long 0])), (m_people, .inl (cm_people, 5, .inl (fun _ => 0)))] H := hP
  have hD : va_D A [(m0, .inr (10, [.int 0, .ref m_width, .ref m_many, .ref m_cells, .ref m_moved, .ref m_tape, .int 0, .int 0, .int 0, .int 0, .int 0, .long 0, .int 0, .int 0, .int 0, .int (-1), .ref m_lines, .ref m_hours, .ref m_courts, .ref m_in, .ref m_gates, .ref m_gate, .ref m_people, .ref m_at0, .ref m_stray, .ref m_set, .ref m_once, .ref m_truth, .ref m_known, .ref m_isKept, .int 0, .int (-1), .int 0, .int 0, .ref m_inside, .ref m_can, .ref m_fewest, .ref m_waysTo, .ref m_then, .ref m_two, .ref m_nextTwo, .ref m_three, .ref m_nextThree, .int (-1), .ref m_worth, .ref m_digit, .int 0, .long 0, .int 0, .int 0, .int 0, .int 0, .long 0])), (m_people, .inl (cm_people, 5, .inl (fun _ => 0)))] := hD
  have hK : va_K (dC, dI) vwCl [(cm_people, .int)] s := hK
  obtain rfl : r_3 = (-2) := hw
  refine lv_aload_n hx hb dL_law_454 rfl (lv_at hl 1 rfl) ?_
  refine lv_aload_n hx hb dL_law_455 rfl (lv_at hl 3 rfl) ?_
  refine lv_iload_n hx hb dL_law_456 rfl (lv_at hl 0 rfl) ?_
  refine lv_iconst (v := 1) hx hb dL_law_457 (by decide) ?_
  refine lv_iadd hx hb dL_law_458 ?_
  refine lv_topi (fun x_4 ex_4 => ?_)
  obtain rfl : x_4 = 1 := ex_4.trans (by decide)
  refine va_sld hx hb hX hbl hbA hS (z_inC _ (k := 1) (by decide) (by decide)) dL_law_459 ?_
  refine lv_aload_n hx hb dL_law_460 rfl (lv_at hl 3 rfl) ?_
  refine lv_iload_n hx hb dL_law_461 rfl (lv_at hl 0 rfl) ?_
  refine lv_iconst (v := 2) hx hb dL_law_462 (by decide) ?_
  refine lv_iadd hx hb dL_law_463 ?_
  refine lv_topi (fun x_5 ex_5 => ?_)
  obtain rfl : x_5 = 2 := ex_5.trans (by decide)
  refine va_sld hx hb hX hbl hbA hS (z_inC _ (k := 2) (by decide) (by decide)) dL_law_464 ?_
  have hPc := hP.sub (ws' := [(m0, .inr (10, [.int 0, .ref m_width, .ref m_many, .ref m_cells, .ref m_moved, .ref m_tape, .int 0, .int 0, .int 0, .int 0, .int 0, .long 0, .int 0, .int 0, .int 0, .int (-1), .ref m_lines, .ref m_hours, .ref m_courts, .ref m_in, .ref m_gates, .ref m_gate, .ref m_people, .ref m_at0, .ref m_stray, .ref m_set, .ref m_once, .ref m_truth, .ref m_known, .ref m_isKept, .int 0, .int (-1), .int 0, .int 0, .ref m_inside, .ref m_can, .ref m_fewest, .ref m_waysTo, .ref m_then, .ref m_two, .ref m_nextTwo, .ref m_three, .ref m_nextThree, .int (-1), .ref m_worth, .ref m_digit, .int 0, .long 0, .int 0, .int 0, .int 0, .int 0, .long 0])), (m_people, .inl (cm_people, 5, .inl (fun _ => 0)))]) [0, 1] rfl
  have hDc := hD.sub (ws' := [(m0, .inr (10, [.int 0, .ref m_width, .ref m_many, .ref m_cells, .ref m_moved, .ref m_tape, .int 0, .int 0, .int 0, .int 0, .int 0, .long 0, .int 0, .int 0, .int 0, .int (-1), .ref m_lines, .ref m_hours, .ref m_courts, .ref m_in, .ref m_gates, .ref m_gate, .ref m_people, .ref m_at0, .ref m_stray, .ref m_set, .ref m_once, .ref m_truth, .ref m_known, .ref m_isKept, .int 0, .int (-1), .int 0, .int 0, .ref m_inside, .ref m_can, .ref m_fewest, .ref m_waysTo, .ref m_then, .ref m_two, .ref m_nextTwo, .ref m_three, .ref m_nextThree, .int (-1), .ref m_worth, .ref m_digit, .int 0, .long 0, .int 0, .int 0, .int 0, .int 0, .long 0])), (m_people, .inl (cm_people, 5, .inl (fun _ => 0)))]) [0, 1] (by decide) rfl
  have hKc := hK.sub (tys' := [(cm_people, .int)]) [0] rfl
  have hFc := va_free (wc := [(m0, .inr (10, [.int 0, .ref m_width, .ref m_many, .ref m_cells, .ref m_moved, .ref m_tape, .int 0, .int 0, .int 0, .int 0, .int 0, .long 0, .int 0, .int 0, .int 0, .int (-1), .ref m_lines, .ref m_hours, .ref m_courts, .ref m_in, .ref m_gates, .ref m_gate, .ref m_people, .ref m_at0, .ref m_stray, .ref m_set, .ref m_once, .ref m_truth, .ref m_known, .ref m_isKept, .int 0, .int (-1), .int 0, .int 0, .ref m_inside, .ref m_can, .ref m_fewest, .ref m_waysTo, .ref m_then, .ref m_two, .ref m_nextTwo, .ref m_three, .ref m_nextThree, .int (-1), .ref m_worth, .ref m_digit, .int 0, .long 0, .int 0, .int 0, .int 0, .int 0, .long 0])), (m_people, .inl (cm_people, 5, .inl (fun _ => 0)))]) hD hS hA [0, 1] rfl
  refine va_calli (va_runV (As := [.int (xs (Int32.toNatClampNeg 1)), .int (xs (Int32.toNatClampNeg 2))]) (rest := [.int (-2)]) ⟨hx, hb, hml, hown, hts⟩ (k_X10_where l dC dI m0 (xs (Int32.toNatClampNeg 1)) (xs (Int32.toNatClampNeg 2)) m_width m_many m_cells m_moved m_tape m_lines m_hours m_courts m_in m_gates m_gate m_people m_at0 m_stray m_set m_once m_truth m_known m_isKept m_inside m_can m_fewest m_waysTo m_then m_two m_nextTwo m_three m_nextThree m_worth m_digit cm_people H.size) (cwV 2 hts (z_gV zw_t7_173 zw_t7_174 zw_t7_175 zw_t1_11 zw_t7_176) rfl rfl rfl (by decide +kernel) ⟨(Nat.le_of_ble_eq_true rfl), (Nat.le_of_ble_eq_true rfl)⟩) (z_preV hPc hKc hDc (ci := 10) (q0 := 0) rfl rfl) rfl rfl hl.1 rfl (lv_room (Nat.le_of_ble_eq_true rfl)) dL_law_465 ⟨(Nat.le_of_ble_eq_true rfl), (Nat.le_of_ble_eq_true rfl)⟩) hS (fun q _ h => hFc q h) hFc (fun r_6 u t H1 locs ht hvm hw hB hz1 hk1 hS => ?_)
  have hB : zW dC dI [] [] (va_A [(m0, .inr (10, [.int 0, .ref m_width, .ref m_many, .ref m_cells, .ref m_moved, .ref m_tape, .int 0, .int 0, .int 0, .int 0, .int 0, .long 0, .int 0, .int 0, .int 0, .int (-1), .ref m_lines, .ref m_hours, .ref m_courts, .ref m_in, .ref m_gates, .ref m_gate, .ref m_people, .ref m_at0, .ref m_stray, .ref m_set, .ref m_once, .ref m_truth, .ref m_known, .ref m_isKept, .int 0, .int (-1), .int 0, .int 0, .ref m_inside, .ref m_can, .ref m_fewest, .ref m_waysTo, .ref m_then, .ref m_two, .ref m_nextTwo, .ref m_three, .ref m_nextThree, .int (-1), .ref m_worth, .ref m_digit, .int 0, .long 0, .int 0, .int 0, .int 0, .int 0, .long 0])), (m_people, .inl (cm_people, 5, .inl (fun _ => 0)))] H.size) t := z_none (va_K.moved hvm hK)
  obtain ⟨hP, hD, hK⟩ := z_after [] hB ht hvm hP hD hK [0, 1] [] rfl rfl (by decide) (by decide) hk1 hFc
  generalize H1 = H at hP hS ⊢
  have hP : va_P (dC, dI) vwCl [] H := hP
  have hD : va_D A [] := hD
  have hK : va_K (dC, dI) vwCl [(cm_people, .int)] s := hK
  obtain rfl : r_6 = (-2) := hw
  refine lv_icmp_eq (tgt := 2651) hx hb dL_law_468 (by decide) (fun _ => ?_) (fun q => absurd q (by decide))
  exact law_tail C0 hA2 (Nat.le_of_ble_eq_true rfl) (Nat.le_of_ble_eq_true rfl) hS (lv_sub hl [0, 3] rfl)
set_option maxHeartbeats 4000000 in
set_option maxRecDepth 100000 in
theorem law_within {p : Program} {e : Env} {s : State} {m : MethodId} {below : List Frame} {meth : Method} {c : Code} {l : Launch} {b : Nat} {xs : Nat → Int32} (C0 : lw_At p s m meth c b 6 xs) {dC : Nat → ClassId} {dI : Nat → Nat → Nat} {A : Nat → Prop} (hA : ∀ q, s.heap.size ≤ q → A q) (hA2 : ∀ q, A q → s.heap.size ≤ q) {h0 : Nat} {tp : Nat} {nw : Nat} {im : Nat} {sl : Nat} {rd : Nat} {wk : Nat} {fm : Nat} {mt : Nat} {ch : Nat} {dy : Nat} {tn : Nat} {ta0 : Nat} {ta1 : Nat} {ta2 : Nat} {ta3 : Nat} {ta4 : Nat} {ta5 : Nat} {ta6 : Nat} {ta7 : Nat} {ta8 : Nat} {ta9 : Nat} {m0 : Nat} {m_width : Nat} {m_many : Nat} {m_cells : Nat} {m_moved : Nat} {m_tape : Nat} {m_lines : Nat} {m_hours : Nat} {m_courts : Nat} {m_in : Nat} {m_gates : Nat} {m_gate : Nat} {m_people : Nat} {m_at0 : Nat} {m_stray : Nat} {m_set : Nat} {m_once : Nat} {m_truth : Nat} {m_known : Nat} {m_isKept : Nat} {m_inside : Nat} {m_can : Nat} {m_fewest : Nat} {m_waysTo : Nat} {m_then : Nat} {m_two : Nat} {m_nextTwo : Nat} {m_three : Nat} {m_nextThree : Nat} {m_worth : Nat} {m_digit : Nat} {cm_courts : ClassId}  {H : Heap} {locs : List Loc} {ls : Array Slot} (hP : va_P (dC, dI) vwCl [(h0, .inr (9, [.ref tp, .int 0, .int 0, .int (-1), .ref nw, .ref im, .ref sl, .ref rd, .ref wk, .ref fm, .ref mt, .ref ch, .ref dy])), (nw, .inr (3, [.int 0, .ref tn, .int 0, .int 0, .int 0, .int 0])), (tn, .inr (7, [.int 0, .int 0, .int 0, .int 0, .int 0, .int 0, .int 0, .int 0, .ref ta0, .ref ta1, .ref ta2, .ref ta3, .ref ta4, .ref ta5, .ref ta6, .ref ta7, .ref ta8, .ref ta9])), (m0, .inr (10, [.int 0, .ref m_width, .ref m_many, .ref m_cells, .ref m_moved, .ref m_tape, .int 0, .int 0, .int 0, .int 0, .int 0, .long 0, .int 0, .int 0, .int 0, .int (-1), .ref m_lines, .ref m_hours, .ref m_courts, .ref m_in, .ref m_gates, .ref m_gate, .ref m_people, .ref m_at0, .ref m_stray, .ref m_set, .ref m_once, .ref m_truth, .ref m_known, .ref m_isKept, .int 0, .int (-1), .int 0, .int 0, .ref m_inside, .ref m_can, .ref m_fewest, .ref m_waysTo, .ref m_then, .ref m_two, .ref m_nextTwo, .ref m_three, .ref m_nextThree, .int (-1), .ref m_worth, .ref m_digit, .int 0, .long 0, .int 0, .int 0, .int 0, .int 0, .long 0])), (m_courts, .inl (cm_courts, 5, .inl (fun _ => 0)))] H) (hD : va_D A [(h0, .inr (9, [.ref tp, .int 0, .int 0, .int (-1), .ref nw, .ref im, .ref sl, .ref rd, .ref wk, .ref fm, .ref mt, .ref ch, .ref dy])), (nw, .inr (3, [.int 0, .ref tn, .int 0, .int 0, .int 0, .int 0])), (tn, .inr (7, [.int 0, .int 0, .int 0, .int 0, .int 0, .int 0, .int 0, .int 0, .ref ta0, .ref ta1, .ref ta2, .ref ta3, .ref ta4, .ref ta5, .ref ta6, .ref ta7, .ref ta8, .ref ta9])), (m0, .inr (10, [.int 0, .ref m_width, .ref m_many, .ref m_cells, .ref m_moved, .ref m_tape, .int 0, .int 0, .int 0, .int 0, .int 0, .long 0, .int 0, .int 0, .int 0, .int (-1), .ref m_lines, .ref m_hours, .ref m_courts, .ref m_in, .ref m_gates, .ref m_gate, .ref m_people, .ref m_at0, .ref m_stray, .ref m_set, .ref m_once, .ref m_truth, .ref m_known, .ref m_isKept, .int 0, .int (-1), .int 0, .int 0, .ref m_inside, .ref m_can, .ref m_fewest, .ref m_waysTo, .ref m_then, .ref m_two, .ref m_nextTwo, .ref m_three, .ref m_nextThree, .int (-1), .ref m_worth, .ref m_digit, .int 0, .long 0, .int 0, .int 0, .int 0, .int 0, .long 0])), (m_courts, .inl (cm_courts, 5, .inl (fun _ => 0)))]) (hK : va_K (dC, dI) vwCl [(cm_courts, .int)] s) (hS : va_S A s.heap H locs) (hl : lv_has ls 4 [(3, .int 0), (2, .ref m0), (1, .ref h0), (0, .ref b)]) : W p l e room_1 s m #[Value.ref b] below meth c H locs 166 101284 (lw_Z below #[Value.ref b] s) (F0 m 473 ls []) := by
  obtain ⟨hx, hb, hr, hml, hown, hts, hX, hbl, hlocks, hgv⟩ := id C0
  have hown : s.vm.findClass RL = some m.cls := hown
  have hb : c.code = cL_law := hb
  have hts : ∀ w ∈ zT, w.before #[Value.ref b] s = true := fun w h => hts w (zT_in w h)
  have hbA : ¬ A b := fun q => absurd (hA2 b q) (Nat.not_le.mpr hbl)
  refine lv_aload_n hx hb dL_law_473 rfl (lv_at hl 2 rfl) ?_
  refine lv_aload_n hx hb dL_law_474 rfl (lv_at hl 3 rfl) ?_
  refine lv_iload_n hx hb dL_law_475 rfl (lv_at hl 0 rfl) ?_
  refine lv_iconst (v := 1) hx hb dL_law_476 (by decide) ?_
  refine lv_iadd hx hb dL_law_477 ?_
  refine lv_topi (fun x_1 ex_1 => ?_)
  obtain rfl : x_1 = 1 := ex_1.trans (by decide)
  refine va_sld hx hb hX hbl hbA hS (z_inC _ (k := 1) (by decide) (by decide)) dL_law_478 ?_
  refine lv_aload_n hx hb dL_law_479 rfl (lv_at hl 3 rfl) ?_
  refine lv_iload_n hx hb dL_law_480 rfl (lv_at hl 0 rfl) ?_
  refine lv_iconst (v := 2) hx hb dL_law_481 (by decide) ?_
  refine lv_iadd hx hb dL_law_482 ?_
  refine lv_topi (fun x_2 ex_2 => ?_)
  obtain rfl : x_2 = 2 := ex_2.trans (by decide)
  refine va_sld hx hb hX hbl hbA hS (z_inC _ (k := 2) (by decide) (by decide)) dL_law_483 ?_
  have hPc := hP.sub (ws' := [(h0, .inr (9, [.ref tp, .int 0, .int 0, .int (-1), .ref nw, .ref im, .ref sl, .ref rd, .ref wk, .ref fm, .ref mt, .ref ch, .ref dy])), (nw, .inr (3, [.int 0, .ref tn, .int 0, .int 0, .int 0, .int 0])), (tn, .inr (7, [.int 0, .int 0, .int 0, .int 0, .int 0, .int 0, .int 0, .int 0, .ref ta0, .ref ta1, .ref ta2, .ref ta3, .ref ta4, .ref ta5, .ref ta6, .ref ta7, .ref ta8, .ref ta9]))]) [0, 1, 2] rfl
  have hDc := hD.sub (ws' := [(h0, .inr (9, [.ref tp, .int 0, .int 0, .int (-1), .ref nw, .ref im, .ref sl, .ref rd, .ref wk, .ref fm, .ref mt, .ref ch, .ref dy])), (nw, .inr (3, [.int 0, .ref tn, .int 0, .int 0, .int 0, .int 0])), (tn, .inr (7, [.int 0, .int 0, .int 0, .int 0, .int 0, .int 0, .int 0, .int 0, .ref ta0, .ref ta1, .ref ta2, .ref ta3, .ref ta4, .ref ta5, .ref ta6, .ref ta7, .ref ta8, .ref ta9]))]) [0, 1, 2] (by decide) rfl
  have hKc := hK.sub (tys' := []) [] rfl
  have hFc := va_free (wc := [(h0, .inr (9, [.ref tp, .int 0, .int 0, .int (-1), .ref nw, .ref im, .ref sl, .ref rd, .ref wk, .ref fm, .ref mt, .ref ch, .ref dy])), (nw, .inr (3, [.int 0, .ref tn, .int 0, .int 0, .int 0, .int 0])), (tn, .inr (7, [.int 0, .int 0, .int 0, .int 0, .int 0, .int 0, .int 0, .int 0, .ref ta0, .ref ta1, .ref ta2, .ref ta3, .ref ta4, .ref ta5, .ref ta6, .ref ta7, .ref ta8, .ref ta9]))]) hD hS hA [0, 1, 2] rfl
  refine va_calli (va_runV (As := [.int (xs (Int32.toNatClampNeg 1)), .int (xs (Int32.toNatClampNeg 2))]) (rest := []) ⟨hx, hb, hml, hown, hts⟩ (k_X9_within l dC dI h0 (xs (Int32.toNatClampNeg 1)) (xs (Int32.toNatClampNeg 2)) tp nw im sl rd wk fm mt ch dy tn ta0 ta1 ta2 ta3 ta4 ta5 ta6 ta7 ta8 ta9 H.size) (cwV 2 hts (z_gV zw_t3_193 zw_t3_194 zw_t3_195 zw_t1_1 zw_t3_196) rfl rfl rfl (by decide +kernel) ⟨(Nat.le_of_ble_eq_true rfl), (Nat.le_of_ble_eq_true rfl)⟩) (z_preV hPc hKc hDc (ci := 9) (q0 := 0) rfl rfl) rfl rfl hl.1 rfl (lv_room (Nat.le_of_ble_eq_true rfl)) dL_law_484 ⟨(Nat.le_of_ble_eq_true rfl), (Nat.le_of_ble_eq_true rfl)⟩) hS (fun q _ h => hFc q h) hFc (fun r_3 u t H1 locs ht hvm hw hB hz1 hk1 hS => ?_)
  have hB : zW dC dI [] [] (va_A [(h0, .inr (9, [.ref tp, .int 0, .int 0, .int (-1), .ref nw, .ref im, .ref sl, .ref rd, .ref wk, .ref fm, .ref mt, .ref ch, .ref dy])), (nw, .inr (3, [.int 0, .ref tn, .int 0, .int 0, .int 0, .int 0])), (tn, .inr (7, [.int 0, .int 0, .int 0, .int 0, .int 0, .int 0, .int 0, .int 0, .ref ta0, .ref ta1, .ref ta2, .ref ta3, .ref ta4, .ref ta5, .ref ta6, .ref ta7, .ref ta8, .ref ta9]))] H.size) t := z_none (va_K.moved hvm hK)
  obtain ⟨hP, hD, hK⟩ := z_after [(m0, .inr (10, [.int 0, .ref m_width, .ref m_many, .ref m_cells, .ref m_moved, .ref m_tape, .int 0, .int 0, .int 0, .int 0, .int 0, .long 0, .int 0, .int 0, .int 0, .int (-1), .ref m_lines, .ref m_hours, .ref m_courts, .ref m_in, .ref m_gates, .ref m_gate, .ref m_people, .ref m_at0, .ref m_stray, .ref m_set, .ref m_once, .ref m_truth, .ref m_known, .ref m_isKept, .int 0, .int (-1), .int 0, .int 0, .ref m_inside, .ref m_can, .ref m_fewest, .ref m_waysTo, .ref m_then, .ref m_two, .ref m_nextTwo, .ref m_three, .ref m_nextThree, .int (-1), .ref m_worth, .ref m_digit, .int 0, .long 0, .int 0, .int 0, .int 0, .int 0, .long 0])), (m_courts, .inl (cm_courts, 5, .inl (fun _ => 0)))] hB ht hvm hP hD hK [0, 1, 2] [3, 4] rfl rfl (by decide) (by decide) hk1 hFc
  generalize H1 = H at hP hS ⊢
  have hP : va_P (dC, dI) vwCl [(m0, .inr (10, [.int 0, .ref m_width, .ref m_many, .ref m_cells, .ref m_moved, .ref m_tape, .int 0, .int 0, .int 0, .int 0, .int 0, .long 0, .int 0, .int 0, .int 0, .int (-1), .ref m_lines, .ref m_hours, .ref m_courts, .ref m_in, .ref m_gates, .ref m_gate, .ref m_people, .ref m_at0, .ref m_stray, .ref m_set, .ref m_once, .ref m_truth, .ref m_known, .ref m_isKept, .int 0, .int (-1), .int 0, .int 0, .ref m_inside, .ref m_can, .ref m_fewest, .ref m_waysTo, .ref m_then, .ref m_two, .ref m_nextTwo, .ref m_three, .ref m_nextThree, .int (-1), .ref m_worth, .ref m_digit, .int 0, .long 0, .int 0, .int 0, .int 0, .int 0, .long 0])), (m_courts, .inl (cm_courts, 5, .inl (fun _ => 0)))] H := hP
  have hD : va_D A [(m0, .inr (10, [.int 0, .ref m_width, .ref m_many, .ref m_cells, .ref m_moved, .ref m_tape, .int 0, .int 0, .int 0, .int 0, .int 0, .long 0, .int 0, .int 0, .int 0, .int (-1), .ref m_lines, .ref m_hours, .ref m_courts, .ref m_in, .ref m_gates, .ref m_gate, .ref m_people, .ref m_at0, .ref m_stray, .ref m_set, .ref m_once, .ref m_truth, .ref m_known, .ref m_isKept, .int 0, .int (-1), .int 0, .int 0, .ref m_inside, .ref m_can, .ref m_fewest, .ref m_waysTo, .ref m_then, .ref m_two, .ref m_nextTwo, .ref m_three, .ref m_nextThree, .int (-1), .ref m_worth, .ref m_digit, .int 0, .long 0, .int 0, .int 0, .int 0, .int 0, .long 0])), (m_courts, .inl (cm_courts, 5, .inl (fun _ => 0)))] := hD
  have hK : va_K (dC, dI) vwCl [(cm_courts, .int)] s := hK
  obtain rfl : r_3 = (-2) := hw
  refine lv_aload_n hx hb dL_law_487 rfl (lv_at hl 1 rfl) ?_
  refine lv_aload_n hx hb dL_law_488 rfl (lv_at hl 3 rfl) ?_
  refine lv_iload_n hx hb dL_law_489 rfl (lv_at hl 0 rfl) ?_
  refine lv_iconst (v := 1) hx hb dL_law_490 (by decide) ?_
  refine lv_iadd hx hb dL_law_491 ?_
  refine lv_topi (fun x_4 ex_4 => ?_)
  obtain rfl : x_4 = 1 := ex_4.trans (by decide)
  refine va_sld hx hb hX hbl hbA hS (z_inC _ (k := 1) (by decide) (by decide)) dL_law_492 ?_
  refine lv_aload_n hx hb dL_law_493 rfl (lv_at hl 3 rfl) ?_
  refine lv_iload_n hx hb dL_law_494 rfl (lv_at hl 0 rfl) ?_
  refine lv_iconst (v := 2) hx hb dL_law_495 (by decide) ?_
  refine lv_iadd hx hb dL_law_496 ?_
  refine lv_topi (fun x_5 ex_5 => ?_)
  obtain rfl : x_5 = 2 := ex_5.trans (by decide)
  refine va_sld hx hb hX hbl hbA hS (z_inC _ (k := 2) (by decide) (by decide)) dL_law_497 ?_
  have hPc := hP.sub (ws' := [(m0, .inr (10, [.int 0, .ref m_width, .ref m_many, .ref m_cells, .ref m_moved, .ref m_tape, .int 0, .int 0, .int 0, .int 0, .int 0, .long 0, .int 0, .int 0, .int 0, .int (-1), .ref m_lines, .ref m_hours, .ref m_courts, .ref m_in, .ref m_gates, .ref m_gate, .ref m_people, .ref m_at0, .ref m_stray, .ref m_set, .ref m_once, .ref m_truth, .ref m_known, .ref m_isKept, .int 0, .int (-1), .int 0, .int 0, .ref m_inside, .ref m_can, .ref m_fewest, .ref m_waysTo, .ref m_then, .ref m_two, .ref m_nextTwo, .ref m_three, .ref m_nextThree, .int (-1), .ref m_worth, .ref m_digit, .int 0, .long 0, .int 0, .int 0, .int 0, .int 0, .long 0])), (m_courts, .inl (cm_courts, 5, .inl (fun _ => 0)))]) [0, 1] rfl
  have hDc := hD.sub (ws' := [(m0, .inr (10, [.int 0, .ref m_width, .ref m_many, .ref m_cells, .ref m_moved, .ref m_tape, .int 0, .int 0, .int 0, .int 0, .int 0, .long 0, .int 0, .int 0, .int 0, .int (-1), .ref m_lines, .ref m_hours, .ref m_courts, .ref m_in, .ref m_gates, .ref m_gate, .ref m_people, .ref m_at0, .ref m_stray, .ref m_set, .ref m_once, .ref m_truth, .ref m_known, .ref m_isKept, .int 0, .int (-1), .int 0, .int 0, .ref m_inside, .ref m_can, .ref m_fewest, .ref m_waysTo, .ref m_then, .ref m_two, .ref m_nextTwo, .ref m_three, .ref m_nextThree, .int (-1), .ref m_worth, .ref m_digit, .int 0, .long 0, .int 0, .int 0, .int 0, .int 0, .long 0])), (m_courts, .inl (cm_courts, 5, .inl (fun _ => 0)))]) [0, 1] (by decide) rfl
  have hKc := hK.sub (tys' := [(cm_courts, .int)]) [0] rfl
  have hFc := va_free (wc := [(m0, .inr (10, [.int 0, .ref m_width, .ref m_many, .ref m_cells, .ref m_moved, .ref m_tape, .int 0, .int 0, .int 0, .int 0, .int 0, .long 0, .int 0, .int 0, .int 0, .int (-1), .ref m_lines, .ref m_hours, .ref m_courts, .ref m_in, .ref m_gates, .ref m_gate, .ref m_people, .ref m_at0, .ref m_stray, .ref m_set, .ref m_once, .ref m_truth, .ref m_known, .ref m_isKept, .int 0, .int (-1), .int 0, .int 0, .ref m_inside, .ref m_can, .ref m_fewest, .ref m_waysTo, .ref m_then, .ref m_two, .ref m_nextTwo, .ref m_three, .ref m_nextThree, .int (-1), .ref m_worth, .ref m_digit, .int 0, .long 0, .int 0, .int 0, .int 0, .int 0, .long 0])), (m_courts, .inl (cm_courts, 5, .inl (fun _ => 0)))]) hD hS hA [0, 1] rfl
  refine va_calli (va_runV (As := [.int (xs (Int32.toNatClampNeg 1)), .int (xs (Int32.toNatClampNeg 2))]) (rest := [.int (-2)]) ⟨hx, hb, hml, hown, hts⟩ (k_X10_within l dC dI m0 (xs (Int32.toNatClampNeg 1)) (xs (Int32.toNatClampNeg 2)) m_width m_many m_cells m_moved m_tape m_lines m_hours m_courts m_in m_gates m_gate m_people m_at0 m_stray m_set m_once m_truth m_known m_isKept m_inside m_can m_fewest m_waysTo m_then m_two m_nextTwo m_three m_nextThree m_worth m_digit cm_courts H.size) (cwV 2 hts (z_gV zw_t7_193 zw_t7_194 zw_t7_195 zw_t1_11 zw_t7_196) rfl rfl rfl (by decide +kernel) ⟨(Nat.le_of_ble_eq_true rfl), (Nat.le_of_ble_eq_true rfl)⟩) (z_preV hPc hKc hDc (ci := 10) (q0 := 0) rfl rfl) rfl rfl hl.1 rfl (lv_room (Nat.le_of_ble_eq_true rfl)) dL_law_498 ⟨(Nat.le_of_ble_eq_true rfl), (Nat.le_of_ble_eq_true rfl)⟩) hS (fun q _ h => hFc q h) hFc (fun r_6 u t H1 locs ht hvm hw hB hz1 hk1 hS => ?_)
  have hB : zW dC dI [] [] (va_A [(m0, .inr (10, [.int 0, .ref m_width, .ref m_many, .ref m_cells, .ref m_moved, .ref m_tape, .int 0, .int 0, .int 0, .int 0, .int 0, .long 0, .int 0, .int 0, .int 0, .int (-1), .ref m_lines, .ref m_hours, .ref m_courts, .ref m_in, .ref m_gates, .ref m_gate, .ref m_people, .ref m_at0, .ref m_stray, .ref m_set, .ref m_once, .ref m_truth, .ref m_known, .ref m_isKept, .int 0, .int (-1), .int 0, .int 0, .ref m_inside, .ref m_can, .ref m_fewest, .ref m_waysTo, .ref m_then, .ref m_two, .ref m_nextTwo, .ref m_three, .ref m_nextThree, .int (-1), .ref m_worth, .ref m_digit, .int 0, .long 0, .int 0, .int 0, .int 0, .int 0, .long 0])), (m_courts, .inl (cm_courts, 5, .inl (fun _ => 0)))] H.size) t := z_none (va_K.moved hvm hK)
  obtain ⟨hP, hD, hK⟩ := z_after [] hB ht hvm hP hD hK [0, 1] [] rfl rfl (by decide) (by decide) hk1 hFc
  generalize H1 = H at hP hS ⊢
  have hP : va_P (dC, dI) vwCl [] H := hP
  have hD : va_D A [] := hD
  have hK : va_K (dC, dI) vwCl [(cm_courts, .int)] s := hK
  obtain rfl : r_6 = (-2) := hw
  refine lv_icmp_eq (tgt := 2651) hx hb dL_law_501 (by decide) (fun _ => ?_) (fun q => absurd q (by decide))
  exact law_tail C0 hA2 (Nat.le_of_ble_eq_true rfl) (Nat.le_of_ble_eq_true rfl) hS (lv_sub hl [0, 3] rfl)
set_option maxHeartbeats 4000000 in
set_option maxRecDepth 100000 in
theorem law_depth {p : Program} {e : Env} {s : State} {m : MethodId} {below : List Frame} {meth : Method} {c : Code} {l : Launch} {b : Nat} {xs : Nat → Int32} (C0 : lw_At p s m meth c b 6 xs) {dC : Nat → ClassId} {dI : Nat → Nat → Nat} {A : Nat → Prop} (hA : ∀ q, s.heap.size ≤ q → A q) (hA2 : ∀ q, A q → s.heap.size ≤ q) {h0 : Nat} {tp : Nat} {nw : Nat} {im : Nat} {sl : Nat} {rd : Nat} {wk : Nat} {fm : Nat} {mt : Nat} {ch : Nat} {dy : Nat} {tn : Nat} {ta0 : Nat} {ta1 : Nat} {ta2 : Nat} {ta3 : Nat} {ta4 : Nat} {ta5 : Nat} {ta6 : Nat} {ta7 : Nat} {ta8 : Nat} {ta9 : Nat} {m0 : Nat} {m_width : Nat} {m_many : Nat} {m_cells : Nat} {m_moved : Nat} {m_tape : Nat} {m_lines : Nat} {m_hours : Nat} {m_courts : Nat} {m_in : Nat} {m_gates : Nat} {m_gate : Nat} {m_people : Nat} {m_at0 : Nat} {m_stray : Nat} {m_set : Nat} {m_once : Nat} {m_truth : Nat} {m_known : Nat} {m_isKept : Nat} {m_inside : Nat} {m_can : Nat} {m_fewest : Nat} {m_waysTo : Nat} {m_then : Nat} {m_two : Nat} {m_nextTwo : Nat} {m_three : Nat} {m_nextThree : Nat} {m_worth : Nat} {m_digit : Nat} {cm_courts : ClassId}  {H : Heap} {locs : List Loc} {ls : Array Slot} (hP : va_P (dC, dI) vwCl [(h0, .inr (9, [.ref tp, .int 0, .int 0, .int (-1), .ref nw, .ref im, .ref sl, .ref rd, .ref wk, .ref fm, .ref mt, .ref ch, .ref dy])), (nw, .inr (3, [.int 0, .ref tn, .int 0, .int 0, .int 0, .int 0])), (tn, .inr (7, [.int 0, .int 0, .int 0, .int 0, .int 0, .int 0, .int 0, .int 0, .ref ta0, .ref ta1, .ref ta2, .ref ta3, .ref ta4, .ref ta5, .ref ta6, .ref ta7, .ref ta8, .ref ta9])), (m0, .inr (10, [.int 0, .ref m_width, .ref m_many, .ref m_cells, .ref m_moved, .ref m_tape, .int 0, .int 0, .int 0, .int 0, .int 0, .long 0, .int 0, .int 0, .int 0, .int (-1), .ref m_lines, .ref m_hours, .ref m_courts, .ref m_in, .ref m_gates, .ref m_gate, .ref m_people, .ref m_at0, .ref m_stray, .ref m_set, .ref m_once, .ref m_truth, .ref m_known, .ref m_isKept, .int 0, .int (-1), .int 0, .int 0, .ref m_inside, .ref m_can, .ref m_fewest, .ref m_waysTo, .ref m_then, .ref m_two, .ref m_nextTwo, .ref m_three, .ref m_nextThree, .int (-1), .ref m_worth, .ref m_digit, .int 0, .long 0, .int 0, .int 0, .int 0, .int 0, .long 0])), (m_courts, .inl (cm_courts, 5, .inl (fun _ => 0)))] H) (hD : va_D A [(h0, .inr (9, [.ref tp, .int 0, .int 0, .int (-1), .ref nw, .ref im, .ref sl, .ref rd, .ref wk, .ref fm, .ref mt, .ref ch, .ref dy])), (nw, .inr (3, [.int 0, .ref tn, .int 0, .int 0, .int 0, .int 0])), (tn, .inr (7, [.int 0, .int 0, .int 0, .int 0, .int 0, .int 0, .int 0, .int 0, .ref ta0, .ref ta1, .ref ta2, .ref ta3, .ref ta4, .ref ta5, .ref ta6, .ref ta7, .ref ta8, .ref ta9])), (m0, .inr (10, [.int 0, .ref m_width, .ref m_many, .ref m_cells, .ref m_moved, .ref m_tape, .int 0, .int 0, .int 0, .int 0, .int 0, .long 0, .int 0, .int 0, .int 0, .int (-1), .ref m_lines, .ref m_hours, .ref m_courts, .ref m_in, .ref m_gates, .ref m_gate, .ref m_people, .ref m_at0, .ref m_stray, .ref m_set, .ref m_once, .ref m_truth, .ref m_known, .ref m_isKept, .int 0, .int (-1), .int 0, .int 0, .ref m_inside, .ref m_can, .ref m_fewest, .ref m_waysTo, .ref m_then, .ref m_two, .ref m_nextTwo, .ref m_three, .ref m_nextThree, .int (-1), .ref m_worth, .ref m_digit, .int 0, .long 0, .int 0, .int 0, .int 0, .int 0, .long 0])), (m_courts, .inl (cm_courts, 5, .inl (fun _ => 0)))]) (hK : va_K (dC, dI) vwCl [(cm_courts, .int)] s) (hS : va_S A s.heap H locs) (hl : lv_has ls 4 [(3, .int 0), (2, .ref m0), (1, .ref h0), (0, .ref b)]) : W p l e room_1 s m #[Value.ref b] below meth c H locs 166 101284 (lw_Z below #[Value.ref b] s) (F0 m 506 ls []) := by
  obtain ⟨hx, hb, hr, hml, hown, hts, hX, hbl, hlocks, hgv⟩ := id C0
  have hown : s.vm.findClass RL = some m.cls := hown
  have hb : c.code = cL_law := hb
  have hts : ∀ w ∈ zT, w.before #[Value.ref b] s = true := fun w h => hts w (zT_in w h)
  have hbA : ¬ A b := fun q => absurd (hA2 b q) (Nat.not_le.mpr hbl)
  refine lv_aload_n hx hb dL_law_506 rfl (lv_at hl 2 rfl) ?_
  refine lv_aload_n hx hb dL_law_507 rfl (lv_at hl 3 rfl) ?_
  refine lv_iload_n hx hb dL_law_508 rfl (lv_at hl 0 rfl) ?_
  refine lv_iconst (v := 1) hx hb dL_law_509 (by decide) ?_
  refine lv_iadd hx hb dL_law_510 ?_
  refine lv_topi (fun x_1 ex_1 => ?_)
  obtain rfl : x_1 = 1 := ex_1.trans (by decide)
  refine va_sld hx hb hX hbl hbA hS (z_inC _ (k := 1) (by decide) (by decide)) dL_law_511 ?_
  have hPc := hP.sub (ws' := [(h0, .inr (9, [.ref tp, .int 0, .int 0, .int (-1), .ref nw, .ref im, .ref sl, .ref rd, .ref wk, .ref fm, .ref mt, .ref ch, .ref dy])), (nw, .inr (3, [.int 0, .ref tn, .int 0, .int 0, .int 0, .int 0])), (tn, .inr (7, [.int 0, .int 0, .int 0, .int 0, .int 0, .int 0, .int 0, .int 0, .ref ta0, .ref ta1, .ref ta2, .ref ta3, .ref ta4, .ref ta5, .ref ta6, .ref ta7, .ref ta8, .ref ta9]))]) [0, 1, 2] rfl
  have hDc := hD.sub (ws' := [(h0, .inr (9, [.ref tp, .int 0, .int 0, .int (-1), .ref nw, .ref im, .ref sl, .ref rd, .ref wk, .ref fm, .ref mt, .ref ch, .ref dy])), (nw, .inr (3, [.int 0, .ref tn, .int 0, .int 0, .int 0, .int 0])), (tn, .inr (7, [.int 0, .int 0, .int 0, .int 0, .int 0, .int 0, .int 0, .int 0, .ref ta0, .ref ta1, .ref ta2, .ref ta3, .ref ta4, .ref ta5, .ref ta6, .ref ta7, .ref ta8, .ref ta9]))]) [0, 1, 2] (by decide) rfl
  have hKc := hK.sub (tys' := []) [] rfl
  have hFc := va_free (wc := [(h0, .inr (9, [.ref tp, .int 0, .int 0, .int (-1), .ref nw, .ref im, .ref sl, .ref rd, .ref wk, .ref fm, .ref mt, .ref ch, .ref dy])), (nw, .inr (3, [.int 0, .ref tn, .int 0, .int 0, .int 0, .int 0])), (tn, .inr (7, [.int 0, .int 0, .int 0, .int 0, .int 0, .int 0, .int 0, .int 0, .ref ta0, .ref ta1, .ref ta2, .ref ta3, .ref ta4, .ref ta5, .ref ta6, .ref ta7, .ref ta8, .ref ta9]))]) hD hS hA [0, 1, 2] rfl
  refine va_calli (va_runV (As := [.int (xs (Int32.toNatClampNeg 1))]) (rest := []) ⟨hx, hb, hml, hown, hts⟩ (k_X9_depth l dC dI h0 (xs (Int32.toNatClampNeg 1)) tp nw im sl rd wk fm mt ch dy tn ta0 ta1 ta2 ta3 ta4 ta5 ta6 ta7 ta8 ta9 H.size) (cwV 1 hts (z_gV zw_t3_211 zw_t3_212 zw_t3_213 zw_t1_1 zw_t3_214) rfl rfl rfl (by decide +kernel) ⟨(Nat.le_of_ble_eq_true rfl), (Nat.le_of_ble_eq_true rfl)⟩) (z_preV hPc hKc hDc (ci := 9) (q0 := 0) rfl rfl) rfl rfl hl.1 rfl (lv_room (Nat.le_of_ble_eq_true rfl)) dL_law_512 ⟨(Nat.le_of_ble_eq_true rfl), (Nat.le_of_ble_eq_true rfl)⟩) hS (fun q _ h => hFc q h) hFc (fun r_2 u t H1 locs ht hvm hw hB hz1 hk1 hS => ?_)
  have hB : zW dC dI [] [] (va_A [(h0, .inr (9, [.ref tp, .int 0, .int 0, .int (-1), .ref nw, .ref im, .ref sl, .ref rd, .ref wk, .ref fm, .ref mt, .ref ch, .ref dy])), (nw, .inr (3, [.int 0, .ref tn, .int 0, .int 0, .int 0, .int 0])), (tn, .inr (7, [.int 0, .int 0, .int 0, .int 0, .int 0, .int 0, .int 0, .int 0, .ref ta0, .ref ta1, .ref ta2, .ref ta3, .ref ta4, .ref ta5, .ref ta6, .ref ta7, .ref ta8, .ref ta9]))] H.size) t := z_none (va_K.moved hvm hK)
  obtain ⟨hP, hD, hK⟩ := z_after [(m0, .inr (10, [.int 0, .ref m_width, .ref m_many, .ref m_cells, .ref m_moved, .ref m_tape, .int 0, .int 0, .int 0, .int 0, .int 0, .long 0, .int 0, .int 0, .int 0, .int (-1), .ref m_lines, .ref m_hours, .ref m_courts, .ref m_in, .ref m_gates, .ref m_gate, .ref m_people, .ref m_at0, .ref m_stray, .ref m_set, .ref m_once, .ref m_truth, .ref m_known, .ref m_isKept, .int 0, .int (-1), .int 0, .int 0, .ref m_inside, .ref m_can, .ref m_fewest, .ref m_waysTo, .ref m_then, .ref m_two, .ref m_nextTwo, .ref m_three, .ref m_nextThree, .int (-1), .ref m_worth, .ref m_digit, .int 0, .long 0, .int 0, .int 0, .int 0, .int 0, .long 0])), (m_courts, .inl (cm_courts, 5, .inl (fun _ => 0)))] hB ht hvm hP hD hK [0, 1, 2] [3, 4] rfl rfl (by decide) (by decide) hk1 hFc
  generalize H1 = H at hP hS ⊢
  have hP : va_P (dC, dI) vwCl [(m0, .inr (10, [.int 0, .ref m_width, .ref m_many, .ref m_cells, .ref m_moved, .ref m_tape, .int 0, .int 0, .int 0, .int 0, .int 0, .long 0, .int 0, .int 0, .int 0, .int (-1), .ref m_lines, .ref m_hours, .ref m_courts, .ref m_in, .ref m_gates, .ref m_gate, .ref m_people, .ref m_at0, .ref m_stray, .ref m_set, .ref m_once, .ref m_truth, .ref m_known, .ref m_isKept, .int 0, .int (-1), .int 0, .int 0, .ref m_inside, .ref m_can, .ref m_fewest, .ref m_waysTo, .ref m_then, .ref m_two, .ref m_nextTwo, .ref m_three, .ref m_nextThree, .int (-1), .ref m_worth, .ref m_digit, .int 0, .long 0, .int 0, .int 0, .int 0, .int 0, .long 0])), (m_courts, .inl (cm_courts, 5, .inl (fun _ => 0)))] H := hP
  have hD : va_D A [(m0, .inr (10, [.int 0, .ref m_width, .ref m_many, .ref m_cells, .ref m_moved, .ref m_tape, .int 0, .int 0, .int 0, .int 0, .int 0, .long 0, .int 0, .int 0, .int 0, .int (-1), .ref m_lines, .ref m_hours, .ref m_courts, .ref m_in, .ref m_gates, .ref m_gate, .ref m_people, .ref m_at0, .ref m_stray, .ref m_set, .ref m_once, .ref m_truth, .ref m_known, .ref m_isKept, .int 0, .int (-1), .int 0, .int 0, .ref m_inside, .ref m_can, .ref m_fewest, .ref m_waysTo, .ref m_then, .ref m_two, .ref m_nextTwo, .ref m_three, .ref m_nextThree, .int (-1), .ref m_worth, .ref m_digit, .int 0, .long 0, .int 0, .int 0, .int 0, .int 0, .long 0])), (m_courts, .inl (cm_courts, 5, .inl (fun _ => 0)))] := hD
  have hK : va_K (dC, dI) vwCl [(cm_courts, .int)] s := hK
  obtain rfl : r_2 = (-2) := hw
  refine lv_aload_n hx hb dL_law_515 rfl (lv_at hl 1 rfl) ?_
  refine lv_aload_n hx hb dL_law_516 rfl (lv_at hl 3 rfl) ?_
  refine lv_iload_n hx hb dL_law_517 rfl (lv_at hl 0 rfl) ?_
  refine lv_iconst (v := 1) hx hb dL_law_518 (by decide) ?_
  refine lv_iadd hx hb dL_law_519 ?_
  refine lv_topi (fun x_3 ex_3 => ?_)
  obtain rfl : x_3 = 1 := ex_3.trans (by decide)
  refine va_sld hx hb hX hbl hbA hS (z_inC _ (k := 1) (by decide) (by decide)) dL_law_520 ?_
  have hPc := hP.sub (ws' := [(m0, .inr (10, [.int 0, .ref m_width, .ref m_many, .ref m_cells, .ref m_moved, .ref m_tape, .int 0, .int 0, .int 0, .int 0, .int 0, .long 0, .int 0, .int 0, .int 0, .int (-1), .ref m_lines, .ref m_hours, .ref m_courts, .ref m_in, .ref m_gates, .ref m_gate, .ref m_people, .ref m_at0, .ref m_stray, .ref m_set, .ref m_once, .ref m_truth, .ref m_known, .ref m_isKept, .int 0, .int (-1), .int 0, .int 0, .ref m_inside, .ref m_can, .ref m_fewest, .ref m_waysTo, .ref m_then, .ref m_two, .ref m_nextTwo, .ref m_three, .ref m_nextThree, .int (-1), .ref m_worth, .ref m_digit, .int 0, .long 0, .int 0, .int 0, .int 0, .int 0, .long 0])), (m_courts, .inl (cm_courts, 5, .inl (fun _ => 0)))]) [0, 1] rfl
  have hDc := hD.sub (ws' := [(m0, .inr (10, [.int 0, .ref m_width, .ref m_many, .ref m_cells, .ref m_moved, .ref m_tape, .int 0, .int 0, .int 0, .int 0, .int 0, .long 0, .int 0, .int 0, .int 0, .int (-1), .ref m_lines, .ref m_hours, .ref m_courts, .ref m_in, .ref m_gates, .ref m_gate, .ref m_people, .ref m_at0, .ref m_stray, .ref m_set, .ref m_once, .ref m_truth, .ref m_known, .ref m_isKept, .int 0, .int (-1), .int 0, .int 0, .ref m_inside, .ref m_can, .ref m_fewest, .ref m_waysTo, .ref m_then, .ref m_two, .ref m_nextTwo, .ref m_three, .ref m_nextThree, .int (-1), .ref m_worth, .ref m_digit, .int 0, .long 0, .int 0, .int 0, .int 0, .int 0, .long 0])), (m_courts, .inl (cm_courts, 5, .inl (fun _ => 0)))]) [0, 1] (by decide) rfl
  have hKc := hK.sub (tys' := [(cm_courts, .int)]) [0] rfl
  have hFc := va_free (wc := [(m0, .inr (10, [.int 0, .ref m_width, .ref m_many, .ref m_cells, .ref m_moved, .ref m_tape, .int 0, .int 0, .int 0, .int 0, .int 0, .long 0, .int 0, .int 0, .int 0, .int (-1), .ref m_lines, .ref m_hours, .ref m_courts, .ref m_in, .ref m_gates, .ref m_gate, .ref m_people, .ref m_at0, .ref m_stray, .ref m_set, .ref m_once, .ref m_truth, .ref m_known, .ref m_isKept, .int 0, .int (-1), .int 0, .int 0, .ref m_inside, .ref m_can, .ref m_fewest, .ref m_waysTo, .ref m_then, .ref m_two, .ref m_nextTwo, .ref m_three, .ref m_nextThree, .int (-1), .ref m_worth, .ref m_digit, .int 0, .long 0, .int 0, .int 0, .int 0, .int 0, .long 0])), (m_courts, .inl (cm_courts, 5, .inl (fun _ => 0)))]) hD hS hA [0, 1] rfl
  refine va_calli (va_runV (As := [.int (xs (Int32.toNatClampNeg 1))]) (rest := [.int (-2)]) ⟨hx, hb, hml, hown, hts⟩ (k_X10_depth l dC dI m0 (xs (Int32.toNatClampNeg 1)) m_width m_many m_cells m_moved m_tape m_lines m_hours m_courts m_in m_gates m_gate m_people m_at0 m_stray m_set m_once m_truth m_known m_isKept m_inside m_can m_fewest m_waysTo m_then m_two m_nextTwo m_three m_nextThree m_worth m_digit cm_courts H.size) (cwV 1 hts (z_gV zw_t7_217 zw_t7_218 zw_t7_219 zw_t1_11 zw_t7_220) rfl rfl rfl (by decide +kernel) ⟨(Nat.le_of_ble_eq_true rfl), (Nat.le_of_ble_eq_true rfl)⟩) (z_preV hPc hKc hDc (ci := 10) (q0 := 0) rfl rfl) rfl rfl hl.1 rfl (lv_room (Nat.le_of_ble_eq_true rfl)) dL_law_521 ⟨(Nat.le_of_ble_eq_true rfl), (Nat.le_of_ble_eq_true rfl)⟩) hS (fun q _ h => hFc q h) hFc (fun r_4 u t H1 locs ht hvm hw hB hz1 hk1 hS => ?_)
  have hB : zW dC dI [] [] (va_A [(m0, .inr (10, [.int 0, .ref m_width, .ref m_many, .ref m_cells, .ref m_moved, .ref m_tape, .int 0, .int 0, .int 0, .int 0, .int 0, .long 0, .int 0, .int 0, .int 0, .int (-1), .ref m_lines, .ref m_hours, .ref m_courts, .ref m_in, .ref m_gates, .ref m_gate, .ref m_people, .ref m_at0, .ref m_stray, .ref m_set, .ref m_once, .ref m_truth, .ref m_known, .ref m_isKept, .int 0, .int (-1), .int 0, .int 0, .ref m_inside, .ref m_can, .ref m_fewest, .ref m_waysTo, .ref m_then, .ref m_two, .ref m_nextTwo, .ref m_three, .ref m_nextThree, .int (-1), .ref m_worth, .ref m_digit, .int 0, .long 0, .int 0, .int 0, .int 0, .int 0, .long 0])), (m_courts, .inl (cm_courts, 5, .inl (fun _ => 0)))] H.size) t := z_none (va_K.moved hvm hK)
  obtain ⟨hP, hD, hK⟩ := z_after [] hB ht hvm hP hD hK [0, 1] [] rfl rfl (by decide) (by decide) hk1 hFc
  generalize H1 = H at hP hS ⊢
  have hP : va_P (dC, dI) vwCl [] H := hP
  have hD : va_D A [] := hD
  have hK : va_K (dC, dI) vwCl [(cm_courts, .int)] s := hK
  obtain rfl : r_4 = (-2) := hw
  refine lv_icmp_eq (tgt := 2651) hx hb dL_law_524 (by decide) (fun _ => ?_) (fun q => absurd q (by decide))
  exact law_tail C0 hA2 (Nat.le_of_ble_eq_true rfl) (Nat.le_of_ble_eq_true rfl) hS (lv_sub hl [0, 3] rfl)
set_option maxHeartbeats 4000000 in
set_option maxRecDepth 100000 in
theorem law_lies {p : Program} {e : Env} {s : State} {m : MethodId} {below : List Frame} {meth : Method} {c : Code} {l : Launch} {b : Nat} {xs : Nat → Int32} (C0 : lw_At p s m meth c b 6 xs) {dC : Nat → ClassId} {dI : Nat → Nat → Nat} {A : Nat → Prop} (hA : ∀ q, s.heap.size ≤ q → A q) (hA2 : ∀ q, A q → s.heap.size ≤ q) {h0 : Nat} {tp : Nat} {nw : Nat} {im : Nat} {sl : Nat} {rd : Nat} {wk : Nat} {fm : Nat} {mt : Nat} {ch : Nat} {dy : Nat} {tn : Nat} {ta0 : Nat} {ta1 : Nat} {ta2 : Nat} {ta3 : Nat} {ta4 : Nat} {ta5 : Nat} {ta6 : Nat} {ta7 : Nat} {ta8 : Nat} {ta9 : Nat} {m0 : Nat} {m_width : Nat} {m_many : Nat} {m_cells : Nat} {m_moved : Nat} {m_tape : Nat} {m_lines : Nat} {m_hours : Nat} {m_courts : Nat} {m_in : Nat} {m_gates : Nat} {m_gate : Nat} {m_people : Nat} {m_at0 : Nat} {m_stray : Nat} {m_set : Nat} {m_once : Nat} {m_truth : Nat} {m_known : Nat} {m_isKept : Nat} {m_inside : Nat} {m_can : Nat} {m_fewest : Nat} {m_waysTo : Nat} {m_then : Nat} {m_two : Nat} {m_nextTwo : Nat} {m_three : Nat} {m_nextThree : Nat} {m_worth : Nat} {m_digit : Nat} {cm_courts : ClassId}  {H : Heap} {locs : List Loc} {ls : Array Slot} (hP : va_P (dC, dI) vwCl [(h0, .inr (9, [.ref tp, .int 0, .int 0, .int (-1), .ref nw, .ref im, .ref sl, .ref rd, .ref wk, .ref fm, .ref mt, .ref ch, .ref dy])), (nw, .inr (3, [.int 0, .ref tn, .int 0, .int 0, .int 0, .int 0])), (tn, .inr (7, [.int 0, .int 0, .int 0, .int 0, .int 0, .int 0, .int 0, .int 0, .ref ta0, .ref ta1, .ref ta2, .ref ta3, .ref ta4, .ref ta5, .ref ta6, .ref ta7, .ref ta8, .ref ta9])), (m0, .inr (10, [.int 0, .ref m_width, .ref m_many, .ref m_cells, .ref m_moved, .ref m_tape, .int 0, .int 0, .int 0, .int 0, .int 0, .long 0, .int 0, .int 0, .int 0, .int (-1), .ref m_lines, .ref m_hours, .ref m_courts, .ref m_in, .ref m_gates, .ref m_gate, .ref m_people, .ref m_at0, .ref m_stray, .ref m_set, .ref m_once, .ref m_truth, .ref m_known, .ref m_isKept, .int 0, .int (-1), .int 0, .int 0, .ref m_inside, .ref m_can, .ref m_fewest, .ref m_waysTo, .ref m_then, .ref m_two, .ref m_nextTwo, .ref m_three, .ref m_nextThree, .int (-1), .ref m_worth, .ref m_digit, .int 0, .long 0, .int 0, .int 0, .int 0, .int 0, .long 0])), (m_courts, .inl (cm_courts, 5, .inl (fun _ => 0)))] H) (hD : va_D A [(h0, .inr (9, [.ref tp, .int 0, .int 0, .int (-1), .ref nw, .ref im, .ref sl, .ref rd, .ref wk, .ref fm, .ref mt, .ref ch, .ref dy])), (nw, .inr (3, [.int 0, .ref tn, .int 0, .int 0, .int 0, .int 0])), (tn, .inr (7, [.int 0, .int 0, .int 0, .int 0, .int 0, .int 0, .int 0, .int 0, .ref ta0, .ref ta1, .ref ta2, .ref ta3, .ref ta4, .ref ta5, .ref ta6, .ref ta7, .ref ta8, .ref ta9])), (m0, .inr (10, [.int 0, .ref m_width, .ref m_many, .ref m_cells, .ref m_moved, .ref m_tape, .int 0, .int 0, .int 0, .int 0, .int 0, .long 0, .int 0, .int 0, .int 0, .int (-1), .ref m_lines, .ref m_hours, .ref m_courts, .ref m_in, .ref m_gates, .ref m_gate, .ref m_people, .ref m_at0, .ref m_stray, .ref m_set, .ref m_once, .ref m_truth, .ref m_known, .ref m_isKept, .int 0, .int (-1), .int 0, .int 0, .ref m_inside, .ref m_can, .ref m_fewest, .ref m_waysTo, .ref m_then, .ref m_two, .ref m_nextTwo, .ref m_three, .ref m_nextThree, .int (-1), .ref m_worth, .ref m_digit, .int 0, .long 0, .int 0, .int 0, .int 0, .int 0, .long 0])), (m_courts, .inl (cm_courts, 5, .inl (fun _ => 0)))]) (hK : va_K (dC, dI) vwCl [(cm_courts, .int)] s) (hS : va_S A s.heap H locs) (hl : lv_has ls 4 [(3, .int 0), (2, .ref m0), (1, .ref h0), (0, .ref b)]) : W p l e room_1 s m #[Value.ref b] below meth c H locs 166 101284 (lw_Z below #[Value.ref b] s) (F0 m 529 ls []) := by
  obtain ⟨hx, hb, hr, hml, hown, hts, hX, hbl, hlocks, hgv⟩ := id C0
  have hown : s.vm.findClass RL = some m.cls := hown
  have hb : c.code = cL_law := hb
  have hts : ∀ w ∈ zT, w.before #[Value.ref b] s = true := fun w h => hts w (zT_in w h)
  have hbA : ¬ A b := fun q => absurd (hA2 b q) (Nat.not_le.mpr hbl)
  refine lv_aload_n hx hb dL_law_529 rfl (lv_at hl 2 rfl) ?_
  refine lv_aload_n hx hb dL_law_530 rfl (lv_at hl 3 rfl) ?_
  refine lv_iload_n hx hb dL_law_531 rfl (lv_at hl 0 rfl) ?_
  refine lv_iconst (v := 1) hx hb dL_law_532 (by decide) ?_
  refine lv_iadd hx hb dL_law_533 ?_
  refine lv_topi (fun x_1 ex_1 => ?_)
  obtain rfl : x_1 = 1 := ex_1.trans (by decide)
  refine va_sld hx hb hX hbl hbA hS (z_inC _ (k := 1) (by decide) (by decide)) dL_law_534 ?_
  refine lv_aload_n hx hb dL_law_535 rfl (lv_at hl 3 rfl) ?_
  refine lv_iload_n hx hb dL_law_536 rfl (lv_at hl 0 rfl) ?_
  refine lv_iconst (v := 2) hx hb dL_law_537 (by decide) ?_
  refine lv_iadd hx hb dL_law_538 ?_
  refine lv_topi (fun x_2 ex_2 => ?_)
  obtain rfl : x_2 = 2 := ex_2.trans (by decide)
  refine va_sld hx hb hX hbl hbA hS (z_inC _ (k := 2) (by decide) (by decide)) dL_law_539 ?_
  have hPc := hP.sub (ws' := [(h0, .inr (9, [.ref tp, .int 0, .int 0, .int (-1), .ref nw, .ref im, .ref sl, .ref rd, .ref wk, .ref fm, .ref mt, .ref ch, .ref dy])), (nw, .inr (3, [.int 0, .ref tn, .int 0, .int 0, .int 0, .int 0])), (tn, .inr (7, [.int 0, .int 0, .int 0, .int 0, .int 0, .int 0, .int 0, .int 0, .ref ta0, .ref ta1, .ref ta2, .ref ta3, .ref ta4, .ref ta5, .ref ta6, .ref ta7, .ref ta8, .ref ta9]))]) [0, 1, 2] rfl
  have hDc := hD.sub (ws' := [(h0, .inr (9, [.ref tp, .int 0, .int 0, .int (-1), .ref nw, .ref im, .ref sl, .ref rd, .ref wk, .ref fm, .ref mt, .ref ch, .ref dy])), (nw, .inr (3, [.int 0, .ref tn, .int 0, .int 0, .int 0, .int 0])), (tn, .inr (7, [.int 0, .int 0, .int 0, .int 0, .int 0, .int 0, .int 0, .int 0, .ref ta0, .ref ta1, .ref ta2, .ref ta3, .ref ta4, .ref ta5, .ref ta6, .ref ta7, .ref ta8, .ref ta9]))]) [0, 1, 2] (by decide) rfl
  have hKc := hK.sub (tys' := []) [] rfl
  have hFc := va_free (wc := [(h0, .inr (9, [.ref tp, .int 0, .int 0, .int (-1), .ref nw, .ref im, .ref sl, .ref rd, .ref wk, .ref fm, .ref mt, .ref ch, .ref dy])), (nw, .inr (3, [.int 0, .ref tn, .int 0, .int 0, .int 0, .int 0])), (tn, .inr (7, [.int 0, .int 0, .int 0, .int 0, .int 0, .int 0, .int 0, .int 0, .ref ta0, .ref ta1, .ref ta2, .ref ta3, .ref ta4, .ref ta5, .ref ta6, .ref ta7, .ref ta8, .ref ta9]))]) hD hS hA [0, 1, 2] rfl
  refine va_calli (va_runV (As := [.int (xs (Int32.toNatClampNeg 1)), .int (xs (Int32.toNatClampNeg 2))]) (rest := []) ⟨hx, hb, hml, hown, hts⟩ (k_X9_lies l dC dI h0 (xs (Int32.toNatClampNeg 1)) (xs (Int32.toNatClampNeg 2)) tp nw im sl rd wk fm mt ch dy tn ta0 ta1 ta2 ta3 ta4 ta5 ta6 ta7 ta8 ta9 H.size) (cwV 2 hts (z_gV zw_t3_221 zw_t3_222 zw_t3_223 zw_t1_1 zw_t3_224) rfl rfl rfl (by decide +kernel) ⟨(Nat.le_of_ble_eq_true rfl), (Nat.le_of_ble_eq_true rfl)⟩) (z_preV hPc hKc hDc (ci := 9) (q0 := 0) rfl rfl) rfl rfl hl.1 rfl (lv_room (Nat.le_of_ble_eq_true rfl)) dL_law_540 ⟨(Nat.le_of_ble_eq_true rfl), (Nat.le_of_ble_eq_true rfl)⟩) hS (fun q _ h => hFc q h) hFc (fun r_3 u t H1 locs ht hvm hw hB hz1 hk1 hS => ?_)
  have hB : zW dC dI [] [] (va_A [(h0, .inr (9, [.ref tp, .int 0, .int 0, .int (-1), .ref nw, .ref im, .ref sl, .ref rd, .ref wk, .ref fm, .ref mt, .ref ch, .ref dy])), (nw, .inr (3, [.int 0, .ref tn, .int 0, .int 0, .int 0, .int 0])), (tn, .inr (7, [.int 0, .int 0, .int 0, .int 0, .int 0, .int 0, .int 0, .int 0, .ref ta0, .ref ta1, .ref ta2, .ref ta3, .ref ta4, .ref ta5, .ref ta6, .ref ta7, .ref ta8, .ref ta9]))] H.size) t := z_none (va_K.moved hvm hK)
  obtain ⟨hP, hD, hK⟩ := z_after [(m0, .inr (10, [.int 0, .ref m_width, .ref m_many, .ref m_cells, .ref m_moved, .ref m_tape, .int 0, .int 0, .int 0, .int 0, .int 0, .long 0, .int 0, .int 0, .int 0, .int (-1), .ref m_lines, .ref m_hours, .ref m_courts, .ref m_in, .ref m_gates, .ref m_gate, .ref m_people, .ref m_at0, .ref m_stray, .ref m_set, .ref m_once, .ref m_truth, .ref m_known, .ref m_isKept, .int 0, .int (-1), .int 0, .int 0, .ref m_inside, .ref m_can, .ref m_fewest, .ref m_waysTo, .ref m_then, .ref m_two, .ref m_nextTwo, .ref m_three, .ref m_nextThree, .int (-1), .ref m_worth, .ref m_digit, .int 0, .long 0, .int 0, .int 0, .int 0, .int 0, .long 0])), (m_courts, .inl (cm_courts, 5, .inl (fun _ => 0)))] hB ht hvm hP hD hK [0, 1, 2] [3, 4] rfl rfl (by decide) (by decide) hk1 hFc
  generalize H1 = H at hP hS ⊢
  have hP : va_P (dC, dI) vwCl [(m0, .inr (10, [.int 0, .ref m_width, .ref m_many, .ref m_cells, .ref m_moved, .ref m_tape, .int 0, .int 0, .int 0, .int 0, .int 0, .long 0, .int 0, .int 0, .int 0, .int (-1), .ref m_lines, .ref m_hours, .ref m_courts, .ref m_in, .ref m_gates, .ref m_gate, .ref m_people, .ref m_at0, .ref m_stray, .ref m_set, .ref m_once, .ref m_truth, .ref m_known, .ref m_isKept, .int 0, .int (-1), .int 0, .int 0, .ref m_inside, .ref m_can, .ref m_fewest, .ref m_waysTo, .ref m_then, .ref m_two, .ref m_nextTwo, .ref m_three, .ref m_nextThree, .int (-1), .ref m_worth, .ref m_digit, .int 0, .long 0, .int 0, .int 0, .int 0, .int 0, .long 0])), (m_courts, .inl (cm_courts, 5, .inl (fun _ => 0)))] H := hP
  have hD : va_D A [(m0, .inr (10, [.int 0, .ref m_width, .ref m_many, .ref m_cells, .ref m_moved, .ref m_tape, .int 0, .int 0, .int 0, .int 0, .int 0, .long 0, .int 0, .int 0, .int 0, .int (-1), .ref m_lines, .ref m_hours, .ref m_courts, .ref m_in, .ref m_gates, .ref m_gate, .ref m_people, .ref m_at0, .ref m_stray, .ref m_set, .ref m_once, .ref m_truth, .ref m_known, .ref m_isKept, .int 0, .int (-1), .int 0, .int 0, .ref m_inside, .ref m_can, .ref m_fewest, .ref m_waysTo, .ref m_then, .ref m_two, .ref m_nextTwo, .ref m_three, .ref m_nextThree, .int (-1), .ref m_worth, .ref m_digit, .int 0, .long 0, .int 0, .int 0, .int 0, .int 0, .long 0])), (m_courts, .inl (cm_courts, 5, .inl (fun _ => 0)))] := hD
  have hK : va_K (dC, dI) vwCl [(cm_courts, .int)] s := hK
  obtain rfl : r_3 = (-2) := hw
  refine lv_aload_n hx hb dL_law_543 rfl (lv_at hl 1 rfl) ?_
  refine lv_aload_n hx hb dL_law_544 rfl (lv_at hl 3 rfl) ?_
  refine lv_iload_n hx hb dL_law_545 rfl (lv_at hl 0 rfl) ?_
  refine lv_iconst (v := 1) hx hb dL_law_546 (by decide) ?_
  refine lv_iadd hx hb dL_law_547 ?_
  refine lv_topi (fun x_4 ex_4 => ?_)
  obtain rfl : x_4 = 1 := ex_4.trans (by decide)
  refine va_sld hx hb hX hbl hbA hS (z_inC _ (k := 1) (by decide) (by decide)) dL_law_548 ?_
  refine lv_aload_n hx hb dL_law_549 rfl (lv_at hl 3 rfl) ?_
  refine lv_iload_n hx hb dL_law_550 rfl (lv_at hl 0 rfl) ?_
  refine lv_iconst (v := 2) hx hb dL_law_551 (by decide) ?_
  refine lv_iadd hx hb dL_law_552 ?_
  refine lv_topi (fun x_5 ex_5 => ?_)
  obtain rfl : x_5 = 2 := ex_5.trans (by decide)
  refine va_sld hx hb hX hbl hbA hS (z_inC _ (k := 2) (by decide) (by decide)) dL_law_553 ?_
  have hPc := hP.sub (ws' := [(m0, .inr (10, [.int 0, .ref m_width, .ref m_many, .ref m_cells, .ref m_moved, .ref m_tape, .int 0, .int 0, .int 0, .int 0, .int 0, .long 0, .int 0, .int 0, .int 0, .int (-1), .ref m_lines, .ref m_hours, .ref m_courts, .ref m_in, .ref m_gates, .ref m_gate, .ref m_people, .ref m_at0, .ref m_stray, .ref m_set, .ref m_once, .ref m_truth, .ref m_known, .ref m_isKept, .int 0, .int (-1), .int 0, .int 0, .ref m_inside, .ref m_can, .ref m_fewest, .ref m_waysTo, .ref m_then, .ref m_two, .ref m_nextTwo, .ref m_three, .ref m_nextThree, .int (-1), .ref m_worth, .ref m_digit, .int 0, .long 0, .int 0, .int 0, .int 0, .int 0, .long 0])), (m_courts, .inl (cm_courts, 5, .inl (fun _ => 0)))]) [0, 1] rfl
  have hDc := hD.sub (ws' := [(m0, .inr (10, [.int 0, .ref m_width, .ref m_many, .ref m_cells, .ref m_moved, .ref m_tape, .int 0, .int 0, .int 0, .int 0, .int 0, .long 0, .int 0, .int 0, .int 0, .int (-1), .ref m_lines, .ref m_hours, .ref m_courts, .ref m_in, .ref m_gates, .ref m_gate, .ref m_people, .ref m_at0, .ref m_stray, .ref m_set, .ref m_once, .ref m_truth, .ref m_known, .ref m_isKept, .int 0, .int (-1), .int 0, .int 0, .ref m_inside, .ref m_can, .ref m_fewest, .ref m_waysTo, .ref m_then, .ref m_two, .ref m_nextTwo, .ref m_three, .ref m_nextThree, .int (-1), .ref m_worth, .ref m_digit, .int 0, .long 0, .int 0, .int 0, .int 0, .int 0, .long 0])), (m_courts, .inl (cm_courts, 5, .inl (fun _ => 0)))]) [0, 1] (by decide) rfl
  have hKc := hK.sub (tys' := [(cm_courts, .int)]) [0] rfl
  have hFc := va_free (wc := [(m0, .inr (10, [.int 0, .ref m_width, .ref m_many, .ref m_cells, .ref m_moved, .ref m_tape, .int 0, .int 0, .int 0, .int 0, .int 0, .long 0, .int 0, .int 0, .int 0, .int (-1), .ref m_lines, .ref m_hours, .ref m_courts, .ref m_in, .ref m_gates, .ref m_gate, .ref m_people, .ref m_at0, .ref m_stray, .ref m_set, .ref m_once, .ref m_truth, .ref m_known, .ref m_isKept, .int 0, .int (-1), .int 0, .int 0, .ref m_inside, .ref m_can, .ref m_fewest, .ref m_waysTo, .ref m_then, .ref m_two, .ref m_nextTwo, .ref m_three, .ref m_nextThree, .int (-1), .ref m_worth, .ref m_digit, .int 0, .long 0, .int 0, .int 0, .int 0, .int 0, .long 0])), (m_courts, .inl (cm_courts, 5, .inl (fun _ => 0)))]) hD hS hA [0, 1] rfl
  refine va_calli (va_runV (As := [.int (xs (Int32.toNatClampNeg 1)), .int (xs (Int32.toNatClampNeg 2))]) (rest := [.int (-2)]) ⟨hx, hb, hml, hown, hts⟩ (k_X10_lies l dC dI m0 (xs (Int32.toNatClampNeg 1)) (xs (Int32.toNatClampNeg 2)) m_width m_many m_cells m_moved m_tape m_lines m_hours m_courts m_in m_gates m_gate m_people m_at0 m_stray m_set m_once m_truth m_known m_isKept m_inside m_can m_fewest m_waysTo m_then m_two m_nextTwo m_three m_nextThree m_worth m_digit cm_courts H.size) (cwV 2 hts (z_gV zw_t7_221 zw_t7_222 zw_t7_223 zw_t1_11 zw_t7_224) rfl rfl rfl (by decide +kernel) ⟨(Nat.le_of_ble_eq_true rfl), (Nat.le_of_ble_eq_true rfl)⟩) (z_preV hPc hKc hDc (ci := 10) (q0 := 0) rfl rfl) rfl rfl hl.1 rfl (lv_room (Nat.le_of_ble_eq_true rfl)) dL_law_554 ⟨(Nat.le_of_ble_eq_true rfl), (Nat.le_of_ble_eq_true rfl)⟩) hS (fun q _ h => hFc q h) hFc (fun r_6 u t H1 locs ht hvm hw hB hz1 hk1 hS => ?_)
  have hB : zW dC dI [] [] (va_A [(m0, .inr (10, [.int 0, .ref m_width, .ref m_many, .ref m_cells, .ref m_moved, .ref m_tape, .int 0, .int 0, .int 0, .int 0, .int 0, .long 0, .int 0, .int 0, .int 0, .int (-1), .ref m_lines, .ref m_hours, .ref m_courts, .ref m_in, .ref m_gates, .ref m_gate, .ref m_people, .ref m_at0, .ref m_stray, .ref m_set, .ref m_once, .ref m_truth, .ref m_known, .ref m_isKept, .int 0, .int (-1), .int 0, .int 0, .ref m_inside, .ref m_can, .ref m_fewest, .ref m_waysTo, .ref m_then, .ref m_two, .ref m_nextTwo, .ref m_three, .ref m_nextThree, .int (-1), .ref m_worth, .ref m_digit, .int 0, .long 0, .int 0, .int 0, .int 0, .int 0, .long 0])), (m_courts, .inl (cm_courts, 5, .inl (fun _ => 0)))] H.size) t := z_none (va_K.moved hvm hK)
  obtain ⟨hP, hD, hK⟩ := z_after [] hB ht hvm hP hD hK [0, 1] [] rfl rfl (by decide) (by decide) hk1 hFc
  generalize H1 = H at hP hS ⊢
  have hP : va_P (dC, dI) vwCl [] H := hP
  have hD : va_D A [] := hD
  have hK : va_K (dC, dI) vwCl [(cm_courts, .int)] s := hK
  obtain rfl : r_6 = (-2) := hw
  refine lv_icmp_eq (tgt := 2651) hx hb dL_law_557 (by decide) (fun _ => ?_) (fun q => absurd q (by decide))
  exact law_tail C0 hA2 (Nat.le_of_ble_eq_true rfl) (Nat.le_of_ble_eq_true rfl) hS (lv_sub hl [0, 3] rfl)
set_option maxHeartbeats 4000000 in
set_option maxRecDepth 100000 in
theorem law_leads {p : Program} {e : Env} {s : State} {m : MethodId} {below : List Frame} {meth : Method} {c : Code} {l : Launch} {b : Nat} {xs : Nat → Int32} (C0 : lw_At p s m meth c b 6 xs) {dC : Nat → ClassId} {dI : Nat → Nat → Nat} {A : Nat → Prop} (hA : ∀ q, s.heap.size ≤ q → A q) (hA2 : ∀ q, A q → s.heap.size ≤ q) {h0 : Nat} {tp : Nat} {nw : Nat} {im : Nat} {sl : Nat} {rd : Nat} {wk : Nat} {fm : Nat} {mt : Nat} {ch : Nat} {dy : Nat} {tn : Nat} {ta0 : Nat} {ta1 : Nat} {ta2 : Nat} {ta3 : Nat} {ta4 : Nat} {ta5 : Nat} {ta6 : Nat} {ta7 : Nat} {ta8 : Nat} {ta9 : Nat} {m0 : Nat} {m_width : Nat} {m_many : Nat} {m_cells : Nat} {m_moved : Nat} {m_tape : Nat} {m_lines : Nat} {m_hours : Nat} {m_courts : Nat} {m_in : Nat} {m_gates : Nat} {m_gate : Nat} {m_people : Nat} {m_at0 : Nat} {m_stray : Nat} {m_set : Nat} {m_once : Nat} {m_truth : Nat} {m_known : Nat} {m_isKept : Nat} {m_inside : Nat} {m_can : Nat} {m_fewest : Nat} {m_waysTo : Nat} {m_then : Nat} {m_two : Nat} {m_nextTwo : Nat} {m_three : Nat} {m_nextThree : Nat} {m_worth : Nat} {m_digit : Nat} {cm_gates : ClassId}  {H : Heap} {locs : List Loc} {ls : Array Slot} (hP : va_P (dC, dI) vwCl [(h0, .inr (9, [.ref tp, .int 0, .int 0, .int (-1), .ref nw, .ref im, .ref sl, .ref rd, .ref wk, .ref fm, .ref mt, .ref ch, .ref dy])), (nw, .inr (3, [.int 0, .ref tn, .int 0, .int 0, .int 0, .int 0])), (tn, .inr (7, [.int 0, .int 0, .int 0, .int 0, .int 0, .int 0, .int 0, .int 0, .ref ta0, .ref ta1, .ref ta2, .ref ta3, .ref ta4, .ref ta5, .ref ta6, .ref ta7, .ref ta8, .ref ta9])), (m0, .inr (10, [.int 0, .ref m_width, .ref m_many, .ref m_cells, .ref m_moved, .ref m_tape, .int 0, .int 0, .int 0, .int 0, .int 0, .long 0, .int 0, .int 0, .int 0, .int (-1), .ref m_lines, .ref m_hours, .ref m_courts, .ref m_in, .ref m_gates, .ref m_gate, .ref m_people, .ref m_at0, .ref m_stray, .ref m_set, .ref m_once, .ref m_truth, .ref m_known, .ref m_isKept, .int 0, .int (-1), .int 0, .int 0, .ref m_inside, .ref m_can, .ref m_fewest, .ref m_waysTo, .ref m_then, .ref m_two, .ref m_nextTwo, .ref m_three, .ref m_nextThree, .int (-1), .ref m_worth, .ref m_digit, .int 0, .long 0, .int 0, .int 0, .int 0, .int 0, .long 0])), (m_gates, .inl (cm_gates, 5, .inl (fun _ => 0)))] H) (hD : va_D A [(h0, .inr (9, [.ref tp, .int 0, .int 0, .int (-1), .ref nw, .ref im, .ref sl, .ref rd, .ref wk, .ref fm, .ref mt, .ref ch, .ref dy])), (nw, .inr (3, [.int 0, .ref tn, .int 0, .int 0, .int 0, .int 0])), (tn, .inr (7, [.int 0, .int 0, .int 0, .int 0, .int 0, .int 0, .int 0, .int 0, .ref ta0, .ref ta1, .ref ta2, .ref ta3, .ref ta4, .ref ta5, .ref ta6, .ref ta7, .ref ta8, .ref ta9])), (m0, .inr (10, [.int 0, .ref m_width, .ref m_many, .ref m_cells, .ref m_moved, .ref m_tape, .int 0, .int 0, .int 0, .int 0, .int 0, .long 0, .int 0, .int 0, .int 0, .int (-1), .ref m_lines, .ref m_hours, .ref m_courts, .ref m_in, .ref m_gates, .ref m_gate, .ref m_people, .ref m_at0, .ref m_stray, .ref m_set, .ref m_once, .ref m_truth, .ref m_known, .ref m_isKept, .int 0, .int (-1), .int 0, .int 0, .ref m_inside, .ref m_can, .ref m_fewest, .ref m_waysTo, .ref m_then, .ref m_two, .ref m_nextTwo, .ref m_three, .ref m_nextThree, .int (-1), .ref m_worth, .ref m_digit, .int 0, .long 0, .int 0, .int 0, .int 0, .int 0, .long 0])), (m_gates, .inl (cm_gates, 5, .inl (fun _ => 0)))]) (hK : va_K (dC, dI) vwCl [(cm_gates, .int)] s) (hS : va_S A s.heap H locs) (hl : lv_has ls 4 [(3, .int 0), (2, .ref m0), (1, .ref h0), (0, .ref b)]) : W p l e room_1 s m #[Value.ref b] below meth c H locs 166 101284 (lw_Z below #[Value.ref b] s) (F0 m 562 ls []) := by
  obtain ⟨hx, hb, hr, hml, hown, hts, hX, hbl, hlocks, hgv⟩ := id C0
  have hown : s.vm.findClass RL = some m.cls := hown
  have hb : c.code = cL_law := hb
  have hts : ∀ w ∈ zT, w.before #[Value.ref b] s = true := fun w h => hts w (zT_in w h)
  have hbA : ¬ A b := fun q => absurd (hA2 b q) (Nat.not_le.mpr hbl)
  refine lv_aload_n hx hb dL_law_562 rfl (lv_at hl 2 rfl) ?_
  refine lv_aload_n hx hb dL_law_563 rfl (lv_at hl 3 rfl) ?_
  refine lv_iload_n hx hb dL_law_564 rfl (lv_at hl 0 rfl) ?_
  refine lv_iconst (v := 1) hx hb dL_law_565 (by decide) ?_
  refine lv_iadd hx hb dL_law_566 ?_
  refine lv_topi (fun x_1 ex_1 => ?_)
  obtain rfl : x_1 = 1 := ex_1.trans (by decide)
  refine va_sld hx hb hX hbl hbA hS (z_inC _ (k := 1) (by decide) (by decide)) dL_law_567 ?_
  refine lv_aload_n hx hb dL_law_568 rfl (lv_at hl 3 rfl) ?_
  refine lv_iload_n hx hb dL_law_569 rfl (lv_at hl 0 rfl) ?_
  refine lv_iconst (v := 2) hx hb dL_law_570 (by decide) ?_
  refine lv_iadd hx hb dL_law_571 ?_
  refine lv_topi (fun x_2 ex_2 => ?_)
  obtain rfl : x_2 = 2 := ex_2.trans (by decide)
  refine va_sld hx hb hX hbl hbA hS (z_inC _ (k := 2) (by decide) (by decide)) dL_law_572 ?_
  have hPc := hP.sub (ws' := [(h0, .inr (9, [.ref tp, .int 0, .int 0, .int (-1), .ref nw, .ref im, .ref sl, .ref rd, .ref wk, .ref fm, .ref mt, .ref ch, .ref dy])), (nw, .inr (3, [.int 0, .ref tn, .int 0, .int 0, .int 0, .int 0])), (tn, .inr (7, [.int 0, .int 0, .int 0, .int 0, .int 0, .int 0, .int 0, .int 0, .ref ta0, .ref ta1, .ref ta2, .ref ta3, .ref ta4, .ref ta5, .ref ta6, .ref ta7, .ref ta8, .ref ta9]))]) [0, 1, 2] rfl
  have hDc := hD.sub (ws' := [(h0, .inr (9, [.ref tp, .int 0, .int 0, .int (-1), .ref nw, .ref im, .ref sl, .ref rd, .ref wk, .ref fm, .ref mt, .ref ch, .ref dy])), (nw, .inr (3, [.int 0, .ref tn, .int 0, .int 0, .int 0, .int 0])), (tn, .inr (7, [.int 0, .int 0, .int 0, .int 0, .int 0, .int 0, .int 0, .int 0, .ref ta0, .ref ta1, .ref ta2, .ref ta3, .ref ta4, .ref ta5, .ref ta6, .ref ta7, .ref ta8, .ref ta9]))]) [0, 1, 2] (by decide) rfl
  have hKc := hK.sub (tys' := []) [] rfl
  have hFc := va_free (wc := [(h0, .inr (9, [.ref tp, .int 0, .int 0, .int (-1), .ref nw, .ref im, .ref sl, .ref rd, .ref wk, .ref fm, .ref mt, .ref ch, .ref dy])), (nw, .inr (3, [.int 0, .ref tn, .int 0, .int 0, .int 0, .int 0])), (tn, .inr (7, [.int 0, .int 0, .int 0, .int 0, .int 0, .int 0, .int 0, .int 0, .ref ta0, .ref ta1, .ref ta2, .ref ta3, .ref ta4, .ref ta5, .ref ta6, .ref ta7, .ref ta8, .ref ta9]))]) hD hS hA [0, 1, 2] rfl
  refine va_calli (va_runV (As := [.int (xs (Int32.toNatClampNeg 1)), .int (xs (Int32.toNatClampNeg 2))]) (rest := []) ⟨hx, hb, hml, hown, hts⟩ (k_X9_leads l dC dI h0 (xs (Int32.toNatClampNeg 1)) (xs (Int32.toNatClampNeg 2)) tp nw im sl rd wk fm mt ch dy tn ta0 ta1 ta2 ta3 ta4 ta5 ta6 ta7 ta8 ta9 H.size) (cwV 2 hts (z_gV zw_t3_229 zw_t3_230 zw_t3_231 zw_t1_1 zw_t3_232) rfl rfl rfl (by decide +kernel) ⟨(Nat.le_of_ble_eq_true rfl), (Nat.le_of_ble_eq_true rfl)⟩) (z_preV hPc hKc hDc (ci := 9) (q0 := 0) rfl rfl) rfl rfl hl.1 rfl (lv_room (Nat.le_of_ble_eq_true rfl)) dL_law_573 ⟨(Nat.le_of_ble_eq_true rfl), (Nat.le_of_ble_eq_true rfl)⟩) hS (fun q _ h => hFc q h) hFc (fun r_3 u t H1 locs ht hvm hw hB hz1 hk1 hS => ?_)
  have hB : zW dC dI [] [] (va_A [(h0, .inr (9, [.ref tp, .int 0, .int 0, .int (-1), .ref nw, .ref im, .ref sl, .ref rd, .ref wk, .ref fm, .ref mt, .ref ch, .ref dy])), (nw, .inr (3, [.int 0, .ref tn, .int 0, .int 0, .int 0, .int 0])), (tn, .inr (7, [.int 0, .int 0, .int 0, .int 0, .int 0, .int 0, .int 0, .int 0, .ref ta0, .ref ta1, .ref ta2, .ref ta3, .ref ta4, .ref ta5, .ref ta6, .ref ta7, .ref ta8, .ref ta9]))] H.size) t := z_none (va_K.moved hvm hK)
  obtain ⟨hP, hD, hK⟩ := z_after [(m0, .inr (10, [.int 0, .ref m_width, .ref m_many, .ref m_cells, .ref m_moved, .ref m_tape, .int 0, .int 0, .int 0, .int 0, .int 0, .long 0, .int 0, .int 0, .int 0, .int (-1), .ref m_lines, .ref m_hours, .ref m_courts, .ref m_in, .ref m_gates, .ref m_gate, .ref m_people, .ref m_at0, .ref m_stray, .ref m_set, .ref m_once, .ref m_truth, .ref m_known, .ref m_isKept, .int 0, .int (-1), .int 0, .int 0, .ref m_inside, .ref m_can, .ref m_fewest, .ref m_waysTo, .ref m_then, .ref m_two, .ref m_nextTwo, .ref m_three, .ref m_nextThree, .int (-1), .ref m_worth, .ref m_digit, .int 0, .long 0, .int 0, .int 0, .int 0, .int 0, .long 0])), (m_gates, .inl (cm_gates, 5, .inl (fun _ => 0)))] hB ht hvm hP hD hK [0, 1, 2] [3, 4] rfl rfl (by decide) (by decide) hk1 hFc
  generalize H1 = H at hP hS ⊢
  have hP : va_P (dC, dI) vwCl [(m0, .inr (10, [.int 0, .ref m_width, .ref m_many, .ref m_cells, .ref m_moved, .ref m_tape, .int 0, .int 0, .int 0, .int 0, .int 0, .long 0, .int 0, .int 0, .int 0, .int (-1), .ref m_lines, .ref m_hours, .ref m_courts, .ref m_in, .ref m_gates, .ref m_gate, .ref m_people, .ref m_at0, .ref m_stray, .ref m_set, .ref m_once, .ref m_truth, .ref m_known, .ref m_isKept, .int 0, .int (-1), .int 0, .int 0, .ref m_inside, .ref m_can, .ref m_fewest, .ref m_waysTo, .ref m_then, .ref m_two, .ref m_nextTwo, .ref m_three, .ref m_nextThree, .int (-1), .ref m_worth, .ref m_digit, .int 0, .long 0, .int 0, .int 0, .int 0, .int 0, .long 0])), (m_gates, .inl (cm_gates, 5, .inl (fun _ => 0)))] H := hP
  have hD : va_D A [(m0, .inr (10, [.int 0, .ref m_width, .ref m_many, .ref m_cells, .ref m_moved, .ref m_tape, .int 0, .int 0, .int 0, .int 0, .int 0, .long 0, .int 0, .int 0, .int 0, .int (-1), .ref m_lines, .ref m_hours, .ref m_courts, .ref m_in, .ref m_gates, .ref m_gate, .ref m_people, .ref m_at0, .ref m_stray, .ref m_set, .ref m_once, .ref m_truth, .ref m_known, .ref m_isKept, .int 0, .int (-1), .int 0, .int 0, .ref m_inside, .ref m_can, .ref m_fewest, .ref m_waysTo, .ref m_then, .ref m_two, .ref m_nextTwo, .ref m_three, .ref m_nextThree, .int (-1), .ref m_worth, .ref m_digit, .int 0, .long 0, .int 0, .int 0, .int 0, .int 0, .long 0])), (m_gates, .inl (cm_gates, 5, .inl (fun _ => 0)))] := hD
  have hK : va_K (dC, dI) vwCl [(cm_gates, .int)] s := hK
  obtain rfl : r_3 = (-2) := hw
  refine lv_aload_n hx hb dL_law_576 rfl (lv_at hl 1 rfl) ?_
  refine lv_aload_n hx hb dL_law_577 rfl (lv_at hl 3 rfl) ?_
  refine lv_iload_n hx hb dL_law_578 rfl (lv_at hl 0 rfl) ?_
  refine lv_iconst (v := 1) hx hb dL_law_579 (by decide) ?_
  refine lv_iadd hx hb dL_law_580 ?_
  refine lv_topi (fun x_4 ex_4 => ?_)
  obtain rfl : x_4 = 1 := ex_4.trans (by decide)
  refine va_sld hx hb hX hbl hbA hS (z_inC _ (k := 1) (by decide) (by decide)) dL_law_581 ?_
  refine lv_aload_n hx hb dL_law_582 rfl (lv_at hl 3 rfl) ?_
  refine lv_iload_n hx hb dL_law_583 rfl (lv_at hl 0 rfl) ?_
  refine lv_iconst (v := 2) hx hb dL_law_584 (by decide) ?_
  refine lv_iadd hx hb dL_law_585 ?_
  refine lv_topi (fun x_5 ex_5 => ?_)
  obtain rfl : x_5 = 2 := ex_5.trans (by decide)
  refine va_sld hx hb hX hbl hbA hS (z_inC _ (k := 2) (by decide) (by decide)) dL_law_586 ?_
  have hPc := hP.sub (ws' := [(m0, .inr (10, [.int 0, .ref m_width, .ref m_many, .ref m_cells, .ref m_moved, .ref m_tape, .int 0, .int 0, .int 0, .int 0, .int 0, .long 0, .int 0, .int 0, .int 0, .int (-1), .ref m_lines, .ref m_hours, .ref m_courts, .ref m_in, .ref m_gates, .ref m_gate, .ref m_people, .ref m_at0, .ref m_stray, .ref m_set, .ref m_once, .ref m_truth, .ref m_known, .ref m_isKept, .int 0, .int (-1), .int 0, .int 0, .ref m_inside, .ref m_can, .ref m_fewest, .ref m_waysTo, .ref m_then, .ref m_two, .ref m_nextTwo, .ref m_three, .ref m_nextThree, .int (-1), .ref m_worth, .ref m_digit, .int 0, .long 0, .int 0, .int 0, .int 0, .int 0, .long 0])), (m_gates, .inl (cm_gates, 5, .inl (fun _ => 0)))]) [0, 1] rfl
  have hDc := hD.sub (ws' := [(m0, .inr (10, [.int 0, .ref m_width, .ref m_many, .ref m_cells, .ref m_moved, .ref m_tape, .int 0, .int 0, .int 0, .int 0, .int 0, .long 0, .int 0, .int 0, .int 0, .int (-1), .ref m_lines, .ref m_hours, .ref m_courts, .ref m_in, .ref m_gates, .ref m_gate, .ref m_people, .ref m_at0, .ref m_stray, .ref m_set, .ref m_once, .ref m_truth, .ref m_known, .ref m_isKept, .int 0, .int (-1), .int 0, .int 0, .ref m_inside, .ref m_can, .ref m_fewest, .ref m_waysTo, .ref m_then, .ref m_two, .ref m_nextTwo, .ref m_three, .ref m_nextThree, .int (-1), .ref m_worth, .ref m_digit, .int 0, .long 0, .int 0, .int 0, .int 0, .int 0, .long 0])), (m_gates, .inl (cm_gates, 5, .inl (fun _ => 0)))]) [0, 1] (by decide) rfl
  have hKc := hK.sub (tys' := [(cm_gates, .int)]) [0] rfl
  have hFc := va_free (wc := [(m0, .inr (10, [.int 0, .ref m_width, .ref m_many, .ref m_cells, .ref m_moved, .ref m_tape, .int 0, .int 0, .int 0, .int 0, .int 0, .long 0, .int 0, .int 0, .int 0, .int (-1), .ref m_lines, .ref m_hours, .ref m_courts, .ref m_in, .ref m_gates, .ref m_gate, .ref m_people, .ref m_at0, .ref m_stray, .ref m_set, .ref m_once, .ref m_truth, .ref m_known, .ref m_isKept, .int 0, .int (-1), .int 0, .int 0, .ref m_inside, .ref m_can, .ref m_fewest, .ref m_waysTo, .ref m_then, .ref m_two, .ref m_nextTwo, .ref m_three, .ref m_nextThree, .int (-1), .ref m_worth, .ref m_digit, .int 0, .long 0, .int 0, .int 0, .int 0, .int 0, .long 0])), (m_gates, .inl (cm_gates, 5, .inl (fun _ => 0)))]) hD hS hA [0, 1] rfl
  refine va_calli (va_runV (As := [.int (xs (Int32.toNatClampNeg 1)), .int (xs (Int32.toNatClampNeg 2))]) (rest := [.int (-2)]) ⟨hx, hb, hml, hown, hts⟩ (k_X10_leads l dC dI m0 (xs (Int32.toNatClampNeg 1)) (xs (Int32.toNatClampNeg 2)) m_width m_many m_cells m_moved m_tape m_lines m_hours m_courts m_in m_gates m_gate m_people m_at0 m_stray m_set m_once m_truth m_known m_isKept m_inside m_can m_fewest m_waysTo m_then m_two m_nextTwo m_three m_nextThree m_worth m_digit cm_gates H.size) (cwV 2 hts (z_gV zw_t7_225 zw_t7_226 zw_t7_227 zw_t1_11 zw_t7_228) rfl rfl rfl (by decide +kernel) ⟨(Nat.le_of_ble_eq_true rfl), (Nat.le_of_ble_eq_true rfl)⟩) (z_preV hPc hKc hDc (ci := 10) (q0 := 0) rfl rfl) rfl rfl hl.1 rfl (lv_room (Nat.le_of_ble_eq_true rfl)) dL_law_587 ⟨(Nat.le_of_ble_eq_true rfl), (Nat.le_of_ble_eq_true rfl)⟩) hS (fun q _ h => hFc q h) hFc (fun r_6 u t H1 locs ht hvm hw hB hz1 hk1 hS => ?_)
  have hB : zW dC dI [] [] (va_A [(m0, .inr (10, [.int 0, .ref m_width, .ref m_many, .ref m_cells, .ref m_moved, .ref m_tape, .int 0, .int 0, .int 0, .int 0, .int 0, .long 0, .int 0, .int 0, .int 0, .int (-1), .ref m_lines, .ref m_hours, .ref m_courts, .ref m_in, .ref m_gates, .ref m_gate, .ref m_people, .ref m_at0, .ref m_stray, .ref m_set, .ref m_once, .ref m_truth, .ref m_known, .ref m_isKept, .int 0, .int (-1), .int 0, .int 0, .ref m_inside, .ref m_can, .ref m_fewest, .ref m_waysTo, .ref m_then, .ref m_two, .ref m_nextTwo, .ref m_three, .ref m_nextThree, .int (-1), .ref m_worth, .ref m_digit, .int 0, .long 0, .int 0, .int 0, .int 0, .int 0, .long 0])), (m_gates, .inl (cm_gates, 5, .inl (fun _ => 0)))] H.size) t := z_none (va_K.moved hvm hK)
  obtain ⟨hP, hD, hK⟩ := z_after [] hB ht hvm hP hD hK [0, 1] [] rfl rfl (by decide) (by decide) hk1 hFc
  generalize H1 = H at hP hS ⊢
  have hP : va_P (dC, dI) vwCl [] H := hP
  have hD : va_D A [] := hD
  have hK : va_K (dC, dI) vwCl [(cm_gates, .int)] s := hK
  obtain rfl : r_6 = (-2) := hw
  refine lv_icmp_eq (tgt := 2651) hx hb dL_law_590 (by decide) (fun _ => ?_) (fun q => absurd q (by decide))
  exact law_tail C0 hA2 (Nat.le_of_ble_eq_true rfl) (Nat.le_of_ble_eq_true rfl) hS (lv_sub hl [0, 3] rfl)
set_option maxHeartbeats 4000000 in
set_option maxRecDepth 100000 in
theorem law_opens {p : Program} {e : Env} {s : State} {m : MethodId} {below : List Frame} {meth : Method} {c : Code} {l : Launch} {b : Nat} {xs : Nat → Int32} (C0 : lw_At p s m meth c b 6 xs) {dC : Nat → ClassId} {dI : Nat → Nat → Nat} {A : Nat → Prop} (hA : ∀ q, s.heap.size ≤ q → A q) (hA2 : ∀ q, A q → s.heap.size ≤ q) {h0 : Nat} {tp : Nat} {nw : Nat} {im : Nat} {sl : Nat} {rd : Nat} {wk : Nat} {fm : Nat} {mt : Nat} {ch : Nat} {dy : Nat} {tn : Nat} {ta0 : Nat} {ta1 : Nat} {ta2 : Nat} {ta3 : Nat} {ta4 : Nat} {ta5 : Nat} {ta6 : Nat} {ta7 : Nat} {ta8 : Nat} {ta9 : Nat} {m0 : Nat} {m_width : Nat} {m_many : Nat} {m_cells : Nat} {m_moved : Nat} {m_tape : Nat} {m_lines : Nat} {m_hours : Nat} {m_courts : Nat} {m_in : Nat} {m_gates : Nat} {m_gate : Nat} {m_people : Nat} {m_at0 : Nat} {m_stray : Nat} {m_set : Nat} {m_once : Nat} {m_truth : Nat} {m_known : Nat} {m_isKept : Nat} {m_inside : Nat} {m_can : Nat} {m_fewest : Nat} {m_waysTo : Nat} {m_then : Nat} {m_two : Nat} {m_nextTwo : Nat} {m_three : Nat} {m_nextThree : Nat} {m_worth : Nat} {m_digit : Nat} {cm_gates : ClassId}  {H : Heap} {locs : List Loc} {ls : Array Slot} (hP : va_P (dC, dI) vwCl [(h0, .inr (9, [.ref tp, .int 0, .int 0, .int (-1), .ref nw, .ref im, .ref sl, .ref rd, .ref wk, .ref fm, .ref mt, .ref ch, .ref dy])), (nw, .inr (3, [.int 0, .ref tn, .int 0, .int 0, .int 0, .int 0])), (tn, .inr (7, [.int 0, .int 0, .int 0, .int 0, .int 0, .int 0, .int 0, .int 0, .ref ta0, .ref ta1, .ref ta2, .ref ta3, .ref ta4, .ref ta5, .ref ta6, .ref ta7, .ref ta8, .ref ta9])), (m0, .inr (10, [.int 0, .ref m_width, .ref m_many, .ref m_cells, .ref m_moved, .ref m_tape, .int 0, .int 0, .int 0, .int 0, .int 0, .long 0, .int 0, .int 0, .int 0, .int (-1), .ref m_lines, .ref m_hours, .ref m_courts, .ref m_in, .ref m_gates, .ref m_gate, .ref m_people, .ref m_at0, .ref m_stray, .ref m_set, .ref m_once, .ref m_truth, .ref m_known, .ref m_isKept, .int 0, .int (-1), .int 0, .int 0, .ref m_inside, .ref m_can, .ref m_fewest, .ref m_waysTo, .ref m_then, .ref m_two, .ref m_nextTwo, .ref m_three, .ref m_nextThree, .int (-1), .ref m_worth, .ref m_digit, .int 0, .long 0, .int 0, .int 0, .int 0, .int 0, .long 0])), (m_gates, .inl (cm_gates, 5, .inl (fun _ => 0)))] H) (hD : va_D A [(h0, .inr (9, [.ref tp, .int 0, .int 0, .int (-1), .ref nw, .ref im, .ref sl, .ref rd, .ref wk, .ref fm, .ref mt, .ref ch, .ref dy])), (nw, .inr (3, [.int 0, .ref tn, .int 0, .int 0, .int 0, .int 0])), (tn, .inr (7, [.int 0, .int 0, .int 0, .int 0, .int 0, .int 0, .int 0, .int 0, .ref ta0, .ref ta1, .ref ta2, .ref ta3, .ref ta4, .ref ta5, .ref ta6, .ref ta7, .ref ta8, .ref ta9])), (m0, .inr (10, [.int 0, .ref m_width, .ref m_many, .ref m_cells, .ref m_moved, .ref m_tape, .int 0, .int 0, .int 0, .int 0, .int 0, .long 0, .int 0, .int 0, .int 0, .int (-1), .ref m_lines, .ref m_hours, .ref m_courts, .ref m_in, .ref m_gates, .ref m_gate, .ref m_people, .ref m_at0, .ref m_stray, .ref m_set, .ref m_once, .ref m_truth, .ref m_known, .ref m_isKept, .int 0, .int (-1), .int 0, .int 0, .ref m_inside, .ref m_can, .ref m_fewest, .ref m_waysTo, .ref m_then, .ref m_two, .ref m_nextTwo, .ref m_three, .ref m_nextThree, .int (-1), .ref m_worth, .ref m_digit, .int 0, .long 0, .int 0, .int 0, .int 0, .int 0, .long 0])), (m_gates, .inl (cm_gates, 5, .inl (fun _ => 0)))]) (hK : va_K (dC, dI) vwCl [(cm_gates, .int)] s) (hS : va_S A s.heap H locs) (hl : lv_has ls 4 [(3, .int 0), (2, .ref m0), (1, .ref h0), (0, .ref b)]) : W p l e room_1 s m #[Value.ref b] below meth c H locs 166 101284 (lw_Z below #[Value.ref b] s) (F0 m 595 ls []) := by
  obtain ⟨hx, hb, hr, hml, hown, hts, hX, hbl, hlocks, hgv⟩ := id C0
  have hown : s.vm.findClass RL = some m.cls := hown
  have hb : c.code = cL_law := hb
  have hts : ∀ w ∈ zT, w.before #[Value.ref b] s = true := fun w h => hts w (zT_in w h)
  have hbA : ¬ A b := fun q => absurd (hA2 b q) (Nat.not_le.mpr hbl)
  refine lv_aload_n hx hb dL_law_595 rfl (lv_at hl 2 rfl) ?_
  refine lv_aload_n hx hb dL_law_596 rfl (lv_at hl 3 rfl) ?_
  refine lv_iload_n hx hb dL_law_597 rfl (lv_at hl 0 rfl) ?_
  refine lv_iconst (v := 1) hx hb dL_law_598 (by decide) ?_
  refine lv_iadd hx hb dL_law_599 ?_
  refine lv_topi (fun x_1 ex_1 => ?_)
  obtain rfl : x_1 = 1 := ex_1.trans (by decide)
  refine va_sld hx hb hX hbl hbA hS (z_inC _ (k := 1) (by decide) (by decide)) dL_law_600 ?_
  refine lv_aload_n hx hb dL_law_601 rfl (lv_at hl 3 rfl) ?_
  refine lv_iload_n hx hb dL_law_602 rfl (lv_at hl 0 rfl) ?_
  refine lv_iconst (v := 2) hx hb dL_law_603 (by decide) ?_
  refine lv_iadd hx hb dL_law_604 ?_
  refine lv_topi (fun x_2 ex_2 => ?_)
  obtain rfl : x_2 = 2 := ex_2.trans (by decide)
  refine va_sld hx hb hX hbl hbA hS (z_inC _ (k := 2) (by decide) (by decide)) dL_law_605 ?_
  refine lv_aload_n hx hb dL_law_606 rfl (lv_at hl 3 rfl) ?_
  refine lv_iload_n hx hb dL_law_607 rfl (lv_at hl 0 rfl) ?_
  refine lv_iconst (v := 3) hx hb dL_law_608 (by decide) ?_
  refine lv_iadd hx hb dL_law_609 ?_
  refine lv_topi (fun x_3 ex_3 => ?_)
  obtain rfl : x_3 = 3 := ex_3.trans (by decide)
  refine va_sld hx hb hX hbl hbA hS (z_inC _ (k := 3) (by decide) (by decide)) dL_law_610 ?_
  refine lv_aload_n hx hb dL_law_611 rfl (lv_at hl 3 rfl) ?_
  refine lv_iload_n hx hb dL_law_612 rfl (lv_at hl 0 rfl) ?_
  refine lv_iconst (v := 4) hx hb dL_law_613 (by decide) ?_
  refine lv_iadd hx hb dL_law_614 ?_
  refine lv_topi (fun x_4 ex_4 => ?_)
  obtain rfl : x_4 = 4 := ex_4.trans (by decide)
  refine va_sld hx hb hX hbl hbA hS (z_inC _ (k := 4) (by decide) (by decide)) dL_law_615 ?_
  have hPc := hP.sub (ws' := [(h0, .inr (9, [.ref tp, .int 0, .int 0, .int (-1), .ref nw, .ref im, .ref sl, .ref rd, .ref wk, .ref fm, .ref mt, .ref ch, .ref dy])), (nw, .inr (3, [.int 0, .ref tn, .int 0, .int 0, .int 0, .int 0])), (tn, .inr (7, [.int 0, .int 0, .int 0, .int 0, .int 0, .int 0, .int 0, .int 0, .ref ta0, .ref ta1, .ref ta2, .ref ta3, .ref ta4, .ref ta5, .ref ta6, .ref ta7, .ref ta8, .ref ta9]))]) [0, 1, 2] rfl
  have hDc := hD.sub (ws' := [(h0, .inr (9, [.ref tp, .int 0, .int 0, .int (-1), .ref nw, .ref im, .ref sl, .ref rd, .ref wk, .ref fm, .ref mt, .ref ch, .ref dy])), (nw, .inr (3, [.int 0, .ref tn, .int 0, .int 0, .int 0, .int 0])), (tn, .inr (7, [.int 0, .int 0, .int 0, .int 0, .int 0, .int 0, .int 0, .int 0, .ref ta0, .ref ta1, .ref ta2, .ref ta3, .ref ta4, .ref ta5, .ref ta6, .ref ta7, .ref ta8, .ref ta9]))]) [0, 1, 2] (by decide) rfl
  have hKc := hK.sub (tys' := []) [] rfl
  have hFc := va_free (wc := [(h0, .inr (9, [.ref tp, .int 0, .int 0, .int (-1), .ref nw, .ref im, .ref sl, .ref rd, .ref wk, .ref fm, .ref mt, .ref ch, .ref dy])), (nw, .inr (3, [.int 0, .ref tn, .int 0, .int 0, .int 0, .int 0])), (tn, .inr (7, [.int 0, .int 0, .int 0, .int 0, .int 0, .int 0, .int 0, .int 0, .ref ta0, .ref ta1, .ref ta2, .ref ta3, .ref ta4, .ref ta5, .ref ta6, .ref ta7, .ref ta8, .ref ta9]))]) hD hS hA [0, 1, 2] rfl
  refine va_calli (va_runV (As := [.int (xs (Int32.toNatClampNeg 1)), .int (xs (Int32.toNatClampNeg 2)), .int (xs (Int32.toNatClampNeg 3)), .int (xs (Int32.toNatClampNeg 4))]) (rest := []) ⟨hx, hb, hml, hown, hts⟩ (k_X9_opens l dC dI h0 (xs (Int32.toNatClampNeg 1)) (xs (Int32.toNatClampNeg 2)) (xs (Int32.toNatClampNeg 3)) (xs (Int32.toNatClampNeg 4)) tp nw im sl rd wk fm mt ch dy tn ta0 ta1 ta2 ta3 ta4 ta5 ta6 ta7 ta8 ta9 H.size) (cwV 4 hts (z_gV zw_t4_1 zw_t4_2 zw_t4_3 zw_t1_1 zw_t4_4) rfl rfl rfl (by decide +kernel) ⟨(Nat.le_of_ble_eq_true rfl), (Nat.le_of_ble_eq_true rfl)⟩) (z_preV hPc hKc hDc (ci := 9) (q0 := 0) rfl rfl) rfl rfl hl.1 rfl (lv_room (Nat.le_of_ble_eq_true rfl)) dL_law_616 ⟨(Nat.le_of_ble_eq_true rfl), (Nat.le_of_ble_eq_true rfl)⟩) hS (fun q _ h => hFc q h) hFc (fun r_5 u t H1 locs ht hvm hw hB hz1 hk1 hS => ?_)
  have hB : zW dC dI [] [] (va_A [(h0, .inr (9, [.ref tp, .int 0, .int 0, .int (-1), .ref nw, .ref im, .ref sl, .ref rd, .ref wk, .ref fm, .ref mt, .ref ch, .ref dy])), (nw, .inr (3, [.int 0, .ref tn, .int 0, .int 0, .int 0, .int 0])), (tn, .inr (7, [.int 0, .int 0, .int 0, .int 0, .int 0, .int 0, .int 0, .int 0, .ref ta0, .ref ta1, .ref ta2, .ref ta3, .ref ta4, .ref ta5, .ref ta6, .ref ta7, .ref ta8, .ref ta9]))] H.size) t := z_none (va_K.moved hvm hK)
  obtain ⟨hP, hD, hK⟩ := z_after [(m0, .inr (10, [.int 0, .ref m_width, .ref m_many, .ref m_cells, .ref m_moved, .ref m_tape, .int 0, .int 0, .int 0, .int 0, .int 0, .long 0, .int 0, .int 0, .int 0, .int (-1), .ref m_lines, .ref m_hours, .ref m_courts, .ref m_in, .ref m_gates, .ref m_gate, .ref m_people, .ref m_at0, .ref m_stray, .ref m_set, .ref m_once, .ref m_truth, .ref m_known, .ref m_isKept, .int 0, .int (-1), .int 0, .int 0, .ref m_inside, .ref m_can, .ref m_fewest, .ref m_waysTo, .ref m_then, .ref m_two, .ref m_nextTwo, .ref m_three, .ref m_nextThree, .int (-1), .ref m_worth, .ref m_digit, .int 0, .long 0, .int 0, .int 0, .int 0, .int 0, .long 0])), (m_gates, .inl (cm_gates, 5, .inl (fun _ => 0)))] hB ht hvm hP hD hK [0, 1, 2] [3, 4] rfl rfl (by decide) (by decide) hk1 hFc
  generalize H1 = H at hP hS ⊢
  have hP : va_P (dC, dI) vwCl [(m0, .inr (10, [.int 0, .ref m_width, .ref m_many, .ref m_cells, .ref m_moved, .ref m_tape, .int 0, .int 0, .int 0, .int 0, .int 0, .long 0, .int 0, .int 0, .int 0, .int (-1), .ref m_lines, .ref m_hours, .ref m_courts, .ref m_in, .ref m_gates, .ref m_gate, .ref m_people, .ref m_at0, .ref m_stray, .ref m_set, .ref m_once, .ref m_truth, .ref m_known, .ref m_isKept, .int 0, .int (-1), .int 0, .int 0, .ref m_inside, .ref m_can, .ref m_fewest, .ref m_waysTo, .ref m_then, .ref m_two, .ref m_nextTwo, .ref m_three, .ref m_nextThree, .int (-1), .ref m_worth, .ref m_digit, .int 0, .long 0, .int 0, .int 0, .int 0, .int 0, .long 0])), (m_gates, .inl (cm_gates, 5, .inl (fun _ => 0)))] H := hP
  have hD : va_D A [(m0, .inr (10, [.int 0, .ref m_width, .ref m_many, .ref m_cells, .ref m_moved, .ref m_tape, .int 0, .int 0, .int 0, .int 0, .int 0, .long 0, .int 0, .int 0, .int 0, .int (-1), .ref m_lines, .ref m_hours, .ref m_courts, .ref m_in, .ref m_gates, .ref m_gate, .ref m_people, .ref m_at0, .ref m_stray, .ref m_set, .ref m_once, .ref m_truth, .ref m_known, .ref m_isKept, .int 0, .int (-1), .int 0, .int 0, .ref m_inside, .ref m_can, .ref m_fewest, .ref m_waysTo, .ref m_then, .ref m_two, .ref m_nextTwo, .ref m_three, .ref m_nextThree, .int (-1), .ref m_worth, .ref m_digit, .int 0, .long 0, .int 0, .int 0, .int 0, .int 0, .long 0])), (m_gates, .inl (cm_gates, 5, .inl (fun _ => 0)))] := hD
  have hK : va_K (dC, dI) vwCl [(cm_gates, .int)] s := hK
  obtain rfl : r_5 = (-2) := hw
  refine lv_aload_n hx hb dL_law_619 rfl (lv_at hl 1 rfl) ?_
  refine lv_aload_n hx hb dL_law_620 rfl (lv_at hl 3 rfl) ?_
  refine lv_iload_n hx hb dL_law_621 rfl (lv_at hl 0 rfl) ?_
  refine lv_iconst (v := 1) hx hb dL_law_622 (by decide) ?_
  refine lv_iadd hx hb dL_law_623 ?_
  refine lv_topi (fun x_6 ex_6 => ?_)
  obtain rfl : x_6 = 1 := ex_6.trans (by decide)
  refine va_sld hx hb hX hbl hbA hS (z_inC _ (k := 1) (by decide) (by decide)) dL_law_624 ?_
  refine lv_aload_n hx hb dL_law_625 rfl (lv_at hl 3 rfl) ?_
  refine lv_iload_n hx hb dL_law_626 rfl (lv_at hl 0 rfl) ?_
  refine lv_iconst (v := 2) hx hb dL_law_627 (by decide) ?_
  refine lv_iadd hx hb dL_law_628 ?_
  refine lv_topi (fun x_7 ex_7 => ?_)
  obtain rfl : x_7 = 2 := ex_7.trans (by decide)
  refine va_sld hx hb hX hbl hbA hS (z_inC _ (k := 2) (by decide) (by decide)) dL_law_629 ?_
  refine lv_aload_n hx hb dL_law_630 rfl (lv_at hl 3 rfl) ?_
  refine lv_iload_n hx hb dL_law_631 rfl (lv_at hl 0 rfl) ?_
  refine lv_iconst (v := 3) hx hb dL_law_632 (by decide) ?_
  refine lv_iadd hx hb dL_law_633 ?_
  refine lv_topi (fun x_8 ex_8 => ?_)
  obtain rfl : x_8 = 3 := ex_8.trans (by decide)
  refine va_sld hx hb hX hbl hbA hS (z_inC _ (k := 3) (by decide) (by decide)) dL_law_634 ?_
  refine lv_aload_n hx hb dL_law_635 rfl (lv_at hl 3 rfl) ?_
  refine lv_iload_n hx hb dL_law_636 rfl (lv_at hl 0 rfl) ?_
  refine lv_iconst (v := 4) hx hb dL_law_637 (by decide) ?_
  refine lv_iadd hx hb dL_law_638 ?_
  refine lv_topi (fun x_9 ex_9 => ?_)
  obtain rfl : x_9 = 4 := ex_9.trans (by decide)
  refine va_sld hx hb hX hbl hbA hS (z_inC _ (k := 4) (by decide) (by decide)) dL_law_639 ?_
  have hPc := hP.sub (ws' := [(m0, .inr (10, [.int 0, .ref m_width, .ref m_many, .ref m_cells, .ref m_moved, .ref m_tape, .int 0, .int 0, .int 0, .int 0, .int 0, .long 0, .int 0, .int 0, .int 0, .int (-1), .ref m_lines, .ref m_hours, .ref m_courts, .ref m_in, .ref m_gates, .ref m_gate, .ref m_people, .ref m_at0, .ref m_stray, .ref m_set, .ref m_once, .ref m_truth, .ref m_known, .ref m_isKept, .int 0, .int (-1), .int 0, .int 0, .ref m_inside, .ref m_can, .ref m_fewest, .ref m_waysTo, .ref m_then, .ref m_two, .ref m_nextTwo, .ref m_three, .ref m_nextThree, .int (-1), .ref m_worth, .ref m_digit, .int 0, .long 0, .int 0, .int 0, .int 0, .int 0, .long 0])), (m_gates, .inl (cm_gates, 5, .inl (fun _ => 0)))]) [0, 1] rfl
  have hDc := hD.sub (ws' := [(m0, .inr (10, [.int 0, .ref m_width, .ref m_many, .ref m_cells, .ref m_moved, .ref m_tape, .int 0, .int 0, .int 0, .int 0, .int 0, .long 0, .int 0, .int 0, .int 0, .int (-1), .ref m_lines, .ref m_hours, .ref m_courts, .ref m_in, .ref m_gates, .ref m_gate, .ref m_people, .ref m_at0, .ref m_stray, .ref m_set, .ref m_once, .ref m_truth, .ref m_known, .ref m_isKept, .int 0, .int (-1), .int 0, .int 0, .ref m_inside, .ref m_can, .ref m_fewest, .ref m_waysTo, .ref m_then, .ref m_two, .ref m_nextTwo, .ref m_three, .ref m_nextThree, .int (-1), .ref m_worth, .ref m_digit, .int 0, .long 0, .int 0, .int 0, .int 0, .int 0, .long 0])), (m_gates, .inl (cm_gates, 5, .inl (fun _ => 0)))]) [0, 1] (by decide) rfl
  have hKc := hK.sub (tys' := [(cm_gates, .int)]) [0] rfl
  have hFc := va_free (wc := [(m0, .inr (10, [.int 0, .ref m_width, .ref m_many, .ref m_cells, .ref m_moved, .ref m_tape, .int 0, .int 0, .int 0, .int 0, .int 0, .long 0, .int 0, .int 0, .int 0, .int (-1), .ref m_lines, .ref m_hours, .ref m_courts, .ref m_in, .ref m_gates, .ref m_gate, .ref m_people, .ref m_at0, .ref m_stray, .ref m_set, .ref m_once, .ref m_truth, .ref m_known, .ref m_isKept, .int 0, .int (-1), .int 0, .int 0, .ref m_inside, .ref m_can, .ref m_fewest, .ref m_waysTo, .ref m_then, .ref m_two, .ref m_nextTwo, .ref m_three, .ref m_nextThree, .int (-1), .ref m_worth, .ref m_digit, .int 0, .long 0, .int 0, .int 0, .int 0, .int 0, .long 0])), (m_gates, .inl (cm_gates, 5, .inl (fun _ => 0)))]) hD hS hA [0, 1] rfl
  refine va_calli (va_runV (As := [.int (xs (Int32.toNatClampNeg 1)), .int (xs (Int32.toNatClampNeg 2)), .int (xs (Int32.toNatClampNeg 3)), .int (xs (Int32.toNatClampNeg 4))]) (rest := [.int (-2)]) ⟨hx, hb, hml, hown, hts⟩ (k_X10_opens l dC dI m0 (xs (Int32.toNatClampNeg 1)) (xs (Int32.toNatClampNeg 2)) (xs (Int32.toNatClampNeg 3)) (xs (Int32.toNatClampNeg 4)) m_width m_many m_cells m_moved m_tape m_lines m_hours m_courts m_in m_gates m_gate m_people m_at0 m_stray m_set m_once m_truth m_known m_isKept m_inside m_can m_fewest m_waysTo m_then m_two m_nextTwo m_three m_nextThree m_worth m_digit cm_gates H.size) (cwV 4 hts (z_gV zw_t7_237 zw_t7_238 zw_t7_239 zw_t1_11 zw_t8_0) rfl rfl rfl (by decide +kernel) ⟨(Nat.le_of_ble_eq_true rfl), (Nat.le_of_ble_eq_true rfl)⟩) (z_preV hPc hKc hDc (ci := 10) (q0 := 0) rfl rfl) rfl rfl hl.1 rfl (lv_room (Nat.le_of_ble_eq_true rfl)) dL_law_640 ⟨(Nat.le_of_ble_eq_true rfl), (Nat.le_of_ble_eq_true rfl)⟩) hS (fun q _ h => hFc q h) hFc (fun r_10 u t H1 locs ht hvm hw hB hz1 hk1 hS => ?_)
  have hB : zW dC dI [] [] (va_A [(m0, .inr (10, [.int 0, .ref m_width, .ref m_many, .ref m_cells, .ref m_moved, .ref m_tape, .int 0, .int 0, .int 0, .int 0, .int 0, .long 0, .int 0, .int 0, .int 0, .int (-1), .ref m_lines, .ref m_hours, .ref m_courts, .ref m_in, .ref m_gates, .ref m_gate, .ref m_people, .ref m_at0, .ref m_stray, .ref m_set, .ref m_once, .ref m_truth, .ref m_known, .ref m_isKept, .int 0, .int (-1), .int 0, .int 0, .ref m_inside, .ref m_can, .ref m_fewest, .ref m_waysTo, .ref m_then, .ref m_two, .ref m_nextTwo, .ref m_three, .ref m_nextThree, .int (-1), .ref m_worth, .ref m_digit, .int 0, .long 0, .int 0, .int 0, .int 0, .int 0, .long 0])), (m_gates, .inl (cm_gates, 5, .inl (fun _ => 0)))] H.size) t := z_none (va_K.moved hvm hK)
  obtain ⟨hP, hD, hK⟩ := z_after [] hB ht hvm hP hD hK [0, 1] [] rfl rfl (by decide) (by decide) hk1 hFc
  generalize H1 = H at hP hS ⊢
  have hP : va_P (dC, dI) vwCl [] H := hP
  have hD : va_D A [] := hD
  have hK : va_K (dC, dI) vwCl [(cm_gates, .int)] s := hK
  obtain rfl : r_10 = (-2) := hw
  refine lv_icmp_eq (tgt := 2651) hx hb dL_law_643 (by decide) (fun _ => ?_) (fun q => absurd q (by decide))
  exact law_tail C0 hA2 (Nat.le_of_ble_eq_true rfl) (Nat.le_of_ble_eq_true rfl) hS (lv_sub hl [0, 3] rfl)
set_option maxHeartbeats 4000000 in
set_option maxRecDepth 100000 in
theorem law_keys {p : Program} {e : Env} {s : State} {m : MethodId} {below : List Frame} {meth : Method} {c : Code} {l : Launch} {b : Nat} {xs : Nat → Int32} (C0 : lw_At p s m meth c b 6 xs) {dC : Nat → ClassId} {dI : Nat → Nat → Nat} {A : Nat → Prop} (hA : ∀ q, s.heap.size ≤ q → A q) (hA2 : ∀ q, A q → s.heap.size ≤ q) {h0 : Nat} {tp : Nat} {nw : Nat} {im : Nat} {sl : Nat} {rd : Nat} {wk : Nat} {fm : Nat} {mt : Nat} {ch : Nat} {dy : Nat} {tn : Nat} {ta0 : Nat} {ta1 : Nat} {ta2 : Nat} {ta3 : Nat} {ta4 : Nat} {ta5 : Nat} {ta6 : Nat} {ta7 : Nat} {ta8 : Nat} {ta9 : Nat} {m0 : Nat} {m_width : Nat} {m_many : Nat} {m_cells : Nat} {m_moved : Nat} {m_tape : Nat} {m_lines : Nat} {m_hours : Nat} {m_courts : Nat} {m_in : Nat} {m_gates : Nat} {m_gate : Nat} {m_people : Nat} {m_at0 : Nat} {m_stray : Nat} {m_set : Nat} {m_once : Nat} {m_truth : Nat} {m_known : Nat} {m_isKept : Nat} {m_inside : Nat} {m_can : Nat} {m_fewest : Nat} {m_waysTo : Nat} {m_then : Nat} {m_two : Nat} {m_nextTwo : Nat} {m_three : Nat} {m_nextThree : Nat} {m_worth : Nat} {m_digit : Nat} {cm_gates : ClassId}  {H : Heap} {locs : List Loc} {ls : Array Slot} (hP : va_P (dC, dI) vwCl [(h0, .inr (9, [.ref tp, .int 0, .int 0, .int (-1), .ref nw, .ref im, .ref sl, .ref rd, .ref wk, .ref fm, .ref mt, .ref ch, .ref dy])), (nw, .inr (3, [.int 0, .ref tn, .int 0, .int 0, .int 0, .int 0])), (tn, .inr (7, [.int 0, .int 0, .int 0, .int 0, .int 0, .int 0, .int 0, .int 0, .ref ta0, .ref ta1, .ref ta2, .ref ta3, .ref ta4, .ref ta5, .ref ta6, .ref ta7, .ref ta8, .ref ta9])), (m0, .inr (10, [.int 0, .ref m_width, .ref m_many, .ref m_cells, .ref m_moved, .ref m_tape, .int 0, .int 0, .int 0, .int 0, .int 0, .long 0, .int 0, .int 0, .int 0, .int (-1), .ref m_lines, .ref m_hours, .ref m_courts, .ref m_in, .ref m_gates, .ref m_gate, .ref m_people, .ref m_at0, .ref m_stray, .ref m_set, .ref m_once, .ref m_truth, .ref m_known, .ref m_isKept, .int 0, .int (-1), .int 0, .int 0, .ref m_inside, .ref m_can, .ref m_fewest, .ref m_waysTo, .ref m_then, .ref m_two, .ref m_nextTwo, .ref m_three, .ref m_nextThree, .int (-1), .ref m_worth, .ref m_digit, .int 0, .long 0, .int 0, .int 0, .int 0, .int 0, .long 0])), (m_gates, .inl (cm_gates, 5, .inl (fun _ => 0)))] H) (hD : va_D A [(h0, .inr (9, [.ref tp, .int 0, .int 0, .int (-1), .ref nw, .ref im, .ref sl, .ref rd, .ref wk, .ref fm, .ref mt, .ref ch, .ref dy])), (nw, .inr (3, [.int 0, .ref tn, .int 0, .int 0, .int 0, .int 0])), (tn, .inr (7, [.int 0, .int 0, .int 0, .int 0, .int 0, .int 0, .int 0, .int 0, .ref ta0, .ref ta1, .ref ta2, .ref ta3, .ref ta4, .ref ta5, .ref ta6, .ref ta7, .ref ta8, .ref ta9])), (m0, .inr (10, [.int 0, .ref m_width, .ref m_many, .ref m_cells, .ref m_moved, .ref m_tape, .int 0, .int 0, .int 0, .int 0, .int 0, .long 0, .int 0, .int 0, .int 0, .int (-1), .ref m_lines, .ref m_hours, .ref m_courts, .ref m_in, .ref m_gates, .ref m_gate, .ref m_people, .ref m_at0, .ref m_stray, .ref m_set, .ref m_once, .ref m_truth, .ref m_known, .ref m_isKept, .int 0, .int (-1), .int 0, .int 0, .ref m_inside, .ref m_can, .ref m_fewest, .ref m_waysTo, .ref m_then, .ref m_two, .ref m_nextTwo, .ref m_three, .ref m_nextThree, .int (-1), .ref m_worth, .ref m_digit, .int 0, .long 0, .int 0, .int 0, .int 0, .int 0, .long 0])), (m_gates, .inl (cm_gates, 5, .inl (fun _ => 0)))]) (hK : va_K (dC, dI) vwCl [(cm_gates, .int)] s) (hS : va_S A s.heap H locs) (hl : lv_has ls 4 [(3, .int 0), (2, .ref m0), (1, .ref h0), (0, .ref b)]) : W p l e room_1 s m #[Value.ref b] below meth c H locs 166 101284 (lw_Z below #[Value.ref b] s) (F0 m 648 ls []) := by
  obtain ⟨hx, hb, hr, hml, hown, hts, hX, hbl, hlocks, hgv⟩ := id C0
  have hown : s.vm.findClass RL = some m.cls := hown
  have hb : c.code = cL_law := hb
  have hts : ∀ w ∈ zT, w.before #[Value.ref b] s = true := fun w h => hts w (zT_in w h)
  have hbA : ¬ A b := fun q => absurd (hA2 b q) (Nat.not_le.mpr hbl)
  refine lv_aload_n hx hb dL_law_648 rfl (lv_at hl 2 rfl) ?_
  refine lv_aload_n hx hb dL_law_649 rfl (lv_at hl 3 rfl) ?_
  refine lv_iload_n hx hb dL_law_650 rfl (lv_at hl 0 rfl) ?_
  refine lv_iconst (v := 1) hx hb dL_law_651 (by decide) ?_
  refine lv_iadd hx hb dL_law_652 ?_
  refine lv_topi (fun x_1 ex_1 => ?_)
  obtain rfl : x_1 = 1 := ex_1.trans (by decide)
  refine va_sld hx hb hX hbl hbA hS (z_inC _ (k := 1) (by decide) (by decide)) dL_law_653 ?_
  refine lv_aload_n hx hb dL_law_654 rfl (lv_at hl 3 rfl) ?_
  refine lv_iload_n hx hb dL_law_655 rfl (lv_at hl 0 rfl) ?_
  refine lv_iconst (v := 2) hx hb dL_law_656 (by decide) ?_
  refine lv_iadd hx hb dL_law_657 ?_
  refine lv_topi (fun x_2 ex_2 => ?_)
  obtain rfl : x_2 = 2 := ex_2.trans (by decide)
  refine va_sld hx hb hX hbl hbA hS (z_inC _ (k := 2) (by decide) (by decide)) dL_law_658 ?_
  refine lv_aload_n hx hb dL_law_659 rfl (lv_at hl 3 rfl) ?_
  refine lv_iload_n hx hb dL_law_660 rfl (lv_at hl 0 rfl) ?_
  refine lv_iconst (v := 3) hx hb dL_law_661 (by decide) ?_
  refine lv_iadd hx hb dL_law_662 ?_
  refine lv_topi (fun x_3 ex_3 => ?_)
  obtain rfl : x_3 = 3 := ex_3.trans (by decide)
  refine va_sld hx hb hX hbl hbA hS (z_inC _ (k := 3) (by decide) (by decide)) dL_law_663 ?_
  have hPc := hP.sub (ws' := [(h0, .inr (9, [.ref tp, .int 0, .int 0, .int (-1), .ref nw, .ref im, .ref sl, .ref rd, .ref wk, .ref fm, .ref mt, .ref ch, .ref dy])), (nw, .inr (3, [.int 0, .ref tn, .int 0, .int 0, .int 0, .int 0])), (tn, .inr (7, [.int 0, .int 0, .int 0, .int 0, .int 0, .int 0, .int 0, .int 0, .ref ta0, .ref ta1, .ref ta2, .ref ta3, .ref ta4, .ref ta5, .ref ta6, .ref ta7, .ref ta8, .ref ta9]))]) [0, 1, 2] rfl
  have hDc := hD.sub (ws' := [(h0, .inr (9, [.ref tp, .int 0, .int 0, .int (-1), .ref nw, .ref im, .ref sl, .ref rd, .ref wk, .ref fm, .ref mt, .ref ch, .ref dy])), (nw, .inr (3, [.int 0, .ref tn, .int 0, .int 0, .int 0, .int 0])), (tn, .inr (7, [.int 0, .int 0, .int 0, .int 0, .int 0, .int 0, .int 0, .int 0, .ref ta0, .ref ta1, .ref ta2, .ref ta3, .ref ta4, .ref ta5, .ref ta6, .ref ta7, .ref ta8, .ref ta9]))]) [0, 1, 2] (by decide) rfl
  have hKc := hK.sub (tys' := []) [] rfl
  have hFc := va_free (wc := [(h0, .inr (9, [.ref tp, .int 0, .int 0, .int (-1), .ref nw, .ref im, .ref sl, .ref rd, .ref wk, .ref fm, .ref mt, .ref ch, .ref dy])), (nw, .inr (3, [.int 0, .ref tn, .int 0, .int 0, .int 0, .int 0])), (tn, .inr (7, [.int 0, .int 0, .int 0, .int 0, .int 0, .int 0, .int 0, .int 0, .ref ta0, .ref ta1, .ref ta2, .ref ta3, .ref ta4, .ref ta5, .ref ta6, .ref ta7, .ref ta8, .ref ta9]))]) hD hS hA [0, 1, 2] rfl
  refine va_calli (va_runV (As := [.int (xs (Int32.toNatClampNeg 1)), .int (xs (Int32.toNatClampNeg 2)), .int (xs (Int32.toNatClampNeg 3))]) (rest := []) ⟨hx, hb, hml, hown, hts⟩ (k_X9_keys l dC dI h0 (xs (Int32.toNatClampNeg 1)) (xs (Int32.toNatClampNeg 2)) (xs (Int32.toNatClampNeg 3)) tp nw im sl rd wk fm mt ch dy tn ta0 ta1 ta2 ta3 ta4 ta5 ta6 ta7 ta8 ta9 H.size) (cwV 3 hts (z_gV zw_t4_13 zw_t4_14 zw_t4_15 zw_t1_1 zw_t4_16) rfl rfl rfl (by decide +kernel) ⟨(Nat.le_of_ble_eq_true rfl), (Nat.le_of_ble_eq_true rfl)⟩) (z_preV hPc hKc hDc (ci := 9) (q0 := 0) rfl rfl) rfl rfl hl.1 rfl (lv_room (Nat.le_of_ble_eq_true rfl)) dL_law_664 ⟨(Nat.le_of_ble_eq_true rfl), (Nat.le_of_ble_eq_true rfl)⟩) hS (fun q _ h => hFc q h) hFc (fun r_4 u t H1 locs ht hvm hw hB hz1 hk1 hS => ?_)
  have hB : zW dC dI [] [] (va_A [(h0, .inr (9, [.ref tp, .int 0, .int 0, .int (-1), .ref nw, .ref im, .ref sl, .ref rd, .ref wk, .ref fm, .ref mt, .ref ch, .ref dy])), (nw, .inr (3, [.int 0, .ref tn, .int 0, .int 0, .int 0, .int 0])), (tn, .inr (7, [.int 0, .int 0, .int 0, .int 0, .int 0, .int 0, .int 0, .int 0, .ref ta0, .ref ta1, .ref ta2, .ref ta3, .ref ta4, .ref ta5, .ref ta6, .ref ta7, .ref ta8, .ref ta9]))] H.size) t := z_none (va_K.moved hvm hK)
  obtain ⟨hP, hD, hK⟩ := z_after [(m0, .inr (10, [.int 0, .ref m_width, .ref m_many, .ref m_cells, .ref m_moved, .ref m_tape, .int 0, .int 0, .int 0, .int 0, .int 0, .long 0, .int 0, .int 0, .int 0, .int (-1), .ref m_lines, .ref m_hours, .ref m_courts, .ref m_in, .ref m_gates, .ref m_gate, .ref m_people, .ref m_at0, .ref m_stray, .ref m_set, .ref m_once, .ref m_truth, .ref m_known, .ref m_isKept, .int 0, .int (-1), .int 0, .int 0, .ref m_inside, .ref m_can, .ref m_fewest, .ref m_waysTo, .ref m_then, .ref m_two, .ref m_nextTwo, .ref m_three, .ref m_nextThree, .int (-1), .ref m_worth, .ref m_digit, .int 0, .long 0, .int 0, .int 0, .int 0, .int 0, .long 0])), (m_gates, .inl (cm_gates, 5, .inl (fun _ => 0)))] hB ht hvm hP hD hK [0, 1, 2] [3, 4] rfl rfl (by decide) (by decide) hk1 hFc
  generalize H1 = H at hP hS ⊢
  have hP : va_P (dC, dI) vwCl [(m0, .inr (10, [.int 0, .ref m_width, .ref m_many, .ref m_cells, .ref m_moved, .ref m_tape, .int 0, .int 0, .int 0, .int 0, .int 0, .long 0, .int 0, .int 0, .int 0, .int (-1), .ref m_lines, .ref m_hours, .ref m_courts, .ref m_in, .ref m_gates, .ref m_gate, .ref m_people, .ref m_at0, .ref m_stray, .ref m_set, .ref m_once, .ref m_truth, .ref m_known, .ref m_isKept, .int 0, .int (-1), .int 0, .int 0, .ref m_inside, .ref m_can, .ref m_fewest, .ref m_waysTo, .ref m_then, .ref m_two, .ref m_nextTwo, .ref m_three, .ref m_nextThree, .int (-1), .ref m_worth, .ref m_digit, .int 0, .long 0, .int 0, .int 0, .int 0, .int 0, .long 0])), (m_gates, .inl (cm_gates, 5, .inl (fun _ => 0)))] H := hP
  have hD : va_D A [(m0, .inr (10, [.int 0, .ref m_width, .ref m_many, .ref m_cells, .ref m_moved, .ref m_tape, .int 0, .int 0, .int 0, .int 0, .int 0, .long 0, .int 0, .int 0, .int 0, .int (-1), .ref m_lines, .ref m_hours, .ref m_courts, .ref m_in, .ref m_gates, .ref m_gate, .ref m_people, .ref m_at0, .ref m_stray, .ref m_set, .ref m_once, .ref m_truth, .ref m_known, .ref m_isKept, .int 0, .int (-1), .int 0, .int 0, .ref m_inside, .ref m_can, .ref m_fewest, .ref m_waysTo, .ref m_then, .ref m_two, .ref m_nextTwo, .ref m_three, .ref m_nextThree, .int (-1), .ref m_worth, .ref m_digit, .int 0, .long 0, .int 0, .int 0, .int 0, .int 0, .long 0])), (m_gates, .inl (cm_gates, 5, .inl (fun _ => 0)))] := hD
  have hK : va_K (dC, dI) vwCl [(cm_gates, .int)] s := hK
  obtain rfl : r_4 = (-2) := hw
  refine lv_aload_n hx hb dL_law_667 rfl (lv_at hl 1 rfl) ?_
  refine lv_aload_n hx hb dL_law_668 rfl (lv_at hl 3 rfl) ?_
  refine lv_iload_n hx hb dL_law_669 rfl (lv_at hl 0 rfl) ?_
  refine lv_iconst (v := 1) hx hb dL_law_670 (by decide) ?_
  refine lv_iadd hx hb dL_law_671 ?_
  refine lv_topi (fun x_5 ex_5 => ?_)
  obtain rfl : x_5 = 1 := ex_5.trans (by decide)
  refine va_sld hx hb hX hbl hbA hS (z_inC _ (k := 1) (by decide) (by decide)) dL_law_672 ?_
  refine lv_aload_n hx hb dL_law_673 rfl (lv_at hl 3 rfl) ?_
  refine lv_iload_n hx hb dL_law_674 rfl (lv_at hl 0 rfl) ?_
  refine lv_iconst (v := 2) hx hb dL_law_675 (by decide) ?_
  refine lv_iadd hx hb dL_law_676 ?_
  refine lv_topi (fun x_6 ex_6 => ?_)
  obtain rfl : x_6 = 2 := ex_6.trans (by decide)
  refine va_sld hx hb hX hbl hbA hS (z_inC _ (k := 2) (by decide) (by decide)) dL_law_677 ?_
  refine lv_aload_n hx hb dL_law_678 rfl (lv_at hl 3 rfl) ?_
  refine lv_iload_n hx hb dL_law_679 rfl (lv_at hl 0 rfl) ?_
  refine lv_iconst (v := 3) hx hb dL_law_680 (by decide) ?_
  refine lv_iadd hx hb dL_law_681 ?_
  refine lv_topi (fun x_7 ex_7 => ?_)
  obtain rfl : x_7 = 3 := ex_7.trans (by decide)
  refine va_sld hx hb hX hbl hbA hS (z_inC _ (k := 3) (by decide) (by decide)) dL_law_682 ?_
  have hPc := hP.sub (ws' := [(m0, .inr (10, [.int 0, .ref m_width, .ref m_many, .ref m_cells, .ref m_moved, .ref m_tape, .int 0, .int 0, .int 0, .int 0, .int 0, .long 0, .int 0, .int 0, .int 0, .int (-1), .ref m_lines, .ref m_hours, .ref m_courts, .ref m_in, .ref m_gates, .ref m_gate, .ref m_people, .ref m_at0, .ref m_stray, .ref m_set, .ref m_once, .ref m_truth, .ref m_known, .ref m_isKept, .int 0, .int (-1), .int 0, .int 0, .ref m_inside, .ref m_can, .ref m_fewest, .ref m_waysTo, .ref m_then, .ref m_two, .ref m_nextTwo, .ref m_three, .ref m_nextThree, .int (-1), .ref m_worth, .ref m_digit, .int 0, .long 0, .int 0, .int 0, .int 0, .int 0, .long 0])), (m_gates, .inl (cm_gates, 5, .inl (fun _ => 0)))]) [0, 1] rfl
  have hDc := hD.sub (ws' := [(m0, .inr (10, [.int 0, .ref m_width, .ref m_many, .ref m_cells, .ref m_moved, .ref m_tape, .int 0, .int 0, .int 0, .int 0, .int 0, .long 0, .int 0, .int 0, .int 0, .int (-1), .ref m_lines, .ref m_hours, .ref m_courts, .ref m_in, .ref m_gates, .ref m_gate, .ref m_people, .ref m_at0, .ref m_stray, .ref m_set, .ref m_once, .ref m_truth, .ref m_known, .ref m_isKept, .int 0, .int (-1), .int 0, .int 0, .ref m_inside, .ref m_can, .ref m_fewest, .ref m_waysTo, .ref m_then, .ref m_two, .ref m_nextTwo, .ref m_three, .ref m_nextThree, .int (-1), .ref m_worth, .ref m_digit, .int 0, .long 0, .int 0, .int 0, .int 0, .int 0, .long 0])), (m_gates, .inl (cm_gates, 5, .inl (fun _ => 0)))]) [0, 1] (by decide) rfl
  have hKc := hK.sub (tys' := [(cm_gates, .int)]) [0] rfl
  have hFc := va_free (wc := [(m0, .inr (10, [.int 0, .ref m_width, .ref m_many, .ref m_cells, .ref m_moved, .ref m_tape, .int 0, .int 0, .int 0, .int 0, .int 0, .long 0, .int 0, .int 0, .int 0, .int (-1), .ref m_lines, .ref m_hours, .ref m_courts, .ref m_in, .ref m_gates, .ref m_gate, .ref m_people, .ref m_at0, .ref m_stray, .ref m_set, .ref m_once, .ref m_truth, .ref m_known, .ref m_isKept, .int 0, .int (-1), .int 0, .int 0, .ref m_inside, .ref m_can, .ref m_fewest, .ref m_waysTo, .ref m_then, .ref m_two, .ref m_nextTwo, .ref m_three, .ref m_nextThree, .int (-1), .ref m_worth, .ref m_digit, .int 0, .long 0, .int 0, .int 0, .int 0, .int 0, .long 0])), (m_gates, .inl (cm_gates, 5, .inl (fun _ => 0)))]) hD hS hA [0, 1] rfl
  refine va_calli (va_runV (As := [.int (xs (Int32.toNatClampNeg 1)), .int (xs (Int32.toNatClampNeg 2)), .int (xs (Int32.toNatClampNeg 3))]) (rest := [.int (-2)]) ⟨hx, hb, hml, hown, hts⟩ (k_X10_keys l dC dI m0 (xs (Int32.toNatClampNeg 1)) (xs (Int32.toNatClampNeg 2)) (xs (Int32.toNatClampNeg 3)) m_width m_many m_cells m_moved m_tape m_lines m_hours m_courts m_in m_gates m_gate m_people m_at0 m_stray m_set m_once m_truth m_known m_isKept m_inside m_can m_fewest m_waysTo m_then m_two m_nextTwo m_three m_nextThree m_worth m_digit cm_gates H.size) (cwV 3 hts (z_gV zw_t8_1 zw_t8_2 zw_t8_3 zw_t1_11 zw_t8_4) rfl rfl rfl (by decide +kernel) ⟨(Nat.le_of_ble_eq_true rfl), (Nat.le_of_ble_eq_true rfl)⟩) (z_preV hPc hKc hDc (ci := 10) (q0 := 0) rfl rfl) rfl rfl hl.1 rfl (lv_room (Nat.le_of_ble_eq_true rfl)) dL_law_683 ⟨(Nat.le_of_ble_eq_true rfl), (Nat.le_of_ble_eq_true rfl)⟩) hS (fun q _ h => hFc q h) hFc (fun r_8 u t H1 locs ht hvm hw hB hz1 hk1 hS => ?_)
  have hB : zW dC dI [] [] (va_A [(m0, .inr (10, [.int 0, .ref m_width, .ref m_many, .ref m_cells, .ref m_moved, .ref m_tape, .int 0, .int 0, .int 0, .int 0, .int 0, .long 0, .int 0, .int 0, .int 0, .int (-1), .ref m_lines, .ref m_hours, .ref m_courts, .ref m_in, .ref m_gates, .ref m_gate, .ref m_people, .ref m_at0, .ref m_stray, .ref m_set, .ref m_once, .ref m_truth, .ref m_known, .ref m_isKept, .int 0, .int (-1), .int 0, .int 0, .ref m_inside, .ref m_can, .ref m_fewest, .ref m_waysTo, .ref m_then, .ref m_two, .ref m_nextTwo, .ref m_three, .ref m_nextThree, .int (-1), .ref m_worth, .ref m_digit, .int 0, .long 0, .int 0, .int 0, .int 0, .int 0, .long 0])), (m_gates, .inl (cm_gates, 5, .inl (fun _ => 0)))] H.size) t := z_none (va_K.moved hvm hK)
  obtain ⟨hP, hD, hK⟩ := z_after [] hB ht hvm hP hD hK [0, 1] [] rfl rfl (by decide) (by decide) hk1 hFc
  generalize H1 = H at hP hS ⊢
  have hP : va_P (dC, dI) vwCl [] H := hP
  have hD : va_D A [] := hD
  have hK : va_K (dC, dI) vwCl [(cm_gates, .int)] s := hK
  obtain rfl : r_8 = (-2) := hw
  refine lv_icmp_eq (tgt := 2651) hx hb dL_law_686 (by decide) (fun _ => ?_) (fun q => absurd q (by decide))
  exact law_tail C0 hA2 (Nat.le_of_ble_eq_true rfl) (Nat.le_of_ble_eq_true rfl) hS (lv_sub hl [0, 3] rfl)
set_option maxHeartbeats 4000000 in
set_option maxRecDepth 100000 in
theorem law_soonest {p : Program} {e : Env} {s : State} {m : MethodId} {below : List Frame} {meth : Method} {c : Code} {l : Launch} {b : Nat} {xs : Nat → Int32} (C0 : lw_At p s m meth c b 6 xs) {dC : Nat → ClassId} {dI : Nat → Nat → Nat} {A : Nat → Prop} (hA : ∀ q, s.heap.size ≤ q → A q) (hA2 : ∀ q, A q → s.heap.size ≤ q) {h0 : Nat} {tp : Nat} {nw : Nat} {im : Nat} {sl : Nat} {rd : Nat} {wk : Nat} {fm : Nat} {mt : Nat} {ch : Nat} {dy : Nat} {tn : Nat} {ta0 : Nat} {ta1 : Nat} {ta2 : Nat} {ta3 : Nat} {ta4 : Nat} {ta5 : Nat} {ta6 : Nat} {ta7 : Nat} {ta8 : Nat} {ta9 : Nat} {m0 : Nat} {m_width : Nat} {m_many : Nat} {m_cells : Nat} {m_moved : Nat} {m_tape : Nat} {m_lines : Nat} {m_hours : Nat} {m_courts : Nat} {m_in : Nat} {m_gates : Nat} {m_gate : Nat} {m_people : Nat} {m_at0 : Nat} {m_stray : Nat} {m_set : Nat} {m_once : Nat} {m_truth : Nat} {m_known : Nat} {m_isKept : Nat} {m_inside : Nat} {m_can : Nat} {m_fewest : Nat} {m_waysTo : Nat} {m_then : Nat} {m_two : Nat} {m_nextTwo : Nat} {m_three : Nat} {m_nextThree : Nat} {m_worth : Nat} {m_digit : Nat} {cm_courts : ClassId}  {H : Heap} {locs : List Loc} {ls : Array Slot} (hP : va_P (dC, dI) vwCl [(h0, .inr (9, [.ref tp, .int 0, .int 0, .int (-1), .ref nw, .ref im, .ref sl, .ref rd, .ref wk, .ref fm, .ref mt, .ref ch, .ref dy])), (nw, .inr (3, [.int 0, .ref tn, .int 0, .int 0, .int 0, .int 0])), (tn, .inr (7, [.int 0, .int 0, .int 0, .int 0, .int 0, .int 0, .int 0, .int 0, .ref ta0, .ref ta1, .ref ta2, .ref ta3, .ref ta4, .ref ta5, .ref ta6, .ref ta7, .ref ta8, .ref ta9])), (m0, .inr (10, [.int 0, .ref m_width, .ref m_many, .ref m_cells, .ref m_moved, .ref m_tape, .int 0, .int 0, .int 0, .int 0, .int 0, .long 0, .int 0, .int 0, .int 0, .int (-1), .ref m_lines, .ref m_hours, .ref m_courts, .ref m_in, .ref m_gates, .ref m_gate, .ref m_people, .ref m_at0, .ref m_stray, .ref m_set, .ref m_once, .ref m_truth, .ref m_known, .ref m_isKept, .int 0, .int (-1), .int 0, .int 0, .ref m_inside, .ref m_can, .ref m_fewest, .ref m_waysTo, .ref m_then, .ref m_two, .ref m_nextTwo, .ref m_three, .ref m_nextThree, .int (-1), .ref m_worth, .ref m_digit, .int 0, .long 0, .int 0, .int 0, .int 0, .int 0, .long 0])), (m_courts, .inl (cm_courts, 5, .inl (fun _ => 0)))] H) (hD : va_D A [(h0, .inr (9, [.ref tp, .int 0, .int 0, .int (-1), .ref nw, .ref im, .ref sl, .ref rd, .ref wk, .ref fm, .ref mt, .ref ch, .ref dy])), (nw, .inr (3, [.int 0, .ref tn, .int 0, .int 0, .int 0, .int 0])), (tn, .inr (7, [.int 0, .int 0, .int 0, .int 0, .int 0, .int 0, .int 0, .int 0, .ref ta0, .ref ta1, .ref ta2, .ref ta3, .ref ta4, .ref ta5, .ref ta6, .ref ta7, .ref ta8, .ref ta9])), (m0, .inr (10, [.int 0, .ref m_width, .ref m_many, .ref m_cells, .ref m_moved, .ref m_tape, .int 0, .int 0, .int 0, .int 0, .int 0, .long 0, .int 0, .int 0, .int 0, .int (-1), .ref m_lines, .ref m_hours, .ref m_courts, .ref m_in, .ref m_gates, .ref m_gate, .ref m_people, .ref m_at0, .ref m_stray, .ref m_set, .ref m_once, .ref m_truth, .ref m_known, .ref m_isKept, .int 0, .int (-1), .int 0, .int 0, .ref m_inside, .ref m_can, .ref m_fewest, .ref m_waysTo, .ref m_then, .ref m_two, .ref m_nextTwo, .ref m_three, .ref m_nextThree, .int (-1), .ref m_worth, .ref m_digit, .int 0, .long 0, .int 0, .int 0, .int 0, .int 0, .long 0])), (m_courts, .inl (cm_courts, 5, .inl (fun _ => 0)))]) (hK : va_K (dC, dI) vwCl [(cm_courts, .int)] s) (hS : va_S A s.heap H locs) (hl : lv_has ls 4 [(3, .int 0), (2, .ref m0), (1, .ref h0), (0, .ref b)]) : W p l e room_1 s m #[Value.ref b] below meth c H locs 166 101284 (lw_Z below #[Value.ref b] s) (F0 m 691 ls []) := by
  obtain ⟨hx, hb, hr, hml, hown, hts, hX, hbl, hlocks, hgv⟩ := id C0
  have hown : s.vm.findClass RL = some m.cls := hown
  have hb : c.code = cL_law := hb
  have hts : ∀ w ∈ zT, w.before #[Value.ref b] s = true := fun w h => hts w (zT_in w h)
  have hbA : ¬ A b := fun q => absurd (hA2 b q) (Nat.not_le.mpr hbl)
  refine lv_aload_n hx hb dL_law_691 rfl (lv_at hl 2 rfl) ?_
  refine lv_aload_n hx hb dL_law_692 rfl (lv_at hl 3 rfl) ?_
  refine lv_iload_n hx hb dL_law_693 rfl (lv_at hl 0 rfl) ?_
  refine lv_iconst (v := 1) hx hb dL_law_694 (by decide) ?_
  refine lv_iadd hx hb dL_law_695 ?_
  refine lv_topi (fun x_1 ex_1 => ?_)
  obtain rfl : x_1 = 1 := ex_1.trans (by decide)
  refine va_sld hx hb hX hbl hbA hS (z_inC _ (k := 1) (by decide) (by decide)) dL_law_696 ?_
  refine lv_aload_n hx hb dL_law_697 rfl (lv_at hl 3 rfl) ?_
  refine lv_iload_n hx hb dL_law_698 rfl (lv_at hl 0 rfl) ?_
  refine lv_iconst (v := 2) hx hb dL_law_699 (by decide) ?_
  refine lv_iadd hx hb dL_law_700 ?_
  refine lv_topi (fun x_2 ex_2 => ?_)
  obtain rfl : x_2 = 2 := ex_2.trans (by decide)
  refine va_sld hx hb hX hbl hbA hS (z_inC _ (k := 2) (by decide) (by decide)) dL_law_701 ?_
  refine lv_aload_n hx hb dL_law_702 rfl (lv_at hl 3 rfl) ?_
  refine lv_iload_n hx hb dL_law_703 rfl (lv_at hl 0 rfl) ?_
  refine lv_iconst (v := 3) hx hb dL_law_704 (by decide) ?_
  refine lv_iadd hx hb dL_law_705 ?_
  refine lv_topi (fun x_3 ex_3 => ?_)
  obtain rfl : x_3 = 3 := ex_3.trans (by decide)
  refine va_sld hx hb hX hbl hbA hS (z_inC _ (k := 3) (by decide) (by decide)) dL_law_706 ?_
  have hPc := hP.sub (ws' := [(h0, .inr (9, [.ref tp, .int 0, .int 0, .int (-1), .ref nw, .ref im, .ref sl, .ref rd, .ref wk, .ref fm, .ref mt, .ref ch, .ref dy])), (nw, .inr (3, [.int 0, .ref tn, .int 0, .int 0, .int 0, .int 0])), (tn, .inr (7, [.int 0, .int 0, .int 0, .int 0, .int 0, .int 0, .int 0, .int 0, .ref ta0, .ref ta1, .ref ta2, .ref ta3, .ref ta4, .ref ta5, .ref ta6, .ref ta7, .ref ta8, .ref ta9]))]) [0, 1, 2] rfl
  have hDc := hD.sub (ws' := [(h0, .inr (9, [.ref tp, .int 0, .int 0, .int (-1), .ref nw, .ref im, .ref sl, .ref rd, .ref wk, .ref fm, .ref mt, .ref ch, .ref dy])), (nw, .inr (3, [.int 0, .ref tn, .int 0, .int 0, .int 0, .int 0])), (tn, .inr (7, [.int 0, .int 0, .int 0, .int 0, .int 0, .int 0, .int 0, .int 0, .ref ta0, .ref ta1, .ref ta2, .ref ta3, .ref ta4, .ref ta5, .ref ta6, .ref ta7, .ref ta8, .ref ta9]))]) [0, 1, 2] (by decide) rfl
  have hKc := hK.sub (tys' := []) [] rfl
  have hFc := va_free (wc := [(h0, .inr (9, [.ref tp, .int 0, .int 0, .int (-1), .ref nw, .ref im, .ref sl, .ref rd, .ref wk, .ref fm, .ref mt, .ref ch, .ref dy])), (nw, .inr (3, [.int 0, .ref tn, .int 0, .int 0, .int 0, .int 0])), (tn, .inr (7, [.int 0, .int 0, .int 0, .int 0, .int 0, .int 0, .int 0, .int 0, .ref ta0, .ref ta1, .ref ta2, .ref ta3, .ref ta4, .ref ta5, .ref ta6, .ref ta7, .ref ta8, .ref ta9]))]) hD hS hA [0, 1, 2] rfl
  refine va_calli (va_runV (As := [.int (xs (Int32.toNatClampNeg 1)), .int (xs (Int32.toNatClampNeg 2)), .int (xs (Int32.toNatClampNeg 3))]) (rest := []) ⟨hx, hb, hml, hown, hts⟩ (k_X9_soonest l dC dI h0 (xs (Int32.toNatClampNeg 1)) (xs (Int32.toNatClampNeg 2)) (xs (Int32.toNatClampNeg 3)) tp nw im sl rd wk fm mt ch dy tn ta0 ta1 ta2 ta3 ta4 ta5 ta6 ta7 ta8 ta9 H.size) (cwV 3 hts (z_gV zw_t4_17 zw_t4_18 zw_t4_19 zw_t1_1 zw_t4_20) rfl rfl rfl (by decide +kernel) ⟨(Nat.le_of_ble_eq_true rfl), (Nat.le_of_ble_eq_true rfl)⟩) (z_preV hPc hKc hDc (ci := 9) (q0 := 0) rfl rfl) rfl rfl hl.1 rfl (lv_room (Nat.le_of_ble_eq_true rfl)) dL_law_707 ⟨(Nat.le_of_ble_eq_true rfl), (Nat.le_of_ble_eq_true rfl)⟩) hS (fun q _ h => hFc q h) hFc (fun r_4 u t H1 locs ht hvm hw hB hz1 hk1 hS => ?_)
  have hB : zW dC dI [] [] (va_A [(h0, .inr (9, [.ref tp, .int 0, .int 0, .int (-1), .ref nw, .ref im, .ref sl, .ref rd, .ref wk, .ref fm, .ref mt, .ref ch, .ref dy])), (nw, .inr (3, [.int 0, .ref tn, .int 0, .int 0, .int 0, .int 0])), (tn, .inr (7, [.int 0, .int 0, .int 0, .int 0, .int 0, .int 0, .int 0, .int 0, .ref ta0, .ref ta1, .ref ta2, .ref ta3, .ref ta4, .ref ta5, .ref ta6, .ref ta7, .ref ta8, .ref ta9]))] H.size) t := z_none (va_K.moved hvm hK)
  obtain ⟨hP, hD, hK⟩ := z_after [(m0, .inr (10, [.int 0, .ref m_width, .ref m_many, .ref m_cells, .ref m_moved, .ref m_tape, .int 0, .int 0, .int 0, .int 0, .int 0, .long 0, .int 0, .int 0, .int 0, .int (-1), .ref m_lines, .ref m_hours, .ref m_courts, .ref m_in, .ref m_gates, .ref m_gate, .ref m_people, .ref m_at0, .ref m_stray, .ref m_set, .ref m_once, .ref m_truth, .ref m_known, .ref m_isKept, .int 0, .int (-1), .int 0, .int 0, .ref m_inside, .ref m_can, .ref m_fewest, .ref m_waysTo, .ref m_then, .ref m_two, .ref m_nextTwo, .ref m_three, .ref m_nextThree, .int (-1), .ref m_worth, .ref m_digit, .int 0, .long 0, .int 0, .int 0, .int 0, .int 0, .long 0])), (m_courts, .inl (cm_courts, 5, .inl (fun _ => 0)))] hB ht hvm hP hD hK [0, 1, 2] [3, 4] rfl rfl (by decide) (by decide) hk1 hFc
  generalize H1 = H at hP hS ⊢
  have hP : va_P (dC, dI) vwCl [(m0, .inr (10, [.int 0, .ref m_width, .ref m_many, .ref m_cells, .ref m_moved, .ref m_tape, .int 0, .int 0, .int 0, .int 0, .int 0, .long 0, .int 0, .int 0, .int 0, .int (-1), .ref m_lines, .ref m_hours, .ref m_courts, .ref m_in, .ref m_gates, .ref m_gate, .ref m_people, .ref m_at0, .ref m_stray, .ref m_set, .ref m_once, .ref m_truth, .ref m_known, .ref m_isKept, .int 0, .int (-1), .int 0, .int 0, .ref m_inside, .ref m_can, .ref m_fewest, .ref m_waysTo, .ref m_then, .ref m_two, .ref m_nextTwo, .ref m_three, .ref m_nextThree, .int (-1), .ref m_worth, .ref m_digit, .int 0, .long 0, .int 0, .int 0, .int 0, .int 0, .long 0])), (m_courts, .inl (cm_courts, 5, .inl (fun _ => 0)))] H := hP
  have hD : va_D A [(m0, .inr (10, [.int 0, .ref m_width, .ref m_many, .ref m_cells, .ref m_moved, .ref m_tape, .int 0, .int 0, .int 0, .int 0, .int 0, .long 0, .int 0, .int 0, .int 0, .int (-1), .ref m_lines, .ref m_hours, .ref m_courts, .ref m_in, .ref m_gates, .ref m_gate, .ref m_people, .ref m_at0, .ref m_stray, .ref m_set, .ref m_once, .ref m_truth, .ref m_known, .ref m_isKept, .int 0, .int (-1), .int 0, .int 0, .ref m_inside, .ref m_can, .ref m_fewest, .ref m_waysTo, .ref m_then, .ref m_two, .ref m_nextTwo, .ref m_three, .ref m_nextThree, .int (-1), .ref m_worth, .ref m_digit, .int 0, .long 0, .int 0, .int 0, .int 0, .int 0, .long 0])), (m_courts, .inl (cm_courts, 5, .inl (fun _ => 0)))] := hD
  have hK : va_K (dC, dI) vwCl [(cm_courts, .int)] s := hK
  obtain rfl : r_4 = (-2) := hw
  refine lv_aload_n hx hb dL_law_710 rfl (lv_at hl 1 rfl) ?_
  refine lv_aload_n hx hb dL_law_711 rfl (lv_at hl 3 rfl) ?_
  refine lv_iload_n hx hb dL_law_712 rfl (lv_at hl 0 rfl) ?_
  refine lv_iconst (v := 1) hx hb dL_law_713 (by decide) ?_
  refine lv_iadd hx hb dL_law_714 ?_
  refine lv_topi (fun x_5 ex_5 => ?_)
  obtain rfl : x_5 = 1 := ex_5.trans (by decide)
  refine va_sld hx hb hX hbl hbA hS (z_inC _ (k := 1) (by decide) (by decide)) dL_law_715 ?_
  refine lv_aload_n hx hb dL_law_716 rfl (lv_at hl 3 rfl) ?_
  refine lv_iload_n hx hb dL_law_717 rfl (lv_at hl 0 rfl) ?_
  refine lv_iconst (v := 2) hx hb dL_law_718 (by decide) ?_
  refine lv_iadd hx hb dL_law_719 ?_
  refine lv_topi (fun x_6 ex_6 => ?_)
  obtain rfl : x_6 = 2 := ex_6.trans (by decide)
  refine va_sld hx hb hX hbl hbA hS (z_inC _ (k := 2) (by decide) (by decide)) dL_law_720 ?_
  refine lv_aload_n hx hb dL_law_721 rfl (lv_at hl 3 rfl) ?_
  refine lv_iload_n hx hb dL_law_722 rfl (lv_at hl 0 rfl) ?_
  refine lv_iconst (v := 3) hx hb dL_law_723 (by decide) ?_
  refine lv_iadd hx hb dL_law_724 ?_
  refine lv_topi (fun x_7 ex_7 => ?_)
  obtain rfl : x_7 = 3 := ex_7.trans (by decide)
  refine va_sld hx hb hX hbl hbA hS (z_inC _ (k := 3) (by decide) (by decide)) dL_law_725 ?_
  have hPc := hP.sub (ws' := [(m0, .inr (10, [.int 0, .ref m_width, .ref m_many, .ref m_cells, .ref m_moved, .ref m_tape, .int 0, .int 0, .int 0, .int 0, .int 0, .long 0, .int 0, .int 0, .int 0, .int (-1), .ref m_lines, .ref m_hours, .ref m_courts, .ref m_in, .ref m_gates, .ref m_gate, .ref m_people, .ref m_at0, .ref m_stray, .ref m_set, .ref m_once, .ref m_truth, .ref m_known, .ref m_isKept, .int 0, .int (-1), .int 0, .int 0, .ref m_inside, .ref m_can, .ref m_fewest, .ref m_waysTo, .ref m_then, .ref m_two, .ref m_nextTwo, .ref m_three, .ref m_nextThree, .int (-1), .ref m_worth, .ref m_digit, .int 0, .long 0, .int 0, .int 0, .int 0, .int 0, .long 0])), (m_courts, .inl (cm_courts, 5, .inl (fun _ => 0)))]) [0, 1] rfl
  have hDc := hD.sub (ws' := [(m0, .inr (10, [.int 0, .ref m_width, .ref m_many, .ref m_cells, .ref m_moved, .ref m_tape, .int 0, .int 0, .int 0, .int 0, .int 0, .long 0, .int 0, .int 0, .int 0, .int (-1), .ref m_lines, .ref m_hours, .ref m_courts, .ref m_in, .ref m_gates, .ref m_gate, .ref m_people, .ref m_at0, .ref m_stray, .ref m_set, .ref m_once, .ref m_truth, .ref m_known, .ref m_isKept, .int 0, .int (-1), .int 0, .int 0, .ref m_inside, .ref m_can, .ref m_fewest, .ref m_waysTo, .ref m_then, .ref m_two, .ref m_nextTwo, .ref m_three, .ref m_nextThree, .int (-1), .ref m_worth, .ref m_digit, .int 0, .long 0, .int 0, .int 0, .int 0, .int 0, .long 0])), (m_courts, .inl (cm_courts, 5, .inl (fun _ => 0)))]) [0, 1] (by decide) rfl
  have hKc := hK.sub (tys' := [(cm_courts, .int)]) [0] rfl
  have hFc := va_free (wc := [(m0, .inr (10, [.int 0, .ref m_width, .ref m_many, .ref m_cells, .ref m_moved, .ref m_tape, .int 0, .int 0, .int 0, .int 0, .int 0, .long 0, .int 0, .int 0, .int 0, .int (-1), .ref m_lines, .ref m_hours, .ref m_courts, .ref m_in, .ref m_gates, .ref m_gate, .ref m_people, .ref m_at0, .ref m_stray, .ref m_set, .ref m_once, .ref m_truth, .ref m_known, .ref m_isKept, .int 0, .int (-1), .int 0, .int 0, .ref m_inside, .ref m_can, .ref m_fewest, .ref m_waysTo, .ref m_then, .ref m_two, .ref m_nextTwo, .ref m_three, .ref m_nextThree, .int (-1), .ref m_worth, .ref m_digit, .int 0, .long 0, .int 0, .int 0, .int 0, .int 0, .long 0])), (m_courts, .inl (cm_courts, 5, .inl (fun _ => 0)))]) hD hS hA [0, 1] rfl
  refine va_calli (va_runV (As := [.int (xs (Int32.toNatClampNeg 1)), .int (xs (Int32.toNatClampNeg 2)), .int (xs (Int32.toNatClampNeg 3))]) (rest := [.int (-2)]) ⟨hx, hb, hml, hown, hts⟩ (k_X10_soonest l dC dI m0 (xs (Int32.toNatClampNeg 1)) (xs (Int32.toNatClampNeg 2)) (xs (Int32.toNatClampNeg 3)) m_width m_many m_cells m_moved m_tape m_lines m_hours m_courts m_in m_gates m_gate m_people m_at0 m_stray m_set m_once m_truth m_known m_isKept m_inside m_can m_fewest m_waysTo m_then m_two m_nextTwo m_three m_nextThree m_worth m_digit cm_courts H.size) (cwV 3 hts (z_gV zw_t8_5 zw_t8_6 zw_t8_7 zw_t1_11 zw_t8_8) rfl rfl rfl (by decide +kernel) ⟨(Nat.le_of_ble_eq_true rfl), (Nat.le_of_ble_eq_true rfl)⟩) (z_preV hPc hKc hDc (ci := 10) (q0 := 0) rfl rfl) rfl rfl hl.1 rfl (lv_room (Nat.le_of_ble_eq_true rfl)) dL_law_726 ⟨(Nat.le_of_ble_eq_true rfl), (Nat.le_of_ble_eq_true rfl)⟩) hS (fun q _ h => hFc q h) hFc (fun r_8 u t H1 locs ht hvm hw hB hz1 hk1 hS => ?_)
  have hB : zW dC dI [] [] (va_A [(m0, .inr (10, [.int 0, .ref m_width, .ref m_many, .ref m_cells, .ref m_moved, .ref m_tape, .int 0, .int 0, .int 0, .int 0, .int 0, .long 0, .int 0, .int 0, .int 0, .int (-1), .ref m_lines, .ref m_hours, .ref m_courts, .ref m_in, .ref m_gates, .ref m_gate, .ref m_people, .ref m_at0, .ref m_stray, .ref m_set, .ref m_once, .ref m_truth, .ref m_known, .ref m_isKept, .int 0, .int (-1), .int 0, .int 0, .ref m_inside, .ref m_can, .ref m_fewest, .ref m_waysTo, .ref m_then, .ref m_two, .ref m_nextTwo, .ref m_three, .ref m_nextThree, .int (-1), .ref m_worth, .ref m_digit, .int 0, .long 0, .int 0, .int 0, .int 0, .int 0, .long 0])), (m_courts, .inl (cm_courts, 5, .inl (fun _ => 0)))] H.size) t := z_none (va_K.moved hvm hK)
  obtain ⟨hP, hD, hK⟩ := z_after [] hB ht hvm hP hD hK [0, 1] [] rfl rfl (by decide) (by decide) hk1 hFc
  generalize H1 = H at hP hS ⊢
  have hP : va_P (dC, dI) vwCl [] H := hP
  have hD : va_D A [] := hD
  have hK : va_K (dC, dI) vwCl [(cm_courts, .int)] s := hK
  obtain rfl : r_8 = (-2) := hw
  refine lv_icmp_eq (tgt := 2651) hx hb dL_law_729 (by decide) (fun _ => ?_) (fun q => absurd q (by decide))
  exact law_tail C0 hA2 (Nat.le_of_ble_eq_true rfl) (Nat.le_of_ble_eq_true rfl) hS (lv_sub hl [0, 3] rfl)
