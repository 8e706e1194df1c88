set_option linter.all false
theorem zw_s4_0 : Cond.selects RX9 yX9_liveBy yX9_liveBy ∈ zT := zs_4 (List.mem_of_getElem? (i := 0) (by decide +kernel))
theorem zw_s4_5 : Cond.selects RX9 yX9_rowsThere yX9_rowsThere ∈ zT := zs_4 (List.mem_of_getElem? (i := 5) (by decide +kernel))
theorem zw_t1_10 : Cond.initialized RX6 ∈ zT := zt_1 (List.mem_of_getElem? (i := 10) (by decide +kernel)) (by decide +kernel)
theorem zw_t1_152 : Cond.fieldLink RX9 377 "NameGate$Image" "isKept" "Z" ∈ zT := zt_1 (List.mem_of_getElem? (i := 152) (by decide +kernel)) (by decide +kernel)
theorem zw_t1_165 : Cond.fieldLink RX9 270 "NameGate$Image" "known" "I" ∈ zT := zt_1 (List.mem_of_getElem? (i := 165) (by decide +kernel)) (by decide +kernel)
theorem zw_t1_168 : Cond.fieldLink RX9 273 "NameGate$Image" "gone" "I" ∈ zT := zt_1 (List.mem_of_getElem? (i := 168) (by decide +kernel)) (by decide +kernel)
theorem zw_t1_59 : Cond.fieldLink RX9 357 "NameGate$Town" "gateCount" "I" ∈ zT := zt_1 (List.mem_of_getElem? (i := 59) (by decide +kernel)) (by decide +kernel)
theorem zw_t1_66 : Cond.fieldLink RX9 101 "NameGate$Town" "lines" "I" ∈ zT := zt_1 (List.mem_of_getElem? (i := 66) (by decide +kernel)) (by decide +kernel)
theorem zw_t1_71 : Cond.fieldLink RX9 360 "NameGate$Town" "falseHours" "I" ∈ zT := zt_1 (List.mem_of_getElem? (i := 71) (by decide +kernel)) (by decide +kernel)
theorem zw_t1_78 : Cond.fieldLink RX9 363 "NameGate$Town" "deep" "Z" ∈ zT := zt_1 (List.mem_of_getElem? (i := 78) (by decide +kernel)) (by decide +kernel)
theorem zw_t2_154 : Cond.fieldLink RX9 336 "NameGate$Day" "place" "I" ∈ zT := zt_2 (List.mem_of_getElem? (i := 154) (by decide +kernel)) (by decide +kernel)
theorem zw_t2_156 : Cond.fieldLink RX9 337 "NameGate$Day" "court" "I" ∈ zT := zt_2 (List.mem_of_getElem? (i := 156) (by decide +kernel)) (by decide +kernel)
theorem zw_t2_158 : Cond.fieldLink RX9 340 "NameGate$Day" "hour" "I" ∈ zT := zt_2 (List.mem_of_getElem? (i := 158) (by decide +kernel)) (by decide +kernel)
theorem zw_t2_160 : Cond.fieldLink RX9 343 "NameGate$Day" "refusals" "I" ∈ zT := zt_2 (List.mem_of_getElem? (i := 160) (by decide +kernel)) (by decide +kernel)
theorem zw_t2_194 : Cond.fieldLink RX9 24 "NameGate" "images" "[LNameGate$Image;" ∈ zT := zt_2 (List.mem_of_getElem? (i := 194) (by decide +kernel)) (by decide +kernel)
theorem zw_t2_195 : Cond.fieldLink RX9 30 "NameGate" "slots" "[LNameGate$Row;" ∈ zT := zt_2 (List.mem_of_getElem? (i := 195) (by decide +kernel)) (by decide +kernel)
theorem zw_t2_201 : Cond.fieldLink RX9 72 "NameGate" "day" "LNameGate$Day;" ∈ zT := zt_2 (List.mem_of_getElem? (i := 201) (by decide +kernel)) (by decide +kernel)
theorem zw_t5_133 : Cond.methodLink RX9 297 yX7_showsOf ∈ zT := zt_5 (List.mem_of_getElem? (i := 133) (by decide +kernel)) (by decide +kernel)
theorem zw_t5_142 : Cond.methodLink RX9 300 yX3_thought ∈ zT := zt_5 (List.mem_of_getElem? (i := 142) (by decide +kernel)) (by decide +kernel)
theorem zw_t5_143 : Cond.instanceMethod yX3_thought ∈ zT := zt_5 (List.mem_of_getElem? (i := 143) (by decide +kernel)) (by decide +kernel)
theorem zw_t5_144 : Cond.selects RX3 yX3_thought yX3_thought ∈ zT := zt_5 (List.mem_of_getElem? (i := 144) (by decide +kernel)) (by decide +kernel)
theorem zw_t5_145 : Cond.code yX3_thought cX3_thought 6 (some .int) ∈ zT := zt_5 (List.mem_of_getElem? (i := 145) (by decide +kernel)) (by decide +kernel)
theorem zw_t5_215 : Cond.methodLink RX9 333 yX9_liveBy ∈ zT := zt_5 (List.mem_of_getElem? (i := 215) (by decide +kernel)) (by decide +kernel)
theorem zw_t5_217 : Cond.instanceMethod yX9_liveBy ∈ zT := zt_5 (List.mem_of_getElem? (i := 217) (by decide +kernel)) (by decide +kernel)
theorem zw_t5_218 : Cond.code yX9_liveBy cX9_liveBy 2 (some .int) ∈ zT := zt_5 (List.mem_of_getElem? (i := 218) (by decide +kernel)) (by decide +kernel)
theorem zw_t5_219 : Cond.methodLink RX9 322 yX9_isSlot ∈ zT := zt_5 (List.mem_of_getElem? (i := 219) (by decide +kernel)) (by decide +kernel)
theorem zw_t5_220 : Cond.static yX9_isSlot ∈ zT := zt_5 (List.mem_of_getElem? (i := 220) (by decide +kernel)) (by decide +kernel)
theorem zw_t5_221 : Cond.code yX9_isSlot cX9_isSlot 1 (some .boolean) ∈ zT := zt_5 (List.mem_of_getElem? (i := 221) (by decide +kernel)) (by decide +kernel)
theorem zw_t5_222 : Cond.methodLink RX9 325 yX6_isThere ∈ zT := zt_5 (List.mem_of_getElem? (i := 222) (by decide +kernel)) (by decide +kernel)
theorem zw_t5_223 : Cond.instanceMethod yX6_isThere ∈ zT := zt_5 (List.mem_of_getElem? (i := 223) (by decide +kernel)) (by decide +kernel)
theorem zw_t5_224 : Cond.selects RX6 yX6_isThere yX6_isThere ∈ zT := zt_5 (List.mem_of_getElem? (i := 224) (by decide +kernel)) (by decide +kernel)
theorem zw_t5_225 : Cond.code yX6_isThere cX6_isThere 1 (some .boolean) ∈ zT := zt_5 (List.mem_of_getElem? (i := 225) (by decide +kernel)) (by decide +kernel)
theorem zw_t5_226 : Cond.methodLink RX9 329 yX1_live ∈ zT := zt_5 (List.mem_of_getElem? (i := 226) (by decide +kernel)) (by decide +kernel)
theorem zw_t5_227 : Cond.instanceMethod yX1_live ∈ zT := zt_5 (List.mem_of_getElem? (i := 227) (by decide +kernel)) (by decide +kernel)
theorem zw_t5_228 : Cond.selects RX1 yX1_live yX1_live ∈ zT := zt_5 (List.mem_of_getElem? (i := 228) (by decide +kernel)) (by decide +kernel)
theorem zw_t5_229 : Cond.code yX1_live cX1_live 4 none ∈ zT := zt_5 (List.mem_of_getElem? (i := 229) (by decide +kernel)) (by decide +kernel)
theorem zw_t6_14 : Cond.constant RX9 346 (2000000000) ∈ zT := zt_6 (List.mem_of_getElem? (i := 14) (by decide +kernel)) (by decide +kernel)
theorem zw_t6_15 : Cond.methodLink RX9 347 yX7_drawn ∈ zT := zt_6 (List.mem_of_getElem? (i := 15) (by decide +kernel)) (by decide +kernel)
theorem zw_t6_16 : Cond.instanceMethod yX7_drawn ∈ zT := zt_6 (List.mem_of_getElem? (i := 16) (by decide +kernel)) (by decide +kernel)
theorem zw_t6_17 : Cond.selects RX7 yX7_drawn yX7_drawn ∈ zT := zt_6 (List.mem_of_getElem? (i := 17) (by decide +kernel)) (by decide +kernel)
theorem zw_t6_18 : Cond.code yX7_drawn cX7_drawn 7 (some .int) ∈ zT := zt_6 (List.mem_of_getElem? (i := 18) (by decide +kernel)) (by decide +kernel)
theorem zw_t6_48 : Cond.methodLink RX9 367 yX9_rowsThere ∈ zT := zt_6 (List.mem_of_getElem? (i := 48) (by decide +kernel)) (by decide +kernel)
theorem zw_t6_50 : Cond.instanceMethod yX9_rowsThere ∈ zT := zt_6 (List.mem_of_getElem? (i := 50) (by decide +kernel)) (by decide +kernel)
theorem zw_t6_51 : Cond.code yX9_rowsThere cX9_rowsThere 3 (some .int) ∈ zT := zt_6 (List.mem_of_getElem? (i := 51) (by decide +kernel)) (by decide +kernel)
theorem zw_t6_56 : Cond.methodLink RX9 371 yX9_isImage ∈ zT := zt_6 (List.mem_of_getElem? (i := 56) (by decide +kernel)) (by decide +kernel)
theorem zw_t6_57 : Cond.static yX9_isImage ∈ zT := zt_6 (List.mem_of_getElem? (i := 57) (by decide +kernel)) (by decide +kernel)
theorem zw_t6_58 : Cond.code yX9_isImage cX9_isImage 1 (some .boolean) ∈ zT := zt_6 (List.mem_of_getElem? (i := 58) (by decide +kernel)) (by decide +kernel)
theorem zw_t6_59 : Cond.methodLink RX9 374 yX3_take ∈ zT := zt_6 (List.mem_of_getElem? (i := 59) (by decide +kernel)) (by decide +kernel)
theorem zw_t6_60 : Cond.instanceMethod yX3_take ∈ zT := zt_6 (List.mem_of_getElem? (i := 60) (by decide +kernel)) (by decide +kernel)
theorem zw_t6_61 : Cond.selects RX3 yX3_take yX3_take ∈ zT := zt_6 (List.mem_of_getElem? (i := 61) (by decide +kernel)) (by decide +kernel)
theorem zw_t6_62 : Cond.code yX3_take cX3_take 2 none ∈ zT := zt_6 (List.mem_of_getElem? (i := 62) (by decide +kernel)) (by decide +kernel)
def bcX9_begin_0 : List Nat := [42, 180, 0, 20, 180, 0, 106, 58, 5, 25, 5, 27, 29, 28, 182, 0, 171, 153, 0, 19, 25, 5, 21, 4, 182, 0, 126, 153, 0, 9, 29, 21, 4, 164, 0, 6, 16, 254, 172, 29, 172]
theorem bcX9_begin_0_ok : z_bys cX9_begin 0 bcX9_begin_0 = true := by decide +kernel
theorem dX9_begin_0 : decode cX9_begin 0 = .ok (.aload_n 0, 1) := zo_42 (z_byk bcX9_begin_0 0 0 _ bcX9_begin_0_ok rfl)
theorem dX9_begin_1 : decode cX9_begin 1 = .ok (.getfield 20, 3) := zo_180 (z_byk bcX9_begin_0 0 1 _ bcX9_begin_0_ok rfl) (z_byk bcX9_begin_0 0 2 _ bcX9_begin_0_ok rfl) (z_byk bcX9_begin_0 0 3 _ bcX9_begin_0_ok rfl) rfl
theorem dX9_begin_11 : decode cX9_begin 11 = .ok (.iload_n 1, 1) := zo_27 (z_byk bcX9_begin_0 0 11 _ bcX9_begin_0_ok rfl)
theorem dX9_begin_12 : decode cX9_begin 12 = .ok (.iload_n 3, 1) := zo_29 (z_byk bcX9_begin_0 0 12 _ bcX9_begin_0_ok rfl)
theorem dX9_begin_13 : decode cX9_begin 13 = .ok (.iload_n 2, 1) := zo_28 (z_byk bcX9_begin_0 0 13 _ bcX9_begin_0_ok rfl)
theorem dX9_begin_14 : decode cX9_begin 14 = .ok (.invokevirtual 171, 3) := zo_182 (z_byk bcX9_begin_0 0 14 _ bcX9_begin_0_ok rfl) (z_byk bcX9_begin_0 0 15 _ bcX9_begin_0_ok rfl) (z_byk bcX9_begin_0 0 16 _ bcX9_begin_0_ok rfl) rfl
theorem dX9_begin_17 : decode cX9_begin 17 = .ok (.ifCond .eq 19, 3) := zo_153 (z_byk bcX9_begin_0 0 17 _ bcX9_begin_0_ok rfl) (z_byk bcX9_begin_0 0 18 _ bcX9_begin_0_ok rfl) (z_byk bcX9_begin_0 0 19 _ bcX9_begin_0_ok rfl) rfl
theorem dX9_begin_20 : decode cX9_begin 20 = .ok (.aload 5, 2) := zo_25 (z_byk bcX9_begin_0 0 20 _ bcX9_begin_0_ok rfl) (z_byk bcX9_begin_0 0 21 _ bcX9_begin_0_ok rfl)
theorem dX9_begin_22 : decode cX9_begin 22 = .ok (.iload 4, 2) := zo_21 (z_byk bcX9_begin_0 0 22 _ bcX9_begin_0_ok rfl) (z_byk bcX9_begin_0 0 23 _ bcX9_begin_0_ok rfl)
theorem dX9_begin_24 : decode cX9_begin 24 = .ok (.invokevirtual 126, 3) := zo_182 (z_byk bcX9_begin_0 0 24 _ bcX9_begin_0_ok rfl) (z_byk bcX9_begin_0 0 25 _ bcX9_begin_0_ok rfl) (z_byk bcX9_begin_0 0 26 _ bcX9_begin_0_ok rfl) rfl
theorem dX9_begin_27 : decode cX9_begin 27 = .ok (.ifCond .eq 9, 3) := zo_153 (z_byk bcX9_begin_0 0 27 _ bcX9_begin_0_ok rfl) (z_byk bcX9_begin_0 0 28 _ bcX9_begin_0_ok rfl) (z_byk bcX9_begin_0 0 29 _ bcX9_begin_0_ok rfl) rfl
theorem dX9_begin_30 : decode cX9_begin 30 = .ok (.iload_n 3, 1) := zo_29 (z_byk bcX9_begin_0 0 30 _ bcX9_begin_0_ok rfl)
theorem dX9_begin_31 : decode cX9_begin 31 = .ok (.iload 4, 2) := zo_21 (z_byk bcX9_begin_0 0 31 _ bcX9_begin_0_ok rfl) (z_byk bcX9_begin_0 0 32 _ bcX9_begin_0_ok rfl)
theorem dX9_begin_33 : decode cX9_begin 33 = .ok (.if_icmp .le 6, 3) := zo_164 (z_byk bcX9_begin_0 0 33 _ bcX9_begin_0_ok rfl) (z_byk bcX9_begin_0 0 34 _ bcX9_begin_0_ok rfl) (z_byk bcX9_begin_0 0 35 _ bcX9_begin_0_ok rfl) rfl
theorem dX9_begin_36 : decode cX9_begin 36 = .ok (.bipush (-2), 2) := zo_16 (z_byk bcX9_begin_0 0 36 _ bcX9_begin_0_ok rfl) (z_byk bcX9_begin_0 0 37 _ bcX9_begin_0_ok rfl) rfl
theorem dX9_begin_38 : decode cX9_begin 38 = .ok (.ireturn, 1) := zo_172 (z_byk bcX9_begin_0 0 38 _ bcX9_begin_0_ok rfl)
theorem dX9_begin_39 : decode cX9_begin 39 = .ok (.iload_n 3, 1) := zo_29 (z_byk bcX9_begin_0 0 39 _ bcX9_begin_0_ok rfl)
theorem dX9_begin_4 : decode cX9_begin 4 = .ok (.getfield 106, 3) := zo_180 (z_byk bcX9_begin_0 0 4 _ bcX9_begin_0_ok rfl) (z_byk bcX9_begin_0 0 5 _ bcX9_begin_0_ok rfl) (z_byk bcX9_begin_0 0 6 _ bcX9_begin_0_ok rfl) rfl
theorem dX9_begin_40 : decode cX9_begin 40 = .ok (.ireturn, 1) := zo_172 (z_byk bcX9_begin_0 0 40 _ bcX9_begin_0_ok rfl)
theorem dX9_begin_7 : decode cX9_begin 7 = .ok (.astore 5, 2) := zo_58 (z_byk bcX9_begin_0 0 7 _ bcX9_begin_0_ok rfl) (z_byk bcX9_begin_0 0 8 _ bcX9_begin_0_ok rfl)
theorem dX9_begin_9 : decode cX9_begin 9 = .ok (.aload 5, 2) := zo_25 (z_byk bcX9_begin_0 0 9 _ bcX9_begin_0_ok rfl) (z_byk bcX9_begin_0 0 10 _ bcX9_begin_0_ok rfl)
def bcX9_count_0 : List Nat := [42, 180, 0, 20, 180, 0, 106, 77, 27]
theorem bcX9_count_0_ok : z_bys cX9_count 0 bcX9_count_0 = true := by decide +kernel
def bcX9_count_68 : List Nat := [44, 180, 0, 222, 172, 44, 180, 0, 219, 172, 44, 180, 1, 101, 172, 44, 180, 0, 250, 172, 44, 180, 0, 101, 172, 42, 180, 0, 77, 172, 44, 180, 0, 117, 172, 42, 180, 0, 20, 180, 1, 14, 172, 44, 180, 1, 104, 172, 44, 180, 1, 107, 153, 0, 7, 4, 167, 0, 4, 3]
theorem bcX9_count_68_ok : z_bys cX9_count 68 bcX9_count_68 = true := by decide +kernel
def bcX9_count_128 : List Nat := [172, 42, 182, 1, 111, 172, 2, 172]
theorem bcX9_count_128_ok : z_bys cX9_count 128 bcX9_count_128 = true := by decide +kernel
theorem dX9_count_0 : decode cX9_count 0 = .ok (.aload_n 0, 1) := zo_42 (z_byk bcX9_count_0 0 0 _ bcX9_count_0_ok rfl)
theorem dX9_count_1 : decode cX9_count 1 = .ok (.getfield 20, 3) := zo_180 (z_byk bcX9_count_0 0 1 _ bcX9_count_0_ok rfl) (z_byk bcX9_count_0 0 2 _ bcX9_count_0_ok rfl) (z_byk bcX9_count_0 0 3 _ bcX9_count_0_ok rfl) rfl
theorem dX9_count_102 : decode cX9_count 102 = .ok (.ireturn, 1) := zo_172 (z_byk bcX9_count_68 68 34 _ bcX9_count_68_ok rfl)
theorem dX9_count_103 : decode cX9_count 103 = .ok (.aload_n 0, 1) := zo_42 (z_byk bcX9_count_68 68 35 _ bcX9_count_68_ok rfl)
theorem dX9_count_104 : decode cX9_count 104 = .ok (.getfield 20, 3) := zo_180 (z_byk bcX9_count_68 68 36 _ bcX9_count_68_ok rfl) (z_byk bcX9_count_68 68 37 _ bcX9_count_68_ok rfl) (z_byk bcX9_count_68 68 38 _ bcX9_count_68_ok rfl) rfl
theorem dX9_count_107 : decode cX9_count 107 = .ok (.getfield 270, 3) := zo_180 (z_byk bcX9_count_68 68 39 _ bcX9_count_68_ok rfl) (z_byk bcX9_count_68 68 40 _ bcX9_count_68_ok rfl) (z_byk bcX9_count_68 68 41 _ bcX9_count_68_ok rfl) rfl
theorem dX9_count_110 : decode cX9_count 110 = .ok (.ireturn, 1) := zo_172 (z_byk bcX9_count_68 68 42 _ bcX9_count_68_ok rfl)
theorem dX9_count_111 : decode cX9_count 111 = .ok (.aload_n 2, 1) := zo_44 (z_byk bcX9_count_68 68 43 _ bcX9_count_68_ok rfl)
theorem dX9_count_112 : decode cX9_count 112 = .ok (.getfield 360, 3) := zo_180 (z_byk bcX9_count_68 68 44 _ bcX9_count_68_ok rfl) (z_byk bcX9_count_68 68 45 _ bcX9_count_68_ok rfl) (z_byk bcX9_count_68 68 46 _ bcX9_count_68_ok rfl) rfl
theorem dX9_count_115 : decode cX9_count 115 = .ok (.ireturn, 1) := zo_172 (z_byk bcX9_count_68 68 47 _ bcX9_count_68_ok rfl)
theorem dX9_count_116 : decode cX9_count 116 = .ok (.aload_n 2, 1) := zo_44 (z_byk bcX9_count_68 68 48 _ bcX9_count_68_ok rfl)
theorem dX9_count_117 : decode cX9_count 117 = .ok (.getfield 363, 3) := zo_180 (z_byk bcX9_count_68 68 49 _ bcX9_count_68_ok rfl) (z_byk bcX9_count_68 68 50 _ bcX9_count_68_ok rfl) (z_byk bcX9_count_68 68 51 _ bcX9_count_68_ok rfl) rfl
theorem dX9_count_120 : decode cX9_count 120 = .ok (.ifCond .eq 7, 3) := zo_153 (z_byk bcX9_count_68 68 52 _ bcX9_count_68_ok rfl) (z_byk bcX9_count_68 68 53 _ bcX9_count_68_ok rfl) (z_byk bcX9_count_68 68 54 _ bcX9_count_68_ok rfl) rfl
theorem dX9_count_123 : decode cX9_count 123 = .ok (.iconst 1, 1) := zo_4 (z_byk bcX9_count_68 68 55 _ bcX9_count_68_ok rfl)
theorem dX9_count_124 : decode cX9_count 124 = .ok (.goto 4, 3) := zo_167 (z_byk bcX9_count_68 68 56 _ bcX9_count_68_ok rfl) (z_byk bcX9_count_68 68 57 _ bcX9_count_68_ok rfl) (z_byk bcX9_count_68 68 58 _ bcX9_count_68_ok rfl) rfl
theorem dX9_count_127 : decode cX9_count 127 = .ok (.iconst 0, 1) := zo_3 (z_byk bcX9_count_68 68 59 _ bcX9_count_68_ok rfl)
theorem dX9_count_128 : decode cX9_count 128 = .ok (.ireturn, 1) := zo_172 (z_byk bcX9_count_128 128 0 _ bcX9_count_128_ok rfl)
theorem dX9_count_129 : decode cX9_count 129 = .ok (.aload_n 0, 1) := zo_42 (z_byk bcX9_count_128 128 1 _ bcX9_count_128_ok rfl)
theorem dX9_count_130 : decode cX9_count 130 = .ok (.invokevirtual 367, 3) := zo_182 (z_byk bcX9_count_128 128 2 _ bcX9_count_128_ok rfl) (z_byk bcX9_count_128 128 3 _ bcX9_count_128_ok rfl) (z_byk bcX9_count_128 128 4 _ bcX9_count_128_ok rfl) rfl
theorem dX9_count_133 : decode cX9_count 133 = .ok (.ireturn, 1) := zo_172 (z_byk bcX9_count_128 128 5 _ bcX9_count_128_ok rfl)
theorem dX9_count_134 : decode cX9_count 134 = .ok (.iconst (-1), 1) := zo_2 (z_byk bcX9_count_128 128 6 _ bcX9_count_128_ok rfl)
theorem dX9_count_135 : decode cX9_count 135 = .ok (.ireturn, 1) := zo_172 (z_byk bcX9_count_128 128 7 _ bcX9_count_128_ok rfl)
theorem dX9_count_4 : decode cX9_count 4 = .ok (.getfield 106, 3) := zo_180 (z_byk bcX9_count_0 0 4 _ bcX9_count_0_ok rfl) (z_byk bcX9_count_0 0 5 _ bcX9_count_0_ok rfl) (z_byk bcX9_count_0 0 6 _ bcX9_count_0_ok rfl) rfl
theorem dX9_count_68 : decode cX9_count 68 = .ok (.aload_n 2, 1) := zo_44 (z_byk bcX9_count_68 68 0 _ bcX9_count_68_ok rfl)
theorem dX9_count_69 : decode cX9_count 69 = .ok (.getfield 222, 3) := zo_180 (z_byk bcX9_count_68 68 1 _ bcX9_count_68_ok rfl) (z_byk bcX9_count_68 68 2 _ bcX9_count_68_ok rfl) (z_byk bcX9_count_68 68 3 _ bcX9_count_68_ok rfl) rfl
theorem dX9_count_7 : decode cX9_count 7 = .ok (.astore_n 2, 1) := zo_77 (z_byk bcX9_count_0 0 7 _ bcX9_count_0_ok rfl)
theorem dX9_count_72 : decode cX9_count 72 = .ok (.ireturn, 1) := zo_172 (z_byk bcX9_count_68 68 4 _ bcX9_count_68_ok rfl)
theorem dX9_count_73 : decode cX9_count 73 = .ok (.aload_n 2, 1) := zo_44 (z_byk bcX9_count_68 68 5 _ bcX9_count_68_ok rfl)
theorem dX9_count_74 : decode cX9_count 74 = .ok (.getfield 219, 3) := zo_180 (z_byk bcX9_count_68 68 6 _ bcX9_count_68_ok rfl) (z_byk bcX9_count_68 68 7 _ bcX9_count_68_ok rfl) (z_byk bcX9_count_68 68 8 _ bcX9_count_68_ok rfl) rfl
theorem dX9_count_77 : decode cX9_count 77 = .ok (.ireturn, 1) := zo_172 (z_byk bcX9_count_68 68 9 _ bcX9_count_68_ok rfl)
theorem dX9_count_78 : decode cX9_count 78 = .ok (.aload_n 2, 1) := zo_44 (z_byk bcX9_count_68 68 10 _ bcX9_count_68_ok rfl)
theorem dX9_count_79 : decode cX9_count 79 = .ok (.getfield 357, 3) := zo_180 (z_byk bcX9_count_68 68 11 _ bcX9_count_68_ok rfl) (z_byk bcX9_count_68 68 12 _ bcX9_count_68_ok rfl) (z_byk bcX9_count_68 68 13 _ bcX9_count_68_ok rfl) rfl
theorem dX9_count_8 : decode cX9_count 8 = .ok (.iload_n 1, 1) := zo_27 (z_byk bcX9_count_0 0 8 _ bcX9_count_0_ok rfl)
theorem dX9_count_82 : decode cX9_count 82 = .ok (.ireturn, 1) := zo_172 (z_byk bcX9_count_68 68 14 _ bcX9_count_68_ok rfl)
theorem dX9_count_83 : decode cX9_count 83 = .ok (.aload_n 2, 1) := zo_44 (z_byk bcX9_count_68 68 15 _ bcX9_count_68_ok rfl)
theorem dX9_count_84 : decode cX9_count 84 = .ok (.getfield 250, 3) := zo_180 (z_byk bcX9_count_68 68 16 _ bcX9_count_68_ok rfl) (z_byk bcX9_count_68 68 17 _ bcX9_count_68_ok rfl) (z_byk bcX9_count_68 68 18 _ bcX9_count_68_ok rfl) rfl
theorem dX9_count_87 : decode cX9_count 87 = .ok (.ireturn, 1) := zo_172 (z_byk bcX9_count_68 68 19 _ bcX9_count_68_ok rfl)
theorem dX9_count_88 : decode cX9_count 88 = .ok (.aload_n 2, 1) := zo_44 (z_byk bcX9_count_68 68 20 _ bcX9_count_68_ok rfl)
theorem dX9_count_89 : decode cX9_count 89 = .ok (.getfield 101, 3) := zo_180 (z_byk bcX9_count_68 68 21 _ bcX9_count_68_ok rfl) (z_byk bcX9_count_68 68 22 _ bcX9_count_68_ok rfl) (z_byk bcX9_count_68 68 23 _ bcX9_count_68_ok rfl) rfl
theorem dX9_count_9 : decode cX9_count 9 = .ok (.tableswitch 125 0 10 #[59, 64, 69, 74, 79, 84, 89, 94, 102, 107, 120], 59) := by decide +kernel
theorem dX9_count_92 : decode cX9_count 92 = .ok (.ireturn, 1) := zo_172 (z_byk bcX9_count_68 68 24 _ bcX9_count_68_ok rfl)
theorem dX9_count_93 : decode cX9_count 93 = .ok (.aload_n 0, 1) := zo_42 (z_byk bcX9_count_68 68 25 _ bcX9_count_68_ok rfl)
theorem dX9_count_94 : decode cX9_count 94 = .ok (.getfield 77, 3) := zo_180 (z_byk bcX9_count_68 68 26 _ bcX9_count_68_ok rfl) (z_byk bcX9_count_68 68 27 _ bcX9_count_68_ok rfl) (z_byk bcX9_count_68 68 28 _ bcX9_count_68_ok rfl) rfl
theorem dX9_count_97 : decode cX9_count 97 = .ok (.ireturn, 1) := zo_172 (z_byk bcX9_count_68 68 29 _ bcX9_count_68_ok rfl)
theorem dX9_count_98 : decode cX9_count 98 = .ok (.aload_n 2, 1) := zo_44 (z_byk bcX9_count_68 68 30 _ bcX9_count_68_ok rfl)
theorem dX9_count_99 : decode cX9_count 99 = .ok (.getfield 117, 3) := zo_180 (z_byk bcX9_count_68 68 31 _ bcX9_count_68_ok rfl) (z_byk bcX9_count_68 68 32 _ bcX9_count_68_ok rfl) (z_byk bcX9_count_68 68 33 _ bcX9_count_68_ok rfl) rfl
def bcX9_draw_0 : List Nat := [27, 155, 0, 23, 27, 19, 1, 90, 163, 0, 16, 42, 180, 0, 20, 180, 0, 106, 180, 0, 219, 154, 0, 6, 16, 254, 172, 42, 180, 0, 20, 180, 0, 106, 27, 133, 182, 1, 91, 172]
theorem bcX9_draw_0_ok : z_bys cX9_draw 0 bcX9_draw_0 = true := by decide +kernel
theorem dX9_draw_0 : decode cX9_draw 0 = .ok (.iload_n 1, 1) := zo_27 (z_byk bcX9_draw_0 0 0 _ bcX9_draw_0_ok rfl)
theorem dX9_draw_1 : decode cX9_draw 1 = .ok (.ifCond .lt 23, 3) := zo_155 (z_byk bcX9_draw_0 0 1 _ bcX9_draw_0_ok rfl) (z_byk bcX9_draw_0 0 2 _ bcX9_draw_0_ok rfl) (z_byk bcX9_draw_0 0 3 _ bcX9_draw_0_ok rfl) rfl
theorem dX9_draw_11 : decode cX9_draw 11 = .ok (.aload_n 0, 1) := zo_42 (z_byk bcX9_draw_0 0 11 _ bcX9_draw_0_ok rfl)
theorem dX9_draw_12 : decode cX9_draw 12 = .ok (.getfield 20, 3) := zo_180 (z_byk bcX9_draw_0 0 12 _ bcX9_draw_0_ok rfl) (z_byk bcX9_draw_0 0 13 _ bcX9_draw_0_ok rfl) (z_byk bcX9_draw_0 0 14 _ bcX9_draw_0_ok rfl) rfl
theorem dX9_draw_15 : decode cX9_draw 15 = .ok (.getfield 106, 3) := zo_180 (z_byk bcX9_draw_0 0 15 _ bcX9_draw_0_ok rfl) (z_byk bcX9_draw_0 0 16 _ bcX9_draw_0_ok rfl) (z_byk bcX9_draw_0 0 17 _ bcX9_draw_0_ok rfl) rfl
theorem dX9_draw_18 : decode cX9_draw 18 = .ok (.getfield 219, 3) := zo_180 (z_byk bcX9_draw_0 0 18 _ bcX9_draw_0_ok rfl) (z_byk bcX9_draw_0 0 19 _ bcX9_draw_0_ok rfl) (z_byk bcX9_draw_0 0 20 _ bcX9_draw_0_ok rfl) rfl
theorem dX9_draw_21 : decode cX9_draw 21 = .ok (.ifCond .ne 6, 3) := zo_154 (z_byk bcX9_draw_0 0 21 _ bcX9_draw_0_ok rfl) (z_byk bcX9_draw_0 0 22 _ bcX9_draw_0_ok rfl) (z_byk bcX9_draw_0 0 23 _ bcX9_draw_0_ok rfl) rfl
theorem dX9_draw_24 : decode cX9_draw 24 = .ok (.bipush (-2), 2) := zo_16 (z_byk bcX9_draw_0 0 24 _ bcX9_draw_0_ok rfl) (z_byk bcX9_draw_0 0 25 _ bcX9_draw_0_ok rfl) rfl
theorem dX9_draw_26 : decode cX9_draw 26 = .ok (.ireturn, 1) := zo_172 (z_byk bcX9_draw_0 0 26 _ bcX9_draw_0_ok rfl)
theorem dX9_draw_27 : decode cX9_draw 27 = .ok (.aload_n 0, 1) := zo_42 (z_byk bcX9_draw_0 0 27 _ bcX9_draw_0_ok rfl)
theorem dX9_draw_28 : decode cX9_draw 28 = .ok (.getfield 20, 3) := zo_180 (z_byk bcX9_draw_0 0 28 _ bcX9_draw_0_ok rfl) (z_byk bcX9_draw_0 0 29 _ bcX9_draw_0_ok rfl) (z_byk bcX9_draw_0 0 30 _ bcX9_draw_0_ok rfl) rfl
theorem dX9_draw_31 : decode cX9_draw 31 = .ok (.getfield 106, 3) := zo_180 (z_byk bcX9_draw_0 0 31 _ bcX9_draw_0_ok rfl) (z_byk bcX9_draw_0 0 32 _ bcX9_draw_0_ok rfl) (z_byk bcX9_draw_0 0 33 _ bcX9_draw_0_ok rfl) rfl
theorem dX9_draw_34 : decode cX9_draw 34 = .ok (.iload_n 1, 1) := zo_27 (z_byk bcX9_draw_0 0 34 _ bcX9_draw_0_ok rfl)
theorem dX9_draw_35 : decode cX9_draw 35 = .ok (.i2l, 1) := zo_133 (z_byk bcX9_draw_0 0 35 _ bcX9_draw_0_ok rfl)
theorem dX9_draw_36 : decode cX9_draw 36 = .ok (.invokevirtual 347, 3) := zo_182 (z_byk bcX9_draw_0 0 36 _ bcX9_draw_0_ok rfl) (z_byk bcX9_draw_0 0 37 _ bcX9_draw_0_ok rfl) (z_byk bcX9_draw_0 0 38 _ bcX9_draw_0_ok rfl) rfl
theorem dX9_draw_39 : decode cX9_draw 39 = .ok (.ireturn, 1) := zo_172 (z_byk bcX9_draw_0 0 39 _ bcX9_draw_0_ok rfl)
theorem dX9_draw_4 : decode cX9_draw 4 = .ok (.iload_n 1, 1) := zo_27 (z_byk bcX9_draw_0 0 4 _ bcX9_draw_0_ok rfl)
theorem dX9_draw_5 : decode cX9_draw 5 = .ok (.ldc_w 346, 3) := zo_19 (z_byk bcX9_draw_0 0 5 _ bcX9_draw_0_ok rfl) (z_byk bcX9_draw_0 0 6 _ bcX9_draw_0_ok rfl) (z_byk bcX9_draw_0 0 7 _ bcX9_draw_0_ok rfl) rfl
theorem dX9_draw_8 : decode cX9_draw 8 = .ok (.if_icmp .gt 16, 3) := zo_163 (z_byk bcX9_draw_0 0 8 _ bcX9_draw_0_ok rfl) (z_byk bcX9_draw_0 0 9 _ bcX9_draw_0_ok rfl) (z_byk bcX9_draw_0 0 10 _ bcX9_draw_0_ok rfl) rfl
def bcX9_ends_0 : List Nat := [28, 155, 0, 8, 28, 5, 164, 0, 6, 16, 254, 172, 42, 27, 182, 1, 77, 62, 29, 156, 0, 5, 29, 172, 28, 154, 0, 11, 42, 180, 0, 72, 180, 1, 81, 172, 28, 4, 160, 0, 13, 42, 180, 0, 72, 180, 1, 84, 167, 0, 10, 42, 180, 0, 72, 180, 1, 87, 172]
theorem bcX9_ends_0_ok : z_bys cX9_ends 0 bcX9_ends_0 = true := by decide +kernel
theorem dX9_ends_0 : decode cX9_ends 0 = .ok (.iload_n 2, 1) := zo_28 (z_byk bcX9_ends_0 0 0 _ bcX9_ends_0_ok rfl)
theorem dX9_ends_1 : decode cX9_ends 1 = .ok (.ifCond .lt 8, 3) := zo_155 (z_byk bcX9_ends_0 0 1 _ bcX9_ends_0_ok rfl) (z_byk bcX9_ends_0 0 2 _ bcX9_ends_0_ok rfl) (z_byk bcX9_ends_0 0 3 _ bcX9_ends_0_ok rfl) rfl
theorem dX9_ends_11 : decode cX9_ends 11 = .ok (.ireturn, 1) := zo_172 (z_byk bcX9_ends_0 0 11 _ bcX9_ends_0_ok rfl)
theorem dX9_ends_12 : decode cX9_ends 12 = .ok (.aload_n 0, 1) := zo_42 (z_byk bcX9_ends_0 0 12 _ bcX9_ends_0_ok rfl)
theorem dX9_ends_13 : decode cX9_ends 13 = .ok (.iload_n 1, 1) := zo_27 (z_byk bcX9_ends_0 0 13 _ bcX9_ends_0_ok rfl)
theorem dX9_ends_14 : decode cX9_ends 14 = .ok (.invokevirtual 333, 3) := zo_182 (z_byk bcX9_ends_0 0 14 _ bcX9_ends_0_ok rfl) (z_byk bcX9_ends_0 0 15 _ bcX9_ends_0_ok rfl) (z_byk bcX9_ends_0 0 16 _ bcX9_ends_0_ok rfl) rfl
theorem dX9_ends_17 : decode cX9_ends 17 = .ok (.istore_n 3, 1) := zo_62 (z_byk bcX9_ends_0 0 17 _ bcX9_ends_0_ok rfl)
theorem dX9_ends_18 : decode cX9_ends 18 = .ok (.iload_n 3, 1) := zo_29 (z_byk bcX9_ends_0 0 18 _ bcX9_ends_0_ok rfl)
theorem dX9_ends_19 : decode cX9_ends 19 = .ok (.ifCond .ge 5, 3) := zo_156 (z_byk bcX9_ends_0 0 19 _ bcX9_ends_0_ok rfl) (z_byk bcX9_ends_0 0 20 _ bcX9_ends_0_ok rfl) (z_byk bcX9_ends_0 0 21 _ bcX9_ends_0_ok rfl) rfl
theorem dX9_ends_22 : decode cX9_ends 22 = .ok (.iload_n 3, 1) := zo_29 (z_byk bcX9_ends_0 0 22 _ bcX9_ends_0_ok rfl)
theorem dX9_ends_23 : decode cX9_ends 23 = .ok (.ireturn, 1) := zo_172 (z_byk bcX9_ends_0 0 23 _ bcX9_ends_0_ok rfl)
theorem dX9_ends_24 : decode cX9_ends 24 = .ok (.iload_n 2, 1) := zo_28 (z_byk bcX9_ends_0 0 24 _ bcX9_ends_0_ok rfl)
theorem dX9_ends_25 : decode cX9_ends 25 = .ok (.ifCond .ne 11, 3) := zo_154 (z_byk bcX9_ends_0 0 25 _ bcX9_ends_0_ok rfl) (z_byk bcX9_ends_0 0 26 _ bcX9_ends_0_ok rfl) (z_byk bcX9_ends_0 0 27 _ bcX9_ends_0_ok rfl) rfl
theorem dX9_ends_28 : decode cX9_ends 28 = .ok (.aload_n 0, 1) := zo_42 (z_byk bcX9_ends_0 0 28 _ bcX9_ends_0_ok rfl)
theorem dX9_ends_29 : decode cX9_ends 29 = .ok (.getfield 72, 3) := zo_180 (z_byk bcX9_ends_0 0 29 _ bcX9_ends_0_ok rfl) (z_byk bcX9_ends_0 0 30 _ bcX9_ends_0_ok rfl) (z_byk bcX9_ends_0 0 31 _ bcX9_ends_0_ok rfl) rfl
theorem dX9_ends_32 : decode cX9_ends 32 = .ok (.getfield 337, 3) := zo_180 (z_byk bcX9_ends_0 0 32 _ bcX9_ends_0_ok rfl) (z_byk bcX9_ends_0 0 33 _ bcX9_ends_0_ok rfl) (z_byk bcX9_ends_0 0 34 _ bcX9_ends_0_ok rfl) rfl
theorem dX9_ends_35 : decode cX9_ends 35 = .ok (.ireturn, 1) := zo_172 (z_byk bcX9_ends_0 0 35 _ bcX9_ends_0_ok rfl)
theorem dX9_ends_36 : decode cX9_ends 36 = .ok (.iload_n 2, 1) := zo_28 (z_byk bcX9_ends_0 0 36 _ bcX9_ends_0_ok rfl)
theorem dX9_ends_37 : decode cX9_ends 37 = .ok (.iconst 1, 1) := zo_4 (z_byk bcX9_ends_0 0 37 _ bcX9_ends_0_ok rfl)
theorem dX9_ends_38 : decode cX9_ends 38 = .ok (.if_icmp .ne 13, 3) := zo_160 (z_byk bcX9_ends_0 0 38 _ bcX9_ends_0_ok rfl) (z_byk bcX9_ends_0 0 39 _ bcX9_ends_0_ok rfl) (z_byk bcX9_ends_0 0 40 _ bcX9_ends_0_ok rfl) rfl
theorem dX9_ends_4 : decode cX9_ends 4 = .ok (.iload_n 2, 1) := zo_28 (z_byk bcX9_ends_0 0 4 _ bcX9_ends_0_ok rfl)
theorem dX9_ends_41 : decode cX9_ends 41 = .ok (.aload_n 0, 1) := zo_42 (z_byk bcX9_ends_0 0 41 _ bcX9_ends_0_ok rfl)
theorem dX9_ends_42 : decode cX9_ends 42 = .ok (.getfield 72, 3) := zo_180 (z_byk bcX9_ends_0 0 42 _ bcX9_ends_0_ok rfl) (z_byk bcX9_ends_0 0 43 _ bcX9_ends_0_ok rfl) (z_byk bcX9_ends_0 0 44 _ bcX9_ends_0_ok rfl) rfl
theorem dX9_ends_45 : decode cX9_ends 45 = .ok (.getfield 340, 3) := zo_180 (z_byk bcX9_ends_0 0 45 _ bcX9_ends_0_ok rfl) (z_byk bcX9_ends_0 0 46 _ bcX9_ends_0_ok rfl) (z_byk bcX9_ends_0 0 47 _ bcX9_ends_0_ok rfl) rfl
theorem dX9_ends_48 : decode cX9_ends 48 = .ok (.goto 10, 3) := zo_167 (z_byk bcX9_ends_0 0 48 _ bcX9_ends_0_ok rfl) (z_byk bcX9_ends_0 0 49 _ bcX9_ends_0_ok rfl) (z_byk bcX9_ends_0 0 50 _ bcX9_ends_0_ok rfl) rfl
theorem dX9_ends_5 : decode cX9_ends 5 = .ok (.iconst 2, 1) := zo_5 (z_byk bcX9_ends_0 0 5 _ bcX9_ends_0_ok rfl)
theorem dX9_ends_51 : decode cX9_ends 51 = .ok (.aload_n 0, 1) := zo_42 (z_byk bcX9_ends_0 0 51 _ bcX9_ends_0_ok rfl)
theorem dX9_ends_52 : decode cX9_ends 52 = .ok (.getfield 72, 3) := zo_180 (z_byk bcX9_ends_0 0 52 _ bcX9_ends_0_ok rfl) (z_byk bcX9_ends_0 0 53 _ bcX9_ends_0_ok rfl) (z_byk bcX9_ends_0 0 54 _ bcX9_ends_0_ok rfl) rfl
theorem dX9_ends_55 : decode cX9_ends 55 = .ok (.getfield 343, 3) := zo_180 (z_byk bcX9_ends_0 0 55 _ bcX9_ends_0_ok rfl) (z_byk bcX9_ends_0 0 56 _ bcX9_ends_0_ok rfl) (z_byk bcX9_ends_0 0 57 _ bcX9_ends_0_ok rfl) rfl
theorem dX9_ends_58 : decode cX9_ends 58 = .ok (.ireturn, 1) := zo_172 (z_byk bcX9_ends_0 0 58 _ bcX9_ends_0_ok rfl)
theorem dX9_ends_6 : decode cX9_ends 6 = .ok (.if_icmp .le 6, 3) := zo_164 (z_byk bcX9_ends_0 0 6 _ bcX9_ends_0_ok rfl) (z_byk bcX9_ends_0 0 7 _ bcX9_ends_0_ok rfl) (z_byk bcX9_ends_0 0 8 _ bcX9_ends_0_ok rfl) rfl
theorem dX9_ends_9 : decode cX9_ends 9 = .ok (.bipush (-2), 2) := zo_16 (z_byk bcX9_ends_0 0 9 _ bcX9_ends_0_ok rfl) (z_byk bcX9_ends_0 0 10 _ bcX9_ends_0_ok rfl) rfl
def bcX9_forget_0 : List Nat := [42, 180, 0, 20, 180, 1, 14, 184, 0, 143, 60, 42, 180, 0, 20, 3, 181, 1, 14, 42, 180, 0, 20, 3, 181, 1, 17, 27, 172]
theorem bcX9_forget_0_ok : z_bys cX9_forget 0 bcX9_forget_0 = true := by decide +kernel
theorem dX9_forget_0 : decode cX9_forget 0 = .ok (.aload_n 0, 1) := zo_42 (z_byk bcX9_forget_0 0 0 _ bcX9_forget_0_ok rfl)
theorem dX9_forget_1 : decode cX9_forget 1 = .ok (.getfield 20, 3) := zo_180 (z_byk bcX9_forget_0 0 1 _ bcX9_forget_0_ok rfl) (z_byk bcX9_forget_0 0 2 _ bcX9_forget_0_ok rfl) (z_byk bcX9_forget_0 0 3 _ bcX9_forget_0_ok rfl) rfl
theorem dX9_forget_10 : decode cX9_forget 10 = .ok (.istore_n 1, 1) := zo_60 (z_byk bcX9_forget_0 0 10 _ bcX9_forget_0_ok rfl)
theorem dX9_forget_11 : decode cX9_forget 11 = .ok (.aload_n 0, 1) := zo_42 (z_byk bcX9_forget_0 0 11 _ bcX9_forget_0_ok rfl)
theorem dX9_forget_12 : decode cX9_forget 12 = .ok (.getfield 20, 3) := zo_180 (z_byk bcX9_forget_0 0 12 _ bcX9_forget_0_ok rfl) (z_byk bcX9_forget_0 0 13 _ bcX9_forget_0_ok rfl) (z_byk bcX9_forget_0 0 14 _ bcX9_forget_0_ok rfl) rfl
theorem dX9_forget_15 : decode cX9_forget 15 = .ok (.iconst 0, 1) := zo_3 (z_byk bcX9_forget_0 0 15 _ bcX9_forget_0_ok rfl)
theorem dX9_forget_16 : decode cX9_forget 16 = .ok (.putfield 270, 3) := zo_181 (z_byk bcX9_forget_0 0 16 _ bcX9_forget_0_ok rfl) (z_byk bcX9_forget_0 0 17 _ bcX9_forget_0_ok rfl) (z_byk bcX9_forget_0 0 18 _ bcX9_forget_0_ok rfl) rfl
theorem dX9_forget_19 : decode cX9_forget 19 = .ok (.aload_n 0, 1) := zo_42 (z_byk bcX9_forget_0 0 19 _ bcX9_forget_0_ok rfl)
theorem dX9_forget_20 : decode cX9_forget 20 = .ok (.getfield 20, 3) := zo_180 (z_byk bcX9_forget_0 0 20 _ bcX9_forget_0_ok rfl) (z_byk bcX9_forget_0 0 21 _ bcX9_forget_0_ok rfl) (z_byk bcX9_forget_0 0 22 _ bcX9_forget_0_ok rfl) rfl
theorem dX9_forget_23 : decode cX9_forget 23 = .ok (.iconst 0, 1) := zo_3 (z_byk bcX9_forget_0 0 23 _ bcX9_forget_0_ok rfl)
theorem dX9_forget_24 : decode cX9_forget 24 = .ok (.putfield 273, 3) := zo_181 (z_byk bcX9_forget_0 0 24 _ bcX9_forget_0_ok rfl) (z_byk bcX9_forget_0 0 25 _ bcX9_forget_0_ok rfl) (z_byk bcX9_forget_0 0 26 _ bcX9_forget_0_ok rfl) rfl
theorem dX9_forget_27 : decode cX9_forget 27 = .ok (.iload_n 1, 1) := zo_27 (z_byk bcX9_forget_0 0 27 _ bcX9_forget_0_ok rfl)
theorem dX9_forget_28 : decode cX9_forget 28 = .ok (.ireturn, 1) := zo_172 (z_byk bcX9_forget_0 0 28 _ bcX9_forget_0_ok rfl)
theorem dX9_forget_4 : decode cX9_forget 4 = .ok (.getfield 270, 3) := zo_180 (z_byk bcX9_forget_0 0 4 _ bcX9_forget_0_ok rfl) (z_byk bcX9_forget_0 0 5 _ bcX9_forget_0_ok rfl) (z_byk bcX9_forget_0 0 6 _ bcX9_forget_0_ok rfl) rfl
theorem dX9_forget_7 : decode cX9_forget 7 = .ok (.invokestatic 143, 3) := zo_184 (z_byk bcX9_forget_0 0 7 _ bcX9_forget_0_ok rfl) (z_byk bcX9_forget_0 0 8 _ bcX9_forget_0_ok rfl) (z_byk bcX9_forget_0 0 9 _ bcX9_forget_0_ok rfl) rfl
def bcX9_hear_0 : List Nat := [42, 180, 0, 20, 180, 0, 106, 58, 5, 25, 5, 27, 182, 0, 123, 153, 0, 21, 25, 5, 28, 182, 0, 133, 153, 0, 12, 25, 5, 29, 182, 0, 126, 154, 0, 6, 16, 254, 172, 4, 27, 120, 54, 6, 25, 5, 180, 0, 117, 27, 184, 0, 164, 153, 0, 35, 42, 180, 0, 20]
theorem bcX9_hear_0_ok : z_bys cX9_hear 0 bcX9_hear_0 = true := by decide +kernel
def bcX9_hear_60 : List Nat := [180, 1, 14, 27, 184, 0, 164, 153, 0, 17, 42, 180, 0, 20, 180, 1, 17, 27, 184, 0, 164, 153, 0, 7, 4, 167, 0, 4, 3, 54, 7, 42, 180, 0, 20, 180, 1, 14, 27, 184, 0, 164, 153, 0, 17, 42, 180, 0, 20, 180, 1, 17, 27, 184, 0, 164, 154, 0, 7, 4]
theorem bcX9_hear_60_ok : z_bys cX9_hear 60 bcX9_hear_60 = true := by decide +kernel
def bcX9_hear_120 : List Nat := [167, 0, 4, 3, 54, 8, 21, 7, 153, 0, 25, 25, 5, 27, 29, 21, 6, 182, 1, 41, 28, 184, 0, 164, 21, 4, 160, 0, 7, 4, 167, 0, 4, 3, 54, 9, 21, 8, 153, 0, 24, 25, 5, 27, 29, 3, 182, 1, 41, 28, 184, 0, 164, 21, 4, 160, 0, 7, 4, 167]
theorem bcX9_hear_120_ok : z_bys cX9_hear 120 bcX9_hear_120 = true := by decide +kernel
def bcX9_hear_180 : List Nat := [0, 4, 3, 54, 10, 21, 9, 154, 0, 11, 21, 10, 154, 0, 6, 16, 251, 172, 21, 9, 153, 0, 10, 21, 10, 153, 0, 5, 3, 172, 42, 180, 0, 20, 89, 180, 1, 14, 21, 6, 25, 5, 180, 0, 117, 126, 128, 181, 1, 14, 21, 9, 153, 0, 17, 42, 180, 0, 20, 89]
theorem bcX9_hear_180_ok : z_bys cX9_hear 180 bcX9_hear_180 = true := by decide +kernel
def bcX9_hear_240 : List Nat := [180, 1, 17, 21, 6, 128, 181, 1, 17, 4, 172]
theorem bcX9_hear_240_ok : z_bys cX9_hear 240 bcX9_hear_240 = true := by decide +kernel
theorem dX9_hear_0 : decode cX9_hear 0 = .ok (.aload_n 0, 1) := zo_42 (z_byk bcX9_hear_0 0 0 _ bcX9_hear_0_ok rfl)
theorem dX9_hear_1 : decode cX9_hear 1 = .ok (.getfield 20, 3) := zo_180 (z_byk bcX9_hear_0 0 1 _ bcX9_hear_0_ok rfl) (z_byk bcX9_hear_0 0 2 _ bcX9_hear_0_ok rfl) (z_byk bcX9_hear_0 0 3 _ bcX9_hear_0_ok rfl) rfl
theorem dX9_hear_102 : decode cX9_hear 102 = .ok (.ifCond .eq 17, 3) := zo_153 (z_byk bcX9_hear_60 60 42 _ bcX9_hear_60_ok rfl) (z_byk bcX9_hear_60 60 43 _ bcX9_hear_60_ok rfl) (z_byk bcX9_hear_60 60 44 _ bcX9_hear_60_ok rfl) rfl
theorem dX9_hear_105 : decode cX9_hear 105 = .ok (.aload_n 0, 1) := zo_42 (z_byk bcX9_hear_60 60 45 _ bcX9_hear_60_ok rfl)
theorem dX9_hear_106 : decode cX9_hear 106 = .ok (.getfield 20, 3) := zo_180 (z_byk bcX9_hear_60 60 46 _ bcX9_hear_60_ok rfl) (z_byk bcX9_hear_60 60 47 _ bcX9_hear_60_ok rfl) (z_byk bcX9_hear_60 60 48 _ bcX9_hear_60_ok rfl) rfl
theorem dX9_hear_109 : decode cX9_hear 109 = .ok (.getfield 273, 3) := zo_180 (z_byk bcX9_hear_60 60 49 _ bcX9_hear_60_ok rfl) (z_byk bcX9_hear_60 60 50 _ bcX9_hear_60_ok rfl) (z_byk bcX9_hear_60 60 51 _ bcX9_hear_60_ok rfl) rfl
theorem dX9_hear_11 : decode cX9_hear 11 = .ok (.iload_n 1, 1) := zo_27 (z_byk bcX9_hear_0 0 11 _ bcX9_hear_0_ok rfl)
theorem dX9_hear_112 : decode cX9_hear 112 = .ok (.iload_n 1, 1) := zo_27 (z_byk bcX9_hear_60 60 52 _ bcX9_hear_60_ok rfl)
theorem dX9_hear_113 : decode cX9_hear 113 = .ok (.invokestatic 164, 3) := zo_184 (z_byk bcX9_hear_60 60 53 _ bcX9_hear_60_ok rfl) (z_byk bcX9_hear_60 60 54 _ bcX9_hear_60_ok rfl) (z_byk bcX9_hear_60 60 55 _ bcX9_hear_60_ok rfl) rfl
theorem dX9_hear_116 : decode cX9_hear 116 = .ok (.ifCond .ne 7, 3) := zo_154 (z_byk bcX9_hear_60 60 56 _ bcX9_hear_60_ok rfl) (z_byk bcX9_hear_60 60 57 _ bcX9_hear_60_ok rfl) (z_byk bcX9_hear_60 60 58 _ bcX9_hear_60_ok rfl) rfl
theorem dX9_hear_119 : decode cX9_hear 119 = .ok (.iconst 1, 1) := zo_4 (z_byk bcX9_hear_60 60 59 _ bcX9_hear_60_ok rfl)
theorem dX9_hear_12 : decode cX9_hear 12 = .ok (.invokevirtual 123, 3) := zo_182 (z_byk bcX9_hear_0 0 12 _ bcX9_hear_0_ok rfl) (z_byk bcX9_hear_0 0 13 _ bcX9_hear_0_ok rfl) (z_byk bcX9_hear_0 0 14 _ bcX9_hear_0_ok rfl) rfl
theorem dX9_hear_120 : decode cX9_hear 120 = .ok (.goto 4, 3) := zo_167 (z_byk bcX9_hear_120 120 0 _ bcX9_hear_120_ok rfl) (z_byk bcX9_hear_120 120 1 _ bcX9_hear_120_ok rfl) (z_byk bcX9_hear_120 120 2 _ bcX9_hear_120_ok rfl) rfl
theorem dX9_hear_123 : decode cX9_hear 123 = .ok (.iconst 0, 1) := zo_3 (z_byk bcX9_hear_120 120 3 _ bcX9_hear_120_ok rfl)
theorem dX9_hear_124 : decode cX9_hear 124 = .ok (.istore 8, 2) := zo_54 (z_byk bcX9_hear_120 120 4 _ bcX9_hear_120_ok rfl) (z_byk bcX9_hear_120 120 5 _ bcX9_hear_120_ok rfl)
theorem dX9_hear_126 : decode cX9_hear 126 = .ok (.iload 7, 2) := zo_21 (z_byk bcX9_hear_120 120 6 _ bcX9_hear_120_ok rfl) (z_byk bcX9_hear_120 120 7 _ bcX9_hear_120_ok rfl)
theorem dX9_hear_128 : decode cX9_hear 128 = .ok (.ifCond .eq 25, 3) := zo_153 (z_byk bcX9_hear_120 120 8 _ bcX9_hear_120_ok rfl) (z_byk bcX9_hear_120 120 9 _ bcX9_hear_120_ok rfl) (z_byk bcX9_hear_120 120 10 _ bcX9_hear_120_ok rfl) rfl
theorem dX9_hear_131 : decode cX9_hear 131 = .ok (.aload 5, 2) := zo_25 (z_byk bcX9_hear_120 120 11 _ bcX9_hear_120_ok rfl) (z_byk bcX9_hear_120 120 12 _ bcX9_hear_120_ok rfl)
theorem dX9_hear_133 : decode cX9_hear 133 = .ok (.iload_n 1, 1) := zo_27 (z_byk bcX9_hear_120 120 13 _ bcX9_hear_120_ok rfl)
theorem dX9_hear_134 : decode cX9_hear 134 = .ok (.iload_n 3, 1) := zo_29 (z_byk bcX9_hear_120 120 14 _ bcX9_hear_120_ok rfl)
theorem dX9_hear_135 : decode cX9_hear 135 = .ok (.iload 6, 2) := zo_21 (z_byk bcX9_hear_120 120 15 _ bcX9_hear_120_ok rfl) (z_byk bcX9_hear_120 120 16 _ bcX9_hear_120_ok rfl)
theorem dX9_hear_137 : decode cX9_hear 137 = .ok (.invokevirtual 297, 3) := zo_182 (z_byk bcX9_hear_120 120 17 _ bcX9_hear_120_ok rfl) (z_byk bcX9_hear_120 120 18 _ bcX9_hear_120_ok rfl) (z_byk bcX9_hear_120 120 19 _ bcX9_hear_120_ok rfl) rfl
theorem dX9_hear_140 : decode cX9_hear 140 = .ok (.iload_n 2, 1) := zo_28 (z_byk bcX9_hear_120 120 20 _ bcX9_hear_120_ok rfl)
theorem dX9_hear_141 : decode cX9_hear 141 = .ok (.invokestatic 164, 3) := zo_184 (z_byk bcX9_hear_120 120 21 _ bcX9_hear_120_ok rfl) (z_byk bcX9_hear_120 120 22 _ bcX9_hear_120_ok rfl) (z_byk bcX9_hear_120 120 23 _ bcX9_hear_120_ok rfl) rfl
theorem dX9_hear_144 : decode cX9_hear 144 = .ok (.iload 4, 2) := zo_21 (z_byk bcX9_hear_120 120 24 _ bcX9_hear_120_ok rfl) (z_byk bcX9_hear_120 120 25 _ bcX9_hear_120_ok rfl)
theorem dX9_hear_146 : decode cX9_hear 146 = .ok (.if_icmp .ne 7, 3) := zo_160 (z_byk bcX9_hear_120 120 26 _ bcX9_hear_120_ok rfl) (z_byk bcX9_hear_120 120 27 _ bcX9_hear_120_ok rfl) (z_byk bcX9_hear_120 120 28 _ bcX9_hear_120_ok rfl) rfl
theorem dX9_hear_149 : decode cX9_hear 149 = .ok (.iconst 1, 1) := zo_4 (z_byk bcX9_hear_120 120 29 _ bcX9_hear_120_ok rfl)
theorem dX9_hear_15 : decode cX9_hear 15 = .ok (.ifCond .eq 21, 3) := zo_153 (z_byk bcX9_hear_0 0 15 _ bcX9_hear_0_ok rfl) (z_byk bcX9_hear_0 0 16 _ bcX9_hear_0_ok rfl) (z_byk bcX9_hear_0 0 17 _ bcX9_hear_0_ok rfl) rfl
theorem dX9_hear_150 : decode cX9_hear 150 = .ok (.goto 4, 3) := zo_167 (z_byk bcX9_hear_120 120 30 _ bcX9_hear_120_ok rfl) (z_byk bcX9_hear_120 120 31 _ bcX9_hear_120_ok rfl) (z_byk bcX9_hear_120 120 32 _ bcX9_hear_120_ok rfl) rfl
theorem dX9_hear_153 : decode cX9_hear 153 = .ok (.iconst 0, 1) := zo_3 (z_byk bcX9_hear_120 120 33 _ bcX9_hear_120_ok rfl)
theorem dX9_hear_154 : decode cX9_hear 154 = .ok (.istore 9, 2) := zo_54 (z_byk bcX9_hear_120 120 34 _ bcX9_hear_120_ok rfl) (z_byk bcX9_hear_120 120 35 _ bcX9_hear_120_ok rfl)
theorem dX9_hear_156 : decode cX9_hear 156 = .ok (.iload 8, 2) := zo_21 (z_byk bcX9_hear_120 120 36 _ bcX9_hear_120_ok rfl) (z_byk bcX9_hear_120 120 37 _ bcX9_hear_120_ok rfl)
theorem dX9_hear_158 : decode cX9_hear 158 = .ok (.ifCond .eq 24, 3) := zo_153 (z_byk bcX9_hear_120 120 38 _ bcX9_hear_120_ok rfl) (z_byk bcX9_hear_120 120 39 _ bcX9_hear_120_ok rfl) (z_byk bcX9_hear_120 120 40 _ bcX9_hear_120_ok rfl) rfl
theorem dX9_hear_161 : decode cX9_hear 161 = .ok (.aload 5, 2) := zo_25 (z_byk bcX9_hear_120 120 41 _ bcX9_hear_120_ok rfl) (z_byk bcX9_hear_120 120 42 _ bcX9_hear_120_ok rfl)
theorem dX9_hear_163 : decode cX9_hear 163 = .ok (.iload_n 1, 1) := zo_27 (z_byk bcX9_hear_120 120 43 _ bcX9_hear_120_ok rfl)
theorem dX9_hear_164 : decode cX9_hear 164 = .ok (.iload_n 3, 1) := zo_29 (z_byk bcX9_hear_120 120 44 _ bcX9_hear_120_ok rfl)
theorem dX9_hear_165 : decode cX9_hear 165 = .ok (.iconst 0, 1) := zo_3 (z_byk bcX9_hear_120 120 45 _ bcX9_hear_120_ok rfl)
theorem dX9_hear_166 : decode cX9_hear 166 = .ok (.invokevirtual 297, 3) := zo_182 (z_byk bcX9_hear_120 120 46 _ bcX9_hear_120_ok rfl) (z_byk bcX9_hear_120 120 47 _ bcX9_hear_120_ok rfl) (z_byk bcX9_hear_120 120 48 _ bcX9_hear_120_ok rfl) rfl
theorem dX9_hear_169 : decode cX9_hear 169 = .ok (.iload_n 2, 1) := zo_28 (z_byk bcX9_hear_120 120 49 _ bcX9_hear_120_ok rfl)
theorem dX9_hear_170 : decode cX9_hear 170 = .ok (.invokestatic 164, 3) := zo_184 (z_byk bcX9_hear_120 120 50 _ bcX9_hear_120_ok rfl) (z_byk bcX9_hear_120 120 51 _ bcX9_hear_120_ok rfl) (z_byk bcX9_hear_120 120 52 _ bcX9_hear_120_ok rfl) rfl
theorem dX9_hear_173 : decode cX9_hear 173 = .ok (.iload 4, 2) := zo_21 (z_byk bcX9_hear_120 120 53 _ bcX9_hear_120_ok rfl) (z_byk bcX9_hear_120 120 54 _ bcX9_hear_120_ok rfl)
theorem dX9_hear_175 : decode cX9_hear 175 = .ok (.if_icmp .ne 7, 3) := zo_160 (z_byk bcX9_hear_120 120 55 _ bcX9_hear_120_ok rfl) (z_byk bcX9_hear_120 120 56 _ bcX9_hear_120_ok rfl) (z_byk bcX9_hear_120 120 57 _ bcX9_hear_120_ok rfl) rfl
theorem dX9_hear_178 : decode cX9_hear 178 = .ok (.iconst 1, 1) := zo_4 (z_byk bcX9_hear_120 120 58 _ bcX9_hear_120_ok rfl)
theorem dX9_hear_179 : decode cX9_hear 179 = .ok (.goto 4, 3) := zo_167 (z_byk bcX9_hear_120 120 59 _ bcX9_hear_120_ok rfl) (z_byk bcX9_hear_180 180 0 _ bcX9_hear_180_ok rfl) (z_byk bcX9_hear_180 180 1 _ bcX9_hear_180_ok rfl) rfl
theorem dX9_hear_18 : decode cX9_hear 18 = .ok (.aload 5, 2) := zo_25 (z_byk bcX9_hear_0 0 18 _ bcX9_hear_0_ok rfl) (z_byk bcX9_hear_0 0 19 _ bcX9_hear_0_ok rfl)
theorem dX9_hear_182 : decode cX9_hear 182 = .ok (.iconst 0, 1) := zo_3 (z_byk bcX9_hear_180 180 2 _ bcX9_hear_180_ok rfl)
theorem dX9_hear_183 : decode cX9_hear 183 = .ok (.istore 10, 2) := zo_54 (z_byk bcX9_hear_180 180 3 _ bcX9_hear_180_ok rfl) (z_byk bcX9_hear_180 180 4 _ bcX9_hear_180_ok rfl)
theorem dX9_hear_185 : decode cX9_hear 185 = .ok (.iload 9, 2) := zo_21 (z_byk bcX9_hear_180 180 5 _ bcX9_hear_180_ok rfl) (z_byk bcX9_hear_180 180 6 _ bcX9_hear_180_ok rfl)
theorem dX9_hear_187 : decode cX9_hear 187 = .ok (.ifCond .ne 11, 3) := zo_154 (z_byk bcX9_hear_180 180 7 _ bcX9_hear_180_ok rfl) (z_byk bcX9_hear_180 180 8 _ bcX9_hear_180_ok rfl) (z_byk bcX9_hear_180 180 9 _ bcX9_hear_180_ok rfl) rfl
theorem dX9_hear_190 : decode cX9_hear 190 = .ok (.iload 10, 2) := zo_21 (z_byk bcX9_hear_180 180 10 _ bcX9_hear_180_ok rfl) (z_byk bcX9_hear_180 180 11 _ bcX9_hear_180_ok rfl)
theorem dX9_hear_192 : decode cX9_hear 192 = .ok (.ifCond .ne 6, 3) := zo_154 (z_byk bcX9_hear_180 180 12 _ bcX9_hear_180_ok rfl) (z_byk bcX9_hear_180 180 13 _ bcX9_hear_180_ok rfl) (z_byk bcX9_hear_180 180 14 _ bcX9_hear_180_ok rfl) rfl
theorem dX9_hear_195 : decode cX9_hear 195 = .ok (.bipush (-5), 2) := zo_16 (z_byk bcX9_hear_180 180 15 _ bcX9_hear_180_ok rfl) (z_byk bcX9_hear_180 180 16 _ bcX9_hear_180_ok rfl) rfl
theorem dX9_hear_197 : decode cX9_hear 197 = .ok (.ireturn, 1) := zo_172 (z_byk bcX9_hear_180 180 17 _ bcX9_hear_180_ok rfl)
theorem dX9_hear_198 : decode cX9_hear 198 = .ok (.iload 9, 2) := zo_21 (z_byk bcX9_hear_180 180 18 _ bcX9_hear_180_ok rfl) (z_byk bcX9_hear_180 180 19 _ bcX9_hear_180_ok rfl)
theorem dX9_hear_20 : decode cX9_hear 20 = .ok (.iload_n 2, 1) := zo_28 (z_byk bcX9_hear_0 0 20 _ bcX9_hear_0_ok rfl)
theorem dX9_hear_200 : decode cX9_hear 200 = .ok (.ifCond .eq 10, 3) := zo_153 (z_byk bcX9_hear_180 180 20 _ bcX9_hear_180_ok rfl) (z_byk bcX9_hear_180 180 21 _ bcX9_hear_180_ok rfl) (z_byk bcX9_hear_180 180 22 _ bcX9_hear_180_ok rfl) rfl
theorem dX9_hear_203 : decode cX9_hear 203 = .ok (.iload 10, 2) := zo_21 (z_byk bcX9_hear_180 180 23 _ bcX9_hear_180_ok rfl) (z_byk bcX9_hear_180 180 24 _ bcX9_hear_180_ok rfl)
theorem dX9_hear_205 : decode cX9_hear 205 = .ok (.ifCond .eq 5, 3) := zo_153 (z_byk bcX9_hear_180 180 25 _ bcX9_hear_180_ok rfl) (z_byk bcX9_hear_180 180 26 _ bcX9_hear_180_ok rfl) (z_byk bcX9_hear_180 180 27 _ bcX9_hear_180_ok rfl) rfl
theorem dX9_hear_208 : decode cX9_hear 208 = .ok (.iconst 0, 1) := zo_3 (z_byk bcX9_hear_180 180 28 _ bcX9_hear_180_ok rfl)
theorem dX9_hear_209 : decode cX9_hear 209 = .ok (.ireturn, 1) := zo_172 (z_byk bcX9_hear_180 180 29 _ bcX9_hear_180_ok rfl)
theorem dX9_hear_21 : decode cX9_hear 21 = .ok (.invokevirtual 133, 3) := zo_182 (z_byk bcX9_hear_0 0 21 _ bcX9_hear_0_ok rfl) (z_byk bcX9_hear_0 0 22 _ bcX9_hear_0_ok rfl) (z_byk bcX9_hear_0 0 23 _ bcX9_hear_0_ok rfl) rfl
theorem dX9_hear_210 : decode cX9_hear 210 = .ok (.aload_n 0, 1) := zo_42 (z_byk bcX9_hear_180 180 30 _ bcX9_hear_180_ok rfl)
theorem dX9_hear_211 : decode cX9_hear 211 = .ok (.getfield 20, 3) := zo_180 (z_byk bcX9_hear_180 180 31 _ bcX9_hear_180_ok rfl) (z_byk bcX9_hear_180 180 32 _ bcX9_hear_180_ok rfl) (z_byk bcX9_hear_180 180 33 _ bcX9_hear_180_ok rfl) rfl
theorem dX9_hear_214 : decode cX9_hear 214 = .ok (.dup, 1) := zo_89 (z_byk bcX9_hear_180 180 34 _ bcX9_hear_180_ok rfl)
theorem dX9_hear_215 : decode cX9_hear 215 = .ok (.getfield 270, 3) := zo_180 (z_byk bcX9_hear_180 180 35 _ bcX9_hear_180_ok rfl) (z_byk bcX9_hear_180 180 36 _ bcX9_hear_180_ok rfl) (z_byk bcX9_hear_180 180 37 _ bcX9_hear_180_ok rfl) rfl
theorem dX9_hear_218 : decode cX9_hear 218 = .ok (.iload 6, 2) := zo_21 (z_byk bcX9_hear_180 180 38 _ bcX9_hear_180_ok rfl) (z_byk bcX9_hear_180 180 39 _ bcX9_hear_180_ok rfl)
theorem dX9_hear_220 : decode cX9_hear 220 = .ok (.aload 5, 2) := zo_25 (z_byk bcX9_hear_180 180 40 _ bcX9_hear_180_ok rfl) (z_byk bcX9_hear_180 180 41 _ bcX9_hear_180_ok rfl)
theorem dX9_hear_222 : decode cX9_hear 222 = .ok (.getfield 117, 3) := zo_180 (z_byk bcX9_hear_180 180 42 _ bcX9_hear_180_ok rfl) (z_byk bcX9_hear_180 180 43 _ bcX9_hear_180_ok rfl) (z_byk bcX9_hear_180 180 44 _ bcX9_hear_180_ok rfl) rfl
theorem dX9_hear_225 : decode cX9_hear 225 = .ok (.iand, 1) := zo_126 (z_byk bcX9_hear_180 180 45 _ bcX9_hear_180_ok rfl)
theorem dX9_hear_226 : decode cX9_hear 226 = .ok (.ior, 1) := zo_128 (z_byk bcX9_hear_180 180 46 _ bcX9_hear_180_ok rfl)
theorem dX9_hear_227 : decode cX9_hear 227 = .ok (.putfield 270, 3) := zo_181 (z_byk bcX9_hear_180 180 47 _ bcX9_hear_180_ok rfl) (z_byk bcX9_hear_180 180 48 _ bcX9_hear_180_ok rfl) (z_byk bcX9_hear_180 180 49 _ bcX9_hear_180_ok rfl) rfl
theorem dX9_hear_230 : decode cX9_hear 230 = .ok (.iload 9, 2) := zo_21 (z_byk bcX9_hear_180 180 50 _ bcX9_hear_180_ok rfl) (z_byk bcX9_hear_180 180 51 _ bcX9_hear_180_ok rfl)
theorem dX9_hear_232 : decode cX9_hear 232 = .ok (.ifCond .eq 17, 3) := zo_153 (z_byk bcX9_hear_180 180 52 _ bcX9_hear_180_ok rfl) (z_byk bcX9_hear_180 180 53 _ bcX9_hear_180_ok rfl) (z_byk bcX9_hear_180 180 54 _ bcX9_hear_180_ok rfl) rfl
theorem dX9_hear_235 : decode cX9_hear 235 = .ok (.aload_n 0, 1) := zo_42 (z_byk bcX9_hear_180 180 55 _ bcX9_hear_180_ok rfl)
theorem dX9_hear_236 : decode cX9_hear 236 = .ok (.getfield 20, 3) := zo_180 (z_byk bcX9_hear_180 180 56 _ bcX9_hear_180_ok rfl) (z_byk bcX9_hear_180 180 57 _ bcX9_hear_180_ok rfl) (z_byk bcX9_hear_180 180 58 _ bcX9_hear_180_ok rfl) rfl
theorem dX9_hear_239 : decode cX9_hear 239 = .ok (.dup, 1) := zo_89 (z_byk bcX9_hear_180 180 59 _ bcX9_hear_180_ok rfl)
theorem dX9_hear_24 : decode cX9_hear 24 = .ok (.ifCond .eq 12, 3) := zo_153 (z_byk bcX9_hear_0 0 24 _ bcX9_hear_0_ok rfl) (z_byk bcX9_hear_0 0 25 _ bcX9_hear_0_ok rfl) (z_byk bcX9_hear_0 0 26 _ bcX9_hear_0_ok rfl) rfl
theorem dX9_hear_240 : decode cX9_hear 240 = .ok (.getfield 273, 3) := zo_180 (z_byk bcX9_hear_240 240 0 _ bcX9_hear_240_ok rfl) (z_byk bcX9_hear_240 240 1 _ bcX9_hear_240_ok rfl) (z_byk bcX9_hear_240 240 2 _ bcX9_hear_240_ok rfl) rfl
theorem dX9_hear_243 : decode cX9_hear 243 = .ok (.iload 6, 2) := zo_21 (z_byk bcX9_hear_240 240 3 _ bcX9_hear_240_ok rfl) (z_byk bcX9_hear_240 240 4 _ bcX9_hear_240_ok rfl)
theorem dX9_hear_245 : decode cX9_hear 245 = .ok (.ior, 1) := zo_128 (z_byk bcX9_hear_240 240 5 _ bcX9_hear_240_ok rfl)
theorem dX9_hear_246 : decode cX9_hear 246 = .ok (.putfield 273, 3) := zo_181 (z_byk bcX9_hear_240 240 6 _ bcX9_hear_240_ok rfl) (z_byk bcX9_hear_240 240 7 _ bcX9_hear_240_ok rfl) (z_byk bcX9_hear_240 240 8 _ bcX9_hear_240_ok rfl) rfl
theorem dX9_hear_249 : decode cX9_hear 249 = .ok (.iconst 1, 1) := zo_4 (z_byk bcX9_hear_240 240 9 _ bcX9_hear_240_ok rfl)
theorem dX9_hear_250 : decode cX9_hear 250 = .ok (.ireturn, 1) := zo_172 (z_byk bcX9_hear_240 240 10 _ bcX9_hear_240_ok rfl)
theorem dX9_hear_27 : decode cX9_hear 27 = .ok (.aload 5, 2) := zo_25 (z_byk bcX9_hear_0 0 27 _ bcX9_hear_0_ok rfl) (z_byk bcX9_hear_0 0 28 _ bcX9_hear_0_ok rfl)
theorem dX9_hear_29 : decode cX9_hear 29 = .ok (.iload_n 3, 1) := zo_29 (z_byk bcX9_hear_0 0 29 _ bcX9_hear_0_ok rfl)
theorem dX9_hear_30 : decode cX9_hear 30 = .ok (.invokevirtual 126, 3) := zo_182 (z_byk bcX9_hear_0 0 30 _ bcX9_hear_0_ok rfl) (z_byk bcX9_hear_0 0 31 _ bcX9_hear_0_ok rfl) (z_byk bcX9_hear_0 0 32 _ bcX9_hear_0_ok rfl) rfl
theorem dX9_hear_33 : decode cX9_hear 33 = .ok (.ifCond .ne 6, 3) := zo_154 (z_byk bcX9_hear_0 0 33 _ bcX9_hear_0_ok rfl) (z_byk bcX9_hear_0 0 34 _ bcX9_hear_0_ok rfl) (z_byk bcX9_hear_0 0 35 _ bcX9_hear_0_ok rfl) rfl
theorem dX9_hear_36 : decode cX9_hear 36 = .ok (.bipush (-2), 2) := zo_16 (z_byk bcX9_hear_0 0 36 _ bcX9_hear_0_ok rfl) (z_byk bcX9_hear_0 0 37 _ bcX9_hear_0_ok rfl) rfl
theorem dX9_hear_38 : decode cX9_hear 38 = .ok (.ireturn, 1) := zo_172 (z_byk bcX9_hear_0 0 38 _ bcX9_hear_0_ok rfl)
theorem dX9_hear_39 : decode cX9_hear 39 = .ok (.iconst 1, 1) := zo_4 (z_byk bcX9_hear_0 0 39 _ bcX9_hear_0_ok rfl)
theorem dX9_hear_4 : decode cX9_hear 4 = .ok (.getfield 106, 3) := zo_180 (z_byk bcX9_hear_0 0 4 _ bcX9_hear_0_ok rfl) (z_byk bcX9_hear_0 0 5 _ bcX9_hear_0_ok rfl) (z_byk bcX9_hear_0 0 6 _ bcX9_hear_0_ok rfl) rfl
theorem dX9_hear_40 : decode cX9_hear 40 = .ok (.iload_n 1, 1) := zo_27 (z_byk bcX9_hear_0 0 40 _ bcX9_hear_0_ok rfl)
theorem dX9_hear_41 : decode cX9_hear 41 = .ok (.ishl, 1) := zo_120 (z_byk bcX9_hear_0 0 41 _ bcX9_hear_0_ok rfl)
theorem dX9_hear_42 : decode cX9_hear 42 = .ok (.istore 6, 2) := zo_54 (z_byk bcX9_hear_0 0 42 _ bcX9_hear_0_ok rfl) (z_byk bcX9_hear_0 0 43 _ bcX9_hear_0_ok rfl)
theorem dX9_hear_44 : decode cX9_hear 44 = .ok (.aload 5, 2) := zo_25 (z_byk bcX9_hear_0 0 44 _ bcX9_hear_0_ok rfl) (z_byk bcX9_hear_0 0 45 _ bcX9_hear_0_ok rfl)
theorem dX9_hear_46 : decode cX9_hear 46 = .ok (.getfield 117, 3) := zo_180 (z_byk bcX9_hear_0 0 46 _ bcX9_hear_0_ok rfl) (z_byk bcX9_hear_0 0 47 _ bcX9_hear_0_ok rfl) (z_byk bcX9_hear_0 0 48 _ bcX9_hear_0_ok rfl) rfl
theorem dX9_hear_49 : decode cX9_hear 49 = .ok (.iload_n 1, 1) := zo_27 (z_byk bcX9_hear_0 0 49 _ bcX9_hear_0_ok rfl)
theorem dX9_hear_50 : decode cX9_hear 50 = .ok (.invokestatic 164, 3) := zo_184 (z_byk bcX9_hear_0 0 50 _ bcX9_hear_0_ok rfl) (z_byk bcX9_hear_0 0 51 _ bcX9_hear_0_ok rfl) (z_byk bcX9_hear_0 0 52 _ bcX9_hear_0_ok rfl) rfl
theorem dX9_hear_53 : decode cX9_hear 53 = .ok (.ifCond .eq 35, 3) := zo_153 (z_byk bcX9_hear_0 0 53 _ bcX9_hear_0_ok rfl) (z_byk bcX9_hear_0 0 54 _ bcX9_hear_0_ok rfl) (z_byk bcX9_hear_0 0 55 _ bcX9_hear_0_ok rfl) rfl
theorem dX9_hear_56 : decode cX9_hear 56 = .ok (.aload_n 0, 1) := zo_42 (z_byk bcX9_hear_0 0 56 _ bcX9_hear_0_ok rfl)
theorem dX9_hear_57 : decode cX9_hear 57 = .ok (.getfield 20, 3) := zo_180 (z_byk bcX9_hear_0 0 57 _ bcX9_hear_0_ok rfl) (z_byk bcX9_hear_0 0 58 _ bcX9_hear_0_ok rfl) (z_byk bcX9_hear_0 0 59 _ bcX9_hear_0_ok rfl) rfl
theorem dX9_hear_60 : decode cX9_hear 60 = .ok (.getfield 270, 3) := zo_180 (z_byk bcX9_hear_60 60 0 _ bcX9_hear_60_ok rfl) (z_byk bcX9_hear_60 60 1 _ bcX9_hear_60_ok rfl) (z_byk bcX9_hear_60 60 2 _ bcX9_hear_60_ok rfl) rfl
theorem dX9_hear_63 : decode cX9_hear 63 = .ok (.iload_n 1, 1) := zo_27 (z_byk bcX9_hear_60 60 3 _ bcX9_hear_60_ok rfl)
theorem dX9_hear_64 : decode cX9_hear 64 = .ok (.invokestatic 164, 3) := zo_184 (z_byk bcX9_hear_60 60 4 _ bcX9_hear_60_ok rfl) (z_byk bcX9_hear_60 60 5 _ bcX9_hear_60_ok rfl) (z_byk bcX9_hear_60 60 6 _ bcX9_hear_60_ok rfl) rfl
theorem dX9_hear_67 : decode cX9_hear 67 = .ok (.ifCond .eq 17, 3) := zo_153 (z_byk bcX9_hear_60 60 7 _ bcX9_hear_60_ok rfl) (z_byk bcX9_hear_60 60 8 _ bcX9_hear_60_ok rfl) (z_byk bcX9_hear_60 60 9 _ bcX9_hear_60_ok rfl) rfl
theorem dX9_hear_7 : decode cX9_hear 7 = .ok (.astore 5, 2) := zo_58 (z_byk bcX9_hear_0 0 7 _ bcX9_hear_0_ok rfl) (z_byk bcX9_hear_0 0 8 _ bcX9_hear_0_ok rfl)
theorem dX9_hear_70 : decode cX9_hear 70 = .ok (.aload_n 0, 1) := zo_42 (z_byk bcX9_hear_60 60 10 _ bcX9_hear_60_ok rfl)
theorem dX9_hear_71 : decode cX9_hear 71 = .ok (.getfield 20, 3) := zo_180 (z_byk bcX9_hear_60 60 11 _ bcX9_hear_60_ok rfl) (z_byk bcX9_hear_60 60 12 _ bcX9_hear_60_ok rfl) (z_byk bcX9_hear_60 60 13 _ bcX9_hear_60_ok rfl) rfl
theorem dX9_hear_74 : decode cX9_hear 74 = .ok (.getfield 273, 3) := zo_180 (z_byk bcX9_hear_60 60 14 _ bcX9_hear_60_ok rfl) (z_byk bcX9_hear_60 60 15 _ bcX9_hear_60_ok rfl) (z_byk bcX9_hear_60 60 16 _ bcX9_hear_60_ok rfl) rfl
theorem dX9_hear_77 : decode cX9_hear 77 = .ok (.iload_n 1, 1) := zo_27 (z_byk bcX9_hear_60 60 17 _ bcX9_hear_60_ok rfl)
theorem dX9_hear_78 : decode cX9_hear 78 = .ok (.invokestatic 164, 3) := zo_184 (z_byk bcX9_hear_60 60 18 _ bcX9_hear_60_ok rfl) (z_byk bcX9_hear_60 60 19 _ bcX9_hear_60_ok rfl) (z_byk bcX9_hear_60 60 20 _ bcX9_hear_60_ok rfl) rfl
theorem dX9_hear_81 : decode cX9_hear 81 = .ok (.ifCond .eq 7, 3) := zo_153 (z_byk bcX9_hear_60 60 21 _ bcX9_hear_60_ok rfl) (z_byk bcX9_hear_60 60 22 _ bcX9_hear_60_ok rfl) (z_byk bcX9_hear_60 60 23 _ bcX9_hear_60_ok rfl) rfl
theorem dX9_hear_84 : decode cX9_hear 84 = .ok (.iconst 1, 1) := zo_4 (z_byk bcX9_hear_60 60 24 _ bcX9_hear_60_ok rfl)
theorem dX9_hear_85 : decode cX9_hear 85 = .ok (.goto 4, 3) := zo_167 (z_byk bcX9_hear_60 60 25 _ bcX9_hear_60_ok rfl) (z_byk bcX9_hear_60 60 26 _ bcX9_hear_60_ok rfl) (z_byk bcX9_hear_60 60 27 _ bcX9_hear_60_ok rfl) rfl
theorem dX9_hear_88 : decode cX9_hear 88 = .ok (.iconst 0, 1) := zo_3 (z_byk bcX9_hear_60 60 28 _ bcX9_hear_60_ok rfl)
theorem dX9_hear_89 : decode cX9_hear 89 = .ok (.istore 7, 2) := zo_54 (z_byk bcX9_hear_60 60 29 _ bcX9_hear_60_ok rfl) (z_byk bcX9_hear_60 60 30 _ bcX9_hear_60_ok rfl)
theorem dX9_hear_9 : decode cX9_hear 9 = .ok (.aload 5, 2) := zo_25 (z_byk bcX9_hear_0 0 9 _ bcX9_hear_0_ok rfl) (z_byk bcX9_hear_0 0 10 _ bcX9_hear_0_ok rfl)
theorem dX9_hear_91 : decode cX9_hear 91 = .ok (.aload_n 0, 1) := zo_42 (z_byk bcX9_hear_60 60 31 _ bcX9_hear_60_ok rfl)
theorem dX9_hear_92 : decode cX9_hear 92 = .ok (.getfield 20, 3) := zo_180 (z_byk bcX9_hear_60 60 32 _ bcX9_hear_60_ok rfl) (z_byk bcX9_hear_60 60 33 _ bcX9_hear_60_ok rfl) (z_byk bcX9_hear_60 60 34 _ bcX9_hear_60_ok rfl) rfl
theorem dX9_hear_95 : decode cX9_hear 95 = .ok (.getfield 270, 3) := zo_180 (z_byk bcX9_hear_60 60 35 _ bcX9_hear_60_ok rfl) (z_byk bcX9_hear_60 60 36 _ bcX9_hear_60_ok rfl) (z_byk bcX9_hear_60 60 37 _ bcX9_hear_60_ok rfl) rfl
theorem dX9_hear_98 : decode cX9_hear 98 = .ok (.iload_n 1, 1) := zo_27 (z_byk bcX9_hear_60 60 38 _ bcX9_hear_60_ok rfl)
theorem dX9_hear_99 : decode cX9_hear 99 = .ok (.invokestatic 164, 3) := zo_184 (z_byk bcX9_hear_60 60 39 _ bcX9_hear_60_ok rfl) (z_byk bcX9_hear_60 60 40 _ bcX9_hear_60_ok rfl) (z_byk bcX9_hear_60 60 41 _ bcX9_hear_60_ok rfl) rfl
def bcX9_judge_0 : List Nat := [42, 27, 182, 1, 77, 61, 28, 156, 0, 7, 28, 167, 0, 10, 42, 180, 0, 72, 180, 1, 80, 172]
theorem bcX9_judge_0_ok : z_bys cX9_judge 0 bcX9_judge_0 = true := by decide +kernel
theorem dX9_judge_0 : decode cX9_judge 0 = .ok (.aload_n 0, 1) := zo_42 (z_byk bcX9_judge_0 0 0 _ bcX9_judge_0_ok rfl)
theorem dX9_judge_1 : decode cX9_judge 1 = .ok (.iload_n 1, 1) := zo_27 (z_byk bcX9_judge_0 0 1 _ bcX9_judge_0_ok rfl)
theorem dX9_judge_10 : decode cX9_judge 10 = .ok (.iload_n 2, 1) := zo_28 (z_byk bcX9_judge_0 0 10 _ bcX9_judge_0_ok rfl)
theorem dX9_judge_11 : decode cX9_judge 11 = .ok (.goto 10, 3) := zo_167 (z_byk bcX9_judge_0 0 11 _ bcX9_judge_0_ok rfl) (z_byk bcX9_judge_0 0 12 _ bcX9_judge_0_ok rfl) (z_byk bcX9_judge_0 0 13 _ bcX9_judge_0_ok rfl) rfl
theorem dX9_judge_14 : decode cX9_judge 14 = .ok (.aload_n 0, 1) := zo_42 (z_byk bcX9_judge_0 0 14 _ bcX9_judge_0_ok rfl)
theorem dX9_judge_15 : decode cX9_judge 15 = .ok (.getfield 72, 3) := zo_180 (z_byk bcX9_judge_0 0 15 _ bcX9_judge_0_ok rfl) (z_byk bcX9_judge_0 0 16 _ bcX9_judge_0_ok rfl) (z_byk bcX9_judge_0 0 17 _ bcX9_judge_0_ok rfl) rfl
theorem dX9_judge_18 : decode cX9_judge 18 = .ok (.getfield 336, 3) := zo_180 (z_byk bcX9_judge_0 0 18 _ bcX9_judge_0_ok rfl) (z_byk bcX9_judge_0 0 19 _ bcX9_judge_0_ok rfl) (z_byk bcX9_judge_0 0 20 _ bcX9_judge_0_ok rfl) rfl
theorem dX9_judge_2 : decode cX9_judge 2 = .ok (.invokevirtual 333, 3) := zo_182 (z_byk bcX9_judge_0 0 2 _ bcX9_judge_0_ok rfl) (z_byk bcX9_judge_0 0 3 _ bcX9_judge_0_ok rfl) (z_byk bcX9_judge_0 0 4 _ bcX9_judge_0_ok rfl) rfl
theorem dX9_judge_21 : decode cX9_judge 21 = .ok (.ireturn, 1) := zo_172 (z_byk bcX9_judge_0 0 21 _ bcX9_judge_0_ok rfl)
theorem dX9_judge_5 : decode cX9_judge 5 = .ok (.istore_n 2, 1) := zo_61 (z_byk bcX9_judge_0 0 5 _ bcX9_judge_0_ok rfl)
theorem dX9_judge_6 : decode cX9_judge 6 = .ok (.iload_n 2, 1) := zo_28 (z_byk bcX9_judge_0 0 6 _ bcX9_judge_0_ok rfl)
theorem dX9_judge_7 : decode cX9_judge 7 = .ok (.ifCond .ge 7, 3) := zo_156 (z_byk bcX9_judge_0 0 7 _ bcX9_judge_0_ok rfl) (z_byk bcX9_judge_0 0 8 _ bcX9_judge_0_ok rfl) (z_byk bcX9_judge_0 0 9 _ bcX9_judge_0_ok rfl) rfl
def bcX9_keep_0 : List Nat := [27, 184, 1, 115, 154, 0, 6, 16, 254, 172, 42, 180, 0, 24, 27, 50, 42, 180, 0, 20, 182, 1, 118, 42, 180, 0, 24, 27, 50, 4, 181, 1, 121, 3, 172]
theorem bcX9_keep_0_ok : z_bys cX9_keep 0 bcX9_keep_0 = true := by decide +kernel
theorem dX9_keep_0 : decode cX9_keep 0 = .ok (.iload_n 1, 1) := zo_27 (z_byk bcX9_keep_0 0 0 _ bcX9_keep_0_ok rfl)
theorem dX9_keep_1 : decode cX9_keep 1 = .ok (.invokestatic 371, 3) := zo_184 (z_byk bcX9_keep_0 0 1 _ bcX9_keep_0_ok rfl) (z_byk bcX9_keep_0 0 2 _ bcX9_keep_0_ok rfl) (z_byk bcX9_keep_0 0 3 _ bcX9_keep_0_ok rfl) rfl
theorem dX9_keep_10 : decode cX9_keep 10 = .ok (.aload_n 0, 1) := zo_42 (z_byk bcX9_keep_0 0 10 _ bcX9_keep_0_ok rfl)
theorem dX9_keep_11 : decode cX9_keep 11 = .ok (.getfield 24, 3) := zo_180 (z_byk bcX9_keep_0 0 11 _ bcX9_keep_0_ok rfl) (z_byk bcX9_keep_0 0 12 _ bcX9_keep_0_ok rfl) (z_byk bcX9_keep_0 0 13 _ bcX9_keep_0_ok rfl) rfl
theorem dX9_keep_14 : decode cX9_keep 14 = .ok (.iload_n 1, 1) := zo_27 (z_byk bcX9_keep_0 0 14 _ bcX9_keep_0_ok rfl)
theorem dX9_keep_15 : decode cX9_keep 15 = .ok (.aaload, 1) := zo_50 (z_byk bcX9_keep_0 0 15 _ bcX9_keep_0_ok rfl)
theorem dX9_keep_16 : decode cX9_keep 16 = .ok (.aload_n 0, 1) := zo_42 (z_byk bcX9_keep_0 0 16 _ bcX9_keep_0_ok rfl)
theorem dX9_keep_17 : decode cX9_keep 17 = .ok (.getfield 20, 3) := zo_180 (z_byk bcX9_keep_0 0 17 _ bcX9_keep_0_ok rfl) (z_byk bcX9_keep_0 0 18 _ bcX9_keep_0_ok rfl) (z_byk bcX9_keep_0 0 19 _ bcX9_keep_0_ok rfl) rfl
theorem dX9_keep_20 : decode cX9_keep 20 = .ok (.invokevirtual 374, 3) := zo_182 (z_byk bcX9_keep_0 0 20 _ bcX9_keep_0_ok rfl) (z_byk bcX9_keep_0 0 21 _ bcX9_keep_0_ok rfl) (z_byk bcX9_keep_0 0 22 _ bcX9_keep_0_ok rfl) rfl
theorem dX9_keep_23 : decode cX9_keep 23 = .ok (.aload_n 0, 1) := zo_42 (z_byk bcX9_keep_0 0 23 _ bcX9_keep_0_ok rfl)
theorem dX9_keep_24 : decode cX9_keep 24 = .ok (.getfield 24, 3) := zo_180 (z_byk bcX9_keep_0 0 24 _ bcX9_keep_0_ok rfl) (z_byk bcX9_keep_0 0 25 _ bcX9_keep_0_ok rfl) (z_byk bcX9_keep_0 0 26 _ bcX9_keep_0_ok rfl) rfl
theorem dX9_keep_27 : decode cX9_keep 27 = .ok (.iload_n 1, 1) := zo_27 (z_byk bcX9_keep_0 0 27 _ bcX9_keep_0_ok rfl)
theorem dX9_keep_28 : decode cX9_keep 28 = .ok (.aaload, 1) := zo_50 (z_byk bcX9_keep_0 0 28 _ bcX9_keep_0_ok rfl)
theorem dX9_keep_29 : decode cX9_keep 29 = .ok (.iconst 1, 1) := zo_4 (z_byk bcX9_keep_0 0 29 _ bcX9_keep_0_ok rfl)
theorem dX9_keep_30 : decode cX9_keep 30 = .ok (.putfield 377, 3) := zo_181 (z_byk bcX9_keep_0 0 30 _ bcX9_keep_0_ok rfl) (z_byk bcX9_keep_0 0 31 _ bcX9_keep_0_ok rfl) (z_byk bcX9_keep_0 0 32 _ bcX9_keep_0_ok rfl) rfl
theorem dX9_keep_33 : decode cX9_keep 33 = .ok (.iconst 0, 1) := zo_3 (z_byk bcX9_keep_0 0 33 _ bcX9_keep_0_ok rfl)
theorem dX9_keep_34 : decode cX9_keep 34 = .ok (.ireturn, 1) := zo_172 (z_byk bcX9_keep_0 0 34 _ bcX9_keep_0_ok rfl)
theorem dX9_keep_4 : decode cX9_keep 4 = .ok (.ifCond .ne 6, 3) := zo_154 (z_byk bcX9_keep_0 0 4 _ bcX9_keep_0_ok rfl) (z_byk bcX9_keep_0 0 5 _ bcX9_keep_0_ok rfl) (z_byk bcX9_keep_0 0 6 _ bcX9_keep_0_ok rfl) rfl
theorem dX9_keep_7 : decode cX9_keep 7 = .ok (.bipush (-2), 2) := zo_16 (z_byk bcX9_keep_0 0 7 _ bcX9_keep_0_ok rfl) (z_byk bcX9_keep_0 0 8 _ bcX9_keep_0_ok rfl) rfl
theorem dX9_keep_9 : decode cX9_keep 9 = .ok (.ireturn, 1) := zo_172 (z_byk bcX9_keep_0 0 9 _ bcX9_keep_0_ok rfl)
def bcX9_likely_0 : List Nat := [42, 180, 0, 20, 180, 0, 106, 58, 5, 25, 5, 27, 28, 29, 182, 0, 160, 153, 0, 14, 21, 4, 155, 0, 9, 21, 4, 4, 164, 0, 6, 16, 254, 172, 25, 5, 27, 28, 182, 0, 156, 54, 6, 21, 6, 2, 159, 0, 14, 25, 5, 28, 21, 6, 182, 0, 149, 153, 0, 5]
theorem bcX9_likely_0_ok : z_bys cX9_likely 0 bcX9_likely_0 = true := by decide +kernel
def bcX9_likely_60 : List Nat := [2, 172, 2, 54, 7, 2, 54, 8, 3, 54, 9, 21, 9, 25, 5, 180, 0, 250, 162, 0, 59, 42, 180, 0, 20, 180, 0, 114, 21, 9, 184, 0, 164, 153, 0, 38, 42, 180, 0, 20, 21, 9, 21, 6, 29, 182, 1, 44, 21, 7, 164, 0, 21, 42, 180, 0, 20, 21, 9, 21]
theorem bcX9_likely_60_ok : z_bys cX9_likely 60 bcX9_likely_60 = true := by decide +kernel
def bcX9_likely_120 : List Nat := [6, 29, 182, 1, 44, 54, 7, 21, 9, 54, 8, 132, 9, 1, 167, 255, 193, 21, 4, 154, 0, 8, 21, 8, 167, 0, 5, 21, 7, 172]
theorem bcX9_likely_120_ok : z_bys cX9_likely 120 bcX9_likely_120 = true := by decide +kernel
theorem dX9_likely_0 : decode cX9_likely 0 = .ok (.aload_n 0, 1) := zo_42 (z_byk bcX9_likely_0 0 0 _ bcX9_likely_0_ok rfl)
theorem dX9_likely_1 : decode cX9_likely 1 = .ok (.getfield 20, 3) := zo_180 (z_byk bcX9_likely_0 0 1 _ bcX9_likely_0_ok rfl) (z_byk bcX9_likely_0 0 2 _ bcX9_likely_0_ok rfl) (z_byk bcX9_likely_0 0 3 _ bcX9_likely_0_ok rfl) rfl
theorem dX9_likely_100 : decode cX9_likely 100 = .ok (.iload 9, 2) := zo_21 (z_byk bcX9_likely_60 60 40 _ bcX9_likely_60_ok rfl) (z_byk bcX9_likely_60 60 41 _ bcX9_likely_60_ok rfl)
theorem dX9_likely_102 : decode cX9_likely 102 = .ok (.iload 6, 2) := zo_21 (z_byk bcX9_likely_60 60 42 _ bcX9_likely_60_ok rfl) (z_byk bcX9_likely_60 60 43 _ bcX9_likely_60_ok rfl)
theorem dX9_likely_104 : decode cX9_likely 104 = .ok (.iload_n 3, 1) := zo_29 (z_byk bcX9_likely_60 60 44 _ bcX9_likely_60_ok rfl)
theorem dX9_likely_105 : decode cX9_likely 105 = .ok (.invokevirtual 300, 3) := zo_182 (z_byk bcX9_likely_60 60 45 _ bcX9_likely_60_ok rfl) (z_byk bcX9_likely_60 60 46 _ bcX9_likely_60_ok rfl) (z_byk bcX9_likely_60 60 47 _ bcX9_likely_60_ok rfl) rfl
theorem dX9_likely_108 : decode cX9_likely 108 = .ok (.iload 7, 2) := zo_21 (z_byk bcX9_likely_60 60 48 _ bcX9_likely_60_ok rfl) (z_byk bcX9_likely_60 60 49 _ bcX9_likely_60_ok rfl)
theorem dX9_likely_11 : decode cX9_likely 11 = .ok (.iload_n 1, 1) := zo_27 (z_byk bcX9_likely_0 0 11 _ bcX9_likely_0_ok rfl)
theorem dX9_likely_110 : decode cX9_likely 110 = .ok (.if_icmp .le 21, 3) := zo_164 (z_byk bcX9_likely_60 60 50 _ bcX9_likely_60_ok rfl) (z_byk bcX9_likely_60 60 51 _ bcX9_likely_60_ok rfl) (z_byk bcX9_likely_60 60 52 _ bcX9_likely_60_ok rfl) rfl
theorem dX9_likely_113 : decode cX9_likely 113 = .ok (.aload_n 0, 1) := zo_42 (z_byk bcX9_likely_60 60 53 _ bcX9_likely_60_ok rfl)
theorem dX9_likely_114 : decode cX9_likely 114 = .ok (.getfield 20, 3) := zo_180 (z_byk bcX9_likely_60 60 54 _ bcX9_likely_60_ok rfl) (z_byk bcX9_likely_60 60 55 _ bcX9_likely_60_ok rfl) (z_byk bcX9_likely_60 60 56 _ bcX9_likely_60_ok rfl) rfl
theorem dX9_likely_117 : decode cX9_likely 117 = .ok (.iload 9, 2) := zo_21 (z_byk bcX9_likely_60 60 57 _ bcX9_likely_60_ok rfl) (z_byk bcX9_likely_60 60 58 _ bcX9_likely_60_ok rfl)
theorem dX9_likely_119 : decode cX9_likely 119 = .ok (.iload 6, 2) := zo_21 (z_byk bcX9_likely_60 60 59 _ bcX9_likely_60_ok rfl) (z_byk bcX9_likely_120 120 0 _ bcX9_likely_120_ok rfl)
theorem dX9_likely_12 : decode cX9_likely 12 = .ok (.iload_n 2, 1) := zo_28 (z_byk bcX9_likely_0 0 12 _ bcX9_likely_0_ok rfl)
theorem dX9_likely_121 : decode cX9_likely 121 = .ok (.iload_n 3, 1) := zo_29 (z_byk bcX9_likely_120 120 1 _ bcX9_likely_120_ok rfl)
theorem dX9_likely_122 : decode cX9_likely 122 = .ok (.invokevirtual 300, 3) := zo_182 (z_byk bcX9_likely_120 120 2 _ bcX9_likely_120_ok rfl) (z_byk bcX9_likely_120 120 3 _ bcX9_likely_120_ok rfl) (z_byk bcX9_likely_120 120 4 _ bcX9_likely_120_ok rfl) rfl
theorem dX9_likely_125 : decode cX9_likely 125 = .ok (.istore 7, 2) := zo_54 (z_byk bcX9_likely_120 120 5 _ bcX9_likely_120_ok rfl) (z_byk bcX9_likely_120 120 6 _ bcX9_likely_120_ok rfl)
theorem dX9_likely_127 : decode cX9_likely 127 = .ok (.iload 9, 2) := zo_21 (z_byk bcX9_likely_120 120 7 _ bcX9_likely_120_ok rfl) (z_byk bcX9_likely_120 120 8 _ bcX9_likely_120_ok rfl)
theorem dX9_likely_129 : decode cX9_likely 129 = .ok (.istore 8, 2) := zo_54 (z_byk bcX9_likely_120 120 9 _ bcX9_likely_120_ok rfl) (z_byk bcX9_likely_120 120 10 _ bcX9_likely_120_ok rfl)
theorem dX9_likely_13 : decode cX9_likely 13 = .ok (.iload_n 3, 1) := zo_29 (z_byk bcX9_likely_0 0 13 _ bcX9_likely_0_ok rfl)
theorem dX9_likely_131 : decode cX9_likely 131 = .ok (.iinc 9 1, 3) := zo_132 (z_byk bcX9_likely_120 120 11 _ bcX9_likely_120_ok rfl) (z_byk bcX9_likely_120 120 12 _ bcX9_likely_120_ok rfl) (z_byk bcX9_likely_120 120 13 _ bcX9_likely_120_ok rfl) rfl
theorem dX9_likely_134 : decode cX9_likely 134 = .ok (.goto (-63), 3) := zo_167 (z_byk bcX9_likely_120 120 14 _ bcX9_likely_120_ok rfl) (z_byk bcX9_likely_120 120 15 _ bcX9_likely_120_ok rfl) (z_byk bcX9_likely_120 120 16 _ bcX9_likely_120_ok rfl) rfl
theorem dX9_likely_137 : decode cX9_likely 137 = .ok (.iload 4, 2) := zo_21 (z_byk bcX9_likely_120 120 17 _ bcX9_likely_120_ok rfl) (z_byk bcX9_likely_120 120 18 _ bcX9_likely_120_ok rfl)
theorem dX9_likely_139 : decode cX9_likely 139 = .ok (.ifCond .ne 8, 3) := zo_154 (z_byk bcX9_likely_120 120 19 _ bcX9_likely_120_ok rfl) (z_byk bcX9_likely_120 120 20 _ bcX9_likely_120_ok rfl) (z_byk bcX9_likely_120 120 21 _ bcX9_likely_120_ok rfl) rfl
theorem dX9_likely_14 : decode cX9_likely 14 = .ok (.invokevirtual 160, 3) := zo_182 (z_byk bcX9_likely_0 0 14 _ bcX9_likely_0_ok rfl) (z_byk bcX9_likely_0 0 15 _ bcX9_likely_0_ok rfl) (z_byk bcX9_likely_0 0 16 _ bcX9_likely_0_ok rfl) rfl
theorem dX9_likely_142 : decode cX9_likely 142 = .ok (.iload 8, 2) := zo_21 (z_byk bcX9_likely_120 120 22 _ bcX9_likely_120_ok rfl) (z_byk bcX9_likely_120 120 23 _ bcX9_likely_120_ok rfl)
theorem dX9_likely_144 : decode cX9_likely 144 = .ok (.goto 5, 3) := zo_167 (z_byk bcX9_likely_120 120 24 _ bcX9_likely_120_ok rfl) (z_byk bcX9_likely_120 120 25 _ bcX9_likely_120_ok rfl) (z_byk bcX9_likely_120 120 26 _ bcX9_likely_120_ok rfl) rfl
theorem dX9_likely_147 : decode cX9_likely 147 = .ok (.iload 7, 2) := zo_21 (z_byk bcX9_likely_120 120 27 _ bcX9_likely_120_ok rfl) (z_byk bcX9_likely_120 120 28 _ bcX9_likely_120_ok rfl)
theorem dX9_likely_149 : decode cX9_likely 149 = .ok (.ireturn, 1) := zo_172 (z_byk bcX9_likely_120 120 29 _ bcX9_likely_120_ok rfl)
theorem dX9_likely_17 : decode cX9_likely 17 = .ok (.ifCond .eq 14, 3) := zo_153 (z_byk bcX9_likely_0 0 17 _ bcX9_likely_0_ok rfl) (z_byk bcX9_likely_0 0 18 _ bcX9_likely_0_ok rfl) (z_byk bcX9_likely_0 0 19 _ bcX9_likely_0_ok rfl) rfl
theorem dX9_likely_20 : decode cX9_likely 20 = .ok (.iload 4, 2) := zo_21 (z_byk bcX9_likely_0 0 20 _ bcX9_likely_0_ok rfl) (z_byk bcX9_likely_0 0 21 _ bcX9_likely_0_ok rfl)
theorem dX9_likely_22 : decode cX9_likely 22 = .ok (.ifCond .lt 9, 3) := zo_155 (z_byk bcX9_likely_0 0 22 _ bcX9_likely_0_ok rfl) (z_byk bcX9_likely_0 0 23 _ bcX9_likely_0_ok rfl) (z_byk bcX9_likely_0 0 24 _ bcX9_likely_0_ok rfl) rfl
theorem dX9_likely_25 : decode cX9_likely 25 = .ok (.iload 4, 2) := zo_21 (z_byk bcX9_likely_0 0 25 _ bcX9_likely_0_ok rfl) (z_byk bcX9_likely_0 0 26 _ bcX9_likely_0_ok rfl)
theorem dX9_likely_27 : decode cX9_likely 27 = .ok (.iconst 1, 1) := zo_4 (z_byk bcX9_likely_0 0 27 _ bcX9_likely_0_ok rfl)
theorem dX9_likely_28 : decode cX9_likely 28 = .ok (.if_icmp .le 6, 3) := zo_164 (z_byk bcX9_likely_0 0 28 _ bcX9_likely_0_ok rfl) (z_byk bcX9_likely_0 0 29 _ bcX9_likely_0_ok rfl) (z_byk bcX9_likely_0 0 30 _ bcX9_likely_0_ok rfl) rfl
theorem dX9_likely_31 : decode cX9_likely 31 = .ok (.bipush (-2), 2) := zo_16 (z_byk bcX9_likely_0 0 31 _ bcX9_likely_0_ok rfl) (z_byk bcX9_likely_0 0 32 _ bcX9_likely_0_ok rfl) rfl
theorem dX9_likely_33 : decode cX9_likely 33 = .ok (.ireturn, 1) := zo_172 (z_byk bcX9_likely_0 0 33 _ bcX9_likely_0_ok rfl)
theorem dX9_likely_34 : decode cX9_likely 34 = .ok (.aload 5, 2) := zo_25 (z_byk bcX9_likely_0 0 34 _ bcX9_likely_0_ok rfl) (z_byk bcX9_likely_0 0 35 _ bcX9_likely_0_ok rfl)
theorem dX9_likely_36 : decode cX9_likely 36 = .ok (.iload_n 1, 1) := zo_27 (z_byk bcX9_likely_0 0 36 _ bcX9_likely_0_ok rfl)
theorem dX9_likely_37 : decode cX9_likely 37 = .ok (.iload_n 2, 1) := zo_28 (z_byk bcX9_likely_0 0 37 _ bcX9_likely_0_ok rfl)
theorem dX9_likely_38 : decode cX9_likely 38 = .ok (.invokevirtual 156, 3) := zo_182 (z_byk bcX9_likely_0 0 38 _ bcX9_likely_0_ok rfl) (z_byk bcX9_likely_0 0 39 _ bcX9_likely_0_ok rfl) (z_byk bcX9_likely_0 0 40 _ bcX9_likely_0_ok rfl) rfl
theorem dX9_likely_4 : decode cX9_likely 4 = .ok (.getfield 106, 3) := zo_180 (z_byk bcX9_likely_0 0 4 _ bcX9_likely_0_ok rfl) (z_byk bcX9_likely_0 0 5 _ bcX9_likely_0_ok rfl) (z_byk bcX9_likely_0 0 6 _ bcX9_likely_0_ok rfl) rfl
theorem dX9_likely_41 : decode cX9_likely 41 = .ok (.istore 6, 2) := zo_54 (z_byk bcX9_likely_0 0 41 _ bcX9_likely_0_ok rfl) (z_byk bcX9_likely_0 0 42 _ bcX9_likely_0_ok rfl)
theorem dX9_likely_43 : decode cX9_likely 43 = .ok (.iload 6, 2) := zo_21 (z_byk bcX9_likely_0 0 43 _ bcX9_likely_0_ok rfl) (z_byk bcX9_likely_0 0 44 _ bcX9_likely_0_ok rfl)
theorem dX9_likely_45 : decode cX9_likely 45 = .ok (.iconst (-1), 1) := zo_2 (z_byk bcX9_likely_0 0 45 _ bcX9_likely_0_ok rfl)
theorem dX9_likely_46 : decode cX9_likely 46 = .ok (.if_icmp .eq 14, 3) := zo_159 (z_byk bcX9_likely_0 0 46 _ bcX9_likely_0_ok rfl) (z_byk bcX9_likely_0 0 47 _ bcX9_likely_0_ok rfl) (z_byk bcX9_likely_0 0 48 _ bcX9_likely_0_ok rfl) rfl
theorem dX9_likely_49 : decode cX9_likely 49 = .ok (.aload 5, 2) := zo_25 (z_byk bcX9_likely_0 0 49 _ bcX9_likely_0_ok rfl) (z_byk bcX9_likely_0 0 50 _ bcX9_likely_0_ok rfl)
theorem dX9_likely_51 : decode cX9_likely 51 = .ok (.iload_n 2, 1) := zo_28 (z_byk bcX9_likely_0 0 51 _ bcX9_likely_0_ok rfl)
theorem dX9_likely_52 : decode cX9_likely 52 = .ok (.iload 6, 2) := zo_21 (z_byk bcX9_likely_0 0 52 _ bcX9_likely_0_ok rfl) (z_byk bcX9_likely_0 0 53 _ bcX9_likely_0_ok rfl)
theorem dX9_likely_54 : decode cX9_likely 54 = .ok (.invokevirtual 149, 3) := zo_182 (z_byk bcX9_likely_0 0 54 _ bcX9_likely_0_ok rfl) (z_byk bcX9_likely_0 0 55 _ bcX9_likely_0_ok rfl) (z_byk bcX9_likely_0 0 56 _ bcX9_likely_0_ok rfl) rfl
theorem dX9_likely_57 : decode cX9_likely 57 = .ok (.ifCond .eq 5, 3) := zo_153 (z_byk bcX9_likely_0 0 57 _ bcX9_likely_0_ok rfl) (z_byk bcX9_likely_0 0 58 _ bcX9_likely_0_ok rfl) (z_byk bcX9_likely_0 0 59 _ bcX9_likely_0_ok rfl) rfl
theorem dX9_likely_60 : decode cX9_likely 60 = .ok (.iconst (-1), 1) := zo_2 (z_byk bcX9_likely_60 60 0 _ bcX9_likely_60_ok rfl)
theorem dX9_likely_61 : decode cX9_likely 61 = .ok (.ireturn, 1) := zo_172 (z_byk bcX9_likely_60 60 1 _ bcX9_likely_60_ok rfl)
theorem dX9_likely_62 : decode cX9_likely 62 = .ok (.iconst (-1), 1) := zo_2 (z_byk bcX9_likely_60 60 2 _ bcX9_likely_60_ok rfl)
theorem dX9_likely_63 : decode cX9_likely 63 = .ok (.istore 7, 2) := zo_54 (z_byk bcX9_likely_60 60 3 _ bcX9_likely_60_ok rfl) (z_byk bcX9_likely_60 60 4 _ bcX9_likely_60_ok rfl)
theorem dX9_likely_65 : decode cX9_likely 65 = .ok (.iconst (-1), 1) := zo_2 (z_byk bcX9_likely_60 60 5 _ bcX9_likely_60_ok rfl)
theorem dX9_likely_66 : decode cX9_likely 66 = .ok (.istore 8, 2) := zo_54 (z_byk bcX9_likely_60 60 6 _ bcX9_likely_60_ok rfl) (z_byk bcX9_likely_60 60 7 _ bcX9_likely_60_ok rfl)
theorem dX9_likely_68 : decode cX9_likely 68 = .ok (.iconst 0, 1) := zo_3 (z_byk bcX9_likely_60 60 8 _ bcX9_likely_60_ok rfl)
theorem dX9_likely_69 : decode cX9_likely 69 = .ok (.istore 9, 2) := zo_54 (z_byk bcX9_likely_60 60 9 _ bcX9_likely_60_ok rfl) (z_byk bcX9_likely_60 60 10 _ bcX9_likely_60_ok rfl)
theorem dX9_likely_7 : decode cX9_likely 7 = .ok (.astore 5, 2) := zo_58 (z_byk bcX9_likely_0 0 7 _ bcX9_likely_0_ok rfl) (z_byk bcX9_likely_0 0 8 _ bcX9_likely_0_ok rfl)
theorem dX9_likely_71 : decode cX9_likely 71 = .ok (.iload 9, 2) := zo_21 (z_byk bcX9_likely_60 60 11 _ bcX9_likely_60_ok rfl) (z_byk bcX9_likely_60 60 12 _ bcX9_likely_60_ok rfl)
theorem dX9_likely_73 : decode cX9_likely 73 = .ok (.aload 5, 2) := zo_25 (z_byk bcX9_likely_60 60 13 _ bcX9_likely_60_ok rfl) (z_byk bcX9_likely_60 60 14 _ bcX9_likely_60_ok rfl)
theorem dX9_likely_75 : decode cX9_likely 75 = .ok (.getfield 250, 3) := zo_180 (z_byk bcX9_likely_60 60 15 _ bcX9_likely_60_ok rfl) (z_byk bcX9_likely_60 60 16 _ bcX9_likely_60_ok rfl) (z_byk bcX9_likely_60 60 17 _ bcX9_likely_60_ok rfl) rfl
theorem dX9_likely_78 : decode cX9_likely 78 = .ok (.if_icmp .ge 59, 3) := zo_162 (z_byk bcX9_likely_60 60 18 _ bcX9_likely_60_ok rfl) (z_byk bcX9_likely_60 60 19 _ bcX9_likely_60_ok rfl) (z_byk bcX9_likely_60 60 20 _ bcX9_likely_60_ok rfl) rfl
theorem dX9_likely_81 : decode cX9_likely 81 = .ok (.aload_n 0, 1) := zo_42 (z_byk bcX9_likely_60 60 21 _ bcX9_likely_60_ok rfl)
theorem dX9_likely_82 : decode cX9_likely 82 = .ok (.getfield 20, 3) := zo_180 (z_byk bcX9_likely_60 60 22 _ bcX9_likely_60_ok rfl) (z_byk bcX9_likely_60 60 23 _ bcX9_likely_60_ok rfl) (z_byk bcX9_likely_60 60 24 _ bcX9_likely_60_ok rfl) rfl
theorem dX9_likely_85 : decode cX9_likely 85 = .ok (.getfield 114, 3) := zo_180 (z_byk bcX9_likely_60 60 25 _ bcX9_likely_60_ok rfl) (z_byk bcX9_likely_60 60 26 _ bcX9_likely_60_ok rfl) (z_byk bcX9_likely_60 60 27 _ bcX9_likely_60_ok rfl) rfl
theorem dX9_likely_88 : decode cX9_likely 88 = .ok (.iload 9, 2) := zo_21 (z_byk bcX9_likely_60 60 28 _ bcX9_likely_60_ok rfl) (z_byk bcX9_likely_60 60 29 _ bcX9_likely_60_ok rfl)
theorem dX9_likely_9 : decode cX9_likely 9 = .ok (.aload 5, 2) := zo_25 (z_byk bcX9_likely_0 0 9 _ bcX9_likely_0_ok rfl) (z_byk bcX9_likely_0 0 10 _ bcX9_likely_0_ok rfl)
theorem dX9_likely_90 : decode cX9_likely 90 = .ok (.invokestatic 164, 3) := zo_184 (z_byk bcX9_likely_60 60 30 _ bcX9_likely_60_ok rfl) (z_byk bcX9_likely_60 60 31 _ bcX9_likely_60_ok rfl) (z_byk bcX9_likely_60 60 32 _ bcX9_likely_60_ok rfl) rfl
theorem dX9_likely_93 : decode cX9_likely 93 = .ok (.ifCond .eq 38, 3) := zo_153 (z_byk bcX9_likely_60 60 33 _ bcX9_likely_60_ok rfl) (z_byk bcX9_likely_60 60 34 _ bcX9_likely_60_ok rfl) (z_byk bcX9_likely_60 60 35 _ bcX9_likely_60_ok rfl) rfl
theorem dX9_likely_96 : decode cX9_likely 96 = .ok (.aload_n 0, 1) := zo_42 (z_byk bcX9_likely_60 60 36 _ bcX9_likely_60_ok rfl)
theorem dX9_likely_97 : decode cX9_likely 97 = .ok (.getfield 20, 3) := zo_180 (z_byk bcX9_likely_60 60 37 _ bcX9_likely_60_ok rfl) (z_byk bcX9_likely_60 60 38 _ bcX9_likely_60_ok rfl) (z_byk bcX9_likely_60 60 39 _ bcX9_likely_60_ok rfl) rfl
def bcX9_liveBy_0 : List Nat := [27, 184, 1, 66, 153, 0, 16, 42, 180, 0, 20, 180, 0, 106, 180, 0, 219, 154, 0, 6, 16, 254, 172, 42, 180, 0, 30, 27, 50, 182, 1, 69, 154, 0, 6, 16, 250, 172, 42, 180, 0, 72, 42, 180, 0, 20, 42, 180, 0, 30, 27, 50, 182, 1, 73, 3, 172]
theorem bcX9_liveBy_0_ok : z_bys cX9_liveBy 0 bcX9_liveBy_0 = true := by decide +kernel
theorem dX9_liveBy_0 : decode cX9_liveBy 0 = .ok (.iload_n 1, 1) := zo_27 (z_byk bcX9_liveBy_0 0 0 _ bcX9_liveBy_0_ok rfl)
theorem dX9_liveBy_1 : decode cX9_liveBy 1 = .ok (.invokestatic 322, 3) := zo_184 (z_byk bcX9_liveBy_0 0 1 _ bcX9_liveBy_0_ok rfl) (z_byk bcX9_liveBy_0 0 2 _ bcX9_liveBy_0_ok rfl) (z_byk bcX9_liveBy_0 0 3 _ bcX9_liveBy_0_ok rfl) rfl
theorem dX9_liveBy_11 : decode cX9_liveBy 11 = .ok (.getfield 106, 3) := zo_180 (z_byk bcX9_liveBy_0 0 11 _ bcX9_liveBy_0_ok rfl) (z_byk bcX9_liveBy_0 0 12 _ bcX9_liveBy_0_ok rfl) (z_byk bcX9_liveBy_0 0 13 _ bcX9_liveBy_0_ok rfl) rfl
theorem dX9_liveBy_14 : decode cX9_liveBy 14 = .ok (.getfield 219, 3) := zo_180 (z_byk bcX9_liveBy_0 0 14 _ bcX9_liveBy_0_ok rfl) (z_byk bcX9_liveBy_0 0 15 _ bcX9_liveBy_0_ok rfl) (z_byk bcX9_liveBy_0 0 16 _ bcX9_liveBy_0_ok rfl) rfl
theorem dX9_liveBy_17 : decode cX9_liveBy 17 = .ok (.ifCond .ne 6, 3) := zo_154 (z_byk bcX9_liveBy_0 0 17 _ bcX9_liveBy_0_ok rfl) (z_byk bcX9_liveBy_0 0 18 _ bcX9_liveBy_0_ok rfl) (z_byk bcX9_liveBy_0 0 19 _ bcX9_liveBy_0_ok rfl) rfl
theorem dX9_liveBy_20 : decode cX9_liveBy 20 = .ok (.bipush (-2), 2) := zo_16 (z_byk bcX9_liveBy_0 0 20 _ bcX9_liveBy_0_ok rfl) (z_byk bcX9_liveBy_0 0 21 _ bcX9_liveBy_0_ok rfl) rfl
theorem dX9_liveBy_22 : decode cX9_liveBy 22 = .ok (.ireturn, 1) := zo_172 (z_byk bcX9_liveBy_0 0 22 _ bcX9_liveBy_0_ok rfl)
theorem dX9_liveBy_23 : decode cX9_liveBy 23 = .ok (.aload_n 0, 1) := zo_42 (z_byk bcX9_liveBy_0 0 23 _ bcX9_liveBy_0_ok rfl)
theorem dX9_liveBy_24 : decode cX9_liveBy 24 = .ok (.getfield 30, 3) := zo_180 (z_byk bcX9_liveBy_0 0 24 _ bcX9_liveBy_0_ok rfl) (z_byk bcX9_liveBy_0 0 25 _ bcX9_liveBy_0_ok rfl) (z_byk bcX9_liveBy_0 0 26 _ bcX9_liveBy_0_ok rfl) rfl
theorem dX9_liveBy_27 : decode cX9_liveBy 27 = .ok (.iload_n 1, 1) := zo_27 (z_byk bcX9_liveBy_0 0 27 _ bcX9_liveBy_0_ok rfl)
theorem dX9_liveBy_28 : decode cX9_liveBy 28 = .ok (.aaload, 1) := zo_50 (z_byk bcX9_liveBy_0 0 28 _ bcX9_liveBy_0_ok rfl)
theorem dX9_liveBy_29 : decode cX9_liveBy 29 = .ok (.invokevirtual 325, 3) := zo_182 (z_byk bcX9_liveBy_0 0 29 _ bcX9_liveBy_0_ok rfl) (z_byk bcX9_liveBy_0 0 30 _ bcX9_liveBy_0_ok rfl) (z_byk bcX9_liveBy_0 0 31 _ bcX9_liveBy_0_ok rfl) rfl
theorem dX9_liveBy_32 : decode cX9_liveBy 32 = .ok (.ifCond .ne 6, 3) := zo_154 (z_byk bcX9_liveBy_0 0 32 _ bcX9_liveBy_0_ok rfl) (z_byk bcX9_liveBy_0 0 33 _ bcX9_liveBy_0_ok rfl) (z_byk bcX9_liveBy_0 0 34 _ bcX9_liveBy_0_ok rfl) rfl
theorem dX9_liveBy_35 : decode cX9_liveBy 35 = .ok (.bipush (-6), 2) := zo_16 (z_byk bcX9_liveBy_0 0 35 _ bcX9_liveBy_0_ok rfl) (z_byk bcX9_liveBy_0 0 36 _ bcX9_liveBy_0_ok rfl) rfl
theorem dX9_liveBy_37 : decode cX9_liveBy 37 = .ok (.ireturn, 1) := zo_172 (z_byk bcX9_liveBy_0 0 37 _ bcX9_liveBy_0_ok rfl)
theorem dX9_liveBy_38 : decode cX9_liveBy 38 = .ok (.aload_n 0, 1) := zo_42 (z_byk bcX9_liveBy_0 0 38 _ bcX9_liveBy_0_ok rfl)
theorem dX9_liveBy_39 : decode cX9_liveBy 39 = .ok (.getfield 72, 3) := zo_180 (z_byk bcX9_liveBy_0 0 39 _ bcX9_liveBy_0_ok rfl) (z_byk bcX9_liveBy_0 0 40 _ bcX9_liveBy_0_ok rfl) (z_byk bcX9_liveBy_0 0 41 _ bcX9_liveBy_0_ok rfl) rfl
theorem dX9_liveBy_4 : decode cX9_liveBy 4 = .ok (.ifCond .eq 16, 3) := zo_153 (z_byk bcX9_liveBy_0 0 4 _ bcX9_liveBy_0_ok rfl) (z_byk bcX9_liveBy_0 0 5 _ bcX9_liveBy_0_ok rfl) (z_byk bcX9_liveBy_0 0 6 _ bcX9_liveBy_0_ok rfl) rfl
theorem dX9_liveBy_42 : decode cX9_liveBy 42 = .ok (.aload_n 0, 1) := zo_42 (z_byk bcX9_liveBy_0 0 42 _ bcX9_liveBy_0_ok rfl)
theorem dX9_liveBy_43 : decode cX9_liveBy 43 = .ok (.getfield 20, 3) := zo_180 (z_byk bcX9_liveBy_0 0 43 _ bcX9_liveBy_0_ok rfl) (z_byk bcX9_liveBy_0 0 44 _ bcX9_liveBy_0_ok rfl) (z_byk bcX9_liveBy_0 0 45 _ bcX9_liveBy_0_ok rfl) rfl
theorem dX9_liveBy_46 : decode cX9_liveBy 46 = .ok (.aload_n 0, 1) := zo_42 (z_byk bcX9_liveBy_0 0 46 _ bcX9_liveBy_0_ok rfl)
theorem dX9_liveBy_47 : decode cX9_liveBy 47 = .ok (.getfield 30, 3) := zo_180 (z_byk bcX9_liveBy_0 0 47 _ bcX9_liveBy_0_ok rfl) (z_byk bcX9_liveBy_0 0 48 _ bcX9_liveBy_0_ok rfl) (z_byk bcX9_liveBy_0 0 49 _ bcX9_liveBy_0_ok rfl) rfl
theorem dX9_liveBy_50 : decode cX9_liveBy 50 = .ok (.iload_n 1, 1) := zo_27 (z_byk bcX9_liveBy_0 0 50 _ bcX9_liveBy_0_ok rfl)
theorem dX9_liveBy_51 : decode cX9_liveBy 51 = .ok (.aaload, 1) := zo_50 (z_byk bcX9_liveBy_0 0 51 _ bcX9_liveBy_0_ok rfl)
theorem dX9_liveBy_52 : decode cX9_liveBy 52 = .ok (.invokevirtual 329, 3) := zo_182 (z_byk bcX9_liveBy_0 0 52 _ bcX9_liveBy_0_ok rfl) (z_byk bcX9_liveBy_0 0 53 _ bcX9_liveBy_0_ok rfl) (z_byk bcX9_liveBy_0 0 54 _ bcX9_liveBy_0_ok rfl) rfl
theorem dX9_liveBy_55 : decode cX9_liveBy 55 = .ok (.iconst 0, 1) := zo_3 (z_byk bcX9_liveBy_0 0 55 _ bcX9_liveBy_0_ok rfl)
theorem dX9_liveBy_56 : decode cX9_liveBy 56 = .ok (.ireturn, 1) := zo_172 (z_byk bcX9_liveBy_0 0 56 _ bcX9_liveBy_0_ok rfl)
theorem dX9_liveBy_7 : decode cX9_liveBy 7 = .ok (.aload_n 0, 1) := zo_42 (z_byk bcX9_liveBy_0 0 7 _ bcX9_liveBy_0_ok rfl)
theorem dX9_liveBy_8 : decode cX9_liveBy 8 = .ok (.getfield 20, 3) := zo_180 (z_byk bcX9_liveBy_0 0 8 _ bcX9_liveBy_0_ok rfl) (z_byk bcX9_liveBy_0 0 9 _ bcX9_liveBy_0_ok rfl) (z_byk bcX9_liveBy_0 0 10 _ bcX9_liveBy_0_ok rfl) rfl
def bcX9_rowsThere_0 : List Nat := [3, 60, 3, 61, 28, 7, 162, 0, 24, 42, 180, 0, 30, 28, 50, 182, 1, 69, 153, 0, 6, 132, 1, 1, 132, 2, 1, 167, 255, 233, 27, 172]
theorem bcX9_rowsThere_0_ok : z_bys cX9_rowsThere 0 bcX9_rowsThere_0 = true := by decide +kernel
theorem dX9_rowsThere_0 : decode cX9_rowsThere 0 = .ok (.iconst 0, 1) := zo_3 (z_byk bcX9_rowsThere_0 0 0 _ bcX9_rowsThere_0_ok rfl)
theorem dX9_rowsThere_1 : decode cX9_rowsThere 1 = .ok (.istore_n 1, 1) := zo_60 (z_byk bcX9_rowsThere_0 0 1 _ bcX9_rowsThere_0_ok rfl)
theorem dX9_rowsThere_10 : decode cX9_rowsThere 10 = .ok (.getfield 30, 3) := zo_180 (z_byk bcX9_rowsThere_0 0 10 _ bcX9_rowsThere_0_ok rfl) (z_byk bcX9_rowsThere_0 0 11 _ bcX9_rowsThere_0_ok rfl) (z_byk bcX9_rowsThere_0 0 12 _ bcX9_rowsThere_0_ok rfl) rfl
theorem dX9_rowsThere_13 : decode cX9_rowsThere 13 = .ok (.iload_n 2, 1) := zo_28 (z_byk bcX9_rowsThere_0 0 13 _ bcX9_rowsThere_0_ok rfl)
theorem dX9_rowsThere_14 : decode cX9_rowsThere 14 = .ok (.aaload, 1) := zo_50 (z_byk bcX9_rowsThere_0 0 14 _ bcX9_rowsThere_0_ok rfl)
theorem dX9_rowsThere_15 : decode cX9_rowsThere 15 = .ok (.invokevirtual 325, 3) := zo_182 (z_byk bcX9_rowsThere_0 0 15 _ bcX9_rowsThere_0_ok rfl) (z_byk bcX9_rowsThere_0 0 16 _ bcX9_rowsThere_0_ok rfl) (z_byk bcX9_rowsThere_0 0 17 _ bcX9_rowsThere_0_ok rfl) rfl
theorem dX9_rowsThere_18 : decode cX9_rowsThere 18 = .ok (.ifCond .eq 6, 3) := zo_153 (z_byk bcX9_rowsThere_0 0 18 _ bcX9_rowsThere_0_ok rfl) (z_byk bcX9_rowsThere_0 0 19 _ bcX9_rowsThere_0_ok rfl) (z_byk bcX9_rowsThere_0 0 20 _ bcX9_rowsThere_0_ok rfl) rfl
theorem dX9_rowsThere_2 : decode cX9_rowsThere 2 = .ok (.iconst 0, 1) := zo_3 (z_byk bcX9_rowsThere_0 0 2 _ bcX9_rowsThere_0_ok rfl)
theorem dX9_rowsThere_21 : decode cX9_rowsThere 21 = .ok (.iinc 1 1, 3) := zo_132 (z_byk bcX9_rowsThere_0 0 21 _ bcX9_rowsThere_0_ok rfl) (z_byk bcX9_rowsThere_0 0 22 _ bcX9_rowsThere_0_ok rfl) (z_byk bcX9_rowsThere_0 0 23 _ bcX9_rowsThere_0_ok rfl) rfl
theorem dX9_rowsThere_24 : decode cX9_rowsThere 24 = .ok (.iinc 2 1, 3) := zo_132 (z_byk bcX9_rowsThere_0 0 24 _ bcX9_rowsThere_0_ok rfl) (z_byk bcX9_rowsThere_0 0 25 _ bcX9_rowsThere_0_ok rfl) (z_byk bcX9_rowsThere_0 0 26 _ bcX9_rowsThere_0_ok rfl) rfl
theorem dX9_rowsThere_27 : decode cX9_rowsThere 27 = .ok (.goto (-23), 3) := zo_167 (z_byk bcX9_rowsThere_0 0 27 _ bcX9_rowsThere_0_ok rfl) (z_byk bcX9_rowsThere_0 0 28 _ bcX9_rowsThere_0_ok rfl) (z_byk bcX9_rowsThere_0 0 29 _ bcX9_rowsThere_0_ok rfl) rfl
theorem dX9_rowsThere_3 : decode cX9_rowsThere 3 = .ok (.istore_n 2, 1) := zo_61 (z_byk bcX9_rowsThere_0 0 3 _ bcX9_rowsThere_0_ok rfl)
theorem dX9_rowsThere_30 : decode cX9_rowsThere 30 = .ok (.iload_n 1, 1) := zo_27 (z_byk bcX9_rowsThere_0 0 30 _ bcX9_rowsThere_0_ok rfl)
theorem dX9_rowsThere_31 : decode cX9_rowsThere 31 = .ok (.ireturn, 1) := zo_172 (z_byk bcX9_rowsThere_0 0 31 _ bcX9_rowsThere_0_ok rfl)
theorem dX9_rowsThere_4 : decode cX9_rowsThere 4 = .ok (.iload_n 2, 1) := zo_28 (z_byk bcX9_rowsThere_0 0 4 _ bcX9_rowsThere_0_ok rfl)
theorem dX9_rowsThere_5 : decode cX9_rowsThere 5 = .ok (.iconst 4, 1) := zo_7 (z_byk bcX9_rowsThere_0 0 5 _ bcX9_rowsThere_0_ok rfl)
theorem dX9_rowsThere_6 : decode cX9_rowsThere 6 = .ok (.if_icmp .ge 24, 3) := zo_162 (z_byk bcX9_rowsThere_0 0 6 _ bcX9_rowsThere_0_ok rfl) (z_byk bcX9_rowsThere_0 0 7 _ bcX9_rowsThere_0_ok rfl) (z_byk bcX9_rowsThere_0 0 8 _ bcX9_rowsThere_0_ok rfl) rfl
theorem dX9_rowsThere_9 : decode cX9_rowsThere 9 = .ok (.aload_n 0, 1) := zo_42 (z_byk bcX9_rowsThere_0 0 9 _ bcX9_rowsThere_0_ok rfl)
def bcX9_think_0 : List Nat := [42, 180, 0, 20, 180, 0, 106, 58, 4, 25, 4, 27, 182, 0, 123, 153, 0, 21, 25, 4, 28, 182, 0, 133, 153, 0, 12, 25, 4, 29, 182, 0, 126, 154, 0, 6, 16, 254, 172, 42, 180, 0, 20, 27, 28, 29, 182, 1, 44, 172]
theorem bcX9_think_0_ok : z_bys cX9_think 0 bcX9_think_0 = true := by decide +kernel
theorem dX9_think_0 : decode cX9_think 0 = .ok (.aload_n 0, 1) := zo_42 (z_byk bcX9_think_0 0 0 _ bcX9_think_0_ok rfl)
theorem dX9_think_1 : decode cX9_think 1 = .ok (.getfield 20, 3) := zo_180 (z_byk bcX9_think_0 0 1 _ bcX9_think_0_ok rfl) (z_byk bcX9_think_0 0 2 _ bcX9_think_0_ok rfl) (z_byk bcX9_think_0 0 3 _ bcX9_think_0_ok rfl) rfl
theorem dX9_think_11 : decode cX9_think 11 = .ok (.iload_n 1, 1) := zo_27 (z_byk bcX9_think_0 0 11 _ bcX9_think_0_ok rfl)
theorem dX9_think_12 : decode cX9_think 12 = .ok (.invokevirtual 123, 3) := zo_182 (z_byk bcX9_think_0 0 12 _ bcX9_think_0_ok rfl) (z_byk bcX9_think_0 0 13 _ bcX9_think_0_ok rfl) (z_byk bcX9_think_0 0 14 _ bcX9_think_0_ok rfl) rfl
theorem dX9_think_15 : decode cX9_think 15 = .ok (.ifCond .eq 21, 3) := zo_153 (z_byk bcX9_think_0 0 15 _ bcX9_think_0_ok rfl) (z_byk bcX9_think_0 0 16 _ bcX9_think_0_ok rfl) (z_byk bcX9_think_0 0 17 _ bcX9_think_0_ok rfl) rfl
theorem dX9_think_18 : decode cX9_think 18 = .ok (.aload 4, 2) := zo_25 (z_byk bcX9_think_0 0 18 _ bcX9_think_0_ok rfl) (z_byk bcX9_think_0 0 19 _ bcX9_think_0_ok rfl)
theorem dX9_think_20 : decode cX9_think 20 = .ok (.iload_n 2, 1) := zo_28 (z_byk bcX9_think_0 0 20 _ bcX9_think_0_ok rfl)
theorem dX9_think_21 : decode cX9_think 21 = .ok (.invokevirtual 133, 3) := zo_182 (z_byk bcX9_think_0 0 21 _ bcX9_think_0_ok rfl) (z_byk bcX9_think_0 0 22 _ bcX9_think_0_ok rfl) (z_byk bcX9_think_0 0 23 _ bcX9_think_0_ok rfl) rfl
theorem dX9_think_24 : decode cX9_think 24 = .ok (.ifCond .eq 12, 3) := zo_153 (z_byk bcX9_think_0 0 24 _ bcX9_think_0_ok rfl) (z_byk bcX9_think_0 0 25 _ bcX9_think_0_ok rfl) (z_byk bcX9_think_0 0 26 _ bcX9_think_0_ok rfl) rfl
theorem dX9_think_27 : decode cX9_think 27 = .ok (.aload 4, 2) := zo_25 (z_byk bcX9_think_0 0 27 _ bcX9_think_0_ok rfl) (z_byk bcX9_think_0 0 28 _ bcX9_think_0_ok rfl)
theorem dX9_think_29 : decode cX9_think 29 = .ok (.iload_n 3, 1) := zo_29 (z_byk bcX9_think_0 0 29 _ bcX9_think_0_ok rfl)
theorem dX9_think_30 : decode cX9_think 30 = .ok (.invokevirtual 126, 3) := zo_182 (z_byk bcX9_think_0 0 30 _ bcX9_think_0_ok rfl) (z_byk bcX9_think_0 0 31 _ bcX9_think_0_ok rfl) (z_byk bcX9_think_0 0 32 _ bcX9_think_0_ok rfl) rfl
theorem dX9_think_33 : decode cX9_think 33 = .ok (.ifCond .ne 6, 3) := zo_154 (z_byk bcX9_think_0 0 33 _ bcX9_think_0_ok rfl) (z_byk bcX9_think_0 0 34 _ bcX9_think_0_ok rfl) (z_byk bcX9_think_0 0 35 _ bcX9_think_0_ok rfl) rfl
theorem dX9_think_36 : decode cX9_think 36 = .ok (.bipush (-2), 2) := zo_16 (z_byk bcX9_think_0 0 36 _ bcX9_think_0_ok rfl) (z_byk bcX9_think_0 0 37 _ bcX9_think_0_ok rfl) rfl
theorem dX9_think_38 : decode cX9_think 38 = .ok (.ireturn, 1) := zo_172 (z_byk bcX9_think_0 0 38 _ bcX9_think_0_ok rfl)
theorem dX9_think_39 : decode cX9_think 39 = .ok (.aload_n 0, 1) := zo_42 (z_byk bcX9_think_0 0 39 _ bcX9_think_0_ok rfl)
theorem dX9_think_4 : decode cX9_think 4 = .ok (.getfield 106, 3) := zo_180 (z_byk bcX9_think_0 0 4 _ bcX9_think_0_ok rfl) (z_byk bcX9_think_0 0 5 _ bcX9_think_0_ok rfl) (z_byk bcX9_think_0 0 6 _ bcX9_think_0_ok rfl) rfl
theorem dX9_think_40 : decode cX9_think 40 = .ok (.getfield 20, 3) := zo_180 (z_byk bcX9_think_0 0 40 _ bcX9_think_0_ok rfl) (z_byk bcX9_think_0 0 41 _ bcX9_think_0_ok rfl) (z_byk bcX9_think_0 0 42 _ bcX9_think_0_ok rfl) rfl
theorem dX9_think_43 : decode cX9_think 43 = .ok (.iload_n 1, 1) := zo_27 (z_byk bcX9_think_0 0 43 _ bcX9_think_0_ok rfl)
theorem dX9_think_44 : decode cX9_think 44 = .ok (.iload_n 2, 1) := zo_28 (z_byk bcX9_think_0 0 44 _ bcX9_think_0_ok rfl)
theorem dX9_think_45 : decode cX9_think 45 = .ok (.iload_n 3, 1) := zo_29 (z_byk bcX9_think_0 0 45 _ bcX9_think_0_ok rfl)
theorem dX9_think_46 : decode cX9_think 46 = .ok (.invokevirtual 300, 3) := zo_182 (z_byk bcX9_think_0 0 46 _ bcX9_think_0_ok rfl) (z_byk bcX9_think_0 0 47 _ bcX9_think_0_ok rfl) (z_byk bcX9_think_0 0 48 _ bcX9_think_0_ok rfl) rfl
theorem dX9_think_49 : decode cX9_think 49 = .ok (.ireturn, 1) := zo_172 (z_byk bcX9_think_0 0 49 _ bcX9_think_0_ok rfl)
theorem dX9_think_7 : decode cX9_think 7 = .ok (.astore 4, 2) := zo_58 (z_byk bcX9_think_0 0 7 _ bcX9_think_0_ok rfl) (z_byk bcX9_think_0 0 8 _ bcX9_think_0_ok rfl)
theorem dX9_think_9 : decode cX9_think 9 = .ok (.aload 4, 2) := zo_25 (z_byk bcX9_think_0 0 9 _ bcX9_think_0_ok rfl) (z_byk bcX9_think_0 0 10 _ bcX9_think_0_ok rfl)
set_option maxHeartbeats 4000000 in
set_option maxRecDepth 100000 in
theorem k_X9_hear (l : Launch) (sa : Nat → Nat) (dC : Nat → ClassId) (dI : Nat → Nat → Nat) (h0 : Nat) (p1 : Int32) (p2 : Int32) (p3 : Int32) (p4 : Int32) (tp : Nat) (h0_tapeLength : Int32) (h0_faultKind : Int32) (h0_faultPlace : Int32) (nw : Nat) (im : Nat) (sl : Nat) (rd : Nat) (wk : Nat) (fm : Nat) (mt : Nat) (ch : Nat) (dy : Nat) (nw_isKept : Int32) (tn : Nat) (nw_strayed : Int32) (nw_names : Int32) (nw_known : Int32) (nw_gone : Int32) (tn_hours : Int32) (tn_courts : Int32) (tn_gateCount : Int32) (tn_people : Int32) (tn_lines : Int32) (tn_falseHours : Int32) (tn_strayers : Int32) (tn_deep : Int32) (tn_above : Nat) (tn_doors : Nat) (tn_degrees : Nat) (tn_neighbours : Nat) (tn_shows : Nat) (tn_oneEnd : Nat) (tn_otherEnd : Nat) (tn_told : Nat) (tn_strayParts : Nat) (tn_strayCourts : Nat) (cA_tn_shows : ClassId) (f_tn_shows : Nat → Int32) (cA_tn_told : ClassId) (f_tn_told : Nat → Int32) (cA_tn_strayCourts : ClassId) (f_tn_strayCourts : Nat → Int32) (b_h0_tapeLength : 0 ≤ h0_tapeLength.toInt ∧ h0_tapeLength.toInt ≤ 1600) (b_nw_isKept : 0 ≤ nw_isKept.toInt ∧ nw_isKept.toInt ≤ 1) (b_nw_names : 0 ≤ nw_names.toInt ∧ nw_names.toInt ≤ 1023) (b_tn_hours : 0 ≤ tn_hours.toInt ∧ tn_hours.toInt ≤ 48) (b_tn_courts : 0 ≤ tn_courts.toInt ∧ tn_courts.toInt ≤ 10) (b_tn_gateCount : 0 ≤ tn_gateCount.toInt ∧ tn_gateCount.toInt ≤ 16) (b_tn_people : 0 ≤ tn_people.toInt ∧ tn_people.toInt ≤ 10) (b_tn_falseHours : 0 ≤ tn_falseHours.toInt ∧ tn_falseHours.toInt ≤ 9) (b_tn_deep : 0 ≤ tn_deep.toInt ∧ tn_deep.toInt ≤ 1) (b_f_tn_told : ∀ j : Nat, 0 ≤ (f_tn_told j).toInt ∧ (f_tn_told j).toInt ≤ 9) (b_f_tn_strayCourts : ∀ j : Nat, 0 ≤ (f_tn_strayCourts j).toInt ∧ (f_tn_strayCourts j).toInt ≤ 9) (sz : Nat) : Met l yX9_hear (.code yX9_hear cX9_hear 11 (some .int) :: zT) ({ frames := 2, cells := 0, slots := 0, locals := 47 }) (va_Pc [.ref h0, .int p1, .int p2, .int p3, .int p4] (zB sa dC dI (zV63 h0 tp h0_tapeLength h0_faultKind h0_faultPlace nw im sl rd wk fm mt ch dy nw nw_isKept tn nw_strayed nw_names nw_known nw_gone tn tn_hours tn_courts tn_gateCount tn_people tn_lines tn_falseHours tn_strayers tn_deep tn_above tn_doors tn_degrees tn_neighbours tn_shows tn_oneEnd tn_otherEnd tn_told tn_strayParts tn_strayCourts tn_shows cA_tn_shows f_tn_shows tn_told cA_tn_told f_tn_told tn_strayCourts cA_tn_strayCourts f_tn_strayCourts) [(cA_tn_shows, .int), (cA_tn_told, .int), (cA_tn_strayCourts, .int)] sz)) (va_Qi (fun (r : Int32) (_ : Unit) => ((-5) ≤ r.toInt ∧ r.toInt ≤ 1)) (fun _ t => ∃ (n_nw_4 : Int32) (n_nw_5 : Int32), zW dC dI (zV63 h0 tp h0_tapeLength h0_faultKind h0_faultPlace nw im sl rd wk fm mt ch dy nw nw_isKept tn nw_strayed nw_names n_nw_4 n_nw_5 tn tn_hours tn_courts tn_gateCount tn_people tn_lines tn_falseHours tn_strayers tn_deep tn_above tn_doors tn_degrees tn_neighbours tn_shows tn_oneEnd tn_otherEnd tn_told tn_strayParts tn_strayCourts tn_shows cA_tn_shows f_tn_shows tn_told cA_tn_told f_tn_told tn_strayCourts cA_tn_strayCourts f_tn_strayCourts) [] (va_A (zV63 h0 tp h0_tapeLength h0_faultKind h0_faultPlace nw im sl rd wk fm mt ch dy nw nw_isKept tn nw_strayed nw_names nw_known nw_gone tn tn_hours tn_courts tn_gateCount tn_people tn_lines tn_falseHours tn_strayers tn_deep tn_above tn_doors tn_degrees tn_neighbours tn_shows tn_oneEnd tn_otherEnd tn_told tn_strayParts tn_strayCourts tn_shows cA_tn_shows f_tn_shows tn_told cA_tn_told f_tn_told tn_strayCourts cA_tn_strayCourts f_tn_strayCourts) sz) t) (va_A (zV63 h0 tp h0_tapeLength h0_faultKind h0_faultPlace nw im sl rd wk fm mt ch dy nw nw_isKept tn nw_strayed nw_names nw_known nw_gone tn tn_hours tn_courts tn_gateCount tn_people tn_lines tn_falseHours tn_strayers tn_deep tn_above tn_doors tn_degrees tn_neighbours tn_shows tn_oneEnd tn_otherEnd tn_told tn_strayParts tn_strayCourts tn_shows cA_tn_shows f_tn_shows tn_told cA_tn_told f_tn_told tn_strayCourts cA_tn_strayCourts f_tn_strayCourts) sz)) 0 0 (va_A (zV63 h0 tp h0_tapeLength h0_faultKind h0_faultPlace nw im sl rd wk fm mt ch dy nw nw_isKept tn nw_strayed nw_names nw_known nw_gone tn tn_hours tn_courts tn_gateCount tn_people tn_lines tn_falseHours tn_strayers tn_deep tn_above tn_doors tn_degrees tn_neighbours tn_shows tn_oneEnd tn_otherEnd tn_told tn_strayParts tn_strayCourts tn_shows cA_tn_shows f_tn_shows tn_told cA_tn_told f_tn_told tn_strayCourts cA_tn_strayCourts f_tn_strayCourts) sz) := by
  refine z_enter (by decide) (by exact (Nat.le_of_ble_eq_true rfl)) ?_
  intro p e s m args below meth c ls A R Qc hargs hsz hQe hAe hRe hx hb hml hr hts hown hlocks hin hl hP hK hD hN hXs hA hS
  rw [hAe] at hQe
  have hown : s.vm.findClass RX9 = some m.cls := hown
  have hl : lv_has ls 11 [(0, .ref h0), (1, .int p1), (2, .int p2), (3, .int p3), (4, .int p4)] := hl
  refine lv_aload_n hx hb dX9_hear_0 rfl (lv_at hl 0 rfl) ?_
  refine va_get (D := (dC, dI)) (ci := 9) (v := .ref nw) (C := RX9) (T := TX9) (N := 13) hx hb hts zl_X9 hown hK hP 0 rfl rfl 4 (by decide) (hts _ zw_t2_193) (fun _ h9 => h9) rfl dX9_hear_1 ?_
  refine va_get (D := (dC, dI)) (ci := 3) (v := .ref tn) (C := RX3) (T := TX3) (N := 6) hx hb hts zl_X3 hown hK hP 1 rfl rfl 1 (by decide) (hts _ zw_t1_156) (fun _ h9 => h9) rfl dX9_hear_4 ?_
  refine lv_astore (lv' := [(5, .ref tn), (0, .ref h0), (1, .int p1), (2, .int p2), (3, .int p3), (4, .int p4)]) hx hb dX9_hear_7 hl (by decide) rfl (fun ls hl => ?_)
  refine lv_aload hx hb dX9_hear_9 (lv_at hl 0 rfl) ?_
  refine lv_iload_n hx hb dX9_hear_11 rfl (lv_at hl 2 rfl) ?_
  obtain ⟨hPc, hDc, hFc⟩ := z_cut (wc := (zV1 tn tn_hours tn_courts tn_gateCount tn_people tn_lines tn_falseHours tn_strayers tn_deep tn_above tn_doors tn_degrees tn_neighbours tn_shows tn_oneEnd tn_otherEnd tn_told tn_strayParts tn_strayCourts)) hP hD hS hA [2] rfl (by decide +kernel)
  have hKc := hK.sub (tys' := []) [] rfl
  refine va_calli (va_runV (As := [.int p1]) (rest := []) ⟨hx, hb, hml, hown, hts⟩ (k_X7_hasPerson l sa dC dI tn p1 tn_hours tn_courts tn_gateCount tn_people tn_lines tn_falseHours tn_strayers tn_deep tn_above tn_doors tn_degrees tn_neighbours tn_shows tn_oneEnd tn_otherEnd tn_told tn_strayParts tn_strayCourts b_tn_hours b_tn_courts b_tn_gateCount b_tn_people b_tn_falseHours b_tn_deep s.heap.size) (cwV 1 hts (z_gV zw_t3_181 zw_t3_182 zw_t3_183 zw_t1_3 zw_t3_184) rfl rfl rfl (by decide +kernel) (by rw [← hRe]; exact ⟨(Nat.le_of_ble_eq_true rfl), (Nat.le_of_ble_eq_true rfl)⟩)) (z_preV hPc hKc hDc hN hXs hS hFc (q := (RX7, TX7, 18)) (ci := 7) (q0 := 0) rfl rfl) rfl rfl hl.1 rfl (lv_room (Nat.le_of_ble_eq_true rfl)) dX9_hear_12 (by rw [← hRe]; exact ⟨(Nat.le_of_ble_eq_true rfl), (Nat.le_of_ble_eq_true rfl)⟩)) hS (fun q _ h => hFc q h) hFc (fun r_1 u t H1 locs ht hvm hw hB hz1 hk1 hS => ?_)
  obtain ⟨hP, hD, hK⟩ := z_after3 (wn := (zV64 h0 tp h0_tapeLength h0_faultKind h0_faultPlace nw im sl rd wk fm mt ch dy nw nw_isKept tn nw_strayed nw_names nw_known nw_gone tn_shows cA_tn_shows f_tn_shows tn_told cA_tn_told f_tn_told tn_strayCourts cA_tn_strayCourts f_tn_strayCourts tn tn_hours tn_courts tn_gateCount tn_people tn_lines tn_falseHours tn_strayers tn_deep tn_above tn_doors tn_degrees tn_neighbours tn_shows tn_oneEnd tn_otherEnd tn_told tn_strayParts tn_strayCourts)) hB ht hvm hP hD hK [2] [0, 1, 3, 4, 5] rfl 6 rfl (by decide +kernel) rfl (by decide +kernel) hk1 hFc
  generalize H1 = H at hP hS ⊢
  have hK : va_K (dC, dI) vwCl [(cA_tn_shows, .int), (cA_tn_told, .int), (cA_tn_strayCourts, .int)] s := hK
  have b_r_1 : 0 ≤ r_1.toInt ∧ r_1.toInt ≤ 1 := hw.1
  have s_r_1 := hw.2
  refine lv_if_eq (tgt := 36) hx hb dX9_hear_15 (by decide) (fun c_2 => ?_) (fun c_2 => ?_)
  · have ic_2 := zz_eq rfl (show Int32.toInt 0 = 0 from by decide) c_2
    refine lv_bipush (v := (-2)) hx hb dX9_hear_36 (by decide) ?_
    exact W.iret (v := (-2)) hx hb hr (fun t ht hW => by rw [← hQe]; exact ⟨⟨(-2), (), rfl, (by decide), ⟨nw_known, nw_gone, z_ret hP hK hD ht hW [0, 1, 5, 2, 3, 4] [] rfl (by decide) rfl⟩⟩, hS.F ht⟩) hS.2.2 dX9_hear_38
  · have ic_2 := zz_neq rfl (show Int32.toInt 0 = 0 from by decide) c_2
    refine lv_aload hx hb dX9_hear_18 (lv_at hl 0 rfl) ?_
    refine lv_iload_n hx hb dX9_hear_20 rfl (lv_at hl 3 rfl) ?_
    obtain ⟨hPc, hDc, hFc⟩ := z_cut (wc := (zV1 tn tn_hours tn_courts tn_gateCount tn_people tn_lines tn_falseHours tn_strayers tn_deep tn_above tn_doors tn_degrees tn_neighbours tn_shows tn_oneEnd tn_otherEnd tn_told tn_strayParts tn_strayCourts)) hP hD hS hA [5] rfl (by decide +kernel)
    have hKc := hK.sub (tys' := []) [] rfl
    refine va_calli (va_runV (As := [.int p2]) (rest := []) ⟨hx, hb, hml, hown, hts⟩ (k_X7_hasCourt l sa dC dI tn p2 tn_hours tn_courts tn_gateCount tn_people tn_lines tn_falseHours tn_strayers tn_deep tn_above tn_doors tn_degrees tn_neighbours tn_shows tn_oneEnd tn_otherEnd tn_told tn_strayParts tn_strayCourts b_tn_hours b_tn_courts b_tn_gateCount b_tn_people b_tn_falseHours b_tn_deep H.size) (cwV 1 hts (z_gV zw_t3_197 zw_t3_198 zw_t3_199 zw_t1_3 zw_t3_200) rfl rfl rfl (by decide +kernel) (by rw [← hRe]; exact ⟨(Nat.le_of_ble_eq_true rfl), (Nat.le_of_ble_eq_true rfl)⟩)) (z_preV hPc hKc hDc hN hXs hS hFc (q := (RX7, TX7, 18)) (ci := 7) (q0 := 0) rfl rfl) rfl rfl hl.1 rfl (lv_room (Nat.le_of_ble_eq_true rfl)) dX9_hear_21 (by rw [← hRe]; exact ⟨(Nat.le_of_ble_eq_true rfl), (Nat.le_of_ble_eq_true rfl)⟩)) hS (fun q _ h => hFc q h) hFc (fun r_3 u t H1 locs ht hvm hw hB hz1 hk1 hS => ?_)
    obtain ⟨hP, hD, hK⟩ := z_after3 (wn := (zV64 h0 tp h0_tapeLength h0_faultKind h0_faultPlace nw im sl rd wk fm mt ch dy nw nw_isKept tn nw_strayed nw_names nw_known nw_gone tn_shows cA_tn_shows f_tn_shows tn_told cA_tn_told f_tn_told tn_strayCourts cA_tn_strayCourts f_tn_strayCourts tn tn_hours tn_courts tn_gateCount tn_people tn_lines tn_falseHours tn_strayers tn_deep tn_above tn_doors tn_degrees tn_neighbours tn_shows tn_oneEnd tn_otherEnd tn_told tn_strayParts tn_strayCourts)) hB ht hvm hP hD hK [5] [0, 1, 2, 3, 4] rfl 6 rfl (by decide +kernel) rfl (by decide +kernel) hk1 hFc
    generalize H1 = H at hP hS ⊢
    have hK : va_K (dC, dI) vwCl [(cA_tn_shows, .int), (cA_tn_told, .int), (cA_tn_strayCourts, .int)] s := hK
    have b_r_3 : 0 ≤ r_3.toInt ∧ r_3.toInt ≤ 1 := hw.1
    have s_r_3 := hw.2
    refine lv_if_eq (tgt := 36) hx hb dX9_hear_24 (by decide) (fun c_4 => ?_) (fun c_4 => ?_)
    · have ic_4 := zz_eq rfl (show Int32.toInt 0 = 0 from by decide) c_4
      refine lv_bipush (v := (-2)) hx hb dX9_hear_36 (by decide) ?_
      exact W.iret (v := (-2)) hx hb hr (fun t ht hW => by rw [← hQe]; exact ⟨⟨(-2), (), rfl, (by decide), ⟨nw_known, nw_gone, z_ret hP hK hD ht hW [0, 1, 5, 2, 3, 4] [] rfl (by decide) rfl⟩⟩, hS.F ht⟩) hS.2.2 dX9_hear_38
    · have ic_4 := zz_neq rfl (show Int32.toInt 0 = 0 from by decide) c_4
      refine lv_aload hx hb dX9_hear_27 (lv_at hl 0 rfl) ?_
      refine lv_iload_n hx hb dX9_hear_29 rfl (lv_at hl 4 rfl) ?_
      obtain ⟨hPc, hDc, hFc⟩ := z_cut (wc := (zV1 tn tn_hours tn_courts tn_gateCount tn_people tn_lines tn_falseHours tn_strayers tn_deep tn_above tn_doors tn_degrees tn_neighbours tn_shows tn_oneEnd tn_otherEnd tn_told tn_strayParts tn_strayCourts)) hP hD hS hA [5] rfl (by decide +kernel)
      have hKc := hK.sub (tys' := []) [] rfl
      refine va_calli (va_runV (As := [.int p3]) (rest := []) ⟨hx, hb, hml, hown, hts⟩ (k_X7_hasHour l sa dC dI tn p3 tn_hours tn_courts tn_gateCount tn_people tn_lines tn_falseHours tn_strayers tn_deep tn_above tn_doors tn_degrees tn_neighbours tn_shows tn_oneEnd tn_otherEnd tn_told tn_strayParts tn_strayCourts b_tn_hours b_tn_courts b_tn_gateCount b_tn_people b_tn_falseHours b_tn_deep H.size) (cwV 1 hts (z_gV zw_t3_185 zw_t3_186 zw_t3_187 zw_t1_3 zw_t3_188) rfl rfl rfl (by decide +kernel) (by rw [← hRe]; exact ⟨(Nat.le_of_ble_eq_true rfl), (Nat.le_of_ble_eq_true rfl)⟩)) (z_preV hPc hKc hDc hN hXs hS hFc (q := (RX7, TX7, 18)) (ci := 7) (q0 := 0) rfl rfl) rfl rfl hl.1 rfl (lv_room (Nat.le_of_ble_eq_true rfl)) dX9_hear_30 (by rw [← hRe]; exact ⟨(Nat.le_of_ble_eq_true rfl), (Nat.le_of_ble_eq_true rfl)⟩)) hS (fun q _ h => hFc q h) hFc (fun r_5 u t H1 locs ht hvm hw hB hz1 hk1 hS => ?_)
      obtain ⟨hP, hD, hK⟩ := z_after3 (wn := (zV64 h0 tp h0_tapeLength h0_faultKind h0_faultPlace nw im sl rd wk fm mt ch dy nw nw_isKept tn nw_strayed nw_names nw_known nw_gone tn_shows cA_tn_shows f_tn_shows tn_told cA_tn_told f_tn_told tn_strayCourts cA_tn_strayCourts f_tn_strayCourts tn tn_hours tn_courts tn_gateCount tn_people tn_lines tn_falseHours tn_strayers tn_deep tn_above tn_doors tn_degrees tn_neighbours tn_shows tn_oneEnd tn_otherEnd tn_told tn_strayParts tn_strayCourts)) hB ht hvm hP hD hK [5] [0, 1, 2, 3, 4] rfl 6 rfl (by decide +kernel) rfl (by decide +kernel) hk1 hFc
      generalize H1 = H at hP hS ⊢
      have hK : va_K (dC, dI) vwCl [(cA_tn_shows, .int), (cA_tn_told, .int), (cA_tn_strayCourts, .int)] s := hK
      have b_r_5 : 0 ≤ r_5.toInt ∧ r_5.toInt ≤ 1 := hw.1
      have s_r_5 := hw.2
      refine lv_if_ne (tgt := 39) hx hb dX9_hear_33 (by decide) (fun c_6 => ?_) (fun c_6 => ?_)
      · have ic_6 := zz_ne rfl (show Int32.toInt 0 = 0 from by decide) c_6
        refine lv_iconst (v := 1) hx hb dX9_hear_39 (by decide) ?_
        refine lv_iload_n hx hb dX9_hear_40 rfl (lv_at hl 2 rfl) ?_
        refine lv_ishl hx hb dX9_hear_41 ?_
        refine lv_topi (fun x_7 ex_7 => ?_)
        have b_x_7 : 1 ≤ x_7.toInt ∧ x_7.toInt ≤ 1024 := by rw [ex_7]; exact zi_shl1 rfl (by first | with_reducible assumption | omega)
        refine lv_istore (lv' := [(6, .int x_7), (5, .ref tn), (0, .ref h0), (1, .int p1), (2, .int p2), (3, .int p3), (4, .int p4)]) hx hb dX9_hear_42 hl (by decide) rfl (fun ls hl => ?_)
        refine lv_aload hx hb dX9_hear_44 (lv_at hl 1 rfl) ?_
        refine va_get (D := (dC, dI)) (ci := 7) (v := .int tn_strayers) (C := RX7) (T := TX7) (N := 18) hx hb hts zl_X7 hown hK hP 5 rfl rfl 6 (by decide) (hts _ zw_t1_74) (fun _ h9 => h9) rfl dX9_hear_46 ?_
        refine lv_iload_n hx hb dX9_hear_49 rfl (lv_at hl 3 rfl) ?_
        obtain ⟨hPc, hDc, hFc⟩ := z_cut (wc := []) hP hD hS hA [] rfl (by decide +kernel)
        have hKc := hK.sub (tys' := []) [] rfl
        refine va_calli (va_runS (As := [.int tn_strayers, .int p1]) (rest := []) ⟨hx, hb, hml, hown, hts⟩ (k_X9_has l sa dC dI tn_strayers p1 H.size) (va_cwS 2 hts (z_gS zw_t4_12 zw_t3_123 zw_t1_1 zw_t3_124) rfl rfl rfl (by decide +kernel) (by rw [← hRe]; exact ⟨(Nat.le_of_ble_eq_true rfl), (Nat.le_of_ble_eq_true rfl)⟩)) (z_preS hPc hKc hDc hN hXs hS hFc) rfl rfl hl.1 rfl (lv_room (Nat.le_of_ble_eq_true rfl)) dX9_hear_50 (by rw [← hRe]; exact ⟨(Nat.le_of_ble_eq_true rfl), (Nat.le_of_ble_eq_true rfl)⟩)) hS (fun q _ h => hFc q h) hFc (fun r_8 u t H1 locs ht hvm hw hB hz1 hk1 hS => ?_)
        obtain ⟨hP, hD, hK⟩ := z_after3 (wn := (zV64 h0 tp h0_tapeLength h0_faultKind h0_faultPlace nw im sl rd wk fm mt ch dy nw nw_isKept tn nw_strayed nw_names nw_known nw_gone tn_shows cA_tn_shows f_tn_shows tn_told cA_tn_told f_tn_told tn_strayCourts cA_tn_strayCourts f_tn_strayCourts tn tn_hours tn_courts tn_gateCount tn_people tn_lines tn_falseHours tn_strayers tn_deep tn_above tn_doors tn_degrees tn_neighbours tn_shows tn_oneEnd tn_otherEnd tn_told tn_strayParts tn_strayCourts)) hB ht hvm hP hD hK [] [0, 1, 2, 3, 4, 5] rfl 6 rfl (by decide +kernel) rfl (by decide +kernel) hk1 hFc
        generalize H1 = H at hP hS ⊢
        have hK : va_K (dC, dI) vwCl [(cA_tn_shows, .int), (cA_tn_told, .int), (cA_tn_strayCourts, .int)] s := hK
        have b_r_8 : 0 ≤ r_8.toInt ∧ r_8.toInt ≤ 1 := hw
        refine lv_if_eq (tgt := 88) hx hb dX9_hear_53 (by decide) (fun c_9 => ?_) (fun c_9 => ?_)
        · have ic_9 := zz_eq rfl (show Int32.toInt 0 = 0 from by decide) c_9
          refine lv_iconst (v := 0) hx hb dX9_hear_88 (by decide) ?_
          refine lv_istore (lv' := [(7, .int 0), (6, .int x_7), (5, .ref tn), (0, .ref h0), (1, .int p1), (2, .int p2), (3, .int p3), (4, .int p4)]) hx hb dX9_hear_89 hl (by decide) rfl (fun ls hl => ?_)
          refine lv_aload_n hx hb dX9_hear_91 rfl (lv_at hl 3 rfl) ?_
          refine va_get (D := (dC, dI)) (ci := 9) (v := .ref nw) (C := RX9) (T := TX9) (N := 13) hx hb hts zl_X9 hown hK hP 0 rfl rfl 4 (by decide) (hts _ zw_t2_193) (fun _ h9 => h9) rfl dX9_hear_92 ?_
          refine va_get (D := (dC, dI)) (ci := 3) (v := .int nw_known) (C := RX3) (T := TX3) (N := 6) hx hb hts zl_X3 hown hK hP 1 rfl rfl 4 (by decide) (hts _ zw_t1_165) (fun _ h9 => h9) rfl dX9_hear_95 ?_
          refine lv_iload_n hx hb dX9_hear_98 rfl (lv_at hl 4 rfl) ?_
          obtain ⟨hPc, hDc, hFc⟩ := z_cut (wc := []) hP hD hS hA [] rfl (by decide +kernel)
          have hKc := hK.sub (tys' := []) [] rfl
          refine va_calli (va_runS (As := [.int nw_known, .int p1]) (rest := []) ⟨hx, hb, hml, hown, hts⟩ (k_X9_has l sa dC dI nw_known p1 H.size) (va_cwS 2 hts (z_gS zw_t4_12 zw_t3_123 zw_t1_1 zw_t3_124) rfl rfl rfl (by decide +kernel) (by rw [← hRe]; exact ⟨(Nat.le_of_ble_eq_true rfl), (Nat.le_of_ble_eq_true rfl)⟩)) (z_preS hPc hKc hDc hN hXs hS hFc) rfl rfl hl.1 rfl (lv_room (Nat.le_of_ble_eq_true rfl)) dX9_hear_99 (by rw [← hRe]; exact ⟨(Nat.le_of_ble_eq_true rfl), (Nat.le_of_ble_eq_true rfl)⟩)) hS (fun q _ h => hFc q h) hFc (fun r_10 u t H1 locs ht hvm hw hB hz1 hk1 hS => ?_)
          obtain ⟨hP, hD, hK⟩ := z_after3 (wn := (zV64 h0 tp h0_tapeLength h0_faultKind h0_faultPlace nw im sl rd wk fm mt ch dy nw nw_isKept tn nw_strayed nw_names nw_known nw_gone tn_shows cA_tn_shows f_tn_shows tn_told cA_tn_told f_tn_told tn_strayCourts cA_tn_strayCourts f_tn_strayCourts tn tn_hours tn_courts tn_gateCount tn_people tn_lines tn_falseHours tn_strayers tn_deep tn_above tn_doors tn_degrees tn_neighbours tn_shows tn_oneEnd tn_otherEnd tn_told tn_strayParts tn_strayCourts)) hB ht hvm hP hD hK [] [0, 1, 2, 3, 4, 5] rfl 6 rfl (by decide +kernel) rfl (by decide +kernel) hk1 hFc
          generalize H1 = H at hP hS ⊢
          have hK : va_K (dC, dI) vwCl [(cA_tn_shows, .int), (cA_tn_told, .int), (cA_tn_strayCourts, .int)] s := hK
          have b_r_10 : 0 ≤ r_10.toInt ∧ r_10.toInt ≤ 1 := hw
          refine lv_if_eq (tgt := 119) hx hb dX9_hear_102 (by decide) (fun c_11 => ?_) (fun c_11 => ?_)
          · have ic_11 := zz_eq rfl (show Int32.toInt 0 = 0 from by decide) c_11
            refine lv_iconst (v := 1) hx hb dX9_hear_119 (by decide) ?_
            refine lv_goto (tgt := 124) hx hb dX9_hear_120 (by decide) ?_
            refine lv_istore (lv' := [(8, .int 1), (7, .int 0), (6, .int x_7), (5, .ref tn), (0, .ref h0), (1, .int p1), (2, .int p2), (3, .int p3), (4, .int p4)]) hx hb dX9_hear_124 hl (by decide) rfl (fun ls hl => ?_)
            refine lv_iload hx hb dX9_hear_126 (lv_at hl 1 rfl) ?_
            refine lv_if_eq (tgt := 153) hx hb dX9_hear_128 (by decide) (fun _ => ?_) (fun q => absurd q (by decide))
            refine lv_iconst (v := 0) hx hb dX9_hear_153 (by decide) ?_
            refine lv_istore (lv' := [(9, .int 0), (8, .int 1), (7, .int 0), (6, .int x_7), (5, .ref tn), (0, .ref h0), (1, .int p1), (2, .int p2), (3, .int p3), (4, .int p4)]) hx hb dX9_hear_154 hl (by decide) rfl (fun ls hl => ?_)
            refine lv_iload hx hb dX9_hear_156 (lv_at hl 1 rfl) ?_
            refine lv_if_eq (tgt := 182) hx hb dX9_hear_158 (by decide) (fun q => absurd q (by decide)) (fun _ => ?_)
            refine lv_aload hx hb dX9_hear_161 (lv_at hl 4 rfl) ?_
            refine lv_iload_n hx hb dX9_hear_163 rfl (lv_at hl 6 rfl) ?_
            refine lv_iload_n hx hb dX9_hear_164 rfl (lv_at hl 8 rfl) ?_
            refine lv_iconst (v := 0) hx hb dX9_hear_165 (by decide) ?_
            obtain ⟨hPc, hDc, hFc⟩ := z_cut (wc := (zV3 tn tn_hours tn_courts tn_gateCount tn_people tn_lines tn_falseHours tn_strayers tn_deep tn_above tn_doors tn_degrees tn_neighbours tn_shows tn_oneEnd tn_otherEnd tn_told tn_strayParts tn_strayCourts tn_shows cA_tn_shows f_tn_shows tn_told cA_tn_told f_tn_told tn_strayCourts cA_tn_strayCourts f_tn_strayCourts)) hP hD hS hA [5, 2, 3, 4] rfl (by decide +kernel)
            have hKc := hK.sub (tys' := [(cA_tn_shows, .int), (cA_tn_told, .int), (cA_tn_strayCourts, .int)]) [0, 1, 2] rfl
            refine va_calli (va_runV (As := [.int p1, .int p3, .int 0]) (rest := []) ⟨hx, hb, hml, hown, hts⟩ (k_X7_showsOf l sa dC dI tn p1 p3 (0) tn_hours tn_courts tn_gateCount tn_people tn_lines tn_falseHours tn_strayers tn_deep tn_above tn_doors tn_degrees tn_neighbours tn_shows tn_oneEnd tn_otherEnd tn_told tn_strayParts tn_strayCourts cA_tn_shows f_tn_shows cA_tn_told f_tn_told cA_tn_strayCourts f_tn_strayCourts (by first | with_reducible assumption | omega) (by first | with_reducible assumption | omega) b_tn_hours b_tn_courts b_tn_gateCount b_tn_people b_tn_falseHours b_tn_deep b_f_tn_told b_f_tn_strayCourts H.size) (cwV 3 hts (z_gV zw_t5_133 zw_t3_206 zw_t3_207 zw_t1_3 zw_t3_208) rfl rfl rfl (by decide +kernel) (by rw [← hRe]; exact ⟨(Nat.le_of_ble_eq_true rfl), (Nat.le_of_ble_eq_true rfl)⟩)) (z_preV hPc hKc hDc hN hXs hS hFc (q := (RX7, TX7, 18)) (ci := 7) (q0 := 0) rfl rfl) rfl rfl hl.1 rfl (lv_room (Nat.le_of_ble_eq_true rfl)) dX9_hear_166 (by rw [← hRe]; exact ⟨(Nat.le_of_ble_eq_true rfl), (Nat.le_of_ble_eq_true rfl)⟩)) hS (fun q _ h => hFc q h) hFc (fun r_12 u t H1 locs ht hvm hw hB hz1 hk1 hS => ?_)
            obtain ⟨hP, hD, hK⟩ := z_after3 (wn := (zV63 h0 tp h0_tapeLength h0_faultKind h0_faultPlace nw im sl rd wk fm mt ch dy nw nw_isKept tn nw_strayed nw_names nw_known nw_gone tn tn_hours tn_courts tn_gateCount tn_people tn_lines tn_falseHours tn_strayers tn_deep tn_above tn_doors tn_degrees tn_neighbours tn_shows tn_oneEnd tn_otherEnd tn_told tn_strayParts tn_strayCourts tn_shows cA_tn_shows f_tn_shows tn_told cA_tn_told f_tn_told tn_strayCourts cA_tn_strayCourts f_tn_strayCourts)) hB ht hvm hP hD hK [5, 2, 3, 4] [0, 1] rfl 6 rfl (by decide +kernel) rfl (by decide +kernel) hk1 hFc
            generalize H1 = H at hP hS ⊢
            have hK : va_K (dC, dI) vwCl [(cA_tn_shows, .int), (cA_tn_told, .int), (cA_tn_strayCourts, .int)] s := hK
            refine lv_iload_n hx hb dX9_hear_169 rfl (lv_at hl 7 rfl) ?_
            obtain ⟨hPc, hDc, hFc⟩ := z_cut (wc := []) hP hD hS hA [] rfl (by decide +kernel)
            have hKc := hK.sub (tys' := []) [] rfl
            refine va_calli (va_runS (As := [.int r_12, .int p2]) (rest := []) ⟨hx, hb, hml, hown, hts⟩ (k_X9_has l sa dC dI r_12 p2 H.size) (va_cwS 2 hts (z_gS zw_t4_12 zw_t3_123 zw_t1_1 zw_t3_124) rfl rfl rfl (by decide +kernel) (by rw [← hRe]; exact ⟨(Nat.le_of_ble_eq_true rfl), (Nat.le_of_ble_eq_true rfl)⟩)) (z_preS hPc hKc hDc hN hXs hS hFc) rfl rfl hl.1 rfl (lv_room (Nat.le_of_ble_eq_true rfl)) dX9_hear_170 (by rw [← hRe]; exact ⟨(Nat.le_of_ble_eq_true rfl), (Nat.le_of_ble_eq_true rfl)⟩)) hS (fun q _ h => hFc q h) hFc (fun r_13 u t H1 locs ht hvm hw hB hz1 hk1 hS => ?_)
            obtain ⟨hP, hD, hK⟩ := z_after3 (wn := (zV63 h0 tp h0_tapeLength h0_faultKind h0_faultPlace nw im sl rd wk fm mt ch dy nw nw_isKept tn nw_strayed nw_names nw_known nw_gone tn tn_hours tn_courts tn_gateCount tn_people tn_lines tn_falseHours tn_strayers tn_deep tn_above tn_doors tn_degrees tn_neighbours tn_shows tn_oneEnd tn_otherEnd tn_told tn_strayParts tn_strayCourts tn_shows cA_tn_shows f_tn_shows tn_told cA_tn_told f_tn_told tn_strayCourts cA_tn_strayCourts f_tn_strayCourts)) hB ht hvm hP hD hK [] [0, 1, 2, 3, 4, 5] rfl 6 rfl (by decide +kernel) rfl (by decide +kernel) hk1 hFc
            generalize H1 = H at hP hS ⊢
            have hK : va_K (dC, dI) vwCl [(cA_tn_shows, .int), (cA_tn_told, .int), (cA_tn_strayCourts, .int)] s := hK
            have b_r_13 : 0 ≤ r_13.toInt ∧ r_13.toInt ≤ 1 := hw
            refine lv_iload hx hb dX9_hear_173 (lv_at hl 9 rfl) ?_
            have nb_p4 := zi_nb p4
            refine lv_icmp_ne (tgt := 182) hx hb dX9_hear_175 (by decide) (fun c_14 => ?_) (fun c_14 => ?_)
            · have ic_14 := zz_ne rfl rfl c_14
              refine lv_iconst (v := 0) hx hb dX9_hear_182 (by decide) ?_
              refine lv_istore (lv' := [(10, .int 0), (9, .int 0), (8, .int 1), (7, .int 0), (6, .int x_7), (5, .ref tn), (0, .ref h0), (1, .int p1), (2, .int p2), (3, .int p3), (4, .int p4)]) hx hb dX9_hear_183 hl (by decide) rfl (fun ls hl => ?_)
              refine lv_iload hx hb dX9_hear_185 (lv_at hl 1 rfl) ?_
              refine lv_if_ne (tgt := 198) hx hb dX9_hear_187 (by decide) (fun q => absurd q (by decide)) (fun _ => ?_)
              refine lv_iload hx hb dX9_hear_190 (lv_at hl 0 rfl) ?_
              refine lv_if_ne (tgt := 198) hx hb dX9_hear_192 (by decide) (fun q => absurd q (by decide)) (fun _ => ?_)
              refine lv_bipush (v := (-5)) hx hb dX9_hear_195 (by decide) ?_
              exact W.iret (v := (-5)) hx hb hr (fun t ht hW => by rw [← hQe]; exact ⟨⟨(-5), (), rfl, (by decide), ⟨nw_known, nw_gone, z_ret hP hK hD ht hW [0, 1, 2, 3, 4, 5] [] rfl (by decide) rfl⟩⟩, hS.F ht⟩) hS.2.2 dX9_hear_197
            · have ic_14 := zz_nne rfl rfl c_14
              refine lv_iconst (v := 1) hx hb dX9_hear_178 (by decide) ?_
              refine lv_goto (tgt := 183) hx hb dX9_hear_179 (by decide) ?_
              refine lv_istore (lv' := [(10, .int 1), (9, .int 0), (8, .int 1), (7, .int 0), (6, .int x_7), (5, .ref tn), (0, .ref h0), (1, .int p1), (2, .int p2), (3, .int p3), (4, .int p4)]) hx hb dX9_hear_183 hl (by decide) rfl (fun ls hl => ?_)
              refine lv_iload hx hb dX9_hear_185 (lv_at hl 1 rfl) ?_
              refine lv_if_ne (tgt := 198) hx hb dX9_hear_187 (by decide) (fun q => absurd q (by decide)) (fun _ => ?_)
              refine lv_iload hx hb dX9_hear_190 (lv_at hl 0 rfl) ?_
              refine lv_if_ne (tgt := 198) hx hb dX9_hear_192 (by decide) (fun _ => ?_) (fun q => absurd q (by decide))
              refine lv_iload hx hb dX9_hear_198 (lv_at hl 1 rfl) ?_
              refine lv_if_eq (tgt := 210) hx hb dX9_hear_200 (by decide) (fun _ => ?_) (fun q => absurd q (by decide))
              refine lv_aload_n hx hb dX9_hear_210 rfl (lv_at hl 6 rfl) ?_
              refine va_get (D := (dC, dI)) (ci := 9) (v := .ref nw) (C := RX9) (T := TX9) (N := 13) hx hb hts zl_X9 hown hK hP 0 rfl rfl 4 (by decide) (hts _ zw_t2_193) (fun _ h9 => h9) rfl dX9_hear_211 ?_
              refine lv_dup hx hb dX9_hear_214 rfl ?_
              refine va_get (D := (dC, dI)) (ci := 3) (v := .int nw_known) (C := RX3) (T := TX3) (N := 6) hx hb hts zl_X3 hown hK hP 1 rfl rfl 4 (by decide) (hts _ zw_t1_165) (fun _ h9 => h9) rfl dX9_hear_215 ?_
              refine lv_iload hx hb dX9_hear_218 (lv_at hl 4 rfl) ?_
              refine lv_aload hx hb dX9_hear_220 (lv_at hl 5 rfl) ?_
              refine va_get (D := (dC, dI)) (ci := 7) (v := .int tn_strayers) (C := RX7) (T := TX7) (N := 18) hx hb hts zl_X7 hown hK hP 2 rfl rfl 6 (by decide) (hts _ zw_t1_74) (fun _ h9 => h9) rfl dX9_hear_222 ?_
              refine lv_iand hx hb dX9_hear_225 ?_
              refine lv_topi (fun x_15 ex_15 => ?_)
              have b_x_15 : 0 ≤ x_15.toInt ∧ x_15.toInt ≤ 1024 := by rw [ex_15]; exact zi_andL rfl (by first | with_reducible assumption | omega) (by first | with_reducible assumption | omega)
              refine lv_ior hx hb dX9_hear_226 ?_
              refine lv_topi (fun x_16 ex_16 => ?_)
              refine va_put (D := (dC, dI)) (ci := 3) (v := .int x_16) (ty := .int) (C := RX3) (T := TX3) (N := 6) hx hb hts zl_X3 tyX3 tyX3_ok nmX3 hown hK hP hD hS 1 rfl rfl 4 (by decide) (hts _ zw_t1_165) (fun _ h9 => h9) rfl (by decide +kernel) rfl rfl (Nat.le_of_ble_eq_true rfl) dX9_hear_227 (fun H locs hP hD hS => ?_)
              have hP : va_P (dC, dI) vwCl (zV63 h0 tp h0_tapeLength h0_faultKind h0_faultPlace nw im sl rd wk fm mt ch dy nw nw_isKept tn nw_strayed nw_names x_16 nw_gone tn tn_hours tn_courts tn_gateCount tn_people tn_lines tn_falseHours tn_strayers tn_deep tn_above tn_doors tn_degrees tn_neighbours tn_shows tn_oneEnd tn_otherEnd tn_told tn_strayParts tn_strayCourts tn_shows cA_tn_shows f_tn_shows tn_told cA_tn_told f_tn_told tn_strayCourts cA_tn_strayCourts f_tn_strayCourts) H := hP
              have hD : va_D A (zV63 h0 tp h0_tapeLength h0_faultKind h0_faultPlace nw im sl rd wk fm mt ch dy nw nw_isKept tn nw_strayed nw_names x_16 nw_gone tn tn_hours tn_courts tn_gateCount tn_people tn_lines tn_falseHours tn_strayers tn_deep tn_above tn_doors tn_degrees tn_neighbours tn_shows tn_oneEnd tn_otherEnd tn_told tn_strayParts tn_strayCourts tn_shows cA_tn_shows f_tn_shows tn_told cA_tn_told f_tn_told tn_strayCourts cA_tn_strayCourts f_tn_strayCourts) := hD
              refine lv_iload hx hb dX9_hear_230 (lv_at hl 1 rfl) ?_
              refine lv_if_eq (tgt := 249) hx hb dX9_hear_232 (by decide) (fun _ => ?_) (fun q => absurd q (by decide))
              refine lv_iconst (v := 1) hx hb dX9_hear_249 (by decide) ?_
              exact W.iret (v := 1) hx hb hr (fun t ht hW => by rw [← hQe]; exact ⟨⟨1, (), rfl, (by decide), ⟨x_16, nw_gone, z_ret hP hK hD ht hW [0, 1, 2, 3, 4, 5] [] rfl (by decide) rfl⟩⟩, hS.F ht⟩) hS.2.2 dX9_hear_250
          · have ic_11 := zz_neq rfl (show Int32.toInt 0 = 0 from by decide) c_11
            refine lv_aload_n hx hb dX9_hear_105 rfl (lv_at hl 3 rfl) ?_
            refine va_get (D := (dC, dI)) (ci := 9) (v := .ref nw) (C := RX9) (T := TX9) (N := 13) hx hb hts zl_X9 hown hK hP 0 rfl rfl 4 (by decide) (hts _ zw_t2_193) (fun _ h9 => h9) rfl dX9_hear_106 ?_
            refine va_get (D := (dC, dI)) (ci := 3) (v := .int nw_gone) (C := RX3) (T := TX3) (N := 6) hx hb hts zl_X3 hown hK hP 1 rfl rfl 5 (by decide) (hts _ zw_t1_168) (fun _ h9 => h9) rfl dX9_hear_109 ?_
            refine lv_iload_n hx hb dX9_hear_112 rfl (lv_at hl 4 rfl) ?_
            obtain ⟨hPc, hDc, hFc⟩ := z_cut (wc := []) hP hD hS hA [] rfl (by decide +kernel)
            have hKc := hK.sub (tys' := []) [] rfl
            refine va_calli (va_runS (As := [.int nw_gone, .int p1]) (rest := []) ⟨hx, hb, hml, hown, hts⟩ (k_X9_has l sa dC dI nw_gone p1 H.size) (va_cwS 2 hts (z_gS zw_t4_12 zw_t3_123 zw_t1_1 zw_t3_124) rfl rfl rfl (by decide +kernel) (by rw [← hRe]; exact ⟨(Nat.le_of_ble_eq_true rfl), (Nat.le_of_ble_eq_true rfl)⟩)) (z_preS hPc hKc hDc hN hXs hS hFc) rfl rfl hl.1 rfl (lv_room (Nat.le_of_ble_eq_true rfl)) dX9_hear_113 (by rw [← hRe]; exact ⟨(Nat.le_of_ble_eq_true rfl), (Nat.le_of_ble_eq_true rfl)⟩)) hS (fun q _ h => hFc q h) hFc (fun r_17 u t H1 locs ht hvm hw hB hz1 hk1 hS => ?_)
            obtain ⟨hP, hD, hK⟩ := z_after3 (wn := (zV64 h0 tp h0_tapeLength h0_faultKind h0_faultPlace nw im sl rd wk fm mt ch dy nw nw_isKept tn nw_strayed nw_names nw_known nw_gone tn_shows cA_tn_shows f_tn_shows tn_told cA_tn_told f_tn_told tn_strayCourts cA_tn_strayCourts f_tn_strayCourts tn tn_hours tn_courts tn_gateCount tn_people tn_lines tn_falseHours tn_strayers tn_deep tn_above tn_doors tn_degrees tn_neighbours tn_shows tn_oneEnd tn_otherEnd tn_told tn_strayParts tn_strayCourts)) hB ht hvm hP hD hK [] [0, 1, 2, 3, 4, 5] rfl 6 rfl (by decide +kernel) rfl (by decide +kernel) hk1 hFc
            generalize H1 = H at hP hS ⊢
            have hK : va_K (dC, dI) vwCl [(cA_tn_shows, .int), (cA_tn_told, .int), (cA_tn_strayCourts, .int)] s := hK
            have b_r_17 : 0 ≤ r_17.toInt ∧ r_17.toInt ≤ 1 := hw
            refine lv_if_ne (tgt := 123) hx hb dX9_hear_116 (by decide) (fun c_18 => ?_) (fun c_18 => ?_)
            · have ic_18 := zz_ne rfl (show Int32.toInt 0 = 0 from by decide) c_18
              refine lv_iconst (v := 0) hx hb dX9_hear_123 (by decide) ?_
              refine lv_istore (lv' := [(8, .int 0), (7, .int 0), (6, .int x_7), (5, .ref tn), (0, .ref h0), (1, .int p1), (2, .int p2), (3, .int p3), (4, .int p4)]) hx hb dX9_hear_124 hl (by decide) rfl (fun ls hl => ?_)
              refine lv_iload hx hb dX9_hear_126 (lv_at hl 1 rfl) ?_
              refine lv_if_eq (tgt := 153) hx hb dX9_hear_128 (by decide) (fun _ => ?_) (fun q => absurd q (by decide))
              refine lv_iconst (v := 0) hx hb dX9_hear_153 (by decide) ?_
              refine lv_istore (lv' := [(9, .int 0), (8, .int 0), (7, .int 0), (6, .int x_7), (5, .ref tn), (0, .ref h0), (1, .int p1), (2, .int p2), (3, .int p3), (4, .int p4)]) hx hb dX9_hear_154 hl (by decide) rfl (fun ls hl => ?_)
              refine lv_iload hx hb dX9_hear_156 (lv_at hl 1 rfl) ?_
              refine lv_if_eq (tgt := 182) hx hb dX9_hear_158 (by decide) (fun _ => ?_) (fun q => absurd q (by decide))
              refine lv_iconst (v := 0) hx hb dX9_hear_182 (by decide) ?_
              refine lv_istore (lv' := [(10, .int 0), (9, .int 0), (8, .int 0), (7, .int 0), (6, .int x_7), (5, .ref tn), (0, .ref h0), (1, .int p1), (2, .int p2), (3, .int p3), (4, .int p4)]) hx hb dX9_hear_183 hl (by decide) rfl (fun ls hl => ?_)
              refine lv_iload hx hb dX9_hear_185 (lv_at hl 1 rfl) ?_
              refine lv_if_ne (tgt := 198) hx hb dX9_hear_187 (by decide) (fun q => absurd q (by decide)) (fun _ => ?_)
              refine lv_iload hx hb dX9_hear_190 (lv_at hl 0 rfl) ?_
              refine lv_if_ne (tgt := 198) hx hb dX9_hear_192 (by decide) (fun q => absurd q (by decide)) (fun _ => ?_)
              refine lv_bipush (v := (-5)) hx hb dX9_hear_195 (by decide) ?_
              exact W.iret (v := (-5)) hx hb hr (fun t ht hW => by rw [← hQe]; exact ⟨⟨(-5), (), rfl, (by decide), ⟨nw_known, nw_gone, z_ret hP hK hD ht hW [0, 1, 5, 2, 3, 4] [] rfl (by decide) rfl⟩⟩, hS.F ht⟩) hS.2.2 dX9_hear_197
            · have ic_18 := zz_nne rfl (show Int32.toInt 0 = 0 from by decide) c_18
              refine lv_iconst (v := 1) hx hb dX9_hear_119 (by decide) ?_
              refine lv_goto (tgt := 124) hx hb dX9_hear_120 (by decide) ?_
              refine lv_istore (lv' := [(8, .int 1), (7, .int 0), (6, .int x_7), (5, .ref tn), (0, .ref h0), (1, .int p1), (2, .int p2), (3, .int p3), (4, .int p4)]) hx hb dX9_hear_124 hl (by decide) rfl (fun ls hl => ?_)
              refine lv_iload hx hb dX9_hear_126 (lv_at hl 1 rfl) ?_
              refine lv_if_eq (tgt := 153) hx hb dX9_hear_128 (by decide) (fun _ => ?_) (fun q => absurd q (by decide))
              refine lv_iconst (v := 0) hx hb dX9_hear_153 (by decide) ?_
              refine lv_istore (lv' := [(9, .int 0), (8, .int 1), (7, .int 0), (6, .int x_7), (5, .ref tn), (0, .ref h0), (1, .int p1), (2, .int p2), (3, .int p3), (4, .int p4)]) hx hb dX9_hear_154 hl (by decide) rfl (fun ls hl => ?_)
              refine lv_iload hx hb dX9_hear_156 (lv_at hl 1 rfl) ?_
              refine lv_if_eq (tgt := 182) hx hb dX9_hear_158 (by decide) (fun q => absurd q (by decide)) (fun _ => ?_)
              refine lv_aload hx hb dX9_hear_161 (lv_at hl 4 rfl) ?_
              refine lv_iload_n hx hb dX9_hear_163 rfl (lv_at hl 6 rfl) ?_
              refine lv_iload_n hx hb dX9_hear_164 rfl (lv_at hl 8 rfl) ?_
              refine lv_iconst (v := 0) hx hb dX9_hear_165 (by decide) ?_
              obtain ⟨hPc, hDc, hFc⟩ := z_cut (wc := (zV3 tn tn_hours tn_courts tn_gateCount tn_people tn_lines tn_falseHours tn_strayers tn_deep tn_above tn_doors tn_degrees tn_neighbours tn_shows tn_oneEnd tn_otherEnd tn_told tn_strayParts tn_strayCourts tn_shows cA_tn_shows f_tn_shows tn_told cA_tn_told f_tn_told tn_strayCourts cA_tn_strayCourts f_tn_strayCourts)) hP hD hS hA [5, 2, 3, 4] rfl (by decide +kernel)
              have hKc := hK.sub (tys' := [(cA_tn_shows, .int), (cA_tn_told, .int), (cA_tn_strayCourts, .int)]) [0, 1, 2] rfl
              refine va_calli (va_runV (As := [.int p1, .int p3, .int 0]) (rest := []) ⟨hx, hb, hml, hown, hts⟩ (k_X7_showsOf l sa dC dI tn p1 p3 (0) tn_hours tn_courts tn_gateCount tn_people tn_lines tn_falseHours tn_strayers tn_deep tn_above tn_doors tn_degrees tn_neighbours tn_shows tn_oneEnd tn_otherEnd tn_told tn_strayParts tn_strayCourts cA_tn_shows f_tn_shows cA_tn_told f_tn_told cA_tn_strayCourts f_tn_strayCourts (by first | with_reducible assumption | omega) (by first | with_reducible assumption | omega) b_tn_hours b_tn_courts b_tn_gateCount b_tn_people b_tn_falseHours b_tn_deep b_f_tn_told b_f_tn_strayCourts H.size) (cwV 3 hts (z_gV zw_t5_133 zw_t3_206 zw_t3_207 zw_t1_3 zw_t3_208) rfl rfl rfl (by decide +kernel) (by rw [← hRe]; exact ⟨(Nat.le_of_ble_eq_true rfl), (Nat.le_of_ble_eq_true rfl)⟩)) (z_preV hPc hKc hDc hN hXs hS hFc (q := (RX7, TX7, 18)) (ci := 7) (q0 := 0) rfl rfl) rfl rfl hl.1 rfl (lv_room (Nat.le_of_ble_eq_true rfl)) dX9_hear_166 (by rw [← hRe]; exact ⟨(Nat.le_of_ble_eq_true rfl), (Nat.le_of_ble_eq_true rfl)⟩)) hS (fun q _ h => hFc q h) hFc (fun r_19 u t H1 locs ht hvm hw hB hz1 hk1 hS => ?_)
              obtain ⟨hP, hD, hK⟩ := z_after3 (wn := (zV63 h0 tp h0_tapeLength h0_faultKind h0_faultPlace nw im sl rd wk fm mt ch dy nw nw_isKept tn nw_strayed nw_names nw_known nw_gone tn tn_hours tn_courts tn_gateCount tn_people tn_lines tn_falseHours tn_strayers tn_deep tn_above tn_doors tn_degrees tn_neighbours tn_shows tn_oneEnd tn_otherEnd tn_told tn_strayParts tn_strayCourts tn_shows cA_tn_shows f_tn_shows tn_told cA_tn_told f_tn_told tn_strayCourts cA_tn_strayCourts f_tn_strayCourts)) hB ht hvm hP hD hK [5, 2, 3, 4] [0, 1] rfl 6 rfl (by decide +kernel) rfl (by decide +kernel) hk1 hFc
              generalize H1 = H at hP hS ⊢
              have hK : va_K (dC, dI) vwCl [(cA_tn_shows, .int), (cA_tn_told, .int), (cA_tn_strayCourts, .int)] s := hK
              refine lv_iload_n hx hb dX9_hear_169 rfl (lv_at hl 7 rfl) ?_
              obtain ⟨hPc, hDc, hFc⟩ := z_cut (wc := []) hP hD hS hA [] rfl (by decide +kernel)
              have hKc := hK.sub (tys' := []) [] rfl
              refine va_calli (va_runS (As := [.int r_19, .int p2]) (rest := []) ⟨hx, hb, hml, hown, hts⟩ (k_X9_has l sa dC dI r_19 p2 H.size) (va_cwS 2 hts (z_gS zw_t4_12 zw_t3_123 zw_t1_1 zw_t3_124) rfl rfl rfl (by decide +kernel) (by rw [← hRe]; exact ⟨(Nat.le_of_ble_eq_true rfl), (Nat.le_of_ble_eq_true rfl)⟩)) (z_preS hPc hKc hDc hN hXs hS hFc) rfl rfl hl.1 rfl (lv_room (Nat.le_of_ble_eq_true rfl)) dX9_hear_170 (by rw [← hRe]; exact ⟨(Nat.le_of_ble_eq_true rfl), (Nat.le_of_ble_eq_true rfl)⟩)) hS (fun q _ h => hFc q h) hFc (fun r_20 u t H1 locs ht hvm hw hB hz1 hk1 hS => ?_)
              obtain ⟨hP, hD, hK⟩ := z_after3 (wn := (zV63 h0 tp h0_tapeLength h0_faultKind h0_faultPlace nw im sl rd wk fm mt ch dy nw nw_isKept tn nw_strayed nw_names nw_known nw_gone tn tn_hours tn_courts tn_gateCount tn_people tn_lines tn_falseHours tn_strayers tn_deep tn_above tn_doors tn_degrees tn_neighbours tn_shows tn_oneEnd tn_otherEnd tn_told tn_strayParts tn_strayCourts tn_shows cA_tn_shows f_tn_shows tn_told cA_tn_told f_tn_told tn_strayCourts cA_tn_strayCourts f_tn_strayCourts)) hB ht hvm hP hD hK [] [0, 1, 2, 3, 4, 5] rfl 6 rfl (by decide +kernel) rfl (by decide +kernel) hk1 hFc
              generalize H1 = H at hP hS ⊢
              have hK : va_K (dC, dI) vwCl [(cA_tn_shows, .int), (cA_tn_told, .int), (cA_tn_strayCourts, .int)] s := hK
              have b_r_20 : 0 ≤ r_20.toInt ∧ r_20.toInt ≤ 1 := hw
              refine lv_iload hx hb dX9_hear_173 (lv_at hl 9 rfl) ?_
              have nb_p4 := zi_nb p4
              refine lv_icmp_ne (tgt := 182) hx hb dX9_hear_175 (by decide) (fun c_21 => ?_) (fun c_21 => ?_)
              · have ic_21 := zz_ne rfl rfl c_21
                refine lv_iconst (v := 0) hx hb dX9_hear_182 (by decide) ?_
                refine lv_istore (lv' := [(10, .int 0), (9, .int 0), (8, .int 1), (7, .int 0), (6, .int x_7), (5, .ref tn), (0, .ref h0), (1, .int p1), (2, .int p2), (3, .int p3), (4, .int p4)]) hx hb dX9_hear_183 hl (by decide) rfl (fun ls hl => ?_)
                refine lv_iload hx hb dX9_hear_185 (lv_at hl 1 rfl) ?_
                refine lv_if_ne (tgt := 198) hx hb dX9_hear_187 (by decide) (fun q => absurd q (by decide)) (fun _ => ?_)
                refine lv_iload hx hb dX9_hear_190 (lv_at hl 0 rfl) ?_
                refine lv_if_ne (tgt := 198) hx hb dX9_hear_192 (by decide) (fun q => absurd q (by decide)) (fun _ => ?_)
                refine lv_bipush (v := (-5)) hx hb dX9_hear_195 (by decide) ?_
                exact W.iret (v := (-5)) hx hb hr (fun t ht hW => by rw [← hQe]; exact ⟨⟨(-5), (), rfl, (by decide), ⟨nw_known, nw_gone, z_ret hP hK hD ht hW [0, 1, 2, 3, 4, 5] [] rfl (by decide) rfl⟩⟩, hS.F ht⟩) hS.2.2 dX9_hear_197
              · have ic_21 := zz_nne rfl rfl c_21
                refine lv_iconst (v := 1) hx hb dX9_hear_178 (by decide) ?_
                refine lv_goto (tgt := 183) hx hb dX9_hear_179 (by decide) ?_
                refine lv_istore (lv' := [(10, .int 1), (9, .int 0), (8, .int 1), (7, .int 0), (6, .int x_7), (5, .ref tn), (0, .ref h0), (1, .int p1), (2, .int p2), (3, .int p3), (4, .int p4)]) hx hb dX9_hear_183 hl (by decide) rfl (fun ls hl => ?_)
                refine lv_iload hx hb dX9_hear_185 (lv_at hl 1 rfl) ?_
                refine lv_if_ne (tgt := 198) hx hb dX9_hear_187 (by decide) (fun q => absurd q (by decide)) (fun _ => ?_)
                refine lv_iload hx hb dX9_hear_190 (lv_at hl 0 rfl) ?_
                refine lv_if_ne (tgt := 198) hx hb dX9_hear_192 (by decide) (fun _ => ?_) (fun q => absurd q (by decide))
                refine lv_iload hx hb dX9_hear_198 (lv_at hl 1 rfl) ?_
                refine lv_if_eq (tgt := 210) hx hb dX9_hear_200 (by decide) (fun _ => ?_) (fun q => absurd q (by decide))
                refine lv_aload_n hx hb dX9_hear_210 rfl (lv_at hl 6 rfl) ?_
                refine va_get (D := (dC, dI)) (ci := 9) (v := .ref nw) (C := RX9) (T := TX9) (N := 13) hx hb hts zl_X9 hown hK hP 0 rfl rfl 4 (by decide) (hts _ zw_t2_193) (fun _ h9 => h9) rfl dX9_hear_211 ?_
                refine lv_dup hx hb dX9_hear_214 rfl ?_
                refine va_get (D := (dC, dI)) (ci := 3) (v := .int nw_known) (C := RX3) (T := TX3) (N := 6) hx hb hts zl_X3 hown hK hP 1 rfl rfl 4 (by decide) (hts _ zw_t1_165) (fun _ h9 => h9) rfl dX9_hear_215 ?_
                refine lv_iload hx hb dX9_hear_218 (lv_at hl 4 rfl) ?_
                refine lv_aload hx hb dX9_hear_220 (lv_at hl 5 rfl) ?_
                refine va_get (D := (dC, dI)) (ci := 7) (v := .int tn_strayers) (C := RX7) (T := TX7) (N := 18) hx hb hts zl_X7 hown hK hP 2 rfl rfl 6 (by decide) (hts _ zw_t1_74) (fun _ h9 => h9) rfl dX9_hear_222 ?_
                refine lv_iand hx hb dX9_hear_225 ?_
                refine lv_topi (fun x_22 ex_22 => ?_)
                have b_x_22 : 0 ≤ x_22.toInt ∧ x_22.toInt ≤ 1024 := by rw [ex_22]; exact zi_andL rfl (by first | with_reducible assumption | omega) (by first | with_reducible assumption | omega)
                refine lv_ior hx hb dX9_hear_226 ?_
                refine lv_topi (fun x_23 ex_23 => ?_)
                refine va_put (D := (dC, dI)) (ci := 3) (v := .int x_23) (ty := .int) (C := RX3) (T := TX3) (N := 6) hx hb hts zl_X3 tyX3 tyX3_ok nmX3 hown hK hP hD hS 1 rfl rfl 4 (by decide) (hts _ zw_t1_165) (fun _ h9 => h9) rfl (by decide +kernel) rfl rfl (Nat.le_of_ble_eq_true rfl) dX9_hear_227 (fun H locs hP hD hS => ?_)
                have hP : va_P (dC, dI) vwCl (zV63 h0 tp h0_tapeLength h0_faultKind h0_faultPlace nw im sl rd wk fm mt ch dy nw nw_isKept tn nw_strayed nw_names x_23 nw_gone tn tn_hours tn_courts tn_gateCount tn_people tn_lines tn_falseHours tn_strayers tn_deep tn_above tn_doors tn_degrees tn_neighbours tn_shows tn_oneEnd tn_otherEnd tn_told tn_strayParts tn_strayCourts tn_shows cA_tn_shows f_tn_shows tn_told cA_tn_told f_tn_told tn_strayCourts cA_tn_strayCourts f_tn_strayCourts) H := hP
                have hD : va_D A (zV63 h0 tp h0_tapeLength h0_faultKind h0_faultPlace nw im sl rd wk fm mt ch dy nw nw_isKept tn nw_strayed nw_names x_23 nw_gone tn tn_hours tn_courts tn_gateCount tn_people tn_lines tn_falseHours tn_strayers tn_deep tn_above tn_doors tn_degrees tn_neighbours tn_shows tn_oneEnd tn_otherEnd tn_told tn_strayParts tn_strayCourts tn_shows cA_tn_shows f_tn_shows tn_told cA_tn_told f_tn_told tn_strayCourts cA_tn_strayCourts f_tn_strayCourts) := hD
                refine lv_iload hx hb dX9_hear_230 (lv_at hl 1 rfl) ?_
                refine lv_if_eq (tgt := 249) hx hb dX9_hear_232 (by decide) (fun _ => ?_) (fun q => absurd q (by decide))
                refine lv_iconst (v := 1) hx hb dX9_hear_249 (by decide) ?_
                exact W.iret (v := 1) hx hb hr (fun t ht hW => by rw [← hQe]; exact ⟨⟨1, (), rfl, (by decide), ⟨x_23, nw_gone, z_ret hP hK hD ht hW [0, 1, 2, 3, 4, 5] [] rfl (by decide) rfl⟩⟩, hS.F ht⟩) hS.2.2 dX9_hear_250
        · have ic_9 := zz_neq rfl (show Int32.toInt 0 = 0 from by decide) c_9
          refine lv_aload_n hx hb dX9_hear_56 rfl (lv_at hl 2 rfl) ?_
          refine va_get (D := (dC, dI)) (ci := 9) (v := .ref nw) (C := RX9) (T := TX9) (N := 13) hx hb hts zl_X9 hown hK hP 0 rfl rfl 4 (by decide) (hts _ zw_t2_193) (fun _ h9 => h9) rfl dX9_hear_57 ?_
          refine va_get (D := (dC, dI)) (ci := 3) (v := .int nw_known) (C := RX3) (T := TX3) (N := 6) hx hb hts zl_X3 hown hK hP 1 rfl rfl 4 (by decide) (hts _ zw_t1_165) (fun _ h9 => h9) rfl dX9_hear_60 ?_
          refine lv_iload_n hx hb dX9_hear_63 rfl (lv_at hl 3 rfl) ?_
          obtain ⟨hPc, hDc, hFc⟩ := z_cut (wc := []) hP hD hS hA [] rfl (by decide +kernel)
          have hKc := hK.sub (tys' := []) [] rfl
          refine va_calli (va_runS (As := [.int nw_known, .int p1]) (rest := []) ⟨hx, hb, hml, hown, hts⟩ (k_X9_has l sa dC dI nw_known p1 H.size) (va_cwS 2 hts (z_gS zw_t4_12 zw_t3_123 zw_t1_1 zw_t3_124) rfl rfl rfl (by decide +kernel) (by rw [← hRe]; exact ⟨(Nat.le_of_ble_eq_true rfl), (Nat.le_of_ble_eq_true rfl)⟩)) (z_preS hPc hKc hDc hN hXs hS hFc) rfl rfl hl.1 rfl (lv_room (Nat.le_of_ble_eq_true rfl)) dX9_hear_64 (by rw [← hRe]; exact ⟨(Nat.le_of_ble_eq_true rfl), (Nat.le_of_ble_eq_true rfl)⟩)) hS (fun q _ h => hFc q h) hFc (fun r_24 u t H1 locs ht hvm hw hB hz1 hk1 hS => ?_)
          obtain ⟨hP, hD, hK⟩ := z_after3 (wn := (zV64 h0 tp h0_tapeLength h0_faultKind h0_faultPlace nw im sl rd wk fm mt ch dy nw nw_isKept tn nw_strayed nw_names nw_known nw_gone tn_shows cA_tn_shows f_tn_shows tn_told cA_tn_told f_tn_told tn_strayCourts cA_tn_strayCourts f_tn_strayCourts tn tn_hours tn_courts tn_gateCount tn_people tn_lines tn_falseHours tn_strayers tn_deep tn_above tn_doors tn_degrees tn_neighbours tn_shows tn_oneEnd tn_otherEnd tn_told tn_strayParts tn_strayCourts)) hB ht hvm hP hD hK [] [0, 1, 2, 3, 4, 5] rfl 6 rfl (by decide +kernel) rfl (by decide +kernel) hk1 hFc
          generalize H1 = H at hP hS ⊢
          have hK : va_K (dC, dI) vwCl [(cA_tn_shows, .int), (cA_tn_told, .int), (cA_tn_strayCourts, .int)] s := hK
          have b_r_24 : 0 ≤ r_24.toInt ∧ r_24.toInt ≤ 1 := hw
          refine lv_if_eq (tgt := 84) hx hb dX9_hear_67 (by decide) (fun c_25 => ?_) (fun c_25 => ?_)
          · have ic_25 := zz_eq rfl (show Int32.toInt 0 = 0 from by decide) c_25
            refine lv_iconst (v := 1) hx hb dX9_hear_84 (by decide) ?_
            refine lv_goto (tgt := 89) hx hb dX9_hear_85 (by decide) ?_
            refine lv_istore (lv' := [(7, .int 1), (6, .int x_7), (5, .ref tn), (0, .ref h0), (1, .int p1), (2, .int p2), (3, .int p3), (4, .int p4)]) hx hb dX9_hear_89 hl (by decide) rfl (fun ls hl => ?_)
            refine lv_aload_n hx hb dX9_hear_91 rfl (lv_at hl 3 rfl) ?_
            refine va_get (D := (dC, dI)) (ci := 9) (v := .ref nw) (C := RX9) (T := TX9) (N := 13) hx hb hts zl_X9 hown hK hP 0 rfl rfl 4 (by decide) (hts _ zw_t2_193) (fun _ h9 => h9) rfl dX9_hear_92 ?_
            refine va_get (D := (dC, dI)) (ci := 3) (v := .int nw_known) (C := RX3) (T := TX3) (N := 6) hx hb hts zl_X3 hown hK hP 1 rfl rfl 4 (by decide) (hts _ zw_t1_165) (fun _ h9 => h9) rfl dX9_hear_95 ?_
            refine lv_iload_n hx hb dX9_hear_98 rfl (lv_at hl 4 rfl) ?_
            obtain ⟨hPc, hDc, hFc⟩ := z_cut (wc := []) hP hD hS hA [] rfl (by decide +kernel)
            have hKc := hK.sub (tys' := []) [] rfl
            refine va_calli (va_runS (As := [.int nw_known, .int p1]) (rest := []) ⟨hx, hb, hml, hown, hts⟩ (k_X9_has l sa dC dI nw_known p1 H.size) (va_cwS 2 hts (z_gS zw_t4_12 zw_t3_123 zw_t1_1 zw_t3_124) rfl rfl rfl (by decide +kernel) (by rw [← hRe]; exact ⟨(Nat.le_of_ble_eq_true rfl), (Nat.le_of_ble_eq_true rfl)⟩)) (z_preS hPc hKc hDc hN hXs hS hFc) rfl rfl hl.1 rfl (lv_room (Nat.le_of_ble_eq_true rfl)) dX9_hear_99 (by rw [← hRe]; exact ⟨(Nat.le_of_ble_eq_true rfl), (Nat.le_of_ble_eq_true rfl)⟩)) hS (fun q _ h => hFc q h) hFc (fun r_26 u t H1 locs ht hvm hw hB hz1 hk1 hS => ?_)
            obtain ⟨hP, hD, hK⟩ := z_after3 (wn := (zV64 h0 tp h0_tapeLength h0_faultKind h0_faultPlace nw im sl rd wk fm mt ch dy nw nw_isKept tn nw_strayed nw_names nw_known nw_gone tn_shows cA_tn_shows f_tn_shows tn_told cA_tn_told f_tn_told tn_strayCourts cA_tn_strayCourts f_tn_strayCourts tn tn_hours tn_courts tn_gateCount tn_people tn_lines tn_falseHours tn_strayers tn_deep tn_above tn_doors tn_degrees tn_neighbours tn_shows tn_oneEnd tn_otherEnd tn_told tn_strayParts tn_strayCourts)) hB ht hvm hP hD hK [] [0, 1, 2, 3, 4, 5] rfl 6 rfl (by decide +kernel) rfl (by decide +kernel) hk1 hFc
            generalize H1 = H at hP hS ⊢
            have hK : va_K (dC, dI) vwCl [(cA_tn_shows, .int), (cA_tn_told, .int), (cA_tn_strayCourts, .int)] s := hK
            have b_r_26 : 0 ≤ r_26.toInt ∧ r_26.toInt ≤ 1 := hw
            refine lv_if_eq (tgt := 119) hx hb dX9_hear_102 (by decide) (fun c_27 => ?_) (fun c_27 => ?_)
            · have ic_27 := zz_eq rfl (show Int32.toInt 0 = 0 from by decide) c_27
              refine lv_iconst (v := 1) hx hb dX9_hear_119 (by decide) ?_
              refine lv_goto (tgt := 124) hx hb dX9_hear_120 (by decide) ?_
              refine lv_istore (lv' := [(8, .int 1), (7, .int 1), (6, .int x_7), (5, .ref tn), (0, .ref h0), (1, .int p1), (2, .int p2), (3, .int p3), (4, .int p4)]) hx hb dX9_hear_124 hl (by decide) rfl (fun ls hl => ?_)
              refine lv_iload hx hb dX9_hear_126 (lv_at hl 1 rfl) ?_
              refine lv_if_eq (tgt := 153) hx hb dX9_hear_128 (by decide) (fun q => absurd q (by decide)) (fun _ => ?_)
              refine lv_aload hx hb dX9_hear_131 (lv_at hl 3 rfl) ?_
              refine lv_iload_n hx hb dX9_hear_133 rfl (lv_at hl 5 rfl) ?_
              refine lv_iload_n hx hb dX9_hear_134 rfl (lv_at hl 7 rfl) ?_
              refine lv_iload hx hb dX9_hear_135 (lv_at hl 2 rfl) ?_
              obtain ⟨hPc, hDc, hFc⟩ := z_cut (wc := (zV3 tn tn_hours tn_courts tn_gateCount tn_people tn_lines tn_falseHours tn_strayers tn_deep tn_above tn_doors tn_degrees tn_neighbours tn_shows tn_oneEnd tn_otherEnd tn_told tn_strayParts tn_strayCourts tn_shows cA_tn_shows f_tn_shows tn_told cA_tn_told f_tn_told tn_strayCourts cA_tn_strayCourts f_tn_strayCourts)) hP hD hS hA [5, 2, 3, 4] rfl (by decide +kernel)
              have hKc := hK.sub (tys' := [(cA_tn_shows, .int), (cA_tn_told, .int), (cA_tn_strayCourts, .int)]) [0, 1, 2] rfl
              refine va_calli (va_runV (As := [.int p1, .int p3, .int x_7]) (rest := []) ⟨hx, hb, hml, hown, hts⟩ (k_X7_showsOf l sa dC dI tn p1 p3 x_7 tn_hours tn_courts tn_gateCount tn_people tn_lines tn_falseHours tn_strayers tn_deep tn_above tn_doors tn_degrees tn_neighbours tn_shows tn_oneEnd tn_otherEnd tn_told tn_strayParts tn_strayCourts cA_tn_shows f_tn_shows cA_tn_told f_tn_told cA_tn_strayCourts f_tn_strayCourts (by first | with_reducible assumption | omega) (by first | with_reducible assumption | omega) b_tn_hours b_tn_courts b_tn_gateCount b_tn_people b_tn_falseHours b_tn_deep b_f_tn_told b_f_tn_strayCourts H.size) (cwV 3 hts (z_gV zw_t5_133 zw_t3_206 zw_t3_207 zw_t1_3 zw_t3_208) rfl rfl rfl (by decide +kernel) (by rw [← hRe]; exact ⟨(Nat.le_of_ble_eq_true rfl), (Nat.le_of_ble_eq_true rfl)⟩)) (z_preV hPc hKc hDc hN hXs hS hFc (q := (RX7, TX7, 18)) (ci := 7) (q0 := 0) rfl rfl) rfl rfl hl.1 rfl (lv_room (Nat.le_of_ble_eq_true rfl)) dX9_hear_137 (by rw [← hRe]; exact ⟨(Nat.le_of_ble_eq_true rfl), (Nat.le_of_ble_eq_true rfl)⟩)) hS (fun q _ h => hFc q h) hFc (fun r_28 u t H1 locs ht hvm hw hB hz1 hk1 hS => ?_)
              obtain ⟨hP, hD, hK⟩ := z_after3 (wn := (zV63 h0 tp h0_tapeLength h0_faultKind h0_faultPlace nw im sl rd wk fm mt ch dy nw nw_isKept tn nw_strayed nw_names nw_known nw_gone tn tn_hours tn_courts tn_gateCount tn_people tn_lines tn_falseHours tn_strayers tn_deep tn_above tn_doors tn_degrees tn_neighbours tn_shows tn_oneEnd tn_otherEnd tn_told tn_strayParts tn_strayCourts tn_shows cA_tn_shows f_tn_shows tn_told cA_tn_told f_tn_told tn_strayCourts cA_tn_strayCourts f_tn_strayCourts)) hB ht hvm hP hD hK [5, 2, 3, 4] [0, 1] rfl 6 rfl (by decide +kernel) rfl (by decide +kernel) hk1 hFc
              generalize H1 = H at hP hS ⊢
              have hK : va_K (dC, dI) vwCl [(cA_tn_shows, .int), (cA_tn_told, .int), (cA_tn_strayCourts, .int)] s := hK
              refine lv_iload_n hx hb dX9_hear_140 rfl (lv_at hl 6 rfl) ?_
              obtain ⟨hPc, hDc, hFc⟩ := z_cut (wc := []) hP hD hS hA [] rfl (by decide +kernel)
              have hKc := hK.sub (tys' := []) [] rfl
              refine va_calli (va_runS (As := [.int r_28, .int p2]) (rest := []) ⟨hx, hb, hml, hown, hts⟩ (k_X9_has l sa dC dI r_28 p2 H.size) (va_cwS 2 hts (z_gS zw_t4_12 zw_t3_123 zw_t1_1 zw_t3_124) rfl rfl rfl (by decide +kernel) (by rw [← hRe]; exact ⟨(Nat.le_of_ble_eq_true rfl), (Nat.le_of_ble_eq_true rfl)⟩)) (z_preS hPc hKc hDc hN hXs hS hFc) rfl rfl hl.1 rfl (lv_room (Nat.le_of_ble_eq_true rfl)) dX9_hear_141 (by rw [← hRe]; exact ⟨(Nat.le_of_ble_eq_true rfl), (Nat.le_of_ble_eq_true rfl)⟩)) hS (fun q _ h => hFc q h) hFc (fun r_29 u t H1 locs ht hvm hw hB hz1 hk1 hS => ?_)
              obtain ⟨hP, hD, hK⟩ := z_after3 (wn := (zV63 h0 tp h0_tapeLength h0_faultKind h0_faultPlace nw im sl rd wk fm mt ch dy nw nw_isKept tn nw_strayed nw_names nw_known nw_gone tn tn_hours tn_courts tn_gateCount tn_people tn_lines tn_falseHours tn_strayers tn_deep tn_above tn_doors tn_degrees tn_neighbours tn_shows tn_oneEnd tn_otherEnd tn_told tn_strayParts tn_strayCourts tn_shows cA_tn_shows f_tn_shows tn_told cA_tn_told f_tn_told tn_strayCourts cA_tn_strayCourts f_tn_strayCourts)) hB ht hvm hP hD hK [] [0, 1, 2, 3, 4, 5] rfl 6 rfl (by decide +kernel) rfl (by decide +kernel) hk1 hFc
              generalize H1 = H at hP hS ⊢
              have hK : va_K (dC, dI) vwCl [(cA_tn_shows, .int), (cA_tn_told, .int), (cA_tn_strayCourts, .int)] s := hK
              have b_r_29 : 0 ≤ r_29.toInt ∧ r_29.toInt ≤ 1 := hw
              refine lv_iload hx hb dX9_hear_144 (lv_at hl 8 rfl) ?_
              have nb_p4 := zi_nb p4
              refine lv_icmp_ne (tgt := 153) hx hb dX9_hear_146 (by decide) (fun c_30 => ?_) (fun c_30 => ?_)
              · have ic_30 := zz_ne rfl rfl c_30
                refine lv_iconst (v := 0) hx hb dX9_hear_153 (by decide) ?_
                refine lv_istore (lv' := [(9, .int 0), (8, .int 1), (7, .int 1), (6, .int x_7), (5, .ref tn), (0, .ref h0), (1, .int p1), (2, .int p2), (3, .int p3), (4, .int p4)]) hx hb dX9_hear_154 hl (by decide) rfl (fun ls hl => ?_)
                refine lv_iload hx hb dX9_hear_156 (lv_at hl 1 rfl) ?_
                refine lv_if_eq (tgt := 182) hx hb dX9_hear_158 (by decide) (fun q => absurd q (by decide)) (fun _ => ?_)
                refine lv_aload hx hb dX9_hear_161 (lv_at hl 4 rfl) ?_
                refine lv_iload_n hx hb dX9_hear_163 rfl (lv_at hl 6 rfl) ?_
                refine lv_iload_n hx hb dX9_hear_164 rfl (lv_at hl 8 rfl) ?_
                refine lv_iconst (v := 0) hx hb dX9_hear_165 (by decide) ?_
                obtain ⟨hPc, hDc, hFc⟩ := z_cut (wc := (zV3 tn tn_hours tn_courts tn_gateCount tn_people tn_lines tn_falseHours tn_strayers tn_deep tn_above tn_doors tn_degrees tn_neighbours tn_shows tn_oneEnd tn_otherEnd tn_told tn_strayParts tn_strayCourts tn_shows cA_tn_shows f_tn_shows tn_told cA_tn_told f_tn_told tn_strayCourts cA_tn_strayCourts f_tn_strayCourts)) hP hD hS hA [2, 3, 4, 5] rfl (by decide +kernel)
                have hKc := hK.sub (tys' := [(cA_tn_shows, .int), (cA_tn_told, .int), (cA_tn_strayCourts, .int)]) [0, 1, 2] rfl
                refine va_calli (va_runV (As := [.int p1, .int p3, .int 0]) (rest := []) ⟨hx, hb, hml, hown, hts⟩ (k_X7_showsOf l sa dC dI tn p1 p3 (0) tn_hours tn_courts tn_gateCount tn_people tn_lines tn_falseHours tn_strayers tn_deep tn_above tn_doors tn_degrees tn_neighbours tn_shows tn_oneEnd tn_otherEnd tn_told tn_strayParts tn_strayCourts cA_tn_shows f_tn_shows cA_tn_told f_tn_told cA_tn_strayCourts f_tn_strayCourts (by first | with_reducible assumption | omega) (by first | with_reducible assumption | omega) b_tn_hours b_tn_courts b_tn_gateCount b_tn_people b_tn_falseHours b_tn_deep b_f_tn_told b_f_tn_strayCourts H.size) (cwV 3 hts (z_gV zw_t5_133 zw_t3_206 zw_t3_207 zw_t1_3 zw_t3_208) rfl rfl rfl (by decide +kernel) (by rw [← hRe]; exact ⟨(Nat.le_of_ble_eq_true rfl), (Nat.le_of_ble_eq_true rfl)⟩)) (z_preV hPc hKc hDc hN hXs hS hFc (q := (RX7, TX7, 18)) (ci := 7) (q0 := 0) rfl rfl) rfl rfl hl.1 rfl (lv_room (Nat.le_of_ble_eq_true rfl)) dX9_hear_166 (by rw [← hRe]; exact ⟨(Nat.le_of_ble_eq_true rfl), (Nat.le_of_ble_eq_true rfl)⟩)) hS (fun q _ h => hFc q h) hFc (fun r_31 u t H1 locs ht hvm hw hB hz1 hk1 hS => ?_)
                obtain ⟨hP, hD, hK⟩ := z_after3 (wn := (zV63 h0 tp h0_tapeLength h0_faultKind h0_faultPlace nw im sl rd wk fm mt ch dy nw nw_isKept tn nw_strayed nw_names nw_known nw_gone tn tn_hours tn_courts tn_gateCount tn_people tn_lines tn_falseHours tn_strayers tn_deep tn_above tn_doors tn_degrees tn_neighbours tn_shows tn_oneEnd tn_otherEnd tn_told tn_strayParts tn_strayCourts tn_shows cA_tn_shows f_tn_shows tn_told cA_tn_told f_tn_told tn_strayCourts cA_tn_strayCourts f_tn_strayCourts)) hB ht hvm hP hD hK [2, 3, 4, 5] [0, 1] rfl 6 rfl (by decide +kernel) rfl (by decide +kernel) hk1 hFc
                generalize H1 = H at hP hS ⊢
                have hK : va_K (dC, dI) vwCl [(cA_tn_shows, .int), (cA_tn_told, .int), (cA_tn_strayCourts, .int)] s := hK
                refine lv_iload_n hx hb dX9_hear_169 rfl (lv_at hl 7 rfl) ?_
                obtain ⟨hPc, hDc, hFc⟩ := z_cut (wc := []) hP hD hS hA [] rfl (by decide +kernel)
                have hKc := hK.sub (tys' := []) [] rfl
                refine va_calli (va_runS (As := [.int r_31, .int p2]) (rest := []) ⟨hx, hb, hml, hown, hts⟩ (k_X9_has l sa dC dI r_31 p2 H.size) (va_cwS 2 hts (z_gS zw_t4_12 zw_t3_123 zw_t1_1 zw_t3_124) rfl rfl rfl (by decide +kernel) (by rw [← hRe]; exact ⟨(Nat.le_of_ble_eq_true rfl), (Nat.le_of_ble_eq_true rfl)⟩)) (z_preS hPc hKc hDc hN hXs hS hFc) rfl rfl hl.1 rfl (lv_room (Nat.le_of_ble_eq_true rfl)) dX9_hear_170 (by rw [← hRe]; exact ⟨(Nat.le_of_ble_eq_true rfl), (Nat.le_of_ble_eq_true rfl)⟩)) hS (fun q _ h => hFc q h) hFc (fun r_32 u t H1 locs ht hvm hw hB hz1 hk1 hS => ?_)
                obtain ⟨hP, hD, hK⟩ := z_after3 (wn := (zV63 h0 tp h0_tapeLength h0_faultKind h0_faultPlace nw im sl rd wk fm mt ch dy nw nw_isKept tn nw_strayed nw_names nw_known nw_gone tn tn_hours tn_courts tn_gateCount tn_people tn_lines tn_falseHours tn_strayers tn_deep tn_above tn_doors tn_degrees tn_neighbours tn_shows tn_oneEnd tn_otherEnd tn_told tn_strayParts tn_strayCourts tn_shows cA_tn_shows f_tn_shows tn_told cA_tn_told f_tn_told tn_strayCourts cA_tn_strayCourts f_tn_strayCourts)) hB ht hvm hP hD hK [] [0, 1, 2, 3, 4, 5] rfl 6 rfl (by decide +kernel) rfl (by decide +kernel) hk1 hFc
                generalize H1 = H at hP hS ⊢
                have hK : va_K (dC, dI) vwCl [(cA_tn_shows, .int), (cA_tn_told, .int), (cA_tn_strayCourts, .int)] s := hK
                have b_r_32 : 0 ≤ r_32.toInt ∧ r_32.toInt ≤ 1 := hw
                refine lv_iload hx hb dX9_hear_173 (lv_at hl 9 rfl) ?_
                refine lv_icmp_ne (tgt := 182) hx hb dX9_hear_175 (by decide) (fun c_33 => ?_) (fun c_33 => ?_)
                · have ic_33 := zz_ne rfl rfl c_33
                  refine lv_iconst (v := 0) hx hb dX9_hear_182 (by decide) ?_
                  refine lv_istore (lv' := [(10, .int 0), (9, .int 0), (8, .int 1), (7, .int 1), (6, .int x_7), (5, .ref tn), (0, .ref h0), (1, .int p1), (2, .int p2), (3, .int p3), (4, .int p4)]) hx hb dX9_hear_183 hl (by decide) rfl (fun ls hl => ?_)
                  refine lv_iload hx hb dX9_hear_185 (lv_at hl 1 rfl) ?_
                  refine lv_if_ne (tgt := 198) hx hb dX9_hear_187 (by decide) (fun q => absurd q (by decide)) (fun _ => ?_)
                  refine lv_iload hx hb dX9_hear_190 (lv_at hl 0 rfl) ?_
                  refine lv_if_ne (tgt := 198) hx hb dX9_hear_192 (by decide) (fun q => absurd q (by decide)) (fun _ => ?_)
                  refine lv_bipush (v := (-5)) hx hb dX9_hear_195 (by decide) ?_
                  exact W.iret (v := (-5)) hx hb hr (fun t ht hW => by rw [← hQe]; exact ⟨⟨(-5), (), rfl, (by decide), ⟨nw_known, nw_gone, z_ret hP hK hD ht hW [0, 1, 2, 3, 4, 5] [] rfl (by decide) rfl⟩⟩, hS.F ht⟩) hS.2.2 dX9_hear_197
                · have ic_33 := zz_nne rfl rfl c_33
                  refine lv_iconst (v := 1) hx hb dX9_hear_178 (by decide) ?_
                  refine lv_goto (tgt := 183) hx hb dX9_hear_179 (by decide) ?_
                  refine lv_istore (lv' := [(10, .int 1), (9, .int 0), (8, .int 1), (7, .int 1), (6, .int x_7), (5, .ref tn), (0, .ref h0), (1, .int p1), (2, .int p2), (3, .int p3), (4, .int p4)]) hx hb dX9_hear_183 hl (by decide) rfl (fun ls hl => ?_)
                  refine lv_iload hx hb dX9_hear_185 (lv_at hl 1 rfl) ?_
                  refine lv_if_ne (tgt := 198) hx hb dX9_hear_187 (by decide) (fun q => absurd q (by decide)) (fun _ => ?_)
                  refine lv_iload hx hb dX9_hear_190 (lv_at hl 0 rfl) ?_
                  refine lv_if_ne (tgt := 198) hx hb dX9_hear_192 (by decide) (fun _ => ?_) (fun q => absurd q (by decide))
                  refine lv_iload hx hb dX9_hear_198 (lv_at hl 1 rfl) ?_
                  refine lv_if_eq (tgt := 210) hx hb dX9_hear_200 (by decide) (fun _ => ?_) (fun q => absurd q (by decide))
                  refine lv_aload_n hx hb dX9_hear_210 rfl (lv_at hl 6 rfl) ?_
                  refine va_get (D := (dC, dI)) (ci := 9) (v := .ref nw) (C := RX9) (T := TX9) (N := 13) hx hb hts zl_X9 hown hK hP 0 rfl rfl 4 (by decide) (hts _ zw_t2_193) (fun _ h9 => h9) rfl dX9_hear_211 ?_
                  refine lv_dup hx hb dX9_hear_214 rfl ?_
                  refine va_get (D := (dC, dI)) (ci := 3) (v := .int nw_known) (C := RX3) (T := TX3) (N := 6) hx hb hts zl_X3 hown hK hP 1 rfl rfl 4 (by decide) (hts _ zw_t1_165) (fun _ h9 => h9) rfl dX9_hear_215 ?_
                  refine lv_iload hx hb dX9_hear_218 (lv_at hl 4 rfl) ?_
                  refine lv_aload hx hb dX9_hear_220 (lv_at hl 5 rfl) ?_
                  refine va_get (D := (dC, dI)) (ci := 7) (v := .int tn_strayers) (C := RX7) (T := TX7) (N := 18) hx hb hts zl_X7 hown hK hP 2 rfl rfl 6 (by decide) (hts _ zw_t1_74) (fun _ h9 => h9) rfl dX9_hear_222 ?_
                  refine lv_iand hx hb dX9_hear_225 ?_
                  refine lv_topi (fun x_34 ex_34 => ?_)
                  have b_x_34 : 0 ≤ x_34.toInt ∧ x_34.toInt ≤ 1024 := by rw [ex_34]; exact zi_andL rfl (by first | with_reducible assumption | omega) (by first | with_reducible assumption | omega)
                  refine lv_ior hx hb dX9_hear_226 ?_
                  refine lv_topi (fun x_35 ex_35 => ?_)
                  refine va_put (D := (dC, dI)) (ci := 3) (v := .int x_35) (ty := .int) (C := RX3) (T := TX3) (N := 6) hx hb hts zl_X3 tyX3 tyX3_ok nmX3 hown hK hP hD hS 1 rfl rfl 4 (by decide) (hts _ zw_t1_165) (fun _ h9 => h9) rfl (by decide +kernel) rfl rfl (Nat.le_of_ble_eq_true rfl) dX9_hear_227 (fun H locs hP hD hS => ?_)
                  have hP : va_P (dC, dI) vwCl (zV63 h0 tp h0_tapeLength h0_faultKind h0_faultPlace nw im sl rd wk fm mt ch dy nw nw_isKept tn nw_strayed nw_names x_35 nw_gone tn tn_hours tn_courts tn_gateCount tn_people tn_lines tn_falseHours tn_strayers tn_deep tn_above tn_doors tn_degrees tn_neighbours tn_shows tn_oneEnd tn_otherEnd tn_told tn_strayParts tn_strayCourts tn_shows cA_tn_shows f_tn_shows tn_told cA_tn_told f_tn_told tn_strayCourts cA_tn_strayCourts f_tn_strayCourts) H := hP
                  have hD : va_D A (zV63 h0 tp h0_tapeLength h0_faultKind h0_faultPlace nw im sl rd wk fm mt ch dy nw nw_isKept tn nw_strayed nw_names x_35 nw_gone tn tn_hours tn_courts tn_gateCount tn_people tn_lines tn_falseHours tn_strayers tn_deep tn_above tn_doors tn_degrees tn_neighbours tn_shows tn_oneEnd tn_otherEnd tn_told tn_strayParts tn_strayCourts tn_shows cA_tn_shows f_tn_shows tn_told cA_tn_told f_tn_told tn_strayCourts cA_tn_strayCourts f_tn_strayCourts) := hD
                  refine lv_iload hx hb dX9_hear_230 (lv_at hl 1 rfl) ?_
                  refine lv_if_eq (tgt := 249) hx hb dX9_hear_232 (by decide) (fun _ => ?_) (fun q => absurd q (by decide))
                  refine lv_iconst (v := 1) hx hb dX9_hear_249 (by decide) ?_
                  exact W.iret (v := 1) hx hb hr (fun t ht hW => by rw [← hQe]; exact ⟨⟨1, (), rfl, (by decide), ⟨x_35, nw_gone, z_ret hP hK hD ht hW [0, 1, 2, 3, 4, 5] [] rfl (by decide) rfl⟩⟩, hS.F ht⟩) hS.2.2 dX9_hear_250
              · have ic_30 := zz_nne rfl rfl c_30
                refine lv_iconst (v := 1) hx hb dX9_hear_149 (by decide) ?_
                refine lv_goto (tgt := 154) hx hb dX9_hear_150 (by decide) ?_
                refine lv_istore (lv' := [(9, .int 1), (8, .int 1), (7, .int 1), (6, .int x_7), (5, .ref tn), (0, .ref h0), (1, .int p1), (2, .int p2), (3, .int p3), (4, .int p4)]) hx hb dX9_hear_154 hl (by decide) rfl (fun ls hl => ?_)
                refine lv_iload hx hb dX9_hear_156 (lv_at hl 1 rfl) ?_
                refine lv_if_eq (tgt := 182) hx hb dX9_hear_158 (by decide) (fun q => absurd q (by decide)) (fun _ => ?_)
                refine lv_aload hx hb dX9_hear_161 (lv_at hl 4 rfl) ?_
                refine lv_iload_n hx hb dX9_hear_163 rfl (lv_at hl 6 rfl) ?_
                refine lv_iload_n hx hb dX9_hear_164 rfl (lv_at hl 8 rfl) ?_
                refine lv_iconst (v := 0) hx hb dX9_hear_165 (by decide) ?_
                obtain ⟨hPc, hDc, hFc⟩ := z_cut (wc := (zV3 tn tn_hours tn_courts tn_gateCount tn_people tn_lines tn_falseHours tn_strayers tn_deep tn_above tn_doors tn_degrees tn_neighbours tn_shows tn_oneEnd tn_otherEnd tn_told tn_strayParts tn_strayCourts tn_shows cA_tn_shows f_tn_shows tn_told cA_tn_told f_tn_told tn_strayCourts cA_tn_strayCourts f_tn_strayCourts)) hP hD hS hA [2, 3, 4, 5] rfl (by decide +kernel)
                have hKc := hK.sub (tys' := [(cA_tn_shows, .int), (cA_tn_told, .int), (cA_tn_strayCourts, .int)]) [0, 1, 2] rfl
                refine va_calli (va_runV (As := [.int p1, .int p3, .int 0]) (rest := []) ⟨hx, hb, hml, hown, hts⟩ (k_X7_showsOf l sa dC dI tn p1 p3 (0) tn_hours tn_courts tn_gateCount tn_people tn_lines tn_falseHours tn_strayers tn_deep tn_above tn_doors tn_degrees tn_neighbours tn_shows tn_oneEnd tn_otherEnd tn_told tn_strayParts tn_strayCourts cA_tn_shows f_tn_shows cA_tn_told f_tn_told cA_tn_strayCourts f_tn_strayCourts (by first | with_reducible assumption | omega) (by first | with_reducible assumption | omega) b_tn_hours b_tn_courts b_tn_gateCount b_tn_people b_tn_falseHours b_tn_deep b_f_tn_told b_f_tn_strayCourts H.size) (cwV 3 hts (z_gV zw_t5_133 zw_t3_206 zw_t3_207 zw_t1_3 zw_t3_208) rfl rfl rfl (by decide +kernel) (by rw [← hRe]; exact ⟨(Nat.le_of_ble_eq_true rfl), (Nat.le_of_ble_eq_true rfl)⟩)) (z_preV hPc hKc hDc hN hXs hS hFc (q := (RX7, TX7, 18)) (ci := 7) (q0 := 0) rfl rfl) rfl rfl hl.1 rfl (lv_room (Nat.le_of_ble_eq_true rfl)) dX9_hear_166 (by rw [← hRe]; exact ⟨(Nat.le_of_ble_eq_true rfl), (Nat.le_of_ble_eq_true rfl)⟩)) hS (fun q _ h => hFc q h) hFc (fun r_36 u t H1 locs ht hvm hw hB hz1 hk1 hS => ?_)
                obtain ⟨hP, hD, hK⟩ := z_after3 (wn := (zV63 h0 tp h0_tapeLength h0_faultKind h0_faultPlace nw im sl rd wk fm mt ch dy nw nw_isKept tn nw_strayed nw_names nw_known nw_gone tn tn_hours tn_courts tn_gateCount tn_people tn_lines tn_falseHours tn_strayers tn_deep tn_above tn_doors tn_degrees tn_neighbours tn_shows tn_oneEnd tn_otherEnd tn_told tn_strayParts tn_strayCourts tn_shows cA_tn_shows f_tn_shows tn_told cA_tn_told f_tn_told tn_strayCourts cA_tn_strayCourts f_tn_strayCourts)) hB ht hvm hP hD hK [2, 3, 4, 5] [0, 1] rfl 6 rfl (by decide +kernel) rfl (by decide +kernel) hk1 hFc
                generalize H1 = H at hP hS ⊢
                have hK : va_K (dC, dI) vwCl [(cA_tn_shows, .int), (cA_tn_told, .int), (cA_tn_strayCourts, .int)] s := hK
                refine lv_iload_n hx hb dX9_hear_169 rfl (lv_at hl 7 rfl) ?_
                obtain ⟨hPc, hDc, hFc⟩ := z_cut (wc := []) hP hD hS hA [] rfl (by decide +kernel)
                have hKc := hK.sub (tys' := []) [] rfl
                refine va_calli (va_runS (As := [.int r_36, .int p2]) (rest := []) ⟨hx, hb, hml, hown, hts⟩ (k_X9_has l sa dC dI r_36 p2 H.size) (va_cwS 2 hts (z_gS zw_t4_12 zw_t3_123 zw_t1_1 zw_t3_124) rfl rfl rfl (by decide +kernel) (by rw [← hRe]; exact ⟨(Nat.le_of_ble_eq_true rfl), (Nat.le_of_ble_eq_true rfl)⟩)) (z_preS hPc hKc hDc hN hXs hS hFc) rfl rfl hl.1 rfl (lv_room (Nat.le_of_ble_eq_true rfl)) dX9_hear_170 (by rw [← hRe]; exact ⟨(Nat.le_of_ble_eq_true rfl), (Nat.le_of_ble_eq_true rfl)⟩)) hS (fun q _ h => hFc q h) hFc (fun r_37 u t H1 locs ht hvm hw hB hz1 hk1 hS => ?_)
                obtain ⟨hP, hD, hK⟩ := z_after3 (wn := (zV63 h0 tp h0_tapeLength h0_faultKind h0_faultPlace nw im sl rd wk fm mt ch dy nw nw_isKept tn nw_strayed nw_names nw_known nw_gone tn tn_hours tn_courts tn_gateCount tn_people tn_lines tn_falseHours tn_strayers tn_deep tn_above tn_doors tn_degrees tn_neighbours tn_shows tn_oneEnd tn_otherEnd tn_told tn_strayParts tn_strayCourts tn_shows cA_tn_shows f_tn_shows tn_told cA_tn_told f_tn_told tn_strayCourts cA_tn_strayCourts f_tn_strayCourts)) hB ht hvm hP hD hK [] [0, 1, 2, 3, 4, 5] rfl 6 rfl (by decide +kernel) rfl (by decide +kernel) hk1 hFc
                generalize H1 = H at hP hS ⊢
                have hK : va_K (dC, dI) vwCl [(cA_tn_shows, .int), (cA_tn_told, .int), (cA_tn_strayCourts, .int)] s := hK
                have b_r_37 : 0 ≤ r_37.toInt ∧ r_37.toInt ≤ 1 := hw
                refine lv_iload hx hb dX9_hear_173 (lv_at hl 9 rfl) ?_
                refine lv_icmp_ne (tgt := 182) hx hb dX9_hear_175 (by decide) (fun c_38 => ?_) (fun c_38 => ?_)
                · have ic_38 := zz_ne rfl rfl c_38
                  refine lv_iconst (v := 0) hx hb dX9_hear_182 (by decide) ?_
                  refine lv_istore (lv' := [(10, .int 0), (9, .int 1), (8, .int 1), (7, .int 1), (6, .int x_7), (5, .ref tn), (0, .ref h0), (1, .int p1), (2, .int p2), (3, .int p3), (4, .int p4)]) hx hb dX9_hear_183 hl (by decide) rfl (fun ls hl => ?_)
                  refine lv_iload hx hb dX9_hear_185 (lv_at hl 1 rfl) ?_
                  refine lv_if_ne (tgt := 198) hx hb dX9_hear_187 (by decide) (fun _ => ?_) (fun q => absurd q (by decide))
                  refine lv_iload hx hb dX9_hear_198 (lv_at hl 1 rfl) ?_
                  refine lv_if_eq (tgt := 210) hx hb dX9_hear_200 (by decide) (fun q => absurd q (by decide)) (fun _ => ?_)
                  refine lv_iload hx hb dX9_hear_203 (lv_at hl 0 rfl) ?_
                  refine lv_if_eq (tgt := 210) hx hb dX9_hear_205 (by decide) (fun _ => ?_) (fun q => absurd q (by decide))
                  refine lv_aload_n hx hb dX9_hear_210 rfl (lv_at hl 6 rfl) ?_
                  refine va_get (D := (dC, dI)) (ci := 9) (v := .ref nw) (C := RX9) (T := TX9) (N := 13) hx hb hts zl_X9 hown hK hP 0 rfl rfl 4 (by decide) (hts _ zw_t2_193) (fun _ h9 => h9) rfl dX9_hear_211 ?_
                  refine lv_dup hx hb dX9_hear_214 rfl ?_
                  refine va_get (D := (dC, dI)) (ci := 3) (v := .int nw_known) (C := RX3) (T := TX3) (N := 6) hx hb hts zl_X3 hown hK hP 1 rfl rfl 4 (by decide) (hts _ zw_t1_165) (fun _ h9 => h9) rfl dX9_hear_215 ?_
                  refine lv_iload hx hb dX9_hear_218 (lv_at hl 4 rfl) ?_
                  refine lv_aload hx hb dX9_hear_220 (lv_at hl 5 rfl) ?_
                  refine va_get (D := (dC, dI)) (ci := 7) (v := .int tn_strayers) (C := RX7) (T := TX7) (N := 18) hx hb hts zl_X7 hown hK hP 2 rfl rfl 6 (by decide) (hts _ zw_t1_74) (fun _ h9 => h9) rfl dX9_hear_222 ?_
                  refine lv_iand hx hb dX9_hear_225 ?_
                  refine lv_topi (fun x_39 ex_39 => ?_)
                  have b_x_39 : 0 ≤ x_39.toInt ∧ x_39.toInt ≤ 1024 := by rw [ex_39]; exact zi_andL rfl (by first | with_reducible assumption | omega) (by first | with_reducible assumption | omega)
                  refine lv_ior hx hb dX9_hear_226 ?_
                  refine lv_topi (fun x_40 ex_40 => ?_)
                  refine va_put (D := (dC, dI)) (ci := 3) (v := .int x_40) (ty := .int) (C := RX3) (T := TX3) (N := 6) hx hb hts zl_X3 tyX3 tyX3_ok nmX3 hown hK hP hD hS 1 rfl rfl 4 (by decide) (hts _ zw_t1_165) (fun _ h9 => h9) rfl (by decide +kernel) rfl rfl (Nat.le_of_ble_eq_true rfl) dX9_hear_227 (fun H locs hP hD hS => ?_)
                  have hP : va_P (dC, dI) vwCl (zV63 h0 tp h0_tapeLength h0_faultKind h0_faultPlace nw im sl rd wk fm mt ch dy nw nw_isKept tn nw_strayed nw_names x_40 nw_gone tn tn_hours tn_courts tn_gateCount tn_people tn_lines tn_falseHours tn_strayers tn_deep tn_above tn_doors tn_degrees tn_neighbours tn_shows tn_oneEnd tn_otherEnd tn_told tn_strayParts tn_strayCourts tn_shows cA_tn_shows f_tn_shows tn_told cA_tn_told f_tn_told tn_strayCourts cA_tn_strayCourts f_tn_strayCourts) H := hP
                  have hD : va_D A (zV63 h0 tp h0_tapeLength h0_faultKind h0_faultPlace nw im sl rd wk fm mt ch dy nw nw_isKept tn nw_strayed nw_names x_40 nw_gone tn tn_hours tn_courts tn_gateCount tn_people tn_lines tn_falseHours tn_strayers tn_deep tn_above tn_doors tn_degrees tn_neighbours tn_shows tn_oneEnd tn_otherEnd tn_told tn_strayParts tn_strayCourts tn_shows cA_tn_shows f_tn_shows tn_told cA_tn_told f_tn_told tn_strayCourts cA_tn_strayCourts f_tn_strayCourts) := hD
                  refine lv_iload hx hb dX9_hear_230 (lv_at hl 1 rfl) ?_
                  refine lv_if_eq (tgt := 249) hx hb dX9_hear_232 (by decide) (fun q => absurd q (by decide)) (fun _ => ?_)
                  refine lv_aload_n hx hb dX9_hear_235 rfl (lv_at hl 6 rfl) ?_
                  refine va_get (D := (dC, dI)) (ci := 9) (v := .ref nw) (C := RX9) (T := TX9) (N := 13) hx hb hts zl_X9 hown hK hP 0 rfl rfl 4 (by decide) (hts _ zw_t2_193) (fun _ h9 => h9) rfl dX9_hear_236 ?_
                  refine lv_dup hx hb dX9_hear_239 rfl ?_
                  refine va_get (D := (dC, dI)) (ci := 3) (v := .int nw_gone) (C := RX3) (T := TX3) (N := 6) hx hb hts zl_X3 hown hK hP 1 rfl rfl 5 (by decide) (hts _ zw_t1_168) (fun _ h9 => h9) rfl dX9_hear_240 ?_
                  refine lv_iload hx hb dX9_hear_243 (lv_at hl 4 rfl) ?_
                  refine lv_ior hx hb dX9_hear_245 ?_
                  refine lv_topi (fun x_41 ex_41 => ?_)
                  refine va_put (D := (dC, dI)) (ci := 3) (v := .int x_41) (ty := .int) (C := RX3) (T := TX3) (N := 6) hx hb hts zl_X3 tyX3 tyX3_ok nmX3 hown hK hP hD hS 1 rfl rfl 5 (by decide) (hts _ zw_t1_168) (fun _ h9 => h9) rfl (by decide +kernel) rfl rfl (Nat.le_of_ble_eq_true rfl) dX9_hear_246 (fun H locs hP hD hS => ?_)
                  have hP : va_P (dC, dI) vwCl (zV63 h0 tp h0_tapeLength h0_faultKind h0_faultPlace nw im sl rd wk fm mt ch dy nw nw_isKept tn nw_strayed nw_names x_40 x_41 tn tn_hours tn_courts tn_gateCount tn_people tn_lines tn_falseHours tn_strayers tn_deep tn_above tn_doors tn_degrees tn_neighbours tn_shows tn_oneEnd tn_otherEnd tn_told tn_strayParts tn_strayCourts tn_shows cA_tn_shows f_tn_shows tn_told cA_tn_told f_tn_told tn_strayCourts cA_tn_strayCourts f_tn_strayCourts) H := hP
                  have hD : va_D A (zV63 h0 tp h0_tapeLength h0_faultKind h0_faultPlace nw im sl rd wk fm mt ch dy nw nw_isKept tn nw_strayed nw_names x_40 x_41 tn tn_hours tn_courts tn_gateCount tn_people tn_lines tn_falseHours tn_strayers tn_deep tn_above tn_doors tn_degrees tn_neighbours tn_shows tn_oneEnd tn_otherEnd tn_told tn_strayParts tn_strayCourts tn_shows cA_tn_shows f_tn_shows tn_told cA_tn_told f_tn_told tn_strayCourts cA_tn_strayCourts f_tn_strayCourts) := hD
                  refine lv_iconst (v := 1) hx hb dX9_hear_249 (by decide) ?_
                  exact W.iret (v := 1) hx hb hr (fun t ht hW => by rw [← hQe]; exact ⟨⟨1, (), rfl, (by decide), ⟨x_40, x_41, z_ret hP hK hD ht hW [0, 1, 2, 3, 4, 5] [] rfl (by decide) rfl⟩⟩, hS.F ht⟩) hS.2.2 dX9_hear_250
                · have ic_38 := zz_nne rfl rfl c_38
                  refine lv_iconst (v := 1) hx hb dX9_hear_178 (by decide) ?_
                  refine lv_goto (tgt := 183) hx hb dX9_hear_179 (by decide) ?_
                  refine lv_istore (lv' := [(10, .int 1), (9, .int 1), (8, .int 1), (7, .int 1), (6, .int x_7), (5, .ref tn), (0, .ref h0), (1, .int p1), (2, .int p2), (3, .int p3), (4, .int p4)]) hx hb dX9_hear_183 hl (by decide) rfl (fun ls hl => ?_)
                  refine lv_iload hx hb dX9_hear_185 (lv_at hl 1 rfl) ?_
                  refine lv_if_ne (tgt := 198) hx hb dX9_hear_187 (by decide) (fun _ => ?_) (fun q => absurd q (by decide))
                  refine lv_iload hx hb dX9_hear_198 (lv_at hl 1 rfl) ?_
                  refine lv_if_eq (tgt := 210) hx hb dX9_hear_200 (by decide) (fun q => absurd q (by decide)) (fun _ => ?_)
                  refine lv_iload hx hb dX9_hear_203 (lv_at hl 0 rfl) ?_
                  refine lv_if_eq (tgt := 210) hx hb dX9_hear_205 (by decide) (fun q => absurd q (by decide)) (fun _ => ?_)
                  refine lv_iconst (v := 0) hx hb dX9_hear_208 (by decide) ?_
                  exact W.iret (v := 0) hx hb hr (fun t ht hW => by rw [← hQe]; exact ⟨⟨0, (), rfl, (by decide), ⟨nw_known, nw_gone, z_ret hP hK hD ht hW [0, 1, 2, 3, 4, 5] [] rfl (by decide) rfl⟩⟩, hS.F ht⟩) hS.2.2 dX9_hear_209
            · have ic_27 := zz_neq rfl (show Int32.toInt 0 = 0 from by decide) c_27
              refine lv_aload_n hx hb dX9_hear_105 rfl (lv_at hl 3 rfl) ?_
              refine va_get (D := (dC, dI)) (ci := 9) (v := .ref nw) (C := RX9) (T := TX9) (N := 13) hx hb hts zl_X9 hown hK hP 0 rfl rfl 4 (by decide) (hts _ zw_t2_193) (fun _ h9 => h9) rfl dX9_hear_106 ?_
              refine va_get (D := (dC, dI)) (ci := 3) (v := .int nw_gone) (C := RX3) (T := TX3) (N := 6) hx hb hts zl_X3 hown hK hP 1 rfl rfl 5 (by decide) (hts _ zw_t1_168) (fun _ h9 => h9) rfl dX9_hear_109 ?_
              refine lv_iload_n hx hb dX9_hear_112 rfl (lv_at hl 4 rfl) ?_
              obtain ⟨hPc, hDc, hFc⟩ := z_cut (wc := []) hP hD hS hA [] rfl (by decide +kernel)
              have hKc := hK.sub (tys' := []) [] rfl
              refine va_calli (va_runS (As := [.int nw_gone, .int p1]) (rest := []) ⟨hx, hb, hml, hown, hts⟩ (k_X9_has l sa dC dI nw_gone p1 H.size) (va_cwS 2 hts (z_gS zw_t4_12 zw_t3_123 zw_t1_1 zw_t3_124) rfl rfl rfl (by decide +kernel) (by rw [← hRe]; exact ⟨(Nat.le_of_ble_eq_true rfl), (Nat.le_of_ble_eq_true rfl)⟩)) (z_preS hPc hKc hDc hN hXs hS hFc) rfl rfl hl.1 rfl (lv_room (Nat.le_of_ble_eq_true rfl)) dX9_hear_113 (by rw [← hRe]; exact ⟨(Nat.le_of_ble_eq_true rfl), (Nat.le_of_ble_eq_true rfl)⟩)) hS (fun q _ h => hFc q h) hFc (fun r_42 u t H1 locs ht hvm hw hB hz1 hk1 hS => ?_)
              obtain ⟨hP, hD, hK⟩ := z_after3 (wn := (zV64 h0 tp h0_tapeLength h0_faultKind h0_faultPlace nw im sl rd wk fm mt ch dy nw nw_isKept tn nw_strayed nw_names nw_known nw_gone tn_shows cA_tn_shows f_tn_shows tn_told cA_tn_told f_tn_told tn_strayCourts cA_tn_strayCourts f_tn_strayCourts tn tn_hours tn_courts tn_gateCount tn_people tn_lines tn_falseHours tn_strayers tn_deep tn_above tn_doors tn_degrees tn_neighbours tn_shows tn_oneEnd tn_otherEnd tn_told tn_strayParts tn_strayCourts)) hB ht hvm hP hD hK [] [0, 1, 2, 3, 4, 5] rfl 6 rfl (by decide +kernel) rfl (by decide +kernel) hk1 hFc
              generalize H1 = H at hP hS ⊢
              have hK : va_K (dC, dI) vwCl [(cA_tn_shows, .int), (cA_tn_told, .int), (cA_tn_strayCourts, .int)] s := hK
              have b_r_42 : 0 ≤ r_42.toInt ∧ r_42.toInt ≤ 1 := hw
              refine lv_if_ne (tgt := 123) hx hb dX9_hear_116 (by decide) (fun c_43 => ?_) (fun c_43 => ?_)
              · have ic_43 := zz_ne rfl (show Int32.toInt 0 = 0 from by decide) c_43
                refine lv_iconst (v := 0) hx hb dX9_hear_123 (by decide) ?_
                refine lv_istore (lv' := [(8, .int 0), (7, .int 1), (6, .int x_7), (5, .ref tn), (0, .ref h0), (1, .int p1), (2, .int p2), (3, .int p3), (4, .int p4)]) hx hb dX9_hear_124 hl (by decide) rfl (fun ls hl => ?_)
                refine lv_iload hx hb dX9_hear_126 (lv_at hl 1 rfl) ?_
                refine lv_if_eq (tgt := 153) hx hb dX9_hear_128 (by decide) (fun q => absurd q (by decide)) (fun _ => ?_)
                refine lv_aload hx hb dX9_hear_131 (lv_at hl 3 rfl) ?_
                refine lv_iload_n hx hb dX9_hear_133 rfl (lv_at hl 5 rfl) ?_
                refine lv_iload_n hx hb dX9_hear_134 rfl (lv_at hl 7 rfl) ?_
                refine lv_iload hx hb dX9_hear_135 (lv_at hl 2 rfl) ?_
                obtain ⟨hPc, hDc, hFc⟩ := z_cut (wc := (zV3 tn tn_hours tn_courts tn_gateCount tn_people tn_lines tn_falseHours tn_strayers tn_deep tn_above tn_doors tn_degrees tn_neighbours tn_shows tn_oneEnd tn_otherEnd tn_told tn_strayParts tn_strayCourts tn_shows cA_tn_shows f_tn_shows tn_told cA_tn_told f_tn_told tn_strayCourts cA_tn_strayCourts f_tn_strayCourts)) hP hD hS hA [5, 2, 3, 4] rfl (by decide +kernel)
                have hKc := hK.sub (tys' := [(cA_tn_shows, .int), (cA_tn_told, .int), (cA_tn_strayCourts, .int)]) [0, 1, 2] rfl
                refine va_calli (va_runV (As := [.int p1, .int p3, .int x_7]) (rest := []) ⟨hx, hb, hml, hown, hts⟩ (k_X7_showsOf l sa dC dI tn p1 p3 x_7 tn_hours tn_courts tn_gateCount tn_people tn_lines tn_falseHours tn_strayers tn_deep tn_above tn_doors tn_degrees tn_neighbours tn_shows tn_oneEnd tn_otherEnd tn_told tn_strayParts tn_strayCourts cA_tn_shows f_tn_shows cA_tn_told f_tn_told cA_tn_strayCourts f_tn_strayCourts (by first | with_reducible assumption | omega) (by first | with_reducible assumption | omega) b_tn_hours b_tn_courts b_tn_gateCount b_tn_people b_tn_falseHours b_tn_deep b_f_tn_told b_f_tn_strayCourts H.size) (cwV 3 hts (z_gV zw_t5_133 zw_t3_206 zw_t3_207 zw_t1_3 zw_t3_208) rfl rfl rfl (by decide +kernel) (by rw [← hRe]; exact ⟨(Nat.le_of_ble_eq_true rfl), (Nat.le_of_ble_eq_true rfl)⟩)) (z_preV hPc hKc hDc hN hXs hS hFc (q := (RX7, TX7, 18)) (ci := 7) (q0 := 0) rfl rfl) rfl rfl hl.1 rfl (lv_room (Nat.le_of_ble_eq_true rfl)) dX9_hear_137 (by rw [← hRe]; exact ⟨(Nat.le_of_ble_eq_true rfl), (Nat.le_of_ble_eq_true rfl)⟩)) hS (fun q _ h => hFc q h) hFc (fun r_44 u t H1 locs ht hvm hw hB hz1 hk1 hS => ?_)
                obtain ⟨hP, hD, hK⟩ := z_after3 (wn := (zV63 h0 tp h0_tapeLength h0_faultKind h0_faultPlace nw im sl rd wk fm mt ch dy nw nw_isKept tn nw_strayed nw_names nw_known nw_gone tn tn_hours tn_courts tn_gateCount tn_people tn_lines tn_falseHours tn_strayers tn_deep tn_above tn_doors tn_degrees tn_neighbours tn_shows tn_oneEnd tn_otherEnd tn_told tn_strayParts tn_strayCourts tn_shows cA_tn_shows f_tn_shows tn_told cA_tn_told f_tn_told tn_strayCourts cA_tn_strayCourts f_tn_strayCourts)) hB ht hvm hP hD hK [5, 2, 3, 4] [0, 1] rfl 6 rfl (by decide +kernel) rfl (by decide +kernel) hk1 hFc
                generalize H1 = H at hP hS ⊢
                have hK : va_K (dC, dI) vwCl [(cA_tn_shows, .int), (cA_tn_told, .int), (cA_tn_strayCourts, .int)] s := hK
                refine lv_iload_n hx hb dX9_hear_140 rfl (lv_at hl 6 rfl) ?_
                obtain ⟨hPc, hDc, hFc⟩ := z_cut (wc := []) hP hD hS hA [] rfl (by decide +kernel)
                have hKc := hK.sub (tys' := []) [] rfl
                refine va_calli (va_runS (As := [.int r_44, .int p2]) (rest := []) ⟨hx, hb, hml, hown, hts⟩ (k_X9_has l sa dC dI r_44 p2 H.size) (va_cwS 2 hts (z_gS zw_t4_12 zw_t3_123 zw_t1_1 zw_t3_124) rfl rfl rfl (by decide +kernel) (by rw [← hRe]; exact ⟨(Nat.le_of_ble_eq_true rfl), (Nat.le_of_ble_eq_true rfl)⟩)) (z_preS hPc hKc hDc hN hXs hS hFc) rfl rfl hl.1 rfl (lv_room (Nat.le_of_ble_eq_true rfl)) dX9_hear_141 (by rw [← hRe]; exact ⟨(Nat.le_of_ble_eq_true rfl), (Nat.le_of_ble_eq_true rfl)⟩)) hS (fun q _ h => hFc q h) hFc (fun r_45 u t H1 locs ht hvm hw hB hz1 hk1 hS => ?_)
                obtain ⟨hP, hD, hK⟩ := z_after3 (wn := (zV63 h0 tp h0_tapeLength h0_faultKind h0_faultPlace nw im sl rd wk fm mt ch dy nw nw_isKept tn nw_strayed nw_names nw_known nw_gone tn tn_hours tn_courts tn_gateCount tn_people tn_lines tn_falseHours tn_strayers tn_deep tn_above tn_doors tn_degrees tn_neighbours tn_shows tn_oneEnd tn_otherEnd tn_told tn_strayParts tn_strayCourts tn_shows cA_tn_shows f_tn_shows tn_told cA_tn_told f_tn_told tn_strayCourts cA_tn_strayCourts f_tn_strayCourts)) hB ht hvm hP hD hK [] [0, 1, 2, 3, 4, 5] rfl 6 rfl (by decide +kernel) rfl (by decide +kernel) hk1 hFc
                generalize H1 = H at hP hS ⊢
                have hK : va_K (dC, dI) vwCl [(cA_tn_shows, .int), (cA_tn_told, .int), (cA_tn_strayCourts, .int)] s := hK
                have b_r_45 : 0 ≤ r_45.toInt ∧ r_45.toInt ≤ 1 := hw
                refine lv_iload hx hb dX9_hear_144 (lv_at hl 8 rfl) ?_
                have nb_p4 := zi_nb p4
                refine lv_icmp_ne (tgt := 153) hx hb dX9_hear_146 (by decide) (fun c_46 => ?_) (fun c_46 => ?_)
                · have ic_46 := zz_ne rfl rfl c_46
                  refine lv_iconst (v := 0) hx hb dX9_hear_153 (by decide) ?_
                  refine lv_istore (lv' := [(9, .int 0), (8, .int 0), (7, .int 1), (6, .int x_7), (5, .ref tn), (0, .ref h0), (1, .int p1), (2, .int p2), (3, .int p3), (4, .int p4)]) hx hb dX9_hear_154 hl (by decide) rfl (fun ls hl => ?_)
                  refine lv_iload hx hb dX9_hear_156 (lv_at hl 1 rfl) ?_
                  refine lv_if_eq (tgt := 182) hx hb dX9_hear_158 (by decide) (fun _ => ?_) (fun q => absurd q (by decide))
                  refine lv_iconst (v := 0) hx hb dX9_hear_182 (by decide) ?_
                  refine lv_istore (lv' := [(10, .int 0), (9, .int 0), (8, .int 0), (7, .int 1), (6, .int x_7), (5, .ref tn), (0, .ref h0), (1, .int p1), (2, .int p2), (3, .int p3), (4, .int p4)]) hx hb dX9_hear_183 hl (by decide) rfl (fun ls hl => ?_)
                  refine lv_iload hx hb dX9_hear_185 (lv_at hl 1 rfl) ?_
                  refine lv_if_ne (tgt := 198) hx hb dX9_hear_187 (by decide) (fun q => absurd q (by decide)) (fun _ => ?_)
                  refine lv_iload hx hb dX9_hear_190 (lv_at hl 0 rfl) ?_
                  refine lv_if_ne (tgt := 198) hx hb dX9_hear_192 (by decide) (fun q => absurd q (by decide)) (fun _ => ?_)
                  refine lv_bipush (v := (-5)) hx hb dX9_hear_195 (by decide) ?_
                  exact W.iret (v := (-5)) hx hb hr (fun t ht hW => by rw [← hQe]; exact ⟨⟨(-5), (), rfl, (by decide), ⟨nw_known, nw_gone, z_ret hP hK hD ht hW [0, 1, 2, 3, 4, 5] [] rfl (by decide) rfl⟩⟩, hS.F ht⟩) hS.2.2 dX9_hear_197
                · have ic_46 := zz_nne rfl rfl c_46
                  refine lv_iconst (v := 1) hx hb dX9_hear_149 (by decide) ?_
                  refine lv_goto (tgt := 154) hx hb dX9_hear_150 (by decide) ?_
                  refine lv_istore (lv' := [(9, .int 1), (8, .int 0), (7, .int 1), (6, .int x_7), (5, .ref tn), (0, .ref h0), (1, .int p1), (2, .int p2), (3, .int p3), (4, .int p4)]) hx hb dX9_hear_154 hl (by decide) rfl (fun ls hl => ?_)
                  refine lv_iload hx hb dX9_hear_156 (lv_at hl 1 rfl) ?_
                  refine lv_if_eq (tgt := 182) hx hb dX9_hear_158 (by decide) (fun _ => ?_) (fun q => absurd q (by decide))
                  refine lv_iconst (v := 0) hx hb dX9_hear_182 (by decide) ?_
                  refine lv_istore (lv' := [(10, .int 0), (9, .int 1), (8, .int 0), (7, .int 1), (6, .int x_7), (5, .ref tn), (0, .ref h0), (1, .int p1), (2, .int p2), (3, .int p3), (4, .int p4)]) hx hb dX9_hear_183 hl (by decide) rfl (fun ls hl => ?_)
                  refine lv_iload hx hb dX9_hear_185 (lv_at hl 1 rfl) ?_
                  refine lv_if_ne (tgt := 198) hx hb dX9_hear_187 (by decide) (fun _ => ?_) (fun q => absurd q (by decide))
                  refine lv_iload hx hb dX9_hear_198 (lv_at hl 1 rfl) ?_
                  refine lv_if_eq (tgt := 210) hx hb dX9_hear_200 (by decide) (fun q => absurd q (by decide)) (fun _ => ?_)
                  refine lv_iload hx hb dX9_hear_203 (lv_at hl 0 rfl) ?_
                  refine lv_if_eq (tgt := 210) hx hb dX9_hear_205 (by decide) (fun _ => ?_) (fun q => absurd q (by decide))
                  refine lv_aload_n hx hb dX9_hear_210 rfl (lv_at hl 6 rfl) ?_
                  refine va_get (D := (dC, dI)) (ci := 9) (v := .ref nw) (C := RX9) (T := TX9) (N := 13) hx hb hts zl_X9 hown hK hP 0 rfl rfl 4 (by decide) (hts _ zw_t2_193) (fun _ h9 => h9) rfl dX9_hear_211 ?_
                  refine lv_dup hx hb dX9_hear_214 rfl ?_
                  refine va_get (D := (dC, dI)) (ci := 3) (v := .int nw_known) (C := RX3) (T := TX3) (N := 6) hx hb hts zl_X3 hown hK hP 1 rfl rfl 4 (by decide) (hts _ zw_t1_165) (fun _ h9 => h9) rfl dX9_hear_215 ?_
                  refine lv_iload hx hb dX9_hear_218 (lv_at hl 4 rfl) ?_
                  refine lv_aload hx hb dX9_hear_220 (lv_at hl 5 rfl) ?_
                  refine va_get (D := (dC, dI)) (ci := 7) (v := .int tn_strayers) (C := RX7) (T := TX7) (N := 18) hx hb hts zl_X7 hown hK hP 2 rfl rfl 6 (by decide) (hts _ zw_t1_74) (fun _ h9 => h9) rfl dX9_hear_222 ?_
                  refine lv_iand hx hb dX9_hear_225 ?_
                  refine lv_topi (fun x_47 ex_47 => ?_)
                  have b_x_47 : 0 ≤ x_47.toInt ∧ x_47.toInt ≤ 1024 := by rw [ex_47]; exact zi_andL rfl (by first | with_reducible assumption | omega) (by first | with_reducible assumption | omega)
                  refine lv_ior hx hb dX9_hear_226 ?_
                  refine lv_topi (fun x_48 ex_48 => ?_)
                  refine va_put (D := (dC, dI)) (ci := 3) (v := .int x_48) (ty := .int) (C := RX3) (T := TX3) (N := 6) hx hb hts zl_X3 tyX3 tyX3_ok nmX3 hown hK hP hD hS 1 rfl rfl 4 (by decide) (hts _ zw_t1_165) (fun _ h9 => h9) rfl (by decide +kernel) rfl rfl (Nat.le_of_ble_eq_true rfl) dX9_hear_227 (fun H locs hP hD hS => ?_)
                  have hP : va_P (dC, dI) vwCl (zV63 h0 tp h0_tapeLength h0_faultKind h0_faultPlace nw im sl rd wk fm mt ch dy nw nw_isKept tn nw_strayed nw_names x_48 nw_gone tn tn_hours tn_courts tn_gateCount tn_people tn_lines tn_falseHours tn_strayers tn_deep tn_above tn_doors tn_degrees tn_neighbours tn_shows tn_oneEnd tn_otherEnd tn_told tn_strayParts tn_strayCourts tn_shows cA_tn_shows f_tn_shows tn_told cA_tn_told f_tn_told tn_strayCourts cA_tn_strayCourts f_tn_strayCourts) H := hP
                  have hD : va_D A (zV63 h0 tp h0_tapeLength h0_faultKind h0_faultPlace nw im sl rd wk fm mt ch dy nw nw_isKept tn nw_strayed nw_names x_48 nw_gone tn tn_hours tn_courts tn_gateCount tn_people tn_lines tn_falseHours tn_strayers tn_deep tn_above tn_doors tn_degrees tn_neighbours tn_shows tn_oneEnd tn_otherEnd tn_told tn_strayParts tn_strayCourts tn_shows cA_tn_shows f_tn_shows tn_told cA_tn_told f_tn_told tn_strayCourts cA_tn_strayCourts f_tn_strayCourts) := hD
                  refine lv_iload hx hb dX9_hear_230 (lv_at hl 1 rfl) ?_
                  refine lv_if_eq (tgt := 249) hx hb dX9_hear_232 (by decide) (fun q => absurd q (by decide)) (fun _ => ?_)
                  refine lv_aload_n hx hb dX9_hear_235 rfl (lv_at hl 6 rfl) ?_
                  refine va_get (D := (dC, dI)) (ci := 9) (v := .ref nw) (C := RX9) (T := TX9) (N := 13) hx hb hts zl_X9 hown hK hP 0 rfl rfl 4 (by decide) (hts _ zw_t2_193) (fun _ h9 => h9) rfl dX9_hear_236 ?_
                  refine lv_dup hx hb dX9_hear_239 rfl ?_
                  refine va_get (D := (dC, dI)) (ci := 3) (v := .int nw_gone) (C := RX3) (T := TX3) (N := 6) hx hb hts zl_X3 hown hK hP 1 rfl rfl 5 (by decide) (hts _ zw_t1_168) (fun _ h9 => h9) rfl dX9_hear_240 ?_
                  refine lv_iload hx hb dX9_hear_243 (lv_at hl 4 rfl) ?_
                  refine lv_ior hx hb dX9_hear_245 ?_
                  refine lv_topi (fun x_49 ex_49 => ?_)
                  refine va_put (D := (dC, dI)) (ci := 3) (v := .int x_49) (ty := .int) (C := RX3) (T := TX3) (N := 6) hx hb hts zl_X3 tyX3 tyX3_ok nmX3 hown hK hP hD hS 1 rfl rfl 5 (by decide) (hts _ zw_t1_168) (fun _ h9 => h9) rfl (by decide +kernel) rfl rfl (Nat.le_of_ble_eq_true rfl) dX9_hear_246 (fun H locs hP hD hS => ?_)
                  have hP : va_P (dC, dI) vwCl (zV63 h0 tp h0_tapeLength h0_faultKind h0_faultPlace nw im sl rd wk fm mt ch dy nw nw_isKept tn nw_strayed nw_names x_48 x_49 tn tn_hours tn_courts tn_gateCount tn_people tn_lines tn_falseHours tn_strayers tn_deep tn_above tn_doors tn_degrees tn_neighbours tn_shows tn_oneEnd tn_otherEnd tn_told tn_strayParts tn_strayCourts tn_shows cA_tn_shows f_tn_shows tn_told cA_tn_told f_tn_told tn_strayCourts cA_tn_strayCourts f_tn_strayCourts) H := hP
                  have hD : va_D A (zV63 h0 tp h0_tapeLength h0_faultKind h0_faultPlace nw im sl rd wk fm mt ch dy nw nw_isKept tn nw_strayed nw_names x_48 x_49 tn tn_hours tn_courts tn_gateCount tn_people tn_lines tn_falseHours tn_strayers tn_deep tn_above tn_doors tn_degrees tn_neighbours tn_shows tn_oneEnd tn_otherEnd tn_told tn_strayParts tn_strayCourts tn_shows cA_tn_shows f_tn_shows tn_told cA_tn_told f_tn_told tn_strayCourts cA_tn_strayCourts f_tn_strayCourts) := hD
                  refine lv_iconst (v := 1) hx hb dX9_hear_249 (by decide) ?_
                  exact W.iret (v := 1) hx hb hr (fun t ht hW => by rw [← hQe]; exact ⟨⟨1, (), rfl, (by decide), ⟨x_48, x_49, z_ret hP hK hD ht hW [0, 1, 2, 3, 4, 5] [] rfl (by decide) rfl⟩⟩, hS.F ht⟩) hS.2.2 dX9_hear_250
              · have ic_43 := zz_nne rfl (show Int32.toInt 0 = 0 from by decide) c_43
                refine lv_iconst (v := 1) hx hb dX9_hear_119 (by decide) ?_
                refine lv_goto (tgt := 124) hx hb dX9_hear_120 (by decide) ?_
                refine lv_istore (lv' := [(8, .int 1), (7, .int 1), (6, .int x_7), (5, .ref tn), (0, .ref h0), (1, .int p1), (2, .int p2), (3, .int p3), (4, .int p4)]) hx hb dX9_hear_124 hl (by decide) rfl (fun ls hl => ?_)
                refine lv_iload hx hb dX9_hear_126 (lv_at hl 1 rfl) ?_
                refine lv_if_eq (tgt := 153) hx hb dX9_hear_128 (by decide) (fun q => absurd q (by decide)) (fun _ => ?_)
                refine lv_aload hx hb dX9_hear_131 (lv_at hl 3 rfl) ?_
                refine lv_iload_n hx hb dX9_hear_133 rfl (lv_at hl 5 rfl) ?_
                refine lv_iload_n hx hb dX9_hear_134 rfl (lv_at hl 7 rfl) ?_
                refine lv_iload hx hb dX9_hear_135 (lv_at hl 2 rfl) ?_
                obtain ⟨hPc, hDc, hFc⟩ := z_cut (wc := (zV3 tn tn_hours tn_courts tn_gateCount tn_people tn_lines tn_falseHours tn_strayers tn_deep tn_above tn_doors tn_degrees tn_neighbours tn_shows tn_oneEnd tn_otherEnd tn_told tn_strayParts tn_strayCourts tn_shows cA_tn_shows f_tn_shows tn_told cA_tn_told f_tn_told tn_strayCourts cA_tn_strayCourts f_tn_strayCourts)) hP hD hS hA [5, 2, 3, 4] rfl (by decide +kernel)
                have hKc := hK.sub (tys' := [(cA_tn_shows, .int), (cA_tn_told, .int), (cA_tn_strayCourts, .int)]) [0, 1, 2] rfl
                refine va_calli (va_runV (As := [.int p1, .int p3, .int x_7]) (rest := []) ⟨hx, hb, hml, hown, hts⟩ (k_X7_showsOf l sa dC dI tn p1 p3 x_7 tn_hours tn_courts tn_gateCount tn_people tn_lines tn_falseHours tn_strayers tn_deep tn_above tn_doors tn_degrees tn_neighbours tn_shows tn_oneEnd tn_otherEnd tn_told tn_strayParts tn_strayCourts cA_tn_shows f_tn_shows cA_tn_told f_tn_told cA_tn_strayCourts f_tn_strayCourts (by first | with_reducible assumption | omega) (by first | with_reducible assumption | omega) b_tn_hours b_tn_courts b_tn_gateCount b_tn_people b_tn_falseHours b_tn_deep b_f_tn_told b_f_tn_strayCourts H.size) (cwV 3 hts (z_gV zw_t5_133 zw_t3_206 zw_t3_207 zw_t1_3 zw_t3_208) rfl rfl rfl (by decide +kernel) (by rw [← hRe]; exact ⟨(Nat.le_of_ble_eq_true rfl), (Nat.le_of_ble_eq_true rfl)⟩)) (z_preV hPc hKc hDc hN hXs hS hFc (q := (RX7, TX7, 18)) (ci := 7) (q0 := 0) rfl rfl) rfl rfl hl.1 rfl (lv_room (Nat.le_of_ble_eq_true rfl)) dX9_hear_137 (by rw [← hRe]; exact ⟨(Nat.le_of_ble_eq_true rfl), (Nat.le_of_ble_eq_true rfl)⟩)) hS (fun q _ h => hFc q h) hFc (fun r_50 u t H1 locs ht hvm hw hB hz1 hk1 hS => ?_)
                obtain ⟨hP, hD, hK⟩ := z_after3 (wn := (zV63 h0 tp h0_tapeLength h0_faultKind h0_faultPlace nw im sl rd wk fm mt ch dy nw nw_isKept tn nw_strayed nw_names nw_known nw_gone tn tn_hours tn_courts tn_gateCount tn_people tn_lines tn_falseHours tn_strayers tn_deep tn_above tn_doors tn_degrees tn_neighbours tn_shows tn_oneEnd tn_otherEnd tn_told tn_strayParts tn_strayCourts tn_shows cA_tn_shows f_tn_shows tn_told cA_tn_told f_tn_told tn_strayCourts cA_tn_strayCourts f_tn_strayCourts)) hB ht hvm hP hD hK [5, 2, 3, 4] [0, 1] rfl 6 rfl (by decide +kernel) rfl (by decide +kernel) hk1 hFc
                generalize H1 = H at hP hS ⊢
                have hK : va_K (dC, dI) vwCl [(cA_tn_shows, .int), (cA_tn_told, .int), (cA_tn_strayCourts, .int)] s := hK
                refine lv_iload_n hx hb dX9_hear_140 rfl (lv_at hl 6 rfl) ?_
                obtain ⟨hPc, hDc, hFc⟩ := z_cut (wc := []) hP hD hS hA [] rfl (by decide +kernel)
                have hKc := hK.sub (tys' := []) [] rfl
                refine va_calli (va_runS (As := [.int r_50, .int p2]) (rest := []) ⟨hx, hb, hml, hown, hts⟩ (k_X9_has l sa dC dI r_50 p2 H.size) (va_cwS 2 hts (z_gS zw_t4_12 zw_t3_123 zw_t1_1 zw_t3_124) rfl rfl rfl (by decide +kernel) (by rw [← hRe]; exact ⟨(Nat.le_of_ble_eq_true rfl), (Nat.le_of_ble_eq_true rfl)⟩)) (z_preS hPc hKc hDc hN hXs hS hFc) rfl rfl hl.1 rfl (lv_room (Nat.le_of_ble_eq_true rfl)) dX9_hear_141 (by rw [← hRe]; exact ⟨(Nat.le_of_ble_eq_true rfl), (Nat.le_of_ble_eq_true rfl)⟩)) hS (fun q _ h => hFc q h) hFc (fun r_51 u t H1 locs ht hvm hw hB hz1 hk1 hS => ?_)
                obtain ⟨hP, hD, hK⟩ := z_after3 (wn := (zV63 h0 tp h0_tapeLength h0_faultKind h0_faultPlace nw im sl rd wk fm mt ch dy nw nw_isKept tn nw_strayed nw_names nw_known nw_gone tn tn_hours tn_courts tn_gateCount tn_people tn_lines tn_falseHours tn_strayers tn_deep tn_above tn_doors tn_degrees tn_neighbours tn_shows tn_oneEnd tn_otherEnd tn_told tn_strayParts tn_strayCourts tn_shows cA_tn_shows f_tn_shows tn_told cA_tn_told f_tn_told tn_strayCourts cA_tn_strayCourts f_tn_strayCourts)) hB ht hvm hP hD hK [] [0, 1, 2, 3, 4, 5] rfl 6 rfl (by decide +kernel) rfl (by decide +kernel) hk1 hFc
                generalize H1 = H at hP hS ⊢
                have hK : va_K (dC, dI) vwCl [(cA_tn_shows, .int), (cA_tn_told, .int), (cA_tn_strayCourts, .int)] s := hK
                have b_r_51 : 0 ≤ r_51.toInt ∧ r_51.toInt ≤ 1 := hw
                refine lv_iload hx hb dX9_hear_144 (lv_at hl 8 rfl) ?_
                have nb_p4 := zi_nb p4
                refine lv_icmp_ne (tgt := 153) hx hb dX9_hear_146 (by decide) (fun c_52 => ?_) (fun c_52 => ?_)
                · have ic_52 := zz_ne rfl rfl c_52
                  refine lv_iconst (v := 0) hx hb dX9_hear_153 (by decide) ?_
                  refine lv_istore (lv' := [(9, .int 0), (8, .int 1), (7, .int 1), (6, .int x_7), (5, .ref tn), (0, .ref h0), (1, .int p1), (2, .int p2), (3, .int p3), (4, .int p4)]) hx hb dX9_hear_154 hl (by decide) rfl (fun ls hl => ?_)
                  refine lv_iload hx hb dX9_hear_156 (lv_at hl 1 rfl) ?_
                  refine lv_if_eq (tgt := 182) hx hb dX9_hear_158 (by decide) (fun q => absurd q (by decide)) (fun _ => ?_)
                  refine lv_aload hx hb dX9_hear_161 (lv_at hl 4 rfl) ?_
                  refine lv_iload_n hx hb dX9_hear_163 rfl (lv_at hl 6 rfl) ?_
                  refine lv_iload_n hx hb dX9_hear_164 rfl (lv_at hl 8 rfl) ?_
                  refine lv_iconst (v := 0) hx hb dX9_hear_165 (by decide) ?_
                  obtain ⟨hPc, hDc, hFc⟩ := z_cut (wc := (zV3 tn tn_hours tn_courts tn_gateCount tn_people tn_lines tn_falseHours tn_strayers tn_deep tn_above tn_doors tn_degrees tn_neighbours tn_shows tn_oneEnd tn_otherEnd tn_told tn_strayParts tn_strayCourts tn_shows cA_tn_shows f_tn_shows tn_told cA_tn_told f_tn_told tn_strayCourts cA_tn_strayCourts f_tn_strayCourts)) hP hD hS hA [2, 3, 4, 5] rfl (by decide +kernel)
                  have hKc := hK.sub (tys' := [(cA_tn_shows, .int), (cA_tn_told, .int), (cA_tn_strayCourts, .int)]) [0, 1, 2] rfl
                  refine va_calli (va_runV (As := [.int p1, .int p3, .int 0]) (rest := []) ⟨hx, hb, hml, hown, hts⟩ (k_X7_showsOf l sa dC dI tn p1 p3 (0) tn_hours tn_courts tn_gateCount tn_people tn_lines tn_falseHours tn_strayers tn_deep tn_above tn_doors tn_degrees tn_neighbours tn_shows tn_oneEnd tn_otherEnd tn_told tn_strayParts tn_strayCourts cA_tn_shows f_tn_shows cA_tn_told f_tn_told cA_tn_strayCourts f_tn_strayCourts (by first | with_reducible assumption | omega) (by first | with_reducible assumption | omega) b_tn_hours b_tn_courts b_tn_gateCount b_tn_people b_tn_falseHours b_tn_deep b_f_tn_told b_f_tn_strayCourts H.size) (cwV 3 hts (z_gV zw_t5_133 zw_t3_206 zw_t3_207 zw_t1_3 zw_t3_208) rfl rfl rfl (by decide +kernel) (by rw [← hRe]; exact ⟨(Nat.le_of_ble_eq_true rfl), (Nat.le_of_ble_eq_true rfl)⟩)) (z_preV hPc hKc hDc hN hXs hS hFc (q := (RX7, TX7, 18)) (ci := 7) (q0 := 0) rfl rfl) rfl rfl hl.1 rfl (lv_room (Nat.le_of_ble_eq_true rfl)) dX9_hear_166 (by rw [← hRe]; exact ⟨(Nat.le_of_ble_eq_true rfl), (Nat.le_of_ble_eq_true rfl)⟩)) hS (fun q _ h => hFc q h) hFc (fun r_53 u t H1 locs ht hvm hw hB hz1 hk1 hS => ?_)
                  obtain ⟨hP, hD, hK⟩ := z_after3 (wn := (zV63 h0 tp h0_tapeLength h0_faultKind h0_faultPlace nw im sl rd wk fm mt ch dy nw nw_isKept tn nw_strayed nw_names nw_known nw_gone tn tn_hours tn_courts tn_gateCount tn_people tn_lines tn_falseHours tn_strayers tn_deep tn_above tn_doors tn_degrees tn_neighbours tn_shows tn_oneEnd tn_otherEnd tn_told tn_strayParts tn_strayCourts tn_shows cA_tn_shows f_tn_shows tn_told cA_tn_told f_tn_told tn_strayCourts cA_tn_strayCourts f_tn_strayCourts)) hB ht hvm hP hD hK [2, 3, 4, 5] [0, 1] rfl 6 rfl (by decide +kernel) rfl (by decide +kernel) hk1 hFc
                  generalize H1 = H at hP hS ⊢
                  have hK : va_K (dC, dI) vwCl [(cA_tn_shows, .int), (cA_tn_told, .int), (cA_tn_strayCourts, .int)] s := hK
                  refine lv_iload_n hx hb dX9_hear_169 rfl (lv_at hl 7 rfl) ?_
                  obtain ⟨hPc, hDc, hFc⟩ := z_cut (wc := []) hP hD hS hA [] rfl (by decide +kernel)
                  have hKc := hK.sub (tys' := []) [] rfl
                  refine va_calli (va_runS (As := [.int r_53, .int p2]) (rest := []) ⟨hx, hb, hml, hown, hts⟩ (k_X9_has l sa dC dI r_53 p2 H.size) (va_cwS 2 hts (z_gS zw_t4_12 zw_t3_123 zw_t1_1 zw_t3_124) rfl rfl rfl (by decide +kernel) (by rw [← hRe]; exact ⟨(Nat.le_of_ble_eq_true rfl), (Nat.le_of_ble_eq_true rfl)⟩)) (z_preS hPc hKc hDc hN hXs hS hFc) rfl rfl hl.1 rfl (lv_room (Nat.le_of_ble_eq_true rfl)) dX9_hear_170 (by rw [← hRe]; exact ⟨(Nat.le_of_ble_eq_true rfl), (Nat.le_of_ble_eq_true rfl)⟩)) hS (fun q _ h => hFc q h) hFc (fun r_54 u t H1 locs ht hvm hw hB hz1 hk1 hS => ?_)
                  obtain ⟨hP, hD, hK⟩ := z_after3 (wn := (zV63 h0 tp h0_tapeLength h0_faultKind h0_faultPlace nw im sl rd wk fm mt ch dy nw nw_isKept tn nw_strayed nw_names nw_known nw_gone tn tn_hours tn_courts tn_gateCount tn_people tn_lines tn_falseHours tn_strayers tn_deep tn_above tn_doors tn_degrees tn_neighbours tn_shows tn_oneEnd tn_otherEnd tn_told tn_strayParts tn_strayCourts tn_shows cA_tn_shows f_tn_shows tn_told cA_tn_told f_tn_told tn_strayCourts cA_tn_strayCourts f_tn_strayCourts)) hB ht hvm hP hD hK [] [0, 1, 2, 3, 4, 5] rfl 6 rfl (by decide +kernel) rfl (by decide +kernel) hk1 hFc
                  generalize H1 = H at hP hS ⊢
                  have hK : va_K (dC, dI) vwCl [(cA_tn_shows, .int), (cA_tn_told, .int), (cA_tn_strayCourts, .int)] s := hK
                  have b_r_54 : 0 ≤ r_54.toInt ∧ r_54.toInt ≤ 1 := hw
                  refine lv_iload hx hb dX9_hear_173 (lv_at hl 9 rfl) ?_
                  refine lv_icmp_ne (tgt := 182) hx hb dX9_hear_175 (by decide) (fun c_55 => ?_) (fun c_55 => ?_)
                  · have ic_55 := zz_ne rfl rfl c_55
                    refine lv_iconst (v := 0) hx hb dX9_hear_182 (by decide) ?_
                    refine lv_istore (lv' := [(10, .int 0), (9, .int 0), (8, .int 1), (7, .int 1), (6, .int x_7), (5, .ref tn), (0, .ref h0), (1, .int p1), (2, .int p2), (3, .int p3), (4, .int p4)]) hx hb dX9_hear_183 hl (by decide) rfl (fun ls hl => ?_)
                    refine lv_iload hx hb dX9_hear_185 (lv_at hl 1 rfl) ?_
                    refine lv_if_ne (tgt := 198) hx hb dX9_hear_187 (by decide) (fun q => absurd q (by decide)) (fun _ => ?_)
                    refine lv_iload hx hb dX9_hear_190 (lv_at hl 0 rfl) ?_
                    refine lv_if_ne (tgt := 198) hx hb dX9_hear_192 (by decide) (fun q => absurd q (by decide)) (fun _ => ?_)
                    refine lv_bipush (v := (-5)) hx hb dX9_hear_195 (by decide) ?_
                    exact W.iret (v := (-5)) hx hb hr (fun t ht hW => by rw [← hQe]; exact ⟨⟨(-5), (), rfl, (by decide), ⟨nw_known, nw_gone, z_ret hP hK hD ht hW [0, 1, 2, 3, 4, 5] [] rfl (by decide) rfl⟩⟩, hS.F ht⟩) hS.2.2 dX9_hear_197
                  · have ic_55 := zz_nne rfl rfl c_55
                    refine lv_iconst (v := 1) hx hb dX9_hear_178 (by decide) ?_
                    refine lv_goto (tgt := 183) hx hb dX9_hear_179 (by decide) ?_
                    refine lv_istore (lv' := [(10, .int 1), (9, .int 0), (8, .int 1), (7, .int 1), (6, .int x_7), (5, .ref tn), (0, .ref h0), (1, .int p1), (2, .int p2), (3, .int p3), (4, .int p4)]) hx hb dX9_hear_183 hl (by decide) rfl (fun ls hl => ?_)
                    refine lv_iload hx hb dX9_hear_185 (lv_at hl 1 rfl) ?_
                    refine lv_if_ne (tgt := 198) hx hb dX9_hear_187 (by decide) (fun q => absurd q (by decide)) (fun _ => ?_)
                    refine lv_iload hx hb dX9_hear_190 (lv_at hl 0 rfl) ?_
                    refine lv_if_ne (tgt := 198) hx hb dX9_hear_192 (by decide) (fun _ => ?_) (fun q => absurd q (by decide))
                    refine lv_iload hx hb dX9_hear_198 (lv_at hl 1 rfl) ?_
                    refine lv_if_eq (tgt := 210) hx hb dX9_hear_200 (by decide) (fun _ => ?_) (fun q => absurd q (by decide))
                    refine lv_aload_n hx hb dX9_hear_210 rfl (lv_at hl 6 rfl) ?_
                    refine va_get (D := (dC, dI)) (ci := 9) (v := .ref nw) (C := RX9) (T := TX9) (N := 13) hx hb hts zl_X9 hown hK hP 0 rfl rfl 4 (by decide) (hts _ zw_t2_193) (fun _ h9 => h9) rfl dX9_hear_211 ?_
                    refine lv_dup hx hb dX9_hear_214 rfl ?_
                    refine va_get (D := (dC, dI)) (ci := 3) (v := .int nw_known) (C := RX3) (T := TX3) (N := 6) hx hb hts zl_X3 hown hK hP 1 rfl rfl 4 (by decide) (hts _ zw_t1_165) (fun _ h9 => h9) rfl dX9_hear_215 ?_
                    refine lv_iload hx hb dX9_hear_218 (lv_at hl 4 rfl) ?_
                    refine lv_aload hx hb dX9_hear_220 (lv_at hl 5 rfl) ?_
                    refine va_get (D := (dC, dI)) (ci := 7) (v := .int tn_strayers) (C := RX7) (T := TX7) (N := 18) hx hb hts zl_X7 hown hK hP 2 rfl rfl 6 (by decide) (hts _ zw_t1_74) (fun _ h9 => h9) rfl dX9_hear_222 ?_
                    refine lv_iand hx hb dX9_hear_225 ?_
                    refine lv_topi (fun x_56 ex_56 => ?_)
                    have b_x_56 : 0 ≤ x_56.toInt ∧ x_56.toInt ≤ 1024 := by rw [ex_56]; exact zi_andL rfl (by first | with_reducible assumption | omega) (by first | with_reducible assumption | omega)
                    refine lv_ior hx hb dX9_hear_226 ?_
                    refine lv_topi (fun x_57 ex_57 => ?_)
                    refine va_put (D := (dC, dI)) (ci := 3) (v := .int x_57) (ty := .int) (C := RX3) (T := TX3) (N := 6) hx hb hts zl_X3 tyX3 tyX3_ok nmX3 hown hK hP hD hS 1 rfl rfl 4 (by decide) (hts _ zw_t1_165) (fun _ h9 => h9) rfl (by decide +kernel) rfl rfl (Nat.le_of_ble_eq_true rfl) dX9_hear_227 (fun H locs hP hD hS => ?_)
                    have hP : va_P (dC, dI) vwCl (zV63 h0 tp h0_tapeLength h0_faultKind h0_faultPlace nw im sl rd wk fm mt ch dy nw nw_isKept tn nw_strayed nw_names x_57 nw_gone tn tn_hours tn_courts tn_gateCount tn_people tn_lines tn_falseHours tn_strayers tn_deep tn_above tn_doors tn_degrees tn_neighbours tn_shows tn_oneEnd tn_otherEnd tn_told tn_strayParts tn_strayCourts tn_shows cA_tn_shows f_tn_shows tn_told cA_tn_told f_tn_told tn_strayCourts cA_tn_strayCourts f_tn_strayCourts) H := hP
                    have hD : va_D A (zV63 h0 tp h0_tapeLength h0_faultKind h0_faultPlace nw im sl rd wk fm mt ch dy nw nw_isKept tn nw_strayed nw_names x_57 nw_gone tn tn_hours tn_courts tn_gateCount tn_people tn_lines tn_falseHours tn_strayers tn_deep tn_above tn_doors tn_degrees tn_neighbours tn_shows tn_oneEnd tn_otherEnd tn_told tn_strayParts tn_strayCourts tn_shows cA_tn_shows f_tn_shows tn_told cA_tn_told f_tn_told tn_strayCourts cA_tn_strayCourts f_tn_strayCourts) := hD
                    refine lv_iload hx hb dX9_hear_230 (lv_at hl 1 rfl) ?_
                    refine lv_if_eq (tgt := 249) hx hb dX9_hear_232 (by decide) (fun _ => ?_) (fun q => absurd q (by decide))
                    refine lv_iconst (v := 1) hx hb dX9_hear_249 (by decide) ?_
                    exact W.iret (v := 1) hx hb hr (fun t ht hW => by rw [← hQe]; exact ⟨⟨1, (), rfl, (by decide), ⟨x_57, nw_gone, z_ret hP hK hD ht hW [0, 1, 2, 3, 4, 5] [] rfl (by decide) rfl⟩⟩, hS.F ht⟩) hS.2.2 dX9_hear_250
                · have ic_52 := zz_nne rfl rfl c_52
                  refine lv_iconst (v := 1) hx hb dX9_hear_149 (by decide) ?_
                  refine lv_goto (tgt := 154) hx hb dX9_hear_150 (by decide) ?_
                  refine lv_istore (lv' := [(9, .int 1), (8, .int 1), (7, .int 1), (6, .int x_7), (5, .ref tn), (0, .ref h0), (1, .int p1), (2, .int p2), (3, .int p3), (4, .int p4)]) hx hb dX9_hear_154 hl (by decide) rfl (fun ls hl => ?_)
                  refine lv_iload hx hb dX9_hear_156 (lv_at hl 1 rfl) ?_
                  refine lv_if_eq (tgt := 182) hx hb dX9_hear_158 (by decide) (fun q => absurd q (by decide)) (fun _ => ?_)
                  refine lv_aload hx hb dX9_hear_161 (lv_at hl 4 rfl) ?_
                  refine lv_iload_n hx hb dX9_hear_163 rfl (lv_at hl 6 rfl) ?_
                  refine lv_iload_n hx hb dX9_hear_164 rfl (lv_at hl 8 rfl) ?_
                  refine lv_iconst (v := 0) hx hb dX9_hear_165 (by decide) ?_
                  obtain ⟨hPc, hDc, hFc⟩ := z_cut (wc := (zV3 tn tn_hours tn_courts tn_gateCount tn_people tn_lines tn_falseHours tn_strayers tn_deep tn_above tn_doors tn_degrees tn_neighbours tn_shows tn_oneEnd tn_otherEnd tn_told tn_strayParts tn_strayCourts tn_shows cA_tn_shows f_tn_shows tn_told cA_tn_told f_tn_told tn_strayCourts cA_tn_strayCourts f_tn_strayCourts)) hP hD hS hA [2, 3, 4, 5] rfl (by decide +kernel)
                  have hKc := hK.sub (tys' := [(cA_tn_shows, .int), (cA_tn_told, .int), (cA_tn_strayCourts, .int)]) [0, 1, 2] rfl
                  refine va_calli (va_runV (As := [.int p1, .int p3, .int 0]) (rest := []) ⟨hx, hb, hml, hown, hts⟩ (k_X7_showsOf l sa dC dI tn p1 p3 (0) tn_hours tn_courts tn_gateCount tn_people tn_lines tn_falseHours tn_strayers tn_deep tn_above tn_doors tn_degrees tn_neighbours tn_shows tn_oneEnd tn_otherEnd tn_told tn_strayParts tn_strayCourts cA_tn_shows f_tn_shows cA_tn_told f_tn_told cA_tn_strayCourts f_tn_strayCourts (by first | with_reducible assumption | omega) (by first | with_reducible assumption | omega) b_tn_hours b_tn_courts b_tn_gateCount b_tn_people b_tn_falseHours b_tn_deep b_f_tn_told b_f_tn_strayCourts H.size) (cwV 3 hts (z_gV zw_t5_133 zw_t3_206 zw_t3_207 zw_t1_3 zw_t3_208) rfl rfl rfl (by decide +kernel) (by rw [← hRe]; exact ⟨(Nat.le_of_ble_eq_true rfl), (Nat.le_of_ble_eq_true rfl)⟩)) (z_preV hPc hKc hDc hN hXs hS hFc (q := (RX7, TX7, 18)) (ci := 7) (q0 := 0) rfl rfl) rfl rfl hl.1 rfl (lv_room (Nat.le_of_ble_eq_true rfl)) dX9_hear_166 (by rw [← hRe]; exact ⟨(Nat.le_of_ble_eq_true rfl), (Nat.le_of_ble_eq_true rfl)⟩)) hS (fun q _ h => hFc q h) hFc (fun r_58 u t H1 locs ht hvm hw hB hz1 hk1 hS => ?_)
                  obtain ⟨hP, hD, hK⟩ := z_after3 (wn := (zV63 h0 tp h0_tapeLength h0_faultKind h0_faultPlace nw im sl rd wk fm mt ch dy nw nw_isKept tn nw_strayed nw_names nw_known nw_gone tn tn_hours tn_courts tn_gateCount tn_people tn_lines tn_falseHours tn_strayers tn_deep tn_above tn_doors tn_degrees tn_neighbours tn_shows tn_oneEnd tn_otherEnd tn_told tn_strayParts tn_strayCourts tn_shows cA_tn_shows f_tn_shows tn_told cA_tn_told f_tn_told tn_strayCourts cA_tn_strayCourts f_tn_strayCourts)) hB ht hvm hP hD hK [2, 3, 4, 5] [0, 1] rfl 6 rfl (by decide +kernel) rfl (by decide +kernel) hk1 hFc
                  generalize H1 = H at hP hS ⊢
                  have hK : va_K (dC, dI) vwCl [(cA_tn_shows, .int), (cA_tn_told, .int), (cA_tn_strayCourts, .int)] s := hK
                  refine lv_iload_n hx hb dX9_hear_169 rfl (lv_at hl 7 rfl) ?_
                  obtain ⟨hPc, hDc, hFc⟩ := z_cut (wc := []) hP hD hS hA [] rfl (by decide +kernel)
                  have hKc := hK.sub (tys' := []) [] rfl
                  refine va_calli (va_runS (As := [.int r_58, .int p2]) (rest := []) ⟨hx, hb, hml, hown, hts⟩ (k_X9_has l sa dC dI r_58 p2 H.size) (va_cwS 2 hts (z_gS zw_t4_12 zw_t3_123 zw_t1_1 zw_t3_124) rfl rfl rfl (by decide +kernel) (by rw [← hRe]; exact ⟨(Nat.le_of_ble_eq_true rfl), (Nat.le_of_ble_eq_true rfl)⟩)) (z_preS hPc hKc hDc hN hXs hS hFc) rfl rfl hl.1 rfl (lv_room (Nat.le_of_ble_eq_true rfl)) dX9_hear_170 (by rw [← hRe]; exact ⟨(Nat.le_of_ble_eq_true rfl), (Nat.le_of_ble_eq_true rfl)⟩)) hS (fun q _ h => hFc q h) hFc (fun r_59 u t H1 locs ht hvm hw hB hz1 hk1 hS => ?_)
                  obtain ⟨hP, hD, hK⟩ := z_after3 (wn := (zV63 h0 tp h0_tapeLength h0_faultKind h0_faultPlace nw im sl rd wk fm mt ch dy nw nw_isKept tn nw_strayed nw_names nw_known nw_gone tn tn_hours tn_courts tn_gateCount tn_people tn_lines tn_falseHours tn_strayers tn_deep tn_above tn_doors tn_degrees tn_neighbours tn_shows tn_oneEnd tn_otherEnd tn_told tn_strayParts tn_strayCourts tn_shows cA_tn_shows f_tn_shows tn_told cA_tn_told f_tn_told tn_strayCourts cA_tn_strayCourts f_tn_strayCourts)) hB ht hvm hP hD hK [] [0, 1, 2, 3, 4, 5] rfl 6 rfl (by decide +kernel) rfl (by decide +kernel) hk1 hFc
                  generalize H1 = H at hP hS ⊢
                  have hK : va_K (dC, dI) vwCl [(cA_tn_shows, .int), (cA_tn_told, .int), (cA_tn_strayCourts, .int)] s := hK
                  have b_r_59 : 0 ≤ r_59.toInt ∧ r_59.toInt ≤ 1 := hw
                  refine lv_iload hx hb dX9_hear_173 (lv_at hl 9 rfl) ?_
                  refine lv_icmp_ne (tgt := 182) hx hb dX9_hear_175 (by decide) (fun c_60 => ?_) (fun c_60 => ?_)
                  · have ic_60 := zz_ne rfl rfl c_60
                    refine lv_iconst (v := 0) hx hb dX9_hear_182 (by decide) ?_
                    refine lv_istore (lv' := [(10, .int 0), (9, .int 1), (8, .int 1), (7, .int 1), (6, .int x_7), (5, .ref tn), (0, .ref h0), (1, .int p1), (2, .int p2), (3, .int p3), (4, .int p4)]) hx hb dX9_hear_183 hl (by decide) rfl (fun ls hl => ?_)
                    refine lv_iload hx hb dX9_hear_185 (lv_at hl 1 rfl) ?_
                    refine lv_if_ne (tgt := 198) hx hb dX9_hear_187 (by decide) (fun _ => ?_) (fun q => absurd q (by decide))
                    refine lv_iload hx hb dX9_hear_198 (lv_at hl 1 rfl) ?_
                    refine lv_if_eq (tgt := 210) hx hb dX9_hear_200 (by decide) (fun q => absurd q (by decide)) (fun _ => ?_)
                    refine lv_iload hx hb dX9_hear_203 (lv_at hl 0 rfl) ?_
                    refine lv_if_eq (tgt := 210) hx hb dX9_hear_205 (by decide) (fun _ => ?_) (fun q => absurd q (by decide))
                    refine lv_aload_n hx hb dX9_hear_210 rfl (lv_at hl 6 rfl) ?_
                    refine va_get (D := (dC, dI)) (ci := 9) (v := .ref nw) (C := RX9) (T := TX9) (N := 13) hx hb hts zl_X9 hown hK hP 0 rfl rfl 4 (by decide) (hts _ zw_t2_193) (fun _ h9 => h9) rfl dX9_hear_211 ?_
                    refine lv_dup hx hb dX9_hear_214 rfl ?_
                    refine va_get (D := (dC, dI)) (ci := 3) (v := .int nw_known) (C := RX3) (T := TX3) (N := 6) hx hb hts zl_X3 hown hK hP 1 rfl rfl 4 (by decide) (hts _ zw_t1_165) (fun _ h9 => h9) rfl dX9_hear_215 ?_
                    refine lv_iload hx hb dX9_hear_218 (lv_at hl 4 rfl) ?_
                    refine lv_aload hx hb dX9_hear_220 (lv_at hl 5 rfl) ?_
                    refine va_get (D := (dC, dI)) (ci := 7) (v := .int tn_strayers) (C := RX7) (T := TX7) (N := 18) hx hb hts zl_X7 hown hK hP 2 rfl rfl 6 (by decide) (hts _ zw_t1_74) (fun _ h9 => h9) rfl dX9_hear_222 ?_
                    refine lv_iand hx hb dX9_hear_225 ?_
                    refine lv_topi (fun x_61 ex_61 => ?_)
                    have b_x_61 : 0 ≤ x_61.toInt ∧ x_61.toInt ≤ 1024 := by rw [ex_61]; exact zi_andL rfl (by first | with_reducible assumption | omega) (by first | with_reducible assumption | omega)
                    refine lv_ior hx hb dX9_hear_226 ?_
                    refine lv_topi (fun x_62 ex_62 => ?_)
                    refine va_put (D := (dC, dI)) (ci := 3) (v := .int x_62) (ty := .int) (C := RX3) (T := TX3) (N := 6) hx hb hts zl_X3 tyX3 tyX3_ok nmX3 hown hK hP hD hS 1 rfl rfl 4 (by decide) (hts _ zw_t1_165) (fun _ h9 => h9) rfl (by decide +kernel) rfl rfl (Nat.le_of_ble_eq_true rfl) dX9_hear_227 (fun H locs hP hD hS => ?_)
                    have hP : va_P (dC, dI) vwCl (zV63 h0 tp h0_tapeLength h0_faultKind h0_faultPlace nw im sl rd wk fm mt ch dy nw nw_isKept tn nw_strayed nw_names x_62 nw_gone tn tn_hours tn_courts tn_gateCount tn_people tn_lines tn_falseHours tn_strayers tn_deep tn_above tn_doors tn_degrees tn_neighbours tn_shows tn_oneEnd tn_otherEnd tn_told tn_strayParts tn_strayCourts tn_shows cA_tn_shows f_tn_shows tn_told cA_tn_told f_tn_told tn_strayCourts cA_tn_strayCourts f_tn_strayCourts) H := hP
                    have hD : va_D A (zV63 h0 tp h0_tapeLength h0_faultKind h0_faultPlace nw im sl rd wk fm mt ch dy nw nw_isKept tn nw_strayed nw_names x_62 nw_gone tn tn_hours tn_courts tn_gateCount tn_people tn_lines tn_falseHours tn_strayers tn_deep tn_above tn_doors tn_degrees tn_neighbours tn_shows tn_oneEnd tn_otherEnd tn_told tn_strayParts tn_strayCourts tn_shows cA_tn_shows f_tn_shows tn_told cA_tn_told f_tn_told tn_strayCourts cA_tn_strayCourts f_tn_strayCourts) := hD
                    refine lv_iload hx hb dX9_hear_230 (lv_at hl 1 rfl) ?_
                    refine lv_if_eq (tgt := 249) hx hb dX9_hear_232 (by decide) (fun q => absurd q (by decide)) (fun _ => ?_)
                    refine lv_aload_n hx hb dX9_hear_235 rfl (lv_at hl 6 rfl) ?_
                    refine va_get (D := (dC, dI)) (ci := 9) (v := .ref nw) (C := RX9) (T := TX9) (N := 13) hx hb hts zl_X9 hown hK hP 0 rfl rfl 4 (by decide) (hts _ zw_t2_193) (fun _ h9 => h9) rfl dX9_hear_236 ?_
                    refine lv_dup hx hb dX9_hear_239 rfl ?_
                    refine va_get (D := (dC, dI)) (ci := 3) (v := .int nw_gone) (C := RX3) (T := TX3) (N := 6) hx hb hts zl_X3 hown hK hP 1 rfl rfl 5 (by decide) (hts _ zw_t1_168) (fun _ h9 => h9) rfl dX9_hear_240 ?_
                    refine lv_iload hx hb dX9_hear_243 (lv_at hl 4 rfl) ?_
                    refine lv_ior hx hb dX9_hear_245 ?_
                    refine lv_topi (fun x_63 ex_63 => ?_)
                    refine va_put (D := (dC, dI)) (ci := 3) (v := .int x_63) (ty := .int) (C := RX3) (T := TX3) (N := 6) hx hb hts zl_X3 tyX3 tyX3_ok nmX3 hown hK hP hD hS 1 rfl rfl 5 (by decide) (hts _ zw_t1_168) (fun _ h9 => h9) rfl (by decide +kernel) rfl rfl (Nat.le_of_ble_eq_true rfl) dX9_hear_246 (fun H locs hP hD hS => ?_)
                    have hP : va_P (dC, dI) vwCl (zV63 h0 tp h0_tapeLength h0_faultKind h0_faultPlace nw im sl rd wk fm mt ch dy nw nw_isKept tn nw_strayed nw_names x_62 x_63 tn tn_hours tn_courts tn_gateCount tn_people tn_lines tn_falseHours tn_strayers tn_deep tn_above tn_doors tn_degrees tn_neighbours tn_shows tn_oneEnd tn_otherEnd tn_told tn_strayParts tn_strayCourts tn_shows cA_tn_shows f_tn_shows tn_told cA_tn_told f_tn_told tn_strayCourts cA_tn_strayCourts f_tn_strayCourts) H := hP
                    have hD : va_D A (zV63 h0 tp h0_tapeLength h0_faultKind h0_faultPlace nw im sl rd wk fm mt ch dy nw nw_isKept tn nw_strayed nw_names x_62 x_63 tn tn_hours tn_courts tn_gateCount tn_people tn_lines tn_falseHours tn_strayers tn_deep tn_above tn_doors tn_degrees tn_neighbours tn_shows tn_oneEnd tn_otherEnd tn_told tn_strayParts tn_strayCourts tn_shows cA_tn_shows f_tn_shows tn_told cA_tn_told f_tn_told tn_strayCourts cA_tn_strayCourts f_tn_strayCourts) := hD
                    refine lv_iconst (v := 1) hx hb dX9_hear_249 (by decide) ?_
                    exact W.iret (v := 1) hx hb hr (fun t ht hW => by rw [← hQe]; exact ⟨⟨1, (), rfl, (by decide), ⟨x_62, x_63, z_ret hP hK hD ht hW [0, 1, 2, 3, 4, 5] [] rfl (by decide) rfl⟩⟩, hS.F ht⟩) hS.2.2 dX9_hear_250
                  · have ic_60 := zz_nne rfl rfl c_60
                    refine lv_iconst (v := 1) hx hb dX9_hear_178 (by decide) ?_
                    refine lv_goto (tgt := 183) hx hb dX9_hear_179 (by decide) ?_
                    refine lv_istore (lv' := [(10, .int 1), (9, .int 1), (8, .int 1), (7, .int 1), (6, .int x_7), (5, .ref tn), (0, .ref h0), (1, .int p1), (2, .int p2), (3, .int p3), (4, .int p4)]) hx hb dX9_hear_183 hl (by decide) rfl (fun ls hl => ?_)
                    refine lv_iload hx hb dX9_hear_185 (lv_at hl 1 rfl) ?_
                    refine lv_if_ne (tgt := 198) hx hb dX9_hear_187 (by decide) (fun _ => ?_) (fun q => absurd q (by decide))
                    refine lv_iload hx hb dX9_hear_198 (lv_at hl 1 rfl) ?_
                    refine lv_if_eq (tgt := 210) hx hb dX9_hear_200 (by decide) (fun q => absurd q (by decide)) (fun _ => ?_)
                    refine lv_iload hx hb dX9_hear_203 (lv_at hl 0 rfl) ?_
                    refine lv_if_eq (tgt := 210) hx hb dX9_hear_205 (by decide) (fun q => absurd q (by decide)) (fun _ => ?_)
                    refine lv_iconst (v := 0) hx hb dX9_hear_208 (by decide) ?_
                    exact W.iret (v := 0) hx hb hr (fun t ht hW => by rw [← hQe]; exact ⟨⟨0, (), rfl, (by decide), ⟨nw_known, nw_gone, z_ret hP hK hD ht hW [0, 1, 2, 3, 4, 5] [] rfl (by decide) rfl⟩⟩, hS.F ht⟩) hS.2.2 dX9_hear_209
          · have ic_25 := zz_neq rfl (show Int32.toInt 0 = 0 from by decide) c_25
            refine lv_aload_n hx hb dX9_hear_70 rfl (lv_at hl 2 rfl) ?_
            refine va_get (D := (dC, dI)) (ci := 9) (v := .ref nw) (C := RX9) (T := TX9) (N := 13) hx hb hts zl_X9 hown hK hP 0 rfl rfl 4 (by decide) (hts _ zw_t2_193) (fun _ h9 => h9) rfl dX9_hear_71 ?_
            refine va_get (D := (dC, dI)) (ci := 3) (v := .int nw_gone) (C := RX3) (T := TX3) (N := 6) hx hb hts zl_X3 hown hK hP 1 rfl rfl 5 (by decide) (hts _ zw_t1_168) (fun _ h9 => h9) rfl dX9_hear_74 ?_
            refine lv_iload_n hx hb dX9_hear_77 rfl (lv_at hl 3 rfl) ?_
            obtain ⟨hPc, hDc, hFc⟩ := z_cut (wc := []) hP hD hS hA [] rfl (by decide +kernel)
            have hKc := hK.sub (tys' := []) [] rfl
            refine va_calli (va_runS (As := [.int nw_gone, .int p1]) (rest := []) ⟨hx, hb, hml, hown, hts⟩ (k_X9_has l sa dC dI nw_gone p1 H.size) (va_cwS 2 hts (z_gS zw_t4_12 zw_t3_123 zw_t1_1 zw_t3_124) rfl rfl rfl (by decide +kernel) (by rw [← hRe]; exact ⟨(Nat.le_of_ble_eq_true rfl), (Nat.le_of_ble_eq_true rfl)⟩)) (z_preS hPc hKc hDc hN hXs hS hFc) rfl rfl hl.1 rfl (lv_room (Nat.le_of_ble_eq_true rfl)) dX9_hear_78 (by rw [← hRe]; exact ⟨(Nat.le_of_ble_eq_true rfl), (Nat.le_of_ble_eq_true rfl)⟩)) hS (fun q _ h => hFc q h) hFc (fun r_64 u t H1 locs ht hvm hw hB hz1 hk1 hS => ?_)
            obtain ⟨hP, hD, hK⟩ := z_after3 (wn := (zV64 h0 tp h0_tapeLength h0_faultKind h0_faultPlace nw im sl rd wk fm mt ch dy nw nw_isKept tn nw_strayed nw_names nw_known nw_gone tn_shows cA_tn_shows f_tn_shows tn_told cA_tn_told f_tn_told tn_strayCourts cA_tn_strayCourts f_tn_strayCourts tn tn_hours tn_courts tn_gateCount tn_people tn_lines tn_falseHours tn_strayers tn_deep tn_above tn_doors tn_degrees tn_neighbours tn_shows tn_oneEnd tn_otherEnd tn_told tn_strayParts tn_strayCourts)) hB ht hvm hP hD hK [] [0, 1, 2, 3, 4, 5] rfl 6 rfl (by decide +kernel) rfl (by decide +kernel) hk1 hFc
            generalize H1 = H at hP hS ⊢
            have hK : va_K (dC, dI) vwCl [(cA_tn_shows, .int), (cA_tn_told, .int), (cA_tn_strayCourts, .int)] s := hK
            have b_r_64 : 0 ≤ r_64.toInt ∧ r_64.toInt ≤ 1 := hw
            refine lv_if_eq (tgt := 88) hx hb dX9_hear_81 (by decide) (fun c_65 => ?_) (fun c_65 => ?_)
            · have ic_65 := zz_eq rfl (show Int32.toInt 0 = 0 from by decide) c_65
              refine lv_iconst (v := 0) hx hb dX9_hear_88 (by decide) ?_
              refine lv_istore (lv' := [(7, .int 0), (6, .int x_7), (5, .ref tn), (0, .ref h0), (1, .int p1), (2, .int p2), (3, .int p3), (4, .int p4)]) hx hb dX9_hear_89 hl (by decide) rfl (fun ls hl => ?_)
              refine lv_aload_n hx hb dX9_hear_91 rfl (lv_at hl 3 rfl) ?_
              refine va_get (D := (dC, dI)) (ci := 9) (v := .ref nw) (C := RX9) (T := TX9) (N := 13) hx hb hts zl_X9 hown hK hP 0 rfl rfl 4 (by decide) (hts _ zw_t2_193) (fun _ h9 => h9) rfl dX9_hear_92 ?_
              refine va_get (D := (dC, dI)) (ci := 3) (v := .int nw_known) (C := RX3) (T := TX3) (N := 6) hx hb hts zl_X3 hown hK hP 1 rfl rfl 4 (by decide) (hts _ zw_t1_165) (fun _ h9 => h9) rfl dX9_hear_95 ?_
              refine lv_iload_n hx hb dX9_hear_98 rfl (lv_at hl 4 rfl) ?_
              obtain ⟨hPc, hDc, hFc⟩ := z_cut (wc := []) hP hD hS hA [] rfl (by decide +kernel)
              have hKc := hK.sub (tys' := []) [] rfl
              refine va_calli (va_runS (As := [.int nw_known, .int p1]) (rest := []) ⟨hx, hb, hml, hown, hts⟩ (k_X9_has l sa dC dI nw_known p1 H.size) (va_cwS 2 hts (z_gS zw_t4_12 zw_t3_123 zw_t1_1 zw_t3_124) rfl rfl rfl (by decide +kernel) (by rw [← hRe]; exact ⟨(Nat.le_of_ble_eq_true rfl), (Nat.le_of_ble_eq_true rfl)⟩)) (z_preS hPc hKc hDc hN hXs hS hFc) rfl rfl hl.1 rfl (lv_room (Nat.le_of_ble_eq_true rfl)) dX9_hear_99 (by rw [← hRe]; exact ⟨(Nat.le_of_ble_eq_true rfl), (Nat.le_of_ble_eq_true rfl)⟩)) hS (fun q _ h => hFc q h) hFc (fun r_66 u t H1 locs ht hvm hw hB hz1 hk1 hS => ?_)
              obtain ⟨hP, hD, hK⟩ := z_after3 (wn := (zV64 h0 tp h0_tapeLength h0_faultKind h0_faultPlace nw im sl rd wk fm mt ch dy nw nw_isKept tn nw_strayed nw_names nw_known nw_gone tn_shows cA_tn_shows f_tn_shows tn_told cA_tn_told f_tn_told tn_strayCourts cA_tn_strayCourts f_tn_strayCourts tn tn_hours tn_courts tn_gateCount tn_people tn_lines tn_falseHours tn_strayers tn_deep tn_above tn_doors tn_degrees tn_neighbours tn_shows tn_oneEnd tn_otherEnd tn_told tn_strayParts tn_strayCourts)) hB ht hvm hP hD hK [] [0, 1, 2, 3, 4, 5] rfl 6 rfl (by decide +kernel) rfl (by decide +kernel) hk1 hFc
              generalize H1 = H at hP hS ⊢
              have hK : va_K (dC, dI) vwCl [(cA_tn_shows, .int), (cA_tn_told, .int), (cA_tn_strayCourts, .int)] s := hK
              have b_r_66 : 0 ≤ r_66.toInt ∧ r_66.toInt ≤ 1 := hw
              refine lv_if_eq (tgt := 119) hx hb dX9_hear_102 (by decide) (fun c_67 => ?_) (fun c_67 => ?_)
              · have ic_67 := zz_eq rfl (show Int32.toInt 0 = 0 from by decide) c_67
                refine lv_iconst (v := 1) hx hb dX9_hear_119 (by decide) ?_
                refine lv_goto (tgt := 124) hx hb dX9_hear_120 (by decide) ?_
                refine lv_istore (lv' := [(8, .int 1), (7, .int 0), (6, .int x_7), (5, .ref tn), (0, .ref h0), (1, .int p1), (2, .int p2), (3, .int p3), (4, .int p4)]) hx hb dX9_hear_124 hl (by decide) rfl (fun ls hl => ?_)
                refine lv_iload hx hb dX9_hear_126 (lv_at hl 1 rfl) ?_
                refine lv_if_eq (tgt := 153) hx hb dX9_hear_128 (by decide) (fun _ => ?_) (fun q => absurd q (by decide))
                refine lv_iconst (v := 0) hx hb dX9_hear_153 (by decide) ?_
                refine lv_istore (lv' := [(9, .int 0), (8, .int 1), (7, .int 0), (6, .int x_7), (5, .ref tn), (0, .ref h0), (1, .int p1), (2, .int p2), (3, .int p3), (4, .int p4)]) hx hb dX9_hear_154 hl (by decide) rfl (fun ls hl => ?_)
                refine lv_iload hx hb dX9_hear_156 (lv_at hl 1 rfl) ?_
                refine lv_if_eq (tgt := 182) hx hb dX9_hear_158 (by decide) (fun q => absurd q (by decide)) (fun _ => ?_)
                refine lv_aload hx hb dX9_hear_161 (lv_at hl 4 rfl) ?_
                refine lv_iload_n hx hb dX9_hear_163 rfl (lv_at hl 6 rfl) ?_
                refine lv_iload_n hx hb dX9_hear_164 rfl (lv_at hl 8 rfl) ?_
                refine lv_iconst (v := 0) hx hb dX9_hear_165 (by decide) ?_
                obtain ⟨hPc, hDc, hFc⟩ := z_cut (wc := (zV3 tn tn_hours tn_courts tn_gateCount tn_people tn_lines tn_falseHours tn_strayers tn_deep tn_above tn_doors tn_degrees tn_neighbours tn_shows tn_oneEnd tn_otherEnd tn_told tn_strayParts tn_strayCourts tn_shows cA_tn_shows f_tn_shows tn_told cA_tn_told f_tn_told tn_strayCourts cA_tn_strayCourts f_tn_strayCourts)) hP hD hS hA [5, 2, 3, 4] rfl (by decide +kernel)
                have hKc := hK.sub (tys' := [(cA_tn_shows, .int), (cA_tn_told, .int), (cA_tn_strayCourts, .int)]) [0, 1, 2] rfl
                refine va_calli (va_runV (As := [.int p1, .int p3, .int 0]) (rest := []) ⟨hx, hb, hml, hown, hts⟩ (k_X7_showsOf l sa dC dI tn p1 p3 (0) tn_hours tn_courts tn_gateCount tn_people tn_lines tn_falseHours tn_strayers tn_deep tn_above tn_doors tn_degrees tn_neighbours tn_shows tn_oneEnd tn_otherEnd tn_told tn_strayParts tn_strayCourts cA_tn_shows f_tn_shows cA_tn_told f_tn_told cA_tn_strayCourts f_tn_strayCourts (by first | with_reducible assumption | omega) (by first | with_reducible assumption | omega) b_tn_hours b_tn_courts b_tn_gateCount b_tn_people b_tn_falseHours b_tn_deep b_f_tn_told b_f_tn_strayCourts H.size) (cwV 3 hts (z_gV zw_t5_133 zw_t3_206 zw_t3_207 zw_t1_3 zw_t3_208) rfl rfl rfl (by decide +kernel) (by rw [← hRe]; exact ⟨(Nat.le_of_ble_eq_true rfl), (Nat.le_of_ble_eq_true rfl)⟩)) (z_preV hPc hKc hDc hN hXs hS hFc (q := (RX7, TX7, 18)) (ci := 7) (q0 := 0) rfl rfl) rfl rfl hl.1 rfl (lv_room (Nat.le_of_ble_eq_true rfl)) dX9_hear_166 (by rw [← hRe]; exact ⟨(Nat.le_of_ble_eq_true rfl), (Nat.le_of_ble_eq_true rfl)⟩)) hS (fun q _ h => hFc q h) hFc (fun r_68 u t H1 locs ht hvm hw hB hz1 hk1 hS => ?_)
                obtain ⟨hP, hD, hK⟩ := z_after3 (wn := (zV63 h0 tp h0_tapeLength h0_faultKind h0_faultPlace nw im sl rd wk fm mt ch dy nw nw_isKept tn nw_strayed nw_names nw_known nw_gone tn tn_hours tn_courts tn_gateCount tn_people tn_lines tn_falseHours tn_strayers tn_deep tn_above tn_doors tn_degrees tn_neighbours tn_shows tn_oneEnd tn_otherEnd tn_told tn_strayParts tn_strayCourts tn_shows cA_tn_shows f_tn_shows tn_told cA_tn_told f_tn_told tn_strayCourts cA_tn_strayCourts f_tn_strayCourts)) hB ht hvm hP hD hK [5, 2, 3, 4] [0, 1] rfl 6 rfl (by decide +kernel) rfl (by decide +kernel) hk1 hFc
                generalize H1 = H at hP hS ⊢
                have hK : va_K (dC, dI) vwCl [(cA_tn_shows, .int), (cA_tn_told, .int), (cA_tn_strayCourts, .int)] s := hK
                refine lv_iload_n hx hb dX9_hear_169 rfl (lv_at hl 7 rfl) ?_
                obtain ⟨hPc, hDc, hFc⟩ := z_cut (wc := []) hP hD hS hA [] rfl (by decide +kernel)
                have hKc := hK.sub (tys' := []) [] rfl
                refine va_calli (va_runS (As := [.int r_68, .int p2]) (rest := []) ⟨hx, hb, hml, hown, hts⟩ (k_X9_has l sa dC dI r_68 p2 H.size) (va_cwS 2 hts (z_gS zw_t4_12 zw_t3_123 zw_t1_1 zw_t3_124) rfl rfl rfl (by decide +kernel) (by rw [← hRe]; exact ⟨(Nat.le_of_ble_eq_true rfl), (Nat.le_of_ble_eq_true rfl)⟩)) (z_preS hPc hKc hDc hN hXs hS hFc) rfl rfl hl.1 rfl (lv_room (Nat.le_of_ble_eq_true rfl)) dX9_hear_170 (by rw [← hRe]; exact ⟨(Nat.le_of_ble_eq_true rfl), (Nat.le_of_ble_eq_true rfl)⟩)) hS (fun q _ h => hFc q h) hFc (fun r_69 u t H1 locs ht hvm hw hB hz1 hk1 hS => ?_)
                obtain ⟨hP, hD, hK⟩ := z_after3 (wn := (zV63 h0 tp h0_tapeLength h0_faultKind h0_faultPlace nw im sl rd wk fm mt ch dy nw nw_isKept tn nw_strayed nw_names nw_known nw_gone tn tn_hours tn_courts tn_gateCount tn_people tn_lines tn_falseHours tn_strayers tn_deep tn_above tn_doors tn_degrees tn_neighbours tn_shows tn_oneEnd tn_otherEnd tn_told tn_strayParts tn_strayCourts tn_shows cA_tn_shows f_tn_shows tn_told cA_tn_told f_tn_told tn_strayCourts cA_tn_strayCourts f_tn_strayCourts)) hB ht hvm hP hD hK [] [0, 1, 2, 3, 4, 5] rfl 6 rfl (by decide +kernel) rfl (by decide +kernel) hk1 hFc
                generalize H1 = H at hP hS ⊢
                have hK : va_K (dC, dI) vwCl [(cA_tn_shows, .int), (cA_tn_told, .int), (cA_tn_strayCourts, .int)] s := hK
                have b_r_69 : 0 ≤ r_69.toInt ∧ r_69.toInt ≤ 1 := hw
                refine lv_iload hx hb dX9_hear_173 (lv_at hl 9 rfl) ?_
                have nb_p4 := zi_nb p4
                refine lv_icmp_ne (tgt := 182) hx hb dX9_hear_175 (by decide) (fun c_70 => ?_) (fun c_70 => ?_)
                · have ic_70 := zz_ne rfl rfl c_70
                  refine lv_iconst (v := 0) hx hb dX9_hear_182 (by decide) ?_
                  refine lv_istore (lv' := [(10, .int 0), (9, .int 0), (8, .int 1), (7, .int 0), (6, .int x_7), (5, .ref tn), (0, .ref h0), (1, .int p1), (2, .int p2), (3, .int p3), (4, .int p4)]) hx hb dX9_hear_183 hl (by decide) rfl (fun ls hl => ?_)
                  refine lv_iload hx hb dX9_hear_185 (lv_at hl 1 rfl) ?_
                  refine lv_if_ne (tgt := 198) hx hb dX9_hear_187 (by decide) (fun q => absurd q (by decide)) (fun _ => ?_)
                  refine lv_iload hx hb dX9_hear_190 (lv_at hl 0 rfl) ?_
                  refine lv_if_ne (tgt := 198) hx hb dX9_hear_192 (by decide) (fun q => absurd q (by decide)) (fun _ => ?_)
                  refine lv_bipush (v := (-5)) hx hb dX9_hear_195 (by decide) ?_
                  exact W.iret (v := (-5)) hx hb hr (fun t ht hW => by rw [← hQe]; exact ⟨⟨(-5), (), rfl, (by decide), ⟨nw_known, nw_gone, z_ret hP hK hD ht hW [0, 1, 2, 3, 4, 5] [] rfl (by decide) rfl⟩⟩, hS.F ht⟩) hS.2.2 dX9_hear_197
                · have ic_70 := zz_nne rfl rfl c_70
                  refine lv_iconst (v := 1) hx hb dX9_hear_178 (by decide) ?_
                  refine lv_goto (tgt := 183) hx hb dX9_hear_179 (by decide) ?_
                  refine lv_istore (lv' := [(10, .int 1), (9, .int 0), (8, .int 1), (7, .int 0), (6, .int x_7), (5, .ref tn), (0, .ref h0), (1, .int p1), (2, .int p2), (3, .int p3), (4, .int p4)]) hx hb dX9_hear_183 hl (by decide) rfl (fun ls hl => ?_)
                  refine lv_iload hx hb dX9_hear_185 (lv_at hl 1 rfl) ?_
                  refine lv_if_ne (tgt := 198) hx hb dX9_hear_187 (by decide) (fun q => absurd q (by decide)) (fun _ => ?_)
                  refine lv_iload hx hb dX9_hear_190 (lv_at hl 0 rfl) ?_
                  refine lv_if_ne (tgt := 198) hx hb dX9_hear_192 (by decide) (fun _ => ?_) (fun q => absurd q (by decide))
                  refine lv_iload hx hb dX9_hear_198 (lv_at hl 1 rfl) ?_
                  refine lv_if_eq (tgt := 210) hx hb dX9_hear_200 (by decide) (fun _ => ?_) (fun q => absurd q (by decide))
                  refine lv_aload_n hx hb dX9_hear_210 rfl (lv_at hl 6 rfl) ?_
                  refine va_get (D := (dC, dI)) (ci := 9) (v := .ref nw) (C := RX9) (T := TX9) (N := 13) hx hb hts zl_X9 hown hK hP 0 rfl rfl 4 (by decide) (hts _ zw_t2_193) (fun _ h9 => h9) rfl dX9_hear_211 ?_
                  refine lv_dup hx hb dX9_hear_214 rfl ?_
                  refine va_get (D := (dC, dI)) (ci := 3) (v := .int nw_known) (C := RX3) (T := TX3) (N := 6) hx hb hts zl_X3 hown hK hP 1 rfl rfl 4 (by decide) (hts _ zw_t1_165) (fun _ h9 => h9) rfl dX9_hear_215 ?_
                  refine lv_iload hx hb dX9_hear_218 (lv_at hl 4 rfl) ?_
                  refine lv_aload hx hb dX9_hear_220 (lv_at hl 5 rfl) ?_
                  refine va_get (D := (dC, dI)) (ci := 7) (v := .int tn_strayers) (C := RX7) (T := TX7) (N := 18) hx hb hts zl_X7 hown hK hP 2 rfl rfl 6 (by decide) (hts _ zw_t1_74) (fun _ h9 => h9) rfl dX9_hear_222 ?_
                  refine lv_iand hx hb dX9_hear_225 ?_
                  refine lv_topi (fun x_71 ex_71 => ?_)
                  have b_x_71 : 0 ≤ x_71.toInt ∧ x_71.toInt ≤ 1024 := by rw [ex_71]; exact zi_andL rfl (by first | with_reducible assumption | omega) (by first | with_reducible assumption | omega)
                  refine lv_ior hx hb dX9_hear_226 ?_
                  refine lv_topi (fun x_72 ex_72 => ?_)
                  refine va_put (D := (dC, dI)) (ci := 3) (v := .int x_72) (ty := .int) (C := RX3) (T := TX3) (N := 6) hx hb hts zl_X3 tyX3 tyX3_ok nmX3 hown hK hP hD hS 1 rfl rfl 4 (by decide) (hts _ zw_t1_165) (fun _ h9 => h9) rfl (by decide +kernel) rfl rfl (Nat.le_of_ble_eq_true rfl) dX9_hear_227 (fun H locs hP hD hS => ?_)
                  have hP : va_P (dC, dI) vwCl (zV63 h0 tp h0_tapeLength h0_faultKind h0_faultPlace nw im sl rd wk fm mt ch dy nw nw_isKept tn nw_strayed nw_names x_72 nw_gone tn tn_hours tn_courts tn_gateCount tn_people tn_lines tn_falseHours tn_strayers tn_deep tn_above tn_doors tn_degrees tn_neighbours tn_shows tn_oneEnd tn_otherEnd tn_told tn_strayParts tn_strayCourts tn_shows cA_tn_shows f_tn_shows tn_told cA_tn_told f_tn_told tn_strayCourts cA_tn_strayCourts f_tn_strayCourts) H := hP
                  have hD : va_D A (zV63 h0 tp h0_tapeLength h0_faultKind h0_faultPlace nw im sl rd wk fm mt ch dy nw nw_isKept tn nw_strayed nw_names x_72 nw_gone tn tn_hours tn_courts tn_gateCount tn_people tn_lines tn_falseHours tn_strayers tn_deep tn_above tn_doors tn_degrees tn_neighbours tn_shows tn_oneEnd tn_otherEnd tn_told tn_strayParts tn_strayCourts tn_shows cA_tn_shows f_tn_shows tn_told cA_tn_told f_tn_told tn_strayCourts cA_tn_strayCourts f_tn_strayCourts) := hD
                  refine lv_iload hx hb dX9_hear_230 (lv_at hl 1 rfl) ?_
                  refine lv_if_eq (tgt := 249) hx hb dX9_hear_232 (by decide) (fun _ => ?_) (fun q => absurd q (by decide))
                  refine lv_iconst (v := 1) hx hb dX9_hear_249 (by decide) ?_
                  exact W.iret (v := 1) hx hb hr (fun t ht hW => by rw [← hQe]; exact ⟨⟨1, (), rfl, (by decide), ⟨x_72, nw_gone, z_ret hP hK hD ht hW [0, 1, 2, 3, 4, 5] [] rfl (by decide) rfl⟩⟩, hS.F ht⟩) hS.2.2 dX9_hear_250
              · have ic_67 := zz_neq rfl (show Int32.toInt 0 = 0 from by decide) c_67
                refine lv_aload_n hx hb dX9_hear_105 rfl (lv_at hl 3 rfl) ?_
                refine va_get (D := (dC, dI)) (ci := 9) (v := .ref nw) (C := RX9) (T := TX9) (N := 13) hx hb hts zl_X9 hown hK hP 0 rfl rfl 4 (by decide) (hts _ zw_t2_193) (fun _ h9 => h9) rfl dX9_hear_106 ?_
                refine va_get (D := (dC, dI)) (ci := 3) (v := .int nw_gone) (C := RX3) (T := TX3) (N := 6) hx hb hts zl_X3 hown hK hP 1 rfl rfl 5 (by decide) (hts _ zw_t1_168) (fun _ h9 => h9) rfl dX9_hear_109 ?_
                refine lv_iload_n hx hb dX9_hear_112 rfl (lv_at hl 4 rfl) ?_
                obtain ⟨hPc, hDc, hFc⟩ := z_cut (wc := []) hP hD hS hA [] rfl (by decide +kernel)
                have hKc := hK.sub (tys' := []) [] rfl
                refine va_calli (va_runS (As := [.int nw_gone, .int p1]) (rest := []) ⟨hx, hb, hml, hown, hts⟩ (k_X9_has l sa dC dI nw_gone p1 H.size) (va_cwS 2 hts (z_gS zw_t4_12 zw_t3_123 zw_t1_1 zw_t3_124) rfl rfl rfl (by decide +kernel) (by rw [← hRe]; exact ⟨(Nat.le_of_ble_eq_true rfl), (Nat.le_of_ble_eq_true rfl)⟩)) (z_preS hPc hKc hDc hN hXs hS hFc) rfl rfl hl.1 rfl (lv_room (Nat.le_of_ble_eq_true rfl)) dX9_hear_113 (by rw [← hRe]; exact ⟨(Nat.le_of_ble_eq_true rfl), (Nat.le_of_ble_eq_true rfl)⟩)) hS (fun q _ h => hFc q h) hFc (fun r_73 u t H1 locs ht hvm hw hB hz1 hk1 hS => ?_)
                obtain ⟨hP, hD, hK⟩ := z_after3 (wn := (zV64 h0 tp h0_tapeLength h0_faultKind h0_faultPlace nw im sl rd wk fm mt ch dy nw nw_isKept tn nw_strayed nw_names nw_known nw_gone tn_shows cA_tn_shows f_tn_shows tn_told cA_tn_told f_tn_told tn_strayCourts cA_tn_strayCourts f_tn_strayCourts tn tn_hours tn_courts tn_gateCount tn_people tn_lines tn_falseHours tn_strayers tn_deep tn_above tn_doors tn_degrees tn_neighbours tn_shows tn_oneEnd tn_otherEnd tn_told tn_strayParts tn_strayCourts)) hB ht hvm hP hD hK [] [0, 1, 2, 3, 4, 5] rfl 6 rfl (by decide +kernel) rfl (by decide +kernel) hk1 hFc
                generalize H1 = H at hP hS ⊢
                have hK : va_K (dC, dI) vwCl [(cA_tn_shows, .int), (cA_tn_told, .int), (cA_tn_strayCourts, .int)] s := hK
                have b_r_73 : 0 ≤ r_73.toInt ∧ r_73.toInt ≤ 1 := hw
                refine lv_if_ne (tgt := 123) hx hb dX9_hear_116 (by decide) (fun c_74 => ?_) (fun c_74 => ?_)
                · have ic_74 := zz_ne rfl (show Int32.toInt 0 = 0 from by decide) c_74
                  refine lv_iconst (v := 0) hx hb dX9_hear_123 (by decide) ?_
                  refine lv_istore (lv' := [(8, .int 0), (7, .int 0), (6, .int x_7), (5, .ref tn), (0, .ref h0), (1, .int p1), (2, .int p2), (3, .int p3), (4, .int p4)]) hx hb dX9_hear_124 hl (by decide) rfl (fun ls hl => ?_)
                  refine lv_iload hx hb dX9_hear_126 (lv_at hl 1 rfl) ?_
                  refine lv_if_eq (tgt := 153) hx hb dX9_hear_128 (by decide) (fun _ => ?_) (fun q => absurd q (by decide))
                  refine lv_iconst (v := 0) hx hb dX9_hear_153 (by decide) ?_
                  refine lv_istore (lv' := [(9, .int 0), (8, .int 0), (7, .int 0), (6, .int x_7), (5, .ref tn), (0, .ref h0), (1, .int p1), (2, .int p2), (3, .int p3), (4, .int p4)]) hx hb dX9_hear_154 hl (by decide) rfl (fun ls hl => ?_)
                  refine lv_iload hx hb dX9_hear_156 (lv_at hl 1 rfl) ?_
                  refine lv_if_eq (tgt := 182) hx hb dX9_hear_158 (by decide) (fun _ => ?_) (fun q => absurd q (by decide))
                  refine lv_iconst (v := 0) hx hb dX9_hear_182 (by decide) ?_
                  refine lv_istore (lv' := [(10, .int 0), (9, .int 0), (8, .int 0), (7, .int 0), (6, .int x_7), (5, .ref tn), (0, .ref h0), (1, .int p1), (2, .int p2), (3, .int p3), (4, .int p4)]) hx hb dX9_hear_183 hl (by decide) rfl (fun ls hl => ?_)
                  refine lv_iload hx hb dX9_hear_185 (lv_at hl 1 rfl) ?_
                  refine lv_if_ne (tgt := 198) hx hb dX9_hear_187 (by decide) (fun q => absurd q (by decide)) (fun _ => ?_)
                  refine lv_iload hx hb dX9_hear_190 (lv_at hl 0 rfl) ?_
                  refine lv_if_ne (tgt := 198) hx hb dX9_hear_192 (by decide) (fun q => absurd q (by decide)) (fun _ => ?_)
                  refine lv_bipush (v := (-5)) hx hb dX9_hear_195 (by decide) ?_
                  exact W.iret (v := (-5)) hx hb hr (fun t ht hW => by rw [← hQe]; exact ⟨⟨(-5), (), rfl, (by decide), ⟨nw_known, nw_gone, z_ret hP hK hD ht hW [0, 1, 5, 2, 3, 4] [] rfl (by decide) rfl⟩⟩, hS.F ht⟩) hS.2.2 dX9_hear_197
                · have ic_74 := zz_nne rfl (show Int32.toInt 0 = 0 from by decide) c_74
                  refine lv_iconst (v := 1) hx hb dX9_hear_119 (by decide) ?_
                  refine lv_goto (tgt := 124) hx hb dX9_hear_120 (by decide) ?_
                  refine lv_istore (lv' := [(8, .int 1), (7, .int 0), (6, .int x_7), (5, .ref tn), (0, .ref h0), (1, .int p1), (2, .int p2), (3, .int p3), (4, .int p4)]) hx hb dX9_hear_124 hl (by decide) rfl (fun ls hl => ?_)
                  refine lv_iload hx hb dX9_hear_126 (lv_at hl 1 rfl) ?_
                  refine lv_if_eq (tgt := 153) hx hb dX9_hear_128 (by decide) (fun _ => ?_) (fun q => absurd q (by decide))
                  refine lv_iconst (v := 0) hx hb dX9_hear_153 (by decide) ?_
                  refine lv_istore (lv' := [(9, .int 0), (8, .int 1), (7, .int 0), (6, .int x_7), (5, .ref tn), (0, .ref h0), (1, .int p1), (2, .int p2), (3, .int p3), (4, .int p4)]) hx hb dX9_hear_154 hl (by decide) rfl (fun ls hl => ?_)
                  refine lv_iload hx hb dX9_hear_156 (lv_at hl 1 rfl) ?_
                  refine lv_if_eq (tgt := 182) hx hb dX9_hear_158 (by decide) (fun q => absurd q (by decide)) (fun _ => ?_)
                  refine lv_aload hx hb dX9_hear_161 (lv_at hl 4 rfl) ?_
                  refine lv_iload_n hx hb dX9_hear_163 rfl (lv_at hl 6 rfl) ?_
                  refine lv_iload_n hx hb dX9_hear_164 rfl (lv_at hl 8 rfl) ?_
                  refine lv_iconst (v := 0) hx hb dX9_hear_165 (by decide) ?_
                  obtain ⟨hPc, hDc, hFc⟩ := z_cut (wc := (zV3 tn tn_hours tn_courts tn_gateCount tn_people tn_lines tn_falseHours tn_strayers tn_deep tn_above tn_doors tn_degrees tn_neighbours tn_shows tn_oneEnd tn_otherEnd tn_told tn_strayParts tn_strayCourts tn_shows cA_tn_shows f_tn_shows tn_told cA_tn_told f_tn_told tn_strayCourts cA_tn_strayCourts f_tn_strayCourts)) hP hD hS hA [5, 2, 3, 4] rfl (by decide +kernel)
                  have hKc := hK.sub (tys' := [(cA_tn_shows, .int), (cA_tn_told, .int), (cA_tn_strayCourts, .int)]) [0, 1, 2] rfl
                  refine va_calli (va_runV (As := [.int p1, .int p3, .int 0]) (rest := []) ⟨hx, hb, hml, hown, hts⟩ (k_X7_showsOf l sa dC dI tn p1 p3 (0) tn_hours tn_courts tn_gateCount tn_people tn_lines tn_falseHours tn_strayers tn_deep tn_above tn_doors tn_degrees tn_neighbours tn_shows tn_oneEnd tn_otherEnd tn_told tn_strayParts tn_strayCourts cA_tn_shows f_tn_shows cA_tn_told f_tn_told cA_tn_strayCourts f_tn_strayCourts (by first | with_reducible assumption | omega) (by first | with_reducible assumption | omega) b_tn_hours b_tn_courts b_tn_gateCount b_tn_people b_tn_falseHours b_tn_deep b_f_tn_told b_f_tn_strayCourts H.size) (cwV 3 hts (z_gV zw_t5_133 zw_t3_206 zw_t3_207 zw_t1_3 zw_t3_208) rfl rfl rfl (by decide +kernel) (by rw [← hRe]; exact ⟨(Nat.le_of_ble_eq_true rfl), (Nat.le_of_ble_eq_true rfl)⟩)) (z_preV hPc hKc hDc hN hXs hS hFc (q := (RX7, TX7, 18)) (ci := 7) (q0 := 0) rfl rfl) rfl rfl hl.1 rfl (lv_room (Nat.le_of_ble_eq_true rfl)) dX9_hear_166 (by rw [← hRe]; exact ⟨(Nat.le_of_ble_eq_true rfl), (Nat.le_of_ble_eq_true rfl)⟩)) hS (fun q _ h => hFc q h) hFc (fun r_75 u t H1 locs ht hvm hw hB hz1 hk1 hS => ?_)
                  obtain ⟨hP, hD, hK⟩ := z_after3 (wn := (zV63 h0 tp h0_tapeLength h0_faultKind h0_faultPlace nw im sl rd wk fm mt ch dy nw nw_isKept tn nw_strayed nw_names nw_known nw_gone tn tn_hours tn_courts tn_gateCount tn_people tn_lines tn_falseHours tn_strayers tn_deep tn_above tn_doors tn_degrees tn_neighbours tn_shows tn_oneEnd tn_otherEnd tn_told tn_strayParts tn_strayCourts tn_shows cA_tn_shows f_tn_shows tn_told cA_tn_told f_tn_told tn_strayCourts cA_tn_strayCourts f_tn_strayCourts)) hB ht hvm hP hD hK [5, 2, 3, 4] [0, 1] rfl 6 rfl (by decide +kernel) rfl (by decide +kernel) hk1 hFc
                  generalize H1 = H at hP hS ⊢
                  have hK : va_K (dC, dI) vwCl [(cA_tn_shows, .int), (cA_tn_told, .int), (cA_tn_strayCourts, .int)] s := hK
                  refine lv_iload_n hx hb dX9_hear_169 rfl (lv_at hl 7 rfl) ?_
                  obtain ⟨hPc, hDc, hFc⟩ := z_cut (wc := []) hP hD hS hA [] rfl (by decide +kernel)
                  have hKc := hK.sub (tys' := []) [] rfl
                  refine va_calli (va_runS (As := [.int r_75, .int p2]) (rest := []) ⟨hx, hb, hml, hown, hts⟩ (k_X9_has l sa dC dI r_75 p2 H.size) (va_cwS 2 hts (z_gS zw_t4_12 zw_t3_123 zw_t1_1 zw_t3_124) rfl rfl rfl (by decide +kernel) (by rw [← hRe]; exact ⟨(Nat.le_of_ble_eq_true rfl), (Nat.le_of_ble_eq_true rfl)⟩)) (z_preS hPc hKc hDc hN hXs hS hFc) rfl rfl hl.1 rfl (lv_room (Nat.le_of_ble_eq_true rfl)) dX9_hear_170 (by rw [← hRe]; exact ⟨(Nat.le_of_ble_eq_true rfl), (Nat.le_of_ble_eq_true rfl)⟩)) hS (fun q _ h => hFc q h) hFc (fun r_76 u t H1 locs ht hvm hw hB hz1 hk1 hS => ?_)
                  obtain ⟨hP, hD, hK⟩ := z_after3 (wn := (zV63 h0 tp h0_tapeLength h0_faultKind h0_faultPlace nw im sl rd wk fm mt ch dy nw nw_isKept tn nw_strayed nw_names nw_known nw_gone tn tn_hours tn_courts tn_gateCount tn_people tn_lines tn_falseHours tn_strayers tn_deep tn_above tn_doors tn_degrees tn_neighbours tn_shows tn_oneEnd tn_otherEnd tn_told tn_strayParts tn_strayCourts tn_shows cA_tn_shows f_tn_shows tn_told cA_tn_told f_tn_told tn_strayCourts cA_tn_strayCourts f_tn_strayCourts)) hB ht hvm hP hD hK [] [0, 1, 2, 3, 4, 5] rfl 6 rfl (by decide +kernel) rfl (by decide +kernel) hk1 hFc
                  generalize H1 = H at hP hS ⊢
                  have hK : va_K (dC, dI) vwCl [(cA_tn_shows, .int), (cA_tn_told, .int), (cA_tn_strayCourts, .int)] s := hK
                  have b_r_76 : 0 ≤ r_76.toInt ∧ r_76.toInt ≤ 1 := hw
                  refine lv_iload hx hb dX9_hear_173 (lv_at hl 9 rfl) ?_
                  have nb_p4 := zi_nb p4
                  refine lv_icmp_ne (tgt := 182) hx hb dX9_hear_175 (by decide) (fun c_77 => ?_) (fun c_77 => ?_)
                  · have ic_77 := zz_ne rfl rfl c_77
                    refine lv_iconst (v := 0) hx hb dX9_hear_182 (by decide) ?_
                    refine lv_istore (lv' := [(10, .int 0), (9, .int 0), (8, .int 1), (7, .int 0), (6, .int x_7), (5, .ref tn), (0, .ref h0), (1, .int p1), (2, .int p2), (3, .int p3), (4, .int p4)]) hx hb dX9_hear_183 hl (by decide) rfl (fun ls hl => ?_)
                    refine lv_iload hx hb dX9_hear_185 (lv_at hl 1 rfl) ?_
                    refine lv_if_ne (tgt := 198) hx hb dX9_hear_187 (by decide) (fun q => absurd q (by decide)) (fun _ => ?_)
                    refine lv_iload hx hb dX9_hear_190 (lv_at hl 0 rfl) ?_
                    refine lv_if_ne (tgt := 198) hx hb dX9_hear_192 (by decide) (fun q => absurd q (by decide)) (fun _ => ?_)
                    refine lv_bipush (v := (-5)) hx hb dX9_hear_195 (by decide) ?_
                    exact W.iret (v := (-5)) hx hb hr (fun t ht hW => by rw [← hQe]; exact ⟨⟨(-5), (), rfl, (by decide), ⟨nw_known, nw_gone, z_ret hP hK hD ht hW [0, 1, 2, 3, 4, 5] [] rfl (by decide) rfl⟩⟩, hS.F ht⟩) hS.2.2 dX9_hear_197
                  · have ic_77 := zz_nne rfl rfl c_77
                    refine lv_iconst (v := 1) hx hb dX9_hear_178 (by decide) ?_
                    refine lv_goto (tgt := 183) hx hb dX9_hear_179 (by decide) ?_
                    refine lv_istore (lv' := [(10, .int 1), (9, .int 0), (8, .int 1), (7, .int 0), (6, .int x_7), (5, .ref tn), (0, .ref h0), (1, .int p1), (2, .int p2), (3, .int p3), (4, .int p4)]) hx hb dX9_hear_183 hl (by decide) rfl (fun ls hl => ?_)
                    refine lv_iload hx hb dX9_hear_185 (lv_at hl 1 rfl) ?_
                    refine lv_if_ne (tgt := 198) hx hb dX9_hear_187 (by decide) (fun q => absurd q (by decide)) (fun _ => ?_)
                    refine lv_iload hx hb dX9_hear_190 (lv_at hl 0 rfl) ?_
                    refine lv_if_ne (tgt := 198) hx hb dX9_hear_192 (by decide) (fun _ => ?_) (fun q => absurd q (by decide))
                    refine lv_iload hx hb dX9_hear_198 (lv_at hl 1 rfl) ?_
                    refine lv_if_eq (tgt := 210) hx hb dX9_hear_200 (by decide) (fun _ => ?_) (fun q => absurd q (by decide))
                    refine lv_aload_n hx hb dX9_hear_210 rfl (lv_at hl 6 rfl) ?_
                    refine va_get (D := (dC, dI)) (ci := 9) (v := .ref nw) (C := RX9) (T := TX9) (N := 13) hx hb hts zl_X9 hown hK hP 0 rfl rfl 4 (by decide) (hts _ zw_t2_193) (fun _ h9 => h9) rfl dX9_hear_211 ?_
                    refine lv_dup hx hb dX9_hear_214 rfl ?_
                    refine va_get (D := (dC, dI)) (ci := 3) (v := .int nw_known) (C := RX3) (T := TX3) (N := 6) hx hb hts zl_X3 hown hK hP 1 rfl rfl 4 (by decide) (hts _ zw_t1_165) (fun _ h9 => h9) rfl dX9_hear_215 ?_
                    refine lv_iload hx hb dX9_hear_218 (lv_at hl 4 rfl) ?_
                    refine lv_aload hx hb dX9_hear_220 (lv_at hl 5 rfl) ?_
                    refine va_get (D := (dC, dI)) (ci := 7) (v := .int tn_strayers) (C := RX7) (T := TX7) (N := 18) hx hb hts zl_X7 hown hK hP 2 rfl rfl 6 (by decide) (hts _ zw_t1_74) (fun _ h9 => h9) rfl dX9_hear_222 ?_
                    refine lv_iand hx hb dX9_hear_225 ?_
                    refine lv_topi (fun x_78 ex_78 => ?_)
                    have b_x_78 : 0 ≤ x_78.toInt ∧ x_78.toInt ≤ 1024 := by rw [ex_78]; exact zi_andL rfl (by first | with_reducible assumption | omega) (by first | with_reducible assumption | omega)
                    refine lv_ior hx hb dX9_hear_226 ?_
                    refine lv_topi (fun x_79 ex_79 => ?_)
                    refine va_put (D := (dC, dI)) (ci := 3) (v := .int x_79) (ty := .int) (C := RX3) (T := TX3) (N := 6) hx hb hts zl_X3 tyX3 tyX3_ok nmX3 hown hK hP hD hS 1 rfl rfl 4 (by decide) (hts _ zw_t1_165) (fun _ h9 => h9) rfl (by decide +kernel) rfl rfl (Nat.le_of_ble_eq_true rfl) dX9_hear_227 (fun H locs hP hD hS => ?_)
                    have hP : va_P (dC, dI) vwCl (zV63 h0 tp h0_tapeLength h0_faultKind h0_faultPlace nw im sl rd wk fm mt ch dy nw nw_isKept tn nw_strayed nw_names x_79 nw_gone tn tn_hours tn_courts tn_gateCount tn_people tn_lines tn_falseHours tn_strayers tn_deep tn_above tn_doors tn_degrees tn_neighbours tn_shows tn_oneEnd tn_otherEnd tn_told tn_strayParts tn_strayCourts tn_shows cA_tn_shows f_tn_shows tn_told cA_tn_told f_tn_told tn_strayCourts cA_tn_strayCourts f_tn_strayCourts) H := hP
                    have hD : va_D A (zV63 h0 tp h0_tapeLength h0_faultKind h0_faultPlace nw im sl rd wk fm mt ch dy nw nw_isKept tn nw_strayed nw_names x_79 nw_gone tn tn_hours tn_courts tn_gateCount tn_people tn_lines tn_falseHours tn_strayers tn_deep tn_above tn_doors tn_degrees tn_neighbours tn_shows tn_oneEnd tn_otherEnd tn_told tn_strayParts tn_strayCourts tn_shows cA_tn_shows f_tn_shows tn_told cA_tn_told f_tn_told tn_strayCourts cA_tn_strayCourts f_tn_strayCourts) := hD
                    refine lv_iload hx hb dX9_hear_230 (lv_at hl 1 rfl) ?_
                    refine lv_if_eq (tgt := 249) hx hb dX9_hear_232 (by decide) (fun _ => ?_) (fun q => absurd q (by decide))
                    refine lv_iconst (v := 1) hx hb dX9_hear_249 (by decide) ?_
                    exact W.iret (v := 1) hx hb hr (fun t ht hW => by rw [← hQe]; exact ⟨⟨1, (), rfl, (by decide), ⟨x_79, nw_gone, z_ret hP hK hD ht hW [0, 1, 2, 3, 4, 5] [] rfl (by decide) rfl⟩⟩, hS.F ht⟩) hS.2.2 dX9_hear_250
            · have ic_65 := zz_neq rfl (show Int32.toInt 0 = 0 from by decide) c_65
              refine lv_iconst (v := 1) hx hb dX9_hear_84 (by decide) ?_
              refine lv_goto (tgt := 89) hx hb dX9_hear_85 (by decide) ?_
              refine lv_istore (lv' := [(7, .int 1), (6, .int x_7), (5, .ref tn), (0, .ref h0), (1, .int p1), (2, .int p2), (3, .int p3), (4, .int p4)]) hx hb dX9_hear_89 hl (by decide) rfl (fun ls hl => ?_)
              refine lv_aload_n hx hb dX9_hear_91 rfl (lv_at hl 3 rfl) ?_
              refine va_get (D := (dC, dI)) (ci := 9) (v := .ref nw) (C := RX9) (T := TX9) (N := 13) hx hb hts zl_X9 hown hK hP 0 rfl rfl 4 (by decide) (hts _ zw_t2_193) (fun _ h9 => h9) rfl dX9_hear_92 ?_
              refine va_get (D := (dC, dI)) (ci := 3) (v := .int nw_known) (C := RX3) (T := TX3) (N := 6) hx hb hts zl_X3 hown hK hP 1 rfl rfl 4 (by decide) (hts _ zw_t1_165) (fun _ h9 => h9) rfl dX9_hear_95 ?_
              refine lv_iload_n hx hb dX9_hear_98 rfl (lv_at hl 4 rfl) ?_
              obtain ⟨hPc, hDc, hFc⟩ := z_cut (wc := []) hP hD hS hA [] rfl (by decide +kernel)
              have hKc := hK.sub (tys' := []) [] rfl
              refine va_calli (va_runS (As := [.int nw_known, .int p1]) (rest := []) ⟨hx, hb, hml, hown, hts⟩ (k_X9_has l sa dC dI nw_known p1 H.size) (va_cwS 2 hts (z_gS zw_t4_12 zw_t3_123 zw_t1_1 zw_t3_124) rfl rfl rfl (by decide +kernel) (by rw [← hRe]; exact ⟨(Nat.le_of_ble_eq_true rfl), (Nat.le_of_ble_eq_true rfl)⟩)) (z_preS hPc hKc hDc hN hXs hS hFc) rfl rfl hl.1 rfl (lv_room (Nat.le_of_ble_eq_true rfl)) dX9_hear_99 (by rw [← hRe]; exact ⟨(Nat.le_of_ble_eq_true rfl), (Nat.le_of_ble_eq_true rfl)⟩)) hS (fun q _ h => hFc q h) hFc (fun r_80 u t H1 locs ht hvm hw hB hz1 hk1 hS => ?_)
              obtain ⟨hP, hD, hK⟩ := z_after3 (wn := (zV64 h0 tp h0_tapeLength h0_faultKind h0_faultPlace nw im sl rd wk fm mt ch dy nw nw_isKept tn nw_strayed nw_names nw_known nw_gone tn_shows cA_tn_shows f_tn_shows tn_told cA_tn_told f_tn_told tn_strayCourts cA_tn_strayCourts f_tn_strayCourts tn tn_hours tn_courts tn_gateCount tn_people tn_lines tn_falseHours tn_strayers tn_deep tn_above tn_doors tn_degrees tn_neighbours tn_shows tn_oneEnd tn_otherEnd tn_told tn_strayParts tn_strayCourts)) hB ht hvm hP hD hK [] [0, 1, 2, 3, 4, 5] rfl 6 rfl (by decide +kernel) rfl (by decide +kernel) hk1 hFc
              generalize H1 = H at hP hS ⊢
              have hK : va_K (dC, dI) vwCl [(cA_tn_shows, .int), (cA_tn_told, .int), (cA_tn_strayCourts, .int)] s := hK
              have b_r_80 : 0 ≤ r_80.toInt ∧ r_80.toInt ≤ 1 := hw
              refine lv_if_eq (tgt := 119) hx hb dX9_hear_102 (by decide) (fun c_81 => ?_) (fun c_81 => ?_)
              · have ic_81 := zz_eq rfl (show Int32.toInt 0 = 0 from by decide) c_81
                refine lv_iconst (v := 1) hx hb dX9_hear_119 (by decide) ?_
                refine lv_goto (tgt := 124) hx hb dX9_hear_120 (by decide) ?_
                refine lv_istore (lv' := [(8, .int 1), (7, .int 1), (6, .int x_7), (5, .ref tn), (0, .ref h0), (1, .int p1), (2, .int p2), (3, .int p3), (4, .int p4)]) hx hb dX9_hear_124 hl (by decide) rfl (fun ls hl => ?_)
                refine lv_iload hx hb dX9_hear_126 (lv_at hl 1 rfl) ?_
                refine lv_if_eq (tgt := 153) hx hb dX9_hear_128 (by decide) (fun q => absurd q (by decide)) (fun _ => ?_)
                refine lv_aload hx hb dX9_hear_131 (lv_at hl 3 rfl) ?_
                refine lv_iload_n hx hb dX9_hear_133 rfl (lv_at hl 5 rfl) ?_
                refine lv_iload_n hx hb dX9_hear_134 rfl (lv_at hl 7 rfl) ?_
                refine lv_iload hx hb dX9_hear_135 (lv_at hl 2 rfl) ?_
                obtain ⟨hPc, hDc, hFc⟩ := z_cut (wc := (zV3 tn tn_hours tn_courts tn_gateCount tn_people tn_lines tn_falseHours tn_strayers tn_deep tn_above tn_doors tn_degrees tn_neighbours tn_shows tn_oneEnd tn_otherEnd tn_told tn_strayParts tn_strayCourts tn_shows cA_tn_shows f_tn_shows tn_told cA_tn_told f_tn_told tn_strayCourts cA_tn_strayCourts f_tn_strayCourts)) hP hD hS hA [5, 2, 3, 4] rfl (by decide +kernel)
                have hKc := hK.sub (tys' := [(cA_tn_shows, .int), (cA_tn_told, .int), (cA_tn_strayCourts, .int)]) [0, 1, 2] rfl
                refine va_calli (va_runV (As := [.int p1, .int p3, .int x_7]) (rest := []) ⟨hx, hb, hml, hown, hts⟩ (k_X7_showsOf l sa dC dI tn p1 p3 x_7 tn_hours tn_courts tn_gateCount tn_people tn_lines tn_falseHours tn_strayers tn_deep tn_above tn_doors tn_degrees tn_neighbours tn_shows tn_oneEnd tn_otherEnd tn_told tn_strayParts tn_strayCourts cA_tn_shows f_tn_shows cA_tn_told f_tn_told cA_tn_strayCourts f_tn_strayCourts (by first | with_reducible assumption | omega) (by first | with_reducible assumption | omega) b_tn_hours b_tn_courts b_tn_gateCount b_tn_people b_tn_falseHours b_tn_deep b_f_tn_told b_f_tn_strayCourts H.size) (cwV 3 hts (z_gV zw_t5_133 zw_t3_206 zw_t3_207 zw_t1_3 zw_t3_208) rfl rfl rfl (by decide +kernel) (by rw [← hRe]; exact ⟨(Nat.le_of_ble_eq_true rfl), (Nat.le_of_ble_eq_true rfl)⟩)) (z_preV hPc hKc hDc hN hXs hS hFc (q := (RX7, TX7, 18)) (ci := 7) (q0 := 0) rfl rfl) rfl rfl hl.1 rfl (lv_room (Nat.le_of_ble_eq_true rfl)) dX9_hear_137 (by rw [← hRe]; exact ⟨(Nat.le_of_ble_eq_true rfl), (Nat.le_of_ble_eq_true rfl)⟩)) hS (fun q _ h => hFc q h) hFc (fun r_82 u t H1 locs ht hvm hw hB hz1 hk1 hS => ?_)
                obtain ⟨hP, hD, hK⟩ := z_after3 (wn := (zV63 h0 tp h0_tapeLength h0_faultKind h0_faultPlace nw im sl rd wk fm mt ch dy nw nw_isKept tn nw_strayed nw_names nw_known nw_gone tn tn_hours tn_courts tn_gateCount tn_people tn_lines tn_falseHours tn_strayers tn_deep tn_above tn_doors tn_degrees tn_neighbours tn_shows tn_oneEnd tn_otherEnd tn_told tn_strayParts tn_strayCourts tn_shows cA_tn_shows f_tn_shows tn_told cA_tn_told f_tn_told tn_strayCourts cA_tn_strayCourts f_tn_strayCourts)) hB ht hvm hP hD hK [5, 2, 3, 4] [0, 1] rfl 6 rfl (by decide +kernel) rfl (by decide +kernel) hk1 hFc
                generalize H1 = H at hP hS ⊢
                have hK : va_K (dC, dI) vwCl [(cA_tn_shows, .int), (cA_tn_told, .int), (cA_tn_strayCourts, .int)] s := hK
                refine lv_iload_n hx hb dX9_hear_140 rfl (lv_at hl 6 rfl) ?_
                obtain ⟨hPc, hDc, hFc⟩ := z_cut (wc := []) hP hD hS hA [] rfl (by decide +kernel)
                have hKc := hK.sub (tys' := []) [] rfl
                refine va_calli (va_runS (As := [.int r_82, .int p2]) (rest := []) ⟨hx, hb, hml, hown, hts⟩ (k_X9_has l sa dC dI r_82 p2 H.size) (va_cwS 2 hts (z_gS zw_t4_12 zw_t3_123 zw_t1_1 zw_t3_124) rfl rfl rfl (by decide +kernel) (by rw [← hRe]; exact ⟨(Nat.le_of_ble_eq_true rfl), (Nat.le_of_ble_eq_true rfl)⟩)) (z_preS hPc hKc hDc hN hXs hS hFc) rfl rfl hl.1 rfl (lv_room (Nat.le_of_ble_eq_true rfl)) dX9_hear_141 (by rw [← hRe]; exact ⟨(Nat.le_of_ble_eq_true rfl), (Nat.le_of_ble_eq_true rfl)⟩)) hS (fun q _ h => hFc q h) hFc (fun r_83 u t H1 locs ht hvm hw hB hz1 hk1 hS => ?_)
                obtain ⟨hP, hD, hK⟩ := z_after3 (wn := (zV63 h0 tp h0_tapeLength h0_faultKind h0_faultPlace nw im sl rd wk fm mt ch dy nw nw_isKept tn nw_strayed nw_names nw_known nw_gone tn tn_hours tn_courts tn_gateCount tn_people tn_lines tn_falseHours tn_strayers tn_deep tn_above tn_doors tn_degrees tn_neighbours tn_shows tn_oneEnd tn_otherEnd tn_told tn_strayParts tn_strayCourts tn_shows cA_tn_shows f_tn_shows tn_told cA_tn_told f_tn_told tn_strayCourts cA_tn_strayCourts f_tn_strayCourts)) hB ht hvm hP hD hK [] [0, 1, 2, 3, 4, 5] rfl 6 rfl (by decide +kernel) rfl (by decide +kernel) hk1 hFc
                generalize H1 = H at hP hS ⊢
                have hK : va_K (dC, dI) vwCl [(cA_tn_shows, .int), (cA_tn_told, .int), (cA_tn_strayCourts, .int)] s := hK
                have b_r_83 : 0 ≤ r_83.toInt ∧ r_83.toInt ≤ 1 := hw
                refine lv_iload hx hb dX9_hear_144 (lv_at hl 8 rfl) ?_
                have nb_p4 := zi_nb p4
                refine lv_icmp_ne (tgt := 153) hx hb dX9_hear_146 (by decide) (fun c_84 => ?_) (fun c_84 => ?_)
                · have ic_84 := zz_ne rfl rfl c_84
                  refine lv_iconst (v := 0) hx hb dX9_hear_153 (by decide) ?_
                  refine lv_istore (lv' := [(9, .int 0), (8, .int 1), (7, .int 1), (6, .int x_7), (5, .ref tn), (0, .ref h0), (1, .int p1), (2, .int p2), (3, .int p3), (4, .int p4)]) hx hb dX9_hear_154 hl (by decide) rfl (fun ls hl => ?_)
                  refine lv_iload hx hb dX9_hear_156 (lv_at hl 1 rfl) ?_
                  refine lv_if_eq (tgt := 182) hx hb dX9_hear_158 (by decide) (fun q => absurd q (by decide)) (fun _ => ?_)
                  refine lv_aload hx hb dX9_hear_161 (lv_at hl 4 rfl) ?_
                  refine lv_iload_n hx hb dX9_hear_163 rfl (lv_at hl 6 rfl) ?_
                  refine lv_iload_n hx hb dX9_hear_164 rfl (lv_at hl 8 rfl) ?_
                  refine lv_iconst (v := 0) hx hb dX9_hear_165 (by decide) ?_
                  obtain ⟨hPc, hDc, hFc⟩ := z_cut (wc := (zV3 tn tn_hours tn_courts tn_gateCount tn_people tn_lines tn_falseHours tn_strayers tn_deep tn_above tn_doors tn_degrees tn_neighbours tn_shows tn_oneEnd tn_otherEnd tn_told tn_strayParts tn_strayCourts tn_shows cA_tn_shows f_tn_shows tn_told cA_tn_told f_tn_told tn_strayCourts cA_tn_strayCourts f_tn_strayCourts)) hP hD hS hA [2, 3, 4, 5] rfl (by decide +kernel)
                  have hKc := hK.sub (tys' := [(cA_tn_shows, .int), (cA_tn_told, .int), (cA_tn_strayCourts, .int)]) [0, 1, 2] rfl
                  refine va_calli (va_runV (As := [.int p1, .int p3, .int 0]) (rest := []) ⟨hx, hb, hml, hown, hts⟩ (k_X7_showsOf l sa dC dI tn p1 p3 (0) tn_hours tn_courts tn_gateCount tn_people tn_lines tn_falseHours tn_strayers tn_deep tn_above tn_doors tn_degrees tn_neighbours tn_shows tn_oneEnd tn_otherEnd tn_told tn_strayParts tn_strayCourts cA_tn_shows f_tn_shows cA_tn_told f_tn_told cA_tn_strayCourts f_tn_strayCourts (by first | with_reducible assumption | omega) (by first | with_reducible assumption | omega) b_tn_hours b_tn_courts b_tn_gateCount b_tn_people b_tn_falseHours b_tn_deep b_f_tn_told b_f_tn_strayCourts H.size) (cwV 3 hts (z_gV zw_t5_133 zw_t3_206 zw_t3_207 zw_t1_3 zw_t3_208) rfl rfl rfl (by decide +kernel) (by rw [← hRe]; exact ⟨(Nat.le_of_ble_eq_true rfl), (Nat.le_of_ble_eq_true rfl)⟩)) (z_preV hPc hKc hDc hN hXs hS hFc (q := (RX7, TX7, 18)) (ci := 7) (q0 := 0) rfl rfl) rfl rfl hl.1 rfl (lv_room (Nat.le_of_ble_eq_true rfl)) dX9_hear_166 (by rw [← hRe]; exact ⟨(Nat.le_of_ble_eq_true rfl), (Nat.le_of_ble_eq_true rfl)⟩)) hS (fun q _ h => hFc q h) hFc (fun r_85 u t H1 locs ht hvm hw hB hz1 hk1 hS => ?_)
                  obtain ⟨hP, hD, hK⟩ := z_after3 (wn := (zV63 h0 tp h0_tapeLength h0_faultKind h0_faultPlace nw im sl rd wk fm mt ch dy nw nw_isKept tn nw_strayed nw_names nw_known nw_gone tn tn_hours tn_courts tn_gateCount tn_people tn_lines tn_falseHours tn_strayers tn_deep tn_above tn_doors tn_degrees tn_neighbours tn_shows tn_oneEnd tn_otherEnd tn_told tn_strayParts tn_strayCourts tn_shows cA_tn_shows f_tn_shows tn_told cA_tn_told f_tn_told tn_strayCourts cA_tn_strayCourts f_tn_strayCourts)) hB ht hvm hP hD hK [2, 3, 4, 5] [0, 1] rfl 6 rfl (by decide +kernel) rfl (by decide +kernel) hk1 hFc
                  generalize H1 = H at hP hS ⊢
                  have hK : va_K (dC, dI) vwCl [(cA_tn_shows, .int), (cA_tn_told, .int), (cA_tn_strayCourts, .int)] s := hK
                  refine lv_iload_n hx hb dX9_hear_169 rfl (lv_at hl 7 rfl) ?_
                  obtain ⟨hPc, hDc, hFc⟩ := z_cut (wc := []) hP hD hS hA [] rfl (by decide +kernel)
                  have hKc := hK.sub (tys' := []) [] rfl
                  refine va_calli (va_runS (As := [.int r_85, .int p2]) (rest := []) ⟨hx, hb, hml, hown, hts⟩ (k_X9_has l sa dC dI r_85 p2 H.size) (va_cwS 2 hts (z_gS zw_t4_12 zw_t3_123 zw_t1_1 zw_t3_124) rfl rfl rfl (by decide +kernel) (by rw [← hRe]; exact ⟨(Nat.le_of_ble_eq_true rfl), (Nat.le_of_ble_eq_true rfl)⟩)) (z_preS hPc hKc hDc hN hXs hS hFc) rfl rfl hl.1 rfl (lv_room (Nat.le_of_ble_eq_true rfl)) dX9_hear_170 (by rw [← hRe]; exact ⟨(Nat.le_of_ble_eq_true rfl), (Nat.le_of_ble_eq_true rfl)⟩)) hS (fun q _ h => hFc q h) hFc (fun r_86 u t H1 locs ht hvm hw hB hz1 hk1 hS => ?_)
                  obtain ⟨hP, hD, hK⟩ := z_after3 (wn := (zV63 h0 tp h0_tapeLength h0_faultKind h0_faultPlace nw im sl rd wk fm mt ch dy nw nw_isKept tn nw_strayed nw_names nw_known nw_gone tn tn_hours tn_courts tn_gateCount tn_people tn_lines tn_falseHours tn_strayers tn_deep tn_above tn_doors tn_degrees tn_neighbours tn_shows tn_oneEnd tn_otherEnd tn_told tn_strayParts tn_strayCourts tn_shows cA_tn_shows f_tn_shows tn_told cA_tn_told f_tn_told tn_strayCourts cA_tn_strayCourts f_tn_strayCourts)) hB ht hvm hP hD hK [] [0, 1, 2, 3, 4, 5] rfl 6 rfl (by decide +kernel) rfl (by decide +kernel) hk1 hFc
                  generalize H1 = H at hP hS ⊢
                  have hK : va_K (dC, dI) vwCl [(cA_tn_shows, .int), (cA_tn_told, .int), (cA_tn_strayCourts, .int)] s := hK
                  have b_r_86 : 0 ≤ r_86.toInt ∧ r_86.toInt ≤ 1 := hw
                  refine lv_iload hx hb dX9_hear_173 (lv_at hl 9 rfl) ?_
                  refine lv_icmp_ne (tgt := 182) hx hb dX9_hear_175 (by decide) (fun c_87 => ?_) (fun c_87 => ?_)
                  · have ic_87 := zz_ne rfl rfl c_87
                    refine lv_iconst (v := 0) hx hb dX9_hear_182 (by decide) ?_
                    refine lv_istore (lv' := [(10, .int 0), (9, .int 0), (8, .int 1), (7, .int 1), (6, .int x_7), (5, .ref tn), (0, .ref h0), (1, .int p1), (2, .int p2), (3, .int p3), (4, .int p4)]) hx hb dX9_hear_183 hl (by decide) rfl (fun ls hl => ?_)
                    refine lv_iload hx hb dX9_hear_185 (lv_at hl 1 rfl) ?_
                    refine lv_if_ne (tgt := 198) hx hb dX9_hear_187 (by decide) (fun q => absurd q (by decide)) (fun _ => ?_)
                    refine lv_iload hx hb dX9_hear_190 (lv_at hl 0 rfl) ?_
                    refine lv_if_ne (tgt := 198) hx hb dX9_hear_192 (by decide) (fun q => absurd q (by decide)) (fun _ => ?_)
                    refine lv_bipush (v := (-5)) hx hb dX9_hear_195 (by decide) ?_
                    exact W.iret (v := (-5)) hx hb hr (fun t ht hW => by rw [← hQe]; exact ⟨⟨(-5), (), rfl, (by decide), ⟨nw_known, nw_gone, z_ret hP hK hD ht hW [0, 1, 2, 3, 4, 5] [] rfl (by decide) rfl⟩⟩, hS.F ht⟩) hS.2.2 dX9_hear_197
                  · have ic_87 := zz_nne rfl rfl c_87
                    refine lv_iconst (v := 1) hx hb dX9_hear_178 (by decide) ?_
                    refine lv_goto (tgt := 183) hx hb dX9_hear_179 (by decide) ?_
                    refine lv_istore (lv' := [(10, .int 1), (9, .int 0), (8, .int 1), (7, .int 1), (6, .int x_7), (5, .ref tn), (0, .ref h0), (1, .int p1), (2, .int p2), (3, .int p3), (4, .int p4)]) hx hb dX9_hear_183 hl (by decide) rfl (fun ls hl => ?_)
                    refine lv_iload hx hb dX9_hear_185 (lv_at hl 1 rfl) ?_
                    refine lv_if_ne (tgt := 198) hx hb dX9_hear_187 (by decide) (fun q => absurd q (by decide)) (fun _ => ?_)
                    refine lv_iload hx hb dX9_hear_190 (lv_at hl 0 rfl) ?_
                    refine lv_if_ne (tgt := 198) hx hb dX9_hear_192 (by decide) (fun _ => ?_) (fun q => absurd q (by decide))
                    refine lv_iload hx hb dX9_hear_198 (lv_at hl 1 rfl) ?_
                    refine lv_if_eq (tgt := 210) hx hb dX9_hear_200 (by decide) (fun _ => ?_) (fun q => absurd q (by decide))
                    refine lv_aload_n hx hb dX9_hear_210 rfl (lv_at hl 6 rfl) ?_
                    refine va_get (D := (dC, dI)) (ci := 9) (v := .ref nw) (C := RX9) (T := TX9) (N := 13) hx hb hts zl_X9 hown hK hP 0 rfl rfl 4 (by decide) (hts _ zw_t2_193) (fun _ h9 => h9) rfl dX9_hear_211 ?_
                    refine lv_dup hx hb dX9_hear_214 rfl ?_
                    refine va_get (D := (dC, dI)) (ci := 3) (v := .int nw_known) (C := RX3) (T := TX3) (N := 6) hx hb hts zl_X3 hown hK hP 1 rfl rfl 4 (by decide) (hts _ zw_t1_165) (fun _ h9 => h9) rfl dX9_hear_215 ?_
                    refine lv_iload hx hb dX9_hear_218 (lv_at hl 4 rfl) ?_
                    refine lv_aload hx hb dX9_hear_220 (lv_at hl 5 rfl) ?_
                    refine va_get (D := (dC, dI)) (ci := 7) (v := .int tn_strayers) (C := RX7) (T := TX7) (N := 18) hx hb hts zl_X7 hown hK hP 2 rfl rfl 6 (by decide) (hts _ zw_t1_74) (fun _ h9 => h9) rfl dX9_hear_222 ?_
                    refine lv_iand hx hb dX9_hear_225 ?_
                    refine lv_topi (fun x_88 ex_88 => ?_)
                    have b_x_88 : 0 ≤ x_88.toInt ∧ x_88.toInt ≤ 1024 := by rw [ex_88]; exact zi_andL rfl (by first | with_reducible assumption | omega) (by first | with_reducible assumption | omega)
                    refine lv_ior hx hb dX9_hear_226 ?_
                    refine lv_topi (fun x_89 ex_89 => ?_)
                    refine va_put (D := (dC, dI)) (ci := 3) (v := .int x_89) (ty := .int) (C := RX3) (T := TX3) (N := 6) hx hb hts zl_X3 tyX3 tyX3_ok nmX3 hown hK hP hD hS 1 rfl rfl 4 (by decide) (hts _ zw_t1_165) (fun _ h9 => h9) rfl (by decide +kernel) rfl rfl (Nat.le_of_ble_eq_true rfl) dX9_hear_227 (fun H locs hP hD hS => ?_)
                    have hP : va_P (dC, dI) vwCl (zV63 h0 tp h0_tapeLength h0_faultKind h0_faultPlace nw im sl rd wk fm mt ch dy nw nw_isKept tn nw_strayed nw_names x_89 nw_gone tn tn_hours tn_courts tn_gateCount tn_people tn_lines tn_falseHours tn_strayers tn_deep tn_above tn_doors tn_degrees tn_neighbours tn_shows tn_oneEnd tn_otherEnd tn_told tn_strayParts tn_strayCourts tn_shows cA_tn_shows f_tn_shows tn_told cA_tn_told f_tn_told tn_strayCourts cA_tn_strayCourts f_tn_strayCourts) H := hP
                    have hD : va_D A (zV63 h0 tp h0_tapeLength h0_faultKind h0_faultPlace nw im sl rd wk fm mt ch dy nw nw_isKept tn nw_strayed nw_names x_89 nw_gone tn tn_hours tn_courts tn_gateCount tn_people tn_lines tn_falseHours tn_strayers tn_deep tn_above tn_doors tn_degrees tn_neighbours tn_shows tn_oneEnd tn_otherEnd tn_told tn_strayParts tn_strayCourts tn_shows cA_tn_shows f_tn_shows tn_told cA_tn_told f_tn_told tn_strayCourts cA_tn_strayCourts f_tn_strayCourts) := hD
                    refine lv_iload hx hb dX9_hear_230 (lv_at hl 1 rfl) ?_
                    refine lv_if_eq (tgt := 249) hx hb dX9_hear_232 (by decide) (fun _ => ?_) (fun q => absurd q (by decide))
                    refine lv_iconst (v := 1) hx hb dX9_hear_249 (by decide) ?_
                    exact W.iret (v := 1) hx hb hr (fun t ht hW => by rw [← hQe]; exact ⟨⟨1, (), rfl, (by decide), ⟨x_89, nw_gone, z_ret hP hK hD ht hW [0, 1, 2, 3, 4, 5] [] rfl (by decide) rfl⟩⟩, hS.F ht⟩) hS.2.2 dX9_hear_250
                · have ic_84 := zz_nne rfl rfl c_84
                  refine lv_iconst (v := 1) hx hb dX9_hear_149 (by decide) ?_
                  refine lv_goto (tgt := 154) hx hb dX9_hear_150 (by decide) ?_
                  refine lv_istore (lv' := [(9, .int 1), (8, .int 1), (7, .int 1), (6, .int x_7), (5, .ref tn), (0, .ref h0), (1, .int p1), (2, .int p2), (3, .int p3), (4, .int p4)]) hx hb dX9_hear_154 hl (by decide) rfl (fun ls hl => ?_)
                  refine lv_iload hx hb dX9_hear_156 (lv_at hl 1 rfl) ?_
                  refine lv_if_eq (tgt := 182) hx hb dX9_hear_158 (by decide) (fun q => absurd q (by decide)) (fun _ => ?_)
                  refine lv_aload hx hb dX9_hear_161 (lv_at hl 4 rfl) ?_
                  refine lv_iload_n hx hb dX9_hear_163 rfl (lv_at hl 6 rfl) ?_
                  refine lv_iload_n hx hb dX9_hear_164 rfl (lv_at hl 8 rfl) ?_
                  refine lv_iconst (v := 0) hx hb dX9_hear_165 (by decide) ?_
                  obtain ⟨hPc, hDc, hFc⟩ := z_cut (wc := (zV3 tn tn_hours tn_courts tn_gateCount tn_people tn_lines tn_falseHours tn_strayers tn_deep tn_above tn_doors tn_degrees tn_neighbours tn_shows tn_oneEnd tn_otherEnd tn_told tn_strayParts tn_strayCourts tn_shows cA_tn_shows f_tn_shows tn_told cA_tn_told f_tn_told tn_strayCourts cA_tn_strayCourts f_tn_strayCourts)) hP hD hS hA [2, 3, 4, 5] rfl (by decide +kernel)
                  have hKc := hK.sub (tys' := [(cA_tn_shows, .int), (cA_tn_told, .int), (cA_tn_strayCourts, .int)]) [0, 1, 2] rfl
                  refine va_calli (va_runV (As := [.int p1, .int p3, .int 0]) (rest := []) ⟨hx, hb, hml, hown, hts⟩ (k_X7_showsOf l sa dC dI tn p1 p3 (0) tn_hours tn_courts tn_gateCount tn_people tn_lines tn_falseHours tn_strayers tn_deep tn_above tn_doors tn_degrees tn_neighbours tn_shows tn_oneEnd tn_otherEnd tn_told tn_strayParts tn_strayCourts cA_tn_shows f_tn_shows cA_tn_told f_tn_told cA_tn_strayCourts f_tn_strayCourts (by first | with_reducible assumption | omega) (by first | with_reducible assumption | omega) b_tn_hours b_tn_courts b_tn_gateCount b_tn_people b_tn_falseHours b_tn_deep b_f_tn_told b_f_tn_strayCourts H.size) (cwV 3 hts (z_gV zw_t5_133 zw_t3_206 zw_t3_207 zw_t1_3 zw_t3_208) rfl rfl rfl (by decide +kernel) (by rw [← hRe]; exact ⟨(Nat.le_of_ble_eq_true rfl), (Nat.le_of_ble_eq_true rfl)⟩)) (z_preV hPc hKc hDc hN hXs hS hFc (q := (RX7, TX7, 18)) (ci := 7) (q0 := 0) rfl rfl) rfl rfl hl.1 rfl (lv_room (Nat.le_of_ble_eq_true rfl)) dX9_hear_166 (by rw [← hRe]; exact ⟨(Nat.le_of_ble_eq_true rfl), (Nat.le_of_ble_eq_true rfl)⟩)) hS (fun q _ h => hFc q h) hFc (fun r_90 u t H1 locs ht hvm hw hB hz1 hk1 hS => ?_)
                  obtain ⟨hP, hD, hK⟩ := z_after3 (wn := (zV63 h0 tp h0_tapeLength h0_faultKind h0_faultPlace nw im sl rd wk fm mt ch dy nw nw_isKept tn nw_strayed nw_names nw_known nw_gone tn tn_hours tn_courts tn_gateCount tn_people tn_lines tn_falseHours tn_strayers tn_deep tn_above tn_doors tn_degrees tn_neighbours tn_shows tn_oneEnd tn_otherEnd tn_told tn_strayParts tn_strayCourts tn_shows cA_tn_shows f_tn_shows tn_told cA_tn_told f_tn_told tn_strayCourts cA_tn_strayCourts f_tn_strayCourts)) hB ht hvm hP hD hK [2, 3, 4, 5] [0, 1] rfl 6 rfl (by decide +kernel) rfl (by decide +kernel) hk1 hFc
                  generalize H1 = H at hP hS ⊢
                  have hK : va_K (dC, dI) vwCl [(cA_tn_shows, .int), (cA_tn_told, .int), (cA_tn_strayCourts, .int)] s := hK
                  refine lv_iload_n hx hb dX9_hear_169 rfl (lv_at hl 7 rfl) ?_
                  obtain ⟨hPc, hDc, hFc⟩ := z_cut (wc := []) hP hD hS hA [] rfl (by decide +kernel)
                  have hKc := hK.sub (tys' := []) [] rfl
                  refine va_calli (va_runS (As := [.int r_90, .int p2]) (rest := []) ⟨hx, hb, hml, hown, hts⟩ (k_X9_has l sa dC dI r_90 p2 H.size) (va_cwS 2 hts (z_gS zw_t4_12 zw_t3_123 zw_t1_1 zw_t3_124) rfl rfl rfl (by decide +kernel) (by rw [← hRe]; exact ⟨(Nat.le_of_ble_eq_true rfl), (Nat.le_of_ble_eq_true rfl)⟩)) (z_preS hPc hKc hDc hN hXs hS hFc) rfl rfl hl.1 rfl (lv_room (Nat.le_of_ble_eq_true rfl)) dX9_hear_170 (by rw [← hRe]; exact ⟨(Nat.le_of_ble_eq_true rfl), (Nat.le_of_ble_eq_true rfl)⟩)) hS (fun q _ h => hFc q h) hFc (fun r_91 u t H1 locs ht hvm hw hB hz1 hk1 hS => ?_)
                  obtain ⟨hP, hD, hK⟩ := z_after3 (wn := (zV63 h0 tp h0_tapeLength h0_faultKind h0_faultPlace nw im sl rd wk fm mt ch dy nw nw_isKept tn nw_strayed nw_names nw_known nw_gone tn tn_hours tn_courts tn_gateCount tn_people tn_lines tn_falseHours tn_strayers tn_deep tn_above tn_doors tn_degrees tn_neighbours tn_shows tn_oneEnd tn_otherEnd tn_told tn_strayParts tn_strayCourts tn_shows cA_tn_shows f_tn_shows tn_told cA_tn_told f_tn_told tn_strayCourts cA_tn_strayCourts f_tn_strayCourts)) hB ht hvm hP hD hK [] [0, 1, 2, 3, 4, 5] rfl 6 rfl (by decide +kernel) rfl (by decide +kernel) hk1 hFc
                  generalize H1 = H at hP hS ⊢
                  have hK : va_K (dC, dI) vwCl [(cA_tn_shows, .int), (cA_tn_told, .int), (cA_tn_strayCourts, .int)] s := hK
                  have b_r_91 : 0 ≤ r_91.toInt ∧ r_91.toInt ≤ 1 := hw
                  refine lv_iload hx hb dX9_hear_173 (lv_at hl 9 rfl) ?_
                  refine lv_icmp_ne (tgt := 182) hx hb dX9_hear_175 (by decide) (fun c_92 => ?_) (fun c_92 => ?_)
                  · have ic_92 := zz_ne rfl rfl c_92
                    refine lv_iconst (v := 0) hx hb dX9_hear_182 (by decide) ?_
                    refine lv_istore (lv' := [(10, .int 0), (9, .int 1), (8, .int 1), (7, .int 1), (6, .int x_7), (5, .ref tn), (0, .ref h0), (1, .int p1), (2, .int p2), (3, .int p3), (4, .int p4)]) hx hb dX9_hear_183 hl (by decide) rfl (fun ls hl => ?_)
                    refine lv_iload hx hb dX9_hear_185 (lv_at hl 1 rfl) ?_
                    refine lv_if_ne (tgt := 198) hx hb dX9_hear_187 (by decide) (fun _ => ?_) (fun q => absurd q (by decide))
                    refine lv_iload hx hb dX9_hear_198 (lv_at hl 1 rfl) ?_
                    refine lv_if_eq (tgt := 210) hx hb dX9_hear_200 (by decide) (fun q => absurd q (by decide)) (fun _ => ?_)
                    refine lv_iload hx hb dX9_hear_203 (lv_at hl 0 rfl) ?_
                    refine lv_if_eq (tgt := 210) hx hb dX9_hear_205 (by decide) (fun _ => ?_) (fun q => absurd q (by decide))
                    refine lv_aload_n hx hb dX9_hear_210 rfl (lv_at hl 6 rfl) ?_
                    refine va_get (D := (dC, dI)) (ci := 9) (v := .ref nw) (C := RX9) (T := TX9) (N := 13) hx hb hts zl_X9 hown hK hP 0 rfl rfl 4 (by decide) (hts _ zw_t2_193) (fun _ h9 => h9) rfl dX9_hear_211 ?_
                    refine lv_dup hx hb dX9_hear_214 rfl ?_
                    refine va_get (D := (dC, dI)) (ci := 3) (v := .int nw_known) (C := RX3) (T := TX3) (N := 6) hx hb hts zl_X3 hown hK hP 1 rfl rfl 4 (by decide) (hts _ zw_t1_165) (fun _ h9 => h9) rfl dX9_hear_215 ?_
                    refine lv_iload hx hb dX9_hear_218 (lv_at hl 4 rfl) ?_
                    refine lv_aload hx hb dX9_hear_220 (lv_at hl 5 rfl) ?_
                    refine va_get (D := (dC, dI)) (ci := 7) (v := .int tn_strayers) (C := RX7) (T := TX7) (N := 18) hx hb hts zl_X7 hown hK hP 2 rfl rfl 6 (by decide) (hts _ zw_t1_74) (fun _ h9 => h9) rfl dX9_hear_222 ?_
                    refine lv_iand hx hb dX9_hear_225 ?_
                    refine lv_topi (fun x_93 ex_93 => ?_)
                    have b_x_93 : 0 ≤ x_93.toInt ∧ x_93.toInt ≤ 1024 := by rw [ex_93]; exact zi_andL rfl (by first | with_reducible assumption | omega) (by first | with_reducible assumption | omega)
                    refine lv_ior hx hb dX9_hear_226 ?_
                    refine lv_topi (fun x_94 ex_94 => ?_)
                    refine va_put (D := (dC, dI)) (ci := 3) (v := .int x_94) (ty := .int) (C := RX3) (T := TX3) (N := 6) hx hb hts zl_X3 tyX3 tyX3_ok nmX3 hown hK hP hD hS 1 rfl rfl 4 (by decide) (hts _ zw_t1_165) (fun _ h9 => h9) rfl (by decide +kernel) rfl rfl (Nat.le_of_ble_eq_true rfl) dX9_hear_227 (fun H locs hP hD hS => ?_)
                    have hP : va_P (dC, dI) vwCl (zV63 h0 tp h0_tapeLength h0_faultKind h0_faultPlace nw im sl rd wk fm mt ch dy nw nw_isKept tn nw_strayed nw_names x_94 nw_gone tn tn_hours tn_courts tn_gateCount tn_people tn_lines tn_falseHours tn_strayers tn_deep tn_above tn_doors tn_degrees tn_neighbours tn_shows tn_oneEnd tn_otherEnd tn_told tn_strayParts tn_strayCourts tn_shows cA_tn_shows f_tn_shows tn_told cA_tn_told f_tn_told tn_strayCourts cA_tn_strayCourts f_tn_strayCourts) H := hP
                    have hD : va_D A (zV63 h0 tp h0_tapeLength h0_faultKind h0_faultPlace nw im sl rd wk fm mt ch dy nw nw_isKept tn nw_strayed nw_names x_94 nw_gone tn tn_hours tn_courts tn_gateCount tn_people tn_lines tn_falseHours tn_strayers tn_deep tn_above tn_doors tn_degrees tn_neighbours tn_shows tn_oneEnd tn_otherEnd tn_told tn_strayParts tn_strayCourts tn_shows cA_tn_shows f_tn_shows tn_told cA_tn_told f_tn_told tn_strayCourts cA_tn_strayCourts f_tn_strayCourts) := hD
                    refine lv_iload hx hb dX9_hear_230 (lv_at hl 1 rfl) ?_
                    refine lv_if_eq (tgt := 249) hx hb dX9_hear_232 (by decide) (fun q => absurd q (by decide)) (fun _ => ?_)
                    refine lv_aload_n hx hb dX9_hear_235 rfl (lv_at hl 6 rfl) ?_
                    refine va_get (D := (dC, dI)) (ci := 9) (v := .ref nw) (C := RX9) (T := TX9) (N := 13) hx hb hts zl_X9 hown hK hP 0 rfl rfl 4 (by decide) (hts _ zw_t2_193) (fun _ h9 => h9) rfl dX9_hear_236 ?_
                    refine lv_dup hx hb dX9_hear_239 rfl ?_
                    refine va_get (D := (dC, dI)) (ci := 3) (v := .int nw_gone) (C := RX3) (T := TX3) (N := 6) hx hb hts zl_X3 hown hK hP 1 rfl rfl 5 (by decide) (hts _ zw_t1_168) (fun _ h9 => h9) rfl dX9_hear_240 ?_
                    refine lv_iload hx hb dX9_hear_243 (lv_at hl 4 rfl) ?_
                    refine lv_ior hx hb dX9_hear_245 ?_
                    refine lv_topi (fun x_95 ex_95 => ?_)
                    refine va_put (D := (dC, dI)) (ci := 3) (v := .int x_95) (ty := .int) (C := RX3) (T := TX3) (N := 6) hx hb hts zl_X3 tyX3 tyX3_ok nmX3 hown hK hP hD hS 1 rfl rfl 5 (by decide) (hts _ zw_t1_168) (fun _ h9 => h9) rfl (by decide +kernel) rfl rfl (Nat.le_of_ble_eq_true rfl) dX9_hear_246 (fun H locs hP hD hS => ?_)
                    have hP : va_P (dC, dI) vwCl (zV63 h0 tp h0_tapeLength h0_faultKind h0_faultPlace nw im sl rd wk fm mt ch dy nw nw_isKept tn nw_strayed nw_names x_94 x_95 tn tn_hours tn_courts tn_gateCount tn_people tn_lines tn_falseHours tn_strayers tn_deep tn_above tn_doors tn_degrees tn_neighbours tn_shows tn_oneEnd tn_otherEnd tn_told tn_strayParts tn_strayCourts tn_shows cA_tn_shows f_tn_shows tn_told cA_tn_told f_tn_told tn_strayCourts cA_tn_strayCourts f_tn_strayCourts) H := hP
                    have hD : va_D A (zV63 h0 tp h0_tapeLength h0_faultKind h0_faultPlace nw im sl rd wk fm mt ch dy nw nw_isKept tn nw_strayed nw_names x_94 x_95 tn tn_hours tn_courts tn_gateCount tn_people tn_lines tn_falseHours tn_strayers tn_deep tn_above tn_doors tn_degrees tn_neighbours tn_shows tn_oneEnd tn_otherEnd tn_told tn_strayParts tn_strayCourts tn_shows cA_tn_shows f_tn_shows tn_told cA_tn_told f_tn_told tn_strayCourts cA_tn_strayCourts f_tn_strayCourts) := hD
                    refine lv_iconst (v := 1) hx hb dX9_hear_249 (by decide) ?_
                    exact W.iret (v := 1) hx hb hr (fun t ht hW => by rw [← hQe]; exact ⟨⟨1, (), rfl, (by decide), ⟨x_94, x_95, z_ret hP hK hD ht hW [0, 1, 2, 3, 4, 5] [] rfl (by decide) rfl⟩⟩, hS.F ht⟩) hS.2.2 dX9_hear_250
                  · have ic_92 := zz_nne rfl rfl c_92
                    refine lv_iconst (v := 1) hx hb dX9_hear_178 (by decide) ?_
                    refine lv_goto (tgt := 183) hx hb dX9_hear_179 (by decide) ?_
                    refine lv_istore (lv' := [(10, .int 1), (9, .int 1), (8, .int 1), (7, .int 1), (6, .int x_7), (5, .ref tn), (0, .ref h0), (1, .int p1), (2, .int p2), (3, .int p3), (4, .int p4)]) hx hb dX9_hear_183 hl (by decide) rfl (fun ls hl => ?_)
                    refine lv_iload hx hb dX9_hear_185 (lv_at hl 1 rfl) ?_
                    refine lv_if_ne (tgt := 198) hx hb dX9_hear_187 (by decide) (fun _ => ?_) (fun q => absurd q (by decide))
                    refine lv_iload hx hb dX9_hear_198 (lv_at hl 1 rfl) ?_
                    refine lv_if_eq (tgt := 210) hx hb dX9_hear_200 (by decide) (fun q => absurd q (by decide)) (fun _ => ?_)
                    refine lv_iload hx hb dX9_hear_203 (lv_at hl 0 rfl) ?_
                    refine lv_if_eq (tgt := 210) hx hb dX9_hear_205 (by decide) (fun q => absurd q (by decide)) (fun _ => ?_)
                    refine lv_iconst (v := 0) hx hb dX9_hear_208 (by decide) ?_
                    exact W.iret (v := 0) hx hb hr (fun t ht hW => by rw [← hQe]; exact ⟨⟨0, (), rfl, (by decide), ⟨nw_known, nw_gone, z_ret hP hK hD ht hW [0, 1, 2, 3, 4, 5] [] rfl (by decide) rfl⟩⟩, hS.F ht⟩) hS.2.2 dX9_hear_209
              · have ic_81 := zz_neq rfl (show Int32.toInt 0 = 0 from by decide) c_81
                refine lv_aload_n hx hb dX9_hear_105 rfl (lv_at hl 3 rfl) ?_
                refine va_get (D := (dC, dI)) (ci := 9) (v := .ref nw) (C := RX9) (T := TX9) (N := 13) hx hb hts zl_X9 hown hK hP 0 rfl rfl 4 (by decide) (hts _ zw_t2_193) (fun _ h9 => h9) rfl dX9_hear_106 ?_
                refine va_get (D := (dC, dI)) (ci := 3) (v := .int nw_gone) (C := RX3) (T := TX3) (N := 6) hx hb hts zl_X3 hown hK hP 1 rfl rfl 5 (by decide) (hts _ zw_t1_168) (fun _ h9 => h9) rfl dX9_hear_109 ?_
                refine lv_iload_n hx hb dX9_hear_112 rfl (lv_at hl 4 rfl) ?_
                obtain ⟨hPc, hDc, hFc⟩ := z_cut (wc := []) hP hD hS hA [] rfl (by decide +kernel)
                have hKc := hK.sub (tys' := []) [] rfl
                refine va_calli (va_runS (As := [.int nw_gone, .int p1]) (rest := []) ⟨hx, hb, hml, hown, hts⟩ (k_X9_has l sa dC dI nw_gone p1 H.size) (va_cwS 2 hts (z_gS zw_t4_12 zw_t3_123 zw_t1_1 zw_t3_124) rfl rfl rfl (by decide +kernel) (by rw [← hRe]; exact ⟨(Nat.le_of_ble_eq_true rfl), (Nat.le_of_ble_eq_true rfl)⟩)) (z_preS hPc hKc hDc hN hXs hS hFc) rfl rfl hl.1 rfl (lv_room (Nat.le_of_ble_eq_true rfl)) dX9_hear_113 (by rw [← hRe]; exact ⟨(Nat.le_of_ble_eq_true rfl), (Nat.le_of_ble_eq_true rfl)⟩)) hS (fun q _ h => hFc q h) hFc (fun r_96 u t H1 locs ht hvm hw hB hz1 hk1 hS => ?_)
                obtain ⟨hP, hD, hK⟩ := z_after3 (wn := (zV64 h0 tp h0_tapeLength h0_faultKind h0_faultPlace nw im sl rd wk fm mt ch dy nw nw_isKept tn nw_strayed nw_names nw_known nw_gone tn_shows cA_tn_shows f_tn_shows tn_told cA_tn_told f_tn_told tn_strayCourts cA_tn_strayCourts f_tn_strayCourts tn tn_hours tn_courts tn_gateCount tn_people tn_lines tn_falseHours tn_strayers tn_deep tn_above tn_doors tn_degrees tn_neighbours tn_shows tn_oneEnd tn_otherEnd tn_told tn_strayParts tn_strayCourts)) hB ht hvm hP hD hK [] [0, 1, 2, 3, 4, 5] rfl 6 rfl (by decide +kernel) rfl (by decide +kernel) hk1 hFc
                generalize H1 = H at hP hS ⊢
                have hK : va_K (dC, dI) vwCl [(cA_tn_shows, .int), (cA_tn_told, .int), (cA_tn_strayCourts, .int)] s := hK
                have b_r_96 : 0 ≤ r_96.toInt ∧ r_96.toInt ≤ 1 := hw
                refine lv_if_ne (tgt := 123) hx hb dX9_hear_116 (by decide) (fun c_97 => ?_) (fun c_97 => ?_)
                · have ic_97 := zz_ne rfl (show Int32.toInt 0 = 0 from by decide) c_97
                  refine lv_iconst (v := 0) hx hb dX9_hear_123 (by decide) ?_
                  refine lv_istore (lv' := [(8, .int 0), (7, .int 1), (6, .int x_7), (5, .ref tn), (0, .ref h0), (1, .int p1), (2, .int p2), (3, .int p3), (4, .int p4)]) hx hb dX9_hear_124 hl (by decide) rfl (fun ls hl => ?_)
                  refine lv_iload hx hb dX9_hear_126 (lv_at hl 1 rfl) ?_
                  refine lv_if_eq (tgt := 153) hx hb dX9_hear_128 (by decide) (fun q => absurd q (by decide)) (fun _ => ?_)
                  refine lv_aload hx hb dX9_hear_131 (lv_at hl 3 rfl) ?_
                  refine lv_iload_n hx hb dX9_hear_133 rfl (lv_at hl 5 rfl) ?_
                  refine lv_iload_n hx hb dX9_hear_134 rfl (lv_at hl 7 rfl) ?_
                  refine lv_iload hx hb dX9_hear_135 (lv_at hl 2 rfl) ?_
                  obtain ⟨hPc, hDc, hFc⟩ := z_cut (wc := (zV3 tn tn_hours tn_courts tn_gateCount tn_people tn_lines tn_falseHours tn_strayers tn_deep tn_above tn_doors tn_degrees tn_neighbours tn_shows tn_oneEnd tn_otherEnd tn_told tn_strayParts tn_strayCourts tn_shows cA_tn_shows f_tn_shows tn_told cA_tn_told f_tn_told tn_strayCourts cA_tn_strayCourts f_tn_strayCourts)) hP hD hS hA [5, 2, 3, 4] rfl (by decide +kernel)
                  have hKc := hK.sub (tys' := [(cA_tn_shows, .int), (cA_tn_told, .int), (cA_tn_strayCourts, .int)]) [0, 1, 2] rfl
                  refine va_calli (va_runV (As := [.int p1, .int p3, .int x_7]) (rest := []) ⟨hx, hb, hml, hown, hts⟩ (k_X7_showsOf l sa dC dI tn p1 p3 x_7 tn_hours tn_courts tn_gateCount tn_people tn_lines tn_falseHours tn_strayers tn_deep tn_above tn_doors tn_degrees tn_neighbours tn_shows tn_oneEnd tn_otherEnd tn_told tn_strayParts tn_strayCourts cA_tn_shows f_tn_shows cA_tn_told f_tn_told cA_tn_strayCourts f_tn_strayCourts (by first | with_reducible assumption | omega) (by first | with_reducible assumption | omega) b_tn_hours b_tn_courts b_tn_gateCount b_tn_people b_tn_falseHours b_tn_deep b_f_tn_told b_f_tn_strayCourts H.size) (cwV 3 hts (z_gV zw_t5_133 zw_t3_206 zw_t3_207 zw_t1_3 zw_t3_208) rfl rfl rfl (by decide +kernel) (by rw [← hRe]; exact ⟨(Nat.le_of_ble_eq_true rfl), (Nat.le_of_ble_eq_true rfl)⟩)) (z_preV hPc hKc hDc hN hXs hS hFc (q := (RX7, TX7, 18)) (ci := 7) (q0 := 0) rfl rfl) rfl rfl hl.1 rfl (lv_room (Nat.le_of_ble_eq_true rfl)) dX9_hear_137 (by rw [← hRe]; exact ⟨(Nat.le_of_ble_eq_true rfl), (Nat.le_of_ble_eq_true rfl)⟩)) hS (fun q _ h => hFc q h) hFc (fun r_98 u t H1 locs ht hvm hw hB hz1 hk1 hS => ?_)
                  obtain ⟨hP, hD, hK⟩ := z_after3 (wn := (zV63 h0 tp h0_tapeLength h0_faultKind h0_faultPlace nw im sl rd wk fm mt ch dy nw nw_isKept tn nw_strayed nw_names nw_known nw_gone tn tn_hours tn_courts tn_gateCount tn_people tn_lines tn_falseHours tn_strayers tn_deep tn_above tn_doors tn_degrees tn_neighbours tn_shows tn_oneEnd tn_otherEnd tn_told tn_strayParts tn_strayCourts tn_shows cA_tn_shows f_tn_shows tn_told cA_tn_told f_tn_told tn_strayCourts cA_tn_strayCourts f_tn_strayCourts)) hB ht hvm hP hD hK [5, 2, 3, 4] [0, 1] rfl 6 rfl (by decide +kernel) rfl (by decide +kernel) hk1 hFc
                  generalize H1 = H at hP hS ⊢
                  have hK : va_K (dC, dI) vwCl [(cA_tn_shows, .int), (cA_tn_told, .int), (cA_tn_strayCourts, .int)] s := hK
                  refine lv_iload_n hx hb dX9_hear_140 rfl (lv_at hl 6 rfl) ?_
                  obtain ⟨hPc, hDc, hFc⟩ := z_cut (wc := []) hP hD hS hA [] rfl (by decide +kernel)
                  have hKc := hK.sub (tys' := []) [] rfl
                  refine va_calli (va_runS (As := [.int r_98, .int p2]) (rest := []) ⟨hx, hb, hml, hown, hts⟩ (k_X9_has l sa dC dI r_98 p2 H.size) (va_cwS 2 hts (z_gS zw_t4_12 zw_t3_123 zw_t1_1 zw_t3_124) rfl rfl rfl (by decide +kernel) (by rw [← hRe]; exact ⟨(Nat.le_of_ble_eq_true rfl), (Nat.le_of_ble_eq_true rfl)⟩)) (z_preS hPc hKc hDc hN hXs hS hFc) rfl rfl hl.1 rfl (lv_room (Nat.le_of_ble_eq_true rfl)) dX9_hear_141 (by rw [← hRe]; exact ⟨(Nat.le_of_ble_eq_true rfl), (Nat.le_of_ble_eq_true rfl)⟩)) hS (fun q _ h => hFc q h) hFc (fun r_99 u t H1 locs ht hvm hw hB hz1 hk1 hS => ?_)
                  obtain ⟨hP, hD, hK⟩ := z_after3 (wn := (zV63 h0 tp h0_tapeLength h0_faultKind h0_faultPlace nw im sl rd wk fm mt ch dy nw nw_isKept tn nw_strayed nw_names nw_known nw_gone tn tn_hours tn_courts tn_gateCount tn_people tn_lines tn_falseHours tn_strayers tn_deep tn_above tn_doors tn_degrees tn_neighbours tn_shows tn_oneEnd tn_otherEnd tn_told tn_strayParts tn_strayCourts tn_shows cA_tn_shows f_tn_shows tn_told cA_tn_told f_tn_told tn_strayCourts cA_tn_strayCourts f_tn_strayCourts)) hB ht hvm hP hD hK [] [0, 1, 2, 3, 4, 5] rfl 6 rfl (by decide +kernel) rfl (by decide +kernel) hk1 hFc
                  generalize H1 = H at hP hS ⊢
                  have hK : va_K (dC, dI) vwCl [(cA_tn_shows, .int), (cA_tn_told, .int), (cA_tn_strayCourts, .int)] s := hK
                  have b_r_99 : 0 ≤ r_99.toInt ∧ r_99.toInt ≤ 1 := hw
                  refine lv_iload hx hb dX9_hear_144 (lv_at hl 8 rfl) ?_
                  have nb_p4 := zi_nb p4
                  refine lv_icmp_ne (tgt := 153) hx hb dX9_hear_146 (by decide) (fun c_100 => ?_) (fun c_100 => ?_)
                  · have ic_100 := zz_ne rfl rfl c_100
                    refine lv_iconst (v := 0) hx hb dX9_hear_153 (by decide) ?_
                    refine lv_istore (lv' := [(9, .int 0), (8, .int 0), (7, .int 1), (6, .int x_7), (5, .ref tn), (0, .ref h0), (1, .int p1), (2, .int p2), (3, .int p3), (4, .int p4)]) hx hb dX9_hear_154 hl (by decide) rfl (fun ls hl => ?_)
                    refine lv_iload hx hb dX9_hear_156 (lv_at hl 1 rfl) ?_
                    refine lv_if_eq (tgt := 182) hx hb dX9_hear_158 (by decide) (fun _ => ?_) (fun q => absurd q (by decide))
                    refine lv_iconst (v := 0) hx hb dX9_hear_182 (by decide) ?_
                    refine lv_istore (lv' := [(10, .int 0), (9, .int 0), (8, .int 0), (7, .int 1), (6, .int x_7), (5, .ref tn), (0, .ref h0), (1, .int p1), (2, .int p2), (3, .int p3), (4, .int p4)]) hx hb dX9_hear_183 hl (by decide) rfl (fun ls hl => ?_)
                    refine lv_iload hx hb dX9_hear_185 (lv_at hl 1 rfl) ?_
                    refine lv_if_ne (tgt := 198) hx hb dX9_hear_187 (by decide) (fun q => absurd q (by decide)) (fun _ => ?_)
                    refine lv_iload hx hb dX9_hear_190 (lv_at hl 0 rfl) ?_
                    refine lv_if_ne (tgt := 198) hx hb dX9_hear_192 (by decide) (fun q => absurd q (by decide)) (fun _ => ?_)
                    refine lv_bipush (v := (-5)) hx hb dX9_hear_195 (by decide) ?_
                    exact W.iret (v := (-5)) hx hb hr (fun t ht hW => by rw [← hQe]; exact ⟨⟨(-5), (), rfl, (by decide), ⟨nw_known, nw_gone, z_ret hP hK hD ht hW [0, 1, 2, 3, 4, 5] [] rfl (by decide) rfl⟩⟩, hS.F ht⟩) hS.2.2 dX9_hear_197
                  · have ic_100 := zz_nne rfl rfl c_100
                    refine lv_iconst (v := 1) hx hb dX9_hear_149 (by decide) ?_
                    refine lv_goto (tgt := 154) hx hb dX9_hear_150 (by decide) ?_
                    refine lv_istore (lv' := [(9, .int 1), (8, .int 0), (7, .int 1), (6, .int x_7), (5, .ref tn), (0, .ref h0), (1, .int p1), (2, .int p2), (3, .int p3), (4, .int p4)]) hx hb dX9_hear_154 hl (by decide) rfl (fun ls hl => ?_)
                    refine lv_iload hx hb dX9_hear_156 (lv_at hl 1 rfl) ?_
                    refine lv_if_eq (tgt := 182) hx hb dX9_hear_158 (by decide) (fun _ => ?_) (fun q => absurd q (by decide))
                    refine lv_iconst (v := 0) hx hb dX9_hear_182 (by decide) ?_
                    refine lv_istore (lv' := [(10, .int 0), (9, .int 1), (8, .int 0), (7, .int 1), (6, .int x_7), (5, .ref tn), (0, .ref h0), (1, .int p1), (2, .int p2), (3, .int p3), (4, .int p4)]) hx hb dX9_hear_183 hl (by decide) rfl (fun ls hl => ?_)
                    refine lv_iload hx hb dX9_hear_185 (lv_at hl 1 rfl) ?_
                    refine lv_if_ne (tgt := 198) hx hb dX9_hear_187 (by decide) (fun _ => ?_) (fun q => absurd q (by decide))
                    refine lv_iload hx hb dX9_hear_198 (lv_at hl 1 rfl) ?_
                    refine lv_if_eq (tgt := 210) hx hb dX9_hear_200 (by decide) (fun q => absurd q (by decide)) (fun _ => ?_)
                    refine lv_iload hx hb dX9_hear_203 (lv_at hl 0 rfl) ?_
                    refine lv_if_eq (tgt := 210) hx hb dX9_hear_205 (by decide) (fun _ => ?_) (fun q => absurd q (by decide))
                    refine lv_aload_n hx hb dX9_hear_210 rfl (lv_at hl 6 rfl) ?_
                    refine va_get (D := (dC, dI)) (ci := 9) (v := .ref nw) (C := RX9) (T := TX9) (N := 13) hx hb hts zl_X9 hown hK hP 0 rfl rfl 4 (by decide) (hts _ zw_t2_193) (fun _ h9 => h9) rfl dX9_hear_211 ?_
                    refine lv_dup hx hb dX9_hear_214 rfl ?_
                    refine va_get (D := (dC, dI)) (ci := 3) (v := .int nw_known) (C := RX3) (T := TX3) (N := 6) hx hb hts zl_X3 hown hK hP 1 rfl rfl 4 (by decide) (hts _ zw_t1_165) (fun _ h9 => h9) rfl dX9_hear_215 ?_
                    refine lv_iload hx hb dX9_hear_218 (lv_at hl 4 rfl) ?_
                    refine lv_aload hx hb dX9_hear_220 (lv_at hl 5 rfl) ?_
                    refine va_get (D := (dC, dI)) (ci := 7) (v := .int tn_strayers) (C := RX7) (T := TX7) (N := 18) hx hb hts zl_X7 hown hK hP 2 rfl rfl 6 (by decide) (hts _ zw_t1_74) (fun _ h9 => h9) rfl dX9_hear_222 ?_
                    refine lv_iand hx hb dX9_hear_225 ?_
                    refine lv_topi (fun x_101 ex_101 => ?_)
                    have b_x_101 : 0 ≤ x_101.toInt ∧ x_101.toInt ≤ 1024 := by rw [ex_101]; exact zi_andL rfl (by first | with_reducible assumption | omega) (by first | with_reducible assumption | omega)
                    refine lv_ior hx hb dX9_hear_226 ?_
                    refine lv_topi (fun x_102 ex_102 => ?_)
                    refine va_put (D := (dC, dI)) (ci := 3) (v := .int x_102) (ty := .int) (C := RX3) (T := TX3) (N := 6) hx hb hts zl_X3 tyX3 tyX3_ok nmX3 hown hK hP hD hS 1 rfl rfl 4 (by decide) (hts _ zw_t1_165) (fun _ h9 => h9) rfl (by decide +kernel) rfl rfl (Nat.le_of_ble_eq_true rfl) dX9_hear_227 (fun H locs hP hD hS => ?_)
                    have hP : va_P (dC, dI) vwCl (zV63 h0 tp h0_tapeLength h0_faultKind h0_faultPlace nw im sl rd wk fm mt ch dy nw nw_isKept tn nw_strayed nw_names x_102 nw_gone tn tn_hours tn_courts tn_gateCount tn_people tn_lines tn_falseHours tn_strayers tn_deep tn_above tn_doors tn_degrees tn_neighbours tn_shows tn_oneEnd tn_otherEnd tn_told tn_strayParts tn_strayCourts tn_shows cA_tn_shows f_tn_shows tn_told cA_tn_told f_tn_told tn_strayCourts cA_tn_strayCourts f_tn_strayCourts) H := hP
                    have hD : va_D A (zV63 h0 tp h0_tapeLength h0_faultKind h0_faultPlace nw im sl rd wk fm mt ch dy nw nw_isKept tn nw_strayed nw_names x_102 nw_gone tn tn_hours tn_courts tn_gateCount tn_people tn_lines tn_falseHours tn_strayers tn_deep tn_above tn_doors tn_degrees tn_neighbours tn_shows tn_oneEnd tn_otherEnd tn_told tn_strayParts tn_strayCourts tn_shows cA_tn_shows f_tn_shows tn_told cA_tn_told f_tn_told tn_strayCourts cA_tn_strayCourts f_tn_strayCourts) := hD
                    refine lv_iload hx hb dX9_hear_230 (lv_at hl 1 rfl) ?_
                    refine lv_if_eq (tgt := 249) hx hb dX9_hear_232 (by decide) (fun q => absurd q (by decide)) (fun _ => ?_)
                    refine lv_aload_n hx hb dX9_hear_235 rfl (lv_at hl 6 rfl) ?_
                    refine va_get (D := (dC, dI)) (ci := 9) (v := .ref nw) (C := RX9) (T := TX9) (N := 13) hx hb hts zl_X9 hown hK hP 0 rfl rfl 4 (by decide) (hts _ zw_t2_193) (fun _ h9 => h9) rfl dX9_hear_236 ?_
                    refine lv_dup hx hb dX9_hear_239 rfl ?_
                    refine va_get (D := (dC, dI)) (ci := 3) (v := .int nw_gone) (C := RX3) (T := TX3) (N := 6) hx hb hts zl_X3 hown hK hP 1 rfl rfl 5 (by decide) (hts _ zw_t1_168) (fun _ h9 => h9) rfl dX9_hear_240 ?_
                    refine lv_iload hx hb dX9_hear_243 (lv_at hl 4 rfl) ?_
                    refine lv_ior hx hb dX9_hear_245 ?_
                    refine lv_topi (fun x_103 ex_103 => ?_)
                    refine va_put (D := (dC, dI)) (ci := 3) (v := .int x_103) (ty := .int) (C := RX3) (T := TX3) (N := 6) hx hb hts zl_X3 tyX3 tyX3_ok nmX3 hown hK hP hD hS 1 rfl rfl 5 (by decide) (hts _ zw_t1_168) (fun _ h9 => h9) rfl (by decide +kernel) rfl rfl (Nat.le_of_ble_eq_true rfl) dX9_hear_246 (fun H locs hP hD hS => ?_)
                    have hP : va_P (dC, dI) vwCl (zV63 h0 tp h0_tapeLength h0_faultKind h0_faultPlace nw im sl rd wk fm mt ch dy nw nw_isKept tn nw_strayed nw_names x_102 x_103 tn tn_hours tn_courts tn_gateCount tn_people tn_lines tn_falseHours tn_strayers tn_deep tn_above tn_doors tn_degrees tn_neighbours tn_shows tn_oneEnd tn_otherEnd tn_told tn_strayParts tn_strayCourts tn_shows cA_tn_shows f_tn_shows tn_told cA_tn_told f_tn_told tn_strayCourts cA_tn_strayCourts f_tn_strayCourts) H := hP
                    have hD : va_D A (zV63 h0 tp h0_tapeLength h0_faultKind h0_faultPlace nw im sl rd wk fm mt ch dy nw nw_isKept tn nw_strayed nw_names x_102 x_103 tn tn_hours tn_courts tn_gateCount tn_people tn_lines tn_falseHours tn_strayers tn_deep tn_above tn_doors tn_degrees tn_neighbours tn_shows tn_oneEnd tn_otherEnd tn_told tn_strayParts tn_strayCourts tn_shows cA_tn_shows f_tn_shows tn_told cA_tn_told f_tn_told tn_strayCourts cA_tn_strayCourts f_tn_strayCourts) := hD
                    refine lv_iconst (v := 1) hx hb dX9_hear_249 (by decide) ?_
                    exact W.iret (v := 1) hx hb hr (fun t ht hW => by rw [← hQe]; exact ⟨⟨1, (), rfl, (by decide), ⟨x_102, x_103, z_ret hP hK hD ht hW [0, 1, 2, 3, 4, 5] [] rfl (by decide) rfl⟩⟩, hS.F ht⟩) hS.2.2 dX9_hear_250
                · have ic_97 := zz_nne rfl (show Int32.toInt 0 = 0 from by decide) c_97
                  refine lv_iconst (v := 1) hx hb dX9_hear_119 (by decide) ?_
                  refine lv_goto (tgt := 124) hx hb dX9_hear_120 (by decide) ?_
                  refine lv_istore (lv' := [(8, .int 1), (7, .int 1), (6, .int x_7), (5, .ref tn), (0, .ref h0), (1, .int p1), (2, .int p2), (3, .int p3), (4, .int p4)]) hx hb dX9_hear_124 hl (by decide) rfl (fun ls hl => ?_)
                  refine lv_iload hx hb dX9_hear_126 (lv_at hl 1 rfl) ?_
                  refine lv_if_eq (tgt := 153) hx hb dX9_hear_128 (by decide) (fun q => absurd q (by decide)) (fun _ => ?_)
                  refine lv_aload hx hb dX9_hear_131 (lv_at hl 3 rfl) ?_
                  refine lv_iload_n hx hb dX9_hear_133 rfl (lv_at hl 5 rfl) ?_
                  refine lv_iload_n hx hb dX9_hear_134 rfl (lv_at hl 7 rfl) ?_
                  refine lv_iload hx hb dX9_hear_135 (lv_at hl 2 rfl) ?_
                  obtain ⟨hPc, hDc, hFc⟩ := z_cut (wc := (zV3 tn tn_hours tn_courts tn_gateCount tn_people tn_lines tn_falseHours tn_strayers tn_deep tn_above tn_doors tn_degrees tn_neighbours tn_shows tn_oneEnd tn_otherEnd tn_told tn_strayParts tn_strayCourts tn_shows cA_tn_shows f_tn_shows tn_told cA_tn_told f_tn_told tn_strayCourts cA_tn_strayCourts f_tn_strayCourts)) hP hD hS hA [5, 2, 3, 4] rfl (by decide +kernel)
                  have hKc := hK.sub (tys' := [(cA_tn_shows, .int), (cA_tn_told, .int), (cA_tn_strayCourts, .int)]) [0, 1, 2] rfl
                  refine va_calli (va_runV (As := [.int p1, .int p3, .int x_7]) (rest := []) ⟨hx, hb, hml, hown, hts⟩ (k_X7_showsOf l sa dC dI tn p1 p3 x_7 tn_hours tn_courts tn_gateCount tn_people tn_lines tn_falseHours tn_strayers tn_deep tn_above tn_doors tn_degrees tn_neighbours tn_shows tn_oneEnd tn_otherEnd tn_told tn_strayParts tn_strayCourts cA_tn_shows f_tn_shows cA_tn_told f_tn_told cA_tn_strayCourts f_tn_strayCourts (by first | with_reducible assumption | omega) (by first | with_reducible assumption | omega) b_tn_hours b_tn_courts b_tn_gateCount b_tn_people b_tn_falseHours b_tn_deep b_f_tn_told b_f_tn_strayCourts H.size) (cwV 3 hts (z_gV zw_t5_133 zw_t3_206 zw_t3_207 zw_t1_3 zw_t3_208) rfl rfl rfl (by decide +kernel) (by rw [← hRe]; exact ⟨(Nat.le_of_ble_eq_true rfl), (Nat.le_of_ble_eq_true rfl)⟩)) (z_preV hPc hKc hDc hN hXs hS hFc (q := (RX7, TX7, 18)) (ci := 7) (q0 := 0) rfl rfl) rfl rfl hl.1 rfl (lv_room (Nat.le_of_ble_eq_true rfl)) dX9_hear_137 (by rw [← hRe]; exact ⟨(Nat.le_of_ble_eq_true rfl), (Nat.le_of_ble_eq_true rfl)⟩)) hS (fun q _ h => hFc q h) hFc (fun r_104 u t H1 locs ht hvm hw hB hz1 hk1 hS => ?_)
                  obtain ⟨hP, hD, hK⟩ := z_after3 (wn := (zV63 h0 tp h0_tapeLength h0_faultKind h0_faultPlace nw im sl rd wk fm mt ch dy nw nw_isKept tn nw_strayed nw_names nw_known nw_gone tn tn_hours tn_courts tn_gateCount tn_people tn_lines tn_falseHours tn_strayers tn_deep tn_above tn_doors tn_degrees tn_neighbours tn_shows tn_oneEnd tn_otherEnd tn_told tn_strayParts tn_strayCourts tn_shows cA_tn_shows f_tn_shows tn_told cA_tn_told f_tn_told tn_strayCourts cA_tn_strayCourts f_tn_strayCourts)) hB ht hvm hP hD hK [5, 2, 3, 4] [0, 1] rfl 6 rfl (by decide +kernel) rfl (by decide +kernel) hk1 hFc
                  generalize H1 = H at hP hS ⊢
                  have hK : va_K (dC, dI) vwCl [(cA_tn_shows, .int), (cA_tn_told, .int), (cA_tn_strayCourts, .int)] s := hK
                  refine lv_iload_n hx hb dX9_hear_140 rfl (lv_at hl 6 rfl) ?_
                  obtain ⟨hPc, hDc, hFc⟩ := z_cut (wc := []) hP hD hS hA [] rfl (by decide +kernel)
                  have hKc := hK.sub (tys' := []) [] rfl
                  refine va_calli (va_runS (As := [.int r_104, .int p2]) (rest := []) ⟨hx, hb, hml, hown, hts⟩ (k_X9_has l sa dC dI r_104 p2 H.size) (va_cwS 2 hts (z_gS zw_t4_12 zw_t3_123 zw_t1_1 zw_t3_124) rfl rfl rfl (by decide +kernel) (by rw [← hRe]; exact ⟨(Nat.le_of_ble_eq_true rfl), (Nat.le_of_ble_eq_true rfl)⟩)) (z_preS hPc hKc hDc hN hXs hS hFc) rfl rfl hl.1 rfl (lv_room (Nat.le_of_ble_eq_true rfl)) dX9_hear_141 (by rw [← hRe]; exact ⟨(Nat.le_of_ble_eq_true rfl), (Nat.le_of_ble_eq_true rfl)⟩)) hS (fun q _ h => hFc q h) hFc (fun r_105 u t H1 locs ht hvm hw hB hz1 hk1 hS => ?_)
                  obtain ⟨hP, hD, hK⟩ := z_after3 (wn := (zV63 h0 tp h0_tapeLength h0_faultKind h0_faultPlace nw im sl rd wk fm mt ch dy nw nw_isKept tn nw_strayed nw_names nw_known nw_gone tn tn_hours tn_courts tn_gateCount tn_people tn_lines tn_falseHours tn_strayers tn_deep tn_above tn_doors tn_degrees tn_neighbours tn_shows tn_oneEnd tn_otherEnd tn_told tn_strayParts tn_strayCourts tn_shows cA_tn_shows f_tn_shows tn_told cA_tn_told f_tn_told tn_strayCourts cA_tn_strayCourts f_tn_strayCourts)) hB ht hvm hP hD hK [] [0, 1, 2, 3, 4, 5] rfl 6 rfl (by decide +kernel) rfl (by decide +kernel) hk1 hFc
                  generalize H1 = H at hP hS ⊢
                  have hK : va_K (dC, dI) vwCl [(cA_tn_shows, .int), (cA_tn_told, .int), (cA_tn_strayCourts, .int)] s := hK
                  have b_r_105 : 0 ≤ r_105.toInt ∧ r_105.toInt ≤ 1 := hw
                  refine lv_iload hx hb dX9_hear_144 (lv_at hl 8 rfl) ?_
                  have nb_p4 := zi_nb p4
                  refine lv_icmp_ne (tgt := 153) hx hb dX9_hear_146 (by decide) (fun c_106 => ?_) (fun c_106 => ?_)
                  · have ic_106 := zz_ne rfl rfl c_106
                    refine lv_iconst (v := 0) hx hb dX9_hear_153 (by decide) ?_
                    refine lv_istore (lv' := [(9, .int 0), (8, .int 1), (7, .int 1), (6, .int x_7), (5, .ref tn), (0, .ref h0), (1, .int p1), (2, .int p2), (3, .int p3), (4, .int p4)]) hx hb dX9_hear_154 hl (by decide) rfl (fun ls hl => ?_)
                    refine lv_iload hx hb dX9_hear_156 (lv_at hl 1 rfl) ?_
                    refine lv_if_eq (tgt := 182) hx hb dX9_hear_158 (by decide) (fun q => absurd q (by decide)) (fun _ => ?_)
                    refine lv_aload hx hb dX9_hear_161 (lv_at hl 4 rfl) ?_
                    refine lv_iload_n hx hb dX9_hear_163 rfl (lv_at hl 6 rfl) ?_
                    refine lv_iload_n hx hb dX9_hear_164 rfl (lv_at hl 8 rfl) ?_
                    refine lv_iconst (v := 0) hx hb dX9_hear_165 (by decide) ?_
                    obtain ⟨hPc, hDc, hFc⟩ := z_cut (wc := (zV3 tn tn_hours tn_courts tn_gateCount tn_people tn_lines tn_falseHours tn_strayers tn_deep tn_above tn_doors tn_degrees tn_neighbours tn_shows tn_oneEnd tn_otherEnd tn_told tn_strayParts tn_strayCourts tn_shows cA_tn_shows f_tn_shows tn_told cA_tn_told f_tn_told tn_strayCourts cA_tn_strayCourts f_tn_strayCourts)) hP hD hS hA [2, 3, 4, 5] rfl (by decide +kernel)
                    have hKc := hK.sub (tys' := [(cA_tn_shows, .int), (cA_tn_told, .int), (cA_tn_strayCourts, .int)]) [0, 1, 2] rfl
                    refine va_calli (va_runV (As := [.int p1, .int p3, .int 0]) (rest := []) ⟨hx, hb, hml, hown, hts⟩ (k_X7_showsOf l sa dC dI tn p1 p3 (0) tn_hours tn_courts tn_gateCount tn_people tn_lines tn_falseHours tn_strayers tn_deep tn_above tn_doors tn_degrees tn_neighbours tn_shows tn_oneEnd tn_otherEnd tn_told tn_strayParts tn_strayCourts cA_tn_shows f_tn_shows cA_tn_told f_tn_told cA_tn_strayCourts f_tn_strayCourts (by first | with_reducible assumption | omega) (by first | with_reducible assumption | omega) b_tn_hours b_tn_courts b_tn_gateCount b_tn_people b_tn_falseHours b_tn_deep b_f_tn_told b_f_tn_strayCourts H.size) (cwV 3 hts (z_gV zw_t5_133 zw_t3_206 zw_t3_207 zw_t1_3 zw_t3_208) rfl rfl rfl (by decide +kernel) (by rw [← hRe]; exact ⟨(Nat.le_of_ble_eq_true rfl), (Nat.le_of_ble_eq_true rfl)⟩)) (z_preV hPc hKc hDc hN hXs hS hFc (q := (RX7, TX7, 18)) (ci := 7) (q0 := 0) rfl rfl) rfl rfl hl.1 rfl (lv_room (Nat.le_of_ble_eq_true rfl)) dX9_hear_166 (by rw [← hRe]; exact ⟨(Nat.le_of_ble_eq_true rfl), (Nat.le_of_ble_eq_true rfl)⟩)) hS (fun q _ h => hFc q h) hFc (fun r_107 u t H1 locs ht hvm hw hB hz1 hk1 hS => ?_)
                    obtain ⟨hP, hD, hK⟩ := z_after3 (wn := (zV63 h0 tp h0_tapeLength h0_faultKind h0_faultPlace nw im sl rd wk fm mt ch dy nw nw_isKept tn nw_strayed nw_names nw_known nw_gone tn tn_hours tn_courts tn_gateCount tn_people tn_lines tn_falseHours tn_strayers tn_deep tn_above tn_doors tn_degrees tn_neighbours tn_shows tn_oneEnd tn_otherEnd tn_told tn_strayParts tn_strayCourts tn_shows cA_tn_shows f_tn_shows tn_told cA_tn_told f_tn_told tn_strayCourts cA_tn_strayCourts f_tn_strayCourts)) hB ht hvm hP hD hK [2, 3, 4, 5] [0, 1] rfl 6 rfl (by decide +kernel) rfl (by decide +kernel) hk1 hFc
                    generalize H1 = H at hP hS ⊢
                    have hK : va_K (dC, dI) vwCl [(cA_tn_shows, .int), (cA_tn_told, .int), (cA_tn_strayCourts, .int)] s := hK
                    refine lv_iload_n hx hb dX9_hear_169 rfl (lv_at hl 7 rfl) ?_
                    obtain ⟨hPc, hDc, hFc⟩ := z_cut (wc := []) hP hD hS hA [] rfl (by decide +kernel)
                    have hKc := hK.sub (tys' := []) [] rfl
                    refine va_calli (va_runS (As := [.int r_107, .int p2]) (rest := []) ⟨hx, hb, hml, hown, hts⟩ (k_X9_has l sa dC dI r_107 p2 H.size) (va_cwS 2 hts (z_gS zw_t4_12 zw_t3_123 zw_t1_1 zw_t3_124) rfl rfl rfl (by decide +kernel) (by rw [← hRe]; exact ⟨(Nat.le_of_ble_eq_true rfl), (Nat.le_of_ble_eq_true rfl)⟩)) (z_preS hPc hKc hDc hN hXs hS hFc) rfl rfl hl.1 rfl (lv_room (Nat.le_of_ble_eq_true rfl)) dX9_hear_170 (by rw [← hRe]; exact ⟨(Nat.le_of_ble_eq_true rfl), (Nat.le_of_ble_eq_true rfl)⟩)) hS (fun q _ h => hFc q h) hFc (fun r_108 u t H1 locs ht hvm hw hB hz1 hk1 hS => ?_)
                    obtain ⟨hP, hD, hK⟩ := z_after3 (wn := (zV63 h0 tp h0_tapeLength h0_faultKind h0_faultPlace nw im sl rd wk fm mt ch dy nw nw_isKept tn nw_strayed nw_names nw_known nw_gone tn tn_hours tn_courts tn_gateCount tn_people tn_lines tn_falseHours tn_strayers tn_deep tn_above tn_doors tn_degrees tn_neighbours tn_shows tn_oneEnd tn_otherEnd tn_told tn_strayParts tn_strayCourts tn_shows cA_tn_shows f_tn_shows tn_told cA_tn_told f_tn_told tn_strayCourts cA_tn_strayCourts f_tn_strayCourts)) hB ht hvm hP hD hK [] [0, 1, 2, 3, 4, 5] rfl 6 rfl (by decide +kernel) rfl (by decide +kernel) hk1 hFc
                    generalize H1 = H at hP hS ⊢
                    have hK : va_K (dC, dI) vwCl [(cA_tn_shows, .int), (cA_tn_told, .int), (cA_tn_strayCourts, .int)] s := hK
                    have b_r_108 : 0 ≤ r_108.toInt ∧ r_108.toInt ≤ 1 := hw
                    refine lv_iload hx hb dX9_hear_173 (lv_at hl 9 rfl) ?_
                    refine lv_icmp_ne (tgt := 182) hx hb dX9_hear_175 (by decide) (fun c_109 => ?_) (fun c_109 => ?_)
                    · have ic_109 := zz_ne rfl rfl c_109
                      refine lv_iconst (v := 0) hx hb dX9_hear_182 (by decide) ?_
                      refine lv_istore (lv' := [(10, .int 0), (9, .int 0), (8, .int 1), (7, .int 1), (6, .int x_7), (5, .ref tn), (0, .ref h0), (1, .int p1), (2, .int p2), (3, .int p3), (4, .int p4)]) hx hb dX9_hear_183 hl (by decide) rfl (fun ls hl => ?_)
                      refine lv_iload hx hb dX9_hear_185 (lv_at hl 1 rfl) ?_
                      refine lv_if_ne (tgt := 198) hx hb dX9_hear_187 (by decide) (fun q => absurd q (by decide)) (fun _ => ?_)
                      refine lv_iload hx hb dX9_hear_190 (lv_at hl 0 rfl) ?_
                      refine lv_if_ne (tgt := 198) hx hb dX9_hear_192 (by decide) (fun q => absurd q (by decide)) (fun _ => ?_)
                      refine lv_bipush (v := (-5)) hx hb dX9_hear_195 (by decide) ?_
                      exact W.iret (v := (-5)) hx hb hr (fun t ht hW => by rw [← hQe]; exact ⟨⟨(-5), (), rfl, (by decide), ⟨nw_known, nw_gone, z_ret hP hK hD ht hW [0, 1, 2, 3, 4, 5] [] rfl (by decide) rfl⟩⟩, hS.F ht⟩) hS.2.2 dX9_hear_197
                    · have ic_109 := zz_nne rfl rfl c_109
                      refine lv_iconst (v := 1) hx hb dX9_hear_178 (by decide) ?_
                      refine lv_goto (tgt := 183) hx hb dX9_hear_179 (by decide) ?_
                      refine lv_istore (lv' := [(10, .int 1), (9, .int 0), (8, .int 1), (7, .int 1), (6, .int x_7), (5, .ref tn), (0, .ref h0), (1, .int p1), (2, .int p2), (3, .int p3), (4, .int p4)]) hx hb dX9_hear_183 hl (by decide) rfl (fun ls hl => ?_)
                      refine lv_iload hx hb dX9_hear_185 (lv_at hl 1 rfl) ?_
                      refine lv_if_ne (tgt := 198) hx hb dX9_hear_187 (by decide) (fun q => absurd q (by decide)) (fun _ => ?_)
                      refine lv_iload hx hb dX9_hear_190 (lv_at hl 0 rfl) ?_
                      refine lv_if_ne (tgt := 198) hx hb dX9_hear_192 (by decide) (fun _ => ?_) (fun q => absurd q (by decide))
                      refine lv_iload hx hb dX9_hear_198 (lv_at hl 1 rfl) ?_
                      refine lv_if_eq (tgt := 210) hx hb dX9_hear_200 (by decide) (fun _ => ?_) (fun q => absurd q (by decide))
                      refine lv_aload_n hx hb dX9_hear_210 rfl (lv_at hl 6 rfl) ?_
                      refine va_get (D := (dC, dI)) (ci := 9) (v := .ref nw) (C := RX9) (T := TX9) (N := 13) hx hb hts zl_X9 hown hK hP 0 rfl rfl 4 (by decide) (hts _ zw_t2_193) (fun _ h9 => h9) rfl dX9_hear_211 ?_
                      refine lv_dup hx hb dX9_hear_214 rfl ?_
                      refine va_get (D := (dC, dI)) (ci := 3) (v := .int nw_known) (C := RX3) (T := TX3) (N := 6) hx hb hts zl_X3 hown hK hP 1 rfl rfl 4 (by decide) (hts _ zw_t1_165) (fun _ h9 => h9) rfl dX9_hear_215 ?_
                      refine lv_iload hx hb dX9_hear_218 (lv_at hl 4 rfl) ?_
                      refine lv_aload hx hb dX9_hear_220 (lv_at hl 5 rfl) ?_
                      refine va_get (D := (dC, dI)) (ci := 7) (v := .int tn_strayers) (C := RX7) (T := TX7) (N := 18) hx hb hts zl_X7 hown hK hP 2 rfl rfl 6 (by decide) (hts _ zw_t1_74) (fun _ h9 => h9) rfl dX9_hear_222 ?_
                      refine lv_iand hx hb dX9_hear_225 ?_
                      refine lv_topi (fun x_110 ex_110 => ?_)
                      have b_x_110 : 0 ≤ x_110.toInt ∧ x_110.toInt ≤ 1024 := by rw [ex_110]; exact zi_andL rfl (by first | with_reducible assumption | omega) (by first | with_reducible assumption | omega)
                      refine lv_ior hx hb dX9_hear_226 ?_
                      refine lv_topi (fun x_111 ex_111 => ?_)
                      refine va_put (D := (dC, dI)) (ci := 3) (v := .int x_111) (ty := .int) (C := RX3) (T := TX3) (N := 6) hx hb hts zl_X3 tyX3 tyX3_ok nmX3 hown hK hP hD hS 1 rfl rfl 4 (by decide) (hts _ zw_t1_165) (fun _ h9 => h9) rfl (by decide +kernel) rfl rfl (Nat.le_of_ble_eq_true rfl) dX9_hear_227 (fun H locs hP hD hS => ?_)
                      have hP : va_P (dC, dI) vwCl (zV63 h0 tp h0_tapeLength h0_faultKind h0_faultPlace nw im sl rd wk fm mt ch dy nw nw_isKept tn nw_strayed nw_names x_111 nw_gone tn tn_hours tn_courts tn_gateCount tn_people tn_lines tn_falseHours tn_strayers tn_deep tn_above tn_doors tn_degrees tn_neighbours tn_shows tn_oneEnd tn_otherEnd tn_told tn_strayParts tn_strayCourts tn_shows cA_tn_shows f_tn_shows tn_told cA_tn_told f_tn_told tn_strayCourts cA_tn_strayCourts f_tn_strayCourts) H := hP
                      have hD : va_D A (zV63 h0 tp h0_tapeLength h0_faultKind h0_faultPlace nw im sl rd wk fm mt ch dy nw nw_isKept tn nw_strayed nw_names x_111 nw_gone tn tn_hours tn_courts tn_gateCount tn_people tn_lines tn_falseHours tn_strayers tn_deep tn_above tn_doors tn_degrees tn_neighbours tn_shows tn_oneEnd tn_otherEnd tn_told tn_strayParts tn_strayCourts tn_shows cA_tn_shows f_tn_shows tn_told cA_tn_told f_tn_told tn_strayCourts cA_tn_strayCourts f_tn_strayCourts) := hD
                      refine lv_iload hx hb dX9_hear_230 (lv_at hl 1 rfl) ?_
                      refine lv_if_eq (tgt := 249) hx hb dX9_hear_232 (by decide) (fun _ => ?_) (fun q => absurd q (by decide))
                      refine lv_iconst (v := 1) hx hb dX9_hear_249 (by decide) ?_
                      exact W.iret (v := 1) hx hb hr (fun t ht hW => by rw [← hQe]; exact ⟨⟨1, (), rfl, (by decide), ⟨x_111, nw_gone, z_ret hP hK hD ht hW [0, 1, 2, 3, 4, 5] [] rfl (by decide) rfl⟩⟩, hS.F ht⟩) hS.2.2 dX9_hear_250
                  · have ic_106 := zz_nne rfl rfl c_106
                    refine lv_iconst (v := 1) hx hb dX9_hear_149 (by decide) ?_
                    refine lv_goto (tgt := 154) hx hb dX9_hear_150 (by decide) ?_
                    refine lv_istore (lv' := [(9, .int 1), (8, .int 1), (7, .int 1), (6, .int x_7), (5, .ref tn), (0, .ref h0), (1, .int p1), (2, .int p2), (3, .int p3), (4, .int p4)]) hx hb dX9_hear_154 hl (by decide) rfl (fun ls hl => ?_)
                    refine lv_iload hx hb dX9_hear_156 (lv_at hl 1 rfl) ?_
                    refine lv_if_eq (tgt := 182) hx hb dX9_hear_158 (by decide) (fun q => absurd q (by decide)) (fun _ => ?_)
                    refine lv_aload hx hb dX9_hear_161 (lv_at hl 4 rfl) ?_
                    refine lv_iload_n hx hb dX9_hear_163 rfl (lv_at hl 6 rfl) ?_
                    refine lv_iload_n hx hb dX9_hear_164 rfl (lv_at hl 8 rfl) ?_
                    refine lv_iconst (v := 0) hx hb dX9_hear_165 (by decide) ?_
                    obtain ⟨hPc, hDc, hFc⟩ := z_cut (wc := (zV3 tn tn_hours tn_courts tn_gateCount tn_people tn_lines tn_falseHours tn_strayers tn_deep tn_above tn_doors tn_degrees tn_neighbours tn_shows tn_oneEnd tn_otherEnd tn_told tn_strayParts tn_strayCourts tn_shows cA_tn_shows f_tn_shows tn_told cA_tn_told f_tn_told tn_strayCourts cA_tn_strayCourts f_tn_strayCourts)) hP hD hS hA [2, 3, 4, 5] rfl (by decide +kernel)
                    have hKc := hK.sub (tys' := [(cA_tn_shows, .int), (cA_tn_told, .int), (cA_tn_strayCourts, .int)]) [0, 1, 2] rfl
                    refine va_calli (va_runV (As := [.int p1, .int p3, .int 0]) (rest := []) ⟨hx, hb, hml, hown, hts⟩ (k_X7_showsOf l sa dC dI tn p1 p3 (0) tn_hours tn_courts tn_gateCount tn_people tn_lines tn_falseHours tn_strayers tn_deep tn_above tn_doors tn_degrees tn_neighbours tn_shows tn_oneEnd tn_otherEnd tn_told tn_strayParts tn_strayCourts cA_tn_shows f_tn_shows cA_tn_told f_tn_told cA_tn_strayCourts f_tn_strayCourts (by first | with_reducible assumption | omega) (by first | with_reducible assumption | omega) b_tn_hours b_tn_courts b_tn_gateCount b_tn_people b_tn_falseHours b_tn_deep b_f_tn_told b_f_tn_strayCourts H.size) (cwV 3 hts (z_gV zw_t5_133 zw_t3_206 zw_t3_207 zw_t1_3 zw_t3_208) rfl rfl rfl (by decide +kernel) (by rw [← hRe]; exact ⟨(Nat.le_of_ble_eq_true rfl), (Nat.le_of_ble_eq_true rfl)⟩)) (z_preV hPc hKc hDc hN hXs hS hFc (q := (RX7, TX7, 18)) (ci := 7) (q0 := 0) rfl rfl) rfl rfl hl.1 rfl (lv_room (Nat.le_of_ble_eq_true rfl)) dX9_hear_166 (by rw [← hRe]; exact ⟨(Nat.le_of_ble_eq_true rfl), (Nat.le_of_ble_eq_true rfl)⟩)) hS (fun q _ h => hFc q h) hFc (fun r_112 u t H1 locs ht hvm hw hB hz1 hk1 hS => ?_)
                    obtain ⟨hP, hD, hK⟩ := z_after3 (wn := (zV63 h0 tp h0_tapeLength h0_faultKind h0_faultPlace nw im sl rd wk fm mt ch dy nw nw_isKept tn nw_strayed nw_names nw_known nw_gone tn tn_hours tn_courts tn_gateCount tn_people tn_lines tn_falseHours tn_strayers tn_deep tn_above tn_doors tn_degrees tn_neighbours tn_shows tn_oneEnd tn_otherEnd tn_told tn_strayParts tn_strayCourts tn_shows cA_tn_shows f_tn_shows tn_told cA_tn_told f_tn_told tn_strayCourts cA_tn_strayCourts f_tn_strayCourts)) hB ht hvm hP hD hK [2, 3, 4, 5] [0, 1] rfl 6 rfl (by decide +kernel) rfl (by decide +kernel) hk1 hFc
                    generalize H1 = H at hP hS ⊢
                    have hK : va_K (dC, dI) vwCl [(cA_tn_shows, .int), (cA_tn_told, .int), (cA_tn_strayCourts, .int)] s := hK
                    refine lv_iload_n hx hb dX9_hear_169 rfl (lv_at hl 7 rfl) ?_
                    obtain ⟨hPc, hDc, hFc⟩ := z_cut (wc := []) hP hD hS hA [] rfl (by decide +kernel)
                    have hKc := hK.sub (tys' := []) [] rfl
                    refine va_calli (va_runS (As := [.int r_112, .int p2]) (rest := []) ⟨hx, hb, hml, hown, hts⟩ (k_X9_has l sa dC dI r_112 p2 H.size) (va_cwS 2 hts (z_gS zw_t4_12 zw_t3_123 zw_t1_1 zw_t3_124) rfl rfl rfl (by decide +kernel) (by rw [← hRe]; exact ⟨(Nat.le_of_ble_eq_true rfl), (Nat.le_of_ble_eq_true rfl)⟩)) (z_preS hPc hKc hDc hN hXs hS hFc) rfl rfl hl.1 rfl (lv_room (Nat.le_of_ble_eq_true rfl)) dX9_hear_170 (by rw [← hRe]; exact ⟨(Nat.le_of_ble_eq_true rfl), (Nat.le_of_ble_eq_true rfl)⟩)) hS (fun q _ h => hFc q h) hFc (fun r_113 u t H1 locs ht hvm hw hB hz1 hk1 hS => ?_)
                    obtain ⟨hP, hD, hK⟩ := z_after3 (wn := (zV63 h0 tp h0_tapeLength h0_faultKind h0_faultPlace nw im sl rd wk fm mt ch dy nw nw_isKept tn nw_strayed nw_names nw_known nw_gone tn tn_hours tn_courts tn_gateCount tn_people tn_lines tn_falseHours tn_strayers tn_deep tn_above tn_doors tn_degrees tn_neighbours tn_shows tn_oneEnd tn_otherEnd tn_told tn_strayParts tn_strayCourts tn_shows cA_tn_shows f_tn_shows tn_told cA_tn_told f_tn_told tn_strayCourts cA_tn_strayCourts f_tn_strayCourts)) hB ht hvm hP hD hK [] [0, 1, 2, 3, 4, 5] rfl 6 rfl (by decide +kernel) rfl (by decide +kernel) hk1 hFc
                    generalize H1 = H at hP hS ⊢
                    have hK : va_K (dC, dI) vwCl [(cA_tn_shows, .int), (cA_tn_told, .int), (cA_tn_strayCourts, .int)] s := hK
                    have b_r_113 : 0 ≤ r_113.toInt ∧ r_113.toInt ≤ 1 := hw
                    refine lv_iload hx hb dX9_hear_173 (lv_at hl 9 rfl) ?_
                    refine lv_icmp_ne (tgt := 182) hx hb dX9_hear_175 (by decide) (fun c_114 => ?_) (fun c_114 => ?_)
                    · have ic_114 := zz_ne rfl rfl c_114
                      refine lv_iconst (v := 0) hx hb dX9_hear_182 (by decide) ?_
                      refine lv_istore (lv' := [(10, .int 0), (9, .int 1), (8, .int 1), (7, .int 1), (6, .int x_7), (5, .ref tn), (0, .ref h0), (1, .int p1), (2, .int p2), (3, .int p3), (4, .int p4)]) hx hb dX9_hear_183 hl (by decide) rfl (fun ls hl => ?_)
                      refine lv_iload hx hb dX9_hear_185 (lv_at hl 1 rfl) ?_
                      refine lv_if_ne (tgt := 198) hx hb dX9_hear_187 (by decide) (fun _ => ?_) (fun q => absurd q (by decide))
                      refine lv_iload hx hb dX9_hear_198 (lv_at hl 1 rfl) ?_
                      refine lv_if_eq (tgt := 210) hx hb dX9_hear_200 (by decide) (fun q => absurd q (by decide)) (fun _ => ?_)
                      refine lv_iload hx hb dX9_hear_203 (lv_at hl 0 rfl) ?_
                      refine lv_if_eq (tgt := 210) hx hb dX9_hear_205 (by decide) (fun _ => ?_) (fun q => absurd q (by decide))
                      refine lv_aload_n hx hb dX9_hear_210 rfl (lv_at hl 6 rfl) ?_
                      refine va_get (D := (dC, dI)) (ci := 9) (v := .ref nw) (C := RX9) (T := TX9) (N := 13) hx hb hts zl_X9 hown hK hP 0 rfl rfl 4 (by decide) (hts _ zw_t2_193) (fun _ h9 => h9) rfl dX9_hear_211 ?_
                      refine lv_dup hx hb dX9_hear_214 rfl ?_
                      refine va_get (D := (dC, dI)) (ci := 3) (v := .int nw_known) (C := RX3) (T := TX3) (N := 6) hx hb hts zl_X3 hown hK hP 1 rfl rfl 4 (by decide) (hts _ zw_t1_165) (fun _ h9 => h9) rfl dX9_hear_215 ?_
                      refine lv_iload hx hb dX9_hear_218 (lv_at hl 4 rfl) ?_
                      refine lv_aload hx hb dX9_hear_220 (lv_at hl 5 rfl) ?_
                      refine va_get (D := (dC, dI)) (ci := 7) (v := .int tn_strayers) (C := RX7) (T := TX7) (N := 18) hx hb hts zl_X7 hown hK hP 2 rfl rfl 6 (by decide) (hts _ zw_t1_74) (fun _ h9 => h9) rfl dX9_hear_222 ?_
                      refine lv_iand hx hb dX9_hear_225 ?_
                      refine lv_topi (fun x_115 ex_115 => ?_)
                      have b_x_115 : 0 ≤ x_115.toInt ∧ x_115.toInt ≤ 1024 := by rw [ex_115]; exact zi_andL rfl (by first | with_reducible assumption | omega) (by first | with_reducible assumption | omega)
                      refine lv_ior hx hb dX9_hear_226 ?_
                      refine lv_topi (fun x_116 ex_116 => ?_)
                      refine va_put (D := (dC, dI)) (ci := 3) (v := .int x_116) (ty := .int) (C := RX3) (T := TX3) (N := 6) hx hb hts zl_X3 tyX3 tyX3_ok nmX3 hown hK hP hD hS 1 rfl rfl 4 (by decide) (hts _ zw_t1_165) (fun _ h9 => h9) rfl (by decide +kernel) rfl rfl (Nat.le_of_ble_eq_true rfl) dX9_hear_227 (fun H locs hP hD hS => ?_)
                      have hP : va_P (dC, dI) vwCl (zV63 h0 tp h0_tapeLength h0_faultKind h0_faultPlace nw im sl rd wk fm mt ch dy nw nw_isKept tn nw_strayed nw_names x_116 nw_gone tn tn_hours tn_courts tn_gateCount tn_people tn_lines tn_falseHours tn_strayers tn_deep tn_above tn_doors tn_degrees tn_neighbours tn_shows tn_oneEnd tn_otherEnd tn_told tn_strayParts tn_strayCourts tn_shows cA_tn_shows f_tn_shows tn_told cA_tn_told f_tn_told tn_strayCourts cA_tn_strayCourts f_tn_strayCourts) H := hP
                      have hD : va_D A (zV63 h0 tp h0_tapeLength h0_faultKind h0_faultPlace nw im sl rd wk fm mt ch dy nw nw_isKept tn nw_strayed nw_names x_116 nw_gone tn tn_hours tn_courts tn_gateCount tn_people tn_lines tn_falseHours tn_strayers tn_deep tn_above tn_doors tn_degrees tn_neighbours tn_shows tn_oneEnd tn_otherEnd tn_told tn_strayParts tn_strayCourts tn_shows cA_tn_shows f_tn_shows tn_told cA_tn_told f_tn_told tn_strayCourts cA_tn_strayCourts f_tn_strayCourts) := hD
                      refine lv_iload hx hb dX9_hear_230 (lv_at hl 1 rfl) ?_
                      refine lv_if_eq (tgt := 249) hx hb dX9_hear_232 (by decide) (fun q => absurd q (by decide)) (fun _ => ?_)
                      refine lv_aload_n hx hb dX9_hear_235 rfl (lv_at hl 6 rfl) ?_
                      refine va_get (D := (dC, dI)) (ci := 9) (v := .ref nw) (C := RX9) (T := TX9) (N := 13) hx hb hts zl_X9 hown hK hP 0 rfl rfl 4 (by decide) (hts _ zw_t2_193) (fun _ h9 => h9) rfl dX9_hear_236 ?_
                      refine lv_dup hx hb dX9_hear_239 rfl ?_
                      refine va_get (D := (dC, dI)) (ci := 3) (v := .int nw_gone) (C := RX3) (T := TX3) (N := 6) hx hb hts zl_X3 hown hK hP 1 rfl rfl 5 (by decide) (hts _ zw_t1_168) (fun _ h9 => h9) rfl dX9_hear_240 ?_
                      refine lv_iload hx hb dX9_hear_243 (lv_at hl 4 rfl) ?_
                      refine lv_ior hx hb dX9_hear_245 ?_
                      refine lv_topi (fun x_117 ex_117 => ?_)
                      refine va_put (D := (dC, dI)) (ci := 3) (v := .int x_117) (ty := .int) (C := RX3) (T := TX3) (N := 6) hx hb hts zl_X3 tyX3 tyX3_ok nmX3 hown hK hP hD hS 1 rfl rfl 5 (by decide) (hts _ zw_t1_168) (fun _ h9 => h9) rfl (by decide +kernel) rfl rfl (Nat.le_of_ble_eq_true rfl) dX9_hear_246 (fun H locs hP hD hS => ?_)
                      have hP : va_P (dC, dI) vwCl (zV63 h0 tp h0_tapeLength h0_faultKind h0_faultPlace nw im sl rd wk fm mt ch dy nw nw_isKept tn nw_strayed nw_names x_116 x_117 tn tn_hours tn_courts tn_gateCount tn_people tn_lines tn_falseHours tn_strayers tn_deep tn_above tn_doors tn_degrees tn_neighbours tn_shows tn_oneEnd tn_otherEnd tn_told tn_strayParts tn_strayCourts tn_shows cA_tn_shows f_tn_shows tn_told cA_tn_told f_tn_told tn_strayCourts cA_tn_strayCourts f_tn_strayCourts) H := hP
                      have hD : va_D A (zV63 h0 tp h0_tapeLength h0_faultKind h0_faultPlace nw im sl rd wk fm mt ch dy nw nw_isKept tn nw_strayed nw_names x_116 x_117 tn tn_hours tn_courts tn_gateCount tn_people tn_lines tn_falseHours tn_strayers tn_deep tn_above tn_doors tn_degrees tn_neighbours tn_shows tn_oneEnd tn_otherEnd tn_told tn_strayParts tn_strayCourts tn_shows cA_tn_shows f_tn_shows tn_told cA_tn_told f_tn_told tn_strayCourts cA_tn_strayCourts f_tn_strayCourts) := hD
                      refine lv_iconst (v := 1) hx hb dX9_hear_249 (by decide) ?_
                      exact W.iret (v := 1) hx hb hr (fun t ht hW => by rw [← hQe]; exact ⟨⟨1, (), rfl, (by decide), ⟨x_116, x_117, z_ret hP hK hD ht hW [0, 1, 2, 3, 4, 5] [] rfl (by decide) rfl⟩⟩, hS.F ht⟩) hS.2.2 dX9_hear_250
                    · have ic_114 := zz_nne rfl rfl c_114
                      refine lv_iconst (v := 1) hx hb dX9_hear_178 (by decide) ?_
                      refine lv_goto (tgt := 183) hx hb dX9_hear_179 (by decide) ?_
                      refine lv_istore (lv' := [(10, .int 1), (9, .int 1), (8, .int 1), (7, .int 1), (6, .int x_7), (5, .ref tn), (0, .ref h0), (1, .int p1), (2, .int p2), (3, .int p3), (4, .int p4)]) hx hb dX9_hear_183 hl (by decide) rfl (fun ls hl => ?_)
                      refine lv_iload hx hb dX9_hear_185 (lv_at hl 1 rfl) ?_
                      refine lv_if_ne (tgt := 198) hx hb dX9_hear_187 (by decide) (fun _ => ?_) (fun q => absurd q (by decide))
                      refine lv_iload hx hb dX9_hear_198 (lv_at hl 1 rfl) ?_
                      refine lv_if_eq (tgt := 210) hx hb dX9_hear_200 (by decide) (fun q => absurd q (by decide)) (fun _ => ?_)
                      refine lv_iload hx hb dX9_hear_203 (lv_at hl 0 rfl) ?_
                      refine lv_if_eq (tgt := 210) hx hb dX9_hear_205 (by decide) (fun q => absurd q (by decide)) (fun _ => ?_)
                      refine lv_iconst (v := 0) hx hb dX9_hear_208 (by decide) ?_
                      exact W.iret (v := 0) hx hb hr (fun t ht hW => by rw [← hQe]; exact ⟨⟨0, (), rfl, (by decide), ⟨nw_known, nw_gone, z_ret hP hK hD ht hW [0, 1, 2, 3, 4, 5] [] rfl (by decide) rfl⟩⟩, hS.F ht⟩) hS.2.2 dX9_hear_209
      · have ic_6 := zz_nne rfl (show Int32.toInt 0 = 0 from by decide) c_6
        refine lv_bipush (v := (-2)) hx hb dX9_hear_36 (by decide) ?_
        exact W.iret (v := (-2)) hx hb hr (fun t ht hW => by rw [← hQe]; exact ⟨⟨(-2), (), rfl, (by decide), ⟨nw_known, nw_gone, z_ret hP hK hD ht hW [0, 1, 5, 2, 3, 4] [] rfl (by decide) rfl⟩⟩, hS.F ht⟩) hS.2.2 dX9_hear_38
set_option maxHeartbeats 4000000 in
set_option maxRecDepth 100000 in
theorem k_X9_forget (l : Launch) (sa : Nat → Nat) (dC : Nat → ClassId) (dI : Nat → Nat → Nat) (h0 : Nat) (tp : Nat) (h0_tapeLength : Int32) (h0_faultKind : Int32) (h0_faultPlace : Int32) (nw : Nat) (im : Nat) (sl : Nat) (rd : Nat) (wk : Nat) (fm : Nat) (mt : Nat) (ch : Nat) (dy : Nat) (nw_isKept : Int32) (tn : Nat) (nw_strayed : Int32) (nw_names : Int32) (nw_known : Int32) (nw_gone : Int32) (b_h0_tapeLength : 0 ≤ h0_tapeLength.toInt ∧ h0_tapeLength.toInt ≤ 1600) (b_nw_isKept : 0 ≤ nw_isKept.toInt ∧ nw_isKept.toInt ≤ 1) (b_nw_names : 0 ≤ nw_names.toInt ∧ nw_names.toInt ≤ 1023) (sz : Nat) : Met l yX9_forget (.code yX9_forget cX9_forget 2 (some .int) :: zT) ({ frames := 1, cells := 0, slots := 0, locals := 20 }) (va_Pc [.ref h0] (zB sa dC dI (zV79 h0 tp h0_tapeLength h0_faultKind h0_faultPlace nw im sl rd wk fm mt ch dy nw nw_isKept tn nw_strayed nw_names nw_known nw_gone) [] sz)) (va_Qi (fun (r : Int32) (_ : Unit) => (0 ≤ r.toInt ∧ r.toInt ≤ 63)) (fun _ t => ∃ (n_nw_4 : Int32) (n_nw_5 : Int32), zW dC dI (zV79 h0 tp h0_tapeLength h0_faultKind h0_faultPlace nw im sl rd wk fm mt ch dy nw nw_isKept tn nw_strayed nw_names n_nw_4 n_nw_5) [] (va_A (zV79 h0 tp h0_tapeLength h0_faultKind h0_faultPlace nw im sl rd wk fm mt ch dy nw nw_isKept tn nw_strayed nw_names nw_known nw_gone) sz) t) (va_A (zV79 h0 tp h0_tapeLength h0_faultKind h0_faultPlace nw im sl rd wk fm mt ch dy nw nw_isKept tn nw_strayed nw_names nw_known nw_gone) sz)) 0 0 (va_A (zV79 h0 tp h0_tapeLength h0_faultKind h0_faultPlace nw im sl rd wk fm mt ch dy nw nw_isKept tn nw_strayed nw_names nw_known nw_gone) sz) := by
  refine z_enter (by decide) (by exact (Nat.le_of_ble_eq_true rfl)) ?_
  intro p e s m args below meth c ls A R Qc hargs hsz hQe hAe hRe hx hb hml hr hts hown hlocks hin hl hP hK hD hN hXs hA hS
  rw [hAe] at hQe
  have hown : s.vm.findClass RX9 = some m.cls := hown
  have hl : lv_has ls 2 [(0, .ref h0)] := hl
  refine lv_aload_n hx hb dX9_forget_0 rfl (lv_at hl 0 rfl) ?_
  refine va_get (D := (dC, dI)) (ci := 9) (v := .ref nw) (C := RX9) (T := TX9) (N := 13) hx hb hts zl_X9 hown hK hP 0 rfl rfl 4 (by decide) (hts _ zw_t2_193) (fun _ h9 => h9) rfl dX9_forget_1 ?_
  refine va_get (D := (dC, dI)) (ci := 3) (v := .int nw_known) (C := RX3) (T := TX3) (N := 6) hx hb hts zl_X3 hown hK hP 1 rfl rfl 4 (by decide) (hts _ zw_t1_165) (fun _ h9 => h9) rfl dX9_forget_4 ?_
  obtain ⟨hPc, hDc, hFc⟩ := z_cut (wc := []) hP hD hS hA [] rfl (by decide +kernel)
  have hKc := hK.sub (tys' := []) [] rfl
  refine va_calli (va_runS (As := [.int nw_known]) (rest := []) ⟨hx, hb, hml, hown, hts⟩ (k_J6_bitCount_0f7a4 l sa dC dI nw_known s.heap.size) (va_cwS 1 hts (z_gS zw_t3_215 zw_t3_216 zw_t1_17 zw_t3_217) rfl rfl rfl (by decide +kernel) (by rw [← hRe]; exact ⟨(Nat.le_of_ble_eq_true rfl), (Nat.le_of_ble_eq_true rfl)⟩)) (z_preS hPc hKc hDc hN hXs hS hFc) rfl rfl hl.1 rfl (lv_room (Nat.le_of_ble_eq_true rfl)) dX9_forget_7 (by rw [← hRe]; exact ⟨(Nat.le_of_ble_eq_true rfl), (Nat.le_of_ble_eq_true rfl)⟩)) hS (fun q _ h => hFc q h) hFc (fun r_1 u t H1 locs ht hvm hw hB hz1 hk1 hS => ?_)
  obtain ⟨hP, hD, hK⟩ := z_after3 (wn := (zV79 h0 tp h0_tapeLength h0_faultKind h0_faultPlace nw im sl rd wk fm mt ch dy nw nw_isKept tn nw_strayed nw_names nw_known nw_gone)) hB ht hvm hP hD hK [] [0, 1] rfl 2 rfl (by decide +kernel) rfl (by decide +kernel) hk1 hFc
  generalize H1 = H at hP hS ⊢
  have hK : va_K (dC, dI) vwCl [] s := hK
  have b_r_1 : 0 ≤ r_1.toInt ∧ r_1.toInt ≤ 63 := hw
  refine lv_istore_n (lv' := [(1, .int r_1), (0, .ref h0)]) hx hb dX9_forget_10 rfl hl (by decide) rfl (fun ls hl => ?_)
  refine lv_aload_n hx hb dX9_forget_11 rfl (lv_at hl 1 rfl) ?_
  refine va_get (D := (dC, dI)) (ci := 9) (v := .ref nw) (C := RX9) (T := TX9) (N := 13) hx hb hts zl_X9 hown hK hP 0 rfl rfl 4 (by decide) (hts _ zw_t2_193) (fun _ h9 => h9) rfl dX9_forget_12 ?_
  refine lv_iconst (v := 0) hx hb dX9_forget_15 (by decide) ?_
  refine va_put (D := (dC, dI)) (ci := 3) (v := .int 0) (ty := .int) (C := RX3) (T := TX3) (N := 6) hx hb hts zl_X3 tyX3 tyX3_ok nmX3 hown hK hP hD hS 1 rfl rfl 4 (by decide) (hts _ zw_t1_165) (fun _ h9 => h9) rfl (by decide +kernel) rfl rfl (Nat.le_of_ble_eq_true rfl) dX9_forget_16 (fun H locs hP hD hS => ?_)
  have hP : va_P (dC, dI) vwCl [(h0, .inr (9, [.ref tp, .int h0_tapeLength, .int h0_faultKind, .int h0_faultPlace, .ref nw, .ref im, .ref sl, .ref rd, .ref wk, .ref fm, .ref mt, .ref ch, .ref dy])), (nw, .inr (3, [.int nw_isKept, .ref tn, .int nw_strayed, .int nw_names, .int 0, .int nw_gone]))] H := hP
  have hD : va_D A [(h0, .inr (9, [.ref tp, .int h0_tapeLength, .int h0_faultKind, .int h0_faultPlace, .ref nw, .ref im, .ref sl, .ref rd, .ref wk, .ref fm, .ref mt, .ref ch, .ref dy])), (nw, .inr (3, [.int nw_isKept, .ref tn, .int nw_strayed, .int nw_names, .int 0, .int nw_gone]))] := hD
  refine lv_aload_n hx hb dX9_forget_19 rfl (lv_at hl 1 rfl) ?_
  refine va_get (D := (dC, dI)) (ci := 9) (v := .ref nw) (C := RX9) (T := TX9) (N := 13) hx hb hts zl_X9 hown hK hP 0 rfl rfl 4 (by decide) (hts _ zw_t2_193) (fun _ h9 => h9) rfl dX9_forget_20 ?_
  refine lv_iconst (v := 0) hx hb dX9_forget_23 (by decide) ?_
  refine va_put (D := (dC, dI)) (ci := 3) (v := .int 0) (ty := .int) (C := RX3) (T := TX3) (N := 6) hx hb hts zl_X3 tyX3 tyX3_ok nmX3 hown hK hP hD hS 1 rfl rfl 5 (by decide) (hts _ zw_t1_168) (fun _ h9 => h9) rfl (by decide +kernel) rfl rfl (Nat.le_of_ble_eq_true rfl) dX9_forget_24 (fun H locs hP hD hS => ?_)
  have hP : va_P (dC, dI) vwCl [(h0, .inr (9, [.ref tp, .int h0_tapeLength, .int h0_faultKind, .int h0_faultPlace, .ref nw, .ref im, .ref sl, .ref rd, .ref wk, .ref fm, .ref mt, .ref ch, .ref dy])), (nw, .inr (3, [.int nw_isKept, .ref tn, .int nw_strayed, .int nw_names, .int 0, .int 0]))] H := hP
  have hD : va_D A [(h0, .inr (9, [.ref tp, .int h0_tapeLength, .int h0_faultKind, .int h0_faultPlace, .ref nw, .ref im, .ref sl, .ref rd, .ref wk, .ref fm, .ref mt, .ref ch, .ref dy])), (nw, .inr (3, [.int nw_isKept, .ref tn, .int nw_strayed, .int nw_names, .int 0, .int 0]))] := hD
  refine lv_iload_n hx hb dX9_forget_27 rfl (lv_at hl 0 rfl) ?_
  exact W.iret (v := r_1) hx hb hr (fun t ht hW => by rw [← hQe]; exact ⟨⟨r_1, (), rfl, (by first | with_reducible assumption | omega), ⟨(0), (0), z_ret hP hK hD ht hW [0, 1] [] rfl (by decide) rfl⟩⟩, hS.F ht⟩) hS.2.2 dX9_forget_28
set_option maxHeartbeats 4000000 in
set_option maxRecDepth 100000 in
theorem k_X9_think (l : Launch) (sa : Nat → Nat) (dC : Nat → ClassId) (dI : Nat → Nat → Nat) (h0 : Nat) (p1 : Int32) (p2 : Int32) (p3 : Int32) (tp : Nat) (h0_tapeLength : Int32) (h0_faultKind : Int32) (h0_faultPlace : Int32) (nw : Nat) (im : Nat) (sl : Nat) (rd : Nat) (wk : Nat) (fm : Nat) (mt : Nat) (ch : Nat) (dy : Nat) (nw_isKept : Int32) (tn : Nat) (nw_strayed : Int32) (nw_names : Int32) (nw_known : Int32) (nw_gone : Int32) (tn_hours : Int32) (tn_courts : Int32) (tn_gateCount : Int32) (tn_people : Int32) (tn_lines : Int32) (tn_falseHours : Int32) (tn_strayers : Int32) (tn_deep : Int32) (tn_above : Nat) (tn_doors : Nat) (tn_degrees : Nat) (tn_neighbours : Nat) (tn_shows : Nat) (tn_oneEnd : Nat) (tn_otherEnd : Nat) (tn_told : Nat) (tn_strayParts : Nat) (tn_strayCourts : Nat) (cA_tn_shows : ClassId) (f_tn_shows : Nat → Int32) (cA_tn_told : ClassId) (f_tn_told : Nat → Int32) (cA_tn_strayParts : ClassId) (f_tn_strayParts : Nat → Int32) (cA_tn_strayCourts : ClassId) (f_tn_strayCourts : Nat → Int32) (b_h0_tapeLength : 0 ≤ h0_tapeLength.toInt ∧ h0_tapeLength.toInt ≤ 1600) (b_nw_isKept : 0 ≤ nw_isKept.toInt ∧ nw_isKept.toInt ≤ 1) (b_nw_names : 0 ≤ nw_names.toInt ∧ nw_names.toInt ≤ 1023) (b_tn_hours : 0 ≤ tn_hours.toInt ∧ tn_hours.toInt ≤ 48) (b_tn_courts : 0 ≤ tn_courts.toInt ∧ tn_courts.toInt ≤ 10) (b_tn_gateCount : 0 ≤ tn_gateCount.toInt ∧ tn_gateCount.toInt ≤ 16) (b_tn_people : 0 ≤ tn_people.toInt ∧ tn_people.toInt ≤ 10) (b_tn_falseHours : 0 ≤ tn_falseHours.toInt ∧ tn_falseHours.toInt ≤ 9) (b_tn_deep : 0 ≤ tn_deep.toInt ∧ tn_deep.toInt ≤ 1) (b_f_tn_told : ∀ j : Nat, 0 ≤ (f_tn_told j).toInt ∧ (f_tn_told j).toInt ≤ 9) (b_f_tn_strayParts : ∀ j : Nat, 0 ≤ (f_tn_strayParts j).toInt ∧ (f_tn_strayParts j).toInt ≤ 99) (b_f_tn_strayCourts : ∀ j : Nat, 0 ≤ (f_tn_strayCourts j).toInt ∧ (f_tn_strayCourts j).toInt ≤ 9) (sz : Nat) : Met l yX9_think (.code yX9_think cX9_think 5 (some .int) :: zT) ({ frames := 3, cells := 0, slots := 0, locals := 72 }) (va_Pc [.ref h0, .int p1, .int p2, .int p3] (zB sa dC dI (zV80 h0 tp h0_tapeLength h0_faultKind h0_faultPlace nw im sl rd wk fm mt ch dy nw nw_isKept tn nw_strayed nw_names nw_known nw_gone tn tn_hours tn_courts tn_gateCount tn_people tn_lines tn_falseHours tn_strayers tn_deep tn_above tn_doors tn_degrees tn_neighbours tn_shows tn_oneEnd tn_otherEnd tn_told tn_strayParts tn_strayCourts tn_shows cA_tn_shows f_tn_shows tn_told cA_tn_told f_tn_told tn_strayParts cA_tn_strayParts f_tn_strayParts tn_strayCourts cA_tn_strayCourts f_tn_strayCourts) [(cA_tn_shows, .int), (cA_tn_told, .int), (cA_tn_strayParts, .int), (cA_tn_strayCourts, .int)] sz)) (va_Qi (fun (r : Int32) (_ : Unit) => ((-2) ≤ r.toInt ∧ r.toInt ≤ 199)) (fun _ t => zW dC dI (zV80 h0 tp h0_tapeLength h0_faultKind h0_faultPlace nw im sl rd wk fm mt ch dy nw nw_isKept tn nw_strayed nw_names nw_known nw_gone tn tn_hours tn_courts tn_gateCount tn_people tn_lines tn_falseHours tn_strayers tn_deep tn_above tn_doors tn_degrees tn_neighbours tn_shows tn_oneEnd tn_otherEnd tn_told tn_strayParts tn_strayCourts tn_shows cA_tn_shows f_tn_shows tn_told cA_tn_told f_tn_told tn_strayParts cA_tn_strayParts f_tn_strayParts tn_strayCourts cA_tn_strayCourts f_tn_strayCourts) [] (va_A (zV80 h0 tp h0_tapeLength h0_faultKind h0_faultPlace nw im sl rd wk fm mt ch dy nw nw_isKept tn nw_strayed nw_names nw_known nw_gone tn tn_hours tn_courts tn_gateCount tn_people tn_lines tn_falseHours tn_strayers tn_deep tn_above tn_doors tn_degrees tn_neighbours tn_shows tn_oneEnd tn_otherEnd tn_told tn_strayParts tn_strayCourts tn_shows cA_tn_shows f_tn_shows tn_told cA_tn_told f_tn_told tn_strayParts cA_tn_strayParts f_tn_strayParts tn_strayCourts cA_tn_strayCourts f_tn_strayCourts) sz) t) (va_A (zV80 h0 tp h0_tapeLength h0_faultKind h0_faultPlace nw im sl rd wk fm mt ch dy nw nw_isKept tn nw_strayed nw_names nw_known nw_gone tn tn_hours tn_courts tn_gateCount tn_people tn_lines tn_falseHours tn_strayers tn_deep tn_above tn_doors tn_degrees tn_neighbours tn_shows tn_oneEnd tn_otherEnd tn_told tn_strayParts tn_strayCourts tn_shows cA_tn_shows f_tn_shows tn_told cA_tn_told f_tn_told tn_strayParts cA_tn_strayParts f_tn_strayParts tn_strayCourts cA_tn_strayCourts f_tn_strayCourts) sz)) 0 0 (va_A (zV80 h0 tp h0_tapeLength h0_faultKind h0_faultPlace nw im sl rd wk fm mt ch dy nw nw_isKept tn nw_strayed nw_names nw_known nw_gone tn tn_hours tn_courts tn_gateCount tn_people tn_lines tn_falseHours tn_strayers tn_deep tn_above tn_doors tn_degrees tn_neighbours tn_shows tn_oneEnd tn_otherEnd tn_told tn_strayParts tn_strayCourts tn_shows cA_tn_shows f_tn_shows tn_told cA_tn_told f_tn_told tn_strayParts cA_tn_strayParts f_tn_strayParts tn_strayCourts cA_tn_strayCourts f_tn_strayCourts) sz) := by
  refine z_enter (by decide) (by exact (Nat.le_of_ble_eq_true rfl)) ?_
  intro p e s m args below meth c ls A R Qc hargs hsz hQe hAe hRe hx hb hml hr hts hown hlocks hin hl hP hK hD hN hXs hA hS
  rw [hAe] at hQe
  have hown : s.vm.findClass RX9 = some m.cls := hown
  have hl : lv_has ls 5 [(0, .ref h0), (1, .int p1), (2, .int p2), (3, .int p3)] := hl
  refine lv_aload_n hx hb dX9_think_0 rfl (lv_at hl 0 rfl) ?_
  refine va_get (D := (dC, dI)) (ci := 9) (v := .ref nw) (C := RX9) (T := TX9) (N := 13) hx hb hts zl_X9 hown hK hP 0 rfl rfl 4 (by decide) (hts _ zw_t2_193) (fun _ h9 => h9) rfl dX9_think_1 ?_
  refine va_get (D := (dC, dI)) (ci := 3) (v := .ref tn) (C := RX3) (T := TX3) (N := 6) hx hb hts zl_X3 hown hK hP 1 rfl rfl 1 (by decide) (hts _ zw_t1_156) (fun _ h9 => h9) rfl dX9_think_4 ?_
  refine lv_astore (lv' := [(4, .ref tn), (0, .ref h0), (1, .int p1), (2, .int p2), (3, .int p3)]) hx hb dX9_think_7 hl (by decide) rfl (fun ls hl => ?_)
  refine lv_aload hx hb dX9_think_9 (lv_at hl 0 rfl) ?_
  refine lv_iload_n hx hb dX9_think_11 rfl (lv_at hl 2 rfl) ?_
  obtain ⟨hPc, hDc, hFc⟩ := z_cut (wc := (zV1 tn tn_hours tn_courts tn_gateCount tn_people tn_lines tn_falseHours tn_strayers tn_deep tn_above tn_doors tn_degrees tn_neighbours tn_shows tn_oneEnd tn_otherEnd tn_told tn_strayParts tn_strayCourts)) hP hD hS hA [2] rfl (by decide +kernel)
  have hKc := hK.sub (tys' := []) [] rfl
  refine va_calli (va_runV (As := [.int p1]) (rest := []) ⟨hx, hb, hml, hown, hts⟩ (k_X7_hasPerson l sa dC dI tn p1 tn_hours tn_courts tn_gateCount tn_people tn_lines tn_falseHours tn_strayers tn_deep tn_above tn_doors tn_degrees tn_neighbours tn_shows tn_oneEnd tn_otherEnd tn_told tn_strayParts tn_strayCourts b_tn_hours b_tn_courts b_tn_gateCount b_tn_people b_tn_falseHours b_tn_deep s.heap.size) (cwV 1 hts (z_gV zw_t3_181 zw_t3_182 zw_t3_183 zw_t1_3 zw_t3_184) rfl rfl rfl (by decide +kernel) (by rw [← hRe]; exact ⟨(Nat.le_of_ble_eq_true rfl), (Nat.le_of_ble_eq_true rfl)⟩)) (z_preV hPc hKc hDc hN hXs hS hFc (q := (RX7, TX7, 18)) (ci := 7) (q0 := 0) rfl rfl) rfl rfl hl.1 rfl (lv_room (Nat.le_of_ble_eq_true rfl)) dX9_think_12 (by rw [← hRe]; exact ⟨(Nat.le_of_ble_eq_true rfl), (Nat.le_of_ble_eq_true rfl)⟩)) hS (fun q _ h => hFc q h) hFc (fun r_1 u t H1 locs ht hvm hw hB hz1 hk1 hS => ?_)
  obtain ⟨hP, hD, hK⟩ := z_after3 (wn := [(h0, .inr (9, [.ref tp, .int h0_tapeLength, .int h0_faultKind, .int h0_faultPlace, .ref nw, .ref im, .ref sl, .ref rd, .ref wk, .ref fm, .ref mt, .ref ch, .ref dy])), (nw, .inr (3, [.int nw_isKept, .ref tn, .int nw_strayed, .int nw_names, .int nw_known, .int nw_gone])), (tn_shows, .inl (cA_tn_shows, 10, .inl f_tn_shows)), (tn_told, .inl (cA_tn_told, 480, .inl f_tn_told)), (tn_strayParts, .inl (cA_tn_strayParts, 10, .inl f_tn_strayParts)), (tn_strayCourts, .inl (cA_tn_strayCourts, 10, .inl f_tn_strayCourts)), (tn, .inr (7, [.int tn_hours, .int tn_courts, .int tn_gateCount, .int tn_people, .int tn_lines, .int tn_falseHours, .int tn_strayers, .int tn_deep, .ref tn_above, .ref tn_doors, .ref tn_degrees, .ref tn_neighbours, .ref tn_shows, .ref tn_oneEnd, .ref tn_otherEnd, .ref tn_told, .ref tn_strayParts, .ref tn_strayCourts]))]) hB ht hvm hP hD hK [2] [0, 1, 3, 4, 5, 6] rfl 7 rfl (by decide +kernel) rfl (by decide +kernel) hk1 hFc
  generalize H1 = H at hP hS ⊢
  have hK : va_K (dC, dI) vwCl [(cA_tn_shows, .int), (cA_tn_told, .int), (cA_tn_strayParts, .int), (cA_tn_strayCourts, .int)] s := hK
  have b_r_1 : 0 ≤ r_1.toInt ∧ r_1.toInt ≤ 1 := hw.1
  have s_r_1 := hw.2
  refine lv_if_eq (tgt := 36) hx hb dX9_think_15 (by decide) (fun c_2 => ?_) (fun c_2 => ?_)
  · have ic_2 := zz_eq rfl (show Int32.toInt 0 = 0 from by decide) c_2
    refine lv_bipush (v := (-2)) hx hb dX9_think_36 (by decide) ?_
    exact W.iret (v := (-2)) hx hb hr (fun t ht hW => by rw [← hQe]; exact ⟨⟨(-2), (), rfl, (by decide), z_ret hP hK hD ht hW [0, 1, 6, 2, 3, 4, 5] [] rfl (by decide) rfl⟩, hS.F ht⟩) hS.2.2 dX9_think_38
  · have ic_2 := zz_neq rfl (show Int32.toInt 0 = 0 from by decide) c_2
    refine lv_aload hx hb dX9_think_18 (lv_at hl 0 rfl) ?_
    refine lv_iload_n hx hb dX9_think_20 rfl (lv_at hl 3 rfl) ?_
    obtain ⟨hPc, hDc, hFc⟩ := z_cut (wc := (zV1 tn tn_hours tn_courts tn_gateCount tn_people tn_lines tn_falseHours tn_strayers tn_deep tn_above tn_doors tn_degrees tn_neighbours tn_shows tn_oneEnd tn_otherEnd tn_told tn_strayParts tn_strayCourts)) hP hD hS hA [6] rfl (by decide +kernel)
    have hKc := hK.sub (tys' := []) [] rfl
    refine va_calli (va_runV (As := [.int p2]) (rest := []) ⟨hx, hb, hml, hown, hts⟩ (k_X7_hasCourt l sa dC dI tn p2 tn_hours tn_courts tn_gateCount tn_people tn_lines tn_falseHours tn_strayers tn_deep tn_above tn_doors tn_degrees tn_neighbours tn_shows tn_oneEnd tn_otherEnd tn_told tn_strayParts tn_strayCourts b_tn_hours b_tn_courts b_tn_gateCount b_tn_people b_tn_falseHours b_tn_deep H.size) (cwV 1 hts (z_gV zw_t3_197 zw_t3_198 zw_t3_199 zw_t1_3 zw_t3_200) rfl rfl rfl (by decide +kernel) (by rw [← hRe]; exact ⟨(Nat.le_of_ble_eq_true rfl), (Nat.le_of_ble_eq_true rfl)⟩)) (z_preV hPc hKc hDc hN hXs hS hFc (q := (RX7, TX7, 18)) (ci := 7) (q0 := 0) rfl rfl) rfl rfl hl.1 rfl (lv_room (Nat.le_of_ble_eq_true rfl)) dX9_think_21 (by rw [← hRe]; exact ⟨(Nat.le_of_ble_eq_true rfl), (Nat.le_of_ble_eq_true rfl)⟩)) hS (fun q _ h => hFc q h) hFc (fun r_3 u t H1 locs ht hvm hw hB hz1 hk1 hS => ?_)
    obtain ⟨hP, hD, hK⟩ := z_after3 (wn := [(h0, .inr (9, [.ref tp, .int h0_tapeLength, .int h0_faultKind, .int h0_faultPlace, .ref nw, .ref im, .ref sl, .ref rd, .ref wk, .ref fm, .ref mt, .ref ch, .ref dy])), (nw, .inr (3, [.int nw_isKept, .ref tn, .int nw_strayed, .int nw_names, .int nw_known, .int nw_gone])), (tn_shows, .inl (cA_tn_shows, 10, .inl f_tn_shows)), (tn_told, .inl (cA_tn_told, 480, .inl f_tn_told)), (tn_strayParts, .inl (cA_tn_strayParts, 10, .inl f_tn_strayParts)), (tn_strayCourts, .inl (cA_tn_strayCourts, 10, .inl f_tn_strayCourts)), (tn, .inr (7, [.int tn_hours, .int tn_courts, .int tn_gateCount, .int tn_people, .int tn_lines, .int tn_falseHours, .int tn_strayers, .int tn_deep, .ref tn_above, .ref tn_doors, .ref tn_degrees, .ref tn_neighbours, .ref tn_shows, .ref tn_oneEnd, .ref tn_otherEnd, .ref tn_told, .ref tn_strayParts, .ref tn_strayCourts]))]) hB ht hvm hP hD hK [6] [0, 1, 2, 3, 4, 5] rfl 7 rfl (by decide +kernel) rfl (by decide +kernel) hk1 hFc
    generalize H1 = H at hP hS ⊢
    have hK : va_K (dC, dI) vwCl [(cA_tn_shows, .int), (cA_tn_told, .int), (cA_tn_strayParts, .int), (cA_tn_strayCourts, .int)] s := hK
    have b_r_3 : 0 ≤ r_3.toInt ∧ r_3.toInt ≤ 1 := hw.1
    have s_r_3 := hw.2
    refine lv_if_eq (tgt := 36) hx hb dX9_think_24 (by decide) (fun c_4 => ?_) (fun c_4 => ?_)
    · have ic_4 := zz_eq rfl (show Int32.toInt 0 = 0 from by decide) c_4
      refine lv_bipush (v := (-2)) hx hb dX9_think_36 (by decide) ?_
      exact W.iret (v := (-2)) hx hb hr (fun t ht hW => by rw [← hQe]; exact ⟨⟨(-2), (), rfl, (by decide), z_ret hP hK hD ht hW [0, 1, 6, 2, 3, 4, 5] [] rfl (by decide) rfl⟩, hS.F ht⟩) hS.2.2 dX9_think_38
    · have ic_4 := zz_neq rfl (show Int32.toInt 0 = 0 from by decide) c_4
      refine lv_aload hx hb dX9_think_27 (lv_at hl 0 rfl) ?_
      refine lv_iload_n hx hb dX9_think_29 rfl (lv_at hl 4 rfl) ?_
      obtain ⟨hPc, hDc, hFc⟩ := z_cut (wc := (zV1 tn tn_hours tn_courts tn_gateCount tn_people tn_lines tn_falseHours tn_strayers tn_deep tn_above tn_doors tn_degrees tn_neighbours tn_shows tn_oneEnd tn_otherEnd tn_told tn_strayParts tn_strayCourts)) hP hD hS hA [6] rfl (by decide +kernel)
      have hKc := hK.sub (tys' := []) [] rfl
      refine va_calli (va_runV (As := [.int p3]) (rest := []) ⟨hx, hb, hml, hown, hts⟩ (k_X7_hasHour l sa dC dI tn p3 tn_hours tn_courts tn_gateCount tn_people tn_lines tn_falseHours tn_strayers tn_deep tn_above tn_doors tn_degrees tn_neighbours tn_shows tn_oneEnd tn_otherEnd tn_told tn_strayParts tn_strayCourts b_tn_hours b_tn_courts b_tn_gateCount b_tn_people b_tn_falseHours b_tn_deep H.size) (cwV 1 hts (z_gV zw_t3_185 zw_t3_186 zw_t3_187 zw_t1_3 zw_t3_188) rfl rfl rfl (by decide +kernel) (by rw [← hRe]; exact ⟨(Nat.le_of_ble_eq_true rfl), (Nat.le_of_ble_eq_true rfl)⟩)) (z_preV hPc hKc hDc hN hXs hS hFc (q := (RX7, TX7, 18)) (ci := 7) (q0 := 0) rfl rfl) rfl rfl hl.1 rfl (lv_room (Nat.le_of_ble_eq_true rfl)) dX9_think_30 (by rw [← hRe]; exact ⟨(Nat.le_of_ble_eq_true rfl), (Nat.le_of_ble_eq_true rfl)⟩)) hS (fun q _ h => hFc q h) hFc (fun r_5 u t H1 locs ht hvm hw hB hz1 hk1 hS => ?_)
      obtain ⟨hP, hD, hK⟩ := z_after3 (wn := [(h0, .inr (9, [.ref tp, .int h0_tapeLength, .int h0_faultKind, .int h0_faultPlace, .ref nw, .ref im, .ref sl, .ref rd, .ref wk, .ref fm, .ref mt, .ref ch, .ref dy])), (nw, .inr (3, [.int nw_isKept, .ref tn, .int nw_strayed, .int nw_names, .int nw_known, .int nw_gone])), (tn_shows, .inl (cA_tn_shows, 10, .inl f_tn_shows)), (tn_told, .inl (cA_tn_told, 480, .inl f_tn_told)), (tn_strayParts, .inl (cA_tn_strayParts, 10, .inl f_tn_strayParts)), (tn_strayCourts, .inl (cA_tn_strayCourts, 10, .inl f_tn_strayCourts)), (tn, .inr (7, [.int tn_hours, .int tn_courts, .int tn_gateCount, .int tn_people, .int tn_lines, .int tn_falseHours, .int tn_strayers, .int tn_deep, .ref tn_above, .ref tn_doors, .ref tn_degrees, .ref tn_neighbours, .ref tn_shows, .ref tn_oneEnd, .ref tn_otherEnd, .ref tn_told, .ref tn_strayParts, .ref tn_strayCourts]))]) hB ht hvm hP hD hK [6] [0, 1, 2, 3, 4, 5] rfl 7 rfl (by decide +kernel) rfl (by decide +kernel) hk1 hFc
      generalize H1 = H at hP hS ⊢
      have hK : va_K (dC, dI) vwCl [(cA_tn_shows, .int), (cA_tn_told, .int), (cA_tn_strayParts, .int), (cA_tn_strayCourts, .int)] s := hK
      have b_r_5 : 0 ≤ r_5.toInt ∧ r_5.toInt ≤ 1 := hw.1
      have s_r_5 := hw.2
      refine lv_if_ne (tgt := 39) hx hb dX9_think_33 (by decide) (fun c_6 => ?_) (fun c_6 => ?_)
      · have ic_6 := zz_ne rfl (show Int32.toInt 0 = 0 from by decide) c_6
        refine lv_aload_n hx hb dX9_think_39 rfl (lv_at hl 1 rfl) ?_
        refine va_get (D := (dC, dI)) (ci := 9) (v := .ref nw) (C := RX9) (T := TX9) (N := 13) hx hb hts zl_X9 hown hK hP 0 rfl rfl 4 (by decide) (hts _ zw_t2_193) (fun _ h9 => h9) rfl dX9_think_40 ?_
        refine lv_iload_n hx hb dX9_think_43 rfl (lv_at hl 2 rfl) ?_
        refine lv_iload_n hx hb dX9_think_44 rfl (lv_at hl 3 rfl) ?_
        refine lv_iload_n hx hb dX9_think_45 rfl (lv_at hl 4 rfl) ?_
        obtain ⟨hPc, hDc, hFc⟩ := z_cut (wc := (zV10 nw nw_isKept tn nw_strayed nw_names nw_known nw_gone tn tn_hours tn_courts tn_gateCount tn_people tn_lines tn_falseHours tn_strayers tn_deep tn_above tn_doors tn_degrees tn_neighbours tn_shows tn_oneEnd tn_otherEnd tn_told tn_strayParts tn_strayCourts tn_shows cA_tn_shows f_tn_shows tn_told cA_tn_told f_tn_told tn_strayParts cA_tn_strayParts f_tn_strayParts tn_strayCourts cA_tn_strayCourts f_tn_strayCourts)) hP hD hS hA [1, 6, 2, 3, 4, 5] rfl (by decide +kernel)
        have hKc := hK.sub (tys' := [(cA_tn_shows, .int), (cA_tn_told, .int), (cA_tn_strayParts, .int), (cA_tn_strayCourts, .int)]) [0, 1, 2, 3] rfl
        refine va_calli (va_runV (As := [.int p1, .int p2, .int p3]) (rest := []) ⟨hx, hb, hml, hown, hts⟩ (k_X3_thought l sa dC dI nw p1 p2 p3 nw_isKept tn nw_strayed nw_names nw_known nw_gone tn_hours tn_courts tn_gateCount tn_people tn_lines tn_falseHours tn_strayers tn_deep tn_above tn_doors tn_degrees tn_neighbours tn_shows tn_oneEnd tn_otherEnd tn_told tn_strayParts tn_strayCourts cA_tn_shows f_tn_shows cA_tn_told f_tn_told cA_tn_strayParts f_tn_strayParts cA_tn_strayCourts f_tn_strayCourts (by first | with_reducible assumption | omega) (by first | with_reducible assumption | omega) b_nw_isKept b_nw_names b_tn_hours b_tn_courts b_tn_gateCount b_tn_people b_tn_falseHours b_tn_deep b_f_tn_told b_f_tn_strayParts b_f_tn_strayCourts H.size) (cwV 3 hts (z_gV zw_t5_142 zw_t5_143 zw_t5_144 zw_t1_2 zw_t5_145) rfl rfl rfl (by decide +kernel) (by rw [← hRe]; exact ⟨(Nat.le_of_ble_eq_true rfl), (Nat.le_of_ble_eq_true rfl)⟩)) (z_preV hPc hKc hDc hN hXs hS hFc (q := (RX3, TX3, 6)) (ci := 3) (q0 := 0) rfl rfl) rfl rfl hl.1 rfl (lv_room (Nat.le_of_ble_eq_true rfl)) dX9_think_46 (by rw [← hRe]; exact ⟨(Nat.le_of_ble_eq_true rfl), (Nat.le_of_ble_eq_true rfl)⟩)) hS (fun q _ h => hFc q h) hFc (fun r_7 u t H1 locs ht hvm hw hB hz1 hk1 hS => ?_)
        obtain ⟨hP, hD, hK⟩ := z_after3 (wn := (zV80 h0 tp h0_tapeLength h0_faultKind h0_faultPlace nw im sl rd wk fm mt ch dy nw nw_isKept tn nw_strayed nw_names nw_known nw_gone tn tn_hours tn_courts tn_gateCount tn_people tn_lines tn_falseHours tn_strayers tn_deep tn_above tn_doors tn_degrees tn_neighbours tn_shows tn_oneEnd tn_otherEnd tn_told tn_strayParts tn_strayCourts tn_shows cA_tn_shows f_tn_shows tn_told cA_tn_told f_tn_told tn_strayParts cA_tn_strayParts f_tn_strayParts tn_strayCourts cA_tn_strayCourts f_tn_strayCourts)) hB ht hvm hP hD hK [1, 6, 2, 3, 4, 5] [0] rfl 7 rfl (by decide +kernel) rfl (by decide +kernel) hk1 hFc
        generalize H1 = H at hP hS ⊢
        have hK : va_K (dC, dI) vwCl [(cA_tn_shows, .int), (cA_tn_told, .int), (cA_tn_strayParts, .int), (cA_tn_strayCourts, .int)] s := hK
        have b_r_7 : 0 ≤ r_7.toInt ∧ r_7.toInt ≤ 199 := hw
        exact W.iret (v := r_7) hx hb hr (fun t ht hW => by rw [← hQe]; exact ⟨⟨r_7, (), rfl, (by first | with_reducible assumption | omega), z_ret hP hK hD ht hW [0, 1, 2, 3, 4, 5, 6] [] rfl (by decide) rfl⟩, hS.F ht⟩) hS.2.2 dX9_think_49
      · have ic_6 := zz_nne rfl (show Int32.toInt 0 = 0 from by decide) c_6
        refine lv_bipush (v := (-2)) hx hb dX9_think_36 (by decide) ?_
        exact W.iret (v := (-2)) hx hb hr (fun t ht hW => by rw [← hQe]; exact ⟨⟨(-2), (), rfl, (by decide), z_ret hP hK hD ht hW [0, 1, 6, 2, 3, 4, 5] [] rfl (by decide) rfl⟩, hS.F ht⟩) hS.2.2 dX9_think_38
set_option maxHeartbeats 4000000 in
set_option maxRecDepth 100000 in
theorem k_X9_likely (l : Launch) (sa : Nat → Nat) (dC : Nat → ClassId) (dI : Nat → Nat → Nat) (h0 : Nat) (p1 : Int32) (p2 : Int32) (p3 : Int32) (p4 : Int32) (tp : Nat) (h0_tapeLength : Int32) (h0_faultKind : Int32) (h0_faultPlace : Int32) (nw : Nat) (im : Nat) (sl : Nat) (rd : Nat) (wk : Nat) (fm : Nat) (mt : Nat) (ch : Nat) (dy : Nat) (nw_isKept : Int32) (tn : Nat) (nw_strayed : Int32) (nw_names : Int32) (nw_known : Int32) (nw_gone : Int32) (tn_hours : Int32) (tn_courts : Int32) (tn_gateCount : Int32) (tn_people : Int32) (tn_lines : Int32) (tn_falseHours : Int32) (tn_strayers : Int32) (tn_deep : Int32) (tn_above : Nat) (tn_doors : Nat) (tn_degrees : Nat) (tn_neighbours : Nat) (tn_shows : Nat) (tn_oneEnd : Nat) (tn_otherEnd : Nat) (tn_told : Nat) (tn_strayParts : Nat) (tn_strayCourts : Nat) (cA_tn_above : ClassId) (f_tn_above : Nat → Int32) (cA_tn_shows : ClassId) (f_tn_shows : Nat → Int32) (cA_tn_oneEnd : ClassId) (f_tn_oneEnd : Nat → Int32) (cA_tn_otherEnd : ClassId) (f_tn_otherEnd : Nat → Int32) (cA_tn_told : ClassId) (f_tn_told : Nat → Int32) (cA_tn_strayParts : ClassId) (f_tn_strayParts : Nat → Int32) (cA_tn_strayCourts : ClassId) (f_tn_strayCourts : Nat → Int32) (b_h0_tapeLength : 0 ≤ h0_tapeLength.toInt ∧ h0_tapeLength.toInt ≤ 1600) (b_nw_isKept : 0 ≤ nw_isKept.toInt ∧ nw_isKept.toInt ≤ 1) (b_nw_names : 0 ≤ nw_names.toInt ∧ nw_names.toInt ≤ 1023) (b_tn_hours : 0 ≤ tn_hours.toInt ∧ tn_hours.toInt ≤ 48) (b_tn_courts : 0 ≤ tn_courts.toInt ∧ tn_courts.toInt ≤ 10) (b_tn_gateCount : 0 ≤ tn_gateCount.toInt ∧ tn_gateCount.toInt ≤ 16) (b_tn_people : 0 ≤ tn_people.toInt ∧ tn_people.toInt ≤ 10) (b_tn_falseHours : 0 ≤ tn_falseHours.toInt ∧ tn_falseHours.toInt ≤ 9) (b_tn_deep : 0 ≤ tn_deep.toInt ∧ tn_deep.toInt ≤ 1) (b_f_tn_oneEnd : ∀ j : Nat, 0 ≤ (f_tn_oneEnd j).toInt ∧ (f_tn_oneEnd j).toInt ≤ 9) (b_f_tn_otherEnd : ∀ j : Nat, 0 ≤ (f_tn_otherEnd j).toInt ∧ (f_tn_otherEnd j).toInt ≤ 9) (b_f_tn_told : ∀ j : Nat, 0 ≤ (f_tn_told j).toInt ∧ (f_tn_told j).toInt ≤ 9) (b_f_tn_strayParts : ∀ j : Nat, 0 ≤ (f_tn_strayParts j).toInt ∧ (f_tn_strayParts j).toInt ≤ 99) (b_f_tn_strayCourts : ∀ j : Nat, 0 ≤ (f_tn_strayCourts j).toInt ∧ (f_tn_strayCourts j).toInt ≤ 9) (sz : Nat) : Met l yX9_likely (.code yX9_likely cX9_likely 10 (some .int) :: zT) ({ frames := 3, cells := 0, slots := 0, locals := 72 }) (va_Pc [.ref h0, .int p1, .int p2, .int p3, .int p4] (zB sa dC dI (zV81 h0 tp h0_tapeLength h0_faultKind h0_faultPlace nw im sl rd wk fm mt ch dy nw nw_isKept tn nw_strayed nw_names nw_known nw_gone tn tn_hours tn_courts tn_gateCount tn_people tn_lines tn_falseHours tn_strayers tn_deep tn_above tn_doors tn_degrees tn_neighbours tn_shows tn_oneEnd tn_otherEnd tn_told tn_strayParts tn_strayCourts tn_above cA_tn_above f_tn_above tn_shows cA_tn_shows f_tn_shows tn_oneEnd cA_tn_oneEnd f_tn_oneEnd tn_otherEnd cA_tn_otherEnd f_tn_otherEnd tn_told cA_tn_told f_tn_told tn_strayParts cA_tn_strayParts f_tn_strayParts tn_strayCourts cA_tn_strayCourts f_tn_strayCourts) [(cA_tn_above, .int), (cA_tn_shows, .int), (cA_tn_oneEnd, .int), (cA_tn_otherEnd, .int), (cA_tn_told, .int), (cA_tn_strayParts, .int), (cA_tn_strayCourts, .int)] sz)) (va_Qi (fun (r : Int32) (_ : Unit) => ((-2) ≤ r.toInt ∧ r.toInt ≤ 2147483647)) (fun _ t => zW dC dI (zV81 h0 tp h0_tapeLength h0_faultKind h0_faultPlace nw im sl rd wk fm mt ch dy nw nw_isKept tn nw_strayed nw_names nw_known nw_gone tn tn_hours tn_courts tn_gateCount tn_people tn_lines tn_falseHours tn_strayers tn_deep tn_above tn_doors tn_degrees tn_neighbours tn_shows tn_oneEnd tn_otherEnd tn_told tn_strayParts tn_strayCourts tn_above cA_tn_above f_tn_above tn_shows cA_tn_shows f_tn_shows tn_oneEnd cA_tn_oneEnd f_tn_oneEnd tn_otherEnd cA_tn_otherEnd f_tn_otherEnd tn_told cA_tn_told f_tn_told tn_strayParts cA_tn_strayParts f_tn_strayParts tn_strayCourts cA_tn_strayCourts f_tn_strayCourts) [] (va_A (zV81 h0 tp h0_tapeLength h0_faultKind h0_faultPlace nw im sl rd wk fm mt ch dy nw nw_isKept tn nw_strayed nw_names nw_known nw_gone tn tn_hours tn_courts tn_gateCount tn_people tn_lines tn_falseHours tn_strayers tn_deep tn_above tn_doors tn_degrees tn_neighbours tn_shows tn_oneEnd tn_otherEnd tn_told tn_strayParts tn_strayCourts tn_above cA_tn_above f_tn_above tn_shows cA_tn_shows f_tn_shows tn_oneEnd cA_tn_oneEnd f_tn_oneEnd tn_otherEnd cA_tn_otherEnd f_tn_otherEnd tn_told cA_tn_told f_tn_told tn_strayParts cA_tn_strayParts f_tn_strayParts tn_strayCourts cA_tn_strayCourts f_tn_strayCourts) sz) t) (va_A (zV81 h0 tp h0_tapeLength h0_faultKind h0_faultPlace nw im sl rd wk fm mt ch dy nw nw_isKept tn nw_strayed nw_names nw_known nw_gone tn tn_hours tn_courts tn_gateCount tn_people tn_lines tn_falseHours tn_strayers tn_deep tn_above tn_doors tn_degrees tn_neighbours tn_shows tn_oneEnd tn_otherEnd tn_told tn_strayParts tn_strayCourts tn_above cA_tn_above f_tn_above tn_shows cA_tn_shows f_tn_shows tn_oneEnd cA_tn_oneEnd f_tn_oneEnd tn_otherEnd cA_tn_otherEnd f_tn_otherEnd tn_told cA_tn_told f_tn_told tn_strayParts cA_tn_strayParts f_tn_strayParts tn_strayCourts cA_tn_strayCourts f_tn_strayCourts) sz)) 0 0 (va_A (zV81 h0 tp h0_tapeLength h0_faultKind h0_faultPlace nw im sl rd wk fm mt ch dy nw nw_isKept tn nw_strayed nw_names nw_known nw_gone tn tn_hours tn_courts tn_gateCount tn_people tn_lines tn_falseHours tn_strayers tn_deep tn_above tn_doors tn_degrees tn_neighbours tn_shows tn_oneEnd tn_otherEnd tn_told tn_strayParts tn_strayCourts tn_above cA_tn_above f_tn_above tn_shows cA_tn_shows f_tn_shows tn_oneEnd cA_tn_oneEnd f_tn_oneEnd tn_otherEnd cA_tn_otherEnd f_tn_otherEnd tn_told cA_tn_told f_tn_told tn_strayParts cA_tn_strayParts f_tn_strayParts tn_strayCourts cA_tn_strayCourts f_tn_strayCourts) sz) := by
  refine z_enter (by decide) (by exact (Nat.le_of_ble_eq_true rfl)) ?_
  intro p e s m args below meth c ls A R Qc hargs hsz hQe hAe hRe hx hb hml hr hts hown hlocks hin hl hP hK hD hN hXs hA hS
  rw [hAe] at hQe
  have hown : s.vm.findClass RX9 = some m.cls := hown
  have hl : lv_has ls 10 [(0, .ref h0), (1, .int p1), (2, .int p2), (3, .int p3), (4, .int p4)] := hl
  refine lv_aload_n hx hb dX9_likely_0 rfl (lv_at hl 0 rfl) ?_
  refine va_get (D := (dC, dI)) (ci := 9) (v := .ref nw) (C := RX9) (T := TX9) (N := 13) hx hb hts zl_X9 hown hK hP 0 rfl rfl 4 (by decide) (hts _ zw_t2_193) (fun _ h9 => h9) rfl dX9_likely_1 ?_
  refine va_get (D := (dC, dI)) (ci := 3) (v := .ref tn) (C := RX3) (T := TX3) (N := 6) hx hb hts zl_X3 hown hK hP 1 rfl rfl 1 (by decide) (hts _ zw_t1_156) (fun _ h9 => h9) rfl dX9_likely_4 ?_
  refine lv_astore (lv' := [(5, .ref tn), (0, .ref h0), (1, .int p1), (2, .int p2), (3, .int p3), (4, .int p4)]) hx hb dX9_likely_7 hl (by decide) rfl (fun ls hl => ?_)
  refine lv_aload hx hb dX9_likely_9 (lv_at hl 0 rfl) ?_
  refine lv_iload_n hx hb dX9_likely_11 rfl (lv_at hl 2 rfl) ?_
  refine lv_iload_n hx hb dX9_likely_12 rfl (lv_at hl 3 rfl) ?_
  refine lv_iload_n hx hb dX9_likely_13 rfl (lv_at hl 4 rfl) ?_
  obtain ⟨hPc, hDc, hFc⟩ := z_cut (wc := (zV1 tn tn_hours tn_courts tn_gateCount tn_people tn_lines tn_falseHours tn_strayers tn_deep tn_above tn_doors tn_degrees tn_neighbours tn_shows tn_oneEnd tn_otherEnd tn_told tn_strayParts tn_strayCourts)) hP hD hS hA [2] rfl (by decide +kernel)
  have hKc := hK.sub (tys' := []) [] rfl
  refine va_calli (va_runV (As := [.int p1, .int p2, .int p3]) (rest := []) ⟨hx, hb, hml, hown, hts⟩ (k_X7_hasPassage l sa dC dI tn p1 p2 p3 tn_hours tn_courts tn_gateCount tn_people tn_lines tn_falseHours tn_strayers tn_deep tn_above tn_doors tn_degrees tn_neighbours tn_shows tn_oneEnd tn_otherEnd tn_told tn_strayParts tn_strayCourts b_tn_hours b_tn_courts b_tn_gateCount b_tn_people b_tn_falseHours b_tn_deep s.heap.size) (cwV 3 hts (z_gV zw_t4_5 zw_t4_6 zw_t4_7 zw_t1_3 zw_t4_8) rfl rfl rfl (by decide +kernel) (by rw [← hRe]; exact ⟨(Nat.le_of_ble_eq_true rfl), (Nat.le_of_ble_eq_true rfl)⟩)) (z_preV hPc hKc hDc hN hXs hS hFc (q := (RX7, TX7, 18)) (ci := 7) (q0 := 0) rfl rfl) rfl rfl hl.1 rfl (lv_room (Nat.le_of_ble_eq_true rfl)) dX9_likely_14 (by rw [← hRe]; exact ⟨(Nat.le_of_ble_eq_true rfl), (Nat.le_of_ble_eq_true rfl)⟩)) hS (fun q _ h => hFc q h) hFc (fun r_1 u t H1 locs ht hvm hw hB hz1 hk1 hS => ?_)
  obtain ⟨hP, hD, hK⟩ := z_after3 (wn := [(h0, .inr (9, [.ref tp, .int h0_tapeLength, .int h0_faultKind, .int h0_faultPlace, .ref nw, .ref im, .ref sl, .ref rd, .ref wk, .ref fm, .ref mt, .ref ch, .ref dy])), (nw, .inr (3, [.int nw_isKept, .ref tn, .int nw_strayed, .int nw_names, .int nw_known, .int nw_gone])), (tn_above, .inl (cA_tn_above, 10, .inl f_tn_above)), (tn_shows, .inl (cA_tn_shows, 10, .inl f_tn_shows)), (tn_oneEnd, .inl (cA_tn_oneEnd, 16, .inl f_tn_oneEnd)), (tn_otherEnd, .inl (cA_tn_otherEnd, 16, .inl f_tn_otherEnd)), (tn_told, .inl (cA_tn_told, 480, .inl f_tn_told)), (tn_strayParts, .inl (cA_tn_strayParts, 10, .inl f_tn_strayParts)), (tn_strayCourts, .inl (cA_tn_strayCourts, 10, .inl f_tn_strayCourts)), (tn, .inr (7, [.int tn_hours, .int tn_courts, .int tn_gateCount, .int tn_people, .int tn_lines, .int tn_falseHours, .int tn_strayers, .int tn_deep, .ref tn_above, .ref tn_doors, .ref tn_degrees, .ref tn_neighbours, .ref tn_shows, .ref tn_oneEnd, .ref tn_otherEnd, .ref tn_told, .ref tn_strayParts, .ref tn_strayCourts]))]) hB ht hvm hP hD hK [2] [0, 1, 3, 4, 5, 6, 7, 8, 9] rfl 10 rfl (by decide +kernel) rfl (by decide +kernel) hk1 hFc
  generalize H1 = H at hP hS ⊢
  have hK : va_K (dC, dI) vwCl [(cA_tn_above, .int), (cA_tn_shows, .int), (cA_tn_oneEnd, .int), (cA_tn_otherEnd, .int), (cA_tn_told, .int), (cA_tn_strayParts, .int), (cA_tn_strayCourts, .int)] s := hK
  have b_r_1 : 0 ≤ r_1.toInt ∧ r_1.toInt ≤ 1 := hw.1
  have s_r_1 := hw.2
  refine lv_if_eq (tgt := 31) hx hb dX9_likely_17 (by decide) (fun c_2 => ?_) (fun c_2 => ?_)
  · have ic_2 := zz_eq rfl (show Int32.toInt 0 = 0 from by decide) c_2
    refine lv_bipush (v := (-2)) hx hb dX9_likely_31 (by decide) ?_
    exact W.iret (v := (-2)) hx hb hr (fun t ht hW => by rw [← hQe]; exact ⟨⟨(-2), (), rfl, (by decide), z_ret hP hK hD ht hW [0, 1, 9, 2, 3, 4, 5, 6, 7, 8] [] rfl (by decide) rfl⟩, hS.F ht⟩) hS.2.2 dX9_likely_33
  · have ic_2 := zz_neq rfl (show Int32.toInt 0 = 0 from by decide) c_2
    refine lv_iload hx hb dX9_likely_20 (lv_at hl 5 rfl) ?_
    have nb_p4 := zi_nb p4
    refine lv_if_lt (tgt := 31) hx hb dX9_likely_22 (by decide) (fun c_3 => ?_) (fun c_3 => ?_)
    · have ic_3 := zz_lt rfl (show Int32.toInt 0 = 0 from by decide) c_3
      refine lv_bipush (v := (-2)) hx hb dX9_likely_31 (by decide) ?_
      exact W.iret (v := (-2)) hx hb hr (fun t ht hW => by rw [← hQe]; exact ⟨⟨(-2), (), rfl, (by decide), z_ret hP hK hD ht hW [0, 1, 9, 2, 3, 4, 5, 6, 7, 8] [] rfl (by decide) rfl⟩, hS.F ht⟩) hS.2.2 dX9_likely_33
    · have ic_3 := zz_nlt rfl (show Int32.toInt 0 = 0 from by decide) c_3
      refine lv_iload hx hb dX9_likely_25 (lv_at hl 5 rfl) ?_
      refine lv_iconst (v := 1) hx hb dX9_likely_27 (by decide) ?_
      refine lv_icmp_le (tgt := 34) hx hb dX9_likely_28 (by decide) (fun c_4 => ?_) (fun c_4 => ?_)
      · have ic_4 := zz_le rfl (show Int32.toInt 1 = 1 from by decide) c_4
        refine lv_aload hx hb dX9_likely_34 (lv_at hl 0 rfl) ?_
        refine lv_iload_n hx hb dX9_likely_36 rfl (lv_at hl 2 rfl) ?_
        refine lv_iload_n hx hb dX9_likely_37 rfl (lv_at hl 3 rfl) ?_
        obtain ⟨hPc, hDc, hFc⟩ := z_cut (wc := (zV4 tn tn_hours tn_courts tn_gateCount tn_people tn_lines tn_falseHours tn_strayers tn_deep tn_above tn_doors tn_degrees tn_neighbours tn_shows tn_oneEnd tn_otherEnd tn_told tn_strayParts tn_strayCourts tn_oneEnd cA_tn_oneEnd f_tn_oneEnd tn_otherEnd cA_tn_otherEnd f_tn_otherEnd)) hP hD hS hA [9, 4, 5] rfl (by decide +kernel)
        have hKc := hK.sub (tys' := [(cA_tn_oneEnd, .int), (cA_tn_otherEnd, .int)]) [2, 3] rfl
        refine va_calli (va_runV (As := [.int p1, .int p2]) (rest := []) ⟨hx, hb, hml, hown, hts⟩ (k_X7_beyond l sa dC dI tn p1 p2 tn_hours tn_courts tn_gateCount tn_people tn_lines tn_falseHours tn_strayers tn_deep tn_above tn_doors tn_degrees tn_neighbours tn_shows tn_oneEnd tn_otherEnd tn_told tn_strayParts tn_strayCourts cA_tn_oneEnd f_tn_oneEnd cA_tn_otherEnd f_tn_otherEnd (by first | with_reducible assumption | omega) b_tn_hours b_tn_courts b_tn_gateCount b_tn_people b_tn_falseHours b_tn_deep b_f_tn_oneEnd b_f_tn_otherEnd H.size) (cwV 2 hts (z_gV zw_t3_237 zw_t3_238 zw_t3_239 zw_t1_3 zw_t4_0) rfl rfl rfl (by decide +kernel) (by rw [← hRe]; exact ⟨(Nat.le_of_ble_eq_true rfl), (Nat.le_of_ble_eq_true rfl)⟩)) (z_preV hPc hKc hDc hN hXs hS hFc (q := (RX7, TX7, 18)) (ci := 7) (q0 := 0) rfl rfl) rfl rfl hl.1 rfl (lv_room (Nat.le_of_ble_eq_true rfl)) dX9_likely_38 (by rw [← hRe]; exact ⟨(Nat.le_of_ble_eq_true rfl), (Nat.le_of_ble_eq_true rfl)⟩)) hS (fun q _ h => hFc q h) hFc (fun r_5 u t H1 locs ht hvm hw hB hz1 hk1 hS => ?_)
        obtain ⟨hP, hD, hK⟩ := z_after3 (wn := [(h0, .inr (9, [.ref tp, .int h0_tapeLength, .int h0_faultKind, .int h0_faultPlace, .ref nw, .ref im, .ref sl, .ref rd, .ref wk, .ref fm, .ref mt, .ref ch, .ref dy])), (nw, .inr (3, [.int nw_isKept, .ref tn, .int nw_strayed, .int nw_names, .int nw_known, .int nw_gone])), (tn_above, .inl (cA_tn_above, 10, .inl f_tn_above)), (tn_shows, .inl (cA_tn_shows, 10, .inl f_tn_shows)), (tn_told, .inl (cA_tn_told, 480, .inl f_tn_told)), (tn_strayParts, .inl (cA_tn_strayParts, 10, .inl f_tn_strayParts)), (tn_strayCourts, .inl (cA_tn_strayCourts, 10, .inl f_tn_strayCourts)), (tn, .inr (7, [.int tn_hours, .int tn_courts, .int tn_gateCount, .int tn_people, .int tn_lines, .int tn_falseHours, .int tn_strayers, .int tn_deep, .ref tn_above, .ref tn_doors, .ref tn_degrees, .ref tn_neighbours, .ref tn_shows, .ref tn_oneEnd, .ref tn_otherEnd, .ref tn_told, .ref tn_strayParts, .ref tn_strayCourts])), (tn_oneEnd, .inl (cA_tn_oneEnd, 16, .inl f_tn_oneEnd)), (tn_otherEnd, .inl (cA_tn_otherEnd, 16, .inl f_tn_otherEnd))]) hB ht hvm hP hD hK [9, 4, 5] [0, 1, 2, 3, 6, 7, 8] rfl 10 rfl (by decide +kernel) rfl (by decide +kernel) hk1 hFc
        generalize H1 = H at hP hS ⊢
        have hK : va_K (dC, dI) vwCl [(cA_tn_above, .int), (cA_tn_shows, .int), (cA_tn_oneEnd, .int), (cA_tn_otherEnd, .int), (cA_tn_told, .int), (cA_tn_strayParts, .int), (cA_tn_strayCourts, .int)] s := hK
        have b_r_5 : (-1) ≤ r_5.toInt ∧ r_5.toInt ≤ 9 := hw
        refine lv_istore (lv' := [(6, .int r_5), (5, .ref tn), (0, .ref h0), (1, .int p1), (2, .int p2), (3, .int p3), (4, .int p4)]) hx hb dX9_likely_41 hl (by decide) rfl (fun ls hl => ?_)
        refine lv_iload hx hb dX9_likely_43 (lv_at hl 0 rfl) ?_
        refine lv_iconst (v := (-1)) hx hb dX9_likely_45 (by decide) ?_
        refine lv_icmp_eq (tgt := 60) hx hb dX9_likely_46 (by decide) (fun c_6 => ?_) (fun c_6 => ?_)
        · have ic_6 := zz_eq rfl (show Int32.toInt (-1) = (-1) from by decide) c_6
          refine lv_iconst (v := (-1)) hx hb dX9_likely_60 (by decide) ?_
          exact W.iret (v := (-1)) hx hb hr (fun t ht hW => by rw [← hQe]; exact ⟨⟨(-1), (), rfl, (by decide), z_ret hP hK hD ht hW [0, 1, 7, 2, 3, 8, 9, 4, 5, 6] [] rfl (by decide) rfl⟩, hS.F ht⟩) hS.2.2 dX9_likely_61
        · have ic_6 := zz_neq rfl (show Int32.toInt (-1) = (-1) from by decide) c_6
          refine lv_aload hx hb dX9_likely_49 (lv_at hl 1 rfl) ?_
          refine lv_iload_n hx hb dX9_likely_51 rfl (lv_at hl 4 rfl) ?_
          refine lv_iload hx hb dX9_likely_52 (lv_at hl 0 rfl) ?_
          obtain ⟨hPc, hDc, hFc⟩ := z_cut (wc := (zV5 tn tn_hours tn_courts tn_gateCount tn_people tn_lines tn_falseHours tn_strayers tn_deep tn_above tn_doors tn_degrees tn_neighbours tn_shows tn_oneEnd tn_otherEnd tn_told tn_strayParts tn_strayCourts tn_above cA_tn_above f_tn_above)) hP hD hS hA [7, 2] rfl (by decide +kernel)
          have hKc := hK.sub (tys' := [(cA_tn_above, .int)]) [0] rfl
          refine va_calli (va_runV (As := [.int p2, .int r_5]) (rest := []) ⟨hx, hb, hml, hown, hts⟩ (k_X7_isFree l sa dC dI tn p2 r_5 tn_hours tn_courts tn_gateCount tn_people tn_lines tn_falseHours tn_strayers tn_deep tn_above tn_doors tn_degrees tn_neighbours tn_shows tn_oneEnd tn_otherEnd tn_told tn_strayParts tn_strayCourts cA_tn_above f_tn_above (by first | with_reducible assumption | omega) b_tn_hours b_tn_courts b_tn_gateCount b_tn_people b_tn_falseHours b_tn_deep H.size) (cwV 2 hts (z_gV zw_t3_225 zw_t3_226 zw_t3_227 zw_t1_3 zw_t3_228) rfl rfl rfl (by decide +kernel) (by rw [← hRe]; exact ⟨(Nat.le_of_ble_eq_true rfl), (Nat.le_of_ble_eq_true rfl)⟩)) (z_preV hPc hKc hDc hN hXs hS hFc (q := (RX7, TX7, 18)) (ci := 7) (q0 := 0) rfl rfl) rfl rfl hl.1 rfl (lv_room (Nat.le_of_ble_eq_true rfl)) dX9_likely_54 (by rw [← hRe]; exact ⟨(Nat.le_of_ble_eq_true rfl), (Nat.le_of_ble_eq_true rfl)⟩)) hS (fun q _ h => hFc q h) hFc (fun r_7 u t H1 locs ht hvm hw hB hz1 hk1 hS => ?_)
          obtain ⟨hP, hD, hK⟩ := z_after3 (wn := (zV82 h0 tp h0_tapeLength h0_faultKind h0_faultPlace nw im sl rd wk fm mt ch dy nw nw_isKept tn nw_strayed nw_names nw_known nw_gone tn_shows cA_tn_shows f_tn_shows tn_told cA_tn_told f_tn_told tn_strayParts cA_tn_strayParts f_tn_strayParts tn_strayCourts cA_tn_strayCourts f_tn_strayCourts tn_oneEnd cA_tn_oneEnd f_tn_oneEnd tn_otherEnd cA_tn_otherEnd f_tn_otherEnd tn tn_hours tn_courts tn_gateCount tn_people tn_lines tn_falseHours tn_strayers tn_deep tn_above tn_doors tn_degrees tn_neighbours tn_shows tn_oneEnd tn_otherEnd tn_told tn_strayParts tn_strayCourts tn_above cA_tn_above f_tn_above)) hB ht hvm hP hD hK [7, 2] [0, 1, 3, 4, 5, 6, 8, 9] rfl 10 rfl (by decide +kernel) rfl (by decide +kernel) hk1 hFc
          generalize H1 = H at hP hS ⊢
          have hK : va_K (dC, dI) vwCl [(cA_tn_above, .int), (cA_tn_shows, .int), (cA_tn_oneEnd, .int), (cA_tn_otherEnd, .int), (cA_tn_told, .int), (cA_tn_strayParts, .int), (cA_tn_strayCourts, .int)] s := hK
          have b_r_7 : 0 ≤ r_7.toInt ∧ r_7.toInt ≤ 1 := hw
          refine lv_if_eq (tgt := 62) hx hb dX9_likely_57 (by decide) (fun c_8 => ?_) (fun c_8 => ?_)
          · have ic_8 := zz_eq rfl (show Int32.toInt 0 = 0 from by decide) c_8
            refine lv_iconst (v := (-1)) hx hb dX9_likely_62 (by decide) ?_
            refine lv_istore (lv' := [(7, .int (-1)), (6, .int r_5), (5, .ref tn), (0, .ref h0), (1, .int p1), (2, .int p2), (3, .int p3), (4, .int p4)]) hx hb dX9_likely_63 hl (by decide) rfl (fun ls hl => ?_)
            refine lv_iconst (v := (-1)) hx hb dX9_likely_65 (by decide) ?_
            refine lv_istore (lv' := [(8, .int (-1)), (7, .int (-1)), (6, .int r_5), (5, .ref tn), (0, .ref h0), (1, .int p1), (2, .int p2), (3, .int p3), (4, .int p4)]) hx hb dX9_likely_66 hl (by decide) rfl (fun ls hl => ?_)
            refine lv_iconst (v := 0) hx hb dX9_likely_68 (by decide) ?_
            refine lv_istore (lv' := [(9, .int 0), (8, .int (-1)), (7, .int (-1)), (6, .int r_5), (5, .ref tn), (0, .ref h0), (1, .int p1), (2, .int p2), (3, .int p3), (4, .int p4)]) hx hb dX9_likely_69 hl (by decide) rfl (fun ls hl => ?_)
            have loop_1 : ∀ (t : Nat) (v7_10 : Int32) (v8_11 : Int32) (v9_9 : Int32) (b_v7_10 : (-1) ≤ v7_10.toInt ∧ v7_10.toInt ≤ 199) (b_v8_11 : (-1) ≤ v8_11.toInt ∧ v8_11.toInt ≤ 2147483647) (b_v9_9 : 0 ≤ v9_9.toInt ∧ v9_9.toInt ≤ 10) (H : Heap) (locs : List Loc) (ls : Array Slot), 10 - v9_9.toInt < (t : Int) → va_P (dC, dI) vwCl (zV82 h0 tp h0_tapeLength h0_faultKind h0_faultPlace nw im sl rd wk fm mt ch dy nw nw_isKept tn nw_strayed nw_names nw_known nw_gone tn_shows cA_tn_shows f_tn_shows tn_told cA_tn_told f_tn_told tn_strayParts cA_tn_strayParts f_tn_strayParts tn_strayCourts cA_tn_strayCourts f_tn_strayCourts tn_oneEnd cA_tn_oneEnd f_tn_oneEnd tn_otherEnd cA_tn_otherEnd f_tn_otherEnd tn tn_hours tn_courts tn_gateCount tn_people tn_lines tn_falseHours tn_strayers tn_deep tn_above tn_doors tn_degrees tn_neighbours tn_shows tn_oneEnd tn_otherEnd tn_told tn_strayParts tn_strayCourts tn_above cA_tn_above f_tn_above) H → va_D A (zV82 h0 tp h0_tapeLength h0_faultKind h0_faultPlace nw im sl rd wk fm mt ch dy nw nw_isKept tn nw_strayed nw_names nw_known nw_gone tn_shows cA_tn_shows f_tn_shows tn_told cA_tn_told f_tn_told tn_strayParts cA_tn_strayParts f_tn_strayParts tn_strayCourts cA_tn_strayCourts f_tn_strayCourts tn_oneEnd cA_tn_oneEnd f_tn_oneEnd tn_otherEnd cA_tn_otherEnd f_tn_otherEnd tn tn_hours tn_courts tn_gateCount tn_people tn_lines tn_falseHours tn_strayers tn_deep tn_above tn_doors tn_degrees tn_neighbours tn_shows tn_oneEnd tn_otherEnd tn_told tn_strayParts tn_strayCourts tn_above cA_tn_above f_tn_above) → va_S A s.heap H locs → lv_has ls 10 [(0, .ref h0), (1, .int p1), (2, .int p2), (3, .int p3), (4, .int p4), (5, .ref tn), (6, .int r_5), (7, .int v7_10), (8, .int v8_11), (9, .int v9_9)] → W p l e R s m args below meth c H locs 0 0 (MQ below Qc args s 0 0 A) (F0 m 71 ls []) := by
              intro t
              induction t with
              | zero => intro v7_10 v8_11 v9_9 b_v7_10 b_v8_11 b_v9_9 H locs ls hmu _ _ _ _; exact absurd hmu (by first | with_reducible assumption | omega)
              | succ t ih_1 =>
                intro v7_10 v8_11 v9_9 b_v7_10 b_v8_11 b_v9_9 H locs ls hmu hP hD hS hl
                refine lv_iload hx hb dX9_likely_71 (lv_at hl 9 rfl) ?_
                refine lv_aload hx hb dX9_likely_73 (lv_at hl 5 rfl) ?_
                refine va_get (D := (dC, dI)) (ci := 7) (v := .int tn_people) (C := RX7) (T := TX7) (N := 18) hx hb hts zl_X7 hown hK hP 8 rfl rfl 3 (by decide) (hts _ zw_t1_65) (fun _ h9 => h9) rfl dX9_likely_75 ?_
                refine lv_icmp_ge (tgt := 137) hx hb dX9_likely_78 (by decide) (fun c_12 => ?_) (fun c_12 => ?_)
                · have ic_12 := zz_ge rfl rfl c_12
                  refine lv_iload hx hb dX9_likely_137 (lv_at hl 4 rfl) ?_
                  refine lv_if_ne (tgt := 147) hx hb dX9_likely_139 (by decide) (fun c_13 => ?_) (fun c_13 => ?_)
                  · have ic_13 := zz_ne rfl (show Int32.toInt 0 = 0 from by decide) c_13
                    refine lv_iload hx hb dX9_likely_147 (lv_at hl 7 rfl) ?_
                    exact W.iret (v := v7_10) hx hb hr (fun t ht hW => by rw [← hQe]; exact ⟨⟨v7_10, (), rfl, (by first | with_reducible assumption | omega), z_ret hP hK hD ht hW [0, 1, 8, 9, 2, 6, 7, 3, 4, 5] [] rfl (by decide) rfl⟩, hS.F ht⟩) hS.2.2 dX9_likely_149
                  · have ic_13 := zz_nne rfl (show Int32.toInt 0 = 0 from by decide) c_13
                    refine lv_iload hx hb dX9_likely_142 (lv_at hl 8 rfl) ?_
                    refine lv_goto (tgt := 149) hx hb dX9_likely_144 (by decide) ?_
                    exact W.iret (v := v8_11) hx hb hr (fun t ht hW => by rw [← hQe]; exact ⟨⟨v8_11, (), rfl, (by first | with_reducible assumption | omega), z_ret hP hK hD ht hW [0, 1, 8, 9, 2, 6, 7, 3, 4, 5] [] rfl (by decide) rfl⟩, hS.F ht⟩) hS.2.2 dX9_likely_149
                · have ic_12 := zz_nge rfl rfl c_12
                  refine lv_aload_n hx hb dX9_likely_81 rfl (lv_at hl 0 rfl) ?_
                  refine va_get (D := (dC, dI)) (ci := 9) (v := .ref nw) (C := RX9) (T := TX9) (N := 13) hx hb hts zl_X9 hown hK hP 0 rfl rfl 4 (by decide) (hts _ zw_t2_193) (fun _ h9 => h9) rfl dX9_likely_82 ?_
                  refine va_get (D := (dC, dI)) (ci := 3) (v := .int nw_names) (C := RX3) (T := TX3) (N := 6) hx hb hts zl_X3 hown hK hP 1 rfl rfl 3 (by decide) (hts _ zw_t1_163) (fun _ h9 => h9) rfl dX9_likely_85 ?_
                  refine lv_iload hx hb dX9_likely_88 (lv_at hl 9 rfl) ?_
                  obtain ⟨hPc, hDc, hFc⟩ := z_cut (wc := []) hP hD hS hA [] rfl (by decide +kernel)
                  have hKc := hK.sub (tys' := []) [] rfl
                  refine va_calli (va_runS (As := [.int nw_names, .int v9_9]) (rest := []) ⟨hx, hb, hml, hown, hts⟩ (k_X9_has l sa dC dI nw_names v9_9 H.size) (va_cwS 2 hts (z_gS zw_t4_12 zw_t3_123 zw_t1_1 zw_t3_124) rfl rfl rfl (by decide +kernel) (by rw [← hRe]; exact ⟨(Nat.le_of_ble_eq_true rfl), (Nat.le_of_ble_eq_true rfl)⟩)) (z_preS hPc hKc hDc hN hXs hS hFc) rfl rfl hl.1 rfl (lv_room (Nat.le_of_ble_eq_true rfl)) dX9_likely_90 (by rw [← hRe]; exact ⟨(Nat.le_of_ble_eq_true rfl), (Nat.le_of_ble_eq_true rfl)⟩)) hS (fun q _ h => hFc q h) hFc (fun r_14 u t H1 locs ht hvm hw hB hz1 hk1 hS => ?_)
                  obtain ⟨hP, hD, hK⟩ := z_after3 (wn := (zV82 h0 tp h0_tapeLength h0_faultKind h0_faultPlace nw im sl rd wk fm mt ch dy nw nw_isKept tn nw_strayed nw_names nw_known nw_gone tn_shows cA_tn_shows f_tn_shows tn_told cA_tn_told f_tn_told tn_strayParts cA_tn_strayParts f_tn_strayParts tn_strayCourts cA_tn_strayCourts f_tn_strayCourts tn_oneEnd cA_tn_oneEnd f_tn_oneEnd tn_otherEnd cA_tn_otherEnd f_tn_otherEnd tn tn_hours tn_courts tn_gateCount tn_people tn_lines tn_falseHours tn_strayers tn_deep tn_above tn_doors tn_degrees tn_neighbours tn_shows tn_oneEnd tn_otherEnd tn_told tn_strayParts tn_strayCourts tn_above cA_tn_above f_tn_above)) hB ht hvm hP hD hK [] [0, 1, 2, 3, 4, 5, 6, 7, 8, 9] rfl 10 rfl (by decide +kernel) rfl (by decide +kernel) hk1 hFc
                  generalize H1 = H at hP hS ⊢
                  have hK : va_K (dC, dI) vwCl [(cA_tn_above, .int), (cA_tn_shows, .int), (cA_tn_oneEnd, .int), (cA_tn_otherEnd, .int), (cA_tn_told, .int), (cA_tn_strayParts, .int), (cA_tn_strayCourts, .int)] s := hK
                  have b_r_14 : 0 ≤ r_14.toInt ∧ r_14.toInt ≤ 1 := hw
                  refine lv_if_eq (tgt := 131) hx hb dX9_likely_93 (by decide) (fun c_15 => ?_) (fun c_15 => ?_)
                  · have ic_15 := zz_eq rfl (show Int32.toInt 0 = 0 from by decide) c_15
                    obtain ⟨x_16, ex_16⟩ : ∃ z : Int32, z = v9_9 + Int32.ofInt 1 := ⟨_, rfl⟩
                    have b_x_16 : x_16.toInt = v9_9.toInt + 1 := by rw [ex_16]; exact zi_add rfl (show (Int32.ofInt 1).toInt = 1 from by decide) (by first | with_reducible assumption | omega)
                    refine lv_iinc (v := x_16) (lv' := [(9, .int x_16), (0, .ref h0), (1, .int p1), (2, .int p2), (3, .int p3), (4, .int p4), (5, .ref tn), (6, .int r_5), (7, .int v7_10), (8, .int v8_11)]) hx hb dX9_likely_131 hl (k := 9) rfl ex_16.symm (by decide) rfl (fun ls hl => ?_)
                    refine lv_goto (tgt := 71) hx hb dX9_likely_134 (by decide) ?_
                    exact ih_1 v7_10 v8_11 x_16 (by first | with_reducible assumption | omega) (by first | with_reducible assumption | omega) (by first | with_reducible assumption | omega) _ _ _ (by first | with_reducible assumption | omega) (hP.sub (ws' := (zV82 h0 tp h0_tapeLength h0_faultKind h0_faultPlace nw im sl rd wk fm mt ch dy nw nw_isKept tn nw_strayed nw_names nw_known nw_gone tn_shows cA_tn_shows f_tn_shows tn_told cA_tn_told f_tn_told tn_strayParts cA_tn_strayParts f_tn_strayParts tn_strayCourts cA_tn_strayCourts f_tn_strayCourts tn_oneEnd cA_tn_oneEnd f_tn_oneEnd tn_otherEnd cA_tn_otherEnd f_tn_otherEnd tn tn_hours tn_courts tn_gateCount tn_people tn_lines tn_falseHours tn_strayers tn_deep tn_above tn_doors tn_degrees tn_neighbours tn_shows tn_oneEnd tn_otherEnd tn_told tn_strayParts tn_strayCourts tn_above cA_tn_above f_tn_above)) [0, 1, 2, 3, 4, 5, 6, 7, 8, 9] rfl) (hD.sub (ws' := (zV82 h0 tp h0_tapeLength h0_faultKind h0_faultPlace nw im sl rd wk fm mt ch dy nw nw_isKept tn nw_strayed nw_names nw_known nw_gone tn_shows cA_tn_shows f_tn_shows tn_told cA_tn_told f_tn_told tn_strayParts cA_tn_strayParts f_tn_strayParts tn_strayCourts cA_tn_strayCourts f_tn_strayCourts tn_oneEnd cA_tn_oneEnd f_tn_oneEnd tn_otherEnd cA_tn_otherEnd f_tn_otherEnd tn tn_hours tn_courts tn_gateCount tn_people tn_lines tn_falseHours tn_strayers tn_deep tn_above tn_doors tn_degrees tn_neighbours tn_shows tn_oneEnd tn_otherEnd tn_told tn_strayParts tn_strayCourts tn_above cA_tn_above f_tn_above)) [0, 1, 2, 3, 4, 5, 6, 7, 8, 9] (by decide) rfl) hS (lv_sub hl [1, 2, 3, 4, 5, 6, 7, 8, 9, 0] rfl)
                  · have ic_15 := zz_neq rfl (show Int32.toInt 0 = 0 from by decide) c_15
                    refine lv_aload_n hx hb dX9_likely_96 rfl (lv_at hl 0 rfl) ?_
                    refine va_get (D := (dC, dI)) (ci := 9) (v := .ref nw) (C := RX9) (T := TX9) (N := 13) hx hb hts zl_X9 hown hK hP 0 rfl rfl 4 (by decide) (hts _ zw_t2_193) (fun _ h9 => h9) rfl dX9_likely_97 ?_
                    refine lv_iload hx hb dX9_likely_100 (lv_at hl 9 rfl) ?_
                    refine lv_iload hx hb dX9_likely_102 (lv_at hl 6 rfl) ?_
                    refine lv_iload_n hx hb dX9_likely_104 rfl (lv_at hl 3 rfl) ?_
                    obtain ⟨hPc, hDc, hFc⟩ := z_cut (wc := (zV10 nw nw_isKept tn nw_strayed nw_names nw_known nw_gone tn tn_hours tn_courts tn_gateCount tn_people tn_lines tn_falseHours tn_strayers tn_deep tn_above tn_doors tn_degrees tn_neighbours tn_shows tn_oneEnd tn_otherEnd tn_told tn_strayParts tn_strayCourts tn_shows cA_tn_shows f_tn_shows tn_told cA_tn_told f_tn_told tn_strayParts cA_tn_strayParts f_tn_strayParts tn_strayCourts cA_tn_strayCourts f_tn_strayCourts)) hP hD hS hA [1, 8, 2, 3, 4, 5] rfl (by decide +kernel)
                    have hKc := hK.sub (tys' := [(cA_tn_shows, .int), (cA_tn_told, .int), (cA_tn_strayParts, .int), (cA_tn_strayCourts, .int)]) [1, 4, 5, 6] rfl
                    refine va_calli (va_runV (As := [.int v9_9, .int r_5, .int p3]) (rest := []) ⟨hx, hb, hml, hown, hts⟩ (k_X3_thought l sa dC dI nw v9_9 r_5 p3 nw_isKept tn nw_strayed nw_names nw_known nw_gone tn_hours tn_courts tn_gateCount tn_people tn_lines tn_falseHours tn_strayers tn_deep tn_above tn_doors tn_degrees tn_neighbours tn_shows tn_oneEnd tn_otherEnd tn_told tn_strayParts tn_strayCourts cA_tn_shows f_tn_shows cA_tn_told f_tn_told cA_tn_strayParts f_tn_strayParts cA_tn_strayCourts f_tn_strayCourts (by first | with_reducible assumption | omega) (by first | with_reducible assumption | omega) b_nw_isKept b_nw_names b_tn_hours b_tn_courts b_tn_gateCount b_tn_people b_tn_falseHours b_tn_deep b_f_tn_told b_f_tn_strayParts b_f_tn_strayCourts H.size) (cwV 3 hts (z_gV zw_t5_142 zw_t5_143 zw_t5_144 zw_t1_2 zw_t5_145) rfl rfl rfl (by decide +kernel) (by rw [← hRe]; exact ⟨(Nat.le_of_ble_eq_true rfl), (Nat.le_of_ble_eq_true rfl)⟩)) (z_preV hPc hKc hDc hN hXs hS hFc (q := (RX3, TX3, 6)) (ci := 3) (q0 := 0) rfl rfl) rfl rfl hl.1 rfl (lv_room (Nat.le_of_ble_eq_true rfl)) dX9_likely_105 (by rw [← hRe]; exact ⟨(Nat.le_of_ble_eq_true rfl), (Nat.le_of_ble_eq_true rfl)⟩)) hS (fun q _ h => hFc q h) hFc (fun r_17 u t H1 locs ht hvm hw hB hz1 hk1 hS => ?_)
                    obtain ⟨hP, hD, hK⟩ := z_after3 (wn := [(h0, .inr (9, [.ref tp, .int h0_tapeLength, .int h0_faultKind, .int h0_faultPlace, .ref nw, .ref im, .ref sl, .ref rd, .ref wk, .ref fm, .ref mt, .ref ch, .ref dy])), (tn_oneEnd, .inl (cA_tn_oneEnd, 16, .inl f_tn_oneEnd)), (tn_otherEnd, .inl (cA_tn_otherEnd, 16, .inl f_tn_otherEnd)), (tn_above, .inl (cA_tn_above, 10, .inl f_tn_above)), (nw, .inr (3, [.int nw_isKept, .ref tn, .int nw_strayed, .int nw_names, .int nw_known, .int nw_gone])), (tn, .inr (7, [.int tn_hours, .int tn_courts, .int tn_gateCount, .int tn_people, .int tn_lines, .int tn_falseHours, .int tn_strayers, .int tn_deep, .ref tn_above, .ref tn_doors, .ref tn_degrees, .ref tn_neighbours, .ref tn_shows, .ref tn_oneEnd, .ref tn_otherEnd, .ref tn_told, .ref tn_strayParts, .ref tn_strayCourts])), (tn_shows, .inl (cA_tn_shows, 10, .inl f_tn_shows)), (tn_told, .inl (cA_tn_told, 480, .inl f_tn_told)), (tn_strayParts, .inl (cA_tn_strayParts, 10, .inl f_tn_strayParts)), (tn_strayCourts, .inl (cA_tn_strayCourts, 10, .inl f_tn_strayCourts))]) hB ht hvm hP hD hK [1, 8, 2, 3, 4, 5] [0, 6, 7, 9] rfl 10 rfl (by decide +kernel) rfl (by decide +kernel) hk1 hFc
                    generalize H1 = H at hP hS ⊢
                    have hK : va_K (dC, dI) vwCl [(cA_tn_above, .int), (cA_tn_shows, .int), (cA_tn_oneEnd, .int), (cA_tn_otherEnd, .int), (cA_tn_told, .int), (cA_tn_strayParts, .int), (cA_tn_strayCourts, .int)] s := hK
                    have b_r_17 : 0 ≤ r_17.toInt ∧ r_17.toInt ≤ 199 := hw
                    refine lv_iload hx hb dX9_likely_108 (lv_at hl 7 rfl) ?_
                    refine lv_icmp_le (tgt := 131) hx hb dX9_likely_110 (by decide) (fun c_18 => ?_) (fun c_18 => ?_)
                    · have ic_18 := zz_le rfl rfl c_18
                      obtain ⟨x_19, ex_19⟩ : ∃ z : Int32, z = v9_9 + Int32.ofInt 1 := ⟨_, rfl⟩
                      have b_x_19 : x_19.toInt = v9_9.toInt + 1 := by rw [ex_19]; exact zi_add rfl (show (Int32.ofInt 1).toInt = 1 from by decide) (by first | with_reducible assumption | omega)
                      refine lv_iinc (v := x_19) (lv' := [(9, .int x_19), (0, .ref h0), (1, .int p1), (2, .int p2), (3, .int p3), (4, .int p4), (5, .ref tn), (6, .int r_5), (7, .int v7_10), (8, .int v8_11)]) hx hb dX9_likely_131 hl (k := 9) rfl ex_19.symm (by decide) rfl (fun ls hl => ?_)
                      refine lv_goto (tgt := 71) hx hb dX9_likely_134 (by decide) ?_
                      exact ih_1 v7_10 v8_11 x_19 (by first | with_reducible assumption | omega) (by first | with_reducible assumption | omega) (by first | with_reducible assumption | omega) _ _ _ (by first | with_reducible assumption | omega) (hP.sub (ws' := (zV82 h0 tp h0_tapeLength h0_faultKind h0_faultPlace nw im sl rd wk fm mt ch dy nw nw_isKept tn nw_strayed nw_names nw_known nw_gone tn_shows cA_tn_shows f_tn_shows tn_told cA_tn_told f_tn_told tn_strayParts cA_tn_strayParts f_tn_strayParts tn_strayCourts cA_tn_strayCourts f_tn_strayCourts tn_oneEnd cA_tn_oneEnd f_tn_oneEnd tn_otherEnd cA_tn_otherEnd f_tn_otherEnd tn tn_hours tn_courts tn_gateCount tn_people tn_lines tn_falseHours tn_strayers tn_deep tn_above tn_doors tn_degrees tn_neighbours tn_shows tn_oneEnd tn_otherEnd tn_told tn_strayParts tn_strayCourts tn_above cA_tn_above f_tn_above)) [0, 4, 6, 7, 8, 9, 1, 2, 5, 3] rfl) (hD.sub (ws' := (zV82 h0 tp h0_tapeLength h0_faultKind h0_faultPlace nw im sl rd wk fm mt ch dy nw nw_isKept tn nw_strayed nw_names nw_known nw_gone tn_shows cA_tn_shows f_tn_shows tn_told cA_tn_told f_tn_told tn_strayParts cA_tn_strayParts f_tn_strayParts tn_strayCourts cA_tn_strayCourts f_tn_strayCourts tn_oneEnd cA_tn_oneEnd f_tn_oneEnd tn_otherEnd cA_tn_otherEnd f_tn_otherEnd tn tn_hours tn_courts tn_gateCount tn_people tn_lines tn_falseHours tn_strayers tn_deep tn_above tn_doors tn_degrees tn_neighbours tn_shows tn_oneEnd tn_otherEnd tn_told tn_strayParts tn_strayCourts tn_above cA_tn_above f_tn_above)) [0, 4, 6, 7, 8, 9, 1, 2, 5, 3] (by decide) rfl) hS (lv_sub hl [1, 2, 3, 4, 5, 6, 7, 8, 9, 0] rfl)
                    · have ic_18 := zz_nle rfl rfl c_18
                      refine lv_aload_n hx hb dX9_likely_113 rfl (lv_at hl 0 rfl) ?_
                      refine va_get (D := (dC, dI)) (ci := 9) (v := .ref nw) (C := RX9) (T := TX9) (N := 13) hx hb hts zl_X9 hown hK hP 0 rfl rfl 4 (by decide) (hts _ zw_t2_193) (fun _ h9 => h9) rfl dX9_likely_114 ?_
                      refine lv_iload hx hb dX9_likely_117 (lv_at hl 9 rfl) ?_
                      refine lv_iload hx hb dX9_likely_119 (lv_at hl 6 rfl) ?_
                      refine lv_iload_n hx hb dX9_likely_121 rfl (lv_at hl 3 rfl) ?_
                      obtain ⟨hPc, hDc, hFc⟩ := z_cut (wc := (zV10 nw nw_isKept tn nw_strayed nw_names nw_known nw_gone tn tn_hours tn_courts tn_gateCount tn_people tn_lines tn_falseHours tn_strayers tn_deep tn_above tn_doors tn_degrees tn_neighbours tn_shows tn_oneEnd tn_otherEnd tn_told tn_strayParts tn_strayCourts tn_shows cA_tn_shows f_tn_shows tn_told cA_tn_told f_tn_told tn_strayParts cA_tn_strayParts f_tn_strayParts tn_strayCourts cA_tn_strayCourts f_tn_strayCourts)) hP hD hS hA [4, 5, 6, 7, 8, 9] rfl (by decide +kernel)
                      have hKc := hK.sub (tys' := [(cA_tn_shows, .int), (cA_tn_told, .int), (cA_tn_strayParts, .int), (cA_tn_strayCourts, .int)]) [1, 4, 5, 6] rfl
                      refine va_calli (va_runV (As := [.int v9_9, .int r_5, .int p3]) (rest := []) ⟨hx, hb, hml, hown, hts⟩ (k_X3_thought l sa dC dI nw v9_9 r_5 p3 nw_isKept tn nw_strayed nw_names nw_known nw_gone tn_hours tn_courts tn_gateCount tn_people tn_lines tn_falseHours tn_strayers tn_deep tn_above tn_doors tn_degrees tn_neighbours tn_shows tn_oneEnd tn_otherEnd tn_told tn_strayParts tn_strayCourts cA_tn_shows f_tn_shows cA_tn_told f_tn_told cA_tn_strayParts f_tn_strayParts cA_tn_strayCourts f_tn_strayCourts (by first | with_reducible assumption | omega) (by first | with_reducible assumption | omega) b_nw_isKept b_nw_names b_tn_hours b_tn_courts b_tn_gateCount b_tn_people b_tn_falseHours b_tn_deep b_f_tn_told b_f_tn_strayParts b_f_tn_strayCourts H.size) (cwV 3 hts (z_gV zw_t5_142 zw_t5_143 zw_t5_144 zw_t1_2 zw_t5_145) rfl rfl rfl (by decide +kernel) (by rw [← hRe]; exact ⟨(Nat.le_of_ble_eq_true rfl), (Nat.le_of_ble_eq_true rfl)⟩)) (z_preV hPc hKc hDc hN hXs hS hFc (q := (RX3, TX3, 6)) (ci := 3) (q0 := 0) rfl rfl) rfl rfl hl.1 rfl (lv_room (Nat.le_of_ble_eq_true rfl)) dX9_likely_122 (by rw [← hRe]; exact ⟨(Nat.le_of_ble_eq_true rfl), (Nat.le_of_ble_eq_true rfl)⟩)) hS (fun q _ h => hFc q h) hFc (fun r_20 u t H1 locs ht hvm hw hB hz1 hk1 hS => ?_)
                      obtain ⟨hP, hD, hK⟩ := z_after3 (wn := [(h0, .inr (9, [.ref tp, .int h0_tapeLength, .int h0_faultKind, .int h0_faultPlace, .ref nw, .ref im, .ref sl, .ref rd, .ref wk, .ref fm, .ref mt, .ref ch, .ref dy])), (tn_oneEnd, .inl (cA_tn_oneEnd, 16, .inl f_tn_oneEnd)), (tn_otherEnd, .inl (cA_tn_otherEnd, 16, .inl f_tn_otherEnd)), (tn_above, .inl (cA_tn_above, 10, .inl f_tn_above)), (nw, .inr (3, [.int nw_isKept, .ref tn, .int nw_strayed, .int nw_names, .int nw_known, .int nw_gone])), (tn, .inr (7, [.int tn_hours, .int tn_courts, .int tn_gateCount, .int tn_people, .int tn_lines, .int tn_falseHours, .int tn_strayers, .int tn_deep, .ref tn_above, .ref tn_doors, .ref tn_degrees, .ref tn_neighbours, .ref tn_shows, .ref tn_oneEnd, .ref tn_otherEnd, .ref tn_told, .ref tn_strayParts, .ref tn_strayCourts])), (tn_shows, .inl (cA_tn_shows, 10, .inl f_tn_shows)), (tn_told, .inl (cA_tn_told, 480, .inl f_tn_told)), (tn_strayParts, .inl (cA_tn_strayParts, 10, .inl f_tn_strayParts)), (tn_strayCourts, .inl (cA_tn_strayCourts, 10, .inl f_tn_strayCourts))]) hB ht hvm hP hD hK [4, 5, 6, 7, 8, 9] [0, 1, 2, 3] rfl 10 rfl (by decide +kernel) rfl (by decide +kernel) hk1 hFc
                      generalize H1 = H at hP hS ⊢
                      have hK : va_K (dC, dI) vwCl [(cA_tn_above, .int), (cA_tn_shows, .int), (cA_tn_oneEnd, .int), (cA_tn_otherEnd, .int), (cA_tn_told, .int), (cA_tn_strayParts, .int), (cA_tn_strayCourts, .int)] s := hK
                      have b_r_20 : 0 ≤ r_20.toInt ∧ r_20.toInt ≤ 199 := hw
                      refine lv_istore (lv' := [(7, .int r_20), (0, .ref h0), (1, .int p1), (2, .int p2), (3, .int p3), (4, .int p4), (5, .ref tn), (6, .int r_5), (8, .int v8_11), (9, .int v9_9)]) hx hb dX9_likely_125 hl (by decide) rfl (fun ls hl => ?_)
                      refine lv_iload hx hb dX9_likely_127 (lv_at hl 9 rfl) ?_
                      refine lv_istore (lv' := [(8, .int v9_9), (7, .int r_20), (0, .ref h0), (1, .int p1), (2, .int p2), (3, .int p3), (4, .int p4), (5, .ref tn), (6, .int r_5), (9, .int v9_9)]) hx hb dX9_likely_129 hl (by decide) rfl (fun ls hl => ?_)
                      obtain ⟨x_21, ex_21⟩ : ∃ z : Int32, z = v9_9 + Int32.ofInt 1 := ⟨_, rfl⟩
                      have b_x_21 : x_21.toInt = v9_9.toInt + 1 := by rw [ex_21]; exact zi_add rfl (show (Int32.ofInt 1).toInt = 1 from by decide) (by first | with_reducible assumption | omega)
                      refine lv_iinc (v := x_21) (lv' := [(9, .int x_21), (8, .int v9_9), (7, .int r_20), (0, .ref h0), (1, .int p1), (2, .int p2), (3, .int p3), (4, .int p4), (5, .ref tn), (6, .int r_5)]) hx hb dX9_likely_131 hl (k := 9) rfl ex_21.symm (by decide) rfl (fun ls hl => ?_)
                      refine lv_goto (tgt := 71) hx hb dX9_likely_134 (by decide) ?_
                      exact ih_1 r_20 v9_9 x_21 (by first | with_reducible assumption | omega) (by first | with_reducible assumption | omega) (by first | with_reducible assumption | omega) _ _ _ (by first | with_reducible assumption | omega) (hP.sub (ws' := (zV82 h0 tp h0_tapeLength h0_faultKind h0_faultPlace nw im sl rd wk fm mt ch dy nw nw_isKept tn nw_strayed nw_names nw_known nw_gone tn_shows cA_tn_shows f_tn_shows tn_told cA_tn_told f_tn_told tn_strayParts cA_tn_strayParts f_tn_strayParts tn_strayCourts cA_tn_strayCourts f_tn_strayCourts tn_oneEnd cA_tn_oneEnd f_tn_oneEnd tn_otherEnd cA_tn_otherEnd f_tn_otherEnd tn tn_hours tn_courts tn_gateCount tn_people tn_lines tn_falseHours tn_strayers tn_deep tn_above tn_doors tn_degrees tn_neighbours tn_shows tn_oneEnd tn_otherEnd tn_told tn_strayParts tn_strayCourts tn_above cA_tn_above f_tn_above)) [0, 4, 6, 7, 8, 9, 1, 2, 5, 3] rfl) (hD.sub (ws' := (zV82 h0 tp h0_tapeLength h0_faultKind h0_faultPlace nw im sl rd wk fm mt ch dy nw nw_isKept tn nw_strayed nw_names nw_known nw_gone tn_shows cA_tn_shows f_tn_shows tn_told cA_tn_told f_tn_told tn_strayParts cA_tn_strayParts f_tn_strayParts tn_strayCourts cA_tn_strayCourts f_tn_strayCourts tn_oneEnd cA_tn_oneEnd f_tn_oneEnd tn_otherEnd cA_tn_otherEnd f_tn_otherEnd tn tn_hours tn_courts tn_gateCount tn_people tn_lines tn_falseHours tn_strayers tn_deep tn_above tn_doors tn_degrees tn_neighbours tn_shows tn_oneEnd tn_otherEnd tn_told tn_strayParts tn_strayCourts tn_above cA_tn_above f_tn_above)) [0, 4, 6, 7, 8, 9, 1, 2, 5, 3] (by decide) rfl) hS (lv_sub hl [3, 4, 5, 6, 7, 8, 9, 2, 1, 0] rfl)
            exact loop_1 12 (-1) (-1) (0) (by decide) (by decide) (by decide) _ _ _ (by decide) hP hD hS (lv_sub hl [5, 6, 7, 8, 9, 4, 3, 2, 1, 0] rfl)
          · have ic_8 := zz_neq rfl (show Int32.toInt 0 = 0 from by decide) c_8
            refine lv_iconst (v := (-1)) hx hb dX9_likely_60 (by decide) ?_
            exact W.iret (v := (-1)) hx hb hr (fun t ht hW => by rw [← hQe]; exact ⟨⟨(-1), (), rfl, (by decide), z_ret hP hK hD ht hW [0, 1, 8, 9, 2, 6, 7, 3, 4, 5] [] rfl (by decide) rfl⟩, hS.F ht⟩) hS.2.2 dX9_likely_61
      · have ic_4 := zz_nle rfl (show Int32.toInt 1 = 1 from by decide) c_4
        refine lv_bipush (v := (-2)) hx hb dX9_likely_31 (by decide) ?_
        exact W.iret (v := (-2)) hx hb hr (fun t ht hW => by rw [← hQe]; exact ⟨⟨(-2), (), rfl, (by decide), z_ret hP hK hD ht hW [0, 1, 9, 2, 3, 4, 5, 6, 7, 8] [] rfl (by decide) rfl⟩, hS.F ht⟩) hS.2.2 dX9_likely_33
set_option maxHeartbeats 4000000 in
set_option maxRecDepth 100000 in
theorem k_X9_begin (l : Launch) (sa : Nat → Nat) (dC : Nat → ClassId) (dI : Nat → Nat → Nat) (h0 : Nat) (p1 : Int32) (p2 : Int32) (p3 : Int32) (p4 : Int32) (tp : Nat) (h0_tapeLength : Int32) (h0_faultKind : Int32) (h0_faultPlace : Int32) (nw : Nat) (im : Nat) (sl : Nat) (rd : Nat) (wk : Nat) (fm : Nat) (mt : Nat) (ch : Nat) (dy : Nat) (nw_isKept : Int32) (tn : Nat) (nw_strayed : Int32) (nw_names : Int32) (nw_known : Int32) (nw_gone : Int32) (tn_hours : Int32) (tn_courts : Int32) (tn_gateCount : Int32) (tn_people : Int32) (tn_lines : Int32) (tn_falseHours : Int32) (tn_strayers : Int32) (tn_deep : Int32) (tn_above : Nat) (tn_doors : Nat) (tn_degrees : Nat) (tn_neighbours : Nat) (tn_shows : Nat) (tn_oneEnd : Nat) (tn_otherEnd : Nat) (tn_told : Nat) (tn_strayParts : Nat) (tn_strayCourts : Nat) (b_h0_tapeLength : 0 ≤ h0_tapeLength.toInt ∧ h0_tapeLength.toInt ≤ 1600) (b_nw_isKept : 0 ≤ nw_isKept.toInt ∧ nw_isKept.toInt ≤ 1) (b_nw_names : 0 ≤ nw_names.toInt ∧ nw_names.toInt ≤ 1023) (b_tn_hours : 0 ≤ tn_hours.toInt ∧ tn_hours.toInt ≤ 48) (b_tn_courts : 0 ≤ tn_courts.toInt ∧ tn_courts.toInt ≤ 10) (b_tn_gateCount : 0 ≤ tn_gateCount.toInt ∧ tn_gateCount.toInt ≤ 16) (b_tn_people : 0 ≤ tn_people.toInt ∧ tn_people.toInt ≤ 10) (b_tn_falseHours : 0 ≤ tn_falseHours.toInt ∧ tn_falseHours.toInt ≤ 9) (b_tn_deep : 0 ≤ tn_deep.toInt ∧ tn_deep.toInt ≤ 1) (sz : Nat) : Met l yX9_begin (.code yX9_begin cX9_begin 6 (some .int) :: zT) ({ frames := 2, cells := 0, slots := 0, locals := 44 }) (va_Pc [.ref h0, .int p1, .int p2, .int p3, .int p4] (zB sa dC dI (zV61 h0 tp h0_tapeLength h0_faultKind h0_faultPlace nw im sl rd wk fm mt ch dy nw nw_isKept tn nw_strayed nw_names nw_known nw_gone tn tn_hours tn_courts tn_gateCount tn_people tn_lines tn_falseHours tn_strayers tn_deep tn_above tn_doors tn_degrees tn_neighbours tn_shows tn_oneEnd tn_otherEnd tn_told tn_strayParts tn_strayCourts) [] sz)) (va_Qi (fun (r : Int32) (_ : Unit) => ((-2) ≤ r.toInt ∧ r.toInt ≤ 47)) (fun _ t => zW dC dI (zV61 h0 tp h0_tapeLength h0_faultKind h0_faultPlace nw im sl rd wk fm mt ch dy nw nw_isKept tn nw_strayed nw_names nw_known nw_gone tn tn_hours tn_courts tn_gateCount tn_people tn_lines tn_falseHours tn_strayers tn_deep tn_above tn_doors tn_degrees tn_neighbours tn_shows tn_oneEnd tn_otherEnd tn_told tn_strayParts tn_strayCourts) [] (va_A (zV61 h0 tp h0_tapeLength h0_faultKind h0_faultPlace nw im sl rd wk fm mt ch dy nw nw_isKept tn nw_strayed nw_names nw_known nw_gone tn tn_hours tn_courts tn_gateCount tn_people tn_lines tn_falseHours tn_strayers tn_deep tn_above tn_doors tn_degrees tn_neighbours tn_shows tn_oneEnd tn_otherEnd tn_told tn_strayParts tn_strayCourts) sz) t) (va_A (zV61 h0 tp h0_tapeLength h0_faultKind h0_faultPlace nw im sl rd wk fm mt ch dy nw nw_isKept tn nw_strayed nw_names nw_known nw_gone tn tn_hours tn_courts tn_gateCount tn_people tn_lines tn_falseHours tn_strayers tn_deep tn_above tn_doors tn_degrees tn_neighbours tn_shows tn_oneEnd tn_otherEnd tn_told tn_strayParts tn_strayCourts) sz)) 0 0 (va_A (zV61 h0 tp h0_tapeLength h0_faultKind h0_faultPlace nw im sl rd wk fm mt ch dy nw nw_isKept tn nw_strayed nw_names nw_known nw_gone tn tn_hours tn_courts tn_gateCount tn_people tn_lines tn_falseHours tn_strayers tn_deep tn_above tn_doors tn_degrees tn_neighbours tn_shows tn_oneEnd tn_otherEnd tn_told tn_strayParts tn_strayCourts) sz) := by
  refine z_enter (by decide) (by exact (Nat.le_of_ble_eq_true rfl)) ?_
  intro p e s m args below meth c ls A R Qc hargs hsz hQe hAe hRe hx hb hml hr hts hown hlocks hin hl hP hK hD hN hXs hA hS
  rw [hAe] at hQe
  have hown : s.vm.findClass RX9 = some m.cls := hown
  have hl : lv_has ls 6 [(0, .ref h0), (1, .int p1), (2, .int p2), (3, .int p3), (4, .int p4)] := hl
  refine lv_aload_n hx hb dX9_begin_0 rfl (lv_at hl 0 rfl) ?_
  refine va_get (D := (dC, dI)) (ci := 9) (v := .ref nw) (C := RX9) (T := TX9) (N := 13) hx hb hts zl_X9 hown hK hP 0 rfl rfl 4 (by decide) (hts _ zw_t2_193) (fun _ h9 => h9) rfl dX9_begin_1 ?_
  refine va_get (D := (dC, dI)) (ci := 3) (v := .ref tn) (C := RX3) (T := TX3) (N := 6) hx hb hts zl_X3 hown hK hP 1 rfl rfl 1 (by decide) (hts _ zw_t1_156) (fun _ h9 => h9) rfl dX9_begin_4 ?_
  refine lv_astore (lv' := [(5, .ref tn), (0, .ref h0), (1, .int p1), (2, .int p2), (3, .int p3), (4, .int p4)]) hx hb dX9_begin_7 hl (by decide) rfl (fun ls hl => ?_)
  refine lv_aload hx hb dX9_begin_9 (lv_at hl 0 rfl) ?_
  refine lv_iload_n hx hb dX9_begin_11 rfl (lv_at hl 2 rfl) ?_
  refine lv_iload_n hx hb dX9_begin_12 rfl (lv_at hl 4 rfl) ?_
  refine lv_iload_n hx hb dX9_begin_13 rfl (lv_at hl 3 rfl) ?_
  obtain ⟨hPc, hDc, hFc⟩ := z_cut (wc := (zV1 tn tn_hours tn_courts tn_gateCount tn_people tn_lines tn_falseHours tn_strayers tn_deep tn_above tn_doors tn_degrees tn_neighbours tn_shows tn_oneEnd tn_otherEnd tn_told tn_strayParts tn_strayCourts)) hP hD hS hA [2] rfl (by decide +kernel)
  have hKc := hK.sub (tys' := []) [] rfl
  refine va_calli (va_runV (As := [.int p1, .int p3, .int p2]) (rest := []) ⟨hx, hb, hml, hown, hts⟩ (k_X7_hasTrip l sa dC dI tn p1 p3 p2 tn_hours tn_courts tn_gateCount tn_people tn_lines tn_falseHours tn_strayers tn_deep tn_above tn_doors tn_degrees tn_neighbours tn_shows tn_oneEnd tn_otherEnd tn_told tn_strayParts tn_strayCourts b_tn_hours b_tn_courts b_tn_gateCount b_tn_people b_tn_falseHours b_tn_deep s.heap.size) (cwV 3 hts (z_gV zw_t4_21 zw_t4_22 zw_t4_23 zw_t1_3 zw_t4_24) rfl rfl rfl (by decide +kernel) (by rw [← hRe]; exact ⟨(Nat.le_of_ble_eq_true rfl), (Nat.le_of_ble_eq_true rfl)⟩)) (z_preV hPc hKc hDc hN hXs hS hFc (q := (RX7, TX7, 18)) (ci := 7) (q0 := 0) rfl rfl) rfl rfl hl.1 rfl (lv_room (Nat.le_of_ble_eq_true rfl)) dX9_begin_14 (by rw [← hRe]; exact ⟨(Nat.le_of_ble_eq_true rfl), (Nat.le_of_ble_eq_true rfl)⟩)) hS (fun q _ h => hFc q h) hFc (fun r_1 u t H1 locs ht hvm hw hB hz1 hk1 hS => ?_)
  obtain ⟨hP, hD, hK⟩ := z_after3 (wn := (zV61 h0 tp h0_tapeLength h0_faultKind h0_faultPlace nw im sl rd wk fm mt ch dy nw nw_isKept tn nw_strayed nw_names nw_known nw_gone tn tn_hours tn_courts tn_gateCount tn_people tn_lines tn_falseHours tn_strayers tn_deep tn_above tn_doors tn_degrees tn_neighbours tn_shows tn_oneEnd tn_otherEnd tn_told tn_strayParts tn_strayCourts)) hB ht hvm hP hD hK [2] [0, 1] rfl 3 rfl (by decide +kernel) rfl (by decide +kernel) hk1 hFc
  generalize H1 = H at hP hS ⊢
  have hK : va_K (dC, dI) vwCl [] s := hK
  have b_r_1 : 0 ≤ r_1.toInt ∧ r_1.toInt ≤ 1 := hw.1
  have s_r_1 := hw.2
  refine lv_if_eq (tgt := 36) hx hb dX9_begin_17 (by decide) (fun c_2 => ?_) (fun c_2 => ?_)
  · have ic_2 := zz_eq rfl (show Int32.toInt 0 = 0 from by decide) c_2
    refine lv_bipush (v := (-2)) hx hb dX9_begin_36 (by decide) ?_
    exact W.iret (v := (-2)) hx hb hr (fun t ht hW => by rw [← hQe]; exact ⟨⟨(-2), (), rfl, (by decide), z_ret hP hK hD ht hW [0, 1, 2] [] rfl (by decide) rfl⟩, hS.F ht⟩) hS.2.2 dX9_begin_38
  · have ic_2 := zz_neq rfl (show Int32.toInt 0 = 0 from by decide) c_2
    refine lv_aload hx hb dX9_begin_20 (lv_at hl 0 rfl) ?_
    refine lv_iload hx hb dX9_begin_22 (lv_at hl 5 rfl) ?_
    obtain ⟨hPc, hDc, hFc⟩ := z_cut (wc := (zV1 tn tn_hours tn_courts tn_gateCount tn_people tn_lines tn_falseHours tn_strayers tn_deep tn_above tn_doors tn_degrees tn_neighbours tn_shows tn_oneEnd tn_otherEnd tn_told tn_strayParts tn_strayCourts)) hP hD hS hA [2] rfl (by decide +kernel)
    have hKc := hK.sub (tys' := []) [] rfl
    refine va_calli (va_runV (As := [.int p4]) (rest := []) ⟨hx, hb, hml, hown, hts⟩ (k_X7_hasHour l sa dC dI tn p4 tn_hours tn_courts tn_gateCount tn_people tn_lines tn_falseHours tn_strayers tn_deep tn_above tn_doors tn_degrees tn_neighbours tn_shows tn_oneEnd tn_otherEnd tn_told tn_strayParts tn_strayCourts b_tn_hours b_tn_courts b_tn_gateCount b_tn_people b_tn_falseHours b_tn_deep H.size) (cwV 1 hts (z_gV zw_t3_185 zw_t3_186 zw_t3_187 zw_t1_3 zw_t3_188) rfl rfl rfl (by decide +kernel) (by rw [← hRe]; exact ⟨(Nat.le_of_ble_eq_true rfl), (Nat.le_of_ble_eq_true rfl)⟩)) (z_preV hPc hKc hDc hN hXs hS hFc (q := (RX7, TX7, 18)) (ci := 7) (q0 := 0) rfl rfl) rfl rfl hl.1 rfl (lv_room (Nat.le_of_ble_eq_true rfl)) dX9_begin_24 (by rw [← hRe]; exact ⟨(Nat.le_of_ble_eq_true rfl), (Nat.le_of_ble_eq_true rfl)⟩)) hS (fun q _ h => hFc q h) hFc (fun r_3 u t H1 locs ht hvm hw hB hz1 hk1 hS => ?_)
    obtain ⟨hP, hD, hK⟩ := z_after3 (wn := (zV61 h0 tp h0_tapeLength h0_faultKind h0_faultPlace nw im sl rd wk fm mt ch dy nw nw_isKept tn nw_strayed nw_names nw_known nw_gone tn tn_hours tn_courts tn_gateCount tn_people tn_lines tn_falseHours tn_strayers tn_deep tn_above tn_doors tn_degrees tn_neighbours tn_shows tn_oneEnd tn_otherEnd tn_told tn_strayParts tn_strayCourts)) hB ht hvm hP hD hK [2] [0, 1] rfl 3 rfl (by decide +kernel) rfl (by decide +kernel) hk1 hFc
    generalize H1 = H at hP hS ⊢
    have hK : va_K (dC, dI) vwCl [] s := hK
    have b_r_3 : 0 ≤ r_3.toInt ∧ r_3.toInt ≤ 1 := hw.1
    have s_r_3 := hw.2
    refine lv_if_eq (tgt := 36) hx hb dX9_begin_27 (by decide) (fun c_4 => ?_) (fun c_4 => ?_)
    · have ic_4 := zz_eq rfl (show Int32.toInt 0 = 0 from by decide) c_4
      refine lv_bipush (v := (-2)) hx hb dX9_begin_36 (by decide) ?_
      exact W.iret (v := (-2)) hx hb hr (fun t ht hW => by rw [← hQe]; exact ⟨⟨(-2), (), rfl, (by decide), z_ret hP hK hD ht hW [0, 1, 2] [] rfl (by decide) rfl⟩, hS.F ht⟩) hS.2.2 dX9_begin_38
    · have ic_4 := zz_neq rfl (show Int32.toInt 0 = 0 from by decide) c_4
      refine lv_iload_n hx hb dX9_begin_30 rfl (lv_at hl 4 rfl) ?_
      refine lv_iload hx hb dX9_begin_31 (lv_at hl 5 rfl) ?_
      refine lv_icmp_le (tgt := 39) hx hb dX9_begin_33 (by decide) (fun c_5 => ?_) (fun c_5 => ?_)
      · have ic_5 := zz_le rfl rfl c_5
        refine lv_iload_n hx hb dX9_begin_39 rfl (lv_at hl 4 rfl) ?_
        exact W.iret (v := p3) hx hb hr (fun t ht hW => by rw [← hQe]; exact ⟨⟨p3, (), rfl, (by first | with_reducible assumption | omega), z_ret hP hK hD ht hW [0, 1, 2] [] rfl (by decide) rfl⟩, hS.F ht⟩) hS.2.2 dX9_begin_40
      · have ic_5 := zz_nle rfl rfl c_5
        refine lv_bipush (v := (-2)) hx hb dX9_begin_36 (by decide) ?_
        exact W.iret (v := (-2)) hx hb hr (fun t ht hW => by rw [← hQe]; exact ⟨⟨(-2), (), rfl, (by decide), z_ret hP hK hD ht hW [0, 1, 2] [] rfl (by decide) rfl⟩, hS.F ht⟩) hS.2.2 dX9_begin_38
set_option maxHeartbeats 4000000 in
set_option maxRecDepth 100000 in
theorem k_X9_liveBy (l : Launch) (sa : Nat → Nat) (dC : Nat → ClassId) (dI : Nat → Nat → Nat) (h0 : Nat) (p1 : Int32) (tp : Nat) (h0_tapeLength : Int32) (h0_faultKind : Int32) (h0_faultPlace : Int32) (nw : Nat) (im : Nat) (sl : Nat) (rd : Nat) (wk : Nat) (fm : Nat) (mt : Nat) (ch : Nat) (dy : Nat) (cA_sl : ClassId) (f_sl : Nat → Option Nat) (r0 : Nat) (r1 : Nat) (r2 : Nat) (r3 : Nat) (nw_isKept : Int32) (tn : Nat) (nw_strayed : Int32) (nw_names : Int32) (nw_known : Int32) (nw_gone : Int32) (tn_hours : Int32) (tn_courts : Int32) (tn_gateCount : Int32) (tn_people : Int32) (tn_lines : Int32) (tn_falseHours : Int32) (tn_strayers : Int32) (tn_deep : Int32) (tn_above : Nat) (tn_doors : Nat) (tn_degrees : Nat) (tn_neighbours : Nat) (tn_shows : Nat) (tn_oneEnd : Nat) (tn_otherEnd : Nat) (tn_told : Nat) (tn_strayParts : Nat) (tn_strayCourts : Nat) (cA_tn_above : ClassId) (f_tn_above : Nat → Int32) (cA_tn_shows : ClassId) (f_tn_shows : Nat → Int32) (cA_tn_oneEnd : ClassId) (f_tn_oneEnd : Nat → Int32) (cA_tn_otherEnd : ClassId) (f_tn_otherEnd : Nat → Int32) (cA_tn_told : ClassId) (f_tn_told : Nat → Int32) (cA_tn_strayCourts : ClassId) (f_tn_strayCourts : Nat → Int32) (dy_place : Int32) (dy_court : Int32) (dy_hour : Int32) (dy_refusals : Int32) (r0_width : Int32) (r0_size : Int32) (r0_numbers : Nat) (cA_r0_numbers : ClassId) (f_r0_numbers : Nat → Int64) (r1_width : Int32) (r1_size : Int32) (r1_numbers : Nat) (cA_r1_numbers : ClassId) (f_r1_numbers : Nat → Int64) (r2_width : Int32) (r2_size : Int32) (r2_numbers : Nat) (cA_r2_numbers : ClassId) (f_r2_numbers : Nat → Int64) (r3_width : Int32) (r3_size : Int32) (r3_numbers : Nat) (cA_r3_numbers : ClassId) (f_r3_numbers : Nat → Int64) (b_h0_tapeLength : 0 ≤ h0_tapeLength.toInt ∧ h0_tapeLength.toInt ≤ 1600) (hsl0 : f_sl 0 = some r0) (hsl1 : f_sl 1 = some r1) (hsl2 : f_sl 2 = some r2) (hsl3 : f_sl 3 = some r3) (b_nw_isKept : 0 ≤ nw_isKept.toInt ∧ nw_isKept.toInt ≤ 1) (b_nw_names : 0 ≤ nw_names.toInt ∧ nw_names.toInt ≤ 1023) (b_tn_hours : 0 ≤ tn_hours.toInt ∧ tn_hours.toInt ≤ 48) (b_tn_courts : 0 ≤ tn_courts.toInt ∧ tn_courts.toInt ≤ 10) (b_tn_gateCount : 0 ≤ tn_gateCount.toInt ∧ tn_gateCount.toInt ≤ 16) (b_tn_people : 0 ≤ tn_people.toInt ∧ tn_people.toInt ≤ 10) (b_tn_falseHours : 0 ≤ tn_falseHours.toInt ∧ tn_falseHours.toInt ≤ 9) (b_tn_deep : 0 ≤ tn_deep.toInt ∧ tn_deep.toInt ≤ 1) (b_f_tn_oneEnd : ∀ j : Nat, 0 ≤ (f_tn_oneEnd j).toInt ∧ (f_tn_oneEnd j).toInt ≤ 9) (b_f_tn_otherEnd : ∀ j : Nat, 0 ≤ (f_tn_otherEnd j).toInt ∧ (f_tn_otherEnd j).toInt ≤ 9) (b_f_tn_told : ∀ j : Nat, 0 ≤ (f_tn_told j).toInt ∧ (f_tn_told j).toInt ≤ 9) (b_f_tn_strayCourts : ∀ j : Nat, 0 ≤ (f_tn_strayCourts j).toInt ∧ (f_tn_strayCourts j).toInt ≤ 9) (b_dy_court : 0 ≤ dy_court.toInt ∧ dy_court.toInt ≤ 9) (b_dy_hour : 0 ≤ dy_hour.toInt ∧ dy_hour.toInt ≤ 48) (b_r0_size : 0 ≤ r0_size.toInt ∧ r0_size.toInt ≤ 60) (b_r1_size : 0 ≤ r1_size.toInt ∧ r1_size.toInt ≤ 60) (b_r2_size : 0 ≤ r2_size.toInt ∧ r2_size.toInt ≤ 60) (b_r3_size : 0 ≤ r3_size.toInt ∧ r3_size.toInt ≤ 60) (sz : Nat) : Met l yX9_liveBy (.code yX9_liveBy cX9_liveBy 2 (some .int) :: zT) ({ frames := 4, cells := 0, slots := 0, locals := 96 }) (va_Pc [.ref h0, .int p1] (zB sa dC dI (zV83 h0 tp h0_tapeLength h0_faultKind h0_faultPlace nw im sl rd wk fm mt ch dy sl cA_sl f_sl nw nw_isKept tn nw_strayed nw_names nw_known nw_gone tn tn_hours tn_courts tn_gateCount tn_people tn_lines tn_falseHours tn_strayers tn_deep tn_above tn_doors tn_degrees tn_neighbours tn_shows tn_oneEnd tn_otherEnd tn_told tn_strayParts tn_strayCourts tn_above cA_tn_above f_tn_above tn_shows cA_tn_shows f_tn_shows tn_oneEnd cA_tn_oneEnd f_tn_oneEnd tn_otherEnd cA_tn_otherEnd f_tn_otherEnd tn_told cA_tn_told f_tn_told tn_strayCourts cA_tn_strayCourts f_tn_strayCourts dy dy_place dy_court dy_hour dy_refusals r0 r0_width r0_size r0_numbers r0_numbers cA_r0_numbers f_r0_numbers r1 r1_width r1_size r1_numbers r1_numbers cA_r1_numbers f_r1_numbers r2 r2_width r2_size r2_numbers r2_numbers cA_r2_numbers f_r2_numbers r3 r3_width r3_size r3_numbers r3_numbers cA_r3_numbers f_r3_numbers) [(cA_sl, .object RX6), (cA_tn_above, .int), (cA_tn_shows, .int), (cA_tn_oneEnd, .int), (cA_tn_otherEnd, .int), (cA_tn_told, .int), (cA_tn_strayCourts, .int), (cA_r0_numbers, .long), (cA_r1_numbers, .long), (cA_r2_numbers, .long), (cA_r3_numbers, .long)] sz)) (va_Qi (fun (r : Int32) (_ : Unit) => ((-6) ≤ r.toInt ∧ r.toInt ≤ 0)) (fun _ t => ∃ (n_dy_0 : Int32) (n_dy_1 : Int32) (n_dy_2 : Int32) (n_dy_3 : Int32), (0 ≤ n_dy_1.toInt ∧ n_dy_1.toInt ≤ 9) ∧ (0 ≤ n_dy_2.toInt ∧ n_dy_2.toInt ≤ 48) ∧ zW dC dI (zV83 h0 tp h0_tapeLength h0_faultKind h0_faultPlace nw im sl rd wk fm mt ch dy sl cA_sl f_sl nw nw_isKept tn nw_strayed nw_names nw_known nw_gone tn tn_hours tn_courts tn_gateCount tn_people tn_lines tn_falseHours tn_strayers tn_deep tn_above tn_doors tn_degrees tn_neighbours tn_shows tn_oneEnd tn_otherEnd tn_told tn_strayParts tn_strayCourts tn_above cA_tn_above f_tn_above tn_shows cA_tn_shows f_tn_shows tn_oneEnd cA_tn_oneEnd f_tn_oneEnd tn_otherEnd cA_tn_otherEnd f_tn_otherEnd tn_told cA_tn_told f_tn_told tn_strayCourts cA_tn_strayCourts f_tn_strayCourts dy n_dy_0 n_dy_1 n_dy_2 n_dy_3 r0 r0_width r0_size r0_numbers r0_numbers cA_r0_numbers f_r0_numbers r1 r1_width r1_size r1_numbers r1_numbers cA_r1_numbers f_r1_numbers r2 r2_width r2_size r2_numbers r2_numbers cA_r2_numbers f_r2_numbers r3 r3_width r3_size r3_numbers r3_numbers cA_r3_numbers f_r3_numbers) [] (va_A (zV83 h0 tp h0_tapeLength h0_faultKind h0_faultPlace nw im sl rd wk fm mt ch dy sl cA_sl f_sl nw nw_isKept tn nw_strayed nw_names nw_known nw_gone tn tn_hours tn_courts tn_gateCount tn_people tn_lines tn_falseHours tn_strayers tn_deep tn_above tn_doors tn_degrees tn_neighbours tn_shows tn_oneEnd tn_otherEnd tn_told tn_strayParts tn_strayCourts tn_above cA_tn_above f_tn_above tn_shows cA_tn_shows f_tn_shows tn_oneEnd cA_tn_oneEnd f_tn_oneEnd tn_otherEnd cA_tn_otherEnd f_tn_otherEnd tn_told cA_tn_told f_tn_told tn_strayCourts cA_tn_strayCourts f_tn_strayCourts dy dy_place dy_court dy_hour dy_refusals r0 r0_width r0_size r0_numbers r0_numbers cA_r0_numbers f_r0_numbers r1 r1_width r1_size r1_numbers r1_numbers cA_r1_numbers f_r1_numbers r2 r2_width r2_size r2_numbers r2_numbers cA_r2_numbers f_r2_numbers r3 r3_width r3_size r3_numbers r3_numbers cA_r3_numbers f_r3_numbers) sz) t) (va_A (zV83 h0 tp h0_tapeLength h0_faultKind h0_faultPlace nw im sl rd wk fm mt ch dy sl cA_sl f_sl nw nw_isKept tn nw_strayed nw_names nw_known nw_gone tn tn_hours tn_courts tn_gateCount tn_people tn_lines tn_falseHours tn_strayers tn_deep tn_above tn_doors tn_degrees tn_neighbours tn_shows tn_oneEnd tn_otherEnd tn_told tn_strayParts tn_strayCourts tn_above cA_tn_above f_tn_above tn_shows cA_tn_shows f_tn_shows tn_oneEnd cA_tn_oneEnd f_tn_oneEnd tn_otherEnd cA_tn_otherEnd f_tn_otherEnd tn_told cA_tn_told f_tn_told tn_strayCourts cA_tn_strayCourts f_tn_strayCourts dy dy_place dy_court dy_hour dy_refusals r0 r0_width r0_size r0_numbers r0_numbers cA_r0_numbers f_r0_numbers r1 r1_width r1_size r1_numbers r1_numbers cA_r1_numbers f_r1_numbers r2 r2_width r2_size r2_numbers r2_numbers cA_r2_numbers f_r2_numbers r3 r3_width r3_size r3_numbers r3_numbers cA_r3_numbers f_r3_numbers) sz)) 0 0 (va_A (zV83 h0 tp h0_tapeLength h0_faultKind h0_faultPlace nw im sl rd wk fm mt ch dy sl cA_sl f_sl nw nw_isKept tn nw_strayed nw_names nw_known nw_gone tn tn_hours tn_courts tn_gateCount tn_people tn_lines tn_falseHours tn_strayers tn_deep tn_above tn_doors tn_degrees tn_neighbours tn_shows tn_oneEnd tn_otherEnd tn_told tn_strayParts tn_strayCourts tn_above cA_tn_above f_tn_above tn_shows cA_tn_shows f_tn_shows tn_oneEnd cA_tn_oneEnd f_tn_oneEnd tn_otherEnd cA_tn_otherEnd f_tn_otherEnd tn_told cA_tn_told f_tn_told tn_strayCourts cA_tn_strayCourts f_tn_strayCourts dy dy_place dy_court dy_hour dy_refusals r0 r0_width r0_size r0_numbers r0_numbers cA_r0_numbers f_r0_numbers r1 r1_width r1_size r1_numbers r1_numbers cA_r1_numbers f_r1_numbers r2 r2_width r2_size r2_numbers r2_numbers cA_r2_numbers f_r2_numbers r3 r3_width r3_size r3_numbers r3_numbers cA_r3_numbers f_r3_numbers) sz) := by
  refine z_enter (by decide) (by exact (Nat.le_of_ble_eq_true rfl)) ?_
  intro p e s m args below meth c ls A R Qc hargs hsz hQe hAe hRe hx hb hml hr hts hown hlocks hin hl hP hK hD hN hXs hA hS
  rw [hAe] at hQe
  have hown : s.vm.findClass RX9 = some m.cls := hown
  have hl : lv_has ls 2 [(0, .ref h0), (1, .int p1)] := hl
  refine lv_iload_n hx hb dX9_liveBy_0 rfl (lv_at hl 1 rfl) ?_
  obtain ⟨hPc, hDc, hFc⟩ := z_cut (wc := []) hP hD hS hA [] rfl (by decide +kernel)
  have hKc := hK.sub (tys' := []) [] rfl
  refine va_calli (va_runS (As := [.int p1]) (rest := []) ⟨hx, hb, hml, hown, hts⟩ (k_X9_isSlot l sa dC dI p1 s.heap.size) (va_cwS 1 hts (z_gS zw_t5_219 zw_t5_220 zw_t1_1 zw_t5_221) rfl rfl rfl (by decide +kernel) (by rw [← hRe]; exact ⟨(Nat.le_of_ble_eq_true rfl), (Nat.le_of_ble_eq_true rfl)⟩)) (z_preS hPc hKc hDc hN hXs hS hFc) rfl rfl hl.1 rfl (lv_room (Nat.le_of_ble_eq_true rfl)) dX9_liveBy_1 (by rw [← hRe]; exact ⟨(Nat.le_of_ble_eq_true rfl), (Nat.le_of_ble_eq_true rfl)⟩)) hS (fun q _ h => hFc q h) hFc (fun r_1 u t H1 locs ht hvm hw hB hz1 hk1 hS => ?_)
  obtain ⟨hP, hD, hK⟩ := z_after3 (wn := (zV83 h0 tp h0_tapeLength h0_faultKind h0_faultPlace nw im sl rd wk fm mt ch dy sl cA_sl f_sl nw nw_isKept tn nw_strayed nw_names nw_known nw_gone tn tn_hours tn_courts tn_gateCount tn_people tn_lines tn_falseHours tn_strayers tn_deep tn_above tn_doors tn_degrees tn_neighbours tn_shows tn_oneEnd tn_otherEnd tn_told tn_strayParts tn_strayCourts tn_above cA_tn_above f_tn_above tn_shows cA_tn_shows f_tn_shows tn_oneEnd cA_tn_oneEnd f_tn_oneEnd tn_otherEnd cA_tn_otherEnd f_tn_otherEnd tn_told cA_tn_told f_tn_told tn_strayCourts cA_tn_strayCourts f_tn_strayCourts dy dy_place dy_court dy_hour dy_refusals r0 r0_width r0_size r0_numbers r0_numbers cA_r0_numbers f_r0_numbers r1 r1_width r1_size r1_numbers r1_numbers cA_r1_numbers f_r1_numbers r2 r2_width r2_size r2_numbers r2_numbers cA_r2_numbers f_r2_numbers r3 r3_width r3_size r3_numbers r3_numbers cA_r3_numbers f_r3_numbers)) hB ht hvm hP hD hK [] [0, 1, 2, 3, 4, 5, 6, 7, 8, 9, 10, 11, 12, 13, 14, 15, 16, 17, 18] rfl 19 rfl (by decide +kernel) rfl (by decide +kernel) hk1 hFc
  generalize H1 = H at hP hS ⊢
  have hK : va_K (dC, dI) vwCl [(cA_sl, .object RX6), (cA_tn_above, .int), (cA_tn_shows, .int), (cA_tn_oneEnd, .int), (cA_tn_otherEnd, .int), (cA_tn_told, .int), (cA_tn_strayCourts, .int), (cA_r0_numbers, .long), (cA_r1_numbers, .long), (cA_r2_numbers, .long), (cA_r3_numbers, .long)] s := hK
  have b_r_1 : 0 ≤ r_1.toInt ∧ r_1.toInt ≤ 1 := hw.1
  have s_r_1 := hw.2
  refine lv_if_eq (tgt := 20) hx hb dX9_liveBy_4 (by decide) (fun c_2 => ?_) (fun c_2 => ?_)
  · have ic_2 := zz_eq rfl (show Int32.toInt 0 = 0 from by decide) c_2
    refine lv_bipush (v := (-2)) hx hb dX9_liveBy_20 (by decide) ?_
    exact W.iret (v := (-2)) hx hb hr (fun t ht hW => by rw [← hQe]; exact ⟨⟨(-2), (), rfl, (by decide), ⟨dy_place, dy_court, dy_hour, dy_refusals, (by first | with_reducible assumption | omega), (by first | with_reducible assumption | omega), z_ret hP hK hD ht hW [0, 1, 2, 3, 4, 5, 6, 7, 8, 9, 10, 11, 12, 13, 14, 15, 16, 17, 18] [] rfl (by decide) rfl⟩⟩, hS.F ht⟩) hS.2.2 dX9_liveBy_22
  · have ic_2 := zz_neq rfl (show Int32.toInt 0 = 0 from by decide) c_2
    refine lv_aload_n hx hb dX9_liveBy_7 rfl (lv_at hl 0 rfl) ?_
    refine va_get (D := (dC, dI)) (ci := 9) (v := .ref nw) (C := RX9) (T := TX9) (N := 13) hx hb hts zl_X9 hown hK hP 0 rfl rfl 4 (by decide) (hts _ zw_t2_193) (fun _ h9 => h9) rfl dX9_liveBy_8 ?_
    refine va_get (D := (dC, dI)) (ci := 3) (v := .ref tn) (C := RX3) (T := TX3) (N := 6) hx hb hts zl_X3 hown hK hP 2 rfl rfl 1 (by decide) (hts _ zw_t1_156) (fun _ h9 => h9) rfl dX9_liveBy_11 ?_
    refine va_get (D := (dC, dI)) (ci := 7) (v := .int tn_hours) (C := RX7) (T := TX7) (N := 18) hx hb hts zl_X7 hown hK hP 3 rfl rfl 0 (by decide) (hts _ zw_t1_46) (fun _ h9 => h9) rfl dX9_liveBy_14 ?_
    refine lv_if_ne (tgt := 23) hx hb dX9_liveBy_17 (by decide) (fun c_3 => ?_) (fun c_3 => ?_)
    · have ic_3 := zz_ne rfl (show Int32.toInt 0 = 0 from by decide) c_3
      refine lv_aload_n hx hb dX9_liveBy_23 rfl (lv_at hl 0 rfl) ?_
      refine va_get (D := (dC, dI)) (ci := 9) (v := .ref sl) (C := RX9) (T := TX9) (N := 13) hx hb hts zl_X9 hown hK hP 0 rfl rfl 6 (by decide) (hts _ zw_t2_195) (fun _ h9 => h9) rfl dX9_liveBy_24 ?_
      refine lv_iload_n hx hb dX9_liveBy_27 rfl (lv_at hl 1 rfl) ?_
      rcases z_s3 p1 with q_sw | rfl | rfl | rfl | rfl | q_sw
      · omega
      · have zc_0 : Int32.toInt 0 = 0 := by decide
        refine va_aldq hx hb hK hP 1 0 rfl rfl (zi_in (show Int32.toInt 0 = 0 from by decide) (by first | with_reducible assumption | omega)) dX9_liveBy_28 ?_
        refine W.eq (g2 := F0 m 29 ls (.ref r0 :: [])) (by rw [show f_sl (Int32.toNatClampNeg 0) = some r0 from (by rw [show Int32.toNatClampNeg 0 = 0 from by decide]; exact hsl0)]; rfl) ?_
        obtain ⟨hPc, hDc, hFc⟩ := z_cut (wc := (zV6 r0 r0_width r0_size r0_numbers)) hP hD hS hA [11] rfl (by decide +kernel)
        have hKc := hK.sub (tys' := []) [] rfl
        refine va_calli (va_runV (As := []) (rest := []) ⟨hx, hb, hml, hown, hts⟩ (k_X6_isThere l sa dC dI r0 r0_width r0_size r0_numbers b_r0_size H.size) (cwV 0 hts (z_gV zw_t5_222 zw_t5_223 zw_t5_224 zw_t1_10 zw_t5_225) rfl rfl rfl (by decide +kernel) (by rw [← hRe]; exact ⟨(Nat.le_of_ble_eq_true rfl), (Nat.le_of_ble_eq_true rfl)⟩)) (z_preV hPc hKc hDc hN hXs hS hFc (q := (RX6, TX6, 3)) (ci := 6) (q0 := 0) rfl rfl) rfl rfl hl.1 rfl (lv_room (Nat.le_of_ble_eq_true rfl)) dX9_liveBy_29 (by rw [← hRe]; exact ⟨(Nat.le_of_ble_eq_true rfl), (Nat.le_of_ble_eq_true rfl)⟩)) hS (fun q _ h => hFc q h) hFc (fun r_4 u t H1 locs ht hvm hw hB hz1 hk1 hS => ?_)
        obtain ⟨hP, hD, hK⟩ := z_after3 (wn := [(h0, .inr (9, [.ref tp, .int h0_tapeLength, .int h0_faultKind, .int h0_faultPlace, .ref nw, .ref im, .ref sl, .ref rd, .ref wk, .ref fm, .ref mt, .ref ch, .ref dy])), (sl, .inl (cA_sl, 4, .inr (.inr (.inr (.inr f_sl))))), (nw, .inr (3, [.int nw_isKept, .ref tn, .int nw_strayed, .int nw_names, .int nw_known, .int nw_gone])), (tn, .inr (7, [.int tn_hours, .int tn_courts, .int tn_gateCount, .int tn_people, .int tn_lines, .int tn_falseHours, .int tn_strayers, .int tn_deep, .ref tn_above, .ref tn_doors, .ref tn_degrees, .ref tn_neighbours, .ref tn_shows, .ref tn_oneEnd, .ref tn_otherEnd, .ref tn_told, .ref tn_strayParts, .ref tn_strayCourts])), (tn_above, .inl (cA_tn_above, 10, .inl f_tn_above)), (tn_shows, .inl (cA_tn_shows, 10, .inl f_tn_shows)), (tn_oneEnd, .inl (cA_tn_oneEnd, 16, .inl f_tn_oneEnd)), (tn_otherEnd, .inl (cA_tn_otherEnd, 16, .inl f_tn_otherEnd)), (tn_told, .inl (cA_tn_told, 480, .inl f_tn_told)), (tn_strayCourts, .inl (cA_tn_strayCourts, 10, .inl f_tn_strayCourts)), (dy, .inr (1, [.int dy_place, .int dy_court, .int dy_hour, .int dy_refusals])), (r0_numbers, .inl (cA_r0_numbers, 60, .inr (.inl f_r0_numbers))), (r1, .inr (6, [.int r1_width, .int r1_size, .ref r1_numbers])), (r1_numbers, .inl (cA_r1_numbers, 60, .inr (.inl f_r1_numbers))), (r2, .inr (6, [.int r2_width, .int r2_size, .ref r2_numbers])), (r2_numbers, .inl (cA_r2_numbers, 60, .inr (.inl f_r2_numbers))), (r3, .inr (6, [.int r3_width, .int r3_size, .ref r3_numbers])), (r3_numbers, .inl (cA_r3_numbers, 60, .inr (.inl f_r3_numbers))), (r0, .inr (6, [.int r0_width, .int r0_size, .ref r0_numbers]))]) hB ht hvm hP hD hK [11] [0, 1, 2, 3, 4, 5, 6, 7, 8, 9, 10, 12, 13, 14, 15, 16, 17, 18] rfl 19 rfl (by decide +kernel) rfl (by decide +kernel) hk1 hFc
        generalize H1 = H at hP hS ⊢
        have hK : va_K (dC, dI) vwCl [(cA_sl, .object RX6), (cA_tn_above, .int), (cA_tn_shows, .int), (cA_tn_oneEnd, .int), (cA_tn_otherEnd, .int), (cA_tn_told, .int), (cA_tn_strayCourts, .int), (cA_r0_numbers, .long), (cA_r1_numbers, .long), (cA_r2_numbers, .long), (cA_r3_numbers, .long)] s := hK
        have b_r_4 : 0 ≤ r_4.toInt ∧ r_4.toInt ≤ 1 := hw
        refine lv_if_ne (tgt := 38) hx hb dX9_liveBy_32 (by decide) (fun c_5 => ?_) (fun c_5 => ?_)
        · have ic_5 := zz_ne rfl (show Int32.toInt 0 = 0 from by decide) c_5
          refine lv_aload_n hx hb dX9_liveBy_38 rfl (lv_at hl 0 rfl) ?_
          refine va_get (D := (dC, dI)) (ci := 9) (v := .ref dy) (C := RX9) (T := TX9) (N := 13) hx hb hts zl_X9 hown hK hP 0 rfl rfl 12 (by decide) (hts _ zw_t2_201) (fun _ h9 => h9) rfl dX9_liveBy_39 ?_
          refine lv_aload_n hx hb dX9_liveBy_42 rfl (lv_at hl 0 rfl) ?_
          refine va_get (D := (dC, dI)) (ci := 9) (v := .ref nw) (C := RX9) (T := TX9) (N := 13) hx hb hts zl_X9 hown hK hP 0 rfl rfl 4 (by decide) (hts _ zw_t2_193) (fun _ h9 => h9) rfl dX9_liveBy_43 ?_
          refine lv_aload_n hx hb dX9_liveBy_46 rfl (lv_at hl 0 rfl) ?_
          refine va_get (D := (dC, dI)) (ci := 9) (v := .ref sl) (C := RX9) (T := TX9) (N := 13) hx hb hts zl_X9 hown hK hP 0 rfl rfl 6 (by decide) (hts _ zw_t2_195) (fun _ h9 => h9) rfl dX9_liveBy_47 ?_
          refine lv_iload_n hx hb dX9_liveBy_50 rfl (lv_at hl 1 rfl) ?_
          refine va_aldq hx hb hK hP 1 0 rfl rfl (zi_in (show Int32.toInt 0 = 0 from by decide) (by first | with_reducible assumption | omega)) dX9_liveBy_51 ?_
          refine W.eq (g2 := F0 m 52 ls (.ref r0 :: [.ref nw, .ref dy])) (by rw [show f_sl (Int32.toNatClampNeg 0) = some r0 from (by rw [show Int32.toNatClampNeg 0 = 0 from by decide]; exact hsl0)]; rfl) ?_
          obtain ⟨hPc, hDc, hFc⟩ := z_cut (wc := (zV59 dy dy_place dy_court dy_hour dy_refusals nw nw_isKept tn nw_strayed nw_names nw_known nw_gone tn tn_hours tn_courts tn_gateCount tn_people tn_lines tn_falseHours tn_strayers tn_deep tn_above tn_doors tn_degrees tn_neighbours tn_shows tn_oneEnd tn_otherEnd tn_told tn_strayParts tn_strayCourts tn_above cA_tn_above f_tn_above tn_shows cA_tn_shows f_tn_shows tn_oneEnd cA_tn_oneEnd f_tn_oneEnd tn_otherEnd cA_tn_otherEnd f_tn_otherEnd tn_told cA_tn_told f_tn_told tn_strayCourts cA_tn_strayCourts f_tn_strayCourts r0 r0_width r0_size r0_numbers r0_numbers cA_r0_numbers f_r0_numbers)) hP hD hS hA [10, 2, 3, 4, 5, 6, 7, 8, 9, 18, 11] rfl (by decide +kernel)
          have hKc := hK.sub (tys' := [(cA_tn_above, .int), (cA_tn_shows, .int), (cA_tn_oneEnd, .int), (cA_tn_otherEnd, .int), (cA_tn_told, .int), (cA_tn_strayCourts, .int), (cA_r0_numbers, .long)]) [1, 2, 3, 4, 5, 6, 7] rfl
          refine va_callv (va_runV (As := [.ref nw, .ref r0]) (rest := []) ⟨hx, hb, hml, hown, hts⟩ (k_X1_live l sa dC dI dy nw r0 dy_place dy_court dy_hour dy_refusals nw_isKept tn nw_strayed nw_names nw_known nw_gone tn_hours tn_courts tn_gateCount tn_people tn_lines tn_falseHours tn_strayers tn_deep tn_above tn_doors tn_degrees tn_neighbours tn_shows tn_oneEnd tn_otherEnd tn_told tn_strayParts tn_strayCourts cA_tn_above f_tn_above cA_tn_shows f_tn_shows cA_tn_oneEnd f_tn_oneEnd cA_tn_otherEnd f_tn_otherEnd cA_tn_told f_tn_told cA_tn_strayCourts f_tn_strayCourts r0_width r0_size r0_numbers cA_r0_numbers f_r0_numbers b_dy_court b_dy_hour b_nw_isKept b_nw_names b_tn_hours b_tn_courts b_tn_gateCount b_tn_people b_tn_falseHours b_tn_deep b_f_tn_oneEnd b_f_tn_otherEnd b_f_tn_told b_f_tn_strayCourts b_r0_size H.size) (cwV 2 hts (z_gV zw_t5_226 zw_t5_227 zw_t5_228 zw_t1_9 zw_t5_229) rfl rfl rfl (by decide +kernel) (by rw [← hRe]; exact ⟨(Nat.le_of_ble_eq_true rfl), (Nat.le_of_ble_eq_true rfl)⟩)) (z_preV hPc hKc hDc hN hXs hS hFc (q := (RX1, TX1, 4)) (ci := 1) (q0 := 0) rfl rfl) rfl rfl hl.1 rfl (lv_room (Nat.le_of_ble_eq_true rfl)) dX9_liveBy_52 (by rw [← hRe]; exact ⟨(Nat.le_of_ble_eq_true rfl), (Nat.le_of_ble_eq_true rfl)⟩)) hS (fun q _ h => hFc q h) hFc (fun u t H1 locs ht hvm hw hB hz1 hk1 hS => ?_)
          refine hB.elim fun n_dy_7 ze1 => ze1.elim fun n_dy_8 ze2 => ze2.elim fun n_dy_9 ze3 => ze3.elim fun n_dy_10 ze4 => ze4.elim fun b_n_dy_8 ze5 => ze5.elim fun b_n_dy_9 ze6 => ?_
          clear hB ze1 ze2 ze3 ze4 ze5
          have hB := ze6
          clear ze6
          obtain ⟨hP, hD, hK⟩ := z_after3 (wn := (zV84 h0 tp h0_tapeLength h0_faultKind h0_faultPlace nw im sl rd wk fm mt ch dy sl cA_sl f_sl r1 r1_width r1_size r1_numbers r1_numbers cA_r1_numbers f_r1_numbers r2 r2_width r2_size r2_numbers r2_numbers cA_r2_numbers f_r2_numbers r3 r3_width r3_size r3_numbers r3_numbers cA_r3_numbers f_r3_numbers dy n_dy_7 n_dy_8 n_dy_9 n_dy_10 nw nw_isKept tn nw_strayed nw_names nw_known nw_gone tn tn_hours tn_courts tn_gateCount tn_people tn_lines tn_falseHours tn_strayers tn_deep tn_above tn_doors tn_degrees tn_neighbours tn_shows tn_oneEnd tn_otherEnd tn_told tn_strayParts tn_strayCourts tn_above cA_tn_above f_tn_above tn_shows cA_tn_shows f_tn_shows tn_oneEnd cA_tn_oneEnd f_tn_oneEnd tn_otherEnd cA_tn_otherEnd f_tn_otherEnd tn_told cA_tn_told f_tn_told tn_strayCourts cA_tn_strayCourts f_tn_strayCourts r0 r0_width r0_size r0_numbers r0_numbers cA_r0_numbers f_r0_numbers)) hB ht hvm hP hD hK [10, 2, 3, 4, 5, 6, 7, 8, 9, 18, 11] [0, 1, 12, 13, 14, 15, 16, 17] rfl 19 rfl (by decide +kernel) rfl (by decide +kernel) hk1 hFc
          generalize H1 = H at hP hS ⊢
          have hK : va_K (dC, dI) vwCl [(cA_sl, .object RX6), (cA_tn_above, .int), (cA_tn_shows, .int), (cA_tn_oneEnd, .int), (cA_tn_otherEnd, .int), (cA_tn_told, .int), (cA_tn_strayCourts, .int), (cA_r0_numbers, .long), (cA_r1_numbers, .long), (cA_r2_numbers, .long), (cA_r3_numbers, .long)] s := hK
          refine lv_iconst (v := 0) hx hb dX9_liveBy_55 (by decide) ?_
          exact W.iret (v := 0) hx hb hr (fun t ht hW => by rw [← hQe]; exact ⟨⟨0, (), rfl, (by decide), ⟨n_dy_7, n_dy_8, n_dy_9, n_dy_10, (by first | with_reducible assumption | omega), (by first | with_reducible assumption | omega), z_ret hP hK hD ht hW [0, 1, 9, 10, 11, 12, 13, 14, 15, 16, 8, 17, 18, 2, 3, 4, 5, 6, 7] [] rfl (by decide) rfl⟩⟩, hS.F ht⟩) hS.2.2 dX9_liveBy_56
        · have ic_5 := zz_nne rfl (show Int32.toInt 0 = 0 from by decide) c_5
          refine lv_bipush (v := (-6)) hx hb dX9_liveBy_35 (by decide) ?_
          exact W.iret (v := (-6)) hx hb hr (fun t ht hW => by rw [← hQe]; exact ⟨⟨(-6), (), rfl, (by decide), ⟨dy_place, dy_court, dy_hour, dy_refusals, (by first | with_reducible assumption | omega), (by first | with_reducible assumption | omega), z_ret hP hK hD ht hW [0, 1, 2, 3, 4, 5, 6, 7, 8, 9, 10, 18, 11, 12, 13, 14, 15, 16, 17] [] rfl (by decide) rfl⟩⟩, hS.F ht⟩) hS.2.2 dX9_liveBy_37
      · have zc_1 : Int32.toInt 1 = 1 := by decide
        refine va_aldq hx hb hK hP 1 0 rfl rfl (zi_in (show Int32.toInt 1 = 1 from by decide) (by first | with_reducible assumption | omega)) dX9_liveBy_28 ?_
        refine W.eq (g2 := F0 m 29 ls (.ref r1 :: [])) (by rw [show f_sl (Int32.toNatClampNeg 1) = some r1 from (by rw [show Int32.toNatClampNeg 1 = 1 from by decide]; exact hsl1)]; rfl) ?_
        obtain ⟨hPc, hDc, hFc⟩ := z_cut (wc := (zV6 r1 r1_width r1_size r1_numbers)) hP hD hS hA [13] rfl (by decide +kernel)
        have hKc := hK.sub (tys' := []) [] rfl
        refine va_calli (va_runV (As := []) (rest := []) ⟨hx, hb, hml, hown, hts⟩ (k_X6_isThere l sa dC dI r1 r1_width r1_size r1_numbers b_r1_size H.size) (cwV 0 hts (z_gV zw_t5_222 zw_t5_223 zw_t5_224 zw_t1_10 zw_t5_225) rfl rfl rfl (by decide +kernel) (by rw [← hRe]; exact ⟨(Nat.le_of_ble_eq_true rfl), (Nat.le_of_ble_eq_true rfl)⟩)) (z_preV hPc hKc hDc hN hXs hS hFc (q := (RX6, TX6, 3)) (ci := 6) (q0 := 0) rfl rfl) rfl rfl hl.1 rfl (lv_room (Nat.le_of_ble_eq_true rfl)) dX9_liveBy_29 (by rw [← hRe]; exact ⟨(Nat.le_of_ble_eq_true rfl), (Nat.le_of_ble_eq_true rfl)⟩)) hS (fun q _ h => hFc q h) hFc (fun r_11 u t H1 locs ht hvm hw hB hz1 hk1 hS => ?_)
        obtain ⟨hP, hD, hK⟩ := z_after3 (wn := [(h0, .inr (9, [.ref tp, .int h0_tapeLength, .int h0_faultKind, .int h0_faultPlace, .ref nw, .ref im, .ref sl, .ref rd, .ref wk, .ref fm, .ref mt, .ref ch, .ref dy])), (sl, .inl (cA_sl, 4, .inr (.inr (.inr (.inr f_sl))))), (nw, .inr (3, [.int nw_isKept, .ref tn, .int nw_strayed, .int nw_names, .int nw_known, .int nw_gone])), (tn, .inr (7, [.int tn_hours, .int tn_courts, .int tn_gateCount, .int tn_people, .int tn_lines, .int tn_falseHours, .int tn_strayers, .int tn_deep, .ref tn_above, .ref tn_doors, .ref tn_degrees, .ref tn_neighbours, .ref tn_shows, .ref tn_oneEnd, .ref tn_otherEnd, .ref tn_told, .ref tn_strayParts, .ref tn_strayCourts])), (tn_above, .inl (cA_tn_above, 10, .inl f_tn_above)), (tn_shows, .inl (cA_tn_shows, 10, .inl f_tn_shows)), (tn_oneEnd, .inl (cA_tn_oneEnd, 16, .inl f_tn_oneEnd)), (tn_otherEnd, .inl (cA_tn_otherEnd, 16, .inl f_tn_otherEnd)), (tn_told, .inl (cA_tn_told, 480, .inl f_tn_told)), (tn_strayCourts, .inl (cA_tn_strayCourts, 10, .inl f_tn_strayCourts)), (dy, .inr (1, [.int dy_place, .int dy_court, .int dy_hour, .int dy_refusals])), (r0, .inr (6, [.int r0_width, .int r0_size, .ref r0_numbers])), (r0_numbers, .inl (cA_r0_numbers, 60, .inr (.inl f_r0_numbers))), (r1_numbers, .inl (cA_r1_numbers, 60, .inr (.inl f_r1_numbers))), (r2, .inr (6, [.int r2_width, .int r2_size, .ref r2_numbers])), (r2_numbers, .inl (cA_r2_numbers, 60, .inr (.inl f_r2_numbers))), (r3, .inr (6, [.int r3_width, .int r3_size, .ref r3_numbers])), (r3_numbers, .inl (cA_r3_numbers, 60, .inr (.inl f_r3_numbers))), (r1, .inr (6, [.int r1_width, .int r1_size, .ref r1_numbers]))]) hB ht hvm hP hD hK [13] [0, 1, 2, 3, 4, 5, 6, 7, 8, 9, 10, 11, 12, 14, 15, 16, 17, 18] rfl 19 rfl (by decide +kernel) rfl (by decide +kernel) hk1 hFc
        generalize H1 = H at hP hS ⊢
        have hK : va_K (dC, dI) vwCl [(cA_sl, .object RX6), (cA_tn_above, .int), (cA_tn_shows, .int), (cA_tn_oneEnd, .int), (cA_tn_otherEnd, .int), (cA_tn_told, .int), (cA_tn_strayCourts, .int), (cA_r0_numbers, .long), (cA_r1_numbers, .long), (cA_r2_numbers, .long), (cA_r3_numbers, .long)] s := hK
        have b_r_11 : 0 ≤ r_11.toInt ∧ r_11.toInt ≤ 1 := hw
        refine lv_if_ne (tgt := 38) hx hb dX9_liveBy_32 (by decide) (fun c_12 => ?_) (fun c_12 => ?_)
        · have ic_12 := zz_ne rfl (show Int32.toInt 0 = 0 from by decide) c_12
          refine lv_aload_n hx hb dX9_liveBy_38 rfl (lv_at hl 0 rfl) ?_
          refine va_get (D := (dC, dI)) (ci := 9) (v := .ref dy) (C := RX9) (T := TX9) (N := 13) hx hb hts zl_X9 hown hK hP 0 rfl rfl 12 (by decide) (hts _ zw_t2_201) (fun _ h9 => h9) rfl dX9_liveBy_39 ?_
          refine lv_aload_n hx hb dX9_liveBy_42 rfl (lv_at hl 0 rfl) ?_
          refine va_get (D := (dC, dI)) (ci := 9) (v := .ref nw) (C := RX9) (T := TX9) (N := 13) hx hb hts zl_X9 hown hK hP 0 rfl rfl 4 (by decide) (hts _ zw_t2_193) (fun _ h9 => h9) rfl dX9_liveBy_43 ?_
          refine lv_aload_n hx hb dX9_liveBy_46 rfl (lv_at hl 0 rfl) ?_
          refine va_get (D := (dC, dI)) (ci := 9) (v := .ref sl) (C := RX9) (T := TX9) (N := 13) hx hb hts zl_X9 hown hK hP 0 rfl rfl 6 (by decide) (hts _ zw_t2_195) (fun _ h9 => h9) rfl dX9_liveBy_47 ?_
          refine lv_iload_n hx hb dX9_liveBy_50 rfl (lv_at hl 1 rfl) ?_
          refine va_aldq hx hb hK hP 1 0 rfl rfl (zi_in (show Int32.toInt 1 = 1 from by decide) (by first | with_reducible assumption | omega)) dX9_liveBy_51 ?_
          refine W.eq (g2 := F0 m 52 ls (.ref r1 :: [.ref nw, .ref dy])) (by rw [show f_sl (Int32.toNatClampNeg 1) = some r1 from (by rw [show Int32.toNatClampNeg 1 = 1 from by decide]; exact hsl1)]; rfl) ?_
          obtain ⟨hPc, hDc, hFc⟩ := z_cut (wc := (zV59 dy dy_place dy_court dy_hour dy_refusals nw nw_isKept tn nw_strayed nw_names nw_known nw_gone tn tn_hours tn_courts tn_gateCount tn_people tn_lines tn_falseHours tn_strayers tn_deep tn_above tn_doors tn_degrees tn_neighbours tn_shows tn_oneEnd tn_otherEnd tn_told tn_strayParts tn_strayCourts tn_above cA_tn_above f_tn_above tn_shows cA_tn_shows f_tn_shows tn_oneEnd cA_tn_oneEnd f_tn_oneEnd tn_otherEnd cA_tn_otherEnd f_tn_otherEnd tn_told cA_tn_told f_tn_told tn_strayCourts cA_tn_strayCourts f_tn_strayCourts r1 r1_width r1_size r1_numbers r1_numbers cA_r1_numbers f_r1_numbers)) hP hD hS hA [10, 2, 3, 4, 5, 6, 7, 8, 9, 18, 13] rfl (by decide +kernel)
          have hKc := hK.sub (tys' := [(cA_tn_above, .int), (cA_tn_shows, .int), (cA_tn_oneEnd, .int), (cA_tn_otherEnd, .int), (cA_tn_told, .int), (cA_tn_strayCourts, .int), (cA_r1_numbers, .long)]) [1, 2, 3, 4, 5, 6, 8] rfl
          refine va_callv (va_runV (As := [.ref nw, .ref r1]) (rest := []) ⟨hx, hb, hml, hown, hts⟩ (k_X1_live l sa dC dI dy nw r1 dy_place dy_court dy_hour dy_refusals nw_isKept tn nw_strayed nw_names nw_known nw_gone tn_hours tn_courts tn_gateCount tn_people tn_lines tn_falseHours tn_strayers tn_deep tn_above tn_doors tn_degrees tn_neighbours tn_shows tn_oneEnd tn_otherEnd tn_told tn_strayParts tn_strayCourts cA_tn_above f_tn_above cA_tn_shows f_tn_shows cA_tn_oneEnd f_tn_oneEnd cA_tn_otherEnd f_tn_otherEnd cA_tn_told f_tn_told cA_tn_strayCourts f_tn_strayCourts r1_width r1_size r1_numbers cA_r1_numbers f_r1_numbers b_dy_court b_dy_hour b_nw_isKept b_nw_names b_tn_hours b_tn_courts b_tn_gateCount b_tn_people b_tn_falseHours b_tn_deep b_f_tn_oneEnd b_f_tn_otherEnd b_f_tn_told b_f_tn_strayCourts b_r1_size H.size) (cwV 2 hts (z_gV zw_t5_226 zw_t5_227 zw_t5_228 zw_t1_9 zw_t5_229) rfl rfl rfl (by decide +kernel) (by rw [← hRe]; exact ⟨(Nat.le_of_ble_eq_true rfl), (Nat.le_of_ble_eq_true rfl)⟩)) (z_preV hPc hKc hDc hN hXs hS hFc (q := (RX1, TX1, 4)) (ci := 1) (q0 := 0) rfl rfl) rfl rfl hl.1 rfl (lv_room (Nat.le_of_ble_eq_true rfl)) dX9_liveBy_52 (by rw [← hRe]; exact ⟨(Nat.le_of_ble_eq_true rfl), (Nat.le_of_ble_eq_true rfl)⟩)) hS (fun q _ h => hFc q h) hFc (fun u t H1 locs ht hvm hw hB hz1 hk1 hS => ?_)
          refine hB.elim fun n_dy_14 ze1 => ze1.elim fun n_dy_15 ze2 => ze2.elim fun n_dy_16 ze3 => ze3.elim fun n_dy_17 ze4 => ze4.elim fun b_n_dy_15 ze5 => ze5.elim fun b_n_dy_16 ze6 => ?_
          clear hB ze1 ze2 ze3 ze4 ze5
          have hB := ze6
          clear ze6
          obtain ⟨hP, hD, hK⟩ := z_after3 (wn := (zV84 h0 tp h0_tapeLength h0_faultKind h0_faultPlace nw im sl rd wk fm mt ch dy sl cA_sl f_sl r0 r0_width r0_size r0_numbers r0_numbers cA_r0_numbers f_r0_numbers r2 r2_width r2_size r2_numbers r2_numbers cA_r2_numbers f_r2_numbers r3 r3_width r3_size r3_numbers r3_numbers cA_r3_numbers f_r3_numbers dy n_dy_14 n_dy_15 n_dy_16 n_dy_17 nw nw_isKept tn nw_strayed nw_names nw_known nw_gone tn tn_hours tn_courts tn_gateCount tn_people tn_lines tn_falseHours tn_strayers tn_deep tn_above tn_doors tn_degrees tn_neighbours tn_shows tn_oneEnd tn_otherEnd tn_told tn_strayParts tn_strayCourts tn_above cA_tn_above f_tn_above tn_shows cA_tn_shows f_tn_shows tn_oneEnd cA_tn_oneEnd f_tn_oneEnd tn_otherEnd cA_tn_otherEnd f_tn_otherEnd tn_told cA_tn_told f_tn_told tn_strayCourts cA_tn_strayCourts f_tn_strayCourts r1 r1_width r1_size r1_numbers r1_numbers cA_r1_numbers f_r1_numbers)) hB ht hvm hP hD hK [10, 2, 3, 4, 5, 6, 7, 8, 9, 18, 13] [0, 1, 11, 12, 14, 15, 16, 17] rfl 19 rfl (by decide +kernel) rfl (by decide +kernel) hk1 hFc
          generalize H1 = H at hP hS ⊢
          have hK : va_K (dC, dI) vwCl [(cA_sl, .object RX6), (cA_tn_above, .int), (cA_tn_shows, .int), (cA_tn_oneEnd, .int), (cA_tn_otherEnd, .int), (cA_tn_told, .int), (cA_tn_strayCourts, .int), (cA_r0_numbers, .long), (cA_r1_numbers, .long), (cA_r2_numbers, .long), (cA_r3_numbers, .long)] s := hK
          refine lv_iconst (v := 0) hx hb dX9_liveBy_55 (by decide) ?_
          exact W.iret (v := 0) hx hb hr (fun t ht hW => by rw [← hQe]; exact ⟨⟨0, (), rfl, (by decide), ⟨n_dy_14, n_dy_15, n_dy_16, n_dy_17, (by first | with_reducible assumption | omega), (by first | with_reducible assumption | omega), z_ret hP hK hD ht hW [0, 1, 9, 10, 11, 12, 13, 14, 15, 16, 8, 2, 3, 17, 18, 4, 5, 6, 7] [] rfl (by decide) rfl⟩⟩, hS.F ht⟩) hS.2.2 dX9_liveBy_56
        · have ic_12 := zz_nne rfl (show Int32.toInt 0 = 0 from by decide) c_12
          refine lv_bipush (v := (-6)) hx hb dX9_liveBy_35 (by decide) ?_
          exact W.iret (v := (-6)) hx hb hr (fun t ht hW => by rw [← hQe]; exact ⟨⟨(-6), (), rfl, (by decide), ⟨dy_place, dy_court, dy_hour, dy_refusals, (by first | with_reducible assumption | omega), (by first | with_reducible assumption | omega), z_ret hP hK hD ht hW [0, 1, 2, 3, 4, 5, 6, 7, 8, 9, 10, 11, 12, 18, 13, 14, 15, 16, 17] [] rfl (by decide) rfl⟩⟩, hS.F ht⟩) hS.2.2 dX9_liveBy_37
      · have zc_2 : Int32.toInt 2 = 2 := by decide
        refine va_aldq hx hb hK hP 1 0 rfl rfl (zi_in (show Int32.toInt 2 = 2 from by decide) (by first | with_reducible assumption | omega)) dX9_liveBy_28 ?_
        refine W.eq (g2 := F0 m 29 ls (.ref r2 :: [])) (by rw [show f_sl (Int32.toNatClampNeg 2) = some r2 from (by rw [show Int32.toNatClampNeg 2 = 2 from by decide]; exact hsl2)]; rfl) ?_
        obtain ⟨hPc, hDc, hFc⟩ := z_cut (wc := (zV6 r2 r2_width r2_size r2_numbers)) hP hD hS hA [15] rfl (by decide +kernel)
        have hKc := hK.sub (tys' := []) [] rfl
        refine va_calli (va_runV (As := []) (rest := []) ⟨hx, hb, hml, hown, hts⟩ (k_X6_isThere l sa dC dI r2 r2_width r2_size r2_numbers b_r2_size H.size) (cwV 0 hts (z_gV zw_t5_222 zw_t5_223 zw_t5_224 zw_t1_10 zw_t5_225) rfl rfl rfl (by decide +kernel) (by rw [← hRe]; exact ⟨(Nat.le_of_ble_eq_true rfl), (Nat.le_of_ble_eq_true rfl)⟩)) (z_preV hPc hKc hDc hN hXs hS hFc (q := (RX6, TX6, 3)) (ci := 6) (q0 := 0) rfl rfl) rfl rfl hl.1 rfl (lv_room (Nat.le_of_ble_eq_true rfl)) dX9_liveBy_29 (by rw [← hRe]; exact ⟨(Nat.le_of_ble_eq_true rfl), (Nat.le_of_ble_eq_true rfl)⟩)) hS (fun q _ h => hFc q h) hFc (fun r_18 u t H1 locs ht hvm hw hB hz1 hk1 hS => ?_)
        obtain ⟨hP, hD, hK⟩ := z_after3 (wn := [(h0, .inr (9, [.ref tp, .int h0_tapeLength, .int h0_faultKind, .int h0_faultPlace, .ref nw, .ref im, .ref sl, .ref rd, .ref wk, .ref fm, .ref mt, .ref ch, .ref dy])), (sl, .inl (cA_sl, 4, .inr (.inr (.inr (.inr f_sl))))), (nw, .inr (3, [.int nw_isKept, .ref tn, .int nw_strayed, .int nw_names, .int nw_known, .int nw_gone])), (tn, .inr (7, [.int tn_hours, .int tn_courts, .int tn_gateCount, .int tn_people, .int tn_lines, .int tn_falseHours, .int tn_strayers, .int tn_deep, .ref tn_above, .ref tn_doors, .ref tn_degrees, .ref tn_neighbours, .ref tn_shows, .ref tn_oneEnd, .ref tn_otherEnd, .ref tn_told, .ref tn_strayParts, .ref tn_strayCourts])), (tn_above, .inl (cA_tn_above, 10, .inl f_tn_above)), (tn_shows, .inl (cA_tn_shows, 10, .inl f_tn_shows)), (tn_oneEnd, .inl (cA_tn_oneEnd, 16, .inl f_tn_oneEnd)), (tn_otherEnd, .inl (cA_tn_otherEnd, 16, .inl f_tn_otherEnd)), (tn_told, .inl (cA_tn_told, 480, .inl f_tn_told)), (tn_strayCourts, .inl (cA_tn_strayCourts, 10, .inl f_tn_strayCourts)), (dy, .inr (1, [.int dy_place, .int dy_court, .int dy_hour, .int dy_refusals])), (r0, .inr (6, [.int r0_width, .int r0_size, .ref r0_numbers])), (r0_numbers, .inl (cA_r0_numbers, 60, .inr (.inl f_r0_numbers))), (r1, .inr (6, [.int r1_width, .int r1_size, .ref r1_numbers])), (r1_numbers, .inl (cA_r1_numbers, 60, .inr (.inl f_r1_numbers))), (r2_numbers, .inl (cA_r2_numbers, 60, .inr (.inl f_r2_numbers))), (r3, .inr (6, [.int r3_width, .int r3_size, .ref r3_numbers])), (r3_numbers, .inl (cA_r3_numbers, 60, .inr (.inl f_r3_numbers))), (r2, .inr (6, [.int r2_width, .int r2_size, .ref r2_numbers]))]) hB ht hvm hP hD hK [15] [0, 1, 2, 3, 4, 5, 6, 7, 8, 9, 10, 11, 12, 13, 14, 16, 17, 18] rfl 19 rfl (by decide +kernel) rfl (by decide +kernel) hk1 hFc
        generalize H1 = H at hP hS ⊢
        have hK : va_K (dC, dI) vwCl [(cA_sl, .object RX6), (cA_tn_above, .int), (cA_tn_shows, .int), (cA_tn_oneEnd, .int), (cA_tn_otherEnd, .int), (cA_tn_told, .int), (cA_tn_strayCourts, .int), (cA_r0_numbers, .long), (cA_r1_numbers, .long), (cA_r2_numbers, .long), (cA_r3_numbers, .long)] s := hK
        have b_r_18 : 0 ≤ r_18.toInt ∧ r_18.toInt ≤ 1 := hw
        refine lv_if_ne (tgt := 38) hx hb dX9_liveBy_32 (by decide) (fun c_19 => ?_) (fun c_19 => ?_)
        · have ic_19 := zz_ne rfl (show Int32.toInt 0 = 0 from by decide) c_19
          refine lv_aload_n hx hb dX9_liveBy_38 rfl (lv_at hl 0 rfl) ?_
          refine va_get (D := (dC, dI)) (ci := 9) (v := .ref dy) (C := RX9) (T := TX9) (N := 13) hx hb hts zl_X9 hown hK hP 0 rfl rfl 12 (by decide) (hts _ zw_t2_201) (fun _ h9 => h9) rfl dX9_liveBy_39 ?_
          refine lv_aload_n hx hb dX9_liveBy_42 rfl (lv_at hl 0 rfl) ?_
          refine va_get (D := (dC, dI)) (ci := 9) (v := .ref nw) (C := RX9) (T := TX9) (N := 13) hx hb hts zl_X9 hown hK hP 0 rfl rfl 4 (by decide) (hts _ zw_t2_193) (fun _ h9 => h9) rfl dX9_liveBy_43 ?_
          refine lv_aload_n hx hb dX9_liveBy_46 rfl (lv_at hl 0 rfl) ?_
          refine va_get (D := (dC, dI)) (ci := 9) (v := .ref sl) (C := RX9) (T := TX9) (N := 13) hx hb hts zl_X9 hown hK hP 0 rfl rfl 6 (by decide) (hts _ zw_t2_195) (fun _ h9 => h9) rfl dX9_liveBy_47 ?_
          refine lv_iload_n hx hb dX9_liveBy_50 rfl (lv_at hl 1 rfl) ?_
          refine va_aldq hx hb hK hP 1 0 rfl rfl (zi_in (show Int32.toInt 2 = 2 from by decide) (by first | with_reducible assumption | omega)) dX9_liveBy_51 ?_
          refine W.eq (g2 := F0 m 52 ls (.ref r2 :: [.ref nw, .ref dy])) (by rw [show f_sl (Int32.toNatClampNeg 2) = some r2 from (by rw [show Int32.toNatClampNeg 2 = 2 from by decide]; exact hsl2)]; rfl) ?_
          obtain ⟨hPc, hDc, hFc⟩ := z_cut (wc := (zV59 dy dy_place dy_court dy_hour dy_refusals nw nw_isKept tn nw_strayed nw_names nw_known nw_gone tn tn_hours tn_courts tn_gateCount tn_people tn_lines tn_falseHours tn_strayers tn_deep tn_above tn_doors tn_degrees tn_neighbours tn_shows tn_oneEnd tn_otherEnd tn_told tn_strayParts tn_strayCourts tn_above cA_tn_above f_tn_above tn_shows cA_tn_shows f_tn_shows tn_oneEnd cA_tn_oneEnd f_tn_oneEnd tn_otherEnd cA_tn_otherEnd f_tn_otherEnd tn_told cA_tn_told f_tn_told tn_strayCourts cA_tn_strayCourts f_tn_strayCourts r2 r2_width r2_size r2_numbers r2_numbers cA_r2_numbers f_r2_numbers)) hP hD hS hA [10, 2, 3, 4, 5, 6, 7, 8, 9, 18, 15] rfl (by decide +kernel)
          have hKc := hK.sub (tys' := [(cA_tn_above, .int), (cA_tn_shows, .int), (cA_tn_oneEnd, .int), (cA_tn_otherEnd, .int), (cA_tn_told, .int), (cA_tn_strayCourts, .int), (cA_r2_numbers, .long)]) [1, 2, 3, 4, 5, 6, 9] rfl
          refine va_callv (va_runV (As := [.ref nw, .ref r2]) (rest := []) ⟨hx, hb, hml, hown, hts⟩ (k_X1_live l sa dC dI dy nw r2 dy_place dy_court dy_hour dy_refusals nw_isKept tn nw_strayed nw_names nw_known nw_gone tn_hours tn_courts tn_gateCount tn_people tn_lines tn_falseHours tn_strayers tn_deep tn_above tn_doors tn_degrees tn_neighbours tn_shows tn_oneEnd tn_otherEnd tn_told tn_strayParts tn_strayCourts cA_tn_above f_tn_above cA_tn_shows f_tn_shows cA_tn_oneEnd f_tn_oneEnd cA_tn_otherEnd f_tn_otherEnd cA_tn_told f_tn_told cA_tn_strayCourts f_tn_strayCourts r2_width r2_size r2_numbers cA_r2_numbers f_r2_numbers b_dy_court b_dy_hour b_nw_isKept b_nw_names b_tn_hours b_tn_courts b_tn_gateCount b_tn_people b_tn_falseHours b_tn_deep b_f_tn_oneEnd b_f_tn_otherEnd b_f_tn_told b_f_tn_strayCourts b_r2_size H.size) (cwV 2 hts (z_gV zw_t5_226 zw_t5_227 zw_t5_228 zw_t1_9 zw_t5_229) rfl rfl rfl (by decide +kernel) (by rw [← hRe]; exact ⟨(Nat.le_of_ble_eq_true rfl), (Nat.le_of_ble_eq_true rfl)⟩)) (z_preV hPc hKc hDc hN hXs hS hFc (q := (RX1, TX1, 4)) (ci := 1) (q0 := 0) rfl rfl) rfl rfl hl.1 rfl (lv_room (Nat.le_of_ble_eq_true rfl)) dX9_liveBy_52 (by rw [← hRe]; exact ⟨(Nat.le_of_ble_eq_true rfl), (Nat.le_of_ble_eq_true rfl)⟩)) hS (fun q _ h => hFc q h) hFc (fun u t H1 locs ht hvm hw hB hz1 hk1 hS => ?_)
          refine hB.elim fun n_dy_21 ze1 => ze1.elim fun n_dy_22 ze2 => ze2.elim fun n_dy_23 ze3 => ze3.elim fun n_dy_24 ze4 => ze4.elim fun b_n_dy_22 ze5 => ze5.elim fun b_n_dy_23 ze6 => ?_
          clear hB ze1 ze2 ze3 ze4 ze5
          have hB := ze6
          clear ze6
          obtain ⟨hP, hD, hK⟩ := z_after3 (wn := (zV84 h0 tp h0_tapeLength h0_faultKind h0_faultPlace nw im sl rd wk fm mt ch dy sl cA_sl f_sl r0 r0_width r0_size r0_numbers r0_numbers cA_r0_numbers f_r0_numbers r1 r1_width r1_size r1_numbers r1_numbers cA_r1_numbers f_r1_numbers r3 r3_width r3_size r3_numbers r3_numbers cA_r3_numbers f_r3_numbers dy n_dy_21 n_dy_22 n_dy_23 n_dy_24 nw nw_isKept tn nw_strayed nw_names nw_known nw_gone tn tn_hours tn_courts tn_gateCount tn_people tn_lines tn_falseHours tn_strayers tn_deep tn_above tn_doors tn_degrees tn_neighbours tn_shows tn_oneEnd tn_otherEnd tn_told tn_strayParts tn_strayCourts tn_above cA_tn_above f_tn_above tn_shows cA_tn_shows f_tn_shows tn_oneEnd cA_tn_oneEnd f_tn_oneEnd tn_otherEnd cA_tn_otherEnd f_tn_otherEnd tn_told cA_tn_told f_tn_told tn_strayCourts cA_tn_strayCourts f_tn_strayCourts r2 r2_width r2_size r2_numbers r2_numbers cA_r2_numbers f_r2_numbers)) hB ht hvm hP hD hK [10, 2, 3, 4, 5, 6, 7, 8, 9, 18, 15] [0, 1, 11, 12, 13, 14, 16, 17] rfl 19 rfl (by decide +kernel) rfl (by decide +kernel) hk1 hFc
          generalize H1 = H at hP hS ⊢
          have hK : va_K (dC, dI) vwCl [(cA_sl, .object RX6), (cA_tn_above, .int), (cA_tn_shows, .int), (cA_tn_oneEnd, .int), (cA_tn_otherEnd, .int), (cA_tn_told, .int), (cA_tn_strayCourts, .int), (cA_r0_numbers, .long), (cA_r1_numbers, .long), (cA_r2_numbers, .long), (cA_r3_numbers, .long)] s := hK
          refine lv_iconst (v := 0) hx hb dX9_liveBy_55 (by decide) ?_
          exact W.iret (v := 0) hx hb hr (fun t ht hW => by rw [← hQe]; exact ⟨⟨0, (), rfl, (by decide), ⟨n_dy_21, n_dy_22, n_dy_23, n_dy_24, (by first | with_reducible assumption | omega), (by first | with_reducible assumption | omega), z_ret hP hK hD ht hW [0, 1, 9, 10, 11, 12, 13, 14, 15, 16, 8, 2, 3, 4, 5, 17, 18, 6, 7] [] rfl (by decide) rfl⟩⟩, hS.F ht⟩) hS.2.2 dX9_liveBy_56
        · have ic_19 := zz_nne rfl (show Int32.toInt 0 = 0 from by decide) c_19
          refine lv_bipush (v := (-6)) hx hb dX9_liveBy_35 (by decide) ?_
          exact W.iret (v := (-6)) hx hb hr (fun t ht hW => by rw [← hQe]; exact ⟨⟨(-6), (), rfl, (by decide), ⟨dy_place, dy_court, dy_hour, dy_refusals, (by first | with_reducible assumption | omega), (by first | with_reducible assumption | omega), z_ret hP hK hD ht hW [0, 1, 2, 3, 4, 5, 6, 7, 8, 9, 10, 11, 12, 13, 14, 18, 15, 16, 17] [] rfl (by decide) rfl⟩⟩, hS.F ht⟩) hS.2.2 dX9_liveBy_37
      · have zc_3 : Int32.toInt 3 = 3 := by decide
        refine va_aldq hx hb hK hP 1 0 rfl rfl (zi_in (show Int32.toInt 3 = 3 from by decide) (by first | with_reducible assumption | omega)) dX9_liveBy_28 ?_
        refine W.eq (g2 := F0 m 29 ls (.ref r3 :: [])) (by rw [show f_sl (Int32.toNatClampNeg 3) = some r3 from (by rw [show Int32.toNatClampNeg 3 = 3 from by decide]; exact hsl3)]; rfl) ?_
        obtain ⟨hPc, hDc, hFc⟩ := z_cut (wc := (zV6 r3 r3_width r3_size r3_numbers)) hP hD hS hA [17] rfl (by decide +kernel)
        have hKc := hK.sub (tys' := []) [] rfl
        refine va_calli (va_runV (As := []) (rest := []) ⟨hx, hb, hml, hown, hts⟩ (k_X6_isThere l sa dC dI r3 r3_width r3_size r3_numbers b_r3_size H.size) (cwV 0 hts (z_gV zw_t5_222 zw_t5_223 zw_t5_224 zw_t1_10 zw_t5_225) rfl rfl rfl (by decide +kernel) (by rw [← hRe]; exact ⟨(Nat.le_of_ble_eq_true rfl), (Nat.le_of_ble_eq_true rfl)⟩)) (z_preV hPc hKc hDc hN hXs hS hFc (q := (RX6, TX6, 3)) (ci := 6) (q0 := 0) rfl rfl) rfl rfl hl.1 rfl (lv_room (Nat.le_of_ble_eq_true rfl)) dX9_liveBy_29 (by rw [← hRe]; exact ⟨(Nat.le_of_ble_eq_true rfl), (Nat.le_of_ble_eq_true rfl)⟩)) hS (fun q _ h => hFc q h) hFc (fun r_25 u t H1 locs ht hvm hw hB hz1 hk1 hS => ?_)
        obtain ⟨hP, hD, hK⟩ := z_after3 (wn := [(h0, .inr (9, [.ref tp, .int h0_tapeLength, .int h0_faultKind, .int h0_faultPlace, .ref nw, .ref im, .ref sl, .ref rd, .ref wk, .ref fm, .ref mt, .ref ch, .ref dy])), (sl, .inl (cA_sl, 4, .inr (.inr (.inr (.inr f_sl))))), (nw, .inr (3, [.int nw_isKept, .ref tn, .int nw_strayed, .int nw_names, .int nw_known, .int nw_gone])), (tn, .inr (7, [.int tn_hours, .int tn_courts, .int tn_gateCount, .int tn_people, .int tn_lines, .int tn_falseHours, .int tn_strayers, .int tn_deep, .ref tn_above, .ref tn_doors, .ref tn_degrees, .ref tn_neighbours, .ref tn_shows, .ref tn_oneEnd, .ref tn_otherEnd, .ref tn_told, .ref tn_strayParts, .ref tn_strayCourts])), (tn_above, .inl (cA_tn_above, 10, .inl f_tn_above)), (tn_shows, .inl (cA_tn_shows, 10, .inl f_tn_shows)), (tn_oneEnd, .inl (cA_tn_oneEnd, 16, .inl f_tn_oneEnd)), (tn_otherEnd, .inl (cA_tn_otherEnd, 16, .inl f_tn_otherEnd)), (tn_told, .inl (cA_tn_told, 480, .inl f_tn_told)), (tn_strayCourts, .inl (cA_tn_strayCourts, 10, .inl f_tn_strayCourts)), (dy, .inr (1, [.int dy_place, .int dy_court, .int dy_hour, .int dy_refusals])), (r0, .inr (6, [.int r0_width, .int r0_size, .ref r0_numbers])), (r0_numbers, .inl (cA_r0_numbers, 60, .inr (.inl f_r0_numbers))), (r1, .inr (6, [.int r1_width, .int r1_size, .ref r1_numbers])), (r1_numbers, .inl (cA_r1_numbers, 60, .inr (.inl f_r1_numbers))), (r2, .inr (6, [.int r2_width, .int r2_size, .ref r2_numbers])), (r2_numbers, .inl (cA_r2_numbers, 60, .inr (.inl f_r2_numbers))), (r3_numbers, .inl (cA_r3_numbers, 60, .inr (.inl f_r3_numbers))), (r3, .inr (6, [.int r3_width, .int r3_size, .ref r3_numbers]))]) hB ht hvm hP hD hK [17] [0, 1, 2, 3, 4, 5, 6, 7, 8, 9, 10, 11, 12, 13, 14, 15, 16, 18] rfl 19 rfl (by decide +kernel) rfl (by decide +kernel) hk1 hFc
        generalize H1 = H at hP hS ⊢
        have hK : va_K (dC, dI) vwCl [(cA_sl, .object RX6), (cA_tn_above, .int), (cA_tn_shows, .int), (cA_tn_oneEnd, .int), (cA_tn_otherEnd, .int), (cA_tn_told, .int), (cA_tn_strayCourts, .int), (cA_r0_numbers, .long), (cA_r1_numbers, .long), (cA_r2_numbers, .long), (cA_r3_numbers, .long)] s := hK
        have b_r_25 : 0 ≤ r_25.toInt ∧ r_25.toInt ≤ 1 := hw
        refine lv_if_ne (tgt := 38) hx hb dX9_liveBy_32 (by decide) (fun c_26 => ?_) (fun c_26 => ?_)
        · have ic_26 := zz_ne rfl (show Int32.toInt 0 = 0 from by decide) c_26
          refine lv_aload_n hx hb dX9_liveBy_38 rfl (lv_at hl 0 rfl) ?_
          refine va_get (D := (dC, dI)) (ci := 9) (v := .ref dy) (C := RX9) (T := TX9) (N := 13) hx hb hts zl_X9 hown hK hP 0 rfl rfl 12 (by decide) (hts _ zw_t2_201) (fun _ h9 => h9) rfl dX9_liveBy_39 ?_
          refine lv_aload_n hx hb dX9_liveBy_42 rfl (lv_at hl 0 rfl) ?_
          refine va_get (D := (dC, dI)) (ci := 9) (v := .ref nw) (C := RX9) (T := TX9) (N := 13) hx hb hts zl_X9 hown hK hP 0 rfl rfl 4 (by decide) (hts _ zw_t2_193) (fun _ h9 => h9) rfl dX9_liveBy_43 ?_
          refine lv_aload_n hx hb dX9_liveBy_46 rfl (lv_at hl 0 rfl) ?_
          refine va_get (D := (dC, dI)) (ci := 9) (v := .ref sl) (C := RX9) (T := TX9) (N := 13) hx hb hts zl_X9 hown hK hP 0 rfl rfl 6 (by decide) (hts _ zw_t2_195) (fun _ h9 => h9) rfl dX9_liveBy_47 ?_
          refine lv_iload_n hx hb dX9_liveBy_50 rfl (lv_at hl 1 rfl) ?_
          refine va_aldq hx hb hK hP 1 0 rfl rfl (zi_in (show Int32.toInt 3 = 3 from by decide) (by first | with_reducible assumption | omega)) dX9_liveBy_51 ?_
          refine W.eq (g2 := F0 m 52 ls (.ref r3 :: [.ref nw, .ref dy])) (by rw [show f_sl (Int32.toNatClampNeg 3) = some r3 from (by rw [show Int32.toNatClampNeg 3 = 3 from by decide]; exact hsl3)]; rfl) ?_
          obtain ⟨hPc, hDc, hFc⟩ := z_cut (wc := (zV59 dy dy_place dy_court dy_hour dy_refusals nw nw_isKept tn nw_strayed nw_names nw_known nw_gone tn tn_hours tn_courts tn_gateCount tn_people tn_lines tn_falseHours tn_strayers tn_deep tn_above tn_doors tn_degrees tn_neighbours tn_shows tn_oneEnd tn_otherEnd tn_told tn_strayParts tn_strayCourts tn_above cA_tn_above f_tn_above tn_shows cA_tn_shows f_tn_shows tn_oneEnd cA_tn_oneEnd f_tn_oneEnd tn_otherEnd cA_tn_otherEnd f_tn_otherEnd tn_told cA_tn_told f_tn_told tn_strayCourts cA_tn_strayCourts f_tn_strayCourts r3 r3_width r3_size r3_numbers r3_numbers cA_r3_numbers f_r3_numbers)) hP hD hS hA [10, 2, 3, 4, 5, 6, 7, 8, 9, 18, 17] rfl (by decide +kernel)
          have hKc := hK.sub (tys' := [(cA_tn_above, .int), (cA_tn_shows, .int), (cA_tn_oneEnd, .int), (cA_tn_otherEnd, .int), (cA_tn_told, .int), (cA_tn_strayCourts, .int), (cA_r3_numbers, .long)]) [1, 2, 3, 4, 5, 6, 10] rfl
          refine va_callv (va_runV (As := [.ref nw, .ref r3]) (rest := []) ⟨hx, hb, hml, hown, hts⟩ (k_X1_live l sa dC dI dy nw r3 dy_place dy_court dy_hour dy_refusals nw_isKept tn nw_strayed nw_names nw_known nw_gone tn_hours tn_courts tn_gateCount tn_people tn_lines tn_falseHours tn_strayers tn_deep tn_above tn_doors tn_degrees tn_neighbours tn_shows tn_oneEnd tn_otherEnd tn_told tn_strayParts tn_strayCourts cA_tn_above f_tn_above cA_tn_shows f_tn_shows cA_tn_oneEnd f_tn_oneEnd cA_tn_otherEnd f_tn_otherEnd cA_tn_told f_tn_told cA_tn_strayCourts f_tn_strayCourts r3_width r3_size r3_numbers cA_r3_numbers f_r3_numbers b_dy_court b_dy_hour b_nw_isKept b_nw_names b_tn_hours b_tn_courts b_tn_gateCount b_tn_people b_tn_falseHours b_tn_deep b_f_tn_oneEnd b_f_tn_otherEnd b_f_tn_told b_f_tn_strayCourts b_r3_size H.size) (cwV 2 hts (z_gV zw_t5_226 zw_t5_227 zw_t5_228 zw_t1_9 zw_t5_229) rfl rfl rfl (by decide +kernel) (by rw [← hRe]; exact ⟨(Nat.le_of_ble_eq_true rfl), (Nat.le_of_ble_eq_true rfl)⟩)) (z_preV hPc hKc hDc hN hXs hS hFc (q := (RX1, TX1, 4)) (ci := 1) (q0 := 0) rfl rfl) rfl rfl hl.1 rfl (lv_room (Nat.le_of_ble_eq_true rfl)) dX9_liveBy_52 (by rw [← hRe]; exact ⟨(Nat.le_of_ble_eq_true rfl), (Nat.le_of_ble_eq_true rfl)⟩)) hS (fun q _ h => hFc q h) hFc (fun u t H1 locs ht hvm hw hB hz1 hk1 hS => ?_)
          refine hB.elim fun n_dy_28 ze1 => ze1.elim fun n_dy_29 ze2 => ze2.elim fun n_dy_30 ze3 => ze3.elim fun n_dy_31 ze4 => ze4.elim fun b_n_dy_29 ze5 => ze5.elim fun b_n_dy_30 ze6 => ?_
          clear hB ze1 ze2 ze3 ze4 ze5
          have hB := ze6
          clear ze6
          obtain ⟨hP, hD, hK⟩ := z_after3 (wn := (zV84 h0 tp h0_tapeLength h0_faultKind h0_faultPlace nw im sl rd wk fm mt ch dy sl cA_sl f_sl r0 r0_width r0_size r0_numbers r0_numbers cA_r0_numbers f_r0_numbers r1 r1_width r1_size r1_numbers r1_numbers cA_r1_numbers f_r1_numbers r2 r2_width r2_size r2_numbers r2_numbers cA_r2_numbers f_r2_numbers dy n_dy_28 n_dy_29 n_dy_30 n_dy_31 nw nw_isKept tn nw_strayed nw_names nw_known nw_gone tn tn_hours tn_courts tn_gateCount tn_people tn_lines tn_falseHours tn_strayers tn_deep tn_above tn_doors tn_degrees tn_neighbours tn_shows tn_oneEnd tn_otherEnd tn_told tn_strayParts tn_strayCourts tn_above cA_tn_above f_tn_above tn_shows cA_tn_shows f_tn_shows tn_oneEnd cA_tn_oneEnd f_tn_oneEnd tn_otherEnd cA_tn_otherEnd f_tn_otherEnd tn_told cA_tn_told f_tn_told tn_strayCourts cA_tn_strayCourts f_tn_strayCourts r3 r3_width r3_size r3_numbers r3_numbers cA_r3_numbers f_r3_numbers)) hB ht hvm hP hD hK [10, 2, 3, 4, 5, 6, 7, 8, 9, 18, 17] [0, 1, 11, 12, 13, 14, 15, 16] rfl 19 rfl (by decide +kernel) rfl (by decide +kernel) hk1 hFc
          generalize H1 = H at hP hS ⊢
          have hK : va_K (dC, dI) vwCl [(cA_sl, .object RX6), (cA_tn_above, .int), (cA_tn_shows, .int), (cA_tn_oneEnd, .int), (cA_tn_otherEnd, .int), (cA_tn_told, .int), (cA_tn_strayCourts, .int), (cA_r0_numbers, .long), (cA_r1_numbers, .long), (cA_r2_numbers, .long), (cA_r3_numbers, .long)] s := hK
          refine lv_iconst (v := 0) hx hb dX9_liveBy_55 (by decide) ?_
          exact W.iret (v := 0) hx hb hr (fun t ht hW => by rw [← hQe]; exact ⟨⟨0, (), rfl, (by decide), ⟨n_dy_28, n_dy_29, n_dy_30, n_dy_31, (by first | with_reducible assumption | omega), (by first | with_reducible assumption | omega), z_ret hP hK hD ht hW [0, 1, 9, 10, 11, 12, 13, 14, 15, 16, 8, 2, 3, 4, 5, 6, 7, 17, 18] [] rfl (by decide) rfl⟩⟩, hS.F ht⟩) hS.2.2 dX9_liveBy_56
        · have ic_26 := zz_nne rfl (show Int32.toInt 0 = 0 from by decide) c_26
          refine lv_bipush (v := (-6)) hx hb dX9_liveBy_35 (by decide) ?_
          exact W.iret (v := (-6)) hx hb hr (fun t ht hW => by rw [← hQe]; exact ⟨⟨(-6), (), rfl, (by decide), ⟨dy_place, dy_court, dy_hour, dy_refusals, (by first | with_reducible assumption | omega), (by first | with_reducible assumption | omega), z_ret hP hK hD ht hW [0, 1, 2, 3, 4, 5, 6, 7, 8, 9, 10, 11, 12, 13, 14, 15, 16, 18, 17] [] rfl (by decide) rfl⟩⟩, hS.F ht⟩) hS.2.2 dX9_liveBy_37
      · omega
    · have ic_3 := zz_nne rfl (show Int32.toInt 0 = 0 from by decide) c_3
      refine lv_bipush (v := (-2)) hx hb dX9_liveBy_20 (by decide) ?_
      exact W.iret (v := (-2)) hx hb hr (fun t ht hW => by rw [← hQe]; exact ⟨⟨(-2), (), rfl, (by decide), ⟨dy_place, dy_court, dy_hour, dy_refusals, (by first | with_reducible assumption | omega), (by first | with_reducible assumption | omega), z_ret hP hK hD ht hW [0, 1, 2, 3, 4, 5, 6, 7, 8, 9, 10, 11, 12, 13, 14, 15, 16, 17, 18] [] rfl (by decide) rfl⟩⟩, hS.F ht⟩) hS.2.2 dX9_liveBy_22
set_option maxHeartbeats 4000000 in
set_option maxRecDepth 100000 in
theorem k_X9_judge (l : Launch) (sa : Nat → Nat) (dC : Nat → ClassId) (dI : Nat → Nat → Nat) (h0 : Nat) (p1 : Int32) (tp : Nat) (h0_tapeLength : Int32) (h0_faultKind : Int32) (h0_faultPlace : Int32) (nw : Nat) (im : Nat) (sl : Nat) (rd : Nat) (wk : Nat) (fm : Nat) (mt : Nat) (ch : Nat) (dy : Nat) (cA_sl : ClassId) (f_sl : Nat → Option Nat) (r0 : Nat) (r1 : Nat) (r2 : Nat) (r3 : Nat) (nw_isKept : Int32) (tn : Nat) (nw_strayed : Int32) (nw_names : Int32) (nw_known : Int32) (nw_gone : Int32) (tn_hours : Int32) (tn_courts : Int32) (tn_gateCount : Int32) (tn_people : Int32) (tn_lines : Int32) (tn_falseHours : Int32) (tn_strayers : Int32) (tn_deep : Int32) (tn_above : Nat) (tn_doors : Nat) (tn_degrees : Nat) (tn_neighbours : Nat) (tn_shows : Nat) (tn_oneEnd : Nat) (tn_otherEnd : Nat) (tn_told : Nat) (tn_strayParts : Nat) (tn_strayCourts : Nat) (cA_tn_above : ClassId) (f_tn_above : Nat → Int32) (cA_tn_shows : ClassId) (f_tn_shows : Nat → Int32) (cA_tn_oneEnd : ClassId) (f_tn_oneEnd : Nat → Int32) (cA_tn_otherEnd : ClassId) (f_tn_otherEnd : Nat → Int32) (cA_tn_told : ClassId) (f_tn_told : Nat → Int32) (cA_tn_strayCourts : ClassId) (f_tn_strayCourts : Nat → Int32) (dy_place : Int32) (dy_court : Int32) (dy_hour : Int32) (dy_refusals : Int32) (r0_width : Int32) (r0_size : Int32) (r0_numbers : Nat) (cA_r0_numbers : ClassId) (f_r0_numbers : Nat → Int64) (r1_width : Int32) (r1_size : Int32) (r1_numbers : Nat) (cA_r1_numbers : ClassId) (f_r1_numbers : Nat → Int64) (r2_width : Int32) (r2_size : Int32) (r2_numbers : Nat) (cA_r2_numbers : ClassId) (f_r2_numbers : Nat → Int64) (r3_width : Int32) (r3_size : Int32) (r3_numbers : Nat) (cA_r3_numbers : ClassId) (f_r3_numbers : Nat → Int64) (b_h0_tapeLength : 0 ≤ h0_tapeLength.toInt ∧ h0_tapeLength.toInt ≤ 1600) (hsl0 : f_sl 0 = some r0) (hsl1 : f_sl 1 = some r1) (hsl2 : f_sl 2 = some r2) (hsl3 : f_sl 3 = some r3) (b_nw_isKept : 0 ≤ nw_isKept.toInt ∧ nw_isKept.toInt ≤ 1) (b_nw_names : 0 ≤ nw_names.toInt ∧ nw_names.toInt ≤ 1023) (b_tn_hours : 0 ≤ tn_hours.toInt ∧ tn_hours.toInt ≤ 48) (b_tn_courts : 0 ≤ tn_courts.toInt ∧ tn_courts.toInt ≤ 10) (b_tn_gateCount : 0 ≤ tn_gateCount.toInt ∧ tn_gateCount.toInt ≤ 16) (b_tn_people : 0 ≤ tn_people.toInt ∧ tn_people.toInt ≤ 10) (b_tn_falseHours : 0 ≤ tn_falseHours.toInt ∧ tn_falseHours.toInt ≤ 9) (b_tn_deep : 0 ≤ tn_deep.toInt ∧ tn_deep.toInt ≤ 1) (b_f_tn_oneEnd : ∀ j : Nat, 0 ≤ (f_tn_oneEnd j).toInt ∧ (f_tn_oneEnd j).toInt ≤ 9) (b_f_tn_otherEnd : ∀ j : Nat, 0 ≤ (f_tn_otherEnd j).toInt ∧ (f_tn_otherEnd j).toInt ≤ 9) (b_f_tn_told : ∀ j : Nat, 0 ≤ (f_tn_told j).toInt ∧ (f_tn_told j).toInt ≤ 9) (b_f_tn_strayCourts : ∀ j : Nat, 0 ≤ (f_tn_strayCourts j).toInt ∧ (f_tn_strayCourts j).toInt ≤ 9) (b_dy_court : 0 ≤ dy_court.toInt ∧ dy_court.toInt ≤ 9) (b_dy_hour : 0 ≤ dy_hour.toInt ∧ dy_hour.toInt ≤ 48) (b_r0_size : 0 ≤ r0_size.toInt ∧ r0_size.toInt ≤ 60) (b_r1_size : 0 ≤ r1_size.toInt ∧ r1_size.toInt ≤ 60) (b_r2_size : 0 ≤ r2_size.toInt ∧ r2_size.toInt ≤ 60) (b_r3_size : 0 ≤ r3_size.toInt ∧ r3_size.toInt ≤ 60) (sz : Nat) : Met l yX9_judge (.code yX9_judge cX9_judge 3 (some .int) :: zT) ({ frames := 5, cells := 0, slots := 0, locals := 117 }) (va_Pc [.ref h0, .int p1] (zB sa dC dI (zV83 h0 tp h0_tapeLength h0_faultKind h0_faultPlace nw im sl rd wk fm mt ch dy sl cA_sl f_sl nw nw_isKept tn nw_strayed nw_names nw_known nw_gone tn tn_hours tn_courts tn_gateCount tn_people tn_lines tn_falseHours tn_strayers tn_deep tn_above tn_doors tn_degrees tn_neighbours tn_shows tn_oneEnd tn_otherEnd tn_told tn_strayParts tn_strayCourts tn_above cA_tn_above f_tn_above tn_shows cA_tn_shows f_tn_shows tn_oneEnd cA_tn_oneEnd f_tn_oneEnd tn_otherEnd cA_tn_otherEnd f_tn_otherEnd tn_told cA_tn_told f_tn_told tn_strayCourts cA_tn_strayCourts f_tn_strayCourts dy dy_place dy_court dy_hour dy_refusals r0 r0_width r0_size r0_numbers r0_numbers cA_r0_numbers f_r0_numbers r1 r1_width r1_size r1_numbers r1_numbers cA_r1_numbers f_r1_numbers r2 r2_width r2_size r2_numbers r2_numbers cA_r2_numbers f_r2_numbers r3 r3_width r3_size r3_numbers r3_numbers cA_r3_numbers f_r3_numbers) [(cA_sl, .object RX6), (cA_tn_above, .int), (cA_tn_shows, .int), (cA_tn_oneEnd, .int), (cA_tn_otherEnd, .int), (cA_tn_told, .int), (cA_tn_strayCourts, .int), (cA_r0_numbers, .long), (cA_r1_numbers, .long), (cA_r2_numbers, .long), (cA_r3_numbers, .long)] sz)) (va_Qi (fun (r : Int32) (_ : Unit) => True) (fun _ t => ∃ (n_dy_0 : Int32) (n_dy_1 : Int32) (n_dy_2 : Int32) (n_dy_3 : Int32), (0 ≤ n_dy_1.toInt ∧ n_dy_1.toInt ≤ 9) ∧ (0 ≤ n_dy_2.toInt ∧ n_dy_2.toInt ≤ 48) ∧ zW dC dI (zV83 h0 tp h0_tapeLength h0_faultKind h0_faultPlace nw im sl rd wk fm mt ch dy sl cA_sl f_sl nw nw_isKept tn nw_strayed nw_names nw_known nw_gone tn tn_hours tn_courts tn_gateCount tn_people tn_lines tn_falseHours tn_strayers tn_deep tn_above tn_doors tn_degrees tn_neighbours tn_shows tn_oneEnd tn_otherEnd tn_told tn_strayParts tn_strayCourts tn_above cA_tn_above f_tn_above tn_shows cA_tn_shows f_tn_shows tn_oneEnd cA_tn_oneEnd f_tn_oneEnd tn_otherEnd cA_tn_otherEnd f_tn_otherEnd tn_told cA_tn_told f_tn_told tn_strayCourts cA_tn_strayCourts f_tn_strayCourts dy n_dy_0 n_dy_1 n_dy_2 n_dy_3 r0 r0_width r0_size r0_numbers r0_numbers cA_r0_numbers f_r0_numbers r1 r1_width r1_size r1_numbers r1_numbers cA_r1_numbers f_r1_numbers r2 r2_width r2_size r2_numbers r2_numbers cA_r2_numbers f_r2_numbers r3 r3_width r3_size r3_numbers r3_numbers cA_r3_numbers f_r3_numbers) [] (va_A (zV83 h0 tp h0_tapeLength h0_faultKind h0_faultPlace nw im sl rd wk fm mt ch dy sl cA_sl f_sl nw nw_isKept tn nw_strayed nw_names nw_known nw_gone tn tn_hours tn_courts tn_gateCount tn_people tn_lines tn_falseHours tn_strayers tn_deep tn_above tn_doors tn_degrees tn_neighbours tn_shows tn_oneEnd tn_otherEnd tn_told tn_strayParts tn_strayCourts tn_above cA_tn_above f_tn_above tn_shows cA_tn_shows f_tn_shows tn_oneEnd cA_tn_oneEnd f_tn_oneEnd tn_otherEnd cA_tn_otherEnd f_tn_otherEnd tn_told cA_tn_told f_tn_told tn_strayCourts cA_tn_strayCourts f_tn_strayCourts dy dy_place dy_court dy_hour dy_refusals r0 r0_width r0_size r0_numbers r0_numbers cA_r0_numbers f_r0_numbers r1 r1_width r1_size r1_numbers r1_numbers cA_r1_numbers f_r1_numbers r2 r2_width r2_size r2_numbers r2_numbers cA_r2_numbers f_r2_numbers r3 r3_width r3_size r3_numbers r3_numbers cA_r3_numbers f_r3_numbers) sz) t) (va_A (zV83 h0 tp h0_tapeLength h0_faultKind h0_faultPlace nw im sl rd wk fm mt ch dy sl cA_sl f_sl nw nw_isKept tn nw_strayed nw_names nw_known nw_gone tn tn_hours tn_courts tn_gateCount tn_people tn_lines tn_falseHours tn_strayers tn_deep tn_above tn_doors tn_degrees tn_neighbours tn_shows tn_oneEnd tn_otherEnd tn_told tn_strayParts tn_strayCourts tn_above cA_tn_above f_tn_above tn_shows cA_tn_shows f_tn_shows tn_oneEnd cA_tn_oneEnd f_tn_oneEnd tn_otherEnd cA_tn_otherEnd f_tn_otherEnd tn_told cA_tn_told f_tn_told tn_strayCourts cA_tn_strayCourts f_tn_strayCourts dy dy_place dy_court dy_hour dy_refusals r0 r0_width r0_size r0_numbers r0_numbers cA_r0_numbers f_r0_numbers r1 r1_width r1_size r1_numbers r1_numbers cA_r1_numbers f_r1_numbers r2 r2_width r2_size r2_numbers r2_numbers cA_r2_numbers f_r2_numbers r3 r3_width r3_size r3_numbers r3_numbers cA_r3_numbers f_r3_numbers) sz)) 0 0 (va_A (zV83 h0 tp h0_tapeLength h0_faultKind h0_faultPlace nw im sl rd wk fm mt ch dy sl cA_sl f_sl nw nw_isKept tn nw_strayed nw_names nw_known nw_gone tn tn_hours tn_courts tn_gateCount tn_people tn_lines tn_falseHours tn_strayers tn_deep tn_above tn_doors tn_degrees tn_neighbours tn_shows tn_oneEnd tn_otherEnd tn_told tn_strayParts tn_strayCourts tn_above cA_tn_above f_tn_above tn_shows cA_tn_shows f_tn_shows tn_oneEnd cA_tn_oneEnd f_tn_oneEnd tn_otherEnd cA_tn_otherEnd f_tn_otherEnd tn_told cA_tn_told f_tn_told tn_strayCourts cA_tn_strayCourts f_tn_strayCourts dy dy_place dy_court dy_hour dy_refusals r0 r0_width r0_size r0_numbers r0_numbers cA_r0_numbers f_r0_numbers r1 r1_width r1_size r1_numbers r1_numbers cA_r1_numbers f_r1_numbers r2 r2_width r2_size r2_numbers r2_numbers cA_r2_numbers f_r2_numbers r3 r3_width r3_size r3_numbers r3_numbers cA_r3_numbers f_r3_numbers) sz) := by
  refine z_enter (by decide) (by exact (Nat.le_of_ble_eq_true rfl)) ?_
  intro p e s m args below meth c ls A R Qc hargs hsz hQe hAe hRe hx hb hml hr hts hown hlocks hin hl hP hK hD hN hXs hA hS
  rw [hAe] at hQe
  have hown : s.vm.findClass RX9 = some m.cls := hown
  have hl : lv_has ls 3 [(0, .ref h0), (1, .int p1)] := hl
  refine lv_aload_n hx hb dX9_judge_0 rfl (lv_at hl 0 rfl) ?_
  refine lv_iload_n hx hb dX9_judge_1 rfl (lv_at hl 1 rfl) ?_
  obtain ⟨hPc, hDc, hFc⟩ := z_cut (wc := (zV83 h0 tp h0_tapeLength h0_faultKind h0_faultPlace nw im sl rd wk fm mt ch dy sl cA_sl f_sl nw nw_isKept tn nw_strayed nw_names nw_known nw_gone tn tn_hours tn_courts tn_gateCount tn_people tn_lines tn_falseHours tn_strayers tn_deep tn_above tn_doors tn_degrees tn_neighbours tn_shows tn_oneEnd tn_otherEnd tn_told tn_strayParts tn_strayCourts tn_above cA_tn_above f_tn_above tn_shows cA_tn_shows f_tn_shows tn_oneEnd cA_tn_oneEnd f_tn_oneEnd tn_otherEnd cA_tn_otherEnd f_tn_otherEnd tn_told cA_tn_told f_tn_told tn_strayCourts cA_tn_strayCourts f_tn_strayCourts dy dy_place dy_court dy_hour dy_refusals r0 r0_width r0_size r0_numbers r0_numbers cA_r0_numbers f_r0_numbers r1 r1_width r1_size r1_numbers r1_numbers cA_r1_numbers f_r1_numbers r2 r2_width r2_size r2_numbers r2_numbers cA_r2_numbers f_r2_numbers r3 r3_width r3_size r3_numbers r3_numbers cA_r3_numbers f_r3_numbers)) hP hD hS hA [0, 1, 2, 3, 4, 5, 6, 7, 8, 9, 10, 11, 12, 13, 14, 15, 16, 17, 18] rfl (by decide +kernel)
  have hKc := hK.sub (tys' := [(cA_sl, .object RX6), (cA_tn_above, .int), (cA_tn_shows, .int), (cA_tn_oneEnd, .int), (cA_tn_otherEnd, .int), (cA_tn_told, .int), (cA_tn_strayCourts, .int), (cA_r0_numbers, .long), (cA_r1_numbers, .long), (cA_r2_numbers, .long), (cA_r3_numbers, .long)]) [0, 1, 2, 3, 4, 5, 6, 7, 8, 9, 10] rfl
  refine va_calli (va_runV (As := [.int p1]) (rest := []) ⟨hx, hb, hml, hown, hts⟩ (k_X9_liveBy l sa dC dI h0 p1 tp h0_tapeLength h0_faultKind h0_faultPlace nw im sl rd wk fm mt ch dy cA_sl f_sl r0 r1 r2 r3 nw_isKept tn nw_strayed nw_names nw_known nw_gone tn_hours tn_courts tn_gateCount tn_people tn_lines tn_falseHours tn_strayers tn_deep tn_above tn_doors tn_degrees tn_neighbours tn_shows tn_oneEnd tn_otherEnd tn_told tn_strayParts tn_strayCourts cA_tn_above f_tn_above cA_tn_shows f_tn_shows cA_tn_oneEnd f_tn_oneEnd cA_tn_otherEnd f_tn_otherEnd cA_tn_told f_tn_told cA_tn_strayCourts f_tn_strayCourts dy_place dy_court dy_hour dy_refusals r0_width r0_size r0_numbers cA_r0_numbers f_r0_numbers r1_width r1_size r1_numbers cA_r1_numbers f_r1_numbers r2_width r2_size r2_numbers cA_r2_numbers f_r2_numbers r3_width r3_size r3_numbers cA_r3_numbers f_r3_numbers b_h0_tapeLength hsl0 hsl1 hsl2 hsl3 b_nw_isKept b_nw_names b_tn_hours b_tn_courts b_tn_gateCount b_tn_people b_tn_falseHours b_tn_deep b_f_tn_oneEnd b_f_tn_otherEnd b_f_tn_told b_f_tn_strayCourts b_dy_court b_dy_hour b_r0_size b_r1_size b_r2_size b_r3_size s.heap.size) (cwV 1 hts (z_gV zw_t5_215 zw_t5_217 zw_s4_0 zw_t1_1 zw_t5_218) rfl rfl rfl (by decide +kernel) (by rw [← hRe]; exact ⟨(Nat.le_of_ble_eq_true rfl), (Nat.le_of_ble_eq_true rfl)⟩)) (z_preV hPc hKc hDc hN hXs hS hFc (q := (RX9, TX9, 13)) (ci := 9) (q0 := 0) rfl rfl) rfl rfl hl.1 rfl (lv_room (Nat.le_of_ble_eq_true rfl)) dX9_judge_2 (by rw [← hRe]; exact ⟨(Nat.le_of_ble_eq_true rfl), (Nat.le_of_ble_eq_true rfl)⟩)) hS (fun q _ h => hFc q h) hFc (fun r_1 u t H1 locs ht hvm hw hB hz1 hk1 hS => ?_)
  refine hB.elim fun n_dy_2 ze1 => ze1.elim fun n_dy_3 ze2 => ze2.elim fun n_dy_4 ze3 => ze3.elim fun n_dy_5 ze4 => ze4.elim fun b_n_dy_3 ze5 => ze5.elim fun b_n_dy_4 ze6 => ?_
  clear hB ze1 ze2 ze3 ze4 ze5
  have hB := ze6
  clear ze6
  obtain ⟨hP, hD, hK⟩ := z_after3 (wn := (zV83 h0 tp h0_tapeLength h0_faultKind h0_faultPlace nw im sl rd wk fm mt ch dy sl cA_sl f_sl nw nw_isKept tn nw_strayed nw_names nw_known nw_gone tn tn_hours tn_courts tn_gateCount tn_people tn_lines tn_falseHours tn_strayers tn_deep tn_above tn_doors tn_degrees tn_neighbours tn_shows tn_oneEnd tn_otherEnd tn_told tn_strayParts tn_strayCourts tn_above cA_tn_above f_tn_above tn_shows cA_tn_shows f_tn_shows tn_oneEnd cA_tn_oneEnd f_tn_oneEnd tn_otherEnd cA_tn_otherEnd f_tn_otherEnd tn_told cA_tn_told f_tn_told tn_strayCourts cA_tn_strayCourts f_tn_strayCourts dy n_dy_2 n_dy_3 n_dy_4 n_dy_5 r0 r0_width r0_size r0_numbers r0_numbers cA_r0_numbers f_r0_numbers r1 r1_width r1_size r1_numbers r1_numbers cA_r1_numbers f_r1_numbers r2 r2_width r2_size r2_numbers r2_numbers cA_r2_numbers f_r2_numbers r3 r3_width r3_size r3_numbers r3_numbers cA_r3_numbers f_r3_numbers)) hB ht hvm hP hD hK [0, 1, 2, 3, 4, 5, 6, 7, 8, 9, 10, 11, 12, 13, 14, 15, 16, 17, 18] [] rfl 19 rfl (by decide +kernel) rfl (by decide +kernel) hk1 hFc
  generalize H1 = H at hP hS ⊢
  have hK : va_K (dC, dI) vwCl [(cA_sl, .object RX6), (cA_tn_above, .int), (cA_tn_shows, .int), (cA_tn_oneEnd, .int), (cA_tn_otherEnd, .int), (cA_tn_told, .int), (cA_tn_strayCourts, .int), (cA_r0_numbers, .long), (cA_r1_numbers, .long), (cA_r2_numbers, .long), (cA_r3_numbers, .long)] s := hK
  have b_r_1 : (-6) ≤ r_1.toInt ∧ r_1.toInt ≤ 0 := hw
  refine lv_istore_n (lv' := [(2, .int r_1), (0, .ref h0), (1, .int p1)]) hx hb dX9_judge_5 rfl hl (by decide) rfl (fun ls hl => ?_)
  refine lv_iload_n hx hb dX9_judge_6 rfl (lv_at hl 0 rfl) ?_
  refine lv_if_ge (tgt := 14) hx hb dX9_judge_7 (by decide) (fun c_6 => ?_) (fun c_6 => ?_)
  · have ic_6 := zz_ge rfl (show Int32.toInt 0 = 0 from by decide) c_6
    refine lv_aload_n hx hb dX9_judge_14 rfl (lv_at hl 1 rfl) ?_
    refine va_get (D := (dC, dI)) (ci := 9) (v := .ref dy) (C := RX9) (T := TX9) (N := 13) hx hb hts zl_X9 hown hK hP 0 rfl rfl 12 (by decide) (hts _ zw_t2_201) (fun _ h9 => h9) rfl dX9_judge_15 ?_
    refine va_get (D := (dC, dI)) (ci := 1) (v := .int n_dy_2) (C := RX1) (T := TX1) (N := 4) hx hb hts zl_X1 hown hK hP 10 rfl rfl 0 (by decide) (hts _ zw_t2_154) (fun _ h9 => h9) rfl dX9_judge_18 ?_
    exact W.iret (v := n_dy_2) hx hb hr (fun t ht hW => by rw [← hQe]; exact ⟨⟨n_dy_2, (), rfl, trivial, ⟨n_dy_2, n_dy_3, n_dy_4, n_dy_5, (by first | with_reducible assumption | omega), (by first | with_reducible assumption | omega), z_ret hP hK hD ht hW [0, 1, 2, 3, 4, 5, 6, 7, 8, 9, 10, 11, 12, 13, 14, 15, 16, 17, 18] [] rfl (by decide) rfl⟩⟩, hS.F ht⟩) hS.2.2 dX9_judge_21
  · have ic_6 := zz_nge rfl (show Int32.toInt 0 = 0 from by decide) c_6
    refine lv_iload_n hx hb dX9_judge_10 rfl (lv_at hl 0 rfl) ?_
    refine lv_goto (tgt := 21) hx hb dX9_judge_11 (by decide) ?_
    exact W.iret (v := r_1) hx hb hr (fun t ht hW => by rw [← hQe]; exact ⟨⟨r_1, (), rfl, trivial, ⟨n_dy_2, n_dy_3, n_dy_4, n_dy_5, (by first | with_reducible assumption | omega), (by first | with_reducible assumption | omega), z_ret hP hK hD ht hW [0, 1, 2, 3, 4, 5, 6, 7, 8, 9, 10, 11, 12, 13, 14, 15, 16, 17, 18] [] rfl (by decide) rfl⟩⟩, hS.F ht⟩) hS.2.2 dX9_judge_21
set_option maxHeartbeats 4000000 in
set_option maxRecDepth 100000 in
theorem k_X9_ends (l : Launch) (sa : Nat → Nat) (dC : Nat → ClassId) (dI : Nat → Nat → Nat) (h0 : Nat) (p1 : Int32) (p2 : Int32) (tp : Nat) (h0_tapeLength : Int32) (h0_faultKind : Int32) (h0_faultPlace : Int32) (nw : Nat) (im : Nat) (sl : Nat) (rd : Nat) (wk : Nat) (fm : Nat) (mt : Nat) (ch : Nat) (dy : Nat) (cA_sl : ClassId) (f_sl : Nat → Option Nat) (r0 : Nat) (r1 : Nat) (r2 : Nat) (r3 : Nat) (nw_isKept : Int32) (tn : Nat) (nw_strayed : Int32) (nw_names : Int32) (nw_known : Int32) (nw_gone : Int32) (tn_hours : Int32) (tn_courts : Int32) (tn_gateCount : Int32) (tn_people : Int32) (tn_lines : Int32) (tn_falseHours : Int32) (tn_strayers : Int32) (tn_deep : Int32) (tn_above : Nat) (tn_doors : Nat) (tn_degrees : Nat) (tn_neighbours : Nat) (tn_shows : Nat) (tn_oneEnd : Nat) (tn_otherEnd : Nat) (tn_told : Nat) (tn_strayParts : Nat) (tn_strayCourts : Nat) (cA_tn_above : ClassId) (f_tn_above : Nat → Int32) (cA_tn_shows : ClassId) (f_tn_shows : Nat → Int32) (cA_tn_oneEnd : ClassId) (f_tn_oneEnd : Nat → Int32) (cA_tn_otherEnd : ClassId) (f_tn_otherEnd : Nat → Int32) (cA_tn_told : ClassId) (f_tn_told : Nat → Int32) (cA_tn_strayCourts : ClassId) (f_tn_strayCourts : Nat → Int32) (dy_place : Int32) (dy_court : Int32) (dy_hour : Int32) (dy_refusals : Int32) (r0_width : Int32) (r0_size : Int32) (r0_numbers : Nat) (cA_r0_numbers : ClassId) (f_r0_numbers : Nat → Int64) (r1_width : Int32) (r1_size : Int32) (r1_numbers : Nat) (cA_r1_numbers : ClassId) (f_r1_numbers : Nat → Int64) (r2_width : Int32) (r2_size : Int32) (r2_numbers : Nat) (cA_r2_numbers : ClassId) (f_r2_numbers : Nat → Int64) (r3_width : Int32) (r3_size : Int32) (r3_numbers : Nat) (cA_r3_numbers : ClassId) (f_r3_numbers : Nat → Int64) (b_h0_tapeLength : 0 ≤ h0_tapeLength.toInt ∧ h0_tapeLength.toInt ≤ 1600) (hsl0 : f_sl 0 = some r0) (hsl1 : f_sl 1 = some r1) (hsl2 : f_sl 2 = some r2) (hsl3 : f_sl 3 = some r3) (b_nw_isKept : 0 ≤ nw_isKept.toInt ∧ nw_isKept.toInt ≤ 1) (b_nw_names : 0 ≤ nw_names.toInt ∧ nw_names.toInt ≤ 1023) (b_tn_hours : 0 ≤ tn_hours.toInt ∧ tn_hours.toInt ≤ 48) (b_tn_courts : 0 ≤ tn_courts.toInt ∧ tn_courts.toInt ≤ 10) (b_tn_gateCount : 0 ≤ tn_gateCount.toInt ∧ tn_gateCount.toInt ≤ 16) (b_tn_people : 0 ≤ tn_people.toInt ∧ tn_people.toInt ≤ 10) (b_tn_falseHours : 0 ≤ tn_falseHours.toInt ∧ tn_falseHours.toInt ≤ 9) (b_tn_deep : 0 ≤ tn_deep.toInt ∧ tn_deep.toInt ≤ 1) (b_f_tn_oneEnd : ∀ j : Nat, 0 ≤ (f_tn_oneEnd j).toInt ∧ (f_tn_oneEnd j).toInt ≤ 9) (b_f_tn_otherEnd : ∀ j : Nat, 0 ≤ (f_tn_otherEnd j).toInt ∧ (f_tn_otherEnd j).toInt ≤ 9) (b_f_tn_told : ∀ j : Nat, 0 ≤ (f_tn_told j).toInt ∧ (f_tn_told j).toInt ≤ 9) (b_f_tn_strayCourts : ∀ j : Nat, 0 ≤ (f_tn_strayCourts j).toInt ∧ (f_tn_strayCourts j).toInt ≤ 9) (b_dy_court : 0 ≤ dy_court.toInt ∧ dy_court.toInt ≤ 9) (b_dy_hour : 0 ≤ dy_hour.toInt ∧ dy_hour.toInt ≤ 48) (b_r0_size : 0 ≤ r0_size.toInt ∧ r0_size.toInt ≤ 60) (b_r1_size : 0 ≤ r1_size.toInt ∧ r1_size.toInt ≤ 60) (b_r2_size : 0 ≤ r2_size.toInt ∧ r2_size.toInt ≤ 60) (b_r3_size : 0 ≤ r3_size.toInt ∧ r3_size.toInt ≤ 60) (sz : Nat) : Met l yX9_ends (.code yX9_ends cX9_ends 4 (some .int) :: zT) ({ frames := 5, cells := 0, slots := 0, locals := 117 }) (va_Pc [.ref h0, .int p1, .int p2] (zB sa dC dI (zV83 h0 tp h0_tapeLength h0_faultKind h0_faultPlace nw im sl rd wk fm mt ch dy sl cA_sl f_sl nw nw_isKept tn nw_strayed nw_names nw_known nw_gone tn tn_hours tn_courts tn_gateCount tn_people tn_lines tn_falseHours tn_strayers tn_deep tn_above tn_doors tn_degrees tn_neighbours tn_shows tn_oneEnd tn_otherEnd tn_told tn_strayParts tn_strayCourts tn_above cA_tn_above f_tn_above tn_shows cA_tn_shows f_tn_shows tn_oneEnd cA_tn_oneEnd f_tn_oneEnd tn_otherEnd cA_tn_otherEnd f_tn_otherEnd tn_told cA_tn_told f_tn_told tn_strayCourts cA_tn_strayCourts f_tn_strayCourts dy dy_place dy_court dy_hour dy_refusals r0 r0_width r0_size r0_numbers r0_numbers cA_r0_numbers f_r0_numbers r1 r1_width r1_size r1_numbers r1_numbers cA_r1_numbers f_r1_numbers r2 r2_width r2_size r2_numbers r2_numbers cA_r2_numbers f_r2_numbers r3 r3_width r3_size r3_numbers r3_numbers cA_r3_numbers f_r3_numbers) [(cA_sl, .object RX6), (cA_tn_above, .int), (cA_tn_shows, .int), (cA_tn_oneEnd, .int), (cA_tn_otherEnd, .int), (cA_tn_told, .int), (cA_tn_strayCourts, .int), (cA_r0_numbers, .long), (cA_r1_numbers, .long), (cA_r2_numbers, .long), (cA_r3_numbers, .long)] sz)) (va_Qi (fun (r : Int32) (_ : Unit) => True) (fun _ t => ∃ (n_dy_0 : Int32) (n_dy_1 : Int32) (n_dy_2 : Int32) (n_dy_3 : Int32), (0 ≤ n_dy_1.toInt ∧ n_dy_1.toInt ≤ 9) ∧ (0 ≤ n_dy_2.toInt ∧ n_dy_2.toInt ≤ 48) ∧ zW dC dI (zV83 h0 tp h0_tapeLength h0_faultKind h0_faultPlace nw im sl rd wk fm mt ch dy sl cA_sl f_sl nw nw_isKept tn nw_strayed nw_names nw_known nw_gone tn tn_hours tn_courts tn_gateCount tn_people tn_lines tn_falseHours tn_strayers tn_deep tn_above tn_doors tn_degrees tn_neighbours tn_shows tn_oneEnd tn_otherEnd tn_told tn_strayParts tn_strayCourts tn_above cA_tn_above f_tn_above tn_shows cA_tn_shows f_tn_shows tn_oneEnd cA_tn_oneEnd f_tn_oneEnd tn_otherEnd cA_tn_otherEnd f_tn_otherEnd tn_told cA_tn_told f_tn_told tn_strayCourts cA_tn_strayCourts f_tn_strayCourts dy n_dy_0 n_dy_1 n_dy_2 n_dy_3 r0 r0_width r0_size r0_numbers r0_numbers cA_r0_numbers f_r0_numbers r1 r1_width r1_size r1_numbers r1_numbers cA_r1_numbers f_r1_numbers r2 r2_width r2_size r2_numbers r2_numbers cA_r2_numbers f_r2_numbers r3 r3_width r3_size r3_numbers r3_numbers cA_r3_numbers f_r3_numbers) [] (va_A (zV83 h0 tp h0_tapeLength h0_faultKind h0_faultPlace nw im sl rd wk fm mt ch dy sl cA_sl f_sl nw nw_isKept tn nw_strayed nw_names nw_known nw_gone tn tn_hours tn_courts tn_gateCount tn_people tn_lines tn_falseHours tn_strayers tn_deep tn_above tn_doors tn_degrees tn_neighbours tn_shows tn_oneEnd tn_otherEnd tn_told tn_strayParts tn_strayCourts tn_above cA_tn_above f_tn_above tn_shows cA_tn_shows f_tn_shows tn_oneEnd cA_tn_oneEnd f_tn_oneEnd tn_otherEnd cA_tn_otherEnd f_tn_otherEnd tn_told cA_tn_told f_tn_told tn_strayCourts cA_tn_strayCourts f_tn_strayCourts dy dy_place dy_court dy_hour dy_refusals r0 r0_width r0_size r0_numbers r0_numbers cA_r0_numbers f_r0_numbers r1 r1_width r1_size r1_numbers r1_numbers cA_r1_numbers f_r1_numbers r2 r2_width r2_size r2_numbers r2_numbers cA_r2_numbers f_r2_numbers r3 r3_width r3_size r3_numbers r3_numbers cA_r3_numbers f_r3_numbers) sz) t) (va_A (zV83 h0 tp h0_tapeLength h0_faultKind h0_faultPlace nw im sl rd wk fm mt ch dy sl cA_sl f_sl nw nw_isKept tn nw_strayed nw_names nw_known nw_gone tn tn_hours tn_courts tn_gateCount tn_people tn_lines tn_falseHours tn_strayers tn_deep tn_above tn_doors tn_degrees tn_neighbours tn_shows tn_oneEnd tn_otherEnd tn_told tn_strayParts tn_strayCourts tn_above cA_tn_above f_tn_above tn_shows cA_tn_shows f_tn_shows tn_oneEnd cA_tn_oneEnd f_tn_oneEnd tn_otherEnd cA_tn_otherEnd f_tn_otherEnd tn_told cA_tn_told f_tn_told tn_strayCourts cA_tn_strayCourts f_tn_strayCourts dy dy_place dy_court dy_hour dy_refusals r0 r0_width r0_size r0_numbers r0_numbers cA_r0_numbers f_r0_numbers r1 r1_width r1_size r1_numbers r1_numbers cA_r1_numbers f_r1_numbers r2 r2_width r2_size r2_numbers r2_numbers cA_r2_numbers f_r2_numbers r3 r3_width r3_size r3_numbers r3_numbers cA_r3_numbers f_r3_numbers) sz)) 0 0 (va_A (zV83 h0 tp h0_tapeLength h0_faultKind h0_faultPlace nw im sl rd wk fm mt ch dy sl cA_sl f_sl nw nw_isKept tn nw_strayed nw_names nw_known nw_gone tn tn_hours tn_courts tn_gateCount tn_people tn_lines tn_falseHours tn_strayers tn_deep tn_above tn_doors tn_degrees tn_neighbours tn_shows tn_oneEnd tn_otherEnd tn_told tn_strayParts tn_strayCourts tn_above cA_tn_above f_tn_above tn_shows cA_tn_shows f_tn_shows tn_oneEnd cA_tn_oneEnd f_tn_oneEnd tn_otherEnd cA_tn_otherEnd f_tn_otherEnd tn_told cA_tn_told f_tn_told tn_strayCourts cA_tn_strayCourts f_tn_strayCourts dy dy_place dy_court dy_hour dy_refusals r0 r0_width r0_size r0_numbers r0_numbers cA_r0_numbers f_r0_numbers r1 r1_width r1_size r1_numbers r1_numbers cA_r1_numbers f_r1_numbers r2 r2_width r2_size r2_numbers r2_numbers cA_r2_numbers f_r2_numbers r3 r3_width r3_size r3_numbers r3_numbers cA_r3_numbers f_r3_numbers) sz) := by
  refine z_enter (by decide) (by exact (Nat.le_of_ble_eq_true rfl)) ?_
  intro p e s m args below meth c ls A R Qc hargs hsz hQe hAe hRe hx hb hml hr hts hown hlocks hin hl hP hK hD hN hXs hA hS
  rw [hAe] at hQe
  have hown : s.vm.findClass RX9 = some m.cls := hown
  have hl : lv_has ls 4 [(0, .ref h0), (1, .int p1), (2, .int p2)] := hl
  refine lv_iload_n hx hb dX9_ends_0 rfl (lv_at hl 2 rfl) ?_
  have nb_p2 := zi_nb p2
  refine lv_if_lt (tgt := 9) hx hb dX9_ends_1 (by decide) (fun c_1 => ?_) (fun c_1 => ?_)
  · have ic_1 := zz_lt rfl (show Int32.toInt 0 = 0 from by decide) c_1
    refine lv_bipush (v := (-2)) hx hb dX9_ends_9 (by decide) ?_
    exact W.iret (v := (-2)) hx hb hr (fun t ht hW => by rw [← hQe]; exact ⟨⟨(-2), (), rfl, trivial, ⟨dy_place, dy_court, dy_hour, dy_refusals, (by first | with_reducible assumption | omega), (by first | with_reducible assumption | omega), z_ret hP hK hD ht hW [0, 1, 2, 3, 4, 5, 6, 7, 8, 9, 10, 11, 12, 13, 14, 15, 16, 17, 18] [] rfl (by decide) rfl⟩⟩, hS.F ht⟩) hS.2.2 dX9_ends_11
  · have ic_1 := zz_nlt rfl (show Int32.toInt 0 = 0 from by decide) c_1
    refine lv_iload_n hx hb dX9_ends_4 rfl (lv_at hl 2 rfl) ?_
    refine lv_iconst (v := 2) hx hb dX9_ends_5 (by decide) ?_
    refine lv_icmp_le (tgt := 12) hx hb dX9_ends_6 (by decide) (fun c_2 => ?_) (fun c_2 => ?_)
    · have ic_2 := zz_le rfl (show Int32.toInt 2 = 2 from by decide) c_2
      refine lv_aload_n hx hb dX9_ends_12 rfl (lv_at hl 0 rfl) ?_
      refine lv_iload_n hx hb dX9_ends_13 rfl (lv_at hl 1 rfl) ?_
      obtain ⟨hPc, hDc, hFc⟩ := z_cut (wc := (zV83 h0 tp h0_tapeLength h0_faultKind h0_faultPlace nw im sl rd wk fm mt ch dy sl cA_sl f_sl nw nw_isKept tn nw_strayed nw_names nw_known nw_gone tn tn_hours tn_courts tn_gateCount tn_people tn_lines tn_falseHours tn_strayers tn_deep tn_above tn_doors tn_degrees tn_neighbours tn_shows tn_oneEnd tn_otherEnd tn_told tn_strayParts tn_strayCourts tn_above cA_tn_above f_tn_above tn_shows cA_tn_shows f_tn_shows tn_oneEnd cA_tn_oneEnd f_tn_oneEnd tn_otherEnd cA_tn_otherEnd f_tn_otherEnd tn_told cA_tn_told f_tn_told tn_strayCourts cA_tn_strayCourts f_tn_strayCourts dy dy_place dy_court dy_hour dy_refusals r0 r0_width r0_size r0_numbers r0_numbers cA_r0_numbers f_r0_numbers r1 r1_width r1_size r1_numbers r1_numbers cA_r1_numbers f_r1_numbers r2 r2_width r2_size r2_numbers r2_numbers cA_r2_numbers f_r2_numbers r3 r3_width r3_size r3_numbers r3_numbers cA_r3_numbers f_r3_numbers)) hP hD hS hA [0, 1, 2, 3, 4, 5, 6, 7, 8, 9, 10, 11, 12, 13, 14, 15, 16, 17, 18] rfl (by decide +kernel)
      have hKc := hK.sub (tys' := [(cA_sl, .object RX6), (cA_tn_above, .int), (cA_tn_shows, .int), (cA_tn_oneEnd, .int), (cA_tn_otherEnd, .int), (cA_tn_told, .int), (cA_tn_strayCourts, .int), (cA_r0_numbers, .long), (cA_r1_numbers, .long), (cA_r2_numbers, .long), (cA_r3_numbers, .long)]) [0, 1, 2, 3, 4, 5, 6, 7, 8, 9, 10] rfl
      refine va_calli (va_runV (As := [.int p1]) (rest := []) ⟨hx, hb, hml, hown, hts⟩ (k_X9_liveBy l sa dC dI h0 p1 tp h0_tapeLength h0_faultKind h0_faultPlace nw im sl rd wk fm mt ch dy cA_sl f_sl r0 r1 r2 r3 nw_isKept tn nw_strayed nw_names nw_known nw_gone tn_hours tn_courts tn_gateCount tn_people tn_lines tn_falseHours tn_strayers tn_deep tn_above tn_doors tn_degrees tn_neighbours tn_shows tn_oneEnd tn_otherEnd tn_told tn_strayParts tn_strayCourts cA_tn_above f_tn_above cA_tn_shows f_tn_shows cA_tn_oneEnd f_tn_oneEnd cA_tn_otherEnd f_tn_otherEnd cA_tn_told f_tn_told cA_tn_strayCourts f_tn_strayCourts dy_place dy_court dy_hour dy_refusals r0_width r0_size r0_numbers cA_r0_numbers f_r0_numbers r1_width r1_size r1_numbers cA_r1_numbers f_r1_numbers r2_width r2_size r2_numbers cA_r2_numbers f_r2_numbers r3_width r3_size r3_numbers cA_r3_numbers f_r3_numbers b_h0_tapeLength hsl0 hsl1 hsl2 hsl3 b_nw_isKept b_nw_names b_tn_hours b_tn_courts b_tn_gateCount b_tn_people b_tn_falseHours b_tn_deep b_f_tn_oneEnd b_f_tn_otherEnd b_f_tn_told b_f_tn_strayCourts b_dy_court b_dy_hour b_r0_size b_r1_size b_r2_size b_r3_size s.heap.size) (cwV 1 hts (z_gV zw_t5_215 zw_t5_217 zw_s4_0 zw_t1_1 zw_t5_218) rfl rfl rfl (by decide +kernel) (by rw [← hRe]; exact ⟨(Nat.le_of_ble_eq_true rfl), (Nat.le_of_ble_eq_true rfl)⟩)) (z_preV hPc hKc hDc hN hXs hS hFc (q := (RX9, TX9, 13)) (ci := 9) (q0 := 0) rfl rfl) rfl rfl hl.1 rfl (lv_room (Nat.le_of_ble_eq_true rfl)) dX9_ends_14 (by rw [← hRe]; exact ⟨(Nat.le_of_ble_eq_true rfl), (Nat.le_of_ble_eq_true rfl)⟩)) hS (fun q _ h => hFc q h) hFc (fun r_3 u t H1 locs ht hvm hw hB hz1 hk1 hS => ?_)
      refine hB.elim fun n_dy_4 ze1 => ze1.elim fun n_dy_5 ze2 => ze2.elim fun n_dy_6 ze3 => ze3.elim fun n_dy_7 ze4 => ze4.elim fun b_n_dy_5 ze5 => ze5.elim fun b_n_dy_6 ze6 => ?_
      clear hB ze1 ze2 ze3 ze4 ze5
      have hB := ze6
      clear ze6
      obtain ⟨hP, hD, hK⟩ := z_after3 (wn := (zV83 h0 tp h0_tapeLength h0_faultKind h0_faultPlace nw im sl rd wk fm mt ch dy sl cA_sl f_sl nw nw_isKept tn nw_strayed nw_names nw_known nw_gone tn tn_hours tn_courts tn_gateCount tn_people tn_lines tn_falseHours tn_strayers tn_deep tn_above tn_doors tn_degrees tn_neighbours tn_shows tn_oneEnd tn_otherEnd tn_told tn_strayParts tn_strayCourts tn_above cA_tn_above f_tn_above tn_shows cA_tn_shows f_tn_shows tn_oneEnd cA_tn_oneEnd f_tn_oneEnd tn_otherEnd cA_tn_otherEnd f_tn_otherEnd tn_told cA_tn_told f_tn_told tn_strayCourts cA_tn_strayCourts f_tn_strayCourts dy n_dy_4 n_dy_5 n_dy_6 n_dy_7 r0 r0_width r0_size r0_numbers r0_numbers cA_r0_numbers f_r0_numbers r1 r1_width r1_size r1_numbers r1_numbers cA_r1_numbers f_r1_numbers r2 r2_width r2_size r2_numbers r2_numbers cA_r2_numbers f_r2_numbers r3 r3_width r3_size r3_numbers r3_numbers cA_r3_numbers f_r3_numbers)) hB ht hvm hP hD hK [0, 1, 2, 3, 4, 5, 6, 7, 8, 9, 10, 11, 12, 13, 14, 15, 16, 17, 18] [] rfl 19 rfl (by decide +kernel) rfl (by decide +kernel) hk1 hFc
      generalize H1 = H at hP hS ⊢
      have hK : va_K (dC, dI) vwCl [(cA_sl, .object RX6), (cA_tn_above, .int), (cA_tn_shows, .int), (cA_tn_oneEnd, .int), (cA_tn_otherEnd, .int), (cA_tn_told, .int), (cA_tn_strayCourts, .int), (cA_r0_numbers, .long), (cA_r1_numbers, .long), (cA_r2_numbers, .long), (cA_r3_numbers, .long)] s := hK
      have b_r_3 : (-6) ≤ r_3.toInt ∧ r_3.toInt ≤ 0 := hw
      refine lv_istore_n (lv' := [(3, .int r_3), (0, .ref h0), (1, .int p1), (2, .int p2)]) hx hb dX9_ends_17 rfl hl (by decide) rfl (fun ls hl => ?_)
      refine lv_iload_n hx hb dX9_ends_18 rfl (lv_at hl 0 rfl) ?_
      refine lv_if_ge (tgt := 24) hx hb dX9_ends_19 (by decide) (fun c_8 => ?_) (fun c_8 => ?_)
      · have ic_8 := zz_ge rfl (show Int32.toInt 0 = 0 from by decide) c_8
        refine lv_iload_n hx hb dX9_ends_24 rfl (lv_at hl 3 rfl) ?_
        refine lv_if_ne (tgt := 36) hx hb dX9_ends_25 (by decide) (fun c_9 => ?_) (fun c_9 => ?_)
        · have ic_9 := zz_ne rfl (show Int32.toInt 0 = 0 from by decide) c_9
          refine lv_iload_n hx hb dX9_ends_36 rfl (lv_at hl 3 rfl) ?_
          refine lv_iconst (v := 1) hx hb dX9_ends_37 (by decide) ?_
          refine lv_icmp_ne (tgt := 51) hx hb dX9_ends_38 (by decide) (fun c_10 => ?_) (fun c_10 => ?_)
          · have ic_10 := zz_ne rfl (show Int32.toInt 1 = 1 from by decide) c_10
            refine lv_aload_n hx hb dX9_ends_51 rfl (lv_at hl 1 rfl) ?_
            refine va_get (D := (dC, dI)) (ci := 9) (v := .ref dy) (C := RX9) (T := TX9) (N := 13) hx hb hts zl_X9 hown hK hP 0 rfl rfl 12 (by decide) (hts _ zw_t2_201) (fun _ h9 => h9) rfl dX9_ends_52 ?_
            refine va_get (D := (dC, dI)) (ci := 1) (v := .int n_dy_7) (C := RX1) (T := TX1) (N := 4) hx hb hts zl_X1 hown hK hP 10 rfl rfl 3 (by decide) (hts _ zw_t2_160) (fun _ h9 => h9) rfl dX9_ends_55 ?_
            exact W.iret (v := n_dy_7) hx hb hr (fun t ht hW => by rw [← hQe]; exact ⟨⟨n_dy_7, (), rfl, trivial, ⟨n_dy_4, n_dy_5, n_dy_6, n_dy_7, (by first | with_reducible assumption | omega), (by first | with_reducible assumption | omega), z_ret hP hK hD ht hW [0, 1, 2, 3, 4, 5, 6, 7, 8, 9, 10, 11, 12, 13, 14, 15, 16, 17, 18] [] rfl (by decide) rfl⟩⟩, hS.F ht⟩) hS.2.2 dX9_ends_58
          · have ic_10 := zz_nne rfl (show Int32.toInt 1 = 1 from by decide) c_10
            refine lv_aload_n hx hb dX9_ends_41 rfl (lv_at hl 1 rfl) ?_
            refine va_get (D := (dC, dI)) (ci := 9) (v := .ref dy) (C := RX9) (T := TX9) (N := 13) hx hb hts zl_X9 hown hK hP 0 rfl rfl 12 (by decide) (hts _ zw_t2_201) (fun _ h9 => h9) rfl dX9_ends_42 ?_
            refine va_get (D := (dC, dI)) (ci := 1) (v := .int n_dy_6) (C := RX1) (T := TX1) (N := 4) hx hb hts zl_X1 hown hK hP 10 rfl rfl 2 (by decide) (hts _ zw_t2_158) (fun _ h9 => h9) rfl dX9_ends_45 ?_
            refine lv_goto (tgt := 58) hx hb dX9_ends_48 (by decide) ?_
            exact W.iret (v := n_dy_6) hx hb hr (fun t ht hW => by rw [← hQe]; exact ⟨⟨n_dy_6, (), rfl, trivial, ⟨n_dy_4, n_dy_5, n_dy_6, n_dy_7, (by first | with_reducible assumption | omega), (by first | with_reducible assumption | omega), z_ret hP hK hD ht hW [0, 1, 2, 3, 4, 5, 6, 7, 8, 9, 10, 11, 12, 13, 14, 15, 16, 17, 18] [] rfl (by decide) rfl⟩⟩, hS.F ht⟩) hS.2.2 dX9_ends_58
        · have ic_9 := zz_nne rfl (show Int32.toInt 0 = 0 from by decide) c_9
          refine lv_aload_n hx hb dX9_ends_28 rfl (lv_at hl 1 rfl) ?_
          refine va_get (D := (dC, dI)) (ci := 9) (v := .ref dy) (C := RX9) (T := TX9) (N := 13) hx hb hts zl_X9 hown hK hP 0 rfl rfl 12 (by decide) (hts _ zw_t2_201) (fun _ h9 => h9) rfl dX9_ends_29 ?_
          refine va_get (D := (dC, dI)) (ci := 1) (v := .int n_dy_5) (C := RX1) (T := TX1) (N := 4) hx hb hts zl_X1 hown hK hP 10 rfl rfl 1 (by decide) (hts _ zw_t2_156) (fun _ h9 => h9) rfl dX9_ends_32 ?_
          exact W.iret (v := n_dy_5) hx hb hr (fun t ht hW => by rw [← hQe]; exact ⟨⟨n_dy_5, (), rfl, trivial, ⟨n_dy_4, n_dy_5, n_dy_6, n_dy_7, (by first | with_reducible assumption | omega), (by first | with_reducible assumption | omega), z_ret hP hK hD ht hW [0, 1, 2, 3, 4, 5, 6, 7, 8, 9, 10, 11, 12, 13, 14, 15, 16, 17, 18] [] rfl (by decide) rfl⟩⟩, hS.F ht⟩) hS.2.2 dX9_ends_35
      · have ic_8 := zz_nge rfl (show Int32.toInt 0 = 0 from by decide) c_8
        refine lv_iload_n hx hb dX9_ends_22 rfl (lv_at hl 0 rfl) ?_
        exact W.iret (v := r_3) hx hb hr (fun t ht hW => by rw [← hQe]; exact ⟨⟨r_3, (), rfl, trivial, ⟨n_dy_4, n_dy_5, n_dy_6, n_dy_7, (by first | with_reducible assumption | omega), (by first | with_reducible assumption | omega), z_ret hP hK hD ht hW [0, 1, 2, 3, 4, 5, 6, 7, 8, 9, 10, 11, 12, 13, 14, 15, 16, 17, 18] [] rfl (by decide) rfl⟩⟩, hS.F ht⟩) hS.2.2 dX9_ends_23
    · have ic_2 := zz_nle rfl (show Int32.toInt 2 = 2 from by decide) c_2
      refine lv_bipush (v := (-2)) hx hb dX9_ends_9 (by decide) ?_
      exact W.iret (v := (-2)) hx hb hr (fun t ht hW => by rw [← hQe]; exact ⟨⟨(-2), (), rfl, trivial, ⟨dy_place, dy_court, dy_hour, dy_refusals, (by first | with_reducible assumption | omega), (by first | with_reducible assumption | omega), z_ret hP hK hD ht hW [0, 1, 2, 3, 4, 5, 6, 7, 8, 9, 10, 11, 12, 13, 14, 15, 16, 17, 18] [] rfl (by decide) rfl⟩⟩, hS.F ht⟩) hS.2.2 dX9_ends_11
set_option maxHeartbeats 4000000 in
set_option maxRecDepth 100000 in
theorem k_X9_draw (l : Launch) (sa : Nat → Nat) (dC : Nat → ClassId) (dI : Nat → Nat → Nat) (h0 : Nat) (p1 : Int32) (tp : Nat) (h0_tapeLength : Int32) (h0_faultKind : Int32) (h0_faultPlace : Int32) (nw : Nat) (im : Nat) (sl : Nat) (rd : Nat) (wk : Nat) (fm : Nat) (mt : Nat) (ch : Nat) (dy : Nat) (nw_isKept : Int32) (tn : Nat) (nw_strayed : Int32) (nw_names : Int32) (nw_known : Int32) (nw_gone : Int32) (tn_hours : Int32) (tn_courts : Int32) (tn_gateCount : Int32) (tn_people : Int32) (tn_lines : Int32) (tn_falseHours : Int32) (tn_strayers : Int32) (tn_deep : Int32) (tn_above : Nat) (tn_doors : Nat) (tn_degrees : Nat) (tn_neighbours : Nat) (tn_shows : Nat) (tn_oneEnd : Nat) (tn_otherEnd : Nat) (tn_told : Nat) (tn_strayParts : Nat) (tn_strayCourts : Nat) (cA_tn_strayParts : ClassId) (f_tn_strayParts : Nat → Int32) (b_h0_tapeLength : 0 ≤ h0_tapeLength.toInt ∧ h0_tapeLength.toInt ≤ 1600) (b_nw_isKept : 0 ≤ nw_isKept.toInt ∧ nw_isKept.toInt ≤ 1) (b_nw_names : 0 ≤ nw_names.toInt ∧ nw_names.toInt ≤ 1023) (b_tn_hours : 0 ≤ tn_hours.toInt ∧ tn_hours.toInt ≤ 48) (b_tn_courts : 0 ≤ tn_courts.toInt ∧ tn_courts.toInt ≤ 10) (b_tn_gateCount : 0 ≤ tn_gateCount.toInt ∧ tn_gateCount.toInt ≤ 16) (b_tn_people : 0 ≤ tn_people.toInt ∧ tn_people.toInt ≤ 10) (b_tn_falseHours : 0 ≤ tn_falseHours.toInt ∧ tn_falseHours.toInt ≤ 9) (b_tn_deep : 0 ≤ tn_deep.toInt ∧ tn_deep.toInt ≤ 1) (b_f_tn_strayParts : ∀ j : Nat, 0 ≤ (f_tn_strayParts j).toInt ∧ (f_tn_strayParts j).toInt ≤ 99) (sz : Nat) : Met l yX9_draw (.code yX9_draw cX9_draw 2 (some .int) :: zT) ({ frames := 2, cells := 0, slots := 0, locals := 47 }) (va_Pc [.ref h0, .int p1] (zB sa dC dI (zV65 h0 tp h0_tapeLength h0_faultKind h0_faultPlace nw im sl rd wk fm mt ch dy nw nw_isKept tn nw_strayed nw_names nw_known nw_gone tn tn_hours tn_courts tn_gateCount tn_people tn_lines tn_falseHours tn_strayers tn_deep tn_above tn_doors tn_degrees tn_neighbours tn_shows tn_oneEnd tn_otherEnd tn_told tn_strayParts tn_strayCourts tn_strayParts cA_tn_strayParts f_tn_strayParts) [(cA_tn_strayParts, .int)] sz)) (va_Qi (fun (r : Int32) (_ : Unit) => True) (fun _ t => zW dC dI (zV65 h0 tp h0_tapeLength h0_faultKind h0_faultPlace nw im sl rd wk fm mt ch dy nw nw_isKept tn nw_strayed nw_names nw_known nw_gone tn tn_hours tn_courts tn_gateCount tn_people tn_lines tn_falseHours tn_strayers tn_deep tn_above tn_doors tn_degrees tn_neighbours tn_shows tn_oneEnd tn_otherEnd tn_told tn_strayParts tn_strayCourts tn_strayParts cA_tn_strayParts f_tn_strayParts) [] (va_A (zV65 h0 tp h0_tapeLength h0_faultKind h0_faultPlace nw im sl rd wk fm mt ch dy nw nw_isKept tn nw_strayed nw_names nw_known nw_gone tn tn_hours tn_courts tn_gateCount tn_people tn_lines tn_falseHours tn_strayers tn_deep tn_above tn_doors tn_degrees tn_neighbours tn_shows tn_oneEnd tn_otherEnd tn_told tn_strayParts tn_strayCourts tn_strayParts cA_tn_strayParts f_tn_strayParts) sz) t) (va_A (zV65 h0 tp h0_tapeLength h0_faultKind h0_faultPlace nw im sl rd wk fm mt ch dy nw nw_isKept tn nw_strayed nw_names nw_known nw_gone tn tn_hours tn_courts tn_gateCount tn_people tn_lines tn_falseHours tn_strayers tn_deep tn_above tn_doors tn_degrees tn_neighbours tn_shows tn_oneEnd tn_otherEnd tn_told tn_strayParts tn_strayCourts tn_strayParts cA_tn_strayParts f_tn_strayParts) sz)) 0 0 (va_A (zV65 h0 tp h0_tapeLength h0_faultKind h0_faultPlace nw im sl rd wk fm mt ch dy nw nw_isKept tn nw_strayed nw_names nw_known nw_gone tn tn_hours tn_courts tn_gateCount tn_people tn_lines tn_falseHours tn_strayers tn_deep tn_above tn_doors tn_degrees tn_neighbours tn_shows tn_oneEnd tn_otherEnd tn_told tn_strayParts tn_strayCourts tn_strayParts cA_tn_strayParts f_tn_strayParts) sz) := by
  refine z_enter (by decide) (by exact (Nat.le_of_ble_eq_true rfl)) ?_
  intro p e s m args below meth c ls A R Qc hargs hsz hQe hAe hRe hx hb hml hr hts hown hlocks hin hl hP hK hD hN hXs hA hS
  rw [hAe] at hQe
  have hown : s.vm.findClass RX9 = some m.cls := hown
  have hl : lv_has ls 2 [(0, .ref h0), (1, .int p1)] := hl
  refine lv_iload_n hx hb dX9_draw_0 rfl (lv_at hl 1 rfl) ?_
  have nb_p1 := zi_nb p1
  refine lv_if_lt (tgt := 24) hx hb dX9_draw_1 (by decide) (fun c_1 => ?_) (fun c_1 => ?_)
  · have ic_1 := zz_lt rfl (show Int32.toInt 0 = 0 from by decide) c_1
    refine lv_bipush (v := (-2)) hx hb dX9_draw_24 (by decide) ?_
    exact W.iret (v := (-2)) hx hb hr (fun t ht hW => by rw [← hQe]; exact ⟨⟨(-2), (), rfl, trivial, z_ret hP hK hD ht hW [0, 1, 2, 3] [] rfl (by decide) rfl⟩, hS.F ht⟩) hS.2.2 dX9_draw_26
  · have ic_1 := zz_nlt rfl (show Int32.toInt 0 = 0 from by decide) c_1
    refine lv_iload_n hx hb dX9_draw_4 rfl (lv_at hl 1 rfl) ?_
    refine lv_ldcw (v := 2000000000) hx hb hown (hts _ zw_t6_14) dX9_draw_5 ?_
    refine lv_icmp_gt (tgt := 24) hx hb dX9_draw_8 (by decide) (fun c_2 => ?_) (fun c_2 => ?_)
    · have ic_2 := zz_gt rfl (show Int32.toInt 2000000000 = 2000000000 from by decide) c_2
      refine lv_bipush (v := (-2)) hx hb dX9_draw_24 (by decide) ?_
      exact W.iret (v := (-2)) hx hb hr (fun t ht hW => by rw [← hQe]; exact ⟨⟨(-2), (), rfl, trivial, z_ret hP hK hD ht hW [0, 1, 2, 3] [] rfl (by decide) rfl⟩, hS.F ht⟩) hS.2.2 dX9_draw_26
    · have ic_2 := zz_ngt rfl (show Int32.toInt 2000000000 = 2000000000 from by decide) c_2
      refine lv_aload_n hx hb dX9_draw_11 rfl (lv_at hl 0 rfl) ?_
      refine va_get (D := (dC, dI)) (ci := 9) (v := .ref nw) (C := RX9) (T := TX9) (N := 13) hx hb hts zl_X9 hown hK hP 0 rfl rfl 4 (by decide) (hts _ zw_t2_193) (fun _ h9 => h9) rfl dX9_draw_12 ?_
      refine va_get (D := (dC, dI)) (ci := 3) (v := .ref tn) (C := RX3) (T := TX3) (N := 6) hx hb hts zl_X3 hown hK hP 1 rfl rfl 1 (by decide) (hts _ zw_t1_156) (fun _ h9 => h9) rfl dX9_draw_15 ?_
      refine va_get (D := (dC, dI)) (ci := 7) (v := .int tn_hours) (C := RX7) (T := TX7) (N := 18) hx hb hts zl_X7 hown hK hP 2 rfl rfl 0 (by decide) (hts _ zw_t1_46) (fun _ h9 => h9) rfl dX9_draw_18 ?_
      refine lv_if_ne (tgt := 27) hx hb dX9_draw_21 (by decide) (fun c_3 => ?_) (fun c_3 => ?_)
      · have ic_3 := zz_ne rfl (show Int32.toInt 0 = 0 from by decide) c_3
        refine lv_aload_n hx hb dX9_draw_27 rfl (lv_at hl 0 rfl) ?_
        refine va_get (D := (dC, dI)) (ci := 9) (v := .ref nw) (C := RX9) (T := TX9) (N := 13) hx hb hts zl_X9 hown hK hP 0 rfl rfl 4 (by decide) (hts _ zw_t2_193) (fun _ h9 => h9) rfl dX9_draw_28 ?_
        refine va_get (D := (dC, dI)) (ci := 3) (v := .ref tn) (C := RX3) (T := TX3) (N := 6) hx hb hts zl_X3 hown hK hP 1 rfl rfl 1 (by decide) (hts _ zw_t1_156) (fun _ h9 => h9) rfl dX9_draw_31 ?_
        refine lv_iload_n hx hb dX9_draw_34 rfl (lv_at hl 1 rfl) ?_
        refine lv_i2l (v := _) hx hb dX9_draw_35 rfl ?_
        refine lv_topl (fun x_4 ex_4 => ?_)
        have b_x_4 : x_4.toInt = p1.toInt := by rw [ex_4]; exact z_l64 _
        obtain ⟨hPc, hDc, hFc⟩ := z_cut (wc := (zV5 tn tn_hours tn_courts tn_gateCount tn_people tn_lines tn_falseHours tn_strayers tn_deep tn_above tn_doors tn_degrees tn_neighbours tn_shows tn_oneEnd tn_otherEnd tn_told tn_strayParts tn_strayCourts tn_strayParts cA_tn_strayParts f_tn_strayParts)) hP hD hS hA [2, 3] rfl (by decide +kernel)
        have hKc := hK.sub (tys' := [(cA_tn_strayParts, .int)]) [0] rfl
        refine va_calli (va_runV (As := [.long x_4]) (rest := []) ⟨hx, hb, hml, hown, hts⟩ (k_X7_drawn l sa dC dI tn x_4 tn_hours tn_courts tn_gateCount tn_people tn_lines tn_falseHours tn_strayers tn_deep tn_above tn_doors tn_degrees tn_neighbours tn_shows tn_oneEnd tn_otherEnd tn_told tn_strayParts tn_strayCourts cA_tn_strayParts f_tn_strayParts b_tn_hours b_tn_courts b_tn_gateCount b_tn_people b_tn_falseHours b_tn_deep b_f_tn_strayParts s.heap.size) (cwV 1 hts (z_gV zw_t6_15 zw_t6_16 zw_t6_17 zw_t1_3 zw_t6_18) rfl rfl rfl (by decide +kernel) (by rw [← hRe]; exact ⟨(Nat.le_of_ble_eq_true rfl), (Nat.le_of_ble_eq_true rfl)⟩)) (z_preV hPc hKc hDc hN hXs hS hFc (q := (RX7, TX7, 18)) (ci := 7) (q0 := 0) rfl rfl) rfl rfl hl.1 rfl (lv_room (Nat.le_of_ble_eq_true rfl)) dX9_draw_36 (by rw [← hRe]; exact ⟨(Nat.le_of_ble_eq_true rfl), (Nat.le_of_ble_eq_true rfl)⟩)) hS (fun q _ h => hFc q h) hFc (fun r_5 u t H1 locs ht hvm hw hB hz1 hk1 hS => ?_)
        obtain ⟨hP, hD, hK⟩ := z_after3 (wn := (zV65 h0 tp h0_tapeLength h0_faultKind h0_faultPlace nw im sl rd wk fm mt ch dy nw nw_isKept tn nw_strayed nw_names nw_known nw_gone tn tn_hours tn_courts tn_gateCount tn_people tn_lines tn_falseHours tn_strayers tn_deep tn_above tn_doors tn_degrees tn_neighbours tn_shows tn_oneEnd tn_otherEnd tn_told tn_strayParts tn_strayCourts tn_strayParts cA_tn_strayParts f_tn_strayParts)) hB ht hvm hP hD hK [2, 3] [0, 1] rfl 4 rfl (by decide +kernel) rfl (by decide +kernel) hk1 hFc
        generalize H1 = H at hP hS ⊢
        have hK : va_K (dC, dI) vwCl [(cA_tn_strayParts, .int)] s := hK
        exact W.iret (v := r_5) hx hb hr (fun t ht hW => by rw [← hQe]; exact ⟨⟨r_5, (), rfl, trivial, z_ret hP hK hD ht hW [0, 1, 2, 3] [] rfl (by decide) rfl⟩, hS.F ht⟩) hS.2.2 dX9_draw_39
      · have ic_3 := zz_nne rfl (show Int32.toInt 0 = 0 from by decide) c_3
        refine lv_bipush (v := (-2)) hx hb dX9_draw_24 (by decide) ?_
        exact W.iret (v := (-2)) hx hb hr (fun t ht hW => by rw [← hQe]; exact ⟨⟨(-2), (), rfl, trivial, z_ret hP hK hD ht hW [0, 1, 2, 3] [] rfl (by decide) rfl⟩, hS.F ht⟩) hS.2.2 dX9_draw_26
set_option maxHeartbeats 4000000 in
set_option maxRecDepth 100000 in
theorem k_X9_rowsThere (l : Launch) (sa : Nat → Nat) (dC : Nat → ClassId) (dI : Nat → Nat → Nat) (h0 : Nat) (tp : Nat) (h0_tapeLength : Int32) (h0_faultKind : Int32) (h0_faultPlace : Int32) (nw : Nat) (im : Nat) (sl : Nat) (rd : Nat) (wk : Nat) (fm : Nat) (mt : Nat) (ch : Nat) (dy : Nat) (cA_sl : ClassId) (f_sl : Nat → Option Nat) (r0 : Nat) (r1 : Nat) (r2 : Nat) (r3 : Nat) (r0_width : Int32) (r0_size : Int32) (r0_numbers : Nat) (r1_width : Int32) (r1_size : Int32) (r1_numbers : Nat) (r2_width : Int32) (r2_size : Int32) (r2_numbers : Nat) (r3_width : Int32) (r3_size : Int32) (r3_numbers : Nat) (b_h0_tapeLength : 0 ≤ h0_tapeLength.toInt ∧ h0_tapeLength.toInt ≤ 1600) (hsl0 : f_sl 0 = some r0) (hsl1 : f_sl 1 = some r1) (hsl2 : f_sl 2 = some r2) (hsl3 : f_sl 3 = some r3) (b_r0_size : 0 ≤ r0_size.toInt ∧ r0_size.toInt ≤ 60) (b_r1_size : 0 ≤ r1_size.toInt ∧ r1_size.toInt ≤ 60) (b_r2_size : 0 ≤ r2_size.toInt ∧ r2_size.toInt ≤ 60) (b_r3_size : 0 ≤ r3_size.toInt ∧ r3_size.toInt ≤ 60) (sz : Nat) : Met l yX9_rowsThere (.code yX9_rowsThere cX9_rowsThere 3 (some .int) :: zT) ({ frames := 1, cells := 0, slots := 0, locals := 20 }) (va_Pc [.ref h0] (zB sa dC dI (zV85 h0 tp h0_tapeLength h0_faultKind h0_faultPlace nw im sl rd wk fm mt ch dy sl cA_sl f_sl r0 r0_width r0_size r0_numbers r1 r1_width r1_size r1_numbers r2 r2_width r2_size r2_numbers r3 r3_width r3_size r3_numbers) [(cA_sl, .object RX6)] sz)) (va_Qi (fun (r : Int32) (_ : Unit) => True) (fun _ t => zW dC dI (zV85 h0 tp h0_tapeLength h0_faultKind h0_faultPlace nw im sl rd wk fm mt ch dy sl cA_sl f_sl r0 r0_width r0_size r0_numbers r1 r1_width r1_size r1_numbers r2 r2_width r2_size r2_numbers r3 r3_width r3_size r3_numbers) [] (va_A (zV85 h0 tp h0_tapeLength h0_faultKind h0_faultPlace nw im sl rd wk fm mt ch dy sl cA_sl f_sl r0 r0_width r0_size r0_numbers r1 r1_width r1_size r1_numbers r2 r2_width r2_size r2_numbers r3 r3_width r3_size r3_numbers) sz) t) (va_A (zV85 h0 tp h0_tapeLength h0_faultKind h0_faultPlace nw im sl rd wk fm mt ch dy sl cA_sl f_sl r0 r0_width r0_size r0_numbers r1 r1_width r1_size r1_numbers r2 r2_width r2_size r2_numbers r3 r3_width r3_size r3_numbers) sz)) 0 0 (va_A (zV85 h0 tp h0_tapeLength h0_faultKind h0_faultPlace nw im sl rd wk fm mt ch dy sl cA_sl f_sl r0 r0_width r0_size r0_numbers r1 r1_width r1_size r1_numbers r2 r2_width r2_size r2_numbers r3 r3_width r3_size r3_numbers) sz) := by
  refine z_enter (by decide) (by exact (Nat.le_of_ble_eq_true rfl)) ?_
  intro p e s m args below meth c ls A R Qc hargs hsz hQe hAe hRe hx hb hml hr hts hown hlocks hin hl hP hK hD hN hXs hA hS
  rw [hAe] at hQe
  have hown : s.vm.findClass RX9 = some m.cls := hown
  have hl : lv_has ls 3 [(0, .ref h0)] := hl
  refine lv_iconst (v := 0) hx hb dX9_rowsThere_0 (by decide) ?_
  refine lv_istore_n (lv' := [(1, .int 0), (0, .ref h0)]) hx hb dX9_rowsThere_1 rfl hl (by decide) rfl (fun ls hl => ?_)
  refine lv_iconst (v := 0) hx hb dX9_rowsThere_2 (by decide) ?_
  refine lv_istore_n (lv' := [(2, .int 0), (1, .int 0), (0, .ref h0)]) hx hb dX9_rowsThere_3 rfl hl (by decide) rfl (fun ls hl => ?_)
  have loop_1 : ∀ (t : Nat) (v1_2 : Int32) (v2_1 : Int32) (b_v2_1 : 0 ≤ v2_1.toInt ∧ v2_1.toInt ≤ 4) (H : Heap) (locs : List Loc) (ls : Array Slot), 4 - v2_1.toInt < (t : Int) → va_P (dC, dI) vwCl (zV85 h0 tp h0_tapeLength h0_faultKind h0_faultPlace nw im sl rd wk fm mt ch dy sl cA_sl f_sl r0 r0_width r0_size r0_numbers r1 r1_width r1_size r1_numbers r2 r2_width r2_size r2_numbers r3 r3_width r3_size r3_numbers) H → va_D A (zV85 h0 tp h0_tapeLength h0_faultKind h0_faultPlace nw im sl rd wk fm mt ch dy sl cA_sl f_sl r0 r0_width r0_size r0_numbers r1 r1_width r1_size r1_numbers r2 r2_width r2_size r2_numbers r3 r3_width r3_size r3_numbers) → va_S A s.heap H locs → lv_has ls 3 [(0, .ref h0), (1, .int v1_2), (2, .int v2_1)] → W p l e R s m args below meth c H locs 0 0 (MQ below Qc args s 0 0 A) (F0 m 4 ls []) := by
    intro t
    induction t with
    | zero => intro v1_2 v2_1 b_v2_1 H locs ls hmu _ _ _ _; exact absurd hmu (by first | with_reducible assumption | omega)
    | succ t ih_1 =>
      intro v1_2 v2_1 b_v2_1 H locs ls hmu hP hD hS hl
      refine lv_iload_n hx hb dX9_rowsThere_4 rfl (lv_at hl 2 rfl) ?_
      refine lv_iconst (v := 4) hx hb dX9_rowsThere_5 (by decide) ?_
      refine lv_icmp_ge (tgt := 30) hx hb dX9_rowsThere_6 (by decide) (fun c_3 => ?_) (fun c_3 => ?_)
      · have ic_3 := zz_ge rfl (show Int32.toInt 4 = 4 from by decide) c_3
        refine lv_iload_n hx hb dX9_rowsThere_30 rfl (lv_at hl 1 rfl) ?_
        exact W.iret (v := v1_2) hx hb hr (fun t ht hW => by rw [← hQe]; exact ⟨⟨v1_2, (), rfl, trivial, z_ret hP hK hD ht hW [0, 1, 2, 3, 4, 5] [] rfl (by decide) rfl⟩, hS.F ht⟩) hS.2.2 dX9_rowsThere_31
      · have ic_3 := zz_nge rfl (show Int32.toInt 4 = 4 from by decide) c_3
        refine lv_aload_n hx hb dX9_rowsThere_9 rfl (lv_at hl 0 rfl) ?_
        refine va_get (D := (dC, dI)) (ci := 9) (v := .ref sl) (C := RX9) (T := TX9) (N := 13) hx hb hts zl_X9 hown hK hP 0 rfl rfl 6 (by decide) (hts _ zw_t2_195) (fun _ h9 => h9) rfl dX9_rowsThere_10 ?_
        refine lv_iload_n hx hb dX9_rowsThere_13 rfl (lv_at hl 2 rfl) ?_
        rcases z_s3 v2_1 with q_sw | rfl | rfl | rfl | rfl | q_sw
        · omega
        · have zc_0 : Int32.toInt 0 = 0 := by decide
          refine va_aldq hx hb hK hP 1 0 rfl rfl (zi_in (show Int32.toInt 0 = 0 from by decide) (by first | with_reducible assumption | omega)) dX9_rowsThere_14 ?_
          refine W.eq (g2 := F0 m 15 ls (.ref r0 :: [])) (by rw [show f_sl (Int32.toNatClampNeg 0) = some r0 from (by rw [show Int32.toNatClampNeg 0 = 0 from by decide]; exact hsl0)]; rfl) ?_
          obtain ⟨hPc, hDc, hFc⟩ := z_cut (wc := (zV6 r0 r0_width r0_size r0_numbers)) hP hD hS hA [2] rfl (by decide +kernel)
          have hKc := hK.sub (tys' := []) [] rfl
          refine va_calli (va_runV (As := []) (rest := []) ⟨hx, hb, hml, hown, hts⟩ (k_X6_isThere l sa dC dI r0 r0_width r0_size r0_numbers b_r0_size H.size) (cwV 0 hts (z_gV zw_t5_222 zw_t5_223 zw_t5_224 zw_t1_10 zw_t5_225) rfl rfl rfl (by decide +kernel) (by rw [← hRe]; exact ⟨(Nat.le_of_ble_eq_true rfl), (Nat.le_of_ble_eq_true rfl)⟩)) (z_preV hPc hKc hDc hN hXs hS hFc (q := (RX6, TX6, 3)) (ci := 6) (q0 := 0) rfl rfl) rfl rfl hl.1 rfl (lv_room (Nat.le_of_ble_eq_true rfl)) dX9_rowsThere_15 (by rw [← hRe]; exact ⟨(Nat.le_of_ble_eq_true rfl), (Nat.le_of_ble_eq_true rfl)⟩)) hS (fun q _ h => hFc q h) hFc (fun r_4 u t H1 locs ht hvm hw hB hz1 hk1 hS => ?_)
          obtain ⟨hP, hD, hK⟩ := z_after3 (wn := (zV85 h0 tp h0_tapeLength h0_faultKind h0_faultPlace nw im sl rd wk fm mt ch dy sl cA_sl f_sl r1 r1_width r1_size r1_numbers r2 r2_width r2_size r2_numbers r3 r3_width r3_size r3_numbers r0 r0_width r0_size r0_numbers)) hB ht hvm hP hD hK [2] [0, 1, 3, 4, 5] rfl 6 rfl (by decide +kernel) rfl (by decide +kernel) hk1 hFc
          generalize H1 = H at hP hS ⊢
          have hK : va_K (dC, dI) vwCl [(cA_sl, .object RX6)] s := hK
          have b_r_4 : 0 ≤ r_4.toInt ∧ r_4.toInt ≤ 1 := hw
          refine lv_if_eq (tgt := 24) hx hb dX9_rowsThere_18 (by decide) (fun c_5 => ?_) (fun c_5 => ?_)
          · have ic_5 := zz_eq rfl (show Int32.toInt 0 = 0 from by decide) c_5
            refine lv_iinc (v := 1) (lv' := [(2, .int 1), (0, .ref h0), (1, .int v1_2)]) hx hb dX9_rowsThere_24 hl (k := 2) rfl (by decide) (by decide) rfl (fun ls hl => ?_)
            refine lv_goto (tgt := 4) hx hb dX9_rowsThere_27 (by decide) ?_
            have zb_1 : Int32.toInt 1 = 1 := by decide
            exact ih_1 v1_2 (1) (by decide) _ _ _ (by first | with_reducible assumption | omega) (hP.sub (ws' := (zV85 h0 tp h0_tapeLength h0_faultKind h0_faultPlace nw im sl rd wk fm mt ch dy sl cA_sl f_sl r0 r0_width r0_size r0_numbers r1 r1_width r1_size r1_numbers r2 r2_width r2_size r2_numbers r3 r3_width r3_size r3_numbers)) [0, 1, 5, 2, 3, 4] rfl) (hD.sub (ws' := (zV85 h0 tp h0_tapeLength h0_faultKind h0_faultPlace nw im sl rd wk fm mt ch dy sl cA_sl f_sl r0 r0_width r0_size r0_numbers r1 r1_width r1_size r1_numbers r2 r2_width r2_size r2_numbers r3 r3_width r3_size r3_numbers)) [0, 1, 5, 2, 3, 4] (by decide) rfl) hS (lv_sub hl [1, 2, 0] rfl)
          · have ic_5 := zz_neq rfl (show Int32.toInt 0 = 0 from by decide) c_5
            obtain ⟨x_6, ex_6⟩ : ∃ z : Int32, z = v1_2 + Int32.ofInt 1 := ⟨_, rfl⟩
            refine lv_iinc (v := x_6) (lv' := [(1, .int x_6), (0, .ref h0), (2, .int 0)]) hx hb dX9_rowsThere_21 hl (k := 1) rfl ex_6.symm (by decide) rfl (fun ls hl => ?_)
            refine lv_iinc (v := 1) (lv' := [(2, .int 1), (1, .int x_6), (0, .ref h0)]) hx hb dX9_rowsThere_24 hl (k := 2) rfl (by decide) (by decide) rfl (fun ls hl => ?_)
            refine lv_goto (tgt := 4) hx hb dX9_rowsThere_27 (by decide) ?_
            have zb_1 : Int32.toInt 1 = 1 := by decide
            exact ih_1 x_6 (1) (by decide) _ _ _ (by first | with_reducible assumption | omega) (hP.sub (ws' := (zV85 h0 tp h0_tapeLength h0_faultKind h0_faultPlace nw im sl rd wk fm mt ch dy sl cA_sl f_sl r0 r0_width r0_size r0_numbers r1 r1_width r1_size r1_numbers r2 r2_width r2_size r2_numbers r3 r3_width r3_size r3_numbers)) [0, 1, 5, 2, 3, 4] rfl) (hD.sub (ws' := (zV85 h0 tp h0_tapeLength h0_faultKind h0_faultPlace nw im sl rd wk fm mt ch dy sl cA_sl f_sl r0 r0_width r0_size r0_numbers r1 r1_width r1_size r1_numbers r2 r2_width r2_size r2_numbers r3 r3_width r3_size r3_numbers)) [0, 1, 5, 2, 3, 4] (by decide) rfl) hS (lv_sub hl [2, 1, 0] rfl)
        · have zc_1 : Int32.toInt 1 = 1 := by decide
          refine va_aldq hx hb hK hP 1 0 rfl rfl (zi_in (show Int32.toInt 1 = 1 from by decide) (by first | with_reducible assumption | omega)) dX9_rowsThere_14 ?_
          refine W.eq (g2 := F0 m 15 ls (.ref r1 :: [])) (by rw [show f_sl (Int32.toNatClampNeg 1) = some r1 from (by rw [show Int32.toNatClampNeg 1 = 1 from by decide]; exact hsl1)]; rfl) ?_
          obtain ⟨hPc, hDc, hFc⟩ := z_cut (wc := (zV6 r1 r1_width r1_size r1_numbers)) hP hD hS hA [3] rfl (by decide +kernel)
          have hKc := hK.sub (tys' := []) [] rfl
          refine va_calli (va_runV (As := []) (rest := []) ⟨hx, hb, hml, hown, hts⟩ (k_X6_isThere l sa dC dI r1 r1_width r1_size r1_numbers b_r1_size H.size) (cwV 0 hts (z_gV zw_t5_222 zw_t5_223 zw_t5_224 zw_t1_10 zw_t5_225) rfl rfl rfl (by decide +kernel) (by rw [← hRe]; exact ⟨(Nat.le_of_ble_eq_true rfl), (Nat.le_of_ble_eq_true rfl)⟩)) (z_preV hPc hKc hDc hN hXs hS hFc (q := (RX6, TX6, 3)) (ci := 6) (q0 := 0) rfl rfl) rfl rfl hl.1 rfl (lv_room (Nat.le_of_ble_eq_true rfl)) dX9_rowsThere_15 (by rw [← hRe]; exact ⟨(Nat.le_of_ble_eq_true rfl), (Nat.le_of_ble_eq_true rfl)⟩)) hS (fun q _ h => hFc q h) hFc (fun r_7 u t H1 locs ht hvm hw hB hz1 hk1 hS => ?_)
          obtain ⟨hP, hD, hK⟩ := z_after3 (wn := (zV85 h0 tp h0_tapeLength h0_faultKind h0_faultPlace nw im sl rd wk fm mt ch dy sl cA_sl f_sl r0 r0_width r0_size r0_numbers r2 r2_width r2_size r2_numbers r3 r3_width r3_size r3_numbers r1 r1_width r1_size r1_numbers)) hB ht hvm hP hD hK [3] [0, 1, 2, 4, 5] rfl 6 rfl (by decide +kernel) rfl (by decide +kernel) hk1 hFc
          generalize H1 = H at hP hS ⊢
          have hK : va_K (dC, dI) vwCl [(cA_sl, .object RX6)] s := hK
          have b_r_7 : 0 ≤ r_7.toInt ∧ r_7.toInt ≤ 1 := hw
          refine lv_if_eq (tgt := 24) hx hb dX9_rowsThere_18 (by decide) (fun c_8 => ?_) (fun c_8 => ?_)
          · have ic_8 := zz_eq rfl (show Int32.toInt 0 = 0 from by decide) c_8
            refine lv_iinc (v := 2) (lv' := [(2, .int 2), (0, .ref h0), (1, .int v1_2)]) hx hb dX9_rowsThere_24 hl (k := 2) rfl (by decide) (by decide) rfl (fun ls hl => ?_)
            refine lv_goto (tgt := 4) hx hb dX9_rowsThere_27 (by decide) ?_
            have zb_2 : Int32.toInt 2 = 2 := by decide
            exact ih_1 v1_2 (2) (by decide) _ _ _ (by first | with_reducible assumption | omega) (hP.sub (ws' := (zV85 h0 tp h0_tapeLength h0_faultKind h0_faultPlace nw im sl rd wk fm mt ch dy sl cA_sl f_sl r0 r0_width r0_size r0_numbers r1 r1_width r1_size r1_numbers r2 r2_width r2_size r2_numbers r3 r3_width r3_size r3_numbers)) [0, 1, 2, 5, 3, 4] rfl) (hD.sub (ws' := (zV85 h0 tp h0_tapeLength h0_faultKind h0_faultPlace nw im sl rd wk fm mt ch dy sl cA_sl f_sl r0 r0_width r0_size r0_numbers r1 r1_width r1_size r1_numbers r2 r2_width r2_size r2_numbers r3 r3_width r3_size r3_numbers)) [0, 1, 2, 5, 3, 4] (by decide) rfl) hS (lv_sub hl [1, 2, 0] rfl)
          · have ic_8 := zz_neq rfl (show Int32.toInt 0 = 0 from by decide) c_8
            obtain ⟨x_9, ex_9⟩ : ∃ z : Int32, z = v1_2 + Int32.ofInt 1 := ⟨_, rfl⟩
            refine lv_iinc (v := x_9) (lv' := [(1, .int x_9), (0, .ref h0), (2, .int 1)]) hx hb dX9_rowsThere_21 hl (k := 1) rfl ex_9.symm (by decide) rfl (fun ls hl => ?_)
            refine lv_iinc (v := 2) (lv' := [(2, .int 2), (1, .int x_9), (0, .ref h0)]) hx hb dX9_rowsThere_24 hl (k := 2) rfl (by decide) (by decide) rfl (fun ls hl => ?_)
            refine lv_goto (tgt := 4) hx hb dX9_rowsThere_27 (by decide) ?_
            have zb_2 : Int32.toInt 2 = 2 := by decide
            exact ih_1 x_9 (2) (by decide) _ _ _ (by first | with_reducible assumption | omega) (hP.sub (ws' := (zV85 h0 tp h0_tapeLength h0_faultKind h0_faultPlace nw im sl rd wk fm mt ch dy sl cA_sl f_sl r0 r0_width r0_size r0_numbers r1 r1_width r1_size r1_numbers r2 r2_width r2_size r2_numbers r3 r3_width r3_size r3_numbers)) [0, 1, 2, 5, 3, 4] rfl) (hD.sub (ws' := (zV85 h0 tp h0_tapeLength h0_faultKind h0_faultPlace nw im sl rd wk fm mt ch dy sl cA_sl f_sl r0 r0_width r0_size r0_numbers r1 r1_width r1_size r1_numbers r2 r2_width r2_size r2_numbers r3 r3_width r3_size r3_numbers)) [0, 1, 2, 5, 3, 4] (by decide) rfl) hS (lv_sub hl [2, 1, 0] rfl)
        · have zc_2 : Int32.toInt 2 = 2 := by decide
          refine va_aldq hx hb hK hP 1 0 rfl rfl (zi_in (show Int32.toInt 2 = 2 from by decide) (by first | with_reducible assumption | omega)) dX9_rowsThere_14 ?_
          refine W.eq (g2 := F0 m 15 ls (.ref r2 :: [])) (by rw [show f_sl (Int32.toNatClampNeg 2) = some r2 from (by rw [show Int32.toNatClampNeg 2 = 2 from by decide]; exact hsl2)]; rfl) ?_
          obtain ⟨hPc, hDc, hFc⟩ := z_cut (wc := (zV6 r2 r2_width r2_size r2_numbers)) hP hD hS hA [4] rfl (by decide +kernel)
          have hKc := hK.sub (tys' := []) [] rfl
          refine va_calli (va_runV (As := []) (rest := []) ⟨hx, hb, hml, hown, hts⟩ (k_X6_isThere l sa dC dI r2 r2_width r2_size r2_numbers b_r2_size H.size) (cwV 0 hts (z_gV zw_t5_222 zw_t5_223 zw_t5_224 zw_t1_10 zw_t5_225) rfl rfl rfl (by decide +kernel) (by rw [← hRe]; exact ⟨(Nat.le_of_ble_eq_true rfl), (Nat.le_of_ble_eq_true rfl)⟩)) (z_preV hPc hKc hDc hN hXs hS hFc (q := (RX6, TX6, 3)) (ci := 6) (q0 := 0) rfl rfl) rfl rfl hl.1 rfl (lv_room (Nat.le_of_ble_eq_true rfl)) dX9_rowsThere_15 (by rw [← hRe]; exact ⟨(Nat.le_of_ble_eq_true rfl), (Nat.le_of_ble_eq_true rfl)⟩)) hS (fun q _ h => hFc q h) hFc (fun r_10 u t H1 locs ht hvm hw hB hz1 hk1 hS => ?_)
          obtain ⟨hP, hD, hK⟩ := z_after3 (wn := (zV85 h0 tp h0_tapeLength h0_faultKind h0_faultPlace nw im sl rd wk fm mt ch dy sl cA_sl f_sl r0 r0_width r0_size r0_numbers r1 r1_width r1_size r1_numbers r3 r3_width r3_size r3_numbers r2 r2_width r2_size r2_numbers)) hB ht hvm hP hD hK [4] [0, 1, 2, 3, 5] rfl 6 rfl (by decide +kernel) rfl (by decide +kernel) hk1 hFc
          generalize H1 = H at hP hS ⊢
          have hK : va_K (dC, dI) vwCl [(cA_sl, .object RX6)] s := hK
          have b_r_10 : 0 ≤ r_10.toInt ∧ r_10.toInt ≤ 1 := hw
          refine lv_if_eq (tgt := 24) hx hb dX9_rowsThere_18 (by decide) (fun c_11 => ?_) (fun c_11 => ?_)
          · have ic_11 := zz_eq rfl (show Int32.toInt 0 = 0 from by decide) c_11
            refine lv_iinc (v := 3) (lv' := [(2, .int 3), (0, .ref h0), (1, .int v1_2)]) hx hb dX9_rowsThere_24 hl (k := 2) rfl (by decide) (by decide) rfl (fun ls hl => ?_)
            refine lv_goto (tgt := 4) hx hb dX9_rowsThere_27 (by decide) ?_
            have zb_3 : Int32.toInt 3 = 3 := by decide
            exact ih_1 v1_2 (3) (by decide) _ _ _ (by first | with_reducible assumption | omega) (hP.sub (ws' := (zV85 h0 tp h0_tapeLength h0_faultKind h0_faultPlace nw im sl rd wk fm mt ch dy sl cA_sl f_sl r0 r0_width r0_size r0_numbers r1 r1_width r1_size r1_numbers r2 r2_width r2_size r2_numbers r3 r3_width r3_size r3_numbers)) [0, 1, 2, 3, 5, 4] rfl) (hD.sub (ws' := (zV85 h0 tp h0_tapeLength h0_faultKind h0_faultPlace nw im sl rd wk fm mt ch dy sl cA_sl f_sl r0 r0_width r0_size r0_numbers r1 r1_width r1_size r1_numbers r2 r2_width r2_size r2_numbers r3 r3_width r3_size r3_numbers)) [0, 1, 2, 3, 5, 4] (by decide) rfl) hS (lv_sub hl [1, 2, 0] rfl)
          · have ic_11 := zz_neq rfl (show Int32.toInt 0 = 0 from by decide) c_11
            obtain ⟨x_12, ex_12⟩ : ∃ z : Int32, z = v1_2 + Int32.ofInt 1 := ⟨_, rfl⟩
            refine lv_iinc (v := x_12) (lv' := [(1, .int x_12), (0, .ref h0), (2, .int 2)]) hx hb dX9_rowsThere_21 hl (k := 1) rfl ex_12.symm (by decide) rfl (fun ls hl => ?_)
            refine lv_iinc (v := 3) (lv' := [(2, .int 3), (1, .int x_12), (0, .ref h0)]) hx hb dX9_rowsThere_24 hl (k := 2) rfl (by decide) (by decide) rfl (fun ls hl => ?_)
            refine lv_goto (tgt := 4) hx hb dX9_rowsThere_27 (by decide) ?_
            have zb_3 : Int32.toInt 3 = 3 := by decide
            exact ih_1 x_12 (3) (by decide) _ _ _ (by first | with_reducible assumption | omega) (hP.sub (ws' := (zV85 h0 tp h0_tapeLength h0_faultKind h0_faultPlace nw im sl rd wk fm mt ch dy sl cA_sl f_sl r0 r0_width r0_size r0_numbers r1 r1_width r1_size r1_numbers r2 r2_width r2_size r2_numbers r3 r3_width r3_size r3_numbers)) [0, 1, 2, 3, 5, 4] rfl) (hD.sub (ws' := (zV85 h0 tp h0_tapeLength h0_faultKind h0_faultPlace nw im sl rd wk fm mt ch dy sl cA_sl f_sl r0 r0_width r0_size r0_numbers r1 r1_width r1_size r1_numbers r2 r2_width r2_size r2_numbers r3 r3_width r3_size r3_numbers)) [0, 1, 2, 3, 5, 4] (by decide) rfl) hS (lv_sub hl [2, 1, 0] rfl)
        · have zc_3 : Int32.toInt 3 = 3 := by decide
          refine va_aldq hx hb hK hP 1 0 rfl rfl (zi_in (show Int32.toInt 3 = 3 from by decide) (by first | with_reducible assumption | omega)) dX9_rowsThere_14 ?_
          refine W.eq (g2 := F0 m 15 ls (.ref r3 :: [])) (by rw [show f_sl (Int32.toNatClampNeg 3) = some r3 from (by rw [show Int32.toNatClampNeg 3 = 3 from by decide]; exact hsl3)]; rfl) ?_
          obtain ⟨hPc, hDc, hFc⟩ := z_cut (wc := (zV6 r3 r3_width r3_size r3_numbers)) hP hD hS hA [5] rfl (by decide +kernel)
          have hKc := hK.sub (tys' := []) [] rfl
          refine va_calli (va_runV (As := []) (rest := []) ⟨hx, hb, hml, hown, hts⟩ (k_X6_isThere l sa dC dI r3 r3_width r3_size r3_numbers b_r3_size H.size) (cwV 0 hts (z_gV zw_t5_222 zw_t5_223 zw_t5_224 zw_t1_10 zw_t5_225) rfl rfl rfl (by decide +kernel) (by rw [← hRe]; exact ⟨(Nat.le_of_ble_eq_true rfl), (Nat.le_of_ble_eq_true rfl)⟩)) (z_preV hPc hKc hDc hN hXs hS hFc (q := (RX6, TX6, 3)) (ci := 6) (q0 := 0) rfl rfl) rfl rfl hl.1 rfl (lv_room (Nat.le_of_ble_eq_true rfl)) dX9_rowsThere_15 (by rw [← hRe]; exact ⟨(Nat.le_of_ble_eq_true rfl), (Nat.le_of_ble_eq_true rfl)⟩)) hS (fun q _ h => hFc q h) hFc (fun r_13 u t H1 locs ht hvm hw hB hz1 hk1 hS => ?_)
          obtain ⟨hP, hD, hK⟩ := z_after3 (wn := (zV85 h0 tp h0_tapeLength h0_faultKind h0_faultPlace nw im sl rd wk fm mt ch dy sl cA_sl f_sl r0 r0_width r0_size r0_numbers r1 r1_width r1_size r1_numbers r2 r2_width r2_size r2_numbers r3 r3_width r3_size r3_numbers)) hB ht hvm hP hD hK [5] [0, 1, 2, 3, 4] rfl 6 rfl (by decide +kernel) rfl (by decide +kernel) hk1 hFc
          generalize H1 = H at hP hS ⊢
          have hK : va_K (dC, dI) vwCl [(cA_sl, .object RX6)] s := hK
          have b_r_13 : 0 ≤ r_13.toInt ∧ r_13.toInt ≤ 1 := hw
          refine lv_if_eq (tgt := 24) hx hb dX9_rowsThere_18 (by decide) (fun c_14 => ?_) (fun c_14 => ?_)
          · have ic_14 := zz_eq rfl (show Int32.toInt 0 = 0 from by decide) c_14
            refine lv_iinc (v := 4) (lv' := [(2, .int 4), (0, .ref h0), (1, .int v1_2)]) hx hb dX9_rowsThere_24 hl (k := 2) rfl (by decide) (by decide) rfl (fun ls hl => ?_)
            refine lv_goto (tgt := 4) hx hb dX9_rowsThere_27 (by decide) ?_
            have zb_4 : Int32.toInt 4 = 4 := by decide
            exact ih_1 v1_2 (4) (by decide) _ _ _ (by first | with_reducible assumption | omega) (hP.sub (ws' := (zV85 h0 tp h0_tapeLength h0_faultKind h0_faultPlace nw im sl rd wk fm mt ch dy sl cA_sl f_sl r0 r0_width r0_size r0_numbers r1 r1_width r1_size r1_numbers r2 r2_width r2_size r2_numbers r3 r3_width r3_size r3_numbers)) [0, 1, 2, 3, 4, 5] rfl) (hD.sub (ws' := (zV85 h0 tp h0_tapeLength h0_faultKind h0_faultPlace nw im sl rd wk fm mt ch dy sl cA_sl f_sl r0 r0_width r0_size r0_numbers r1 r1_width r1_size r1_numbers r2 r2_width r2_size r2_numbers r3 r3_width r3_size r3_numbers)) [0, 1, 2, 3, 4, 5] (by decide) rfl) hS (lv_sub hl [1, 2, 0] rfl)
          · have ic_14 := zz_neq rfl (show Int32.toInt 0 = 0 from by decide) c_14
            obtain ⟨x_15, ex_15⟩ : ∃ z : Int32, z = v1_2 + Int32.ofInt 1 := ⟨_, rfl⟩
            refine lv_iinc (v := x_15) (lv' := [(1, .int x_15), (0, .ref h0), (2, .int 3)]) hx hb dX9_rowsThere_21 hl (k := 1) rfl ex_15.symm (by decide) rfl (fun ls hl => ?_)
            refine lv_iinc (v := 4) (lv' := [(2, .int 4), (1, .int x_15), (0, .ref h0)]) hx hb dX9_rowsThere_24 hl (k := 2) rfl (by decide) (by decide) rfl (fun ls hl => ?_)
            refine lv_goto (tgt := 4) hx hb dX9_rowsThere_27 (by decide) ?_
            have zb_4 : Int32.toInt 4 = 4 := by decide
            exact ih_1 x_15 (4) (by decide) _ _ _ (by first | with_reducible assumption | omega) (hP.sub (ws' := (zV85 h0 tp h0_tapeLength h0_faultKind h0_faultPlace nw im sl rd wk fm mt ch dy sl cA_sl f_sl r0 r0_width r0_size r0_numbers r1 r1_width r1_size r1_numbers r2 r2_width r2_size r2_numbers r3 r3_width r3_size r3_numbers)) [0, 1, 2, 3, 4, 5] rfl) (hD.sub (ws' := (zV85 h0 tp h0_tapeLength h0_faultKind h0_faultPlace nw im sl rd wk fm mt ch dy sl cA_sl f_sl r0 r0_width r0_size r0_numbers r1 r1_width r1_size r1_numbers r2 r2_width r2_size r2_numbers r3 r3_width r3_size r3_numbers)) [0, 1, 2, 3, 4, 5] (by decide) rfl) hS (lv_sub hl [2, 1, 0] rfl)
        · omega
  exact loop_1 6 (0) (0) (by decide) _ _ _ (by decide) hP hD hS (lv_sub hl [2, 1, 0] rfl)
set_option maxHeartbeats 4000000 in
set_option maxRecDepth 100000 in
theorem k_X9_count (l : Launch) (sa : Nat → Nat) (dC : Nat → ClassId) (dI : Nat → Nat → Nat) (h0 : Nat) (p1 : Int32) (tp : Nat) (h0_tapeLength : Int32) (h0_faultKind : Int32) (h0_faultPlace : Int32) (nw : Nat) (im : Nat) (sl : Nat) (rd : Nat) (wk : Nat) (fm : Nat) (mt : Nat) (ch : Nat) (dy : Nat) (cA_sl : ClassId) (f_sl : Nat → Option Nat) (r0 : Nat) (r1 : Nat) (r2 : Nat) (r3 : Nat) (nw_isKept : Int32) (tn : Nat) (nw_strayed : Int32) (nw_names : Int32) (nw_known : Int32) (nw_gone : Int32) (tn_hours : Int32) (tn_courts : Int32) (tn_gateCount : Int32) (tn_people : Int32) (tn_lines : Int32) (tn_falseHours : Int32) (tn_strayers : Int32) (tn_deep : Int32) (tn_above : Nat) (tn_doors : Nat) (tn_degrees : Nat) (tn_neighbours : Nat) (tn_shows : Nat) (tn_oneEnd : Nat) (tn_otherEnd : Nat) (tn_told : Nat) (tn_strayParts : Nat) (tn_strayCourts : Nat) (r0_width : Int32) (r0_size : Int32) (r0_numbers : Nat) (r1_width : Int32) (r1_size : Int32) (r1_numbers : Nat) (r2_width : Int32) (r2_size : Int32) (r2_numbers : Nat) (r3_width : Int32) (r3_size : Int32) (r3_numbers : Nat) (b_h0_tapeLength : 0 ≤ h0_tapeLength.toInt ∧ h0_tapeLength.toInt ≤ 1600) (hsl0 : f_sl 0 = some r0) (hsl1 : f_sl 1 = some r1) (hsl2 : f_sl 2 = some r2) (hsl3 : f_sl 3 = some r3) (b_nw_isKept : 0 ≤ nw_isKept.toInt ∧ nw_isKept.toInt ≤ 1) (b_nw_names : 0 ≤ nw_names.toInt ∧ nw_names.toInt ≤ 1023) (b_tn_hours : 0 ≤ tn_hours.toInt ∧ tn_hours.toInt ≤ 48) (b_tn_courts : 0 ≤ tn_courts.toInt ∧ tn_courts.toInt ≤ 10) (b_tn_gateCount : 0 ≤ tn_gateCount.toInt ∧ tn_gateCount.toInt ≤ 16) (b_tn_people : 0 ≤ tn_people.toInt ∧ tn_people.toInt ≤ 10) (b_tn_falseHours : 0 ≤ tn_falseHours.toInt ∧ tn_falseHours.toInt ≤ 9) (b_tn_deep : 0 ≤ tn_deep.toInt ∧ tn_deep.toInt ≤ 1) (b_r0_size : 0 ≤ r0_size.toInt ∧ r0_size.toInt ≤ 60) (b_r1_size : 0 ≤ r1_size.toInt ∧ r1_size.toInt ≤ 60) (b_r2_size : 0 ≤ r2_size.toInt ∧ r2_size.toInt ≤ 60) (b_r3_size : 0 ≤ r3_size.toInt ∧ r3_size.toInt ≤ 60) (sz : Nat) : Met l yX9_count (.code yX9_count cX9_count 3 (some .int) :: zT) ({ frames := 2, cells := 0, slots := 0, locals := 42 }) (va_Pc [.ref h0, .int p1] (zB sa dC dI (zV86 h0 tp h0_tapeLength h0_faultKind h0_faultPlace nw im sl rd wk fm mt ch dy sl cA_sl f_sl nw nw_isKept tn nw_strayed nw_names nw_known nw_gone tn tn_hours tn_courts tn_gateCount tn_people tn_lines tn_falseHours tn_strayers tn_deep tn_above tn_doors tn_degrees tn_neighbours tn_shows tn_oneEnd tn_otherEnd tn_told tn_strayParts tn_strayCourts r0 r0_width r0_size r0_numbers r1 r1_width r1_size r1_numbers r2 r2_width r2_size r2_numbers r3 r3_width r3_size r3_numbers) [(cA_sl, .object RX6)] sz)) (va_Qi (fun (r : Int32) (_ : Unit) => True) (fun _ t => zW dC dI (zV86 h0 tp h0_tapeLength h0_faultKind h0_faultPlace nw im sl rd wk fm mt ch dy sl cA_sl f_sl nw nw_isKept tn nw_strayed nw_names nw_known nw_gone tn tn_hours tn_courts tn_gateCount tn_people tn_lines tn_falseHours tn_strayers tn_deep tn_above tn_doors tn_degrees tn_neighbours tn_shows tn_oneEnd tn_otherEnd tn_told tn_strayParts tn_strayCourts r0 r0_width r0_size r0_numbers r1 r1_width r1_size r1_numbers r2 r2_width r2_size r2_numbers r3 r3_width r3_size r3_numbers) [] (va_A (zV86 h0 tp h0_tapeLength h0_faultKind h0_faultPlace nw im sl rd wk fm mt ch dy sl cA_sl f_sl nw nw_isKept tn nw_strayed nw_names nw_known nw_gone tn tn_hours tn_courts tn_gateCount tn_people tn_lines tn_falseHours tn_strayers tn_deep tn_above tn_doors tn_degrees tn_neighbours tn_shows tn_oneEnd tn_otherEnd tn_told tn_strayParts tn_strayCourts r0 r0_width r0_size r0_numbers r1 r1_width r1_size r1_numbers r2 r2_width r2_size r2_numbers r3 r3_width r3_size r3_numbers) sz) t) (va_A (zV86 h0 tp h0_tapeLength h0_faultKind h0_faultPlace nw im sl rd wk fm mt ch dy sl cA_sl f_sl nw nw_isKept tn nw_strayed nw_names nw_known nw_gone tn tn_hours tn_courts tn_gateCount tn_people tn_lines tn_falseHours tn_strayers tn_deep tn_above tn_doors tn_degrees tn_neighbours tn_shows tn_oneEnd tn_otherEnd tn_told tn_strayParts tn_strayCourts r0 r0_width r0_size r0_numbers r1 r1_width r1_size r1_numbers r2 r2_width r2_size r2_numbers r3 r3_width r3_size r3_numbers) sz)) 0 0 (va_A (zV86 h0 tp h0_tapeLength h0_faultKind h0_faultPlace nw im sl rd wk fm mt ch dy sl cA_sl f_sl nw nw_isKept tn nw_strayed nw_names nw_known nw_gone tn tn_hours tn_courts tn_gateCount tn_people tn_lines tn_falseHours tn_strayers tn_deep tn_above tn_doors tn_degrees tn_neighbours tn_shows tn_oneEnd tn_otherEnd tn_told tn_strayParts tn_strayCourts r0 r0_width r0_size r0_numbers r1 r1_width r1_size r1_numbers r2 r2_width r2_size r2_numbers r3 r3_width r3_size r3_numbers) sz) := by
  refine z_enter (by decide) (by exact (Nat.le_of_ble_eq_true rfl)) ?_
  intro p e s m args below meth c ls A R Qc hargs hsz hQe hAe hRe hx hb hml hr hts hown hlocks hin hl hP hK hD hN hXs hA hS
  rw [hAe] at hQe
  have hown : s.vm.findClass RX9 = some m.cls := hown
  have hl : lv_has ls 3 [(0, .ref h0), (1, .int p1)] := hl
  refine lv_aload_n hx hb dX9_count_0 rfl (lv_at hl 0 rfl) ?_
  refine va_get (D := (dC, dI)) (ci := 9) (v := .ref nw) (C := RX9) (T := TX9) (N := 13) hx hb hts zl_X9 hown hK hP 0 rfl rfl 4 (by decide) (hts _ zw_t2_193) (fun _ h9 => h9) rfl dX9_count_1 ?_
  refine va_get (D := (dC, dI)) (ci := 3) (v := .ref tn) (C := RX3) (T := TX3) (N := 6) hx hb hts zl_X3 hown hK hP 2 rfl rfl 1 (by decide) (hts _ zw_t1_156) (fun _ h9 => h9) rfl dX9_count_4 ?_
  refine lv_astore_n (lv' := [(2, .ref tn), (0, .ref h0), (1, .int p1)]) hx hb dX9_count_7 rfl hl (by decide) rfl (fun ls hl => ?_)
  refine lv_iload_n hx hb dX9_count_8 rfl (lv_at hl 2 rfl) ?_
  rcases z_s10 p1 with q_sw | rfl | rfl | rfl | rfl | rfl | rfl | rfl | rfl | rfl | rfl | rfl | q_sw
  · refine lv_tableOut (tgt := 134) hx hb dX9_count_9 (by first | with_reducible assumption | omega) (by decide) ?_
    refine lv_iconst (v := (-1)) hx hb dX9_count_134 (by decide) ?_
    exact W.iret (v := (-1)) hx hb hr (fun t ht hW => by rw [← hQe]; exact ⟨⟨(-1), (), rfl, trivial, z_ret hP hK hD ht hW [0, 1, 2, 3, 4, 5, 6, 7] [] rfl (by decide) rfl⟩, hS.F ht⟩) hS.2.2 dX9_count_135
  · refine lv_tableIn (tgt := 68) (off := 59) hx hb dX9_count_9 (by decide) (by decide) (by decide) (by decide) ?_
    refine lv_aload_n hx hb dX9_count_68 rfl (lv_at hl 0 rfl) ?_
    refine va_get (D := (dC, dI)) (ci := 7) (v := .int tn_courts) (C := RX7) (T := TX7) (N := 18) hx hb hts zl_X7 hown hK hP 3 rfl rfl 1 (by decide) (hts _ zw_t1_53) (fun _ h9 => h9) rfl dX9_count_69 ?_
    exact W.iret (v := tn_courts) hx hb hr (fun t ht hW => by rw [← hQe]; exact ⟨⟨tn_courts, (), rfl, trivial, z_ret hP hK hD ht hW [0, 1, 2, 3, 4, 5, 6, 7] [] rfl (by decide) rfl⟩, hS.F ht⟩) hS.2.2 dX9_count_72
  · refine lv_tableIn (tgt := 73) (off := 64) hx hb dX9_count_9 (by decide) (by decide) (by decide) (by decide) ?_
    refine lv_aload_n hx hb dX9_count_73 rfl (lv_at hl 0 rfl) ?_
    refine va_get (D := (dC, dI)) (ci := 7) (v := .int tn_hours) (C := RX7) (T := TX7) (N := 18) hx hb hts zl_X7 hown hK hP 3 rfl rfl 0 (by decide) (hts _ zw_t1_46) (fun _ h9 => h9) rfl dX9_count_74 ?_
    exact W.iret (v := tn_hours) hx hb hr (fun t ht hW => by rw [← hQe]; exact ⟨⟨tn_hours, (), rfl, trivial, z_ret hP hK hD ht hW [0, 1, 2, 3, 4, 5, 6, 7] [] rfl (by decide) rfl⟩, hS.F ht⟩) hS.2.2 dX9_count_77
  · refine lv_tableIn (tgt := 78) (off := 69) hx hb dX9_count_9 (by decide) (by decide) (by decide) (by decide) ?_
    refine lv_aload_n hx hb dX9_count_78 rfl (lv_at hl 0 rfl) ?_
    refine va_get (D := (dC, dI)) (ci := 7) (v := .int tn_gateCount) (C := RX7) (T := TX7) (N := 18) hx hb hts zl_X7 hown hK hP 3 rfl rfl 2 (by decide) (hts _ zw_t1_59) (fun _ h9 => h9) rfl dX9_count_79 ?_
    exact W.iret (v := tn_gateCount) hx hb hr (fun t ht hW => by rw [← hQe]; exact ⟨⟨tn_gateCount, (), rfl, trivial, z_ret hP hK hD ht hW [0, 1, 2, 3, 4, 5, 6, 7] [] rfl (by decide) rfl⟩, hS.F ht⟩) hS.2.2 dX9_count_82
  · refine lv_tableIn (tgt := 83) (off := 74) hx hb dX9_count_9 (by decide) (by decide) (by decide) (by decide) ?_
    refine lv_aload_n hx hb dX9_count_83 rfl (lv_at hl 0 rfl) ?_
    refine va_get (D := (dC, dI)) (ci := 7) (v := .int tn_people) (C := RX7) (T := TX7) (N := 18) hx hb hts zl_X7 hown hK hP 3 rfl rfl 3 (by decide) (hts _ zw_t1_65) (fun _ h9 => h9) rfl dX9_count_84 ?_
    exact W.iret (v := tn_people) hx hb hr (fun t ht hW => by rw [← hQe]; exact ⟨⟨tn_people, (), rfl, trivial, z_ret hP hK hD ht hW [0, 1, 2, 3, 4, 5, 6, 7] [] rfl (by decide) rfl⟩, hS.F ht⟩) hS.2.2 dX9_count_87
  · refine lv_tableIn (tgt := 88) (off := 79) hx hb dX9_count_9 (by decide) (by decide) (by decide) (by decide) ?_
    refine lv_aload_n hx hb dX9_count_88 rfl (lv_at hl 0 rfl) ?_
    refine va_get (D := (dC, dI)) (ci := 7) (v := .int tn_lines) (C := RX7) (T := TX7) (N := 18) hx hb hts zl_X7 hown hK hP 3 rfl rfl 4 (by decide) (hts _ zw_t1_66) (fun _ h9 => h9) rfl dX9_count_89 ?_
    exact W.iret (v := tn_lines) hx hb hr (fun t ht hW => by rw [← hQe]; exact ⟨⟨tn_lines, (), rfl, trivial, z_ret hP hK hD ht hW [0, 1, 2, 3, 4, 5, 6, 7] [] rfl (by decide) rfl⟩, hS.F ht⟩) hS.2.2 dX9_count_92
  · refine lv_tableIn (tgt := 93) (off := 84) hx hb dX9_count_9 (by decide) (by decide) (by decide) (by decide) ?_
    refine lv_aload_n hx hb dX9_count_93 rfl (lv_at hl 1 rfl) ?_
    refine va_get (D := (dC, dI)) (ci := 9) (v := .int h0_tapeLength) (C := RX9) (T := TX9) (N := 13) hx hb hts zl_X9 hown hK hP 0 rfl rfl 1 (by decide) (hts _ zw_t2_190) (fun _ h9 => h9) rfl dX9_count_94 ?_
    exact W.iret (v := h0_tapeLength) hx hb hr (fun t ht hW => by rw [← hQe]; exact ⟨⟨h0_tapeLength, (), rfl, trivial, z_ret hP hK hD ht hW [0, 1, 2, 3, 4, 5, 6, 7] [] rfl (by decide) rfl⟩, hS.F ht⟩) hS.2.2 dX9_count_97
  · refine lv_tableIn (tgt := 98) (off := 89) hx hb dX9_count_9 (by decide) (by decide) (by decide) (by decide) ?_
    refine lv_aload_n hx hb dX9_count_98 rfl (lv_at hl 0 rfl) ?_
    refine va_get (D := (dC, dI)) (ci := 7) (v := .int tn_strayers) (C := RX7) (T := TX7) (N := 18) hx hb hts zl_X7 hown hK hP 3 rfl rfl 6 (by decide) (hts _ zw_t1_74) (fun _ h9 => h9) rfl dX9_count_99 ?_
    exact W.iret (v := tn_strayers) hx hb hr (fun t ht hW => by rw [← hQe]; exact ⟨⟨tn_strayers, (), rfl, trivial, z_ret hP hK hD ht hW [0, 1, 2, 3, 4, 5, 6, 7] [] rfl (by decide) rfl⟩, hS.F ht⟩) hS.2.2 dX9_count_102
  · refine lv_tableIn (tgt := 103) (off := 94) hx hb dX9_count_9 (by decide) (by decide) (by decide) (by decide) ?_
    refine lv_aload_n hx hb dX9_count_103 rfl (lv_at hl 1 rfl) ?_
    refine va_get (D := (dC, dI)) (ci := 9) (v := .ref nw) (C := RX9) (T := TX9) (N := 13) hx hb hts zl_X9 hown hK hP 0 rfl rfl 4 (by decide) (hts _ zw_t2_193) (fun _ h9 => h9) rfl dX9_count_104 ?_
    refine va_get (D := (dC, dI)) (ci := 3) (v := .int nw_known) (C := RX3) (T := TX3) (N := 6) hx hb hts zl_X3 hown hK hP 2 rfl rfl 4 (by decide) (hts _ zw_t1_165) (fun _ h9 => h9) rfl dX9_count_107 ?_
    exact W.iret (v := nw_known) hx hb hr (fun t ht hW => by rw [← hQe]; exact ⟨⟨nw_known, (), rfl, trivial, z_ret hP hK hD ht hW [0, 1, 2, 3, 4, 5, 6, 7] [] rfl (by decide) rfl⟩, hS.F ht⟩) hS.2.2 dX9_count_110
  · refine lv_tableIn (tgt := 111) (off := 102) hx hb dX9_count_9 (by decide) (by decide) (by decide) (by decide) ?_
    refine lv_aload_n hx hb dX9_count_111 rfl (lv_at hl 0 rfl) ?_
    refine va_get (D := (dC, dI)) (ci := 7) (v := .int tn_falseHours) (C := RX7) (T := TX7) (N := 18) hx hb hts zl_X7 hown hK hP 3 rfl rfl 5 (by decide) (hts _ zw_t1_71) (fun _ h9 => h9) rfl dX9_count_112 ?_
    exact W.iret (v := tn_falseHours) hx hb hr (fun t ht hW => by rw [← hQe]; exact ⟨⟨tn_falseHours, (), rfl, trivial, z_ret hP hK hD ht hW [0, 1, 2, 3, 4, 5, 6, 7] [] rfl (by decide) rfl⟩, hS.F ht⟩) hS.2.2 dX9_count_115
  · refine lv_tableIn (tgt := 116) (off := 107) hx hb dX9_count_9 (by decide) (by decide) (by decide) (by decide) ?_
    refine lv_aload_n hx hb dX9_count_116 rfl (lv_at hl 0 rfl) ?_
    refine va_get (D := (dC, dI)) (ci := 7) (v := .int tn_deep) (C := RX7) (T := TX7) (N := 18) hx hb hts zl_X7 hown hK hP 3 rfl rfl 7 (by decide) (hts _ zw_t1_78) (fun _ h9 => h9) rfl dX9_count_117 ?_
    refine lv_if_eq (tgt := 127) hx hb dX9_count_120 (by decide) (fun c_1 => ?_) (fun c_1 => ?_)
    · have ic_1 := zz_eq rfl (show Int32.toInt 0 = 0 from by decide) c_1
      refine lv_iconst (v := 0) hx hb dX9_count_127 (by decide) ?_
      exact W.iret (v := 0) hx hb hr (fun t ht hW => by rw [← hQe]; exact ⟨⟨0, (), rfl, trivial, z_ret hP hK hD ht hW [0, 1, 2, 3, 4, 5, 6, 7] [] rfl (by decide) rfl⟩, hS.F ht⟩) hS.2.2 dX9_count_128
    · have ic_1 := zz_neq rfl (show Int32.toInt 0 = 0 from by decide) c_1
      refine lv_iconst (v := 1) hx hb dX9_count_123 (by decide) ?_
      refine lv_goto (tgt := 128) hx hb dX9_count_124 (by decide) ?_
      exact W.iret (v := 1) hx hb hr (fun t ht hW => by rw [← hQe]; exact ⟨⟨1, (), rfl, trivial, z_ret hP hK hD ht hW [0, 1, 2, 3, 4, 5, 6, 7] [] rfl (by decide) rfl⟩, hS.F ht⟩) hS.2.2 dX9_count_128
  · refine lv_tableIn (tgt := 129) (off := 120) hx hb dX9_count_9 (by decide) (by decide) (by decide) (by decide) ?_
    refine lv_aload_n hx hb dX9_count_129 rfl (lv_at hl 1 rfl) ?_
    obtain ⟨hPc, hDc, hFc⟩ := z_cut (wc := (zV85 h0 tp h0_tapeLength h0_faultKind h0_faultPlace nw im sl rd wk fm mt ch dy sl cA_sl f_sl r0 r0_width r0_size r0_numbers r1 r1_width r1_size r1_numbers r2 r2_width r2_size r2_numbers r3 r3_width r3_size r3_numbers)) hP hD hS hA [0, 1, 4, 5, 6, 7] rfl (by decide +kernel)
    have hKc := hK.sub (tys' := [(cA_sl, .object RX6)]) [0] rfl
    refine va_calli (va_runV (As := []) (rest := []) ⟨hx, hb, hml, hown, hts⟩ (k_X9_rowsThere l sa dC dI h0 tp h0_tapeLength h0_faultKind h0_faultPlace nw im sl rd wk fm mt ch dy cA_sl f_sl r0 r1 r2 r3 r0_width r0_size r0_numbers r1_width r1_size r1_numbers r2_width r2_size r2_numbers r3_width r3_size r3_numbers b_h0_tapeLength hsl0 hsl1 hsl2 hsl3 b_r0_size b_r1_size b_r2_size b_r3_size s.heap.size) (cwV 0 hts (z_gV zw_t6_48 zw_t6_50 zw_s4_5 zw_t1_1 zw_t6_51) rfl rfl rfl (by decide +kernel) (by rw [← hRe]; exact ⟨(Nat.le_of_ble_eq_true rfl), (Nat.le_of_ble_eq_true rfl)⟩)) (z_preV hPc hKc hDc hN hXs hS hFc (q := (RX9, TX9, 13)) (ci := 9) (q0 := 0) rfl rfl) rfl rfl hl.1 rfl (lv_room (Nat.le_of_ble_eq_true rfl)) dX9_count_130 (by rw [← hRe]; exact ⟨(Nat.le_of_ble_eq_true rfl), (Nat.le_of_ble_eq_true rfl)⟩)) hS (fun q _ h => hFc q h) hFc (fun r_2 u t H1 locs ht hvm hw hB hz1 hk1 hS => ?_)
    obtain ⟨hP, hD, hK⟩ := z_after3 (wn := [(nw, .inr (3, [.int nw_isKept, .ref tn, .int nw_strayed, .int nw_names, .int nw_known, .int nw_gone])), (tn, .inr (7, [.int tn_hours, .int tn_courts, .int tn_gateCount, .int tn_people, .int tn_lines, .int tn_falseHours, .int tn_strayers, .int tn_deep, .ref tn_above, .ref tn_doors, .ref tn_degrees, .ref tn_neighbours, .ref tn_shows, .ref tn_oneEnd, .ref tn_otherEnd, .ref tn_told, .ref tn_strayParts, .ref tn_strayCourts])), (h0, .inr (9, [.ref tp, .int h0_tapeLength, .int h0_faultKind, .int h0_faultPlace, .ref nw, .ref im, .ref sl, .ref rd, .ref wk, .ref fm, .ref mt, .ref ch, .ref dy])), (sl, .inl (cA_sl, 4, .inr (.inr (.inr (.inr f_sl))))), (r0, .inr (6, [.int r0_width, .int r0_size, .ref r0_numbers])), (r1, .inr (6, [.int r1_width, .int r1_size, .ref r1_numbers])), (r2, .inr (6, [.int r2_width, .int r2_size, .ref r2_numbers])), (r3, .inr (6, [.int r3_width, .int r3_size, .ref r3_numbers]))]) hB ht hvm hP hD hK [0, 1, 4, 5, 6, 7] [2, 3] rfl 8 rfl (by decide +kernel) rfl (by decide +kernel) hk1 hFc
    generalize H1 = H at hP hS ⊢
    have hK : va_K (dC, dI) vwCl [(cA_sl, .object RX6)] s := hK
    exact W.iret (v := r_2) hx hb hr (fun t ht hW => by rw [← hQe]; exact ⟨⟨r_2, (), rfl, trivial, z_ret hP hK hD ht hW [2, 3, 0, 1, 4, 5, 6, 7] [] rfl (by decide) rfl⟩, hS.F ht⟩) hS.2.2 dX9_count_133
  · refine lv_tableOut (tgt := 134) hx hb dX9_count_9 (by first | with_reducible assumption | omega) (by decide) ?_
    refine lv_iconst (v := (-1)) hx hb dX9_count_134 (by decide) ?_
    exact W.iret (v := (-1)) hx hb hr (fun t ht hW => by rw [← hQe]; exact ⟨⟨(-1), (), rfl, trivial, z_ret hP hK hD ht hW [0, 1, 2, 3, 4, 5, 6, 7] [] rfl (by decide) rfl⟩, hS.F ht⟩) hS.2.2 dX9_count_135
