set_option linter.all false
theorem zw_s2_10 : Cond.selects RX2 yX2_enter yX2_enter ∈ zT := zs_2 (List.mem_of_getElem? (i := 10) (by decide +kernel))
theorem zw_s2_11 : Cond.selects RX2 yX2_setsWithOneOf yX2_setsWithOneOf ∈ zT := zs_2 (List.mem_of_getElem? (i := 11) (by decide +kernel))
theorem zw_s2_12 : Cond.selects RX2 yX2_comesToAll yX2_comesToAll ∈ zT := zs_2 (List.mem_of_getElem? (i := 12) (by decide +kernel))
theorem zw_s2_13 : Cond.selects RX2 yX2_comesTo yX2_comesTo ∈ zT := zs_2 (List.mem_of_getElem? (i := 13) (by decide +kernel))
theorem zw_t1_17 : Cond.initialized RJ6 ∈ zT := zt_1 (List.mem_of_getElem? (i := 17) (by decide +kernel)) (by decide +kernel)
theorem zw_t1_48 : Cond.fieldLink RX2 52 "NameGate$Town" "courts" "I" ∈ zT := zt_1 (List.mem_of_getElem? (i := 48) (by decide +kernel)) (by decide +kernel)
theorem zw_t1_6 : Cond.initialized RX2 ∈ zT := zt_1 (List.mem_of_getElem? (i := 6) (by decide +kernel)) (by decide +kernel)
theorem zw_t1_60 : Cond.fieldLink RX2 25 "NameGate$Town" "people" "I" ∈ zT := zt_1 (List.mem_of_getElem? (i := 60) (by decide +kernel)) (by decide +kernel)
theorem zw_t1_88 : Cond.fieldLink RX2 67 "NameGate$Town" "degrees" "[I" ∈ zT := zt_1 (List.mem_of_getElem? (i := 88) (by decide +kernel)) (by decide +kernel)
theorem zw_t1_92 : Cond.fieldLink RX2 71 "NameGate$Town" "neighbours" "[I" ∈ zT := zt_1 (List.mem_of_getElem? (i := 92) (by decide +kernel)) (by decide +kernel)
theorem zw_t2_51 : Cond.fieldLink RX2 12 "NameGate$Families" "town" "LNameGate$Town;" ∈ zT := zt_2 (List.mem_of_getElem? (i := 51) (by decide +kernel)) (by decide +kernel)
theorem zw_t2_52 : Cond.fieldLink RX2 35 "NameGate$Families" "words" "I" ∈ zT := zt_2 (List.mem_of_getElem? (i := 52) (by decide +kernel)) (by decide +kernel)
theorem zw_t2_53 : Cond.fieldLink RX2 18 "NameGate$Families" "here" "[J" ∈ zT := zt_2 (List.mem_of_getElem? (i := 53) (by decide +kernel)) (by decide +kernel)
theorem zw_t2_54 : Cond.fieldLink RX2 22 "NameGate$Families" "next" "[J" ∈ zT := zt_2 (List.mem_of_getElem? (i := 54) (by decide +kernel)) (by decide +kernel)
theorem zw_t3_202 : Cond.instanceMethod yX7_inside ∈ zT := zt_3 (List.mem_of_getElem? (i := 202) (by decide +kernel)) (by decide +kernel)
theorem zw_t3_203 : Cond.selects RX7 yX7_inside yX7_inside ∈ zT := zt_3 (List.mem_of_getElem? (i := 203) (by decide +kernel)) (by decide +kernel)
theorem zw_t3_204 : Cond.code yX7_inside cX7_inside 6 (some .int) ∈ zT := zt_3 (List.mem_of_getElem? (i := 204) (by decide +kernel)) (by decide +kernel)
theorem zw_t3_216 : Cond.static yJ6_bitCount_0f7a4 ∈ zT := zt_3 (List.mem_of_getElem? (i := 216) (by decide +kernel)) (by decide +kernel)
theorem zw_t3_217 : Cond.code yJ6_bitCount_0f7a4 cJ6_bitCount_0f7a4 1 (some .int) ∈ zT := zt_3 (List.mem_of_getElem? (i := 217) (by decide +kernel)) (by decide +kernel)
theorem zw_t3_226 : Cond.instanceMethod yX7_isFree ∈ zT := zt_3 (List.mem_of_getElem? (i := 226) (by decide +kernel)) (by decide +kernel)
theorem zw_t3_227 : Cond.selects RX7 yX7_isFree yX7_isFree ∈ zT := zt_3 (List.mem_of_getElem? (i := 227) (by decide +kernel)) (by decide +kernel)
theorem zw_t3_228 : Cond.code yX7_isFree cX7_isFree 3 (some .boolean) ∈ zT := zt_3 (List.mem_of_getElem? (i := 228) (by decide +kernel)) (by decide +kernel)
theorem zw_t4_124 : Cond.methodLink RX2 29 Lib.Math.max.name ∈ zT := zt_4 (List.mem_of_getElem? (i := 124) (by decide +kernel)) (by decide +kernel)
theorem zw_t4_125 : Cond.static Lib.Math.max.name ∈ zT := zt_4 (List.mem_of_getElem? (i := 125) (by decide +kernel)) (by decide +kernel)
theorem zw_t4_126 : Cond.code Lib.Math.max.name Lib.Math.max.code 2 (some .int) ∈ zT := zt_4 (List.mem_of_getElem? (i := 126) (by decide +kernel)) (by decide +kernel)
theorem zw_t4_127 : Cond.methodLink RX2 38 yJ7_fill_d0a16 ∈ zT := zt_4 (List.mem_of_getElem? (i := 127) (by decide +kernel)) (by decide +kernel)
theorem zw_t4_130 : Cond.constantLong RX2 44 (-1) ∈ zT := zt_4 (List.mem_of_getElem? (i := 130) (by decide +kernel)) (by decide +kernel)
theorem zw_t4_131 : Cond.methodLink RX2 46 arraycopyName ∈ zT := zt_4 (List.mem_of_getElem? (i := 131) (by decide +kernel)) (by decide +kernel)
theorem zw_t4_132 : Cond.methodLink RX2 55 yX7_inside ∈ zT := zt_4 (List.mem_of_getElem? (i := 132) (by decide +kernel)) (by decide +kernel)
theorem zw_t4_133 : Cond.methodLink RX2 59 yX2_enter ∈ zT := zt_4 (List.mem_of_getElem? (i := 133) (by decide +kernel)) (by decide +kernel)
theorem zw_t4_135 : Cond.instanceMethod yX2_enter ∈ zT := zt_4 (List.mem_of_getElem? (i := 135) (by decide +kernel)) (by decide +kernel)
theorem zw_t4_136 : Cond.code yX2_enter cX2_enter 10 none ∈ zT := zt_4 (List.mem_of_getElem? (i := 136) (by decide +kernel)) (by decide +kernel)
theorem zw_t4_137 : Cond.methodLink RX2 63 yX2_setsWithOneOf ∈ zT := zt_4 (List.mem_of_getElem? (i := 137) (by decide +kernel)) (by decide +kernel)
theorem zw_t4_139 : Cond.instanceMethod yX2_setsWithOneOf ∈ zT := zt_4 (List.mem_of_getElem? (i := 139) (by decide +kernel)) (by decide +kernel)
theorem zw_t4_140 : Cond.code yX2_setsWithOneOf cX2_setsWithOneOf 6 (some .long) ∈ zT := zt_4 (List.mem_of_getElem? (i := 140) (by decide +kernel)) (by decide +kernel)
theorem zw_t4_142 : Cond.methodLink RX2 81 yX2_setsWith ∈ zT := zt_4 (List.mem_of_getElem? (i := 142) (by decide +kernel)) (by decide +kernel)
theorem zw_t4_143 : Cond.static yX2_setsWith ∈ zT := zt_4 (List.mem_of_getElem? (i := 143) (by decide +kernel)) (by decide +kernel)
theorem zw_t4_144 : Cond.code yX2_setsWith cX2_setsWith 2 (some .long) ∈ zT := zt_4 (List.mem_of_getElem? (i := 144) (by decide +kernel)) (by decide +kernel)
theorem zw_t4_145 : Cond.fieldLink RX2 84 "NameGate$Families" "WITH_PERSON" "[J" ∈ zT := zt_4 (List.mem_of_getElem? (i := 145) (by decide +kernel)) (by decide +kernel)
theorem zw_t4_147 : Cond.methodLink RX2 74 yX7_isFree ∈ zT := zt_4 (List.mem_of_getElem? (i := 147) (by decide +kernel)) (by decide +kernel)
theorem zw_t4_152 : Cond.methodLink RX2 90 yX2_isFewer ∈ zT := zt_4 (List.mem_of_getElem? (i := 152) (by decide +kernel)) (by decide +kernel)
theorem zw_t4_153 : Cond.static yX2_isFewer ∈ zT := zt_4 (List.mem_of_getElem? (i := 153) (by decide +kernel)) (by decide +kernel)
theorem zw_t4_154 : Cond.code yX2_isFewer cX2_isFewer 2 (some .boolean) ∈ zT := zt_4 (List.mem_of_getElem? (i := 154) (by decide +kernel)) (by decide +kernel)
theorem zw_t4_155 : Cond.methodLink RX2 96 yJ6_bitCount_0f7a4 ∈ zT := zt_4 (List.mem_of_getElem? (i := 155) (by decide +kernel)) (by decide +kernel)
theorem zw_t4_156 : Cond.methodLink RX2 93 yX2_comesToAll ∈ zT := zt_4 (List.mem_of_getElem? (i := 156) (by decide +kernel)) (by decide +kernel)
theorem zw_t4_158 : Cond.instanceMethod yX2_comesToAll ∈ zT := zt_4 (List.mem_of_getElem? (i := 158) (by decide +kernel)) (by decide +kernel)
theorem zw_t4_159 : Cond.code yX2_comesToAll cX2_comesToAll 4 (some .boolean) ∈ zT := zt_4 (List.mem_of_getElem? (i := 159) (by decide +kernel)) (by decide +kernel)
theorem zw_t4_160 : Cond.methodLink RX2 87 yX2_comesTo ∈ zT := zt_4 (List.mem_of_getElem? (i := 160) (by decide +kernel)) (by decide +kernel)
theorem zw_t4_162 : Cond.instanceMethod yX2_comesTo ∈ zT := zt_4 (List.mem_of_getElem? (i := 162) (by decide +kernel)) (by decide +kernel)
theorem zw_t4_163 : Cond.code yX2_comesTo cX2_comesTo 3 (some .boolean) ∈ zT := zt_4 (List.mem_of_getElem? (i := 163) (by decide +kernel)) (by decide +kernel)
def bcX2_comesToAll_0 : List Nat := [3, 62, 29, 42, 180, 0, 12, 180, 0, 52, 162, 0, 28, 27, 29, 184, 0, 78, 153, 0, 14, 42, 29, 28, 182, 0, 87, 154, 0, 5, 3, 172, 132, 3, 1, 167, 255, 223, 4, 172]
theorem bcX2_comesToAll_0_ok : z_bys cX2_comesToAll 0 bcX2_comesToAll_0 = true := by decide +kernel
theorem dX2_comesToAll_0 : decode cX2_comesToAll 0 = .ok (.iconst 0, 1) := zo_3 (z_byk bcX2_comesToAll_0 0 0 _ bcX2_comesToAll_0_ok rfl)
theorem dX2_comesToAll_1 : decode cX2_comesToAll 1 = .ok (.istore_n 3, 1) := zo_62 (z_byk bcX2_comesToAll_0 0 1 _ bcX2_comesToAll_0_ok rfl)
theorem dX2_comesToAll_10 : decode cX2_comesToAll 10 = .ok (.if_icmp .ge 28, 3) := zo_162 (z_byk bcX2_comesToAll_0 0 10 _ bcX2_comesToAll_0_ok rfl) (z_byk bcX2_comesToAll_0 0 11 _ bcX2_comesToAll_0_ok rfl) (z_byk bcX2_comesToAll_0 0 12 _ bcX2_comesToAll_0_ok rfl) rfl
theorem dX2_comesToAll_13 : decode cX2_comesToAll 13 = .ok (.iload_n 1, 1) := zo_27 (z_byk bcX2_comesToAll_0 0 13 _ bcX2_comesToAll_0_ok rfl)
theorem dX2_comesToAll_14 : decode cX2_comesToAll 14 = .ok (.iload_n 3, 1) := zo_29 (z_byk bcX2_comesToAll_0 0 14 _ bcX2_comesToAll_0_ok rfl)
theorem dX2_comesToAll_15 : decode cX2_comesToAll 15 = .ok (.invokestatic 78, 3) := zo_184 (z_byk bcX2_comesToAll_0 0 15 _ bcX2_comesToAll_0_ok rfl) (z_byk bcX2_comesToAll_0 0 16 _ bcX2_comesToAll_0_ok rfl) (z_byk bcX2_comesToAll_0 0 17 _ bcX2_comesToAll_0_ok rfl) rfl
theorem dX2_comesToAll_18 : decode cX2_comesToAll 18 = .ok (.ifCond .eq 14, 3) := zo_153 (z_byk bcX2_comesToAll_0 0 18 _ bcX2_comesToAll_0_ok rfl) (z_byk bcX2_comesToAll_0 0 19 _ bcX2_comesToAll_0_ok rfl) (z_byk bcX2_comesToAll_0 0 20 _ bcX2_comesToAll_0_ok rfl) rfl
theorem dX2_comesToAll_2 : decode cX2_comesToAll 2 = .ok (.iload_n 3, 1) := zo_29 (z_byk bcX2_comesToAll_0 0 2 _ bcX2_comesToAll_0_ok rfl)
theorem dX2_comesToAll_21 : decode cX2_comesToAll 21 = .ok (.aload_n 0, 1) := zo_42 (z_byk bcX2_comesToAll_0 0 21 _ bcX2_comesToAll_0_ok rfl)
theorem dX2_comesToAll_22 : decode cX2_comesToAll 22 = .ok (.iload_n 3, 1) := zo_29 (z_byk bcX2_comesToAll_0 0 22 _ bcX2_comesToAll_0_ok rfl)
theorem dX2_comesToAll_23 : decode cX2_comesToAll 23 = .ok (.iload_n 2, 1) := zo_28 (z_byk bcX2_comesToAll_0 0 23 _ bcX2_comesToAll_0_ok rfl)
theorem dX2_comesToAll_24 : decode cX2_comesToAll 24 = .ok (.invokevirtual 87, 3) := zo_182 (z_byk bcX2_comesToAll_0 0 24 _ bcX2_comesToAll_0_ok rfl) (z_byk bcX2_comesToAll_0 0 25 _ bcX2_comesToAll_0_ok rfl) (z_byk bcX2_comesToAll_0 0 26 _ bcX2_comesToAll_0_ok rfl) rfl
theorem dX2_comesToAll_27 : decode cX2_comesToAll 27 = .ok (.ifCond .ne 5, 3) := zo_154 (z_byk bcX2_comesToAll_0 0 27 _ bcX2_comesToAll_0_ok rfl) (z_byk bcX2_comesToAll_0 0 28 _ bcX2_comesToAll_0_ok rfl) (z_byk bcX2_comesToAll_0 0 29 _ bcX2_comesToAll_0_ok rfl) rfl
theorem dX2_comesToAll_3 : decode cX2_comesToAll 3 = .ok (.aload_n 0, 1) := zo_42 (z_byk bcX2_comesToAll_0 0 3 _ bcX2_comesToAll_0_ok rfl)
theorem dX2_comesToAll_30 : decode cX2_comesToAll 30 = .ok (.iconst 0, 1) := zo_3 (z_byk bcX2_comesToAll_0 0 30 _ bcX2_comesToAll_0_ok rfl)
theorem dX2_comesToAll_31 : decode cX2_comesToAll 31 = .ok (.ireturn, 1) := zo_172 (z_byk bcX2_comesToAll_0 0 31 _ bcX2_comesToAll_0_ok rfl)
theorem dX2_comesToAll_32 : decode cX2_comesToAll 32 = .ok (.iinc 3 1, 3) := zo_132 (z_byk bcX2_comesToAll_0 0 32 _ bcX2_comesToAll_0_ok rfl) (z_byk bcX2_comesToAll_0 0 33 _ bcX2_comesToAll_0_ok rfl) (z_byk bcX2_comesToAll_0 0 34 _ bcX2_comesToAll_0_ok rfl) rfl
theorem dX2_comesToAll_35 : decode cX2_comesToAll 35 = .ok (.goto (-33), 3) := zo_167 (z_byk bcX2_comesToAll_0 0 35 _ bcX2_comesToAll_0_ok rfl) (z_byk bcX2_comesToAll_0 0 36 _ bcX2_comesToAll_0_ok rfl) (z_byk bcX2_comesToAll_0 0 37 _ bcX2_comesToAll_0_ok rfl) rfl
theorem dX2_comesToAll_38 : decode cX2_comesToAll 38 = .ok (.iconst 1, 1) := zo_4 (z_byk bcX2_comesToAll_0 0 38 _ bcX2_comesToAll_0_ok rfl)
theorem dX2_comesToAll_39 : decode cX2_comesToAll 39 = .ok (.ireturn, 1) := zo_172 (z_byk bcX2_comesToAll_0 0 39 _ bcX2_comesToAll_0_ok rfl)
theorem dX2_comesToAll_4 : decode cX2_comesToAll 4 = .ok (.getfield 12, 3) := zo_180 (z_byk bcX2_comesToAll_0 0 4 _ bcX2_comesToAll_0_ok rfl) (z_byk bcX2_comesToAll_0 0 5 _ bcX2_comesToAll_0_ok rfl) (z_byk bcX2_comesToAll_0 0 6 _ bcX2_comesToAll_0_ok rfl) rfl
theorem dX2_comesToAll_7 : decode cX2_comesToAll 7 = .ok (.getfield 52, 3) := zo_180 (z_byk bcX2_comesToAll_0 0 7 _ bcX2_comesToAll_0_ok rfl) (z_byk bcX2_comesToAll_0 0 8 _ bcX2_comesToAll_0_ok rfl) (z_byk bcX2_comesToAll_0 0 9 _ bcX2_comesToAll_0_ok rfl) rfl
def bcX2_comesTo_0 : List Nat := [42, 180, 0, 18, 27, 16, 16, 104, 28, 16, 64, 108, 96, 47, 28, 16, 64, 112, 125, 10, 127, 9, 148, 153, 0, 7, 4, 167, 0, 4, 3, 172]
theorem bcX2_comesTo_0_ok : z_bys cX2_comesTo 0 bcX2_comesTo_0 = true := by decide +kernel
theorem dX2_comesTo_0 : decode cX2_comesTo 0 = .ok (.aload_n 0, 1) := zo_42 (z_byk bcX2_comesTo_0 0 0 _ bcX2_comesTo_0_ok rfl)
theorem dX2_comesTo_1 : decode cX2_comesTo 1 = .ok (.getfield 18, 3) := zo_180 (z_byk bcX2_comesTo_0 0 1 _ bcX2_comesTo_0_ok rfl) (z_byk bcX2_comesTo_0 0 2 _ bcX2_comesTo_0_ok rfl) (z_byk bcX2_comesTo_0 0 3 _ bcX2_comesTo_0_ok rfl) rfl
theorem dX2_comesTo_11 : decode cX2_comesTo 11 = .ok (.idiv, 1) := zo_108 (z_byk bcX2_comesTo_0 0 11 _ bcX2_comesTo_0_ok rfl)
theorem dX2_comesTo_12 : decode cX2_comesTo 12 = .ok (.iadd, 1) := zo_96 (z_byk bcX2_comesTo_0 0 12 _ bcX2_comesTo_0_ok rfl)
theorem dX2_comesTo_13 : decode cX2_comesTo 13 = .ok (.laload, 1) := zo_47 (z_byk bcX2_comesTo_0 0 13 _ bcX2_comesTo_0_ok rfl)
theorem dX2_comesTo_14 : decode cX2_comesTo 14 = .ok (.iload_n 2, 1) := zo_28 (z_byk bcX2_comesTo_0 0 14 _ bcX2_comesTo_0_ok rfl)
theorem dX2_comesTo_15 : decode cX2_comesTo 15 = .ok (.bipush 64, 2) := zo_16 (z_byk bcX2_comesTo_0 0 15 _ bcX2_comesTo_0_ok rfl) (z_byk bcX2_comesTo_0 0 16 _ bcX2_comesTo_0_ok rfl) rfl
theorem dX2_comesTo_17 : decode cX2_comesTo 17 = .ok (.irem, 1) := zo_112 (z_byk bcX2_comesTo_0 0 17 _ bcX2_comesTo_0_ok rfl)
theorem dX2_comesTo_18 : decode cX2_comesTo 18 = .ok (.lushr, 1) := zo_125 (z_byk bcX2_comesTo_0 0 18 _ bcX2_comesTo_0_ok rfl)
theorem dX2_comesTo_19 : decode cX2_comesTo 19 = .ok (.lconst 1, 1) := zo_10 (z_byk bcX2_comesTo_0 0 19 _ bcX2_comesTo_0_ok rfl)
theorem dX2_comesTo_20 : decode cX2_comesTo 20 = .ok (.land, 1) := zo_127 (z_byk bcX2_comesTo_0 0 20 _ bcX2_comesTo_0_ok rfl)
theorem dX2_comesTo_21 : decode cX2_comesTo 21 = .ok (.lconst 0, 1) := zo_9 (z_byk bcX2_comesTo_0 0 21 _ bcX2_comesTo_0_ok rfl)
theorem dX2_comesTo_22 : decode cX2_comesTo 22 = .ok (.lcmp, 1) := zo_148 (z_byk bcX2_comesTo_0 0 22 _ bcX2_comesTo_0_ok rfl)
theorem dX2_comesTo_23 : decode cX2_comesTo 23 = .ok (.ifCond .eq 7, 3) := zo_153 (z_byk bcX2_comesTo_0 0 23 _ bcX2_comesTo_0_ok rfl) (z_byk bcX2_comesTo_0 0 24 _ bcX2_comesTo_0_ok rfl) (z_byk bcX2_comesTo_0 0 25 _ bcX2_comesTo_0_ok rfl) rfl
theorem dX2_comesTo_26 : decode cX2_comesTo 26 = .ok (.iconst 1, 1) := zo_4 (z_byk bcX2_comesTo_0 0 26 _ bcX2_comesTo_0_ok rfl)
theorem dX2_comesTo_27 : decode cX2_comesTo 27 = .ok (.goto 4, 3) := zo_167 (z_byk bcX2_comesTo_0 0 27 _ bcX2_comesTo_0_ok rfl) (z_byk bcX2_comesTo_0 0 28 _ bcX2_comesTo_0_ok rfl) (z_byk bcX2_comesTo_0 0 29 _ bcX2_comesTo_0_ok rfl) rfl
theorem dX2_comesTo_30 : decode cX2_comesTo 30 = .ok (.iconst 0, 1) := zo_3 (z_byk bcX2_comesTo_0 0 30 _ bcX2_comesTo_0_ok rfl)
theorem dX2_comesTo_31 : decode cX2_comesTo 31 = .ok (.ireturn, 1) := zo_172 (z_byk bcX2_comesTo_0 0 31 _ bcX2_comesTo_0_ok rfl)
theorem dX2_comesTo_4 : decode cX2_comesTo 4 = .ok (.iload_n 1, 1) := zo_27 (z_byk bcX2_comesTo_0 0 4 _ bcX2_comesTo_0_ok rfl)
theorem dX2_comesTo_5 : decode cX2_comesTo 5 = .ok (.bipush 16, 2) := zo_16 (z_byk bcX2_comesTo_0 0 5 _ bcX2_comesTo_0_ok rfl) (z_byk bcX2_comesTo_0 0 6 _ bcX2_comesTo_0_ok rfl) rfl
theorem dX2_comesTo_7 : decode cX2_comesTo 7 = .ok (.imul, 1) := zo_104 (z_byk bcX2_comesTo_0 0 7 _ bcX2_comesTo_0_ok rfl)
theorem dX2_comesTo_8 : decode cX2_comesTo 8 = .ok (.iload_n 2, 1) := zo_28 (z_byk bcX2_comesTo_0 0 8 _ bcX2_comesTo_0_ok rfl)
theorem dX2_comesTo_9 : decode cX2_comesTo 9 = .ok (.bipush 64, 2) := zo_16 (z_byk bcX2_comesTo_0 0 9 _ bcX2_comesTo_0_ok rfl) (z_byk bcX2_comesTo_0 0 10 _ bcX2_comesTo_0_ok rfl) rfl
def bcX2_enter_0 : List Nat := [3, 62, 29, 42, 180, 0, 35, 162, 0, 109, 42, 28, 29, 182, 0, 63, 55, 4, 3, 54, 6, 21, 6, 42, 180, 0, 12, 180, 0, 67, 27, 46, 162, 0, 78, 42, 180, 0, 12, 180, 0, 71, 27, 16, 10, 104, 21, 6, 96, 46, 54, 7, 42, 180, 0, 12, 21, 7, 27, 182]
theorem bcX2_enter_0_ok : z_bys cX2_enter 0 bcX2_enter_0 = true := by decide +kernel
def bcX2_enter_60 : List Nat := [0, 74, 153, 0, 9, 20, 0, 44, 167, 0, 5, 22, 4, 55, 8, 42, 180, 0, 22, 27, 16, 16, 104, 29, 96, 92, 47, 42, 180, 0, 18, 21, 7, 16, 16, 104, 29, 96, 47, 22, 8, 127, 129, 80, 132, 6, 1, 167, 255, 170, 132, 3, 1, 167, 255, 145, 177]
theorem bcX2_enter_60_ok : z_bys cX2_enter 60 bcX2_enter_60 = true := by decide +kernel
theorem dX2_enter_0 : decode cX2_enter 0 = .ok (.iconst 0, 1) := zo_3 (z_byk bcX2_enter_0 0 0 _ bcX2_enter_0_ok rfl)
theorem dX2_enter_1 : decode cX2_enter 1 = .ok (.istore_n 3, 1) := zo_62 (z_byk bcX2_enter_0 0 1 _ bcX2_enter_0_ok rfl)
theorem dX2_enter_10 : decode cX2_enter 10 = .ok (.aload_n 0, 1) := zo_42 (z_byk bcX2_enter_0 0 10 _ bcX2_enter_0_ok rfl)
theorem dX2_enter_101 : decode cX2_enter 101 = .ok (.land, 1) := zo_127 (z_byk bcX2_enter_60 60 41 _ bcX2_enter_60_ok rfl)
theorem dX2_enter_102 : decode cX2_enter 102 = .ok (.lor, 1) := zo_129 (z_byk bcX2_enter_60 60 42 _ bcX2_enter_60_ok rfl)
theorem dX2_enter_103 : decode cX2_enter 103 = .ok (.lastore, 1) := zo_80 (z_byk bcX2_enter_60 60 43 _ bcX2_enter_60_ok rfl)
theorem dX2_enter_104 : decode cX2_enter 104 = .ok (.iinc 6 1, 3) := zo_132 (z_byk bcX2_enter_60 60 44 _ bcX2_enter_60_ok rfl) (z_byk bcX2_enter_60 60 45 _ bcX2_enter_60_ok rfl) (z_byk bcX2_enter_60 60 46 _ bcX2_enter_60_ok rfl) rfl
theorem dX2_enter_107 : decode cX2_enter 107 = .ok (.goto (-86), 3) := zo_167 (z_byk bcX2_enter_60 60 47 _ bcX2_enter_60_ok rfl) (z_byk bcX2_enter_60 60 48 _ bcX2_enter_60_ok rfl) (z_byk bcX2_enter_60 60 49 _ bcX2_enter_60_ok rfl) rfl
theorem dX2_enter_11 : decode cX2_enter 11 = .ok (.iload_n 2, 1) := zo_28 (z_byk bcX2_enter_0 0 11 _ bcX2_enter_0_ok rfl)
theorem dX2_enter_110 : decode cX2_enter 110 = .ok (.iinc 3 1, 3) := zo_132 (z_byk bcX2_enter_60 60 50 _ bcX2_enter_60_ok rfl) (z_byk bcX2_enter_60 60 51 _ bcX2_enter_60_ok rfl) (z_byk bcX2_enter_60 60 52 _ bcX2_enter_60_ok rfl) rfl
theorem dX2_enter_113 : decode cX2_enter 113 = .ok (.goto (-111), 3) := zo_167 (z_byk bcX2_enter_60 60 53 _ bcX2_enter_60_ok rfl) (z_byk bcX2_enter_60 60 54 _ bcX2_enter_60_ok rfl) (z_byk bcX2_enter_60 60 55 _ bcX2_enter_60_ok rfl) rfl
theorem dX2_enter_116 : decode cX2_enter 116 = .ok (.return_, 1) := zo_177 (z_byk bcX2_enter_60 60 56 _ bcX2_enter_60_ok rfl)
theorem dX2_enter_12 : decode cX2_enter 12 = .ok (.iload_n 3, 1) := zo_29 (z_byk bcX2_enter_0 0 12 _ bcX2_enter_0_ok rfl)
theorem dX2_enter_13 : decode cX2_enter 13 = .ok (.invokevirtual 63, 3) := zo_182 (z_byk bcX2_enter_0 0 13 _ bcX2_enter_0_ok rfl) (z_byk bcX2_enter_0 0 14 _ bcX2_enter_0_ok rfl) (z_byk bcX2_enter_0 0 15 _ bcX2_enter_0_ok rfl) rfl
theorem dX2_enter_16 : decode cX2_enter 16 = .ok (.lstore 4, 2) := zo_55 (z_byk bcX2_enter_0 0 16 _ bcX2_enter_0_ok rfl) (z_byk bcX2_enter_0 0 17 _ bcX2_enter_0_ok rfl)
theorem dX2_enter_18 : decode cX2_enter 18 = .ok (.iconst 0, 1) := zo_3 (z_byk bcX2_enter_0 0 18 _ bcX2_enter_0_ok rfl)
theorem dX2_enter_19 : decode cX2_enter 19 = .ok (.istore 6, 2) := zo_54 (z_byk bcX2_enter_0 0 19 _ bcX2_enter_0_ok rfl) (z_byk bcX2_enter_0 0 20 _ bcX2_enter_0_ok rfl)
theorem dX2_enter_2 : decode cX2_enter 2 = .ok (.iload_n 3, 1) := zo_29 (z_byk bcX2_enter_0 0 2 _ bcX2_enter_0_ok rfl)
theorem dX2_enter_21 : decode cX2_enter 21 = .ok (.iload 6, 2) := zo_21 (z_byk bcX2_enter_0 0 21 _ bcX2_enter_0_ok rfl) (z_byk bcX2_enter_0 0 22 _ bcX2_enter_0_ok rfl)
theorem dX2_enter_23 : decode cX2_enter 23 = .ok (.aload_n 0, 1) := zo_42 (z_byk bcX2_enter_0 0 23 _ bcX2_enter_0_ok rfl)
theorem dX2_enter_24 : decode cX2_enter 24 = .ok (.getfield 12, 3) := zo_180 (z_byk bcX2_enter_0 0 24 _ bcX2_enter_0_ok rfl) (z_byk bcX2_enter_0 0 25 _ bcX2_enter_0_ok rfl) (z_byk bcX2_enter_0 0 26 _ bcX2_enter_0_ok rfl) rfl
theorem dX2_enter_27 : decode cX2_enter 27 = .ok (.getfield 67, 3) := zo_180 (z_byk bcX2_enter_0 0 27 _ bcX2_enter_0_ok rfl) (z_byk bcX2_enter_0 0 28 _ bcX2_enter_0_ok rfl) (z_byk bcX2_enter_0 0 29 _ bcX2_enter_0_ok rfl) rfl
theorem dX2_enter_3 : decode cX2_enter 3 = .ok (.aload_n 0, 1) := zo_42 (z_byk bcX2_enter_0 0 3 _ bcX2_enter_0_ok rfl)
theorem dX2_enter_30 : decode cX2_enter 30 = .ok (.iload_n 1, 1) := zo_27 (z_byk bcX2_enter_0 0 30 _ bcX2_enter_0_ok rfl)
theorem dX2_enter_31 : decode cX2_enter 31 = .ok (.iaload, 1) := zo_46 (z_byk bcX2_enter_0 0 31 _ bcX2_enter_0_ok rfl)
theorem dX2_enter_32 : decode cX2_enter 32 = .ok (.if_icmp .ge 78, 3) := zo_162 (z_byk bcX2_enter_0 0 32 _ bcX2_enter_0_ok rfl) (z_byk bcX2_enter_0 0 33 _ bcX2_enter_0_ok rfl) (z_byk bcX2_enter_0 0 34 _ bcX2_enter_0_ok rfl) rfl
theorem dX2_enter_35 : decode cX2_enter 35 = .ok (.aload_n 0, 1) := zo_42 (z_byk bcX2_enter_0 0 35 _ bcX2_enter_0_ok rfl)
theorem dX2_enter_36 : decode cX2_enter 36 = .ok (.getfield 12, 3) := zo_180 (z_byk bcX2_enter_0 0 36 _ bcX2_enter_0_ok rfl) (z_byk bcX2_enter_0 0 37 _ bcX2_enter_0_ok rfl) (z_byk bcX2_enter_0 0 38 _ bcX2_enter_0_ok rfl) rfl
theorem dX2_enter_39 : decode cX2_enter 39 = .ok (.getfield 71, 3) := zo_180 (z_byk bcX2_enter_0 0 39 _ bcX2_enter_0_ok rfl) (z_byk bcX2_enter_0 0 40 _ bcX2_enter_0_ok rfl) (z_byk bcX2_enter_0 0 41 _ bcX2_enter_0_ok rfl) rfl
theorem dX2_enter_4 : decode cX2_enter 4 = .ok (.getfield 35, 3) := zo_180 (z_byk bcX2_enter_0 0 4 _ bcX2_enter_0_ok rfl) (z_byk bcX2_enter_0 0 5 _ bcX2_enter_0_ok rfl) (z_byk bcX2_enter_0 0 6 _ bcX2_enter_0_ok rfl) rfl
theorem dX2_enter_42 : decode cX2_enter 42 = .ok (.iload_n 1, 1) := zo_27 (z_byk bcX2_enter_0 0 42 _ bcX2_enter_0_ok rfl)
theorem dX2_enter_43 : decode cX2_enter 43 = .ok (.bipush 10, 2) := zo_16 (z_byk bcX2_enter_0 0 43 _ bcX2_enter_0_ok rfl) (z_byk bcX2_enter_0 0 44 _ bcX2_enter_0_ok rfl) rfl
theorem dX2_enter_45 : decode cX2_enter 45 = .ok (.imul, 1) := zo_104 (z_byk bcX2_enter_0 0 45 _ bcX2_enter_0_ok rfl)
theorem dX2_enter_46 : decode cX2_enter 46 = .ok (.iload 6, 2) := zo_21 (z_byk bcX2_enter_0 0 46 _ bcX2_enter_0_ok rfl) (z_byk bcX2_enter_0 0 47 _ bcX2_enter_0_ok rfl)
theorem dX2_enter_48 : decode cX2_enter 48 = .ok (.iadd, 1) := zo_96 (z_byk bcX2_enter_0 0 48 _ bcX2_enter_0_ok rfl)
theorem dX2_enter_49 : decode cX2_enter 49 = .ok (.iaload, 1) := zo_46 (z_byk bcX2_enter_0 0 49 _ bcX2_enter_0_ok rfl)
theorem dX2_enter_50 : decode cX2_enter 50 = .ok (.istore 7, 2) := zo_54 (z_byk bcX2_enter_0 0 50 _ bcX2_enter_0_ok rfl) (z_byk bcX2_enter_0 0 51 _ bcX2_enter_0_ok rfl)
theorem dX2_enter_52 : decode cX2_enter 52 = .ok (.aload_n 0, 1) := zo_42 (z_byk bcX2_enter_0 0 52 _ bcX2_enter_0_ok rfl)
theorem dX2_enter_53 : decode cX2_enter 53 = .ok (.getfield 12, 3) := zo_180 (z_byk bcX2_enter_0 0 53 _ bcX2_enter_0_ok rfl) (z_byk bcX2_enter_0 0 54 _ bcX2_enter_0_ok rfl) (z_byk bcX2_enter_0 0 55 _ bcX2_enter_0_ok rfl) rfl
theorem dX2_enter_56 : decode cX2_enter 56 = .ok (.iload 7, 2) := zo_21 (z_byk bcX2_enter_0 0 56 _ bcX2_enter_0_ok rfl) (z_byk bcX2_enter_0 0 57 _ bcX2_enter_0_ok rfl)
theorem dX2_enter_58 : decode cX2_enter 58 = .ok (.iload_n 1, 1) := zo_27 (z_byk bcX2_enter_0 0 58 _ bcX2_enter_0_ok rfl)
theorem dX2_enter_59 : decode cX2_enter 59 = .ok (.invokevirtual 74, 3) := zo_182 (z_byk bcX2_enter_0 0 59 _ bcX2_enter_0_ok rfl) (z_byk bcX2_enter_60 60 0 _ bcX2_enter_60_ok rfl) (z_byk bcX2_enter_60 60 1 _ bcX2_enter_60_ok rfl) rfl
theorem dX2_enter_62 : decode cX2_enter 62 = .ok (.ifCond .eq 9, 3) := zo_153 (z_byk bcX2_enter_60 60 2 _ bcX2_enter_60_ok rfl) (z_byk bcX2_enter_60 60 3 _ bcX2_enter_60_ok rfl) (z_byk bcX2_enter_60 60 4 _ bcX2_enter_60_ok rfl) rfl
theorem dX2_enter_65 : decode cX2_enter 65 = .ok (.ldc2_w 44, 3) := zo_20 (z_byk bcX2_enter_60 60 5 _ bcX2_enter_60_ok rfl) (z_byk bcX2_enter_60 60 6 _ bcX2_enter_60_ok rfl) (z_byk bcX2_enter_60 60 7 _ bcX2_enter_60_ok rfl) rfl
theorem dX2_enter_68 : decode cX2_enter 68 = .ok (.goto 5, 3) := zo_167 (z_byk bcX2_enter_60 60 8 _ bcX2_enter_60_ok rfl) (z_byk bcX2_enter_60 60 9 _ bcX2_enter_60_ok rfl) (z_byk bcX2_enter_60 60 10 _ bcX2_enter_60_ok rfl) rfl
theorem dX2_enter_7 : decode cX2_enter 7 = .ok (.if_icmp .ge 109, 3) := zo_162 (z_byk bcX2_enter_0 0 7 _ bcX2_enter_0_ok rfl) (z_byk bcX2_enter_0 0 8 _ bcX2_enter_0_ok rfl) (z_byk bcX2_enter_0 0 9 _ bcX2_enter_0_ok rfl) rfl
theorem dX2_enter_71 : decode cX2_enter 71 = .ok (.lload 4, 2) := zo_22 (z_byk bcX2_enter_60 60 11 _ bcX2_enter_60_ok rfl) (z_byk bcX2_enter_60 60 12 _ bcX2_enter_60_ok rfl)
theorem dX2_enter_73 : decode cX2_enter 73 = .ok (.lstore 8, 2) := zo_55 (z_byk bcX2_enter_60 60 13 _ bcX2_enter_60_ok rfl) (z_byk bcX2_enter_60 60 14 _ bcX2_enter_60_ok rfl)
theorem dX2_enter_75 : decode cX2_enter 75 = .ok (.aload_n 0, 1) := zo_42 (z_byk bcX2_enter_60 60 15 _ bcX2_enter_60_ok rfl)
theorem dX2_enter_76 : decode cX2_enter 76 = .ok (.getfield 22, 3) := zo_180 (z_byk bcX2_enter_60 60 16 _ bcX2_enter_60_ok rfl) (z_byk bcX2_enter_60 60 17 _ bcX2_enter_60_ok rfl) (z_byk bcX2_enter_60 60 18 _ bcX2_enter_60_ok rfl) rfl
theorem dX2_enter_79 : decode cX2_enter 79 = .ok (.iload_n 1, 1) := zo_27 (z_byk bcX2_enter_60 60 19 _ bcX2_enter_60_ok rfl)
theorem dX2_enter_80 : decode cX2_enter 80 = .ok (.bipush 16, 2) := zo_16 (z_byk bcX2_enter_60 60 20 _ bcX2_enter_60_ok rfl) (z_byk bcX2_enter_60 60 21 _ bcX2_enter_60_ok rfl) rfl
theorem dX2_enter_82 : decode cX2_enter 82 = .ok (.imul, 1) := zo_104 (z_byk bcX2_enter_60 60 22 _ bcX2_enter_60_ok rfl)
theorem dX2_enter_83 : decode cX2_enter 83 = .ok (.iload_n 3, 1) := zo_29 (z_byk bcX2_enter_60 60 23 _ bcX2_enter_60_ok rfl)
theorem dX2_enter_84 : decode cX2_enter 84 = .ok (.iadd, 1) := zo_96 (z_byk bcX2_enter_60 60 24 _ bcX2_enter_60_ok rfl)
theorem dX2_enter_85 : decode cX2_enter 85 = .ok (.dup2, 1) := zo_92 (z_byk bcX2_enter_60 60 25 _ bcX2_enter_60_ok rfl)
theorem dX2_enter_86 : decode cX2_enter 86 = .ok (.laload, 1) := zo_47 (z_byk bcX2_enter_60 60 26 _ bcX2_enter_60_ok rfl)
theorem dX2_enter_87 : decode cX2_enter 87 = .ok (.aload_n 0, 1) := zo_42 (z_byk bcX2_enter_60 60 27 _ bcX2_enter_60_ok rfl)
theorem dX2_enter_88 : decode cX2_enter 88 = .ok (.getfield 18, 3) := zo_180 (z_byk bcX2_enter_60 60 28 _ bcX2_enter_60_ok rfl) (z_byk bcX2_enter_60 60 29 _ bcX2_enter_60_ok rfl) (z_byk bcX2_enter_60 60 30 _ bcX2_enter_60_ok rfl) rfl
theorem dX2_enter_91 : decode cX2_enter 91 = .ok (.iload 7, 2) := zo_21 (z_byk bcX2_enter_60 60 31 _ bcX2_enter_60_ok rfl) (z_byk bcX2_enter_60 60 32 _ bcX2_enter_60_ok rfl)
theorem dX2_enter_93 : decode cX2_enter 93 = .ok (.bipush 16, 2) := zo_16 (z_byk bcX2_enter_60 60 33 _ bcX2_enter_60_ok rfl) (z_byk bcX2_enter_60 60 34 _ bcX2_enter_60_ok rfl) rfl
theorem dX2_enter_95 : decode cX2_enter 95 = .ok (.imul, 1) := zo_104 (z_byk bcX2_enter_60 60 35 _ bcX2_enter_60_ok rfl)
theorem dX2_enter_96 : decode cX2_enter 96 = .ok (.iload_n 3, 1) := zo_29 (z_byk bcX2_enter_60 60 36 _ bcX2_enter_60_ok rfl)
theorem dX2_enter_97 : decode cX2_enter 97 = .ok (.iadd, 1) := zo_96 (z_byk bcX2_enter_60 60 37 _ bcX2_enter_60_ok rfl)
theorem dX2_enter_98 : decode cX2_enter 98 = .ok (.laload, 1) := zo_47 (z_byk bcX2_enter_60 60 38 _ bcX2_enter_60_ok rfl)
theorem dX2_enter_99 : decode cX2_enter 99 = .ok (.lload 8, 2) := zo_22 (z_byk bcX2_enter_60 60 39 _ bcX2_enter_60_ok rfl) (z_byk bcX2_enter_60 60 40 _ bcX2_enter_60_ok rfl)
def bcX2_isFewer_0 : List Nat := [27, 2, 159, 0, 14, 26, 184, 0, 96, 27, 184, 0, 96, 162, 0, 7, 4, 167, 0, 4, 3, 172]
theorem bcX2_isFewer_0_ok : z_bys cX2_isFewer 0 bcX2_isFewer_0 = true := by decide +kernel
theorem dX2_isFewer_0 : decode cX2_isFewer 0 = .ok (.iload_n 1, 1) := zo_27 (z_byk bcX2_isFewer_0 0 0 _ bcX2_isFewer_0_ok rfl)
theorem dX2_isFewer_1 : decode cX2_isFewer 1 = .ok (.iconst (-1), 1) := zo_2 (z_byk bcX2_isFewer_0 0 1 _ bcX2_isFewer_0_ok rfl)
theorem dX2_isFewer_10 : decode cX2_isFewer 10 = .ok (.invokestatic 96, 3) := zo_184 (z_byk bcX2_isFewer_0 0 10 _ bcX2_isFewer_0_ok rfl) (z_byk bcX2_isFewer_0 0 11 _ bcX2_isFewer_0_ok rfl) (z_byk bcX2_isFewer_0 0 12 _ bcX2_isFewer_0_ok rfl) rfl
theorem dX2_isFewer_13 : decode cX2_isFewer 13 = .ok (.if_icmp .ge 7, 3) := zo_162 (z_byk bcX2_isFewer_0 0 13 _ bcX2_isFewer_0_ok rfl) (z_byk bcX2_isFewer_0 0 14 _ bcX2_isFewer_0_ok rfl) (z_byk bcX2_isFewer_0 0 15 _ bcX2_isFewer_0_ok rfl) rfl
theorem dX2_isFewer_16 : decode cX2_isFewer 16 = .ok (.iconst 1, 1) := zo_4 (z_byk bcX2_isFewer_0 0 16 _ bcX2_isFewer_0_ok rfl)
theorem dX2_isFewer_17 : decode cX2_isFewer 17 = .ok (.goto 4, 3) := zo_167 (z_byk bcX2_isFewer_0 0 17 _ bcX2_isFewer_0_ok rfl) (z_byk bcX2_isFewer_0 0 18 _ bcX2_isFewer_0_ok rfl) (z_byk bcX2_isFewer_0 0 19 _ bcX2_isFewer_0_ok rfl) rfl
theorem dX2_isFewer_2 : decode cX2_isFewer 2 = .ok (.if_icmp .eq 14, 3) := zo_159 (z_byk bcX2_isFewer_0 0 2 _ bcX2_isFewer_0_ok rfl) (z_byk bcX2_isFewer_0 0 3 _ bcX2_isFewer_0_ok rfl) (z_byk bcX2_isFewer_0 0 4 _ bcX2_isFewer_0_ok rfl) rfl
theorem dX2_isFewer_20 : decode cX2_isFewer 20 = .ok (.iconst 0, 1) := zo_3 (z_byk bcX2_isFewer_0 0 20 _ bcX2_isFewer_0_ok rfl)
theorem dX2_isFewer_21 : decode cX2_isFewer 21 = .ok (.ireturn, 1) := zo_172 (z_byk bcX2_isFewer_0 0 21 _ bcX2_isFewer_0_ok rfl)
theorem dX2_isFewer_5 : decode cX2_isFewer 5 = .ok (.iload_n 0, 1) := zo_26 (z_byk bcX2_isFewer_0 0 5 _ bcX2_isFewer_0_ok rfl)
theorem dX2_isFewer_6 : decode cX2_isFewer 6 = .ok (.invokestatic 96, 3) := zo_184 (z_byk bcX2_isFewer_0 0 6 _ bcX2_isFewer_0_ok rfl) (z_byk bcX2_isFewer_0 0 7 _ bcX2_isFewer_0_ok rfl) (z_byk bcX2_isFewer_0 0 8 _ bcX2_isFewer_0_ok rfl) rfl
theorem dX2_isFewer_9 : decode cX2_isFewer 9 = .ok (.iload_n 1, 1) := zo_27 (z_byk bcX2_isFewer_0 0 9 _ bcX2_isFewer_0_ok rfl)
def bcX2_leastLossFor_0 : List Nat := [2, 62, 3, 54, 4, 21, 4, 4, 42, 180, 0, 12, 180, 0, 25, 120, 162, 0, 35, 21, 4, 29, 184, 0, 90, 153, 0, 20, 42, 27, 28, 21, 4, 2, 130, 126, 182, 0, 87, 154, 0, 6, 21, 4, 62, 132, 4, 1, 167, 255, 213, 29, 172]
theorem bcX2_leastLossFor_0_ok : z_bys cX2_leastLossFor 0 bcX2_leastLossFor_0 = true := by decide +kernel
theorem dX2_leastLossFor_0 : decode cX2_leastLossFor 0 = .ok (.iconst (-1), 1) := zo_2 (z_byk bcX2_leastLossFor_0 0 0 _ bcX2_leastLossFor_0_ok rfl)
theorem dX2_leastLossFor_1 : decode cX2_leastLossFor 1 = .ok (.istore_n 3, 1) := zo_62 (z_byk bcX2_leastLossFor_0 0 1 _ bcX2_leastLossFor_0_ok rfl)
theorem dX2_leastLossFor_12 : decode cX2_leastLossFor 12 = .ok (.getfield 25, 3) := zo_180 (z_byk bcX2_leastLossFor_0 0 12 _ bcX2_leastLossFor_0_ok rfl) (z_byk bcX2_leastLossFor_0 0 13 _ bcX2_leastLossFor_0_ok rfl) (z_byk bcX2_leastLossFor_0 0 14 _ bcX2_leastLossFor_0_ok rfl) rfl
theorem dX2_leastLossFor_15 : decode cX2_leastLossFor 15 = .ok (.ishl, 1) := zo_120 (z_byk bcX2_leastLossFor_0 0 15 _ bcX2_leastLossFor_0_ok rfl)
theorem dX2_leastLossFor_16 : decode cX2_leastLossFor 16 = .ok (.if_icmp .ge 35, 3) := zo_162 (z_byk bcX2_leastLossFor_0 0 16 _ bcX2_leastLossFor_0_ok rfl) (z_byk bcX2_leastLossFor_0 0 17 _ bcX2_leastLossFor_0_ok rfl) (z_byk bcX2_leastLossFor_0 0 18 _ bcX2_leastLossFor_0_ok rfl) rfl
theorem dX2_leastLossFor_19 : decode cX2_leastLossFor 19 = .ok (.iload 4, 2) := zo_21 (z_byk bcX2_leastLossFor_0 0 19 _ bcX2_leastLossFor_0_ok rfl) (z_byk bcX2_leastLossFor_0 0 20 _ bcX2_leastLossFor_0_ok rfl)
theorem dX2_leastLossFor_2 : decode cX2_leastLossFor 2 = .ok (.iconst 0, 1) := zo_3 (z_byk bcX2_leastLossFor_0 0 2 _ bcX2_leastLossFor_0_ok rfl)
theorem dX2_leastLossFor_21 : decode cX2_leastLossFor 21 = .ok (.iload_n 3, 1) := zo_29 (z_byk bcX2_leastLossFor_0 0 21 _ bcX2_leastLossFor_0_ok rfl)
theorem dX2_leastLossFor_22 : decode cX2_leastLossFor 22 = .ok (.invokestatic 90, 3) := zo_184 (z_byk bcX2_leastLossFor_0 0 22 _ bcX2_leastLossFor_0_ok rfl) (z_byk bcX2_leastLossFor_0 0 23 _ bcX2_leastLossFor_0_ok rfl) (z_byk bcX2_leastLossFor_0 0 24 _ bcX2_leastLossFor_0_ok rfl) rfl
theorem dX2_leastLossFor_25 : decode cX2_leastLossFor 25 = .ok (.ifCond .eq 20, 3) := zo_153 (z_byk bcX2_leastLossFor_0 0 25 _ bcX2_leastLossFor_0_ok rfl) (z_byk bcX2_leastLossFor_0 0 26 _ bcX2_leastLossFor_0_ok rfl) (z_byk bcX2_leastLossFor_0 0 27 _ bcX2_leastLossFor_0_ok rfl) rfl
theorem dX2_leastLossFor_28 : decode cX2_leastLossFor 28 = .ok (.aload_n 0, 1) := zo_42 (z_byk bcX2_leastLossFor_0 0 28 _ bcX2_leastLossFor_0_ok rfl)
theorem dX2_leastLossFor_29 : decode cX2_leastLossFor 29 = .ok (.iload_n 1, 1) := zo_27 (z_byk bcX2_leastLossFor_0 0 29 _ bcX2_leastLossFor_0_ok rfl)
theorem dX2_leastLossFor_3 : decode cX2_leastLossFor 3 = .ok (.istore 4, 2) := zo_54 (z_byk bcX2_leastLossFor_0 0 3 _ bcX2_leastLossFor_0_ok rfl) (z_byk bcX2_leastLossFor_0 0 4 _ bcX2_leastLossFor_0_ok rfl)
theorem dX2_leastLossFor_30 : decode cX2_leastLossFor 30 = .ok (.iload_n 2, 1) := zo_28 (z_byk bcX2_leastLossFor_0 0 30 _ bcX2_leastLossFor_0_ok rfl)
theorem dX2_leastLossFor_31 : decode cX2_leastLossFor 31 = .ok (.iload 4, 2) := zo_21 (z_byk bcX2_leastLossFor_0 0 31 _ bcX2_leastLossFor_0_ok rfl) (z_byk bcX2_leastLossFor_0 0 32 _ bcX2_leastLossFor_0_ok rfl)
theorem dX2_leastLossFor_33 : decode cX2_leastLossFor 33 = .ok (.iconst (-1), 1) := zo_2 (z_byk bcX2_leastLossFor_0 0 33 _ bcX2_leastLossFor_0_ok rfl)
theorem dX2_leastLossFor_34 : decode cX2_leastLossFor 34 = .ok (.ixor, 1) := zo_130 (z_byk bcX2_leastLossFor_0 0 34 _ bcX2_leastLossFor_0_ok rfl)
theorem dX2_leastLossFor_35 : decode cX2_leastLossFor 35 = .ok (.iand, 1) := zo_126 (z_byk bcX2_leastLossFor_0 0 35 _ bcX2_leastLossFor_0_ok rfl)
theorem dX2_leastLossFor_36 : decode cX2_leastLossFor 36 = .ok (.invokevirtual 87, 3) := zo_182 (z_byk bcX2_leastLossFor_0 0 36 _ bcX2_leastLossFor_0_ok rfl) (z_byk bcX2_leastLossFor_0 0 37 _ bcX2_leastLossFor_0_ok rfl) (z_byk bcX2_leastLossFor_0 0 38 _ bcX2_leastLossFor_0_ok rfl) rfl
theorem dX2_leastLossFor_39 : decode cX2_leastLossFor 39 = .ok (.ifCond .ne 6, 3) := zo_154 (z_byk bcX2_leastLossFor_0 0 39 _ bcX2_leastLossFor_0_ok rfl) (z_byk bcX2_leastLossFor_0 0 40 _ bcX2_leastLossFor_0_ok rfl) (z_byk bcX2_leastLossFor_0 0 41 _ bcX2_leastLossFor_0_ok rfl) rfl
theorem dX2_leastLossFor_42 : decode cX2_leastLossFor 42 = .ok (.iload 4, 2) := zo_21 (z_byk bcX2_leastLossFor_0 0 42 _ bcX2_leastLossFor_0_ok rfl) (z_byk bcX2_leastLossFor_0 0 43 _ bcX2_leastLossFor_0_ok rfl)
theorem dX2_leastLossFor_44 : decode cX2_leastLossFor 44 = .ok (.istore_n 3, 1) := zo_62 (z_byk bcX2_leastLossFor_0 0 44 _ bcX2_leastLossFor_0_ok rfl)
theorem dX2_leastLossFor_45 : decode cX2_leastLossFor 45 = .ok (.iinc 4 1, 3) := zo_132 (z_byk bcX2_leastLossFor_0 0 45 _ bcX2_leastLossFor_0_ok rfl) (z_byk bcX2_leastLossFor_0 0 46 _ bcX2_leastLossFor_0_ok rfl) (z_byk bcX2_leastLossFor_0 0 47 _ bcX2_leastLossFor_0_ok rfl) rfl
theorem dX2_leastLossFor_48 : decode cX2_leastLossFor 48 = .ok (.goto (-43), 3) := zo_167 (z_byk bcX2_leastLossFor_0 0 48 _ bcX2_leastLossFor_0_ok rfl) (z_byk bcX2_leastLossFor_0 0 49 _ bcX2_leastLossFor_0_ok rfl) (z_byk bcX2_leastLossFor_0 0 50 _ bcX2_leastLossFor_0_ok rfl) rfl
theorem dX2_leastLossFor_5 : decode cX2_leastLossFor 5 = .ok (.iload 4, 2) := zo_21 (z_byk bcX2_leastLossFor_0 0 5 _ bcX2_leastLossFor_0_ok rfl) (z_byk bcX2_leastLossFor_0 0 6 _ bcX2_leastLossFor_0_ok rfl)
theorem dX2_leastLossFor_51 : decode cX2_leastLossFor 51 = .ok (.iload_n 3, 1) := zo_29 (z_byk bcX2_leastLossFor_0 0 51 _ bcX2_leastLossFor_0_ok rfl)
theorem dX2_leastLossFor_52 : decode cX2_leastLossFor 52 = .ok (.ireturn, 1) := zo_172 (z_byk bcX2_leastLossFor_0 0 52 _ bcX2_leastLossFor_0_ok rfl)
theorem dX2_leastLossFor_7 : decode cX2_leastLossFor 7 = .ok (.iconst 1, 1) := zo_4 (z_byk bcX2_leastLossFor_0 0 7 _ bcX2_leastLossFor_0_ok rfl)
theorem dX2_leastLossFor_8 : decode cX2_leastLossFor 8 = .ok (.aload_n 0, 1) := zo_42 (z_byk bcX2_leastLossFor_0 0 8 _ bcX2_leastLossFor_0_ok rfl)
theorem dX2_leastLossFor_9 : decode cX2_leastLossFor 9 = .ok (.getfield 12, 3) := zo_180 (z_byk bcX2_leastLossFor_0 0 9 _ bcX2_leastLossFor_0_ok rfl) (z_byk bcX2_leastLossFor_0 0 10 _ bcX2_leastLossFor_0_ok rfl) (z_byk bcX2_leastLossFor_0 0 11 _ bcX2_leastLossFor_0_ok rfl) rfl
def bcX2_leastSetTo_0 : List Nat := [2, 61, 3, 62, 29, 4, 42, 180, 0, 12, 180, 0, 25, 120, 162, 0, 28, 29, 28, 184, 0, 90, 153, 0, 14, 42, 27, 29, 182, 0, 93, 153, 0, 5, 29, 61, 132, 3, 1, 167, 255, 221, 28, 172]
theorem bcX2_leastSetTo_0_ok : z_bys cX2_leastSetTo 0 bcX2_leastSetTo_0 = true := by decide +kernel
theorem dX2_leastSetTo_0 : decode cX2_leastSetTo 0 = .ok (.iconst (-1), 1) := zo_2 (z_byk bcX2_leastSetTo_0 0 0 _ bcX2_leastSetTo_0_ok rfl)
theorem dX2_leastSetTo_1 : decode cX2_leastSetTo 1 = .ok (.istore_n 2, 1) := zo_61 (z_byk bcX2_leastSetTo_0 0 1 _ bcX2_leastSetTo_0_ok rfl)
theorem dX2_leastSetTo_10 : decode cX2_leastSetTo 10 = .ok (.getfield 25, 3) := zo_180 (z_byk bcX2_leastSetTo_0 0 10 _ bcX2_leastSetTo_0_ok rfl) (z_byk bcX2_leastSetTo_0 0 11 _ bcX2_leastSetTo_0_ok rfl) (z_byk bcX2_leastSetTo_0 0 12 _ bcX2_leastSetTo_0_ok rfl) rfl
theorem dX2_leastSetTo_13 : decode cX2_leastSetTo 13 = .ok (.ishl, 1) := zo_120 (z_byk bcX2_leastSetTo_0 0 13 _ bcX2_leastSetTo_0_ok rfl)
theorem dX2_leastSetTo_14 : decode cX2_leastSetTo 14 = .ok (.if_icmp .ge 28, 3) := zo_162 (z_byk bcX2_leastSetTo_0 0 14 _ bcX2_leastSetTo_0_ok rfl) (z_byk bcX2_leastSetTo_0 0 15 _ bcX2_leastSetTo_0_ok rfl) (z_byk bcX2_leastSetTo_0 0 16 _ bcX2_leastSetTo_0_ok rfl) rfl
theorem dX2_leastSetTo_17 : decode cX2_leastSetTo 17 = .ok (.iload_n 3, 1) := zo_29 (z_byk bcX2_leastSetTo_0 0 17 _ bcX2_leastSetTo_0_ok rfl)
theorem dX2_leastSetTo_18 : decode cX2_leastSetTo 18 = .ok (.iload_n 2, 1) := zo_28 (z_byk bcX2_leastSetTo_0 0 18 _ bcX2_leastSetTo_0_ok rfl)
theorem dX2_leastSetTo_19 : decode cX2_leastSetTo 19 = .ok (.invokestatic 90, 3) := zo_184 (z_byk bcX2_leastSetTo_0 0 19 _ bcX2_leastSetTo_0_ok rfl) (z_byk bcX2_leastSetTo_0 0 20 _ bcX2_leastSetTo_0_ok rfl) (z_byk bcX2_leastSetTo_0 0 21 _ bcX2_leastSetTo_0_ok rfl) rfl
theorem dX2_leastSetTo_2 : decode cX2_leastSetTo 2 = .ok (.iconst 0, 1) := zo_3 (z_byk bcX2_leastSetTo_0 0 2 _ bcX2_leastSetTo_0_ok rfl)
theorem dX2_leastSetTo_22 : decode cX2_leastSetTo 22 = .ok (.ifCond .eq 14, 3) := zo_153 (z_byk bcX2_leastSetTo_0 0 22 _ bcX2_leastSetTo_0_ok rfl) (z_byk bcX2_leastSetTo_0 0 23 _ bcX2_leastSetTo_0_ok rfl) (z_byk bcX2_leastSetTo_0 0 24 _ bcX2_leastSetTo_0_ok rfl) rfl
theorem dX2_leastSetTo_25 : decode cX2_leastSetTo 25 = .ok (.aload_n 0, 1) := zo_42 (z_byk bcX2_leastSetTo_0 0 25 _ bcX2_leastSetTo_0_ok rfl)
theorem dX2_leastSetTo_26 : decode cX2_leastSetTo 26 = .ok (.iload_n 1, 1) := zo_27 (z_byk bcX2_leastSetTo_0 0 26 _ bcX2_leastSetTo_0_ok rfl)
theorem dX2_leastSetTo_27 : decode cX2_leastSetTo 27 = .ok (.iload_n 3, 1) := zo_29 (z_byk bcX2_leastSetTo_0 0 27 _ bcX2_leastSetTo_0_ok rfl)
theorem dX2_leastSetTo_28 : decode cX2_leastSetTo 28 = .ok (.invokevirtual 93, 3) := zo_182 (z_byk bcX2_leastSetTo_0 0 28 _ bcX2_leastSetTo_0_ok rfl) (z_byk bcX2_leastSetTo_0 0 29 _ bcX2_leastSetTo_0_ok rfl) (z_byk bcX2_leastSetTo_0 0 30 _ bcX2_leastSetTo_0_ok rfl) rfl
theorem dX2_leastSetTo_3 : decode cX2_leastSetTo 3 = .ok (.istore_n 3, 1) := zo_62 (z_byk bcX2_leastSetTo_0 0 3 _ bcX2_leastSetTo_0_ok rfl)
theorem dX2_leastSetTo_31 : decode cX2_leastSetTo 31 = .ok (.ifCond .eq 5, 3) := zo_153 (z_byk bcX2_leastSetTo_0 0 31 _ bcX2_leastSetTo_0_ok rfl) (z_byk bcX2_leastSetTo_0 0 32 _ bcX2_leastSetTo_0_ok rfl) (z_byk bcX2_leastSetTo_0 0 33 _ bcX2_leastSetTo_0_ok rfl) rfl
theorem dX2_leastSetTo_34 : decode cX2_leastSetTo 34 = .ok (.iload_n 3, 1) := zo_29 (z_byk bcX2_leastSetTo_0 0 34 _ bcX2_leastSetTo_0_ok rfl)
theorem dX2_leastSetTo_35 : decode cX2_leastSetTo 35 = .ok (.istore_n 2, 1) := zo_61 (z_byk bcX2_leastSetTo_0 0 35 _ bcX2_leastSetTo_0_ok rfl)
theorem dX2_leastSetTo_36 : decode cX2_leastSetTo 36 = .ok (.iinc 3 1, 3) := zo_132 (z_byk bcX2_leastSetTo_0 0 36 _ bcX2_leastSetTo_0_ok rfl) (z_byk bcX2_leastSetTo_0 0 37 _ bcX2_leastSetTo_0_ok rfl) (z_byk bcX2_leastSetTo_0 0 38 _ bcX2_leastSetTo_0_ok rfl) rfl
theorem dX2_leastSetTo_39 : decode cX2_leastSetTo 39 = .ok (.goto (-35), 3) := zo_167 (z_byk bcX2_leastSetTo_0 0 39 _ bcX2_leastSetTo_0_ok rfl) (z_byk bcX2_leastSetTo_0 0 40 _ bcX2_leastSetTo_0_ok rfl) (z_byk bcX2_leastSetTo_0 0 41 _ bcX2_leastSetTo_0_ok rfl) rfl
theorem dX2_leastSetTo_4 : decode cX2_leastSetTo 4 = .ok (.iload_n 3, 1) := zo_29 (z_byk bcX2_leastSetTo_0 0 4 _ bcX2_leastSetTo_0_ok rfl)
theorem dX2_leastSetTo_42 : decode cX2_leastSetTo 42 = .ok (.iload_n 2, 1) := zo_28 (z_byk bcX2_leastSetTo_0 0 42 _ bcX2_leastSetTo_0_ok rfl)
theorem dX2_leastSetTo_43 : decode cX2_leastSetTo 43 = .ok (.ireturn, 1) := zo_172 (z_byk bcX2_leastSetTo_0 0 43 _ bcX2_leastSetTo_0_ok rfl)
theorem dX2_leastSetTo_5 : decode cX2_leastSetTo 5 = .ok (.iconst 1, 1) := zo_4 (z_byk bcX2_leastSetTo_0 0 5 _ bcX2_leastSetTo_0_ok rfl)
theorem dX2_leastSetTo_6 : decode cX2_leastSetTo 6 = .ok (.aload_n 0, 1) := zo_42 (z_byk bcX2_leastSetTo_0 0 6 _ bcX2_leastSetTo_0_ok rfl)
theorem dX2_leastSetTo_7 : decode cX2_leastSetTo 7 = .ok (.getfield 12, 3) := zo_180 (z_byk bcX2_leastSetTo_0 0 7 _ bcX2_leastSetTo_0_ok rfl) (z_byk bcX2_leastSetTo_0 0 8 _ bcX2_leastSetTo_0_ok rfl) (z_byk bcX2_leastSetTo_0 0 9 _ bcX2_leastSetTo_0_ok rfl) rfl
def bcX2_setsWithOneOf_0 : List Nat := [9, 66, 3, 54, 5, 21, 5, 42, 180, 0, 12, 180, 0, 25, 162, 0, 27, 27, 21, 5, 184, 0, 78, 153, 0, 12, 33, 21, 5, 28, 184, 0, 81, 129, 66, 132, 5, 1, 167, 255, 223, 33, 173]
theorem bcX2_setsWithOneOf_0_ok : z_bys cX2_setsWithOneOf 0 bcX2_setsWithOneOf_0 = true := by decide +kernel
theorem dX2_setsWithOneOf_0 : decode cX2_setsWithOneOf 0 = .ok (.lconst 0, 1) := zo_9 (z_byk bcX2_setsWithOneOf_0 0 0 _ bcX2_setsWithOneOf_0_ok rfl)
theorem dX2_setsWithOneOf_1 : decode cX2_setsWithOneOf 1 = .ok (.lstore_n 3, 1) := zo_66 (z_byk bcX2_setsWithOneOf_0 0 1 _ bcX2_setsWithOneOf_0_ok rfl)
theorem dX2_setsWithOneOf_11 : decode cX2_setsWithOneOf 11 = .ok (.getfield 25, 3) := zo_180 (z_byk bcX2_setsWithOneOf_0 0 11 _ bcX2_setsWithOneOf_0_ok rfl) (z_byk bcX2_setsWithOneOf_0 0 12 _ bcX2_setsWithOneOf_0_ok rfl) (z_byk bcX2_setsWithOneOf_0 0 13 _ bcX2_setsWithOneOf_0_ok rfl) rfl
theorem dX2_setsWithOneOf_14 : decode cX2_setsWithOneOf 14 = .ok (.if_icmp .ge 27, 3) := zo_162 (z_byk bcX2_setsWithOneOf_0 0 14 _ bcX2_setsWithOneOf_0_ok rfl) (z_byk bcX2_setsWithOneOf_0 0 15 _ bcX2_setsWithOneOf_0_ok rfl) (z_byk bcX2_setsWithOneOf_0 0 16 _ bcX2_setsWithOneOf_0_ok rfl) rfl
theorem dX2_setsWithOneOf_17 : decode cX2_setsWithOneOf 17 = .ok (.iload_n 1, 1) := zo_27 (z_byk bcX2_setsWithOneOf_0 0 17 _ bcX2_setsWithOneOf_0_ok rfl)
theorem dX2_setsWithOneOf_18 : decode cX2_setsWithOneOf 18 = .ok (.iload 5, 2) := zo_21 (z_byk bcX2_setsWithOneOf_0 0 18 _ bcX2_setsWithOneOf_0_ok rfl) (z_byk bcX2_setsWithOneOf_0 0 19 _ bcX2_setsWithOneOf_0_ok rfl)
theorem dX2_setsWithOneOf_2 : decode cX2_setsWithOneOf 2 = .ok (.iconst 0, 1) := zo_3 (z_byk bcX2_setsWithOneOf_0 0 2 _ bcX2_setsWithOneOf_0_ok rfl)
theorem dX2_setsWithOneOf_20 : decode cX2_setsWithOneOf 20 = .ok (.invokestatic 78, 3) := zo_184 (z_byk bcX2_setsWithOneOf_0 0 20 _ bcX2_setsWithOneOf_0_ok rfl) (z_byk bcX2_setsWithOneOf_0 0 21 _ bcX2_setsWithOneOf_0_ok rfl) (z_byk bcX2_setsWithOneOf_0 0 22 _ bcX2_setsWithOneOf_0_ok rfl) rfl
theorem dX2_setsWithOneOf_23 : decode cX2_setsWithOneOf 23 = .ok (.ifCond .eq 12, 3) := zo_153 (z_byk bcX2_setsWithOneOf_0 0 23 _ bcX2_setsWithOneOf_0_ok rfl) (z_byk bcX2_setsWithOneOf_0 0 24 _ bcX2_setsWithOneOf_0_ok rfl) (z_byk bcX2_setsWithOneOf_0 0 25 _ bcX2_setsWithOneOf_0_ok rfl) rfl
theorem dX2_setsWithOneOf_26 : decode cX2_setsWithOneOf 26 = .ok (.lload_n 3, 1) := zo_33 (z_byk bcX2_setsWithOneOf_0 0 26 _ bcX2_setsWithOneOf_0_ok rfl)
theorem dX2_setsWithOneOf_27 : decode cX2_setsWithOneOf 27 = .ok (.iload 5, 2) := zo_21 (z_byk bcX2_setsWithOneOf_0 0 27 _ bcX2_setsWithOneOf_0_ok rfl) (z_byk bcX2_setsWithOneOf_0 0 28 _ bcX2_setsWithOneOf_0_ok rfl)
theorem dX2_setsWithOneOf_29 : decode cX2_setsWithOneOf 29 = .ok (.iload_n 2, 1) := zo_28 (z_byk bcX2_setsWithOneOf_0 0 29 _ bcX2_setsWithOneOf_0_ok rfl)
theorem dX2_setsWithOneOf_3 : decode cX2_setsWithOneOf 3 = .ok (.istore 5, 2) := zo_54 (z_byk bcX2_setsWithOneOf_0 0 3 _ bcX2_setsWithOneOf_0_ok rfl) (z_byk bcX2_setsWithOneOf_0 0 4 _ bcX2_setsWithOneOf_0_ok rfl)
theorem dX2_setsWithOneOf_30 : decode cX2_setsWithOneOf 30 = .ok (.invokestatic 81, 3) := zo_184 (z_byk bcX2_setsWithOneOf_0 0 30 _ bcX2_setsWithOneOf_0_ok rfl) (z_byk bcX2_setsWithOneOf_0 0 31 _ bcX2_setsWithOneOf_0_ok rfl) (z_byk bcX2_setsWithOneOf_0 0 32 _ bcX2_setsWithOneOf_0_ok rfl) rfl
theorem dX2_setsWithOneOf_33 : decode cX2_setsWithOneOf 33 = .ok (.lor, 1) := zo_129 (z_byk bcX2_setsWithOneOf_0 0 33 _ bcX2_setsWithOneOf_0_ok rfl)
theorem dX2_setsWithOneOf_34 : decode cX2_setsWithOneOf 34 = .ok (.lstore_n 3, 1) := zo_66 (z_byk bcX2_setsWithOneOf_0 0 34 _ bcX2_setsWithOneOf_0_ok rfl)
theorem dX2_setsWithOneOf_35 : decode cX2_setsWithOneOf 35 = .ok (.iinc 5 1, 3) := zo_132 (z_byk bcX2_setsWithOneOf_0 0 35 _ bcX2_setsWithOneOf_0_ok rfl) (z_byk bcX2_setsWithOneOf_0 0 36 _ bcX2_setsWithOneOf_0_ok rfl) (z_byk bcX2_setsWithOneOf_0 0 37 _ bcX2_setsWithOneOf_0_ok rfl) rfl
theorem dX2_setsWithOneOf_38 : decode cX2_setsWithOneOf 38 = .ok (.goto (-33), 3) := zo_167 (z_byk bcX2_setsWithOneOf_0 0 38 _ bcX2_setsWithOneOf_0_ok rfl) (z_byk bcX2_setsWithOneOf_0 0 39 _ bcX2_setsWithOneOf_0_ok rfl) (z_byk bcX2_setsWithOneOf_0 0 40 _ bcX2_setsWithOneOf_0_ok rfl) rfl
theorem dX2_setsWithOneOf_41 : decode cX2_setsWithOneOf 41 = .ok (.lload_n 3, 1) := zo_33 (z_byk bcX2_setsWithOneOf_0 0 41 _ bcX2_setsWithOneOf_0_ok rfl)
theorem dX2_setsWithOneOf_42 : decode cX2_setsWithOneOf 42 = .ok (.lreturn, 1) := zo_173 (z_byk bcX2_setsWithOneOf_0 0 42 _ bcX2_setsWithOneOf_0_ok rfl)
theorem dX2_setsWithOneOf_5 : decode cX2_setsWithOneOf 5 = .ok (.iload 5, 2) := zo_21 (z_byk bcX2_setsWithOneOf_0 0 5 _ bcX2_setsWithOneOf_0_ok rfl) (z_byk bcX2_setsWithOneOf_0 0 6 _ bcX2_setsWithOneOf_0_ok rfl)
theorem dX2_setsWithOneOf_7 : decode cX2_setsWithOneOf 7 = .ok (.aload_n 0, 1) := zo_42 (z_byk bcX2_setsWithOneOf_0 0 7 _ bcX2_setsWithOneOf_0_ok rfl)
theorem dX2_setsWithOneOf_8 : decode cX2_setsWithOneOf 8 = .ok (.getfield 12, 3) := zo_180 (z_byk bcX2_setsWithOneOf_0 0 8 _ bcX2_setsWithOneOf_0_ok rfl) (z_byk bcX2_setsWithOneOf_0 0 9 _ bcX2_setsWithOneOf_0_ok rfl) (z_byk bcX2_setsWithOneOf_0 0 10 _ bcX2_setsWithOneOf_0_ok rfl) rfl
def bcX2_setsWith_0 : List Nat := [26, 16, 6, 162, 0, 9, 178, 0, 84, 26, 47, 173, 27, 26, 16, 6, 100, 184, 0, 78, 153, 0, 9, 20, 0, 44, 167, 0, 4, 9, 173]
theorem bcX2_setsWith_0_ok : z_bys cX2_setsWith 0 bcX2_setsWith_0 = true := by decide +kernel
theorem dX2_setsWith_0 : decode cX2_setsWith 0 = .ok (.iload_n 0, 1) := zo_26 (z_byk bcX2_setsWith_0 0 0 _ bcX2_setsWith_0_ok rfl)
theorem dX2_setsWith_1 : decode cX2_setsWith 1 = .ok (.bipush 6, 2) := zo_16 (z_byk bcX2_setsWith_0 0 1 _ bcX2_setsWith_0_ok rfl) (z_byk bcX2_setsWith_0 0 2 _ bcX2_setsWith_0_ok rfl) rfl
theorem dX2_setsWith_10 : decode cX2_setsWith 10 = .ok (.laload, 1) := zo_47 (z_byk bcX2_setsWith_0 0 10 _ bcX2_setsWith_0_ok rfl)
theorem dX2_setsWith_11 : decode cX2_setsWith 11 = .ok (.lreturn, 1) := zo_173 (z_byk bcX2_setsWith_0 0 11 _ bcX2_setsWith_0_ok rfl)
theorem dX2_setsWith_12 : decode cX2_setsWith 12 = .ok (.iload_n 1, 1) := zo_27 (z_byk bcX2_setsWith_0 0 12 _ bcX2_setsWith_0_ok rfl)
theorem dX2_setsWith_13 : decode cX2_setsWith 13 = .ok (.iload_n 0, 1) := zo_26 (z_byk bcX2_setsWith_0 0 13 _ bcX2_setsWith_0_ok rfl)
theorem dX2_setsWith_14 : decode cX2_setsWith 14 = .ok (.bipush 6, 2) := zo_16 (z_byk bcX2_setsWith_0 0 14 _ bcX2_setsWith_0_ok rfl) (z_byk bcX2_setsWith_0 0 15 _ bcX2_setsWith_0_ok rfl) rfl
theorem dX2_setsWith_16 : decode cX2_setsWith 16 = .ok (.isub, 1) := zo_100 (z_byk bcX2_setsWith_0 0 16 _ bcX2_setsWith_0_ok rfl)
theorem dX2_setsWith_17 : decode cX2_setsWith 17 = .ok (.invokestatic 78, 3) := zo_184 (z_byk bcX2_setsWith_0 0 17 _ bcX2_setsWith_0_ok rfl) (z_byk bcX2_setsWith_0 0 18 _ bcX2_setsWith_0_ok rfl) (z_byk bcX2_setsWith_0 0 19 _ bcX2_setsWith_0_ok rfl) rfl
theorem dX2_setsWith_20 : decode cX2_setsWith 20 = .ok (.ifCond .eq 9, 3) := zo_153 (z_byk bcX2_setsWith_0 0 20 _ bcX2_setsWith_0_ok rfl) (z_byk bcX2_setsWith_0 0 21 _ bcX2_setsWith_0_ok rfl) (z_byk bcX2_setsWith_0 0 22 _ bcX2_setsWith_0_ok rfl) rfl
theorem dX2_setsWith_23 : decode cX2_setsWith 23 = .ok (.ldc2_w 44, 3) := zo_20 (z_byk bcX2_setsWith_0 0 23 _ bcX2_setsWith_0_ok rfl) (z_byk bcX2_setsWith_0 0 24 _ bcX2_setsWith_0_ok rfl) (z_byk bcX2_setsWith_0 0 25 _ bcX2_setsWith_0_ok rfl) rfl
theorem dX2_setsWith_26 : decode cX2_setsWith 26 = .ok (.goto 4, 3) := zo_167 (z_byk bcX2_setsWith_0 0 26 _ bcX2_setsWith_0_ok rfl) (z_byk bcX2_setsWith_0 0 27 _ bcX2_setsWith_0_ok rfl) (z_byk bcX2_setsWith_0 0 28 _ bcX2_setsWith_0_ok rfl) rfl
theorem dX2_setsWith_29 : decode cX2_setsWith 29 = .ok (.lconst 0, 1) := zo_9 (z_byk bcX2_setsWith_0 0 29 _ bcX2_setsWith_0_ok rfl)
theorem dX2_setsWith_3 : decode cX2_setsWith 3 = .ok (.if_icmp .ge 9, 3) := zo_162 (z_byk bcX2_setsWith_0 0 3 _ bcX2_setsWith_0_ok rfl) (z_byk bcX2_setsWith_0 0 4 _ bcX2_setsWith_0_ok rfl) (z_byk bcX2_setsWith_0 0 5 _ bcX2_setsWith_0_ok rfl) rfl
theorem dX2_setsWith_30 : decode cX2_setsWith 30 = .ok (.lreturn, 1) := zo_173 (z_byk bcX2_setsWith_0 0 30 _ bcX2_setsWith_0_ok rfl)
theorem dX2_setsWith_6 : decode cX2_setsWith 6 = .ok (.getstatic 84, 3) := zo_178 (z_byk bcX2_setsWith_0 0 6 _ bcX2_setsWith_0_ok rfl) (z_byk bcX2_setsWith_0 0 7 _ bcX2_setsWith_0_ok rfl) (z_byk bcX2_setsWith_0 0 8 _ bcX2_setsWith_0_ok rfl) rfl
theorem dX2_setsWith_9 : decode cX2_setsWith 9 = .ok (.iload_n 0, 1) := zo_26 (z_byk bcX2_setsWith_0 0 9 _ bcX2_setsWith_0_ok rfl)
def bcX2_spread_0 : List Nat := [42, 43, 181, 0, 12, 42, 4, 4, 43, 180, 0, 25, 120, 16, 64, 108, 184, 0, 29, 181, 0, 35, 42, 180, 0, 18, 9, 184, 0, 38, 3, 54, 6, 21, 6, 42, 180, 0, 35, 162, 0, 24, 42, 180, 0, 18, 29, 16, 16, 104, 21, 6, 96, 20, 0, 44, 80, 132, 6, 1]
theorem bcX2_spread_0_ok : z_bys cX2_spread 0 bcX2_spread_0 = true := by decide +kernel
def bcX2_spread_60 : List Nat := [167, 255, 229, 21, 4, 54, 6, 21, 6, 21, 5, 162, 0, 80, 42, 180, 0, 18, 3, 42, 180, 0, 22, 3, 17, 0, 160, 184, 0, 46, 3, 54, 7, 21, 7, 42, 180, 0, 12, 180, 0, 52, 162, 0, 27, 42, 21, 7, 42, 180, 0, 12, 21, 7, 21, 6, 28, 182, 0, 55]
theorem bcX2_spread_60_ok : z_bys cX2_spread 60 bcX2_spread_60 = true := by decide +kernel
def bcX2_spread_120 : List Nat := [182, 0, 59, 132, 7, 1, 167, 255, 223, 42, 180, 0, 22, 3, 42, 180, 0, 18, 3, 17, 0, 160, 184, 0, 46, 132, 6, 1, 167, 255, 175, 177]
theorem bcX2_spread_120_ok : z_bys cX2_spread 120 bcX2_spread_120 = true := by decide +kernel
theorem dX2_spread_0 : decode cX2_spread 0 = .ok (.aload_n 0, 1) := zo_42 (z_byk bcX2_spread_0 0 0 _ bcX2_spread_0_ok rfl)
theorem dX2_spread_1 : decode cX2_spread 1 = .ok (.aload_n 1, 1) := zo_43 (z_byk bcX2_spread_0 0 1 _ bcX2_spread_0_ok rfl)
theorem dX2_spread_102 : decode cX2_spread 102 = .ok (.if_icmp .ge 27, 3) := zo_162 (z_byk bcX2_spread_60 60 42 _ bcX2_spread_60_ok rfl) (z_byk bcX2_spread_60 60 43 _ bcX2_spread_60_ok rfl) (z_byk bcX2_spread_60 60 44 _ bcX2_spread_60_ok rfl) rfl
theorem dX2_spread_105 : decode cX2_spread 105 = .ok (.aload_n 0, 1) := zo_42 (z_byk bcX2_spread_60 60 45 _ bcX2_spread_60_ok rfl)
theorem dX2_spread_106 : decode cX2_spread 106 = .ok (.iload 7, 2) := zo_21 (z_byk bcX2_spread_60 60 46 _ bcX2_spread_60_ok rfl) (z_byk bcX2_spread_60 60 47 _ bcX2_spread_60_ok rfl)
theorem dX2_spread_108 : decode cX2_spread 108 = .ok (.aload_n 0, 1) := zo_42 (z_byk bcX2_spread_60 60 48 _ bcX2_spread_60_ok rfl)
theorem dX2_spread_109 : decode cX2_spread 109 = .ok (.getfield 12, 3) := zo_180 (z_byk bcX2_spread_60 60 49 _ bcX2_spread_60_ok rfl) (z_byk bcX2_spread_60 60 50 _ bcX2_spread_60_ok rfl) (z_byk bcX2_spread_60 60 51 _ bcX2_spread_60_ok rfl) rfl
theorem dX2_spread_112 : decode cX2_spread 112 = .ok (.iload 7, 2) := zo_21 (z_byk bcX2_spread_60 60 52 _ bcX2_spread_60_ok rfl) (z_byk bcX2_spread_60 60 53 _ bcX2_spread_60_ok rfl)
theorem dX2_spread_114 : decode cX2_spread 114 = .ok (.iload 6, 2) := zo_21 (z_byk bcX2_spread_60 60 54 _ bcX2_spread_60_ok rfl) (z_byk bcX2_spread_60 60 55 _ bcX2_spread_60_ok rfl)
theorem dX2_spread_116 : decode cX2_spread 116 = .ok (.iload_n 2, 1) := zo_28 (z_byk bcX2_spread_60 60 56 _ bcX2_spread_60_ok rfl)
theorem dX2_spread_117 : decode cX2_spread 117 = .ok (.invokevirtual 55, 3) := zo_182 (z_byk bcX2_spread_60 60 57 _ bcX2_spread_60_ok rfl) (z_byk bcX2_spread_60 60 58 _ bcX2_spread_60_ok rfl) (z_byk bcX2_spread_60 60 59 _ bcX2_spread_60_ok rfl) rfl
theorem dX2_spread_12 : decode cX2_spread 12 = .ok (.ishl, 1) := zo_120 (z_byk bcX2_spread_0 0 12 _ bcX2_spread_0_ok rfl)
theorem dX2_spread_120 : decode cX2_spread 120 = .ok (.invokevirtual 59, 3) := zo_182 (z_byk bcX2_spread_120 120 0 _ bcX2_spread_120_ok rfl) (z_byk bcX2_spread_120 120 1 _ bcX2_spread_120_ok rfl) (z_byk bcX2_spread_120 120 2 _ bcX2_spread_120_ok rfl) rfl
theorem dX2_spread_123 : decode cX2_spread 123 = .ok (.iinc 7 1, 3) := zo_132 (z_byk bcX2_spread_120 120 3 _ bcX2_spread_120_ok rfl) (z_byk bcX2_spread_120 120 4 _ bcX2_spread_120_ok rfl) (z_byk bcX2_spread_120 120 5 _ bcX2_spread_120_ok rfl) rfl
theorem dX2_spread_126 : decode cX2_spread 126 = .ok (.goto (-33), 3) := zo_167 (z_byk bcX2_spread_120 120 6 _ bcX2_spread_120_ok rfl) (z_byk bcX2_spread_120 120 7 _ bcX2_spread_120_ok rfl) (z_byk bcX2_spread_120 120 8 _ bcX2_spread_120_ok rfl) rfl
theorem dX2_spread_129 : decode cX2_spread 129 = .ok (.aload_n 0, 1) := zo_42 (z_byk bcX2_spread_120 120 9 _ bcX2_spread_120_ok rfl)
theorem dX2_spread_13 : decode cX2_spread 13 = .ok (.bipush 64, 2) := zo_16 (z_byk bcX2_spread_0 0 13 _ bcX2_spread_0_ok rfl) (z_byk bcX2_spread_0 0 14 _ bcX2_spread_0_ok rfl) rfl
theorem dX2_spread_130 : decode cX2_spread 130 = .ok (.getfield 22, 3) := zo_180 (z_byk bcX2_spread_120 120 10 _ bcX2_spread_120_ok rfl) (z_byk bcX2_spread_120 120 11 _ bcX2_spread_120_ok rfl) (z_byk bcX2_spread_120 120 12 _ bcX2_spread_120_ok rfl) rfl
theorem dX2_spread_133 : decode cX2_spread 133 = .ok (.iconst 0, 1) := zo_3 (z_byk bcX2_spread_120 120 13 _ bcX2_spread_120_ok rfl)
theorem dX2_spread_134 : decode cX2_spread 134 = .ok (.aload_n 0, 1) := zo_42 (z_byk bcX2_spread_120 120 14 _ bcX2_spread_120_ok rfl)
theorem dX2_spread_135 : decode cX2_spread 135 = .ok (.getfield 18, 3) := zo_180 (z_byk bcX2_spread_120 120 15 _ bcX2_spread_120_ok rfl) (z_byk bcX2_spread_120 120 16 _ bcX2_spread_120_ok rfl) (z_byk bcX2_spread_120 120 17 _ bcX2_spread_120_ok rfl) rfl
theorem dX2_spread_138 : decode cX2_spread 138 = .ok (.iconst 0, 1) := zo_3 (z_byk bcX2_spread_120 120 18 _ bcX2_spread_120_ok rfl)
theorem dX2_spread_139 : decode cX2_spread 139 = .ok (.sipush 160, 3) := zo_17 (z_byk bcX2_spread_120 120 19 _ bcX2_spread_120_ok rfl) (z_byk bcX2_spread_120 120 20 _ bcX2_spread_120_ok rfl) (z_byk bcX2_spread_120 120 21 _ bcX2_spread_120_ok rfl) rfl
theorem dX2_spread_142 : decode cX2_spread 142 = .ok (.invokestatic 46, 3) := zo_184 (z_byk bcX2_spread_120 120 22 _ bcX2_spread_120_ok rfl) (z_byk bcX2_spread_120 120 23 _ bcX2_spread_120_ok rfl) (z_byk bcX2_spread_120 120 24 _ bcX2_spread_120_ok rfl) rfl
theorem dX2_spread_145 : decode cX2_spread 145 = .ok (.iinc 6 1, 3) := zo_132 (z_byk bcX2_spread_120 120 25 _ bcX2_spread_120_ok rfl) (z_byk bcX2_spread_120 120 26 _ bcX2_spread_120_ok rfl) (z_byk bcX2_spread_120 120 27 _ bcX2_spread_120_ok rfl) rfl
theorem dX2_spread_148 : decode cX2_spread 148 = .ok (.goto (-81), 3) := zo_167 (z_byk bcX2_spread_120 120 28 _ bcX2_spread_120_ok rfl) (z_byk bcX2_spread_120 120 29 _ bcX2_spread_120_ok rfl) (z_byk bcX2_spread_120 120 30 _ bcX2_spread_120_ok rfl) rfl
theorem dX2_spread_15 : decode cX2_spread 15 = .ok (.idiv, 1) := zo_108 (z_byk bcX2_spread_0 0 15 _ bcX2_spread_0_ok rfl)
theorem dX2_spread_151 : decode cX2_spread 151 = .ok (.return_, 1) := zo_177 (z_byk bcX2_spread_120 120 31 _ bcX2_spread_120_ok rfl)
theorem dX2_spread_16 : decode cX2_spread 16 = .ok (.invokestatic 29, 3) := zo_184 (z_byk bcX2_spread_0 0 16 _ bcX2_spread_0_ok rfl) (z_byk bcX2_spread_0 0 17 _ bcX2_spread_0_ok rfl) (z_byk bcX2_spread_0 0 18 _ bcX2_spread_0_ok rfl) rfl
theorem dX2_spread_19 : decode cX2_spread 19 = .ok (.putfield 35, 3) := zo_181 (z_byk bcX2_spread_0 0 19 _ bcX2_spread_0_ok rfl) (z_byk bcX2_spread_0 0 20 _ bcX2_spread_0_ok rfl) (z_byk bcX2_spread_0 0 21 _ bcX2_spread_0_ok rfl) rfl
theorem dX2_spread_2 : decode cX2_spread 2 = .ok (.putfield 12, 3) := zo_181 (z_byk bcX2_spread_0 0 2 _ bcX2_spread_0_ok rfl) (z_byk bcX2_spread_0 0 3 _ bcX2_spread_0_ok rfl) (z_byk bcX2_spread_0 0 4 _ bcX2_spread_0_ok rfl) rfl
theorem dX2_spread_22 : decode cX2_spread 22 = .ok (.aload_n 0, 1) := zo_42 (z_byk bcX2_spread_0 0 22 _ bcX2_spread_0_ok rfl)
theorem dX2_spread_23 : decode cX2_spread 23 = .ok (.getfield 18, 3) := zo_180 (z_byk bcX2_spread_0 0 23 _ bcX2_spread_0_ok rfl) (z_byk bcX2_spread_0 0 24 _ bcX2_spread_0_ok rfl) (z_byk bcX2_spread_0 0 25 _ bcX2_spread_0_ok rfl) rfl
theorem dX2_spread_26 : decode cX2_spread 26 = .ok (.lconst 0, 1) := zo_9 (z_byk bcX2_spread_0 0 26 _ bcX2_spread_0_ok rfl)
theorem dX2_spread_27 : decode cX2_spread 27 = .ok (.invokestatic 38, 3) := zo_184 (z_byk bcX2_spread_0 0 27 _ bcX2_spread_0_ok rfl) (z_byk bcX2_spread_0 0 28 _ bcX2_spread_0_ok rfl) (z_byk bcX2_spread_0 0 29 _ bcX2_spread_0_ok rfl) rfl
theorem dX2_spread_30 : decode cX2_spread 30 = .ok (.iconst 0, 1) := zo_3 (z_byk bcX2_spread_0 0 30 _ bcX2_spread_0_ok rfl)
theorem dX2_spread_31 : decode cX2_spread 31 = .ok (.istore 6, 2) := zo_54 (z_byk bcX2_spread_0 0 31 _ bcX2_spread_0_ok rfl) (z_byk bcX2_spread_0 0 32 _ bcX2_spread_0_ok rfl)
theorem dX2_spread_33 : decode cX2_spread 33 = .ok (.iload 6, 2) := zo_21 (z_byk bcX2_spread_0 0 33 _ bcX2_spread_0_ok rfl) (z_byk bcX2_spread_0 0 34 _ bcX2_spread_0_ok rfl)
theorem dX2_spread_35 : decode cX2_spread 35 = .ok (.aload_n 0, 1) := zo_42 (z_byk bcX2_spread_0 0 35 _ bcX2_spread_0_ok rfl)
theorem dX2_spread_36 : decode cX2_spread 36 = .ok (.getfield 35, 3) := zo_180 (z_byk bcX2_spread_0 0 36 _ bcX2_spread_0_ok rfl) (z_byk bcX2_spread_0 0 37 _ bcX2_spread_0_ok rfl) (z_byk bcX2_spread_0 0 38 _ bcX2_spread_0_ok rfl) rfl
theorem dX2_spread_39 : decode cX2_spread 39 = .ok (.if_icmp .ge 24, 3) := zo_162 (z_byk bcX2_spread_0 0 39 _ bcX2_spread_0_ok rfl) (z_byk bcX2_spread_0 0 40 _ bcX2_spread_0_ok rfl) (z_byk bcX2_spread_0 0 41 _ bcX2_spread_0_ok rfl) rfl
theorem dX2_spread_42 : decode cX2_spread 42 = .ok (.aload_n 0, 1) := zo_42 (z_byk bcX2_spread_0 0 42 _ bcX2_spread_0_ok rfl)
theorem dX2_spread_43 : decode cX2_spread 43 = .ok (.getfield 18, 3) := zo_180 (z_byk bcX2_spread_0 0 43 _ bcX2_spread_0_ok rfl) (z_byk bcX2_spread_0 0 44 _ bcX2_spread_0_ok rfl) (z_byk bcX2_spread_0 0 45 _ bcX2_spread_0_ok rfl) rfl
theorem dX2_spread_46 : decode cX2_spread 46 = .ok (.iload_n 3, 1) := zo_29 (z_byk bcX2_spread_0 0 46 _ bcX2_spread_0_ok rfl)
theorem dX2_spread_47 : decode cX2_spread 47 = .ok (.bipush 16, 2) := zo_16 (z_byk bcX2_spread_0 0 47 _ bcX2_spread_0_ok rfl) (z_byk bcX2_spread_0 0 48 _ bcX2_spread_0_ok rfl) rfl
theorem dX2_spread_49 : decode cX2_spread 49 = .ok (.imul, 1) := zo_104 (z_byk bcX2_spread_0 0 49 _ bcX2_spread_0_ok rfl)
theorem dX2_spread_5 : decode cX2_spread 5 = .ok (.aload_n 0, 1) := zo_42 (z_byk bcX2_spread_0 0 5 _ bcX2_spread_0_ok rfl)
theorem dX2_spread_50 : decode cX2_spread 50 = .ok (.iload 6, 2) := zo_21 (z_byk bcX2_spread_0 0 50 _ bcX2_spread_0_ok rfl) (z_byk bcX2_spread_0 0 51 _ bcX2_spread_0_ok rfl)
theorem dX2_spread_52 : decode cX2_spread 52 = .ok (.iadd, 1) := zo_96 (z_byk bcX2_spread_0 0 52 _ bcX2_spread_0_ok rfl)
theorem dX2_spread_53 : decode cX2_spread 53 = .ok (.ldc2_w 44, 3) := zo_20 (z_byk bcX2_spread_0 0 53 _ bcX2_spread_0_ok rfl) (z_byk bcX2_spread_0 0 54 _ bcX2_spread_0_ok rfl) (z_byk bcX2_spread_0 0 55 _ bcX2_spread_0_ok rfl) rfl
theorem dX2_spread_56 : decode cX2_spread 56 = .ok (.lastore, 1) := zo_80 (z_byk bcX2_spread_0 0 56 _ bcX2_spread_0_ok rfl)
theorem dX2_spread_57 : decode cX2_spread 57 = .ok (.iinc 6 1, 3) := zo_132 (z_byk bcX2_spread_0 0 57 _ bcX2_spread_0_ok rfl) (z_byk bcX2_spread_0 0 58 _ bcX2_spread_0_ok rfl) (z_byk bcX2_spread_0 0 59 _ bcX2_spread_0_ok rfl) rfl
theorem dX2_spread_6 : decode cX2_spread 6 = .ok (.iconst 1, 1) := zo_4 (z_byk bcX2_spread_0 0 6 _ bcX2_spread_0_ok rfl)
theorem dX2_spread_60 : decode cX2_spread 60 = .ok (.goto (-27), 3) := zo_167 (z_byk bcX2_spread_60 60 0 _ bcX2_spread_60_ok rfl) (z_byk bcX2_spread_60 60 1 _ bcX2_spread_60_ok rfl) (z_byk bcX2_spread_60 60 2 _ bcX2_spread_60_ok rfl) rfl
theorem dX2_spread_63 : decode cX2_spread 63 = .ok (.iload 4, 2) := zo_21 (z_byk bcX2_spread_60 60 3 _ bcX2_spread_60_ok rfl) (z_byk bcX2_spread_60 60 4 _ bcX2_spread_60_ok rfl)
theorem dX2_spread_65 : decode cX2_spread 65 = .ok (.istore 6, 2) := zo_54 (z_byk bcX2_spread_60 60 5 _ bcX2_spread_60_ok rfl) (z_byk bcX2_spread_60 60 6 _ bcX2_spread_60_ok rfl)
theorem dX2_spread_67 : decode cX2_spread 67 = .ok (.iload 6, 2) := zo_21 (z_byk bcX2_spread_60 60 7 _ bcX2_spread_60_ok rfl) (z_byk bcX2_spread_60 60 8 _ bcX2_spread_60_ok rfl)
theorem dX2_spread_69 : decode cX2_spread 69 = .ok (.iload 5, 2) := zo_21 (z_byk bcX2_spread_60 60 9 _ bcX2_spread_60_ok rfl) (z_byk bcX2_spread_60 60 10 _ bcX2_spread_60_ok rfl)
theorem dX2_spread_7 : decode cX2_spread 7 = .ok (.iconst 1, 1) := zo_4 (z_byk bcX2_spread_0 0 7 _ bcX2_spread_0_ok rfl)
theorem dX2_spread_71 : decode cX2_spread 71 = .ok (.if_icmp .ge 80, 3) := zo_162 (z_byk bcX2_spread_60 60 11 _ bcX2_spread_60_ok rfl) (z_byk bcX2_spread_60 60 12 _ bcX2_spread_60_ok rfl) (z_byk bcX2_spread_60 60 13 _ bcX2_spread_60_ok rfl) rfl
theorem dX2_spread_74 : decode cX2_spread 74 = .ok (.aload_n 0, 1) := zo_42 (z_byk bcX2_spread_60 60 14 _ bcX2_spread_60_ok rfl)
theorem dX2_spread_75 : decode cX2_spread 75 = .ok (.getfield 18, 3) := zo_180 (z_byk bcX2_spread_60 60 15 _ bcX2_spread_60_ok rfl) (z_byk bcX2_spread_60 60 16 _ bcX2_spread_60_ok rfl) (z_byk bcX2_spread_60 60 17 _ bcX2_spread_60_ok rfl) rfl
theorem dX2_spread_78 : decode cX2_spread 78 = .ok (.iconst 0, 1) := zo_3 (z_byk bcX2_spread_60 60 18 _ bcX2_spread_60_ok rfl)
theorem dX2_spread_79 : decode cX2_spread 79 = .ok (.aload_n 0, 1) := zo_42 (z_byk bcX2_spread_60 60 19 _ bcX2_spread_60_ok rfl)
theorem dX2_spread_8 : decode cX2_spread 8 = .ok (.aload_n 1, 1) := zo_43 (z_byk bcX2_spread_0 0 8 _ bcX2_spread_0_ok rfl)
theorem dX2_spread_80 : decode cX2_spread 80 = .ok (.getfield 22, 3) := zo_180 (z_byk bcX2_spread_60 60 20 _ bcX2_spread_60_ok rfl) (z_byk bcX2_spread_60 60 21 _ bcX2_spread_60_ok rfl) (z_byk bcX2_spread_60 60 22 _ bcX2_spread_60_ok rfl) rfl
theorem dX2_spread_83 : decode cX2_spread 83 = .ok (.iconst 0, 1) := zo_3 (z_byk bcX2_spread_60 60 23 _ bcX2_spread_60_ok rfl)
theorem dX2_spread_84 : decode cX2_spread 84 = .ok (.sipush 160, 3) := zo_17 (z_byk bcX2_spread_60 60 24 _ bcX2_spread_60_ok rfl) (z_byk bcX2_spread_60 60 25 _ bcX2_spread_60_ok rfl) (z_byk bcX2_spread_60 60 26 _ bcX2_spread_60_ok rfl) rfl
theorem dX2_spread_87 : decode cX2_spread 87 = .ok (.invokestatic 46, 3) := zo_184 (z_byk bcX2_spread_60 60 27 _ bcX2_spread_60_ok rfl) (z_byk bcX2_spread_60 60 28 _ bcX2_spread_60_ok rfl) (z_byk bcX2_spread_60 60 29 _ bcX2_spread_60_ok rfl) rfl
theorem dX2_spread_9 : decode cX2_spread 9 = .ok (.getfield 25, 3) := zo_180 (z_byk bcX2_spread_0 0 9 _ bcX2_spread_0_ok rfl) (z_byk bcX2_spread_0 0 10 _ bcX2_spread_0_ok rfl) (z_byk bcX2_spread_0 0 11 _ bcX2_spread_0_ok rfl) rfl
theorem dX2_spread_90 : decode cX2_spread 90 = .ok (.iconst 0, 1) := zo_3 (z_byk bcX2_spread_60 60 30 _ bcX2_spread_60_ok rfl)
theorem dX2_spread_91 : decode cX2_spread 91 = .ok (.istore 7, 2) := zo_54 (z_byk bcX2_spread_60 60 31 _ bcX2_spread_60_ok rfl) (z_byk bcX2_spread_60 60 32 _ bcX2_spread_60_ok rfl)
theorem dX2_spread_93 : decode cX2_spread 93 = .ok (.iload 7, 2) := zo_21 (z_byk bcX2_spread_60 60 33 _ bcX2_spread_60_ok rfl) (z_byk bcX2_spread_60 60 34 _ bcX2_spread_60_ok rfl)
theorem dX2_spread_95 : decode cX2_spread 95 = .ok (.aload_n 0, 1) := zo_42 (z_byk bcX2_spread_60 60 35 _ bcX2_spread_60_ok rfl)
theorem dX2_spread_96 : decode cX2_spread 96 = .ok (.getfield 12, 3) := zo_180 (z_byk bcX2_spread_60 60 36 _ bcX2_spread_60_ok rfl) (z_byk bcX2_spread_60 60 37 _ bcX2_spread_60_ok rfl) (z_byk bcX2_spread_60 60 38 _ bcX2_spread_60_ok rfl) rfl
theorem dX2_spread_99 : decode cX2_spread 99 = .ok (.getfield 52, 3) := zo_180 (z_byk bcX2_spread_60 60 39 _ bcX2_spread_60_ok rfl) (z_byk bcX2_spread_60 60 40 _ bcX2_spread_60_ok rfl) (z_byk bcX2_spread_60 60 41 _ bcX2_spread_60_ok rfl) rfl
set_option maxHeartbeats 4000000 in
set_option maxRecDepth 100000 in
theorem k_X2_setsWith (l : Launch) (sa : Nat → Nat) (dC : Nat → ClassId) (dI : Nat → Nat → Nat) (p0 : Int32) (p1 : Int32) (b_p0 : 0 ≤ p0.toInt ∧ p0.toInt ≤ 9) (sz : Nat) : Met l yX2_setsWith (.code yX2_setsWith cX2_setsWith 2 (some .long) :: zT) ({ frames := 1, cells := 0, slots := 0, locals := 21 }) (va_Pc [.int p0, .int p1] (zB sa dC dI [] [] sz)) (va_Ql (fun (r : Int64) (_ : Unit) => True) (fun _ t => zW dC dI [] [] (va_A [] sz) t) (va_A [] sz)) 0 0 (va_A [] sz) := by
  refine z_enter (by decide) (by exact (Nat.le_of_ble_eq_true rfl)) ?_
  intro p e s m args below meth c ls A R Qc hargs hsz hQe hAe hRe hx hb hml hr hts hown hlocks hin hl hP hK hD hN hXs hA hS
  rw [hAe] at hQe
  have hown : s.vm.findClass RX2 = some m.cls := hown
  have hl : lv_has ls 2 [(0, .int p0), (1, .int p1)] := hl
  refine lv_iload_n hx hb dX2_setsWith_0 rfl (lv_at hl 0 rfl) ?_
  refine lv_bipush (v := 6) hx hb dX2_setsWith_1 (by decide) ?_
  refine lv_icmp_ge (tgt := 12) hx hb dX2_setsWith_3 (by decide) (fun c_1 => ?_) (fun c_1 => ?_)
  · have ic_1 := zz_ge rfl (show Int32.toInt 6 = 6 from by decide) c_1
    refine lv_iload_n hx hb dX2_setsWith_12 rfl (lv_at hl 1 rfl) ?_
    refine lv_iload_n hx hb dX2_setsWith_13 rfl (lv_at hl 0 rfl) ?_
    refine lv_bipush (v := 6) hx hb dX2_setsWith_14 (by decide) ?_
    refine lv_isub hx hb dX2_setsWith_16 ?_
    refine lv_topi (fun x_2 ex_2 => ?_)
    have b_x_2 : x_2.toInt = p0.toInt - 6 := by rw [ex_2]; exact zi_sub rfl (show Int32.toInt 6 = 6 from by decide) (z_rsc b_p0 (by decide))
    obtain ⟨hPc, hDc, hFc⟩ := z_cut (wc := []) hP hD hS hA [] rfl (by decide +kernel)
    have hKc := hK.sub (tys' := []) [] rfl
    refine va_calli (va_runSN (As := [.int p1, .int x_2]) (rest := []) ⟨hx, hb, hml, hown, hts⟩ (k_X9_has l sa dC dI p1 x_2 s.heap.size) ⟨va_cnB 2 hts (z_gI zw_t3_124) rfl rfl rfl hN.2.2.2.1 (hts _ zw_t1_1) (by decide +kernel) (by rw [← hRe]; exact ⟨(Nat.le_of_ble_eq_true rfl), (Nat.le_of_ble_eq_true rfl)⟩), (hts _ zw_t3_123), trivial⟩ (z_preS hPc hKc hDc hN hXs hS hFc) rfl rfl hl.1 rfl (lv_room (Nat.le_of_ble_eq_true rfl)) dX2_setsWith_17 (by rw [← hRe]; exact ⟨(Nat.le_of_ble_eq_true rfl), (Nat.le_of_ble_eq_true rfl)⟩)) hS (fun q _ h => hFc q h) hFc (fun r_3 u t H1 locs ht hvm hw hB hz1 hk1 hS => ?_)
    obtain ⟨hP, hD, hK⟩ := z_after3 (wn := []) hB ht hvm hP hD hK [] [] rfl 0 rfl (by decide +kernel) rfl (by decide +kernel) hk1 hFc
    generalize H1 = H at hP hS ⊢
    have hK : va_K (dC, dI) vwCl [] s := hK
    have b_r_3 : 0 ≤ r_3.toInt ∧ r_3.toInt ≤ 1 := hw
    refine lv_if_eq (tgt := 29) hx hb dX2_setsWith_20 (by decide) (fun c_4 => ?_) (fun c_4 => ?_)
    · have ic_4 := zz_eq rfl (show Int32.toInt 0 = 0 from by decide) c_4
      refine lv_lconst (v := 0) hx hb dX2_setsWith_29 (by decide) ?_
      exact W.lret (v := 0) hx hb hr (fun t ht hW => by rw [← hQe]; exact ⟨⟨0, (), rfl, trivial, z_ret hP hK hD ht hW [] [] rfl (by decide) rfl⟩, hS.F ht⟩) hS.2.2 dX2_setsWith_30
    · have ic_4 := zz_neq rfl (show Int32.toInt 0 = 0 from by decide) c_4
      refine lv_ldc2 (v := (-1)) hx hb hown (hts _ zw_t4_130) dX2_setsWith_23 ?_
      refine lv_goto (tgt := 30) hx hb dX2_setsWith_26 (by decide) ?_
      exact W.lret (v := (-1)) hx hb hr (fun t ht hW => by rw [← hQe]; exact ⟨⟨(-1), (), rfl, trivial, z_ret hP hK hD ht hW [] [] rfl (by decide) rfl⟩, hS.F ht⟩) hS.2.2 dX2_setsWith_30
  · have ic_1 := zz_nge rfl (show Int32.toInt 6 = 6 from by decide) c_1
    refine va_gets hx hb hXs.1 hS hown (hts _ zw_t4_145) (fun _ h9 => h9) dX2_setsWith_6 ?_
    refine lv_iload_n hx hb dX2_setsWith_9 rfl (lv_at hl 0 rfl) ?_
    refine va_tl hx hb hXs.2.1 hS (zi_in rfl (by first | with_reducible assumption | omega)) rfl dX2_setsWith_10 ?_
    refine lv_topl (fun x_5 ex_5 => ?_)
    exact W.lret (v := x_5) hx hb hr (fun t ht hW => by rw [← hQe]; exact ⟨⟨x_5, (), rfl, trivial, z_ret hP hK hD ht hW [] [] rfl (by decide) rfl⟩, hS.F ht⟩) hS.2.2 dX2_setsWith_11
set_option maxHeartbeats 4000000 in
set_option maxRecDepth 100000 in
theorem k_X2_setsWithOneOf (l : Launch) (sa : Nat → Nat) (dC : Nat → ClassId) (dI : Nat → Nat → Nat) (fm : Nat) (p1 : Int32) (p2 : Int32) (tn : Nat) (fm_words : Int32) (fm_here : Nat) (fm_next : Nat) (tn_hours : Int32) (tn_courts : Int32) (tn_gateCount : Int32) (tn_people : Int32) (tn_lines : Int32) (tn_falseHours : Int32) (tn_strayers : Int32) (tn_deep : Int32) (tn_above : Nat) (tn_doors : Nat) (tn_degrees : Nat) (tn_neighbours : Nat) (tn_shows : Nat) (tn_oneEnd : Nat) (tn_otherEnd : Nat) (tn_told : Nat) (tn_strayParts : Nat) (tn_strayCourts : Nat) (b_fm_words : 1 ≤ fm_words.toInt ∧ fm_words.toInt ≤ 16) (b_tn_hours : 0 ≤ tn_hours.toInt ∧ tn_hours.toInt ≤ 48) (b_tn_courts : 0 ≤ tn_courts.toInt ∧ tn_courts.toInt ≤ 10) (b_tn_gateCount : 0 ≤ tn_gateCount.toInt ∧ tn_gateCount.toInt ≤ 16) (b_tn_people : 0 ≤ tn_people.toInt ∧ tn_people.toInt ≤ 10) (b_tn_falseHours : 0 ≤ tn_falseHours.toInt ∧ tn_falseHours.toInt ≤ 9) (b_tn_deep : 0 ≤ tn_deep.toInt ∧ tn_deep.toInt ≤ 1) (sz : Nat) : Met l yX2_setsWithOneOf (.code yX2_setsWithOneOf cX2_setsWithOneOf 6 (some .long) :: zT) ({ frames := 2, cells := 0, slots := 0, locals := 42 }) (va_Pc [.ref fm, .int p1, .int p2] (zB sa dC dI (zV46 fm tn fm_words fm_here fm_next tn tn_hours tn_courts tn_gateCount tn_people tn_lines tn_falseHours tn_strayers tn_deep tn_above tn_doors tn_degrees tn_neighbours tn_shows tn_oneEnd tn_otherEnd tn_told tn_strayParts tn_strayCourts) [] sz)) (va_Ql (fun (r : Int64) (_ : Unit) => True) (fun _ t => zW dC dI (zV46 fm tn fm_words fm_here fm_next tn tn_hours tn_courts tn_gateCount tn_people tn_lines tn_falseHours tn_strayers tn_deep tn_above tn_doors tn_degrees tn_neighbours tn_shows tn_oneEnd tn_otherEnd tn_told tn_strayParts tn_strayCourts) [] (va_A (zV46 fm tn fm_words fm_here fm_next tn tn_hours tn_courts tn_gateCount tn_people tn_lines tn_falseHours tn_strayers tn_deep tn_above tn_doors tn_degrees tn_neighbours tn_shows tn_oneEnd tn_otherEnd tn_told tn_strayParts tn_strayCourts) sz) t) (va_A (zV46 fm tn fm_words fm_here fm_next tn tn_hours tn_courts tn_gateCount tn_people tn_lines tn_falseHours tn_strayers tn_deep tn_above tn_doors tn_degrees tn_neighbours tn_shows tn_oneEnd tn_otherEnd tn_told tn_strayParts tn_strayCourts) sz)) 0 0 (va_A (zV46 fm tn fm_words fm_here fm_next tn tn_hours tn_courts tn_gateCount tn_people tn_lines tn_falseHours tn_strayers tn_deep tn_above tn_doors tn_degrees tn_neighbours tn_shows tn_oneEnd tn_otherEnd tn_told tn_strayParts tn_strayCourts) sz) := by
  refine z_enter (by decide) (by exact (Nat.le_of_ble_eq_true rfl)) ?_
  intro p e s m args below meth c ls A R Qc hargs hsz hQe hAe hRe hx hb hml hr hts hown hlocks hin hl hP hK hD hN hXs hA hS
  rw [hAe] at hQe
  have hown : s.vm.findClass RX2 = some m.cls := hown
  have hl : lv_has ls 6 [(0, .ref fm), (1, .int p1), (2, .int p2)] := hl
  refine lv_lconst (v := 0) hx hb dX2_setsWithOneOf_0 (by decide) ?_
  refine lv_lstore_n (lv' := [(3, .long 0), (0, .ref fm), (1, .int p1), (2, .int p2)]) hx hb dX2_setsWithOneOf_1 rfl hl (by decide) rfl (fun ls hl => ?_)
  refine lv_iconst (v := 0) hx hb dX2_setsWithOneOf_2 (by decide) ?_
  refine lv_istore (lv' := [(5, .int 0), (3, .long 0), (0, .ref fm), (1, .int p1), (2, .int p2)]) hx hb dX2_setsWithOneOf_3 hl (by decide) rfl (fun ls hl => ?_)
  have loop_1 : ∀ (t : Nat) (v3_2 : Int64) (v5_1 : Int32) (b_v5_1 : 0 ≤ v5_1.toInt ∧ v5_1.toInt ≤ 10) (H : Heap) (locs : List Loc) (ls : Array Slot), 10 - v5_1.toInt < (t : Int) → va_P (dC, dI) vwCl (zV46 fm tn fm_words fm_here fm_next tn tn_hours tn_courts tn_gateCount tn_people tn_lines tn_falseHours tn_strayers tn_deep tn_above tn_doors tn_degrees tn_neighbours tn_shows tn_oneEnd tn_otherEnd tn_told tn_strayParts tn_strayCourts) H → va_D A (zV46 fm tn fm_words fm_here fm_next tn tn_hours tn_courts tn_gateCount tn_people tn_lines tn_falseHours tn_strayers tn_deep tn_above tn_doors tn_degrees tn_neighbours tn_shows tn_oneEnd tn_otherEnd tn_told tn_strayParts tn_strayCourts) → va_S A s.heap H locs → lv_has ls 6 [(0, .ref fm), (1, .int p1), (2, .int p2), (3, .long v3_2), (5, .int v5_1)] → W p l e R s m args below meth c H locs 0 0 (MQ below Qc args s 0 0 A) (F0 m 5 ls []) := by
    intro t
    induction t with
    | zero => intro v3_2 v5_1 b_v5_1 H locs ls hmu _ _ _ _; exact absurd hmu (by first | with_reducible assumption | omega)
    | succ t ih_1 =>
      intro v3_2 v5_1 b_v5_1 H locs ls hmu hP hD hS hl
      refine lv_iload hx hb dX2_setsWithOneOf_5 (lv_at hl 4 rfl) ?_
      refine lv_aload_n hx hb dX2_setsWithOneOf_7 rfl (lv_at hl 0 rfl) ?_
      refine va_get (D := (dC, dI)) (ci := 2) (v := .ref tn) (C := RX2) (T := TX2) (N := 4) hx hb hts zl_X2 hown hK hP 0 rfl rfl 0 (by decide) (hts _ zw_t2_51) (fun _ h9 => h9) rfl dX2_setsWithOneOf_8 ?_
      refine va_get (D := (dC, dI)) (ci := 7) (v := .int tn_people) (C := RX7) (T := TX7) (N := 18) hx hb hts zl_X7 hown hK hP 1 rfl rfl 3 (by decide) (hts _ zw_t1_60) (fun _ h9 => h9) rfl dX2_setsWithOneOf_11 ?_
      refine lv_icmp_ge (tgt := 41) hx hb dX2_setsWithOneOf_14 (by decide) (fun c_3 => ?_) (fun c_3 => ?_)
      · have ic_3 := zz_ge rfl rfl c_3
        refine lv_lload_n hx hb dX2_setsWithOneOf_41 rfl (lv_at hl 3 rfl) ?_
        exact W.lret (v := v3_2) hx hb hr (fun t ht hW => by rw [← hQe]; exact ⟨⟨v3_2, (), rfl, trivial, z_ret hP hK hD ht hW [0, 1] [] rfl (by decide) rfl⟩, hS.F ht⟩) hS.2.2 dX2_setsWithOneOf_42
      · have ic_3 := zz_nge rfl rfl c_3
        refine lv_iload_n hx hb dX2_setsWithOneOf_17 rfl (lv_at hl 1 rfl) ?_
        refine lv_iload hx hb dX2_setsWithOneOf_18 (lv_at hl 4 rfl) ?_
        obtain ⟨hPc, hDc, hFc⟩ := z_cut (wc := []) hP hD hS hA [] rfl (by decide +kernel)
        have hKc := hK.sub (tys' := []) [] rfl
        refine va_calli (va_runSN (As := [.int p1, .int v5_1]) (rest := []) ⟨hx, hb, hml, hown, hts⟩ (k_X9_has l sa dC dI p1 v5_1 H.size) ⟨va_cnB 2 hts (z_gI zw_t3_124) rfl rfl rfl hN.2.2.2.1 (hts _ zw_t1_1) (by decide +kernel) (by rw [← hRe]; exact ⟨(Nat.le_of_ble_eq_true rfl), (Nat.le_of_ble_eq_true rfl)⟩), (hts _ zw_t3_123), trivial⟩ (z_preS hPc hKc hDc hN hXs hS hFc) rfl rfl hl.1 rfl (lv_room (Nat.le_of_ble_eq_true rfl)) dX2_setsWithOneOf_20 (by rw [← hRe]; exact ⟨(Nat.le_of_ble_eq_true rfl), (Nat.le_of_ble_eq_true rfl)⟩)) hS (fun q _ h => hFc q h) hFc (fun r_4 u t H1 locs ht hvm hw hB hz1 hk1 hS => ?_)
        obtain ⟨hP, hD, hK⟩ := z_after3 (wn := (zV46 fm tn fm_words fm_here fm_next tn tn_hours tn_courts tn_gateCount tn_people tn_lines tn_falseHours tn_strayers tn_deep tn_above tn_doors tn_degrees tn_neighbours tn_shows tn_oneEnd tn_otherEnd tn_told tn_strayParts tn_strayCourts)) hB ht hvm hP hD hK [] [0, 1] rfl 2 rfl (by decide +kernel) rfl (by decide +kernel) hk1 hFc
        generalize H1 = H at hP hS ⊢
        have hK : va_K (dC, dI) vwCl [] s := hK
        have b_r_4 : 0 ≤ r_4.toInt ∧ r_4.toInt ≤ 1 := hw
        refine lv_if_eq (tgt := 35) hx hb dX2_setsWithOneOf_23 (by decide) (fun c_5 => ?_) (fun c_5 => ?_)
        · have ic_5 := zz_eq rfl (show Int32.toInt 0 = 0 from by decide) c_5
          obtain ⟨x_6, ex_6⟩ : ∃ z : Int32, z = v5_1 + Int32.ofInt 1 := ⟨_, rfl⟩
          have b_x_6 : x_6.toInt = v5_1.toInt + 1 := by rw [ex_6]; exact zi_add rfl (show (Int32.ofInt 1).toInt = 1 from by decide) (z_rac b_v5_1 (by decide))
          refine lv_iinc (v := x_6) (lv' := [(5, .int x_6), (0, .ref fm), (1, .int p1), (2, .int p2), (3, .long v3_2)]) hx hb dX2_setsWithOneOf_35 hl (k := 4) rfl ex_6.symm (by decide) rfl (fun ls hl => ?_)
          refine lv_goto (tgt := 5) hx hb dX2_setsWithOneOf_38 (by decide) ?_
          exact ih_1 v3_2 x_6 (by first | with_reducible assumption | omega) _ _ _ (by first | with_reducible assumption | omega) (hP.sub (ws' := (zV46 fm tn fm_words fm_here fm_next tn tn_hours tn_courts tn_gateCount tn_people tn_lines tn_falseHours tn_strayers tn_deep tn_above tn_doors tn_degrees tn_neighbours tn_shows tn_oneEnd tn_otherEnd tn_told tn_strayParts tn_strayCourts)) [0, 1] rfl) (hD.sub (ws' := (zV46 fm tn fm_words fm_here fm_next tn tn_hours tn_courts tn_gateCount tn_people tn_lines tn_falseHours tn_strayers tn_deep tn_above tn_doors tn_degrees tn_neighbours tn_shows tn_oneEnd tn_otherEnd tn_told tn_strayParts tn_strayCourts)) [0, 1] (by decide) rfl) hS (lv_sub hl [1, 2, 3, 4, 0] rfl)
        · have ic_5 := zz_neq rfl (show Int32.toInt 0 = 0 from by decide) c_5
          refine lv_lload_n hx hb dX2_setsWithOneOf_26 rfl (lv_at hl 3 rfl) ?_
          refine lv_iload hx hb dX2_setsWithOneOf_27 (lv_at hl 4 rfl) ?_
          refine lv_iload_n hx hb dX2_setsWithOneOf_29 rfl (lv_at hl 2 rfl) ?_
          obtain ⟨hPc, hDc, hFc⟩ := z_cut (wc := []) hP hD hS hA [] rfl (by decide +kernel)
          have hKc := hK.sub (tys' := []) [] rfl
          refine va_calll (va_runS (As := [.int v5_1, .int p2]) (rest := [.long v3_2]) ⟨hx, hb, hml, hown, hts⟩ (k_X2_setsWith l sa dC dI v5_1 p2 (by first | with_reducible assumption | omega) H.size) (va_cwS 2 hts (z_gS zw_t4_142 zw_t4_143 zw_t1_6 zw_t4_144) rfl rfl rfl (by decide +kernel) (by rw [← hRe]; exact ⟨(Nat.le_of_ble_eq_true rfl), (Nat.le_of_ble_eq_true rfl)⟩)) (z_preS hPc hKc hDc hN hXs hS hFc) rfl rfl hl.1 rfl (lv_room (Nat.le_of_ble_eq_true rfl)) dX2_setsWithOneOf_30 (by rw [← hRe]; exact ⟨(Nat.le_of_ble_eq_true rfl), (Nat.le_of_ble_eq_true rfl)⟩)) hS (fun q _ h => hFc q h) hFc (fun r_7 u t H1 locs ht hvm hw hB hz1 hk1 hS => ?_)
          obtain ⟨hP, hD, hK⟩ := z_after3 (wn := (zV46 fm tn fm_words fm_here fm_next tn tn_hours tn_courts tn_gateCount tn_people tn_lines tn_falseHours tn_strayers tn_deep tn_above tn_doors tn_degrees tn_neighbours tn_shows tn_oneEnd tn_otherEnd tn_told tn_strayParts tn_strayCourts)) hB ht hvm hP hD hK [] [0, 1] rfl 2 rfl (by decide +kernel) rfl (by decide +kernel) hk1 hFc
          generalize H1 = H at hP hS ⊢
          have hK : va_K (dC, dI) vwCl [] s := hK
          refine lv_lor hx hb dX2_setsWithOneOf_33 ?_
          refine lv_topl (fun x_8 ex_8 => ?_)
          refine lv_lstore_n (lv' := [(3, .long x_8), (0, .ref fm), (1, .int p1), (2, .int p2), (5, .int v5_1)]) hx hb dX2_setsWithOneOf_34 rfl hl (by decide) rfl (fun ls hl => ?_)
          obtain ⟨x_9, ex_9⟩ : ∃ z : Int32, z = v5_1 + Int32.ofInt 1 := ⟨_, rfl⟩
          have b_x_9 : x_9.toInt = v5_1.toInt + 1 := by rw [ex_9]; exact zi_add rfl (show (Int32.ofInt 1).toInt = 1 from by decide) (z_rac b_v5_1 (by decide))
          refine lv_iinc (v := x_9) (lv' := [(5, .int x_9), (3, .long x_8), (0, .ref fm), (1, .int p1), (2, .int p2)]) hx hb dX2_setsWithOneOf_35 hl (k := 4) rfl ex_9.symm (by decide) rfl (fun ls hl => ?_)
          refine lv_goto (tgt := 5) hx hb dX2_setsWithOneOf_38 (by decide) ?_
          exact ih_1 x_8 x_9 (by first | with_reducible assumption | omega) _ _ _ (by first | with_reducible assumption | omega) (hP.sub (ws' := (zV46 fm tn fm_words fm_here fm_next tn tn_hours tn_courts tn_gateCount tn_people tn_lines tn_falseHours tn_strayers tn_deep tn_above tn_doors tn_degrees tn_neighbours tn_shows tn_oneEnd tn_otherEnd tn_told tn_strayParts tn_strayCourts)) [0, 1] rfl) (hD.sub (ws' := (zV46 fm tn fm_words fm_here fm_next tn tn_hours tn_courts tn_gateCount tn_people tn_lines tn_falseHours tn_strayers tn_deep tn_above tn_doors tn_degrees tn_neighbours tn_shows tn_oneEnd tn_otherEnd tn_told tn_strayParts tn_strayCourts)) [0, 1] (by decide) rfl) hS (lv_sub hl [2, 3, 4, 1, 0] rfl)
  exact loop_1 12 (0) (0) (by decide) _ _ _ (by decide) hP hD hS (lv_sub hl [2, 3, 4, 1, 0] rfl)
set_option maxHeartbeats 4000000 in
set_option maxRecDepth 100000 in
theorem k_X2_enter (l : Launch) (sa : Nat → Nat) (dC : Nat → ClassId) (dI : Nat → Nat → Nat) (fm : Nat) (p1 : Int32) (p2 : Int32) (tn : Nat) (fm_words : Int32) (fm_here : Nat) (fm_next : Nat) (cA_fm_here : ClassId) (f_fm_here : Nat → Int64) (cA_fm_next : ClassId) (f_fm_next : Nat → Int64) (tn_hours : Int32) (tn_courts : Int32) (tn_gateCount : Int32) (tn_people : Int32) (tn_lines : Int32) (tn_falseHours : Int32) (tn_strayers : Int32) (tn_deep : Int32) (tn_above : Nat) (tn_doors : Nat) (tn_degrees : Nat) (tn_neighbours : Nat) (tn_shows : Nat) (tn_oneEnd : Nat) (tn_otherEnd : Nat) (tn_told : Nat) (tn_strayParts : Nat) (tn_strayCourts : Nat) (cA_tn_above : ClassId) (f_tn_above : Nat → Int32) (cA_tn_degrees : ClassId) (f_tn_degrees : Nat → Int32) (cA_tn_neighbours : ClassId) (f_tn_neighbours : Nat → Int32) (b_p1 : 0 ≤ p1.toInt ∧ p1.toInt ≤ 9) (b_fm_words : 1 ≤ fm_words.toInt ∧ fm_words.toInt ≤ 16) (b_tn_hours : 0 ≤ tn_hours.toInt ∧ tn_hours.toInt ≤ 48) (b_tn_courts : 0 ≤ tn_courts.toInt ∧ tn_courts.toInt ≤ 10) (b_tn_gateCount : 0 ≤ tn_gateCount.toInt ∧ tn_gateCount.toInt ≤ 16) (b_tn_people : 0 ≤ tn_people.toInt ∧ tn_people.toInt ≤ 10) (b_tn_falseHours : 0 ≤ tn_falseHours.toInt ∧ tn_falseHours.toInt ≤ 9) (b_tn_deep : 0 ≤ tn_deep.toInt ∧ tn_deep.toInt ≤ 1) (b_f_tn_degrees : ∀ j : Nat, 0 ≤ (f_tn_degrees j).toInt ∧ (f_tn_degrees j).toInt ≤ 10) (b_f_tn_neighbours : ∀ j : Nat, 0 ≤ (f_tn_neighbours j).toInt ∧ (f_tn_neighbours j).toInt ≤ 9) (sz : Nat) : Met l yX2_enter (.code yX2_enter cX2_enter 10 none :: zT) ({ frames := 3, cells := 0, slots := 0, locals := 67 }) (va_Pc [.ref fm, .int p1, .int p2] (zB sa dC dI (zV47 fm tn fm_words fm_here fm_next fm_here cA_fm_here f_fm_here fm_next cA_fm_next f_fm_next tn tn_hours tn_courts tn_gateCount tn_people tn_lines tn_falseHours tn_strayers tn_deep tn_above tn_doors tn_degrees tn_neighbours tn_shows tn_oneEnd tn_otherEnd tn_told tn_strayParts tn_strayCourts tn_above cA_tn_above f_tn_above tn_degrees cA_tn_degrees f_tn_degrees tn_neighbours cA_tn_neighbours f_tn_neighbours) [(cA_fm_here, .long), (cA_fm_next, .long), (cA_tn_above, .int), (cA_tn_degrees, .int), (cA_tn_neighbours, .int)] sz)) (va_Qv (fun _ : Unit => True) (fun _ t => ∃ (n_fm_next : Nat → Int64), zW dC dI (zV47 fm tn fm_words fm_here fm_next fm_here cA_fm_here f_fm_here fm_next cA_fm_next n_fm_next tn tn_hours tn_courts tn_gateCount tn_people tn_lines tn_falseHours tn_strayers tn_deep tn_above tn_doors tn_degrees tn_neighbours tn_shows tn_oneEnd tn_otherEnd tn_told tn_strayParts tn_strayCourts tn_above cA_tn_above f_tn_above tn_degrees cA_tn_degrees f_tn_degrees tn_neighbours cA_tn_neighbours f_tn_neighbours) [] (va_A (zV47 fm tn fm_words fm_here fm_next fm_here cA_fm_here f_fm_here fm_next cA_fm_next f_fm_next tn tn_hours tn_courts tn_gateCount tn_people tn_lines tn_falseHours tn_strayers tn_deep tn_above tn_doors tn_degrees tn_neighbours tn_shows tn_oneEnd tn_otherEnd tn_told tn_strayParts tn_strayCourts tn_above cA_tn_above f_tn_above tn_degrees cA_tn_degrees f_tn_degrees tn_neighbours cA_tn_neighbours f_tn_neighbours) sz) t) (va_A (zV47 fm tn fm_words fm_here fm_next fm_here cA_fm_here f_fm_here fm_next cA_fm_next f_fm_next tn tn_hours tn_courts tn_gateCount tn_people tn_lines tn_falseHours tn_strayers tn_deep tn_above tn_doors tn_degrees tn_neighbours tn_shows tn_oneEnd tn_otherEnd tn_told tn_strayParts tn_strayCourts tn_above cA_tn_above f_tn_above tn_degrees cA_tn_degrees f_tn_degrees tn_neighbours cA_tn_neighbours f_tn_neighbours) sz)) 0 0 (va_A (zV47 fm tn fm_words fm_here fm_next fm_here cA_fm_here f_fm_here fm_next cA_fm_next f_fm_next tn tn_hours tn_courts tn_gateCount tn_people tn_lines tn_falseHours tn_strayers tn_deep tn_above tn_doors tn_degrees tn_neighbours tn_shows tn_oneEnd tn_otherEnd tn_told tn_strayParts tn_strayCourts tn_above cA_tn_above f_tn_above tn_degrees cA_tn_degrees f_tn_degrees tn_neighbours cA_tn_neighbours f_tn_neighbours) sz) := by
  refine z_enter (by decide) (by exact (Nat.le_of_ble_eq_true rfl)) ?_
  intro p e s m args below meth c ls A R Qc hargs hsz hQe hAe hRe hx hb hml hr hts hown hlocks hin hl hP hK hD hN hXs hA hS
  rw [hAe] at hQe
  have hown : s.vm.findClass RX2 = some m.cls := hown
  have hl : lv_has ls 10 [(0, .ref fm), (1, .int p1), (2, .int p2)] := hl
  refine lv_iconst (v := 0) hx hb dX2_enter_0 (by decide) ?_
  refine lv_istore_n (lv' := [(3, .int 0), (0, .ref fm), (1, .int p1), (2, .int p2)]) hx hb dX2_enter_1 rfl hl (by decide) rfl (fun ls hl => ?_)
  have loop_1 : ∀ (t : Nat) (v3_1 : Int32) (g_fm_next_2 : Nat → Int64) (b_v3_1 : 0 ≤ v3_1.toInt ∧ v3_1.toInt ≤ 16) (H : Heap) (locs : List Loc) (ls : Array Slot), 16 - v3_1.toInt < (t : Int) → va_P (dC, dI) vwCl (zV47 fm tn fm_words fm_here fm_next fm_here cA_fm_here f_fm_here fm_next cA_fm_next g_fm_next_2 tn tn_hours tn_courts tn_gateCount tn_people tn_lines tn_falseHours tn_strayers tn_deep tn_above tn_doors tn_degrees tn_neighbours tn_shows tn_oneEnd tn_otherEnd tn_told tn_strayParts tn_strayCourts tn_above cA_tn_above f_tn_above tn_degrees cA_tn_degrees f_tn_degrees tn_neighbours cA_tn_neighbours f_tn_neighbours) H → va_D A (zV47 fm tn fm_words fm_here fm_next fm_here cA_fm_here f_fm_here fm_next cA_fm_next g_fm_next_2 tn tn_hours tn_courts tn_gateCount tn_people tn_lines tn_falseHours tn_strayers tn_deep tn_above tn_doors tn_degrees tn_neighbours tn_shows tn_oneEnd tn_otherEnd tn_told tn_strayParts tn_strayCourts tn_above cA_tn_above f_tn_above tn_degrees cA_tn_degrees f_tn_degrees tn_neighbours cA_tn_neighbours f_tn_neighbours) → va_S A s.heap H locs → lv_has ls 10 [(0, .ref fm), (1, .int p1), (2, .int p2), (3, .int v3_1)] → W p l e R s m args below meth c H locs 0 0 (MQ below Qc args s 0 0 A) (F0 m 2 ls []) := by
    intro t
    induction t with
    | zero => intro v3_1 g_fm_next_2 b_v3_1 H locs ls hmu _ _ _ _; exact absurd hmu (by first | with_reducible assumption | omega)
    | succ t ih_1 =>
      intro v3_1 g_fm_next_2 b_v3_1 H locs ls hmu hP hD hS hl
      refine lv_iload_n hx hb dX2_enter_2 rfl (lv_at hl 3 rfl) ?_
      refine lv_aload_n hx hb dX2_enter_3 rfl (lv_at hl 0 rfl) ?_
      refine va_get (D := (dC, dI)) (ci := 2) (v := .int fm_words) (C := RX2) (T := TX2) (N := 4) hx hb hts zl_X2 hown hK hP 0 rfl rfl 1 (by decide) (hts _ zw_t2_52) (fun _ h9 => h9) rfl dX2_enter_4 ?_
      refine lv_icmp_ge (tgt := 116) hx hb dX2_enter_7 (by decide) (fun c_3 => ?_) (fun c_3 => ?_)
      · have ic_3 := zz_ge rfl rfl c_3
        exact W.vret hx hb hr (fun t ht hW => by rw [← hQe]; exact ⟨⟨(), rfl, trivial, ⟨g_fm_next_2, z_ret hP hK hD ht hW [0, 1, 2, 3, 4, 5, 6] [] rfl (by decide) rfl⟩⟩, hS.F ht⟩) hS.2.2 dX2_enter_116
      · have ic_3 := zz_nge rfl rfl c_3
        refine lv_aload_n hx hb dX2_enter_10 rfl (lv_at hl 0 rfl) ?_
        refine lv_iload_n hx hb dX2_enter_11 rfl (lv_at hl 2 rfl) ?_
        refine lv_iload_n hx hb dX2_enter_12 rfl (lv_at hl 3 rfl) ?_
        obtain ⟨hPc, hDc, hFc⟩ := z_cut (wc := (zV46 fm tn fm_words fm_here fm_next tn tn_hours tn_courts tn_gateCount tn_people tn_lines tn_falseHours tn_strayers tn_deep tn_above tn_doors tn_degrees tn_neighbours tn_shows tn_oneEnd tn_otherEnd tn_told tn_strayParts tn_strayCourts)) hP hD hS hA [0, 3] rfl (by decide +kernel)
        have hKc := hK.sub (tys' := []) [] rfl
        refine va_calll (va_runV (As := [.int p2, .int v3_1]) (rest := []) ⟨hx, hb, hml, hown, hts⟩ (k_X2_setsWithOneOf l sa dC dI fm p2 v3_1 tn fm_words fm_here fm_next tn_hours tn_courts tn_gateCount tn_people tn_lines tn_falseHours tn_strayers tn_deep tn_above tn_doors tn_degrees tn_neighbours tn_shows tn_oneEnd tn_otherEnd tn_told tn_strayParts tn_strayCourts b_fm_words b_tn_hours b_tn_courts b_tn_gateCount b_tn_people b_tn_falseHours b_tn_deep H.size) (cwV 2 hts (z_gV zw_t4_137 zw_t4_139 zw_s2_11 zw_t1_6 zw_t4_140) rfl rfl rfl (by decide +kernel) (by rw [← hRe]; exact ⟨(Nat.le_of_ble_eq_true rfl), (Nat.le_of_ble_eq_true rfl)⟩)) (z_preV hPc hKc hDc hN hXs hS hFc (q := (RX2, TX2, 4)) (ci := 2) (q0 := 0) rfl rfl) rfl rfl hl.1 rfl (lv_room (Nat.le_of_ble_eq_true rfl)) dX2_enter_13 (by rw [← hRe]; exact ⟨(Nat.le_of_ble_eq_true rfl), (Nat.le_of_ble_eq_true rfl)⟩)) hS (fun q _ h => hFc q h) hFc (fun r_4 u t H1 locs ht hvm hw hB hz1 hk1 hS => ?_)
        obtain ⟨hP, hD, hK⟩ := z_after3 (wn := (zV48 fm_here cA_fm_here f_fm_here fm_next cA_fm_next g_fm_next_2 tn_above cA_tn_above f_tn_above tn_degrees cA_tn_degrees f_tn_degrees tn_neighbours cA_tn_neighbours f_tn_neighbours fm tn fm_words fm_here fm_next tn tn_hours tn_courts tn_gateCount tn_people tn_lines tn_falseHours tn_strayers tn_deep tn_above tn_doors tn_degrees tn_neighbours tn_shows tn_oneEnd tn_otherEnd tn_told tn_strayParts tn_strayCourts)) hB ht hvm hP hD hK [0, 3] [1, 2, 4, 5, 6] rfl 7 rfl (by decide +kernel) rfl (by decide +kernel) hk1 hFc
        generalize H1 = H at hP hS ⊢
        have hK : va_K (dC, dI) vwCl [(cA_fm_here, .long), (cA_fm_next, .long), (cA_tn_above, .int), (cA_tn_degrees, .int), (cA_tn_neighbours, .int)] s := hK
        refine lv_lstore (lv' := [(4, .long r_4), (0, .ref fm), (1, .int p1), (2, .int p2), (3, .int v3_1)]) hx hb dX2_enter_16 hl (by decide) rfl (fun ls hl => ?_)
        refine lv_iconst (v := 0) hx hb dX2_enter_18 (by decide) ?_
        refine lv_istore (lv' := [(6, .int 0), (4, .long r_4), (0, .ref fm), (1, .int p1), (2, .int p2), (3, .int v3_1)]) hx hb dX2_enter_19 hl (by decide) rfl (fun ls hl => ?_)
        have loop_2 : ∀ (t : Nat) (v6_5 : Int32) (g_fm_next_6 : Nat → Int64) (b_v6_5 : 0 ≤ v6_5.toInt ∧ v6_5.toInt ≤ 10) (H : Heap) (locs : List Loc) (ls : Array Slot), 10 - v6_5.toInt < (t : Int) → va_P (dC, dI) vwCl (zV48 fm_here cA_fm_here f_fm_here fm_next cA_fm_next g_fm_next_6 tn_above cA_tn_above f_tn_above tn_degrees cA_tn_degrees f_tn_degrees tn_neighbours cA_tn_neighbours f_tn_neighbours fm tn fm_words fm_here fm_next tn tn_hours tn_courts tn_gateCount tn_people tn_lines tn_falseHours tn_strayers tn_deep tn_above tn_doors tn_degrees tn_neighbours tn_shows tn_oneEnd tn_otherEnd tn_told tn_strayParts tn_strayCourts) H → va_D A (zV48 fm_here cA_fm_here f_fm_here fm_next cA_fm_next g_fm_next_6 tn_above cA_tn_above f_tn_above tn_degrees cA_tn_degrees f_tn_degrees tn_neighbours cA_tn_neighbours f_tn_neighbours fm tn fm_words fm_here fm_next tn tn_hours tn_courts tn_gateCount tn_people tn_lines tn_falseHours tn_strayers tn_deep tn_above tn_doors tn_degrees tn_neighbours tn_shows tn_oneEnd tn_otherEnd tn_told tn_strayParts tn_strayCourts) → va_S A s.heap H locs → lv_has ls 10 [(0, .ref fm), (1, .int p1), (2, .int p2), (3, .int v3_1), (4, .long r_4), (6, .int v6_5)] → W p l e R s m args below meth c H locs 0 0 (MQ below Qc args s 0 0 A) (F0 m 21 ls []) := by
          intro t
          induction t with
          | zero => intro v6_5 g_fm_next_6 b_v6_5 H locs ls hmu _ _ _ _; exact absurd hmu (by first | with_reducible assumption | omega)
          | succ t ih_2 =>
            intro v6_5 g_fm_next_6 b_v6_5 H locs ls hmu hP hD hS hl
            refine lv_iload hx hb dX2_enter_21 (lv_at hl 5 rfl) ?_
            refine lv_aload_n hx hb dX2_enter_23 rfl (lv_at hl 0 rfl) ?_
            refine va_get (D := (dC, dI)) (ci := 2) (v := .ref tn) (C := RX2) (T := TX2) (N := 4) hx hb hts zl_X2 hown hK hP 5 rfl rfl 0 (by decide) (hts _ zw_t2_51) (fun _ h9 => h9) rfl dX2_enter_24 ?_
            refine va_get (D := (dC, dI)) (ci := 7) (v := .ref tn_degrees) (C := RX7) (T := TX7) (N := 18) hx hb hts zl_X7 hown hK hP 6 rfl rfl 10 (by decide) (hts _ zw_t1_88) (fun _ h9 => h9) rfl dX2_enter_27 ?_
            refine lv_iload_n hx hb dX2_enter_30 rfl (lv_at hl 1 rfl) ?_
            refine va_iald hx hb hK hP 3 3 rfl rfl (zi_in rfl (by first | exact z_rin b_p1 (by decide) | omega)) dX2_enter_31 ?_
            refine lv_topi (fun x_7 ex_7 => ?_)
            have b_x_7 : 0 ≤ x_7.toInt ∧ x_7.toInt ≤ 10 := by rw [ex_7]; exact b_f_tn_degrees _
            refine lv_icmp_ge (tgt := 110) hx hb dX2_enter_32 (by decide) (fun c_8 => ?_) (fun c_8 => ?_)
            · have ic_8 := zz_ge rfl rfl c_8
              obtain ⟨x_9, ex_9⟩ : ∃ z : Int32, z = v3_1 + Int32.ofInt 1 := ⟨_, rfl⟩
              have b_x_9 : x_9.toInt = v3_1.toInt + 1 := by rw [ex_9]; exact zi_add rfl (show (Int32.ofInt 1).toInt = 1 from by decide) (z_rac b_v3_1 (by decide))
              refine lv_iinc (v := x_9) (lv' := [(3, .int x_9), (0, .ref fm), (1, .int p1), (2, .int p2), (4, .long r_4), (6, .int v6_5)]) hx hb dX2_enter_110 hl (k := 3) rfl ex_9.symm (by decide) rfl (fun ls hl => ?_)
              refine lv_goto (tgt := 2) hx hb dX2_enter_113 (by decide) ?_
              exact ih_1 x_9 g_fm_next_6 (by first | with_reducible assumption | omega) _ _ _ (by first | with_reducible assumption | omega) (hP.sub (ws' := (zV47 fm tn fm_words fm_here fm_next fm_here cA_fm_here f_fm_here fm_next cA_fm_next g_fm_next_6 tn tn_hours tn_courts tn_gateCount tn_people tn_lines tn_falseHours tn_strayers tn_deep tn_above tn_doors tn_degrees tn_neighbours tn_shows tn_oneEnd tn_otherEnd tn_told tn_strayParts tn_strayCourts tn_above cA_tn_above f_tn_above tn_degrees cA_tn_degrees f_tn_degrees tn_neighbours cA_tn_neighbours f_tn_neighbours)) [5, 0, 1, 6, 2, 3, 4] rfl) (hD.sub (ws' := (zV47 fm tn fm_words fm_here fm_next fm_here cA_fm_here f_fm_here fm_next cA_fm_next g_fm_next_6 tn tn_hours tn_courts tn_gateCount tn_people tn_lines tn_falseHours tn_strayers tn_deep tn_above tn_doors tn_degrees tn_neighbours tn_shows tn_oneEnd tn_otherEnd tn_told tn_strayParts tn_strayCourts tn_above cA_tn_above f_tn_above tn_degrees cA_tn_degrees f_tn_degrees tn_neighbours cA_tn_neighbours f_tn_neighbours)) [5, 0, 1, 6, 2, 3, 4] (by decide) rfl) hS (lv_sub hl [1, 2, 3, 0] rfl)
            · have ic_8 := zz_nge rfl rfl c_8
              refine lv_aload_n hx hb dX2_enter_35 rfl (lv_at hl 0 rfl) ?_
              refine va_get (D := (dC, dI)) (ci := 2) (v := .ref tn) (C := RX2) (T := TX2) (N := 4) hx hb hts zl_X2 hown hK hP 5 rfl rfl 0 (by decide) (hts _ zw_t2_51) (fun _ h9 => h9) rfl dX2_enter_36 ?_
              refine va_get (D := (dC, dI)) (ci := 7) (v := .ref tn_neighbours) (C := RX7) (T := TX7) (N := 18) hx hb hts zl_X7 hown hK hP 6 rfl rfl 11 (by decide) (hts _ zw_t1_92) (fun _ h9 => h9) rfl dX2_enter_39 ?_
              refine lv_iload_n hx hb dX2_enter_42 rfl (lv_at hl 1 rfl) ?_
              refine lv_bipush (v := 10) hx hb dX2_enter_43 (by decide) ?_
              refine lv_imul hx hb dX2_enter_45 ?_
              refine lv_topi (fun x_10 ex_10 => ?_)
              have b_x_10 : x_10.toInt = p1.toInt * 10 := by rw [ex_10]; exact zi_mul rfl (show Int32.toInt 10 = 10 from by decide) (z_rcm b_p1 (by decide))
              refine lv_iload hx hb dX2_enter_46 (lv_at hl 5 rfl) ?_
              refine lv_iadd hx hb dX2_enter_48 ?_
              refine lv_topi (fun x_11 ex_11 => ?_)
              have b_x_11 : x_11.toInt = x_10.toInt + v6_5.toInt := by rw [ex_11]; exact zi_add rfl rfl (z_raa (z_ecm (c := 10) b_x_10 b_p1) b_v6_5 (by decide))
              refine va_iald hx hb hK hP 4 4 rfl rfl (zi_in rfl (by first | exact z_rin (z_ead b_x_11 (z_ecm (c := 10) b_x_10 b_p1) b_v6_5) (by decide) | omega)) dX2_enter_49 ?_
              refine lv_topi (fun x_12 ex_12 => ?_)
              have b_x_12 : 0 ≤ x_12.toInt ∧ x_12.toInt ≤ 9 := by rw [ex_12]; exact b_f_tn_neighbours _
              refine lv_istore (lv' := [(7, .int x_12), (0, .ref fm), (1, .int p1), (2, .int p2), (3, .int v3_1), (4, .long r_4), (6, .int v6_5)]) hx hb dX2_enter_50 hl (by decide) rfl (fun ls hl => ?_)
              refine lv_aload_n hx hb dX2_enter_52 rfl (lv_at hl 1 rfl) ?_
              refine va_get (D := (dC, dI)) (ci := 2) (v := .ref tn) (C := RX2) (T := TX2) (N := 4) hx hb hts zl_X2 hown hK hP 5 rfl rfl 0 (by decide) (hts _ zw_t2_51) (fun _ h9 => h9) rfl dX2_enter_53 ?_
              refine lv_iload hx hb dX2_enter_56 (lv_at hl 0 rfl) ?_
              refine lv_iload_n hx hb dX2_enter_58 rfl (lv_at hl 2 rfl) ?_
              obtain ⟨hPc, hDc, hFc⟩ := z_cut (wc := (zV5 tn tn_hours tn_courts tn_gateCount tn_people tn_lines tn_falseHours tn_strayers tn_deep tn_above tn_doors tn_degrees tn_neighbours tn_shows tn_oneEnd tn_otherEnd tn_told tn_strayParts tn_strayCourts tn_above cA_tn_above f_tn_above)) hP hD hS hA [6, 2] rfl (by decide +kernel)
              have hKc := hK.sub (tys' := [(cA_tn_above, .int)]) [2] rfl
              refine va_calli (va_runV (As := [.int x_12, .int p1]) (rest := []) ⟨hx, hb, hml, hown, hts⟩ (k_X7_isFree l sa dC dI tn x_12 p1 tn_hours tn_courts tn_gateCount tn_people tn_lines tn_falseHours tn_strayers tn_deep tn_above tn_doors tn_degrees tn_neighbours tn_shows tn_oneEnd tn_otherEnd tn_told tn_strayParts tn_strayCourts cA_tn_above f_tn_above b_x_12 b_tn_hours b_tn_courts b_tn_gateCount b_tn_people b_tn_falseHours b_tn_deep H.size) (cwV 2 hts (z_gV zw_t4_147 zw_t3_226 zw_t3_227 zw_t1_3 zw_t3_228) rfl rfl rfl (by decide +kernel) (by rw [← hRe]; exact ⟨(Nat.le_of_ble_eq_true rfl), (Nat.le_of_ble_eq_true rfl)⟩)) (z_preV hPc hKc hDc hN hXs hS hFc (q := (RX7, TX7, 18)) (ci := 7) (q0 := 0) rfl rfl) rfl rfl hl.1 rfl (lv_room (Nat.le_of_ble_eq_true rfl)) dX2_enter_59 (by rw [← hRe]; exact ⟨(Nat.le_of_ble_eq_true rfl), (Nat.le_of_ble_eq_true rfl)⟩)) hS (fun q _ h => hFc q h) hFc (fun r_13 u t H1 locs ht hvm hw hB hz1 hk1 hS => ?_)
              obtain ⟨hP, hD, hK⟩ := z_after3 (wn := (zV49 fm_here cA_fm_here f_fm_here fm_next cA_fm_next g_fm_next_6 tn_degrees cA_tn_degrees f_tn_degrees tn_neighbours cA_tn_neighbours f_tn_neighbours fm tn fm_words fm_here fm_next tn tn_hours tn_courts tn_gateCount tn_people tn_lines tn_falseHours tn_strayers tn_deep tn_above tn_doors tn_degrees tn_neighbours tn_shows tn_oneEnd tn_otherEnd tn_told tn_strayParts tn_strayCourts tn_above cA_tn_above f_tn_above)) hB ht hvm hP hD hK [6, 2] [0, 1, 3, 4, 5] rfl 7 rfl (by decide +kernel) rfl (by decide +kernel) hk1 hFc
              generalize H1 = H at hP hS ⊢
              have hK : va_K (dC, dI) vwCl [(cA_fm_here, .long), (cA_fm_next, .long), (cA_tn_above, .int), (cA_tn_degrees, .int), (cA_tn_neighbours, .int)] s := hK
              have b_r_13 : 0 ≤ r_13.toInt ∧ r_13.toInt ≤ 1 := hw
              refine lv_if_eq (tgt := 71) hx hb dX2_enter_62 (by decide) (fun c_14 => ?_) (fun c_14 => ?_)
              · have ic_14 := zz_eq rfl (show Int32.toInt 0 = 0 from by decide) c_14
                refine lv_lload hx hb dX2_enter_71 (lv_at hl 5 rfl) ?_
                refine lv_lstore (lv' := [(8, .long r_4), (7, .int x_12), (0, .ref fm), (1, .int p1), (2, .int p2), (3, .int v3_1), (4, .long r_4), (6, .int v6_5)]) hx hb dX2_enter_73 hl (by decide) rfl (fun ls hl => ?_)
                refine lv_aload_n hx hb dX2_enter_75 rfl (lv_at hl 2 rfl) ?_
                refine va_get (D := (dC, dI)) (ci := 2) (v := .ref fm_next) (C := RX2) (T := TX2) (N := 4) hx hb hts zl_X2 hown hK hP 4 rfl rfl 3 (by decide) (hts _ zw_t2_54) (fun _ h9 => h9) rfl dX2_enter_76 ?_
                refine lv_iload_n hx hb dX2_enter_79 rfl (lv_at hl 3 rfl) ?_
                refine lv_bipush (v := 16) hx hb dX2_enter_80 (by decide) ?_
                refine lv_imul hx hb dX2_enter_82 ?_
                refine lv_topi (fun x_15 ex_15 => ?_)
                have b_x_15 : x_15.toInt = p1.toInt * 16 := by rw [ex_15]; exact zi_mul rfl (show Int32.toInt 16 = 16 from by decide) (z_rcm b_p1 (by decide))
                refine lv_iload_n hx hb dX2_enter_83 rfl (lv_at hl 5 rfl) ?_
                refine lv_iadd hx hb dX2_enter_84 ?_
                refine lv_topi (fun x_16 ex_16 => ?_)
                have b_x_16 : x_16.toInt = x_15.toInt + v3_1.toInt := by rw [ex_16]; exact zi_add rfl rfl (z_raa (z_ecm (c := 16) b_x_15 b_p1) b_v3_1 (by decide))
                refine lv_dup2_11 hx hb dX2_enter_85 rfl rfl ?_
                refine va_lald hx hb hK hP 1 1 rfl rfl (zi_in rfl (by first | with_reducible assumption | omega)) dX2_enter_86 ?_
                refine lv_topl (fun x_17 ex_17 => ?_)
                refine lv_aload_n hx hb dX2_enter_87 rfl (lv_at hl 2 rfl) ?_
                refine va_get (D := (dC, dI)) (ci := 2) (v := .ref fm_here) (C := RX2) (T := TX2) (N := 4) hx hb hts zl_X2 hown hK hP 4 rfl rfl 2 (by decide) (hts _ zw_t2_53) (fun _ h9 => h9) rfl dX2_enter_88 ?_
                refine lv_iload hx hb dX2_enter_91 (lv_at hl 1 rfl) ?_
                refine lv_bipush (v := 16) hx hb dX2_enter_93 (by decide) ?_
                refine lv_imul hx hb dX2_enter_95 ?_
                refine lv_topi (fun x_18 ex_18 => ?_)
                have b_x_18 : x_18.toInt = x_12.toInt * 16 := by rw [ex_18]; exact zi_mul rfl (show Int32.toInt 16 = 16 from by decide) (z_rcm b_x_12 (by decide))
                refine lv_iload_n hx hb dX2_enter_96 rfl (lv_at hl 5 rfl) ?_
                refine lv_iadd hx hb dX2_enter_97 ?_
                refine lv_topi (fun x_19 ex_19 => ?_)
                have b_x_19 : x_19.toInt = x_18.toInt + v3_1.toInt := by rw [ex_19]; exact zi_add rfl rfl (z_raa (z_ecm (c := 16) b_x_18 b_x_12) b_v3_1 (by decide))
                refine va_lald hx hb hK hP 0 0 rfl rfl (zi_in rfl (by first | exact z_rin (z_ead b_x_19 (z_ecm (c := 16) b_x_18 b_x_12) b_v3_1) (by decide) | omega)) dX2_enter_98 ?_
                refine lv_topl (fun x_20 ex_20 => ?_)
                refine lv_lload hx hb dX2_enter_99 (lv_at hl 0 rfl) ?_
                refine lv_land hx hb dX2_enter_101 ?_
                refine lv_topl (fun x_21 ex_21 => ?_)
                refine lv_lor hx hb dX2_enter_102 ?_
                refine lv_topl (fun x_22 ex_22 => ?_)
                refine va_last hx hb hK hP hD hS 1 1 rfl rfl (zi_in rfl (by first | with_reducible assumption | omega)) dX2_enter_103 (fun H locs hP hD hS => ?_)
                obtain ⟨f_23, ef_23⟩ : ∃ g : Nat → Int64, g = vp_updL g_fm_next_6 (Int32.toNatClampNeg x_16) x_22 := ⟨_, rfl⟩
                have hP : va_P (dC, dI) vwCl (zV49 fm_here cA_fm_here f_fm_here fm_next cA_fm_next (vp_updL g_fm_next_6 (Int32.toNatClampNeg x_16) x_22) tn_degrees cA_tn_degrees f_tn_degrees tn_neighbours cA_tn_neighbours f_tn_neighbours fm tn fm_words fm_here fm_next tn tn_hours tn_courts tn_gateCount tn_people tn_lines tn_falseHours tn_strayers tn_deep tn_above tn_doors tn_degrees tn_neighbours tn_shows tn_oneEnd tn_otherEnd tn_told tn_strayParts tn_strayCourts tn_above cA_tn_above f_tn_above) H := hP
                have hD : va_D A (zV49 fm_here cA_fm_here f_fm_here fm_next cA_fm_next (vp_updL g_fm_next_6 (Int32.toNatClampNeg x_16) x_22) tn_degrees cA_tn_degrees f_tn_degrees tn_neighbours cA_tn_neighbours f_tn_neighbours fm tn fm_words fm_here fm_next tn tn_hours tn_courts tn_gateCount tn_people tn_lines tn_falseHours tn_strayers tn_deep tn_above tn_doors tn_degrees tn_neighbours tn_shows tn_oneEnd tn_otherEnd tn_told tn_strayParts tn_strayCourts tn_above cA_tn_above f_tn_above) := hD
                rw [← ef_23] at hP hD
                obtain ⟨x_24, ex_24⟩ : ∃ z : Int32, z = v6_5 + Int32.ofInt 1 := ⟨_, rfl⟩
                have b_x_24 : x_24.toInt = v6_5.toInt + 1 := by rw [ex_24]; exact zi_add rfl (show (Int32.ofInt 1).toInt = 1 from by decide) (z_rac b_v6_5 (by decide))
                refine lv_iinc (v := x_24) (lv' := [(6, .int x_24), (8, .long r_4), (7, .int x_12), (0, .ref fm), (1, .int p1), (2, .int p2), (3, .int v3_1), (4, .long r_4)]) hx hb dX2_enter_104 hl (k := 7) rfl ex_24.symm (by decide) rfl (fun ls hl => ?_)
                refine lv_goto (tgt := 21) hx hb dX2_enter_107 (by decide) ?_
                exact ih_2 x_24 f_23 (by first | with_reducible assumption | omega) _ _ _ (by first | with_reducible assumption | omega) (hP.sub (ws' := (zV48 fm_here cA_fm_here f_fm_here fm_next cA_fm_next f_23 tn_above cA_tn_above f_tn_above tn_degrees cA_tn_degrees f_tn_degrees tn_neighbours cA_tn_neighbours f_tn_neighbours fm tn fm_words fm_here fm_next tn tn_hours tn_courts tn_gateCount tn_people tn_lines tn_falseHours tn_strayers tn_deep tn_above tn_doors tn_degrees tn_neighbours tn_shows tn_oneEnd tn_otherEnd tn_told tn_strayParts tn_strayCourts)) [0, 1, 6, 2, 3, 4, 5] rfl) (hD.sub (ws' := (zV48 fm_here cA_fm_here f_fm_here fm_next cA_fm_next f_23 tn_above cA_tn_above f_tn_above tn_degrees cA_tn_degrees f_tn_degrees tn_neighbours cA_tn_neighbours f_tn_neighbours fm tn fm_words fm_here fm_next tn tn_hours tn_courts tn_gateCount tn_people tn_lines tn_falseHours tn_strayers tn_deep tn_above tn_doors tn_degrees tn_neighbours tn_shows tn_oneEnd tn_otherEnd tn_told tn_strayParts tn_strayCourts)) [0, 1, 6, 2, 3, 4, 5] (by decide) rfl) hS (lv_sub hl [3, 4, 5, 6, 7, 0] rfl)
              · have ic_14 := zz_neq rfl (show Int32.toInt 0 = 0 from by decide) c_14
                refine lv_ldc2 (v := (-1)) hx hb hown (hts _ zw_t4_130) dX2_enter_65 ?_
                refine lv_goto (tgt := 73) hx hb dX2_enter_68 (by decide) ?_
                refine lv_lstore (lv' := [(8, .long (-1)), (7, .int x_12), (0, .ref fm), (1, .int p1), (2, .int p2), (3, .int v3_1), (4, .long r_4), (6, .int v6_5)]) hx hb dX2_enter_73 hl (by decide) rfl (fun ls hl => ?_)
                refine lv_aload_n hx hb dX2_enter_75 rfl (lv_at hl 2 rfl) ?_
                refine va_get (D := (dC, dI)) (ci := 2) (v := .ref fm_next) (C := RX2) (T := TX2) (N := 4) hx hb hts zl_X2 hown hK hP 4 rfl rfl 3 (by decide) (hts _ zw_t2_54) (fun _ h9 => h9) rfl dX2_enter_76 ?_
                refine lv_iload_n hx hb dX2_enter_79 rfl (lv_at hl 3 rfl) ?_
                refine lv_bipush (v := 16) hx hb dX2_enter_80 (by decide) ?_
                refine lv_imul hx hb dX2_enter_82 ?_
                refine lv_topi (fun x_25 ex_25 => ?_)
                have b_x_25 : x_25.toInt = p1.toInt * 16 := by rw [ex_25]; exact zi_mul rfl (show Int32.toInt 16 = 16 from by decide) (z_rcm b_p1 (by decide))
                refine lv_iload_n hx hb dX2_enter_83 rfl (lv_at hl 5 rfl) ?_
                refine lv_iadd hx hb dX2_enter_84 ?_
                refine lv_topi (fun x_26 ex_26 => ?_)
                have b_x_26 : x_26.toInt = x_25.toInt + v3_1.toInt := by rw [ex_26]; exact zi_add rfl rfl (z_raa (z_ecm (c := 16) b_x_25 b_p1) b_v3_1 (by decide))
                refine lv_dup2_11 hx hb dX2_enter_85 rfl rfl ?_
                refine va_lald hx hb hK hP 1 1 rfl rfl (zi_in rfl (by first | with_reducible assumption | omega)) dX2_enter_86 ?_
                refine lv_topl (fun x_27 ex_27 => ?_)
                refine lv_aload_n hx hb dX2_enter_87 rfl (lv_at hl 2 rfl) ?_
                refine va_get (D := (dC, dI)) (ci := 2) (v := .ref fm_here) (C := RX2) (T := TX2) (N := 4) hx hb hts zl_X2 hown hK hP 4 rfl rfl 2 (by decide) (hts _ zw_t2_53) (fun _ h9 => h9) rfl dX2_enter_88 ?_
                refine lv_iload hx hb dX2_enter_91 (lv_at hl 1 rfl) ?_
                refine lv_bipush (v := 16) hx hb dX2_enter_93 (by decide) ?_
                refine lv_imul hx hb dX2_enter_95 ?_
                refine lv_topi (fun x_28 ex_28 => ?_)
                have b_x_28 : x_28.toInt = x_12.toInt * 16 := by rw [ex_28]; exact zi_mul rfl (show Int32.toInt 16 = 16 from by decide) (z_rcm b_x_12 (by decide))
                refine lv_iload_n hx hb dX2_enter_96 rfl (lv_at hl 5 rfl) ?_
                refine lv_iadd hx hb dX2_enter_97 ?_
                refine lv_topi (fun x_29 ex_29 => ?_)
                have b_x_29 : x_29.toInt = x_28.toInt + v3_1.toInt := by rw [ex_29]; exact zi_add rfl rfl (z_raa (z_ecm (c := 16) b_x_28 b_x_12) b_v3_1 (by decide))
                refine va_lald hx hb hK hP 0 0 rfl rfl (zi_in rfl (by first | exact z_rin (z_ead b_x_29 (z_ecm (c := 16) b_x_28 b_x_12) b_v3_1) (by decide) | omega)) dX2_enter_98 ?_
                refine lv_topl (fun x_30 ex_30 => ?_)
                refine lv_lload hx hb dX2_enter_99 (lv_at hl 0 rfl) ?_
                refine lv_land hx hb dX2_enter_101 ?_
                refine lv_topl (fun x_31 ex_31 => ?_)
                refine lv_lor hx hb dX2_enter_102 ?_
                refine lv_topl (fun x_32 ex_32 => ?_)
                refine va_last hx hb hK hP hD hS 1 1 rfl rfl (zi_in rfl (by first | with_reducible assumption | omega)) dX2_enter_103 (fun H locs hP hD hS => ?_)
                obtain ⟨f_33, ef_33⟩ : ∃ g : Nat → Int64, g = vp_updL g_fm_next_6 (Int32.toNatClampNeg x_26) x_32 := ⟨_, rfl⟩
                have hP : va_P (dC, dI) vwCl (zV49 fm_here cA_fm_here f_fm_here fm_next cA_fm_next (vp_updL g_fm_next_6 (Int32.toNatClampNeg x_26) x_32) tn_degrees cA_tn_degrees f_tn_degrees tn_neighbours cA_tn_neighbours f_tn_neighbours fm tn fm_words fm_here fm_next tn tn_hours tn_courts tn_gateCount tn_people tn_lines tn_falseHours tn_strayers tn_deep tn_above tn_doors tn_degrees tn_neighbours tn_shows tn_oneEnd tn_otherEnd tn_told tn_strayParts tn_strayCourts tn_above cA_tn_above f_tn_above) H := hP
                have hD : va_D A (zV49 fm_here cA_fm_here f_fm_here fm_next cA_fm_next (vp_updL g_fm_next_6 (Int32.toNatClampNeg x_26) x_32) tn_degrees cA_tn_degrees f_tn_degrees tn_neighbours cA_tn_neighbours f_tn_neighbours fm tn fm_words fm_here fm_next tn tn_hours tn_courts tn_gateCount tn_people tn_lines tn_falseHours tn_strayers tn_deep tn_above tn_doors tn_degrees tn_neighbours tn_shows tn_oneEnd tn_otherEnd tn_told tn_strayParts tn_strayCourts tn_above cA_tn_above f_tn_above) := hD
                rw [← ef_33] at hP hD
                obtain ⟨x_34, ex_34⟩ : ∃ z : Int32, z = v6_5 + Int32.ofInt 1 := ⟨_, rfl⟩
                have b_x_34 : x_34.toInt = v6_5.toInt + 1 := by rw [ex_34]; exact zi_add rfl (show (Int32.ofInt 1).toInt = 1 from by decide) (z_rac b_v6_5 (by decide))
                refine lv_iinc (v := x_34) (lv' := [(6, .int x_34), (8, .long (-1)), (7, .int x_12), (0, .ref fm), (1, .int p1), (2, .int p2), (3, .int v3_1), (4, .long r_4)]) hx hb dX2_enter_104 hl (k := 7) rfl ex_34.symm (by decide) rfl (fun ls hl => ?_)
                refine lv_goto (tgt := 21) hx hb dX2_enter_107 (by decide) ?_
                exact ih_2 x_34 f_33 (by first | with_reducible assumption | omega) _ _ _ (by first | with_reducible assumption | omega) (hP.sub (ws' := (zV48 fm_here cA_fm_here f_fm_here fm_next cA_fm_next f_33 tn_above cA_tn_above f_tn_above tn_degrees cA_tn_degrees f_tn_degrees tn_neighbours cA_tn_neighbours f_tn_neighbours fm tn fm_words fm_here fm_next tn tn_hours tn_courts tn_gateCount tn_people tn_lines tn_falseHours tn_strayers tn_deep tn_above tn_doors tn_degrees tn_neighbours tn_shows tn_oneEnd tn_otherEnd tn_told tn_strayParts tn_strayCourts)) [0, 1, 6, 2, 3, 4, 5] rfl) (hD.sub (ws' := (zV48 fm_here cA_fm_here f_fm_here fm_next cA_fm_next f_33 tn_above cA_tn_above f_tn_above tn_degrees cA_tn_degrees f_tn_degrees tn_neighbours cA_tn_neighbours f_tn_neighbours fm tn fm_words fm_here fm_next tn tn_hours tn_courts tn_gateCount tn_people tn_lines tn_falseHours tn_strayers tn_deep tn_above tn_doors tn_degrees tn_neighbours tn_shows tn_oneEnd tn_otherEnd tn_told tn_strayParts tn_strayCourts)) [0, 1, 6, 2, 3, 4, 5] (by decide) rfl) hS (lv_sub hl [3, 4, 5, 6, 7, 0] rfl)
        exact loop_2 12 (0) g_fm_next_2 (by decide) _ _ _ (by decide) hP hD hS (lv_sub hl [2, 3, 4, 5, 1, 0] rfl)
  exact loop_1 18 (0) f_fm_next (by decide) _ _ _ (by decide) hP hD hS (lv_sub hl [1, 2, 3, 0] rfl)
set_option maxHeartbeats 4000000 in
set_option maxRecDepth 100000 in
theorem k_X2_comesTo (l : Launch) (sa : Nat → Nat) (dC : Nat → ClassId) (dI : Nat → Nat → Nat) (fm : Nat) (p1 : Int32) (p2 : Int32) (tn : Nat) (fm_words : Int32) (fm_here : Nat) (fm_next : Nat) (cA_fm_here : ClassId) (f_fm_here : Nat → Int64) (b_p1 : 0 ≤ p1.toInt ∧ p1.toInt ≤ 9) (b_p2 : 0 ≤ p2.toInt ∧ p2.toInt ≤ 1023) (b_fm_words : 1 ≤ fm_words.toInt ∧ fm_words.toInt ≤ 16) (sz : Nat) : Met l yX2_comesTo (.code yX2_comesTo cX2_comesTo 3 (some .boolean) :: zT) ({ frames := 0, cells := 0, slots := 0, locals := 0 }) (va_Pc [.ref fm, .int p1, .int p2] (zB sa dC dI (zV50 fm tn fm_words fm_here fm_next fm_here cA_fm_here f_fm_here) [(cA_fm_here, .long)] sz)) (va_Qi (fun (r : Int32) (_ : Unit) => (0 ≤ r.toInt ∧ r.toInt ≤ 1)) (fun _ t => zW dC dI (zV50 fm tn fm_words fm_here fm_next fm_here cA_fm_here f_fm_here) [] (va_A (zV50 fm tn fm_words fm_here fm_next fm_here cA_fm_here f_fm_here) sz) t) (va_A (zV50 fm tn fm_words fm_here fm_next fm_here cA_fm_here f_fm_here) sz)) 0 0 (va_A (zV50 fm tn fm_words fm_here fm_next fm_here cA_fm_here f_fm_here) sz) := by
  refine z_enter (by decide) (by exact (Nat.le_of_ble_eq_true rfl)) ?_
  intro p e s m args below meth c ls A R Qc hargs hsz hQe hAe hRe hx hb hml hr hts hown hlocks hin hl hP hK hD hN hXs hA hS
  rw [hAe] at hQe
  have hown : s.vm.findClass RX2 = some m.cls := hown
  have hl : lv_has ls 3 [(0, .ref fm), (1, .int p1), (2, .int p2)] := hl
  refine lv_aload_n hx hb dX2_comesTo_0 rfl (lv_at hl 0 rfl) ?_
  refine va_get (D := (dC, dI)) (ci := 2) (v := .ref fm_here) (C := RX2) (T := TX2) (N := 4) hx hb hts zl_X2 hown hK hP 0 rfl rfl 2 (by decide) (hts _ zw_t2_53) (fun _ h9 => h9) rfl dX2_comesTo_1 ?_
  refine lv_iload_n hx hb dX2_comesTo_4 rfl (lv_at hl 1 rfl) ?_
  refine lv_bipush (v := 16) hx hb dX2_comesTo_5 (by decide) ?_
  refine lv_imul hx hb dX2_comesTo_7 ?_
  refine lv_topi (fun x_1 ex_1 => ?_)
  have b_x_1 : x_1.toInt = p1.toInt * 16 := by rw [ex_1]; exact zi_mul rfl (show Int32.toInt 16 = 16 from by decide) (z_rcm b_p1 (by decide))
  refine lv_iload_n hx hb dX2_comesTo_8 rfl (lv_at hl 2 rfl) ?_
  refine lv_bipush (v := 64) hx hb dX2_comesTo_9 (by decide) ?_
  refine lv_idiv hx hb dX2_comesTo_11 (by decide) ?_
  refine lv_topi (fun x_2 ex_2 => ?_)
  have b_x_2 : x_2.toInt = p2.toInt / 64 := by rw [ex_2]; exact zi_div rfl (show Int32.toInt 64 = 64 from by decide) (by first | with_reducible assumption | omega) (by decide)
  refine lv_iadd hx hb dX2_comesTo_12 ?_
  refine lv_topi (fun x_3 ex_3 => ?_)
  have b_x_3 : x_3.toInt = x_1.toInt + x_2.toInt := by rw [ex_3]; exact zi_add rfl rfl (by first | with_reducible assumption | omega)
  refine va_lald hx hb hK hP 1 0 rfl rfl (zi_in rfl (by first | with_reducible assumption | omega)) dX2_comesTo_13 ?_
  refine lv_topl (fun x_4 ex_4 => ?_)
  refine lv_iload_n hx hb dX2_comesTo_14 rfl (lv_at hl 2 rfl) ?_
  refine lv_bipush (v := 64) hx hb dX2_comesTo_15 (by decide) ?_
  refine lv_irem hx hb dX2_comesTo_17 (by decide) ?_
  refine lv_topi (fun x_5 ex_5 => ?_)
  have b_x_5 : x_5.toInt = p2.toInt % 64 := by rw [ex_5]; exact zi_rem rfl (show Int32.toInt 64 = 64 from by decide) (by first | with_reducible assumption | omega) (by decide)
  refine lv_lushr (v := _) hx hb dX2_comesTo_18 rfl ?_
  refine lv_topl (fun x_6 ex_6 => ?_)
  refine lv_lconst (v := 1) hx hb dX2_comesTo_19 (by decide) ?_
  refine lv_land hx hb dX2_comesTo_20 ?_
  refine lv_topl (fun x_7 ex_7 => ?_)
  refine lv_lconst (v := 0) hx hb dX2_comesTo_21 (by decide) ?_
  refine W.lcmp hx hb dX2_comesTo_22 ?_
  refine lv_if_eq (tgt := 30) hx hb dX2_comesTo_23 (by decide) (fun c_8 => ?_) (fun c_8 => ?_)
  · have ic_8 := zl_eq rfl (show Int64.toInt 0 = 0 from by decide) c_8
    refine lv_iconst (v := 0) hx hb dX2_comesTo_30 (by decide) ?_
    exact W.zret (v := 0) hx hb hr (by decide) (fun t ht hW => by rw [← hQe]; exact ⟨⟨0, (), rfl, (by decide), z_ret hP hK hD ht hW [0, 1] [] rfl (by decide) rfl⟩, hS.F ht⟩) hS.2.2 dX2_comesTo_31
  · have ic_8 := zl_neq rfl (show Int64.toInt 0 = 0 from by decide) c_8
    refine lv_iconst (v := 1) hx hb dX2_comesTo_26 (by decide) ?_
    refine lv_goto (tgt := 31) hx hb dX2_comesTo_27 (by decide) ?_
    exact W.zret (v := 1) hx hb hr (by decide) (fun t ht hW => by rw [← hQe]; exact ⟨⟨1, (), rfl, (by decide), z_ret hP hK hD ht hW [0, 1] [] rfl (by decide) rfl⟩, hS.F ht⟩) hS.2.2 dX2_comesTo_31
set_option maxHeartbeats 4000000 in
set_option maxRecDepth 100000 in
theorem k_X2_comesToAll (l : Launch) (sa : Nat → Nat) (dC : Nat → ClassId) (dI : Nat → Nat → Nat) (fm : Nat) (p1 : Int32) (p2 : Int32) (tn : Nat) (fm_words : Int32) (fm_here : Nat) (fm_next : Nat) (cA_fm_here : ClassId) (f_fm_here : Nat → Int64) (tn_hours : Int32) (tn_courts : Int32) (tn_gateCount : Int32) (tn_people : Int32) (tn_lines : Int32) (tn_falseHours : Int32) (tn_strayers : Int32) (tn_deep : Int32) (tn_above : Nat) (tn_doors : Nat) (tn_degrees : Nat) (tn_neighbours : Nat) (tn_shows : Nat) (tn_oneEnd : Nat) (tn_otherEnd : Nat) (tn_told : Nat) (tn_strayParts : Nat) (tn_strayCourts : Nat) (b_p2 : 0 ≤ p2.toInt ∧ p2.toInt ≤ 1023) (b_fm_words : 1 ≤ fm_words.toInt ∧ fm_words.toInt ≤ 16) (b_tn_hours : 0 ≤ tn_hours.toInt ∧ tn_hours.toInt ≤ 48) (b_tn_courts : 0 ≤ tn_courts.toInt ∧ tn_courts.toInt ≤ 10) (b_tn_gateCount : 0 ≤ tn_gateCount.toInt ∧ tn_gateCount.toInt ≤ 16) (b_tn_people : 0 ≤ tn_people.toInt ∧ tn_people.toInt ≤ 10) (b_tn_falseHours : 0 ≤ tn_falseHours.toInt ∧ tn_falseHours.toInt ≤ 9) (b_tn_deep : 0 ≤ tn_deep.toInt ∧ tn_deep.toInt ≤ 1) (sz : Nat) : Met l yX2_comesToAll (.code yX2_comesToAll cX2_comesToAll 4 (some .boolean) :: zT) ({ frames := 1, cells := 0, slots := 0, locals := 22 }) (va_Pc [.ref fm, .int p1, .int p2] (zB sa dC dI (zV51 fm tn fm_words fm_here fm_next fm_here cA_fm_here f_fm_here tn tn_hours tn_courts tn_gateCount tn_people tn_lines tn_falseHours tn_strayers tn_deep tn_above tn_doors tn_degrees tn_neighbours tn_shows tn_oneEnd tn_otherEnd tn_told tn_strayParts tn_strayCourts) [(cA_fm_here, .long)] sz)) (va_Qi (fun (r : Int32) (_ : Unit) => (0 ≤ r.toInt ∧ r.toInt ≤ 1)) (fun _ t => zW dC dI (zV51 fm tn fm_words fm_here fm_next fm_here cA_fm_here f_fm_here tn tn_hours tn_courts tn_gateCount tn_people tn_lines tn_falseHours tn_strayers tn_deep tn_above tn_doors tn_degrees tn_neighbours tn_shows tn_oneEnd tn_otherEnd tn_told tn_strayParts tn_strayCourts) [] (va_A (zV51 fm tn fm_words fm_here fm_next fm_here cA_fm_here f_fm_here tn tn_hours tn_courts tn_gateCount tn_people tn_lines tn_falseHours tn_strayers tn_deep tn_above tn_doors tn_degrees tn_neighbours tn_shows tn_oneEnd tn_otherEnd tn_told tn_strayParts tn_strayCourts) sz) t) (va_A (zV51 fm tn fm_words fm_here fm_next fm_here cA_fm_here f_fm_here tn tn_hours tn_courts tn_gateCount tn_people tn_lines tn_falseHours tn_strayers tn_deep tn_above tn_doors tn_degrees tn_neighbours tn_shows tn_oneEnd tn_otherEnd tn_told tn_strayParts tn_strayCourts) sz)) 0 0 (va_A (zV51 fm tn fm_words fm_here fm_next fm_here cA_fm_here f_fm_here tn tn_hours tn_courts tn_gateCount tn_people tn_lines tn_falseHours tn_strayers tn_deep tn_above tn_doors tn_degrees tn_neighbours tn_shows tn_oneEnd tn_otherEnd tn_told tn_strayParts tn_strayCourts) sz) := by
  refine z_enter (by decide) (by exact (Nat.le_of_ble_eq_true rfl)) ?_
  intro p e s m args below meth c ls A R Qc hargs hsz hQe hAe hRe hx hb hml hr hts hown hlocks hin hl hP hK hD hN hXs hA hS
  rw [hAe] at hQe
  have hown : s.vm.findClass RX2 = some m.cls := hown
  have hl : lv_has ls 4 [(0, .ref fm), (1, .int p1), (2, .int p2)] := hl
  refine lv_iconst (v := 0) hx hb dX2_comesToAll_0 (by decide) ?_
  refine lv_istore_n (lv' := [(3, .int 0), (0, .ref fm), (1, .int p1), (2, .int p2)]) hx hb dX2_comesToAll_1 rfl hl (by decide) rfl (fun ls hl => ?_)
  have loop_1 : ∀ (t : Nat) (v3_1 : Int32) (b_v3_1 : 0 ≤ v3_1.toInt ∧ v3_1.toInt ≤ 10) (H : Heap) (locs : List Loc) (ls : Array Slot), 10 - v3_1.toInt < (t : Int) → va_P (dC, dI) vwCl (zV51 fm tn fm_words fm_here fm_next fm_here cA_fm_here f_fm_here tn tn_hours tn_courts tn_gateCount tn_people tn_lines tn_falseHours tn_strayers tn_deep tn_above tn_doors tn_degrees tn_neighbours tn_shows tn_oneEnd tn_otherEnd tn_told tn_strayParts tn_strayCourts) H → va_D A (zV51 fm tn fm_words fm_here fm_next fm_here cA_fm_here f_fm_here tn tn_hours tn_courts tn_gateCount tn_people tn_lines tn_falseHours tn_strayers tn_deep tn_above tn_doors tn_degrees tn_neighbours tn_shows tn_oneEnd tn_otherEnd tn_told tn_strayParts tn_strayCourts) → va_S A s.heap H locs → lv_has ls 4 [(0, .ref fm), (1, .int p1), (2, .int p2), (3, .int v3_1)] → W p l e R s m args below meth c H locs 0 0 (MQ below Qc args s 0 0 A) (F0 m 2 ls []) := by
    intro t
    induction t with
    | zero => intro v3_1 b_v3_1 H locs ls hmu _ _ _ _; exact absurd hmu (by first | with_reducible assumption | omega)
    | succ t ih_1 =>
      intro v3_1 b_v3_1 H locs ls hmu hP hD hS hl
      refine lv_iload_n hx hb dX2_comesToAll_2 rfl (lv_at hl 3 rfl) ?_
      refine lv_aload_n hx hb dX2_comesToAll_3 rfl (lv_at hl 0 rfl) ?_
      refine va_get (D := (dC, dI)) (ci := 2) (v := .ref tn) (C := RX2) (T := TX2) (N := 4) hx hb hts zl_X2 hown hK hP 0 rfl rfl 0 (by decide) (hts _ zw_t2_51) (fun _ h9 => h9) rfl dX2_comesToAll_4 ?_
      refine va_get (D := (dC, dI)) (ci := 7) (v := .int tn_courts) (C := RX7) (T := TX7) (N := 18) hx hb hts zl_X7 hown hK hP 2 rfl rfl 1 (by decide) (hts _ zw_t1_48) (fun _ h9 => h9) rfl dX2_comesToAll_7 ?_
      refine lv_icmp_ge (tgt := 38) hx hb dX2_comesToAll_10 (by decide) (fun c_2 => ?_) (fun c_2 => ?_)
      · have ic_2 := zz_ge rfl rfl c_2
        refine lv_iconst (v := 1) hx hb dX2_comesToAll_38 (by decide) ?_
        exact W.zret (v := 1) hx hb hr (by decide) (fun t ht hW => by rw [← hQe]; exact ⟨⟨1, (), rfl, (by decide), z_ret hP hK hD ht hW [0, 1, 2] [] rfl (by decide) rfl⟩, hS.F ht⟩) hS.2.2 dX2_comesToAll_39
      · have ic_2 := zz_nge rfl rfl c_2
        refine lv_iload_n hx hb dX2_comesToAll_13 rfl (lv_at hl 1 rfl) ?_
        refine lv_iload_n hx hb dX2_comesToAll_14 rfl (lv_at hl 3 rfl) ?_
        obtain ⟨hPc, hDc, hFc⟩ := z_cut (wc := []) hP hD hS hA [] rfl (by decide +kernel)
        have hKc := hK.sub (tys' := []) [] rfl
        refine va_calli (va_runSN (As := [.int p1, .int v3_1]) (rest := []) ⟨hx, hb, hml, hown, hts⟩ (k_X9_has l sa dC dI p1 v3_1 H.size) ⟨va_cnB 2 hts (z_gI zw_t3_124) rfl rfl rfl hN.2.2.2.1 (hts _ zw_t1_1) (by decide +kernel) (by rw [← hRe]; exact ⟨(Nat.le_of_ble_eq_true rfl), (Nat.le_of_ble_eq_true rfl)⟩), (hts _ zw_t3_123), trivial⟩ (z_preS hPc hKc hDc hN hXs hS hFc) rfl rfl hl.1 rfl (lv_room (Nat.le_of_ble_eq_true rfl)) dX2_comesToAll_15 (by rw [← hRe]; exact ⟨(Nat.le_of_ble_eq_true rfl), (Nat.le_of_ble_eq_true rfl)⟩)) hS (fun q _ h => hFc q h) hFc (fun r_3 u t H1 locs ht hvm hw hB hz1 hk1 hS => ?_)
        obtain ⟨hP, hD, hK⟩ := z_after3 (wn := (zV51 fm tn fm_words fm_here fm_next fm_here cA_fm_here f_fm_here tn tn_hours tn_courts tn_gateCount tn_people tn_lines tn_falseHours tn_strayers tn_deep tn_above tn_doors tn_degrees tn_neighbours tn_shows tn_oneEnd tn_otherEnd tn_told tn_strayParts tn_strayCourts)) hB ht hvm hP hD hK [] [0, 1, 2] rfl 3 rfl (by decide +kernel) rfl (by decide +kernel) hk1 hFc
        generalize H1 = H at hP hS ⊢
        have hK : va_K (dC, dI) vwCl [(cA_fm_here, .long)] s := hK
        have b_r_3 : 0 ≤ r_3.toInt ∧ r_3.toInt ≤ 1 := hw
        refine lv_if_eq (tgt := 32) hx hb dX2_comesToAll_18 (by decide) (fun c_4 => ?_) (fun c_4 => ?_)
        · have ic_4 := zz_eq rfl (show Int32.toInt 0 = 0 from by decide) c_4
          obtain ⟨x_5, ex_5⟩ : ∃ z : Int32, z = v3_1 + Int32.ofInt 1 := ⟨_, rfl⟩
          have b_x_5 : x_5.toInt = v3_1.toInt + 1 := by rw [ex_5]; exact zi_add rfl (show (Int32.ofInt 1).toInt = 1 from by decide) (z_rac b_v3_1 (by decide))
          refine lv_iinc (v := x_5) (lv' := [(3, .int x_5), (0, .ref fm), (1, .int p1), (2, .int p2)]) hx hb dX2_comesToAll_32 hl (k := 3) rfl ex_5.symm (by decide) rfl (fun ls hl => ?_)
          refine lv_goto (tgt := 2) hx hb dX2_comesToAll_35 (by decide) ?_
          exact ih_1 x_5 (by first | with_reducible assumption | omega) _ _ _ (by first | with_reducible assumption | omega) (hP.sub (ws' := (zV51 fm tn fm_words fm_here fm_next fm_here cA_fm_here f_fm_here tn tn_hours tn_courts tn_gateCount tn_people tn_lines tn_falseHours tn_strayers tn_deep tn_above tn_doors tn_degrees tn_neighbours tn_shows tn_oneEnd tn_otherEnd tn_told tn_strayParts tn_strayCourts)) [0, 1, 2] rfl) (hD.sub (ws' := (zV51 fm tn fm_words fm_here fm_next fm_here cA_fm_here f_fm_here tn tn_hours tn_courts tn_gateCount tn_people tn_lines tn_falseHours tn_strayers tn_deep tn_above tn_doors tn_degrees tn_neighbours tn_shows tn_oneEnd tn_otherEnd tn_told tn_strayParts tn_strayCourts)) [0, 1, 2] (by decide) rfl) hS (lv_sub hl [1, 2, 3, 0] rfl)
        · have ic_4 := zz_neq rfl (show Int32.toInt 0 = 0 from by decide) c_4
          refine lv_aload_n hx hb dX2_comesToAll_21 rfl (lv_at hl 0 rfl) ?_
          refine lv_iload_n hx hb dX2_comesToAll_22 rfl (lv_at hl 3 rfl) ?_
          refine lv_iload_n hx hb dX2_comesToAll_23 rfl (lv_at hl 2 rfl) ?_
          obtain ⟨hPc, hDc, hFc⟩ := z_cut (wc := (zV50 fm tn fm_words fm_here fm_next fm_here cA_fm_here f_fm_here)) hP hD hS hA [0, 1] rfl (by decide +kernel)
          have hKc := hK.sub (tys' := [(cA_fm_here, .long)]) [0] rfl
          refine va_calli (va_runV (As := [.int v3_1, .int p2]) (rest := []) ⟨hx, hb, hml, hown, hts⟩ (k_X2_comesTo l sa dC dI fm v3_1 p2 tn fm_words fm_here fm_next cA_fm_here f_fm_here (by first | with_reducible assumption | omega) b_p2 b_fm_words H.size) (cwV 2 hts (z_gV zw_t4_160 zw_t4_162 zw_s2_13 zw_t1_6 zw_t4_163) rfl rfl rfl (by decide +kernel) (by rw [← hRe]; exact ⟨(Nat.le_of_ble_eq_true rfl), (Nat.le_of_ble_eq_true rfl)⟩)) (z_preV hPc hKc hDc hN hXs hS hFc (q := (RX2, TX2, 4)) (ci := 2) (q0 := 0) rfl rfl) rfl rfl hl.1 rfl (lv_room (Nat.le_of_ble_eq_true rfl)) dX2_comesToAll_24 (by rw [← hRe]; exact ⟨(Nat.le_of_ble_eq_true rfl), (Nat.le_of_ble_eq_true rfl)⟩)) hS (fun q _ h => hFc q h) hFc (fun r_6 u t H1 locs ht hvm hw hB hz1 hk1 hS => ?_)
          obtain ⟨hP, hD, hK⟩ := z_after3 (wn := [(tn, .inr (7, [.int tn_hours, .int tn_courts, .int tn_gateCount, .int tn_people, .int tn_lines, .int tn_falseHours, .int tn_strayers, .int tn_deep, .ref tn_above, .ref tn_doors, .ref tn_degrees, .ref tn_neighbours, .ref tn_shows, .ref tn_oneEnd, .ref tn_otherEnd, .ref tn_told, .ref tn_strayParts, .ref tn_strayCourts])), (fm, .inr (2, [.ref tn, .int fm_words, .ref fm_here, .ref fm_next])), (fm_here, .inl (cA_fm_here, 160, .inr (.inl f_fm_here)))]) hB ht hvm hP hD hK [0, 1] [2] rfl 3 rfl (by decide +kernel) rfl (by decide +kernel) hk1 hFc
          generalize H1 = H at hP hS ⊢
          have hK : va_K (dC, dI) vwCl [(cA_fm_here, .long)] s := hK
          have b_r_6 : 0 ≤ r_6.toInt ∧ r_6.toInt ≤ 1 := hw
          refine lv_if_ne (tgt := 32) hx hb dX2_comesToAll_27 (by decide) (fun c_7 => ?_) (fun c_7 => ?_)
          · have ic_7 := zz_ne rfl (show Int32.toInt 0 = 0 from by decide) c_7
            obtain ⟨x_8, ex_8⟩ : ∃ z : Int32, z = v3_1 + Int32.ofInt 1 := ⟨_, rfl⟩
            have b_x_8 : x_8.toInt = v3_1.toInt + 1 := by rw [ex_8]; exact zi_add rfl (show (Int32.ofInt 1).toInt = 1 from by decide) (z_rac b_v3_1 (by decide))
            refine lv_iinc (v := x_8) (lv' := [(3, .int x_8), (0, .ref fm), (1, .int p1), (2, .int p2)]) hx hb dX2_comesToAll_32 hl (k := 3) rfl ex_8.symm (by decide) rfl (fun ls hl => ?_)
            refine lv_goto (tgt := 2) hx hb dX2_comesToAll_35 (by decide) ?_
            exact ih_1 x_8 (by first | with_reducible assumption | omega) _ _ _ (by first | with_reducible assumption | omega) (hP.sub (ws' := (zV51 fm tn fm_words fm_here fm_next fm_here cA_fm_here f_fm_here tn tn_hours tn_courts tn_gateCount tn_people tn_lines tn_falseHours tn_strayers tn_deep tn_above tn_doors tn_degrees tn_neighbours tn_shows tn_oneEnd tn_otherEnd tn_told tn_strayParts tn_strayCourts)) [1, 2, 0] rfl) (hD.sub (ws' := (zV51 fm tn fm_words fm_here fm_next fm_here cA_fm_here f_fm_here tn tn_hours tn_courts tn_gateCount tn_people tn_lines tn_falseHours tn_strayers tn_deep tn_above tn_doors tn_degrees tn_neighbours tn_shows tn_oneEnd tn_otherEnd tn_told tn_strayParts tn_strayCourts)) [1, 2, 0] (by decide) rfl) hS (lv_sub hl [1, 2, 3, 0] rfl)
          · have ic_7 := zz_nne rfl (show Int32.toInt 0 = 0 from by decide) c_7
            refine lv_iconst (v := 0) hx hb dX2_comesToAll_30 (by decide) ?_
            exact W.zret (v := 0) hx hb hr (by decide) (fun t ht hW => by rw [← hQe]; exact ⟨⟨0, (), rfl, (by decide), z_ret hP hK hD ht hW [1, 2, 0] [] rfl (by decide) rfl⟩, hS.F ht⟩) hS.2.2 dX2_comesToAll_31
  exact loop_1 12 (0) (by decide) _ _ _ (by decide) hP hD hS (lv_sub hl [1, 2, 3, 0] rfl)
set_option maxHeartbeats 4000000 in
set_option maxRecDepth 100000 in
theorem k_X2_isFewer (l : Launch) (sa : Nat → Nat) (dC : Nat → ClassId) (dI : Nat → Nat → Nat) (p0 : Int32) (p1 : Int32)  (sz : Nat) : Met l yX2_isFewer (.code yX2_isFewer cX2_isFewer 2 (some .boolean) :: zT) ({ frames := 1, cells := 0, slots := 0, locals := 20 }) (va_Pc [.int p0, .int p1] (zB sa dC dI [] [] sz)) (va_Qi (fun (r : Int32) (_ : Unit) => (0 ≤ r.toInt ∧ r.toInt ≤ 1)) (fun _ t => zW dC dI [] [] (va_A [] sz) t) (va_A [] sz)) 0 0 (va_A [] sz) := by
  refine z_enter (by decide) (by exact (Nat.le_of_ble_eq_true rfl)) ?_
  intro p e s m args below meth c ls A R Qc hargs hsz hQe hAe hRe hx hb hml hr hts hown hlocks hin hl hP hK hD hN hXs hA hS
  rw [hAe] at hQe
  have hown : s.vm.findClass RX2 = some m.cls := hown
  have hl : lv_has ls 2 [(0, .int p0), (1, .int p1)] := hl
  refine lv_iload_n hx hb dX2_isFewer_0 rfl (lv_at hl 1 rfl) ?_
  refine lv_iconst (v := (-1)) hx hb dX2_isFewer_1 (by decide) ?_
  have nb_p1 := zi_nb p1
  refine lv_icmp_eq (tgt := 16) hx hb dX2_isFewer_2 (by decide) (fun c_1 => ?_) (fun c_1 => ?_)
  · have ic_1 := zz_eq rfl (show Int32.toInt (-1) = (-1) from by decide) c_1
    refine lv_iconst (v := 1) hx hb dX2_isFewer_16 (by decide) ?_
    refine lv_goto (tgt := 21) hx hb dX2_isFewer_17 (by decide) ?_
    exact W.zret (v := 1) hx hb hr (by decide) (fun t ht hW => by rw [← hQe]; exact ⟨⟨1, (), rfl, (by decide), z_ret hP hK hD ht hW [] [] rfl (by decide) rfl⟩, hS.F ht⟩) hS.2.2 dX2_isFewer_21
  · have ic_1 := zz_neq rfl (show Int32.toInt (-1) = (-1) from by decide) c_1
    refine lv_iload_n hx hb dX2_isFewer_5 rfl (lv_at hl 0 rfl) ?_
    obtain ⟨hPc, hDc, hFc⟩ := z_cut (wc := []) hP hD hS hA [] rfl (by decide +kernel)
    have hKc := hK.sub (tys' := []) [] rfl
    refine va_calli (va_runS (As := [.int p0]) (rest := []) ⟨hx, hb, hml, hown, hts⟩ (k_J6_bitCount_0f7a4 l sa dC dI p0 s.heap.size) (va_cwS 1 hts (z_gS zw_t4_155 zw_t3_216 zw_t1_17 zw_t3_217) rfl rfl rfl (by decide +kernel) (by rw [← hRe]; exact ⟨(Nat.le_of_ble_eq_true rfl), (Nat.le_of_ble_eq_true rfl)⟩)) (z_preS hPc hKc hDc hN hXs hS hFc) rfl rfl hl.1 rfl (lv_room (Nat.le_of_ble_eq_true rfl)) dX2_isFewer_6 (by rw [← hRe]; exact ⟨(Nat.le_of_ble_eq_true rfl), (Nat.le_of_ble_eq_true rfl)⟩)) hS (fun q _ h => hFc q h) hFc (fun r_2 u t H1 locs ht hvm hw hB hz1 hk1 hS => ?_)
    obtain ⟨hP, hD, hK⟩ := z_after3 (wn := []) hB ht hvm hP hD hK [] [] rfl 0 rfl (by decide +kernel) rfl (by decide +kernel) hk1 hFc
    generalize H1 = H at hP hS ⊢
    have hK : va_K (dC, dI) vwCl [] s := hK
    have b_r_2 : 0 ≤ r_2.toInt ∧ r_2.toInt ≤ 63 := hw
    refine lv_iload_n hx hb dX2_isFewer_9 rfl (lv_at hl 1 rfl) ?_
    obtain ⟨hPc, hDc, hFc⟩ := z_cut (wc := []) hP hD hS hA [] rfl (by decide +kernel)
    have hKc := hK.sub (tys' := []) [] rfl
    refine va_calli (va_runS (As := [.int p1]) (rest := [.int r_2]) ⟨hx, hb, hml, hown, hts⟩ (k_J6_bitCount_0f7a4 l sa dC dI p1 H.size) (va_cwS 1 hts (z_gS zw_t4_155 zw_t3_216 zw_t1_17 zw_t3_217) rfl rfl rfl (by decide +kernel) (by rw [← hRe]; exact ⟨(Nat.le_of_ble_eq_true rfl), (Nat.le_of_ble_eq_true rfl)⟩)) (z_preS hPc hKc hDc hN hXs hS hFc) rfl rfl hl.1 rfl (lv_room (Nat.le_of_ble_eq_true rfl)) dX2_isFewer_10 (by rw [← hRe]; exact ⟨(Nat.le_of_ble_eq_true rfl), (Nat.le_of_ble_eq_true rfl)⟩)) hS (fun q _ h => hFc q h) hFc (fun r_3 u t H1 locs ht hvm hw hB hz1 hk1 hS => ?_)
    obtain ⟨hP, hD, hK⟩ := z_after3 (wn := []) hB ht hvm hP hD hK [] [] rfl 0 rfl (by decide +kernel) rfl (by decide +kernel) hk1 hFc
    generalize H1 = H at hP hS ⊢
    have hK : va_K (dC, dI) vwCl [] s := hK
    have b_r_3 : 0 ≤ r_3.toInt ∧ r_3.toInt ≤ 63 := hw
    refine lv_icmp_ge (tgt := 20) hx hb dX2_isFewer_13 (by decide) (fun c_4 => ?_) (fun c_4 => ?_)
    · have ic_4 := zz_ge rfl rfl c_4
      refine lv_iconst (v := 0) hx hb dX2_isFewer_20 (by decide) ?_
      exact W.zret (v := 0) hx hb hr (by decide) (fun t ht hW => by rw [← hQe]; exact ⟨⟨0, (), rfl, (by decide), z_ret hP hK hD ht hW [] [] rfl (by decide) rfl⟩, hS.F ht⟩) hS.2.2 dX2_isFewer_21
    · have ic_4 := zz_nge rfl rfl c_4
      refine lv_iconst (v := 1) hx hb dX2_isFewer_16 (by decide) ?_
      refine lv_goto (tgt := 21) hx hb dX2_isFewer_17 (by decide) ?_
      exact W.zret (v := 1) hx hb hr (by decide) (fun t ht hW => by rw [← hQe]; exact ⟨⟨1, (), rfl, (by decide), z_ret hP hK hD ht hW [] [] rfl (by decide) rfl⟩, hS.F ht⟩) hS.2.2 dX2_isFewer_21
set_option maxHeartbeats 4000000 in
set_option maxRecDepth 100000 in
theorem k_X2_leastSetTo (l : Launch) (sa : Nat → Nat) (dC : Nat → ClassId) (dI : Nat → Nat → Nat) (fm : Nat) (p1 : Int32) (tn : Nat) (fm_words : Int32) (fm_here : Nat) (fm_next : Nat) (cA_fm_here : ClassId) (f_fm_here : Nat → Int64) (tn_hours : Int32) (tn_courts : Int32) (tn_gateCount : Int32) (tn_people : Int32) (tn_lines : Int32) (tn_falseHours : Int32) (tn_strayers : Int32) (tn_deep : Int32) (tn_above : Nat) (tn_doors : Nat) (tn_degrees : Nat) (tn_neighbours : Nat) (tn_shows : Nat) (tn_oneEnd : Nat) (tn_otherEnd : Nat) (tn_told : Nat) (tn_strayParts : Nat) (tn_strayCourts : Nat) (b_fm_words : 1 ≤ fm_words.toInt ∧ fm_words.toInt ≤ 16) (b_tn_hours : 0 ≤ tn_hours.toInt ∧ tn_hours.toInt ≤ 48) (b_tn_courts : 0 ≤ tn_courts.toInt ∧ tn_courts.toInt ≤ 10) (b_tn_gateCount : 0 ≤ tn_gateCount.toInt ∧ tn_gateCount.toInt ≤ 16) (b_tn_people : 0 ≤ tn_people.toInt ∧ tn_people.toInt ≤ 10) (b_tn_falseHours : 0 ≤ tn_falseHours.toInt ∧ tn_falseHours.toInt ≤ 9) (b_tn_deep : 0 ≤ tn_deep.toInt ∧ tn_deep.toInt ≤ 1) (sz : Nat) : Met l yX2_leastSetTo (.code yX2_leastSetTo cX2_leastSetTo 4 (some .int) :: zT) ({ frames := 2, cells := 0, slots := 0, locals := 45 }) (va_Pc [.ref fm, .int p1] (zB sa dC dI (zV51 fm tn fm_words fm_here fm_next fm_here cA_fm_here f_fm_here tn tn_hours tn_courts tn_gateCount tn_people tn_lines tn_falseHours tn_strayers tn_deep tn_above tn_doors tn_degrees tn_neighbours tn_shows tn_oneEnd tn_otherEnd tn_told tn_strayParts tn_strayCourts) [(cA_fm_here, .long)] sz)) (va_Qi (fun (r : Int32) (_ : Unit) => ((-1) ≤ r.toInt ∧ r.toInt ≤ 2147483647)) (fun _ t => zW dC dI (zV51 fm tn fm_words fm_here fm_next fm_here cA_fm_here f_fm_here tn tn_hours tn_courts tn_gateCount tn_people tn_lines tn_falseHours tn_strayers tn_deep tn_above tn_doors tn_degrees tn_neighbours tn_shows tn_oneEnd tn_otherEnd tn_told tn_strayParts tn_strayCourts) [] (va_A (zV51 fm tn fm_words fm_here fm_next fm_here cA_fm_here f_fm_here tn tn_hours tn_courts tn_gateCount tn_people tn_lines tn_falseHours tn_strayers tn_deep tn_above tn_doors tn_degrees tn_neighbours tn_shows tn_oneEnd tn_otherEnd tn_told tn_strayParts tn_strayCourts) sz) t) (va_A (zV51 fm tn fm_words fm_here fm_next fm_here cA_fm_here f_fm_here tn tn_hours tn_courts tn_gateCount tn_people tn_lines tn_falseHours tn_strayers tn_deep tn_above tn_doors tn_degrees tn_neighbours tn_shows tn_oneEnd tn_otherEnd tn_told tn_strayParts tn_strayCourts) sz)) 0 0 (va_A (zV51 fm tn fm_words fm_here fm_next fm_here cA_fm_here f_fm_here tn tn_hours tn_courts tn_gateCount tn_people tn_lines tn_falseHours tn_strayers tn_deep tn_above tn_doors tn_degrees tn_neighbours tn_shows tn_oneEnd tn_otherEnd tn_told tn_strayParts tn_strayCourts) sz) := by
  refine z_enter (by decide) (by exact (Nat.le_of_ble_eq_true rfl)) ?_
  intro p e s m args below meth c ls A R Qc hargs hsz hQe hAe hRe hx hb hml hr hts hown hlocks hin hl hP hK hD hN hXs hA hS
  rw [hAe] at hQe
  have hown : s.vm.findClass RX2 = some m.cls := hown
  have hl : lv_has ls 4 [(0, .ref fm), (1, .int p1)] := hl
  refine lv_iconst (v := (-1)) hx hb dX2_leastSetTo_0 (by decide) ?_
  refine lv_istore_n (lv' := [(2, .int (-1)), (0, .ref fm), (1, .int p1)]) hx hb dX2_leastSetTo_1 rfl hl (by decide) rfl (fun ls hl => ?_)
  refine lv_iconst (v := 0) hx hb dX2_leastSetTo_2 (by decide) ?_
  refine lv_istore_n (lv' := [(3, .int 0), (2, .int (-1)), (0, .ref fm), (1, .int p1)]) hx hb dX2_leastSetTo_3 rfl hl (by decide) rfl (fun ls hl => ?_)
  have loop_1 : ∀ (t : Nat) (v2_2 : Int32) (v3_1 : Int32) (b_v2_2 : (-1) ≤ v2_2.toInt ∧ v2_2.toInt ≤ 2147483647) (b_v3_1 : 0 ≤ v3_1.toInt ∧ v3_1.toInt ≤ 1024) (H : Heap) (locs : List Loc) (ls : Array Slot), 1024 - v3_1.toInt < (t : Int) → va_P (dC, dI) vwCl (zV51 fm tn fm_words fm_here fm_next fm_here cA_fm_here f_fm_here tn tn_hours tn_courts tn_gateCount tn_people tn_lines tn_falseHours tn_strayers tn_deep tn_above tn_doors tn_degrees tn_neighbours tn_shows tn_oneEnd tn_otherEnd tn_told tn_strayParts tn_strayCourts) H → va_D A (zV51 fm tn fm_words fm_here fm_next fm_here cA_fm_here f_fm_here tn tn_hours tn_courts tn_gateCount tn_people tn_lines tn_falseHours tn_strayers tn_deep tn_above tn_doors tn_degrees tn_neighbours tn_shows tn_oneEnd tn_otherEnd tn_told tn_strayParts tn_strayCourts) → va_S A s.heap H locs → lv_has ls 4 [(0, .ref fm), (1, .int p1), (2, .int v2_2), (3, .int v3_1)] → W p l e R s m args below meth c H locs 0 0 (MQ below Qc args s 0 0 A) (F0 m 4 ls []) := by
    intro t
    induction t with
    | zero => intro v2_2 v3_1 b_v2_2 b_v3_1 H locs ls hmu _ _ _ _; exact absurd hmu (by first | with_reducible assumption | omega)
    | succ t ih_1 =>
      intro v2_2 v3_1 b_v2_2 b_v3_1 H locs ls hmu hP hD hS hl
      refine lv_iload_n hx hb dX2_leastSetTo_4 rfl (lv_at hl 3 rfl) ?_
      refine lv_iconst (v := 1) hx hb dX2_leastSetTo_5 (by decide) ?_
      refine lv_aload_n hx hb dX2_leastSetTo_6 rfl (lv_at hl 0 rfl) ?_
      refine va_get (D := (dC, dI)) (ci := 2) (v := .ref tn) (C := RX2) (T := TX2) (N := 4) hx hb hts zl_X2 hown hK hP 0 rfl rfl 0 (by decide) (hts _ zw_t2_51) (fun _ h9 => h9) rfl dX2_leastSetTo_7 ?_
      refine va_get (D := (dC, dI)) (ci := 7) (v := .int tn_people) (C := RX7) (T := TX7) (N := 18) hx hb hts zl_X7 hown hK hP 2 rfl rfl 3 (by decide) (hts _ zw_t1_60) (fun _ h9 => h9) rfl dX2_leastSetTo_10 ?_
      refine lv_ishl hx hb dX2_leastSetTo_13 ?_
      refine lv_topi (fun x_3 ex_3 => ?_)
      have b_x_3 : 1 ≤ x_3.toInt ∧ x_3.toInt ≤ 1024 := by rw [ex_3]; exact zi_shl1 rfl (by first | with_reducible assumption | omega)
      refine lv_icmp_ge (tgt := 42) hx hb dX2_leastSetTo_14 (by decide) (fun c_4 => ?_) (fun c_4 => ?_)
      · have ic_4 := zz_ge rfl rfl c_4
        refine lv_iload_n hx hb dX2_leastSetTo_42 rfl (lv_at hl 2 rfl) ?_
        exact W.iret (v := v2_2) hx hb hr (fun t ht hW => by rw [← hQe]; exact ⟨⟨v2_2, (), rfl, (by first | with_reducible assumption | exact z_rle b_v2_2 (by decide) | omega), z_ret hP hK hD ht hW [0, 1, 2] [] rfl (by decide) rfl⟩, hS.F ht⟩) hS.2.2 dX2_leastSetTo_43
      · have ic_4 := zz_nge rfl rfl c_4
        refine lv_iload_n hx hb dX2_leastSetTo_17 rfl (lv_at hl 3 rfl) ?_
        refine lv_iload_n hx hb dX2_leastSetTo_18 rfl (lv_at hl 2 rfl) ?_
        obtain ⟨hPc, hDc, hFc⟩ := z_cut (wc := []) hP hD hS hA [] rfl (by decide +kernel)
        have hKc := hK.sub (tys' := []) [] rfl
        refine va_calli (va_runS (As := [.int v3_1, .int v2_2]) (rest := []) ⟨hx, hb, hml, hown, hts⟩ (k_X2_isFewer l sa dC dI v3_1 v2_2 H.size) (va_cwS 2 hts (z_gS zw_t4_152 zw_t4_153 zw_t1_6 zw_t4_154) rfl rfl rfl (by decide +kernel) (by rw [← hRe]; exact ⟨(Nat.le_of_ble_eq_true rfl), (Nat.le_of_ble_eq_true rfl)⟩)) (z_preS hPc hKc hDc hN hXs hS hFc) rfl rfl hl.1 rfl (lv_room (Nat.le_of_ble_eq_true rfl)) dX2_leastSetTo_19 (by rw [← hRe]; exact ⟨(Nat.le_of_ble_eq_true rfl), (Nat.le_of_ble_eq_true rfl)⟩)) hS (fun q _ h => hFc q h) hFc (fun r_5 u t H1 locs ht hvm hw hB hz1 hk1 hS => ?_)
        obtain ⟨hP, hD, hK⟩ := z_after3 (wn := (zV51 fm tn fm_words fm_here fm_next fm_here cA_fm_here f_fm_here tn tn_hours tn_courts tn_gateCount tn_people tn_lines tn_falseHours tn_strayers tn_deep tn_above tn_doors tn_degrees tn_neighbours tn_shows tn_oneEnd tn_otherEnd tn_told tn_strayParts tn_strayCourts)) hB ht hvm hP hD hK [] [0, 1, 2] rfl 3 rfl (by decide +kernel) rfl (by decide +kernel) hk1 hFc
        generalize H1 = H at hP hS ⊢
        have hK : va_K (dC, dI) vwCl [(cA_fm_here, .long)] s := hK
        have b_r_5 : 0 ≤ r_5.toInt ∧ r_5.toInt ≤ 1 := hw
        refine lv_if_eq (tgt := 36) hx hb dX2_leastSetTo_22 (by decide) (fun c_6 => ?_) (fun c_6 => ?_)
        · have ic_6 := zz_eq rfl (show Int32.toInt 0 = 0 from by decide) c_6
          obtain ⟨x_7, ex_7⟩ : ∃ z : Int32, z = v3_1 + Int32.ofInt 1 := ⟨_, rfl⟩
          have b_x_7 : x_7.toInt = v3_1.toInt + 1 := by rw [ex_7]; exact zi_add rfl (show (Int32.ofInt 1).toInt = 1 from by decide) (z_rac b_v3_1 (by decide))
          refine lv_iinc (v := x_7) (lv' := [(3, .int x_7), (0, .ref fm), (1, .int p1), (2, .int v2_2)]) hx hb dX2_leastSetTo_36 hl (k := 3) rfl ex_7.symm (by decide) rfl (fun ls hl => ?_)
          refine lv_goto (tgt := 4) hx hb dX2_leastSetTo_39 (by decide) ?_
          exact ih_1 v2_2 x_7 (by first | with_reducible assumption | omega) (by first | with_reducible assumption | omega) _ _ _ (by first | with_reducible assumption | omega) (hP.sub (ws' := (zV51 fm tn fm_words fm_here fm_next fm_here cA_fm_here f_fm_here tn tn_hours tn_courts tn_gateCount tn_people tn_lines tn_falseHours tn_strayers tn_deep tn_above tn_doors tn_degrees tn_neighbours tn_shows tn_oneEnd tn_otherEnd tn_told tn_strayParts tn_strayCourts)) [0, 1, 2] rfl) (hD.sub (ws' := (zV51 fm tn fm_words fm_here fm_next fm_here cA_fm_here f_fm_here tn tn_hours tn_courts tn_gateCount tn_people tn_lines tn_falseHours tn_strayers tn_deep tn_above tn_doors tn_degrees tn_neighbours tn_shows tn_oneEnd tn_otherEnd tn_told tn_strayParts tn_strayCourts)) [0, 1, 2] (by decide) rfl) hS (lv_sub hl [1, 2, 3, 0] rfl)
        · have ic_6 := zz_neq rfl (show Int32.toInt 0 = 0 from by decide) c_6
          refine lv_aload_n hx hb dX2_leastSetTo_25 rfl (lv_at hl 0 rfl) ?_
          refine lv_iload_n hx hb dX2_leastSetTo_26 rfl (lv_at hl 1 rfl) ?_
          refine lv_iload_n hx hb dX2_leastSetTo_27 rfl (lv_at hl 3 rfl) ?_
          obtain ⟨hPc, hDc, hFc⟩ := z_cut (wc := (zV51 fm tn fm_words fm_here fm_next fm_here cA_fm_here f_fm_here tn tn_hours tn_courts tn_gateCount tn_people tn_lines tn_falseHours tn_strayers tn_deep tn_above tn_doors tn_degrees tn_neighbours tn_shows tn_oneEnd tn_otherEnd tn_told tn_strayParts tn_strayCourts)) hP hD hS hA [0, 1, 2] rfl (by decide +kernel)
          have hKc := hK.sub (tys' := [(cA_fm_here, .long)]) [0] rfl
          refine va_calli (va_runV (As := [.int p1, .int v3_1]) (rest := []) ⟨hx, hb, hml, hown, hts⟩ (k_X2_comesToAll l sa dC dI fm p1 v3_1 tn fm_words fm_here fm_next cA_fm_here f_fm_here tn_hours tn_courts tn_gateCount tn_people tn_lines tn_falseHours tn_strayers tn_deep tn_above tn_doors tn_degrees tn_neighbours tn_shows tn_oneEnd tn_otherEnd tn_told tn_strayParts tn_strayCourts (by first | with_reducible assumption | omega) b_fm_words b_tn_hours b_tn_courts b_tn_gateCount b_tn_people b_tn_falseHours b_tn_deep H.size) (cwV 2 hts (z_gV zw_t4_156 zw_t4_158 zw_s2_12 zw_t1_6 zw_t4_159) rfl rfl rfl (by decide +kernel) (by rw [← hRe]; exact ⟨(Nat.le_of_ble_eq_true rfl), (Nat.le_of_ble_eq_true rfl)⟩)) (z_preV hPc hKc hDc hN hXs hS hFc (q := (RX2, TX2, 4)) (ci := 2) (q0 := 0) rfl rfl) rfl rfl hl.1 rfl (lv_room (Nat.le_of_ble_eq_true rfl)) dX2_leastSetTo_28 (by rw [← hRe]; exact ⟨(Nat.le_of_ble_eq_true rfl), (Nat.le_of_ble_eq_true rfl)⟩)) hS (fun q _ h => hFc q h) hFc (fun r_8 u t H1 locs ht hvm hw hB hz1 hk1 hS => ?_)
          obtain ⟨hP, hD, hK⟩ := z_after3 (wn := (zV51 fm tn fm_words fm_here fm_next fm_here cA_fm_here f_fm_here tn tn_hours tn_courts tn_gateCount tn_people tn_lines tn_falseHours tn_strayers tn_deep tn_above tn_doors tn_degrees tn_neighbours tn_shows tn_oneEnd tn_otherEnd tn_told tn_strayParts tn_strayCourts)) hB ht hvm hP hD hK [0, 1, 2] [] rfl 3 rfl (by decide +kernel) rfl (by decide +kernel) hk1 hFc
          generalize H1 = H at hP hS ⊢
          have hK : va_K (dC, dI) vwCl [(cA_fm_here, .long)] s := hK
          have b_r_8 : 0 ≤ r_8.toInt ∧ r_8.toInt ≤ 1 := hw
          refine lv_if_eq (tgt := 36) hx hb dX2_leastSetTo_31 (by decide) (fun c_9 => ?_) (fun c_9 => ?_)
          · have ic_9 := zz_eq rfl (show Int32.toInt 0 = 0 from by decide) c_9
            obtain ⟨x_10, ex_10⟩ : ∃ z : Int32, z = v3_1 + Int32.ofInt 1 := ⟨_, rfl⟩
            have b_x_10 : x_10.toInt = v3_1.toInt + 1 := by rw [ex_10]; exact zi_add rfl (show (Int32.ofInt 1).toInt = 1 from by decide) (z_rac b_v3_1 (by decide))
            refine lv_iinc (v := x_10) (lv' := [(3, .int x_10), (0, .ref fm), (1, .int p1), (2, .int v2_2)]) hx hb dX2_leastSetTo_36 hl (k := 3) rfl ex_10.symm (by decide) rfl (fun ls hl => ?_)
            refine lv_goto (tgt := 4) hx hb dX2_leastSetTo_39 (by decide) ?_
            exact ih_1 v2_2 x_10 (by first | with_reducible assumption | omega) (by first | with_reducible assumption | omega) _ _ _ (by first | with_reducible assumption | omega) (hP.sub (ws' := (zV51 fm tn fm_words fm_here fm_next fm_here cA_fm_here f_fm_here tn tn_hours tn_courts tn_gateCount tn_people tn_lines tn_falseHours tn_strayers tn_deep tn_above tn_doors tn_degrees tn_neighbours tn_shows tn_oneEnd tn_otherEnd tn_told tn_strayParts tn_strayCourts)) [0, 1, 2] rfl) (hD.sub (ws' := (zV51 fm tn fm_words fm_here fm_next fm_here cA_fm_here f_fm_here tn tn_hours tn_courts tn_gateCount tn_people tn_lines tn_falseHours tn_strayers tn_deep tn_above tn_doors tn_degrees tn_neighbours tn_shows tn_oneEnd tn_otherEnd tn_told tn_strayParts tn_strayCourts)) [0, 1, 2] (by decide) rfl) hS (lv_sub hl [1, 2, 3, 0] rfl)
          · have ic_9 := zz_neq rfl (show Int32.toInt 0 = 0 from by decide) c_9
            refine lv_iload_n hx hb dX2_leastSetTo_34 rfl (lv_at hl 3 rfl) ?_
            refine lv_istore_n (lv' := [(2, .int v3_1), (0, .ref fm), (1, .int p1), (3, .int v3_1)]) hx hb dX2_leastSetTo_35 rfl hl (by decide) rfl (fun ls hl => ?_)
            obtain ⟨x_11, ex_11⟩ : ∃ z : Int32, z = v3_1 + Int32.ofInt 1 := ⟨_, rfl⟩
            have b_x_11 : x_11.toInt = v3_1.toInt + 1 := by rw [ex_11]; exact zi_add rfl (show (Int32.ofInt 1).toInt = 1 from by decide) (z_rac b_v3_1 (by decide))
            refine lv_iinc (v := x_11) (lv' := [(3, .int x_11), (2, .int v3_1), (0, .ref fm), (1, .int p1)]) hx hb dX2_leastSetTo_36 hl (k := 3) rfl ex_11.symm (by decide) rfl (fun ls hl => ?_)
            refine lv_goto (tgt := 4) hx hb dX2_leastSetTo_39 (by decide) ?_
            exact ih_1 v3_1 x_11 (by first | with_reducible assumption | omega) (by first | with_reducible assumption | omega) _ _ _ (by first | with_reducible assumption | omega) (hP.sub (ws' := (zV51 fm tn fm_words fm_here fm_next fm_here cA_fm_here f_fm_here tn tn_hours tn_courts tn_gateCount tn_people tn_lines tn_falseHours tn_strayers tn_deep tn_above tn_doors tn_degrees tn_neighbours tn_shows tn_oneEnd tn_otherEnd tn_told tn_strayParts tn_strayCourts)) [0, 1, 2] rfl) (hD.sub (ws' := (zV51 fm tn fm_words fm_here fm_next fm_here cA_fm_here f_fm_here tn tn_hours tn_courts tn_gateCount tn_people tn_lines tn_falseHours tn_strayers tn_deep tn_above tn_doors tn_degrees tn_neighbours tn_shows tn_oneEnd tn_otherEnd tn_told tn_strayParts tn_strayCourts)) [0, 1, 2] (by decide) rfl) hS (lv_sub hl [2, 3, 1, 0] rfl)
  exact loop_1 1026 (-1) (0) (by decide) (by decide) _ _ _ (by decide) hP hD hS (lv_sub hl [2, 3, 1, 0] rfl)
set_option maxHeartbeats 4000000 in
set_option maxRecDepth 100000 in
theorem k_X2_leastLossFor (l : Launch) (sa : Nat → Nat) (dC : Nat → ClassId) (dI : Nat → Nat → Nat) (fm : Nat) (p1 : Int32) (p2 : Int32) (tn : Nat) (fm_words : Int32) (fm_here : Nat) (fm_next : Nat) (cA_fm_here : ClassId) (f_fm_here : Nat → Int64) (tn_hours : Int32) (tn_courts : Int32) (tn_gateCount : Int32) (tn_people : Int32) (tn_lines : Int32) (tn_falseHours : Int32) (tn_strayers : Int32) (tn_deep : Int32) (tn_above : Nat) (tn_doors : Nat) (tn_degrees : Nat) (tn_neighbours : Nat) (tn_shows : Nat) (tn_oneEnd : Nat) (tn_otherEnd : Nat) (tn_told : Nat) (tn_strayParts : Nat) (tn_strayCourts : Nat) (b_p1 : 0 ≤ p1.toInt ∧ p1.toInt ≤ 9) (b_p2 : 0 ≤ p2.toInt ∧ p2.toInt ≤ 1023) (b_fm_words : 1 ≤ fm_words.toInt ∧ fm_words.toInt ≤ 16) (b_tn_hours : 0 ≤ tn_hours.toInt ∧ tn_hours.toInt ≤ 48) (b_tn_courts : 0 ≤ tn_courts.toInt ∧ tn_courts.toInt ≤ 10) (b_tn_gateCount : 0 ≤ tn_gateCount.toInt ∧ tn_gateCount.toInt ≤ 16) (b_tn_people : 0 ≤ tn_people.toInt ∧ tn_people.toInt ≤ 10) (b_tn_falseHours : 0 ≤ tn_falseHours.toInt ∧ tn_falseHours.toInt ≤ 9) (b_tn_deep : 0 ≤ tn_deep.toInt ∧ tn_deep.toInt ≤ 1) (sz : Nat) : Met l yX2_leastLossFor (.code yX2_leastLossFor cX2_leastLossFor 5 (some .int) :: zT) ({ frames := 2, cells := 0, slots := 0, locals := 41 }) (va_Pc [.ref fm, .int p1, .int p2] (zB sa dC dI (zV51 fm tn fm_words fm_here fm_next fm_here cA_fm_here f_fm_here tn tn_hours tn_courts tn_gateCount tn_people tn_lines tn_falseHours tn_strayers tn_deep tn_above tn_doors tn_degrees tn_neighbours tn_shows tn_oneEnd tn_otherEnd tn_told tn_strayParts tn_strayCourts) [(cA_fm_here, .long)] sz)) (va_Qi (fun (r : Int32) (_ : Unit) => ((-1) ≤ r.toInt ∧ r.toInt ≤ 2147483647)) (fun _ t => zW dC dI (zV51 fm tn fm_words fm_here fm_next fm_here cA_fm_here f_fm_here tn tn_hours tn_courts tn_gateCount tn_people tn_lines tn_falseHours tn_strayers tn_deep tn_above tn_doors tn_degrees tn_neighbours tn_shows tn_oneEnd tn_otherEnd tn_told tn_strayParts tn_strayCourts) [] (va_A (zV51 fm tn fm_words fm_here fm_next fm_here cA_fm_here f_fm_here tn tn_hours tn_courts tn_gateCount tn_people tn_lines tn_falseHours tn_strayers tn_deep tn_above tn_doors tn_degrees tn_neighbours tn_shows tn_oneEnd tn_otherEnd tn_told tn_strayParts tn_strayCourts) sz) t) (va_A (zV51 fm tn fm_words fm_here fm_next fm_here cA_fm_here f_fm_here tn tn_hours tn_courts tn_gateCount tn_people tn_lines tn_falseHours tn_strayers tn_deep tn_above tn_doors tn_degrees tn_neighbours tn_shows tn_oneEnd tn_otherEnd tn_told tn_strayParts tn_strayCourts) sz)) 0 0 (va_A (zV51 fm tn fm_words fm_here fm_next fm_here cA_fm_here f_fm_here tn tn_hours tn_courts tn_gateCount tn_people tn_lines tn_falseHours tn_strayers tn_deep tn_above tn_doors tn_degrees tn_neighbours tn_shows tn_oneEnd tn_otherEnd tn_told tn_strayParts tn_strayCourts) sz) := by
  refine z_enter (by decide) (by exact (Nat.le_of_ble_eq_true rfl)) ?_
  intro p e s m args below meth c ls A R Qc hargs hsz hQe hAe hRe hx hb hml hr hts hown hlocks hin hl hP hK hD hN hXs hA hS
  rw [hAe] at hQe
  have hown : s.vm.findClass RX2 = some m.cls := hown
  have hl : lv_has ls 5 [(0, .ref fm), (1, .int p1), (2, .int p2)] := hl
  refine lv_iconst (v := (-1)) hx hb dX2_leastLossFor_0 (by decide) ?_
  refine lv_istore_n (lv' := [(3, .int (-1)), (0, .ref fm), (1, .int p1), (2, .int p2)]) hx hb dX2_leastLossFor_1 rfl hl (by decide) rfl (fun ls hl => ?_)
  refine lv_iconst (v := 0) hx hb dX2_leastLossFor_2 (by decide) ?_
  refine lv_istore (lv' := [(4, .int 0), (3, .int (-1)), (0, .ref fm), (1, .int p1), (2, .int p2)]) hx hb dX2_leastLossFor_3 hl (by decide) rfl (fun ls hl => ?_)
  have loop_1 : ∀ (t : Nat) (v3_2 : Int32) (v4_1 : Int32) (b_v3_2 : (-1) ≤ v3_2.toInt ∧ v3_2.toInt ≤ 2147483647) (b_v4_1 : 0 ≤ v4_1.toInt ∧ v4_1.toInt ≤ 1024) (H : Heap) (locs : List Loc) (ls : Array Slot), 1024 - v4_1.toInt < (t : Int) → va_P (dC, dI) vwCl (zV51 fm tn fm_words fm_here fm_next fm_here cA_fm_here f_fm_here tn tn_hours tn_courts tn_gateCount tn_people tn_lines tn_falseHours tn_strayers tn_deep tn_above tn_doors tn_degrees tn_neighbours tn_shows tn_oneEnd tn_otherEnd tn_told tn_strayParts tn_strayCourts) H → va_D A (zV51 fm tn fm_words fm_here fm_next fm_here cA_fm_here f_fm_here tn tn_hours tn_courts tn_gateCount tn_people tn_lines tn_falseHours tn_strayers tn_deep tn_above tn_doors tn_degrees tn_neighbours tn_shows tn_oneEnd tn_otherEnd tn_told tn_strayParts tn_strayCourts) → va_S A s.heap H locs → lv_has ls 5 [(0, .ref fm), (1, .int p1), (2, .int p2), (3, .int v3_2), (4, .int v4_1)] → W p l e R s m args below meth c H locs 0 0 (MQ below Qc args s 0 0 A) (F0 m 5 ls []) := by
    intro t
    induction t with
    | zero => intro v3_2 v4_1 b_v3_2 b_v4_1 H locs ls hmu _ _ _ _; exact absurd hmu (by first | with_reducible assumption | omega)
    | succ t ih_1 =>
      intro v3_2 v4_1 b_v3_2 b_v4_1 H locs ls hmu hP hD hS hl
      refine lv_iload hx hb dX2_leastLossFor_5 (lv_at hl 4 rfl) ?_
      refine lv_iconst (v := 1) hx hb dX2_leastLossFor_7 (by decide) ?_
      refine lv_aload_n hx hb dX2_leastLossFor_8 rfl (lv_at hl 0 rfl) ?_
      refine va_get (D := (dC, dI)) (ci := 2) (v := .ref tn) (C := RX2) (T := TX2) (N := 4) hx hb hts zl_X2 hown hK hP 0 rfl rfl 0 (by decide) (hts _ zw_t2_51) (fun _ h9 => h9) rfl dX2_leastLossFor_9 ?_
      refine va_get (D := (dC, dI)) (ci := 7) (v := .int tn_people) (C := RX7) (T := TX7) (N := 18) hx hb hts zl_X7 hown hK hP 2 rfl rfl 3 (by decide) (hts _ zw_t1_60) (fun _ h9 => h9) rfl dX2_leastLossFor_12 ?_
      refine lv_ishl hx hb dX2_leastLossFor_15 ?_
      refine lv_topi (fun x_3 ex_3 => ?_)
      have b_x_3 : 1 ≤ x_3.toInt ∧ x_3.toInt ≤ 1024 := by rw [ex_3]; exact zi_shl1 rfl (by first | with_reducible assumption | omega)
      refine lv_icmp_ge (tgt := 51) hx hb dX2_leastLossFor_16 (by decide) (fun c_4 => ?_) (fun c_4 => ?_)
      · have ic_4 := zz_ge rfl rfl c_4
        refine lv_iload_n hx hb dX2_leastLossFor_51 rfl (lv_at hl 3 rfl) ?_
        exact W.iret (v := v3_2) hx hb hr (fun t ht hW => by rw [← hQe]; exact ⟨⟨v3_2, (), rfl, (by first | with_reducible assumption | exact z_rle b_v3_2 (by decide) | omega), z_ret hP hK hD ht hW [0, 1, 2] [] rfl (by decide) rfl⟩, hS.F ht⟩) hS.2.2 dX2_leastLossFor_52
      · have ic_4 := zz_nge rfl rfl c_4
        refine lv_iload hx hb dX2_leastLossFor_19 (lv_at hl 4 rfl) ?_
        refine lv_iload_n hx hb dX2_leastLossFor_21 rfl (lv_at hl 3 rfl) ?_
        obtain ⟨hPc, hDc, hFc⟩ := z_cut (wc := []) hP hD hS hA [] rfl (by decide +kernel)
        have hKc := hK.sub (tys' := []) [] rfl
        refine va_calli (va_runS (As := [.int v4_1, .int v3_2]) (rest := []) ⟨hx, hb, hml, hown, hts⟩ (k_X2_isFewer l sa dC dI v4_1 v3_2 H.size) (va_cwS 2 hts (z_gS zw_t4_152 zw_t4_153 zw_t1_6 zw_t4_154) rfl rfl rfl (by decide +kernel) (by rw [← hRe]; exact ⟨(Nat.le_of_ble_eq_true rfl), (Nat.le_of_ble_eq_true rfl)⟩)) (z_preS hPc hKc hDc hN hXs hS hFc) rfl rfl hl.1 rfl (lv_room (Nat.le_of_ble_eq_true rfl)) dX2_leastLossFor_22 (by rw [← hRe]; exact ⟨(Nat.le_of_ble_eq_true rfl), (Nat.le_of_ble_eq_true rfl)⟩)) hS (fun q _ h => hFc q h) hFc (fun r_5 u t H1 locs ht hvm hw hB hz1 hk1 hS => ?_)
        obtain ⟨hP, hD, hK⟩ := z_after3 (wn := (zV51 fm tn fm_words fm_here fm_next fm_here cA_fm_here f_fm_here tn tn_hours tn_courts tn_gateCount tn_people tn_lines tn_falseHours tn_strayers tn_deep tn_above tn_doors tn_degrees tn_neighbours tn_shows tn_oneEnd tn_otherEnd tn_told tn_strayParts tn_strayCourts)) hB ht hvm hP hD hK [] [0, 1, 2] rfl 3 rfl (by decide +kernel) rfl (by decide +kernel) hk1 hFc
        generalize H1 = H at hP hS ⊢
        have hK : va_K (dC, dI) vwCl [(cA_fm_here, .long)] s := hK
        have b_r_5 : 0 ≤ r_5.toInt ∧ r_5.toInt ≤ 1 := hw
        refine lv_if_eq (tgt := 45) hx hb dX2_leastLossFor_25 (by decide) (fun c_6 => ?_) (fun c_6 => ?_)
        · have ic_6 := zz_eq rfl (show Int32.toInt 0 = 0 from by decide) c_6
          obtain ⟨x_7, ex_7⟩ : ∃ z : Int32, z = v4_1 + Int32.ofInt 1 := ⟨_, rfl⟩
          have b_x_7 : x_7.toInt = v4_1.toInt + 1 := by rw [ex_7]; exact zi_add rfl (show (Int32.ofInt 1).toInt = 1 from by decide) (z_rac b_v4_1 (by decide))
          refine lv_iinc (v := x_7) (lv' := [(4, .int x_7), (0, .ref fm), (1, .int p1), (2, .int p2), (3, .int v3_2)]) hx hb dX2_leastLossFor_45 hl (k := 4) rfl ex_7.symm (by decide) rfl (fun ls hl => ?_)
          refine lv_goto (tgt := 5) hx hb dX2_leastLossFor_48 (by decide) ?_
          exact ih_1 v3_2 x_7 (by first | with_reducible assumption | omega) (by first | with_reducible assumption | omega) _ _ _ (by first | with_reducible assumption | omega) (hP.sub (ws' := (zV51 fm tn fm_words fm_here fm_next fm_here cA_fm_here f_fm_here tn tn_hours tn_courts tn_gateCount tn_people tn_lines tn_falseHours tn_strayers tn_deep tn_above tn_doors tn_degrees tn_neighbours tn_shows tn_oneEnd tn_otherEnd tn_told tn_strayParts tn_strayCourts)) [0, 1, 2] rfl) (hD.sub (ws' := (zV51 fm tn fm_words fm_here fm_next fm_here cA_fm_here f_fm_here tn tn_hours tn_courts tn_gateCount tn_people tn_lines tn_falseHours tn_strayers tn_deep tn_above tn_doors tn_degrees tn_neighbours tn_shows tn_oneEnd tn_otherEnd tn_told tn_strayParts tn_strayCourts)) [0, 1, 2] (by decide) rfl) hS (lv_sub hl [1, 2, 3, 4, 0] rfl)
        · have ic_6 := zz_neq rfl (show Int32.toInt 0 = 0 from by decide) c_6
          refine lv_aload_n hx hb dX2_leastLossFor_28 rfl (lv_at hl 0 rfl) ?_
          refine lv_iload_n hx hb dX2_leastLossFor_29 rfl (lv_at hl 1 rfl) ?_
          refine lv_iload_n hx hb dX2_leastLossFor_30 rfl (lv_at hl 2 rfl) ?_
          refine lv_iload hx hb dX2_leastLossFor_31 (lv_at hl 4 rfl) ?_
          refine lv_iconst (v := (-1)) hx hb dX2_leastLossFor_33 (by decide) ?_
          refine lv_ixor hx hb dX2_leastLossFor_34 ?_
          refine lv_topi (fun x_8 ex_8 => ?_)
          refine lv_iand hx hb dX2_leastLossFor_35 ?_
          refine lv_topi (fun x_9 ex_9 => ?_)
          have b_x_9 : 0 ≤ x_9.toInt ∧ x_9.toInt ≤ 1023 := by rw [ex_9]; exact zi_andL rfl (by first | with_reducible assumption | omega) (by first | with_reducible assumption | omega)
          obtain ⟨hPc, hDc, hFc⟩ := z_cut (wc := (zV50 fm tn fm_words fm_here fm_next fm_here cA_fm_here f_fm_here)) hP hD hS hA [0, 1] rfl (by decide +kernel)
          have hKc := hK.sub (tys' := [(cA_fm_here, .long)]) [0] rfl
          refine va_calli (va_runV (As := [.int p1, .int x_9]) (rest := []) ⟨hx, hb, hml, hown, hts⟩ (k_X2_comesTo l sa dC dI fm p1 x_9 tn fm_words fm_here fm_next cA_fm_here f_fm_here b_p1 b_x_9 b_fm_words H.size) (cwV 2 hts (z_gV zw_t4_160 zw_t4_162 zw_s2_13 zw_t1_6 zw_t4_163) rfl rfl rfl (by decide +kernel) (by rw [← hRe]; exact ⟨(Nat.le_of_ble_eq_true rfl), (Nat.le_of_ble_eq_true rfl)⟩)) (z_preV hPc hKc hDc hN hXs hS hFc (q := (RX2, TX2, 4)) (ci := 2) (q0 := 0) rfl rfl) rfl rfl hl.1 rfl (lv_room (Nat.le_of_ble_eq_true rfl)) dX2_leastLossFor_36 (by rw [← hRe]; exact ⟨(Nat.le_of_ble_eq_true rfl), (Nat.le_of_ble_eq_true rfl)⟩)) hS (fun q _ h => hFc q h) hFc (fun r_10 u t H1 locs ht hvm hw hB hz1 hk1 hS => ?_)
          obtain ⟨hP, hD, hK⟩ := z_after3 (wn := [(tn, .inr (7, [.int tn_hours, .int tn_courts, .int tn_gateCount, .int tn_people, .int tn_lines, .int tn_falseHours, .int tn_strayers, .int tn_deep, .ref tn_above, .ref tn_doors, .ref tn_degrees, .ref tn_neighbours, .ref tn_shows, .ref tn_oneEnd, .ref tn_otherEnd, .ref tn_told, .ref tn_strayParts, .ref tn_strayCourts])), (fm, .inr (2, [.ref tn, .int fm_words, .ref fm_here, .ref fm_next])), (fm_here, .inl (cA_fm_here, 160, .inr (.inl f_fm_here)))]) hB ht hvm hP hD hK [0, 1] [2] rfl 3 rfl (by decide +kernel) rfl (by decide +kernel) hk1 hFc
          generalize H1 = H at hP hS ⊢
          have hK : va_K (dC, dI) vwCl [(cA_fm_here, .long)] s := hK
          have b_r_10 : 0 ≤ r_10.toInt ∧ r_10.toInt ≤ 1 := hw
          refine lv_if_ne (tgt := 45) hx hb dX2_leastLossFor_39 (by decide) (fun c_11 => ?_) (fun c_11 => ?_)
          · have ic_11 := zz_ne rfl (show Int32.toInt 0 = 0 from by decide) c_11
            obtain ⟨x_12, ex_12⟩ : ∃ z : Int32, z = v4_1 + Int32.ofInt 1 := ⟨_, rfl⟩
            have b_x_12 : x_12.toInt = v4_1.toInt + 1 := by rw [ex_12]; exact zi_add rfl (show (Int32.ofInt 1).toInt = 1 from by decide) (z_rac b_v4_1 (by decide))
            refine lv_iinc (v := x_12) (lv' := [(4, .int x_12), (0, .ref fm), (1, .int p1), (2, .int p2), (3, .int v3_2)]) hx hb dX2_leastLossFor_45 hl (k := 4) rfl ex_12.symm (by decide) rfl (fun ls hl => ?_)
            refine lv_goto (tgt := 5) hx hb dX2_leastLossFor_48 (by decide) ?_
            exact ih_1 v3_2 x_12 (by first | with_reducible assumption | omega) (by first | with_reducible assumption | omega) _ _ _ (by first | with_reducible assumption | omega) (hP.sub (ws' := (zV51 fm tn fm_words fm_here fm_next fm_here cA_fm_here f_fm_here tn tn_hours tn_courts tn_gateCount tn_people tn_lines tn_falseHours tn_strayers tn_deep tn_above tn_doors tn_degrees tn_neighbours tn_shows tn_oneEnd tn_otherEnd tn_told tn_strayParts tn_strayCourts)) [1, 2, 0] rfl) (hD.sub (ws' := (zV51 fm tn fm_words fm_here fm_next fm_here cA_fm_here f_fm_here tn tn_hours tn_courts tn_gateCount tn_people tn_lines tn_falseHours tn_strayers tn_deep tn_above tn_doors tn_degrees tn_neighbours tn_shows tn_oneEnd tn_otherEnd tn_told tn_strayParts tn_strayCourts)) [1, 2, 0] (by decide) rfl) hS (lv_sub hl [1, 2, 3, 4, 0] rfl)
          · have ic_11 := zz_nne rfl (show Int32.toInt 0 = 0 from by decide) c_11
            refine lv_iload hx hb dX2_leastLossFor_42 (lv_at hl 4 rfl) ?_
            refine lv_istore_n (lv' := [(3, .int v4_1), (0, .ref fm), (1, .int p1), (2, .int p2), (4, .int v4_1)]) hx hb dX2_leastLossFor_44 rfl hl (by decide) rfl (fun ls hl => ?_)
            obtain ⟨x_13, ex_13⟩ : ∃ z : Int32, z = v4_1 + Int32.ofInt 1 := ⟨_, rfl⟩
            have b_x_13 : x_13.toInt = v4_1.toInt + 1 := by rw [ex_13]; exact zi_add rfl (show (Int32.ofInt 1).toInt = 1 from by decide) (z_rac b_v4_1 (by decide))
            refine lv_iinc (v := x_13) (lv' := [(4, .int x_13), (3, .int v4_1), (0, .ref fm), (1, .int p1), (2, .int p2)]) hx hb dX2_leastLossFor_45 hl (k := 4) rfl ex_13.symm (by decide) rfl (fun ls hl => ?_)
            refine lv_goto (tgt := 5) hx hb dX2_leastLossFor_48 (by decide) ?_
            exact ih_1 v4_1 x_13 (by first | with_reducible assumption | omega) (by first | with_reducible assumption | omega) _ _ _ (by first | with_reducible assumption | omega) (hP.sub (ws' := (zV51 fm tn fm_words fm_here fm_next fm_here cA_fm_here f_fm_here tn tn_hours tn_courts tn_gateCount tn_people tn_lines tn_falseHours tn_strayers tn_deep tn_above tn_doors tn_degrees tn_neighbours tn_shows tn_oneEnd tn_otherEnd tn_told tn_strayParts tn_strayCourts)) [1, 2, 0] rfl) (hD.sub (ws' := (zV51 fm tn fm_words fm_here fm_next fm_here cA_fm_here f_fm_here tn tn_hours tn_courts tn_gateCount tn_people tn_lines tn_falseHours tn_strayers tn_deep tn_above tn_doors tn_degrees tn_neighbours tn_shows tn_oneEnd tn_otherEnd tn_told tn_strayParts tn_strayCourts)) [1, 2, 0] (by decide) rfl) hS (lv_sub hl [2, 3, 4, 1, 0] rfl)
  exact loop_1 1026 (-1) (0) (by decide) (by decide) _ _ _ (by decide) hP hD hS (lv_sub hl [2, 3, 4, 1, 0] rfl)
