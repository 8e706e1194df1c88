set_option linter.all false
theorem zw_t1_108 : Cond.fieldLink RX3 46 "NameGate$Town" "strayParts" "[I" ∈ zT := zt_1 (List.mem_of_getElem? (i := 108) (by decide +kernel)) (by decide +kernel)
theorem zw_t1_153 : Cond.fieldLink RX3 12 "NameGate$Image" "town" "LNameGate$Town;" ∈ zT := zt_1 (List.mem_of_getElem? (i := 153) (by decide +kernel)) (by decide +kernel)
theorem zw_t1_157 : Cond.fieldLink RX3 18 "NameGate$Image" "strayed" "I" ∈ zT := zt_1 (List.mem_of_getElem? (i := 157) (by decide +kernel)) (by decide +kernel)
theorem zw_t1_160 : Cond.fieldLink RX3 22 "NameGate$Image" "names" "I" ∈ zT := zt_1 (List.mem_of_getElem? (i := 160) (by decide +kernel)) (by decide +kernel)
theorem zw_t1_164 : Cond.fieldLink RX3 25 "NameGate$Image" "known" "I" ∈ zT := zt_1 (List.mem_of_getElem? (i := 164) (by decide +kernel)) (by decide +kernel)
theorem zw_t1_166 : Cond.fieldLink RX3 28 "NameGate$Image" "gone" "I" ∈ zT := zt_1 (List.mem_of_getElem? (i := 166) (by decide +kernel)) (by decide +kernel)
theorem zw_t1_19 : Cond.initialized RJ7 ∈ zT := zt_1 (List.mem_of_getElem? (i := 19) (by decide +kernel)) (by decide +kernel)
theorem zw_t1_2 : Cond.initialized RX3 ∈ zT := zt_1 (List.mem_of_getElem? (i := 2) (by decide +kernel)) (by decide +kernel)
theorem zw_t1_73 : Cond.fieldLink RX3 31 "NameGate$Town" "strayers" "I" ∈ zT := zt_1 (List.mem_of_getElem? (i := 73) (by decide +kernel)) (by decide +kernel)
theorem zw_t2_175 : Cond.fieldLink RX6 9 "NameGate$Row" "width" "I" ∈ zT := zt_2 (List.mem_of_getElem? (i := 175) (by decide +kernel)) (by decide +kernel)
theorem zw_t2_178 : Cond.fieldLink RX6 19 "NameGate$Row" "size" "I" ∈ zT := zt_2 (List.mem_of_getElem? (i := 178) (by decide +kernel)) (by decide +kernel)
theorem zw_t2_179 : Cond.fieldLink RX6 15 "NameGate$Row" "numbers" "[J" ∈ zT := zt_2 (List.mem_of_getElem? (i := 179) (by decide +kernel)) (by decide +kernel)
theorem zw_t3_218 : Cond.constant RJ6 265 (1431655765) ∈ zT := zt_3 (List.mem_of_getElem? (i := 218) (by decide +kernel)) (by decide +kernel)
theorem zw_t3_219 : Cond.constant RJ6 266 (858993459) ∈ zT := zt_3 (List.mem_of_getElem? (i := 219) (by decide +kernel)) (by decide +kernel)
theorem zw_t3_220 : Cond.constant RJ6 267 (252645135) ∈ zT := zt_3 (List.mem_of_getElem? (i := 220) (by decide +kernel)) (by decide +kernel)
theorem zw_t4_128 : Cond.static yJ7_fill_d0a16 ∈ zT := zt_4 (List.mem_of_getElem? (i := 128) (by decide +kernel)) (by decide +kernel)
theorem zw_t4_129 : Cond.code yJ7_fill_d0a16 cJ7_fill_d0a16 5 none ∈ zT := zt_4 (List.mem_of_getElem? (i := 129) (by decide +kernel)) (by decide +kernel)
theorem zw_t4_90 : Cond.constant RJ6 264 (65536) ∈ zT := zt_4 (List.mem_of_getElem? (i := 90) (by decide +kernel)) (by decide +kernel)
theorem zw_t5_146 : Cond.methodLink RX3 34 yX3_unsure ∈ zT := zt_5 (List.mem_of_getElem? (i := 146) (by decide +kernel)) (by decide +kernel)
theorem zw_t5_147 : Cond.instanceMethod yX3_unsure ∈ zT := zt_5 (List.mem_of_getElem? (i := 147) (by decide +kernel)) (by decide +kernel)
theorem zw_t5_148 : Cond.selects RX3 yX3_unsure yX3_unsure ∈ zT := zt_5 (List.mem_of_getElem? (i := 148) (by decide +kernel)) (by decide +kernel)
theorem zw_t5_149 : Cond.code yX3_unsure cX3_unsure 1 (some .int) ∈ zT := zt_5 (List.mem_of_getElem? (i := 149) (by decide +kernel)) (by decide +kernel)
theorem zw_t5_151 : Cond.methodLink RX3 42 yX7_showsOf ∈ zT := zt_5 (List.mem_of_getElem? (i := 151) (by decide +kernel)) (by decide +kernel)
theorem zw_t6_75 : Cond.methodLink RX6 22 yJ7_fill_d0a16 ∈ zT := zt_6 (List.mem_of_getElem? (i := 75) (by decide +kernel)) (by decide +kernel)
def bcJ6_bitCount_0f7a4_0 : List Nat := [26, 26, 4, 124, 19, 1, 9, 126, 100, 59, 26, 19, 1, 10, 126, 26, 5, 124, 19, 1, 10, 126, 96, 59, 26, 26, 7, 124, 96, 19, 1, 11, 126, 59, 26, 26, 16, 8, 124, 96, 59, 26, 26, 16, 16, 124, 96, 59, 26, 16, 63, 126, 172]
theorem bcJ6_bitCount_0f7a4_0_ok : z_bys cJ6_bitCount_0f7a4 0 bcJ6_bitCount_0f7a4_0 = true := by decide +kernel
theorem dJ6_bitCount_0f7a4_0 : decode cJ6_bitCount_0f7a4 0 = .ok (.iload_n 0, 1) := zo_26 (z_byk bcJ6_bitCount_0f7a4_0 0 0 _ bcJ6_bitCount_0f7a4_0_ok rfl)
theorem dJ6_bitCount_0f7a4_1 : decode cJ6_bitCount_0f7a4 1 = .ok (.iload_n 0, 1) := zo_26 (z_byk bcJ6_bitCount_0f7a4_0 0 1 _ bcJ6_bitCount_0f7a4_0_ok rfl)
theorem dJ6_bitCount_0f7a4_10 : decode cJ6_bitCount_0f7a4 10 = .ok (.iload_n 0, 1) := zo_26 (z_byk bcJ6_bitCount_0f7a4_0 0 10 _ bcJ6_bitCount_0f7a4_0_ok rfl)
theorem dJ6_bitCount_0f7a4_11 : decode cJ6_bitCount_0f7a4 11 = .ok (.ldc_w 266, 3) := zo_19 (z_byk bcJ6_bitCount_0f7a4_0 0 11 _ bcJ6_bitCount_0f7a4_0_ok rfl) (z_byk bcJ6_bitCount_0f7a4_0 0 12 _ bcJ6_bitCount_0f7a4_0_ok rfl) (z_byk bcJ6_bitCount_0f7a4_0 0 13 _ bcJ6_bitCount_0f7a4_0_ok rfl) rfl
theorem dJ6_bitCount_0f7a4_14 : decode cJ6_bitCount_0f7a4 14 = .ok (.iand, 1) := zo_126 (z_byk bcJ6_bitCount_0f7a4_0 0 14 _ bcJ6_bitCount_0f7a4_0_ok rfl)
theorem dJ6_bitCount_0f7a4_15 : decode cJ6_bitCount_0f7a4 15 = .ok (.iload_n 0, 1) := zo_26 (z_byk bcJ6_bitCount_0f7a4_0 0 15 _ bcJ6_bitCount_0f7a4_0_ok rfl)
theorem dJ6_bitCount_0f7a4_16 : decode cJ6_bitCount_0f7a4 16 = .ok (.iconst 2, 1) := zo_5 (z_byk bcJ6_bitCount_0f7a4_0 0 16 _ bcJ6_bitCount_0f7a4_0_ok rfl)
theorem dJ6_bitCount_0f7a4_17 : decode cJ6_bitCount_0f7a4 17 = .ok (.iushr, 1) := zo_124 (z_byk bcJ6_bitCount_0f7a4_0 0 17 _ bcJ6_bitCount_0f7a4_0_ok rfl)
theorem dJ6_bitCount_0f7a4_18 : decode cJ6_bitCount_0f7a4 18 = .ok (.ldc_w 266, 3) := zo_19 (z_byk bcJ6_bitCount_0f7a4_0 0 18 _ bcJ6_bitCount_0f7a4_0_ok rfl) (z_byk bcJ6_bitCount_0f7a4_0 0 19 _ bcJ6_bitCount_0f7a4_0_ok rfl) (z_byk bcJ6_bitCount_0f7a4_0 0 20 _ bcJ6_bitCount_0f7a4_0_ok rfl) rfl
theorem dJ6_bitCount_0f7a4_2 : decode cJ6_bitCount_0f7a4 2 = .ok (.iconst 1, 1) := zo_4 (z_byk bcJ6_bitCount_0f7a4_0 0 2 _ bcJ6_bitCount_0f7a4_0_ok rfl)
theorem dJ6_bitCount_0f7a4_21 : decode cJ6_bitCount_0f7a4 21 = .ok (.iand, 1) := zo_126 (z_byk bcJ6_bitCount_0f7a4_0 0 21 _ bcJ6_bitCount_0f7a4_0_ok rfl)
theorem dJ6_bitCount_0f7a4_22 : decode cJ6_bitCount_0f7a4 22 = .ok (.iadd, 1) := zo_96 (z_byk bcJ6_bitCount_0f7a4_0 0 22 _ bcJ6_bitCount_0f7a4_0_ok rfl)
theorem dJ6_bitCount_0f7a4_23 : decode cJ6_bitCount_0f7a4 23 = .ok (.istore_n 0, 1) := zo_59 (z_byk bcJ6_bitCount_0f7a4_0 0 23 _ bcJ6_bitCount_0f7a4_0_ok rfl)
theorem dJ6_bitCount_0f7a4_24 : decode cJ6_bitCount_0f7a4 24 = .ok (.iload_n 0, 1) := zo_26 (z_byk bcJ6_bitCount_0f7a4_0 0 24 _ bcJ6_bitCount_0f7a4_0_ok rfl)
theorem dJ6_bitCount_0f7a4_25 : decode cJ6_bitCount_0f7a4 25 = .ok (.iload_n 0, 1) := zo_26 (z_byk bcJ6_bitCount_0f7a4_0 0 25 _ bcJ6_bitCount_0f7a4_0_ok rfl)
theorem dJ6_bitCount_0f7a4_26 : decode cJ6_bitCount_0f7a4 26 = .ok (.iconst 4, 1) := zo_7 (z_byk bcJ6_bitCount_0f7a4_0 0 26 _ bcJ6_bitCount_0f7a4_0_ok rfl)
theorem dJ6_bitCount_0f7a4_27 : decode cJ6_bitCount_0f7a4 27 = .ok (.iushr, 1) := zo_124 (z_byk bcJ6_bitCount_0f7a4_0 0 27 _ bcJ6_bitCount_0f7a4_0_ok rfl)
theorem dJ6_bitCount_0f7a4_28 : decode cJ6_bitCount_0f7a4 28 = .ok (.iadd, 1) := zo_96 (z_byk bcJ6_bitCount_0f7a4_0 0 28 _ bcJ6_bitCount_0f7a4_0_ok rfl)
theorem dJ6_bitCount_0f7a4_29 : decode cJ6_bitCount_0f7a4 29 = .ok (.ldc_w 267, 3) := zo_19 (z_byk bcJ6_bitCount_0f7a4_0 0 29 _ bcJ6_bitCount_0f7a4_0_ok rfl) (z_byk bcJ6_bitCount_0f7a4_0 0 30 _ bcJ6_bitCount_0f7a4_0_ok rfl) (z_byk bcJ6_bitCount_0f7a4_0 0 31 _ bcJ6_bitCount_0f7a4_0_ok rfl) rfl
theorem dJ6_bitCount_0f7a4_3 : decode cJ6_bitCount_0f7a4 3 = .ok (.iushr, 1) := zo_124 (z_byk bcJ6_bitCount_0f7a4_0 0 3 _ bcJ6_bitCount_0f7a4_0_ok rfl)
theorem dJ6_bitCount_0f7a4_32 : decode cJ6_bitCount_0f7a4 32 = .ok (.iand, 1) := zo_126 (z_byk bcJ6_bitCount_0f7a4_0 0 32 _ bcJ6_bitCount_0f7a4_0_ok rfl)
theorem dJ6_bitCount_0f7a4_33 : decode cJ6_bitCount_0f7a4 33 = .ok (.istore_n 0, 1) := zo_59 (z_byk bcJ6_bitCount_0f7a4_0 0 33 _ bcJ6_bitCount_0f7a4_0_ok rfl)
theorem dJ6_bitCount_0f7a4_34 : decode cJ6_bitCount_0f7a4 34 = .ok (.iload_n 0, 1) := zo_26 (z_byk bcJ6_bitCount_0f7a4_0 0 34 _ bcJ6_bitCount_0f7a4_0_ok rfl)
theorem dJ6_bitCount_0f7a4_35 : decode cJ6_bitCount_0f7a4 35 = .ok (.iload_n 0, 1) := zo_26 (z_byk bcJ6_bitCount_0f7a4_0 0 35 _ bcJ6_bitCount_0f7a4_0_ok rfl)
theorem dJ6_bitCount_0f7a4_36 : decode cJ6_bitCount_0f7a4 36 = .ok (.bipush 8, 2) := zo_16 (z_byk bcJ6_bitCount_0f7a4_0 0 36 _ bcJ6_bitCount_0f7a4_0_ok rfl) (z_byk bcJ6_bitCount_0f7a4_0 0 37 _ bcJ6_bitCount_0f7a4_0_ok rfl) rfl
theorem dJ6_bitCount_0f7a4_38 : decode cJ6_bitCount_0f7a4 38 = .ok (.iushr, 1) := zo_124 (z_byk bcJ6_bitCount_0f7a4_0 0 38 _ bcJ6_bitCount_0f7a4_0_ok rfl)
theorem dJ6_bitCount_0f7a4_39 : decode cJ6_bitCount_0f7a4 39 = .ok (.iadd, 1) := zo_96 (z_byk bcJ6_bitCount_0f7a4_0 0 39 _ bcJ6_bitCount_0f7a4_0_ok rfl)
theorem dJ6_bitCount_0f7a4_4 : decode cJ6_bitCount_0f7a4 4 = .ok (.ldc_w 265, 3) := zo_19 (z_byk bcJ6_bitCount_0f7a4_0 0 4 _ bcJ6_bitCount_0f7a4_0_ok rfl) (z_byk bcJ6_bitCount_0f7a4_0 0 5 _ bcJ6_bitCount_0f7a4_0_ok rfl) (z_byk bcJ6_bitCount_0f7a4_0 0 6 _ bcJ6_bitCount_0f7a4_0_ok rfl) rfl
theorem dJ6_bitCount_0f7a4_40 : decode cJ6_bitCount_0f7a4 40 = .ok (.istore_n 0, 1) := zo_59 (z_byk bcJ6_bitCount_0f7a4_0 0 40 _ bcJ6_bitCount_0f7a4_0_ok rfl)
theorem dJ6_bitCount_0f7a4_41 : decode cJ6_bitCount_0f7a4 41 = .ok (.iload_n 0, 1) := zo_26 (z_byk bcJ6_bitCount_0f7a4_0 0 41 _ bcJ6_bitCount_0f7a4_0_ok rfl)
theorem dJ6_bitCount_0f7a4_42 : decode cJ6_bitCount_0f7a4 42 = .ok (.iload_n 0, 1) := zo_26 (z_byk bcJ6_bitCount_0f7a4_0 0 42 _ bcJ6_bitCount_0f7a4_0_ok rfl)
theorem dJ6_bitCount_0f7a4_43 : decode cJ6_bitCount_0f7a4 43 = .ok (.bipush 16, 2) := zo_16 (z_byk bcJ6_bitCount_0f7a4_0 0 43 _ bcJ6_bitCount_0f7a4_0_ok rfl) (z_byk bcJ6_bitCount_0f7a4_0 0 44 _ bcJ6_bitCount_0f7a4_0_ok rfl) rfl
theorem dJ6_bitCount_0f7a4_45 : decode cJ6_bitCount_0f7a4 45 = .ok (.iushr, 1) := zo_124 (z_byk bcJ6_bitCount_0f7a4_0 0 45 _ bcJ6_bitCount_0f7a4_0_ok rfl)
theorem dJ6_bitCount_0f7a4_46 : decode cJ6_bitCount_0f7a4 46 = .ok (.iadd, 1) := zo_96 (z_byk bcJ6_bitCount_0f7a4_0 0 46 _ bcJ6_bitCount_0f7a4_0_ok rfl)
theorem dJ6_bitCount_0f7a4_47 : decode cJ6_bitCount_0f7a4 47 = .ok (.istore_n 0, 1) := zo_59 (z_byk bcJ6_bitCount_0f7a4_0 0 47 _ bcJ6_bitCount_0f7a4_0_ok rfl)
theorem dJ6_bitCount_0f7a4_48 : decode cJ6_bitCount_0f7a4 48 = .ok (.iload_n 0, 1) := zo_26 (z_byk bcJ6_bitCount_0f7a4_0 0 48 _ bcJ6_bitCount_0f7a4_0_ok rfl)
theorem dJ6_bitCount_0f7a4_49 : decode cJ6_bitCount_0f7a4 49 = .ok (.bipush 63, 2) := zo_16 (z_byk bcJ6_bitCount_0f7a4_0 0 49 _ bcJ6_bitCount_0f7a4_0_ok rfl) (z_byk bcJ6_bitCount_0f7a4_0 0 50 _ bcJ6_bitCount_0f7a4_0_ok rfl) rfl
theorem dJ6_bitCount_0f7a4_51 : decode cJ6_bitCount_0f7a4 51 = .ok (.iand, 1) := zo_126 (z_byk bcJ6_bitCount_0f7a4_0 0 51 _ bcJ6_bitCount_0f7a4_0_ok rfl)
theorem dJ6_bitCount_0f7a4_52 : decode cJ6_bitCount_0f7a4 52 = .ok (.ireturn, 1) := zo_172 (z_byk bcJ6_bitCount_0f7a4_0 0 52 _ bcJ6_bitCount_0f7a4_0_ok rfl)
theorem dJ6_bitCount_0f7a4_7 : decode cJ6_bitCount_0f7a4 7 = .ok (.iand, 1) := zo_126 (z_byk bcJ6_bitCount_0f7a4_0 0 7 _ bcJ6_bitCount_0f7a4_0_ok rfl)
theorem dJ6_bitCount_0f7a4_8 : decode cJ6_bitCount_0f7a4 8 = .ok (.isub, 1) := zo_100 (z_byk bcJ6_bitCount_0f7a4_0 0 8 _ bcJ6_bitCount_0f7a4_0_ok rfl)
theorem dJ6_bitCount_0f7a4_9 : decode cJ6_bitCount_0f7a4 9 = .ok (.istore_n 0, 1) := zo_59 (z_byk bcJ6_bitCount_0f7a4_0 0 9 _ bcJ6_bitCount_0f7a4_0_ok rfl)
def bcJ6_numberOfTrailingZeros_0f7a4_0 : List Nat := [26, 2, 130, 26, 4, 100, 126, 59, 26, 157, 0, 8, 26, 16, 32, 126, 172, 4, 60, 26, 19, 1, 8, 164, 0, 11, 132, 1, 16, 26, 16, 16, 124, 59, 26, 17, 1, 0, 164, 0, 11, 132, 1, 8, 26, 16, 8, 124, 59, 26, 16, 16, 164, 0, 10, 132, 1, 4, 26, 7]
theorem bcJ6_numberOfTrailingZeros_0f7a4_0_ok : z_bys cJ6_numberOfTrailingZeros_0f7a4 0 bcJ6_numberOfTrailingZeros_0f7a4_0 = true := by decide +kernel
def bcJ6_numberOfTrailingZeros_0f7a4_60 : List Nat := [124, 59, 26, 7, 164, 0, 10, 132, 1, 2, 26, 5, 124, 59, 27, 26, 4, 124, 96, 172]
theorem bcJ6_numberOfTrailingZeros_0f7a4_60_ok : z_bys cJ6_numberOfTrailingZeros_0f7a4 60 bcJ6_numberOfTrailingZeros_0f7a4_60 = true := by decide +kernel
theorem dJ6_numberOfTrailingZeros_0f7a4_0 : decode cJ6_numberOfTrailingZeros_0f7a4 0 = .ok (.iload_n 0, 1) := zo_26 (z_byk bcJ6_numberOfTrailingZeros_0f7a4_0 0 0 _ bcJ6_numberOfTrailingZeros_0f7a4_0_ok rfl)
theorem dJ6_numberOfTrailingZeros_0f7a4_1 : decode cJ6_numberOfTrailingZeros_0f7a4 1 = .ok (.iconst (-1), 1) := zo_2 (z_byk bcJ6_numberOfTrailingZeros_0f7a4_0 0 1 _ bcJ6_numberOfTrailingZeros_0f7a4_0_ok rfl)
theorem dJ6_numberOfTrailingZeros_0f7a4_12 : decode cJ6_numberOfTrailingZeros_0f7a4 12 = .ok (.iload_n 0, 1) := zo_26 (z_byk bcJ6_numberOfTrailingZeros_0f7a4_0 0 12 _ bcJ6_numberOfTrailingZeros_0f7a4_0_ok rfl)
theorem dJ6_numberOfTrailingZeros_0f7a4_13 : decode cJ6_numberOfTrailingZeros_0f7a4 13 = .ok (.bipush 32, 2) := zo_16 (z_byk bcJ6_numberOfTrailingZeros_0f7a4_0 0 13 _ bcJ6_numberOfTrailingZeros_0f7a4_0_ok rfl) (z_byk bcJ6_numberOfTrailingZeros_0f7a4_0 0 14 _ bcJ6_numberOfTrailingZeros_0f7a4_0_ok rfl) rfl
theorem dJ6_numberOfTrailingZeros_0f7a4_15 : decode cJ6_numberOfTrailingZeros_0f7a4 15 = .ok (.iand, 1) := zo_126 (z_byk bcJ6_numberOfTrailingZeros_0f7a4_0 0 15 _ bcJ6_numberOfTrailingZeros_0f7a4_0_ok rfl)
theorem dJ6_numberOfTrailingZeros_0f7a4_16 : decode cJ6_numberOfTrailingZeros_0f7a4 16 = .ok (.ireturn, 1) := zo_172 (z_byk bcJ6_numberOfTrailingZeros_0f7a4_0 0 16 _ bcJ6_numberOfTrailingZeros_0f7a4_0_ok rfl)
theorem dJ6_numberOfTrailingZeros_0f7a4_17 : decode cJ6_numberOfTrailingZeros_0f7a4 17 = .ok (.iconst 1, 1) := zo_4 (z_byk bcJ6_numberOfTrailingZeros_0f7a4_0 0 17 _ bcJ6_numberOfTrailingZeros_0f7a4_0_ok rfl)
theorem dJ6_numberOfTrailingZeros_0f7a4_18 : decode cJ6_numberOfTrailingZeros_0f7a4 18 = .ok (.istore_n 1, 1) := zo_60 (z_byk bcJ6_numberOfTrailingZeros_0f7a4_0 0 18 _ bcJ6_numberOfTrailingZeros_0f7a4_0_ok rfl)
theorem dJ6_numberOfTrailingZeros_0f7a4_19 : decode cJ6_numberOfTrailingZeros_0f7a4 19 = .ok (.iload_n 0, 1) := zo_26 (z_byk bcJ6_numberOfTrailingZeros_0f7a4_0 0 19 _ bcJ6_numberOfTrailingZeros_0f7a4_0_ok rfl)
theorem dJ6_numberOfTrailingZeros_0f7a4_2 : decode cJ6_numberOfTrailingZeros_0f7a4 2 = .ok (.ixor, 1) := zo_130 (z_byk bcJ6_numberOfTrailingZeros_0f7a4_0 0 2 _ bcJ6_numberOfTrailingZeros_0f7a4_0_ok rfl)
theorem dJ6_numberOfTrailingZeros_0f7a4_20 : decode cJ6_numberOfTrailingZeros_0f7a4 20 = .ok (.ldc_w 264, 3) := zo_19 (z_byk bcJ6_numberOfTrailingZeros_0f7a4_0 0 20 _ bcJ6_numberOfTrailingZeros_0f7a4_0_ok rfl) (z_byk bcJ6_numberOfTrailingZeros_0f7a4_0 0 21 _ bcJ6_numberOfTrailingZeros_0f7a4_0_ok rfl) (z_byk bcJ6_numberOfTrailingZeros_0f7a4_0 0 22 _ bcJ6_numberOfTrailingZeros_0f7a4_0_ok rfl) rfl
theorem dJ6_numberOfTrailingZeros_0f7a4_23 : decode cJ6_numberOfTrailingZeros_0f7a4 23 = .ok (.if_icmp .le 11, 3) := zo_164 (z_byk bcJ6_numberOfTrailingZeros_0f7a4_0 0 23 _ bcJ6_numberOfTrailingZeros_0f7a4_0_ok rfl) (z_byk bcJ6_numberOfTrailingZeros_0f7a4_0 0 24 _ bcJ6_numberOfTrailingZeros_0f7a4_0_ok rfl) (z_byk bcJ6_numberOfTrailingZeros_0f7a4_0 0 25 _ bcJ6_numberOfTrailingZeros_0f7a4_0_ok rfl) rfl
theorem dJ6_numberOfTrailingZeros_0f7a4_26 : decode cJ6_numberOfTrailingZeros_0f7a4 26 = .ok (.iinc 1 16, 3) := zo_132 (z_byk bcJ6_numberOfTrailingZeros_0f7a4_0 0 26 _ bcJ6_numberOfTrailingZeros_0f7a4_0_ok rfl) (z_byk bcJ6_numberOfTrailingZeros_0f7a4_0 0 27 _ bcJ6_numberOfTrailingZeros_0f7a4_0_ok rfl) (z_byk bcJ6_numberOfTrailingZeros_0f7a4_0 0 28 _ bcJ6_numberOfTrailingZeros_0f7a4_0_ok rfl) rfl
theorem dJ6_numberOfTrailingZeros_0f7a4_29 : decode cJ6_numberOfTrailingZeros_0f7a4 29 = .ok (.iload_n 0, 1) := zo_26 (z_byk bcJ6_numberOfTrailingZeros_0f7a4_0 0 29 _ bcJ6_numberOfTrailingZeros_0f7a4_0_ok rfl)
theorem dJ6_numberOfTrailingZeros_0f7a4_3 : decode cJ6_numberOfTrailingZeros_0f7a4 3 = .ok (.iload_n 0, 1) := zo_26 (z_byk bcJ6_numberOfTrailingZeros_0f7a4_0 0 3 _ bcJ6_numberOfTrailingZeros_0f7a4_0_ok rfl)
theorem dJ6_numberOfTrailingZeros_0f7a4_30 : decode cJ6_numberOfTrailingZeros_0f7a4 30 = .ok (.bipush 16, 2) := zo_16 (z_byk bcJ6_numberOfTrailingZeros_0f7a4_0 0 30 _ bcJ6_numberOfTrailingZeros_0f7a4_0_ok rfl) (z_byk bcJ6_numberOfTrailingZeros_0f7a4_0 0 31 _ bcJ6_numberOfTrailingZeros_0f7a4_0_ok rfl) rfl
theorem dJ6_numberOfTrailingZeros_0f7a4_32 : decode cJ6_numberOfTrailingZeros_0f7a4 32 = .ok (.iushr, 1) := zo_124 (z_byk bcJ6_numberOfTrailingZeros_0f7a4_0 0 32 _ bcJ6_numberOfTrailingZeros_0f7a4_0_ok rfl)
theorem dJ6_numberOfTrailingZeros_0f7a4_33 : decode cJ6_numberOfTrailingZeros_0f7a4 33 = .ok (.istore_n 0, 1) := zo_59 (z_byk bcJ6_numberOfTrailingZeros_0f7a4_0 0 33 _ bcJ6_numberOfTrailingZeros_0f7a4_0_ok rfl)
theorem dJ6_numberOfTrailingZeros_0f7a4_34 : decode cJ6_numberOfTrailingZeros_0f7a4 34 = .ok (.iload_n 0, 1) := zo_26 (z_byk bcJ6_numberOfTrailingZeros_0f7a4_0 0 34 _ bcJ6_numberOfTrailingZeros_0f7a4_0_ok rfl)
theorem dJ6_numberOfTrailingZeros_0f7a4_35 : decode cJ6_numberOfTrailingZeros_0f7a4 35 = .ok (.sipush 256, 3) := zo_17 (z_byk bcJ6_numberOfTrailingZeros_0f7a4_0 0 35 _ bcJ6_numberOfTrailingZeros_0f7a4_0_ok rfl) (z_byk bcJ6_numberOfTrailingZeros_0f7a4_0 0 36 _ bcJ6_numberOfTrailingZeros_0f7a4_0_ok rfl) (z_byk bcJ6_numberOfTrailingZeros_0f7a4_0 0 37 _ bcJ6_numberOfTrailingZeros_0f7a4_0_ok rfl) rfl
theorem dJ6_numberOfTrailingZeros_0f7a4_38 : decode cJ6_numberOfTrailingZeros_0f7a4 38 = .ok (.if_icmp .le 11, 3) := zo_164 (z_byk bcJ6_numberOfTrailingZeros_0f7a4_0 0 38 _ bcJ6_numberOfTrailingZeros_0f7a4_0_ok rfl) (z_byk bcJ6_numberOfTrailingZeros_0f7a4_0 0 39 _ bcJ6_numberOfTrailingZeros_0f7a4_0_ok rfl) (z_byk bcJ6_numberOfTrailingZeros_0f7a4_0 0 40 _ bcJ6_numberOfTrailingZeros_0f7a4_0_ok rfl) rfl
theorem dJ6_numberOfTrailingZeros_0f7a4_4 : decode cJ6_numberOfTrailingZeros_0f7a4 4 = .ok (.iconst 1, 1) := zo_4 (z_byk bcJ6_numberOfTrailingZeros_0f7a4_0 0 4 _ bcJ6_numberOfTrailingZeros_0f7a4_0_ok rfl)
theorem dJ6_numberOfTrailingZeros_0f7a4_41 : decode cJ6_numberOfTrailingZeros_0f7a4 41 = .ok (.iinc 1 8, 3) := zo_132 (z_byk bcJ6_numberOfTrailingZeros_0f7a4_0 0 41 _ bcJ6_numberOfTrailingZeros_0f7a4_0_ok rfl) (z_byk bcJ6_numberOfTrailingZeros_0f7a4_0 0 42 _ bcJ6_numberOfTrailingZeros_0f7a4_0_ok rfl) (z_byk bcJ6_numberOfTrailingZeros_0f7a4_0 0 43 _ bcJ6_numberOfTrailingZeros_0f7a4_0_ok rfl) rfl
theorem dJ6_numberOfTrailingZeros_0f7a4_44 : decode cJ6_numberOfTrailingZeros_0f7a4 44 = .ok (.iload_n 0, 1) := zo_26 (z_byk bcJ6_numberOfTrailingZeros_0f7a4_0 0 44 _ bcJ6_numberOfTrailingZeros_0f7a4_0_ok rfl)
theorem dJ6_numberOfTrailingZeros_0f7a4_45 : decode cJ6_numberOfTrailingZeros_0f7a4 45 = .ok (.bipush 8, 2) := zo_16 (z_byk bcJ6_numberOfTrailingZeros_0f7a4_0 0 45 _ bcJ6_numberOfTrailingZeros_0f7a4_0_ok rfl) (z_byk bcJ6_numberOfTrailingZeros_0f7a4_0 0 46 _ bcJ6_numberOfTrailingZeros_0f7a4_0_ok rfl) rfl
theorem dJ6_numberOfTrailingZeros_0f7a4_47 : decode cJ6_numberOfTrailingZeros_0f7a4 47 = .ok (.iushr, 1) := zo_124 (z_byk bcJ6_numberOfTrailingZeros_0f7a4_0 0 47 _ bcJ6_numberOfTrailingZeros_0f7a4_0_ok rfl)
theorem dJ6_numberOfTrailingZeros_0f7a4_48 : decode cJ6_numberOfTrailingZeros_0f7a4 48 = .ok (.istore_n 0, 1) := zo_59 (z_byk bcJ6_numberOfTrailingZeros_0f7a4_0 0 48 _ bcJ6_numberOfTrailingZeros_0f7a4_0_ok rfl)
theorem dJ6_numberOfTrailingZeros_0f7a4_49 : decode cJ6_numberOfTrailingZeros_0f7a4 49 = .ok (.iload_n 0, 1) := zo_26 (z_byk bcJ6_numberOfTrailingZeros_0f7a4_0 0 49 _ bcJ6_numberOfTrailingZeros_0f7a4_0_ok rfl)
theorem dJ6_numberOfTrailingZeros_0f7a4_5 : decode cJ6_numberOfTrailingZeros_0f7a4 5 = .ok (.isub, 1) := zo_100 (z_byk bcJ6_numberOfTrailingZeros_0f7a4_0 0 5 _ bcJ6_numberOfTrailingZeros_0f7a4_0_ok rfl)
theorem dJ6_numberOfTrailingZeros_0f7a4_50 : decode cJ6_numberOfTrailingZeros_0f7a4 50 = .ok (.bipush 16, 2) := zo_16 (z_byk bcJ6_numberOfTrailingZeros_0f7a4_0 0 50 _ bcJ6_numberOfTrailingZeros_0f7a4_0_ok rfl) (z_byk bcJ6_numberOfTrailingZeros_0f7a4_0 0 51 _ bcJ6_numberOfTrailingZeros_0f7a4_0_ok rfl) rfl
theorem dJ6_numberOfTrailingZeros_0f7a4_52 : decode cJ6_numberOfTrailingZeros_0f7a4 52 = .ok (.if_icmp .le 10, 3) := zo_164 (z_byk bcJ6_numberOfTrailingZeros_0f7a4_0 0 52 _ bcJ6_numberOfTrailingZeros_0f7a4_0_ok rfl) (z_byk bcJ6_numberOfTrailingZeros_0f7a4_0 0 53 _ bcJ6_numberOfTrailingZeros_0f7a4_0_ok rfl) (z_byk bcJ6_numberOfTrailingZeros_0f7a4_0 0 54 _ bcJ6_numberOfTrailingZeros_0f7a4_0_ok rfl) rfl
theorem dJ6_numberOfTrailingZeros_0f7a4_55 : decode cJ6_numberOfTrailingZeros_0f7a4 55 = .ok (.iinc 1 4, 3) := zo_132 (z_byk bcJ6_numberOfTrailingZeros_0f7a4_0 0 55 _ bcJ6_numberOfTrailingZeros_0f7a4_0_ok rfl) (z_byk bcJ6_numberOfTrailingZeros_0f7a4_0 0 56 _ bcJ6_numberOfTrailingZeros_0f7a4_0_ok rfl) (z_byk bcJ6_numberOfTrailingZeros_0f7a4_0 0 57 _ bcJ6_numberOfTrailingZeros_0f7a4_0_ok rfl) rfl
theorem dJ6_numberOfTrailingZeros_0f7a4_58 : decode cJ6_numberOfTrailingZeros_0f7a4 58 = .ok (.iload_n 0, 1) := zo_26 (z_byk bcJ6_numberOfTrailingZeros_0f7a4_0 0 58 _ bcJ6_numberOfTrailingZeros_0f7a4_0_ok rfl)
theorem dJ6_numberOfTrailingZeros_0f7a4_59 : decode cJ6_numberOfTrailingZeros_0f7a4 59 = .ok (.iconst 4, 1) := zo_7 (z_byk bcJ6_numberOfTrailingZeros_0f7a4_0 0 59 _ bcJ6_numberOfTrailingZeros_0f7a4_0_ok rfl)
theorem dJ6_numberOfTrailingZeros_0f7a4_6 : decode cJ6_numberOfTrailingZeros_0f7a4 6 = .ok (.iand, 1) := zo_126 (z_byk bcJ6_numberOfTrailingZeros_0f7a4_0 0 6 _ bcJ6_numberOfTrailingZeros_0f7a4_0_ok rfl)
theorem dJ6_numberOfTrailingZeros_0f7a4_60 : decode cJ6_numberOfTrailingZeros_0f7a4 60 = .ok (.iushr, 1) := zo_124 (z_byk bcJ6_numberOfTrailingZeros_0f7a4_60 60 0 _ bcJ6_numberOfTrailingZeros_0f7a4_60_ok rfl)
theorem dJ6_numberOfTrailingZeros_0f7a4_61 : decode cJ6_numberOfTrailingZeros_0f7a4 61 = .ok (.istore_n 0, 1) := zo_59 (z_byk bcJ6_numberOfTrailingZeros_0f7a4_60 60 1 _ bcJ6_numberOfTrailingZeros_0f7a4_60_ok rfl)
theorem dJ6_numberOfTrailingZeros_0f7a4_62 : decode cJ6_numberOfTrailingZeros_0f7a4 62 = .ok (.iload_n 0, 1) := zo_26 (z_byk bcJ6_numberOfTrailingZeros_0f7a4_60 60 2 _ bcJ6_numberOfTrailingZeros_0f7a4_60_ok rfl)
theorem dJ6_numberOfTrailingZeros_0f7a4_63 : decode cJ6_numberOfTrailingZeros_0f7a4 63 = .ok (.iconst 4, 1) := zo_7 (z_byk bcJ6_numberOfTrailingZeros_0f7a4_60 60 3 _ bcJ6_numberOfTrailingZeros_0f7a4_60_ok rfl)
theorem dJ6_numberOfTrailingZeros_0f7a4_64 : decode cJ6_numberOfTrailingZeros_0f7a4 64 = .ok (.if_icmp .le 10, 3) := zo_164 (z_byk bcJ6_numberOfTrailingZeros_0f7a4_60 60 4 _ bcJ6_numberOfTrailingZeros_0f7a4_60_ok rfl) (z_byk bcJ6_numberOfTrailingZeros_0f7a4_60 60 5 _ bcJ6_numberOfTrailingZeros_0f7a4_60_ok rfl) (z_byk bcJ6_numberOfTrailingZeros_0f7a4_60 60 6 _ bcJ6_numberOfTrailingZeros_0f7a4_60_ok rfl) rfl
theorem dJ6_numberOfTrailingZeros_0f7a4_67 : decode cJ6_numberOfTrailingZeros_0f7a4 67 = .ok (.iinc 1 2, 3) := zo_132 (z_byk bcJ6_numberOfTrailingZeros_0f7a4_60 60 7 _ bcJ6_numberOfTrailingZeros_0f7a4_60_ok rfl) (z_byk bcJ6_numberOfTrailingZeros_0f7a4_60 60 8 _ bcJ6_numberOfTrailingZeros_0f7a4_60_ok rfl) (z_byk bcJ6_numberOfTrailingZeros_0f7a4_60 60 9 _ bcJ6_numberOfTrailingZeros_0f7a4_60_ok rfl) rfl
theorem dJ6_numberOfTrailingZeros_0f7a4_7 : decode cJ6_numberOfTrailingZeros_0f7a4 7 = .ok (.istore_n 0, 1) := zo_59 (z_byk bcJ6_numberOfTrailingZeros_0f7a4_0 0 7 _ bcJ6_numberOfTrailingZeros_0f7a4_0_ok rfl)
theorem dJ6_numberOfTrailingZeros_0f7a4_70 : decode cJ6_numberOfTrailingZeros_0f7a4 70 = .ok (.iload_n 0, 1) := zo_26 (z_byk bcJ6_numberOfTrailingZeros_0f7a4_60 60 10 _ bcJ6_numberOfTrailingZeros_0f7a4_60_ok rfl)
theorem dJ6_numberOfTrailingZeros_0f7a4_71 : decode cJ6_numberOfTrailingZeros_0f7a4 71 = .ok (.iconst 2, 1) := zo_5 (z_byk bcJ6_numberOfTrailingZeros_0f7a4_60 60 11 _ bcJ6_numberOfTrailingZeros_0f7a4_60_ok rfl)
theorem dJ6_numberOfTrailingZeros_0f7a4_72 : decode cJ6_numberOfTrailingZeros_0f7a4 72 = .ok (.iushr, 1) := zo_124 (z_byk bcJ6_numberOfTrailingZeros_0f7a4_60 60 12 _ bcJ6_numberOfTrailingZeros_0f7a4_60_ok rfl)
theorem dJ6_numberOfTrailingZeros_0f7a4_73 : decode cJ6_numberOfTrailingZeros_0f7a4 73 = .ok (.istore_n 0, 1) := zo_59 (z_byk bcJ6_numberOfTrailingZeros_0f7a4_60 60 13 _ bcJ6_numberOfTrailingZeros_0f7a4_60_ok rfl)
theorem dJ6_numberOfTrailingZeros_0f7a4_74 : decode cJ6_numberOfTrailingZeros_0f7a4 74 = .ok (.iload_n 1, 1) := zo_27 (z_byk bcJ6_numberOfTrailingZeros_0f7a4_60 60 14 _ bcJ6_numberOfTrailingZeros_0f7a4_60_ok rfl)
theorem dJ6_numberOfTrailingZeros_0f7a4_75 : decode cJ6_numberOfTrailingZeros_0f7a4 75 = .ok (.iload_n 0, 1) := zo_26 (z_byk bcJ6_numberOfTrailingZeros_0f7a4_60 60 15 _ bcJ6_numberOfTrailingZeros_0f7a4_60_ok rfl)
theorem dJ6_numberOfTrailingZeros_0f7a4_76 : decode cJ6_numberOfTrailingZeros_0f7a4 76 = .ok (.iconst 1, 1) := zo_4 (z_byk bcJ6_numberOfTrailingZeros_0f7a4_60 60 16 _ bcJ6_numberOfTrailingZeros_0f7a4_60_ok rfl)
theorem dJ6_numberOfTrailingZeros_0f7a4_77 : decode cJ6_numberOfTrailingZeros_0f7a4 77 = .ok (.iushr, 1) := zo_124 (z_byk bcJ6_numberOfTrailingZeros_0f7a4_60 60 17 _ bcJ6_numberOfTrailingZeros_0f7a4_60_ok rfl)
theorem dJ6_numberOfTrailingZeros_0f7a4_78 : decode cJ6_numberOfTrailingZeros_0f7a4 78 = .ok (.iadd, 1) := zo_96 (z_byk bcJ6_numberOfTrailingZeros_0f7a4_60 60 18 _ bcJ6_numberOfTrailingZeros_0f7a4_60_ok rfl)
theorem dJ6_numberOfTrailingZeros_0f7a4_79 : decode cJ6_numberOfTrailingZeros_0f7a4 79 = .ok (.ireturn, 1) := zo_172 (z_byk bcJ6_numberOfTrailingZeros_0f7a4_60 60 19 _ bcJ6_numberOfTrailingZeros_0f7a4_60_ok rfl)
theorem dJ6_numberOfTrailingZeros_0f7a4_8 : decode cJ6_numberOfTrailingZeros_0f7a4 8 = .ok (.iload_n 0, 1) := zo_26 (z_byk bcJ6_numberOfTrailingZeros_0f7a4_0 0 8 _ bcJ6_numberOfTrailingZeros_0f7a4_0_ok rfl)
theorem dJ6_numberOfTrailingZeros_0f7a4_9 : decode cJ6_numberOfTrailingZeros_0f7a4 9 = .ok (.ifCond .gt 8, 3) := zo_157 (z_byk bcJ6_numberOfTrailingZeros_0f7a4_0 0 9 _ bcJ6_numberOfTrailingZeros_0f7a4_0_ok rfl) (z_byk bcJ6_numberOfTrailingZeros_0f7a4_0 0 10 _ bcJ6_numberOfTrailingZeros_0f7a4_0_ok rfl) (z_byk bcJ6_numberOfTrailingZeros_0f7a4_0 0 11 _ bcJ6_numberOfTrailingZeros_0f7a4_0_ok rfl) rfl
def bcJ7_fill_53178_0 : List Nat := [3, 61, 42, 190, 62, 28, 29, 162, 0, 13, 42, 28, 27, 79, 132, 2, 1, 167, 255, 244, 177]
theorem bcJ7_fill_53178_0_ok : z_bys cJ7_fill_53178 0 bcJ7_fill_53178_0 = true := by decide +kernel
theorem dJ7_fill_53178_0 : decode cJ7_fill_53178 0 = .ok (.iconst 0, 1) := zo_3 (z_byk bcJ7_fill_53178_0 0 0 _ bcJ7_fill_53178_0_ok rfl)
theorem dJ7_fill_53178_1 : decode cJ7_fill_53178 1 = .ok (.istore_n 2, 1) := zo_61 (z_byk bcJ7_fill_53178_0 0 1 _ bcJ7_fill_53178_0_ok rfl)
theorem dJ7_fill_53178_10 : decode cJ7_fill_53178 10 = .ok (.aload_n 0, 1) := zo_42 (z_byk bcJ7_fill_53178_0 0 10 _ bcJ7_fill_53178_0_ok rfl)
theorem dJ7_fill_53178_11 : decode cJ7_fill_53178 11 = .ok (.iload_n 2, 1) := zo_28 (z_byk bcJ7_fill_53178_0 0 11 _ bcJ7_fill_53178_0_ok rfl)
theorem dJ7_fill_53178_12 : decode cJ7_fill_53178 12 = .ok (.iload_n 1, 1) := zo_27 (z_byk bcJ7_fill_53178_0 0 12 _ bcJ7_fill_53178_0_ok rfl)
theorem dJ7_fill_53178_13 : decode cJ7_fill_53178 13 = .ok (.iastore, 1) := zo_79 (z_byk bcJ7_fill_53178_0 0 13 _ bcJ7_fill_53178_0_ok rfl)
theorem dJ7_fill_53178_14 : decode cJ7_fill_53178 14 = .ok (.iinc 2 1, 3) := zo_132 (z_byk bcJ7_fill_53178_0 0 14 _ bcJ7_fill_53178_0_ok rfl) (z_byk bcJ7_fill_53178_0 0 15 _ bcJ7_fill_53178_0_ok rfl) (z_byk bcJ7_fill_53178_0 0 16 _ bcJ7_fill_53178_0_ok rfl) rfl
theorem dJ7_fill_53178_17 : decode cJ7_fill_53178 17 = .ok (.goto (-12), 3) := zo_167 (z_byk bcJ7_fill_53178_0 0 17 _ bcJ7_fill_53178_0_ok rfl) (z_byk bcJ7_fill_53178_0 0 18 _ bcJ7_fill_53178_0_ok rfl) (z_byk bcJ7_fill_53178_0 0 19 _ bcJ7_fill_53178_0_ok rfl) rfl
theorem dJ7_fill_53178_2 : decode cJ7_fill_53178 2 = .ok (.aload_n 0, 1) := zo_42 (z_byk bcJ7_fill_53178_0 0 2 _ bcJ7_fill_53178_0_ok rfl)
theorem dJ7_fill_53178_20 : decode cJ7_fill_53178 20 = .ok (.return_, 1) := zo_177 (z_byk bcJ7_fill_53178_0 0 20 _ bcJ7_fill_53178_0_ok rfl)
theorem dJ7_fill_53178_3 : decode cJ7_fill_53178 3 = .ok (.arraylength, 1) := zo_190 (z_byk bcJ7_fill_53178_0 0 3 _ bcJ7_fill_53178_0_ok rfl)
theorem dJ7_fill_53178_4 : decode cJ7_fill_53178 4 = .ok (.istore_n 3, 1) := zo_62 (z_byk bcJ7_fill_53178_0 0 4 _ bcJ7_fill_53178_0_ok rfl)
theorem dJ7_fill_53178_5 : decode cJ7_fill_53178 5 = .ok (.iload_n 2, 1) := zo_28 (z_byk bcJ7_fill_53178_0 0 5 _ bcJ7_fill_53178_0_ok rfl)
theorem dJ7_fill_53178_6 : decode cJ7_fill_53178 6 = .ok (.iload_n 3, 1) := zo_29 (z_byk bcJ7_fill_53178_0 0 6 _ bcJ7_fill_53178_0_ok rfl)
theorem dJ7_fill_53178_7 : decode cJ7_fill_53178 7 = .ok (.if_icmp .ge 13, 3) := zo_162 (z_byk bcJ7_fill_53178_0 0 7 _ bcJ7_fill_53178_0_ok rfl) (z_byk bcJ7_fill_53178_0 0 8 _ bcJ7_fill_53178_0_ok rfl) (z_byk bcJ7_fill_53178_0 0 9 _ bcJ7_fill_53178_0_ok rfl) rfl
def bcJ7_fill_d0a16_0 : List Nat := [3, 62, 42, 190, 54, 4, 29, 21, 4, 162, 0, 13, 42, 29, 31, 80, 132, 3, 1, 167, 255, 243, 177]
theorem bcJ7_fill_d0a16_0_ok : z_bys cJ7_fill_d0a16 0 bcJ7_fill_d0a16_0 = true := by decide +kernel
theorem dJ7_fill_d0a16_0 : decode cJ7_fill_d0a16 0 = .ok (.iconst 0, 1) := zo_3 (z_byk bcJ7_fill_d0a16_0 0 0 _ bcJ7_fill_d0a16_0_ok rfl)
theorem dJ7_fill_d0a16_1 : decode cJ7_fill_d0a16 1 = .ok (.istore_n 3, 1) := zo_62 (z_byk bcJ7_fill_d0a16_0 0 1 _ bcJ7_fill_d0a16_0_ok rfl)
theorem dJ7_fill_d0a16_12 : decode cJ7_fill_d0a16 12 = .ok (.aload_n 0, 1) := zo_42 (z_byk bcJ7_fill_d0a16_0 0 12 _ bcJ7_fill_d0a16_0_ok rfl)
theorem dJ7_fill_d0a16_13 : decode cJ7_fill_d0a16 13 = .ok (.iload_n 3, 1) := zo_29 (z_byk bcJ7_fill_d0a16_0 0 13 _ bcJ7_fill_d0a16_0_ok rfl)
theorem dJ7_fill_d0a16_14 : decode cJ7_fill_d0a16 14 = .ok (.lload_n 1, 1) := zo_31 (z_byk bcJ7_fill_d0a16_0 0 14 _ bcJ7_fill_d0a16_0_ok rfl)
theorem dJ7_fill_d0a16_15 : decode cJ7_fill_d0a16 15 = .ok (.lastore, 1) := zo_80 (z_byk bcJ7_fill_d0a16_0 0 15 _ bcJ7_fill_d0a16_0_ok rfl)
theorem dJ7_fill_d0a16_16 : decode cJ7_fill_d0a16 16 = .ok (.iinc 3 1, 3) := zo_132 (z_byk bcJ7_fill_d0a16_0 0 16 _ bcJ7_fill_d0a16_0_ok rfl) (z_byk bcJ7_fill_d0a16_0 0 17 _ bcJ7_fill_d0a16_0_ok rfl) (z_byk bcJ7_fill_d0a16_0 0 18 _ bcJ7_fill_d0a16_0_ok rfl) rfl
theorem dJ7_fill_d0a16_19 : decode cJ7_fill_d0a16 19 = .ok (.goto (-13), 3) := zo_167 (z_byk bcJ7_fill_d0a16_0 0 19 _ bcJ7_fill_d0a16_0_ok rfl) (z_byk bcJ7_fill_d0a16_0 0 20 _ bcJ7_fill_d0a16_0_ok rfl) (z_byk bcJ7_fill_d0a16_0 0 21 _ bcJ7_fill_d0a16_0_ok rfl) rfl
theorem dJ7_fill_d0a16_2 : decode cJ7_fill_d0a16 2 = .ok (.aload_n 0, 1) := zo_42 (z_byk bcJ7_fill_d0a16_0 0 2 _ bcJ7_fill_d0a16_0_ok rfl)
theorem dJ7_fill_d0a16_22 : decode cJ7_fill_d0a16 22 = .ok (.return_, 1) := zo_177 (z_byk bcJ7_fill_d0a16_0 0 22 _ bcJ7_fill_d0a16_0_ok rfl)
theorem dJ7_fill_d0a16_3 : decode cJ7_fill_d0a16 3 = .ok (.arraylength, 1) := zo_190 (z_byk bcJ7_fill_d0a16_0 0 3 _ bcJ7_fill_d0a16_0_ok rfl)
theorem dJ7_fill_d0a16_4 : decode cJ7_fill_d0a16 4 = .ok (.istore 4, 2) := zo_54 (z_byk bcJ7_fill_d0a16_0 0 4 _ bcJ7_fill_d0a16_0_ok rfl) (z_byk bcJ7_fill_d0a16_0 0 5 _ bcJ7_fill_d0a16_0_ok rfl)
theorem dJ7_fill_d0a16_6 : decode cJ7_fill_d0a16 6 = .ok (.iload_n 3, 1) := zo_29 (z_byk bcJ7_fill_d0a16_0 0 6 _ bcJ7_fill_d0a16_0_ok rfl)
theorem dJ7_fill_d0a16_7 : decode cJ7_fill_d0a16 7 = .ok (.iload 4, 2) := zo_21 (z_byk bcJ7_fill_d0a16_0 0 7 _ bcJ7_fill_d0a16_0_ok rfl) (z_byk bcJ7_fill_d0a16_0 0 8 _ bcJ7_fill_d0a16_0_ok rfl)
theorem dJ7_fill_d0a16_9 : decode cJ7_fill_d0a16 9 = .ok (.if_icmp .ge 13, 3) := zo_162 (z_byk bcJ7_fill_d0a16_0 0 9 _ bcJ7_fill_d0a16_0_ok rfl) (z_byk bcJ7_fill_d0a16_0 0 10 _ bcJ7_fill_d0a16_0_ok rfl) (z_byk bcJ7_fill_d0a16_0 0 11 _ bcJ7_fill_d0a16_0_ok rfl) rfl
def bcX3_settle_0 : List Nat := [42, 43, 181, 0, 12, 42, 3, 181, 0, 18, 42, 3, 181, 0, 22, 42, 3, 181, 0, 25, 42, 3, 181, 0, 28, 177]
theorem bcX3_settle_0_ok : z_bys cX3_settle 0 bcX3_settle_0 = true := by decide +kernel
theorem dX3_settle_0 : decode cX3_settle 0 = .ok (.aload_n 0, 1) := zo_42 (z_byk bcX3_settle_0 0 0 _ bcX3_settle_0_ok rfl)
theorem dX3_settle_1 : decode cX3_settle 1 = .ok (.aload_n 1, 1) := zo_43 (z_byk bcX3_settle_0 0 1 _ bcX3_settle_0_ok rfl)
theorem dX3_settle_10 : decode cX3_settle 10 = .ok (.aload_n 0, 1) := zo_42 (z_byk bcX3_settle_0 0 10 _ bcX3_settle_0_ok rfl)
theorem dX3_settle_11 : decode cX3_settle 11 = .ok (.iconst 0, 1) := zo_3 (z_byk bcX3_settle_0 0 11 _ bcX3_settle_0_ok rfl)
theorem dX3_settle_12 : decode cX3_settle 12 = .ok (.putfield 22, 3) := zo_181 (z_byk bcX3_settle_0 0 12 _ bcX3_settle_0_ok rfl) (z_byk bcX3_settle_0 0 13 _ bcX3_settle_0_ok rfl) (z_byk bcX3_settle_0 0 14 _ bcX3_settle_0_ok rfl) rfl
theorem dX3_settle_15 : decode cX3_settle 15 = .ok (.aload_n 0, 1) := zo_42 (z_byk bcX3_settle_0 0 15 _ bcX3_settle_0_ok rfl)
theorem dX3_settle_16 : decode cX3_settle 16 = .ok (.iconst 0, 1) := zo_3 (z_byk bcX3_settle_0 0 16 _ bcX3_settle_0_ok rfl)
theorem dX3_settle_17 : decode cX3_settle 17 = .ok (.putfield 25, 3) := zo_181 (z_byk bcX3_settle_0 0 17 _ bcX3_settle_0_ok rfl) (z_byk bcX3_settle_0 0 18 _ bcX3_settle_0_ok rfl) (z_byk bcX3_settle_0 0 19 _ bcX3_settle_0_ok rfl) rfl
theorem dX3_settle_2 : decode cX3_settle 2 = .ok (.putfield 12, 3) := zo_181 (z_byk bcX3_settle_0 0 2 _ bcX3_settle_0_ok rfl) (z_byk bcX3_settle_0 0 3 _ bcX3_settle_0_ok rfl) (z_byk bcX3_settle_0 0 4 _ bcX3_settle_0_ok rfl) rfl
theorem dX3_settle_20 : decode cX3_settle 20 = .ok (.aload_n 0, 1) := zo_42 (z_byk bcX3_settle_0 0 20 _ bcX3_settle_0_ok rfl)
theorem dX3_settle_21 : decode cX3_settle 21 = .ok (.iconst 0, 1) := zo_3 (z_byk bcX3_settle_0 0 21 _ bcX3_settle_0_ok rfl)
theorem dX3_settle_22 : decode cX3_settle 22 = .ok (.putfield 28, 3) := zo_181 (z_byk bcX3_settle_0 0 22 _ bcX3_settle_0_ok rfl) (z_byk bcX3_settle_0 0 23 _ bcX3_settle_0_ok rfl) (z_byk bcX3_settle_0 0 24 _ bcX3_settle_0_ok rfl) rfl
theorem dX3_settle_25 : decode cX3_settle 25 = .ok (.return_, 1) := zo_177 (z_byk bcX3_settle_0 0 25 _ bcX3_settle_0_ok rfl)
theorem dX3_settle_5 : decode cX3_settle 5 = .ok (.aload_n 0, 1) := zo_42 (z_byk bcX3_settle_0 0 5 _ bcX3_settle_0_ok rfl)
theorem dX3_settle_6 : decode cX3_settle 6 = .ok (.iconst 0, 1) := zo_3 (z_byk bcX3_settle_0 0 6 _ bcX3_settle_0_ok rfl)
theorem dX3_settle_7 : decode cX3_settle 7 = .ok (.putfield 18, 3) := zo_181 (z_byk bcX3_settle_0 0 7 _ bcX3_settle_0_ok rfl) (z_byk bcX3_settle_0 0 8 _ bcX3_settle_0_ok rfl) (z_byk bcX3_settle_0 0 9 _ bcX3_settle_0_ok rfl) rfl
def bcX3_take_0 : List Nat := [42, 43, 180, 0, 12, 181, 0, 12, 42, 43, 180, 0, 18, 181, 0, 18, 42, 43, 180, 0, 22, 181, 0, 22, 42, 43, 180, 0, 25, 181, 0, 25, 42, 43, 180, 0, 28, 181, 0, 28, 177]
theorem bcX3_take_0_ok : z_bys cX3_take 0 bcX3_take_0 = true := by decide +kernel
theorem dX3_take_0 : decode cX3_take 0 = .ok (.aload_n 0, 1) := zo_42 (z_byk bcX3_take_0 0 0 _ bcX3_take_0_ok rfl)
theorem dX3_take_1 : decode cX3_take 1 = .ok (.aload_n 1, 1) := zo_43 (z_byk bcX3_take_0 0 1 _ bcX3_take_0_ok rfl)
theorem dX3_take_10 : decode cX3_take 10 = .ok (.getfield 18, 3) := zo_180 (z_byk bcX3_take_0 0 10 _ bcX3_take_0_ok rfl) (z_byk bcX3_take_0 0 11 _ bcX3_take_0_ok rfl) (z_byk bcX3_take_0 0 12 _ bcX3_take_0_ok rfl) rfl
theorem dX3_take_13 : decode cX3_take 13 = .ok (.putfield 18, 3) := zo_181 (z_byk bcX3_take_0 0 13 _ bcX3_take_0_ok rfl) (z_byk bcX3_take_0 0 14 _ bcX3_take_0_ok rfl) (z_byk bcX3_take_0 0 15 _ bcX3_take_0_ok rfl) rfl
theorem dX3_take_16 : decode cX3_take 16 = .ok (.aload_n 0, 1) := zo_42 (z_byk bcX3_take_0 0 16 _ bcX3_take_0_ok rfl)
theorem dX3_take_17 : decode cX3_take 17 = .ok (.aload_n 1, 1) := zo_43 (z_byk bcX3_take_0 0 17 _ bcX3_take_0_ok rfl)
theorem dX3_take_18 : decode cX3_take 18 = .ok (.getfield 22, 3) := zo_180 (z_byk bcX3_take_0 0 18 _ bcX3_take_0_ok rfl) (z_byk bcX3_take_0 0 19 _ bcX3_take_0_ok rfl) (z_byk bcX3_take_0 0 20 _ bcX3_take_0_ok rfl) rfl
theorem dX3_take_2 : decode cX3_take 2 = .ok (.getfield 12, 3) := zo_180 (z_byk bcX3_take_0 0 2 _ bcX3_take_0_ok rfl) (z_byk bcX3_take_0 0 3 _ bcX3_take_0_ok rfl) (z_byk bcX3_take_0 0 4 _ bcX3_take_0_ok rfl) rfl
theorem dX3_take_21 : decode cX3_take 21 = .ok (.putfield 22, 3) := zo_181 (z_byk bcX3_take_0 0 21 _ bcX3_take_0_ok rfl) (z_byk bcX3_take_0 0 22 _ bcX3_take_0_ok rfl) (z_byk bcX3_take_0 0 23 _ bcX3_take_0_ok rfl) rfl
theorem dX3_take_24 : decode cX3_take 24 = .ok (.aload_n 0, 1) := zo_42 (z_byk bcX3_take_0 0 24 _ bcX3_take_0_ok rfl)
theorem dX3_take_25 : decode cX3_take 25 = .ok (.aload_n 1, 1) := zo_43 (z_byk bcX3_take_0 0 25 _ bcX3_take_0_ok rfl)
theorem dX3_take_26 : decode cX3_take 26 = .ok (.getfield 25, 3) := zo_180 (z_byk bcX3_take_0 0 26 _ bcX3_take_0_ok rfl) (z_byk bcX3_take_0 0 27 _ bcX3_take_0_ok rfl) (z_byk bcX3_take_0 0 28 _ bcX3_take_0_ok rfl) rfl
theorem dX3_take_29 : decode cX3_take 29 = .ok (.putfield 25, 3) := zo_181 (z_byk bcX3_take_0 0 29 _ bcX3_take_0_ok rfl) (z_byk bcX3_take_0 0 30 _ bcX3_take_0_ok rfl) (z_byk bcX3_take_0 0 31 _ bcX3_take_0_ok rfl) rfl
theorem dX3_take_32 : decode cX3_take 32 = .ok (.aload_n 0, 1) := zo_42 (z_byk bcX3_take_0 0 32 _ bcX3_take_0_ok rfl)
theorem dX3_take_33 : decode cX3_take 33 = .ok (.aload_n 1, 1) := zo_43 (z_byk bcX3_take_0 0 33 _ bcX3_take_0_ok rfl)
theorem dX3_take_34 : decode cX3_take 34 = .ok (.getfield 28, 3) := zo_180 (z_byk bcX3_take_0 0 34 _ bcX3_take_0_ok rfl) (z_byk bcX3_take_0 0 35 _ bcX3_take_0_ok rfl) (z_byk bcX3_take_0 0 36 _ bcX3_take_0_ok rfl) rfl
theorem dX3_take_37 : decode cX3_take 37 = .ok (.putfield 28, 3) := zo_181 (z_byk bcX3_take_0 0 37 _ bcX3_take_0_ok rfl) (z_byk bcX3_take_0 0 38 _ bcX3_take_0_ok rfl) (z_byk bcX3_take_0 0 39 _ bcX3_take_0_ok rfl) rfl
theorem dX3_take_40 : decode cX3_take 40 = .ok (.return_, 1) := zo_177 (z_byk bcX3_take_0 0 40 _ bcX3_take_0_ok rfl)
theorem dX3_take_5 : decode cX3_take 5 = .ok (.putfield 12, 3) := zo_181 (z_byk bcX3_take_0 0 5 _ bcX3_take_0_ok rfl) (z_byk bcX3_take_0 0 6 _ bcX3_take_0_ok rfl) (z_byk bcX3_take_0 0 7 _ bcX3_take_0_ok rfl) rfl
theorem dX3_take_8 : decode cX3_take 8 = .ok (.aload_n 0, 1) := zo_42 (z_byk bcX3_take_0 0 8 _ bcX3_take_0_ok rfl)
theorem dX3_take_9 : decode cX3_take 9 = .ok (.aload_n 1, 1) := zo_43 (z_byk bcX3_take_0 0 9 _ bcX3_take_0_ok rfl)
def bcX3_thought_0 : List Nat := [42, 182, 0, 34, 27, 184, 0, 38, 154, 0, 30, 42, 180, 0, 12, 27, 29, 42, 180, 0, 28, 182, 0, 42, 28, 184, 0, 38, 153, 0, 8, 16, 100, 167, 0, 4, 3, 172, 42, 180, 0, 12, 180, 0, 46, 27, 46, 54, 4, 42, 180, 0, 12, 27, 29, 3, 182, 0, 42, 28]
theorem bcX3_thought_0_ok : z_bys cX3_thought 0 bcX3_thought_0 = true := by decide +kernel
def bcX3_thought_60 : List Nat := [184, 0, 38, 153, 0, 11, 16, 100, 21, 4, 100, 167, 0, 4, 3, 54, 5, 42, 180, 0, 12, 27, 29, 4, 27, 120, 182, 0, 42, 28, 184, 0, 38, 153, 0, 11, 21, 5, 21, 4, 96, 167, 0, 5, 21, 5, 172]
theorem bcX3_thought_60_ok : z_bys cX3_thought 60 bcX3_thought_60 = true := by decide +kernel
theorem dX3_thought_0 : decode cX3_thought 0 = .ok (.aload_n 0, 1) := zo_42 (z_byk bcX3_thought_0 0 0 _ bcX3_thought_0_ok rfl)
theorem dX3_thought_1 : decode cX3_thought 1 = .ok (.invokevirtual 34, 3) := zo_182 (z_byk bcX3_thought_0 0 1 _ bcX3_thought_0_ok rfl) (z_byk bcX3_thought_0 0 2 _ bcX3_thought_0_ok rfl) (z_byk bcX3_thought_0 0 3 _ bcX3_thought_0_ok rfl) rfl
theorem dX3_thought_100 : decode cX3_thought 100 = .ok (.iadd, 1) := zo_96 (z_byk bcX3_thought_60 60 40 _ bcX3_thought_60_ok rfl)
theorem dX3_thought_101 : decode cX3_thought 101 = .ok (.goto 5, 3) := zo_167 (z_byk bcX3_thought_60 60 41 _ bcX3_thought_60_ok rfl) (z_byk bcX3_thought_60 60 42 _ bcX3_thought_60_ok rfl) (z_byk bcX3_thought_60 60 43 _ bcX3_thought_60_ok rfl) rfl
theorem dX3_thought_104 : decode cX3_thought 104 = .ok (.iload 5, 2) := zo_21 (z_byk bcX3_thought_60 60 44 _ bcX3_thought_60_ok rfl) (z_byk bcX3_thought_60 60 45 _ bcX3_thought_60_ok rfl)
theorem dX3_thought_106 : decode cX3_thought 106 = .ok (.ireturn, 1) := zo_172 (z_byk bcX3_thought_60 60 46 _ bcX3_thought_60_ok rfl)
theorem dX3_thought_11 : decode cX3_thought 11 = .ok (.aload_n 0, 1) := zo_42 (z_byk bcX3_thought_0 0 11 _ bcX3_thought_0_ok rfl)
theorem dX3_thought_12 : decode cX3_thought 12 = .ok (.getfield 12, 3) := zo_180 (z_byk bcX3_thought_0 0 12 _ bcX3_thought_0_ok rfl) (z_byk bcX3_thought_0 0 13 _ bcX3_thought_0_ok rfl) (z_byk bcX3_thought_0 0 14 _ bcX3_thought_0_ok rfl) rfl
theorem dX3_thought_15 : decode cX3_thought 15 = .ok (.iload_n 1, 1) := zo_27 (z_byk bcX3_thought_0 0 15 _ bcX3_thought_0_ok rfl)
theorem dX3_thought_16 : decode cX3_thought 16 = .ok (.iload_n 3, 1) := zo_29 (z_byk bcX3_thought_0 0 16 _ bcX3_thought_0_ok rfl)
theorem dX3_thought_17 : decode cX3_thought 17 = .ok (.aload_n 0, 1) := zo_42 (z_byk bcX3_thought_0 0 17 _ bcX3_thought_0_ok rfl)
theorem dX3_thought_18 : decode cX3_thought 18 = .ok (.getfield 28, 3) := zo_180 (z_byk bcX3_thought_0 0 18 _ bcX3_thought_0_ok rfl) (z_byk bcX3_thought_0 0 19 _ bcX3_thought_0_ok rfl) (z_byk bcX3_thought_0 0 20 _ bcX3_thought_0_ok rfl) rfl
theorem dX3_thought_21 : decode cX3_thought 21 = .ok (.invokevirtual 42, 3) := zo_182 (z_byk bcX3_thought_0 0 21 _ bcX3_thought_0_ok rfl) (z_byk bcX3_thought_0 0 22 _ bcX3_thought_0_ok rfl) (z_byk bcX3_thought_0 0 23 _ bcX3_thought_0_ok rfl) rfl
theorem dX3_thought_24 : decode cX3_thought 24 = .ok (.iload_n 2, 1) := zo_28 (z_byk bcX3_thought_0 0 24 _ bcX3_thought_0_ok rfl)
theorem dX3_thought_25 : decode cX3_thought 25 = .ok (.invokestatic 38, 3) := zo_184 (z_byk bcX3_thought_0 0 25 _ bcX3_thought_0_ok rfl) (z_byk bcX3_thought_0 0 26 _ bcX3_thought_0_ok rfl) (z_byk bcX3_thought_0 0 27 _ bcX3_thought_0_ok rfl) rfl
theorem dX3_thought_28 : decode cX3_thought 28 = .ok (.ifCond .eq 8, 3) := zo_153 (z_byk bcX3_thought_0 0 28 _ bcX3_thought_0_ok rfl) (z_byk bcX3_thought_0 0 29 _ bcX3_thought_0_ok rfl) (z_byk bcX3_thought_0 0 30 _ bcX3_thought_0_ok rfl) rfl
theorem dX3_thought_31 : decode cX3_thought 31 = .ok (.bipush 100, 2) := zo_16 (z_byk bcX3_thought_0 0 31 _ bcX3_thought_0_ok rfl) (z_byk bcX3_thought_0 0 32 _ bcX3_thought_0_ok rfl) rfl
theorem dX3_thought_33 : decode cX3_thought 33 = .ok (.goto 4, 3) := zo_167 (z_byk bcX3_thought_0 0 33 _ bcX3_thought_0_ok rfl) (z_byk bcX3_thought_0 0 34 _ bcX3_thought_0_ok rfl) (z_byk bcX3_thought_0 0 35 _ bcX3_thought_0_ok rfl) rfl
theorem dX3_thought_36 : decode cX3_thought 36 = .ok (.iconst 0, 1) := zo_3 (z_byk bcX3_thought_0 0 36 _ bcX3_thought_0_ok rfl)
theorem dX3_thought_37 : decode cX3_thought 37 = .ok (.ireturn, 1) := zo_172 (z_byk bcX3_thought_0 0 37 _ bcX3_thought_0_ok rfl)
theorem dX3_thought_38 : decode cX3_thought 38 = .ok (.aload_n 0, 1) := zo_42 (z_byk bcX3_thought_0 0 38 _ bcX3_thought_0_ok rfl)
theorem dX3_thought_39 : decode cX3_thought 39 = .ok (.getfield 12, 3) := zo_180 (z_byk bcX3_thought_0 0 39 _ bcX3_thought_0_ok rfl) (z_byk bcX3_thought_0 0 40 _ bcX3_thought_0_ok rfl) (z_byk bcX3_thought_0 0 41 _ bcX3_thought_0_ok rfl) rfl
theorem dX3_thought_4 : decode cX3_thought 4 = .ok (.iload_n 1, 1) := zo_27 (z_byk bcX3_thought_0 0 4 _ bcX3_thought_0_ok rfl)
theorem dX3_thought_42 : decode cX3_thought 42 = .ok (.getfield 46, 3) := zo_180 (z_byk bcX3_thought_0 0 42 _ bcX3_thought_0_ok rfl) (z_byk bcX3_thought_0 0 43 _ bcX3_thought_0_ok rfl) (z_byk bcX3_thought_0 0 44 _ bcX3_thought_0_ok rfl) rfl
theorem dX3_thought_45 : decode cX3_thought 45 = .ok (.iload_n 1, 1) := zo_27 (z_byk bcX3_thought_0 0 45 _ bcX3_thought_0_ok rfl)
theorem dX3_thought_46 : decode cX3_thought 46 = .ok (.iaload, 1) := zo_46 (z_byk bcX3_thought_0 0 46 _ bcX3_thought_0_ok rfl)
theorem dX3_thought_47 : decode cX3_thought 47 = .ok (.istore 4, 2) := zo_54 (z_byk bcX3_thought_0 0 47 _ bcX3_thought_0_ok rfl) (z_byk bcX3_thought_0 0 48 _ bcX3_thought_0_ok rfl)
theorem dX3_thought_49 : decode cX3_thought 49 = .ok (.aload_n 0, 1) := zo_42 (z_byk bcX3_thought_0 0 49 _ bcX3_thought_0_ok rfl)
theorem dX3_thought_5 : decode cX3_thought 5 = .ok (.invokestatic 38, 3) := zo_184 (z_byk bcX3_thought_0 0 5 _ bcX3_thought_0_ok rfl) (z_byk bcX3_thought_0 0 6 _ bcX3_thought_0_ok rfl) (z_byk bcX3_thought_0 0 7 _ bcX3_thought_0_ok rfl) rfl
theorem dX3_thought_50 : decode cX3_thought 50 = .ok (.getfield 12, 3) := zo_180 (z_byk bcX3_thought_0 0 50 _ bcX3_thought_0_ok rfl) (z_byk bcX3_thought_0 0 51 _ bcX3_thought_0_ok rfl) (z_byk bcX3_thought_0 0 52 _ bcX3_thought_0_ok rfl) rfl
theorem dX3_thought_53 : decode cX3_thought 53 = .ok (.iload_n 1, 1) := zo_27 (z_byk bcX3_thought_0 0 53 _ bcX3_thought_0_ok rfl)
theorem dX3_thought_54 : decode cX3_thought 54 = .ok (.iload_n 3, 1) := zo_29 (z_byk bcX3_thought_0 0 54 _ bcX3_thought_0_ok rfl)
theorem dX3_thought_55 : decode cX3_thought 55 = .ok (.iconst 0, 1) := zo_3 (z_byk bcX3_thought_0 0 55 _ bcX3_thought_0_ok rfl)
theorem dX3_thought_56 : decode cX3_thought 56 = .ok (.invokevirtual 42, 3) := zo_182 (z_byk bcX3_thought_0 0 56 _ bcX3_thought_0_ok rfl) (z_byk bcX3_thought_0 0 57 _ bcX3_thought_0_ok rfl) (z_byk bcX3_thought_0 0 58 _ bcX3_thought_0_ok rfl) rfl
theorem dX3_thought_59 : decode cX3_thought 59 = .ok (.iload_n 2, 1) := zo_28 (z_byk bcX3_thought_0 0 59 _ bcX3_thought_0_ok rfl)
theorem dX3_thought_60 : decode cX3_thought 60 = .ok (.invokestatic 38, 3) := zo_184 (z_byk bcX3_thought_60 60 0 _ bcX3_thought_60_ok rfl) (z_byk bcX3_thought_60 60 1 _ bcX3_thought_60_ok rfl) (z_byk bcX3_thought_60 60 2 _ bcX3_thought_60_ok rfl) rfl
theorem dX3_thought_63 : decode cX3_thought 63 = .ok (.ifCond .eq 11, 3) := zo_153 (z_byk bcX3_thought_60 60 3 _ bcX3_thought_60_ok rfl) (z_byk bcX3_thought_60 60 4 _ bcX3_thought_60_ok rfl) (z_byk bcX3_thought_60 60 5 _ bcX3_thought_60_ok rfl) rfl
theorem dX3_thought_66 : decode cX3_thought 66 = .ok (.bipush 100, 2) := zo_16 (z_byk bcX3_thought_60 60 6 _ bcX3_thought_60_ok rfl) (z_byk bcX3_thought_60 60 7 _ bcX3_thought_60_ok rfl) rfl
theorem dX3_thought_68 : decode cX3_thought 68 = .ok (.iload 4, 2) := zo_21 (z_byk bcX3_thought_60 60 8 _ bcX3_thought_60_ok rfl) (z_byk bcX3_thought_60 60 9 _ bcX3_thought_60_ok rfl)
theorem dX3_thought_70 : decode cX3_thought 70 = .ok (.isub, 1) := zo_100 (z_byk bcX3_thought_60 60 10 _ bcX3_thought_60_ok rfl)
theorem dX3_thought_71 : decode cX3_thought 71 = .ok (.goto 4, 3) := zo_167 (z_byk bcX3_thought_60 60 11 _ bcX3_thought_60_ok rfl) (z_byk bcX3_thought_60 60 12 _ bcX3_thought_60_ok rfl) (z_byk bcX3_thought_60 60 13 _ bcX3_thought_60_ok rfl) rfl
theorem dX3_thought_74 : decode cX3_thought 74 = .ok (.iconst 0, 1) := zo_3 (z_byk bcX3_thought_60 60 14 _ bcX3_thought_60_ok rfl)
theorem dX3_thought_75 : decode cX3_thought 75 = .ok (.istore 5, 2) := zo_54 (z_byk bcX3_thought_60 60 15 _ bcX3_thought_60_ok rfl) (z_byk bcX3_thought_60 60 16 _ bcX3_thought_60_ok rfl)
theorem dX3_thought_77 : decode cX3_thought 77 = .ok (.aload_n 0, 1) := zo_42 (z_byk bcX3_thought_60 60 17 _ bcX3_thought_60_ok rfl)
theorem dX3_thought_78 : decode cX3_thought 78 = .ok (.getfield 12, 3) := zo_180 (z_byk bcX3_thought_60 60 18 _ bcX3_thought_60_ok rfl) (z_byk bcX3_thought_60 60 19 _ bcX3_thought_60_ok rfl) (z_byk bcX3_thought_60 60 20 _ bcX3_thought_60_ok rfl) rfl
theorem dX3_thought_8 : decode cX3_thought 8 = .ok (.ifCond .ne 30, 3) := zo_154 (z_byk bcX3_thought_0 0 8 _ bcX3_thought_0_ok rfl) (z_byk bcX3_thought_0 0 9 _ bcX3_thought_0_ok rfl) (z_byk bcX3_thought_0 0 10 _ bcX3_thought_0_ok rfl) rfl
theorem dX3_thought_81 : decode cX3_thought 81 = .ok (.iload_n 1, 1) := zo_27 (z_byk bcX3_thought_60 60 21 _ bcX3_thought_60_ok rfl)
theorem dX3_thought_82 : decode cX3_thought 82 = .ok (.iload_n 3, 1) := zo_29 (z_byk bcX3_thought_60 60 22 _ bcX3_thought_60_ok rfl)
theorem dX3_thought_83 : decode cX3_thought 83 = .ok (.iconst 1, 1) := zo_4 (z_byk bcX3_thought_60 60 23 _ bcX3_thought_60_ok rfl)
theorem dX3_thought_84 : decode cX3_thought 84 = .ok (.iload_n 1, 1) := zo_27 (z_byk bcX3_thought_60 60 24 _ bcX3_thought_60_ok rfl)
theorem dX3_thought_85 : decode cX3_thought 85 = .ok (.ishl, 1) := zo_120 (z_byk bcX3_thought_60 60 25 _ bcX3_thought_60_ok rfl)
theorem dX3_thought_86 : decode cX3_thought 86 = .ok (.invokevirtual 42, 3) := zo_182 (z_byk bcX3_thought_60 60 26 _ bcX3_thought_60_ok rfl) (z_byk bcX3_thought_60 60 27 _ bcX3_thought_60_ok rfl) (z_byk bcX3_thought_60 60 28 _ bcX3_thought_60_ok rfl) rfl
theorem dX3_thought_89 : decode cX3_thought 89 = .ok (.iload_n 2, 1) := zo_28 (z_byk bcX3_thought_60 60 29 _ bcX3_thought_60_ok rfl)
theorem dX3_thought_90 : decode cX3_thought 90 = .ok (.invokestatic 38, 3) := zo_184 (z_byk bcX3_thought_60 60 30 _ bcX3_thought_60_ok rfl) (z_byk bcX3_thought_60 60 31 _ bcX3_thought_60_ok rfl) (z_byk bcX3_thought_60 60 32 _ bcX3_thought_60_ok rfl) rfl
theorem dX3_thought_93 : decode cX3_thought 93 = .ok (.ifCond .eq 11, 3) := zo_153 (z_byk bcX3_thought_60 60 33 _ bcX3_thought_60_ok rfl) (z_byk bcX3_thought_60 60 34 _ bcX3_thought_60_ok rfl) (z_byk bcX3_thought_60 60 35 _ bcX3_thought_60_ok rfl) rfl
theorem dX3_thought_96 : decode cX3_thought 96 = .ok (.iload 5, 2) := zo_21 (z_byk bcX3_thought_60 60 36 _ bcX3_thought_60_ok rfl) (z_byk bcX3_thought_60 60 37 _ bcX3_thought_60_ok rfl)
theorem dX3_thought_98 : decode cX3_thought 98 = .ok (.iload 4, 2) := zo_21 (z_byk bcX3_thought_60 60 38 _ bcX3_thought_60_ok rfl) (z_byk bcX3_thought_60 60 39 _ bcX3_thought_60_ok rfl)
def bcX3_unsure_0 : List Nat := [42, 180, 0, 12, 180, 0, 31, 42, 180, 0, 25, 2, 130, 126, 172]
theorem bcX3_unsure_0_ok : z_bys cX3_unsure 0 bcX3_unsure_0 = true := by decide +kernel
theorem dX3_unsure_0 : decode cX3_unsure 0 = .ok (.aload_n 0, 1) := zo_42 (z_byk bcX3_unsure_0 0 0 _ bcX3_unsure_0_ok rfl)
theorem dX3_unsure_1 : decode cX3_unsure 1 = .ok (.getfield 12, 3) := zo_180 (z_byk bcX3_unsure_0 0 1 _ bcX3_unsure_0_ok rfl) (z_byk bcX3_unsure_0 0 2 _ bcX3_unsure_0_ok rfl) (z_byk bcX3_unsure_0 0 3 _ bcX3_unsure_0_ok rfl) rfl
theorem dX3_unsure_11 : decode cX3_unsure 11 = .ok (.iconst (-1), 1) := zo_2 (z_byk bcX3_unsure_0 0 11 _ bcX3_unsure_0_ok rfl)
theorem dX3_unsure_12 : decode cX3_unsure 12 = .ok (.ixor, 1) := zo_130 (z_byk bcX3_unsure_0 0 12 _ bcX3_unsure_0_ok rfl)
theorem dX3_unsure_13 : decode cX3_unsure 13 = .ok (.iand, 1) := zo_126 (z_byk bcX3_unsure_0 0 13 _ bcX3_unsure_0_ok rfl)
theorem dX3_unsure_14 : decode cX3_unsure 14 = .ok (.ireturn, 1) := zo_172 (z_byk bcX3_unsure_0 0 14 _ bcX3_unsure_0_ok rfl)
theorem dX3_unsure_4 : decode cX3_unsure 4 = .ok (.getfield 31, 3) := zo_180 (z_byk bcX3_unsure_0 0 4 _ bcX3_unsure_0_ok rfl) (z_byk bcX3_unsure_0 0 5 _ bcX3_unsure_0_ok rfl) (z_byk bcX3_unsure_0 0 6 _ bcX3_unsure_0_ok rfl) rfl
theorem dX3_unsure_7 : decode cX3_unsure 7 = .ok (.aload_n 0, 1) := zo_42 (z_byk bcX3_unsure_0 0 7 _ bcX3_unsure_0_ok rfl)
theorem dX3_unsure_8 : decode cX3_unsure 8 = .ok (.getfield 25, 3) := zo_180 (z_byk bcX3_unsure_0 0 8 _ bcX3_unsure_0_ok rfl) (z_byk bcX3_unsure_0 0 9 _ bcX3_unsure_0_ok rfl) (z_byk bcX3_unsure_0 0 10 _ bcX3_unsure_0_ok rfl) rfl
def bcX6_hasSpan_0 : List Nat := [27, 155, 0, 29, 28, 155, 0, 25, 28, 42, 180, 0, 19, 163, 0, 17, 27, 42, 180, 0, 19, 28, 100, 163, 0, 7, 4, 167, 0, 4, 3, 172]
theorem bcX6_hasSpan_0_ok : z_bys cX6_hasSpan 0 bcX6_hasSpan_0 = true := by decide +kernel
theorem dX6_hasSpan_0 : decode cX6_hasSpan 0 = .ok (.iload_n 1, 1) := zo_27 (z_byk bcX6_hasSpan_0 0 0 _ bcX6_hasSpan_0_ok rfl)
theorem dX6_hasSpan_1 : decode cX6_hasSpan 1 = .ok (.ifCond .lt 29, 3) := zo_155 (z_byk bcX6_hasSpan_0 0 1 _ bcX6_hasSpan_0_ok rfl) (z_byk bcX6_hasSpan_0 0 2 _ bcX6_hasSpan_0_ok rfl) (z_byk bcX6_hasSpan_0 0 3 _ bcX6_hasSpan_0_ok rfl) rfl
theorem dX6_hasSpan_10 : decode cX6_hasSpan 10 = .ok (.getfield 19, 3) := zo_180 (z_byk bcX6_hasSpan_0 0 10 _ bcX6_hasSpan_0_ok rfl) (z_byk bcX6_hasSpan_0 0 11 _ bcX6_hasSpan_0_ok rfl) (z_byk bcX6_hasSpan_0 0 12 _ bcX6_hasSpan_0_ok rfl) rfl
theorem dX6_hasSpan_13 : decode cX6_hasSpan 13 = .ok (.if_icmp .gt 17, 3) := zo_163 (z_byk bcX6_hasSpan_0 0 13 _ bcX6_hasSpan_0_ok rfl) (z_byk bcX6_hasSpan_0 0 14 _ bcX6_hasSpan_0_ok rfl) (z_byk bcX6_hasSpan_0 0 15 _ bcX6_hasSpan_0_ok rfl) rfl
theorem dX6_hasSpan_16 : decode cX6_hasSpan 16 = .ok (.iload_n 1, 1) := zo_27 (z_byk bcX6_hasSpan_0 0 16 _ bcX6_hasSpan_0_ok rfl)
theorem dX6_hasSpan_17 : decode cX6_hasSpan 17 = .ok (.aload_n 0, 1) := zo_42 (z_byk bcX6_hasSpan_0 0 17 _ bcX6_hasSpan_0_ok rfl)
theorem dX6_hasSpan_18 : decode cX6_hasSpan 18 = .ok (.getfield 19, 3) := zo_180 (z_byk bcX6_hasSpan_0 0 18 _ bcX6_hasSpan_0_ok rfl) (z_byk bcX6_hasSpan_0 0 19 _ bcX6_hasSpan_0_ok rfl) (z_byk bcX6_hasSpan_0 0 20 _ bcX6_hasSpan_0_ok rfl) rfl
theorem dX6_hasSpan_21 : decode cX6_hasSpan 21 = .ok (.iload_n 2, 1) := zo_28 (z_byk bcX6_hasSpan_0 0 21 _ bcX6_hasSpan_0_ok rfl)
theorem dX6_hasSpan_22 : decode cX6_hasSpan 22 = .ok (.isub, 1) := zo_100 (z_byk bcX6_hasSpan_0 0 22 _ bcX6_hasSpan_0_ok rfl)
theorem dX6_hasSpan_23 : decode cX6_hasSpan 23 = .ok (.if_icmp .gt 7, 3) := zo_163 (z_byk bcX6_hasSpan_0 0 23 _ bcX6_hasSpan_0_ok rfl) (z_byk bcX6_hasSpan_0 0 24 _ bcX6_hasSpan_0_ok rfl) (z_byk bcX6_hasSpan_0 0 25 _ bcX6_hasSpan_0_ok rfl) rfl
theorem dX6_hasSpan_26 : decode cX6_hasSpan 26 = .ok (.iconst 1, 1) := zo_4 (z_byk bcX6_hasSpan_0 0 26 _ bcX6_hasSpan_0_ok rfl)
theorem dX6_hasSpan_27 : decode cX6_hasSpan 27 = .ok (.goto 4, 3) := zo_167 (z_byk bcX6_hasSpan_0 0 27 _ bcX6_hasSpan_0_ok rfl) (z_byk bcX6_hasSpan_0 0 28 _ bcX6_hasSpan_0_ok rfl) (z_byk bcX6_hasSpan_0 0 29 _ bcX6_hasSpan_0_ok rfl) rfl
theorem dX6_hasSpan_30 : decode cX6_hasSpan 30 = .ok (.iconst 0, 1) := zo_3 (z_byk bcX6_hasSpan_0 0 30 _ bcX6_hasSpan_0_ok rfl)
theorem dX6_hasSpan_31 : decode cX6_hasSpan 31 = .ok (.ireturn, 1) := zo_172 (z_byk bcX6_hasSpan_0 0 31 _ bcX6_hasSpan_0_ok rfl)
theorem dX6_hasSpan_4 : decode cX6_hasSpan 4 = .ok (.iload_n 2, 1) := zo_28 (z_byk bcX6_hasSpan_0 0 4 _ bcX6_hasSpan_0_ok rfl)
theorem dX6_hasSpan_5 : decode cX6_hasSpan 5 = .ok (.ifCond .lt 25, 3) := zo_155 (z_byk bcX6_hasSpan_0 0 5 _ bcX6_hasSpan_0_ok rfl) (z_byk bcX6_hasSpan_0 0 6 _ bcX6_hasSpan_0_ok rfl) (z_byk bcX6_hasSpan_0 0 7 _ bcX6_hasSpan_0_ok rfl) rfl
theorem dX6_hasSpan_8 : decode cX6_hasSpan 8 = .ok (.iload_n 2, 1) := zo_28 (z_byk bcX6_hasSpan_0 0 8 _ bcX6_hasSpan_0_ok rfl)
theorem dX6_hasSpan_9 : decode cX6_hasSpan 9 = .ok (.aload_n 0, 1) := zo_42 (z_byk bcX6_hasSpan_0 0 9 _ bcX6_hasSpan_0_ok rfl)
def bcX6_isThere_0 : List Nat := [42, 180, 0, 9, 2, 159, 0, 7, 4, 167, 0, 4, 3, 172]
theorem bcX6_isThere_0_ok : z_bys cX6_isThere 0 bcX6_isThere_0 = true := by decide +kernel
theorem dX6_isThere_0 : decode cX6_isThere 0 = .ok (.aload_n 0, 1) := zo_42 (z_byk bcX6_isThere_0 0 0 _ bcX6_isThere_0_ok rfl)
theorem dX6_isThere_1 : decode cX6_isThere 1 = .ok (.getfield 9, 3) := zo_180 (z_byk bcX6_isThere_0 0 1 _ bcX6_isThere_0_ok rfl) (z_byk bcX6_isThere_0 0 2 _ bcX6_isThere_0_ok rfl) (z_byk bcX6_isThere_0 0 3 _ bcX6_isThere_0_ok rfl) rfl
theorem dX6_isThere_12 : decode cX6_isThere 12 = .ok (.iconst 0, 1) := zo_3 (z_byk bcX6_isThere_0 0 12 _ bcX6_isThere_0_ok rfl)
theorem dX6_isThere_13 : decode cX6_isThere 13 = .ok (.ireturn, 1) := zo_172 (z_byk bcX6_isThere_0 0 13 _ bcX6_isThere_0_ok rfl)
theorem dX6_isThere_4 : decode cX6_isThere 4 = .ok (.iconst (-1), 1) := zo_2 (z_byk bcX6_isThere_0 0 4 _ bcX6_isThere_0_ok rfl)
theorem dX6_isThere_5 : decode cX6_isThere 5 = .ok (.if_icmp .eq 7, 3) := zo_159 (z_byk bcX6_isThere_0 0 5 _ bcX6_isThere_0_ok rfl) (z_byk bcX6_isThere_0 0 6 _ bcX6_isThere_0_ok rfl) (z_byk bcX6_isThere_0 0 7 _ bcX6_isThere_0_ok rfl) rfl
theorem dX6_isThere_8 : decode cX6_isThere 8 = .ok (.iconst 1, 1) := zo_4 (z_byk bcX6_isThere_0 0 8 _ bcX6_isThere_0_ok rfl)
theorem dX6_isThere_9 : decode cX6_isThere 9 = .ok (.goto 4, 3) := zo_167 (z_byk bcX6_isThere_0 0 9 _ bcX6_isThere_0_ok rfl) (z_byk bcX6_isThere_0 0 10 _ bcX6_isThere_0_ok rfl) (z_byk bcX6_isThere_0 0 11 _ bcX6_isThere_0_ok rfl) rfl
def bcX6_make_0 : List Nat := [42, 27, 181, 0, 9, 42, 28, 181, 0, 19, 42, 180, 0, 15, 9, 184, 0, 22, 177]
theorem bcX6_make_0_ok : z_bys cX6_make 0 bcX6_make_0 = true := by decide +kernel
theorem dX6_make_0 : decode cX6_make 0 = .ok (.aload_n 0, 1) := zo_42 (z_byk bcX6_make_0 0 0 _ bcX6_make_0_ok rfl)
theorem dX6_make_1 : decode cX6_make 1 = .ok (.iload_n 1, 1) := zo_27 (z_byk bcX6_make_0 0 1 _ bcX6_make_0_ok rfl)
theorem dX6_make_10 : decode cX6_make 10 = .ok (.aload_n 0, 1) := zo_42 (z_byk bcX6_make_0 0 10 _ bcX6_make_0_ok rfl)
theorem dX6_make_11 : decode cX6_make 11 = .ok (.getfield 15, 3) := zo_180 (z_byk bcX6_make_0 0 11 _ bcX6_make_0_ok rfl) (z_byk bcX6_make_0 0 12 _ bcX6_make_0_ok rfl) (z_byk bcX6_make_0 0 13 _ bcX6_make_0_ok rfl) rfl
theorem dX6_make_14 : decode cX6_make 14 = .ok (.lconst 0, 1) := zo_9 (z_byk bcX6_make_0 0 14 _ bcX6_make_0_ok rfl)
theorem dX6_make_15 : decode cX6_make 15 = .ok (.invokestatic 22, 3) := zo_184 (z_byk bcX6_make_0 0 15 _ bcX6_make_0_ok rfl) (z_byk bcX6_make_0 0 16 _ bcX6_make_0_ok rfl) (z_byk bcX6_make_0 0 17 _ bcX6_make_0_ok rfl) rfl
theorem dX6_make_18 : decode cX6_make 18 = .ok (.return_, 1) := zo_177 (z_byk bcX6_make_0 0 18 _ bcX6_make_0_ok rfl)
theorem dX6_make_2 : decode cX6_make 2 = .ok (.putfield 9, 3) := zo_181 (z_byk bcX6_make_0 0 2 _ bcX6_make_0_ok rfl) (z_byk bcX6_make_0 0 3 _ bcX6_make_0_ok rfl) (z_byk bcX6_make_0 0 4 _ bcX6_make_0_ok rfl) rfl
theorem dX6_make_5 : decode cX6_make 5 = .ok (.aload_n 0, 1) := zo_42 (z_byk bcX6_make_0 0 5 _ bcX6_make_0_ok rfl)
theorem dX6_make_6 : decode cX6_make 6 = .ok (.iload_n 2, 1) := zo_28 (z_byk bcX6_make_0 0 6 _ bcX6_make_0_ok rfl)
theorem dX6_make_7 : decode cX6_make 7 = .ok (.putfield 19, 3) := zo_181 (z_byk bcX6_make_0 0 7 _ bcX6_make_0_ok rfl) (z_byk bcX6_make_0 0 8 _ bcX6_make_0_ok rfl) (z_byk bcX6_make_0 0 9 _ bcX6_make_0_ok rfl) rfl
def bcX6_put_0 : List Nat := [42, 180, 0, 9]
theorem bcX6_put_0_ok : z_bys cX6_put 0 bcX6_put_0 = true := by decide +kernel
def bcX6_put_32 : List Nat := [42, 180, 0, 15, 27, 32, 136, 145, 133, 80, 167, 0, 35, 42, 180, 0, 15, 27, 32, 136, 147, 133, 80, 167, 0, 22, 42, 180, 0, 15, 27, 32, 136, 133, 80, 167, 0, 10, 42, 180, 0, 15, 27, 32, 80, 177]
theorem bcX6_put_32_ok : z_bys cX6_put 32 bcX6_put_32 = true := by decide +kernel
theorem dX6_put_0 : decode cX6_put 0 = .ok (.aload_n 0, 1) := zo_42 (z_byk bcX6_put_0 0 0 _ bcX6_put_0_ok rfl)
theorem dX6_put_1 : decode cX6_put 1 = .ok (.getfield 9, 3) := zo_180 (z_byk bcX6_put_0 0 1 _ bcX6_put_0_ok rfl) (z_byk bcX6_put_0 0 2 _ bcX6_put_0_ok rfl) (z_byk bcX6_put_0 0 3 _ bcX6_put_0_ok rfl) rfl
theorem dX6_put_32 : decode cX6_put 32 = .ok (.aload_n 0, 1) := zo_42 (z_byk bcX6_put_32 32 0 _ bcX6_put_32_ok rfl)
theorem dX6_put_33 : decode cX6_put 33 = .ok (.getfield 15, 3) := zo_180 (z_byk bcX6_put_32 32 1 _ bcX6_put_32_ok rfl) (z_byk bcX6_put_32 32 2 _ bcX6_put_32_ok rfl) (z_byk bcX6_put_32 32 3 _ bcX6_put_32_ok rfl) rfl
theorem dX6_put_36 : decode cX6_put 36 = .ok (.iload_n 1, 1) := zo_27 (z_byk bcX6_put_32 32 4 _ bcX6_put_32_ok rfl)
theorem dX6_put_37 : decode cX6_put 37 = .ok (.lload_n 2, 1) := zo_32 (z_byk bcX6_put_32 32 5 _ bcX6_put_32_ok rfl)
theorem dX6_put_38 : decode cX6_put 38 = .ok (.l2i, 1) := zo_136 (z_byk bcX6_put_32 32 6 _ bcX6_put_32_ok rfl)
theorem dX6_put_39 : decode cX6_put 39 = .ok (.i2b, 1) := zo_145 (z_byk bcX6_put_32 32 7 _ bcX6_put_32_ok rfl)
theorem dX6_put_4 : decode cX6_put 4 = .ok (.tableswitch 66 0 2 #[28, 41, 54], 28) := by decide +kernel
theorem dX6_put_40 : decode cX6_put 40 = .ok (.i2l, 1) := zo_133 (z_byk bcX6_put_32 32 8 _ bcX6_put_32_ok rfl)
theorem dX6_put_41 : decode cX6_put 41 = .ok (.lastore, 1) := zo_80 (z_byk bcX6_put_32 32 9 _ bcX6_put_32_ok rfl)
theorem dX6_put_42 : decode cX6_put 42 = .ok (.goto 35, 3) := zo_167 (z_byk bcX6_put_32 32 10 _ bcX6_put_32_ok rfl) (z_byk bcX6_put_32 32 11 _ bcX6_put_32_ok rfl) (z_byk bcX6_put_32 32 12 _ bcX6_put_32_ok rfl) rfl
theorem dX6_put_45 : decode cX6_put 45 = .ok (.aload_n 0, 1) := zo_42 (z_byk bcX6_put_32 32 13 _ bcX6_put_32_ok rfl)
theorem dX6_put_46 : decode cX6_put 46 = .ok (.getfield 15, 3) := zo_180 (z_byk bcX6_put_32 32 14 _ bcX6_put_32_ok rfl) (z_byk bcX6_put_32 32 15 _ bcX6_put_32_ok rfl) (z_byk bcX6_put_32 32 16 _ bcX6_put_32_ok rfl) rfl
theorem dX6_put_49 : decode cX6_put 49 = .ok (.iload_n 1, 1) := zo_27 (z_byk bcX6_put_32 32 17 _ bcX6_put_32_ok rfl)
theorem dX6_put_50 : decode cX6_put 50 = .ok (.lload_n 2, 1) := zo_32 (z_byk bcX6_put_32 32 18 _ bcX6_put_32_ok rfl)
theorem dX6_put_51 : decode cX6_put 51 = .ok (.l2i, 1) := zo_136 (z_byk bcX6_put_32 32 19 _ bcX6_put_32_ok rfl)
theorem dX6_put_52 : decode cX6_put 52 = .ok (.i2s, 1) := zo_147 (z_byk bcX6_put_32 32 20 _ bcX6_put_32_ok rfl)
theorem dX6_put_53 : decode cX6_put 53 = .ok (.i2l, 1) := zo_133 (z_byk bcX6_put_32 32 21 _ bcX6_put_32_ok rfl)
theorem dX6_put_54 : decode cX6_put 54 = .ok (.lastore, 1) := zo_80 (z_byk bcX6_put_32 32 22 _ bcX6_put_32_ok rfl)
theorem dX6_put_55 : decode cX6_put 55 = .ok (.goto 22, 3) := zo_167 (z_byk bcX6_put_32 32 23 _ bcX6_put_32_ok rfl) (z_byk bcX6_put_32 32 24 _ bcX6_put_32_ok rfl) (z_byk bcX6_put_32 32 25 _ bcX6_put_32_ok rfl) rfl
theorem dX6_put_58 : decode cX6_put 58 = .ok (.aload_n 0, 1) := zo_42 (z_byk bcX6_put_32 32 26 _ bcX6_put_32_ok rfl)
theorem dX6_put_59 : decode cX6_put 59 = .ok (.getfield 15, 3) := zo_180 (z_byk bcX6_put_32 32 27 _ bcX6_put_32_ok rfl) (z_byk bcX6_put_32 32 28 _ bcX6_put_32_ok rfl) (z_byk bcX6_put_32 32 29 _ bcX6_put_32_ok rfl) rfl
theorem dX6_put_62 : decode cX6_put 62 = .ok (.iload_n 1, 1) := zo_27 (z_byk bcX6_put_32 32 30 _ bcX6_put_32_ok rfl)
theorem dX6_put_63 : decode cX6_put 63 = .ok (.lload_n 2, 1) := zo_32 (z_byk bcX6_put_32 32 31 _ bcX6_put_32_ok rfl)
theorem dX6_put_64 : decode cX6_put 64 = .ok (.l2i, 1) := zo_136 (z_byk bcX6_put_32 32 32 _ bcX6_put_32_ok rfl)
theorem dX6_put_65 : decode cX6_put 65 = .ok (.i2l, 1) := zo_133 (z_byk bcX6_put_32 32 33 _ bcX6_put_32_ok rfl)
theorem dX6_put_66 : decode cX6_put 66 = .ok (.lastore, 1) := zo_80 (z_byk bcX6_put_32 32 34 _ bcX6_put_32_ok rfl)
theorem dX6_put_67 : decode cX6_put 67 = .ok (.goto 10, 3) := zo_167 (z_byk bcX6_put_32 32 35 _ bcX6_put_32_ok rfl) (z_byk bcX6_put_32 32 36 _ bcX6_put_32_ok rfl) (z_byk bcX6_put_32 32 37 _ bcX6_put_32_ok rfl) rfl
theorem dX6_put_70 : decode cX6_put 70 = .ok (.aload_n 0, 1) := zo_42 (z_byk bcX6_put_32 32 38 _ bcX6_put_32_ok rfl)
theorem dX6_put_71 : decode cX6_put 71 = .ok (.getfield 15, 3) := zo_180 (z_byk bcX6_put_32 32 39 _ bcX6_put_32_ok rfl) (z_byk bcX6_put_32 32 40 _ bcX6_put_32_ok rfl) (z_byk bcX6_put_32 32 41 _ bcX6_put_32_ok rfl) rfl
theorem dX6_put_74 : decode cX6_put 74 = .ok (.iload_n 1, 1) := zo_27 (z_byk bcX6_put_32 32 42 _ bcX6_put_32_ok rfl)
theorem dX6_put_75 : decode cX6_put 75 = .ok (.lload_n 2, 1) := zo_32 (z_byk bcX6_put_32 32 43 _ bcX6_put_32_ok rfl)
theorem dX6_put_76 : decode cX6_put 76 = .ok (.lastore, 1) := zo_80 (z_byk bcX6_put_32 32 44 _ bcX6_put_32_ok rfl)
theorem dX6_put_77 : decode cX6_put 77 = .ok (.return_, 1) := zo_177 (z_byk bcX6_put_32 32 45 _ bcX6_put_32_ok rfl)
set_option maxHeartbeats 4000000 in
set_option maxRecDepth 100000 in
theorem k_J6_bitCount_0f7a4 (l : Launch) (sa : Nat → Nat) (dC : Nat → ClassId) (dI : Nat → Nat → Nat) (p0 : Int32)  (sz : Nat) : Met l yJ6_bitCount_0f7a4 (.code yJ6_bitCount_0f7a4 cJ6_bitCount_0f7a4 1 (some .int) :: zT) ({ frames := 0, cells := 0, slots := 0, locals := 0 }) (va_Pc [.int p0] (zB sa dC dI [] [] sz)) (va_Qi (fun (r : Int32) (_ : Unit) => (0 ≤ r.toInt ∧ r.toInt ≤ 63)) (fun _ t => zW dC dI [] [] (va_A [] sz) t) (va_A [] sz)) 0 0 (va_A [] sz) := by
  refine z_enter (by decide) (by exact (Nat.le_of_ble_eq_true rfl)) ?_
  intro p e s m args below meth c ls A R Qc hargs hsz hQe hAe hRe hx hb hml hr hts hown hlocks hin hl hP hK hD hN hXs hA hS
  rw [hAe] at hQe
  have hown : s.vm.findClass RJ6 = some m.cls := hown
  have hl : lv_has ls 1 [(0, .int p0)] := hl
  refine lv_iload_n hx hb dJ6_bitCount_0f7a4_0 rfl (lv_at hl 0 rfl) ?_
  refine lv_iload_n hx hb dJ6_bitCount_0f7a4_1 rfl (lv_at hl 0 rfl) ?_
  refine lv_iconst (v := 1) hx hb dJ6_bitCount_0f7a4_2 (by decide) ?_
  refine lv_iushr (v := _) hx hb dJ6_bitCount_0f7a4_3 rfl ?_
  refine lv_topi (fun x_1 ex_1 => ?_)
  refine lv_ldcw (v := 1431655765) hx hb hown (hts _ zw_t3_218) dJ6_bitCount_0f7a4_4 ?_
  refine lv_iand hx hb dJ6_bitCount_0f7a4_7 ?_
  refine lv_topi (fun x_2 ex_2 => ?_)
  have b_x_2 : 0 ≤ x_2.toInt ∧ x_2.toInt ≤ 1431655765 := by rw [ex_2]; exact zi_andR (show Int32.toInt 1431655765 = 1431655765 from by decide) (by first | with_reducible assumption | omega) (by first | with_reducible assumption | omega)
  refine lv_isub hx hb dJ6_bitCount_0f7a4_8 ?_
  refine lv_topi (fun x_3 ex_3 => ?_)
  refine lv_istore_n (lv' := [(0, .int x_3)]) hx hb dJ6_bitCount_0f7a4_9 rfl hl (by decide) rfl (fun ls hl => ?_)
  refine lv_iload_n hx hb dJ6_bitCount_0f7a4_10 rfl (lv_at hl 0 rfl) ?_
  refine lv_ldcw (v := 858993459) hx hb hown (hts _ zw_t3_219) dJ6_bitCount_0f7a4_11 ?_
  refine lv_iand hx hb dJ6_bitCount_0f7a4_14 ?_
  refine lv_topi (fun x_4 ex_4 => ?_)
  have b_x_4 : 0 ≤ x_4.toInt ∧ x_4.toInt ≤ 858993459 := by rw [ex_4]; exact zi_andR (show Int32.toInt 858993459 = 858993459 from by decide) (by first | with_reducible assumption | omega) (by first | with_reducible assumption | omega)
  refine lv_iload_n hx hb dJ6_bitCount_0f7a4_15 rfl (lv_at hl 0 rfl) ?_
  refine lv_iconst (v := 2) hx hb dJ6_bitCount_0f7a4_16 (by decide) ?_
  refine lv_iushr (v := _) hx hb dJ6_bitCount_0f7a4_17 rfl ?_
  refine lv_topi (fun x_5 ex_5 => ?_)
  refine lv_ldcw (v := 858993459) hx hb hown (hts _ zw_t3_219) dJ6_bitCount_0f7a4_18 ?_
  refine lv_iand hx hb dJ6_bitCount_0f7a4_21 ?_
  refine lv_topi (fun x_6 ex_6 => ?_)
  have b_x_6 : 0 ≤ x_6.toInt ∧ x_6.toInt ≤ 858993459 := by rw [ex_6]; exact zi_andR (show Int32.toInt 858993459 = 858993459 from by decide) (by first | with_reducible assumption | omega) (by first | with_reducible assumption | omega)
  refine lv_iadd hx hb dJ6_bitCount_0f7a4_22 ?_
  refine lv_topi (fun x_7 ex_7 => ?_)
  have b_x_7 : x_7.toInt = x_4.toInt + x_6.toInt := by rw [ex_7]; exact zi_add rfl rfl (z_raa b_x_4 b_x_6 (by decide))
  refine lv_istore_n (lv' := [(0, .int x_7)]) hx hb dJ6_bitCount_0f7a4_23 rfl hl (by decide) rfl (fun ls hl => ?_)
  refine lv_iload_n hx hb dJ6_bitCount_0f7a4_24 rfl (lv_at hl 0 rfl) ?_
  refine lv_iload_n hx hb dJ6_bitCount_0f7a4_25 rfl (lv_at hl 0 rfl) ?_
  refine lv_iconst (v := 4) hx hb dJ6_bitCount_0f7a4_26 (by decide) ?_
  refine lv_iushr (v := _) hx hb dJ6_bitCount_0f7a4_27 rfl ?_
  refine lv_topi (fun x_8 ex_8 => ?_)
  refine lv_iadd hx hb dJ6_bitCount_0f7a4_28 ?_
  refine lv_topi (fun x_9 ex_9 => ?_)
  refine lv_ldcw (v := 252645135) hx hb hown (hts _ zw_t3_220) dJ6_bitCount_0f7a4_29 ?_
  refine lv_iand hx hb dJ6_bitCount_0f7a4_32 ?_
  refine lv_topi (fun x_10 ex_10 => ?_)
  have b_x_10 : 0 ≤ x_10.toInt ∧ x_10.toInt ≤ 252645135 := by rw [ex_10]; exact zi_andR (show Int32.toInt 252645135 = 252645135 from by decide) (by first | with_reducible assumption | omega) (by first | with_reducible assumption | omega)
  refine lv_istore_n (lv' := [(0, .int x_10)]) hx hb dJ6_bitCount_0f7a4_33 rfl hl (by decide) rfl (fun ls hl => ?_)
  refine lv_iload_n hx hb dJ6_bitCount_0f7a4_34 rfl (lv_at hl 0 rfl) ?_
  refine lv_iload_n hx hb dJ6_bitCount_0f7a4_35 rfl (lv_at hl 0 rfl) ?_
  refine lv_bipush (v := 8) hx hb dJ6_bitCount_0f7a4_36 (by decide) ?_
  refine lv_iushr (v := _) hx hb dJ6_bitCount_0f7a4_38 rfl ?_
  refine lv_topi (fun x_11 ex_11 => ?_)
  refine lv_iadd hx hb dJ6_bitCount_0f7a4_39 ?_
  refine lv_topi (fun x_12 ex_12 => ?_)
  refine lv_istore_n (lv' := [(0, .int x_12)]) hx hb dJ6_bitCount_0f7a4_40 rfl hl (by decide) rfl (fun ls hl => ?_)
  refine lv_iload_n hx hb dJ6_bitCount_0f7a4_41 rfl (lv_at hl 0 rfl) ?_
  refine lv_iload_n hx hb dJ6_bitCount_0f7a4_42 rfl (lv_at hl 0 rfl) ?_
  refine lv_bipush (v := 16) hx hb dJ6_bitCount_0f7a4_43 (by decide) ?_
  refine lv_iushr (v := _) hx hb dJ6_bitCount_0f7a4_45 rfl ?_
  refine lv_topi (fun x_13 ex_13 => ?_)
  refine lv_iadd hx hb dJ6_bitCount_0f7a4_46 ?_
  refine lv_topi (fun x_14 ex_14 => ?_)
  refine lv_istore_n (lv' := [(0, .int x_14)]) hx hb dJ6_bitCount_0f7a4_47 rfl hl (by decide) rfl (fun ls hl => ?_)
  refine lv_iload_n hx hb dJ6_bitCount_0f7a4_48 rfl (lv_at hl 0 rfl) ?_
  refine lv_bipush (v := 63) hx hb dJ6_bitCount_0f7a4_49 (by decide) ?_
  refine lv_iand hx hb dJ6_bitCount_0f7a4_51 ?_
  refine lv_topi (fun x_15 ex_15 => ?_)
  have b_x_15 : 0 ≤ x_15.toInt ∧ x_15.toInt ≤ 63 := by rw [ex_15]; exact zi_andR (show Int32.toInt 63 = 63 from by decide) (by first | with_reducible assumption | omega) (by first | with_reducible assumption | omega)
  exact W.iret (v := x_15) hx hb hr (fun t ht hW => by rw [← hQe]; exact ⟨⟨x_15, (), rfl, (by first | with_reducible assumption | exact z_rle b_x_15 (by decide) | omega), z_ret hP hK hD ht hW [] [] rfl (by decide) rfl⟩, hS.F ht⟩) hS.2.2 dJ6_bitCount_0f7a4_52
set_option maxHeartbeats 4000000 in
set_option maxRecDepth 100000 in
theorem k_J6_numberOfTrailingZeros_0f7a4 (l : Launch) (sa : Nat → Nat) (dC : Nat → ClassId) (dI : Nat → Nat → Nat) (p0 : Int32)  (sz : Nat) : Met l yJ6_numberOfTrailingZeros_0f7a4 (.code yJ6_numberOfTrailingZeros_0f7a4 cJ6_numberOfTrailingZeros_0f7a4 2 (some .int) :: zT) ({ frames := 0, cells := 0, slots := 0, locals := 0 }) (va_Pc [.int p0] (zB sa dC dI [] [] sz)) (va_Qi (fun (r : Int32) (_ : Unit) => True) (fun _ t => zW dC dI [] [] (va_A [] sz) t) (va_A [] sz)) 0 0 (va_A [] sz) := by
  refine z_enter (by decide) (by exact (Nat.le_of_ble_eq_true rfl)) ?_
  intro p e s m args below meth c ls A R Qc hargs hsz hQe hAe hRe hx hb hml hr hts hown hlocks hin hl hP hK hD hN hXs hA hS
  rw [hAe] at hQe
  have hown : s.vm.findClass RJ6 = some m.cls := hown
  have hl : lv_has ls 2 [(0, .int p0)] := hl
  refine lv_iload_n hx hb dJ6_numberOfTrailingZeros_0f7a4_0 rfl (lv_at hl 0 rfl) ?_
  refine lv_iconst (v := (-1)) hx hb dJ6_numberOfTrailingZeros_0f7a4_1 (by decide) ?_
  refine lv_ixor hx hb dJ6_numberOfTrailingZeros_0f7a4_2 ?_
  refine lv_topi (fun x_1 ex_1 => ?_)
  refine lv_iload_n hx hb dJ6_numberOfTrailingZeros_0f7a4_3 rfl (lv_at hl 0 rfl) ?_
  refine lv_iconst (v := 1) hx hb dJ6_numberOfTrailingZeros_0f7a4_4 (by decide) ?_
  refine lv_isub hx hb dJ6_numberOfTrailingZeros_0f7a4_5 ?_
  refine lv_topi (fun x_2 ex_2 => ?_)
  refine lv_iand hx hb dJ6_numberOfTrailingZeros_0f7a4_6 ?_
  refine lv_topi (fun x_3 ex_3 => ?_)
  refine lv_istore_n (lv' := [(0, .int x_3)]) hx hb dJ6_numberOfTrailingZeros_0f7a4_7 rfl hl (by decide) rfl (fun ls hl => ?_)
  refine lv_iload_n hx hb dJ6_numberOfTrailingZeros_0f7a4_8 rfl (lv_at hl 0 rfl) ?_
  have nb_x_3 := zi_nb x_3
  refine lv_if_gt (tgt := 17) hx hb dJ6_numberOfTrailingZeros_0f7a4_9 (by decide) (fun c_4 => ?_) (fun c_4 => ?_)
  · have ic_4 := zz_gt rfl (show Int32.toInt 0 = 0 from by decide) c_4
    refine lv_iconst (v := 1) hx hb dJ6_numberOfTrailingZeros_0f7a4_17 (by decide) ?_
    refine lv_istore_n (lv' := [(1, .int 1), (0, .int x_3)]) hx hb dJ6_numberOfTrailingZeros_0f7a4_18 rfl hl (by decide) rfl (fun ls hl => ?_)
    refine lv_iload_n hx hb dJ6_numberOfTrailingZeros_0f7a4_19 rfl (lv_at hl 1 rfl) ?_
    refine lv_ldcw (v := 65536) hx hb hown (hts _ zw_t4_90) dJ6_numberOfTrailingZeros_0f7a4_20 ?_
    refine lv_icmp_le (tgt := 34) hx hb dJ6_numberOfTrailingZeros_0f7a4_23 (by decide) (fun c_5 => ?_) (fun c_5 => ?_)
    · have ic_5 := zz_le rfl (show Int32.toInt 65536 = 65536 from by decide) c_5
      refine lv_iload_n hx hb dJ6_numberOfTrailingZeros_0f7a4_34 rfl (lv_at hl 1 rfl) ?_
      refine lv_sipush (v := 256) hx hb dJ6_numberOfTrailingZeros_0f7a4_35 (by decide) ?_
      refine lv_icmp_le (tgt := 49) hx hb dJ6_numberOfTrailingZeros_0f7a4_38 (by decide) (fun c_6 => ?_) (fun c_6 => ?_)
      · have ic_6 := zz_le rfl (show Int32.toInt 256 = 256 from by decide) c_6
        refine lv_iload_n hx hb dJ6_numberOfTrailingZeros_0f7a4_49 rfl (lv_at hl 1 rfl) ?_
        refine lv_bipush (v := 16) hx hb dJ6_numberOfTrailingZeros_0f7a4_50 (by decide) ?_
        refine lv_icmp_le (tgt := 62) hx hb dJ6_numberOfTrailingZeros_0f7a4_52 (by decide) (fun c_7 => ?_) (fun c_7 => ?_)
        · have ic_7 := zz_le rfl (show Int32.toInt 16 = 16 from by decide) c_7
          refine lv_iload_n hx hb dJ6_numberOfTrailingZeros_0f7a4_62 rfl (lv_at hl 1 rfl) ?_
          refine lv_iconst (v := 4) hx hb dJ6_numberOfTrailingZeros_0f7a4_63 (by decide) ?_
          refine lv_icmp_le (tgt := 74) hx hb dJ6_numberOfTrailingZeros_0f7a4_64 (by decide) (fun c_8 => ?_) (fun c_8 => ?_)
          · have ic_8 := zz_le rfl (show Int32.toInt 4 = 4 from by decide) c_8
            refine lv_iload_n hx hb dJ6_numberOfTrailingZeros_0f7a4_74 rfl (lv_at hl 0 rfl) ?_
            refine lv_iload_n hx hb dJ6_numberOfTrailingZeros_0f7a4_75 rfl (lv_at hl 1 rfl) ?_
            refine lv_iconst (v := 1) hx hb dJ6_numberOfTrailingZeros_0f7a4_76 (by decide) ?_
            refine lv_iushr (v := _) hx hb dJ6_numberOfTrailingZeros_0f7a4_77 rfl ?_
            refine lv_topi (fun x_9 ex_9 => ?_)
            refine lv_iadd hx hb dJ6_numberOfTrailingZeros_0f7a4_78 ?_
            refine lv_topi (fun x_10 ex_10 => ?_)
            exact W.iret (v := x_10) hx hb hr (fun t ht hW => by rw [← hQe]; exact ⟨⟨x_10, (), rfl, trivial, z_ret hP hK hD ht hW [] [] rfl (by decide) rfl⟩, hS.F ht⟩) hS.2.2 dJ6_numberOfTrailingZeros_0f7a4_79
          · have ic_8 := zz_nle rfl (show Int32.toInt 4 = 4 from by decide) c_8
            refine lv_iinc (v := 3) (lv' := [(1, .int 3), (0, .int x_3)]) hx hb dJ6_numberOfTrailingZeros_0f7a4_67 hl (k := 0) rfl (by decide) (by decide) rfl (fun ls hl => ?_)
            refine lv_iload_n hx hb dJ6_numberOfTrailingZeros_0f7a4_70 rfl (lv_at hl 1 rfl) ?_
            refine lv_iconst (v := 2) hx hb dJ6_numberOfTrailingZeros_0f7a4_71 (by decide) ?_
            refine lv_iushr (v := _) hx hb dJ6_numberOfTrailingZeros_0f7a4_72 rfl ?_
            refine lv_topi (fun x_11 ex_11 => ?_)
            refine lv_istore_n (lv' := [(0, .int x_11), (1, .int 3)]) hx hb dJ6_numberOfTrailingZeros_0f7a4_73 rfl hl (by decide) rfl (fun ls hl => ?_)
            refine lv_iload_n hx hb dJ6_numberOfTrailingZeros_0f7a4_74 rfl (lv_at hl 1 rfl) ?_
            refine lv_iload_n hx hb dJ6_numberOfTrailingZeros_0f7a4_75 rfl (lv_at hl 0 rfl) ?_
            refine lv_iconst (v := 1) hx hb dJ6_numberOfTrailingZeros_0f7a4_76 (by decide) ?_
            refine lv_iushr (v := _) hx hb dJ6_numberOfTrailingZeros_0f7a4_77 rfl ?_
            refine lv_topi (fun x_12 ex_12 => ?_)
            refine lv_iadd hx hb dJ6_numberOfTrailingZeros_0f7a4_78 ?_
            refine lv_topi (fun x_13 ex_13 => ?_)
            exact W.iret (v := x_13) hx hb hr (fun t ht hW => by rw [← hQe]; exact ⟨⟨x_13, (), rfl, trivial, z_ret hP hK hD ht hW [] [] rfl (by decide) rfl⟩, hS.F ht⟩) hS.2.2 dJ6_numberOfTrailingZeros_0f7a4_79
        · have ic_7 := zz_nle rfl (show Int32.toInt 16 = 16 from by decide) c_7
          refine lv_iinc (v := 5) (lv' := [(1, .int 5), (0, .int x_3)]) hx hb dJ6_numberOfTrailingZeros_0f7a4_55 hl (k := 0) rfl (by decide) (by decide) rfl (fun ls hl => ?_)
          refine lv_iload_n hx hb dJ6_numberOfTrailingZeros_0f7a4_58 rfl (lv_at hl 1 rfl) ?_
          refine lv_iconst (v := 4) hx hb dJ6_numberOfTrailingZeros_0f7a4_59 (by decide) ?_
          refine lv_iushr (v := _) hx hb dJ6_numberOfTrailingZeros_0f7a4_60 rfl ?_
          refine lv_topi (fun x_14 ex_14 => ?_)
          refine lv_istore_n (lv' := [(0, .int x_14), (1, .int 5)]) hx hb dJ6_numberOfTrailingZeros_0f7a4_61 rfl hl (by decide) rfl (fun ls hl => ?_)
          refine lv_iload_n hx hb dJ6_numberOfTrailingZeros_0f7a4_62 rfl (lv_at hl 0 rfl) ?_
          refine lv_iconst (v := 4) hx hb dJ6_numberOfTrailingZeros_0f7a4_63 (by decide) ?_
          have nb_x_14 := zi_nb x_14
          refine lv_icmp_le (tgt := 74) hx hb dJ6_numberOfTrailingZeros_0f7a4_64 (by decide) (fun c_15 => ?_) (fun c_15 => ?_)
          · have ic_15 := zz_le rfl (show Int32.toInt 4 = 4 from by decide) c_15
            refine lv_iload_n hx hb dJ6_numberOfTrailingZeros_0f7a4_74 rfl (lv_at hl 1 rfl) ?_
            refine lv_iload_n hx hb dJ6_numberOfTrailingZeros_0f7a4_75 rfl (lv_at hl 0 rfl) ?_
            refine lv_iconst (v := 1) hx hb dJ6_numberOfTrailingZeros_0f7a4_76 (by decide) ?_
            refine lv_iushr (v := _) hx hb dJ6_numberOfTrailingZeros_0f7a4_77 rfl ?_
            refine lv_topi (fun x_16 ex_16 => ?_)
            refine lv_iadd hx hb dJ6_numberOfTrailingZeros_0f7a4_78 ?_
            refine lv_topi (fun x_17 ex_17 => ?_)
            exact W.iret (v := x_17) hx hb hr (fun t ht hW => by rw [← hQe]; exact ⟨⟨x_17, (), rfl, trivial, z_ret hP hK hD ht hW [] [] rfl (by decide) rfl⟩, hS.F ht⟩) hS.2.2 dJ6_numberOfTrailingZeros_0f7a4_79
          · have ic_15 := zz_nle rfl (show Int32.toInt 4 = 4 from by decide) c_15
            refine lv_iinc (v := 7) (lv' := [(1, .int 7), (0, .int x_14)]) hx hb dJ6_numberOfTrailingZeros_0f7a4_67 hl (k := 1) rfl (by decide) (by decide) rfl (fun ls hl => ?_)
            refine lv_iload_n hx hb dJ6_numberOfTrailingZeros_0f7a4_70 rfl (lv_at hl 1 rfl) ?_
            refine lv_iconst (v := 2) hx hb dJ6_numberOfTrailingZeros_0f7a4_71 (by decide) ?_
            refine lv_iushr (v := _) hx hb dJ6_numberOfTrailingZeros_0f7a4_72 rfl ?_
            refine lv_topi (fun x_18 ex_18 => ?_)
            refine lv_istore_n (lv' := [(0, .int x_18), (1, .int 7)]) hx hb dJ6_numberOfTrailingZeros_0f7a4_73 rfl hl (by decide) rfl (fun ls hl => ?_)
            refine lv_iload_n hx hb dJ6_numberOfTrailingZeros_0f7a4_74 rfl (lv_at hl 1 rfl) ?_
            refine lv_iload_n hx hb dJ6_numberOfTrailingZeros_0f7a4_75 rfl (lv_at hl 0 rfl) ?_
            refine lv_iconst (v := 1) hx hb dJ6_numberOfTrailingZeros_0f7a4_76 (by decide) ?_
            refine lv_iushr (v := _) hx hb dJ6_numberOfTrailingZeros_0f7a4_77 rfl ?_
            refine lv_topi (fun x_19 ex_19 => ?_)
            refine lv_iadd hx hb dJ6_numberOfTrailingZeros_0f7a4_78 ?_
            refine lv_topi (fun x_20 ex_20 => ?_)
            exact W.iret (v := x_20) hx hb hr (fun t ht hW => by rw [← hQe]; exact ⟨⟨x_20, (), rfl, trivial, z_ret hP hK hD ht hW [] [] rfl (by decide) rfl⟩, hS.F ht⟩) hS.2.2 dJ6_numberOfTrailingZeros_0f7a4_79
      · have ic_6 := zz_nle rfl (show Int32.toInt 256 = 256 from by decide) c_6
        refine lv_iinc (v := 9) (lv' := [(1, .int 9), (0, .int x_3)]) hx hb dJ6_numberOfTrailingZeros_0f7a4_41 hl (k := 0) rfl (by decide) (by decide) rfl (fun ls hl => ?_)
        refine lv_iload_n hx hb dJ6_numberOfTrailingZeros_0f7a4_44 rfl (lv_at hl 1 rfl) ?_
        refine lv_bipush (v := 8) hx hb dJ6_numberOfTrailingZeros_0f7a4_45 (by decide) ?_
        refine lv_iushr (v := _) hx hb dJ6_numberOfTrailingZeros_0f7a4_47 rfl ?_
        refine lv_topi (fun x_21 ex_21 => ?_)
        refine lv_istore_n (lv' := [(0, .int x_21), (1, .int 9)]) hx hb dJ6_numberOfTrailingZeros_0f7a4_48 rfl hl (by decide) rfl (fun ls hl => ?_)
        refine lv_iload_n hx hb dJ6_numberOfTrailingZeros_0f7a4_49 rfl (lv_at hl 0 rfl) ?_
        refine lv_bipush (v := 16) hx hb dJ6_numberOfTrailingZeros_0f7a4_50 (by decide) ?_
        have nb_x_21 := zi_nb x_21
        refine lv_icmp_le (tgt := 62) hx hb dJ6_numberOfTrailingZeros_0f7a4_52 (by decide) (fun c_22 => ?_) (fun c_22 => ?_)
        · have ic_22 := zz_le rfl (show Int32.toInt 16 = 16 from by decide) c_22
          refine lv_iload_n hx hb dJ6_numberOfTrailingZeros_0f7a4_62 rfl (lv_at hl 0 rfl) ?_
          refine lv_iconst (v := 4) hx hb dJ6_numberOfTrailingZeros_0f7a4_63 (by decide) ?_
          refine lv_icmp_le (tgt := 74) hx hb dJ6_numberOfTrailingZeros_0f7a4_64 (by decide) (fun c_23 => ?_) (fun c_23 => ?_)
          · have ic_23 := zz_le rfl (show Int32.toInt 4 = 4 from by decide) c_23
            refine lv_iload_n hx hb dJ6_numberOfTrailingZeros_0f7a4_74 rfl (lv_at hl 1 rfl) ?_
            refine lv_iload_n hx hb dJ6_numberOfTrailingZeros_0f7a4_75 rfl (lv_at hl 0 rfl) ?_
            refine lv_iconst (v := 1) hx hb dJ6_numberOfTrailingZeros_0f7a4_76 (by decide) ?_
            refine lv_iushr (v := _) hx hb dJ6_numberOfTrailingZeros_0f7a4_77 rfl ?_
            refine lv_topi (fun x_24 ex_24 => ?_)
            refine lv_iadd hx hb dJ6_numberOfTrailingZeros_0f7a4_78 ?_
            refine lv_topi (fun x_25 ex_25 => ?_)
            exact W.iret (v := x_25) hx hb hr (fun t ht hW => by rw [← hQe]; exact ⟨⟨x_25, (), rfl, trivial, z_ret hP hK hD ht hW [] [] rfl (by decide) rfl⟩, hS.F ht⟩) hS.2.2 dJ6_numberOfTrailingZeros_0f7a4_79
          · have ic_23 := zz_nle rfl (show Int32.toInt 4 = 4 from by decide) c_23
            refine lv_iinc (v := 11) (lv' := [(1, .int 11), (0, .int x_21)]) hx hb dJ6_numberOfTrailingZeros_0f7a4_67 hl (k := 1) rfl (by decide) (by decide) rfl (fun ls hl => ?_)
            refine lv_iload_n hx hb dJ6_numberOfTrailingZeros_0f7a4_70 rfl (lv_at hl 1 rfl) ?_
            refine lv_iconst (v := 2) hx hb dJ6_numberOfTrailingZeros_0f7a4_71 (by decide) ?_
            refine lv_iushr (v := _) hx hb dJ6_numberOfTrailingZeros_0f7a4_72 rfl ?_
            refine lv_topi (fun x_26 ex_26 => ?_)
            refine lv_istore_n (lv' := [(0, .int x_26), (1, .int 11)]) hx hb dJ6_numberOfTrailingZeros_0f7a4_73 rfl hl (by decide) rfl (fun ls hl => ?_)
            refine lv_iload_n hx hb dJ6_numberOfTrailingZeros_0f7a4_74 rfl (lv_at hl 1 rfl) ?_
            refine lv_iload_n hx hb dJ6_numberOfTrailingZeros_0f7a4_75 rfl (lv_at hl 0 rfl) ?_
            refine lv_iconst (v := 1) hx hb dJ6_numberOfTrailingZeros_0f7a4_76 (by decide) ?_
            refine lv_iushr (v := _) hx hb dJ6_numberOfTrailingZeros_0f7a4_77 rfl ?_
            refine lv_topi (fun x_27 ex_27 => ?_)
            refine lv_iadd hx hb dJ6_numberOfTrailingZeros_0f7a4_78 ?_
            refine lv_topi (fun x_28 ex_28 => ?_)
            exact W.iret (v := x_28) hx hb hr (fun t ht hW => by rw [← hQe]; exact ⟨⟨x_28, (), rfl, trivial, z_ret hP hK hD ht hW [] [] rfl (by decide) rfl⟩, hS.F ht⟩) hS.2.2 dJ6_numberOfTrailingZeros_0f7a4_79
        · have ic_22 := zz_nle rfl (show Int32.toInt 16 = 16 from by decide) c_22
          refine lv_iinc (v := 13) (lv' := [(1, .int 13), (0, .int x_21)]) hx hb dJ6_numberOfTrailingZeros_0f7a4_55 hl (k := 1) rfl (by decide) (by decide) rfl (fun ls hl => ?_)
          refine lv_iload_n hx hb dJ6_numberOfTrailingZeros_0f7a4_58 rfl (lv_at hl 1 rfl) ?_
          refine lv_iconst (v := 4) hx hb dJ6_numberOfTrailingZeros_0f7a4_59 (by decide) ?_
          refine lv_iushr (v := _) hx hb dJ6_numberOfTrailingZeros_0f7a4_60 rfl ?_
          refine lv_topi (fun x_29 ex_29 => ?_)
          refine lv_istore_n (lv' := [(0, .int x_29), (1, .int 13)]) hx hb dJ6_numberOfTrailingZeros_0f7a4_61 rfl hl (by decide) rfl (fun ls hl => ?_)
          refine lv_iload_n hx hb dJ6_numberOfTrailingZeros_0f7a4_62 rfl (lv_at hl 0 rfl) ?_
          refine lv_iconst (v := 4) hx hb dJ6_numberOfTrailingZeros_0f7a4_63 (by decide) ?_
          have nb_x_29 := zi_nb x_29
          refine lv_icmp_le (tgt := 74) hx hb dJ6_numberOfTrailingZeros_0f7a4_64 (by decide) (fun c_30 => ?_) (fun c_30 => ?_)
          · have ic_30 := zz_le rfl (show Int32.toInt 4 = 4 from by decide) c_30
            refine lv_iload_n hx hb dJ6_numberOfTrailingZeros_0f7a4_74 rfl (lv_at hl 1 rfl) ?_
            refine lv_iload_n hx hb dJ6_numberOfTrailingZeros_0f7a4_75 rfl (lv_at hl 0 rfl) ?_
            refine lv_iconst (v := 1) hx hb dJ6_numberOfTrailingZeros_0f7a4_76 (by decide) ?_
            refine lv_iushr (v := _) hx hb dJ6_numberOfTrailingZeros_0f7a4_77 rfl ?_
            refine lv_topi (fun x_31 ex_31 => ?_)
            refine lv_iadd hx hb dJ6_numberOfTrailingZeros_0f7a4_78 ?_
            refine lv_topi (fun x_32 ex_32 => ?_)
            exact W.iret (v := x_32) hx hb hr (fun t ht hW => by rw [← hQe]; exact ⟨⟨x_32, (), rfl, trivial, z_ret hP hK hD ht hW [] [] rfl (by decide) rfl⟩, hS.F ht⟩) hS.2.2 dJ6_numberOfTrailingZeros_0f7a4_79
          · have ic_30 := zz_nle rfl (show Int32.toInt 4 = 4 from by decide) c_30
            refine lv_iinc (v := 15) (lv' := [(1, .int 15), (0, .int x_29)]) hx hb dJ6_numberOfTrailingZeros_0f7a4_67 hl (k := 1) rfl (by decide) (by decide) rfl (fun ls hl => ?_)
            refine lv_iload_n hx hb dJ6_numberOfTrailingZeros_0f7a4_70 rfl (lv_at hl 1 rfl) ?_
            refine lv_iconst (v := 2) hx hb dJ6_numberOfTrailingZeros_0f7a4_71 (by decide) ?_
            refine lv_iushr (v := _) hx hb dJ6_numberOfTrailingZeros_0f7a4_72 rfl ?_
            refine lv_topi (fun x_33 ex_33 => ?_)
            refine lv_istore_n (lv' := [(0, .int x_33), (1, .int 15)]) hx hb dJ6_numberOfTrailingZeros_0f7a4_73 rfl hl (by decide) rfl (fun ls hl => ?_)
            refine lv_iload_n hx hb dJ6_numberOfTrailingZeros_0f7a4_74 rfl (lv_at hl 1 rfl) ?_
            refine lv_iload_n hx hb dJ6_numberOfTrailingZeros_0f7a4_75 rfl (lv_at hl 0 rfl) ?_
            refine lv_iconst (v := 1) hx hb dJ6_numberOfTrailingZeros_0f7a4_76 (by decide) ?_
            refine lv_iushr (v := _) hx hb dJ6_numberOfTrailingZeros_0f7a4_77 rfl ?_
            refine lv_topi (fun x_34 ex_34 => ?_)
            refine lv_iadd hx hb dJ6_numberOfTrailingZeros_0f7a4_78 ?_
            refine lv_topi (fun x_35 ex_35 => ?_)
            exact W.iret (v := x_35) hx hb hr (fun t ht hW => by rw [← hQe]; exact ⟨⟨x_35, (), rfl, trivial, z_ret hP hK hD ht hW [] [] rfl (by decide) rfl⟩, hS.F ht⟩) hS.2.2 dJ6_numberOfTrailingZeros_0f7a4_79
    · have ic_5 := zz_nle rfl (show Int32.toInt 65536 = 65536 from by decide) c_5
      refine lv_iinc (v := 17) (lv' := [(1, .int 17), (0, .int x_3)]) hx hb dJ6_numberOfTrailingZeros_0f7a4_26 hl (k := 0) rfl (by decide) (by decide) rfl (fun ls hl => ?_)
      refine lv_iload_n hx hb dJ6_numberOfTrailingZeros_0f7a4_29 rfl (lv_at hl 1 rfl) ?_
      refine lv_bipush (v := 16) hx hb dJ6_numberOfTrailingZeros_0f7a4_30 (by decide) ?_
      refine lv_iushr (v := _) hx hb dJ6_numberOfTrailingZeros_0f7a4_32 rfl ?_
      refine lv_topi (fun x_36 ex_36 => ?_)
      refine lv_istore_n (lv' := [(0, .int x_36), (1, .int 17)]) hx hb dJ6_numberOfTrailingZeros_0f7a4_33 rfl hl (by decide) rfl (fun ls hl => ?_)
      refine lv_iload_n hx hb dJ6_numberOfTrailingZeros_0f7a4_34 rfl (lv_at hl 0 rfl) ?_
      refine lv_sipush (v := 256) hx hb dJ6_numberOfTrailingZeros_0f7a4_35 (by decide) ?_
      have nb_x_36 := zi_nb x_36
      refine lv_icmp_le (tgt := 49) hx hb dJ6_numberOfTrailingZeros_0f7a4_38 (by decide) (fun c_37 => ?_) (fun c_37 => ?_)
      · have ic_37 := zz_le rfl (show Int32.toInt 256 = 256 from by decide) c_37
        refine lv_iload_n hx hb dJ6_numberOfTrailingZeros_0f7a4_49 rfl (lv_at hl 0 rfl) ?_
        refine lv_bipush (v := 16) hx hb dJ6_numberOfTrailingZeros_0f7a4_50 (by decide) ?_
        refine lv_icmp_le (tgt := 62) hx hb dJ6_numberOfTrailingZeros_0f7a4_52 (by decide) (fun c_38 => ?_) (fun c_38 => ?_)
        · have ic_38 := zz_le rfl (show Int32.toInt 16 = 16 from by decide) c_38
          refine lv_iload_n hx hb dJ6_numberOfTrailingZeros_0f7a4_62 rfl (lv_at hl 0 rfl) ?_
          refine lv_iconst (v := 4) hx hb dJ6_numberOfTrailingZeros_0f7a4_63 (by decide) ?_
          refine lv_icmp_le (tgt := 74) hx hb dJ6_numberOfTrailingZeros_0f7a4_64 (by decide) (fun c_39 => ?_) (fun c_39 => ?_)
          · have ic_39 := zz_le rfl (show Int32.toInt 4 = 4 from by decide) c_39
            refine lv_iload_n hx hb dJ6_numberOfTrailingZeros_0f7a4_74 rfl (lv_at hl 1 rfl) ?_
            refine lv_iload_n hx hb dJ6_numberOfTrailingZeros_0f7a4_75 rfl (lv_at hl 0 rfl) ?_
            refine lv_iconst (v := 1) hx hb dJ6_numberOfTrailingZeros_0f7a4_76 (by decide) ?_
            refine lv_iushr (v := _) hx hb dJ6_numberOfTrailingZeros_0f7a4_77 rfl ?_
            refine lv_topi (fun x_40 ex_40 => ?_)
            refine lv_iadd hx hb dJ6_numberOfTrailingZeros_0f7a4_78 ?_
            refine lv_topi (fun x_41 ex_41 => ?_)
            exact W.iret (v := x_41) hx hb hr (fun t ht hW => by rw [← hQe]; exact ⟨⟨x_41, (), rfl, trivial, z_ret hP hK hD ht hW [] [] rfl (by decide) rfl⟩, hS.F ht⟩) hS.2.2 dJ6_numberOfTrailingZeros_0f7a4_79
          · have ic_39 := zz_nle rfl (show Int32.toInt 4 = 4 from by decide) c_39
            refine lv_iinc (v := 19) (lv' := [(1, .int 19), (0, .int x_36)]) hx hb dJ6_numberOfTrailingZeros_0f7a4_67 hl (k := 1) rfl (by decide) (by decide) rfl (fun ls hl => ?_)
            refine lv_iload_n hx hb dJ6_numberOfTrailingZeros_0f7a4_70 rfl (lv_at hl 1 rfl) ?_
            refine lv_iconst (v := 2) hx hb dJ6_numberOfTrailingZeros_0f7a4_71 (by decide) ?_
            refine lv_iushr (v := _) hx hb dJ6_numberOfTrailingZeros_0f7a4_72 rfl ?_
            refine lv_topi (fun x_42 ex_42 => ?_)
            refine lv_istore_n (lv' := [(0, .int x_42), (1, .int 19)]) hx hb dJ6_numberOfTrailingZeros_0f7a4_73 rfl hl (by decide) rfl (fun ls hl => ?_)
            refine lv_iload_n hx hb dJ6_numberOfTrailingZeros_0f7a4_74 rfl (lv_at hl 1 rfl) ?_
            refine lv_iload_n hx hb dJ6_numberOfTrailingZeros_0f7a4_75 rfl (lv_at hl 0 rfl) ?_
            refine lv_iconst (v := 1) hx hb dJ6_numberOfTrailingZeros_0f7a4_76 (by decide) ?_
            refine lv_iushr (v := _) hx hb dJ6_numberOfTrailingZeros_0f7a4_77 rfl ?_
            refine lv_topi (fun x_43 ex_43 => ?_)
            refine lv_iadd hx hb dJ6_numberOfTrailingZeros_0f7a4_78 ?_
            refine lv_topi (fun x_44 ex_44 => ?_)
            exact W.iret (v := x_44) hx hb hr (fun t ht hW => by rw [← hQe]; exact ⟨⟨x_44, (), rfl, trivial, z_ret hP hK hD ht hW [] [] rfl (by decide) rfl⟩, hS.F ht⟩) hS.2.2 dJ6_numberOfTrailingZeros_0f7a4_79
        · have ic_38 := zz_nle rfl (show Int32.toInt 16 = 16 from by decide) c_38
          refine lv_iinc (v := 21) (lv' := [(1, .int 21), (0, .int x_36)]) hx hb dJ6_numberOfTrailingZeros_0f7a4_55 hl (k := 1) rfl (by decide) (by decide) rfl (fun ls hl => ?_)
          refine lv_iload_n hx hb dJ6_numberOfTrailingZeros_0f7a4_58 rfl (lv_at hl 1 rfl) ?_
          refine lv_iconst (v := 4) hx hb dJ6_numberOfTrailingZeros_0f7a4_59 (by decide) ?_
          refine lv_iushr (v := _) hx hb dJ6_numberOfTrailingZeros_0f7a4_60 rfl ?_
          refine lv_topi (fun x_45 ex_45 => ?_)
          refine lv_istore_n (lv' := [(0, .int x_45), (1, .int 21)]) hx hb dJ6_numberOfTrailingZeros_0f7a4_61 rfl hl (by decide) rfl (fun ls hl => ?_)
          refine lv_iload_n hx hb dJ6_numberOfTrailingZeros_0f7a4_62 rfl (lv_at hl 0 rfl) ?_
          refine lv_iconst (v := 4) hx hb dJ6_numberOfTrailingZeros_0f7a4_63 (by decide) ?_
          have nb_x_45 := zi_nb x_45
          refine lv_icmp_le (tgt := 74) hx hb dJ6_numberOfTrailingZeros_0f7a4_64 (by decide) (fun c_46 => ?_) (fun c_46 => ?_)
          · have ic_46 := zz_le rfl (show Int32.toInt 4 = 4 from by decide) c_46
            refine lv_iload_n hx hb dJ6_numberOfTrailingZeros_0f7a4_74 rfl (lv_at hl 1 rfl) ?_
            refine lv_iload_n hx hb dJ6_numberOfTrailingZeros_0f7a4_75 rfl (lv_at hl 0 rfl) ?_
            refine lv_iconst (v := 1) hx hb dJ6_numberOfTrailingZeros_0f7a4_76 (by decide) ?_
            refine lv_iushr (v := _) hx hb dJ6_numberOfTrailingZeros_0f7a4_77 rfl ?_
            refine lv_topi (fun x_47 ex_47 => ?_)
            refine lv_iadd hx hb dJ6_numberOfTrailingZeros_0f7a4_78 ?_
            refine lv_topi (fun x_48 ex_48 => ?_)
            exact W.iret (v := x_48) hx hb hr (fun t ht hW => by rw [← hQe]; exact ⟨⟨x_48, (), rfl, trivial, z_ret hP hK hD ht hW [] [] rfl (by decide) rfl⟩, hS.F ht⟩) hS.2.2 dJ6_numberOfTrailingZeros_0f7a4_79
          · have ic_46 := zz_nle rfl (show Int32.toInt 4 = 4 from by decide) c_46
            refine lv_iinc (v := 23) (lv' := [(1, .int 23), (0, .int x_45)]) hx hb dJ6_numberOfTrailingZeros_0f7a4_67 hl (k := 1) rfl (by decide) (by decide) rfl (fun ls hl => ?_)
            refine lv_iload_n hx hb dJ6_numberOfTrailingZeros_0f7a4_70 rfl (lv_at hl 1 rfl) ?_
            refine lv_iconst (v := 2) hx hb dJ6_numberOfTrailingZeros_0f7a4_71 (by decide) ?_
            refine lv_iushr (v := _) hx hb dJ6_numberOfTrailingZeros_0f7a4_72 rfl ?_
            refine lv_topi (fun x_49 ex_49 => ?_)
            refine lv_istore_n (lv' := [(0, .int x_49), (1, .int 23)]) hx hb dJ6_numberOfTrailingZeros_0f7a4_73 rfl hl (by decide) rfl (fun ls hl => ?_)
            refine lv_iload_n hx hb dJ6_numberOfTrailingZeros_0f7a4_74 rfl (lv_at hl 1 rfl) ?_
            refine lv_iload_n hx hb dJ6_numberOfTrailingZeros_0f7a4_75 rfl (lv_at hl 0 rfl) ?_
            refine lv_iconst (v := 1) hx hb dJ6_numberOfTrailingZeros_0f7a4_76 (by decide) ?_
            refine lv_iushr (v := _) hx hb dJ6_numberOfTrailingZeros_0f7a4_77 rfl ?_
            refine lv_topi (fun x_50 ex_50 => ?_)
            refine lv_iadd hx hb dJ6_numberOfTrailingZeros_0f7a4_78 ?_
            refine lv_topi (fun x_51 ex_51 => ?_)
            exact W.iret (v := x_51) hx hb hr (fun t ht hW => by rw [← hQe]; exact ⟨⟨x_51, (), rfl, trivial, z_ret hP hK hD ht hW [] [] rfl (by decide) rfl⟩, hS.F ht⟩) hS.2.2 dJ6_numberOfTrailingZeros_0f7a4_79
      · have ic_37 := zz_nle rfl (show Int32.toInt 256 = 256 from by decide) c_37
        refine lv_iinc (v := 25) (lv' := [(1, .int 25), (0, .int x_36)]) hx hb dJ6_numberOfTrailingZeros_0f7a4_41 hl (k := 1) rfl (by decide) (by decide) rfl (fun ls hl => ?_)
        refine lv_iload_n hx hb dJ6_numberOfTrailingZeros_0f7a4_44 rfl (lv_at hl 1 rfl) ?_
        refine lv_bipush (v := 8) hx hb dJ6_numberOfTrailingZeros_0f7a4_45 (by decide) ?_
        refine lv_iushr (v := _) hx hb dJ6_numberOfTrailingZeros_0f7a4_47 rfl ?_
        refine lv_topi (fun x_52 ex_52 => ?_)
        refine lv_istore_n (lv' := [(0, .int x_52), (1, .int 25)]) hx hb dJ6_numberOfTrailingZeros_0f7a4_48 rfl hl (by decide) rfl (fun ls hl => ?_)
        refine lv_iload_n hx hb dJ6_numberOfTrailingZeros_0f7a4_49 rfl (lv_at hl 0 rfl) ?_
        refine lv_bipush (v := 16) hx hb dJ6_numberOfTrailingZeros_0f7a4_50 (by decide) ?_
        have nb_x_52 := zi_nb x_52
        refine lv_icmp_le (tgt := 62) hx hb dJ6_numberOfTrailingZeros_0f7a4_52 (by decide) (fun c_53 => ?_) (fun c_53 => ?_)
        · have ic_53 := zz_le rfl (show Int32.toInt 16 = 16 from by decide) c_53
          refine lv_iload_n hx hb dJ6_numberOfTrailingZeros_0f7a4_62 rfl (lv_at hl 0 rfl) ?_
          refine lv_iconst (v := 4) hx hb dJ6_numberOfTrailingZeros_0f7a4_63 (by decide) ?_
          refine lv_icmp_le (tgt := 74) hx hb dJ6_numberOfTrailingZeros_0f7a4_64 (by decide) (fun c_54 => ?_) (fun c_54 => ?_)
          · have ic_54 := zz_le rfl (show Int32.toInt 4 = 4 from by decide) c_54
            refine lv_iload_n hx hb dJ6_numberOfTrailingZeros_0f7a4_74 rfl (lv_at hl 1 rfl) ?_
            refine lv_iload_n hx hb dJ6_numberOfTrailingZeros_0f7a4_75 rfl (lv_at hl 0 rfl) ?_
            refine lv_iconst (v := 1) hx hb dJ6_numberOfTrailingZeros_0f7a4_76 (by decide) ?_
            refine lv_iushr (v := _) hx hb dJ6_numberOfTrailingZeros_0f7a4_77 rfl ?_
            refine lv_topi (fun x_55 ex_55 => ?_)
            refine lv_iadd hx hb dJ6_numberOfTrailingZeros_0f7a4_78 ?_
            refine lv_topi (fun x_56 ex_56 => ?_)
            exact W.iret (v := x_56) hx hb hr (fun t ht hW => by rw [← hQe]; exact ⟨⟨x_56, (), rfl, trivial, z_ret hP hK hD ht hW [] [] rfl (by decide) rfl⟩, hS.F ht⟩) hS.2.2 dJ6_numberOfTrailingZeros_0f7a4_79
          · have ic_54 := zz_nle rfl (show Int32.toInt 4 = 4 from by decide) c_54
            refine lv_iinc (v := 27) (lv' := [(1, .int 27), (0, .int x_52)]) hx hb dJ6_numberOfTrailingZeros_0f7a4_67 hl (k := 1) rfl (by decide) (by decide) rfl (fun ls hl => ?_)
            refine lv_iload_n hx hb dJ6_numberOfTrailingZeros_0f7a4_70 rfl (lv_at hl 1 rfl) ?_
            refine lv_iconst (v := 2) hx hb dJ6_numberOfTrailingZeros_0f7a4_71 (by decide) ?_
            refine lv_iushr (v := _) hx hb dJ6_numberOfTrailingZeros_0f7a4_72 rfl ?_
            refine lv_topi (fun x_57 ex_57 => ?_)
            refine lv_istore_n (lv' := [(0, .int x_57), (1, .int 27)]) hx hb dJ6_numberOfTrailingZeros_0f7a4_73 rfl hl (by decide) rfl (fun ls hl => ?_)
            refine lv_iload_n hx hb dJ6_numberOfTrailingZeros_0f7a4_74 rfl (lv_at hl 1 rfl) ?_
            refine lv_iload_n hx hb dJ6_numberOfTrailingZeros_0f7a4_75 rfl (lv_at hl 0 rfl) ?_
            refine lv_iconst (v := 1) hx hb dJ6_numberOfTrailingZeros_0f7a4_76 (by decide) ?_
            refine lv_iushr (v := _) hx hb dJ6_numberOfTrailingZeros_0f7a4_77 rfl ?_
            refine lv_topi (fun x_58 ex_58 => ?_)
            refine lv_iadd hx hb dJ6_numberOfTrailingZeros_0f7a4_78 ?_
            refine lv_topi (fun x_59 ex_59 => ?_)
            exact W.iret (v := x_59) hx hb hr (fun t ht hW => by rw [← hQe]; exact ⟨⟨x_59, (), rfl, trivial, z_ret hP hK hD ht hW [] [] rfl (by decide) rfl⟩, hS.F ht⟩) hS.2.2 dJ6_numberOfTrailingZeros_0f7a4_79
        · have ic_53 := zz_nle rfl (show Int32.toInt 16 = 16 from by decide) c_53
          refine lv_iinc (v := 29) (lv' := [(1, .int 29), (0, .int x_52)]) hx hb dJ6_numberOfTrailingZeros_0f7a4_55 hl (k := 1) rfl (by decide) (by decide) rfl (fun ls hl => ?_)
          refine lv_iload_n hx hb dJ6_numberOfTrailingZeros_0f7a4_58 rfl (lv_at hl 1 rfl) ?_
          refine lv_iconst (v := 4) hx hb dJ6_numberOfTrailingZeros_0f7a4_59 (by decide) ?_
          refine lv_iushr (v := _) hx hb dJ6_numberOfTrailingZeros_0f7a4_60 rfl ?_
          refine lv_topi (fun x_60 ex_60 => ?_)
          refine lv_istore_n (lv' := [(0, .int x_60), (1, .int 29)]) hx hb dJ6_numberOfTrailingZeros_0f7a4_61 rfl hl (by decide) rfl (fun ls hl => ?_)
          refine lv_iload_n hx hb dJ6_numberOfTrailingZeros_0f7a4_62 rfl (lv_at hl 0 rfl) ?_
          refine lv_iconst (v := 4) hx hb dJ6_numberOfTrailingZeros_0f7a4_63 (by decide) ?_
          have nb_x_60 := zi_nb x_60
          refine lv_icmp_le (tgt := 74) hx hb dJ6_numberOfTrailingZeros_0f7a4_64 (by decide) (fun c_61 => ?_) (fun c_61 => ?_)
          · have ic_61 := zz_le rfl (show Int32.toInt 4 = 4 from by decide) c_61
            refine lv_iload_n hx hb dJ6_numberOfTrailingZeros_0f7a4_74 rfl (lv_at hl 1 rfl) ?_
            refine lv_iload_n hx hb dJ6_numberOfTrailingZeros_0f7a4_75 rfl (lv_at hl 0 rfl) ?_
            refine lv_iconst (v := 1) hx hb dJ6_numberOfTrailingZeros_0f7a4_76 (by decide) ?_
            refine lv_iushr (v := _) hx hb dJ6_numberOfTrailingZeros_0f7a4_77 rfl ?_
            refine lv_topi (fun x_62 ex_62 => ?_)
            refine lv_iadd hx hb dJ6_numberOfTrailingZeros_0f7a4_78 ?_
            refine lv_topi (fun x_63 ex_63 => ?_)
            exact W.iret (v := x_63) hx hb hr (fun t ht hW => by rw [← hQe]; exact ⟨⟨x_63, (), rfl, trivial, z_ret hP hK hD ht hW [] [] rfl (by decide) rfl⟩, hS.F ht⟩) hS.2.2 dJ6_numberOfTrailingZeros_0f7a4_79
          · have ic_61 := zz_nle rfl (show Int32.toInt 4 = 4 from by decide) c_61
            refine lv_iinc (v := 31) (lv' := [(1, .int 31), (0, .int x_60)]) hx hb dJ6_numberOfTrailingZeros_0f7a4_67 hl (k := 1) rfl (by decide) (by decide) rfl (fun ls hl => ?_)
            refine lv_iload_n hx hb dJ6_numberOfTrailingZeros_0f7a4_70 rfl (lv_at hl 1 rfl) ?_
            refine lv_iconst (v := 2) hx hb dJ6_numberOfTrailingZeros_0f7a4_71 (by decide) ?_
            refine lv_iushr (v := _) hx hb dJ6_numberOfTrailingZeros_0f7a4_72 rfl ?_
            refine lv_topi (fun x_64 ex_64 => ?_)
            refine lv_istore_n (lv' := [(0, .int x_64), (1, .int 31)]) hx hb dJ6_numberOfTrailingZeros_0f7a4_73 rfl hl (by decide) rfl (fun ls hl => ?_)
            refine lv_iload_n hx hb dJ6_numberOfTrailingZeros_0f7a4_74 rfl (lv_at hl 1 rfl) ?_
            refine lv_iload_n hx hb dJ6_numberOfTrailingZeros_0f7a4_75 rfl (lv_at hl 0 rfl) ?_
            refine lv_iconst (v := 1) hx hb dJ6_numberOfTrailingZeros_0f7a4_76 (by decide) ?_
            refine lv_iushr (v := _) hx hb dJ6_numberOfTrailingZeros_0f7a4_77 rfl ?_
            refine lv_topi (fun x_65 ex_65 => ?_)
            refine lv_iadd hx hb dJ6_numberOfTrailingZeros_0f7a4_78 ?_
            refine lv_topi (fun x_66 ex_66 => ?_)
            exact W.iret (v := x_66) hx hb hr (fun t ht hW => by rw [← hQe]; exact ⟨⟨x_66, (), rfl, trivial, z_ret hP hK hD ht hW [] [] rfl (by decide) rfl⟩, hS.F ht⟩) hS.2.2 dJ6_numberOfTrailingZeros_0f7a4_79
  · have ic_4 := zz_ngt rfl (show Int32.toInt 0 = 0 from by decide) c_4
    refine lv_iload_n hx hb dJ6_numberOfTrailingZeros_0f7a4_12 rfl (lv_at hl 0 rfl) ?_
    refine lv_bipush (v := 32) hx hb dJ6_numberOfTrailingZeros_0f7a4_13 (by decide) ?_
    refine lv_iand hx hb dJ6_numberOfTrailingZeros_0f7a4_15 ?_
    refine lv_topi (fun x_67 ex_67 => ?_)
    have b_x_67 : 0 ≤ x_67.toInt ∧ x_67.toInt ≤ 32 := by rw [ex_67]; exact zi_andR (show Int32.toInt 32 = 32 from by decide) (by first | with_reducible assumption | omega) (by first | with_reducible assumption | omega)
    exact W.iret (v := x_67) hx hb hr (fun t ht hW => by rw [← hQe]; exact ⟨⟨x_67, (), rfl, trivial, z_ret hP hK hD ht hW [] [] rfl (by decide) rfl⟩, hS.F ht⟩) hS.2.2 dJ6_numberOfTrailingZeros_0f7a4_16
set_option maxHeartbeats 4000000 in
set_option maxRecDepth 100000 in
theorem k_J7_fill_53178 (l : Launch) (sa : Nat → Nat) (dC : Nat → ClassId) (dI : Nat → Nat → Nat) (a : Nat) (p1 : Int32) (cA_a : ClassId) (f_a : Nat → Int32)  (sz : Nat) : Met l yJ7_fill_53178 (.code yJ7_fill_53178 cJ7_fill_53178 4 none :: zT) ({ frames := 0, cells := 0, slots := 0, locals := 0 }) (va_Pc [.ref a, .int p1] (zB sa dC dI [(a, .inl (cA_a, 10, .inl f_a))] [(cA_a, .int)] sz)) (va_Qv (fun _ : Unit => True) (fun _ t => ∃ (n_a : Nat → Int32), zW dC dI [(a, .inl (cA_a, 10, .inl n_a))] [] (va_A [(a, .inl (cA_a, 10, .inl f_a))] sz) t) (va_A [(a, .inl (cA_a, 10, .inl f_a))] sz)) 0 0 (va_A [(a, .inl (cA_a, 10, .inl f_a))] sz) := by
  refine z_enter (by decide) (by exact (Nat.le_of_ble_eq_true rfl)) ?_
  intro p e s m args below meth c ls A R Qc hargs hsz hQe hAe hRe hx hb hml hr hts hown hlocks hin hl hP hK hD hN hXs hA hS
  rw [hAe] at hQe
  have hown : s.vm.findClass RJ7 = some m.cls := hown
  have hl : lv_has ls 4 [(0, .ref a), (1, .int p1)] := hl
  refine lv_iconst (v := 0) hx hb dJ7_fill_53178_0 (by decide) ?_
  refine lv_istore_n (lv' := [(2, .int 0), (0, .ref a), (1, .int p1)]) hx hb dJ7_fill_53178_1 rfl hl (by decide) rfl (fun ls hl => ?_)
  refine lv_aload_n hx hb dJ7_fill_53178_2 rfl (lv_at hl 1 rfl) ?_
  refine va_alen (v := 10) hx hb hK hP 0 0 rfl rfl (show Int32.ofNat 10 = 10 from by decide) dJ7_fill_53178_3 ?_
  refine lv_istore_n (lv' := [(3, .int 10), (2, .int 0), (0, .ref a), (1, .int p1)]) hx hb dJ7_fill_53178_4 rfl hl (by decide) rfl (fun ls hl => ?_)
  have loop_1 : ∀ (t : Nat) (v2_1 : Int32) (g_a_2 : Nat → Int32) (b_v2_1 : 0 ≤ v2_1.toInt ∧ v2_1.toInt ≤ 10) (H : Heap) (locs : List Loc) (ls : Array Slot), 10 - v2_1.toInt < (t : Int) → va_P (dC, dI) vwCl [(a, .inl (cA_a, 10, .inl g_a_2))] H → va_D A [(a, .inl (cA_a, 10, .inl g_a_2))] → va_S A s.heap H locs → lv_has ls 4 [(0, .ref a), (1, .int p1), (2, .int v2_1), (3, .int 10)] → W p l e R s m args below meth c H locs 0 0 (MQ below Qc args s 0 0 A) (F0 m 5 ls []) := by
    intro t
    induction t with
    | zero => intro v2_1 g_a_2 b_v2_1 H locs ls hmu _ _ _ _; exact absurd hmu (by first | with_reducible assumption | omega)
    | succ t ih_1 =>
      intro v2_1 g_a_2 b_v2_1 H locs ls hmu hP hD hS hl
      refine lv_iload_n hx hb dJ7_fill_53178_5 rfl (lv_at hl 2 rfl) ?_
      refine lv_iload_n hx hb dJ7_fill_53178_6 rfl (lv_at hl 3 rfl) ?_
      refine lv_icmp_ge (tgt := 20) hx hb dJ7_fill_53178_7 (by decide) (fun c_3 => ?_) (fun c_3 => ?_)
      · have ic_3 := zz_ge rfl (show Int32.toInt 10 = 10 from by decide) c_3
        exact W.vret hx hb hr (fun t ht hW => by rw [← hQe]; exact ⟨⟨(), rfl, trivial, ⟨g_a_2, z_ret hP hK hD ht hW [0] [] rfl (by decide) rfl⟩⟩, hS.F ht⟩) hS.2.2 dJ7_fill_53178_20
      · have ic_3 := zz_nge rfl (show Int32.toInt 10 = 10 from by decide) c_3
        refine lv_aload_n hx hb dJ7_fill_53178_10 rfl (lv_at hl 0 rfl) ?_
        refine lv_iload_n hx hb dJ7_fill_53178_11 rfl (lv_at hl 2 rfl) ?_
        refine lv_iload_n hx hb dJ7_fill_53178_12 rfl (lv_at hl 1 rfl) ?_
        refine va_iast hx hb hK hP hD hS 0 0 rfl rfl (zi_in rfl (by first | exact z_rin b_v2_1 (by decide) | omega)) dJ7_fill_53178_13 (fun H locs hP hD hS => ?_)
        obtain ⟨f_4, ef_4⟩ : ∃ g : Nat → Int32, g = upd g_a_2 (Int32.toNatClampNeg v2_1) p1 := ⟨_, rfl⟩
        have hP : va_P (dC, dI) vwCl [(a, .inl (cA_a, 10, .inl (upd g_a_2 (Int32.toNatClampNeg v2_1) p1)))] H := hP
        have hD : va_D A [(a, .inl (cA_a, 10, .inl (upd g_a_2 (Int32.toNatClampNeg v2_1) p1)))] := hD
        rw [← ef_4] at hP hD
        obtain ⟨x_5, ex_5⟩ : ∃ z : Int32, z = v2_1 + Int32.ofInt 1 := ⟨_, rfl⟩
        have b_x_5 : x_5.toInt = v2_1.toInt + 1 := by rw [ex_5]; exact zi_add rfl (show (Int32.ofInt 1).toInt = 1 from by decide) (z_rac b_v2_1 (by decide))
        refine lv_iinc (v := x_5) (lv' := [(2, .int x_5), (0, .ref a), (1, .int p1), (3, .int 10)]) hx hb dJ7_fill_53178_14 hl (k := 2) rfl ex_5.symm (by decide) rfl (fun ls hl => ?_)
        refine lv_goto (tgt := 5) hx hb dJ7_fill_53178_17 (by decide) ?_
        exact ih_1 x_5 f_4 (by first | with_reducible assumption | omega) _ _ _ (by first | with_reducible assumption | omega) (hP.sub (ws' := [(a, .inl (cA_a, 10, .inl f_4))]) [0] rfl) (hD.sub (ws' := [(a, .inl (cA_a, 10, .inl f_4))]) [0] (by decide) rfl) hS (lv_sub hl [1, 2, 0, 3] rfl)
  exact loop_1 12 (0) f_a (by decide) _ _ _ (by decide) hP hD hS (lv_sub hl [2, 3, 1, 0] rfl)
set_option maxHeartbeats 4000000 in
set_option maxRecDepth 100000 in
theorem k_J7_fill_53178_v1 (l : Launch) (sa : Nat → Nat) (dC : Nat → ClassId) (dI : Nat → Nat → Nat) (a : Nat) (p1 : Int32) (cA_a : ClassId) (f_a : Nat → Int32)  (sz : Nat) : Met l yJ7_fill_53178 (.code yJ7_fill_53178 cJ7_fill_53178 4 none :: zT) ({ frames := 0, cells := 0, slots := 0, locals := 0 }) (va_Pc [.ref a, .int p1] (zB sa dC dI [(a, .inl (cA_a, 100, .inl f_a))] [(cA_a, .int)] sz)) (va_Qv (fun _ : Unit => True) (fun _ t => ∃ (n_a : Nat → Int32), zW dC dI [(a, .inl (cA_a, 100, .inl n_a))] [] (va_A [(a, .inl (cA_a, 100, .inl f_a))] sz) t) (va_A [(a, .inl (cA_a, 100, .inl f_a))] sz)) 0 0 (va_A [(a, .inl (cA_a, 100, .inl f_a))] sz) := by
  refine z_enter (by decide) (by exact (Nat.le_of_ble_eq_true rfl)) ?_
  intro p e s m args below meth c ls A R Qc hargs hsz hQe hAe hRe hx hb hml hr hts hown hlocks hin hl hP hK hD hN hXs hA hS
  rw [hAe] at hQe
  have hown : s.vm.findClass RJ7 = some m.cls := hown
  have hl : lv_has ls 4 [(0, .ref a), (1, .int p1)] := hl
  refine lv_iconst (v := 0) hx hb dJ7_fill_53178_0 (by decide) ?_
  refine lv_istore_n (lv' := [(2, .int 0), (0, .ref a), (1, .int p1)]) hx hb dJ7_fill_53178_1 rfl hl (by decide) rfl (fun ls hl => ?_)
  refine lv_aload_n hx hb dJ7_fill_53178_2 rfl (lv_at hl 1 rfl) ?_
  refine va_alen (v := 100) hx hb hK hP 0 0 rfl rfl (show Int32.ofNat 100 = 100 from by decide) dJ7_fill_53178_3 ?_
  refine lv_istore_n (lv' := [(3, .int 100), (2, .int 0), (0, .ref a), (1, .int p1)]) hx hb dJ7_fill_53178_4 rfl hl (by decide) rfl (fun ls hl => ?_)
  have loop_1 : ∀ (t : Nat) (v2_1 : Int32) (g_a_2 : Nat → Int32) (b_v2_1 : 0 ≤ v2_1.toInt ∧ v2_1.toInt ≤ 100) (H : Heap) (locs : List Loc) (ls : Array Slot), 100 - v2_1.toInt < (t : Int) → va_P (dC, dI) vwCl [(a, .inl (cA_a, 100, .inl g_a_2))] H → va_D A [(a, .inl (cA_a, 100, .inl g_a_2))] → va_S A s.heap H locs → lv_has ls 4 [(0, .ref a), (1, .int p1), (2, .int v2_1), (3, .int 100)] → W p l e R s m args below meth c H locs 0 0 (MQ below Qc args s 0 0 A) (F0 m 5 ls []) := by
    intro t
    induction t with
    | zero => intro v2_1 g_a_2 b_v2_1 H locs ls hmu _ _ _ _; exact absurd hmu (by first | with_reducible assumption | omega)
    | succ t ih_1 =>
      intro v2_1 g_a_2 b_v2_1 H locs ls hmu hP hD hS hl
      refine lv_iload_n hx hb dJ7_fill_53178_5 rfl (lv_at hl 2 rfl) ?_
      refine lv_iload_n hx hb dJ7_fill_53178_6 rfl (lv_at hl 3 rfl) ?_
      refine lv_icmp_ge (tgt := 20) hx hb dJ7_fill_53178_7 (by decide) (fun c_3 => ?_) (fun c_3 => ?_)
      · have ic_3 := zz_ge rfl (show Int32.toInt 100 = 100 from by decide) c_3
        exact W.vret hx hb hr (fun t ht hW => by rw [← hQe]; exact ⟨⟨(), rfl, trivial, ⟨g_a_2, z_ret hP hK hD ht hW [0] [] rfl (by decide) rfl⟩⟩, hS.F ht⟩) hS.2.2 dJ7_fill_53178_20
      · have ic_3 := zz_nge rfl (show Int32.toInt 100 = 100 from by decide) c_3
        refine lv_aload_n hx hb dJ7_fill_53178_10 rfl (lv_at hl 0 rfl) ?_
        refine lv_iload_n hx hb dJ7_fill_53178_11 rfl (lv_at hl 2 rfl) ?_
        refine lv_iload_n hx hb dJ7_fill_53178_12 rfl (lv_at hl 1 rfl) ?_
        refine va_iast hx hb hK hP hD hS 0 0 rfl rfl (zi_in rfl (by first | exact z_rin b_v2_1 (by decide) | omega)) dJ7_fill_53178_13 (fun H locs hP hD hS => ?_)
        obtain ⟨f_4, ef_4⟩ : ∃ g : Nat → Int32, g = upd g_a_2 (Int32.toNatClampNeg v2_1) p1 := ⟨_, rfl⟩
        have hP : va_P (dC, dI) vwCl [(a, .inl (cA_a, 100, .inl (upd g_a_2 (Int32.toNatClampNeg v2_1) p1)))] H := hP
        have hD : va_D A [(a, .inl (cA_a, 100, .inl (upd g_a_2 (Int32.toNatClampNeg v2_1) p1)))] := hD
        rw [← ef_4] at hP hD
        obtain ⟨x_5, ex_5⟩ : ∃ z : Int32, z = v2_1 + Int32.ofInt 1 := ⟨_, rfl⟩
        have b_x_5 : x_5.toInt = v2_1.toInt + 1 := by rw [ex_5]; exact zi_add rfl (show (Int32.ofInt 1).toInt = 1 from by decide) (z_rac b_v2_1 (by decide))
        refine lv_iinc (v := x_5) (lv' := [(2, .int x_5), (0, .ref a), (1, .int p1), (3, .int 100)]) hx hb dJ7_fill_53178_14 hl (k := 2) rfl ex_5.symm (by decide) rfl (fun ls hl => ?_)
        refine lv_goto (tgt := 5) hx hb dJ7_fill_53178_17 (by decide) ?_
        exact ih_1 x_5 f_4 (by first | with_reducible assumption | omega) _ _ _ (by first | with_reducible assumption | omega) (hP.sub (ws' := [(a, .inl (cA_a, 100, .inl f_4))]) [0] rfl) (hD.sub (ws' := [(a, .inl (cA_a, 100, .inl f_4))]) [0] (by decide) rfl) hS (lv_sub hl [1, 2, 0, 3] rfl)
  exact loop_1 102 (0) f_a (by decide) _ _ _ (by decide) hP hD hS (lv_sub hl [2, 3, 1, 0] rfl)
set_option maxHeartbeats 4000000 in
set_option maxRecDepth 100000 in
theorem k_J7_fill_53178_v2 (l : Launch) (sa : Nat → Nat) (dC : Nat → ClassId) (dI : Nat → Nat → Nat) (a : Nat) (p1 : Int32) (cA_a : ClassId) (f_a : Nat → Int32) (b_p1 : 0 ≤ p1.toInt ∧ p1.toInt ≤ 1001) (b_f_a : ∀ j : Nat, 0 ≤ (f_a j).toInt ∧ (f_a j).toInt ≤ 1001) (sz : Nat) : Met l yJ7_fill_53178 (.code yJ7_fill_53178 cJ7_fill_53178 4 none :: zT) ({ frames := 0, cells := 0, slots := 0, locals := 0 }) (va_Pc [.ref a, .int p1] (zB sa dC dI [(a, .inl (cA_a, 10, .inl f_a))] [(cA_a, .int)] sz)) (va_Qv (fun _ : Unit => True) (fun _ t => ∃ (n_a : Nat → Int32), (∀ j : Nat, 0 ≤ (n_a j).toInt ∧ (n_a j).toInt ≤ 1001) ∧ zW dC dI [(a, .inl (cA_a, 10, .inl n_a))] [] (va_A [(a, .inl (cA_a, 10, .inl f_a))] sz) t) (va_A [(a, .inl (cA_a, 10, .inl f_a))] sz)) 0 0 (va_A [(a, .inl (cA_a, 10, .inl f_a))] sz) := by
  refine z_enter (by decide) (by exact (Nat.le_of_ble_eq_true rfl)) ?_
  intro p e s m args below meth c ls A R Qc hargs hsz hQe hAe hRe hx hb hml hr hts hown hlocks hin hl hP hK hD hN hXs hA hS
  rw [hAe] at hQe
  have hown : s.vm.findClass RJ7 = some m.cls := hown
  have hl : lv_has ls 4 [(0, .ref a), (1, .int p1)] := hl
  refine lv_iconst (v := 0) hx hb dJ7_fill_53178_0 (by decide) ?_
  refine lv_istore_n (lv' := [(2, .int 0), (0, .ref a), (1, .int p1)]) hx hb dJ7_fill_53178_1 rfl hl (by decide) rfl (fun ls hl => ?_)
  refine lv_aload_n hx hb dJ7_fill_53178_2 rfl (lv_at hl 1 rfl) ?_
  refine va_alen (v := 10) hx hb hK hP 0 0 rfl rfl (show Int32.ofNat 10 = 10 from by decide) dJ7_fill_53178_3 ?_
  refine lv_istore_n (lv' := [(3, .int 10), (2, .int 0), (0, .ref a), (1, .int p1)]) hx hb dJ7_fill_53178_4 rfl hl (by decide) rfl (fun ls hl => ?_)
  have loop_1 : ∀ (t : Nat) (v2_1 : Int32) (g_a_2 : Nat → Int32) (b_v2_1 : 0 ≤ v2_1.toInt ∧ v2_1.toInt ≤ 10) (b_g_a_2 : ∀ j : Nat, 0 ≤ (g_a_2 j).toInt ∧ (g_a_2 j).toInt ≤ 1001) (H : Heap) (locs : List Loc) (ls : Array Slot), 10 - v2_1.toInt < (t : Int) → va_P (dC, dI) vwCl [(a, .inl (cA_a, 10, .inl g_a_2))] H → va_D A [(a, .inl (cA_a, 10, .inl g_a_2))] → va_S A s.heap H locs → lv_has ls 4 [(0, .ref a), (1, .int p1), (2, .int v2_1), (3, .int 10)] → W p l e R s m args below meth c H locs 0 0 (MQ below Qc args s 0 0 A) (F0 m 5 ls []) := by
    intro t
    induction t with
    | zero => intro v2_1 g_a_2 b_v2_1 b_g_a_2 H locs ls hmu _ _ _ _; exact absurd hmu (by first | with_reducible assumption | omega)
    | succ t ih_1 =>
      intro v2_1 g_a_2 b_v2_1 b_g_a_2 H locs ls hmu hP hD hS hl
      refine lv_iload_n hx hb dJ7_fill_53178_5 rfl (lv_at hl 2 rfl) ?_
      refine lv_iload_n hx hb dJ7_fill_53178_6 rfl (lv_at hl 3 rfl) ?_
      refine lv_icmp_ge (tgt := 20) hx hb dJ7_fill_53178_7 (by decide) (fun c_3 => ?_) (fun c_3 => ?_)
      · have ic_3 := zz_ge rfl (show Int32.toInt 10 = 10 from by decide) c_3
        exact W.vret hx hb hr (fun t ht hW => by rw [← hQe]; exact ⟨⟨(), rfl, trivial, ⟨g_a_2, b_g_a_2, z_ret hP hK hD ht hW [0] [] rfl (by decide) rfl⟩⟩, hS.F ht⟩) hS.2.2 dJ7_fill_53178_20
      · have ic_3 := zz_nge rfl (show Int32.toInt 10 = 10 from by decide) c_3
        refine lv_aload_n hx hb dJ7_fill_53178_10 rfl (lv_at hl 0 rfl) ?_
        refine lv_iload_n hx hb dJ7_fill_53178_11 rfl (lv_at hl 2 rfl) ?_
        refine lv_iload_n hx hb dJ7_fill_53178_12 rfl (lv_at hl 1 rfl) ?_
        refine va_iast hx hb hK hP hD hS 0 0 rfl rfl (zi_in rfl (by first | exact z_rin b_v2_1 (by decide) | omega)) dJ7_fill_53178_13 (fun H locs hP hD hS => ?_)
        obtain ⟨f_4, ef_4⟩ : ∃ g : Nat → Int32, g = upd g_a_2 (Int32.toNatClampNeg v2_1) p1 := ⟨_, rfl⟩
        have b_f_4 : ∀ j : Nat, 0 ≤ (f_4 j).toInt ∧ (f_4 j).toInt ≤ 1001 := by rw [ef_4]; exact zi_upd b_g_a_2 rfl (by first | with_reducible assumption | omega)
        have hP : va_P (dC, dI) vwCl [(a, .inl (cA_a, 10, .inl (upd g_a_2 (Int32.toNatClampNeg v2_1) p1)))] H := hP
        have hD : va_D A [(a, .inl (cA_a, 10, .inl (upd g_a_2 (Int32.toNatClampNeg v2_1) p1)))] := hD
        rw [← ef_4] at hP hD
        obtain ⟨x_5, ex_5⟩ : ∃ z : Int32, z = v2_1 + Int32.ofInt 1 := ⟨_, rfl⟩
        have b_x_5 : x_5.toInt = v2_1.toInt + 1 := by rw [ex_5]; exact zi_add rfl (show (Int32.ofInt 1).toInt = 1 from by decide) (z_rac b_v2_1 (by decide))
        refine lv_iinc (v := x_5) (lv' := [(2, .int x_5), (0, .ref a), (1, .int p1), (3, .int 10)]) hx hb dJ7_fill_53178_14 hl (k := 2) rfl ex_5.symm (by decide) rfl (fun ls hl => ?_)
        refine lv_goto (tgt := 5) hx hb dJ7_fill_53178_17 (by decide) ?_
        exact ih_1 x_5 f_4 (by first | with_reducible assumption | omega) b_f_4 _ _ _ (by first | with_reducible assumption | omega) (hP.sub (ws' := [(a, .inl (cA_a, 10, .inl f_4))]) [0] rfl) (hD.sub (ws' := [(a, .inl (cA_a, 10, .inl f_4))]) [0] (by decide) rfl) hS (lv_sub hl [1, 2, 0, 3] rfl)
  exact loop_1 12 (0) f_a (by decide) b_f_a _ _ _ (by decide) hP hD hS (lv_sub hl [2, 3, 1, 0] rfl)
set_option maxHeartbeats 4000000 in
set_option maxRecDepth 100000 in
theorem k_J7_fill_d0a16 (l : Launch) (sa : Nat → Nat) (dC : Nat → ClassId) (dI : Nat → Nat → Nat) (a : Nat) (p1 : Int64) (cA_a : ClassId) (f_a : Nat → Int64)  (sz : Nat) : Met l yJ7_fill_d0a16 (.code yJ7_fill_d0a16 cJ7_fill_d0a16 5 none :: zT) ({ frames := 0, cells := 0, slots := 0, locals := 0 }) (va_Pc [.ref a, .long p1] (zB sa dC dI [(a, .inl (cA_a, 10, .inr (.inl f_a)))] [(cA_a, .long)] sz)) (va_Qv (fun _ : Unit => True) (fun _ t => ∃ (n_a : Nat → Int64), zW dC dI [(a, .inl (cA_a, 10, .inr (.inl n_a)))] [] (va_A [(a, .inl (cA_a, 10, .inr (.inl f_a)))] sz) t) (va_A [(a, .inl (cA_a, 10, .inr (.inl f_a)))] sz)) 0 0 (va_A [(a, .inl (cA_a, 10, .inr (.inl f_a)))] sz) := by
  refine z_enter (by decide) (by exact (Nat.le_of_ble_eq_true rfl)) ?_
  intro p e s m args below meth c ls A R Qc hargs hsz hQe hAe hRe hx hb hml hr hts hown hlocks hin hl hP hK hD hN hXs hA hS
  rw [hAe] at hQe
  have hown : s.vm.findClass RJ7 = some m.cls := hown
  have hl : lv_has ls 5 [(0, .ref a), (1, .long p1)] := hl
  refine lv_iconst (v := 0) hx hb dJ7_fill_d0a16_0 (by decide) ?_
  refine lv_istore_n (lv' := [(3, .int 0), (0, .ref a), (1, .long p1)]) hx hb dJ7_fill_d0a16_1 rfl hl (by decide) rfl (fun ls hl => ?_)
  refine lv_aload_n hx hb dJ7_fill_d0a16_2 rfl (lv_at hl 1 rfl) ?_
  refine va_alen (v := 10) hx hb hK hP 0 0 rfl rfl (show Int32.ofNat 10 = 10 from by decide) dJ7_fill_d0a16_3 ?_
  refine lv_istore (lv' := [(4, .int 10), (3, .int 0), (0, .ref a), (1, .long p1)]) hx hb dJ7_fill_d0a16_4 hl (by decide) rfl (fun ls hl => ?_)
  have loop_1 : ∀ (t : Nat) (v3_1 : Int32) (g_a_2 : Nat → Int64) (b_v3_1 : 0 ≤ v3_1.toInt ∧ v3_1.toInt ≤ 10) (H : Heap) (locs : List Loc) (ls : Array Slot), 10 - v3_1.toInt < (t : Int) → va_P (dC, dI) vwCl [(a, .inl (cA_a, 10, .inr (.inl g_a_2)))] H → va_D A [(a, .inl (cA_a, 10, .inr (.inl g_a_2)))] → va_S A s.heap H locs → lv_has ls 5 [(0, .ref a), (1, .long p1), (3, .int v3_1), (4, .int 10)] → W p l e R s m args below meth c H locs 0 0 (MQ below Qc args s 0 0 A) (F0 m 6 ls []) := by
    intro t
    induction t with
    | zero => intro v3_1 g_a_2 b_v3_1 H locs ls hmu _ _ _ _; exact absurd hmu (by first | with_reducible assumption | omega)
    | succ t ih_1 =>
      intro v3_1 g_a_2 b_v3_1 H locs ls hmu hP hD hS hl
      refine lv_iload_n hx hb dJ7_fill_d0a16_6 rfl (lv_at hl 2 rfl) ?_
      refine lv_iload hx hb dJ7_fill_d0a16_7 (lv_at hl 3 rfl) ?_
      refine lv_icmp_ge (tgt := 22) hx hb dJ7_fill_d0a16_9 (by decide) (fun c_3 => ?_) (fun c_3 => ?_)
      · have ic_3 := zz_ge rfl (show Int32.toInt 10 = 10 from by decide) c_3
        exact W.vret hx hb hr (fun t ht hW => by rw [← hQe]; exact ⟨⟨(), rfl, trivial, ⟨g_a_2, z_ret hP hK hD ht hW [0] [] rfl (by decide) rfl⟩⟩, hS.F ht⟩) hS.2.2 dJ7_fill_d0a16_22
      · have ic_3 := zz_nge rfl (show Int32.toInt 10 = 10 from by decide) c_3
        refine lv_aload_n hx hb dJ7_fill_d0a16_12 rfl (lv_at hl 0 rfl) ?_
        refine lv_iload_n hx hb dJ7_fill_d0a16_13 rfl (lv_at hl 2 rfl) ?_
        refine lv_lload_n hx hb dJ7_fill_d0a16_14 rfl (lv_at hl 1 rfl) ?_
        refine va_last hx hb hK hP hD hS 0 0 rfl rfl (zi_in rfl (by first | with_reducible assumption | omega)) dJ7_fill_d0a16_15 (fun H locs hP hD hS => ?_)
        obtain ⟨f_4, ef_4⟩ : ∃ g : Nat → Int64, g = vp_updL g_a_2 (Int32.toNatClampNeg v3_1) p1 := ⟨_, rfl⟩
        have hP : va_P (dC, dI) vwCl [(a, .inl (cA_a, 10, .inr (.inl (vp_updL g_a_2 (Int32.toNatClampNeg v3_1) p1))))] H := hP
        have hD : va_D A [(a, .inl (cA_a, 10, .inr (.inl (vp_updL g_a_2 (Int32.toNatClampNeg v3_1) p1))))] := hD
        rw [← ef_4] at hP hD
        obtain ⟨x_5, ex_5⟩ : ∃ z : Int32, z = v3_1 + Int32.ofInt 1 := ⟨_, rfl⟩
        have b_x_5 : x_5.toInt = v3_1.toInt + 1 := by rw [ex_5]; exact zi_add rfl (show (Int32.ofInt 1).toInt = 1 from by decide) (z_rac b_v3_1 (by decide))
        refine lv_iinc (v := x_5) (lv' := [(3, .int x_5), (0, .ref a), (1, .long p1), (4, .int 10)]) hx hb dJ7_fill_d0a16_16 hl (k := 2) rfl ex_5.symm (by decide) rfl (fun ls hl => ?_)
        refine lv_goto (tgt := 6) hx hb dJ7_fill_d0a16_19 (by decide) ?_
        exact ih_1 x_5 f_4 (by first | with_reducible assumption | omega) _ _ _ (by first | with_reducible assumption | omega) (hP.sub (ws' := [(a, .inl (cA_a, 10, .inr (.inl f_4)))]) [0] rfl) (hD.sub (ws' := [(a, .inl (cA_a, 10, .inr (.inl f_4)))]) [0] (by decide) rfl) hS (lv_sub hl [1, 2, 0, 3] rfl)
  exact loop_1 12 (0) f_a (by decide) _ _ _ (by decide) hP hD hS (lv_sub hl [2, 3, 1, 0] rfl)
set_option maxHeartbeats 4000000 in
set_option maxRecDepth 100000 in
theorem k_J7_fill_d0a16_v1 (l : Launch) (sa : Nat → Nat) (dC : Nat → ClassId) (dI : Nat → Nat → Nat) (a : Nat) (p1 : Int64) (cA_a : ClassId) (f_a : Nat → Int64)  (sz : Nat) : Met l yJ7_fill_d0a16 (.code yJ7_fill_d0a16 cJ7_fill_d0a16 5 none :: zT) ({ frames := 0, cells := 0, slots := 0, locals := 0 }) (va_Pc [.ref a, .long p1] (zB sa dC dI [(a, .inl (cA_a, 60, .inr (.inl f_a)))] [(cA_a, .long)] sz)) (va_Qv (fun _ : Unit => True) (fun _ t => ∃ (n_a : Nat → Int64), zW dC dI [(a, .inl (cA_a, 60, .inr (.inl n_a)))] [] (va_A [(a, .inl (cA_a, 60, .inr (.inl f_a)))] sz) t) (va_A [(a, .inl (cA_a, 60, .inr (.inl f_a)))] sz)) 0 0 (va_A [(a, .inl (cA_a, 60, .inr (.inl f_a)))] sz) := by
  refine z_enter (by decide) (by exact (Nat.le_of_ble_eq_true rfl)) ?_
  intro p e s m args below meth c ls A R Qc hargs hsz hQe hAe hRe hx hb hml hr hts hown hlocks hin hl hP hK hD hN hXs hA hS
  rw [hAe] at hQe
  have hown : s.vm.findClass RJ7 = some m.cls := hown
  have hl : lv_has ls 5 [(0, .ref a), (1, .long p1)] := hl
  refine lv_iconst (v := 0) hx hb dJ7_fill_d0a16_0 (by decide) ?_
  refine lv_istore_n (lv' := [(3, .int 0), (0, .ref a), (1, .long p1)]) hx hb dJ7_fill_d0a16_1 rfl hl (by decide) rfl (fun ls hl => ?_)
  refine lv_aload_n hx hb dJ7_fill_d0a16_2 rfl (lv_at hl 1 rfl) ?_
  refine va_alen (v := 60) hx hb hK hP 0 0 rfl rfl (show Int32.ofNat 60 = 60 from by decide) dJ7_fill_d0a16_3 ?_
  refine lv_istore (lv' := [(4, .int 60), (3, .int 0), (0, .ref a), (1, .long p1)]) hx hb dJ7_fill_d0a16_4 hl (by decide) rfl (fun ls hl => ?_)
  have loop_1 : ∀ (t : Nat) (v3_1 : Int32) (g_a_2 : Nat → Int64) (b_v3_1 : 0 ≤ v3_1.toInt ∧ v3_1.toInt ≤ 60) (H : Heap) (locs : List Loc) (ls : Array Slot), 60 - v3_1.toInt < (t : Int) → va_P (dC, dI) vwCl [(a, .inl (cA_a, 60, .inr (.inl g_a_2)))] H → va_D A [(a, .inl (cA_a, 60, .inr (.inl g_a_2)))] → va_S A s.heap H locs → lv_has ls 5 [(0, .ref a), (1, .long p1), (3, .int v3_1), (4, .int 60)] → W p l e R s m args below meth c H locs 0 0 (MQ below Qc args s 0 0 A) (F0 m 6 ls []) := by
    intro t
    induction t with
    | zero => intro v3_1 g_a_2 b_v3_1 H locs ls hmu _ _ _ _; exact absurd hmu (by first | with_reducible assumption | omega)
    | succ t ih_1 =>
      intro v3_1 g_a_2 b_v3_1 H locs ls hmu hP hD hS hl
      refine lv_iload_n hx hb dJ7_fill_d0a16_6 rfl (lv_at hl 2 rfl) ?_
      refine lv_iload hx hb dJ7_fill_d0a16_7 (lv_at hl 3 rfl) ?_
      refine lv_icmp_ge (tgt := 22) hx hb dJ7_fill_d0a16_9 (by decide) (fun c_3 => ?_) (fun c_3 => ?_)
      · have ic_3 := zz_ge rfl (show Int32.toInt 60 = 60 from by decide) c_3
        exact W.vret hx hb hr (fun t ht hW => by rw [← hQe]; exact ⟨⟨(), rfl, trivial, ⟨g_a_2, z_ret hP hK hD ht hW [0] [] rfl (by decide) rfl⟩⟩, hS.F ht⟩) hS.2.2 dJ7_fill_d0a16_22
      · have ic_3 := zz_nge rfl (show Int32.toInt 60 = 60 from by decide) c_3
        refine lv_aload_n hx hb dJ7_fill_d0a16_12 rfl (lv_at hl 0 rfl) ?_
        refine lv_iload_n hx hb dJ7_fill_d0a16_13 rfl (lv_at hl 2 rfl) ?_
        refine lv_lload_n hx hb dJ7_fill_d0a16_14 rfl (lv_at hl 1 rfl) ?_
        refine va_last hx hb hK hP hD hS 0 0 rfl rfl (zi_in rfl (by first | with_reducible assumption | omega)) dJ7_fill_d0a16_15 (fun H locs hP hD hS => ?_)
        obtain ⟨f_4, ef_4⟩ : ∃ g : Nat → Int64, g = vp_updL g_a_2 (Int32.toNatClampNeg v3_1) p1 := ⟨_, rfl⟩
        have hP : va_P (dC, dI) vwCl [(a, .inl (cA_a, 60, .inr (.inl (vp_updL g_a_2 (Int32.toNatClampNeg v3_1) p1))))] H := hP
        have hD : va_D A [(a, .inl (cA_a, 60, .inr (.inl (vp_updL g_a_2 (Int32.toNatClampNeg v3_1) p1))))] := hD
        rw [← ef_4] at hP hD
        obtain ⟨x_5, ex_5⟩ : ∃ z : Int32, z = v3_1 + Int32.ofInt 1 := ⟨_, rfl⟩
        have b_x_5 : x_5.toInt = v3_1.toInt + 1 := by rw [ex_5]; exact zi_add rfl (show (Int32.ofInt 1).toInt = 1 from by decide) (z_rac b_v3_1 (by decide))
        refine lv_iinc (v := x_5) (lv' := [(3, .int x_5), (0, .ref a), (1, .long p1), (4, .int 60)]) hx hb dJ7_fill_d0a16_16 hl (k := 2) rfl ex_5.symm (by decide) rfl (fun ls hl => ?_)
        refine lv_goto (tgt := 6) hx hb dJ7_fill_d0a16_19 (by decide) ?_
        exact ih_1 x_5 f_4 (by first | with_reducible assumption | omega) _ _ _ (by first | with_reducible assumption | omega) (hP.sub (ws' := [(a, .inl (cA_a, 60, .inr (.inl f_4)))]) [0] rfl) (hD.sub (ws' := [(a, .inl (cA_a, 60, .inr (.inl f_4)))]) [0] (by decide) rfl) hS (lv_sub hl [1, 2, 0, 3] rfl)
  exact loop_1 62 (0) f_a (by decide) _ _ _ (by decide) hP hD hS (lv_sub hl [2, 3, 1, 0] rfl)
set_option maxHeartbeats 4000000 in
set_option maxRecDepth 100000 in
theorem k_J7_fill_d0a16_v2 (l : Launch) (sa : Nat → Nat) (dC : Nat → ClassId) (dI : Nat → Nat → Nat) (a : Nat) (p1 : Int64) (cA_a : ClassId) (f_a : Nat → Int64)  (sz : Nat) : Met l yJ7_fill_d0a16 (.code yJ7_fill_d0a16 cJ7_fill_d0a16 5 none :: zT) ({ frames := 0, cells := 0, slots := 0, locals := 0 }) (va_Pc [.ref a, .long p1] (zB sa dC dI [(a, .inl (cA_a, 160, .inr (.inl f_a)))] [(cA_a, .long)] sz)) (va_Qv (fun _ : Unit => True) (fun _ t => ∃ (n_a : Nat → Int64), zW dC dI [(a, .inl (cA_a, 160, .inr (.inl n_a)))] [] (va_A [(a, .inl (cA_a, 160, .inr (.inl f_a)))] sz) t) (va_A [(a, .inl (cA_a, 160, .inr (.inl f_a)))] sz)) 0 0 (va_A [(a, .inl (cA_a, 160, .inr (.inl f_a)))] sz) := by
  refine z_enter (by decide) (by exact (Nat.le_of_ble_eq_true rfl)) ?_
  intro p e s m args below meth c ls A R Qc hargs hsz hQe hAe hRe hx hb hml hr hts hown hlocks hin hl hP hK hD hN hXs hA hS
  rw [hAe] at hQe
  have hown : s.vm.findClass RJ7 = some m.cls := hown
  have hl : lv_has ls 5 [(0, .ref a), (1, .long p1)] := hl
  refine lv_iconst (v := 0) hx hb dJ7_fill_d0a16_0 (by decide) ?_
  refine lv_istore_n (lv' := [(3, .int 0), (0, .ref a), (1, .long p1)]) hx hb dJ7_fill_d0a16_1 rfl hl (by decide) rfl (fun ls hl => ?_)
  refine lv_aload_n hx hb dJ7_fill_d0a16_2 rfl (lv_at hl 1 rfl) ?_
  refine va_alen (v := 160) hx hb hK hP 0 0 rfl rfl (show Int32.ofNat 160 = 160 from by decide) dJ7_fill_d0a16_3 ?_
  refine lv_istore (lv' := [(4, .int 160), (3, .int 0), (0, .ref a), (1, .long p1)]) hx hb dJ7_fill_d0a16_4 hl (by decide) rfl (fun ls hl => ?_)
  have loop_1 : ∀ (t : Nat) (v3_1 : Int32) (g_a_2 : Nat → Int64) (b_v3_1 : 0 ≤ v3_1.toInt ∧ v3_1.toInt ≤ 160) (H : Heap) (locs : List Loc) (ls : Array Slot), 160 - v3_1.toInt < (t : Int) → va_P (dC, dI) vwCl [(a, .inl (cA_a, 160, .inr (.inl g_a_2)))] H → va_D A [(a, .inl (cA_a, 160, .inr (.inl g_a_2)))] → va_S A s.heap H locs → lv_has ls 5 [(0, .ref a), (1, .long p1), (3, .int v3_1), (4, .int 160)] → W p l e R s m args below meth c H locs 0 0 (MQ below Qc args s 0 0 A) (F0 m 6 ls []) := by
    intro t
    induction t with
    | zero => intro v3_1 g_a_2 b_v3_1 H locs ls hmu _ _ _ _; exact absurd hmu (by first | with_reducible assumption | omega)
    | succ t ih_1 =>
      intro v3_1 g_a_2 b_v3_1 H locs ls hmu hP hD hS hl
      refine lv_iload_n hx hb dJ7_fill_d0a16_6 rfl (lv_at hl 2 rfl) ?_
      refine lv_iload hx hb dJ7_fill_d0a16_7 (lv_at hl 3 rfl) ?_
      refine lv_icmp_ge (tgt := 22) hx hb dJ7_fill_d0a16_9 (by decide) (fun c_3 => ?_) (fun c_3 => ?_)
      · have ic_3 := zz_ge rfl (show Int32.toInt 160 = 160 from by decide) c_3
        exact W.vret hx hb hr (fun t ht hW => by rw [← hQe]; exact ⟨⟨(), rfl, trivial, ⟨g_a_2, z_ret hP hK hD ht hW [0] [] rfl (by decide) rfl⟩⟩, hS.F ht⟩) hS.2.2 dJ7_fill_d0a16_22
      · have ic_3 := zz_nge rfl (show Int32.toInt 160 = 160 from by decide) c_3
        refine lv_aload_n hx hb dJ7_fill_d0a16_12 rfl (lv_at hl 0 rfl) ?_
        refine lv_iload_n hx hb dJ7_fill_d0a16_13 rfl (lv_at hl 2 rfl) ?_
        refine lv_lload_n hx hb dJ7_fill_d0a16_14 rfl (lv_at hl 1 rfl) ?_
        refine va_last hx hb hK hP hD hS 0 0 rfl rfl (zi_in rfl (by first | with_reducible assumption | omega)) dJ7_fill_d0a16_15 (fun H locs hP hD hS => ?_)
        obtain ⟨f_4, ef_4⟩ : ∃ g : Nat → Int64, g = vp_updL g_a_2 (Int32.toNatClampNeg v3_1) p1 := ⟨_, rfl⟩
        have hP : va_P (dC, dI) vwCl [(a, .inl (cA_a, 160, .inr (.inl (vp_updL g_a_2 (Int32.toNatClampNeg v3_1) p1))))] H := hP
        have hD : va_D A [(a, .inl (cA_a, 160, .inr (.inl (vp_updL g_a_2 (Int32.toNatClampNeg v3_1) p1))))] := hD
        rw [← ef_4] at hP hD
        obtain ⟨x_5, ex_5⟩ : ∃ z : Int32, z = v3_1 + Int32.ofInt 1 := ⟨_, rfl⟩
        have b_x_5 : x_5.toInt = v3_1.toInt + 1 := by rw [ex_5]; exact zi_add rfl (show (Int32.ofInt 1).toInt = 1 from by decide) (z_rac b_v3_1 (by decide))
        refine lv_iinc (v := x_5) (lv' := [(3, .int x_5), (0, .ref a), (1, .long p1), (4, .int 160)]) hx hb dJ7_fill_d0a16_16 hl (k := 2) rfl ex_5.symm (by decide) rfl (fun ls hl => ?_)
        refine lv_goto (tgt := 6) hx hb dJ7_fill_d0a16_19 (by decide) ?_
        exact ih_1 x_5 f_4 (by first | with_reducible assumption | omega) _ _ _ (by first | with_reducible assumption | omega) (hP.sub (ws' := [(a, .inl (cA_a, 160, .inr (.inl f_4)))]) [0] rfl) (hD.sub (ws' := [(a, .inl (cA_a, 160, .inr (.inl f_4)))]) [0] (by decide) rfl) hS (lv_sub hl [1, 2, 0, 3] rfl)
  exact loop_1 162 (0) f_a (by decide) _ _ _ (by decide) hP hD hS (lv_sub hl [2, 3, 1, 0] rfl)
set_option maxHeartbeats 4000000 in
set_option maxRecDepth 100000 in
theorem k_X6_isThere (l : Launch) (sa : Nat → Nat) (dC : Nat → ClassId) (dI : Nat → Nat → Nat) (rw : Nat) (rw_width : Int32) (rw_size : Int32) (rw_numbers : Nat) (b_rw_size : 0 ≤ rw_size.toInt ∧ rw_size.toInt ≤ 60) (sz : Nat) : Met l yX6_isThere (.code yX6_isThere cX6_isThere 1 (some .boolean) :: zT) ({ frames := 0, cells := 0, slots := 0, locals := 0 }) (va_Pc [.ref rw] (zB sa dC dI (zV6 rw rw_width rw_size rw_numbers) [] sz)) (va_Qi (fun (r : Int32) (_ : Unit) => (0 ≤ r.toInt ∧ r.toInt ≤ 1)) (fun _ t => zW dC dI (zV6 rw rw_width rw_size rw_numbers) [] (va_A (zV6 rw rw_width rw_size rw_numbers) sz) t) (va_A (zV6 rw rw_width rw_size rw_numbers) sz)) 0 0 (va_A (zV6 rw rw_width rw_size rw_numbers) sz) := by
  refine z_enter (by decide) (by exact (Nat.le_of_ble_eq_true rfl)) ?_
  intro p e s m args below meth c ls A R Qc hargs hsz hQe hAe hRe hx hb hml hr hts hown hlocks hin hl hP hK hD hN hXs hA hS
  rw [hAe] at hQe
  have hown : s.vm.findClass RX6 = some m.cls := hown
  have hl : lv_has ls 1 [(0, .ref rw)] := hl
  refine lv_aload_n hx hb dX6_isThere_0 rfl (lv_at hl 0 rfl) ?_
  refine va_get (D := (dC, dI)) (ci := 6) (v := .int rw_width) (C := RX6) (T := TX6) (N := 3) hx hb hts zl_X6 hown hK hP 0 rfl rfl 0 (by decide) (hts _ zw_t2_175) (fun _ h9 => h9) rfl dX6_isThere_1 ?_
  refine lv_iconst (v := (-1)) hx hb dX6_isThere_4 (by decide) ?_
  have nb_rw_width := zi_nb rw_width
  refine lv_icmp_eq (tgt := 12) hx hb dX6_isThere_5 (by decide) (fun c_1 => ?_) (fun c_1 => ?_)
  · have ic_1 := zz_eq rfl (show Int32.toInt (-1) = (-1) from by decide) c_1
    refine lv_iconst (v := 0) hx hb dX6_isThere_12 (by decide) ?_
    exact W.zret (v := 0) hx hb hr (by decide) (fun t ht hW => by rw [← hQe]; exact ⟨⟨0, (), rfl, (by decide), z_ret hP hK hD ht hW [0] [] rfl (by decide) rfl⟩, hS.F ht⟩) hS.2.2 dX6_isThere_13
  · have ic_1 := zz_neq rfl (show Int32.toInt (-1) = (-1) from by decide) c_1
    refine lv_iconst (v := 1) hx hb dX6_isThere_8 (by decide) ?_
    refine lv_goto (tgt := 13) hx hb dX6_isThere_9 (by decide) ?_
    exact W.zret (v := 1) hx hb hr (by decide) (fun t ht hW => by rw [← hQe]; exact ⟨⟨1, (), rfl, (by decide), z_ret hP hK hD ht hW [0] [] rfl (by decide) rfl⟩, hS.F ht⟩) hS.2.2 dX6_isThere_13
set_option maxHeartbeats 4000000 in
set_option maxRecDepth 100000 in
theorem k_X6_make (l : Launch) (sa : Nat → Nat) (dC : Nat → ClassId) (dI : Nat → Nat → Nat) (rw : Nat) (p1 : Int32) (p2 : Int32) (rw_width : Int32) (rw_size : Int32) (rw_numbers : Nat) (cA_rw_numbers : ClassId) (f_rw_numbers : Nat → Int64) (b_p2 : 0 ≤ p2.toInt ∧ p2.toInt ≤ 60) (b_rw_size : 0 ≤ rw_size.toInt ∧ rw_size.toInt ≤ 60) (sz : Nat) : Met l yX6_make (.code yX6_make cX6_make 3 none :: zT) ({ frames := 1, cells := 0, slots := 0, locals := 24 }) (va_Pc [.ref rw, .int p1, .int p2] (zB sa dC dI (zV7 rw rw_width rw_size rw_numbers rw_numbers cA_rw_numbers f_rw_numbers) [(cA_rw_numbers, .long)] sz)) (va_Qv (fun _ : Unit => True) (fun _ t => ∃ (n_rw_0 : Int32) (n_rw_1 : Int32) (n_rw_numbers : Nat → Int64), (0 ≤ n_rw_1.toInt ∧ n_rw_1.toInt ≤ 60) ∧ zW dC dI (zV7 rw n_rw_0 n_rw_1 rw_numbers rw_numbers cA_rw_numbers n_rw_numbers) [] (va_A (zV7 rw rw_width rw_size rw_numbers rw_numbers cA_rw_numbers f_rw_numbers) sz) t) (va_A (zV7 rw rw_width rw_size rw_numbers rw_numbers cA_rw_numbers f_rw_numbers) sz)) 0 0 (va_A (zV7 rw rw_width rw_size rw_numbers rw_numbers cA_rw_numbers f_rw_numbers) sz) := by
  refine z_enter (by decide) (by exact (Nat.le_of_ble_eq_true rfl)) ?_
  intro p e s m args below meth c ls A R Qc hargs hsz hQe hAe hRe hx hb hml hr hts hown hlocks hin hl hP hK hD hN hXs hA hS
  rw [hAe] at hQe
  have hown : s.vm.findClass RX6 = some m.cls := hown
  have hl : lv_has ls 3 [(0, .ref rw), (1, .int p1), (2, .int p2)] := hl
  refine lv_aload_n hx hb dX6_make_0 rfl (lv_at hl 0 rfl) ?_
  refine lv_iload_n hx hb dX6_make_1 rfl (lv_at hl 1 rfl) ?_
  refine va_put (D := (dC, dI)) (ci := 6) (v := .int p1) (ty := .int) (C := RX6) (T := TX6) (N := 3) hx hb hts zl_X6 tyX6 tyX6_ok nmX6 hown hK hP hD hS 0 rfl rfl 0 (by decide) (hts _ zw_t2_175) (fun _ h9 => h9) rfl (by decide +kernel) rfl rfl (Nat.le_of_ble_eq_true rfl) dX6_make_2 (fun H locs hP hD hS => ?_)
  have hP : va_P (dC, dI) vwCl (zV7 rw p1 rw_size rw_numbers rw_numbers cA_rw_numbers f_rw_numbers) H := hP
  have hD : va_D A (zV7 rw p1 rw_size rw_numbers rw_numbers cA_rw_numbers f_rw_numbers) := hD
  refine lv_aload_n hx hb dX6_make_5 rfl (lv_at hl 0 rfl) ?_
  refine lv_iload_n hx hb dX6_make_6 rfl (lv_at hl 2 rfl) ?_
  refine va_put (D := (dC, dI)) (ci := 6) (v := .int p2) (ty := .int) (C := RX6) (T := TX6) (N := 3) hx hb hts zl_X6 tyX6 tyX6_ok nmX6 hown hK hP hD hS 0 rfl rfl 1 (by decide) (hts _ zw_t2_178) (fun _ h9 => h9) rfl (by decide +kernel) rfl rfl (Nat.le_of_ble_eq_true rfl) dX6_make_7 (fun H locs hP hD hS => ?_)
  have hP : va_P (dC, dI) vwCl (zV7 rw p1 p2 rw_numbers rw_numbers cA_rw_numbers f_rw_numbers) H := hP
  have hD : va_D A (zV7 rw p1 p2 rw_numbers rw_numbers cA_rw_numbers f_rw_numbers) := hD
  refine lv_aload_n hx hb dX6_make_10 rfl (lv_at hl 0 rfl) ?_
  refine va_get (D := (dC, dI)) (ci := 6) (v := .ref rw_numbers) (C := RX6) (T := TX6) (N := 3) hx hb hts zl_X6 hown hK hP 0 rfl rfl 2 (by decide) (hts _ zw_t2_179) (fun _ h9 => h9) rfl dX6_make_11 ?_
  refine lv_lconst (v := 0) hx hb dX6_make_14 (by decide) ?_
  obtain ⟨hPc, hDc, hFc⟩ := z_cut (wc := [(rw_numbers, .inl (cA_rw_numbers, 60, .inr (.inl f_rw_numbers)))]) hP hD hS hA [1] rfl (by decide +kernel)
  have hKc := hK.sub (tys' := [(cA_rw_numbers, .long)]) [0] rfl
  refine va_callv (va_runS (As := [.ref rw_numbers, .long 0]) (rest := []) ⟨hx, hb, hml, hown, hts⟩ (k_J7_fill_d0a16_v1 l sa dC dI rw_numbers (0) cA_rw_numbers f_rw_numbers H.size) (va_cwS 2 hts (z_gS zw_t6_75 zw_t4_128 zw_t1_19 zw_t4_129) rfl rfl rfl (by decide +kernel) (by rw [← hRe]; exact ⟨(Nat.le_of_ble_eq_true rfl), (Nat.le_of_ble_eq_true rfl)⟩)) (z_preS hPc hKc hDc hN hXs hS hFc) rfl rfl hl.1 rfl (lv_room (Nat.le_of_ble_eq_true rfl)) dX6_make_15 (by rw [← hRe]; exact ⟨(Nat.le_of_ble_eq_true rfl), (Nat.le_of_ble_eq_true rfl)⟩)) hS (fun q _ h => hFc q h) hFc (fun u t H1 locs ht hvm hw hB hz1 hk1 hS => ?_)
  obtain ⟨n_a_2, hB⟩ := hB
  obtain ⟨hP, hD, hK⟩ := z_after3 (wn := (zV7 rw p1 p2 rw_numbers rw_numbers cA_rw_numbers n_a_2)) hB ht hvm hP hD hK [1] [0] rfl 2 rfl (by decide +kernel) rfl (by decide +kernel) hk1 hFc
  generalize H1 = H at hP hS ⊢
  have hK : va_K (dC, dI) vwCl [(cA_rw_numbers, .long)] s := hK
  exact W.vret hx hb hr (fun t ht hW => by rw [← hQe]; exact ⟨⟨(), rfl, trivial, ⟨p1, p2, n_a_2, (by first | with_reducible assumption | omega), z_ret hP hK hD ht hW [0, 1] [] rfl (by decide) rfl⟩⟩, hS.F ht⟩) hS.2.2 dX6_make_18
set_option maxHeartbeats 4000000 in
set_option maxRecDepth 100000 in
theorem k_X6_hasSpan (l : Launch) (sa : Nat → Nat) (dC : Nat → ClassId) (dI : Nat → Nat → Nat) (rw : Nat) (p1 : Int32) (p2 : Int32) (rw_width : Int32) (rw_size : Int32) (rw_numbers : Nat) (b_rw_size : 0 ≤ rw_size.toInt ∧ rw_size.toInt ≤ 60) (sz : Nat) : Met l yX6_hasSpan (.code yX6_hasSpan cX6_hasSpan 3 (some .boolean) :: zT) ({ frames := 0, cells := 0, slots := 0, locals := 0 }) (va_Pc [.ref rw, .int p1, .int p2] (zB sa dC dI (zV6 rw rw_width rw_size rw_numbers) [] sz)) (va_Qi (fun (r : Int32) (_ : Unit) => (0 ≤ r.toInt ∧ r.toInt ≤ 1) ∧ (r.toInt = 0 ∨ (0 ≤ p1.toInt ∧ 0 ≤ p2.toInt ∧ p1.toInt + p2.toInt ≤ 60))) (fun _ t => zW dC dI (zV6 rw rw_width rw_size rw_numbers) [] (va_A (zV6 rw rw_width rw_size rw_numbers) sz) t) (va_A (zV6 rw rw_width rw_size rw_numbers) sz)) 0 0 (va_A (zV6 rw rw_width rw_size rw_numbers) sz) := by
  refine z_enter (by decide) (by exact (Nat.le_of_ble_eq_true rfl)) ?_
  intro p e s m args below meth c ls A R Qc hargs hsz hQe hAe hRe hx hb hml hr hts hown hlocks hin hl hP hK hD hN hXs hA hS
  rw [hAe] at hQe
  have hown : s.vm.findClass RX6 = some m.cls := hown
  have hl : lv_has ls 3 [(0, .ref rw), (1, .int p1), (2, .int p2)] := hl
  refine lv_iload_n hx hb dX6_hasSpan_0 rfl (lv_at hl 1 rfl) ?_
  have nb_p1 := zi_nb p1
  refine lv_if_lt (tgt := 30) hx hb dX6_hasSpan_1 (by decide) (fun c_1 => ?_) (fun c_1 => ?_)
  · have ic_1 := zz_lt rfl (show Int32.toInt 0 = 0 from by decide) c_1
    refine lv_iconst (v := 0) hx hb dX6_hasSpan_30 (by decide) ?_
    have zc : Int32.toInt 0 = 0 := by decide
    exact W.zret (v := 0) hx hb hr (by decide) (fun t ht hW => by rw [← hQe]; exact ⟨⟨0, (), rfl, (by first | decide | omega), z_ret hP hK hD ht hW [0] [] rfl (by decide) rfl⟩, hS.F ht⟩) hS.2.2 dX6_hasSpan_31
  · have ic_1 := zz_nlt rfl (show Int32.toInt 0 = 0 from by decide) c_1
    refine lv_iload_n hx hb dX6_hasSpan_4 rfl (lv_at hl 2 rfl) ?_
    have nb_p2 := zi_nb p2
    refine lv_if_lt (tgt := 30) hx hb dX6_hasSpan_5 (by decide) (fun c_2 => ?_) (fun c_2 => ?_)
    · have ic_2 := zz_lt rfl (show Int32.toInt 0 = 0 from by decide) c_2
      refine lv_iconst (v := 0) hx hb dX6_hasSpan_30 (by decide) ?_
      have zc : Int32.toInt 0 = 0 := by decide
      exact W.zret (v := 0) hx hb hr (by decide) (fun t ht hW => by rw [← hQe]; exact ⟨⟨0, (), rfl, (by first | decide | omega), z_ret hP hK hD ht hW [0] [] rfl (by decide) rfl⟩, hS.F ht⟩) hS.2.2 dX6_hasSpan_31
    · have ic_2 := zz_nlt rfl (show Int32.toInt 0 = 0 from by decide) c_2
      refine lv_iload_n hx hb dX6_hasSpan_8 rfl (lv_at hl 2 rfl) ?_
      refine lv_aload_n hx hb dX6_hasSpan_9 rfl (lv_at hl 0 rfl) ?_
      refine va_get (D := (dC, dI)) (ci := 6) (v := .int rw_size) (C := RX6) (T := TX6) (N := 3) hx hb hts zl_X6 hown hK hP 0 rfl rfl 1 (by decide) (hts _ zw_t2_178) (fun _ h9 => h9) rfl dX6_hasSpan_10 ?_
      refine lv_icmp_gt (tgt := 30) hx hb dX6_hasSpan_13 (by decide) (fun c_3 => ?_) (fun c_3 => ?_)
      · have ic_3 := zz_gt rfl rfl c_3
        refine lv_iconst (v := 0) hx hb dX6_hasSpan_30 (by decide) ?_
        have zc : Int32.toInt 0 = 0 := by decide
        exact W.zret (v := 0) hx hb hr (by decide) (fun t ht hW => by rw [← hQe]; exact ⟨⟨0, (), rfl, (by first | decide | omega), z_ret hP hK hD ht hW [0] [] rfl (by decide) rfl⟩, hS.F ht⟩) hS.2.2 dX6_hasSpan_31
      · have ic_3 := zz_ngt rfl rfl c_3
        refine lv_iload_n hx hb dX6_hasSpan_16 rfl (lv_at hl 1 rfl) ?_
        refine lv_aload_n hx hb dX6_hasSpan_17 rfl (lv_at hl 0 rfl) ?_
        refine va_get (D := (dC, dI)) (ci := 6) (v := .int rw_size) (C := RX6) (T := TX6) (N := 3) hx hb hts zl_X6 hown hK hP 0 rfl rfl 1 (by decide) (hts _ zw_t2_178) (fun _ h9 => h9) rfl dX6_hasSpan_18 ?_
        refine lv_iload_n hx hb dX6_hasSpan_21 rfl (lv_at hl 2 rfl) ?_
        refine lv_isub hx hb dX6_hasSpan_22 ?_
        refine lv_topi (fun x_4 ex_4 => ?_)
        have b_x_4 : x_4.toInt = rw_size.toInt - p2.toInt := by rw [ex_4]; exact zi_sub rfl rfl (by first | with_reducible assumption | omega)
        refine lv_icmp_gt (tgt := 30) hx hb dX6_hasSpan_23 (by decide) (fun c_5 => ?_) (fun c_5 => ?_)
        · have ic_5 := zz_gt rfl rfl c_5
          refine lv_iconst (v := 0) hx hb dX6_hasSpan_30 (by decide) ?_
          have zc : Int32.toInt 0 = 0 := by decide
          exact W.zret (v := 0) hx hb hr (by decide) (fun t ht hW => by rw [← hQe]; exact ⟨⟨0, (), rfl, (by first | decide | omega), z_ret hP hK hD ht hW [0] [] rfl (by decide) rfl⟩, hS.F ht⟩) hS.2.2 dX6_hasSpan_31
        · have ic_5 := zz_ngt rfl rfl c_5
          refine lv_iconst (v := 1) hx hb dX6_hasSpan_26 (by decide) ?_
          refine lv_goto (tgt := 31) hx hb dX6_hasSpan_27 (by decide) ?_
          have zc : Int32.toInt 1 = 1 := by decide
          exact W.zret (v := 1) hx hb hr (by decide) (fun t ht hW => by rw [← hQe]; exact ⟨⟨1, (), rfl, (by first | decide | omega), z_ret hP hK hD ht hW [0] [] rfl (by decide) rfl⟩, hS.F ht⟩) hS.2.2 dX6_hasSpan_31
set_option maxHeartbeats 4000000 in
set_option maxRecDepth 100000 in
theorem k_X6_put (l : Launch) (sa : Nat → Nat) (dC : Nat → ClassId) (dI : Nat → Nat → Nat) (rw : Nat) (p1 : Int32) (p2 : Int64) (rw_width : Int32) (rw_size : Int32) (rw_numbers : Nat) (cA_rw_numbers : ClassId) (f_rw_numbers : Nat → Int64) (b_p1 : 0 ≤ p1.toInt ∧ p1.toInt ≤ 59) (b_rw_size : 0 ≤ rw_size.toInt ∧ rw_size.toInt ≤ 60) (sz : Nat) : Met l yX6_put (.code yX6_put cX6_put 4 none :: zT) ({ frames := 0, cells := 0, slots := 0, locals := 0 }) (va_Pc [.ref rw, .int p1, .long p2] (zB sa dC dI (zV7 rw rw_width rw_size rw_numbers rw_numbers cA_rw_numbers f_rw_numbers) [(cA_rw_numbers, .long)] sz)) (va_Qv (fun _ : Unit => True) (fun _ t => ∃ (n_rw_numbers : Nat → Int64), zW dC dI (zV7 rw rw_width rw_size rw_numbers rw_numbers cA_rw_numbers n_rw_numbers) [] (va_A (zV7 rw rw_width rw_size rw_numbers rw_numbers cA_rw_numbers f_rw_numbers) sz) t) (va_A (zV7 rw rw_width rw_size rw_numbers rw_numbers cA_rw_numbers f_rw_numbers) sz)) 0 0 (va_A (zV7 rw rw_width rw_size rw_numbers rw_numbers cA_rw_numbers f_rw_numbers) sz) := by
  refine z_enter (by decide) (by exact (Nat.le_of_ble_eq_true rfl)) ?_
  intro p e s m args below meth c ls A R Qc hargs hsz hQe hAe hRe hx hb hml hr hts hown hlocks hin hl hP hK hD hN hXs hA hS
  rw [hAe] at hQe
  have hown : s.vm.findClass RX6 = some m.cls := hown
  have hl : lv_has ls 4 [(0, .ref rw), (1, .int p1), (2, .long p2)] := hl
  refine lv_aload_n hx hb dX6_put_0 rfl (lv_at hl 0 rfl) ?_
  refine va_get (D := (dC, dI)) (ci := 6) (v := .int rw_width) (C := RX6) (T := TX6) (N := 3) hx hb hts zl_X6 hown hK hP 0 rfl rfl 0 (by decide) (hts _ zw_t2_175) (fun _ h9 => h9) rfl dX6_put_1 ?_
  rcases z_s2 rw_width with q_sw | rfl | rfl | rfl | q_sw
  · refine lv_tableOut (tgt := 70) hx hb dX6_put_4 (by first | with_reducible assumption | omega) (by decide) ?_
    refine lv_aload_n hx hb dX6_put_70 rfl (lv_at hl 0 rfl) ?_
    refine va_get (D := (dC, dI)) (ci := 6) (v := .ref rw_numbers) (C := RX6) (T := TX6) (N := 3) hx hb hts zl_X6 hown hK hP 0 rfl rfl 2 (by decide) (hts _ zw_t2_179) (fun _ h9 => h9) rfl dX6_put_71 ?_
    refine lv_iload_n hx hb dX6_put_74 rfl (lv_at hl 1 rfl) ?_
    refine lv_lload_n hx hb dX6_put_75 rfl (lv_at hl 2 rfl) ?_
    refine va_last hx hb hK hP hD hS 1 0 rfl rfl (zi_in rfl (by first | with_reducible assumption | omega)) dX6_put_76 (fun H locs hP hD hS => ?_)
    obtain ⟨f_1, ef_1⟩ : ∃ g : Nat → Int64, g = vp_updL f_rw_numbers (Int32.toNatClampNeg p1) p2 := ⟨_, rfl⟩
    have hP : va_P (dC, dI) vwCl (zV7 rw rw_width rw_size rw_numbers rw_numbers cA_rw_numbers (vp_updL f_rw_numbers (Int32.toNatClampNeg p1) p2)) H := hP
    have hD : va_D A (zV7 rw rw_width rw_size rw_numbers rw_numbers cA_rw_numbers (vp_updL f_rw_numbers (Int32.toNatClampNeg p1) p2)) := hD
    rw [← ef_1] at hP hD
    exact W.vret hx hb hr (fun t ht hW => by rw [← hQe]; exact ⟨⟨(), rfl, trivial, ⟨f_1, z_ret hP hK hD ht hW [0, 1] [] rfl (by decide) rfl⟩⟩, hS.F ht⟩) hS.2.2 dX6_put_77
  · refine lv_tableIn (tgt := 32) (off := 28) hx hb dX6_put_4 (by decide) (by decide) (by decide) (by decide) ?_
    refine lv_aload_n hx hb dX6_put_32 rfl (lv_at hl 0 rfl) ?_
    refine va_get (D := (dC, dI)) (ci := 6) (v := .ref rw_numbers) (C := RX6) (T := TX6) (N := 3) hx hb hts zl_X6 hown hK hP 0 rfl rfl 2 (by decide) (hts _ zw_t2_179) (fun _ h9 => h9) rfl dX6_put_33 ?_
    refine lv_iload_n hx hb dX6_put_36 rfl (lv_at hl 1 rfl) ?_
    refine lv_lload_n hx hb dX6_put_37 rfl (lv_at hl 2 rfl) ?_
    refine lv_l2i (v := _) hx hb dX6_put_38 rfl ?_
    refine lv_topi (fun x_2 ex_2 => ?_)
    refine lv_i2b (v := _) hx hb dX6_put_39 rfl ?_
    refine lv_topi (fun x_3 ex_3 => ?_)
    refine lv_i2l (v := _) hx hb dX6_put_40 rfl ?_
    refine lv_topl (fun x_4 ex_4 => ?_)
    have b_x_4 : x_4.toInt = x_3.toInt := by rw [ex_4]; exact z_l64 _
    refine va_last hx hb hK hP hD hS 1 0 rfl rfl (zi_in rfl (by first | with_reducible assumption | omega)) dX6_put_41 (fun H locs hP hD hS => ?_)
    obtain ⟨f_5, ef_5⟩ : ∃ g : Nat → Int64, g = vp_updL f_rw_numbers (Int32.toNatClampNeg p1) x_4 := ⟨_, rfl⟩
    have hP : va_P (dC, dI) vwCl [(rw, .inr (6, [.int 0, .int rw_size, .ref rw_numbers])), (rw_numbers, .inl (cA_rw_numbers, 60, .inr (.inl (vp_updL f_rw_numbers (Int32.toNatClampNeg p1) x_4))))] H := hP
    have hD : va_D A [(rw, .inr (6, [.int 0, .int rw_size, .ref rw_numbers])), (rw_numbers, .inl (cA_rw_numbers, 60, .inr (.inl (vp_updL f_rw_numbers (Int32.toNatClampNeg p1) x_4))))] := hD
    rw [← ef_5] at hP hD
    refine lv_goto (tgt := 77) hx hb dX6_put_42 (by decide) ?_
    exact W.vret hx hb hr (fun t ht hW => by rw [← hQe]; exact ⟨⟨(), rfl, trivial, ⟨f_5, z_ret hP hK hD ht hW [0, 1] [] rfl (by decide) rfl⟩⟩, hS.F ht⟩) hS.2.2 dX6_put_77
  · refine lv_tableIn (tgt := 45) (off := 41) hx hb dX6_put_4 (by decide) (by decide) (by decide) (by decide) ?_
    refine lv_aload_n hx hb dX6_put_45 rfl (lv_at hl 0 rfl) ?_
    refine va_get (D := (dC, dI)) (ci := 6) (v := .ref rw_numbers) (C := RX6) (T := TX6) (N := 3) hx hb hts zl_X6 hown hK hP 0 rfl rfl 2 (by decide) (hts _ zw_t2_179) (fun _ h9 => h9) rfl dX6_put_46 ?_
    refine lv_iload_n hx hb dX6_put_49 rfl (lv_at hl 1 rfl) ?_
    refine lv_lload_n hx hb dX6_put_50 rfl (lv_at hl 2 rfl) ?_
    refine lv_l2i (v := _) hx hb dX6_put_51 rfl ?_
    refine lv_topi (fun x_6 ex_6 => ?_)
    refine lv_i2s (v := _) hx hb dX6_put_52 rfl ?_
    refine lv_topi (fun x_7 ex_7 => ?_)
    refine lv_i2l (v := _) hx hb dX6_put_53 rfl ?_
    refine lv_topl (fun x_8 ex_8 => ?_)
    have b_x_8 : x_8.toInt = x_7.toInt := by rw [ex_8]; exact z_l64 _
    refine va_last hx hb hK hP hD hS 1 0 rfl rfl (zi_in rfl (by first | with_reducible assumption | omega)) dX6_put_54 (fun H locs hP hD hS => ?_)
    obtain ⟨f_9, ef_9⟩ : ∃ g : Nat → Int64, g = vp_updL f_rw_numbers (Int32.toNatClampNeg p1) x_8 := ⟨_, rfl⟩
    have hP : va_P (dC, dI) vwCl [(rw, .inr (6, [.int 1, .int rw_size, .ref rw_numbers])), (rw_numbers, .inl (cA_rw_numbers, 60, .inr (.inl (vp_updL f_rw_numbers (Int32.toNatClampNeg p1) x_8))))] H := hP
    have hD : va_D A [(rw, .inr (6, [.int 1, .int rw_size, .ref rw_numbers])), (rw_numbers, .inl (cA_rw_numbers, 60, .inr (.inl (vp_updL f_rw_numbers (Int32.toNatClampNeg p1) x_8))))] := hD
    rw [← ef_9] at hP hD
    refine lv_goto (tgt := 77) hx hb dX6_put_55 (by decide) ?_
    exact W.vret hx hb hr (fun t ht hW => by rw [← hQe]; exact ⟨⟨(), rfl, trivial, ⟨f_9, z_ret hP hK hD ht hW [0, 1] [] rfl (by decide) rfl⟩⟩, hS.F ht⟩) hS.2.2 dX6_put_77
  · refine lv_tableIn (tgt := 58) (off := 54) hx hb dX6_put_4 (by decide) (by decide) (by decide) (by decide) ?_
    refine lv_aload_n hx hb dX6_put_58 rfl (lv_at hl 0 rfl) ?_
    refine va_get (D := (dC, dI)) (ci := 6) (v := .ref rw_numbers) (C := RX6) (T := TX6) (N := 3) hx hb hts zl_X6 hown hK hP 0 rfl rfl 2 (by decide) (hts _ zw_t2_179) (fun _ h9 => h9) rfl dX6_put_59 ?_
    refine lv_iload_n hx hb dX6_put_62 rfl (lv_at hl 1 rfl) ?_
    refine lv_lload_n hx hb dX6_put_63 rfl (lv_at hl 2 rfl) ?_
    refine lv_l2i (v := _) hx hb dX6_put_64 rfl ?_
    refine lv_topi (fun x_10 ex_10 => ?_)
    refine lv_i2l (v := _) hx hb dX6_put_65 rfl ?_
    refine lv_topl (fun x_11 ex_11 => ?_)
    have b_x_11 : x_11.toInt = x_10.toInt := by rw [ex_11]; exact z_l64 _
    refine va_last hx hb hK hP hD hS 1 0 rfl rfl (zi_in rfl (by first | with_reducible assumption | omega)) dX6_put_66 (fun H locs hP hD hS => ?_)
    obtain ⟨f_12, ef_12⟩ : ∃ g : Nat → Int64, g = vp_updL f_rw_numbers (Int32.toNatClampNeg p1) x_11 := ⟨_, rfl⟩
    have hP : va_P (dC, dI) vwCl [(rw, .inr (6, [.int 2, .int rw_size, .ref rw_numbers])), (rw_numbers, .inl (cA_rw_numbers, 60, .inr (.inl (vp_updL f_rw_numbers (Int32.toNatClampNeg p1) x_11))))] H := hP
    have hD : va_D A [(rw, .inr (6, [.int 2, .int rw_size, .ref rw_numbers])), (rw_numbers, .inl (cA_rw_numbers, 60, .inr (.inl (vp_updL f_rw_numbers (Int32.toNatClampNeg p1) x_11))))] := hD
    rw [← ef_12] at hP hD
    refine lv_goto (tgt := 77) hx hb dX6_put_67 (by decide) ?_
    exact W.vret hx hb hr (fun t ht hW => by rw [← hQe]; exact ⟨⟨(), rfl, trivial, ⟨f_12, z_ret hP hK hD ht hW [0, 1] [] rfl (by decide) rfl⟩⟩, hS.F ht⟩) hS.2.2 dX6_put_77
  · refine lv_tableOut (tgt := 70) hx hb dX6_put_4 (by first | with_reducible assumption | omega) (by decide) ?_
    refine lv_aload_n hx hb dX6_put_70 rfl (lv_at hl 0 rfl) ?_
    refine va_get (D := (dC, dI)) (ci := 6) (v := .ref rw_numbers) (C := RX6) (T := TX6) (N := 3) hx hb hts zl_X6 hown hK hP 0 rfl rfl 2 (by decide) (hts _ zw_t2_179) (fun _ h9 => h9) rfl dX6_put_71 ?_
    refine lv_iload_n hx hb dX6_put_74 rfl (lv_at hl 1 rfl) ?_
    refine lv_lload_n hx hb dX6_put_75 rfl (lv_at hl 2 rfl) ?_
    refine va_last hx hb hK hP hD hS 1 0 rfl rfl (zi_in rfl (by first | with_reducible assumption | omega)) dX6_put_76 (fun H locs hP hD hS => ?_)
    obtain ⟨f_13, ef_13⟩ : ∃ g : Nat → Int64, g = vp_updL f_rw_numbers (Int32.toNatClampNeg p1) p2 := ⟨_, rfl⟩
    have hP : va_P (dC, dI) vwCl (zV7 rw rw_width rw_size rw_numbers rw_numbers cA_rw_numbers (vp_updL f_rw_numbers (Int32.toNatClampNeg p1) p2)) H := hP
    have hD : va_D A (zV7 rw rw_width rw_size rw_numbers rw_numbers cA_rw_numbers (vp_updL f_rw_numbers (Int32.toNatClampNeg p1) p2)) := hD
    rw [← ef_13] at hP hD
    exact W.vret hx hb hr (fun t ht hW => by rw [← hQe]; exact ⟨⟨(), rfl, trivial, ⟨f_13, z_ret hP hK hD ht hW [0, 1] [] rfl (by decide) rfl⟩⟩, hS.F ht⟩) hS.2.2 dX6_put_77
set_option maxHeartbeats 4000000 in
set_option maxRecDepth 100000 in
theorem k_X3_take (l : Launch) (sa : Nat → Nat) (dC : Nat → ClassId) (dI : Nat → Nat → Nat) (nw : Nat) (ot : Nat) (nw_isKept : Int32) (it : Nat) (nw_strayed : Int32) (nw_names : Int32) (nw_known : Int32) (nw_gone : Int32) (ot_isKept : Int32) (ott : Nat) (ot_strayed : Int32) (ot_names : Int32) (ot_known : Int32) (ot_gone : Int32) (b_nw_isKept : 0 ≤ nw_isKept.toInt ∧ nw_isKept.toInt ≤ 1) (b_nw_names : 0 ≤ nw_names.toInt ∧ nw_names.toInt ≤ 1023) (b_ot_isKept : 0 ≤ ot_isKept.toInt ∧ ot_isKept.toInt ≤ 1) (b_ot_names : 0 ≤ ot_names.toInt ∧ ot_names.toInt ≤ 1023) (sz : Nat) : Met l yX3_take (.code yX3_take cX3_take 2 none :: zT) ({ frames := 0, cells := 0, slots := 0, locals := 0 }) (va_Pc [.ref nw, .ref ot] (zB sa dC dI (zV8 nw nw_isKept it nw_strayed nw_names nw_known nw_gone ot ot_isKept ott ot_strayed ot_names ot_known ot_gone) [] sz)) (va_Qv (fun _ : Unit => True) (fun _ t => ∃ (n_nw_2 : Int32) (n_nw_3 : Int32) (n_nw_4 : Int32) (n_nw_5 : Int32), (0 ≤ n_nw_3.toInt ∧ n_nw_3.toInt ≤ 1023) ∧ zW dC dI (zV8 nw nw_isKept ott n_nw_2 n_nw_3 n_nw_4 n_nw_5 ot ot_isKept ott ot_strayed ot_names ot_known ot_gone) [] (va_A (zV8 nw nw_isKept it nw_strayed nw_names nw_known nw_gone ot ot_isKept ott ot_strayed ot_names ot_known ot_gone) sz) t) (va_A (zV8 nw nw_isKept it nw_strayed nw_names nw_known nw_gone ot ot_isKept ott ot_strayed ot_names ot_known ot_gone) sz)) 0 0 (va_A (zV8 nw nw_isKept it nw_strayed nw_names nw_known nw_gone ot ot_isKept ott ot_strayed ot_names ot_known ot_gone) sz) := by
  refine z_enter (by decide) (by exact (Nat.le_of_ble_eq_true rfl)) ?_
  intro p e s m args below meth c ls A R Qc hargs hsz hQe hAe hRe hx hb hml hr hts hown hlocks hin hl hP hK hD hN hXs hA hS
  rw [hAe] at hQe
  have hown : s.vm.findClass RX3 = some m.cls := hown
  have hl : lv_has ls 2 [(0, .ref nw), (1, .ref ot)] := hl
  refine lv_aload_n hx hb dX3_take_0 rfl (lv_at hl 0 rfl) ?_
  refine lv_aload_n hx hb dX3_take_1 rfl (lv_at hl 1 rfl) ?_
  refine va_get (D := (dC, dI)) (ci := 3) (v := .ref ott) (C := RX3) (T := TX3) (N := 6) hx hb hts zl_X3 hown hK hP 1 rfl rfl 1 (by decide) (hts _ zw_t1_153) (fun _ h9 => h9) rfl dX3_take_2 ?_
  refine va_put (D := (dC, dI)) (ci := 3) (v := .ref ott) (ty := (.object "NameGate$Town")) (C := RX3) (T := TX3) (N := 6) hx hb hts zl_X3 tyX3 tyX3_ok nmX3 hown hK hP hD hS 0 rfl rfl 1 (by decide) (hts _ zw_t1_153) (fun _ h9 => h9) rfl (by decide +kernel) rfl rfl (Nat.le_of_ble_eq_true rfl) dX3_take_5 (fun H locs hP hD hS => ?_)
  have hP : va_P (dC, dI) vwCl (zV8 nw nw_isKept ott nw_strayed nw_names nw_known nw_gone ot ot_isKept ott ot_strayed ot_names ot_known ot_gone) H := hP
  have hD : va_D A (zV8 nw nw_isKept ott nw_strayed nw_names nw_known nw_gone ot ot_isKept ott ot_strayed ot_names ot_known ot_gone) := hD
  refine lv_aload_n hx hb dX3_take_8 rfl (lv_at hl 0 rfl) ?_
  refine lv_aload_n hx hb dX3_take_9 rfl (lv_at hl 1 rfl) ?_
  refine va_get (D := (dC, dI)) (ci := 3) (v := .int ot_strayed) (C := RX3) (T := TX3) (N := 6) hx hb hts zl_X3 hown hK hP 1 rfl rfl 2 (by decide) (hts _ zw_t1_157) (fun _ h9 => h9) rfl dX3_take_10 ?_
  refine va_put (D := (dC, dI)) (ci := 3) (v := .int ot_strayed) (ty := .int) (C := RX3) (T := TX3) (N := 6) hx hb hts zl_X3 tyX3 tyX3_ok nmX3 hown hK hP hD hS 0 rfl rfl 2 (by decide) (hts _ zw_t1_157) (fun _ h9 => h9) rfl (by decide +kernel) rfl rfl (Nat.le_of_ble_eq_true rfl) dX3_take_13 (fun H locs hP hD hS => ?_)
  have hP : va_P (dC, dI) vwCl (zV8 nw nw_isKept ott ot_strayed nw_names nw_known nw_gone ot ot_isKept ott ot_strayed ot_names ot_known ot_gone) H := hP
  have hD : va_D A (zV8 nw nw_isKept ott ot_strayed nw_names nw_known nw_gone ot ot_isKept ott ot_strayed ot_names ot_known ot_gone) := hD
  refine lv_aload_n hx hb dX3_take_16 rfl (lv_at hl 0 rfl) ?_
  refine lv_aload_n hx hb dX3_take_17 rfl (lv_at hl 1 rfl) ?_
  refine va_get (D := (dC, dI)) (ci := 3) (v := .int ot_names) (C := RX3) (T := TX3) (N := 6) hx hb hts zl_X3 hown hK hP 1 rfl rfl 3 (by decide) (hts _ zw_t1_160) (fun _ h9 => h9) rfl dX3_take_18 ?_
  refine va_put (D := (dC, dI)) (ci := 3) (v := .int ot_names) (ty := .int) (C := RX3) (T := TX3) (N := 6) hx hb hts zl_X3 tyX3 tyX3_ok nmX3 hown hK hP hD hS 0 rfl rfl 3 (by decide) (hts _ zw_t1_160) (fun _ h9 => h9) rfl (by decide +kernel) rfl rfl (Nat.le_of_ble_eq_true rfl) dX3_take_21 (fun H locs hP hD hS => ?_)
  have hP : va_P (dC, dI) vwCl (zV8 nw nw_isKept ott ot_strayed ot_names nw_known nw_gone ot ot_isKept ott ot_strayed ot_names ot_known ot_gone) H := hP
  have hD : va_D A (zV8 nw nw_isKept ott ot_strayed ot_names nw_known nw_gone ot ot_isKept ott ot_strayed ot_names ot_known ot_gone) := hD
  refine lv_aload_n hx hb dX3_take_24 rfl (lv_at hl 0 rfl) ?_
  refine lv_aload_n hx hb dX3_take_25 rfl (lv_at hl 1 rfl) ?_
  refine va_get (D := (dC, dI)) (ci := 3) (v := .int ot_known) (C := RX3) (T := TX3) (N := 6) hx hb hts zl_X3 hown hK hP 1 rfl rfl 4 (by decide) (hts _ zw_t1_164) (fun _ h9 => h9) rfl dX3_take_26 ?_
  refine va_put (D := (dC, dI)) (ci := 3) (v := .int ot_known) (ty := .int) (C := RX3) (T := TX3) (N := 6) hx hb hts zl_X3 tyX3 tyX3_ok nmX3 hown hK hP hD hS 0 rfl rfl 4 (by decide) (hts _ zw_t1_164) (fun _ h9 => h9) rfl (by decide +kernel) rfl rfl (Nat.le_of_ble_eq_true rfl) dX3_take_29 (fun H locs hP hD hS => ?_)
  have hP : va_P (dC, dI) vwCl (zV8 nw nw_isKept ott ot_strayed ot_names ot_known nw_gone ot ot_isKept ott ot_strayed ot_names ot_known ot_gone) H := hP
  have hD : va_D A (zV8 nw nw_isKept ott ot_strayed ot_names ot_known nw_gone ot ot_isKept ott ot_strayed ot_names ot_known ot_gone) := hD
  refine lv_aload_n hx hb dX3_take_32 rfl (lv_at hl 0 rfl) ?_
  refine lv_aload_n hx hb dX3_take_33 rfl (lv_at hl 1 rfl) ?_
  refine va_get (D := (dC, dI)) (ci := 3) (v := .int ot_gone) (C := RX3) (T := TX3) (N := 6) hx hb hts zl_X3 hown hK hP 1 rfl rfl 5 (by decide) (hts _ zw_t1_166) (fun _ h9 => h9) rfl dX3_take_34 ?_
  refine va_put (D := (dC, dI)) (ci := 3) (v := .int ot_gone) (ty := .int) (C := RX3) (T := TX3) (N := 6) hx hb hts zl_X3 tyX3 tyX3_ok nmX3 hown hK hP hD hS 0 rfl rfl 5 (by decide) (hts _ zw_t1_166) (fun _ h9 => h9) rfl (by decide +kernel) rfl rfl (Nat.le_of_ble_eq_true rfl) dX3_take_37 (fun H locs hP hD hS => ?_)
  have hP : va_P (dC, dI) vwCl (zV8 nw nw_isKept ott ot_strayed ot_names ot_known ot_gone ot ot_isKept ott ot_strayed ot_names ot_known ot_gone) H := hP
  have hD : va_D A (zV8 nw nw_isKept ott ot_strayed ot_names ot_known ot_gone ot ot_isKept ott ot_strayed ot_names ot_known ot_gone) := hD
  exact W.vret hx hb hr (fun t ht hW => by rw [← hQe]; exact ⟨⟨(), rfl, trivial, ⟨ot_strayed, ot_names, ot_known, ot_gone, (by first | with_reducible assumption | omega), z_ret hP hK hD ht hW [0, 1] [] rfl (by decide) rfl⟩⟩, hS.F ht⟩) hS.2.2 dX3_take_40
set_option maxHeartbeats 4000000 in
set_option maxRecDepth 100000 in
theorem k_X3_unsure (l : Launch) (sa : Nat → Nat) (dC : Nat → ClassId) (dI : Nat → Nat → Nat) (nw : Nat) (nw_isKept : Int32) (tn : Nat) (nw_strayed : Int32) (nw_names : Int32) (nw_known : Int32) (nw_gone : Int32) (tn_hours : Int32) (tn_courts : Int32) (tn_gateCount : Int32) (tn_people : Int32) (tn_lines : Int32) (tn_falseHours : Int32) (tn_strayers : Int32) (tn_deep : Int32) (tn_above : Nat) (tn_doors : Nat) (tn_degrees : Nat) (tn_neighbours : Nat) (tn_shows : Nat) (tn_oneEnd : Nat) (tn_otherEnd : Nat) (tn_told : Nat) (tn_strayParts : Nat) (tn_strayCourts : Nat) (b_nw_isKept : 0 ≤ nw_isKept.toInt ∧ nw_isKept.toInt ≤ 1) (b_nw_names : 0 ≤ nw_names.toInt ∧ nw_names.toInt ≤ 1023) (b_tn_hours : 0 ≤ tn_hours.toInt ∧ tn_hours.toInt ≤ 48) (b_tn_courts : 0 ≤ tn_courts.toInt ∧ tn_courts.toInt ≤ 10) (b_tn_gateCount : 0 ≤ tn_gateCount.toInt ∧ tn_gateCount.toInt ≤ 16) (b_tn_people : 0 ≤ tn_people.toInt ∧ tn_people.toInt ≤ 10) (b_tn_falseHours : 0 ≤ tn_falseHours.toInt ∧ tn_falseHours.toInt ≤ 9) (b_tn_deep : 0 ≤ tn_deep.toInt ∧ tn_deep.toInt ≤ 1) (sz : Nat) : Met l yX3_unsure (.code yX3_unsure cX3_unsure 1 (some .int) :: zT) ({ frames := 0, cells := 0, slots := 0, locals := 0 }) (va_Pc [.ref nw] (zB sa dC dI (zV9 nw nw_isKept tn nw_strayed nw_names nw_known nw_gone tn tn_hours tn_courts tn_gateCount tn_people tn_lines tn_falseHours tn_strayers tn_deep tn_above tn_doors tn_degrees tn_neighbours tn_shows tn_oneEnd tn_otherEnd tn_told tn_strayParts tn_strayCourts) [] sz)) (va_Qi (fun (r : Int32) (_ : Unit) => True) (fun _ t => zW dC dI (zV9 nw nw_isKept tn nw_strayed nw_names nw_known nw_gone tn tn_hours tn_courts tn_gateCount tn_people tn_lines tn_falseHours tn_strayers tn_deep tn_above tn_doors tn_degrees tn_neighbours tn_shows tn_oneEnd tn_otherEnd tn_told tn_strayParts tn_strayCourts) [] (va_A (zV9 nw nw_isKept tn nw_strayed nw_names nw_known nw_gone tn tn_hours tn_courts tn_gateCount tn_people tn_lines tn_falseHours tn_strayers tn_deep tn_above tn_doors tn_degrees tn_neighbours tn_shows tn_oneEnd tn_otherEnd tn_told tn_strayParts tn_strayCourts) sz) t) (va_A (zV9 nw nw_isKept tn nw_strayed nw_names nw_known nw_gone tn tn_hours tn_courts tn_gateCount tn_people tn_lines tn_falseHours tn_strayers tn_deep tn_above tn_doors tn_degrees tn_neighbours tn_shows tn_oneEnd tn_otherEnd tn_told tn_strayParts tn_strayCourts) sz)) 0 0 (va_A (zV9 nw nw_isKept tn nw_strayed nw_names nw_known nw_gone tn tn_hours tn_courts tn_gateCount tn_people tn_lines tn_falseHours tn_strayers tn_deep tn_above tn_doors tn_degrees tn_neighbours tn_shows tn_oneEnd tn_otherEnd tn_told tn_strayParts tn_strayCourts) sz) := by
  refine z_enter (by decide) (by exact (Nat.le_of_ble_eq_true rfl)) ?_
  intro p e s m args below meth c ls A R Qc hargs hsz hQe hAe hRe hx hb hml hr hts hown hlocks hin hl hP hK hD hN hXs hA hS
  rw [hAe] at hQe
  have hown : s.vm.findClass RX3 = some m.cls := hown
  have hl : lv_has ls 1 [(0, .ref nw)] := hl
  refine lv_aload_n hx hb dX3_unsure_0 rfl (lv_at hl 0 rfl) ?_
  refine va_get (D := (dC, dI)) (ci := 3) (v := .ref tn) (C := RX3) (T := TX3) (N := 6) hx hb hts zl_X3 hown hK hP 0 rfl rfl 1 (by decide) (hts _ zw_t1_153) (fun _ h9 => h9) rfl dX3_unsure_1 ?_
  refine va_get (D := (dC, dI)) (ci := 7) (v := .int tn_strayers) (C := RX7) (T := TX7) (N := 18) hx hb hts zl_X7 hown hK hP 1 rfl rfl 6 (by decide) (hts _ zw_t1_73) (fun _ h9 => h9) rfl dX3_unsure_4 ?_
  refine lv_aload_n hx hb dX3_unsure_7 rfl (lv_at hl 0 rfl) ?_
  refine va_get (D := (dC, dI)) (ci := 3) (v := .int nw_known) (C := RX3) (T := TX3) (N := 6) hx hb hts zl_X3 hown hK hP 0 rfl rfl 4 (by decide) (hts _ zw_t1_164) (fun _ h9 => h9) rfl dX3_unsure_8 ?_
  refine lv_iconst (v := (-1)) hx hb dX3_unsure_11 (by decide) ?_
  refine lv_ixor hx hb dX3_unsure_12 ?_
  refine lv_topi (fun x_1 ex_1 => ?_)
  refine lv_iand hx hb dX3_unsure_13 ?_
  refine lv_topi (fun x_2 ex_2 => ?_)
  exact W.iret (v := x_2) hx hb hr (fun t ht hW => by rw [← hQe]; exact ⟨⟨x_2, (), rfl, trivial, z_ret hP hK hD ht hW [0, 1] [] rfl (by decide) rfl⟩, hS.F ht⟩) hS.2.2 dX3_unsure_14
