set_option linter.all false
theorem zw_s1_11 : Cond.selects RX5 yX5_expectCourt yX5_expectCourt ∈ zT := zs_1 (List.mem_of_getElem? (i := 11) (by decide +kernel))
theorem zw_s1_5 : Cond.selects RX5 yX5_expectWord yX5_expectWord ∈ zT := zs_1 (List.mem_of_getElem? (i := 5) (by decide +kernel))
theorem zw_s1_6 : Cond.selects RX5 yX5_isWord yX5_isWord ∈ zT := zs_1 (List.mem_of_getElem? (i := 6) (by decide +kernel))
theorem zw_s1_7 : Cond.selects RX5 yX5_blame yX5_blame ∈ zT := zs_1 (List.mem_of_getElem? (i := 7) (by decide +kernel))
theorem zw_s1_8 : Cond.selects RX5 yX5_advance yX5_advance ∈ zT := zs_1 (List.mem_of_getElem? (i := 8) (by decide +kernel))
theorem zw_s1_9 : Cond.selects RX5 yX5_expectNumber yX5_expectNumber ∈ zT := zs_1 (List.mem_of_getElem? (i := 9) (by decide +kernel))
theorem zw_t1_106 : Cond.fieldLink RX5 204 "NameGate$Town" "told" "[I" ∈ zT := zt_1 (List.mem_of_getElem? (i := 106) (by decide +kernel)) (by decide +kernel)
theorem zw_t1_110 : Cond.fieldLink RX5 210 "NameGate$Town" "strayParts" "[I" ∈ zT := zt_1 (List.mem_of_getElem? (i := 110) (by decide +kernel)) (by decide +kernel)
theorem zw_t1_112 : Cond.fieldLink RX5 213 "NameGate$Town" "strayCourts" "[I" ∈ zT := zt_1 (List.mem_of_getElem? (i := 112) (by decide +kernel)) (by decide +kernel)
theorem zw_t1_13 : Cond.initialized RJ0 ∈ zT := zt_1 (List.mem_of_getElem? (i := 13) (by decide +kernel)) (by decide +kernel)
theorem zw_t1_14 : Cond.initialized RJ1 ∈ zT := zt_1 (List.mem_of_getElem? (i := 14) (by decide +kernel)) (by decide +kernel)
theorem zw_t1_15 : Cond.initialized RJ3 ∈ zT := zt_1 (List.mem_of_getElem? (i := 15) (by decide +kernel)) (by decide +kernel)
theorem zw_t1_193 : Cond.fieldLink RX5 45 "NameGate$Reader" "fault" "I" ∈ zT := zt_1 (List.mem_of_getElem? (i := 193) (by decide +kernel)) (by decide +kernel)
theorem zw_t1_195 : Cond.fieldLink RX5 49 "NameGate$Reader" "place" "I" ∈ zT := zt_1 (List.mem_of_getElem? (i := 195) (by decide +kernel)) (by decide +kernel)
theorem zw_t1_197 : Cond.fieldLink RX5 9 "NameGate$Reader" "text" "[B" ∈ zT := zt_1 (List.mem_of_getElem? (i := 197) (by decide +kernel)) (by decide +kernel)
theorem zw_t1_198 : Cond.fieldLink RX5 15 "NameGate$Reader" "kinds" "[I" ∈ zT := zt_1 (List.mem_of_getElem? (i := 198) (by decide +kernel)) (by decide +kernel)
theorem zw_t1_199 : Cond.fieldLink RX5 19 "NameGate$Reader" "starts" "[I" ∈ zT := zt_1 (List.mem_of_getElem? (i := 199) (by decide +kernel)) (by decide +kernel)
theorem zw_t1_200 : Cond.fieldLink RX5 22 "NameGate$Reader" "stops" "[I" ∈ zT := zt_1 (List.mem_of_getElem? (i := 200) (by decide +kernel)) (by decide +kernel)
theorem zw_t1_201 : Cond.fieldLink RX5 25 "NameGate$Reader" "values" "[I" ∈ zT := zt_1 (List.mem_of_getElem? (i := 201) (by decide +kernel)) (by decide +kernel)
theorem zw_t1_202 : Cond.fieldLink RX5 71 "NameGate$Reader" "tokens" "I" ∈ zT := zt_1 (List.mem_of_getElem? (i := 202) (by decide +kernel)) (by decide +kernel)
theorem zw_t1_203 : Cond.fieldLink RX5 52 "NameGate$Reader" "at" "I" ∈ zT := zt_1 (List.mem_of_getElem? (i := 203) (by decide +kernel)) (by decide +kernel)
theorem zw_t1_204 : Cond.fieldLink RX5 31 "NameGate$Reader" "town" "LNameGate$Town;" ∈ zT := zt_1 (List.mem_of_getElem? (i := 204) (by decide +kernel)) (by decide +kernel)
theorem zw_t1_205 : Cond.fieldLink RX5 55 "NameGate$Reader" "strayCount" "I" ∈ zT := zt_1 (List.mem_of_getElem? (i := 205) (by decide +kernel)) (by decide +kernel)
theorem zw_t1_206 : Cond.fieldLink RX5 58 "NameGate$Reader" "lawTold" "Z" ∈ zT := zt_1 (List.mem_of_getElem? (i := 206) (by decide +kernel)) (by decide +kernel)
theorem zw_t1_207 : Cond.fieldLink RX5 62 "NameGate$Reader" "falseTold" "Z" ∈ zT := zt_1 (List.mem_of_getElem? (i := 207) (by decide +kernel)) (by decide +kernel)
theorem zw_t1_4 : Cond.initialized RX5 ∈ zT := zt_1 (List.mem_of_getElem? (i := 4) (by decide +kernel)) (by decide +kernel)
theorem zw_t1_45 : Cond.fieldLink RX5 156 "NameGate$Town" "hours" "I" ∈ zT := zt_1 (List.mem_of_getElem? (i := 45) (by decide +kernel)) (by decide +kernel)
theorem zw_t1_51 : Cond.fieldLink RX5 83 "NameGate$Town" "courts" "I" ∈ zT := zt_1 (List.mem_of_getElem? (i := 51) (by decide +kernel)) (by decide +kernel)
theorem zw_t1_64 : Cond.fieldLink RX5 190 "NameGate$Town" "people" "I" ∈ zT := zt_1 (List.mem_of_getElem? (i := 64) (by decide +kernel)) (by decide +kernel)
theorem zw_t1_70 : Cond.fieldLink RX5 219 "NameGate$Town" "falseHours" "I" ∈ zT := zt_1 (List.mem_of_getElem? (i := 70) (by decide +kernel)) (by decide +kernel)
theorem zw_t1_76 : Cond.fieldLink RX5 207 "NameGate$Town" "strayers" "I" ∈ zT := zt_1 (List.mem_of_getElem? (i := 76) (by decide +kernel)) (by decide +kernel)
theorem zw_t1_77 : Cond.fieldLink RX5 89 "NameGate$Town" "deep" "Z" ∈ zT := zt_1 (List.mem_of_getElem? (i := 77) (by decide +kernel)) (by decide +kernel)
theorem zw_t1_81 : Cond.fieldLink RX5 92 "NameGate$Town" "above" "[I" ∈ zT := zt_1 (List.mem_of_getElem? (i := 81) (by decide +kernel)) (by decide +kernel)
theorem zw_t1_97 : Cond.fieldLink RX5 86 "NameGate$Town" "shows" "[I" ∈ zT := zt_1 (List.mem_of_getElem? (i := 97) (by decide +kernel)) (by decide +kernel)
theorem zw_t3_100 : Cond.instanceMethod yX5_expectNumber ∈ zT := zt_3 (List.mem_of_getElem? (i := 100) (by decide +kernel)) (by decide +kernel)
theorem zw_t3_101 : Cond.code yX5_expectNumber cX5_expectNumber 4 (some .int) ∈ zT := zt_3 (List.mem_of_getElem? (i := 101) (by decide +kernel)) (by decide +kernel)
theorem zw_t3_108 : Cond.methodLink RX5 160 yX5_expectCourt ∈ zT := zt_3 (List.mem_of_getElem? (i := 108) (by decide +kernel)) (by decide +kernel)
theorem zw_t3_110 : Cond.instanceMethod yX5_expectCourt ∈ zT := zt_3 (List.mem_of_getElem? (i := 110) (by decide +kernel)) (by decide +kernel)
theorem zw_t3_111 : Cond.code yX5_expectCourt cX5_expectCourt 1 (some .int) ∈ zT := zt_3 (List.mem_of_getElem? (i := 111) (by decide +kernel)) (by decide +kernel)
theorem zw_t3_33 : Cond.methodLink RX5 150 yX5_expectWord ∈ zT := zt_3 (List.mem_of_getElem? (i := 33) (by decide +kernel)) (by decide +kernel)
theorem zw_t3_35 : Cond.instanceMethod yX5_expectWord ∈ zT := zt_3 (List.mem_of_getElem? (i := 35) (by decide +kernel)) (by decide +kernel)
theorem zw_t3_36 : Cond.code yX5_expectWord cX5_expectWord 2 none ∈ zT := zt_3 (List.mem_of_getElem? (i := 36) (by decide +kernel)) (by decide +kernel)
theorem zw_t3_37 : Cond.methodLink RX5 105 yX5_isWord ∈ zT := zt_3 (List.mem_of_getElem? (i := 37) (by decide +kernel)) (by decide +kernel)
theorem zw_t3_39 : Cond.instanceMethod yX5_isWord ∈ zT := zt_3 (List.mem_of_getElem? (i := 39) (by decide +kernel)) (by decide +kernel)
theorem zw_t3_40 : Cond.code yX5_isWord cX5_isWord 3 (some .boolean) ∈ zT := zt_3 (List.mem_of_getElem? (i := 40) (by decide +kernel)) (by decide +kernel)
theorem zw_t3_41 : Cond.methodLink RX5 95 yJ0_length_8abf5 ∈ zT := zt_3 (List.mem_of_getElem? (i := 41) (by decide +kernel)) (by decide +kernel)
theorem zw_t3_42 : Cond.instanceMethod yJ0_length_8abf5 ∈ zT := zt_3 (List.mem_of_getElem? (i := 42) (by decide +kernel)) (by decide +kernel)
theorem zw_t3_43 : Cond.selects RJ0 yJ0_length_8abf5 yJ0_length_8abf5 ∈ zT := zt_3 (List.mem_of_getElem? (i := 43) (by decide +kernel)) (by decide +kernel)
theorem zw_t3_44 : Cond.code yJ0_length_8abf5 cJ0_length_8abf5 1 (some .int) ∈ zT := zt_3 (List.mem_of_getElem? (i := 44) (by decide +kernel)) (by decide +kernel)
theorem zw_t3_45 : Cond.methodLink RJ0 335 yJ0_coder_7d493 ∈ zT := zt_3 (List.mem_of_getElem? (i := 45) (by decide +kernel)) (by decide +kernel)
theorem zw_t3_46 : Cond.instanceMethod yJ0_coder_7d493 ∈ zT := zt_3 (List.mem_of_getElem? (i := 46) (by decide +kernel)) (by decide +kernel)
theorem zw_t3_47 : Cond.selects RJ0 yJ0_coder_7d493 yJ0_coder_7d493 ∈ zT := zt_3 (List.mem_of_getElem? (i := 47) (by decide +kernel)) (by decide +kernel)
theorem zw_t3_48 : Cond.code yJ0_coder_7d493 cJ0_coder_7d493 1 (some .byte) ∈ zT := zt_3 (List.mem_of_getElem? (i := 48) (by decide +kernel)) (by decide +kernel)
theorem zw_t3_49 : Cond.fieldLink RJ0 38 "java/lang/String" "COMPACT_STRINGS" "Z" ∈ zT := zt_3 (List.mem_of_getElem? (i := 49) (by decide +kernel)) (by decide +kernel)
theorem zw_t3_51 : Cond.methodLink RX5 101 yJ0_charAt_5068e ∈ zT := zt_3 (List.mem_of_getElem? (i := 51) (by decide +kernel)) (by decide +kernel)
theorem zw_t3_52 : Cond.instanceMethod yJ0_charAt_5068e ∈ zT := zt_3 (List.mem_of_getElem? (i := 52) (by decide +kernel)) (by decide +kernel)
theorem zw_t3_53 : Cond.selects RJ0 yJ0_charAt_5068e yJ0_charAt_5068e ∈ zT := zt_3 (List.mem_of_getElem? (i := 53) (by decide +kernel)) (by decide +kernel)
theorem zw_t3_54 : Cond.code yJ0_charAt_5068e cJ0_charAt_5068e 2 (some .char) ∈ zT := zt_3 (List.mem_of_getElem? (i := 54) (by decide +kernel)) (by decide +kernel)
theorem zw_t3_55 : Cond.methodLink RJ0 492 yJ0_isLatin1_aae02 ∈ zT := zt_3 (List.mem_of_getElem? (i := 55) (by decide +kernel)) (by decide +kernel)
theorem zw_t3_56 : Cond.instanceMethod yJ0_isLatin1_aae02 ∈ zT := zt_3 (List.mem_of_getElem? (i := 56) (by decide +kernel)) (by decide +kernel)
theorem zw_t3_57 : Cond.selects RJ0 yJ0_isLatin1_aae02 yJ0_isLatin1_aae02 ∈ zT := zt_3 (List.mem_of_getElem? (i := 57) (by decide +kernel)) (by decide +kernel)
theorem zw_t3_58 : Cond.code yJ0_isLatin1_aae02 cJ0_isLatin1_aae02 1 (some .boolean) ∈ zT := zt_3 (List.mem_of_getElem? (i := 58) (by decide +kernel)) (by decide +kernel)
theorem zw_t3_59 : Cond.methodLink RJ0 495 yJ1_charAt_3b067 ∈ zT := zt_3 (List.mem_of_getElem? (i := 59) (by decide +kernel)) (by decide +kernel)
theorem zw_t3_60 : Cond.static yJ1_charAt_3b067 ∈ zT := zt_3 (List.mem_of_getElem? (i := 60) (by decide +kernel)) (by decide +kernel)
theorem zw_t3_61 : Cond.code yJ1_charAt_3b067 cJ1_charAt_3b067 2 (some .char) ∈ zT := zt_3 (List.mem_of_getElem? (i := 61) (by decide +kernel)) (by decide +kernel)
theorem zw_t3_62 : Cond.methodLink RJ1 9 yJ0_checkIndex_df160 ∈ zT := zt_3 (List.mem_of_getElem? (i := 62) (by decide +kernel)) (by decide +kernel)
theorem zw_t3_63 : Cond.static yJ0_checkIndex_df160 ∈ zT := zt_3 (List.mem_of_getElem? (i := 63) (by decide +kernel)) (by decide +kernel)
theorem zw_t3_64 : Cond.code yJ0_checkIndex_df160 cJ0_checkIndex_df160 2 none ∈ zT := zt_3 (List.mem_of_getElem? (i := 64) (by decide +kernel)) (by decide +kernel)
theorem zw_t3_65 : Cond.fieldLink RJ0 1053 "jdk/internal/util/Preconditions" "SIOOBE_FORMATTER" "Ljava/util/function/BiFunction;" ∈ zT := zt_3 (List.mem_of_getElem? (i := 65) (by decide +kernel)) (by decide +kernel)
theorem zw_t3_67 : Cond.methodLink RJ0 1059 yJ3_checkIndex_8e157 ∈ zT := zt_3 (List.mem_of_getElem? (i := 67) (by decide +kernel)) (by decide +kernel)
theorem zw_t3_68 : Cond.static yJ3_checkIndex_8e157 ∈ zT := zt_3 (List.mem_of_getElem? (i := 68) (by decide +kernel)) (by decide +kernel)
theorem zw_t3_69 : Cond.code yJ3_checkIndex_8e157 cJ3_checkIndex_8e157 3 (some .int) ∈ zT := zt_3 (List.mem_of_getElem? (i := 69) (by decide +kernel)) (by decide +kernel)
theorem zw_t3_89 : Cond.methodLink RX5 109 yX5_blame ∈ zT := zt_3 (List.mem_of_getElem? (i := 89) (by decide +kernel)) (by decide +kernel)
theorem zw_t3_91 : Cond.instanceMethod yX5_blame ∈ zT := zt_3 (List.mem_of_getElem? (i := 91) (by decide +kernel)) (by decide +kernel)
theorem zw_t3_92 : Cond.code yX5_blame cX5_blame 2 none ∈ zT := zt_3 (List.mem_of_getElem? (i := 92) (by decide +kernel)) (by decide +kernel)
theorem zw_t3_93 : Cond.methodLink RX5 112 yX5_advance ∈ zT := zt_3 (List.mem_of_getElem? (i := 93) (by decide +kernel)) (by decide +kernel)
theorem zw_t3_95 : Cond.instanceMethod yX5_advance ∈ zT := zt_3 (List.mem_of_getElem? (i := 95) (by decide +kernel)) (by decide +kernel)
theorem zw_t3_96 : Cond.code yX5_advance cX5_advance 1 none ∈ zT := zt_3 (List.mem_of_getElem? (i := 96) (by decide +kernel)) (by decide +kernel)
theorem zw_t3_98 : Cond.methodLink RX5 115 yX5_expectNumber ∈ zT := zt_3 (List.mem_of_getElem? (i := 98) (by decide +kernel)) (by decide +kernel)
theorem zw_t9_89 : Cond.fieldLink RJ0 9 "java/lang/String" "value" "[B" ∈ zT := zt_9 (List.mem_of_getElem? (i := 89) (by decide +kernel)) (by decide +kernel)
theorem zw_t9_90 : Cond.fieldLink RJ0 15 "java/lang/String" "coder" "B" ∈ zT := zt_9 (List.mem_of_getElem? (i := 90) (by decide +kernel)) (by decide +kernel)
def bcJ0_charAt_5068e_0 : List Nat := [42, 182, 1, 236, 153, 0, 12, 42, 180, 0, 9, 27, 184, 1, 239, 172]
theorem bcJ0_charAt_5068e_0_ok : z_bys cJ0_charAt_5068e 0 bcJ0_charAt_5068e_0 = true := by decide +kernel
theorem dJ0_charAt_5068e_0 : decode cJ0_charAt_5068e 0 = .ok (.aload_n 0, 1) := zo_42 (z_byk bcJ0_charAt_5068e_0 0 0 _ bcJ0_charAt_5068e_0_ok rfl)
theorem dJ0_charAt_5068e_1 : decode cJ0_charAt_5068e 1 = .ok (.invokevirtual 492, 3) := zo_182 (z_byk bcJ0_charAt_5068e_0 0 1 _ bcJ0_charAt_5068e_0_ok rfl) (z_byk bcJ0_charAt_5068e_0 0 2 _ bcJ0_charAt_5068e_0_ok rfl) (z_byk bcJ0_charAt_5068e_0 0 3 _ bcJ0_charAt_5068e_0_ok rfl) rfl
theorem dJ0_charAt_5068e_11 : decode cJ0_charAt_5068e 11 = .ok (.iload_n 1, 1) := zo_27 (z_byk bcJ0_charAt_5068e_0 0 11 _ bcJ0_charAt_5068e_0_ok rfl)
theorem dJ0_charAt_5068e_12 : decode cJ0_charAt_5068e 12 = .ok (.invokestatic 495, 3) := zo_184 (z_byk bcJ0_charAt_5068e_0 0 12 _ bcJ0_charAt_5068e_0_ok rfl) (z_byk bcJ0_charAt_5068e_0 0 13 _ bcJ0_charAt_5068e_0_ok rfl) (z_byk bcJ0_charAt_5068e_0 0 14 _ bcJ0_charAt_5068e_0_ok rfl) rfl
theorem dJ0_charAt_5068e_15 : decode cJ0_charAt_5068e 15 = .ok (.ireturn, 1) := zo_172 (z_byk bcJ0_charAt_5068e_0 0 15 _ bcJ0_charAt_5068e_0_ok rfl)
theorem dJ0_charAt_5068e_4 : decode cJ0_charAt_5068e 4 = .ok (.ifCond .eq 12, 3) := zo_153 (z_byk bcJ0_charAt_5068e_0 0 4 _ bcJ0_charAt_5068e_0_ok rfl) (z_byk bcJ0_charAt_5068e_0 0 5 _ bcJ0_charAt_5068e_0_ok rfl) (z_byk bcJ0_charAt_5068e_0 0 6 _ bcJ0_charAt_5068e_0_ok rfl) rfl
theorem dJ0_charAt_5068e_7 : decode cJ0_charAt_5068e 7 = .ok (.aload_n 0, 1) := zo_42 (z_byk bcJ0_charAt_5068e_0 0 7 _ bcJ0_charAt_5068e_0_ok rfl)
theorem dJ0_charAt_5068e_8 : decode cJ0_charAt_5068e 8 = .ok (.getfield 9, 3) := zo_180 (z_byk bcJ0_charAt_5068e_0 0 8 _ bcJ0_charAt_5068e_0_ok rfl) (z_byk bcJ0_charAt_5068e_0 0 9 _ bcJ0_charAt_5068e_0_ok rfl) (z_byk bcJ0_charAt_5068e_0 0 10 _ bcJ0_charAt_5068e_0_ok rfl) rfl
def bcJ0_checkIndex_df160_0 : List Nat := [26, 27, 178, 4, 29, 184, 4, 35, 87, 177]
theorem bcJ0_checkIndex_df160_0_ok : z_bys cJ0_checkIndex_df160 0 bcJ0_checkIndex_df160_0 = true := by decide +kernel
theorem dJ0_checkIndex_df160_0 : decode cJ0_checkIndex_df160 0 = .ok (.iload_n 0, 1) := zo_26 (z_byk bcJ0_checkIndex_df160_0 0 0 _ bcJ0_checkIndex_df160_0_ok rfl)
theorem dJ0_checkIndex_df160_1 : decode cJ0_checkIndex_df160 1 = .ok (.iload_n 1, 1) := zo_27 (z_byk bcJ0_checkIndex_df160_0 0 1 _ bcJ0_checkIndex_df160_0_ok rfl)
theorem dJ0_checkIndex_df160_2 : decode cJ0_checkIndex_df160 2 = .ok (.getstatic 1053, 3) := zo_178 (z_byk bcJ0_checkIndex_df160_0 0 2 _ bcJ0_checkIndex_df160_0_ok rfl) (z_byk bcJ0_checkIndex_df160_0 0 3 _ bcJ0_checkIndex_df160_0_ok rfl) (z_byk bcJ0_checkIndex_df160_0 0 4 _ bcJ0_checkIndex_df160_0_ok rfl) rfl
theorem dJ0_checkIndex_df160_5 : decode cJ0_checkIndex_df160 5 = .ok (.invokestatic 1059, 3) := zo_184 (z_byk bcJ0_checkIndex_df160_0 0 5 _ bcJ0_checkIndex_df160_0_ok rfl) (z_byk bcJ0_checkIndex_df160_0 0 6 _ bcJ0_checkIndex_df160_0_ok rfl) (z_byk bcJ0_checkIndex_df160_0 0 7 _ bcJ0_checkIndex_df160_0_ok rfl) rfl
theorem dJ0_checkIndex_df160_8 : decode cJ0_checkIndex_df160 8 = .ok (.pop, 1) := zo_87 (z_byk bcJ0_checkIndex_df160_0 0 8 _ bcJ0_checkIndex_df160_0_ok rfl)
theorem dJ0_checkIndex_df160_9 : decode cJ0_checkIndex_df160 9 = .ok (.return_, 1) := zo_177 (z_byk bcJ0_checkIndex_df160_0 0 9 _ bcJ0_checkIndex_df160_0_ok rfl)
def bcJ0_coder_7d493_0 : List Nat := [178, 0, 38, 153, 0, 10, 42, 180, 0, 15, 167, 0, 4]
theorem bcJ0_coder_7d493_0_ok : z_bys cJ0_coder_7d493 0 bcJ0_coder_7d493_0 = true := by decide +kernel
def bcJ0_coder_7d493_14 : List Nat := [172]
theorem bcJ0_coder_7d493_14_ok : z_bys cJ0_coder_7d493 14 bcJ0_coder_7d493_14 = true := by decide +kernel
theorem dJ0_coder_7d493_0 : decode cJ0_coder_7d493 0 = .ok (.getstatic 38, 3) := zo_178 (z_byk bcJ0_coder_7d493_0 0 0 _ bcJ0_coder_7d493_0_ok rfl) (z_byk bcJ0_coder_7d493_0 0 1 _ bcJ0_coder_7d493_0_ok rfl) (z_byk bcJ0_coder_7d493_0 0 2 _ bcJ0_coder_7d493_0_ok rfl) rfl
theorem dJ0_coder_7d493_10 : decode cJ0_coder_7d493 10 = .ok (.goto 4, 3) := zo_167 (z_byk bcJ0_coder_7d493_0 0 10 _ bcJ0_coder_7d493_0_ok rfl) (z_byk bcJ0_coder_7d493_0 0 11 _ bcJ0_coder_7d493_0_ok rfl) (z_byk bcJ0_coder_7d493_0 0 12 _ bcJ0_coder_7d493_0_ok rfl) rfl
theorem dJ0_coder_7d493_14 : decode cJ0_coder_7d493 14 = .ok (.ireturn, 1) := zo_172 (z_byk bcJ0_coder_7d493_14 14 0 _ bcJ0_coder_7d493_14_ok rfl)
theorem dJ0_coder_7d493_3 : decode cJ0_coder_7d493 3 = .ok (.ifCond .eq 10, 3) := zo_153 (z_byk bcJ0_coder_7d493_0 0 3 _ bcJ0_coder_7d493_0_ok rfl) (z_byk bcJ0_coder_7d493_0 0 4 _ bcJ0_coder_7d493_0_ok rfl) (z_byk bcJ0_coder_7d493_0 0 5 _ bcJ0_coder_7d493_0_ok rfl) rfl
theorem dJ0_coder_7d493_6 : decode cJ0_coder_7d493 6 = .ok (.aload_n 0, 1) := zo_42 (z_byk bcJ0_coder_7d493_0 0 6 _ bcJ0_coder_7d493_0_ok rfl)
theorem dJ0_coder_7d493_7 : decode cJ0_coder_7d493 7 = .ok (.getfield 15, 3) := zo_180 (z_byk bcJ0_coder_7d493_0 0 7 _ bcJ0_coder_7d493_0_ok rfl) (z_byk bcJ0_coder_7d493_0 0 8 _ bcJ0_coder_7d493_0_ok rfl) (z_byk bcJ0_coder_7d493_0 0 9 _ bcJ0_coder_7d493_0_ok rfl) rfl
def bcJ0_isLatin1_aae02_0 : List Nat := [178, 0, 38, 153, 0, 14, 42, 180, 0, 15, 154, 0, 7, 4, 167, 0, 4]
theorem bcJ0_isLatin1_aae02_0_ok : z_bys cJ0_isLatin1_aae02 0 bcJ0_isLatin1_aae02_0 = true := by decide +kernel
def bcJ0_isLatin1_aae02_18 : List Nat := [172]
theorem bcJ0_isLatin1_aae02_18_ok : z_bys cJ0_isLatin1_aae02 18 bcJ0_isLatin1_aae02_18 = true := by decide +kernel
theorem dJ0_isLatin1_aae02_0 : decode cJ0_isLatin1_aae02 0 = .ok (.getstatic 38, 3) := zo_178 (z_byk bcJ0_isLatin1_aae02_0 0 0 _ bcJ0_isLatin1_aae02_0_ok rfl) (z_byk bcJ0_isLatin1_aae02_0 0 1 _ bcJ0_isLatin1_aae02_0_ok rfl) (z_byk bcJ0_isLatin1_aae02_0 0 2 _ bcJ0_isLatin1_aae02_0_ok rfl) rfl
theorem dJ0_isLatin1_aae02_10 : decode cJ0_isLatin1_aae02 10 = .ok (.ifCond .ne 7, 3) := zo_154 (z_byk bcJ0_isLatin1_aae02_0 0 10 _ bcJ0_isLatin1_aae02_0_ok rfl) (z_byk bcJ0_isLatin1_aae02_0 0 11 _ bcJ0_isLatin1_aae02_0_ok rfl) (z_byk bcJ0_isLatin1_aae02_0 0 12 _ bcJ0_isLatin1_aae02_0_ok rfl) rfl
theorem dJ0_isLatin1_aae02_13 : decode cJ0_isLatin1_aae02 13 = .ok (.iconst 1, 1) := zo_4 (z_byk bcJ0_isLatin1_aae02_0 0 13 _ bcJ0_isLatin1_aae02_0_ok rfl)
theorem dJ0_isLatin1_aae02_14 : decode cJ0_isLatin1_aae02 14 = .ok (.goto 4, 3) := zo_167 (z_byk bcJ0_isLatin1_aae02_0 0 14 _ bcJ0_isLatin1_aae02_0_ok rfl) (z_byk bcJ0_isLatin1_aae02_0 0 15 _ bcJ0_isLatin1_aae02_0_ok rfl) (z_byk bcJ0_isLatin1_aae02_0 0 16 _ bcJ0_isLatin1_aae02_0_ok rfl) rfl
theorem dJ0_isLatin1_aae02_18 : decode cJ0_isLatin1_aae02 18 = .ok (.ireturn, 1) := zo_172 (z_byk bcJ0_isLatin1_aae02_18 18 0 _ bcJ0_isLatin1_aae02_18_ok rfl)
theorem dJ0_isLatin1_aae02_3 : decode cJ0_isLatin1_aae02 3 = .ok (.ifCond .eq 14, 3) := zo_153 (z_byk bcJ0_isLatin1_aae02_0 0 3 _ bcJ0_isLatin1_aae02_0_ok rfl) (z_byk bcJ0_isLatin1_aae02_0 0 4 _ bcJ0_isLatin1_aae02_0_ok rfl) (z_byk bcJ0_isLatin1_aae02_0 0 5 _ bcJ0_isLatin1_aae02_0_ok rfl) rfl
theorem dJ0_isLatin1_aae02_6 : decode cJ0_isLatin1_aae02 6 = .ok (.aload_n 0, 1) := zo_42 (z_byk bcJ0_isLatin1_aae02_0 0 6 _ bcJ0_isLatin1_aae02_0_ok rfl)
theorem dJ0_isLatin1_aae02_7 : decode cJ0_isLatin1_aae02 7 = .ok (.getfield 15, 3) := zo_180 (z_byk bcJ0_isLatin1_aae02_0 0 7 _ bcJ0_isLatin1_aae02_0_ok rfl) (z_byk bcJ0_isLatin1_aae02_0 0 8 _ bcJ0_isLatin1_aae02_0_ok rfl) (z_byk bcJ0_isLatin1_aae02_0 0 9 _ bcJ0_isLatin1_aae02_0_ok rfl) rfl
def bcJ0_length_8abf5_0 : List Nat := [42, 180, 0, 9, 190, 42, 182, 1, 79, 122, 172]
theorem bcJ0_length_8abf5_0_ok : z_bys cJ0_length_8abf5 0 bcJ0_length_8abf5_0 = true := by decide +kernel
theorem dJ0_length_8abf5_0 : decode cJ0_length_8abf5 0 = .ok (.aload_n 0, 1) := zo_42 (z_byk bcJ0_length_8abf5_0 0 0 _ bcJ0_length_8abf5_0_ok rfl)
theorem dJ0_length_8abf5_1 : decode cJ0_length_8abf5 1 = .ok (.getfield 9, 3) := zo_180 (z_byk bcJ0_length_8abf5_0 0 1 _ bcJ0_length_8abf5_0_ok rfl) (z_byk bcJ0_length_8abf5_0 0 2 _ bcJ0_length_8abf5_0_ok rfl) (z_byk bcJ0_length_8abf5_0 0 3 _ bcJ0_length_8abf5_0_ok rfl) rfl
theorem dJ0_length_8abf5_10 : decode cJ0_length_8abf5 10 = .ok (.ireturn, 1) := zo_172 (z_byk bcJ0_length_8abf5_0 0 10 _ bcJ0_length_8abf5_0_ok rfl)
theorem dJ0_length_8abf5_4 : decode cJ0_length_8abf5 4 = .ok (.arraylength, 1) := zo_190 (z_byk bcJ0_length_8abf5_0 0 4 _ bcJ0_length_8abf5_0_ok rfl)
theorem dJ0_length_8abf5_5 : decode cJ0_length_8abf5 5 = .ok (.aload_n 0, 1) := zo_42 (z_byk bcJ0_length_8abf5_0 0 5 _ bcJ0_length_8abf5_0_ok rfl)
theorem dJ0_length_8abf5_6 : decode cJ0_length_8abf5 6 = .ok (.invokevirtual 335, 3) := zo_182 (z_byk bcJ0_length_8abf5_0 0 6 _ bcJ0_length_8abf5_0_ok rfl) (z_byk bcJ0_length_8abf5_0 0 7 _ bcJ0_length_8abf5_0_ok rfl) (z_byk bcJ0_length_8abf5_0 0 8 _ bcJ0_length_8abf5_0_ok rfl) rfl
theorem dJ0_length_8abf5_9 : decode cJ0_length_8abf5 9 = .ok (.ishr, 1) := zo_122 (z_byk bcJ0_length_8abf5_0 0 9 _ bcJ0_length_8abf5_0_ok rfl)
def bcJ1_charAt_3b067_0 : List Nat := [27, 42, 190, 184, 0, 9, 42, 27, 51, 17, 0, 255, 126, 146, 172]
theorem bcJ1_charAt_3b067_0_ok : z_bys cJ1_charAt_3b067 0 bcJ1_charAt_3b067_0 = true := by decide +kernel
theorem dJ1_charAt_3b067_0 : decode cJ1_charAt_3b067 0 = .ok (.iload_n 1, 1) := zo_27 (z_byk bcJ1_charAt_3b067_0 0 0 _ bcJ1_charAt_3b067_0_ok rfl)
theorem dJ1_charAt_3b067_1 : decode cJ1_charAt_3b067 1 = .ok (.aload_n 0, 1) := zo_42 (z_byk bcJ1_charAt_3b067_0 0 1 _ bcJ1_charAt_3b067_0_ok rfl)
theorem dJ1_charAt_3b067_12 : decode cJ1_charAt_3b067 12 = .ok (.iand, 1) := zo_126 (z_byk bcJ1_charAt_3b067_0 0 12 _ bcJ1_charAt_3b067_0_ok rfl)
theorem dJ1_charAt_3b067_13 : decode cJ1_charAt_3b067 13 = .ok (.i2c, 1) := zo_146 (z_byk bcJ1_charAt_3b067_0 0 13 _ bcJ1_charAt_3b067_0_ok rfl)
theorem dJ1_charAt_3b067_14 : decode cJ1_charAt_3b067 14 = .ok (.ireturn, 1) := zo_172 (z_byk bcJ1_charAt_3b067_0 0 14 _ bcJ1_charAt_3b067_0_ok rfl)
theorem dJ1_charAt_3b067_2 : decode cJ1_charAt_3b067 2 = .ok (.arraylength, 1) := zo_190 (z_byk bcJ1_charAt_3b067_0 0 2 _ bcJ1_charAt_3b067_0_ok rfl)
theorem dJ1_charAt_3b067_3 : decode cJ1_charAt_3b067 3 = .ok (.invokestatic 9, 3) := zo_184 (z_byk bcJ1_charAt_3b067_0 0 3 _ bcJ1_charAt_3b067_0_ok rfl) (z_byk bcJ1_charAt_3b067_0 0 4 _ bcJ1_charAt_3b067_0_ok rfl) (z_byk bcJ1_charAt_3b067_0 0 5 _ bcJ1_charAt_3b067_0_ok rfl) rfl
theorem dJ1_charAt_3b067_6 : decode cJ1_charAt_3b067 6 = .ok (.aload_n 0, 1) := zo_42 (z_byk bcJ1_charAt_3b067_0 0 6 _ bcJ1_charAt_3b067_0_ok rfl)
theorem dJ1_charAt_3b067_7 : decode cJ1_charAt_3b067 7 = .ok (.iload_n 1, 1) := zo_27 (z_byk bcJ1_charAt_3b067_0 0 7 _ bcJ1_charAt_3b067_0_ok rfl)
theorem dJ1_charAt_3b067_8 : decode cJ1_charAt_3b067 8 = .ok (.baload, 1) := zo_51 (z_byk bcJ1_charAt_3b067_0 0 8 _ bcJ1_charAt_3b067_0_ok rfl)
theorem dJ1_charAt_3b067_9 : decode cJ1_charAt_3b067 9 = .ok (.sipush 255, 3) := zo_17 (z_byk bcJ1_charAt_3b067_0 0 9 _ bcJ1_charAt_3b067_0_ok rfl) (z_byk bcJ1_charAt_3b067_0 0 10 _ bcJ1_charAt_3b067_0_ok rfl) (z_byk bcJ1_charAt_3b067_0 0 11 _ bcJ1_charAt_3b067_0_ok rfl) rfl
def bcJ3_checkIndex_8e157_0 : List Nat := [26, 155, 0, 8, 26, 27, 161, 0, 10]
theorem bcJ3_checkIndex_8e157_0_ok : z_bys cJ3_checkIndex_8e157 0 bcJ3_checkIndex_8e157_0 = true := by decide +kernel
def bcJ3_checkIndex_8e157_16 : List Nat := [26, 172]
theorem bcJ3_checkIndex_8e157_16_ok : z_bys cJ3_checkIndex_8e157 16 bcJ3_checkIndex_8e157_16 = true := by decide +kernel
theorem dJ3_checkIndex_8e157_0 : decode cJ3_checkIndex_8e157 0 = .ok (.iload_n 0, 1) := zo_26 (z_byk bcJ3_checkIndex_8e157_0 0 0 _ bcJ3_checkIndex_8e157_0_ok rfl)
theorem dJ3_checkIndex_8e157_1 : decode cJ3_checkIndex_8e157 1 = .ok (.ifCond .lt 8, 3) := zo_155 (z_byk bcJ3_checkIndex_8e157_0 0 1 _ bcJ3_checkIndex_8e157_0_ok rfl) (z_byk bcJ3_checkIndex_8e157_0 0 2 _ bcJ3_checkIndex_8e157_0_ok rfl) (z_byk bcJ3_checkIndex_8e157_0 0 3 _ bcJ3_checkIndex_8e157_0_ok rfl) rfl
theorem dJ3_checkIndex_8e157_16 : decode cJ3_checkIndex_8e157 16 = .ok (.iload_n 0, 1) := zo_26 (z_byk bcJ3_checkIndex_8e157_16 16 0 _ bcJ3_checkIndex_8e157_16_ok rfl)
theorem dJ3_checkIndex_8e157_17 : decode cJ3_checkIndex_8e157 17 = .ok (.ireturn, 1) := zo_172 (z_byk bcJ3_checkIndex_8e157_16 16 1 _ bcJ3_checkIndex_8e157_16_ok rfl)
theorem dJ3_checkIndex_8e157_4 : decode cJ3_checkIndex_8e157 4 = .ok (.iload_n 0, 1) := zo_26 (z_byk bcJ3_checkIndex_8e157_0 0 4 _ bcJ3_checkIndex_8e157_0_ok rfl)
theorem dJ3_checkIndex_8e157_5 : decode cJ3_checkIndex_8e157 5 = .ok (.iload_n 1, 1) := zo_27 (z_byk bcJ3_checkIndex_8e157_0 0 5 _ bcJ3_checkIndex_8e157_0_ok rfl)
theorem dJ3_checkIndex_8e157_6 : decode cJ3_checkIndex_8e157 6 = .ok (.if_icmp .lt 10, 3) := zo_161 (z_byk bcJ3_checkIndex_8e157_0 0 6 _ bcJ3_checkIndex_8e157_0_ok rfl) (z_byk bcJ3_checkIndex_8e157_0 0 7 _ bcJ3_checkIndex_8e157_0_ok rfl) (z_byk bcJ3_checkIndex_8e157_0 0 8 _ bcJ3_checkIndex_8e157_0_ok rfl) rfl
def bcX5_addToken_0 : List Nat := [42, 180, 0, 15, 42, 180, 0, 71, 27, 79, 42, 180, 0, 19, 42, 180, 0, 71, 28, 79, 42, 180, 0, 25, 42, 180, 0, 71, 3, 79, 42, 89, 180, 0, 71, 4, 96, 181, 0, 71, 177]
theorem bcX5_addToken_0_ok : z_bys cX5_addToken 0 bcX5_addToken_0 = true := by decide +kernel
theorem dX5_addToken_0 : decode cX5_addToken 0 = .ok (.aload_n 0, 1) := zo_42 (z_byk bcX5_addToken_0 0 0 _ bcX5_addToken_0_ok rfl)
theorem dX5_addToken_1 : decode cX5_addToken 1 = .ok (.getfield 15, 3) := zo_180 (z_byk bcX5_addToken_0 0 1 _ bcX5_addToken_0_ok rfl) (z_byk bcX5_addToken_0 0 2 _ bcX5_addToken_0_ok rfl) (z_byk bcX5_addToken_0 0 3 _ bcX5_addToken_0_ok rfl) rfl
theorem dX5_addToken_10 : decode cX5_addToken 10 = .ok (.aload_n 0, 1) := zo_42 (z_byk bcX5_addToken_0 0 10 _ bcX5_addToken_0_ok rfl)
theorem dX5_addToken_11 : decode cX5_addToken 11 = .ok (.getfield 19, 3) := zo_180 (z_byk bcX5_addToken_0 0 11 _ bcX5_addToken_0_ok rfl) (z_byk bcX5_addToken_0 0 12 _ bcX5_addToken_0_ok rfl) (z_byk bcX5_addToken_0 0 13 _ bcX5_addToken_0_ok rfl) rfl
theorem dX5_addToken_14 : decode cX5_addToken 14 = .ok (.aload_n 0, 1) := zo_42 (z_byk bcX5_addToken_0 0 14 _ bcX5_addToken_0_ok rfl)
theorem dX5_addToken_15 : decode cX5_addToken 15 = .ok (.getfield 71, 3) := zo_180 (z_byk bcX5_addToken_0 0 15 _ bcX5_addToken_0_ok rfl) (z_byk bcX5_addToken_0 0 16 _ bcX5_addToken_0_ok rfl) (z_byk bcX5_addToken_0 0 17 _ bcX5_addToken_0_ok rfl) rfl
theorem dX5_addToken_18 : decode cX5_addToken 18 = .ok (.iload_n 2, 1) := zo_28 (z_byk bcX5_addToken_0 0 18 _ bcX5_addToken_0_ok rfl)
theorem dX5_addToken_19 : decode cX5_addToken 19 = .ok (.iastore, 1) := zo_79 (z_byk bcX5_addToken_0 0 19 _ bcX5_addToken_0_ok rfl)
theorem dX5_addToken_20 : decode cX5_addToken 20 = .ok (.aload_n 0, 1) := zo_42 (z_byk bcX5_addToken_0 0 20 _ bcX5_addToken_0_ok rfl)
theorem dX5_addToken_21 : decode cX5_addToken 21 = .ok (.getfield 25, 3) := zo_180 (z_byk bcX5_addToken_0 0 21 _ bcX5_addToken_0_ok rfl) (z_byk bcX5_addToken_0 0 22 _ bcX5_addToken_0_ok rfl) (z_byk bcX5_addToken_0 0 23 _ bcX5_addToken_0_ok rfl) rfl
theorem dX5_addToken_24 : decode cX5_addToken 24 = .ok (.aload_n 0, 1) := zo_42 (z_byk bcX5_addToken_0 0 24 _ bcX5_addToken_0_ok rfl)
theorem dX5_addToken_25 : decode cX5_addToken 25 = .ok (.getfield 71, 3) := zo_180 (z_byk bcX5_addToken_0 0 25 _ bcX5_addToken_0_ok rfl) (z_byk bcX5_addToken_0 0 26 _ bcX5_addToken_0_ok rfl) (z_byk bcX5_addToken_0 0 27 _ bcX5_addToken_0_ok rfl) rfl
theorem dX5_addToken_28 : decode cX5_addToken 28 = .ok (.iconst 0, 1) := zo_3 (z_byk bcX5_addToken_0 0 28 _ bcX5_addToken_0_ok rfl)
theorem dX5_addToken_29 : decode cX5_addToken 29 = .ok (.iastore, 1) := zo_79 (z_byk bcX5_addToken_0 0 29 _ bcX5_addToken_0_ok rfl)
theorem dX5_addToken_30 : decode cX5_addToken 30 = .ok (.aload_n 0, 1) := zo_42 (z_byk bcX5_addToken_0 0 30 _ bcX5_addToken_0_ok rfl)
theorem dX5_addToken_31 : decode cX5_addToken 31 = .ok (.dup, 1) := zo_89 (z_byk bcX5_addToken_0 0 31 _ bcX5_addToken_0_ok rfl)
theorem dX5_addToken_32 : decode cX5_addToken 32 = .ok (.getfield 71, 3) := zo_180 (z_byk bcX5_addToken_0 0 32 _ bcX5_addToken_0_ok rfl) (z_byk bcX5_addToken_0 0 33 _ bcX5_addToken_0_ok rfl) (z_byk bcX5_addToken_0 0 34 _ bcX5_addToken_0_ok rfl) rfl
theorem dX5_addToken_35 : decode cX5_addToken 35 = .ok (.iconst 1, 1) := zo_4 (z_byk bcX5_addToken_0 0 35 _ bcX5_addToken_0_ok rfl)
theorem dX5_addToken_36 : decode cX5_addToken 36 = .ok (.iadd, 1) := zo_96 (z_byk bcX5_addToken_0 0 36 _ bcX5_addToken_0_ok rfl)
theorem dX5_addToken_37 : decode cX5_addToken 37 = .ok (.putfield 71, 3) := zo_181 (z_byk bcX5_addToken_0 0 37 _ bcX5_addToken_0_ok rfl) (z_byk bcX5_addToken_0 0 38 _ bcX5_addToken_0_ok rfl) (z_byk bcX5_addToken_0 0 39 _ bcX5_addToken_0_ok rfl) rfl
theorem dX5_addToken_4 : decode cX5_addToken 4 = .ok (.aload_n 0, 1) := zo_42 (z_byk bcX5_addToken_0 0 4 _ bcX5_addToken_0_ok rfl)
theorem dX5_addToken_40 : decode cX5_addToken 40 = .ok (.return_, 1) := zo_177 (z_byk bcX5_addToken_0 0 40 _ bcX5_addToken_0_ok rfl)
theorem dX5_addToken_5 : decode cX5_addToken 5 = .ok (.getfield 71, 3) := zo_180 (z_byk bcX5_addToken_0 0 5 _ bcX5_addToken_0_ok rfl) (z_byk bcX5_addToken_0 0 6 _ bcX5_addToken_0_ok rfl) (z_byk bcX5_addToken_0 0 7 _ bcX5_addToken_0_ok rfl) rfl
theorem dX5_addToken_8 : decode cX5_addToken 8 = .ok (.iload_n 1, 1) := zo_27 (z_byk bcX5_addToken_0 0 8 _ bcX5_addToken_0_ok rfl)
theorem dX5_addToken_9 : decode cX5_addToken 9 = .ok (.iastore, 1) := zo_79 (z_byk bcX5_addToken_0 0 9 _ bcX5_addToken_0_ok rfl)
def bcX5_advance_0 : List Nat := [42, 180, 0, 45, 154, 0, 24, 42, 180, 0, 52, 42, 180, 0, 71, 162, 0, 13, 42, 89, 180, 0, 52, 4, 96, 181, 0, 52, 177]
theorem bcX5_advance_0_ok : z_bys cX5_advance 0 bcX5_advance_0 = true := by decide +kernel
theorem dX5_advance_0 : decode cX5_advance 0 = .ok (.aload_n 0, 1) := zo_42 (z_byk bcX5_advance_0 0 0 _ bcX5_advance_0_ok rfl)
theorem dX5_advance_1 : decode cX5_advance 1 = .ok (.getfield 45, 3) := zo_180 (z_byk bcX5_advance_0 0 1 _ bcX5_advance_0_ok rfl) (z_byk bcX5_advance_0 0 2 _ bcX5_advance_0_ok rfl) (z_byk bcX5_advance_0 0 3 _ bcX5_advance_0_ok rfl) rfl
theorem dX5_advance_11 : decode cX5_advance 11 = .ok (.aload_n 0, 1) := zo_42 (z_byk bcX5_advance_0 0 11 _ bcX5_advance_0_ok rfl)
theorem dX5_advance_12 : decode cX5_advance 12 = .ok (.getfield 71, 3) := zo_180 (z_byk bcX5_advance_0 0 12 _ bcX5_advance_0_ok rfl) (z_byk bcX5_advance_0 0 13 _ bcX5_advance_0_ok rfl) (z_byk bcX5_advance_0 0 14 _ bcX5_advance_0_ok rfl) rfl
theorem dX5_advance_15 : decode cX5_advance 15 = .ok (.if_icmp .ge 13, 3) := zo_162 (z_byk bcX5_advance_0 0 15 _ bcX5_advance_0_ok rfl) (z_byk bcX5_advance_0 0 16 _ bcX5_advance_0_ok rfl) (z_byk bcX5_advance_0 0 17 _ bcX5_advance_0_ok rfl) rfl
theorem dX5_advance_18 : decode cX5_advance 18 = .ok (.aload_n 0, 1) := zo_42 (z_byk bcX5_advance_0 0 18 _ bcX5_advance_0_ok rfl)
theorem dX5_advance_19 : decode cX5_advance 19 = .ok (.dup, 1) := zo_89 (z_byk bcX5_advance_0 0 19 _ bcX5_advance_0_ok rfl)
theorem dX5_advance_20 : decode cX5_advance 20 = .ok (.getfield 52, 3) := zo_180 (z_byk bcX5_advance_0 0 20 _ bcX5_advance_0_ok rfl) (z_byk bcX5_advance_0 0 21 _ bcX5_advance_0_ok rfl) (z_byk bcX5_advance_0 0 22 _ bcX5_advance_0_ok rfl) rfl
theorem dX5_advance_23 : decode cX5_advance 23 = .ok (.iconst 1, 1) := zo_4 (z_byk bcX5_advance_0 0 23 _ bcX5_advance_0_ok rfl)
theorem dX5_advance_24 : decode cX5_advance 24 = .ok (.iadd, 1) := zo_96 (z_byk bcX5_advance_0 0 24 _ bcX5_advance_0_ok rfl)
theorem dX5_advance_25 : decode cX5_advance 25 = .ok (.putfield 52, 3) := zo_181 (z_byk bcX5_advance_0 0 25 _ bcX5_advance_0_ok rfl) (z_byk bcX5_advance_0 0 26 _ bcX5_advance_0_ok rfl) (z_byk bcX5_advance_0 0 27 _ bcX5_advance_0_ok rfl) rfl
theorem dX5_advance_28 : decode cX5_advance 28 = .ok (.return_, 1) := zo_177 (z_byk bcX5_advance_0 0 28 _ bcX5_advance_0_ok rfl)
theorem dX5_advance_4 : decode cX5_advance 4 = .ok (.ifCond .ne 24, 3) := zo_154 (z_byk bcX5_advance_0 0 4 _ bcX5_advance_0_ok rfl) (z_byk bcX5_advance_0 0 5 _ bcX5_advance_0_ok rfl) (z_byk bcX5_advance_0 0 6 _ bcX5_advance_0_ok rfl) rfl
theorem dX5_advance_7 : decode cX5_advance 7 = .ok (.aload_n 0, 1) := zo_42 (z_byk bcX5_advance_0 0 7 _ bcX5_advance_0_ok rfl)
theorem dX5_advance_8 : decode cX5_advance 8 = .ok (.getfield 52, 3) := zo_180 (z_byk bcX5_advance_0 0 8 _ bcX5_advance_0_ok rfl) (z_byk bcX5_advance_0 0 9 _ bcX5_advance_0_ok rfl) (z_byk bcX5_advance_0 0 10 _ bcX5_advance_0_ok rfl) rfl
def bcX5_blame_0 : List Nat := [42, 180, 0, 45, 154, 0, 21, 42, 27, 181, 0, 45, 42, 42, 180, 0, 19, 42, 180, 0, 52, 46, 181, 0, 49, 177]
theorem bcX5_blame_0_ok : z_bys cX5_blame 0 bcX5_blame_0 = true := by decide +kernel
theorem dX5_blame_0 : decode cX5_blame 0 = .ok (.aload_n 0, 1) := zo_42 (z_byk bcX5_blame_0 0 0 _ bcX5_blame_0_ok rfl)
theorem dX5_blame_1 : decode cX5_blame 1 = .ok (.getfield 45, 3) := zo_180 (z_byk bcX5_blame_0 0 1 _ bcX5_blame_0_ok rfl) (z_byk bcX5_blame_0 0 2 _ bcX5_blame_0_ok rfl) (z_byk bcX5_blame_0 0 3 _ bcX5_blame_0_ok rfl) rfl
theorem dX5_blame_12 : decode cX5_blame 12 = .ok (.aload_n 0, 1) := zo_42 (z_byk bcX5_blame_0 0 12 _ bcX5_blame_0_ok rfl)
theorem dX5_blame_13 : decode cX5_blame 13 = .ok (.aload_n 0, 1) := zo_42 (z_byk bcX5_blame_0 0 13 _ bcX5_blame_0_ok rfl)
theorem dX5_blame_14 : decode cX5_blame 14 = .ok (.getfield 19, 3) := zo_180 (z_byk bcX5_blame_0 0 14 _ bcX5_blame_0_ok rfl) (z_byk bcX5_blame_0 0 15 _ bcX5_blame_0_ok rfl) (z_byk bcX5_blame_0 0 16 _ bcX5_blame_0_ok rfl) rfl
theorem dX5_blame_17 : decode cX5_blame 17 = .ok (.aload_n 0, 1) := zo_42 (z_byk bcX5_blame_0 0 17 _ bcX5_blame_0_ok rfl)
theorem dX5_blame_18 : decode cX5_blame 18 = .ok (.getfield 52, 3) := zo_180 (z_byk bcX5_blame_0 0 18 _ bcX5_blame_0_ok rfl) (z_byk bcX5_blame_0 0 19 _ bcX5_blame_0_ok rfl) (z_byk bcX5_blame_0 0 20 _ bcX5_blame_0_ok rfl) rfl
theorem dX5_blame_21 : decode cX5_blame 21 = .ok (.iaload, 1) := zo_46 (z_byk bcX5_blame_0 0 21 _ bcX5_blame_0_ok rfl)
theorem dX5_blame_22 : decode cX5_blame 22 = .ok (.putfield 49, 3) := zo_181 (z_byk bcX5_blame_0 0 22 _ bcX5_blame_0_ok rfl) (z_byk bcX5_blame_0 0 23 _ bcX5_blame_0_ok rfl) (z_byk bcX5_blame_0 0 24 _ bcX5_blame_0_ok rfl) rfl
theorem dX5_blame_25 : decode cX5_blame 25 = .ok (.return_, 1) := zo_177 (z_byk bcX5_blame_0 0 25 _ bcX5_blame_0_ok rfl)
theorem dX5_blame_4 : decode cX5_blame 4 = .ok (.ifCond .ne 21, 3) := zo_154 (z_byk bcX5_blame_0 0 4 _ bcX5_blame_0_ok rfl) (z_byk bcX5_blame_0 0 5 _ bcX5_blame_0_ok rfl) (z_byk bcX5_blame_0 0 6 _ bcX5_blame_0_ok rfl) rfl
theorem dX5_blame_7 : decode cX5_blame 7 = .ok (.aload_n 0, 1) := zo_42 (z_byk bcX5_blame_0 0 7 _ bcX5_blame_0_ok rfl)
theorem dX5_blame_8 : decode cX5_blame 8 = .ok (.iload_n 1, 1) := zo_27 (z_byk bcX5_blame_0 0 8 _ bcX5_blame_0_ok rfl)
theorem dX5_blame_9 : decode cX5_blame 9 = .ok (.putfield 45, 3) := zo_181 (z_byk bcX5_blame_0 0 9 _ bcX5_blame_0_ok rfl) (z_byk bcX5_blame_0 0 10 _ bcX5_blame_0_ok rfl) (z_byk bcX5_blame_0 0 11 _ bcX5_blame_0_ok rfl) rfl
def bcX5_expectCourt_0 : List Nat := [42, 3, 42, 180, 0, 31, 180, 0, 83, 4, 100, 182, 0, 115, 172]
theorem bcX5_expectCourt_0_ok : z_bys cX5_expectCourt 0 bcX5_expectCourt_0 = true := by decide +kernel
theorem dX5_expectCourt_0 : decode cX5_expectCourt 0 = .ok (.aload_n 0, 1) := zo_42 (z_byk bcX5_expectCourt_0 0 0 _ bcX5_expectCourt_0_ok rfl)
theorem dX5_expectCourt_1 : decode cX5_expectCourt 1 = .ok (.iconst 0, 1) := zo_3 (z_byk bcX5_expectCourt_0 0 1 _ bcX5_expectCourt_0_ok rfl)
theorem dX5_expectCourt_10 : decode cX5_expectCourt 10 = .ok (.isub, 1) := zo_100 (z_byk bcX5_expectCourt_0 0 10 _ bcX5_expectCourt_0_ok rfl)
theorem dX5_expectCourt_11 : decode cX5_expectCourt 11 = .ok (.invokevirtual 115, 3) := zo_182 (z_byk bcX5_expectCourt_0 0 11 _ bcX5_expectCourt_0_ok rfl) (z_byk bcX5_expectCourt_0 0 12 _ bcX5_expectCourt_0_ok rfl) (z_byk bcX5_expectCourt_0 0 13 _ bcX5_expectCourt_0_ok rfl) rfl
theorem dX5_expectCourt_14 : decode cX5_expectCourt 14 = .ok (.ireturn, 1) := zo_172 (z_byk bcX5_expectCourt_0 0 14 _ bcX5_expectCourt_0_ok rfl)
theorem dX5_expectCourt_2 : decode cX5_expectCourt 2 = .ok (.aload_n 0, 1) := zo_42 (z_byk bcX5_expectCourt_0 0 2 _ bcX5_expectCourt_0_ok rfl)
theorem dX5_expectCourt_3 : decode cX5_expectCourt 3 = .ok (.getfield 31, 3) := zo_180 (z_byk bcX5_expectCourt_0 0 3 _ bcX5_expectCourt_0_ok rfl) (z_byk bcX5_expectCourt_0 0 4 _ bcX5_expectCourt_0_ok rfl) (z_byk bcX5_expectCourt_0 0 5 _ bcX5_expectCourt_0_ok rfl) rfl
theorem dX5_expectCourt_6 : decode cX5_expectCourt 6 = .ok (.getfield 83, 3) := zo_180 (z_byk bcX5_expectCourt_0 0 6 _ bcX5_expectCourt_0_ok rfl) (z_byk bcX5_expectCourt_0 0 7 _ bcX5_expectCourt_0_ok rfl) (z_byk bcX5_expectCourt_0 0 8 _ bcX5_expectCourt_0_ok rfl) rfl
theorem dX5_expectCourt_9 : decode cX5_expectCourt 9 = .ok (.iconst 1, 1) := zo_4 (z_byk bcX5_expectCourt_0 0 9 _ bcX5_expectCourt_0_ok rfl)
def bcX5_expectNumber_0 : List Nat := [42, 180, 0, 25, 42, 180, 0, 52, 46, 62, 42, 180, 0, 15, 42, 180, 0, 52, 46, 5, 159, 0, 11, 42, 4, 182, 0, 109, 167, 0, 18, 29, 27, 161, 0, 8, 29, 28, 164, 0, 8, 42, 5, 182, 0, 109, 42, 182, 0, 112, 42, 180, 0, 45, 154, 0, 7, 29, 167, 0]
theorem bcX5_expectNumber_0_ok : z_bys cX5_expectNumber 0 bcX5_expectNumber_0 = true := by decide +kernel
def bcX5_expectNumber_60 : List Nat := [4, 3, 172]
theorem bcX5_expectNumber_60_ok : z_bys cX5_expectNumber 60 bcX5_expectNumber_60 = true := by decide +kernel
theorem dX5_expectNumber_0 : decode cX5_expectNumber 0 = .ok (.aload_n 0, 1) := zo_42 (z_byk bcX5_expectNumber_0 0 0 _ bcX5_expectNumber_0_ok rfl)
theorem dX5_expectNumber_1 : decode cX5_expectNumber 1 = .ok (.getfield 25, 3) := zo_180 (z_byk bcX5_expectNumber_0 0 1 _ bcX5_expectNumber_0_ok rfl) (z_byk bcX5_expectNumber_0 0 2 _ bcX5_expectNumber_0_ok rfl) (z_byk bcX5_expectNumber_0 0 3 _ bcX5_expectNumber_0_ok rfl) rfl
theorem dX5_expectNumber_10 : decode cX5_expectNumber 10 = .ok (.aload_n 0, 1) := zo_42 (z_byk bcX5_expectNumber_0 0 10 _ bcX5_expectNumber_0_ok rfl)
theorem dX5_expectNumber_11 : decode cX5_expectNumber 11 = .ok (.getfield 15, 3) := zo_180 (z_byk bcX5_expectNumber_0 0 11 _ bcX5_expectNumber_0_ok rfl) (z_byk bcX5_expectNumber_0 0 12 _ bcX5_expectNumber_0_ok rfl) (z_byk bcX5_expectNumber_0 0 13 _ bcX5_expectNumber_0_ok rfl) rfl
theorem dX5_expectNumber_14 : decode cX5_expectNumber 14 = .ok (.aload_n 0, 1) := zo_42 (z_byk bcX5_expectNumber_0 0 14 _ bcX5_expectNumber_0_ok rfl)
theorem dX5_expectNumber_15 : decode cX5_expectNumber 15 = .ok (.getfield 52, 3) := zo_180 (z_byk bcX5_expectNumber_0 0 15 _ bcX5_expectNumber_0_ok rfl) (z_byk bcX5_expectNumber_0 0 16 _ bcX5_expectNumber_0_ok rfl) (z_byk bcX5_expectNumber_0 0 17 _ bcX5_expectNumber_0_ok rfl) rfl
theorem dX5_expectNumber_18 : decode cX5_expectNumber 18 = .ok (.iaload, 1) := zo_46 (z_byk bcX5_expectNumber_0 0 18 _ bcX5_expectNumber_0_ok rfl)
theorem dX5_expectNumber_19 : decode cX5_expectNumber 19 = .ok (.iconst 2, 1) := zo_5 (z_byk bcX5_expectNumber_0 0 19 _ bcX5_expectNumber_0_ok rfl)
theorem dX5_expectNumber_20 : decode cX5_expectNumber 20 = .ok (.if_icmp .eq 11, 3) := zo_159 (z_byk bcX5_expectNumber_0 0 20 _ bcX5_expectNumber_0_ok rfl) (z_byk bcX5_expectNumber_0 0 21 _ bcX5_expectNumber_0_ok rfl) (z_byk bcX5_expectNumber_0 0 22 _ bcX5_expectNumber_0_ok rfl) rfl
theorem dX5_expectNumber_23 : decode cX5_expectNumber 23 = .ok (.aload_n 0, 1) := zo_42 (z_byk bcX5_expectNumber_0 0 23 _ bcX5_expectNumber_0_ok rfl)
theorem dX5_expectNumber_24 : decode cX5_expectNumber 24 = .ok (.iconst 1, 1) := zo_4 (z_byk bcX5_expectNumber_0 0 24 _ bcX5_expectNumber_0_ok rfl)
theorem dX5_expectNumber_25 : decode cX5_expectNumber 25 = .ok (.invokevirtual 109, 3) := zo_182 (z_byk bcX5_expectNumber_0 0 25 _ bcX5_expectNumber_0_ok rfl) (z_byk bcX5_expectNumber_0 0 26 _ bcX5_expectNumber_0_ok rfl) (z_byk bcX5_expectNumber_0 0 27 _ bcX5_expectNumber_0_ok rfl) rfl
theorem dX5_expectNumber_28 : decode cX5_expectNumber 28 = .ok (.goto 18, 3) := zo_167 (z_byk bcX5_expectNumber_0 0 28 _ bcX5_expectNumber_0_ok rfl) (z_byk bcX5_expectNumber_0 0 29 _ bcX5_expectNumber_0_ok rfl) (z_byk bcX5_expectNumber_0 0 30 _ bcX5_expectNumber_0_ok rfl) rfl
theorem dX5_expectNumber_31 : decode cX5_expectNumber 31 = .ok (.iload_n 3, 1) := zo_29 (z_byk bcX5_expectNumber_0 0 31 _ bcX5_expectNumber_0_ok rfl)
theorem dX5_expectNumber_32 : decode cX5_expectNumber 32 = .ok (.iload_n 1, 1) := zo_27 (z_byk bcX5_expectNumber_0 0 32 _ bcX5_expectNumber_0_ok rfl)
theorem dX5_expectNumber_33 : decode cX5_expectNumber 33 = .ok (.if_icmp .lt 8, 3) := zo_161 (z_byk bcX5_expectNumber_0 0 33 _ bcX5_expectNumber_0_ok rfl) (z_byk bcX5_expectNumber_0 0 34 _ bcX5_expectNumber_0_ok rfl) (z_byk bcX5_expectNumber_0 0 35 _ bcX5_expectNumber_0_ok rfl) rfl
theorem dX5_expectNumber_36 : decode cX5_expectNumber 36 = .ok (.iload_n 3, 1) := zo_29 (z_byk bcX5_expectNumber_0 0 36 _ bcX5_expectNumber_0_ok rfl)
theorem dX5_expectNumber_37 : decode cX5_expectNumber 37 = .ok (.iload_n 2, 1) := zo_28 (z_byk bcX5_expectNumber_0 0 37 _ bcX5_expectNumber_0_ok rfl)
theorem dX5_expectNumber_38 : decode cX5_expectNumber 38 = .ok (.if_icmp .le 8, 3) := zo_164 (z_byk bcX5_expectNumber_0 0 38 _ bcX5_expectNumber_0_ok rfl) (z_byk bcX5_expectNumber_0 0 39 _ bcX5_expectNumber_0_ok rfl) (z_byk bcX5_expectNumber_0 0 40 _ bcX5_expectNumber_0_ok rfl) rfl
theorem dX5_expectNumber_4 : decode cX5_expectNumber 4 = .ok (.aload_n 0, 1) := zo_42 (z_byk bcX5_expectNumber_0 0 4 _ bcX5_expectNumber_0_ok rfl)
theorem dX5_expectNumber_41 : decode cX5_expectNumber 41 = .ok (.aload_n 0, 1) := zo_42 (z_byk bcX5_expectNumber_0 0 41 _ bcX5_expectNumber_0_ok rfl)
theorem dX5_expectNumber_42 : decode cX5_expectNumber 42 = .ok (.iconst 2, 1) := zo_5 (z_byk bcX5_expectNumber_0 0 42 _ bcX5_expectNumber_0_ok rfl)
theorem dX5_expectNumber_43 : decode cX5_expectNumber 43 = .ok (.invokevirtual 109, 3) := zo_182 (z_byk bcX5_expectNumber_0 0 43 _ bcX5_expectNumber_0_ok rfl) (z_byk bcX5_expectNumber_0 0 44 _ bcX5_expectNumber_0_ok rfl) (z_byk bcX5_expectNumber_0 0 45 _ bcX5_expectNumber_0_ok rfl) rfl
theorem dX5_expectNumber_46 : decode cX5_expectNumber 46 = .ok (.aload_n 0, 1) := zo_42 (z_byk bcX5_expectNumber_0 0 46 _ bcX5_expectNumber_0_ok rfl)
theorem dX5_expectNumber_47 : decode cX5_expectNumber 47 = .ok (.invokevirtual 112, 3) := zo_182 (z_byk bcX5_expectNumber_0 0 47 _ bcX5_expectNumber_0_ok rfl) (z_byk bcX5_expectNumber_0 0 48 _ bcX5_expectNumber_0_ok rfl) (z_byk bcX5_expectNumber_0 0 49 _ bcX5_expectNumber_0_ok rfl) rfl
theorem dX5_expectNumber_5 : decode cX5_expectNumber 5 = .ok (.getfield 52, 3) := zo_180 (z_byk bcX5_expectNumber_0 0 5 _ bcX5_expectNumber_0_ok rfl) (z_byk bcX5_expectNumber_0 0 6 _ bcX5_expectNumber_0_ok rfl) (z_byk bcX5_expectNumber_0 0 7 _ bcX5_expectNumber_0_ok rfl) rfl
theorem dX5_expectNumber_50 : decode cX5_expectNumber 50 = .ok (.aload_n 0, 1) := zo_42 (z_byk bcX5_expectNumber_0 0 50 _ bcX5_expectNumber_0_ok rfl)
theorem dX5_expectNumber_51 : decode cX5_expectNumber 51 = .ok (.getfield 45, 3) := zo_180 (z_byk bcX5_expectNumber_0 0 51 _ bcX5_expectNumber_0_ok rfl) (z_byk bcX5_expectNumber_0 0 52 _ bcX5_expectNumber_0_ok rfl) (z_byk bcX5_expectNumber_0 0 53 _ bcX5_expectNumber_0_ok rfl) rfl
theorem dX5_expectNumber_54 : decode cX5_expectNumber 54 = .ok (.ifCond .ne 7, 3) := zo_154 (z_byk bcX5_expectNumber_0 0 54 _ bcX5_expectNumber_0_ok rfl) (z_byk bcX5_expectNumber_0 0 55 _ bcX5_expectNumber_0_ok rfl) (z_byk bcX5_expectNumber_0 0 56 _ bcX5_expectNumber_0_ok rfl) rfl
theorem dX5_expectNumber_57 : decode cX5_expectNumber 57 = .ok (.iload_n 3, 1) := zo_29 (z_byk bcX5_expectNumber_0 0 57 _ bcX5_expectNumber_0_ok rfl)
theorem dX5_expectNumber_58 : decode cX5_expectNumber 58 = .ok (.goto 4, 3) := zo_167 (z_byk bcX5_expectNumber_0 0 58 _ bcX5_expectNumber_0_ok rfl) (z_byk bcX5_expectNumber_0 0 59 _ bcX5_expectNumber_0_ok rfl) (z_byk bcX5_expectNumber_60 60 0 _ bcX5_expectNumber_60_ok rfl) rfl
theorem dX5_expectNumber_61 : decode cX5_expectNumber 61 = .ok (.iconst 0, 1) := zo_3 (z_byk bcX5_expectNumber_60 60 1 _ bcX5_expectNumber_60_ok rfl)
theorem dX5_expectNumber_62 : decode cX5_expectNumber 62 = .ok (.ireturn, 1) := zo_172 (z_byk bcX5_expectNumber_60 60 2 _ bcX5_expectNumber_60_ok rfl)
theorem dX5_expectNumber_8 : decode cX5_expectNumber 8 = .ok (.iaload, 1) := zo_46 (z_byk bcX5_expectNumber_0 0 8 _ bcX5_expectNumber_0_ok rfl)
theorem dX5_expectNumber_9 : decode cX5_expectNumber 9 = .ok (.istore_n 3, 1) := zo_62 (z_byk bcX5_expectNumber_0 0 9 _ bcX5_expectNumber_0_ok rfl)
def bcX5_expectWord_0 : List Nat := [42, 43, 182, 0, 105, 154, 0, 8, 42, 4, 182, 0, 109, 42, 182, 0, 112, 177]
theorem bcX5_expectWord_0_ok : z_bys cX5_expectWord 0 bcX5_expectWord_0 = true := by decide +kernel
theorem dX5_expectWord_0 : decode cX5_expectWord 0 = .ok (.aload_n 0, 1) := zo_42 (z_byk bcX5_expectWord_0 0 0 _ bcX5_expectWord_0_ok rfl)
theorem dX5_expectWord_1 : decode cX5_expectWord 1 = .ok (.aload_n 1, 1) := zo_43 (z_byk bcX5_expectWord_0 0 1 _ bcX5_expectWord_0_ok rfl)
theorem dX5_expectWord_10 : decode cX5_expectWord 10 = .ok (.invokevirtual 109, 3) := zo_182 (z_byk bcX5_expectWord_0 0 10 _ bcX5_expectWord_0_ok rfl) (z_byk bcX5_expectWord_0 0 11 _ bcX5_expectWord_0_ok rfl) (z_byk bcX5_expectWord_0 0 12 _ bcX5_expectWord_0_ok rfl) rfl
theorem dX5_expectWord_13 : decode cX5_expectWord 13 = .ok (.aload_n 0, 1) := zo_42 (z_byk bcX5_expectWord_0 0 13 _ bcX5_expectWord_0_ok rfl)
theorem dX5_expectWord_14 : decode cX5_expectWord 14 = .ok (.invokevirtual 112, 3) := zo_182 (z_byk bcX5_expectWord_0 0 14 _ bcX5_expectWord_0_ok rfl) (z_byk bcX5_expectWord_0 0 15 _ bcX5_expectWord_0_ok rfl) (z_byk bcX5_expectWord_0 0 16 _ bcX5_expectWord_0_ok rfl) rfl
theorem dX5_expectWord_17 : decode cX5_expectWord 17 = .ok (.return_, 1) := zo_177 (z_byk bcX5_expectWord_0 0 17 _ bcX5_expectWord_0_ok rfl)
theorem dX5_expectWord_2 : decode cX5_expectWord 2 = .ok (.invokevirtual 105, 3) := zo_182 (z_byk bcX5_expectWord_0 0 2 _ bcX5_expectWord_0_ok rfl) (z_byk bcX5_expectWord_0 0 3 _ bcX5_expectWord_0_ok rfl) (z_byk bcX5_expectWord_0 0 4 _ bcX5_expectWord_0_ok rfl) rfl
theorem dX5_expectWord_5 : decode cX5_expectWord 5 = .ok (.ifCond .ne 8, 3) := zo_154 (z_byk bcX5_expectWord_0 0 5 _ bcX5_expectWord_0_ok rfl) (z_byk bcX5_expectWord_0 0 6 _ bcX5_expectWord_0_ok rfl) (z_byk bcX5_expectWord_0 0 7 _ bcX5_expectWord_0_ok rfl) rfl
theorem dX5_expectWord_8 : decode cX5_expectWord 8 = .ok (.aload_n 0, 1) := zo_42 (z_byk bcX5_expectWord_0 0 8 _ bcX5_expectWord_0_ok rfl)
theorem dX5_expectWord_9 : decode cX5_expectWord 9 = .ok (.iconst 1, 1) := zo_4 (z_byk bcX5_expectWord_0 0 9 _ bcX5_expectWord_0_ok rfl)
def bcX5_isWord_0 : List Nat := [42, 180, 0, 15, 42, 180, 0, 52, 46, 4, 160, 0, 29, 42, 180, 0, 22, 42, 180, 0, 52, 46, 42, 180, 0, 19, 42, 180, 0, 52, 46, 100, 43, 182, 0, 95, 159, 0, 5, 3, 172, 3, 61, 28, 43, 182, 0, 95, 162, 0, 35, 42, 180, 0, 9, 42, 180, 0, 19, 42]
theorem bcX5_isWord_0_ok : z_bys cX5_isWord 0 bcX5_isWord_0 = true := by decide +kernel
def bcX5_isWord_60 : List Nat := [180, 0, 52, 46, 28, 96, 51, 43, 28, 182, 0, 101, 159, 0, 5, 3, 172, 132, 2, 1, 167, 255, 219, 4, 172]
theorem bcX5_isWord_60_ok : z_bys cX5_isWord 60 bcX5_isWord_60 = true := by decide +kernel
theorem dX5_isWord_0 : decode cX5_isWord 0 = .ok (.aload_n 0, 1) := zo_42 (z_byk bcX5_isWord_0 0 0 _ bcX5_isWord_0_ok rfl)
theorem dX5_isWord_1 : decode cX5_isWord 1 = .ok (.getfield 15, 3) := zo_180 (z_byk bcX5_isWord_0 0 1 _ bcX5_isWord_0_ok rfl) (z_byk bcX5_isWord_0 0 2 _ bcX5_isWord_0_ok rfl) (z_byk bcX5_isWord_0 0 3 _ bcX5_isWord_0_ok rfl) rfl
theorem dX5_isWord_10 : decode cX5_isWord 10 = .ok (.if_icmp .ne 29, 3) := zo_160 (z_byk bcX5_isWord_0 0 10 _ bcX5_isWord_0_ok rfl) (z_byk bcX5_isWord_0 0 11 _ bcX5_isWord_0_ok rfl) (z_byk bcX5_isWord_0 0 12 _ bcX5_isWord_0_ok rfl) rfl
theorem dX5_isWord_13 : decode cX5_isWord 13 = .ok (.aload_n 0, 1) := zo_42 (z_byk bcX5_isWord_0 0 13 _ bcX5_isWord_0_ok rfl)
theorem dX5_isWord_14 : decode cX5_isWord 14 = .ok (.getfield 22, 3) := zo_180 (z_byk bcX5_isWord_0 0 14 _ bcX5_isWord_0_ok rfl) (z_byk bcX5_isWord_0 0 15 _ bcX5_isWord_0_ok rfl) (z_byk bcX5_isWord_0 0 16 _ bcX5_isWord_0_ok rfl) rfl
theorem dX5_isWord_17 : decode cX5_isWord 17 = .ok (.aload_n 0, 1) := zo_42 (z_byk bcX5_isWord_0 0 17 _ bcX5_isWord_0_ok rfl)
theorem dX5_isWord_18 : decode cX5_isWord 18 = .ok (.getfield 52, 3) := zo_180 (z_byk bcX5_isWord_0 0 18 _ bcX5_isWord_0_ok rfl) (z_byk bcX5_isWord_0 0 19 _ bcX5_isWord_0_ok rfl) (z_byk bcX5_isWord_0 0 20 _ bcX5_isWord_0_ok rfl) rfl
theorem dX5_isWord_21 : decode cX5_isWord 21 = .ok (.iaload, 1) := zo_46 (z_byk bcX5_isWord_0 0 21 _ bcX5_isWord_0_ok rfl)
theorem dX5_isWord_22 : decode cX5_isWord 22 = .ok (.aload_n 0, 1) := zo_42 (z_byk bcX5_isWord_0 0 22 _ bcX5_isWord_0_ok rfl)
theorem dX5_isWord_23 : decode cX5_isWord 23 = .ok (.getfield 19, 3) := zo_180 (z_byk bcX5_isWord_0 0 23 _ bcX5_isWord_0_ok rfl) (z_byk bcX5_isWord_0 0 24 _ bcX5_isWord_0_ok rfl) (z_byk bcX5_isWord_0 0 25 _ bcX5_isWord_0_ok rfl) rfl
theorem dX5_isWord_26 : decode cX5_isWord 26 = .ok (.aload_n 0, 1) := zo_42 (z_byk bcX5_isWord_0 0 26 _ bcX5_isWord_0_ok rfl)
theorem dX5_isWord_27 : decode cX5_isWord 27 = .ok (.getfield 52, 3) := zo_180 (z_byk bcX5_isWord_0 0 27 _ bcX5_isWord_0_ok rfl) (z_byk bcX5_isWord_0 0 28 _ bcX5_isWord_0_ok rfl) (z_byk bcX5_isWord_0 0 29 _ bcX5_isWord_0_ok rfl) rfl
theorem dX5_isWord_30 : decode cX5_isWord 30 = .ok (.iaload, 1) := zo_46 (z_byk bcX5_isWord_0 0 30 _ bcX5_isWord_0_ok rfl)
theorem dX5_isWord_31 : decode cX5_isWord 31 = .ok (.isub, 1) := zo_100 (z_byk bcX5_isWord_0 0 31 _ bcX5_isWord_0_ok rfl)
theorem dX5_isWord_32 : decode cX5_isWord 32 = .ok (.aload_n 1, 1) := zo_43 (z_byk bcX5_isWord_0 0 32 _ bcX5_isWord_0_ok rfl)
theorem dX5_isWord_33 : decode cX5_isWord 33 = .ok (.invokevirtual 95, 3) := zo_182 (z_byk bcX5_isWord_0 0 33 _ bcX5_isWord_0_ok rfl) (z_byk bcX5_isWord_0 0 34 _ bcX5_isWord_0_ok rfl) (z_byk bcX5_isWord_0 0 35 _ bcX5_isWord_0_ok rfl) rfl
theorem dX5_isWord_36 : decode cX5_isWord 36 = .ok (.if_icmp .eq 5, 3) := zo_159 (z_byk bcX5_isWord_0 0 36 _ bcX5_isWord_0_ok rfl) (z_byk bcX5_isWord_0 0 37 _ bcX5_isWord_0_ok rfl) (z_byk bcX5_isWord_0 0 38 _ bcX5_isWord_0_ok rfl) rfl
theorem dX5_isWord_39 : decode cX5_isWord 39 = .ok (.iconst 0, 1) := zo_3 (z_byk bcX5_isWord_0 0 39 _ bcX5_isWord_0_ok rfl)
theorem dX5_isWord_4 : decode cX5_isWord 4 = .ok (.aload_n 0, 1) := zo_42 (z_byk bcX5_isWord_0 0 4 _ bcX5_isWord_0_ok rfl)
theorem dX5_isWord_40 : decode cX5_isWord 40 = .ok (.ireturn, 1) := zo_172 (z_byk bcX5_isWord_0 0 40 _ bcX5_isWord_0_ok rfl)
theorem dX5_isWord_41 : decode cX5_isWord 41 = .ok (.iconst 0, 1) := zo_3 (z_byk bcX5_isWord_0 0 41 _ bcX5_isWord_0_ok rfl)
theorem dX5_isWord_42 : decode cX5_isWord 42 = .ok (.istore_n 2, 1) := zo_61 (z_byk bcX5_isWord_0 0 42 _ bcX5_isWord_0_ok rfl)
theorem dX5_isWord_43 : decode cX5_isWord 43 = .ok (.iload_n 2, 1) := zo_28 (z_byk bcX5_isWord_0 0 43 _ bcX5_isWord_0_ok rfl)
theorem dX5_isWord_44 : decode cX5_isWord 44 = .ok (.aload_n 1, 1) := zo_43 (z_byk bcX5_isWord_0 0 44 _ bcX5_isWord_0_ok rfl)
theorem dX5_isWord_45 : decode cX5_isWord 45 = .ok (.invokevirtual 95, 3) := zo_182 (z_byk bcX5_isWord_0 0 45 _ bcX5_isWord_0_ok rfl) (z_byk bcX5_isWord_0 0 46 _ bcX5_isWord_0_ok rfl) (z_byk bcX5_isWord_0 0 47 _ bcX5_isWord_0_ok rfl) rfl
theorem dX5_isWord_48 : decode cX5_isWord 48 = .ok (.if_icmp .ge 35, 3) := zo_162 (z_byk bcX5_isWord_0 0 48 _ bcX5_isWord_0_ok rfl) (z_byk bcX5_isWord_0 0 49 _ bcX5_isWord_0_ok rfl) (z_byk bcX5_isWord_0 0 50 _ bcX5_isWord_0_ok rfl) rfl
theorem dX5_isWord_5 : decode cX5_isWord 5 = .ok (.getfield 52, 3) := zo_180 (z_byk bcX5_isWord_0 0 5 _ bcX5_isWord_0_ok rfl) (z_byk bcX5_isWord_0 0 6 _ bcX5_isWord_0_ok rfl) (z_byk bcX5_isWord_0 0 7 _ bcX5_isWord_0_ok rfl) rfl
theorem dX5_isWord_51 : decode cX5_isWord 51 = .ok (.aload_n 0, 1) := zo_42 (z_byk bcX5_isWord_0 0 51 _ bcX5_isWord_0_ok rfl)
theorem dX5_isWord_52 : decode cX5_isWord 52 = .ok (.getfield 9, 3) := zo_180 (z_byk bcX5_isWord_0 0 52 _ bcX5_isWord_0_ok rfl) (z_byk bcX5_isWord_0 0 53 _ bcX5_isWord_0_ok rfl) (z_byk bcX5_isWord_0 0 54 _ bcX5_isWord_0_ok rfl) rfl
theorem dX5_isWord_55 : decode cX5_isWord 55 = .ok (.aload_n 0, 1) := zo_42 (z_byk bcX5_isWord_0 0 55 _ bcX5_isWord_0_ok rfl)
theorem dX5_isWord_56 : decode cX5_isWord 56 = .ok (.getfield 19, 3) := zo_180 (z_byk bcX5_isWord_0 0 56 _ bcX5_isWord_0_ok rfl) (z_byk bcX5_isWord_0 0 57 _ bcX5_isWord_0_ok rfl) (z_byk bcX5_isWord_0 0 58 _ bcX5_isWord_0_ok rfl) rfl
theorem dX5_isWord_59 : decode cX5_isWord 59 = .ok (.aload_n 0, 1) := zo_42 (z_byk bcX5_isWord_0 0 59 _ bcX5_isWord_0_ok rfl)
theorem dX5_isWord_60 : decode cX5_isWord 60 = .ok (.getfield 52, 3) := zo_180 (z_byk bcX5_isWord_60 60 0 _ bcX5_isWord_60_ok rfl) (z_byk bcX5_isWord_60 60 1 _ bcX5_isWord_60_ok rfl) (z_byk bcX5_isWord_60 60 2 _ bcX5_isWord_60_ok rfl) rfl
theorem dX5_isWord_63 : decode cX5_isWord 63 = .ok (.iaload, 1) := zo_46 (z_byk bcX5_isWord_60 60 3 _ bcX5_isWord_60_ok rfl)
theorem dX5_isWord_64 : decode cX5_isWord 64 = .ok (.iload_n 2, 1) := zo_28 (z_byk bcX5_isWord_60 60 4 _ bcX5_isWord_60_ok rfl)
theorem dX5_isWord_65 : decode cX5_isWord 65 = .ok (.iadd, 1) := zo_96 (z_byk bcX5_isWord_60 60 5 _ bcX5_isWord_60_ok rfl)
theorem dX5_isWord_66 : decode cX5_isWord 66 = .ok (.baload, 1) := zo_51 (z_byk bcX5_isWord_60 60 6 _ bcX5_isWord_60_ok rfl)
theorem dX5_isWord_67 : decode cX5_isWord 67 = .ok (.aload_n 1, 1) := zo_43 (z_byk bcX5_isWord_60 60 7 _ bcX5_isWord_60_ok rfl)
theorem dX5_isWord_68 : decode cX5_isWord 68 = .ok (.iload_n 2, 1) := zo_28 (z_byk bcX5_isWord_60 60 8 _ bcX5_isWord_60_ok rfl)
theorem dX5_isWord_69 : decode cX5_isWord 69 = .ok (.invokevirtual 101, 3) := zo_182 (z_byk bcX5_isWord_60 60 9 _ bcX5_isWord_60_ok rfl) (z_byk bcX5_isWord_60 60 10 _ bcX5_isWord_60_ok rfl) (z_byk bcX5_isWord_60 60 11 _ bcX5_isWord_60_ok rfl) rfl
theorem dX5_isWord_72 : decode cX5_isWord 72 = .ok (.if_icmp .eq 5, 3) := zo_159 (z_byk bcX5_isWord_60 60 12 _ bcX5_isWord_60_ok rfl) (z_byk bcX5_isWord_60 60 13 _ bcX5_isWord_60_ok rfl) (z_byk bcX5_isWord_60 60 14 _ bcX5_isWord_60_ok rfl) rfl
theorem dX5_isWord_75 : decode cX5_isWord 75 = .ok (.iconst 0, 1) := zo_3 (z_byk bcX5_isWord_60 60 15 _ bcX5_isWord_60_ok rfl)
theorem dX5_isWord_76 : decode cX5_isWord 76 = .ok (.ireturn, 1) := zo_172 (z_byk bcX5_isWord_60 60 16 _ bcX5_isWord_60_ok rfl)
theorem dX5_isWord_77 : decode cX5_isWord 77 = .ok (.iinc 2 1, 3) := zo_132 (z_byk bcX5_isWord_60 60 17 _ bcX5_isWord_60_ok rfl) (z_byk bcX5_isWord_60 60 18 _ bcX5_isWord_60_ok rfl) (z_byk bcX5_isWord_60 60 19 _ bcX5_isWord_60_ok rfl) rfl
theorem dX5_isWord_8 : decode cX5_isWord 8 = .ok (.iaload, 1) := zo_46 (z_byk bcX5_isWord_0 0 8 _ bcX5_isWord_0_ok rfl)
theorem dX5_isWord_80 : decode cX5_isWord 80 = .ok (.goto (-37), 3) := zo_167 (z_byk bcX5_isWord_60 60 20 _ bcX5_isWord_60_ok rfl) (z_byk bcX5_isWord_60 60 21 _ bcX5_isWord_60_ok rfl) (z_byk bcX5_isWord_60 60 22 _ bcX5_isWord_60_ok rfl) rfl
theorem dX5_isWord_83 : decode cX5_isWord 83 = .ok (.iconst 1, 1) := zo_4 (z_byk bcX5_isWord_60 60 23 _ bcX5_isWord_60_ok rfl)
theorem dX5_isWord_84 : decode cX5_isWord 84 = .ok (.ireturn, 1) := zo_172 (z_byk bcX5_isWord_60 60 24 _ bcX5_isWord_60_ok rfl)
theorem dX5_isWord_9 : decode cX5_isWord 9 = .ok (.iconst 1, 1) := zo_4 (z_byk bcX5_isWord_0 0 9 _ bcX5_isWord_0_ok rfl)
def bcX5_kindOf_0 : List Nat := [26, 16, 32, 159, 0, 9, 26, 16, 10, 160, 0, 5, 3, 172, 26, 16, 97, 161, 0, 11, 26, 16, 122, 163, 0, 5, 4, 172, 26, 16, 48, 161, 0, 11, 26, 16, 57, 163, 0, 5, 5, 172, 26, 16, 59, 160, 0, 7, 6, 167, 0, 4, 7, 172]
theorem bcX5_kindOf_0_ok : z_bys cX5_kindOf 0 bcX5_kindOf_0 = true := by decide +kernel
theorem dX5_kindOf_0 : decode cX5_kindOf 0 = .ok (.iload_n 0, 1) := zo_26 (z_byk bcX5_kindOf_0 0 0 _ bcX5_kindOf_0_ok rfl)
theorem dX5_kindOf_1 : decode cX5_kindOf 1 = .ok (.bipush 32, 2) := zo_16 (z_byk bcX5_kindOf_0 0 1 _ bcX5_kindOf_0_ok rfl) (z_byk bcX5_kindOf_0 0 2 _ bcX5_kindOf_0_ok rfl) rfl
theorem dX5_kindOf_12 : decode cX5_kindOf 12 = .ok (.iconst 0, 1) := zo_3 (z_byk bcX5_kindOf_0 0 12 _ bcX5_kindOf_0_ok rfl)
theorem dX5_kindOf_13 : decode cX5_kindOf 13 = .ok (.ireturn, 1) := zo_172 (z_byk bcX5_kindOf_0 0 13 _ bcX5_kindOf_0_ok rfl)
theorem dX5_kindOf_14 : decode cX5_kindOf 14 = .ok (.iload_n 0, 1) := zo_26 (z_byk bcX5_kindOf_0 0 14 _ bcX5_kindOf_0_ok rfl)
theorem dX5_kindOf_15 : decode cX5_kindOf 15 = .ok (.bipush 97, 2) := zo_16 (z_byk bcX5_kindOf_0 0 15 _ bcX5_kindOf_0_ok rfl) (z_byk bcX5_kindOf_0 0 16 _ bcX5_kindOf_0_ok rfl) rfl
theorem dX5_kindOf_17 : decode cX5_kindOf 17 = .ok (.if_icmp .lt 11, 3) := zo_161 (z_byk bcX5_kindOf_0 0 17 _ bcX5_kindOf_0_ok rfl) (z_byk bcX5_kindOf_0 0 18 _ bcX5_kindOf_0_ok rfl) (z_byk bcX5_kindOf_0 0 19 _ bcX5_kindOf_0_ok rfl) rfl
theorem dX5_kindOf_20 : decode cX5_kindOf 20 = .ok (.iload_n 0, 1) := zo_26 (z_byk bcX5_kindOf_0 0 20 _ bcX5_kindOf_0_ok rfl)
theorem dX5_kindOf_21 : decode cX5_kindOf 21 = .ok (.bipush 122, 2) := zo_16 (z_byk bcX5_kindOf_0 0 21 _ bcX5_kindOf_0_ok rfl) (z_byk bcX5_kindOf_0 0 22 _ bcX5_kindOf_0_ok rfl) rfl
theorem dX5_kindOf_23 : decode cX5_kindOf 23 = .ok (.if_icmp .gt 5, 3) := zo_163 (z_byk bcX5_kindOf_0 0 23 _ bcX5_kindOf_0_ok rfl) (z_byk bcX5_kindOf_0 0 24 _ bcX5_kindOf_0_ok rfl) (z_byk bcX5_kindOf_0 0 25 _ bcX5_kindOf_0_ok rfl) rfl
theorem dX5_kindOf_26 : decode cX5_kindOf 26 = .ok (.iconst 1, 1) := zo_4 (z_byk bcX5_kindOf_0 0 26 _ bcX5_kindOf_0_ok rfl)
theorem dX5_kindOf_27 : decode cX5_kindOf 27 = .ok (.ireturn, 1) := zo_172 (z_byk bcX5_kindOf_0 0 27 _ bcX5_kindOf_0_ok rfl)
theorem dX5_kindOf_28 : decode cX5_kindOf 28 = .ok (.iload_n 0, 1) := zo_26 (z_byk bcX5_kindOf_0 0 28 _ bcX5_kindOf_0_ok rfl)
theorem dX5_kindOf_29 : decode cX5_kindOf 29 = .ok (.bipush 48, 2) := zo_16 (z_byk bcX5_kindOf_0 0 29 _ bcX5_kindOf_0_ok rfl) (z_byk bcX5_kindOf_0 0 30 _ bcX5_kindOf_0_ok rfl) rfl
theorem dX5_kindOf_3 : decode cX5_kindOf 3 = .ok (.if_icmp .eq 9, 3) := zo_159 (z_byk bcX5_kindOf_0 0 3 _ bcX5_kindOf_0_ok rfl) (z_byk bcX5_kindOf_0 0 4 _ bcX5_kindOf_0_ok rfl) (z_byk bcX5_kindOf_0 0 5 _ bcX5_kindOf_0_ok rfl) rfl
theorem dX5_kindOf_31 : decode cX5_kindOf 31 = .ok (.if_icmp .lt 11, 3) := zo_161 (z_byk bcX5_kindOf_0 0 31 _ bcX5_kindOf_0_ok rfl) (z_byk bcX5_kindOf_0 0 32 _ bcX5_kindOf_0_ok rfl) (z_byk bcX5_kindOf_0 0 33 _ bcX5_kindOf_0_ok rfl) rfl
theorem dX5_kindOf_34 : decode cX5_kindOf 34 = .ok (.iload_n 0, 1) := zo_26 (z_byk bcX5_kindOf_0 0 34 _ bcX5_kindOf_0_ok rfl)
theorem dX5_kindOf_35 : decode cX5_kindOf 35 = .ok (.bipush 57, 2) := zo_16 (z_byk bcX5_kindOf_0 0 35 _ bcX5_kindOf_0_ok rfl) (z_byk bcX5_kindOf_0 0 36 _ bcX5_kindOf_0_ok rfl) rfl
theorem dX5_kindOf_37 : decode cX5_kindOf 37 = .ok (.if_icmp .gt 5, 3) := zo_163 (z_byk bcX5_kindOf_0 0 37 _ bcX5_kindOf_0_ok rfl) (z_byk bcX5_kindOf_0 0 38 _ bcX5_kindOf_0_ok rfl) (z_byk bcX5_kindOf_0 0 39 _ bcX5_kindOf_0_ok rfl) rfl
theorem dX5_kindOf_40 : decode cX5_kindOf 40 = .ok (.iconst 2, 1) := zo_5 (z_byk bcX5_kindOf_0 0 40 _ bcX5_kindOf_0_ok rfl)
theorem dX5_kindOf_41 : decode cX5_kindOf 41 = .ok (.ireturn, 1) := zo_172 (z_byk bcX5_kindOf_0 0 41 _ bcX5_kindOf_0_ok rfl)
theorem dX5_kindOf_42 : decode cX5_kindOf 42 = .ok (.iload_n 0, 1) := zo_26 (z_byk bcX5_kindOf_0 0 42 _ bcX5_kindOf_0_ok rfl)
theorem dX5_kindOf_43 : decode cX5_kindOf 43 = .ok (.bipush 59, 2) := zo_16 (z_byk bcX5_kindOf_0 0 43 _ bcX5_kindOf_0_ok rfl) (z_byk bcX5_kindOf_0 0 44 _ bcX5_kindOf_0_ok rfl) rfl
theorem dX5_kindOf_45 : decode cX5_kindOf 45 = .ok (.if_icmp .ne 7, 3) := zo_160 (z_byk bcX5_kindOf_0 0 45 _ bcX5_kindOf_0_ok rfl) (z_byk bcX5_kindOf_0 0 46 _ bcX5_kindOf_0_ok rfl) (z_byk bcX5_kindOf_0 0 47 _ bcX5_kindOf_0_ok rfl) rfl
theorem dX5_kindOf_48 : decode cX5_kindOf 48 = .ok (.iconst 3, 1) := zo_6 (z_byk bcX5_kindOf_0 0 48 _ bcX5_kindOf_0_ok rfl)
theorem dX5_kindOf_49 : decode cX5_kindOf 49 = .ok (.goto 4, 3) := zo_167 (z_byk bcX5_kindOf_0 0 49 _ bcX5_kindOf_0_ok rfl) (z_byk bcX5_kindOf_0 0 50 _ bcX5_kindOf_0_ok rfl) (z_byk bcX5_kindOf_0 0 51 _ bcX5_kindOf_0_ok rfl) rfl
theorem dX5_kindOf_52 : decode cX5_kindOf 52 = .ok (.iconst 4, 1) := zo_7 (z_byk bcX5_kindOf_0 0 52 _ bcX5_kindOf_0_ok rfl)
theorem dX5_kindOf_53 : decode cX5_kindOf 53 = .ok (.ireturn, 1) := zo_172 (z_byk bcX5_kindOf_0 0 53 _ bcX5_kindOf_0_ok rfl)
theorem dX5_kindOf_6 : decode cX5_kindOf 6 = .ok (.iload_n 0, 1) := zo_26 (z_byk bcX5_kindOf_0 0 6 _ bcX5_kindOf_0_ok rfl)
theorem dX5_kindOf_7 : decode cX5_kindOf 7 = .ok (.bipush 10, 2) := zo_16 (z_byk bcX5_kindOf_0 0 7 _ bcX5_kindOf_0_ok rfl) (z_byk bcX5_kindOf_0 0 8 _ bcX5_kindOf_0_ok rfl) rfl
theorem dX5_kindOf_9 : decode cX5_kindOf 9 = .ok (.if_icmp .ne 5, 3) := zo_160 (z_byk bcX5_kindOf_0 0 9 _ bcX5_kindOf_0_ok rfl) (z_byk bcX5_kindOf_0 0 10 _ bcX5_kindOf_0_ok rfl) (z_byk bcX5_kindOf_0 0 11 _ bcX5_kindOf_0_ok rfl) rfl
def bcX5_placeFrom_0 : List Nat := [27, 62, 29, 42, 180, 0, 31, 180, 0, 156, 162, 0, 30, 42, 180, 0, 31, 180, 0, 204, 42, 180, 0, 31, 180, 0, 190, 16, 48, 104, 29, 96, 28, 79, 132, 3, 1, 167, 255, 221, 177]
theorem bcX5_placeFrom_0_ok : z_bys cX5_placeFrom 0 bcX5_placeFrom_0 = true := by decide +kernel
theorem dX5_placeFrom_0 : decode cX5_placeFrom 0 = .ok (.iload_n 1, 1) := zo_27 (z_byk bcX5_placeFrom_0 0 0 _ bcX5_placeFrom_0_ok rfl)
theorem dX5_placeFrom_1 : decode cX5_placeFrom 1 = .ok (.istore_n 3, 1) := zo_62 (z_byk bcX5_placeFrom_0 0 1 _ bcX5_placeFrom_0_ok rfl)
theorem dX5_placeFrom_10 : decode cX5_placeFrom 10 = .ok (.if_icmp .ge 30, 3) := zo_162 (z_byk bcX5_placeFrom_0 0 10 _ bcX5_placeFrom_0_ok rfl) (z_byk bcX5_placeFrom_0 0 11 _ bcX5_placeFrom_0_ok rfl) (z_byk bcX5_placeFrom_0 0 12 _ bcX5_placeFrom_0_ok rfl) rfl
theorem dX5_placeFrom_13 : decode cX5_placeFrom 13 = .ok (.aload_n 0, 1) := zo_42 (z_byk bcX5_placeFrom_0 0 13 _ bcX5_placeFrom_0_ok rfl)
theorem dX5_placeFrom_14 : decode cX5_placeFrom 14 = .ok (.getfield 31, 3) := zo_180 (z_byk bcX5_placeFrom_0 0 14 _ bcX5_placeFrom_0_ok rfl) (z_byk bcX5_placeFrom_0 0 15 _ bcX5_placeFrom_0_ok rfl) (z_byk bcX5_placeFrom_0 0 16 _ bcX5_placeFrom_0_ok rfl) rfl
theorem dX5_placeFrom_17 : decode cX5_placeFrom 17 = .ok (.getfield 204, 3) := zo_180 (z_byk bcX5_placeFrom_0 0 17 _ bcX5_placeFrom_0_ok rfl) (z_byk bcX5_placeFrom_0 0 18 _ bcX5_placeFrom_0_ok rfl) (z_byk bcX5_placeFrom_0 0 19 _ bcX5_placeFrom_0_ok rfl) rfl
theorem dX5_placeFrom_2 : decode cX5_placeFrom 2 = .ok (.iload_n 3, 1) := zo_29 (z_byk bcX5_placeFrom_0 0 2 _ bcX5_placeFrom_0_ok rfl)
theorem dX5_placeFrom_20 : decode cX5_placeFrom 20 = .ok (.aload_n 0, 1) := zo_42 (z_byk bcX5_placeFrom_0 0 20 _ bcX5_placeFrom_0_ok rfl)
theorem dX5_placeFrom_21 : decode cX5_placeFrom 21 = .ok (.getfield 31, 3) := zo_180 (z_byk bcX5_placeFrom_0 0 21 _ bcX5_placeFrom_0_ok rfl) (z_byk bcX5_placeFrom_0 0 22 _ bcX5_placeFrom_0_ok rfl) (z_byk bcX5_placeFrom_0 0 23 _ bcX5_placeFrom_0_ok rfl) rfl
theorem dX5_placeFrom_24 : decode cX5_placeFrom 24 = .ok (.getfield 190, 3) := zo_180 (z_byk bcX5_placeFrom_0 0 24 _ bcX5_placeFrom_0_ok rfl) (z_byk bcX5_placeFrom_0 0 25 _ bcX5_placeFrom_0_ok rfl) (z_byk bcX5_placeFrom_0 0 26 _ bcX5_placeFrom_0_ok rfl) rfl
theorem dX5_placeFrom_27 : decode cX5_placeFrom 27 = .ok (.bipush 48, 2) := zo_16 (z_byk bcX5_placeFrom_0 0 27 _ bcX5_placeFrom_0_ok rfl) (z_byk bcX5_placeFrom_0 0 28 _ bcX5_placeFrom_0_ok rfl) rfl
theorem dX5_placeFrom_29 : decode cX5_placeFrom 29 = .ok (.imul, 1) := zo_104 (z_byk bcX5_placeFrom_0 0 29 _ bcX5_placeFrom_0_ok rfl)
theorem dX5_placeFrom_3 : decode cX5_placeFrom 3 = .ok (.aload_n 0, 1) := zo_42 (z_byk bcX5_placeFrom_0 0 3 _ bcX5_placeFrom_0_ok rfl)
theorem dX5_placeFrom_30 : decode cX5_placeFrom 30 = .ok (.iload_n 3, 1) := zo_29 (z_byk bcX5_placeFrom_0 0 30 _ bcX5_placeFrom_0_ok rfl)
theorem dX5_placeFrom_31 : decode cX5_placeFrom 31 = .ok (.iadd, 1) := zo_96 (z_byk bcX5_placeFrom_0 0 31 _ bcX5_placeFrom_0_ok rfl)
theorem dX5_placeFrom_32 : decode cX5_placeFrom 32 = .ok (.iload_n 2, 1) := zo_28 (z_byk bcX5_placeFrom_0 0 32 _ bcX5_placeFrom_0_ok rfl)
theorem dX5_placeFrom_33 : decode cX5_placeFrom 33 = .ok (.iastore, 1) := zo_79 (z_byk bcX5_placeFrom_0 0 33 _ bcX5_placeFrom_0_ok rfl)
theorem dX5_placeFrom_34 : decode cX5_placeFrom 34 = .ok (.iinc 3 1, 3) := zo_132 (z_byk bcX5_placeFrom_0 0 34 _ bcX5_placeFrom_0_ok rfl) (z_byk bcX5_placeFrom_0 0 35 _ bcX5_placeFrom_0_ok rfl) (z_byk bcX5_placeFrom_0 0 36 _ bcX5_placeFrom_0_ok rfl) rfl
theorem dX5_placeFrom_37 : decode cX5_placeFrom 37 = .ok (.goto (-35), 3) := zo_167 (z_byk bcX5_placeFrom_0 0 37 _ bcX5_placeFrom_0_ok rfl) (z_byk bcX5_placeFrom_0 0 38 _ bcX5_placeFrom_0_ok rfl) (z_byk bcX5_placeFrom_0 0 39 _ bcX5_placeFrom_0_ok rfl) rfl
theorem dX5_placeFrom_4 : decode cX5_placeFrom 4 = .ok (.getfield 31, 3) := zo_180 (z_byk bcX5_placeFrom_0 0 4 _ bcX5_placeFrom_0_ok rfl) (z_byk bcX5_placeFrom_0 0 5 _ bcX5_placeFrom_0_ok rfl) (z_byk bcX5_placeFrom_0 0 6 _ bcX5_placeFrom_0_ok rfl) rfl
theorem dX5_placeFrom_40 : decode cX5_placeFrom 40 = .ok (.return_, 1) := zo_177 (z_byk bcX5_placeFrom_0 0 40 _ bcX5_placeFrom_0_ok rfl)
theorem dX5_placeFrom_7 : decode cX5_placeFrom 7 = .ok (.getfield 156, 3) := zo_180 (z_byk bcX5_placeFrom_0 0 7 _ bcX5_placeFrom_0_ok rfl) (z_byk bcX5_placeFrom_0 0 8 _ bcX5_placeFrom_0_ok rfl) (z_byk bcX5_placeFrom_0 0 9 _ bcX5_placeFrom_0_ok rfl) rfl
def bcX5_readCourt_0 : List Nat := [42, 180, 0, 31, 180, 0, 83, 16, 10, 161, 0, 9, 42, 6, 182, 0, 109, 177, 42, 182, 0, 112, 42, 18, 158, 182, 0, 150, 42, 182, 0, 160, 60, 42, 180, 0, 45, 154, 0, 44, 42, 180, 0, 31, 180, 0, 92, 42, 180, 0, 31, 180, 0, 83, 42, 180, 0, 31, 180, 0]
theorem bcX5_readCourt_0_ok : z_bys cX5_readCourt 0 bcX5_readCourt_0 = true := by decide +kernel
def bcX5_readCourt_60 : List Nat := [92, 27, 46, 4, 27, 120, 128, 79, 42, 180, 0, 31, 89, 180, 0, 83, 4, 96, 181, 0, 83, 177]
theorem bcX5_readCourt_60_ok : z_bys cX5_readCourt 60 bcX5_readCourt_60 = true := by decide +kernel
theorem dX5_readCourt_0 : decode cX5_readCourt 0 = .ok (.aload_n 0, 1) := zo_42 (z_byk bcX5_readCourt_0 0 0 _ bcX5_readCourt_0_ok rfl)
theorem dX5_readCourt_1 : decode cX5_readCourt 1 = .ok (.getfield 31, 3) := zo_180 (z_byk bcX5_readCourt_0 0 1 _ bcX5_readCourt_0_ok rfl) (z_byk bcX5_readCourt_0 0 2 _ bcX5_readCourt_0_ok rfl) (z_byk bcX5_readCourt_0 0 3 _ bcX5_readCourt_0_ok rfl) rfl
theorem dX5_readCourt_12 : decode cX5_readCourt 12 = .ok (.aload_n 0, 1) := zo_42 (z_byk bcX5_readCourt_0 0 12 _ bcX5_readCourt_0_ok rfl)
theorem dX5_readCourt_13 : decode cX5_readCourt 13 = .ok (.iconst 3, 1) := zo_6 (z_byk bcX5_readCourt_0 0 13 _ bcX5_readCourt_0_ok rfl)
theorem dX5_readCourt_14 : decode cX5_readCourt 14 = .ok (.invokevirtual 109, 3) := zo_182 (z_byk bcX5_readCourt_0 0 14 _ bcX5_readCourt_0_ok rfl) (z_byk bcX5_readCourt_0 0 15 _ bcX5_readCourt_0_ok rfl) (z_byk bcX5_readCourt_0 0 16 _ bcX5_readCourt_0_ok rfl) rfl
theorem dX5_readCourt_17 : decode cX5_readCourt 17 = .ok (.return_, 1) := zo_177 (z_byk bcX5_readCourt_0 0 17 _ bcX5_readCourt_0_ok rfl)
theorem dX5_readCourt_18 : decode cX5_readCourt 18 = .ok (.aload_n 0, 1) := zo_42 (z_byk bcX5_readCourt_0 0 18 _ bcX5_readCourt_0_ok rfl)
theorem dX5_readCourt_19 : decode cX5_readCourt 19 = .ok (.invokevirtual 112, 3) := zo_182 (z_byk bcX5_readCourt_0 0 19 _ bcX5_readCourt_0_ok rfl) (z_byk bcX5_readCourt_0 0 20 _ bcX5_readCourt_0_ok rfl) (z_byk bcX5_readCourt_0 0 21 _ bcX5_readCourt_0_ok rfl) rfl
theorem dX5_readCourt_22 : decode cX5_readCourt 22 = .ok (.aload_n 0, 1) := zo_42 (z_byk bcX5_readCourt_0 0 22 _ bcX5_readCourt_0_ok rfl)
theorem dX5_readCourt_23 : decode cX5_readCourt 23 = .ok (.ldc 158, 2) := zo_18 (z_byk bcX5_readCourt_0 0 23 _ bcX5_readCourt_0_ok rfl) (z_byk bcX5_readCourt_0 0 24 _ bcX5_readCourt_0_ok rfl)
theorem dX5_readCourt_25 : decode cX5_readCourt 25 = .ok (.invokevirtual 150, 3) := zo_182 (z_byk bcX5_readCourt_0 0 25 _ bcX5_readCourt_0_ok rfl) (z_byk bcX5_readCourt_0 0 26 _ bcX5_readCourt_0_ok rfl) (z_byk bcX5_readCourt_0 0 27 _ bcX5_readCourt_0_ok rfl) rfl
theorem dX5_readCourt_28 : decode cX5_readCourt 28 = .ok (.aload_n 0, 1) := zo_42 (z_byk bcX5_readCourt_0 0 28 _ bcX5_readCourt_0_ok rfl)
theorem dX5_readCourt_29 : decode cX5_readCourt 29 = .ok (.invokevirtual 160, 3) := zo_182 (z_byk bcX5_readCourt_0 0 29 _ bcX5_readCourt_0_ok rfl) (z_byk bcX5_readCourt_0 0 30 _ bcX5_readCourt_0_ok rfl) (z_byk bcX5_readCourt_0 0 31 _ bcX5_readCourt_0_ok rfl) rfl
theorem dX5_readCourt_32 : decode cX5_readCourt 32 = .ok (.istore_n 1, 1) := zo_60 (z_byk bcX5_readCourt_0 0 32 _ bcX5_readCourt_0_ok rfl)
theorem dX5_readCourt_33 : decode cX5_readCourt 33 = .ok (.aload_n 0, 1) := zo_42 (z_byk bcX5_readCourt_0 0 33 _ bcX5_readCourt_0_ok rfl)
theorem dX5_readCourt_34 : decode cX5_readCourt 34 = .ok (.getfield 45, 3) := zo_180 (z_byk bcX5_readCourt_0 0 34 _ bcX5_readCourt_0_ok rfl) (z_byk bcX5_readCourt_0 0 35 _ bcX5_readCourt_0_ok rfl) (z_byk bcX5_readCourt_0 0 36 _ bcX5_readCourt_0_ok rfl) rfl
theorem dX5_readCourt_37 : decode cX5_readCourt 37 = .ok (.ifCond .ne 44, 3) := zo_154 (z_byk bcX5_readCourt_0 0 37 _ bcX5_readCourt_0_ok rfl) (z_byk bcX5_readCourt_0 0 38 _ bcX5_readCourt_0_ok rfl) (z_byk bcX5_readCourt_0 0 39 _ bcX5_readCourt_0_ok rfl) rfl
theorem dX5_readCourt_4 : decode cX5_readCourt 4 = .ok (.getfield 83, 3) := zo_180 (z_byk bcX5_readCourt_0 0 4 _ bcX5_readCourt_0_ok rfl) (z_byk bcX5_readCourt_0 0 5 _ bcX5_readCourt_0_ok rfl) (z_byk bcX5_readCourt_0 0 6 _ bcX5_readCourt_0_ok rfl) rfl
theorem dX5_readCourt_40 : decode cX5_readCourt 40 = .ok (.aload_n 0, 1) := zo_42 (z_byk bcX5_readCourt_0 0 40 _ bcX5_readCourt_0_ok rfl)
theorem dX5_readCourt_41 : decode cX5_readCourt 41 = .ok (.getfield 31, 3) := zo_180 (z_byk bcX5_readCourt_0 0 41 _ bcX5_readCourt_0_ok rfl) (z_byk bcX5_readCourt_0 0 42 _ bcX5_readCourt_0_ok rfl) (z_byk bcX5_readCourt_0 0 43 _ bcX5_readCourt_0_ok rfl) rfl
theorem dX5_readCourt_44 : decode cX5_readCourt 44 = .ok (.getfield 92, 3) := zo_180 (z_byk bcX5_readCourt_0 0 44 _ bcX5_readCourt_0_ok rfl) (z_byk bcX5_readCourt_0 0 45 _ bcX5_readCourt_0_ok rfl) (z_byk bcX5_readCourt_0 0 46 _ bcX5_readCourt_0_ok rfl) rfl
theorem dX5_readCourt_47 : decode cX5_readCourt 47 = .ok (.aload_n 0, 1) := zo_42 (z_byk bcX5_readCourt_0 0 47 _ bcX5_readCourt_0_ok rfl)
theorem dX5_readCourt_48 : decode cX5_readCourt 48 = .ok (.getfield 31, 3) := zo_180 (z_byk bcX5_readCourt_0 0 48 _ bcX5_readCourt_0_ok rfl) (z_byk bcX5_readCourt_0 0 49 _ bcX5_readCourt_0_ok rfl) (z_byk bcX5_readCourt_0 0 50 _ bcX5_readCourt_0_ok rfl) rfl
theorem dX5_readCourt_51 : decode cX5_readCourt 51 = .ok (.getfield 83, 3) := zo_180 (z_byk bcX5_readCourt_0 0 51 _ bcX5_readCourt_0_ok rfl) (z_byk bcX5_readCourt_0 0 52 _ bcX5_readCourt_0_ok rfl) (z_byk bcX5_readCourt_0 0 53 _ bcX5_readCourt_0_ok rfl) rfl
theorem dX5_readCourt_54 : decode cX5_readCourt 54 = .ok (.aload_n 0, 1) := zo_42 (z_byk bcX5_readCourt_0 0 54 _ bcX5_readCourt_0_ok rfl)
theorem dX5_readCourt_55 : decode cX5_readCourt 55 = .ok (.getfield 31, 3) := zo_180 (z_byk bcX5_readCourt_0 0 55 _ bcX5_readCourt_0_ok rfl) (z_byk bcX5_readCourt_0 0 56 _ bcX5_readCourt_0_ok rfl) (z_byk bcX5_readCourt_0 0 57 _ bcX5_readCourt_0_ok rfl) rfl
theorem dX5_readCourt_58 : decode cX5_readCourt 58 = .ok (.getfield 92, 3) := zo_180 (z_byk bcX5_readCourt_0 0 58 _ bcX5_readCourt_0_ok rfl) (z_byk bcX5_readCourt_0 0 59 _ bcX5_readCourt_0_ok rfl) (z_byk bcX5_readCourt_60 60 0 _ bcX5_readCourt_60_ok rfl) rfl
theorem dX5_readCourt_61 : decode cX5_readCourt 61 = .ok (.iload_n 1, 1) := zo_27 (z_byk bcX5_readCourt_60 60 1 _ bcX5_readCourt_60_ok rfl)
theorem dX5_readCourt_62 : decode cX5_readCourt 62 = .ok (.iaload, 1) := zo_46 (z_byk bcX5_readCourt_60 60 2 _ bcX5_readCourt_60_ok rfl)
theorem dX5_readCourt_63 : decode cX5_readCourt 63 = .ok (.iconst 1, 1) := zo_4 (z_byk bcX5_readCourt_60 60 3 _ bcX5_readCourt_60_ok rfl)
theorem dX5_readCourt_64 : decode cX5_readCourt 64 = .ok (.iload_n 1, 1) := zo_27 (z_byk bcX5_readCourt_60 60 4 _ bcX5_readCourt_60_ok rfl)
theorem dX5_readCourt_65 : decode cX5_readCourt 65 = .ok (.ishl, 1) := zo_120 (z_byk bcX5_readCourt_60 60 5 _ bcX5_readCourt_60_ok rfl)
theorem dX5_readCourt_66 : decode cX5_readCourt 66 = .ok (.ior, 1) := zo_128 (z_byk bcX5_readCourt_60 60 6 _ bcX5_readCourt_60_ok rfl)
theorem dX5_readCourt_67 : decode cX5_readCourt 67 = .ok (.iastore, 1) := zo_79 (z_byk bcX5_readCourt_60 60 7 _ bcX5_readCourt_60_ok rfl)
theorem dX5_readCourt_68 : decode cX5_readCourt 68 = .ok (.aload_n 0, 1) := zo_42 (z_byk bcX5_readCourt_60 60 8 _ bcX5_readCourt_60_ok rfl)
theorem dX5_readCourt_69 : decode cX5_readCourt 69 = .ok (.getfield 31, 3) := zo_180 (z_byk bcX5_readCourt_60 60 9 _ bcX5_readCourt_60_ok rfl) (z_byk bcX5_readCourt_60 60 10 _ bcX5_readCourt_60_ok rfl) (z_byk bcX5_readCourt_60 60 11 _ bcX5_readCourt_60_ok rfl) rfl
theorem dX5_readCourt_7 : decode cX5_readCourt 7 = .ok (.bipush 10, 2) := zo_16 (z_byk bcX5_readCourt_0 0 7 _ bcX5_readCourt_0_ok rfl) (z_byk bcX5_readCourt_0 0 8 _ bcX5_readCourt_0_ok rfl) rfl
theorem dX5_readCourt_72 : decode cX5_readCourt 72 = .ok (.dup, 1) := zo_89 (z_byk bcX5_readCourt_60 60 12 _ bcX5_readCourt_60_ok rfl)
theorem dX5_readCourt_73 : decode cX5_readCourt 73 = .ok (.getfield 83, 3) := zo_180 (z_byk bcX5_readCourt_60 60 13 _ bcX5_readCourt_60_ok rfl) (z_byk bcX5_readCourt_60 60 14 _ bcX5_readCourt_60_ok rfl) (z_byk bcX5_readCourt_60 60 15 _ bcX5_readCourt_60_ok rfl) rfl
theorem dX5_readCourt_76 : decode cX5_readCourt 76 = .ok (.iconst 1, 1) := zo_4 (z_byk bcX5_readCourt_60 60 16 _ bcX5_readCourt_60_ok rfl)
theorem dX5_readCourt_77 : decode cX5_readCourt 77 = .ok (.iadd, 1) := zo_96 (z_byk bcX5_readCourt_60 60 17 _ bcX5_readCourt_60_ok rfl)
theorem dX5_readCourt_78 : decode cX5_readCourt 78 = .ok (.putfield 83, 3) := zo_181 (z_byk bcX5_readCourt_60 60 18 _ bcX5_readCourt_60_ok rfl) (z_byk bcX5_readCourt_60 60 19 _ bcX5_readCourt_60_ok rfl) (z_byk bcX5_readCourt_60 60 20 _ bcX5_readCourt_60_ok rfl) rfl
theorem dX5_readCourt_81 : decode cX5_readCourt 81 = .ok (.return_, 1) := zo_177 (z_byk bcX5_readCourt_60 60 21 _ bcX5_readCourt_60_ok rfl)
theorem dX5_readCourt_9 : decode cX5_readCourt 9 = .ok (.if_icmp .lt 9, 3) := zo_161 (z_byk bcX5_readCourt_0 0 9 _ bcX5_readCourt_0_ok rfl) (z_byk bcX5_readCourt_0 0 10 _ bcX5_readCourt_0_ok rfl) (z_byk bcX5_readCourt_0 0 11 _ bcX5_readCourt_0_ok rfl) rfl
def bcX5_readFalse_0 : List Nat := [42, 180, 0, 62, 153, 0, 9, 42, 5, 182, 0, 109, 177, 42, 4, 181, 0, 62, 42, 182, 0, 112, 42, 180, 0, 31, 42, 3, 16, 9, 182, 0, 115, 181, 0, 219, 177]
theorem bcX5_readFalse_0_ok : z_bys cX5_readFalse 0 bcX5_readFalse_0 = true := by decide +kernel
theorem dX5_readFalse_0 : decode cX5_readFalse 0 = .ok (.aload_n 0, 1) := zo_42 (z_byk bcX5_readFalse_0 0 0 _ bcX5_readFalse_0_ok rfl)
theorem dX5_readFalse_1 : decode cX5_readFalse 1 = .ok (.getfield 62, 3) := zo_180 (z_byk bcX5_readFalse_0 0 1 _ bcX5_readFalse_0_ok rfl) (z_byk bcX5_readFalse_0 0 2 _ bcX5_readFalse_0_ok rfl) (z_byk bcX5_readFalse_0 0 3 _ bcX5_readFalse_0_ok rfl) rfl
theorem dX5_readFalse_12 : decode cX5_readFalse 12 = .ok (.return_, 1) := zo_177 (z_byk bcX5_readFalse_0 0 12 _ bcX5_readFalse_0_ok rfl)
theorem dX5_readFalse_13 : decode cX5_readFalse 13 = .ok (.aload_n 0, 1) := zo_42 (z_byk bcX5_readFalse_0 0 13 _ bcX5_readFalse_0_ok rfl)
theorem dX5_readFalse_14 : decode cX5_readFalse 14 = .ok (.iconst 1, 1) := zo_4 (z_byk bcX5_readFalse_0 0 14 _ bcX5_readFalse_0_ok rfl)
theorem dX5_readFalse_15 : decode cX5_readFalse 15 = .ok (.putfield 62, 3) := zo_181 (z_byk bcX5_readFalse_0 0 15 _ bcX5_readFalse_0_ok rfl) (z_byk bcX5_readFalse_0 0 16 _ bcX5_readFalse_0_ok rfl) (z_byk bcX5_readFalse_0 0 17 _ bcX5_readFalse_0_ok rfl) rfl
theorem dX5_readFalse_18 : decode cX5_readFalse 18 = .ok (.aload_n 0, 1) := zo_42 (z_byk bcX5_readFalse_0 0 18 _ bcX5_readFalse_0_ok rfl)
theorem dX5_readFalse_19 : decode cX5_readFalse 19 = .ok (.invokevirtual 112, 3) := zo_182 (z_byk bcX5_readFalse_0 0 19 _ bcX5_readFalse_0_ok rfl) (z_byk bcX5_readFalse_0 0 20 _ bcX5_readFalse_0_ok rfl) (z_byk bcX5_readFalse_0 0 21 _ bcX5_readFalse_0_ok rfl) rfl
theorem dX5_readFalse_22 : decode cX5_readFalse 22 = .ok (.aload_n 0, 1) := zo_42 (z_byk bcX5_readFalse_0 0 22 _ bcX5_readFalse_0_ok rfl)
theorem dX5_readFalse_23 : decode cX5_readFalse 23 = .ok (.getfield 31, 3) := zo_180 (z_byk bcX5_readFalse_0 0 23 _ bcX5_readFalse_0_ok rfl) (z_byk bcX5_readFalse_0 0 24 _ bcX5_readFalse_0_ok rfl) (z_byk bcX5_readFalse_0 0 25 _ bcX5_readFalse_0_ok rfl) rfl
theorem dX5_readFalse_26 : decode cX5_readFalse 26 = .ok (.aload_n 0, 1) := zo_42 (z_byk bcX5_readFalse_0 0 26 _ bcX5_readFalse_0_ok rfl)
theorem dX5_readFalse_27 : decode cX5_readFalse 27 = .ok (.iconst 0, 1) := zo_3 (z_byk bcX5_readFalse_0 0 27 _ bcX5_readFalse_0_ok rfl)
theorem dX5_readFalse_28 : decode cX5_readFalse 28 = .ok (.bipush 9, 2) := zo_16 (z_byk bcX5_readFalse_0 0 28 _ bcX5_readFalse_0_ok rfl) (z_byk bcX5_readFalse_0 0 29 _ bcX5_readFalse_0_ok rfl) rfl
theorem dX5_readFalse_30 : decode cX5_readFalse 30 = .ok (.invokevirtual 115, 3) := zo_182 (z_byk bcX5_readFalse_0 0 30 _ bcX5_readFalse_0_ok rfl) (z_byk bcX5_readFalse_0 0 31 _ bcX5_readFalse_0_ok rfl) (z_byk bcX5_readFalse_0 0 32 _ bcX5_readFalse_0_ok rfl) rfl
theorem dX5_readFalse_33 : decode cX5_readFalse 33 = .ok (.putfield 219, 3) := zo_181 (z_byk bcX5_readFalse_0 0 33 _ bcX5_readFalse_0_ok rfl) (z_byk bcX5_readFalse_0 0 34 _ bcX5_readFalse_0_ok rfl) (z_byk bcX5_readFalse_0 0 35 _ bcX5_readFalse_0_ok rfl) rfl
theorem dX5_readFalse_36 : decode cX5_readFalse 36 = .ok (.return_, 1) := zo_177 (z_byk bcX5_readFalse_0 0 36 _ bcX5_readFalse_0_ok rfl)
theorem dX5_readFalse_4 : decode cX5_readFalse 4 = .ok (.ifCond .eq 9, 3) := zo_153 (z_byk bcX5_readFalse_0 0 4 _ bcX5_readFalse_0_ok rfl) (z_byk bcX5_readFalse_0 0 5 _ bcX5_readFalse_0_ok rfl) (z_byk bcX5_readFalse_0 0 6 _ bcX5_readFalse_0_ok rfl) rfl
theorem dX5_readFalse_7 : decode cX5_readFalse 7 = .ok (.aload_n 0, 1) := zo_42 (z_byk bcX5_readFalse_0 0 7 _ bcX5_readFalse_0_ok rfl)
theorem dX5_readFalse_8 : decode cX5_readFalse 8 = .ok (.iconst 2, 1) := zo_5 (z_byk bcX5_readFalse_0 0 8 _ bcX5_readFalse_0_ok rfl)
theorem dX5_readFalse_9 : decode cX5_readFalse 9 = .ok (.invokevirtual 109, 3) := zo_182 (z_byk bcX5_readFalse_0 0 9 _ bcX5_readFalse_0_ok rfl) (z_byk bcX5_readFalse_0 0 10 _ bcX5_readFalse_0_ok rfl) (z_byk bcX5_readFalse_0 0 11 _ bcX5_readFalse_0_ok rfl) rfl
def bcX5_readHours_0 : List Nat := [42, 18, 149, 182, 0, 150, 42, 18, 154, 182, 0, 150, 42, 180, 0, 31, 42, 4, 16, 48, 182, 0, 115, 181, 0, 156, 42, 180, 0, 31, 4, 181, 0, 83, 42, 180, 0, 31, 4, 181, 0, 89, 177]
theorem bcX5_readHours_0_ok : z_bys cX5_readHours 0 bcX5_readHours_0 = true := by decide +kernel
theorem dX5_readHours_0 : decode cX5_readHours 0 = .ok (.aload_n 0, 1) := zo_42 (z_byk bcX5_readHours_0 0 0 _ bcX5_readHours_0_ok rfl)
theorem dX5_readHours_1 : decode cX5_readHours 1 = .ok (.ldc 149, 2) := zo_18 (z_byk bcX5_readHours_0 0 1 _ bcX5_readHours_0_ok rfl) (z_byk bcX5_readHours_0 0 2 _ bcX5_readHours_0_ok rfl)
theorem dX5_readHours_12 : decode cX5_readHours 12 = .ok (.aload_n 0, 1) := zo_42 (z_byk bcX5_readHours_0 0 12 _ bcX5_readHours_0_ok rfl)
theorem dX5_readHours_13 : decode cX5_readHours 13 = .ok (.getfield 31, 3) := zo_180 (z_byk bcX5_readHours_0 0 13 _ bcX5_readHours_0_ok rfl) (z_byk bcX5_readHours_0 0 14 _ bcX5_readHours_0_ok rfl) (z_byk bcX5_readHours_0 0 15 _ bcX5_readHours_0_ok rfl) rfl
theorem dX5_readHours_16 : decode cX5_readHours 16 = .ok (.aload_n 0, 1) := zo_42 (z_byk bcX5_readHours_0 0 16 _ bcX5_readHours_0_ok rfl)
theorem dX5_readHours_17 : decode cX5_readHours 17 = .ok (.iconst 1, 1) := zo_4 (z_byk bcX5_readHours_0 0 17 _ bcX5_readHours_0_ok rfl)
theorem dX5_readHours_18 : decode cX5_readHours 18 = .ok (.bipush 48, 2) := zo_16 (z_byk bcX5_readHours_0 0 18 _ bcX5_readHours_0_ok rfl) (z_byk bcX5_readHours_0 0 19 _ bcX5_readHours_0_ok rfl) rfl
theorem dX5_readHours_20 : decode cX5_readHours 20 = .ok (.invokevirtual 115, 3) := zo_182 (z_byk bcX5_readHours_0 0 20 _ bcX5_readHours_0_ok rfl) (z_byk bcX5_readHours_0 0 21 _ bcX5_readHours_0_ok rfl) (z_byk bcX5_readHours_0 0 22 _ bcX5_readHours_0_ok rfl) rfl
theorem dX5_readHours_23 : decode cX5_readHours 23 = .ok (.putfield 156, 3) := zo_181 (z_byk bcX5_readHours_0 0 23 _ bcX5_readHours_0_ok rfl) (z_byk bcX5_readHours_0 0 24 _ bcX5_readHours_0_ok rfl) (z_byk bcX5_readHours_0 0 25 _ bcX5_readHours_0_ok rfl) rfl
theorem dX5_readHours_26 : decode cX5_readHours 26 = .ok (.aload_n 0, 1) := zo_42 (z_byk bcX5_readHours_0 0 26 _ bcX5_readHours_0_ok rfl)
theorem dX5_readHours_27 : decode cX5_readHours 27 = .ok (.getfield 31, 3) := zo_180 (z_byk bcX5_readHours_0 0 27 _ bcX5_readHours_0_ok rfl) (z_byk bcX5_readHours_0 0 28 _ bcX5_readHours_0_ok rfl) (z_byk bcX5_readHours_0 0 29 _ bcX5_readHours_0_ok rfl) rfl
theorem dX5_readHours_3 : decode cX5_readHours 3 = .ok (.invokevirtual 150, 3) := zo_182 (z_byk bcX5_readHours_0 0 3 _ bcX5_readHours_0_ok rfl) (z_byk bcX5_readHours_0 0 4 _ bcX5_readHours_0_ok rfl) (z_byk bcX5_readHours_0 0 5 _ bcX5_readHours_0_ok rfl) rfl
theorem dX5_readHours_30 : decode cX5_readHours 30 = .ok (.iconst 1, 1) := zo_4 (z_byk bcX5_readHours_0 0 30 _ bcX5_readHours_0_ok rfl)
theorem dX5_readHours_31 : decode cX5_readHours 31 = .ok (.putfield 83, 3) := zo_181 (z_byk bcX5_readHours_0 0 31 _ bcX5_readHours_0_ok rfl) (z_byk bcX5_readHours_0 0 32 _ bcX5_readHours_0_ok rfl) (z_byk bcX5_readHours_0 0 33 _ bcX5_readHours_0_ok rfl) rfl
theorem dX5_readHours_34 : decode cX5_readHours 34 = .ok (.aload_n 0, 1) := zo_42 (z_byk bcX5_readHours_0 0 34 _ bcX5_readHours_0_ok rfl)
theorem dX5_readHours_35 : decode cX5_readHours 35 = .ok (.getfield 31, 3) := zo_180 (z_byk bcX5_readHours_0 0 35 _ bcX5_readHours_0_ok rfl) (z_byk bcX5_readHours_0 0 36 _ bcX5_readHours_0_ok rfl) (z_byk bcX5_readHours_0 0 37 _ bcX5_readHours_0_ok rfl) rfl
theorem dX5_readHours_38 : decode cX5_readHours 38 = .ok (.iconst 1, 1) := zo_4 (z_byk bcX5_readHours_0 0 38 _ bcX5_readHours_0_ok rfl)
theorem dX5_readHours_39 : decode cX5_readHours 39 = .ok (.putfield 89, 3) := zo_181 (z_byk bcX5_readHours_0 0 39 _ bcX5_readHours_0_ok rfl) (z_byk bcX5_readHours_0 0 40 _ bcX5_readHours_0_ok rfl) (z_byk bcX5_readHours_0 0 41 _ bcX5_readHours_0_ok rfl) rfl
theorem dX5_readHours_42 : decode cX5_readHours 42 = .ok (.return_, 1) := zo_177 (z_byk bcX5_readHours_0 0 42 _ bcX5_readHours_0_ok rfl)
theorem dX5_readHours_6 : decode cX5_readHours 6 = .ok (.aload_n 0, 1) := zo_42 (z_byk bcX5_readHours_0 0 6 _ bcX5_readHours_0_ok rfl)
theorem dX5_readHours_7 : decode cX5_readHours 7 = .ok (.ldc 154, 2) := zo_18 (z_byk bcX5_readHours_0 0 7 _ bcX5_readHours_0_ok rfl) (z_byk bcX5_readHours_0 0 8 _ bcX5_readHours_0_ok rfl)
theorem dX5_readHours_9 : decode cX5_readHours 9 = .ok (.invokevirtual 150, 3) := zo_182 (z_byk bcX5_readHours_0 0 9 _ bcX5_readHours_0_ok rfl) (z_byk bcX5_readHours_0 0 10 _ bcX5_readHours_0_ok rfl) (z_byk bcX5_readHours_0 0 11 _ bcX5_readHours_0_ok rfl) rfl
def bcX5_readLaw_0 : List Nat := [42, 180, 0, 58, 153, 0, 9, 42, 5, 182, 0, 109, 177, 42, 4, 181, 0, 58, 42, 182, 0, 112, 42, 180, 0, 31, 42, 18, 216, 182, 0, 105, 181, 0, 89, 42, 180, 0, 31, 180, 0, 89, 154, 0, 12, 42, 18, 217, 182, 0, 105, 153, 0, 10, 42, 182, 0, 112, 167, 0]
theorem bcX5_readLaw_0_ok : z_bys cX5_readLaw 0 bcX5_readLaw_0 = true := by decide +kernel
def bcX5_readLaw_60 : List Nat := [8, 42, 4, 182, 0, 109, 177]
theorem bcX5_readLaw_60_ok : z_bys cX5_readLaw 60 bcX5_readLaw_60 = true := by decide +kernel
theorem dX5_readLaw_0 : decode cX5_readLaw 0 = .ok (.aload_n 0, 1) := zo_42 (z_byk bcX5_readLaw_0 0 0 _ bcX5_readLaw_0_ok rfl)
theorem dX5_readLaw_1 : decode cX5_readLaw 1 = .ok (.getfield 58, 3) := zo_180 (z_byk bcX5_readLaw_0 0 1 _ bcX5_readLaw_0_ok rfl) (z_byk bcX5_readLaw_0 0 2 _ bcX5_readLaw_0_ok rfl) (z_byk bcX5_readLaw_0 0 3 _ bcX5_readLaw_0_ok rfl) rfl
theorem dX5_readLaw_12 : decode cX5_readLaw 12 = .ok (.return_, 1) := zo_177 (z_byk bcX5_readLaw_0 0 12 _ bcX5_readLaw_0_ok rfl)
theorem dX5_readLaw_13 : decode cX5_readLaw 13 = .ok (.aload_n 0, 1) := zo_42 (z_byk bcX5_readLaw_0 0 13 _ bcX5_readLaw_0_ok rfl)
theorem dX5_readLaw_14 : decode cX5_readLaw 14 = .ok (.iconst 1, 1) := zo_4 (z_byk bcX5_readLaw_0 0 14 _ bcX5_readLaw_0_ok rfl)
theorem dX5_readLaw_15 : decode cX5_readLaw 15 = .ok (.putfield 58, 3) := zo_181 (z_byk bcX5_readLaw_0 0 15 _ bcX5_readLaw_0_ok rfl) (z_byk bcX5_readLaw_0 0 16 _ bcX5_readLaw_0_ok rfl) (z_byk bcX5_readLaw_0 0 17 _ bcX5_readLaw_0_ok rfl) rfl
theorem dX5_readLaw_18 : decode cX5_readLaw 18 = .ok (.aload_n 0, 1) := zo_42 (z_byk bcX5_readLaw_0 0 18 _ bcX5_readLaw_0_ok rfl)
theorem dX5_readLaw_19 : decode cX5_readLaw 19 = .ok (.invokevirtual 112, 3) := zo_182 (z_byk bcX5_readLaw_0 0 19 _ bcX5_readLaw_0_ok rfl) (z_byk bcX5_readLaw_0 0 20 _ bcX5_readLaw_0_ok rfl) (z_byk bcX5_readLaw_0 0 21 _ bcX5_readLaw_0_ok rfl) rfl
theorem dX5_readLaw_22 : decode cX5_readLaw 22 = .ok (.aload_n 0, 1) := zo_42 (z_byk bcX5_readLaw_0 0 22 _ bcX5_readLaw_0_ok rfl)
theorem dX5_readLaw_23 : decode cX5_readLaw 23 = .ok (.getfield 31, 3) := zo_180 (z_byk bcX5_readLaw_0 0 23 _ bcX5_readLaw_0_ok rfl) (z_byk bcX5_readLaw_0 0 24 _ bcX5_readLaw_0_ok rfl) (z_byk bcX5_readLaw_0 0 25 _ bcX5_readLaw_0_ok rfl) rfl
theorem dX5_readLaw_26 : decode cX5_readLaw 26 = .ok (.aload_n 0, 1) := zo_42 (z_byk bcX5_readLaw_0 0 26 _ bcX5_readLaw_0_ok rfl)
theorem dX5_readLaw_27 : decode cX5_readLaw 27 = .ok (.ldc 216, 2) := zo_18 (z_byk bcX5_readLaw_0 0 27 _ bcX5_readLaw_0_ok rfl) (z_byk bcX5_readLaw_0 0 28 _ bcX5_readLaw_0_ok rfl)
theorem dX5_readLaw_29 : decode cX5_readLaw 29 = .ok (.invokevirtual 105, 3) := zo_182 (z_byk bcX5_readLaw_0 0 29 _ bcX5_readLaw_0_ok rfl) (z_byk bcX5_readLaw_0 0 30 _ bcX5_readLaw_0_ok rfl) (z_byk bcX5_readLaw_0 0 31 _ bcX5_readLaw_0_ok rfl) rfl
theorem dX5_readLaw_32 : decode cX5_readLaw 32 = .ok (.putfield 89, 3) := zo_181 (z_byk bcX5_readLaw_0 0 32 _ bcX5_readLaw_0_ok rfl) (z_byk bcX5_readLaw_0 0 33 _ bcX5_readLaw_0_ok rfl) (z_byk bcX5_readLaw_0 0 34 _ bcX5_readLaw_0_ok rfl) rfl
theorem dX5_readLaw_35 : decode cX5_readLaw 35 = .ok (.aload_n 0, 1) := zo_42 (z_byk bcX5_readLaw_0 0 35 _ bcX5_readLaw_0_ok rfl)
theorem dX5_readLaw_36 : decode cX5_readLaw 36 = .ok (.getfield 31, 3) := zo_180 (z_byk bcX5_readLaw_0 0 36 _ bcX5_readLaw_0_ok rfl) (z_byk bcX5_readLaw_0 0 37 _ bcX5_readLaw_0_ok rfl) (z_byk bcX5_readLaw_0 0 38 _ bcX5_readLaw_0_ok rfl) rfl
theorem dX5_readLaw_39 : decode cX5_readLaw 39 = .ok (.getfield 89, 3) := zo_180 (z_byk bcX5_readLaw_0 0 39 _ bcX5_readLaw_0_ok rfl) (z_byk bcX5_readLaw_0 0 40 _ bcX5_readLaw_0_ok rfl) (z_byk bcX5_readLaw_0 0 41 _ bcX5_readLaw_0_ok rfl) rfl
theorem dX5_readLaw_4 : decode cX5_readLaw 4 = .ok (.ifCond .eq 9, 3) := zo_153 (z_byk bcX5_readLaw_0 0 4 _ bcX5_readLaw_0_ok rfl) (z_byk bcX5_readLaw_0 0 5 _ bcX5_readLaw_0_ok rfl) (z_byk bcX5_readLaw_0 0 6 _ bcX5_readLaw_0_ok rfl) rfl
theorem dX5_readLaw_42 : decode cX5_readLaw 42 = .ok (.ifCond .ne 12, 3) := zo_154 (z_byk bcX5_readLaw_0 0 42 _ bcX5_readLaw_0_ok rfl) (z_byk bcX5_readLaw_0 0 43 _ bcX5_readLaw_0_ok rfl) (z_byk bcX5_readLaw_0 0 44 _ bcX5_readLaw_0_ok rfl) rfl
theorem dX5_readLaw_45 : decode cX5_readLaw 45 = .ok (.aload_n 0, 1) := zo_42 (z_byk bcX5_readLaw_0 0 45 _ bcX5_readLaw_0_ok rfl)
theorem dX5_readLaw_46 : decode cX5_readLaw 46 = .ok (.ldc 217, 2) := zo_18 (z_byk bcX5_readLaw_0 0 46 _ bcX5_readLaw_0_ok rfl) (z_byk bcX5_readLaw_0 0 47 _ bcX5_readLaw_0_ok rfl)
theorem dX5_readLaw_48 : decode cX5_readLaw 48 = .ok (.invokevirtual 105, 3) := zo_182 (z_byk bcX5_readLaw_0 0 48 _ bcX5_readLaw_0_ok rfl) (z_byk bcX5_readLaw_0 0 49 _ bcX5_readLaw_0_ok rfl) (z_byk bcX5_readLaw_0 0 50 _ bcX5_readLaw_0_ok rfl) rfl
theorem dX5_readLaw_51 : decode cX5_readLaw 51 = .ok (.ifCond .eq 10, 3) := zo_153 (z_byk bcX5_readLaw_0 0 51 _ bcX5_readLaw_0_ok rfl) (z_byk bcX5_readLaw_0 0 52 _ bcX5_readLaw_0_ok rfl) (z_byk bcX5_readLaw_0 0 53 _ bcX5_readLaw_0_ok rfl) rfl
theorem dX5_readLaw_54 : decode cX5_readLaw 54 = .ok (.aload_n 0, 1) := zo_42 (z_byk bcX5_readLaw_0 0 54 _ bcX5_readLaw_0_ok rfl)
theorem dX5_readLaw_55 : decode cX5_readLaw 55 = .ok (.invokevirtual 112, 3) := zo_182 (z_byk bcX5_readLaw_0 0 55 _ bcX5_readLaw_0_ok rfl) (z_byk bcX5_readLaw_0 0 56 _ bcX5_readLaw_0_ok rfl) (z_byk bcX5_readLaw_0 0 57 _ bcX5_readLaw_0_ok rfl) rfl
theorem dX5_readLaw_58 : decode cX5_readLaw 58 = .ok (.goto 8, 3) := zo_167 (z_byk bcX5_readLaw_0 0 58 _ bcX5_readLaw_0_ok rfl) (z_byk bcX5_readLaw_0 0 59 _ bcX5_readLaw_0_ok rfl) (z_byk bcX5_readLaw_60 60 0 _ bcX5_readLaw_60_ok rfl) rfl
theorem dX5_readLaw_61 : decode cX5_readLaw 61 = .ok (.aload_n 0, 1) := zo_42 (z_byk bcX5_readLaw_60 60 1 _ bcX5_readLaw_60_ok rfl)
theorem dX5_readLaw_62 : decode cX5_readLaw 62 = .ok (.iconst 1, 1) := zo_4 (z_byk bcX5_readLaw_60 60 2 _ bcX5_readLaw_60_ok rfl)
theorem dX5_readLaw_63 : decode cX5_readLaw 63 = .ok (.invokevirtual 109, 3) := zo_182 (z_byk bcX5_readLaw_60 60 3 _ bcX5_readLaw_60_ok rfl) (z_byk bcX5_readLaw_60 60 4 _ bcX5_readLaw_60_ok rfl) (z_byk bcX5_readLaw_60 60 5 _ bcX5_readLaw_60_ok rfl) rfl
theorem dX5_readLaw_66 : decode cX5_readLaw 66 = .ok (.return_, 1) := zo_177 (z_byk bcX5_readLaw_60 60 6 _ bcX5_readLaw_60_ok rfl)
theorem dX5_readLaw_7 : decode cX5_readLaw 7 = .ok (.aload_n 0, 1) := zo_42 (z_byk bcX5_readLaw_0 0 7 _ bcX5_readLaw_0_ok rfl)
theorem dX5_readLaw_8 : decode cX5_readLaw 8 = .ok (.iconst 2, 1) := zo_5 (z_byk bcX5_readLaw_0 0 8 _ bcX5_readLaw_0_ok rfl)
theorem dX5_readLaw_9 : decode cX5_readLaw 9 = .ok (.invokevirtual 109, 3) := zo_182 (z_byk bcX5_readLaw_0 0 9 _ bcX5_readLaw_0_ok rfl) (z_byk bcX5_readLaw_0 0 10 _ bcX5_readLaw_0_ok rfl) (z_byk bcX5_readLaw_0 0 11 _ bcX5_readLaw_0_ok rfl) rfl
def bcX5_readStrays_0 : List Nat := [42, 180, 0, 55, 7, 161, 0, 9, 42, 5, 182, 0, 109, 177, 42, 89, 180, 0, 55, 4, 96, 181, 0, 55, 42, 182, 0, 112, 42, 180, 0, 31, 89, 180, 0, 207, 4, 42, 180, 0, 31, 180, 0, 190, 120, 128, 181, 0, 207, 42, 180, 0, 31, 180, 0, 210, 42, 180, 0, 31]
theorem bcX5_readStrays_0_ok : z_bys cX5_readStrays 0 bcX5_readStrays_0 = true := by decide +kernel
def bcX5_readStrays_60 : List Nat := [180, 0, 190, 42, 4, 16, 99, 182, 0, 115, 79, 42, 18, 166, 182, 0, 150, 42, 180, 0, 31, 180, 0, 213, 42, 180, 0, 31, 180, 0, 190, 42, 182, 0, 160, 79, 177]
theorem bcX5_readStrays_60_ok : z_bys cX5_readStrays 60 bcX5_readStrays_60 = true := by decide +kernel
theorem dX5_readStrays_0 : decode cX5_readStrays 0 = .ok (.aload_n 0, 1) := zo_42 (z_byk bcX5_readStrays_0 0 0 _ bcX5_readStrays_0_ok rfl)
theorem dX5_readStrays_1 : decode cX5_readStrays 1 = .ok (.getfield 55, 3) := zo_180 (z_byk bcX5_readStrays_0 0 1 _ bcX5_readStrays_0_ok rfl) (z_byk bcX5_readStrays_0 0 2 _ bcX5_readStrays_0_ok rfl) (z_byk bcX5_readStrays_0 0 3 _ bcX5_readStrays_0_ok rfl) rfl
theorem dX5_readStrays_10 : decode cX5_readStrays 10 = .ok (.invokevirtual 109, 3) := zo_182 (z_byk bcX5_readStrays_0 0 10 _ bcX5_readStrays_0_ok rfl) (z_byk bcX5_readStrays_0 0 11 _ bcX5_readStrays_0_ok rfl) (z_byk bcX5_readStrays_0 0 12 _ bcX5_readStrays_0_ok rfl) rfl
theorem dX5_readStrays_13 : decode cX5_readStrays 13 = .ok (.return_, 1) := zo_177 (z_byk bcX5_readStrays_0 0 13 _ bcX5_readStrays_0_ok rfl)
theorem dX5_readStrays_14 : decode cX5_readStrays 14 = .ok (.aload_n 0, 1) := zo_42 (z_byk bcX5_readStrays_0 0 14 _ bcX5_readStrays_0_ok rfl)
theorem dX5_readStrays_15 : decode cX5_readStrays 15 = .ok (.dup, 1) := zo_89 (z_byk bcX5_readStrays_0 0 15 _ bcX5_readStrays_0_ok rfl)
theorem dX5_readStrays_16 : decode cX5_readStrays 16 = .ok (.getfield 55, 3) := zo_180 (z_byk bcX5_readStrays_0 0 16 _ bcX5_readStrays_0_ok rfl) (z_byk bcX5_readStrays_0 0 17 _ bcX5_readStrays_0_ok rfl) (z_byk bcX5_readStrays_0 0 18 _ bcX5_readStrays_0_ok rfl) rfl
theorem dX5_readStrays_19 : decode cX5_readStrays 19 = .ok (.iconst 1, 1) := zo_4 (z_byk bcX5_readStrays_0 0 19 _ bcX5_readStrays_0_ok rfl)
theorem dX5_readStrays_20 : decode cX5_readStrays 20 = .ok (.iadd, 1) := zo_96 (z_byk bcX5_readStrays_0 0 20 _ bcX5_readStrays_0_ok rfl)
theorem dX5_readStrays_21 : decode cX5_readStrays 21 = .ok (.putfield 55, 3) := zo_181 (z_byk bcX5_readStrays_0 0 21 _ bcX5_readStrays_0_ok rfl) (z_byk bcX5_readStrays_0 0 22 _ bcX5_readStrays_0_ok rfl) (z_byk bcX5_readStrays_0 0 23 _ bcX5_readStrays_0_ok rfl) rfl
theorem dX5_readStrays_24 : decode cX5_readStrays 24 = .ok (.aload_n 0, 1) := zo_42 (z_byk bcX5_readStrays_0 0 24 _ bcX5_readStrays_0_ok rfl)
theorem dX5_readStrays_25 : decode cX5_readStrays 25 = .ok (.invokevirtual 112, 3) := zo_182 (z_byk bcX5_readStrays_0 0 25 _ bcX5_readStrays_0_ok rfl) (z_byk bcX5_readStrays_0 0 26 _ bcX5_readStrays_0_ok rfl) (z_byk bcX5_readStrays_0 0 27 _ bcX5_readStrays_0_ok rfl) rfl
theorem dX5_readStrays_28 : decode cX5_readStrays 28 = .ok (.aload_n 0, 1) := zo_42 (z_byk bcX5_readStrays_0 0 28 _ bcX5_readStrays_0_ok rfl)
theorem dX5_readStrays_29 : decode cX5_readStrays 29 = .ok (.getfield 31, 3) := zo_180 (z_byk bcX5_readStrays_0 0 29 _ bcX5_readStrays_0_ok rfl) (z_byk bcX5_readStrays_0 0 30 _ bcX5_readStrays_0_ok rfl) (z_byk bcX5_readStrays_0 0 31 _ bcX5_readStrays_0_ok rfl) rfl
theorem dX5_readStrays_32 : decode cX5_readStrays 32 = .ok (.dup, 1) := zo_89 (z_byk bcX5_readStrays_0 0 32 _ bcX5_readStrays_0_ok rfl)
theorem dX5_readStrays_33 : decode cX5_readStrays 33 = .ok (.getfield 207, 3) := zo_180 (z_byk bcX5_readStrays_0 0 33 _ bcX5_readStrays_0_ok rfl) (z_byk bcX5_readStrays_0 0 34 _ bcX5_readStrays_0_ok rfl) (z_byk bcX5_readStrays_0 0 35 _ bcX5_readStrays_0_ok rfl) rfl
theorem dX5_readStrays_36 : decode cX5_readStrays 36 = .ok (.iconst 1, 1) := zo_4 (z_byk bcX5_readStrays_0 0 36 _ bcX5_readStrays_0_ok rfl)
theorem dX5_readStrays_37 : decode cX5_readStrays 37 = .ok (.aload_n 0, 1) := zo_42 (z_byk bcX5_readStrays_0 0 37 _ bcX5_readStrays_0_ok rfl)
theorem dX5_readStrays_38 : decode cX5_readStrays 38 = .ok (.getfield 31, 3) := zo_180 (z_byk bcX5_readStrays_0 0 38 _ bcX5_readStrays_0_ok rfl) (z_byk bcX5_readStrays_0 0 39 _ bcX5_readStrays_0_ok rfl) (z_byk bcX5_readStrays_0 0 40 _ bcX5_readStrays_0_ok rfl) rfl
theorem dX5_readStrays_4 : decode cX5_readStrays 4 = .ok (.iconst 4, 1) := zo_7 (z_byk bcX5_readStrays_0 0 4 _ bcX5_readStrays_0_ok rfl)
theorem dX5_readStrays_41 : decode cX5_readStrays 41 = .ok (.getfield 190, 3) := zo_180 (z_byk bcX5_readStrays_0 0 41 _ bcX5_readStrays_0_ok rfl) (z_byk bcX5_readStrays_0 0 42 _ bcX5_readStrays_0_ok rfl) (z_byk bcX5_readStrays_0 0 43 _ bcX5_readStrays_0_ok rfl) rfl
theorem dX5_readStrays_44 : decode cX5_readStrays 44 = .ok (.ishl, 1) := zo_120 (z_byk bcX5_readStrays_0 0 44 _ bcX5_readStrays_0_ok rfl)
theorem dX5_readStrays_45 : decode cX5_readStrays 45 = .ok (.ior, 1) := zo_128 (z_byk bcX5_readStrays_0 0 45 _ bcX5_readStrays_0_ok rfl)
theorem dX5_readStrays_46 : decode cX5_readStrays 46 = .ok (.putfield 207, 3) := zo_181 (z_byk bcX5_readStrays_0 0 46 _ bcX5_readStrays_0_ok rfl) (z_byk bcX5_readStrays_0 0 47 _ bcX5_readStrays_0_ok rfl) (z_byk bcX5_readStrays_0 0 48 _ bcX5_readStrays_0_ok rfl) rfl
theorem dX5_readStrays_49 : decode cX5_readStrays 49 = .ok (.aload_n 0, 1) := zo_42 (z_byk bcX5_readStrays_0 0 49 _ bcX5_readStrays_0_ok rfl)
theorem dX5_readStrays_5 : decode cX5_readStrays 5 = .ok (.if_icmp .lt 9, 3) := zo_161 (z_byk bcX5_readStrays_0 0 5 _ bcX5_readStrays_0_ok rfl) (z_byk bcX5_readStrays_0 0 6 _ bcX5_readStrays_0_ok rfl) (z_byk bcX5_readStrays_0 0 7 _ bcX5_readStrays_0_ok rfl) rfl
theorem dX5_readStrays_50 : decode cX5_readStrays 50 = .ok (.getfield 31, 3) := zo_180 (z_byk bcX5_readStrays_0 0 50 _ bcX5_readStrays_0_ok rfl) (z_byk bcX5_readStrays_0 0 51 _ bcX5_readStrays_0_ok rfl) (z_byk bcX5_readStrays_0 0 52 _ bcX5_readStrays_0_ok rfl) rfl
theorem dX5_readStrays_53 : decode cX5_readStrays 53 = .ok (.getfield 210, 3) := zo_180 (z_byk bcX5_readStrays_0 0 53 _ bcX5_readStrays_0_ok rfl) (z_byk bcX5_readStrays_0 0 54 _ bcX5_readStrays_0_ok rfl) (z_byk bcX5_readStrays_0 0 55 _ bcX5_readStrays_0_ok rfl) rfl
theorem dX5_readStrays_56 : decode cX5_readStrays 56 = .ok (.aload_n 0, 1) := zo_42 (z_byk bcX5_readStrays_0 0 56 _ bcX5_readStrays_0_ok rfl)
theorem dX5_readStrays_57 : decode cX5_readStrays 57 = .ok (.getfield 31, 3) := zo_180 (z_byk bcX5_readStrays_0 0 57 _ bcX5_readStrays_0_ok rfl) (z_byk bcX5_readStrays_0 0 58 _ bcX5_readStrays_0_ok rfl) (z_byk bcX5_readStrays_0 0 59 _ bcX5_readStrays_0_ok rfl) rfl
theorem dX5_readStrays_60 : decode cX5_readStrays 60 = .ok (.getfield 190, 3) := zo_180 (z_byk bcX5_readStrays_60 60 0 _ bcX5_readStrays_60_ok rfl) (z_byk bcX5_readStrays_60 60 1 _ bcX5_readStrays_60_ok rfl) (z_byk bcX5_readStrays_60 60 2 _ bcX5_readStrays_60_ok rfl) rfl
theorem dX5_readStrays_63 : decode cX5_readStrays 63 = .ok (.aload_n 0, 1) := zo_42 (z_byk bcX5_readStrays_60 60 3 _ bcX5_readStrays_60_ok rfl)
theorem dX5_readStrays_64 : decode cX5_readStrays 64 = .ok (.iconst 1, 1) := zo_4 (z_byk bcX5_readStrays_60 60 4 _ bcX5_readStrays_60_ok rfl)
theorem dX5_readStrays_65 : decode cX5_readStrays 65 = .ok (.bipush 99, 2) := zo_16 (z_byk bcX5_readStrays_60 60 5 _ bcX5_readStrays_60_ok rfl) (z_byk bcX5_readStrays_60 60 6 _ bcX5_readStrays_60_ok rfl) rfl
theorem dX5_readStrays_67 : decode cX5_readStrays 67 = .ok (.invokevirtual 115, 3) := zo_182 (z_byk bcX5_readStrays_60 60 7 _ bcX5_readStrays_60_ok rfl) (z_byk bcX5_readStrays_60 60 8 _ bcX5_readStrays_60_ok rfl) (z_byk bcX5_readStrays_60 60 9 _ bcX5_readStrays_60_ok rfl) rfl
theorem dX5_readStrays_70 : decode cX5_readStrays 70 = .ok (.iastore, 1) := zo_79 (z_byk bcX5_readStrays_60 60 10 _ bcX5_readStrays_60_ok rfl)
theorem dX5_readStrays_71 : decode cX5_readStrays 71 = .ok (.aload_n 0, 1) := zo_42 (z_byk bcX5_readStrays_60 60 11 _ bcX5_readStrays_60_ok rfl)
theorem dX5_readStrays_72 : decode cX5_readStrays 72 = .ok (.ldc 166, 2) := zo_18 (z_byk bcX5_readStrays_60 60 12 _ bcX5_readStrays_60_ok rfl) (z_byk bcX5_readStrays_60 60 13 _ bcX5_readStrays_60_ok rfl)
theorem dX5_readStrays_74 : decode cX5_readStrays 74 = .ok (.invokevirtual 150, 3) := zo_182 (z_byk bcX5_readStrays_60 60 14 _ bcX5_readStrays_60_ok rfl) (z_byk bcX5_readStrays_60 60 15 _ bcX5_readStrays_60_ok rfl) (z_byk bcX5_readStrays_60 60 16 _ bcX5_readStrays_60_ok rfl) rfl
theorem dX5_readStrays_77 : decode cX5_readStrays 77 = .ok (.aload_n 0, 1) := zo_42 (z_byk bcX5_readStrays_60 60 17 _ bcX5_readStrays_60_ok rfl)
theorem dX5_readStrays_78 : decode cX5_readStrays 78 = .ok (.getfield 31, 3) := zo_180 (z_byk bcX5_readStrays_60 60 18 _ bcX5_readStrays_60_ok rfl) (z_byk bcX5_readStrays_60 60 19 _ bcX5_readStrays_60_ok rfl) (z_byk bcX5_readStrays_60 60 20 _ bcX5_readStrays_60_ok rfl) rfl
theorem dX5_readStrays_8 : decode cX5_readStrays 8 = .ok (.aload_n 0, 1) := zo_42 (z_byk bcX5_readStrays_0 0 8 _ bcX5_readStrays_0_ok rfl)
theorem dX5_readStrays_81 : decode cX5_readStrays 81 = .ok (.getfield 213, 3) := zo_180 (z_byk bcX5_readStrays_60 60 21 _ bcX5_readStrays_60_ok rfl) (z_byk bcX5_readStrays_60 60 22 _ bcX5_readStrays_60_ok rfl) (z_byk bcX5_readStrays_60 60 23 _ bcX5_readStrays_60_ok rfl) rfl
theorem dX5_readStrays_84 : decode cX5_readStrays 84 = .ok (.aload_n 0, 1) := zo_42 (z_byk bcX5_readStrays_60 60 24 _ bcX5_readStrays_60_ok rfl)
theorem dX5_readStrays_85 : decode cX5_readStrays 85 = .ok (.getfield 31, 3) := zo_180 (z_byk bcX5_readStrays_60 60 25 _ bcX5_readStrays_60_ok rfl) (z_byk bcX5_readStrays_60 60 26 _ bcX5_readStrays_60_ok rfl) (z_byk bcX5_readStrays_60 60 27 _ bcX5_readStrays_60_ok rfl) rfl
theorem dX5_readStrays_88 : decode cX5_readStrays 88 = .ok (.getfield 190, 3) := zo_180 (z_byk bcX5_readStrays_60 60 28 _ bcX5_readStrays_60_ok rfl) (z_byk bcX5_readStrays_60 60 29 _ bcX5_readStrays_60_ok rfl) (z_byk bcX5_readStrays_60 60 30 _ bcX5_readStrays_60_ok rfl) rfl
theorem dX5_readStrays_9 : decode cX5_readStrays 9 = .ok (.iconst 2, 1) := zo_5 (z_byk bcX5_readStrays_0 0 9 _ bcX5_readStrays_0_ok rfl)
theorem dX5_readStrays_91 : decode cX5_readStrays 91 = .ok (.aload_n 0, 1) := zo_42 (z_byk bcX5_readStrays_60 60 31 _ bcX5_readStrays_60_ok rfl)
theorem dX5_readStrays_92 : decode cX5_readStrays 92 = .ok (.invokevirtual 160, 3) := zo_182 (z_byk bcX5_readStrays_60 60 32 _ bcX5_readStrays_60_ok rfl) (z_byk bcX5_readStrays_60 60 33 _ bcX5_readStrays_60_ok rfl) (z_byk bcX5_readStrays_60 60 34 _ bcX5_readStrays_60_ok rfl) rfl
theorem dX5_readStrays_95 : decode cX5_readStrays 95 = .ok (.iastore, 1) := zo_79 (z_byk bcX5_readStrays_60 60 35 _ bcX5_readStrays_60_ok rfl)
theorem dX5_readStrays_96 : decode cX5_readStrays 96 = .ok (.return_, 1) := zo_177 (z_byk bcX5_readStrays_60 60 36 _ bcX5_readStrays_60_ok rfl)
def bcX5_showPlaces_0 : List Nat := [3, 60, 27, 42, 180, 0, 31, 180, 0, 83, 162, 0, 47, 42, 180, 0, 31, 180, 0, 86, 27, 42, 180, 0, 31, 180, 0, 89, 153, 0, 19, 42, 180, 0, 31, 180, 0, 92, 27, 46, 4, 27, 120, 128, 167, 0, 6, 4, 27, 120, 79, 132, 1, 1, 167, 255, 204, 177]
theorem bcX5_showPlaces_0_ok : z_bys cX5_showPlaces 0 bcX5_showPlaces_0 = true := by decide +kernel
theorem dX5_showPlaces_0 : decode cX5_showPlaces 0 = .ok (.iconst 0, 1) := zo_3 (z_byk bcX5_showPlaces_0 0 0 _ bcX5_showPlaces_0_ok rfl)
theorem dX5_showPlaces_1 : decode cX5_showPlaces 1 = .ok (.istore_n 1, 1) := zo_60 (z_byk bcX5_showPlaces_0 0 1 _ bcX5_showPlaces_0_ok rfl)
theorem dX5_showPlaces_10 : decode cX5_showPlaces 10 = .ok (.if_icmp .ge 47, 3) := zo_162 (z_byk bcX5_showPlaces_0 0 10 _ bcX5_showPlaces_0_ok rfl) (z_byk bcX5_showPlaces_0 0 11 _ bcX5_showPlaces_0_ok rfl) (z_byk bcX5_showPlaces_0 0 12 _ bcX5_showPlaces_0_ok rfl) rfl
theorem dX5_showPlaces_13 : decode cX5_showPlaces 13 = .ok (.aload_n 0, 1) := zo_42 (z_byk bcX5_showPlaces_0 0 13 _ bcX5_showPlaces_0_ok rfl)
theorem dX5_showPlaces_14 : decode cX5_showPlaces 14 = .ok (.getfield 31, 3) := zo_180 (z_byk bcX5_showPlaces_0 0 14 _ bcX5_showPlaces_0_ok rfl) (z_byk bcX5_showPlaces_0 0 15 _ bcX5_showPlaces_0_ok rfl) (z_byk bcX5_showPlaces_0 0 16 _ bcX5_showPlaces_0_ok rfl) rfl
theorem dX5_showPlaces_17 : decode cX5_showPlaces 17 = .ok (.getfield 86, 3) := zo_180 (z_byk bcX5_showPlaces_0 0 17 _ bcX5_showPlaces_0_ok rfl) (z_byk bcX5_showPlaces_0 0 18 _ bcX5_showPlaces_0_ok rfl) (z_byk bcX5_showPlaces_0 0 19 _ bcX5_showPlaces_0_ok rfl) rfl
theorem dX5_showPlaces_2 : decode cX5_showPlaces 2 = .ok (.iload_n 1, 1) := zo_27 (z_byk bcX5_showPlaces_0 0 2 _ bcX5_showPlaces_0_ok rfl)
theorem dX5_showPlaces_20 : decode cX5_showPlaces 20 = .ok (.iload_n 1, 1) := zo_27 (z_byk bcX5_showPlaces_0 0 20 _ bcX5_showPlaces_0_ok rfl)
theorem dX5_showPlaces_21 : decode cX5_showPlaces 21 = .ok (.aload_n 0, 1) := zo_42 (z_byk bcX5_showPlaces_0 0 21 _ bcX5_showPlaces_0_ok rfl)
theorem dX5_showPlaces_22 : decode cX5_showPlaces 22 = .ok (.getfield 31, 3) := zo_180 (z_byk bcX5_showPlaces_0 0 22 _ bcX5_showPlaces_0_ok rfl) (z_byk bcX5_showPlaces_0 0 23 _ bcX5_showPlaces_0_ok rfl) (z_byk bcX5_showPlaces_0 0 24 _ bcX5_showPlaces_0_ok rfl) rfl
theorem dX5_showPlaces_25 : decode cX5_showPlaces 25 = .ok (.getfield 89, 3) := zo_180 (z_byk bcX5_showPlaces_0 0 25 _ bcX5_showPlaces_0_ok rfl) (z_byk bcX5_showPlaces_0 0 26 _ bcX5_showPlaces_0_ok rfl) (z_byk bcX5_showPlaces_0 0 27 _ bcX5_showPlaces_0_ok rfl) rfl
theorem dX5_showPlaces_28 : decode cX5_showPlaces 28 = .ok (.ifCond .eq 19, 3) := zo_153 (z_byk bcX5_showPlaces_0 0 28 _ bcX5_showPlaces_0_ok rfl) (z_byk bcX5_showPlaces_0 0 29 _ bcX5_showPlaces_0_ok rfl) (z_byk bcX5_showPlaces_0 0 30 _ bcX5_showPlaces_0_ok rfl) rfl
theorem dX5_showPlaces_3 : decode cX5_showPlaces 3 = .ok (.aload_n 0, 1) := zo_42 (z_byk bcX5_showPlaces_0 0 3 _ bcX5_showPlaces_0_ok rfl)
theorem dX5_showPlaces_31 : decode cX5_showPlaces 31 = .ok (.aload_n 0, 1) := zo_42 (z_byk bcX5_showPlaces_0 0 31 _ bcX5_showPlaces_0_ok rfl)
theorem dX5_showPlaces_32 : decode cX5_showPlaces 32 = .ok (.getfield 31, 3) := zo_180 (z_byk bcX5_showPlaces_0 0 32 _ bcX5_showPlaces_0_ok rfl) (z_byk bcX5_showPlaces_0 0 33 _ bcX5_showPlaces_0_ok rfl) (z_byk bcX5_showPlaces_0 0 34 _ bcX5_showPlaces_0_ok rfl) rfl
theorem dX5_showPlaces_35 : decode cX5_showPlaces 35 = .ok (.getfield 92, 3) := zo_180 (z_byk bcX5_showPlaces_0 0 35 _ bcX5_showPlaces_0_ok rfl) (z_byk bcX5_showPlaces_0 0 36 _ bcX5_showPlaces_0_ok rfl) (z_byk bcX5_showPlaces_0 0 37 _ bcX5_showPlaces_0_ok rfl) rfl
theorem dX5_showPlaces_38 : decode cX5_showPlaces 38 = .ok (.iload_n 1, 1) := zo_27 (z_byk bcX5_showPlaces_0 0 38 _ bcX5_showPlaces_0_ok rfl)
theorem dX5_showPlaces_39 : decode cX5_showPlaces 39 = .ok (.iaload, 1) := zo_46 (z_byk bcX5_showPlaces_0 0 39 _ bcX5_showPlaces_0_ok rfl)
theorem dX5_showPlaces_4 : decode cX5_showPlaces 4 = .ok (.getfield 31, 3) := zo_180 (z_byk bcX5_showPlaces_0 0 4 _ bcX5_showPlaces_0_ok rfl) (z_byk bcX5_showPlaces_0 0 5 _ bcX5_showPlaces_0_ok rfl) (z_byk bcX5_showPlaces_0 0 6 _ bcX5_showPlaces_0_ok rfl) rfl
theorem dX5_showPlaces_40 : decode cX5_showPlaces 40 = .ok (.iconst 1, 1) := zo_4 (z_byk bcX5_showPlaces_0 0 40 _ bcX5_showPlaces_0_ok rfl)
theorem dX5_showPlaces_41 : decode cX5_showPlaces 41 = .ok (.iload_n 1, 1) := zo_27 (z_byk bcX5_showPlaces_0 0 41 _ bcX5_showPlaces_0_ok rfl)
theorem dX5_showPlaces_42 : decode cX5_showPlaces 42 = .ok (.ishl, 1) := zo_120 (z_byk bcX5_showPlaces_0 0 42 _ bcX5_showPlaces_0_ok rfl)
theorem dX5_showPlaces_43 : decode cX5_showPlaces 43 = .ok (.ior, 1) := zo_128 (z_byk bcX5_showPlaces_0 0 43 _ bcX5_showPlaces_0_ok rfl)
theorem dX5_showPlaces_44 : decode cX5_showPlaces 44 = .ok (.goto 6, 3) := zo_167 (z_byk bcX5_showPlaces_0 0 44 _ bcX5_showPlaces_0_ok rfl) (z_byk bcX5_showPlaces_0 0 45 _ bcX5_showPlaces_0_ok rfl) (z_byk bcX5_showPlaces_0 0 46 _ bcX5_showPlaces_0_ok rfl) rfl
theorem dX5_showPlaces_47 : decode cX5_showPlaces 47 = .ok (.iconst 1, 1) := zo_4 (z_byk bcX5_showPlaces_0 0 47 _ bcX5_showPlaces_0_ok rfl)
theorem dX5_showPlaces_48 : decode cX5_showPlaces 48 = .ok (.iload_n 1, 1) := zo_27 (z_byk bcX5_showPlaces_0 0 48 _ bcX5_showPlaces_0_ok rfl)
theorem dX5_showPlaces_49 : decode cX5_showPlaces 49 = .ok (.ishl, 1) := zo_120 (z_byk bcX5_showPlaces_0 0 49 _ bcX5_showPlaces_0_ok rfl)
theorem dX5_showPlaces_50 : decode cX5_showPlaces 50 = .ok (.iastore, 1) := zo_79 (z_byk bcX5_showPlaces_0 0 50 _ bcX5_showPlaces_0_ok rfl)
theorem dX5_showPlaces_51 : decode cX5_showPlaces 51 = .ok (.iinc 1 1, 3) := zo_132 (z_byk bcX5_showPlaces_0 0 51 _ bcX5_showPlaces_0_ok rfl) (z_byk bcX5_showPlaces_0 0 52 _ bcX5_showPlaces_0_ok rfl) (z_byk bcX5_showPlaces_0 0 53 _ bcX5_showPlaces_0_ok rfl) rfl
theorem dX5_showPlaces_54 : decode cX5_showPlaces 54 = .ok (.goto (-52), 3) := zo_167 (z_byk bcX5_showPlaces_0 0 54 _ bcX5_showPlaces_0_ok rfl) (z_byk bcX5_showPlaces_0 0 55 _ bcX5_showPlaces_0_ok rfl) (z_byk bcX5_showPlaces_0 0 56 _ bcX5_showPlaces_0_ok rfl) rfl
theorem dX5_showPlaces_57 : decode cX5_showPlaces 57 = .ok (.return_, 1) := zo_177 (z_byk bcX5_showPlaces_0 0 57 _ bcX5_showPlaces_0_ok rfl)
theorem dX5_showPlaces_7 : decode cX5_showPlaces 7 = .ok (.getfield 83, 3) := zo_180 (z_byk bcX5_showPlaces_0 0 7 _ bcX5_showPlaces_0_ok rfl) (z_byk bcX5_showPlaces_0 0 8 _ bcX5_showPlaces_0_ok rfl) (z_byk bcX5_showPlaces_0 0 9 _ bcX5_showPlaces_0_ok rfl) rfl
set_option maxHeartbeats 4000000 in
set_option maxRecDepth 100000 in
theorem k_J3_checkIndex_8e157 (l : Launch) (sa : Nat → Nat) (dC : Nat → ClassId) (dI : Nat → Nat → Nat) (p0 : Int32) (p1 : Int32) (b_p0 : 0 ≤ p0.toInt ∧ p0.toInt ≤ 5) (b_p1 : 1 ≤ p1.toInt ∧ p1.toInt ≤ 6) (hep_0 : p0.toInt < p1.toInt) (sz : Nat) : Met l yJ3_checkIndex_8e157 (.code yJ3_checkIndex_8e157 cJ3_checkIndex_8e157 3 (some .int) :: zT) ({ frames := 0, cells := 0, slots := 0, locals := 0 }) (va_Pc [.int p0, .int p1, .null] (zB sa dC dI [] [] sz)) (va_Qi (fun (r : Int32) (_ : Unit) => (0 ≤ r.toInt ∧ r.toInt ≤ 5)) (fun _ t => zW dC dI [] [] (va_A [] sz) t) (va_A [] sz)) 0 0 (va_A [] sz) := by
  refine z_enter (by decide) (by exact (Nat.le_of_ble_eq_true rfl)) ?_
  intro p e s m args below meth c ls A R Qc hargs hsz hQe hAe hRe hx hb hml hr hts hown hlocks hin hl hP hK hD hN hXs hA hS
  rw [hAe] at hQe
  have hown : s.vm.findClass RJ3 = some m.cls := hown
  have hl : lv_has ls 3 [(0, .int p0), (1, .int p1), (2, .null)] := hl
  refine lv_iload_n hx hb dJ3_checkIndex_8e157_0 rfl (lv_at hl 0 rfl) ?_
  refine lv_if_lt (tgt := 9) hx hb dJ3_checkIndex_8e157_1 (by decide) (fun q => absurd (zz_lt rfl (show Int32.toInt 0 = 0 from by decide) q) (by first | with_reducible assumption | omega)) (fun c_1 => ?_)
  have ic_1 := zz_nlt rfl (show Int32.toInt 0 = 0 from by decide) c_1
  refine lv_iload_n hx hb dJ3_checkIndex_8e157_4 rfl (lv_at hl 0 rfl) ?_
  refine lv_iload_n hx hb dJ3_checkIndex_8e157_5 rfl (lv_at hl 1 rfl) ?_
  refine lv_icmp_lt (tgt := 16) hx hb dJ3_checkIndex_8e157_6 (by decide) (fun c_2 => ?_) (fun q => absurd (zz_nlt rfl rfl q) (by first | with_reducible assumption | omega))
  have ic_2 := zz_lt rfl rfl c_2
  refine lv_iload_n hx hb dJ3_checkIndex_8e157_16 rfl (lv_at hl 0 rfl) ?_
  exact W.iret (v := p0) hx hb hr (fun t ht hW => by rw [← hQe]; exact ⟨⟨p0, (), rfl, (by first | with_reducible assumption | exact z_rle b_p0 (by decide) | omega), z_ret hP hK hD ht hW [] [] rfl (by decide) rfl⟩, hS.F ht⟩) hS.2.2 dJ3_checkIndex_8e157_17
set_option maxHeartbeats 4000000 in
set_option maxRecDepth 100000 in
theorem k_J3_checkIndex_8e157_v1 (l : Launch) (sa : Nat → Nat) (dC : Nat → ClassId) (dI : Nat → Nat → Nat) (p0 : Int32) (p1 : Int32) (q2 : Nat) (b_p0 : 0 ≤ p0.toInt ∧ p0.toInt ≤ 5) (b_p1 : 1 ≤ p1.toInt ∧ p1.toInt ≤ 6) (hep_0 : p0.toInt < p1.toInt) (sz : Nat) : Met l yJ3_checkIndex_8e157 (.code yJ3_checkIndex_8e157 cJ3_checkIndex_8e157 3 (some .int) :: zT) ({ frames := 0, cells := 0, slots := 0, locals := 0 }) (va_Pc [.int p0, .int p1, .ref q2] (zB sa dC dI [] [] sz)) (va_Qi (fun (r : Int32) (_ : Unit) => (0 ≤ r.toInt ∧ r.toInt ≤ 5)) (fun _ t => zW dC dI [] [] (va_A [] sz) t) (va_A [] sz)) 0 0 (va_A [] sz) := by
  refine z_enter (by decide) (by exact (Nat.le_of_ble_eq_true rfl)) ?_
  intro p e s m args below meth c ls A R Qc hargs hsz hQe hAe hRe hx hb hml hr hts hown hlocks hin hl hP hK hD hN hXs hA hS
  rw [hAe] at hQe
  have hown : s.vm.findClass RJ3 = some m.cls := hown
  have hl : lv_has ls 3 [(0, .int p0), (1, .int p1), (2, .ref q2)] := hl
  refine lv_iload_n hx hb dJ3_checkIndex_8e157_0 rfl (lv_at hl 0 rfl) ?_
  refine lv_if_lt (tgt := 9) hx hb dJ3_checkIndex_8e157_1 (by decide) (fun q => absurd (zz_lt rfl (show Int32.toInt 0 = 0 from by decide) q) (by first | with_reducible assumption | omega)) (fun c_1 => ?_)
  have ic_1 := zz_nlt rfl (show Int32.toInt 0 = 0 from by decide) c_1
  refine lv_iload_n hx hb dJ3_checkIndex_8e157_4 rfl (lv_at hl 0 rfl) ?_
  refine lv_iload_n hx hb dJ3_checkIndex_8e157_5 rfl (lv_at hl 1 rfl) ?_
  refine lv_icmp_lt (tgt := 16) hx hb dJ3_checkIndex_8e157_6 (by decide) (fun c_2 => ?_) (fun q => absurd (zz_nlt rfl rfl q) (by first | with_reducible assumption | omega))
  have ic_2 := zz_lt rfl rfl c_2
  refine lv_iload_n hx hb dJ3_checkIndex_8e157_16 rfl (lv_at hl 0 rfl) ?_
  exact W.iret (v := p0) hx hb hr (fun t ht hW => by rw [← hQe]; exact ⟨⟨p0, (), rfl, (by first | with_reducible assumption | exact z_rle b_p0 (by decide) | omega), z_ret hP hK hD ht hW [] [] rfl (by decide) rfl⟩, hS.F ht⟩) hS.2.2 dJ3_checkIndex_8e157_17
set_option maxHeartbeats 4000000 in
set_option maxRecDepth 100000 in
theorem k_J0_checkIndex_df160 (l : Launch) (sa : Nat → Nat) (dC : Nat → ClassId) (dI : Nat → Nat → Nat) (p0 : Int32) (p1 : Int32) (b_p0 : 0 ≤ p0.toInt ∧ p0.toInt ≤ 5) (b_p1 : 1 ≤ p1.toInt ∧ p1.toInt ≤ 6) (hep_0 : p0.toInt < p1.toInt) (sz : Nat) : Met l yJ0_checkIndex_df160 (.code yJ0_checkIndex_df160 cJ0_checkIndex_df160 2 none :: zT) ({ frames := 1, cells := 0, slots := 0, locals := 22 }) (va_Pc [.int p0, .int p1] (zB sa dC dI [] [] sz)) (va_Qv (fun _ : Unit => True) (fun _ t => zW dC dI [] [] (va_A [] sz) t) (va_A [] sz)) 0 0 (va_A [] sz) := by
  refine z_enter (by decide) (by exact (Nat.le_of_ble_eq_true rfl)) ?_
  intro p e s m args below meth c ls A R Qc hargs hsz hQe hAe hRe hx hb hml hr hts hown hlocks hin hl hP hK hD hN hXs hA hS
  rw [hAe] at hQe
  have hown : s.vm.findClass RJ0 = some m.cls := hown
  have hl : lv_has ls 2 [(0, .int p0), (1, .int p1)] := hl
  refine lv_iload_n hx hb dJ0_checkIndex_df160_0 rfl (lv_at hl 0 rfl) ?_
  refine lv_iload_n hx hb dJ0_checkIndex_df160_1 rfl (lv_at hl 1 rfl) ?_
  rcases hXs.2.2.2.2.2.1 with hZ9 | ⟨t9, hZ9⟩
  · refine va_gets hx hb hZ9 hS hown (hts _ zw_t3_65) (fun _ h9 => h9) dJ0_checkIndex_df160_2 ?_
    obtain ⟨hPc, hDc, hFc⟩ := z_cut (wc := []) hP hD hS hA [] rfl (by decide +kernel)
    have hKc := hK.sub (tys' := []) [] rfl
    refine va_calli (va_runS (As := [.int p0, .int p1, .null]) (rest := []) ⟨hx, hb, hml, hown, hts⟩ (k_J3_checkIndex_8e157 l sa dC dI p0 p1 b_p0 b_p1 (by first | assumption | omega) s.heap.size) (va_cwS 3 hts (z_gS zw_t3_67 zw_t3_68 zw_t1_15 zw_t3_69) rfl rfl rfl (by decide +kernel) (by rw [← hRe]; exact ⟨(Nat.le_of_ble_eq_true rfl), (Nat.le_of_ble_eq_true rfl)⟩)) (z_preS hPc hKc hDc hN hXs hS hFc) rfl rfl hl.1 rfl (lv_room (Nat.le_of_ble_eq_true rfl)) dJ0_checkIndex_df160_5 (by rw [← hRe]; exact ⟨(Nat.le_of_ble_eq_true rfl), (Nat.le_of_ble_eq_true rfl)⟩)) hS (fun q _ h => hFc q h) hFc (fun r_1 u t H1 locs ht hvm hw hB hz1 hk1 hS => ?_)
    obtain ⟨hP, hD, hK⟩ := z_after3 (wn := []) hB ht hvm hP hD hK [] [] rfl 0 rfl (by decide +kernel) rfl (by decide +kernel) hk1 hFc
    generalize H1 = H at hP hS ⊢
    have hK : va_K (dC, dI) vwCl [] s := hK
    have b_r_1 : 0 ≤ r_1.toInt ∧ r_1.toInt ≤ 5 := hw
    refine lv_pop hx hb dJ0_checkIndex_df160_8 rfl ?_
    exact W.vret hx hb hr (fun t ht hW => by rw [← hQe]; exact ⟨⟨(), rfl, trivial, z_ret hP hK hD ht hW [] [] rfl (by decide) rfl⟩, hS.F ht⟩) hS.2.2 dJ0_checkIndex_df160_9
  · refine va_gets hx hb hZ9 hS hown (hts _ zw_t3_65) (fun _ h9 => h9) dJ0_checkIndex_df160_2 ?_
    obtain ⟨hPc, hDc, hFc⟩ := z_cut (wc := []) hP hD hS hA [] rfl (by decide +kernel)
    have hKc := hK.sub (tys' := []) [] rfl
    refine va_calli (va_runS (As := [.int p0, .int p1, .ref t9]) (rest := []) ⟨hx, hb, hml, hown, hts⟩ (k_J3_checkIndex_8e157_v1 l sa dC dI p0 p1 t9 b_p0 b_p1 (by first | assumption | omega) s.heap.size) (va_cwS 3 hts (z_gS zw_t3_67 zw_t3_68 zw_t1_15 zw_t3_69) rfl rfl rfl (by decide +kernel) (by rw [← hRe]; exact ⟨(Nat.le_of_ble_eq_true rfl), (Nat.le_of_ble_eq_true rfl)⟩)) (z_preS hPc hKc hDc hN hXs hS hFc) rfl rfl hl.1 rfl (lv_room (Nat.le_of_ble_eq_true rfl)) dJ0_checkIndex_df160_5 (by rw [← hRe]; exact ⟨(Nat.le_of_ble_eq_true rfl), (Nat.le_of_ble_eq_true rfl)⟩)) hS (fun q _ h => hFc q h) hFc (fun r_2 u t H1 locs ht hvm hw hB hz1 hk1 hS => ?_)
    obtain ⟨hP, hD, hK⟩ := z_after3 (wn := []) hB ht hvm hP hD hK [] [] rfl 0 rfl (by decide +kernel) rfl (by decide +kernel) hk1 hFc
    generalize H1 = H at hP hS ⊢
    have hK : va_K (dC, dI) vwCl [] s := hK
    have b_r_2 : 0 ≤ r_2.toInt ∧ r_2.toInt ≤ 5 := hw
    refine lv_pop hx hb dJ0_checkIndex_df160_8 rfl ?_
    exact W.vret hx hb hr (fun t ht hW => by rw [← hQe]; exact ⟨⟨(), rfl, trivial, z_ret hP hK hD ht hW [] [] rfl (by decide) rfl⟩, hS.F ht⟩) hS.2.2 dJ0_checkIndex_df160_9
