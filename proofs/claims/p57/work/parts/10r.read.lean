theorem zw_s1_11 : Cond.selects RX5 yX5_expectCourt yX5_expectCourt ∈ zT := zs_1 (List.mem_of_getElem? (i := 11) (by decide +kernel))
theorem zw_s1_5 : Cond.selects RX5 yX5_expectWord yX5_expectWord ∈ zT := zs_1 (List.mem_of_getElem? (i := 5) (by decide +kernel))
theorem zw_s1_6 : Cond.selects RX5 yX5_isWord yX5_isWord ∈ zT := zs_1 (List.mem_of_getElem? (i := 6) (by decide +kernel))
theorem zw_s1_7 : Cond.selects RX5 yX5_blame yX5_blame ∈ zT := zs_1 (List.mem_of_getElem? (i := 7) (by decide +kernel))
theorem zw_s1_8 : Cond.selects RX5 yX5_advance yX5_advance ∈ zT := zs_1 (List.mem_of_getElem? (i := 8) (by decide +kernel))
theorem zw_s1_9 : Cond.selects RX5 yX5_expectNumber yX5_expectNumber ∈ zT := zs_1 (List.mem_of_getElem? (i := 9) (by decide +kernel))
theorem zw_t1_106 : Cond.fieldLink RX5 204 "NameGate$Town" "told" "[I" ∈ zT := zt_1 (List.mem_of_getElem? (i := 106) (by decide +kernel)) (by decide +kernel)
theorem zw_t1_110 : Cond.fieldLink RX5 210 "NameGate$Town" "strayParts" "[I" ∈ zT := zt_1 (List.mem_of_getElem? (i := 110) (by decide +kernel)) (by decide +kernel)
theorem zw_t1_112 : Cond.fieldLink RX5 213 "NameGate$Town" "strayCourts" "[I" ∈ zT := zt_1 (List.mem_of_getElem? (i := 112) (by decide +kernel)) (by decide +kernel)
theorem zw_t1_13 : Cond.initialized RJ0 ∈ zT := zt_1 (List.mem_of_getElem? (i := 13) (by decide +kernel)) (by decide +kernel)
theorem zw_t1_14 : Cond.initialized RJ1 ∈ zT := zt_1 (List.mem_of_getElem? (i := 14) (by decide +kernel)) (by decide +kernel)
theorem zw_t1_15 : Cond.initialized RJ3 ∈ zT := zt_1 (List.mem_of_getElem? (i := 15) (by decide +kernel)) (by decide +kernel)
theorem zw_t1_193 : Cond.fieldLink RX5 45 "NameGate$Reader" "fault" "I" ∈ zT := zt_1 (List.mem_of_getElem? (i := 193) (by decide +kernel)) (by decide +kernel)
theorem zw_t1_195 : Cond.fieldLink RX5 49 "NameGate$Reader" "place" "I" ∈ zT := zt_1 (List.mem_of_getElem? (i := 195) (by decide +kernel)) (by decide +kernel)
theorem zw_t1_197 : Cond.fieldLink RX5 9 "NameGate$Reader" "text" "[B" ∈ zT := zt_1 (List.mem_of_getElem? (i := 197) (by decide +kernel)) (by decide +kernel)
theorem zw_t1_198 : Cond.fieldLink RX5 15 "NameGate$Reader" "kinds" "[I" ∈ zT := zt_1 (List.mem_of_getElem? (i := 198) (by decide +kernel)) (by decide +kernel)
theorem zw_t1_199 : Cond.fieldLink RX5 19 "NameGate$Reader" "starts" "[I" ∈ zT := zt_1 (List.mem_of_getElem? (i := 199) (by decide +kernel)) (by decide +kernel)
theorem zw_t1_200 : Cond.fieldLink RX5 22 "NameGate$Reader" "stops" "[I" ∈ zT := zt_1 (List.mem_of_getElem? (i := 200) (by decide +kernel)) (by decide +kernel)
theorem zw_t1_201 : Cond.fieldLink RX5 25 "NameGate$Reader" "values" "[I" ∈ zT := zt_1 (List.mem_of_getElem? (i := 201) (by decide +kernel)) (by decide +kernel)
theorem zw_t1_202 : Cond.fieldLink RX5 71 "NameGate$Reader" "tokens" "I" ∈ zT := zt_1 (List.mem_of_getElem? (i := 202) (by decide +kernel)) (by decide +kernel)
theorem zw_t1_203 : Cond.fieldLink RX5 52 "NameGate$Reader" "at" "I" ∈ zT := zt_1 (List.mem_of_getElem? (i := 203) (by decide +kernel)) (by decide +kernel)
theorem zw_t1_204 : Cond.fieldLink RX5 31 "NameGate$Reader" "town" "LNameGate$Town;" ∈ zT := zt_1 (List.mem_of_getElem? (i := 204) (by decide +kernel)) (by decide +kernel)
theorem zw_t1_205 : Cond.fieldLink RX5 55 "NameGate$Reader" "strayCount" "I" ∈ zT := zt_1 (List.mem_of_getElem? (i := 205) (by decide +kernel)) (by decide +kernel)
theorem zw_t1_206 : Cond.fieldLink RX5 58 "NameGate$Reader" "lawTold" "Z" ∈ zT := zt_1 (List.mem_of_getElem? (i := 206) (by decide +kernel)) (by decide +kernel)
theorem zw_t1_207 : Cond.fieldLink RX5 62 "NameGate$Reader" "falseTold" "Z" ∈ zT := zt_1 (List.mem_of_getElem? (i := 207) (by decide +kernel)) (by decide +kernel)
theorem zw_t1_4 : Cond.initialized RX5 ∈ zT := zt_1 (List.mem_of_getElem? (i := 4) (by decide +kernel)) (by decide +kernel)
theorem zw_t1_45 : Cond.fieldLink RX5 156 "NameGate$Town" "hours" "I" ∈ zT := zt_1 (List.mem_of_getElem? (i := 45) (by decide +kernel)) (by decide +kernel)
theorem zw_t1_51 : Cond.fieldLink RX5 83 "NameGate$Town" "courts" "I" ∈ zT := zt_1 (List.mem_of_getElem? (i := 51) (by decide +kernel)) (by decide +kernel)
theorem zw_t1_64 : Cond.fieldLink RX5 190 "NameGate$Town" "people" "I" ∈ zT := zt_1 (List.mem_of_getElem? (i := 64) (by decide +kernel)) (by decide +kernel)
theorem zw_t1_70 : Cond.fieldLink RX5 219 "NameGate$Town" "falseHours" "I" ∈ zT := zt_1 (List.mem_of_getElem? (i := 70) (by decide +kernel)) (by decide +kernel)
theorem zw_t1_76 : Cond.fieldLink RX5 207 "NameGate$Town" "strayers" "I" ∈ zT := zt_1 (List.mem_of_getElem? (i := 76) (by decide +kernel)) (by decide +kernel)
theorem zw_t1_77 : Cond.fieldLink RX5 89 "NameGate$Town" "deep" "Z" ∈ zT := zt_1 (List.mem_of_getElem? (i := 77) (by decide +kernel)) (by decide +kernel)
theorem zw_t1_81 : Cond.fieldLink RX5 92 "NameGate$Town" "above" "[I" ∈ zT := zt_1 (List.mem_of_getElem? (i := 81) (by decide +kernel)) (by decide +kernel)
theorem zw_t1_97 : Cond.fieldLink RX5 86 "NameGate$Town" "shows" "[I" ∈ zT := zt_1 (List.mem_of_getElem? (i := 97) (by decide +kernel)) (by decide +kernel)
theorem zw_t3_100 : Cond.instanceMethod yX5_expectNumber ∈ zT := zt_3 (List.mem_of_getElem? (i := 100) (by decide +kernel)) (by decide +kernel)
theorem zw_t3_101 : Cond.code yX5_expectNumber cX5_expectNumber 4 (some .int) ∈ zT := zt_3 (List.mem_of_getElem? (i := 101) (by decide +kernel)) (by decide +kernel)
theorem zw_t3_108 : Cond.methodLink RX5 160 yX5_expectCourt ∈ zT := zt_3 (List.mem_of_getElem? (i := 108) (by decide +kernel)) (by decide +kernel)
theorem zw_t3_110 : Cond.instanceMethod yX5_expectCourt ∈ zT := zt_3 (List.mem_of_getElem? (i := 110) (by decide +kernel)) (by decide +kernel)
theorem zw_t3_111 : Cond.code yX5_expectCourt cX5_expectCourt 1 (some .int) ∈ zT := zt_3 (List.mem_of_getElem? (i := 111) (by decide +kernel)) (by decide +kernel)
theorem zw_t3_33 : Cond.methodLink RX5 150 yX5_expectWord ∈ zT := zt_3 (List.mem_of_getElem? (i := 33) (by decide +kernel)) (by decide +kernel)
theorem zw_t3_35 : Cond.instanceMethod yX5_expectWord ∈ zT := zt_3 (List.mem_of_getElem? (i := 35) (by decide +kernel)) (by decide +kernel)
theorem zw_t3_36 : Cond.code yX5_expectWord cX5_expectWord 2 none ∈ zT := zt_3 (List.mem_of_getElem? (i := 36) (by decide +kernel)) (by decide +kernel)
theorem zw_t3_37 : Cond.methodLink RX5 105 yX5_isWord ∈ zT := zt_3 (List.mem_of_getElem? (i := 37) (by decide +kernel)) (by decide +kernel)
theorem zw_t3_39 : Cond.instanceMethod yX5_isWord ∈ zT := zt_3 (List.mem_of_getElem? (i := 39) (by decide +kernel)) (by decide +kernel)
theorem zw_t3_40 : Cond.code yX5_isWord cX5_isWord 3 (some .boolean) ∈ zT := zt_3 (List.mem_of_getElem? (i := 40) (by decide +kernel)) (by decide +kernel)
theorem zw_t3_41 : Cond.methodLink RX5 95 yJ0_length_8abf5 ∈ zT := zt_3 (List.mem_of_getElem? (i := 41) (by decide +kernel)) (by decide +kernel)
theorem zw_t3_42 : Cond.instanceMethod yJ0_length_8abf5 ∈ zT := zt_3 (List.mem_of_getElem? (i := 42) (by decide +kernel)) (by decide +kernel)
theorem zw_t3_43 : Cond.selects RJ0 yJ0_length_8abf5 yJ0_length_8abf5 ∈ zT := zt_3 (List.mem_of_getElem? (i := 43) (by decide +kernel)) (by decide +kernel)
theorem zw_t3_44 : Cond.code yJ0_length_8abf5 cJ0_length_8abf5 1 (some .int) ∈ zT := zt_3 (List.mem_of_getElem? (i := 44) (by decide +kernel)) (by decide +kernel)
theorem zw_t3_45 : Cond.methodLink RJ0 335 yJ0_coder_7d493 ∈ zT := zt_3 (List.mem_of_getElem? (i := 45) (by decide +kernel)) (by decide +kernel)
theorem zw_t3_46 : Cond.instanceMethod yJ0_coder_7d493 ∈ zT := zt_3 (List.mem_of_getElem? (i := 46) (by decide +kernel)) (by decide +kernel)
theorem zw_t3_47 : Cond.selects RJ0 yJ0_coder_7d493 yJ0_coder_7d493 ∈ zT := zt_3 (List.mem_of_getElem? (i := 47) (by decide +kernel)) (by decide +kernel)
theorem zw_t3_48 : Cond.code yJ0_coder_7d493 cJ0_coder_7d493 1 (some .byte) ∈ zT := zt_3 (List.mem_of_getElem? (i := 48) (by decide +kernel)) (by decide +kernel)
theorem zw_t3_49 : Cond.fieldLink RJ0 38 "java/lang/String" "COMPACT_STRINGS" "Z" ∈ zT := zt_3 (List.mem_of_getElem? (i := 49) (by decide +kernel)) (by decide +kernel)
theorem zw_t3_51 : Cond.methodLink RX5 101 yJ0_charAt_5068e ∈ zT := zt_3 (List.mem_of_getElem? (i := 51) (by decide +kernel)) (by decide +kernel)
theorem zw_t3_52 : Cond.instanceMethod yJ0_charAt_5068e ∈ zT := zt_3 (List.mem_of_getElem? (i := 52) (by decide +kernel)) (by decide +kernel)
theorem zw_t3_53 : Cond.selects RJ0 yJ0_charAt_5068e yJ0_charAt_5068e ∈ zT := zt_3 (List.mem_of_getElem? (i := 53) (by decide +kernel)) (by decide +kernel)
theorem zw_t3_54 : Cond.code yJ0_charAt_5068e cJ0_charAt_5068e 2 (some .char) ∈ zT := zt_3 (List.mem_of_getElem? (i := 54) (by decide +kernel)) (by decide +kernel)
theorem zw_t3_55 : Cond.methodLink RJ0 492 yJ0_isLatin1_aae02 ∈ zT := zt_3 (List.mem_of_getElem? (i := 55) (by decide +kernel)) (by decide +kernel)
theorem zw_t3_56 : Cond.instanceMethod yJ0_isLatin1_aae02 ∈ zT := zt_3 (List.mem_of_getElem? (i := 56) (by decide +kernel)) (by decide +kernel)
theorem zw_t3_57 : Cond.selects RJ0 yJ0_isLatin1_aae02 yJ0_isLatin1_aae02 ∈ zT := zt_3 (List.mem_of_getElem? (i := 57) (by decide +kernel)) (by decide +kernel)
theorem zw_t3_58 : Cond.code yJ0_isLatin1_aae02 cJ0_isLatin1_aae02 1 (some .boolean) ∈ zT := zt_3 (List.mem_of_getElem? (i := 58) (by decide +kernel)) (by decide +kernel)
theorem zw_t3_59 : Cond.methodLink RJ0 495 yJ1_charAt_3b067 ∈ zT := zt_3 (List.mem_of_getElem? (i := 59) (by decide +kernel)) (by decide +kernel)
theorem zw_t3_60 : Cond.static yJ1_charAt_3b067 ∈ zT := zt_3 (List.mem_of_getElem? (i := 60) (by decide +kernel)) (by decide +kernel)
theorem zw_t3_61 : Cond.code yJ1_charAt_3b067 cJ1_charAt_3b067 2 (some .char) ∈ zT := zt_3 (List.mem_of_getElem? (i := 61) (by decide +kernel)) (by decide +kernel)
theorem zw_t3_62 : Cond.methodLink RJ1 9 yJ0_checkIndex_df160 ∈ zT := zt_3 (List.mem_of_getElem? (i := 62) (by decide +kernel)) (by decide +kernel)
theorem zw_t3_63 : Cond.static yJ0_checkIndex_df160 ∈ zT := zt_3 (List.mem_of_getElem? (i := 63) (by decide +kernel)) (by decide +kernel)
theorem zw_t3_64 : Cond.code yJ0_checkIndex_df160 cJ0_checkIndex_df160 2 none ∈ zT := zt_3 (List.mem_of_getElem? (i := 64) (by decide +kernel)) (by decide +kernel)
theorem zw_t3_65 : Cond.fieldLink RJ0 1053 "jdk/internal/util/Preconditions" "SIOOBE_FORMATTER" "Ljava/util/function/BiFunction;" ∈ zT := zt_3 (List.mem_of_getElem? (i := 65) (by decide +kernel)) (by decide +kernel)
theorem zw_t3_67 : Cond.methodLink RJ0 1059 yJ3_checkIndex_8e157 ∈ zT := zt_3 (List.mem_of_getElem? (i := 67) (by decide +kernel)) (by decide +kernel)
theorem zw_t3_68 : Cond.static yJ3_checkIndex_8e157 ∈ zT := zt_3 (List.mem_of_getElem? (i := 68) (by decide +kernel)) (by decide +kernel)
theorem zw_t3_69 : Cond.code yJ3_checkIndex_8e157 cJ3_checkIndex_8e157 3 (some .int) ∈ zT := zt_3 (List.mem_of_getElem? (i := 69) (by decide +kernel)) (by decide +kernel)
theorem zw_t3_89 : Cond.methodLink RX5 109 yX5_blame ∈ zT := zt_3 (List.mem_of_getElem? (i := 89) (by decide +kernel)) (by decide +kernel)
theorem zw_t3_91 : Cond.instanceMethod yX5_blame ∈ zT := zt_3 (List.mem_of_getElem? (i := 91) (by decide +kernel)) (by decide +kernel)
theorem zw_t3_92 : Cond.code yX5_blame cX5_blame 2 none ∈ zT := zt_3 (List.mem_of_getElem? (i := 92) (by decide +kernel)) (by decide +kernel)
theorem zw_t3_93 : Cond.methodLink RX5 112 yX5_advance ∈ zT := zt_3 (List.mem_of_getElem? (i := 93) (by decide +kernel)) (by decide +kernel)
theorem zw_t3_95 : Cond.instanceMethod yX5_advance ∈ zT := zt_3 (List.mem_of_getElem? (i := 95) (by decide +kernel)) (by decide +kernel)
theorem zw_t3_96 : Cond.code yX5_advance cX5_advance 1 none ∈ zT := zt_3 (List.mem_of_getElem? (i := 96) (by decide +kernel)) (by decide +kernel)
theorem zw_t3_98 : Cond.methodLink RX5 115 yX5_expectNumber ∈ zT := zt_3 (List.mem_of_getElem? (i := 98) (by decide +kernel)) (by decide +kernel)
theorem zw_t9_89 : Cond.fieldLink RJ0 9 "java/lang/String" "value" "[B" ∈ zT := zt_9 (List.mem_of_getElem? (i := 89) (by decide +kernel)) (by decide +kernel)
theorem zw_t9_90 : Cond.fieldLink RJ0 15 "java/lang/String" "coder" "B" ∈ zT := zt_9 (List.mem_of_getElem? (i := 90) (by decide +kernel)) (by decide +kernel)
def bcJ0_charAt_5068e_0 : List Nat := [42, 182, 1, 236, 153, 0, 12, 42, 180, 0, 9, 27, 184, 1, 239, 172]
theorem bcJ0_charAt_5068e_0_ok : z_bys cJ0_charAt_5068e 0 bcJ0_charAt_5068e_0 = true := by decide +kernel
theorem dJ0_charAt_5068e_0 : decode cJ0_charAt_5068e 0 = .ok (.aload_n 0, 1) := zo_42 (z_byk bcJ0_charAt_5068e_0 0 0 _ bcJ0_charAt_5068e_0_ok rfl)
theorem dJ0_charAt_5068e_1 : decode cJ0_charAt_5068e 1 = .ok (.invokevirtual 492, 3) := zo_182 (z_byk bcJ0_charAt_5068e_0 0 1 _ bcJ0_charAt_5068e_0_ok rfl) (z_byk bcJ0_charAt_5068e_0 0 2 _ bcJ0_charAt_5068e_0_ok rfl) (z_byk bcJ0_charAt_5068e_0 0 3 _ bcJ0_charAt_5068e_0_ok rfl) rfl
theorem dJ0_charAt_5068e_11 : decode cJ0_charAt_5068e 11 = .ok (.iload_n 1, 1) := zo_27 (z_byk bcJ0_charAt_5068e_0 0 11 _ bcJ0_charAt_5068e_0_ok rfl)
theorem dJ0_charAt_5068e_12 : decode cJ0_charAt_5068e 12 = .ok (.invokestatic 495, 3) := zo_184 (z_byk bcJ0_charAt_5068e_0 0 12 _ bcJ0_charAt_5068e_0_ok rfl) (z_byk bcJ0_charAt_5068e_0 0 13 _ bcJ0_charAt_5068e_0_ok rfl) (z_byk bcJ0_charAt_5068e_0 0 14 _ bcJ0_charAt_5068e_0_ok rfl) rfl
theorem dJ0_charAt_5068e_15 : decode cJ0_charAt_5068e 15 = .ok (.ireturn, 1) := zo_172 (z_byk bcJ0_charAt_5068e_0 0 15 _ bcJ0_charAt_5068e_0_ok rfl)
theorem dJ0_charAt_5068e_4 : decode cJ0_charAt_5068e 4 = .ok (.ifCond .eq 12, 3) := zo_153 (z_byk bcJ0_charAt_5068e_0 0 4 _ bcJ0_charAt_5068e_0_ok rfl) (z_byk bcJ0_charAt_5068e_0 0 5 _ bcJ0_charAt_5068e_0_ok rfl) (z_byk bcJ0_charAt_5068e_0 0 6 _ bcJ0_charAt_5068e_0_ok rfl) rfl
theorem dJ0_charAt_5068e_7 : decode cJ0_charAt_5068e 7 = .ok (.aload_n 0, 1) := zo_42 (z_byk bcJ0_charAt_5068e_0 0 7 _ bcJ0_charAt_5068e_0_ok rfl)
theorem dJ0_charAt_5068e_8 : decode cJ0_charAt_5068e 8 = .ok (.getfield 9, 3) := zo_180 (z_byk bcJ0_charAt_5068e_0 0 8 _ bcJ0_charAt_5068e_0_ok rfl) (z_byk bcJ0_charAt_5068e_0 0 9 _ bcJ0_charAt_5068e_0_ok rfl) (z_byk bcJ0_charAt_5068e_0 0 10 _ bcJ0_charAt_5068e_0_ok rfl) rfl
def bcJ0_checkIndex_df160_0 : List Nat := [26, 27, 178, 4, 29, 184, 4, 35, 87, 177]
theorem bcJ0_checkIndex_df160_0_ok : z_bys cJ0_checkIndex_df160 0 bcJ0_checkIndex_df160_0 = true := by decide +kernel
theorem dJ0_checkIndex_df160_0 : decode cJ0_checkIndex_df160 0 = .ok (.iload_n 0, 1) := zo_26 (z_byk bcJ0_checkIndex_df160_0 0 0 _ bcJ0_checkIndex_df160_0_ok rfl)
theorem dJ0_checkIndex_df160_1 : decode cJ0_checkIndex_df160 1 = .ok (.iload_n 1, 1) := zo_27 (z_byk bcJ0_checkIndex_df160_0 0 1 _ bcJ0_checkIndex_df160_0_ok rfl)
theorem dJ0_checkIndex_df160_2 : decode cJ0_checkIndex_df160 2 = .ok (.getstatic 1053, 3) := zo_178 (z_byk bcJ0_checkIndex_df160_0 0 2 _ bcJ0_checkIndex_df160_0_ok rfl) (z_byk bcJ0_checkIndex_df160_0 0 3 _ bcJ0_checkIndex_df160_0_ok rfl) (z_byk bcJ0_checkIndex_df160_0 0 4 _ bcJ0_checkIndex_df160_0_ok rfl) rfl
theorem dJ0_checkIndex_df160_5 : decode cJ0_checkIndex_df160 5 = .ok (.invokestatic 1059, 3) := zo_184 (z_byk bcJ0_checkIndex_df160_0 0 5 _ bcJ0_checkIndex_df160_0_ok rfl) (z_byk bcJ0_checkIndex_df160_0 0 6 _ bcJ0_checkIndex_df160_0_ok rfl) (z_byk bcJ0_checkIndex_df160_0 0 7 _ bcJ0_checkIndex_df160_0_ok rfl) rfl
theorem dJ0_checkIndex_df160_8 : decode cJ0_checkIndex_df160 8 = .ok (.pop, 1) := zo_87 (z_byk bcJ0_checkIndex_df160_0 0 8 _ bcJ0_checkIndex_df160_0_ok rfl)
theorem dJ0_checkIndex_df160_9 : decode cJ0_checkIndex_df160 9 = .ok (.return_, 1) := zo_177 (z_byk bcJ0_checkIndex_df160_0 0 9 _ bcJ0_checkIndex_df160_0_ok rfl)
def bcJ0_coder_7d493_0 : List Nat := [178, 0, 38, 153, 0, 10, 42, 180, 0, 15, 167, 0, 4]
theorem bcJ0_coder_7d493_0_ok : z_bys cJ0_coder_7d493 0 bcJ0_coder_7d493_0 = true := by decide +kernel
def bcJ0_coder_7d493_14 : List Nat := [172]
theorem bcJ0_coder_7d493_14_ok : z_bys cJ0_coder_7d493 14 bcJ0_coder_7d493_14 = true := by decide +kernel
theorem dJ0_coder_7d493_0 : decode cJ0_coder_7d493 0 = .ok (.getstatic 38, 3) := zo_178 (z_byk bcJ0_coder_7d493_0 0 0 _ bcJ0_coder_7d493_0_ok rfl) (z_byk bcJ0_coder_7d493_0 0 1 _ bcJ0_coder_7d493_0_ok rfl) (z_byk bcJ0_coder_7d493_0 0 2 _ bcJ0_coder_7d493_0_ok rfl) rfl
theorem dJ0_coder_7d493_10 : decode cJ0_coder_7d493 10 = .ok (.goto 4, 3) := zo_167 (z_byk bcJ0_coder_7d493_0 0 10 _ bcJ0_coder_7d493_0_ok rfl) (z_byk bcJ0_coder_7d493_0 0 11 _ bcJ0_coder_7d493_0_ok rfl) (z_byk bcJ0_coder_7d493_0 0 12 _ bcJ0_coder_7d493_0_ok rfl) rfl
theorem dJ0_coder_7d493_14 : decode cJ0_coder_7d493 14 = .ok (.ireturn, 1) := zo_172 (z_byk bcJ0_coder_7d493_14 14 0 _ bcJ0_coder_7d493_14_ok rfl)
theorem dJ0_coder_7d493_3 : decode cJ0_coder_7d493 3 = .ok (.ifCond .eq 10, 3) := zo_153 (z_byk bcJ0_coder_7d493_0 0 3 _ bcJ0_coder_7d493_0_ok rfl) (z_byk bcJ0_coder_7d493_0 0 4 _ bcJ0_coder_7d493_0_ok rfl) (z_byk bcJ0_coder_7d493_0 0 5 _ bcJ0_coder_7d493_0_ok rfl) rfl
theorem dJ0_coder_7d493_6 : decode cJ0_coder_7d493 6 = .ok (.aload_n 0, 1) := zo_42 (z_byk bcJ0_coder_7d493_0 0 6 _ bcJ0_coder_7d493_0_ok rfl)
theorem dJ0_coder_7d493_7 : decode cJ0_coder_7d493 7 = .ok (.getfield 15, 3) := zo_180 (z_byk bcJ0_coder_7d493_0 0 7 _ bcJ0_coder_7d493_0_ok rfl) (z_byk bcJ0_coder_7d493_0 0 8 _ bcJ0_coder_7d493_0_ok rfl) (z_byk bcJ0_coder_7d493_0 0 9 _ bcJ0_coder_7d493_0_ok rfl) rfl
def bcJ0_isLatin1_aae02_0 : List Nat := [178, 0, 38, 153, 0, 14, 42, 180, 0, 15, 154, 0, 7, 4, 167, 0, 4]
theorem bcJ0_isLatin1_aae02_0_ok : z_bys cJ0_isLatin1_aae02 0 bcJ0_isLatin1_aae02_0 = true := by decide +kernel
def bcJ0_isLatin1_aae02_18 : List Nat := [172]
theorem bcJ0_isLatin1_aae02_18_ok : z_bys cJ0_isLatin1_aae02 18 bcJ0_isLatin1_aae02_18 = true := by decide +kernel
theorem dJ0_isLatin1_aae02_0 : decode cJ0_isLatin1_aae02 0 = .ok (.getstatic 38, 3) := zo_178 (z_byk bcJ0_isLatin1_aae02_0 0 0 _ bcJ0_isLatin1_aae02_0_ok rfl) (z_byk bcJ0_isLatin1_aae02_0 0 1 _ bcJ0_isLatin1_aae02_0_ok rfl) (z_byk bcJ0_isLatin1_aae02_0 0 2 _ bcJ0_isLatin1_aae02_0_ok rfl) rfl
theorem dJ0_isLatin1_aae02_10 : decode cJ0_isLatin1_aae02 10 = .ok (.ifCond .ne 7, 3) := zo_154 (z_byk bcJ0_isLatin1_aae02_0 0 10 _ bcJ0_isLatin1_aae02_0_ok rfl) (z_byk bcJ0_isLatin1_aae02_0 0 11 _ bcJ0_isLatin1_aae02_0_ok rfl) (z_byk bcJ0_isLatin1_aae02_0 0 12 _ bcJ0_isLatin1_aae02_0_ok rfl) rfl
theorem dJ0_isLatin1_aae02_13 : decode cJ0_isLatin1_aae02 13 = .ok (.iconst 1, 1) := zo_4 (z_byk bcJ0_isLatin1_aae02_0 0 13 _ bcJ0_isLatin1_aae02_0_ok rfl)
theorem dJ0_isLatin1_aae02_14 : decode cJ0_isLatin1_aae02 14 = .ok (.goto 4, 3) := zo_167 (z_byk bcJ0_isLatin1_aae02_0 0 14 _ bcJ0_isLatin1_aae02_0_ok rfl) (z_byk bcJ0_isLatin1_aae02_0 0 15 _ bcJ0_isLatin1_aae02_0_ok rfl) (z_byk bcJ0_isLatin1_aae02_0 0 16 _ bcJ0_isLatin1_aae02_0_ok rfl) rfl
theorem dJ0_isLatin1_aae02_18 : decode cJ0_isLatin1_aae02 18 = .ok (.ireturn, 1) := zo_172 (z_byk bcJ0_isLatin1_aae02_18 18 0 _ bcJ0_isLatin1_aae02_18_ok rfl)
theorem dJ0_isLatin1_aae02_3 : decode cJ0_isLatin1_aae02 3 = .ok (.ifCond .eq 14, 3) := zo_153 (z_byk bcJ0_isLatin1_aae02_0 0 3 _ bcJ0_isLatin1_aae02_0_ok rfl) (z_byk bcJ0_isLatin1_aae02_0 0 4 _ bcJ0_isLatin1_aae02_0_ok rfl) (z_byk bcJ0_isLatin1_aae02_0 0 5 _ bcJ0_isLatin1_aae02_0_ok rfl) rfl
theorem dJ0_isLatin1_aae02_6 : decode cJ0_isLatin1_aae02 6 = .ok (.aload_n 0, 1) := zo_42 (z_byk bcJ0_isLatin1_aae02_0 0 6 _ bcJ0_isLatin1_aae02_0_ok rfl)
theorem dJ0_isLatin1_aae02_7 : decode cJ0_isLatin1_aae02 7 = .ok (.getfield 15, 3) := zo_180 (z_byk bcJ0_isLatin1_aae02_0 0 7 _ bcJ0_isLatin1_aae02_0_ok rfl) (z_byk bcJ0_isLatin1_aae02_0 0 8 _ bcJ0_isLatin1_aae02_0_ok rfl) (z_byk bcJ0_isLatin1_aae02_0 0 9 _ bcJ0_isLatin1_aae02_0_ok rfl) rfl
def bcJ0_length_8abf5_0 : List Nat := [42, 180, 0, 9, 190, 42, 182, 1, 79, 122, 172]
theorem bcJ0_length_8abf5_0_ok : z_bys cJ0_length_8abf5 0 bcJ0_length_8abf5_0 = true := by decide +kernel
theorem dJ0_length_8abf5_0 : decode cJ0_length_8abf5 0 = .ok (.aload_n 0, 1) := zo_42 (z_byk bcJ0_length_8abf5_0 0 0 _ bcJ0_length_8abf5_0_ok rfl)
theorem dJ0_length_8abf5_1 : decode cJ0_length_8abf5 1 = .ok (.getfield 9, 3) := zo_180 (z_byk bcJ0_length_8abf5_0 0 1 _ bcJ0_length_8abf5_0_ok rfl) (z_byk bcJ0_length_8abf5_0 0 2 _ bcJ0_length_8abf5_0_ok rfl) (z_byk bcJ0_length_8abf5_0 0 3 _ bcJ0_length_8abf5_0_ok rfl) rfl
theorem dJ0_length_8abf5_10 : decode cJ0_length_8abf5 10 = .ok (.ireturn, 1) := zo_172 (z_byk bcJ0_length_8abf5_0 0 10 _ bcJ0_length_8abf5_0_ok rfl)
theorem dJ0_length_8abf5_4 : decode cJ0_length_8abf5 4 = .ok (.arraylength, 1) := zo_190 (z_byk bcJ0_length_8abf5_0 0 4 _ bcJ0_length_8abf5_0_ok rfl)
theorem dJ0_length_8abf5_5 : decode cJ0_length_8abf5 5 = .ok (.aload_n 0, 1) := zo_42 (z_byk bcJ0_length_8abf5_0 0 5 _ bcJ0_length_8abf5_0_ok rfl)
theorem dJ0_length_8abf5_6 : decode cJ0_length_8abf5 6 = .ok (.invokevirtual 335, 3) := zo_182 (z_byk bcJ0_length_8abf5_0 0 6 _ bcJ0_length_8abf5_0_ok rfl) (z_byk bcJ0_length_8abf5_0 0 7 _ bcJ0_length_8abf5_0_ok rfl) (z_byk bcJ0_length_8abf5_0 0 8 _ bcJ0_length_8abf5_0_ok rfl) rfl
theorem dJ0_length_8abf5_9 : decode cJ0_length_8abf5 9 = .ok (.ishr, 1) := zo_122 (z_byk bcJ0_length_8abf5_0 0 9 _ bcJ0_length_8abf5_0_ok rfl)
def bcJ1_charAt_3b067_0 : List Nat := [27, 42, 190, 184, 0, 9, 42, 27, 51, 17, 0, 255, 126, 146, 172]
theorem bcJ1_charAt_3b067_0_ok : z_bys cJ1_charAt_3b067 0 bcJ1_charAt_3b067_0 = true := by decide +kernel
theorem dJ1_charAt_3b067_0 : decode cJ1_charAt_3b067 0 = .ok (.iload_n 1, 1) := zo_27 (z_byk bcJ1_charAt_3b067_0 0 0 _ bcJ1_charAt_3b067_0_ok rfl)
theorem dJ1_charAt_3b067_1 : decode cJ1_charAt_3b067 1 = .ok (.aload_n 0, 1) := zo_42 (z_byk bcJ1_charAt_3b067_0 0 1 _ bcJ1_charAt_3b067_0_ok rfl)
theorem dJ1_charAt_3b067_12 : decode cJ1_charAt_3b067 12 = .ok (.iand, 1) := zo_126 (z_byk bcJ1_charAt_3b067_0 0 12 _ bcJ1_charAt_3b067_0_ok rfl)
theorem dJ1_charAt_3b067_13 : decode cJ1_charAt_3b067 13 = .ok (.i2c, 1) := zo_146 (z_byk bcJ1_charAt_3b067_0 0 13 _ bcJ1_charAt_3b067_0_ok rfl)
theorem dJ1_charAt_3b067_14 : decode cJ1_charAt_3b067 14 = .ok (.ireturn, 1) := zo_172 (z_byk bcJ1_charAt_3b067_0 0 14 _ bcJ1_charAt_3b067_0_ok rfl)
theorem dJ1_charAt_3b067_2 : decode cJ1_charAt_3b067 2 = .ok (.arraylength, 1) := zo_190 (z_byk bcJ1_charAt_3b067_0 0 2 _ bcJ1_charAt_3b067_0_ok rfl)
theorem dJ1_charAt_3b067_3 : decode cJ1_charAt_3b067 3 = .ok (.invokestatic 9, 3) := zo_184 (z_byk bcJ1_charAt_3b067_0 0 3 _ bcJ1_charAt_3b067_0_ok rfl) (z_byk bcJ1_charAt_3b067_0 0 4 _ bcJ1_charAt_3b067_0_ok rfl) (z_byk bcJ1_charAt_3b067_0 0 5 _ bcJ1_charAt_3b067_0_ok rfl) rfl
theorem dJ1_charAt_3b067_6 : decode cJ1_charAt_3b067 6 = .ok (.aload_n 0, 1) := zo_42 (z_byk bcJ1_charAt_3b067_0 0 6 _ bcJ1_charAt_3b067_0_ok rfl)
theorem dJ1_charAt_3b067_7 : decode cJ1_charAt_3b067 7 = .ok (.iload_n 1, 1) := zo_27 (z_byk bcJ1_charAt_3b067_0 0 7 _ bcJ1_charAt_3b067_0_ok rfl)
theorem dJ1_charAt_3b067_8 : decode cJ1_charAt_3b067 8 = .ok (.baload, 1) := zo_51 (z_byk bcJ1_charAt_3b067_0 0 8 _ bcJ1_charAt_3b067_0_ok rfl)
theorem dJ1_charAt_3b067_9 : decode cJ1_charAt_3b067 9 = .ok (.sipush 255, 3) := zo_17 (z_byk bcJ1_charAt_3b067_0 0 9 _ bcJ1_charAt_3b067_0_ok rfl) (z_byk bcJ1_charAt_3b067_0 0 10 _ bcJ1_charAt_3b067_0_ok rfl) (z_byk bcJ1_charAt_3b067_0 0 11 _ bcJ1_charAt_3b067_0_ok rfl) rfl
def bcJ3_checkIndex_8e157_0 : List Nat := [26, 155, 0, 8, 26, 27, 161, 0, 10]
theorem bcJ3_checkIndex_8e157_0_ok : z_bys cJ3_checkIndex_8e157 0 bcJ3_checkIndex_8e157_0 = true := by decide +kernel
def bcJ3_checkIndex_8e157_16 : List Nat := [26, 172]
theorem bcJ3_checkIndex_8e157_16_ok : z_bys cJ3_checkIndex_8e157 16 bcJ3_checkIndex_8e157_16 = true := by decide +kernel
theorem dJ3_checkIndex_8e157_0 : decode cJ3_checkIndex_8e157 0 = .ok (.iload_n 0, 1) := zo_26 (z_byk bcJ3_checkIndex_8e157_0 0 0 _ bcJ3_checkIndex_8e157_0_ok rfl)
theorem dJ3_checkIndex_8e157_1 : decode cJ3_checkIndex_8e157 1 = .ok (.ifCond .lt 8, 3) := zo_155 (z_byk bcJ3_checkIndex_8e157_0 0 1 _ bcJ3_checkIndex_8e157_0_ok rfl) (z_byk bcJ3_checkIndex_8e157_0 0 2 _ bcJ3_checkIndex_8e157_0_ok rfl) (z_byk bcJ3_checkIndex_8e157_0 0 3 _ bcJ3_checkIndex_8e157_0_ok rfl) rfl
theorem dJ3_checkIndex_8e157_16 : decode cJ3_checkIndex_8e157 16 = .ok (.iload_n 0, 1) := zo_26 (z_byk bcJ3_checkIndex_8e157_16 16 0 _ bcJ3_checkIndex_8e157_16_ok rfl)
theorem dJ3_checkIndex_8e157_17 : decode cJ3_checkIndex_8e157 17 = .ok (.ireturn, 1) := zo_172 (z_byk bcJ3_checkIndex_8e157_16 16 1 _ bcJ3_checkIndex_8e157_16_ok rfl)
theorem dJ3_checkIndex_8e157_4 : decode cJ3_checkIndex_8e157 4 = .ok (.iload_n 0, 1) := zo_26 (z_byk bcJ3_checkIndex_8e157_0 0 4 _ bcJ3_checkIndex_8e157_0_ok rfl)
theorem dJ3_checkIndex_8e157_5 : decode cJ3_checkIndex_8e157 5 = .ok (.iload_n 1, 1) := zo_27 (z_byk bcJ3_checkIndex_8e157_0 0 5 _ bcJ3_checkIndex_8e157_0_ok rfl)
theorem dJ3_checkIndex_8e157_6 : decode cJ3_checkIndex_8e157 6 = .ok (.if_icmp .lt 10, 3) := zo_161 (z_byk bcJ3_checkIndex_8e157_0 0 6 _ bcJ3_checkIndex_8e157_0_ok rfl) (z_byk bcJ3_checkIndex_8e157_0 0 7 _ bcJ3_checkIndex_8e157_0_ok rfl) (z_byk bcJ3_checkIndex_8e157_0 0 8 _ bcJ3_checkIndex_8e157_0_ok rfl) rfl
def bcX5_addToken_0 : List Nat := [42, 180, 0, 15, 42, 180, 0, 71, 27, 79, 42, 180, 0, 19, 42, 180, 0, 71, 28, 79, 42, 180, 0, 25, 42, 180, 0, 71, 3, 79, 42, 89, 180, 0, 71, 4, 96, 181, 0, 71, 177]
theorem bcX5_addToken_0_ok : z_bys cX5_addToken 0 bcX5_addToken_0 = true := by decide +kernel
theorem dX5_addToken_0 : decode cX5_addToken 0 = .ok (.aload_n 0, 1) := zo_42 (z_byk bcX5_addToken_0 0 0 _ bcX5_addToken_0_ok rfl)
theorem dX5_addToken_1 : decode cX5_addToken 1 = .ok (.getfield 15, 3) := zo_180 (z_byk bcX5_addToken_0 0 1 _ bcX5_addToken_0_ok rfl) (z_byk bcX5_addToken_0 0 2 _ bcX5_addToken_0_ok rfl) (z_byk bcX5_addToken_0 0 3 _ bcX5_addToken_0_ok rfl) rfl
theorem dX5_addToken_10 : decode cX5_addToken 10 = .ok (.aload_n 0, 1) := zo_42 (z_byk bcX5_addToken_0 0 10 _ bcX5_addToken_0_ok rfl)
theorem dX5_addToken_11 : decode cX5_addToken 11 = .ok (.getfield 19, 3) := zo_180 (z_byk bcX5_addToken_0 0 11 _ bcX5_addToken_0_ok rfl) (z_byk bcX5_addToken_0 0 12 _ bcX5_addToken_0_ok rfl) (z_byk bcX5_addToken_0 0 13 _ bcX5_addToken_0_ok rfl) rfl
theorem dX5_addToken_14 : decode cX5_addToken 14 = .ok (.aload_n 0, 1) := zo_42 (z_byk bcX5_addToken_0 0 14 _ bcX5_addToken_0_ok rfl)
theorem dX5_addToken_15 : decode cX5_addToken 15 = .ok (.getfield 71, 3) := zo_180 (z_byk bcX5_addToken_0 0 15 _ bcX5_addToken_0_ok rfl) (z_byk bcX5_addToken_0 0 16 _ bcX5_addToken_0_ok rfl) (z_byk bcX5_addToken_0 0 17 _ bcX5_addToken_0_ok rfl) rfl
theorem dX5_addToken_18 : decode cX5_addToken 18 = .ok (.iload_n 2, 1) := zo_28 (z_byk bcX5_addToken_0 0 18 _ bcX5_addToken_0_ok rfl)
theorem dX5_addToken_19 : decode cX5_addToken 19 = .ok (.iastore, 1) := zo_79 (z_byk bcX5_addToken_0 0 19 _ bcX5_addToken_0_ok rfl)
theorem dX5_addToken_20 : decode cX5_addToken 20 = .ok (.aload_n 0, 1) := zo_42 (z_byk bcX5_addToken_0 0 20 _ bcX5_addToken_0_ok rfl)
theorem dX5_addToken_21 : decode cX5_addToken 21 = .ok (.getfield 25, 3) := zo_180 (z_byk bcX5_addToken_0 0 21 _ bcX5_addToken_0_ok rfl) (z_byk bcX5_addToken_0 0 22 _ bcX5_addToken_0_ok rfl) (z_byk bcX5_addToken_0 0 23 _ bcX5_addToken_0_ok rfl) rfl
theorem dX5_addToken_24 : decode cX5_addToken 24 = .ok (.aload_n 0, 1) := zo_42 (z_byk bcX5_addToken_0 0 24 _ bcX5_addToken_0_ok rfl)
theorem dX5_addToken_25 : decode cX5_addToken 25 = .ok (.getfield 71, 3) := zo_180 (z_byk bcX5_addToken_0 0 25 _ bcX5_addToken_0_ok rfl) (z_byk bcX5_addToken_0 0 26 _ bcX5_addToken_0_ok rfl) (z_byk bcX5_addToken_0 0 27 _ bcX5_addToken_0_ok rfl) rfl
theorem dX5_addToken_28 : decode cX5_addToken 28 = .ok (.iconst 0, 1) := zo_3 (z_byk bcX5_addToken_0 0 28 _ bcX5_addToken_0_ok rfl)
theorem dX5_addToken_29 : decode cX5_addToken 29 = .ok (.iastore, 1) := zo_79 (z_byk bcX5_addToken_0 0 29 _ bcX5_addToken_0_ok rfl)
theorem dX5_addToken_30 : decode cX5_addToken 30 = .ok (.aload_n 0, 1) := zo_42 (z_byk bcX5_addToken_0 0 30 _ bcX5_addToken_0_ok rfl)
theorem dX5_addToken_31 : decode cX5_addToken 31 = .ok (.dup, 1) := zo_89 (z_byk bcX5_addToken_0 0 31 _ bcX5_addToken_0_ok rfl)
theorem dX5_addToken_32 : decode cX5_addToken 32 = .ok (.getfield 71, 3) := zo_180 (z_byk bcX5_addToken_0 0 32 _ bcX5_addToken_0_ok rfl) (z_byk bcX5_addToken_0 0 33 _ bcX5_addToken_0_ok rfl) (z_byk bcX5_addToken_0 0 34 _ bcX5_addToken_0_ok rfl) rfl
theorem dX5_addToken_35 : decode cX5_addToken 35 = .ok (.iconst 1, 1) := zo_4 (z_byk bcX5_addToken_0 0 35 _ bcX5_addToken_0_ok rfl)
theorem dX5_addToken_36 : decode cX5_addToken 36 = .ok (.iadd, 1) := zo_96 (z_byk bcX5_addToken_0 0 36 _ bcX5_addToken_0_ok rfl)
theorem dX5_addToken_37 : decode cX5_addToken 37 = .ok (.putfield 71, 3) := zo_181 (z_byk bcX5_addToken_0 0 37 _ bcX5_addToken_0_ok rfl) (z_byk bcX5_addToken_0 0 38 _ bcX5_addToken_0_ok rfl) (z_byk bcX5_addToken_0 0 39 _ bcX5_addToken_0_ok rfl) rfl
theorem dX5_addToken_4 : decode cX5_addToken 4 = .ok (.aload_n 0, 1) := zo_42 (z_byk bcX5_addToken_0 0 4 _ bcX5_addToken_0_ok rfl)
theorem dX5_addToken_40 : decode cX5_addToken 40 = .ok (.return_, 1) := zo_177 (z_byk bcX5_addToken_0 0 40 _ bcX5_addToken_0_ok rfl)
theorem dX5_addToken_5 : decode cX5_addToken 5 = .ok (.getfield 71, 3) := zo_180 (z_byk bcX5_addToken_0 0 5 _ bcX5_addToken_0_ok rfl) (z_byk bcX5_addToken_0 0 6 _ bcX5_addToken_0_ok rfl) (z_byk bcX5_addToken_0 0 7 _ bcX5_addToken_0_ok rfl) rfl
theorem dX5_addToken_8 : decode cX5_addToken 8 = .ok (.iload_n 1, 1) := zo_27 (z_byk bcX5_addToken_0 0 8 _ bcX5_addToken_0_ok rfl)
theorem dX5_addToken_9 : decode cX5_addToken 9 = .ok (.iastore, 1) := zo_79 (z_byk bcX5_addToken_0 0 9 _ bcX5_addToken_0_ok rfl)
def bcX5_advance_0 : List Nat := [42, 180, 0, 45, 154, 0, 24, 42, 180, 0, 52, 42, 180, 0, 71, 162, 0, 13, 42, 89, 180, 0, 52, 4, 96, 181, 0, 52, 177]
theorem bcX5_advance_0_ok : z_bys cX5_advance 0 bcX5_advance_0 = true := by decide +kernel
theorem dX5_advance_0 : decode cX5_advance 0 = .ok (.aload_n 0, 1) := zo_42 (z_byk bcX5_advance_0 0 0 _ bcX5_advance_0_ok rfl)
theorem dX5_advance_1 : decode cX5_advance 1 = .ok (.getfield 45, 3) := zo_180 (z_byk bcX5_advance_0 0 1 _ bcX5_advance_0_ok rfl) (z_byk bcX5_advance_0 0 2 _ bcX5_advance_0_ok rfl) (z_byk bcX5_advance_0 0 3 _ bcX5_advance_0_ok rfl) rfl
theorem dX5_advance_11 : decode cX5_advance 11 = .ok (.aload_n 0, 1) := zo_42 (z_byk bcX5_advance_0 0 11 _ bcX5_advance_0_ok rfl)
theorem dX5_advance_12 : decode cX5_advance 12 = .ok (.getfield 71, 3) := zo_180 (z_byk bcX5_advance_0 0 12 _ bcX5_advance_0_ok rfl) (z_byk bcX5_advance_0 0 13 _ bcX5_advance_0_ok rfl) (z_byk bcX5_advance_0 0 14 _ bcX5_advance_0_ok rfl) rfl
theorem dX5_advance_15 : decode cX5_advance 15 = .ok (.if_icmp .ge 13, 3) := zo_162 (z_byk bcX5_advance_0 0 15 _ bcX5_advance_0_ok rfl) (z_byk bcX5_advance_0 0 16 _ bcX5_advance_0_ok rfl) (z_byk bcX5_advance_0 0 17 _ bcX5_advance_0_ok rfl) rfl
theorem dX5_advance_18 : decode cX5_advance 18 = .ok (.aload_n 0, 1) := zo_42 (z_byk bcX5_advance_0 0 18 _ bcX5_advance_0_ok rfl)
theorem dX5_advance_19 : decode cX5_advance 19 = .ok (.dup, 1) := zo_89 (z_byk bcX5_advance_0 0 19 _ bcX5_advance_0_ok rfl)
theorem dX5_advance_20 : decode cX5_advance 20 = .ok (.getfield 52, 3) := zo_180 (z_byk bcX5_advance_0 0 20 _ bcX5_advance_0_ok rfl) (z_byk bcX5_advance_0 0 21 _ bcX5_advance_0_ok rfl) (z_byk bcX5_advance_0 0 22 _ bcX5_advance_0_ok rfl) rfl
theorem dX5_advance_23 : decode cX5_advance 23 = .ok (.iconst 1, 1) := zo_4 (z_byk bcX5_advance_0 0 23 _ bcX5_advance_0_ok rfl)
theorem dX5_advance_24 : decode cX5_advance 24 = .ok (.iadd, 1) := zo_96 (z_byk bcX5_advance_0 0 24 _ bcX5_advance_0_ok rfl)
theorem dX5_advance_25 : decode cX5_advance 25 = .ok (.putfield 52, 3) := zo_181 (z_byk bcX5_advance_0 0 25 _ bcX5_advance_0_ok rfl) (z_byk bcX5_advance_0 0 26 _ bcX5_advance_0_ok rfl) (z_byk bcX5_advance_0 0 27 _ bcX5_advance_0_ok rfl) rfl
theorem dX5_advance_28 : decode cX5_advance 28 = .ok (.return_, 1) := zo_177 (z_byk bcX5_advance_0 0 28 _ bcX5_advance_0_ok rfl)
theorem dX5_advance_4 : decode cX5_advance 4 = .ok (.ifCond .ne 24, 3) := zo_154 (z_byk bcX5_advance_0 0 4 _ bcX5_advance_0_ok rfl) (z_byk bcX5_advance_0 0 5 _ bcX5_advance_0_ok rfl) (z_byk bcX5_advance_0 0 6 _ bcX5_advance_0_ok rfl) rfl
theorem dX5_advance_7 : decode cX5_advance 7 = .ok (.aload_n 0, 1) := zo_42 (z_byk bcX5_advance_0 0 7 _ bcX5_advance_0_ok rfl)
theorem dX5_advance_8 : decode cX5_advance 8 = .ok (.getfield 52, 3) := zo_180 (z_byk bcX5_advance_0 0 8 _ bcX5_advance_0_ok rfl) (z_byk bcX5_advance_0 0 9 _ bcX5_advance_0_ok rfl) (z_byk bcX5_advance_0 0 10 _ bcX5_advance_0_ok rfl) rfl
def bcX5_blame_0 : List Nat := [42, 180, 0, 45, 154, 0, 21, 42, 27, 181, 0, 45, 42, 42, 180, 0, 19, 42, 180, 0, 52, 46, 181, 0, 49, 177]
theorem bcX5_blame_0_ok : z_bys cX5_blame 0 bcX5_blame_0 = true := by decide +kernel
theorem dX5_blame_0 : decode cX5_blame 0 = .ok (.aload_n 0, 1) := zo_42 (z_byk bcX5_blame_0 0 0 _ bcX5_blame_0_ok rfl)
theorem dX5_blame_1 : decode cX5_blame 1 = .ok (.getfield 45, 3) := zo_180 (z_byk bcX5_blame_0 0 1 _ bcX5_blame_0_ok rfl) (z_byk bcX5_blame_0 0 2 _ bcX5_blame_0_ok rfl) (z_byk bcX5_blame_0 0 3 _ bcX5_blame_0_ok rfl) rfl
theorem dX5_blame_12 : decode cX5_blame 12 = .ok (.aload_n 0, 1) := zo_42 (z_byk bcX5_blame_0 0 12 _ bcX5_blame_0_ok rfl)
theorem dX5_blame_13 : decode cX5_blame 13 = .ok (.aload_n 0, 1) := zo_42 (z_byk bcX5_blame_0 0 13 _ bcX5_blame_0_ok rfl)
theorem dX5_blame_14 : decode cX5_blame 14 = .ok (.getfield 19, 3) := zo_180 (z_byk bcX5_blame_0 0 14 _ bcX5_blame_0_ok rfl) (z_byk bcX5_blame_0 0 15 _ bcX5_blame_0_ok rfl) (z_byk bcX5_blame_0 0 16 _ bcX5_blame_0_ok rfl) rfl
theorem dX5_blame_17 : decode cX5_blame 17 = .ok (.aload_n 0, 1) := zo_42 (z_byk bcX5_blame_0 0 17 _ bcX5_blame_0_ok rfl)
theorem dX5_blame_18 : decode cX5_blame 18 = .ok (.getfield 52, 3) := zo_180 (z_byk bcX5_blame_0 0 18 _ bcX5_blame_0_ok rfl) (z_byk bcX5_blame_0 0 19 _ bcX5_blame_0_ok rfl) (z_byk bcX5_blame_0 0 20 _ bcX5_blame_0_ok rfl) rfl
theorem dX5_blame_21 : decode cX5_blame 21 = .ok (.iaload, 1) := zo_46 (z_byk bcX5_blame_0 0 21 _ bcX5_blame_0_ok rfl)
theorem dX5_blame_22 : decode cX5_blame 22 = .ok (.putfield 49, 3) := zo_181 (z_byk bcX5_blame_0 0 22 _ bcX5_blame_0_ok rfl) (z_byk bcX5_blame_0 0 23 _ bcX5_blame_0_ok rfl) (z_byk bcX5_blame_0 0 24 _ bcX5_blame_0_ok rfl) rfl
theorem dX5_blame_25 : decode cX5_blame 25 = .ok (.return_, 1) := zo_177 (z_byk bcX5_blame_0 0 25 _ bcX5_blame_0_ok rfl)
theorem dX5_blame_4 : decode cX5_blame 4 = .ok (.ifCond .ne 21, 3) := zo_154 (z_byk bcX5_blame_0 0 4 _ bcX5_blame_0_ok rfl) (z_byk bcX5_blame_0 0 5 _ bcX5_blame_0_ok rfl) (z_byk bcX5_blame_0 0 6 _ bcX5_blame_0_ok rfl) rfl
theorem dX5_blame_7 : decode cX5_blame 7 = .ok (.aload_n 0, 1) := zo_42 (z_byk bcX5_blame_0 0 7 _ bcX5_blame_0_ok rfl)
theorem dX5_blame_8 : decode cX5_blame 8 = .ok (.iload_n 1, 1) := zo_27 (z_byk bcX5_blame_0 0 8 _ bcX5_blame_0_ok rfl)
theorem dX5_blame_9 : decode cX5_blame 9 = .ok (.putfield 45, 3) := zo_181 (z_byk bcX5_blame_0 0 9 _ bcX5_blame_0_ok rfl) (z_byk bcX5_blame_0 0 10 _ bcX5_blame_0_ok rfl) (z_byk bcX5_blame_0 0 11 _ bcX5_blame_0_ok rfl) rfl
def bcX5_expectCourt_0 : List Nat := [42, 3, 42, 180, 0, 31, 180, 0, 83, 4, 100, 182, 0, 115, 172]
theorem bcX5_expectCourt_0_ok : z_bys cX5_expectCourt 0 bcX5_expectCourt_0 = true := by decide +kernel
theorem dX5_expectCourt_0 : decode cX5_expectCourt 0 = .ok (.aload_n 0, 1) := zo_42 (z_byk bcX5_expectCourt_0 0 0 _ bcX5_expectCourt_0_ok rfl)
theorem dX5_expectCourt_1 : decode cX5_expectCourt 1 = .ok (.iconst 0, 1) := zo_3 (z_byk bcX5_expectCourt_0 0 1 _ bcX5_expectCourt_0_ok rfl)
theorem dX5_expectCourt_10 : decode cX5_expectCourt 10 = .ok (.isub, 1) := zo_100 (z_byk bcX5_expectCourt_0 0 10 _ bcX5_expectCourt_0_ok rfl)
theorem dX5_expectCourt_11 : decode cX5_expectCourt 11 = .ok (.invokevirtual 115, 3) := zo_182 (z_byk bcX5_expectCourt_0 0 11 _ bcX5_expectCourt_0_ok rfl) (z_byk bcX5_expectCourt_0 0 12 _ bcX5_expectCourt_0_ok rfl) (z_byk bcX5_expectCourt_0 0 13 _ bcX5_expectCourt_0_ok rfl) rfl
theorem dX5_expectCourt_14 : decode cX5_expectCourt 14 = .ok (.ireturn, 1) := zo_172 (z_byk bcX5_expectCourt_0 0 14 _ bcX5_expectCourt_0_ok rfl)
theorem dX5_expectCourt_2 : decode cX5_expectCourt 2 = .ok (.aload_n 0, 1) := zo_42 (z_byk bcX5_expectCourt_0 0 2 _ bcX5_expectCourt_0_ok rfl)
theorem dX5_expectCourt_3 : decode cX5_expectCourt 3 = .ok (.getfield 31, 3) := zo_180 (z_byk bcX5_expectCourt_0 0 3 _ bcX5_expectCourt_0_ok rfl) (z_byk bcX5_expectCourt_0 0 4 _ bcX5_expectCourt_0_ok rfl) (z_byk bcX5_expectCourt_0 0 5 _ bcX5_expectCourt_0_ok rfl) rfl
theorem dX5_expectCourt_6 : decode cX5_expectCourt 6 = .ok (.getfield 83, 3) := zo_180 (z_byk bcX5_expectCourt_0 0 6 _ bcX5_expectCourt_0_ok rfl) (z_byk bcX5_expectCourt_0 0 7 _ bcX5_expectCourt_0_ok rfl) (z_byk bcX5_expectCourt_0 0 8 _ bcX5_expectCourt_0_ok rfl) rfl
theorem dX5_expectCourt_9 : decode cX5_expectCourt 9 = .ok (.iconst 1, 1) := zo_4 (z_byk bcX5_expectCourt_0 0 9 _ bcX5_expectCourt_0_ok rfl)
def bcX5_expectNumber_0 : List Nat := [42, 180, 0, 25, 42, 180, 0, 52, 46, 62, 42, 180, 0, 15, 42, 180, 0, 52, 46, 5, 159, 0, 11, 42, 4, 182, 0, 109, 167, 0, 18, 29, 27, 161, 0, 8, 29, 28, 164, 0, 8, 42, 5, 182, 0, 109, 42, 182, 0, 112, 42, 180, 0, 45, 154, 0, 7, 29, 167, 0]
theorem bcX5_expectNumber_0_ok : z_bys cX5_expectNumber 0 bcX5_expectNumber_0 = true := by decide +kernel
def bcX5_expectNumber_60 : List Nat := [4, 3, 172]
theorem bcX5_expectNumber_60_ok : z_bys cX5_expectNumber 60 bcX5_expectNumber_60 = true := by decide +kernel
theorem dX5_expectNumber_0 : decode cX5_expectNumber 0 = .ok (.aload_n 0, 1) := zo_42 (z_byk bcX5_expectNumber_0 0 0 _ bcX5_expectNumber_0_ok rfl)
theorem dX5_expectNumber_1 : decode cX5_expectNumber 1 = .ok (.getfield 25, 3) := zo_180 (z_byk bcX5_expectNumber_0 0 1 _ bcX5_expectNumber_0_ok rfl) (z_byk bcX5_expectNumber_0 0 2 _ bcX5_expectNumber_0_ok rfl) (z_byk bcX5_expectNumber_0 0 3 _ bcX5_expectNumber_0_ok rfl) rfl
theorem dX5_expectNumber_10 : decode cX5_expectNumber 10 = .ok (.aload_n 0, 1) := zo_42 (z_byk bcX5_expectNumber_0 0 10 _ bcX5_expectNumber_0_ok rfl)
theorem dX5_expectNumber_11 : decode cX5_expectNumber 11 = .ok (.getfield 15, 3) := zo_180 (z_byk bcX5_expectNumber_0 0 11 _ bcX5_expectNumber_0_ok rfl) (z_byk bcX5_expectNumber_0 0 12 _ bcX5_expectNumber_0_ok rfl) (z_byk bcX5_expectNumber_0 0 13 _ bcX5_expectNumber_0_ok rfl) rfl
theorem dX5_expectNumber_14 : decode cX5_expectNumber 14 = .ok (.aload_n 0, 1) := zo_42 (z_byk bcX5_expectNumber_0 0 14 _ bcX5_expectNumber_0_ok rfl)
theorem dX5_expectNumber_15 : decode cX5_expectNumber 15 = .ok (.getfield 52, 3) := zo_180 (z_byk bcX5_expectNumber_0 0 15 _ bcX5_expectNumber_0_ok rfl) (z_byk bcX5_expectNumber_0 0 16 _ bcX5_expectNumber_0_ok rfl) (z_byk bcX5_expectNumber_0 0 17 _ bcX5_expectNumber_0_ok rfl) rfl
theorem dX5_expectNumber_18 : decode cX5_expectNumber 18 = .ok (.iaload, 1) := zo_46 (z_byk bcX5_expectNumber_0 0 18 _ bcX5_expectNumber_0_ok rfl)
theorem dX5_expectNumber_19 : decode cX5_expectNumber 19 = .ok (.iconst 2, 1) := zo_5 (z_byk bcX5_expectNumber_0 0 19 _ bcX5_expectNumber_0_ok rfl)
theorem dX5_expectNumber_20 : decode cX5_expectNumber 20 = .ok (.if_icmp .eq 11, 3) := zo_159 (z_byk bcX5_expectNumber_0 0 20 _ bcX5_expectNumber_0_ok rfl) (z_byk bcX5_expectNumber_0 0 21 _ bcX5_expectNumber_0_ok rfl) (z_byk bcX5_expectNumber_0 0 22 _ bcX5_expectNumber_0_ok rfl) rfl
theorem dX5_expectNumber_23 : decode cX5_expectNumber 23 = .ok (.aload_n 0, 1) := zo_42 (z_byk bcX5_expectNumber_0 0 23 _ bcX5_expectNumber_0_ok rfl)
theorem dX5_expectNumber_24 : decode cX5_expectNumber 24 = .ok (.iconst 1, 1) := zo_4 (z_byk bcX5_expectNumber_0 0 24 _ bcX5_expectNumber_0_ok rfl)
theorem dX5_expectNumber_25 : decode cX5_expectNumber 25 = .ok (.invokevirtual 109, 3) := zo_182 (z_byk bcX5_expectNumber_0 0 25 _ bcX5_expectNumber_0_ok rfl) (z_byk bcX5_expectNumber_0 0 26 _ bcX5_expectNumber_0_ok rfl) (z_byk bcX5_expectNumber_0 0 27 _ bcX5_expectNumber_0_ok rfl) rfl
theorem dX5_expectNumber_28 : decode cX5_expectNumber 28 = .ok (.goto 18, 3) := zo_167 (z_byk bcX5_expectNumber_0 0 28 _ bcX5_expectNumber_0_ok rfl) (z_byk bcX5_expectNumber_0 0 29 _ bcX5_expectNumber_0_ok rfl) (z_byk bcX5_expectNumber_0 0 30 _ bcX5_expectNumber_0_ok rfl) rfl
theorem dX5_expectNumber_31 : decode cX5_expectNumber 31 = .ok (.iload_n 3, 1) := zo_29 (z_byk bcX5_expectNumber_0 0 31 _ bcX5_expectNumber_0_ok rfl)
theorem dX5_expectNumber_32 : decode cX5_expectNumber 32 = .ok (.iload_n 1, 1) := zo_27 (z_byk bcX5_expectNumber_0 0 32 _ bcX5_expectNumber_0_ok rfl)
theorem dX5_expectNumber_33 : decode cX5_expectNumber 33 = .ok (.if_icmp .lt 8, 3) := zo_161 (z_byk bcX5_expectNumber_0 0 33 _ bcX5_expectNumber_0_ok rfl) (z_byk bcX5_expectNumber_0 0 34 _ bcX5_expectNumber_0_ok rfl) (z_byk bcX5_expectNumber_0 0 35 _ bcX5_expectNumber_0_ok rfl) rfl
theorem dX5_expectNumber_36 : decode cX5_expectNumber 36 = .ok (.iload_n 3, 1) := zo_29 (z_byk bcX5_expectNumber_0 0 36 _ bcX5_expectNumber_0_ok rfl)
theorem dX5_expectNumber_37 : decode cX5_expectNumber 37 = .ok (.iload_n 2, 1) := zo_28 (z_byk bcX5_expectNumber_0 0 37 _ bcX5_expectNumber_0_ok rfl)
theorem dX5_expectNumber_38 : decode cX5_expectNumber 38 = .ok (.if_icmp .le 8, 3) := zo_164 (z_byk bcX5_expectNumber_0 0 38 _ bcX5_expectNumber_0_ok rfl) (z_byk bcX5_expectNumber_0 0 39 _ bcX5_expectNumber_0_ok rfl) (z_byk bcX5_expectNumber_0 0 40 _ bcX5_expectNumber_0_ok rfl) rfl
theorem dX5_expectNumber_4 : decode cX5_expectNumber 4 = .ok (.aload_n 0, 1) := zo_42 (z_byk bcX5_expectNumber_0 0 4 _ bcX5_expectNumber_0_ok rfl)
theorem dX5_expectNumber_41 : decode cX5_expectNumber 41 = .ok (.aload_n 0, 1) := zo_42 (z_byk bcX5_expectNumber_0 0 41 _ bcX5_expectNumber_0_ok rfl)
theorem dX5_expectNumber_42 : decode cX5_expectNumber 42 = .ok (.iconst 2, 1) := zo_5 (z_byk bcX5_expectNumber_0 0 42 _ bcX5_expectNumber_0_ok rfl)
theorem dX5_expectNumber_43 : decode cX5_expectNumber 43 = .ok (.invokevirtual 109, 3) := zo_182 (z_byk bcX5_expectNumber_0 0 43 _ bcX5_expectNumber_0_ok rfl) (z_byk bcX5_expectNumber_0 0 44 _ bcX5_expectNumber_0_ok rfl) (z_byk bcX5_expectNumber_0 0 45 _ bcX5_expectNumber_0_ok rfl) rfl
theorem dX5_expectNumber_46 : decode cX5_expectNumber 46 = .ok (.aload_n 0, 1) := zo_42 (z_byk bcX5_expectNumber_0 0 46 _ bcX5_expectNumber_0_ok rfl)
theorem dX5_expectNumber_47 : decode cX5_expectNumber 47 = .ok (.invokevirtual 112, 3) := zo_182 (z_byk bcX5_expectNumber_0 0 47 _ bcX5_expectNumber_0_ok rfl) (z_byk bcX5_expectNumber_0 0 48 _ bcX5_expectNumber_0_ok rfl) (z_byk bcX5_expectNumber_0 0 49 _ bcX5_expectNumber_0_ok rfl) rfl
theorem dX5_expectNumber_5 : decode cX5_expectNumber 5 = .ok (.getfield 52, 3) := zo_180 (z_byk bcX5_expectNumber_0 0 5 _ bcX5_expectNumber_0_ok rfl) (z_byk bcX5_expectNumber_0 0 6 _ bcX5_expectNumber_0_ok rfl) (z_byk bcX5_expectNumber_0 0 7 _ bcX5_expectNumber_0_ok rfl) rfl
theorem dX5_expectNumber_50 : decode cX5_expectNumber 50 = .ok (.aload_n 0, 1) := zo_42 (z_byk bcX5_expectNumber_0 0 50 _ bcX5_expectNumber_0_ok rfl)
theorem dX5_expectNumber_51 : decode cX5_expectNumber 51 = .ok (.getfield 45, 3) := zo_180 (z_byk bcX5_expectNumber_0 0 51 _ bcX5_expectNumber_0_ok rfl) (z_byk bcX5_expectNumber_0 0 52 _ bcX5_expectNumber_0_ok rfl) (z_byk bcX5_expectNumber_0 0 53 _ bcX5_expectNumber_0_ok rfl) rfl
theorem dX5_expectNumber_54 : decode cX5_expectNumber 54 = .ok (.ifCond .ne 7, 3) := zo_154 (z_byk bcX5_expectNumber_0 0 54 _ bcX5_expectNumber_0_ok rfl) (z_byk bcX5_expectNumber_0 0 55 _ bcX5_expectNumber_0_ok rfl) (z_byk bcX5_expectNumber_0 0 56 _ bcX5_expectNumber_0_ok rfl) rfl
theorem dX5_expectNumber_57 : decode cX5_expectNumber 57 = .ok (.iload_n 3, 1) := zo_29 (z_byk bcX5_expectNumber_0 0 57 _ bcX5_expectNumber_0_ok rfl)
theorem dX5_expectNumber_58 : decode cX5_expectNumber 58 = .ok (.goto 4, 3) := zo_167 (z_byk bcX5_expectNumber_0 0 58 _ bcX5_expectNumber_0_ok rfl) (z_byk bcX5_expectNumber_0 0 59 _ bcX5_expectNumber_0_ok rfl) (z_byk bcX5_expectNumber_60 60 0 _ bcX5_expectNumber_60_ok rfl) rfl
theorem dX5_expectNumber_61 : decode cX5_expectNumber 61 = .ok (.iconst 0, 1) := zo_3 (z_byk bcX5_expectNumber_60 60 1 _ bcX5_expectNumber_60_ok rfl)
theorem dX5_expectNumber_62 : decode cX5_expectNumber 62 = .ok (.ireturn, 1) := zo_172 (z_byk bcX5_expectNumber_60 60 2 _ bcX5_expectNumber_60_ok rfl)
theorem dX5_expectNumber_8 : decode cX5_expectNumber 8 = .ok (.iaload, 1) := zo_46 (z_byk bcX5_expectNumber_0 0 8 _ bcX5_expectNumber_0_ok rfl)
theorem dX5_expectNumber_9 : decode cX5_expectNumber 9 = .ok (.istore_n 3, 1) := zo_62 (z_byk bcX5_expectNumber_0 0 9 _ bcX5_expectNumber_0_ok rfl)
def bcX5_expectWord_0 : List Nat := [42, 43, 182, 0, 105, 154, 0, 8, 42, 4, 182, 0, 109, 42, 182, 0, 112, 177]
theorem bcX5_expectWord_0_ok : z_bys cX5_expectWord 0 bcX5_expectWord_0 = true := by decide +kernel
theorem dX5_expectWord_0 : decode cX5_expectWord 0 = .ok (.aload_n 0, 1) := zo_42 (z_byk bcX5_expectWord_0 0 0 _ bcX5_expectWord_0_ok rfl)
theorem dX5_expectWord_1 : decode cX5_expectWord 1 = .ok (.aload_n 1, 1) := zo_43 (z_byk bcX5_expectWord_0 0 1 _ bcX5_expectWord_0_ok rfl)
theorem dX5_expectWord_10 : decode cX5_expectWord 10 = .ok (.invokevirtual 109, 3) := zo_182 (z_byk bcX5_expectWord_0 0 10 _ bcX5_expectWord_0_ok rfl) (z_byk bcX5_expectWord_0 0 11 _ bcX5_expectWord_0_ok rfl) (z_byk bcX5_expectWord_0 0 12 _ bcX5_expectWord_0_ok rfl) rfl
theorem dX5_expectWord_13 : decode cX5_expectWord 13 = .ok (.aload_n 0, 1) := zo_42 (z_byk bcX5_expectWord_0 0 13 _ bcX5_expectWord_0_ok rfl)
theorem dX5_expectWord_14 : decode cX5_expectWord 14 = .ok (.invokevirtual 112, 3) := zo_182 (z_byk bcX5_expectWord_0 0 14 _ bcX5_expectWord_0_ok rfl) (z_byk bcX5_expectWord_0 0 15 _ bcX5_expectWord_0_ok rfl) (z_byk bcX5_expectWord_0 0 16 _ bcX5_expectWord_0_ok rfl) rfl
theorem dX5_expectWord_17 : decode cX5_expectWord 17 = .ok (.return_, 1) := zo_177 (z_byk bcX5_expectWord_0 0 17 _ bcX5_expectWord_0_ok rfl)
theorem dX5_expectWord_2 : decode cX5_expectWord 2 = .ok (.invokevirtual 105, 3) := zo_182 (z_byk bcX5_expectWord_0 0 2 _ bcX5_expectWord_0_ok rfl) (z_byk bcX5_expectWord_0 0 3 _ bcX5_expectWord_0_ok rfl) (z_byk bcX5_expectWord_0 0 4 _ bcX5_expectWord_0_ok rfl) rfl
theorem dX5_expectWord_5 : decode cX5_expectWord 5 = .ok (.ifCond .ne 8, 3) := zo_154 (z_byk bcX5_expectWord_0 0 5 _ bcX5_expectWord_0_ok rfl) (z_byk bcX5_expectWord_0 0 6 _ bcX5_expectWord_0_ok rfl) (z_byk bcX5_expectWord_0 0 7 _ bcX5_expectWord_0_ok rfl) rfl
theorem dX5_expectWord_8 : decode cX5_expectWord 8 = .ok (.aload_n 0, 1) := zo_42 (z_byk bcX5_expectWord_0 0 8 _ bcX5_expectWord_0_ok rfl)
theorem dX5_expectWord_9 : decode cX5_expectWord 9 = .ok (.iconst 1, 1) := zo_4 (z_byk bcX5_expectWord_0 0 9 _ bcX5_expectWord_0_ok rfl)
def bcX5_isWord_0 : List Nat := [42, 180, 0, 15, 42, 180, 0, 52, 46, 4, 160, 0, 29, 42, 180, 0, 22, 42, 180, 0, 52, 46, 42, 180, 0, 19, 42, 180, 0, 52, 46, 100, 43, 182, 0, 95, 159, 0, 5, 3, 172, 3, 61, 28, 43, 182, 0, 95, 162, 0, 35, 42, 180, 0, 9, 42, 180, 0, 19, 42]
theorem bcX5_isWord_0_ok : z_bys cX5_isWord 0 bcX5_isWord_0 = true := by decide +kernel
def bcX5_isWord_60 : List Nat := [180, 0, 52, 46, 28, 96, 51, 43, 28, 182, 0, 101, 159, 0, 5, 3, 172, 132, 2, 1, 167, 255, 219, 4, 172]
theorem bcX5_isWord_60_ok : z_bys cX5_isWord 60 bcX5_isWord_60 = true := by decide +kernel
theorem dX5_isWord_0 : decode cX5_isWord 0 = .ok (.aload_n 0, 1) := zo_42 (z_byk bcX5_isWord_0 0 0 _ bcX5_isWord_0_ok rfl)
theorem dX5_isWord_1 : decode cX5_isWord 1 = .ok (.getfield 15, 3) := zo_180 (z_byk bcX5_isWord_0 0 1 _ bcX5_isWord_0_ok rfl) (z_byk bcX5_isWord_0 0 2 _ bcX5_isWord_0_ok rfl) (z_byk bcX5_isWord_0 0 3 _ bcX5_isWord_0_ok rfl) rfl
theorem dX5_isWord_10 : decode cX5_isWord 10 = .ok (.if_icmp .ne 29, 3) := zo_160 (z_byk bcX5_isWord_0 0 10 _ bcX5_isWord_0_ok rfl) (z_byk bcX5_isWord_0 0 11 _ bcX5_isWord_0_ok rfl) (z_byk bcX5_isWord_0 0 12 _ bcX5_isWord_0_ok rfl) rfl
theorem dX5_isWord_13 : decode cX5_isWord 13 = .ok (.aload_n 0, 1) := zo_42 (z_byk bcX5_isWord_0 0 13 _ bcX5_isWord_0_ok rfl)
theorem dX5_isWord_14 : decode cX5_isWord 14 = .ok (.getfield 22, 3) := zo_180 (z_byk bcX5_isWord_0 0 14 _ bcX5_isWord_0_ok rfl) (z_byk bcX5_isWord_0 0 15 _ bcX5_isWord_0_ok rfl) (z_byk bcX5_isWord_0 0 16 _ bcX5_isWord_0_ok rfl) rfl
theorem dX5_isWord_17 : decode cX5_isWord 17 = .ok (.aload_n 0, 1) := zo_42 (z_byk bcX5_isWord_0 0 17 _ bcX5_isWord_0_ok rfl)
theorem dX5_isWord_18 : decode cX5_isWord 18 = .ok (.getfield 52, 3) := zo_180 (z_byk bcX5_isWord_0 0 18 _ bcX5_isWord_0_ok rfl) (z_byk bcX5_isWord_0 0 19 _ bcX5_isWord_0_ok rfl) (z_byk bcX5_isWord_0 0 20 _ bcX5_isWord_0_ok rfl) rfl
theorem dX5_isWord_21 : decode cX5_isWord 21 = .ok (.iaload, 1) := zo_46 (z_byk bcX5_isWord_0 0 21 _ bcX5_isWord_0_ok rfl)
theorem dX5_isWord_22 : decode cX5_isWord 22 = .ok (.aload_n 0, 1) := zo_42 (z_byk bcX5_isWord_0 0 22 _ bcX5_isWord_0_ok rfl)
theorem dX5_isWord_23 : decode cX5_isWord 23 = .ok (.getfield 19, 3) := zo_180 (z_byk bcX5_isWord_0 0 23 _ bcX5_isWord_0_ok rfl) (z_byk bcX5_isWord_0 0 24 _ bcX5_isWord_0_ok rfl) (z_byk bcX5_isWord_0 0 25 _ bcX5_isWord_0_ok rfl) rfl
theorem dX5_isWord_26 : decode cX5_isWord 26 = .ok (.aload_n 0, 1) := zo_42 (z_byk bcX5_isWord_0 0 26 _ bcX5_isWord_0_ok rfl)
theorem dX5_isWord_27 : decode cX5_isWord 27 = .ok (.getfield 52, 3) := zo_180 (z_byk bcX5_isWord_0 0 27 _ bcX5_isWord_0_ok rfl) (z_byk bcX5_isWord_0 0 28 _ bcX5_isWord_0_ok rfl) (z_byk bcX5_isWord_0 0 29 _ bcX5_isWord_0_ok rfl) rfl
theorem dX5_isWord_30 : decode cX5_isWord 30 = .ok (.iaload, 1) := zo_46 (z_byk bcX5_isWord_0 0 30 _ bcX5_isWord_0_ok rfl)
theorem dX5_isWord_31 : decode cX5_isWord 31 = .ok (.isub, 1) := zo_100 (z_byk bcX5_isWord_0 0 31 _ bcX5_isWord_0_ok rfl)
theorem dX5_isWord_32 : decode cX5_isWord 32 = .ok (.aload_n 1, 1) := zo_43 (z_byk bcX5_isWord_0 0 32 _ bcX5_isWord_0_ok rfl)
theorem dX5_isWord_33 : decode cX5_isWord 33 = .ok (.invokevirtual 95, 3) := zo_182 (z_byk bcX5_isWord_0 0 33 _ bcX5_isWord_0_ok rfl) (z_byk bcX5_isWord_0 0 34 _ bcX5_isWord_0_ok rfl) (z_byk bcX5_isWord_0 0 35 _ bcX5_isWord_0_ok rfl) rfl
theorem dX5_isWord_36 : decode cX5_isWord 36 = .ok (.if_icmp .eq 5, 3) := zo_159 (z_byk bcX5_isWord_0 0 36 _ bcX5_isWord_0_ok rfl) (z_byk bcX5_isWord_0 0 37 _ bcX5_isWord_0_ok rfl) (z_byk bcX5_isWord_0 0 38 _ bcX5_isWord_0_ok rfl) rfl
theorem dX5_isWord_39 : decode cX5_isWord 39 = .ok (.iconst 0, 1) := zo_3 (z_byk bcX5_isWord_0 0 39 _ bcX5_isWord_0_ok rfl)
theorem dX5_isWord_4 : decode cX5_isWord 4 = .ok (.aload_n 0, 1) := zo_42 (z_byk bcX5_isWord_0 0 4 _ bcX5_isWord_0_ok rfl)
theorem dX5_isWord_40 : decode cX5_isWord 40 = .ok (.ireturn, 1) := zo_172 (z_byk bcX5_isWord_0 0 40 _ bcX5_isWord_0_ok rfl)
theorem dX5_isWord_41 : decode cX5_isWord 41 = .ok (.iconst 0, 1) := zo_3 (z_byk bcX5_isWord_0 0 41 _ bcX5_isWord_0_ok rfl)
theorem dX5_isWord_42 : decode cX5_isWord 42 = .ok (.istore_n 2, 1) := zo_61 (z_byk bcX5_isWord_0 0 42 _ bcX5_isWord_0_ok rfl)
theorem dX5_isWord_43 : decode cX5_isWord 43 = .ok (.iload_n 2, 1) := zo_28 (z_byk bcX5_isWord_0 0 43 _ bcX5_isWord_0_ok rfl)
theorem dX5_isWord_44 : decode cX5_isWord 44 = .ok (.aload_n 1, 1) := zo_43 (z_byk bcX5_isWord_0 0 44 _ bcX5_isWord_0_ok rfl)
theorem dX5_isWord_45 : decode cX5_isWord 45 = .ok (.invokevirtual 95, 3) := zo_182 (z_byk bcX5_isWord_0 0 45 _ bcX5_isWord_0_ok rfl) (z_byk bcX5_isWord_0 0 46 _ bcX5_isWord_0_ok rfl) (z_byk bcX5_isWord_0 0 47 _ bcX5_isWord_0_ok rfl) rfl
theorem dX5_isWord_48 : decode cX5_isWord 48 = .ok (.if_icmp .ge 35, 3) := zo_162 (z_byk bcX5_isWord_0 0 48 _ bcX5_isWord_0_ok rfl) (z_byk bcX5_isWord_0 0 49 _ bcX5_isWord_0_ok rfl) (z_byk bcX5_isWord_0 0 50 _ bcX5_isWord_0_ok rfl) rfl
theorem dX5_isWord_5 : decode cX5_isWord 5 = .ok (.getfield 52, 3) := zo_180 (z_byk bcX5_isWord_0 0 5 _ bcX5_isWord_0_ok rfl) (z_byk bcX5_isWord_0 0 6 _ bcX5_isWord_0_ok rfl) (z_byk bcX5_isWord_0 0 7 _ bcX5_isWord_0_ok rfl) rfl
theorem dX5_isWord_51 : decode cX5_isWord 51 = .ok (.aload_n 0, 1) := zo_42 (z_byk bcX5_isWord_0 0 51 _ bcX5_isWord_0_ok rfl)
theorem dX5_isWord_52 : decode cX5_isWord 52 = .ok (.getfield 9, 3) := zo_180 (z_byk bcX5_isWord_0 0 52 _ bcX5_isWord_0_ok rfl) (z_byk bcX5_isWord_0 0 53 _ bcX5_isWord_0_ok rfl) (z_byk bcX5_isWord_0 0 54 _ bcX5_isWord_0_ok rfl) rfl
theorem dX5_isWord_55 : decode cX5_isWord 55 = .ok (.aload_n 0, 1) := zo_42 (z_byk bcX5_isWord_0 0 55 _ bcX5_isWord_0_ok rfl)
theorem dX5_isWord_56 : decode cX5_isWord 56 = .ok (.getfield 19, 3) := zo_180 (z_byk bcX5_isWord_0 0 56 _ bcX5_isWord_0_ok rfl) (z_byk bcX5_isWord_0 0 57 _ bcX5_isWord_0_ok rfl) (z_byk bcX5_isWord_0 0 58 _ bcX5_isWord_0_ok rfl) rfl
theorem dX5_isWord_59 : decode cX5_isWord 59 = .ok (.aload_n 0, 1) := zo_42 (z_byk bcX5_isWord_0 0 59 _ bcX5_isWord_0_ok rfl)
theorem dX5_isWord_60 : decode cX5_isWord 60 = .ok (.getfield 52, 3) := zo_180 (z_byk bcX5_isWord_60 60 0 _ bcX5_isWord_60_ok rfl) (z_byk bcX5_isWord_60 60 1 _ bcX5_isWord_60_ok rfl) (z_byk bcX5_isWord_60 60 2 _ bcX5_isWord_60_ok rfl) rfl
theorem dX5_isWord_63 : decode cX5_isWord 63 = .ok (.iaload, 1) := zo_46 (z_byk bcX5_isWord_60 60 3 _ bcX5_isWord_60_ok rfl)
theorem dX5_isWord_64 : decode cX5_isWord 64 = .ok (.iload_n 2, 1) := zo_28 (z_byk bcX5_isWord_60 60 4 _ bcX5_isWord_60_ok rfl)
theorem dX5_isWord_65 : decode cX5_isWord 65 = .ok (.iadd, 1) := zo_96 (z_byk bcX5_isWord_60 60 5 _ bcX5_isWord_60_ok rfl)
theorem dX5_isWord_66 : decode cX5_isWord 66 = .ok (.baload, 1) := zo_51 (z_byk bcX5_isWord_60 60 6 _ bcX5_isWord_60_ok rfl)
theorem dX5_isWord_67 : decode cX5_isWord 67 = .ok (.aload_n 1, 1) := zo_43 (z_byk bcX5_isWord_60 60 7 _ bcX5_isWord_60_ok rfl)
theorem dX5_isWord_68 : decode cX5_isWord 68 = .ok (.iload_n 2, 1) := zo_28 (z_byk bcX5_isWord_60 60 8 _ bcX5_isWord_60_ok rfl)
theorem dX5_isWord_69 : decode cX5_isWord 69 = .ok (.invokevirtual 101, 3) := zo_182 (z_byk bcX5_isWord_60 60 9 _ bcX5_isWord_60_ok rfl) (z_byk bcX5_isWord_60 60 10 _ bcX5_isWord_60_ok rfl) (z_byk bcX5_isWord_60 60 11 _ bcX5_isWord_60_ok rfl) rfl
theorem dX5_isWord_72 : decode cX5_isWord 72 = .ok (.if_icmp .eq 5, 3) := zo_159 (z_byk bcX5_isWord_60 60 12 _ bcX5_isWord_60_ok rfl) (z_byk bcX5_isWord_60 60 13 _ bcX5_isWord_60_ok rfl) (z_byk bcX5_isWord_60 60 14 _ bcX5_isWord_60_ok rfl) rfl
theorem dX5_isWord_75 : decode cX5_isWord 75 = .ok (.iconst 0, 1) := zo_3 (z_byk bcX5_isWord_60 60 15 _ bcX5_isWord_60_ok rfl)
theorem dX5_isWord_76 : decode cX5_isWord 76 = .ok (.ireturn, 1) := zo_172 (z_byk bcX5_isWord_60 60 16 _ bcX5_isWord_60_ok rfl)
theorem dX5_isWord_77 : decode cX5_isWord 77 = .ok (.iinc 2 1, 3) := zo_132 (z_byk bcX5_isWord_60 60 17 _ bcX5_isWord_60_ok rfl) (z_byk bcX5_isWord_60 60 18 _ bcX5_isWord_60_ok rfl) (z_byk bcX5_isWord_60 60 19 _ bcX5_isWord_60_ok rfl) rfl
theorem dX5_isWord_8 : decode cX5_isWord 8 = .ok (.iaload, 1) := zo_46 (z_byk bcX5_isWord_0 0 8 _ bcX5_isWord_0_ok rfl)
theorem dX5_isWord_80 : decode cX5_isWord 80 = .ok (.goto (-37), 3) := zo_167 (z_byk bcX5_isWord_60 60 20 _ bcX5_isWord_60_ok rfl) (z_byk bcX5_isWord_60 60 21 _ bcX5_isWord_60_ok rfl) (z_byk bcX5_isWord_60 60 22 _ bcX5_isWord_60_ok rfl) rfl
theorem dX5_isWord_83 : decode cX5_isWord 83 = .ok (.iconst 1, 1) := zo_4 (z_byk bcX5_isWord_60 60 23 _ bcX5_isWord_60_ok rfl)
theorem dX5_isWord_84 : decode cX5_isWord 84 = .ok (.ireturn, 1) := zo_172 (z_byk bcX5_isWord_60 60 24 _ bcX5_isWord_60_ok rfl)
theorem dX5_isWord_9 : decode cX5_isWord 9 = .ok (.iconst 1, 1) := zo_4 (z_byk bcX5_isWord_0 0 9 _ bcX5_isWord_0_ok rfl)
def bcX5_kindOf_0 : List Nat := [26, 16, 32, 159, 0, 9, 26, 16, 10, 160, 0, 5, 3, 172, 26, 16, 97, 161, 0, 11, 26, 16, 122, 163, 0, 5, 4, 172, 26, 16, 48, 161, 0, 11, 26, 16, 57, 163, 0, 5, 5, 172, 26, 16, 59, 160, 0, 7, 6, 167, 0, 4, 7, 172]
theorem bcX5_kindOf_0_ok : z_bys cX5_kindOf 0 bcX5_kindOf_0 = true := by decide +kernel
theorem dX5_kindOf_0 : decode cX5_kindOf 0 = .ok (.iload_n 0, 1) := zo_26 (z_byk bcX5_kindOf_0 0 0 _ bcX5_kindOf_0_ok rfl)
theorem dX5_kindOf_1 : decode cX5_kindOf 1 = .ok (.bipush 32, 2) := zo_16 (z_byk bcX5_kindOf_0 0 1 _ bcX5_kindOf_0_ok rfl) (z_byk bcX5_kindOf_0 0 2 _ bcX5_kindOf_0_ok rfl) rfl
theorem dX5_kindOf_12 : decode cX5_kindOf 12 = .ok (.iconst 0, 1) := zo_3 (z_byk bcX5_kindOf_0 0 12 _ bcX5_kindOf_0_ok rfl)
theorem dX5_kindOf_13 : decode cX5_kindOf 13 = .ok (.ireturn, 1) := zo_172 (z_byk bcX5_kindOf_0 0 13 _ bcX5_kindOf_0_ok rfl)
theorem dX5_kindOf_14 : decode cX5_kindOf 14 = .ok (.iload_n 0, 1) := zo_26 (z_byk bcX5_kindOf_0 0 14 _ bcX5_kindOf_0_ok rfl)
theorem dX5_kindOf_15 : decode cX5_kindOf 15 = .ok (.bipush 97, 2) := zo_16 (z_byk bcX5_kindOf_0 0 15 _ bcX5_kindOf_0_ok rfl) (z_byk bcX5_kindOf_0 0 16 _ bcX5_kindOf_0_ok rfl) rfl
theorem dX5_kindOf_17 : decode cX5_kindOf 17 = .ok (.if_icmp .lt 11, 3) := zo_161 (z_byk bcX5_kindOf_0 0 17 _ bcX5_kindOf_0_ok rfl) (z_byk bcX5_kindOf_0 0 18 _ bcX5_kindOf_0_ok rfl) (z_byk bcX5_kindOf_0 0 19 _ bcX5_kindOf_0_ok rfl) rfl
theorem dX5_kindOf_20 : decode cX5_kindOf 20 = .ok (.iload_n 0, 1) := zo_26 (z_byk bcX5_kindOf_0 0 20 _ bcX5_kindOf_0_ok rfl)
theorem dX5_kindOf_21 : decode cX5_kindOf 21 = .ok (.bipush 122, 2) := zo_16 (z_byk bcX5_kindOf_0 0 21 _ bcX5_kindOf_0_ok rfl) (z_byk bcX5_kindOf_0 0 22 _ bcX5_kindOf_0_ok rfl) rfl
theorem dX5_kindOf_23 : decode cX5_kindOf 23 = .ok (.if_icmp .gt 5, 3) := zo_163 (z_byk bcX5_kindOf_0 0 23 _ bcX5_kindOf_0_ok rfl) (z_byk bcX5_kindOf_0 0 24 _ bcX5_kindOf_0_ok rfl) (z_byk bcX5_kindOf_0 0 25 _ bcX5_kindOf_0_ok rfl) rfl
theorem dX5_kindOf_26 : decode cX5_kindOf 26 = .ok (.iconst 1, 1) := zo_4 (z_byk bcX5_kindOf_0 0 26 _ bcX5_kindOf_0_ok rfl)
theorem dX5_kindOf_27 : decode cX5_kindOf 27 = .ok (.ireturn, 1) := zo_172 (z_byk bcX5_kindOf_0 0 27 _ bcX5_kindOf_0_ok rfl)
theorem dX5_kindOf_28 : decode cX5_kindOf 28 = .ok (.iload_n 0, 1) := zo_26 (z_byk bcX5_kindOf_0 0 28 _ bcX5_kindOf_0_ok rfl)
theorem dX5_kindOf_29 : decode cX5_kindOf 29 = .ok (.bipush 48, 2) := zo_16 (z_byk bcX5_kindOf_0 0 29 _ bcX5_kindOf_0_ok rfl) (z_byk bcX5_kindOf_0 0 30 _ bcX5_kindOf_0_ok rfl) rfl
theorem dX5_kindOf_3 : decode cX5_kindOf 3 = .ok (.if_icmp .eq 9, 3) := zo_159 (z_byk bcX5_kindOf_0 0 3 _ bcX5_kindOf_0_ok rfl) (z_byk bcX5_kindOf_0 0 4 _ bcX5_kindOf_0_ok rfl) (z_byk bcX5_kindOf_0 0 5 _ bcX5_kindOf_0_ok rfl) rfl
theorem dX5_kindOf_31 : decode cX5_kindOf 31 = .ok (.if_icmp .lt 11, 3) := zo_161 (z_byk bcX5_kindOf_0 0 31 _ bcX5_kindOf_0_ok rfl) (z_byk bcX5_kindOf_0 0 32 _ bcX5_kindOf_0_ok rfl) (z_byk bcX5_kindOf_0 0 33 _ bcX5_kindOf_0_ok rfl) rfl
theorem dX5_kindOf_34 : decode cX5_kindOf 34 = .ok (.iload_n 0, 1) := zo_26 (z_byk bcX5_kindOf_0 0 34 _ bcX5_kindOf_0_ok rfl)
theorem dX5_kindOf_35 : decode cX5_kindOf 35 = .ok (.bipush 57, 2) := zo_16 (z_byk bcX5_kindOf_0 0 35 _ bcX5_kindOf_0_ok rfl) (z_byk bcX5_kindOf_0 0 36 _ bcX5_kindOf_0_ok rfl) rfl
theorem dX5_kindOf_37 : decode cX5_kindOf 37 = .ok (.if_icmp .gt 5, 3) := zo_163 (z_byk bcX5_kindOf_0 0 37 _ bcX5_kindOf_0_ok rfl) (z_byk bcX5_kindOf_0 0 38 _ bcX5_kindOf_0_ok rfl) (z_byk bcX5_kindOf_0 0 39 _ bcX5_kindOf_0_ok rfl) rfl
theorem dX5_kindOf_40 : decode cX5_kindOf 40 = .ok (.iconst 2, 1) := zo_5 (z_byk bcX5_kindOf_0 0 40 _ bcX5_kindOf_0_ok rfl)
theorem dX5_kindOf_41 : decode cX5_kindOf 41 = .ok (.ireturn, 1) := zo_172 (z_byk bcX5_kindOf_0 0 41 _ bcX5_kindOf_0_ok rfl)
theorem dX5_kindOf_42 : decode cX5_kindOf 42 = .ok (.iload_n 0, 1) := zo_26 (z_byk bcX5_kindOf_0 0 42 _ bcX5_kindOf_0_ok rfl)
theorem dX5_kindOf_43 : decode cX5_kindOf 43 = .ok (.bipush 59, 2) := zo_16 (z_byk bcX5_kindOf_0 0 43 _ bcX5_kindOf_0_ok rfl) (z_byk bcX5_kindOf_0 0 44 _ bcX5_kindOf_0_ok rfl) rfl
theorem dX5_kindOf_45 : decode cX5_kindOf 45 = .ok (.if_icmp .ne 7, 3) := zo_160 (z_byk bcX5_kindOf_0 0 45 _ bcX5_kindOf_0_ok rfl) (z_byk bcX5_kindOf_0 0 46 _ bcX5_kindOf_0_ok rfl) (z_byk bcX5_kindOf_0 0 47 _ bcX5_kindOf_0_ok rfl) rfl
theorem dX5_kindOf_48 : decode cX5_kindOf 48 = .ok (.iconst 3, 1) := zo_6 (z_byk bcX5_kindOf_0 0 48 _ bcX5_kindOf_0_ok rfl)
theorem dX5_kindOf_49 : decode cX5_kindOf 49 = .ok (.goto 4, 3) := zo_167 (z_byk bcX5_kindOf_0 0 49 _ bcX5_kindOf_0_ok rfl) (z_byk bcX5_kindOf_0 0 50 _ bcX5_kindOf_0_ok rfl) (z_byk bcX5_kindOf_0 0 51 _ bcX5_kindOf_0_ok rfl) rfl
theorem dX5_kindOf_52 : decode cX5_kindOf 52 = .ok (.iconst 4, 1) := zo_7 (z_byk bcX5_kindOf_0 0 52 _ bcX5_kindOf_0_ok rfl)
theorem dX5_kindOf_53 : decode cX5_kindOf 53 = .ok (.ireturn, 1) := zo_172 (z_byk bcX5_kindOf_0 0 53 _ bcX5_kindOf_0_ok rfl)
theorem dX5_kindOf_6 : decode cX5_kindOf 6 = .ok (.iload_n 0, 1) := zo_26 (z_byk bcX5_kindOf_0 0 6 _ bcX5_kindOf_0_ok rfl)
theorem dX5_kindOf_7 : decode cX5_kindOf 7 = .ok (.bipush 10, 2) := zo_16 (z_byk bcX5_kindOf_0 0 7 _ bcX5_kindOf_0_ok rfl) (z_byk bcX5_kindOf_0 0 8 _ bcX5_kindOf_0_ok rfl) rfl
theorem dX5_kindOf_9 : decode cX5_kindOf 9 = .ok (.if_icmp .ne 5, 3) := zo_160 (z_byk bcX5_kindOf_0 0 9 _ bcX5_kindOf_0_ok rfl) (z_byk bcX5_kindOf_0 0 10 _ bcX5_kindOf_0_ok rfl) (z_byk bcX5_kindOf_0 0 11 _ bcX5_kindOf_0_ok rfl) rfl
def bcX5_placeFrom_0 : List Nat := [27, 62, 29, 42, 180, 0, 31, 180, 0, 156, 162, 0, 30, 42, 180, 0, 31, 180, 0, 204, 42, 180, 0, 31, 180, 0, 190, 16, 48, 104, 29, 96, 28, 79, 132, 3, 1, 167, 255, 221, 177]
theorem bcX5_placeFrom_0_ok : z_bys cX5_placeFrom 0 bcX5_placeFrom_0 = true := by decide +kernel
theorem dX5_placeFrom_0 : decode cX5_placeFrom 0 = .ok (.iload_n 1, 1) := zo_27 (z_byk bcX5_placeFrom_0 0 0 _ bcX5_placeFrom_0_ok rfl)
theorem dX5_placeFrom_1 : decode cX5_placeFrom 1 = .ok (.istore_n 3, 1) := zo_62 (z_byk bcX5_placeFrom_0 0 1 _ bcX5_placeFrom_0_ok rfl)
theorem dX5_placeFrom_10 : decode cX5_placeFrom 10 = .ok (.if_icmp .ge 30, 3) := zo_162 (z_byk bcX5_placeFrom_0 0 10 _ bcX5_placeFrom_0_ok rfl) (z_byk bcX5_placeFrom_0 0 11 _ bcX5_placeFrom_0_ok rfl) (z_byk bcX5_placeFrom_0 0 12 _ bcX5_placeFrom_0_ok rfl) rfl
theorem dX5_placeFrom_13 : decode cX5_placeFrom 13 = .ok (.aload_n 0, 1) := zo_42 (z_byk bcX5_placeFrom_0 0 13 _ bcX5_placeFrom_0_ok rfl)
theorem dX5_placeFrom_14 : decode cX5_placeFrom 14 = .ok (.getfield 31, 3) := zo_180 (z_byk bcX5_placeFrom_0 0 14 _ bcX5_placeFrom_0_ok rfl) (z_byk bcX5_placeFrom_0 0 15 _ bcX5_placeFrom_0_ok rfl) (z_byk bcX5_placeFrom_0 0 16 _ bcX5_placeFrom_0_ok rfl) rfl
theorem dX5_placeFrom_17 : decode cX5_placeFrom 17 = .ok (.getfield 204, 3) := zo_180 (z_byk bcX5_placeFrom_0 0 17 _ bcX5_placeFrom_0_ok rfl) (z_byk bcX5_placeFrom_0 0 18 _ bcX5_placeFrom_0_ok rfl) (z_byk bcX5_placeFrom_0 0 19 _ bcX5_placeFrom_0_ok rfl) rfl
theorem dX5_placeFrom_2 : decode cX5_placeFrom 2 = .ok (.iload_n 3, 1) := zo_29 (z_byk bcX5_placeFrom_0 0 2 _ bcX5_placeFrom_0_ok rfl)
theorem dX5_placeFrom_20 : decode cX5_placeFrom 20 = .ok (.aload_n 0, 1) := zo_42 (z_byk bcX5_placeFrom_0 0 20 _ bcX5_placeFrom_0_ok rfl)
theorem dX5_placeFrom_21 : decode cX5_placeFrom 21 = .ok (.getfield 31, 3) := zo_180 (z_byk bcX5_placeFrom_0 0 21 _ bcX5_placeFrom_0_ok rfl) (z_byk bcX5_placeFrom_0 0 22 _ bcX5_placeFrom_0_ok rfl) (z_byk bcX5_placeFrom_0 0 23 _ bcX5_placeFrom_0_ok rfl) rfl
theorem dX5_placeFrom_24 : decode cX5_placeFrom 24 = .ok (.getfield 190, 3) := zo_180 (z_byk bcX5_placeFrom_0 0 24 _ bcX5_placeFrom_0_ok rfl) (z_byk bcX5_placeFrom_0 0 25 _ bcX5_placeFrom_0_ok rfl) (z_byk bcX5_placeFrom_0 0 26 _ bcX5_placeFrom_0_ok rfl) rfl
theorem dX5_placeFrom_27 : decode cX5_placeFrom 27 = .ok (.bipush 48, 2) := zo_16 (z_byk bcX5_placeFrom_0 0 27 _ bcX5_placeFrom_0_ok rfl) (z_byk bcX5_placeFrom_0 0 28 _ bcX5_placeFrom_0_ok rfl) rfl
theorem dX5_placeFrom_29 : decode cX5_placeFrom 29 = .ok (.imul, 1) := zo_104 (z_byk bcX5_placeFrom_0 0 29 _ bcX5_placeFrom_0_ok rfl)
theorem dX5_placeFrom_3 : decode cX5_placeFrom 3 = .ok (.aload_n 0, 1) := zo_42 (z_byk bcX5_placeFrom_0 0 3 _ bcX5_placeFrom_0_ok rfl)
theorem dX5_placeFrom_30 : decode cX5_placeFrom 30 = .ok (.iload_n 3, 1) := zo_29 (z_byk bcX5_placeFrom_0 0 30 _ bcX5_placeFrom_0_ok rfl)
theorem dX5_placeFrom_31 : decode cX5_placeFrom 31 = .ok (.iadd, 1) := zo_96 (z_byk bcX5_placeFrom_0 0 31 _ bcX5_placeFrom_0_ok rfl)
theorem dX5_placeFrom_32 : decode cX5_placeFrom 32 = .ok (.iload_n 2, 1) := zo_28 (z_byk bcX5_placeFrom_0 0 32 _ bcX5_placeFrom_0_ok rfl)
theorem dX5_placeFrom_33 : decode cX5_placeFrom 33 = .ok (.iastore, 1) := zo_79 (z_byk bcX5_placeFrom_0 0 33 _ bcX5_placeFrom_0_ok rfl)
theorem dX5_placeFrom_34 : decode cX5_placeFrom 34 = .ok (.iinc 3 1, 3) := zo_132 (z_byk bcX5_placeFrom_0 0 34 _ bcX5_placeFrom_0_ok rfl) (z_byk bcX5_placeFrom_0 0 35 _ bcX5_placeFrom_0_ok rfl) (z_byk bcX5_placeFrom_0 0 36 _ bcX5_placeFrom_0_ok rfl) rfl
theorem dX5_placeFrom_37 : decode cX5_placeFrom 37 = .ok (.goto (-35), 3) := zo_167 (z_byk bcX5_placeFrom_0 0 37 _ bcX5_placeFrom_0_ok rfl) (z_byk bcX5_placeFrom_0 0 38 _ bcX5_placeFrom_0_ok rfl) (z_byk bcX5_placeFrom_0 0 39 _ bcX5_placeFrom_0_ok rfl) rfl
theorem dX5_placeFrom_4 : decode cX5_placeFrom 4 = .ok (.getfield 31, 3) := zo_180 (z_byk bcX5_placeFrom_0 0 4 _ bcX5_placeFrom_0_ok rfl) (z_byk bcX5_placeFrom_0 0 5 _ bcX5_placeFrom_0_ok rfl) (z_byk bcX5_placeFrom_0 0 6 _ bcX5_placeFrom_0_ok rfl) rfl
theorem dX5_placeFrom_40 : decode cX5_placeFrom 40 = .ok (.return_, 1) := zo_177 (z_byk bcX5_placeFrom_0 0 40 _ bcX5_placeFrom_0_ok rfl)
theorem dX5_placeFrom_7 : decode cX5_placeFrom 7 = .ok (.getfield 156, 3) := zo_180 (z_byk bcX5_placeFrom_0 0 7 _ bcX5_placeFrom_0_ok rfl) (z_byk bcX5_placeFrom_0 0 8 _ bcX5_placeFrom_0_ok rfl) (z_byk bcX5_placeFrom_0 0 9 _ bcX5_placeFrom_0_ok rfl) rfl
def bcX5_readCourt_0 : List Nat := [42, 180, 0, 31, 180, 0, 83, 16, 10, 161, 0, 9, 42, 6, 182, 0, 109, 177, 42, 182, 0, 112, 42, 18, 158, 182, 0, 150, 42, 182, 0, 160, 60, 42, 180, 0, 45, 154, 0, 44, 42, 180, 0, 31, 180, 0, 92, 42, 180, 0, 31, 180, 0, 83, 42, 180, 0, 31, 180, 0]
theorem bcX5_readCourt_0_ok : z_bys cX5_readCourt 0 bcX5_readCourt_0 = true := by decide +kernel
def bcX5_readCourt_60 : List Nat := [92, 27, 46, 4, 27, 120, 128, 79, 42, 180, 0, 31, 89, 180, 0, 83, 4, 96, 181, 0, 83, 177]
theorem bcX5_readCourt_60_ok : z_bys cX5_readCourt 60 bcX5_readCourt_60 = true := by decide +kernel
theorem dX5_readCourt_0 : decode cX5_readCourt 0 = .ok (.aload_n 0, 1) := zo_42 (z_byk bcX5_readCourt_0 0 0 _ bcX5_readCourt_0_ok rfl)
theorem dX5_readCourt_1 : decode cX5_readCourt 1 = .ok (.getfield 31, 3) := zo_180 (z_byk bcX5_readCourt_0 0 1 _ bcX5_readCourt_0_ok rfl) (z_byk bcX5_readCourt_0 0 2 _ bcX5_readCourt_0_ok rfl) (z_byk bcX5_readCourt_0 0 3 _ bcX5_readCourt_0_ok rfl) rfl
theorem dX5_readCourt_12 : decode cX5_readCourt 12 = .ok (.aload_n 0, 1) := zo_42 (z_byk bcX5_readCourt_0 0 12 _ bcX5_readCourt_0_ok rfl)
theorem dX5_readCourt_13 : decode cX5_readCourt 13 = .ok (.iconst 3, 1) := zo_6 (z_byk bcX5_readCourt_0 0 13 _ bcX5_readCourt_0_ok rfl)
theorem dX5_readCourt_14 : decode cX5_readCourt 14 = .ok (.invokevirtual 109, 3) := zo_182 (z_byk bcX5_readCourt_0 0 14 _ bcX5_readCourt_0_ok rfl) (z_byk bcX5_readCourt_0 0 15 _ bcX5_readCourt_0_ok rfl) (z_byk bcX5_readCourt_0 0 16 _ bcX5_readCourt_0_ok rfl) rfl
theorem dX5_readCourt_17 : decode cX5_readCourt 17 = .ok (.return_, 1) := zo_177 (z_byk bcX5_readCourt_0 0 17 _ bcX5_readCourt_0_ok rfl)
theorem dX5_readCourt_18 : decode cX5_readCourt 18 = .ok (.aload_n 0, 1) := zo_42 (z_byk bcX5_readCourt_0 0 18 _ bcX5_readCourt_0_ok rfl)
theorem dX5_readCourt_19 : decode cX5_readCourt 19 = .ok (.invokevirtual 112, 3) := zo_182 (z_byk bcX5_readCourt_0 0 19 _ bcX5_readCourt_0_ok rfl) (z_byk bcX5_readCourt_0 0 20 _ bcX5_readCourt_0_ok rfl) (z_byk bcX5_readCourt_0 0 21 _ bcX5_readCourt_0_ok rfl) rfl
theorem dX5_readCourt_22 : decode cX5_readCourt 22 = .ok (.aload_n 0, 1) := zo_42 (z_byk bcX5_readCourt_0 0 22 _ bcX5_readCourt_0_ok rfl)
theorem dX5_readCourt_23 : decode cX5_readCourt 23 = .ok (.ldc 158, 2) := zo_18 (z_byk bcX5_readCourt_0 0 23 _ bcX5_readCourt_0_ok rfl) (z_byk bcX5_readCourt_0 0 24 _ bcX5_readCourt_0_ok rfl)
theorem dX5_readCourt_25 : decode cX5_readCourt 25 = .ok (.invokevirtual 150, 3) := zo_182 (z_byk bcX5_readCourt_0 0 25 _ bcX5_readCourt_0_ok rfl) (z_byk bcX5_readCourt_0 0 26 _ bcX5_readCourt_0_ok rfl) (z_byk bcX5_readCourt_0 0 27 _ bcX5_readCourt_0_ok rfl) rfl
theorem dX5_readCourt_28 : decode cX5_readCourt 28 = .ok (.aload_n 0, 1) := zo_42 (z_byk bcX5_readCourt_0 0 28 _ bcX5_readCourt_0_ok rfl)
theorem dX5_readCourt_29 : decode cX5_readCourt 29 = .ok (.invokevirtual 160, 3) := zo_182 (z_byk bcX5_readCourt_0 0 29 _ bcX5_readCourt_0_ok rfl) (z_byk bcX5_readCourt_0 0 30 _ bcX5_readCourt_0_ok rfl) (z_byk bcX5_readCourt_0 0 31 _ bcX5_readCourt_0_ok rfl) rfl
theorem dX5_readCourt_32 : decode cX5_readCourt 32 = .ok (.istore_n 1, 1) := zo_60 (z_byk bcX5_readCourt_0 0 32 _ bcX5_readCourt_0_ok rfl)
theorem dX5_readCourt_33 : decode cX5_readCourt 33 = .ok (.aload_n 0, 1) := zo_42 (z_byk bcX5_readCourt_0 0 33 _ bcX5_readCourt_0_ok rfl)
theorem dX5_readCourt_34 : decode cX5_readCourt 34 = .ok (.getfield 45, 3) := zo_180 (z_byk bcX5_readCourt_0 0 34 _ bcX5_readCourt_0_ok rfl) (z_byk bcX5_readCourt_0 0 35 _ bcX5_readCourt_0_ok rfl) (z_byk bcX5_readCourt_0 0 36 _ bcX5_readCourt_0_ok rfl) rfl
theorem dX5_readCourt_37 : decode cX5_readCourt 37 = .ok (.ifCond .ne 44, 3) := zo_154 (z_byk bcX5_readCourt_0 0 37 _ bcX5_readCourt_0_ok rfl) (z_byk bcX5_readCourt_0 0 38 _ bcX5_readCourt_0_ok rfl) (z_byk bcX5_readCourt_0 0 39 _ bcX5_readCourt_0_ok rfl) rfl
theorem dX5_readCourt_4 : decode cX5_readCourt 4 = .ok (.getfield 83, 3) := zo_180 (z_byk bcX5_readCourt_0 0 4 _ bcX5_readCourt_0_ok rfl) (z_byk bcX5_readCourt_0 0 5 _ bcX5_readCourt_0_ok rfl) (z_byk bcX5_readCourt_0 0 6 _ bcX5_readCourt_0_ok rfl) rfl
theorem dX5_readCourt_40 : decode cX5_readCourt 40 = .ok (.aload_n 0, 1) := zo_42 (z_byk bcX5_readCourt_0 0 40 _ bcX5_readCourt_0_ok rfl)
theorem dX5_readCourt_41 : decode cX5_readCourt 41 = .ok (.getfield 31, 3) := zo_180 (z_byk bcX5_readCourt_0 0 41 _ bcX5_readCourt_0_ok rfl) (z_byk bcX5_readCourt_0 0 42 _ bcX5_readCourt_0_ok rfl) (z_byk bcX5_readCourt_0 0 43 _ bcX5_readCourt_0_ok rfl) rfl
theorem dX5_readCourt_44 : decode cX5_readCourt 44 = .ok (.getfield 92, 3) := zo_180 (z_byk bcX5_readCourt_0 0 44 _ bcX5_readCourt_0_ok rfl) (z_byk bcX5_readCourt_0 0 45 _ bcX5_readCourt_0_ok rfl) (z_byk bcX5_readCourt_0 0 46 _ bcX5_readCourt_0_ok rfl) rfl
theorem dX5_readCourt_47 : decode cX5_readCourt 47 = .ok (.aload_n 0, 1) := zo_42 (z_byk bcX5_readCourt_0 0 47 _ bcX5_readCourt_0_ok rfl)
theorem dX5_readCourt_48 : decode cX5_readCourt 48 = .ok (.getfield 31, 3) := zo_180 (z_byk bcX5_readCourt_0 0 48 _ bcX5_readCourt_0_ok rfl) (z_byk bcX5_readCourt_0 0 49 _ bcX5_readCourt_0_ok rfl) (z_byk bcX5_readCourt_0 0 50 _ bcX5_readCourt_0_ok rfl) rfl
theorem dX5_readCourt_51 : decode cX5_readCourt 51 = .ok (.getfield 83, 3) := zo_180 (z_byk bcX5_readCourt_0 0 51 _ bcX5_readCourt_0_ok rfl) (z_byk bcX5_readCourt_0 0 52 _ bcX5_readCourt_0_ok rfl) (z_byk bcX5_readCourt_0 0 53 _ bcX5_readCourt_0_ok rfl) rfl
theorem dX5_readCourt_54 : decode cX5_readCourt 54 = .ok (.aload_n 0, 1) := zo_42 (z_byk bcX5_readCourt_0 0 54 _ bcX5_readCourt_0_ok rfl)
theorem dX5_readCourt_55 : decode cX5_readCourt 55 = .ok (.getfield 31, 3) := zo_180 (z_byk bcX5_readCourt_0 0 55 _ bcX5_readCourt_0_ok rfl) (z_byk bcX5_readCourt_0 0 56 _ bcX5_readCourt_0_ok rfl) (z_byk bcX5_readCourt_0 0 57 _ bcX5_readCourt_0_ok rfl) rfl
theorem dX5_readCourt_58 : decode cX5_readCourt 58 = .ok (.getfield 92, 3) := zo_180 (z_byk bcX5_readCourt_0 0 58 _ bcX5_readCourt_0_ok rfl) (z_byk bcX5_readCourt_0 0 59 _ bcX5_readCourt_0_ok rfl) (z_byk bcX5_readCourt_60 60 0 _ bcX5_readCourt_60_ok rfl) rfl
theorem dX5_readCourt_61 : decode cX5_readCourt 61 = .ok (.iload_n 1, 1) := zo_27 (z_byk bcX5_readCourt_60 60 1 _ bcX5_readCourt_60_ok rfl)
theorem dX5_readCourt_62 : decode cX5_readCourt 62 = .ok (.iaload, 1) := zo_46 (z_byk bcX5_readCourt_60 60 2 _ bcX5_readCourt_60_ok rfl)
theorem dX5_readCourt_63 : decode cX5_readCourt 63 = .ok (.iconst 1, 1) := zo_4 (z_byk bcX5_readCourt_60 60 3 _ bcX5_readCourt_60_ok rfl)
theorem dX5_readCourt_64 : decode cX5_readCourt 64 = .ok (.iload_n 1, 1) := zo_27 (z_byk bcX5_readCourt_60 60 4 _ bcX5_readCourt_60_ok rfl)
theorem dX5_readCourt_65 : decode cX5_readCourt 65 = .ok (.ishl, 1) := zo_120 (z_byk bcX5_readCourt_60 60 5 _ bcX5_readCourt_60_ok rfl)
theorem dX5_readCourt_66 : decode cX5_readCourt 66 = .ok (.ior, 1) := zo_128 (z_byk bcX5_readCourt_60 60 6 _ bcX5_readCourt_60_ok rfl)
theorem dX5_readCourt_67 : decode cX5_readCourt 67 = .ok (.iastore, 1) := zo_79 (z_byk bcX5_readCourt_60 60 7 _ bcX5_readCourt_60_ok rfl)
theorem dX5_readCourt_68 : decode cX5_readCourt 68 = .ok (.aload_n 0, 1) := zo_42 (z_byk bcX5_readCourt_60 60 8 _ bcX5_readCourt_60_ok rfl)
theorem dX5_readCourt_69 : decode cX5_readCourt 69 = .ok (.getfield 31, 3) := zo_180 (z_byk bcX5_readCourt_60 60 9 _ bcX5_readCourt_60_ok rfl) (z_byk bcX5_readCourt_60 60 10 _ bcX5_readCourt_60_ok rfl) (z_byk bcX5_readCourt_60 60 11 _ bcX5_readCourt_60_ok rfl) rfl
theorem dX5_readCourt_7 : decode cX5_readCourt 7 = .ok (.bipush 10, 2) := zo_16 (z_byk bcX5_readCourt_0 0 7 _ bcX5_readCourt_0_ok rfl) (z_byk bcX5_readCourt_0 0 8 _ bcX5_readCourt_0_ok rfl) rfl
theorem dX5_readCourt_72 : decode cX5_readCourt 72 = .ok (.dup, 1) := zo_89 (z_byk bcX5_readCourt_60 60 12 _ bcX5_readCourt_60_ok rfl)
theorem dX5_readCourt_73 : decode cX5_readCourt 73 = .ok (.getfield 83, 3) := zo_180 (z_byk bcX5_readCourt_60 60 13 _ bcX5_readCourt_60_ok rfl) (z_byk bcX5_readCourt_60 60 14 _ bcX5_readCourt_60_ok rfl) (z_byk bcX5_readCourt_60 60 15 _ bcX5_readCourt_60_ok rfl) rfl
theorem dX5_readCourt_76 : decode cX5_readCourt 76 = .ok (.iconst 1, 1) := zo_4 (z_byk bcX5_readCourt_60 60 16 _ bcX5_readCourt_60_ok rfl)
theorem dX5_readCourt_77 : decode cX5_readCourt 77 = .ok (.iadd, 1) := zo_96 (z_byk bcX5_readCourt_60 60 17 _ bcX5_readCourt_60_ok rfl)
theorem dX5_readCourt_78 : decode cX5_readCourt 78 = .ok (.putfield 83, 3) := zo_181 (z_byk bcX5_readCourt_60 60 18 _ bcX5_readCourt_60_ok rfl) (z_byk bcX5_readCourt_60 60 19 _ bcX5_readCourt_60_ok rfl) (z_byk bcX5_readCourt_60 60 20 _ bcX5_readCourt_60_ok rfl) rfl
theorem dX5_readCourt_81 : decode cX5_readCourt 81 = .ok (.return_, 1) := zo_177 (z_byk bcX5_readCourt_60 60 21 _ bcX5_readCourt_60_ok rfl)
theorem dX5_readCourt_9 : decode cX5_readCourt 9 = .ok (.if_icmp .lt 9, 3) := zo_161 (z_byk bcX5_readCourt_0 0 9 _ bcX5_readCourt_0_ok rfl) (z_byk bcX5_readCourt_0 0 10 _ bcX5_readCourt_0_ok rfl) (z_byk bcX5_readCourt_0 0 11 _ bcX5_readCourt_0_ok rfl) rfl
def bcX5_readFalse_0 : List Nat := [42, 180, 0, 62, 153, 0, 9, 42, 5, 182, 0, 109, 177, 42, 4, 181, 0, 62, 42, 182, 0, 112, 42, 180, 0, 31, 42, 3, 16, 9, 182, 0, 115, 181, 0, 219, 177]
theorem bcX5_readFalse_0_ok : z_bys cX5_readFalse 0 bcX5_readFalse_0 = true := by decide +kernel
theorem dX5_readFalse_0 : decode cX5_readFalse 0 = .ok (.aload_n 0, 1) := zo_42 (z_byk bcX5_readFalse_0 0 0 _ bcX5_readFalse_0_ok rfl)
theorem dX5_readFalse_1 : decode cX5_readFalse 1 = .ok (.getfield 62, 3) := zo_180 (z_byk bcX5_readFalse_0 0 1 _ bcX5_readFalse_0_ok rfl) (z_byk bcX5_readFalse_0 0 2 _ bcX5_readFalse_0_ok rfl) (z_byk bcX5_readFalse_0 0 3 _ bcX5_readFalse_0_ok rfl) rfl
theorem dX5_readFalse_12 : decode cX5_readFalse 12 = .ok (.return_, 1) := zo_177 (z_byk bcX5_readFalse_0 0 12 _ bcX5_readFalse_0_ok rfl)
theorem dX5_readFalse_13 : decode cX5_readFalse 13 = .ok (.aload_n 0, 1) := zo_42 (z_byk bcX5_readFalse_0 0 13 _ bcX5_readFalse_0_ok rfl)
theorem dX5_readFalse_14 : decode cX5_readFalse 14 = .ok (.iconst 1, 1) := zo_4 (z_byk bcX5_readFalse_0 0 14 _ bcX5_readFalse_0_ok rfl)
theorem dX5_readFalse_15 : decode cX5_readFalse 15 = .ok (.putfield 62, 3) := zo_181 (z_byk bcX5_readFalse_0 0 15 _ bcX5_readFalse_0_ok rfl) (z_byk bcX5_readFalse_0 0 16 _ bcX5_readFalse_0_ok rfl) (z_byk bcX5_readFalse_0 0 17 _ bcX5_readFalse_0_ok rfl) rfl
theorem dX5_readFalse_18 : decode cX5_readFalse 18 = .ok (.aload_n 0, 1) := zo_42 (z_byk bcX5_readFalse_0 0 18 _ bcX5_readFalse_0_ok rfl)
theorem dX5_readFalse_19 : decode cX5_readFalse 19 = .ok (.invokevirtual 112, 3) := zo_182 (z_byk bcX5_readFalse_0 0 19 _ bcX5_readFalse_0_ok rfl) (z_byk bcX5_readFalse_0 0 20 _ bcX5_readFalse_0_ok rfl) (z_byk bcX5_readFalse_0 0 21 _ bcX5_readFalse_0_ok rfl) rfl
theorem dX5_readFalse_22 : decode cX5_readFalse 22 = .ok (.aload_n 0, 1) := zo_42 (z_byk bcX5_readFalse_0 0 22 _ bcX5_readFalse_0_ok rfl)
theorem dX5_readFalse_23 : decode cX5_readFalse 23 = .ok (.getfield 31, 3) := zo_180 (z_byk bcX5_readFalse_0 0 23 _ bcX5_readFalse_0_ok rfl) (z_byk bcX5_readFalse_0 0 24 _ bcX5_readFalse_0_ok rfl) (z_byk bcX5_readFalse_0 0 25 _ bcX5_readFalse_0_ok rfl) rfl
theorem dX5_readFalse_26 : decode cX5_readFalse 26 = .ok (.aload_n 0, 1) := zo_42 (z_byk bcX5_readFalse_0 0 26 _ bcX5_readFalse_0_ok rfl)
theorem dX5_readFalse_27 : decode cX5_readFalse 27 = .ok (.iconst 0, 1) := zo_3 (z_byk bcX5_readFalse_0 0 27 _ bcX5_readFalse_0_ok rfl)
theorem dX5_readFalse_28 : decode cX5_readFalse 28 = .ok (.bipush 9, 2) := zo_16 (z_byk bcX5_readFalse_0 0 28 _ bcX5_readFalse_0_ok rfl) (z_byk bcX5_readFalse_0 0 29 _ bcX5_readFalse_0_ok rfl) rfl
theorem dX5_readFalse_30 : decode cX5_readFalse 30 = .ok (.invokevirtual 115, 3) := zo_182 (z_byk bcX5_readFalse_0 0 30 _ bcX5_readFalse_0_ok rfl) (z_byk bcX5_readFalse_0 0 31 _ bcX5_readFalse_0_ok rfl) (z_byk bcX5_readFalse_0 0 32 _ bcX5_readFalse_0_ok rfl) rfl
theorem dX5_readFalse_33 : decode cX5_readFalse 33 = .ok (.putfield 219, 3) := zo_181 (z_byk bcX5_readFalse_0 0 33 _ bcX5_readFalse_0_ok rfl) (z_byk bcX5_readFalse_0 0 34 _ bcX5_readFalse_0_ok rfl) (z_byk bcX5_readFalse_0 0 35 _ bcX5_readFalse_0_ok rfl) rfl
theorem dX5_readFalse_36 : decode cX5_readFalse 36 = .ok (.return_, 1) := zo_177 (z_byk bcX5_readFalse_0 0 36 _ bcX5_readFalse_0_ok rfl)
theorem dX5_readFalse_4 : decode cX5_readFalse 4 = .ok (.ifCond .eq 9, 3) := zo_153 (z_byk bcX5_readFalse_0 0 4 _ bcX5_readFalse_0_ok rfl) (z_byk bcX5_readFalse_0 0 5 _ bcX5_readFalse_0_ok rfl) (z_byk bcX5_readFalse_0 0 6 _ bcX5_readFalse_0_ok rfl) rfl
theorem dX5_readFalse_7 : decode cX5_readFalse 7 = .ok (.aload_n 0, 1) := zo_42 (z_byk bcX5_readFalse_0 0 7 _ bcX5_readFalse_0_ok rfl)
theorem dX5_readFalse_8 : decode cX5_readFalse 8 = .ok (.iconst 2, 1) := zo_5 (z_byk bcX5_readFalse_0 0 8 _ bcX5_readFalse_0_ok rfl)
theorem dX5_readFalse_9 : decode cX5_readFalse 9 = .ok (.invokevirtual 109, 3) := zo_182 (z_byk bcX5_readFalse_0 0 9 _ bcX5_readFalse_0_ok rfl) (z_byk bcX5_readFalse_0 0 10 _ bcX5_readFalse_0_ok rfl) (z_byk bcX5_readFalse_0 0 11 _ bcX5_readFalse_0_ok rfl) rfl
def bcX5_readHours_0 : List Nat := [42, 18, 149, 182, 0, 150, 42, 18, 154, 182, 0, 150, 42, 180, 0, 31, 42, 4, 16, 48, 182, 0, 115, 181, 0, 156, 42, 180, 0, 31, 4, 181, 0, 83, 42, 180, 0, 31, 4, 181, 0, 89, 177]
theorem bcX5_readHours_0_ok : z_bys cX5_readHours 0 bcX5_readHours_0 = true := by decide +kernel
theorem dX5_readHours_0 : decode cX5_readHours 0 = .ok (.aload_n 0, 1) := zo_42 (z_byk bcX5_readHours_0 0 0 _ bcX5_readHours_0_ok rfl)
theorem dX5_readHours_1 : decode cX5_readHours 1 = .ok (.ldc 149, 2) := zo_18 (z_byk bcX5_readHours_0 0 1 _ bcX5_readHours_0_ok rfl) (z_byk bcX5_readHours_0 0 2 _ bcX5_readHours_0_ok rfl)
theorem dX5_readHours_12 : decode cX5_readHours 12 = .ok (.aload_n 0, 1) := zo_42 (z_byk bcX5_readHours_0 0 12 _ bcX5_readHours_0_ok rfl)
theorem dX5_readHours_13 : decode cX5_readHours 13 = .ok (.getfield 31, 3) := zo_180 (z_byk bcX5_readHours_0 0 13 _ bcX5_readHours_0_ok rfl) (z_byk bcX5_readHours_0 0 14 _ bcX5_readHours_0_ok rfl) (z_byk bcX5_readHours_0 0 15 _ bcX5_readHours_0_ok rfl) rfl
theorem dX5_readHours_16 : decode cX5_readHours 16 = .ok (.aload_n 0, 1) := zo_42 (z_byk bcX5_readHours_0 0 16 _ bcX5_readHours_0_ok rfl)
theorem dX5_readHours_17 : decode cX5_readHours 17 = .ok (.iconst 1, 1) := zo_4 (z_byk bcX5_readHours_0 0 17 _ bcX5_readHours_0_ok rfl)
theorem dX5_readHours_18 : decode cX5_readHours 18 = .ok (.bipush 48, 2) := zo_16 (z_byk bcX5_readHours_0 0 18 _ bcX5_readHours_0_ok rfl) (z_byk bcX5_readHours_0 0 19 _ bcX5_readHours_0_ok rfl) rfl
theorem dX5_readHours_20 : decode cX5_readHours 20 = .ok (.invokevirtual 115, 3) := zo_182 (z_byk bcX5_readHours_0 0 20 _ bcX5_readHours_0_ok rfl) (z_byk bcX5_readHours_0 0 21 _ bcX5_readHours_0_ok rfl) (z_byk bcX5_readHours_0 0 22 _ bcX5_readHours_0_ok rfl) rfl
theorem dX5_readHours_23 : decode cX5_readHours 23 = .ok (.putfield 156, 3) := zo_181 (z_byk bcX5_readHours_0 0 23 _ bcX5_readHours_0_ok rfl) (z_byk bcX5_readHours_0 0 24 _ bcX5_readHours_0_ok rfl) (z_byk bcX5_readHours_0 0 25 _ bcX5_readHours_0_ok rfl) rfl
theorem dX5_readHours_26 : decode cX5_readHours 26 = .ok (.aload_n 0, 1) := zo_42 (z_byk bcX5_readHours_0 0 26 _ bcX5_readHours_0_ok rfl)
theorem dX5_readHours_27 : decode cX5_readHours 27 = .ok (.getfield 31, 3) := zo_180 (z_byk bcX5_readHours_0 0 27 _ bcX5_readHours_0_ok rfl) (z_byk bcX5_readHours_0 0 28 _ bcX5_readHours_0_ok rfl) (z_byk bcX5_readHours_0 0 29 _ bcX5_readHours_0_ok rfl) rfl
theorem dX5_readHours_3 : decode cX5_readHours 3 = .ok (.invokevirtual 150, 3) := zo_182 (z_byk bcX5_readHours_0 0 3 _ bcX5_readHours_0_ok rfl) (z_byk bcX5_readHours_0 0 4 _ bcX5_readHours_0_ok rfl) (z_byk bcX5_readHours_0 0 5 _ bcX5_readHours_0_ok rfl) rfl
theorem dX5_readHours_30 : decode cX5_readHours 30 = .ok (.iconst 1, 1) := zo_4 (z_byk bcX5_readHours_0 0 30 _ bcX5_readHours_0_ok rfl)
theorem dX5_readHours_31 : decode cX5_readHours 31 = .ok (.putfield 83, 3) := zo_181 (z_byk bcX5_readHours_0 0 31 _ bcX5_readHours_0_ok rfl) (z_byk bcX5_readHours_0 0 32 _ bcX5_readHours_0_ok rfl) (z_byk bcX5_readHours_0 0 33 _ bcX5_readHours_0_ok rfl) rfl
theorem dX5_readHours_34 : decode cX5_readHours 34 = .ok (.aload_n 0, 1) := zo_42 (z_byk bcX5_readHours_0 0 34 _ bcX5_readHours_0_ok rfl)
theorem dX5_readHours_35 : decode cX5_readHours 35 = .ok (.getfield 31, 3) := zo_180 (z_byk bcX5_readHours_0 0 35 _ bcX5_readHours_0_ok rfl) (z_byk bcX5_readHours_0 0 36 _ bcX5_readHours_0_ok rfl) (z_byk bcX5_readHours_0 0 37 _ bcX5_readHours_0_ok rfl) rfl
theorem dX5_readHours_38 : decode cX5_readHours 38 = .ok (.iconst 1, 1) := zo_4 (z_byk bcX5_readHours_0 0 38 _ bcX5_readHours_0_ok rfl)
theorem dX5_readHours_39 : decode cX5_readHours 39 = .ok (.putfield 89, 3) := zo_181 (z_byk bcX5_readHours_0 0 39 _ bcX5_readHours_0_ok rfl) (z_byk bcX5_readHours_0 0 40 _ bcX5_readHours_0_ok rfl) (z_byk bcX5_readHours_0 0 41 _ bcX5_readHours_0_ok rfl) rfl
theorem dX5_readHours_42 : decode cX5_readHours 42 = .ok (.return_, 1) := zo_177 (z_byk bcX5_readHours_0 0 42 _ bcX5_readHours_0_ok rfl)
theorem dX5_readHours_6 : decode cX5_readHours 6 = .ok (.aload_n 0, 1) := zo_42 (z_byk bcX5_readHours_0 0 6 _ bcX5_readHours_0_ok rfl)
theorem dX5_readHours_7 : decode cX5_readHours 7 = .ok (.ldc 154, 2) := zo_18 (z_byk bcX5_readHours_0 0 7 _ bcX5_readHours_0_ok rfl) (z_byk bcX5_readHours_0 0 8 _ bcX5_readHours_0_ok rfl)
theorem dX5_readHours_9 : decode cX5_readHours 9 = .ok (.invokevirtual 150, 3) := zo_182 (z_byk bcX5_readHours_0 0 9 _ bcX5_readHours_0_ok rfl) (z_byk bcX5_readHours_0 0 10 _ bcX5_readHours_0_ok rfl) (z_byk bcX5_readHours_0 0 11 _ bcX5_readHours_0_ok rfl) rfl
def bcX5_readLaw_0 : List Nat := [42, 180, 0, 58, 153, 0, 9, 42, 5, 182, 0, 109, 177, 42, 4, 181, 0, 58, 42, 182, 0, 112, 42, 180, 0, 31, 42, 18, 216, 182, 0, 105, 181, 0, 89, 42, 180, 0, 31, 180, 0, 89, 154, 0, 12, 42, 18, 217, 182, 0, 105, 153, 0, 10, 42, 182, 0, 112, 167, 0]
theorem bcX5_readLaw_0_ok : z_bys cX5_readLaw 0 bcX5_readLaw_0 = true := by decide +kernel
def bcX5_readLaw_60 : List Nat := [8, 42, 4, 182, 0, 109, 177]
theorem bcX5_readLaw_60_ok : z_bys cX5_readLaw 60 bcX5_readLaw_60 = true := by decide +kernel
theorem dX5_readLaw_0 : decode cX5_readLaw 0 = .ok (.aload_n 0, 1) := zo_42 (z_byk bcX5_readLaw_0 0 0 _ bcX5_readLaw_0_ok rfl)
theorem dX5_readLaw_1 : decode cX5_readLaw 1 = .ok (.getfield 58, 3) := zo_180 (z_byk bcX5_readLaw_0 0 1 _ bcX5_readLaw_0_ok rfl) (z_byk bcX5_readLaw_0 0 2 _ bcX5_readLaw_0_ok rfl) (z_byk bcX5_readLaw_0 0 3 _ bcX5_readLaw_0_ok rfl) rfl
theorem dX5_readLaw_12 : decode cX5_readLaw 12 = .ok (.return_, 1) := zo_177 (z_byk bcX5_readLaw_0 0 12 _ bcX5_readLaw_0_ok rfl)
theorem dX5_readLaw_13 : decode cX5_readLaw 13 = .ok (.aload_n 0, 1) := zo_42 (z_byk bcX5_readLaw_0 0 13 _ bcX5_readLaw_0_ok rfl)
theorem dX5_readLaw_14 : decode cX5_readLaw 14 = .ok (.iconst 1, 1) := zo_4 (z_byk bcX5_readLaw_0 0 14 _ bcX5_readLaw_0_ok rfl)
theorem dX5_readLaw_15 : decode cX5_readLaw 15 = .ok (.putfield 58, 3) := zo_181 (z_byk bcX5_readLaw_0 0 15 _ bcX5_readLaw_0_ok rfl) (z_byk bcX5_readLaw_0 0 16 _ bcX5_readLaw_0_ok rfl) (z_byk bcX5_readLaw_0 0 17 _ bcX5_readLaw_0_ok rfl) rfl
theorem dX5_readLaw_18 : decode cX5_readLaw 18 = .ok (.aload_n 0, 1) := zo_42 (z_byk bcX5_readLaw_0 0 18 _ bcX5_readLaw_0_ok rfl)
theorem dX5_readLaw_19 : decode cX5_readLaw 19 = .ok (.invokevirtual 112, 3) := zo_182 (z_byk bcX5_readLaw_0 0 19 _ bcX5_readLaw_0_ok rfl) (z_byk bcX5_readLaw_0 0 20 _ bcX5_readLaw_0_ok rfl) (z_byk bcX5_readLaw_0 0 21 _ bcX5_readLaw_0_ok rfl) rfl
theorem dX5_readLaw_22 : decode cX5_readLaw 22 = .ok (.aload_n 0, 1) := zo_42 (z_byk bcX5_readLaw_0 0 22 _ bcX5_readLaw_0_ok rfl)
theorem dX5_readLaw_23 : decode cX5_readLaw 23 = .ok (.getfield 31, 3) := zo_180 (z_byk bcX5_readLaw_0 0 23 _ bcX5_readLaw_0_ok rfl) (z_byk bcX5_readLaw_0 0 24 _ bcX5_readLaw_0_ok rfl) (z_byk bcX5_readLaw_0 0 25 _ bcX5_readLaw_0_ok rfl) rfl
theorem dX5_readLaw_26 : decode cX5_readLaw 26 = .ok (.aload_n 0, 1) := zo_42 (z_byk bcX5_readLaw_0 0 26 _ bcX5_readLaw_0_ok rfl)
theorem dX5_readLaw_27 : decode cX5_readLaw 27 = .ok (.ldc 216, 2) := zo_18 (z_byk bcX5_readLaw_0 0 27 _ bcX5_readLaw_0_ok rfl) (z_byk bcX5_readLaw_0 0 28 _ bcX5_readLaw_0_ok rfl)
theorem dX5_readLaw_29 : decode cX5_readLaw 29 = .ok (.invokevirtual 105, 3) := zo_182 (z_byk bcX5_readLaw_0 0 29 _ bcX5_readLaw_0_ok rfl) (z_byk bcX5_readLaw_0 0 30 _ bcX5_readLaw_0_ok rfl) (z_byk bcX5_readLaw_0 0 31 _ bcX5_readLaw_0_ok rfl) rfl
theorem dX5_readLaw_32 : decode cX5_readLaw 32 = .ok (.putfield 89, 3) := zo_181 (z_byk bcX5_readLaw_0 0 32 _ bcX5_readLaw_0_ok rfl) (z_byk bcX5_readLaw_0 0 33 _ bcX5_readLaw_0_ok rfl) (z_byk bcX5_readLaw_0 0 34 _ bcX5_readLaw_0_ok rfl) rfl
theorem dX5_readLaw_35 : decode cX5_readLaw 35 = .ok (.aload_n 0, 1) := zo_42 (z_byk bcX5_readLaw_0 0 35 _ bcX5_readLaw_0_ok rfl)
theorem dX5_readLaw_36 : decode cX5_readLaw 36 = .ok (.getfield 31, 3) := zo_180 (z_byk bcX5_readLaw_0 0 36 _ bcX5_readLaw_0_ok rfl) (z_byk bcX5_readLaw_0 0 37 _ bcX5_readLaw_0_ok rfl) (z_byk bcX5_readLaw_0 0 38 _ bcX5_readLaw_0_ok rfl) rfl
theorem dX5_readLaw_39 : decode cX5_readLaw 39 = .ok (.getfield 89, 3) := zo_180 (z_byk bcX5_readLaw_0 0 39 _ bcX5_readLaw_0_ok rfl) (z_byk bcX5_readLaw_0 0 40 _ bcX5_readLaw_0_ok rfl) (z_byk bcX5_readLaw_0 0 41 _ bcX5_readLaw_0_ok rfl) rfl
theorem dX5_readLaw_4 : decode cX5_readLaw 4 = .ok (.ifCond .eq 9, 3) := zo_153 (z_byk bcX5_readLaw_0 0 4 _ bcX5_readLaw_0_ok rfl) (z_byk bcX5_readLaw_0 0 5 _ bcX5_readLaw_0_ok rfl) (z_byk bcX5_readLaw_0 0 6 _ bcX5_readLaw_0_ok rfl) rfl
theorem dX5_readLaw_42 : decode cX5_readLaw 42 = .ok (.ifCond .ne 12, 3) := zo_154 (z_byk bcX5_readLaw_0 0 42 _ bcX5_readLaw_0_ok rfl) (z_byk bcX5_readLaw_0 0 43 _ bcX5_readLaw_0_ok rfl) (z_byk bcX5_readLaw_0 0 44 _ bcX5_readLaw_0_ok rfl) rfl
theorem dX5_readLaw_45 : decode cX5_readLaw 45 = .ok (.aload_n 0, 1) := zo_42 (z_byk bcX5_readLaw_0 0 45 _ bcX5_readLaw_0_ok rfl)
theorem dX5_readLaw_46 : decode cX5_readLaw 46 = .ok (.ldc 217, 2) := zo_18 (z_byk bcX5_readLaw_0 0 46 _ bcX5_readLaw_0_ok rfl) (z_byk bcX5_readLaw_0 0 47 _ bcX5_readLaw_0_ok rfl)
theorem dX5_readLaw_48 : decode cX5_readLaw 48 = .ok (.invokevirtual 105, 3) := zo_182 (z_byk bcX5_readLaw_0 0 48 _ bcX5_readLaw_0_ok rfl) (z_byk bcX5_readLaw_0 0 49 _ bcX5_readLaw_0_ok rfl) (z_byk bcX5_readLaw_0 0 50 _ bcX5_readLaw_0_ok rfl) rfl
theorem dX5_readLaw_51 : decode cX5_readLaw 51 = .ok (.ifCond .eq 10, 3) := zo_153 (z_byk bcX5_readLaw_0 0 51 _ bcX5_readLaw_0_ok rfl) (z_byk bcX5_readLaw_0 0 52 _ bcX5_readLaw_0_ok rfl) (z_byk bcX5_readLaw_0 0 53 _ bcX5_readLaw_0_ok rfl) rfl
theorem dX5_readLaw_54 : decode cX5_readLaw 54 = .ok (.aload_n 0, 1) := zo_42 (z_byk bcX5_readLaw_0 0 54 _ bcX5_readLaw_0_ok rfl)
theorem dX5_readLaw_55 : decode cX5_readLaw 55 = .ok (.invokevirtual 112, 3) := zo_182 (z_byk bcX5_readLaw_0 0 55 _ bcX5_readLaw_0_ok rfl) (z_byk bcX5_readLaw_0 0 56 _ bcX5_readLaw_0_ok rfl) (z_byk bcX5_readLaw_0 0 57 _ bcX5_readLaw_0_ok rfl) rfl
theorem dX5_readLaw_58 : decode cX5_readLaw 58 = .ok (.goto 8, 3) := zo_167 (z_byk bcX5_readLaw_0 0 58 _ bcX5_readLaw_0_ok rfl) (z_byk bcX5_readLaw_0 0 59 _ bcX5_readLaw_0_ok rfl) (z_byk bcX5_readLaw_60 60 0 _ bcX5_readLaw_60_ok rfl) rfl
theorem dX5_readLaw_61 : decode cX5_readLaw 61 = .ok (.aload_n 0, 1) := zo_42 (z_byk bcX5_readLaw_60 60 1 _ bcX5_readLaw_60_ok rfl)
theorem dX5_readLaw_62 : decode cX5_readLaw 62 = .ok (.iconst 1, 1) := zo_4 (z_byk bcX5_readLaw_60 60 2 _ bcX5_readLaw_60_ok rfl)
theorem dX5_readLaw_63 : decode cX5_readLaw 63 = .ok (.invokevirtual 109, 3) := zo_182 (z_byk bcX5_readLaw_60 60 3 _ bcX5_readLaw_60_ok rfl) (z_byk bcX5_readLaw_60 60 4 _ bcX5_readLaw_60_ok rfl) (z_byk bcX5_readLaw_60 60 5 _ bcX5_readLaw_60_ok rfl) rfl
theorem dX5_readLaw_66 : decode cX5_readLaw 66 = .ok (.return_, 1) := zo_177 (z_byk bcX5_readLaw_60 60 6 _ bcX5_readLaw_60_ok rfl)
theorem dX5_readLaw_7 : decode cX5_readLaw 7 = .ok (.aload_n 0, 1) := zo_42 (z_byk bcX5_readLaw_0 0 7 _ bcX5_readLaw_0_ok rfl)
theorem dX5_readLaw_8 : decode cX5_readLaw 8 = .ok (.iconst 2, 1) := zo_5 (z_byk bcX5_readLaw_0 0 8 _ bcX5_readLaw_0_ok rfl)
theorem dX5_readLaw_9 : decode cX5_readLaw 9 = .ok (.invokevirtual 109, 3) := zo_182 (z_byk bcX5_readLaw_0 0 9 _ bcX5_readLaw_0_ok rfl) (z_byk bcX5_readLaw_0 0 10 _ bcX5_readLaw_0_ok rfl) (z_byk bcX5_readLaw_0 0 11 _ bcX5_readLaw_0_ok rfl) rfl
def bcX5_readStrays_0 : List Nat := [42, 180, 0, 55, 7, 161, 0, 9, 42, 5, 182, 0, 109, 177, 42, 89, 180, 0, 55, 4, 96, 181, 0, 55, 42, 182, 0, 112, 42, 180, 0, 31, 89, 180, 0, 207, 4, 42, 180, 0, 31, 180, 0, 190, 120, 128, 181, 0, 207, 42, 180, 0, 31, 180, 0, 210, 42, 180, 0, 31]
theorem bcX5_readStrays_0_ok : z_bys cX5_readStrays 0 bcX5_readStrays_0 = true := by decide +kernel
def bcX5_readStrays_60 : List Nat := [180, 0, 190, 42, 4, 16, 99, 182, 0, 115, 79, 42, 18, 166, 182, 0, 150, 42, 180, 0, 31, 180, 0, 213, 42, 180, 0, 31, 180, 0, 190, 42, 182, 0, 160, 79, 177]
theorem bcX5_readStrays_60_ok : z_bys cX5_readStrays 60 bcX5_readStrays_60 = true := by decide +kernel
theorem dX5_readStrays_0 : decode cX5_readStrays 0 = .ok (.aload_n 0, 1) := zo_42 (z_byk bcX5_readStrays_0 0 0 _ bcX5_readStrays_0_ok rfl)
theorem dX5_readStrays_1 : decode cX5_readStrays 1 = .ok (.getfield 55, 3) := zo_180 (z_byk bcX5_readStrays_0 0 1 _ bcX5_readStrays_0_ok rfl) (z_byk bcX5_readStrays_0 0 2 _ bcX5_readStrays_0_ok rfl) (z_byk bcX5_readStrays_0 0 3 _ bcX5_readStrays_0_ok rfl) rfl
theorem dX5_readStrays_10 : decode cX5_readStrays 10 = .ok (.invokevirtual 109, 3) := zo_182 (z_byk bcX5_readStrays_0 0 10 _ bcX5_readStrays_0_ok rfl) (z_byk bcX5_readStrays_0 0 11 _ bcX5_readStrays_0_ok rfl) (z_byk bcX5_readStrays_0 0 12 _ bcX5_readStrays_0_ok rfl) rfl
theorem dX5_readStrays_13 : decode cX5_readStrays 13 = .ok (.return_, 1) := zo_177 (z_byk bcX5_readStrays_0 0 13 _ bcX5_readStrays_0_ok rfl)
theorem dX5_readStrays_14 : decode cX5_readStrays 14 = .ok (.aload_n 0, 1) := zo_42 (z_byk bcX5_readStrays_0 0 14 _ bcX5_readStrays_0_ok rfl)
theorem dX5_readStrays_15 : decode cX5_readStrays 15 = .ok (.dup, 1) := zo_89 (z_byk bcX5_readStrays_0 0 15 _ bcX5_readStrays_0_ok rfl)
theorem dX5_readStrays_16 : decode cX5_readStrays 16 = .ok (.getfield 55, 3) := zo_180 (z_byk bcX5_readStrays_0 0 16 _ bcX5_readStrays_0_ok rfl) (z_byk bcX5_readStrays_0 0 17 _ bcX5_readStrays_0_ok rfl) (z_byk bcX5_readStrays_0 0 18 _ bcX5_readStrays_0_ok rfl) rfl
theorem dX5_readStrays_19 : decode cX5_readStrays 19 = .ok (.iconst 1, 1) := zo_4 (z_byk bcX5_readStrays_0 0 19 _ bcX5_readStrays_0_ok rfl)
theorem dX5_readStrays_20 : decode cX5_readStrays 20 = .ok (.iadd, 1) := zo_96 (z_byk bcX5_readStrays_0 0 20 _ bcX5_readStrays_0_ok rfl)
theorem dX5_readStrays_21 : decode cX5_readStrays 21 = .ok (.putfield 55, 3) := zo_181 (z_byk bcX5_readStrays_0 0 21 _ bcX5_readStrays_0_ok rfl) (z_byk bcX5_readStrays_0 0 22 _ bcX5_readStrays_0_ok rfl) (z_byk bcX5_readStrays_0 0 23 _ bcX5_readStrays_0_ok rfl) rfl
theorem dX5_readStrays_24 : decode cX5_readStrays 24 = .ok (.aload_n 0, 1) := zo_42 (z_byk bcX5_readStrays_0 0 24 _ bcX5_readStrays_0_ok rfl)
theorem dX5_readStrays_25 : decode cX5_readStrays 25 = .ok (.invokevirtual 112, 3) := zo_182 (z_byk bcX5_readStrays_0 0 25 _ bcX5_readStrays_0_ok rfl) (z_byk bcX5_readStrays_0 0 26 _ bcX5_readStrays_0_ok rfl) (z_byk bcX5_readStrays_0 0 27 _ bcX5_readStrays_0_ok rfl) rfl
theorem dX5_readStrays_28 : decode cX5_readStrays 28 = .ok (.aload_n 0, 1) := zo_42 (z_byk bcX5_readStrays_0 0 28 _ bcX5_readStrays_0_ok rfl)
theorem dX5_readStrays_29 : decode cX5_readStrays 29 = .ok (.getfield 31, 3) := zo_180 (z_byk bcX5_readStrays_0 0 29 _ bcX5_readStrays_0_ok rfl) (z_byk bcX5_readStrays_0 0 30 _ bcX5_readStrays_0_ok rfl) (z_byk bcX5_readStrays_0 0 31 _ bcX5_readStrays_0_ok rfl) rfl
theorem dX5_readStrays_32 : decode cX5_readStrays 32 = .ok (.dup, 1) := zo_89 (z_byk bcX5_readStrays_0 0 32 _ bcX5_readStrays_0_ok rfl)
theorem dX5_readStrays_33 : decode cX5_readStrays 33 = .ok (.getfield 207, 3) := zo_180 (z_byk bcX5_readStrays_0 0 33 _ bcX5_readStrays_0_ok rfl) (z_byk bcX5_readStrays_0 0 34 _ bcX5_readStrays_0_ok rfl) (z_byk bcX5_readStrays_0 0 35 _ bcX5_readStrays_0_ok rfl) rfl
theorem dX5_readStrays_36 : decode cX5_readStrays 36 = .ok (.iconst 1, 1) := zo_4 (z_byk bcX5_readStrays_0 0 36 _ bcX5_readStrays_0_ok rfl)
theorem dX5_readStrays_37 : decode cX5_readStrays 37 = .ok (.aload_n 0, 1) := zo_42 (z_byk bcX5_readStrays_0 0 37 _ bcX5_readStrays_0_ok rfl)
theorem dX5_readStrays_38 : decode cX5_readStrays 38 = .ok (.getfield 31, 3) := zo_180 (z_byk bcX5_readStrays_0 0 38 _ bcX5_readStrays_0_ok rfl) (z_byk bcX5_readStrays_0 0 39 _ bcX5_readStrays_0_ok rfl) (z_byk bcX5_readStrays_0 0 40 _ bcX5_readStrays_0_ok rfl) rfl
theorem dX5_readStrays_4 : decode cX5_readStrays 4 = .ok (.iconst 4, 1) := zo_7 (z_byk bcX5_readStrays_0 0 4 _ bcX5_readStrays_0_ok rfl)
theorem dX5_readStrays_41 : decode cX5_readStrays 41 = .ok (.getfield 190, 3) := zo_180 (z_byk bcX5_readStrays_0 0 41 _ bcX5_readStrays_0_ok rfl) (z_byk bcX5_readStrays_0 0 42 _ bcX5_readStrays_0_ok rfl) (z_byk bcX5_readStrays_0 0 43 _ bcX5_readStrays_0_ok rfl) rfl
theorem dX5_readStrays_44 : decode cX5_readStrays 44 = .ok (.ishl, 1) := zo_120 (z_byk bcX5_readStrays_0 0 44 _ bcX5_readStrays_0_ok rfl)
theorem dX5_readStrays_45 : decode cX5_readStrays 45 = .ok (.ior, 1) := zo_128 (z_byk bcX5_readStrays_0 0 45 _ bcX5_readStrays_0_ok rfl)
theorem dX5_readStrays_46 : decode cX5_readStrays 46 = .ok (.putfield 207, 3) := zo_181 (z_byk bcX5_readStrays_0 0 46 _ bcX5_readStrays_0_ok rfl) (z_byk bcX5_readStrays_0 0 47 _ bcX5_readStrays_0_ok rfl) (z_byk bcX5_readStrays_0 0 48 _ bcX5_readStrays_0_ok rfl) rfl
theorem dX5_readStrays_49 : decode cX5_readStrays 49 = .ok (.aload_n 0, 1) := zo_42 (z_byk bcX5_readStrays_0 0 49 _ bcX5_readStrays_0_ok rfl)
theorem dX5_readStrays_5 : decode cX5_readStrays 5 = .ok (.if_icmp .lt 9, 3) := zo_161 (z_byk bcX5_readStrays_0 0 5 _ bcX5_readStrays_0_ok rfl) (z_byk bcX5_readStrays_0 0 6 _ bcX5_readStrays_0_ok rfl) (z_byk bcX5_readStrays_0 0 7 _ bcX5_readStrays_0_ok rfl) rfl
theorem dX5_readStrays_50 : decode cX5_readStrays 50 = .ok (.getfield 31, 3) := zo_180 (z_byk bcX5_readStrays_0 0 50 _ bcX5_readStrays_0_ok rfl) (z_byk bcX5_readStrays_0 0 51 _ bcX5_readStrays_0_ok rfl) (z_byk bcX5_readStrays_0 0 52 _ bcX5_readStrays_0_ok rfl) rfl
theorem dX5_readStrays_53 : decode cX5_readStrays 53 = .ok (.getfield 210, 3) := zo_180 (z_byk bcX5_readStrays_0 0 53 _ bcX5_readStrays_0_ok rfl) (z_byk bcX5_readStrays_0 0 54 _ bcX5_readStrays_0_ok rfl) (z_byk bcX5_readStrays_0 0 55 _ bcX5_readStrays_0_ok rfl) rfl
theorem dX5_readStrays_56 : decode cX5_readStrays 56 = .ok (.aload_n 0, 1) := zo_42 (z_byk bcX5_readStrays_0 0 56 _ bcX5_readStrays_0_ok rfl)
theorem dX5_readStrays_57 : decode cX5_readStrays 57 = .ok (.getfield 31, 3) := zo_180 (z_byk bcX5_readStrays_0 0 57 _ bcX5_readStrays_0_ok rfl) (z_byk bcX5_readStrays_0 0 58 _ bcX5_readStrays_0_ok rfl) (z_byk bcX5_readStrays_0 0 59 _ bcX5_readStrays_0_ok rfl) rfl
theorem dX5_readStrays_60 : decode cX5_readStrays 60 = .ok (.getfield 190, 3) := zo_180 (z_byk bcX5_readStrays_60 60 0 _ bcX5_readStrays_60_ok rfl) (z_byk bcX5_readStrays_60 60 1 _ bcX5_readStrays_60_ok rfl) (z_byk bcX5_readStrays_60 60 2 _ bcX5_readStrays_60_ok rfl) rfl
theorem dX5_readStrays_63 : decode cX5_readStrays 63 = .ok (.aload_n 0, 1) := zo_42 (z_byk bcX5_readStrays_60 60 3 _ bcX5_readStrays_60_ok rfl)
theorem dX5_readStrays_64 : decode cX5_readStrays 64 = .ok (.iconst 1, 1) := zo_4 (z_byk bcX5_readStrays_60 60 4 _ bcX5_readStrays_60_ok rfl)
theorem dX5_readStrays_65 : decode cX5_readStrays 65 = .ok (.bipush 99, 2) := zo_16 (z_byk bcX5_readStrays_60 60 5 _ bcX5_readStrays_60_ok rfl) (z_byk bcX5_readStrays_60 60 6 _ bcX5_readStrays_60_ok rfl) rfl
theorem dX5_readStrays_67 : decode cX5_readStrays 67 = .ok (.invokevirtual 115, 3) := zo_182 (z_byk bcX5_readStrays_60 60 7 _ bcX5_readStrays_60_ok rfl) (z_byk bcX5_readStrays_60 60 8 _ bcX5_readStrays_60_ok rfl) (z_byk bcX5_readStrays_60 60 9 _ bcX5_readStrays_60_ok rfl) rfl
theorem dX5_readStrays_70 : decode cX5_readStrays 70 = .ok (.iastore, 1) := zo_79 (z_byk bcX5_readStrays_60 60 10 _ bcX5_readStrays_60_ok rfl)
theorem dX5_readStrays_71 : decode cX5_readStrays 71 = .ok (.aload_n 0, 1) := zo_42 (z_byk bcX5_readStrays_60 60 11 _ bcX5_readStrays_60_ok rfl)
theorem dX5_readStrays_72 : decode cX5_readStrays 72 = .ok (.ldc 166, 2) := zo_18 (z_byk bcX5_readStrays_60 60 12 _ bcX5_readStrays_60_ok rfl) (z_byk bcX5_readStrays_60 60 13 _ bcX5_readStrays_60_ok rfl)
theorem dX5_readStrays_74 : decode cX5_readStrays 74 = .ok (.invokevirtual 150, 3) := zo_182 (z_byk bcX5_readStrays_60 60 14 _ bcX5_readStrays_60_ok rfl) (z_byk bcX5_readStrays_60 60 15 _ bcX5_readStrays_60_ok rfl) (z_byk bcX5_readStrays_60 60 16 _ bcX5_readStrays_60_ok rfl) rfl
theorem dX5_readStrays_77 : decode cX5_readStrays 77 = .ok (.aload_n 0, 1) := zo_42 (z_byk bcX5_readStrays_60 60 17 _ bcX5_readStrays_60_ok rfl)
theorem dX5_readStrays_78 : decode cX5_readStrays 78 = .ok (.getfield 31, 3) := zo_180 (z_byk bcX5_readStrays_60 60 18 _ bcX5_readStrays_60_ok rfl) (z_byk bcX5_readStrays_60 60 19 _ bcX5_readStrays_60_ok rfl) (z_byk bcX5_readStrays_60 60 20 _ bcX5_readStrays_60_ok rfl) rfl
theorem dX5_readStrays_8 : decode cX5_readStrays 8 = .ok (.aload_n 0, 1) := zo_42 (z_byk bcX5_readStrays_0 0 8 _ bcX5_readStrays_0_ok rfl)
theorem dX5_readStrays_81 : decode cX5_readStrays 81 = .ok (.getfield 213, 3) := zo_180 (z_byk bcX5_readStrays_60 60 21 _ bcX5_readStrays_60_ok rfl) (z_byk bcX5_readStrays_60 60 22 _ bcX5_readStrays_60_ok rfl) (z_byk bcX5_readStrays_60 60 23 _ bcX5_readStrays_60_ok rfl) rfl
theorem dX5_readStrays_84 : decode cX5_readStrays 84 = .ok (.aload_n 0, 1) := zo_42 (z_byk bcX5_readStrays_60 60 24 _ bcX5_readStrays_60_ok rfl)
theorem dX5_readStrays_85 : decode cX5_readStrays 85 = .ok (.getfield 31, 3) := zo_180 (z_byk bcX5_readStrays_60 60 25 _ bcX5_readStrays_60_ok rfl) (z_byk bcX5_readStrays_60 60 26 _ bcX5_readStrays_60_ok rfl) (z_byk bcX5_readStrays_60 60 27 _ bcX5_readStrays_60_ok rfl) rfl
theorem dX5_readStrays_88 : decode cX5_readStrays 88 = .ok (.getfield 190, 3) := zo_180 (z_byk bcX5_readStrays_60 60 28 _ bcX5_readStrays_60_ok rfl) (z_byk bcX5_readStrays_60 60 29 _ bcX5_readStrays_60_ok rfl) (z_byk bcX5_readStrays_60 60 30 _ bcX5_readStrays_60_ok rfl) rfl
theorem dX5_readStrays_9 : decode cX5_readStrays 9 = .ok (.iconst 2, 1) := zo_5 (z_byk bcX5_readStrays_0 0 9 _ bcX5_readStrays_0_ok rfl)
theorem dX5_readStrays_91 : decode cX5_readStrays 91 = .ok (.aload_n 0, 1) := zo_42 (z_byk bcX5_readStrays_60 60 31 _ bcX5_readStrays_60_ok rfl)
theorem dX5_readStrays_92 : decode cX5_readStrays 92 = .ok (.invokevirtual 160, 3) := zo_182 (z_byk bcX5_readStrays_60 60 32 _ bcX5_readStrays_60_ok rfl) (z_byk bcX5_readStrays_60 60 33 _ bcX5_readStrays_60_ok rfl) (z_byk bcX5_readStrays_60 60 34 _ bcX5_readStrays_60_ok rfl) rfl
theorem dX5_readStrays_95 : decode cX5_readStrays 95 = .ok (.iastore, 1) := zo_79 (z_byk bcX5_readStrays_60 60 35 _ bcX5_readStrays_60_ok rfl)
theorem dX5_readStrays_96 : decode cX5_readStrays 96 = .ok (.return_, 1) := zo_177 (z_byk bcX5_readStrays_60 60 36 _ bcX5_readStrays_60_ok rfl)
def bcX5_showPlaces_0 : List Nat := [3, 60, 27, 42, 180, 0, 31, 180, 0, 83, 162, 0, 47, 42, 180, 0, 31, 180, 0, 86, 27, 42, 180, 0, 31, 180, 0, 89, 153, 0, 19, 42, 180, 0, 31, 180, 0, 92, 27, 46, 4, 27, 120, 128, 167, 0, 6, 4, 27, 120, 79, 132, 1, 1, 167, 255, 204, 177]
theorem bcX5_showPlaces_0_ok : z_bys cX5_showPlaces 0 bcX5_showPlaces_0 = true := by decide +kernel
theorem dX5_showPlaces_0 : decode cX5_showPlaces 0 = .ok (.iconst 0, 1) := zo_3 (z_byk bcX5_showPlaces_0 0 0 _ bcX5_showPlaces_0_ok rfl)
theorem dX5_showPlaces_1 : decode cX5_showPlaces 1 = .ok (.istore_n 1, 1) := zo_60 (z_byk bcX5_showPlaces_0 0 1 _ bcX5_showPlaces_0_ok rfl)
theorem dX5_showPlaces_10 : decode cX5_showPlaces 10 = .ok (.if_icmp .ge 47, 3) := zo_162 (z_byk bcX5_showPlaces_0 0 10 _ bcX5_showPlaces_0_ok rfl) (z_byk bcX5_showPlaces_0 0 11 _ bcX5_showPlaces_0_ok rfl) (z_byk bcX5_showPlaces_0 0 12 _ bcX5_showPlaces_0_ok rfl) rfl
theorem dX5_showPlaces_13 : decode cX5_showPlaces 13 = .ok (.aload_n 0, 1) := zo_42 (z_byk bcX5_showPlaces_0 0 13 _ bcX5_showPlaces_0_ok rfl)
theorem dX5_showPlaces_14 : decode cX5_showPlaces 14 = .ok (.getfield 31, 3) := zo_180 (z_byk bcX5_showPlaces_0 0 14 _ bcX5_showPlaces_0_ok rfl) (z_byk bcX5_showPlaces_0 0 15 _ bcX5_showPlaces_0_ok rfl) (z_byk bcX5_showPlaces_0 0 16 _ bcX5_showPlaces_0_ok rfl) rfl
theorem dX5_showPlaces_17 : decode cX5_showPlaces 17 = .ok (.getfield 86, 3) := zo_180 (z_byk bcX5_showPlaces_0 0 17 _ bcX5_showPlaces_0_ok rfl) (z_byk bcX5_showPlaces_0 0 18 _ bcX5_showPlaces_0_ok rfl) (z_byk bcX5_showPlaces_0 0 19 _ bcX5_showPlaces_0_ok rfl) rfl
theorem dX5_showPlaces_2 : decode cX5_showPlaces 2 = .ok (.iload_n 1, 1) := zo_27 (z_byk bcX5_showPlaces_0 0 2 _ bcX5_showPlaces_0_ok rfl)
theorem dX5_showPlaces_20 : decode cX5_showPlaces 20 = .ok (.iload_n 1, 1) := zo_27 (z_byk bcX5_showPlaces_0 0 20 _ bcX5_showPlaces_0_ok rfl)
theorem dX5_showPlaces_21 : decode cX5_showPlaces 21 = .ok (.aload_n 0, 1) := zo_42 (z_byk bcX5_showPlaces_0 0 21 _ bcX5_showPlaces_0_ok rfl)
theorem dX5_showPlaces_22 : decode cX5_showPlaces 22 = .ok (.getfield 31, 3) := zo_180 (z_byk bcX5_showPlaces_0 0 22 _ bcX5_showPlaces_0_ok rfl) (z_byk bcX5_showPlaces_0 0 23 _ bcX5_showPlaces_0_ok rfl) (z_byk bcX5_showPlaces_0 0 24 _ bcX5_showPlaces_0_ok rfl) rfl
theorem dX5_showPlaces_25 : decode cX5_showPlaces 25 = .ok (.getfield 89, 3) := zo_180 (z_byk bcX5_showPlaces_0 0 25 _ bcX5_showPlaces_0_ok rfl) (z_byk bcX5_showPlaces_0 0 26 _ bcX5_showPlaces_0_ok rfl) (z_byk bcX5_showPlaces_0 0 27 _ bcX5_showPlaces_0_ok rfl) rfl
theorem dX5_showPlaces_28 : decode cX5_showPlaces 28 = .ok (.ifCond .eq 19, 3) := zo_153 (z_byk bcX5_showPlaces_0 0 28 _ bcX5_showPlaces_0_ok rfl) (z_byk bcX5_showPlaces_0 0 29 _ bcX5_showPlaces_0_ok rfl) (z_byk bcX5_showPlaces_0 0 30 _ bcX5_showPlaces_0_ok rfl) rfl
theorem dX5_showPlaces_3 : decode cX5_showPlaces 3 = .ok (.aload_n 0, 1) := zo_42 (z_byk bcX5_showPlaces_0 0 3 _ bcX5_showPlaces_0_ok rfl)
theorem dX5_showPlaces_31 : decode cX5_showPlaces 31 = .ok (.aload_n 0, 1) := zo_42 (z_byk bcX5_showPlaces_0 0 31 _ bcX5_showPlaces_0_ok rfl)
theorem dX5_showPlaces_32 : decode cX5_showPlaces 32 = .ok (.getfield 31, 3) := zo_180 (z_byk bcX5_showPlaces_0 0 32 _ bcX5_showPlaces_0_ok rfl) (z_byk bcX5_showPlaces_0 0 33 _ bcX5_showPlaces_0_ok rfl) (z_byk bcX5_showPlaces_0 0 34 _ bcX5_showPlaces_0_ok rfl) rfl
theorem dX5_showPlaces_35 : decode cX5_showPlaces 35 = .ok (.getfield 92, 3) := zo_180 (z_byk bcX5_showPlaces_0 0 35 _ bcX5_showPlaces_0_ok rfl) (z_byk bcX5_showPlaces_0 0 36 _ bcX5_showPlaces_0_ok rfl) (z_byk bcX5_showPlaces_0 0 37 _ bcX5_showPlaces_0_ok rfl) rfl
theorem dX5_showPlaces_38 : decode cX5_showPlaces 38 = .ok (.iload_n 1, 1) := zo_27 (z_byk bcX5_showPlaces_0 0 38 _ bcX5_showPlaces_0_ok rfl)
theorem dX5_showPlaces_39 : decode cX5_showPlaces 39 = .ok (.iaload, 1) := zo_46 (z_byk bcX5_showPlaces_0 0 39 _ bcX5_showPlaces_0_ok rfl)
theorem dX5_showPlaces_4 : decode cX5_showPlaces 4 = .ok (.getfield 31, 3) := zo_180 (z_byk bcX5_showPlaces_0 0 4 _ bcX5_showPlaces_0_ok rfl) (z_byk bcX5_showPlaces_0 0 5 _ bcX5_showPlaces_0_ok rfl) (z_byk bcX5_showPlaces_0 0 6 _ bcX5_showPlaces_0_ok rfl) rfl
theorem dX5_showPlaces_40 : decode cX5_showPlaces 40 = .ok (.iconst 1, 1) := zo_4 (z_byk bcX5_showPlaces_0 0 40 _ bcX5_showPlaces_0_ok rfl)
theorem dX5_showPlaces_41 : decode cX5_showPlaces 41 = .ok (.iload_n 1, 1) := zo_27 (z_byk bcX5_showPlaces_0 0 41 _ bcX5_showPlaces_0_ok rfl)
theorem dX5_showPlaces_42 : decode cX5_showPlaces 42 = .ok (.ishl, 1) := zo_120 (z_byk bcX5_showPlaces_0 0 42 _ bcX5_showPlaces_0_ok rfl)
theorem dX5_showPlaces_43 : decode cX5_showPlaces 43 = .ok (.ior, 1) := zo_128 (z_byk bcX5_showPlaces_0 0 43 _ bcX5_showPlaces_0_ok rfl)
theorem dX5_showPlaces_44 : decode cX5_showPlaces 44 = .ok (.goto 6, 3) := zo_167 (z_byk bcX5_showPlaces_0 0 44 _ bcX5_showPlaces_0_ok rfl) (z_byk bcX5_showPlaces_0 0 45 _ bcX5_showPlaces_0_ok rfl) (z_byk bcX5_showPlaces_0 0 46 _ bcX5_showPlaces_0_ok rfl) rfl
theorem dX5_showPlaces_47 : decode cX5_showPlaces 47 = .ok (.iconst 1, 1) := zo_4 (z_byk bcX5_showPlaces_0 0 47 _ bcX5_showPlaces_0_ok rfl)
theorem dX5_showPlaces_48 : decode cX5_showPlaces 48 = .ok (.iload_n 1, 1) := zo_27 (z_byk bcX5_showPlaces_0 0 48 _ bcX5_showPlaces_0_ok rfl)
theorem dX5_showPlaces_49 : decode cX5_showPlaces 49 = .ok (.ishl, 1) := zo_120 (z_byk bcX5_showPlaces_0 0 49 _ bcX5_showPlaces_0_ok rfl)
theorem dX5_showPlaces_50 : decode cX5_showPlaces 50 = .ok (.iastore, 1) := zo_79 (z_byk bcX5_showPlaces_0 0 50 _ bcX5_showPlaces_0_ok rfl)
theorem dX5_showPlaces_51 : decode cX5_showPlaces 51 = .ok (.iinc 1 1, 3) := zo_132 (z_byk bcX5_showPlaces_0 0 51 _ bcX5_showPlaces_0_ok rfl) (z_byk bcX5_showPlaces_0 0 52 _ bcX5_showPlaces_0_ok rfl) (z_byk bcX5_showPlaces_0 0 53 _ bcX5_showPlaces_0_ok rfl) rfl
theorem dX5_showPlaces_54 : decode cX5_showPlaces 54 = .ok (.goto (-52), 3) := zo_167 (z_byk bcX5_showPlaces_0 0 54 _ bcX5_showPlaces_0_ok rfl) (z_byk bcX5_showPlaces_0 0 55 _ bcX5_showPlaces_0_ok rfl) (z_byk bcX5_showPlaces_0 0 56 _ bcX5_showPlaces_0_ok rfl) rfl
theorem dX5_showPlaces_57 : decode cX5_showPlaces 57 = .ok (.return_, 1) := zo_177 (z_byk bcX5_showPlaces_0 0 57 _ bcX5_showPlaces_0_ok rfl)
theorem dX5_showPlaces_7 : decode cX5_showPlaces 7 = .ok (.getfield 83, 3) := zo_180 (z_byk bcX5_showPlaces_0 0 7 _ bcX5_showPlaces_0_ok rfl) (z_byk bcX5_showPlaces_0 0 8 _ bcX5_showPlaces_0_ok rfl) (z_byk bcX5_showPlaces_0 0 9 _ bcX5_showPlaces_0_ok rfl) rfl
set_option maxHeartbeats 4000000 in
set_option maxRecDepth 100000 in
theorem k_J0_coder_7d493 (l : Launch) (sa : Nat → Nat) (dC : Nat → ClassId) (dI : Nat → Nat → Nat) (wi : Nat) (hwi : wi < 14) (sz : Nat) : Met l yJ0_coder_7d493 (.code yJ0_coder_7d493 cJ0_coder_7d493 1 (some .byte) :: zT) ({ frames := 0, cells := 0, slots := 0, locals := 0 }) (va_Pc [.ref (sa (2 + 2 * wi))] (zB sa dC dI [] [] sz)) (va_Qi (fun (r : Int32) (_ : Unit) => (0 ≤ r.toInt ∧ r.toInt ≤ 0)) (fun _ t => zW dC dI [] [] (va_A [] sz) t) (va_A [] sz)) 0 0 (va_A [] sz) := by
  refine z_enter (by decide) (by exact (Nat.le_of_ble_eq_true rfl)) ?_
  intro p e s m args below meth c ls A R Qc hargs hsz hQe hAe hRe hx hb hml hr hts hown hlocks hin hl hP hK hD hN hXs hA hS
  rw [hAe] at hQe
  have hown : s.vm.findClass RJ0 = some m.cls := hown
  have hl : lv_has ls 1 [(0, .ref (sa (2 + 2 * wi)))] := hl
  refine va_gets hx hb hXs.2.2.2.2.1 hS hown (hts _ zw_t3_49) (fun _ h9 => h9) dJ0_coder_7d493_0 ?_
  refine lv_if_eq (tgt := 13) hx hb dJ0_coder_7d493_3 (by decide) (fun q => absurd q (by decide)) (fun _ => ?_)
  refine lv_aload_n hx hb dJ0_coder_7d493_6 rfl (lv_at hl 0 rfl) ?_
  refine vk_getf hx hb ((hXs.2.2.2.2.2.2.1.1 wi hwi).2.1) hS hown (hts _ zw_t9_90) (fun _ h9 => h9) dJ0_coder_7d493_7 ?_
  refine lv_goto (tgt := 14) hx hb dJ0_coder_7d493_10 (by decide) ?_
  exact W.zret (v := 0) hx hb hr (by decide) (fun t ht hW => by rw [← hQe]; exact ⟨⟨0, (), rfl, (by decide), z_ret hP hK hD ht hW [] [] rfl (by decide) rfl⟩, hS.F ht⟩) hS.2.2 dJ0_coder_7d493_14
set_option maxHeartbeats 4000000 in
set_option maxRecDepth 100000 in
theorem k_J0_length_8abf5 (l : Launch) (sa : Nat → Nat) (dC : Nat → ClassId) (dI : Nat → Nat → Nat) (wi : Nat) (hwi : wi < 14) (sz : Nat) : Met l yJ0_length_8abf5 (.code yJ0_length_8abf5 cJ0_length_8abf5 1 (some .int) :: zT) ({ frames := 1, cells := 0, slots := 0, locals := 20 }) (va_Pc [.ref (sa (2 + 2 * wi))] (zB sa dC dI [] [] sz)) (va_Qi (fun (r : Int32) (_ : Unit) => (2 ≤ r.toInt ∧ r.toInt ≤ 6) ∧ r.toInt = ((zLen.getD wi 0 : Nat) : Int)) (fun _ t => zW dC dI [] [] (va_A [] sz) t) (va_A [] sz)) 0 0 (va_A [] sz) := by
  refine z_enter (by decide) (by exact (Nat.le_of_ble_eq_true rfl)) ?_
  intro p e s m args below meth c ls A R Qc hargs hsz hQe hAe hRe hx hb hml hr hts hown hlocks hin hl hP hK hD hN hXs hA hS
  rw [hAe] at hQe
  have hown : s.vm.findClass RJ0 = some m.cls := hown
  have hl : lv_has ls 1 [(0, .ref (sa (2 + 2 * wi)))] := hl
  refine lv_aload_n hx hb dJ0_length_8abf5_0 rfl (lv_at hl 0 rfl) ?_
  refine vk_getf hx hb ((hXs.2.2.2.2.2.2.1.1 wi hwi).2.2.1) hS hown (hts _ zw_t9_89) (fun _ h9 => h9) dJ0_length_8abf5_1 ?_
  refine va_tlen hx hb ((hXs.2.2.2.2.2.2.1.1 wi hwi).2.2.2) hS rfl dJ0_length_8abf5_4 ?_
  refine lv_topi (fun x_1 ex_1 => ?_)
  have b_x_1 : x_1.toInt = ((zLen.getD wi 0 : Nat) : Int) ∧ 2 ≤ x_1.toInt ∧ x_1.toInt ≤ 6 := by rw [ex_1]; exact zLen_b wi hwi
  refine lv_aload_n hx hb dJ0_length_8abf5_5 rfl (lv_at hl 0 rfl) ?_
  obtain ⟨hPc, hDc, hFc⟩ := z_cut (wc := []) hP hD hS hA [] rfl (by decide +kernel)
  have hKc := hK.sub (tys' := []) [] rfl
  refine va_calli (va_runV (As := []) (rest := [.int x_1]) ⟨hx, hb, hml, hown, hts⟩ (k_J0_coder_7d493 l sa dC dI wi hwi s.heap.size) (cwV 0 hts (z_gV zw_t3_45 zw_t3_46 zw_t3_47 zw_t1_13 zw_t3_48) rfl rfl rfl (by decide +kernel) (by rw [← hRe]; exact ⟨(Nat.le_of_ble_eq_true rfl), (Nat.le_of_ble_eq_true rfl)⟩)) (z_preK hPc hKc hDc hN hXs hS hFc (vk_recv (adK := fun i => sa (2 + 2 * i)) (i := wi) hXs.2.2.2.2.2.2.1 hwi hS)) rfl rfl hl.1 rfl (lv_room (Nat.le_of_ble_eq_true rfl)) dJ0_length_8abf5_6 (by rw [← hRe]; exact ⟨(Nat.le_of_ble_eq_true rfl), (Nat.le_of_ble_eq_true rfl)⟩)) hS (fun q _ h => hFc q h) hFc (fun r_2 u t H1 locs ht hvm hw hB hz1 hk1 hS => ?_)
  obtain ⟨hP, hD, hK⟩ := z_after3 (wn := []) hB ht hvm hP hD hK [] [] rfl 0 rfl (by decide +kernel) rfl (by decide +kernel) hk1 hFc
  generalize H1 = H at hP hS ⊢
  have hK : va_K (dC, dI) vwCl [] s := hK
  have b_r_2 : 0 ≤ r_2.toInt ∧ r_2.toInt ≤ 0 := hw
  refine lv_ishr hx hb dJ0_length_8abf5_9 ?_
  refine lv_topi (fun x_3 ex_3 => ?_)
  have b_x_3 : x_3.toInt = x_1.toInt := by rw [ex_3]; exact zi_shr0 rfl rfl (by first | with_reducible assumption | omega)
  exact W.iret (v := x_3) hx hb hr (fun t ht hW => by rw [← hQe]; exact ⟨⟨x_3, (), rfl, (by first | with_reducible assumption | omega), z_ret hP hK hD ht hW [] [] rfl (by decide) rfl⟩, hS.F ht⟩) hS.2.2 dJ0_length_8abf5_10
set_option maxHeartbeats 4000000 in
set_option maxRecDepth 100000 in
theorem k_J0_isLatin1_aae02 (l : Launch) (sa : Nat → Nat) (dC : Nat → ClassId) (dI : Nat → Nat → Nat) (wi : Nat) (hwi : wi < 14) (sz : Nat) : Met l yJ0_isLatin1_aae02 (.code yJ0_isLatin1_aae02 cJ0_isLatin1_aae02 1 (some .boolean) :: zT) ({ frames := 0, cells := 0, slots := 0, locals := 0 }) (va_Pc [.ref (sa (2 + 2 * wi))] (zB sa dC dI [] [] sz)) (va_Qi (fun (r : Int32) (_ : Unit) => (1 ≤ r.toInt ∧ r.toInt ≤ 1)) (fun _ t => zW dC dI [] [] (va_A [] sz) t) (va_A [] sz)) 0 0 (va_A [] sz) := by
  refine z_enter (by decide) (by exact (Nat.le_of_ble_eq_true rfl)) ?_
  intro p e s m args below meth c ls A R Qc hargs hsz hQe hAe hRe hx hb hml hr hts hown hlocks hin hl hP hK hD hN hXs hA hS
  rw [hAe] at hQe
  have hown : s.vm.findClass RJ0 = some m.cls := hown
  have hl : lv_has ls 1 [(0, .ref (sa (2 + 2 * wi)))] := hl
  refine va_gets hx hb hXs.2.2.2.2.1 hS hown (hts _ zw_t3_49) (fun _ h9 => h9) dJ0_isLatin1_aae02_0 ?_
  refine lv_if_eq (tgt := 17) hx hb dJ0_isLatin1_aae02_3 (by decide) (fun q => absurd q (by decide)) (fun _ => ?_)
  refine lv_aload_n hx hb dJ0_isLatin1_aae02_6 rfl (lv_at hl 0 rfl) ?_
  refine vk_getf hx hb ((hXs.2.2.2.2.2.2.1.1 wi hwi).2.1) hS hown (hts _ zw_t9_90) (fun _ h9 => h9) dJ0_isLatin1_aae02_7 ?_
  refine lv_if_ne (tgt := 17) hx hb dJ0_isLatin1_aae02_10 (by decide) (fun q => absurd q (by decide)) (fun _ => ?_)
  refine lv_iconst (v := 1) hx hb dJ0_isLatin1_aae02_13 (by decide) ?_
  refine lv_goto (tgt := 18) hx hb dJ0_isLatin1_aae02_14 (by decide) ?_
  exact W.zret (v := 1) hx hb hr (by decide) (fun t ht hW => by rw [← hQe]; exact ⟨⟨1, (), rfl, (by decide), z_ret hP hK hD ht hW [] [] rfl (by decide) rfl⟩, hS.F ht⟩) hS.2.2 dJ0_isLatin1_aae02_18
set_option maxHeartbeats 4000000 in
set_option maxRecDepth 100000 in
theorem k_J3_checkIndex_8e157 (l : Launch) (sa : Nat → Nat) (dC : Nat → ClassId) (dI : Nat → Nat → Nat) (p0 : Int32) (p1 : Int32) (b_p0 : 0 ≤ p0.toInt ∧ p0.toInt ≤ 5) (b_p1 : 1 ≤ p1.toInt ∧ p1.toInt ≤ 6) (hep_0 : p0.toInt < p1.toInt) (sz : Nat) : Met l yJ3_checkIndex_8e157 (.code yJ3_checkIndex_8e157 cJ3_checkIndex_8e157 3 (some .int) :: zT) ({ frames := 0, cells := 0, slots := 0, locals := 0 }) (va_Pc [.int p0, .int p1, .null] (zB sa dC dI [] [] sz)) (va_Qi (fun (r : Int32) (_ : Unit) => (0 ≤ r.toInt ∧ r.toInt ≤ 5)) (fun _ t => zW dC dI [] [] (va_A [] sz) t) (va_A [] sz)) 0 0 (va_A [] sz) := by
  refine z_enter (by decide) (by exact (Nat.le_of_ble_eq_true rfl)) ?_
  intro p e s m args below meth c ls A R Qc hargs hsz hQe hAe hRe hx hb hml hr hts hown hlocks hin hl hP hK hD hN hXs hA hS
  rw [hAe] at hQe
  have hown : s.vm.findClass RJ3 = some m.cls := hown
  have hl : lv_has ls 3 [(0, .int p0), (1, .int p1), (2, .null)] := hl
  refine lv_iload_n hx hb dJ3_checkIndex_8e157_0 rfl (lv_at hl 0 rfl) ?_
  refine lv_if_lt (tgt := 9) hx hb dJ3_checkIndex_8e157_1 (by decide) (fun q => absurd (zz_lt rfl (show Int32.toInt 0 = 0 from by decide) q) (by first | with_reducible assumption | omega)) (fun c_1 => ?_)
  have ic_1 := zz_nlt rfl (show Int32.toInt 0 = 0 from by decide) c_1
  refine lv_iload_n hx hb dJ3_checkIndex_8e157_4 rfl (lv_at hl 0 rfl) ?_
  refine lv_iload_n hx hb dJ3_checkIndex_8e157_5 rfl (lv_at hl 1 rfl) ?_
  refine lv_icmp_lt (tgt := 16) hx hb dJ3_checkIndex_8e157_6 (by decide) (fun c_2 => ?_) (fun q => absurd (zz_nlt rfl rfl q) (by first | with_reducible assumption | omega))
  have ic_2 := zz_lt rfl rfl c_2
  refine lv_iload_n hx hb dJ3_checkIndex_8e157_16 rfl (lv_at hl 0 rfl) ?_
  exact W.iret (v := p0) hx hb hr (fun t ht hW => by rw [← hQe]; exact ⟨⟨p0, (), rfl, (by first | with_reducible assumption | omega), z_ret hP hK hD ht hW [] [] rfl (by decide) rfl⟩, hS.F ht⟩) hS.2.2 dJ3_checkIndex_8e157_17
set_option maxHeartbeats 4000000 in
set_option maxRecDepth 100000 in
theorem k_J3_checkIndex_8e157_v1 (l : Launch) (sa : Nat → Nat) (dC : Nat → ClassId) (dI : Nat → Nat → Nat) (p0 : Int32) (p1 : Int32) (q2 : Nat) (b_p0 : 0 ≤ p0.toInt ∧ p0.toInt ≤ 5) (b_p1 : 1 ≤ p1.toInt ∧ p1.toInt ≤ 6) (hep_0 : p0.toInt < p1.toInt) (sz : Nat) : Met l yJ3_checkIndex_8e157 (.code yJ3_checkIndex_8e157 cJ3_checkIndex_8e157 3 (some .int) :: zT) ({ frames := 0, cells := 0, slots := 0, locals := 0 }) (va_Pc [.int p0, .int p1, .ref q2] (zB sa dC dI [] [] sz)) (va_Qi (fun (r : Int32) (_ : Unit) => (0 ≤ r.toInt ∧ r.toInt ≤ 5)) (fun _ t => zW dC dI [] [] (va_A [] sz) t) (va_A [] sz)) 0 0 (va_A [] sz) := by
  refine z_enter (by decide) (by exact (Nat.le_of_ble_eq_true rfl)) ?_
  intro p e s m args below meth c ls A R Qc hargs hsz hQe hAe hRe hx hb hml hr hts hown hlocks hin hl hP hK hD hN hXs hA hS
  rw [hAe] at hQe
  have hown : s.vm.findClass RJ3 = some m.cls := hown
  have hl : lv_has ls 3 [(0, .int p0), (1, .int p1), (2, .ref q2)] := hl
  refine lv_iload_n hx hb dJ3_checkIndex_8e157_0 rfl (lv_at hl 0 rfl) ?_
  refine lv_if_lt (tgt := 9) hx hb dJ3_checkIndex_8e157_1 (by decide) (fun q => absurd (zz_lt rfl (show Int32.toInt 0 = 0 from by decide) q) (by first | with_reducible assumption | omega)) (fun c_1 => ?_)
  have ic_1 := zz_nlt rfl (show Int32.toInt 0 = 0 from by decide) c_1
  refine lv_iload_n hx hb dJ3_checkIndex_8e157_4 rfl (lv_at hl 0 rfl) ?_
  refine lv_iload_n hx hb dJ3_checkIndex_8e157_5 rfl (lv_at hl 1 rfl) ?_
  refine lv_icmp_lt (tgt := 16) hx hb dJ3_checkIndex_8e157_6 (by decide) (fun c_2 => ?_) (fun q => absurd (zz_nlt rfl rfl q) (by first | with_reducible assumption | omega))
  have ic_2 := zz_lt rfl rfl c_2
  refine lv_iload_n hx hb dJ3_checkIndex_8e157_16 rfl (lv_at hl 0 rfl) ?_
  exact W.iret (v := p0) hx hb hr (fun t ht hW => by rw [← hQe]; exact ⟨⟨p0, (), rfl, (by first | with_reducible assumption | omega), z_ret hP hK hD ht hW [] [] rfl (by decide) rfl⟩, hS.F ht⟩) hS.2.2 dJ3_checkIndex_8e157_17
set_option maxHeartbeats 4000000 in
set_option maxRecDepth 100000 in
theorem k_J0_checkIndex_df160 (l : Launch) (sa : Nat → Nat) (dC : Nat → ClassId) (dI : Nat → Nat → Nat) (p0 : Int32) (p1 : Int32) (b_p0 : 0 ≤ p0.toInt ∧ p0.toInt ≤ 5) (b_p1 : 1 ≤ p1.toInt ∧ p1.toInt ≤ 6) (hep_0 : p0.toInt < p1.toInt) (sz : Nat) : Met l yJ0_checkIndex_df160 (.code yJ0_checkIndex_df160 cJ0_checkIndex_df160 2 none :: zT) ({ frames := 1, cells := 0, slots := 0, locals := 22 }) (va_Pc [.int p0, .int p1] (zB sa dC dI [] [] sz)) (va_Qv (fun _ : Unit => True) (fun _ t => zW dC dI [] [] (va_A [] sz) t) (va_A [] sz)) 0 0 (va_A [] sz) := by
  refine z_enter (by decide) (by exact (Nat.le_of_ble_eq_true rfl)) ?_
  intro p e s m args below meth c ls A R Qc hargs hsz hQe hAe hRe hx hb hml hr hts hown hlocks hin hl hP hK hD hN hXs hA hS
  rw [hAe] at hQe
  have hown : s.vm.findClass RJ0 = some m.cls := hown
  have hl : lv_has ls 2 [(0, .int p0), (1, .int p1)] := hl
  refine lv_iload_n hx hb dJ0_checkIndex_df160_0 rfl (lv_at hl 0 rfl) ?_
  refine lv_iload_n hx hb dJ0_checkIndex_df160_1 rfl (lv_at hl 1 rfl) ?_
  rcases hXs.2.2.2.2.2.1 with hZ9 | ⟨t9, hZ9⟩
  · refine va_gets hx hb hZ9 hS hown (hts _ zw_t3_65) (fun _ h9 => h9) dJ0_checkIndex_df160_2 ?_
    obtain ⟨hPc, hDc, hFc⟩ := z_cut (wc := []) hP hD hS hA [] rfl (by decide +kernel)
    have hKc := hK.sub (tys' := []) [] rfl
    refine va_calli (va_runS (As := [.int p0, .int p1, .null]) (rest := []) ⟨hx, hb, hml, hown, hts⟩ (k_J3_checkIndex_8e157 l sa dC dI p0 p1 b_p0 b_p1 (by first | assumption | omega) s.heap.size) (va_cwS 3 hts (z_gS zw_t3_67 zw_t3_68 zw_t1_15 zw_t3_69) rfl rfl rfl (by decide +kernel) (by rw [← hRe]; exact ⟨(Nat.le_of_ble_eq_true rfl), (Nat.le_of_ble_eq_true rfl)⟩)) (z_preS hPc hKc hDc hN hXs hS hFc) rfl rfl hl.1 rfl (lv_room (Nat.le_of_ble_eq_true rfl)) dJ0_checkIndex_df160_5 (by rw [← hRe]; exact ⟨(Nat.le_of_ble_eq_true rfl), (Nat.le_of_ble_eq_true rfl)⟩)) hS (fun q _ h => hFc q h) hFc (fun r_1 u t H1 locs ht hvm hw hB hz1 hk1 hS => ?_)
    obtain ⟨hP, hD, hK⟩ := z_after3 (wn := []) hB ht hvm hP hD hK [] [] rfl 0 rfl (by decide +kernel) rfl (by decide +kernel) hk1 hFc
    generalize H1 = H at hP hS ⊢
    have hK : va_K (dC, dI) vwCl [] s := hK
    have b_r_1 : 0 ≤ r_1.toInt ∧ r_1.toInt ≤ 5 := hw
    refine lv_pop hx hb dJ0_checkIndex_df160_8 rfl ?_
    exact W.vret hx hb hr (fun t ht hW => by rw [← hQe]; exact ⟨⟨(), rfl, trivial, z_ret hP hK hD ht hW [] [] rfl (by decide) rfl⟩, hS.F ht⟩) hS.2.2 dJ0_checkIndex_df160_9
  · refine va_gets hx hb hZ9 hS hown (hts _ zw_t3_65) (fun _ h9 => h9) dJ0_checkIndex_df160_2 ?_
    obtain ⟨hPc, hDc, hFc⟩ := z_cut (wc := []) hP hD hS hA [] rfl (by decide +kernel)
    have hKc := hK.sub (tys' := []) [] rfl
    refine va_calli (va_runS (As := [.int p0, .int p1, .ref t9]) (rest := []) ⟨hx, hb, hml, hown, hts⟩ (k_J3_checkIndex_8e157_v1 l sa dC dI p0 p1 t9 b_p0 b_p1 (by first | assumption | omega) s.heap.size) (va_cwS 3 hts (z_gS zw_t3_67 zw_t3_68 zw_t1_15 zw_t3_69) rfl rfl rfl (by decide +kernel) (by rw [← hRe]; exact ⟨(Nat.le_of_ble_eq_true rfl), (Nat.le_of_ble_eq_true rfl)⟩)) (z_preS hPc hKc hDc hN hXs hS hFc) rfl rfl hl.1 rfl (lv_room (Nat.le_of_ble_eq_true rfl)) dJ0_checkIndex_df160_5 (by rw [← hRe]; exact ⟨(Nat.le_of_ble_eq_true rfl), (Nat.le_of_ble_eq_true rfl)⟩)) hS (fun q _ h => hFc q h) hFc (fun r_2 u t H1 locs ht hvm hw hB hz1 hk1 hS => ?_)
    obtain ⟨hP, hD, hK⟩ := z_after3 (wn := []) hB ht hvm hP hD hK [] [] rfl 0 rfl (by decide +kernel) rfl (by decide +kernel) hk1 hFc
    generalize H1 = H at hP hS ⊢
    have hK : va_K (dC, dI) vwCl [] s := hK
    have b_r_2 : 0 ≤ r_2.toInt ∧ r_2.toInt ≤ 5 := hw
    refine lv_pop hx hb dJ0_checkIndex_df160_8 rfl ?_
    exact W.vret hx hb hr (fun t ht hW => by rw [← hQe]; exact ⟨⟨(), rfl, trivial, z_ret hP hK hD ht hW [] [] rfl (by decide) rfl⟩, hS.F ht⟩) hS.2.2 dJ0_checkIndex_df160_9
set_option maxHeartbeats 4000000 in
set_option maxRecDepth 100000 in
theorem k_J1_charAt_3b067 (l : Launch) (sa : Nat → Nat) (dC : Nat → ClassId) (dI : Nat → Nat → Nat) (p1 : Int32) (wi : Nat) (b_p1 : 0 ≤ p1.toInt ∧ p1.toInt ≤ 5) (hwi : wi < 14) (hep_0 : p1.toInt < ((zLen.getD wi 0 : Nat) : Int)) (sz : Nat) : Met l yJ1_charAt_3b067 (.code yJ1_charAt_3b067 cJ1_charAt_3b067 2 (some .char) :: zT) ({ frames := 2, cells := 0, slots := 0, locals := 43 }) (va_Pc [.ref (sa (3 + 2 * wi)), .int p1] (zB sa dC dI [] [] sz)) (va_Qi (fun (r : Int32) (_ : Unit) => (0 ≤ r.toInt ∧ r.toInt ≤ 255)) (fun _ t => zW dC dI [] [] (va_A [] sz) t) (va_A [] sz)) 0 0 (va_A [] sz) := by
  refine z_enter (by decide) (by exact (Nat.le_of_ble_eq_true rfl)) ?_
  intro p e s m args below meth c ls A R Qc hargs hsz hQe hAe hRe hx hb hml hr hts hown hlocks hin hl hP hK hD hN hXs hA hS
  rw [hAe] at hQe
  have hown : s.vm.findClass RJ1 = some m.cls := hown
  have hl : lv_has ls 2 [(0, .ref (sa (3 + 2 * wi))), (1, .int p1)] := hl
  refine lv_iload_n hx hb dJ1_charAt_3b067_0 rfl (lv_at hl 1 rfl) ?_
  refine lv_aload_n hx hb dJ1_charAt_3b067_1 rfl (lv_at hl 0 rfl) ?_
  refine va_tlen hx hb ((hXs.2.2.2.2.2.2.1.1 wi hwi).2.2.2) hS rfl dJ1_charAt_3b067_2 ?_
  refine lv_topi (fun x_1 ex_1 => ?_)
  have b_x_1 : x_1.toInt = ((zLen.getD wi 0 : Nat) : Int) ∧ 2 ≤ x_1.toInt ∧ x_1.toInt ≤ 6 := by rw [ex_1]; exact zLen_b wi hwi
  obtain ⟨hPc, hDc, hFc⟩ := z_cut (wc := []) hP hD hS hA [] rfl (by decide +kernel)
  have hKc := hK.sub (tys' := []) [] rfl
  refine va_callv (va_runS (As := [.int p1, .int x_1]) (rest := []) ⟨hx, hb, hml, hown, hts⟩ (k_J0_checkIndex_df160 l sa dC dI p1 x_1 b_p1 (by first | with_reducible assumption | omega) (by first | assumption | omega) s.heap.size) (va_cwS 2 hts (z_gS zw_t3_62 zw_t3_63 zw_t1_13 zw_t3_64) rfl rfl rfl (by decide +kernel) (by rw [← hRe]; exact ⟨(Nat.le_of_ble_eq_true rfl), (Nat.le_of_ble_eq_true rfl)⟩)) (z_preS hPc hKc hDc hN hXs hS hFc) rfl rfl hl.1 rfl (lv_room (Nat.le_of_ble_eq_true rfl)) dJ1_charAt_3b067_3 (by rw [← hRe]; exact ⟨(Nat.le_of_ble_eq_true rfl), (Nat.le_of_ble_eq_true rfl)⟩)) hS (fun q _ h => hFc q h) hFc (fun u t H1 locs ht hvm hw hB hz1 hk1 hS => ?_)
  obtain ⟨hP, hD, hK⟩ := z_after3 (wn := []) hB ht hvm hP hD hK [] [] rfl 0 rfl (by decide +kernel) rfl (by decide +kernel) hk1 hFc
  generalize H1 = H at hP hS ⊢
  have hK : va_K (dC, dI) vwCl [] s := hK
  refine lv_aload_n hx hb dJ1_charAt_3b067_6 rfl (lv_at hl 0 rfl) ?_
  refine lv_iload_n hx hb dJ1_charAt_3b067_7 rfl (lv_at hl 1 rfl) ?_
  refine va_tb hx hb ((hXs.2.2.2.2.2.2.1.1 wi hwi).2.2.2) hS (vp_in_iff.mpr ⟨by omega, by omega⟩) rfl dJ1_charAt_3b067_8 ?_
  refine lv_topi (fun x_3 ex_3 => ?_)
  refine lv_sipush (v := 255) hx hb dJ1_charAt_3b067_9 (by decide) ?_
  refine lv_iand hx hb dJ1_charAt_3b067_12 ?_
  refine lv_topi (fun x_4 ex_4 => ?_)
  have b_x_4 : 0 ≤ x_4.toInt ∧ x_4.toInt ≤ 255 := by rw [ex_4]; exact zi_andR (show Int32.toInt 255 = 255 from by decide) (by first | with_reducible assumption | omega) (by first | with_reducible assumption | omega)
  refine lv_i2c (v := _) hx hb dJ1_charAt_3b067_13 rfl ?_
  refine lv_topi (fun x_5 ex_5 => ?_)
  have b_x_5 : x_5.toInt = x_4.toInt := by rw [ex_5]; exact zi_i2c rfl (by first | with_reducible assumption | omega)
  exact W.zret (v := x_5) hx hb hr (zi_char (by first | with_reducible assumption | omega)) (fun t ht hW => by rw [← hQe]; exact ⟨⟨x_5, (), rfl, (by first | with_reducible assumption | omega), z_ret hP hK hD ht hW [] [] rfl (by decide) rfl⟩, hS.F ht⟩) hS.2.2 dJ1_charAt_3b067_14
set_option maxHeartbeats 4000000 in
set_option maxRecDepth 100000 in
theorem k_J0_charAt_5068e (l : Launch) (sa : Nat → Nat) (dC : Nat → ClassId) (dI : Nat → Nat → Nat) (p1 : Int32) (wi : Nat) (b_p1 : 0 ≤ p1.toInt ∧ p1.toInt ≤ 5) (hwi : wi < 14) (hep_0 : p1.toInt < ((zLen.getD wi 0 : Nat) : Int)) (sz : Nat) : Met l yJ0_charAt_5068e (.code yJ0_charAt_5068e cJ0_charAt_5068e 2 (some .char) :: zT) ({ frames := 3, cells := 0, slots := 0, locals := 64 }) (va_Pc [.ref (sa (2 + 2 * wi)), .int p1] (zB sa dC dI [] [] sz)) (va_Qi (fun (r : Int32) (_ : Unit) => (0 ≤ r.toInt ∧ r.toInt ≤ 255)) (fun _ t => zW dC dI [] [] (va_A [] sz) t) (va_A [] sz)) 0 0 (va_A [] sz) := by
  refine z_enter (by decide) (by exact (Nat.le_of_ble_eq_true rfl)) ?_
  intro p e s m args below meth c ls A R Qc hargs hsz hQe hAe hRe hx hb hml hr hts hown hlocks hin hl hP hK hD hN hXs hA hS
  rw [hAe] at hQe
  have hown : s.vm.findClass RJ0 = some m.cls := hown
  have hl : lv_has ls 2 [(0, .ref (sa (2 + 2 * wi))), (1, .int p1)] := hl
  refine lv_aload_n hx hb dJ0_charAt_5068e_0 rfl (lv_at hl 0 rfl) ?_
  obtain ⟨hPc, hDc, hFc⟩ := z_cut (wc := []) hP hD hS hA [] rfl (by decide +kernel)
  have hKc := hK.sub (tys' := []) [] rfl
  refine va_calli (va_runV (As := []) (rest := []) ⟨hx, hb, hml, hown, hts⟩ (k_J0_isLatin1_aae02 l sa dC dI wi hwi s.heap.size) (cwV 0 hts (z_gV zw_t3_55 zw_t3_56 zw_t3_57 zw_t1_13 zw_t3_58) rfl rfl rfl (by decide +kernel) (by rw [← hRe]; exact ⟨(Nat.le_of_ble_eq_true rfl), (Nat.le_of_ble_eq_true rfl)⟩)) (z_preK hPc hKc hDc hN hXs hS hFc (vk_recv (adK := fun i => sa (2 + 2 * i)) (i := wi) hXs.2.2.2.2.2.2.1 hwi hS)) rfl rfl hl.1 rfl (lv_room (Nat.le_of_ble_eq_true rfl)) dJ0_charAt_5068e_1 (by rw [← hRe]; exact ⟨(Nat.le_of_ble_eq_true rfl), (Nat.le_of_ble_eq_true rfl)⟩)) hS (fun q _ h => hFc q h) hFc (fun r_1 u t H1 locs ht hvm hw hB hz1 hk1 hS => ?_)
  obtain ⟨hP, hD, hK⟩ := z_after3 (wn := []) hB ht hvm hP hD hK [] [] rfl 0 rfl (by decide +kernel) rfl (by decide +kernel) hk1 hFc
  generalize H1 = H at hP hS ⊢
  have hK : va_K (dC, dI) vwCl [] s := hK
  have b_r_1 : 1 ≤ r_1.toInt ∧ r_1.toInt ≤ 1 := hw
  refine lv_if_eq (tgt := 16) hx hb dJ0_charAt_5068e_4 (by decide) (fun q => absurd (zz_eq rfl (show Int32.toInt 0 = 0 from by decide) q) (by first | with_reducible assumption | omega)) (fun c_2 => ?_)
  have ic_2 := zz_neq rfl (show Int32.toInt 0 = 0 from by decide) c_2
  refine lv_aload_n hx hb dJ0_charAt_5068e_7 rfl (lv_at hl 0 rfl) ?_
  refine vk_getf hx hb ((hXs.2.2.2.2.2.2.1.1 wi hwi).2.2.1) hS hown (hts _ zw_t9_89) (fun _ h9 => h9) dJ0_charAt_5068e_8 ?_
  refine lv_iload_n hx hb dJ0_charAt_5068e_11 rfl (lv_at hl 1 rfl) ?_
  obtain ⟨hPc, hDc, hFc⟩ := z_cut (wc := []) hP hD hS hA [] rfl (by decide +kernel)
  have hKc := hK.sub (tys' := []) [] rfl
  refine va_calli (va_runS (As := [.ref (sa (3 + 2 * wi)), .int p1]) (rest := []) ⟨hx, hb, hml, hown, hts⟩ (k_J1_charAt_3b067 l sa dC dI p1 wi b_p1 hwi (by first | assumption | omega) H.size) (va_cwS 2 hts (z_gS zw_t3_59 zw_t3_60 zw_t1_14 zw_t3_61) rfl rfl rfl (by decide +kernel) (by rw [← hRe]; exact ⟨(Nat.le_of_ble_eq_true rfl), (Nat.le_of_ble_eq_true rfl)⟩)) (z_preS hPc hKc hDc hN hXs hS hFc) rfl rfl hl.1 rfl (lv_room (Nat.le_of_ble_eq_true rfl)) dJ0_charAt_5068e_12 (by rw [← hRe]; exact ⟨(Nat.le_of_ble_eq_true rfl), (Nat.le_of_ble_eq_true rfl)⟩)) hS (fun q _ h => hFc q h) hFc (fun r_3 u t H1 locs ht hvm hw hB hz1 hk1 hS => ?_)
  obtain ⟨hP, hD, hK⟩ := z_after3 (wn := []) hB ht hvm hP hD hK [] [] rfl 0 rfl (by decide +kernel) rfl (by decide +kernel) hk1 hFc
  generalize H1 = H at hP hS ⊢
  have hK : va_K (dC, dI) vwCl [] s := hK
  have b_r_3 : 0 ≤ r_3.toInt ∧ r_3.toInt ≤ 255 := hw
  exact W.zret (v := r_3) hx hb hr (zi_char (by first | with_reducible assumption | omega)) (fun t ht hW => by rw [← hQe]; exact ⟨⟨r_3, (), rfl, (by first | with_reducible assumption | omega), z_ret hP hK hD ht hW [] [] rfl (by decide) rfl⟩, hS.F ht⟩) hS.2.2 dJ0_charAt_5068e_15
set_option maxHeartbeats 4000000 in
set_option maxRecDepth 100000 in
theorem k_X5_kindOf (l : Launch) (sa : Nat → Nat) (dC : Nat → ClassId) (dI : Nat → Nat → Nat) (p0 : Int32)  (sz : Nat) : Met l yX5_kindOf (.code yX5_kindOf cX5_kindOf 1 (some .int) :: zT) ({ frames := 0, cells := 0, slots := 0, locals := 0 }) (va_Pc [.int p0] (zB sa dC dI [] [] sz)) (va_Qi (fun (r : Int32) (_ : Unit) => (0 ≤ r.toInt ∧ r.toInt ≤ 4) ∧ (¬ r.toInt = 2 ∨ (48 ≤ p0.toInt ∧ p0.toInt ≤ 57))) (fun _ t => zW dC dI [] [] (va_A [] sz) t) (va_A [] sz)) 0 0 (va_A [] sz) := by
  refine z_enter (by decide) (by exact (Nat.le_of_ble_eq_true rfl)) ?_
  intro p e s m args below meth c ls A R Qc hargs hsz hQe hAe hRe hx hb hml hr hts hown hlocks hin hl hP hK hD hN hXs hA hS
  rw [hAe] at hQe
  have hown : s.vm.findClass RX5 = some m.cls := hown
  have hl : lv_has ls 1 [(0, .int p0)] := hl
  refine lv_iload_n hx hb dX5_kindOf_0 rfl (lv_at hl 0 rfl) ?_
  refine lv_bipush (v := 32) hx hb dX5_kindOf_1 (by decide) ?_
  have nb_p0 := zi_nb p0
  refine lv_icmp_eq (tgt := 12) hx hb dX5_kindOf_3 (by decide) (fun c_1 => ?_) (fun c_1 => ?_)
  · have ic_1 := zz_eq rfl (show Int32.toInt 32 = 32 from by decide) c_1
    refine lv_iconst (v := 0) hx hb dX5_kindOf_12 (by decide) ?_
    have zc : Int32.toInt 0 = 0 := by decide
    exact W.iret (v := 0) hx hb hr (fun t ht hW => by rw [← hQe]; exact ⟨⟨0, (), rfl, (by first | with_reducible assumption | omega), z_ret hP hK hD ht hW [] [] rfl (by decide) rfl⟩, hS.F ht⟩) hS.2.2 dX5_kindOf_13
  · have ic_1 := zz_neq rfl (show Int32.toInt 32 = 32 from by decide) c_1
    refine lv_iload_n hx hb dX5_kindOf_6 rfl (lv_at hl 0 rfl) ?_
    refine lv_bipush (v := 10) hx hb dX5_kindOf_7 (by decide) ?_
    refine lv_icmp_ne (tgt := 14) hx hb dX5_kindOf_9 (by decide) (fun c_2 => ?_) (fun c_2 => ?_)
    · have ic_2 := zz_ne rfl (show Int32.toInt 10 = 10 from by decide) c_2
      refine lv_iload_n hx hb dX5_kindOf_14 rfl (lv_at hl 0 rfl) ?_
      refine lv_bipush (v := 97) hx hb dX5_kindOf_15 (by decide) ?_
      refine lv_icmp_lt (tgt := 28) hx hb dX5_kindOf_17 (by decide) (fun c_3 => ?_) (fun c_3 => ?_)
      · have ic_3 := zz_lt rfl (show Int32.toInt 97 = 97 from by decide) c_3
        refine lv_iload_n hx hb dX5_kindOf_28 rfl (lv_at hl 0 rfl) ?_
        refine lv_bipush (v := 48) hx hb dX5_kindOf_29 (by decide) ?_
        refine lv_icmp_lt (tgt := 42) hx hb dX5_kindOf_31 (by decide) (fun c_4 => ?_) (fun c_4 => ?_)
        · have ic_4 := zz_lt rfl (show Int32.toInt 48 = 48 from by decide) c_4
          refine lv_iload_n hx hb dX5_kindOf_42 rfl (lv_at hl 0 rfl) ?_
          refine lv_bipush (v := 59) hx hb dX5_kindOf_43 (by decide) ?_
          refine lv_icmp_ne (tgt := 52) hx hb dX5_kindOf_45 (by decide) (fun c_5 => ?_) (fun q => absurd (zz_nne rfl (show Int32.toInt 59 = 59 from by decide) q) (by first | with_reducible assumption | omega))
          have ic_5 := zz_ne rfl (show Int32.toInt 59 = 59 from by decide) c_5
          refine lv_iconst (v := 4) hx hb dX5_kindOf_52 (by decide) ?_
          have zc : Int32.toInt 4 = 4 := by decide
          exact W.iret (v := 4) hx hb hr (fun t ht hW => by rw [← hQe]; exact ⟨⟨4, (), rfl, (by first | with_reducible assumption | omega), z_ret hP hK hD ht hW [] [] rfl (by decide) rfl⟩, hS.F ht⟩) hS.2.2 dX5_kindOf_53
        · have ic_4 := zz_nlt rfl (show Int32.toInt 48 = 48 from by decide) c_4
          refine lv_iload_n hx hb dX5_kindOf_34 rfl (lv_at hl 0 rfl) ?_
          refine lv_bipush (v := 57) hx hb dX5_kindOf_35 (by decide) ?_
          refine lv_icmp_gt (tgt := 42) hx hb dX5_kindOf_37 (by decide) (fun c_6 => ?_) (fun c_6 => ?_)
          · have ic_6 := zz_gt rfl (show Int32.toInt 57 = 57 from by decide) c_6
            refine lv_iload_n hx hb dX5_kindOf_42 rfl (lv_at hl 0 rfl) ?_
            refine lv_bipush (v := 59) hx hb dX5_kindOf_43 (by decide) ?_
            refine lv_icmp_ne (tgt := 52) hx hb dX5_kindOf_45 (by decide) (fun c_7 => ?_) (fun c_7 => ?_)
            · have ic_7 := zz_ne rfl (show Int32.toInt 59 = 59 from by decide) c_7
              refine lv_iconst (v := 4) hx hb dX5_kindOf_52 (by decide) ?_
              have zc : Int32.toInt 4 = 4 := by decide
              exact W.iret (v := 4) hx hb hr (fun t ht hW => by rw [← hQe]; exact ⟨⟨4, (), rfl, (by first | with_reducible assumption | omega), z_ret hP hK hD ht hW [] [] rfl (by decide) rfl⟩, hS.F ht⟩) hS.2.2 dX5_kindOf_53
            · have ic_7 := zz_nne rfl (show Int32.toInt 59 = 59 from by decide) c_7
              refine lv_iconst (v := 3) hx hb dX5_kindOf_48 (by decide) ?_
              refine lv_goto (tgt := 53) hx hb dX5_kindOf_49 (by decide) ?_
              have zc : Int32.toInt 3 = 3 := by decide
              exact W.iret (v := 3) hx hb hr (fun t ht hW => by rw [← hQe]; exact ⟨⟨3, (), rfl, (by first | with_reducible assumption | omega), z_ret hP hK hD ht hW [] [] rfl (by decide) rfl⟩, hS.F ht⟩) hS.2.2 dX5_kindOf_53
          · have ic_6 := zz_ngt rfl (show Int32.toInt 57 = 57 from by decide) c_6
            refine lv_iconst (v := 2) hx hb dX5_kindOf_40 (by decide) ?_
            have zc : Int32.toInt 2 = 2 := by decide
            exact W.iret (v := 2) hx hb hr (fun t ht hW => by rw [← hQe]; exact ⟨⟨2, (), rfl, (by first | with_reducible assumption | omega), z_ret hP hK hD ht hW [] [] rfl (by decide) rfl⟩, hS.F ht⟩) hS.2.2 dX5_kindOf_41
      · have ic_3 := zz_nlt rfl (show Int32.toInt 97 = 97 from by decide) c_3
        refine lv_iload_n hx hb dX5_kindOf_20 rfl (lv_at hl 0 rfl) ?_
        refine lv_bipush (v := 122) hx hb dX5_kindOf_21 (by decide) ?_
        refine lv_icmp_gt (tgt := 28) hx hb dX5_kindOf_23 (by decide) (fun c_8 => ?_) (fun c_8 => ?_)
        · have ic_8 := zz_gt rfl (show Int32.toInt 122 = 122 from by decide) c_8
          refine lv_iload_n hx hb dX5_kindOf_28 rfl (lv_at hl 0 rfl) ?_
          refine lv_bipush (v := 48) hx hb dX5_kindOf_29 (by decide) ?_
          refine lv_icmp_lt (tgt := 42) hx hb dX5_kindOf_31 (by decide) (fun q => absurd (zz_lt rfl (show Int32.toInt 48 = 48 from by decide) q) (by first | with_reducible assumption | omega)) (fun c_9 => ?_)
          have ic_9 := zz_nlt rfl (show Int32.toInt 48 = 48 from by decide) c_9
          refine lv_iload_n hx hb dX5_kindOf_34 rfl (lv_at hl 0 rfl) ?_
          refine lv_bipush (v := 57) hx hb dX5_kindOf_35 (by decide) ?_
          refine lv_icmp_gt (tgt := 42) hx hb dX5_kindOf_37 (by decide) (fun c_10 => ?_) (fun q => absurd (zz_ngt rfl (show Int32.toInt 57 = 57 from by decide) q) (by first | with_reducible assumption | omega))
          have ic_10 := zz_gt rfl (show Int32.toInt 57 = 57 from by decide) c_10
          refine lv_iload_n hx hb dX5_kindOf_42 rfl (lv_at hl 0 rfl) ?_
          refine lv_bipush (v := 59) hx hb dX5_kindOf_43 (by decide) ?_
          refine lv_icmp_ne (tgt := 52) hx hb dX5_kindOf_45 (by decide) (fun c_11 => ?_) (fun q => absurd (zz_nne rfl (show Int32.toInt 59 = 59 from by decide) q) (by first | with_reducible assumption | omega))
          have ic_11 := zz_ne rfl (show Int32.toInt 59 = 59 from by decide) c_11
          refine lv_iconst (v := 4) hx hb dX5_kindOf_52 (by decide) ?_
          have zc : Int32.toInt 4 = 4 := by decide
          exact W.iret (v := 4) hx hb hr (fun t ht hW => by rw [← hQe]; exact ⟨⟨4, (), rfl, (by first | with_reducible assumption | omega), z_ret hP hK hD ht hW [] [] rfl (by decide) rfl⟩, hS.F ht⟩) hS.2.2 dX5_kindOf_53
        · have ic_8 := zz_ngt rfl (show Int32.toInt 122 = 122 from by decide) c_8
          refine lv_iconst (v := 1) hx hb dX5_kindOf_26 (by decide) ?_
          have zc : Int32.toInt 1 = 1 := by decide
          exact W.iret (v := 1) hx hb hr (fun t ht hW => by rw [← hQe]; exact ⟨⟨1, (), rfl, (by first | with_reducible assumption | omega), z_ret hP hK hD ht hW [] [] rfl (by decide) rfl⟩, hS.F ht⟩) hS.2.2 dX5_kindOf_27
    · have ic_2 := zz_nne rfl (show Int32.toInt 10 = 10 from by decide) c_2
      refine lv_iconst (v := 0) hx hb dX5_kindOf_12 (by decide) ?_
      have zc : Int32.toInt 0 = 0 := by decide
      exact W.iret (v := 0) hx hb hr (fun t ht hW => by rw [← hQe]; exact ⟨⟨0, (), rfl, (by first | with_reducible assumption | omega), z_ret hP hK hD ht hW [] [] rfl (by decide) rfl⟩, hS.F ht⟩) hS.2.2 dX5_kindOf_13
set_option maxHeartbeats 4000000 in
set_option maxRecDepth 100000 in
theorem k_X5_addToken (l : Launch) (sa : Nat → Nat) (dC : Nat → ClassId) (dI : Nat → Nat → Nat) (rd : Nat) (p1 : Int32) (p2 : Int32) (rd_fault : Int32) (rd_place : Int32) (tx : Nat) (rd_kinds : Nat) (rd_starts : Nat) (rd_stops : Nat) (rd_values : Nat) (rd_tokens : Int32) (rd_at : Int32) (tn : Nat) (rd_strayCount : Int32) (rd_lawTold : Int32) (rd_falseTold : Int32) (cA_rd_kinds : ClassId) (f_rd_kinds : Nat → Int32) (cA_rd_starts : ClassId) (f_rd_starts : Nat → Int32) (cA_rd_values : ClassId) (f_rd_values : Nat → Int32) (b_p1 : 0 ≤ p1.toInt ∧ p1.toInt ≤ 5) (b_p2 : 0 ≤ p2.toInt ∧ p2.toInt ≤ 1599) (b_rd_tokens : 0 ≤ rd_tokens.toInt ∧ rd_tokens.toInt ≤ 1599) (b_rd_at : 0 ≤ rd_at.toInt ∧ rd_at.toInt ≤ 1600) (b_rd_strayCount : 0 ≤ rd_strayCount.toInt ∧ rd_strayCount.toInt ≤ 4) (b_rd_lawTold : 0 ≤ rd_lawTold.toInt ∧ rd_lawTold.toInt ≤ 1) (b_rd_falseTold : 0 ≤ rd_falseTold.toInt ∧ rd_falseTold.toInt ≤ 1) (b_f_rd_kinds : ∀ j : Nat, 0 ≤ (f_rd_kinds j).toInt ∧ (f_rd_kinds j).toInt ≤ 5) (b_f_rd_starts : ∀ j : Nat, 0 ≤ (f_rd_starts j).toInt ∧ (f_rd_starts j).toInt ≤ 1600) (b_f_rd_values : ∀ j : Nat, 0 ≤ (f_rd_values j).toInt ∧ (f_rd_values j).toInt ≤ 100000) (sz : Nat) : Met l yX5_addToken (.code yX5_addToken cX5_addToken 3 none :: zT) ({ frames := 0, cells := 0, slots := 0, locals := 0 }) (va_Pc [.ref rd, .int p1, .int p2] (zB sa dC dI (zV89 rd rd_fault rd_place tx rd_kinds rd_starts rd_stops rd_values rd_tokens rd_at tn rd_strayCount rd_lawTold rd_falseTold rd_kinds cA_rd_kinds f_rd_kinds rd_starts cA_rd_starts f_rd_starts rd_values cA_rd_values f_rd_values) [(cA_rd_kinds, .int), (cA_rd_starts, .int), (cA_rd_values, .int)] sz)) (va_Qv (fun _ : Unit => True) (fun _ t => ∃ (n_rd_7 : Int32) (n_rd_kinds : Nat → Int32) (n_rd_starts : Nat → Int32) (n_rd_values : Nat → Int32), (1 ≤ n_rd_7.toInt ∧ n_rd_7.toInt ≤ 1600) ∧ (∀ j : Nat, 0 ≤ (n_rd_kinds j).toInt ∧ (n_rd_kinds j).toInt ≤ 5) ∧ (∀ j : Nat, 0 ≤ (n_rd_starts j).toInt ∧ (n_rd_starts j).toInt ≤ 1600) ∧ (∀ j : Nat, 0 ≤ (n_rd_values j).toInt ∧ (n_rd_values j).toInt ≤ 100000) ∧ (n_rd_7.toInt = rd_tokens.toInt + 1) ∧ zW dC dI (zV89 rd rd_fault rd_place tx rd_kinds rd_starts rd_stops rd_values n_rd_7 rd_at tn rd_strayCount rd_lawTold rd_falseTold rd_kinds cA_rd_kinds n_rd_kinds rd_starts cA_rd_starts n_rd_starts rd_values cA_rd_values n_rd_values) [] (va_A (zV89 rd rd_fault rd_place tx rd_kinds rd_starts rd_stops rd_values rd_tokens rd_at tn rd_strayCount rd_lawTold rd_falseTold rd_kinds cA_rd_kinds f_rd_kinds rd_starts cA_rd_starts f_rd_starts rd_values cA_rd_values f_rd_values) sz) t) (va_A (zV89 rd rd_fault rd_place tx rd_kinds rd_starts rd_stops rd_values rd_tokens rd_at tn rd_strayCount rd_lawTold rd_falseTold rd_kinds cA_rd_kinds f_rd_kinds rd_starts cA_rd_starts f_rd_starts rd_values cA_rd_values f_rd_values) sz)) 0 0 (va_A (zV89 rd rd_fault rd_place tx rd_kinds rd_starts rd_stops rd_values rd_tokens rd_at tn rd_strayCount rd_lawTold rd_falseTold rd_kinds cA_rd_kinds f_rd_kinds rd_starts cA_rd_starts f_rd_starts rd_values cA_rd_values f_rd_values) sz) := by
  refine z_enter (by decide) (by exact (Nat.le_of_ble_eq_true rfl)) ?_
  intro p e s m args below meth c ls A R Qc hargs hsz hQe hAe hRe hx hb hml hr hts hown hlocks hin hl hP hK hD hN hXs hA hS
  rw [hAe] at hQe
  have hown : s.vm.findClass RX5 = some m.cls := hown
  have hl : lv_has ls 3 [(0, .ref rd), (1, .int p1), (2, .int p2)] := hl
  refine lv_aload_n hx hb dX5_addToken_0 rfl (lv_at hl 0 rfl) ?_
  refine va_get (D := (dC, dI)) (ci := 5) (v := .ref rd_kinds) (C := RX5) (T := TX5) (N := 13) hx hb hts zl_X5 hown hK hP 0 rfl rfl 3 (by decide) (hts _ zw_t1_198) (fun _ h9 => h9) rfl dX5_addToken_1 ?_
  refine lv_aload_n hx hb dX5_addToken_4 rfl (lv_at hl 0 rfl) ?_
  refine va_get (D := (dC, dI)) (ci := 5) (v := .int rd_tokens) (C := RX5) (T := TX5) (N := 13) hx hb hts zl_X5 hown hK hP 0 rfl rfl 7 (by decide) (hts _ zw_t1_202) (fun _ h9 => h9) rfl dX5_addToken_5 ?_
  refine lv_iload_n hx hb dX5_addToken_8 rfl (lv_at hl 1 rfl) ?_
  refine va_iast hx hb hK hP hD hS 1 0 rfl rfl (zi_in rfl (by first | with_reducible assumption | omega)) dX5_addToken_9 (fun H locs hP hD hS => ?_)
  obtain ⟨f_1, ef_1⟩ : ∃ g : Nat → Int32, g = upd f_rd_kinds (Int32.toNatClampNeg rd_tokens) p1 := ⟨_, rfl⟩
  have b_f_1 : ∀ j : Nat, 0 ≤ (f_1 j).toInt ∧ (f_1 j).toInt ≤ 5 := by rw [ef_1]; exact zi_upd b_f_rd_kinds rfl (by first | with_reducible assumption | omega)
  have hP : va_P (dC, dI) vwCl (zV89 rd rd_fault rd_place tx rd_kinds rd_starts rd_stops rd_values rd_tokens rd_at tn rd_strayCount rd_lawTold rd_falseTold rd_kinds cA_rd_kinds (upd f_rd_kinds (Int32.toNatClampNeg rd_tokens) p1) rd_starts cA_rd_starts f_rd_starts rd_values cA_rd_values f_rd_values) H := hP
  have hD : va_D A (zV89 rd rd_fault rd_place tx rd_kinds rd_starts rd_stops rd_values rd_tokens rd_at tn rd_strayCount rd_lawTold rd_falseTold rd_kinds cA_rd_kinds (upd f_rd_kinds (Int32.toNatClampNeg rd_tokens) p1) rd_starts cA_rd_starts f_rd_starts rd_values cA_rd_values f_rd_values) := hD
  rw [← ef_1] at hP hD
  refine lv_aload_n hx hb dX5_addToken_10 rfl (lv_at hl 0 rfl) ?_
  refine va_get (D := (dC, dI)) (ci := 5) (v := .ref rd_starts) (C := RX5) (T := TX5) (N := 13) hx hb hts zl_X5 hown hK hP 0 rfl rfl 4 (by decide) (hts _ zw_t1_199) (fun _ h9 => h9) rfl dX5_addToken_11 ?_
  refine lv_aload_n hx hb dX5_addToken_14 rfl (lv_at hl 0 rfl) ?_
  refine va_get (D := (dC, dI)) (ci := 5) (v := .int rd_tokens) (C := RX5) (T := TX5) (N := 13) hx hb hts zl_X5 hown hK hP 0 rfl rfl 7 (by decide) (hts _ zw_t1_202) (fun _ h9 => h9) rfl dX5_addToken_15 ?_
  refine lv_iload_n hx hb dX5_addToken_18 rfl (lv_at hl 2 rfl) ?_
  refine va_iast hx hb hK hP hD hS 2 1 rfl rfl (zi_in rfl (by first | with_reducible assumption | omega)) dX5_addToken_19 (fun H locs hP hD hS => ?_)
  obtain ⟨f_2, ef_2⟩ : ∃ g : Nat → Int32, g = upd f_rd_starts (Int32.toNatClampNeg rd_tokens) p2 := ⟨_, rfl⟩
  have b_f_2 : ∀ j : Nat, 0 ≤ (f_2 j).toInt ∧ (f_2 j).toInt ≤ 1600 := by rw [ef_2]; exact zi_upd b_f_rd_starts rfl (by first | with_reducible assumption | omega)
  have hP : va_P (dC, dI) vwCl (zV89 rd rd_fault rd_place tx rd_kinds rd_starts rd_stops rd_values rd_tokens rd_at tn rd_strayCount rd_lawTold rd_falseTold rd_kinds cA_rd_kinds f_1 rd_starts cA_rd_starts (upd f_rd_starts (Int32.toNatClampNeg rd_tokens) p2) rd_values cA_rd_values f_rd_values) H := hP
  have hD : va_D A (zV89 rd rd_fault rd_place tx rd_kinds rd_starts rd_stops rd_values rd_tokens rd_at tn rd_strayCount rd_lawTold rd_falseTold rd_kinds cA_rd_kinds f_1 rd_starts cA_rd_starts (upd f_rd_starts (Int32.toNatClampNeg rd_tokens) p2) rd_values cA_rd_values f_rd_values) := hD
  rw [← ef_2] at hP hD
  refine lv_aload_n hx hb dX5_addToken_20 rfl (lv_at hl 0 rfl) ?_
  refine va_get (D := (dC, dI)) (ci := 5) (v := .ref rd_values) (C := RX5) (T := TX5) (N := 13) hx hb hts zl_X5 hown hK hP 0 rfl rfl 6 (by decide) (hts _ zw_t1_201) (fun _ h9 => h9) rfl dX5_addToken_21 ?_
  refine lv_aload_n hx hb dX5_addToken_24 rfl (lv_at hl 0 rfl) ?_
  refine va_get (D := (dC, dI)) (ci := 5) (v := .int rd_tokens) (C := RX5) (T := TX5) (N := 13) hx hb hts zl_X5 hown hK hP 0 rfl rfl 7 (by decide) (hts _ zw_t1_202) (fun _ h9 => h9) rfl dX5_addToken_25 ?_
  refine lv_iconst (v := 0) hx hb dX5_addToken_28 (by decide) ?_
  refine va_iast hx hb hK hP hD hS 3 2 rfl rfl (zi_in rfl (by first | with_reducible assumption | omega)) dX5_addToken_29 (fun H locs hP hD hS => ?_)
  obtain ⟨f_3, ef_3⟩ : ∃ g : Nat → Int32, g = upd f_rd_values (Int32.toNatClampNeg rd_tokens) 0 := ⟨_, rfl⟩
  have b_f_3 : ∀ j : Nat, 0 ≤ (f_3 j).toInt ∧ (f_3 j).toInt ≤ 100000 := by rw [ef_3]; exact zi_upd b_f_rd_values (show Int32.toInt 0 = 0 from by decide) (by first | with_reducible assumption | omega)
  have hP : va_P (dC, dI) vwCl (zV89 rd rd_fault rd_place tx rd_kinds rd_starts rd_stops rd_values rd_tokens rd_at tn rd_strayCount rd_lawTold rd_falseTold rd_kinds cA_rd_kinds f_1 rd_starts cA_rd_starts f_2 rd_values cA_rd_values (upd f_rd_values (Int32.toNatClampNeg rd_tokens) 0)) H := hP
  have hD : va_D A (zV89 rd rd_fault rd_place tx rd_kinds rd_starts rd_stops rd_values rd_tokens rd_at tn rd_strayCount rd_lawTold rd_falseTold rd_kinds cA_rd_kinds f_1 rd_starts cA_rd_starts f_2 rd_values cA_rd_values (upd f_rd_values (Int32.toNatClampNeg rd_tokens) 0)) := hD
  rw [← ef_3] at hP hD
  refine lv_aload_n hx hb dX5_addToken_30 rfl (lv_at hl 0 rfl) ?_
  refine lv_dup hx hb dX5_addToken_31 rfl ?_
  refine va_get (D := (dC, dI)) (ci := 5) (v := .int rd_tokens) (C := RX5) (T := TX5) (N := 13) hx hb hts zl_X5 hown hK hP 0 rfl rfl 7 (by decide) (hts _ zw_t1_202) (fun _ h9 => h9) rfl dX5_addToken_32 ?_
  refine lv_iconst (v := 1) hx hb dX5_addToken_35 (by decide) ?_
  refine lv_iadd hx hb dX5_addToken_36 ?_
  refine lv_topi (fun x_4 ex_4 => ?_)
  have b_x_4 : x_4.toInt = rd_tokens.toInt + 1 := by rw [ex_4]; exact zi_add rfl (show Int32.toInt 1 = 1 from by decide) (by first | with_reducible assumption | omega)
  refine va_put (D := (dC, dI)) (ci := 5) (v := .int x_4) (ty := .int) (C := RX5) (T := TX5) (N := 13) hx hb hts zl_X5 tyX5 tyX5_ok nmX5 hown hK hP hD hS 0 rfl rfl 7 (by decide) (hts _ zw_t1_202) (fun _ h9 => h9) rfl (by decide +kernel) rfl rfl (Nat.le_of_ble_eq_true rfl) dX5_addToken_37 (fun H locs hP hD hS => ?_)
  have hP : va_P (dC, dI) vwCl (zV89 rd rd_fault rd_place tx rd_kinds rd_starts rd_stops rd_values x_4 rd_at tn rd_strayCount rd_lawTold rd_falseTold rd_kinds cA_rd_kinds f_1 rd_starts cA_rd_starts f_2 rd_values cA_rd_values f_3) H := hP
  have hD : va_D A (zV89 rd rd_fault rd_place tx rd_kinds rd_starts rd_stops rd_values x_4 rd_at tn rd_strayCount rd_lawTold rd_falseTold rd_kinds cA_rd_kinds f_1 rd_starts cA_rd_starts f_2 rd_values cA_rd_values f_3) := hD
  exact W.vret hx hb hr (fun t ht hW => by rw [← hQe]; exact ⟨⟨(), rfl, trivial, ⟨x_4, f_1, f_2, f_3, (by first | with_reducible assumption | omega), b_f_1, b_f_2, b_f_3, (by first | with_reducible assumption | omega), z_ret hP hK hD ht hW [0, 1, 2, 3] [] rfl (by decide) rfl⟩⟩, hS.F ht⟩) hS.2.2 dX5_addToken_40
set_option maxHeartbeats 4000000 in
set_option maxRecDepth 100000 in
theorem k_X5_blame (l : Launch) (sa : Nat → Nat) (dC : Nat → ClassId) (dI : Nat → Nat → Nat) (rd : Nat) (p1 : Int32) (rd_fault : Int32) (rd_place : Int32) (tx : Nat) (rd_kinds : Nat) (rd_starts : Nat) (rd_stops : Nat) (rd_values : Nat) (rd_tokens : Int32) (rd_at : Int32) (tn : Nat) (rd_strayCount : Int32) (rd_lawTold : Int32) (rd_falseTold : Int32) (cA_rd_starts : ClassId) (f_rd_starts : Nat → Int32) (b_p1 : 1 ≤ p1.toInt ∧ p1.toInt ≤ 3) (b_rd_tokens : 0 ≤ rd_tokens.toInt ∧ rd_tokens.toInt ≤ 1600) (b_rd_at : 0 ≤ rd_at.toInt ∧ rd_at.toInt ≤ 1600) (b_rd_strayCount : 0 ≤ rd_strayCount.toInt ∧ rd_strayCount.toInt ≤ 4) (b_rd_lawTold : 0 ≤ rd_lawTold.toInt ∧ rd_lawTold.toInt ≤ 1) (b_rd_falseTold : 0 ≤ rd_falseTold.toInt ∧ rd_falseTold.toInt ≤ 1) (b_f_rd_starts : ∀ j : Nat, 0 ≤ (f_rd_starts j).toInt ∧ (f_rd_starts j).toInt ≤ 1600) (sz : Nat) : Met l yX5_blame (.code yX5_blame cX5_blame 2 none :: zT) ({ frames := 0, cells := 0, slots := 0, locals := 0 }) (va_Pc [.ref rd, .int p1] (zB sa dC dI (zV90 rd rd_fault rd_place tx rd_kinds rd_starts rd_stops rd_values rd_tokens rd_at tn rd_strayCount rd_lawTold rd_falseTold rd_starts cA_rd_starts f_rd_starts) [(cA_rd_starts, .int)] sz)) (va_Qv (fun _ : Unit => True) (fun _ t => ∃ (n_rd_0 : Int32) (n_rd_1 : Int32), (¬ n_rd_0.toInt = 0) ∧ zW dC dI (zV90 rd n_rd_0 n_rd_1 tx rd_kinds rd_starts rd_stops rd_values rd_tokens rd_at tn rd_strayCount rd_lawTold rd_falseTold rd_starts cA_rd_starts f_rd_starts) [] (va_A (zV90 rd rd_fault rd_place tx rd_kinds rd_starts rd_stops rd_values rd_tokens rd_at tn rd_strayCount rd_lawTold rd_falseTold rd_starts cA_rd_starts f_rd_starts) sz) t) (va_A (zV90 rd rd_fault rd_place tx rd_kinds rd_starts rd_stops rd_values rd_tokens rd_at tn rd_strayCount rd_lawTold rd_falseTold rd_starts cA_rd_starts f_rd_starts) sz)) 0 0 (va_A (zV90 rd rd_fault rd_place tx rd_kinds rd_starts rd_stops rd_values rd_tokens rd_at tn rd_strayCount rd_lawTold rd_falseTold rd_starts cA_rd_starts f_rd_starts) sz) := by
  refine z_enter (by decide) (by exact (Nat.le_of_ble_eq_true rfl)) ?_
  intro p e s m args below meth c ls A R Qc hargs hsz hQe hAe hRe hx hb hml hr hts hown hlocks hin hl hP hK hD hN hXs hA hS
  rw [hAe] at hQe
  have hown : s.vm.findClass RX5 = some m.cls := hown
  have hl : lv_has ls 2 [(0, .ref rd), (1, .int p1)] := hl
  refine lv_aload_n hx hb dX5_blame_0 rfl (lv_at hl 0 rfl) ?_
  refine va_get (D := (dC, dI)) (ci := 5) (v := .int rd_fault) (C := RX5) (T := TX5) (N := 13) hx hb hts zl_X5 hown hK hP 0 rfl rfl 0 (by decide) (hts _ zw_t1_193) (fun _ h9 => h9) rfl dX5_blame_1 ?_
  have nb_rd_fault := zi_nb rd_fault
  refine lv_if_ne (tgt := 25) hx hb dX5_blame_4 (by decide) (fun c_1 => ?_) (fun c_1 => ?_)
  · have ic_1 := zz_ne rfl (show Int32.toInt 0 = 0 from by decide) c_1
    exact W.vret hx hb hr (fun t ht hW => by rw [← hQe]; exact ⟨⟨(), rfl, trivial, ⟨rd_fault, rd_place, (by first | with_reducible assumption | omega), z_ret hP hK hD ht hW [0, 1] [] rfl (by decide) rfl⟩⟩, hS.F ht⟩) hS.2.2 dX5_blame_25
  · have ic_1 := zz_nne rfl (show Int32.toInt 0 = 0 from by decide) c_1
    refine lv_aload_n hx hb dX5_blame_7 rfl (lv_at hl 0 rfl) ?_
    refine lv_iload_n hx hb dX5_blame_8 rfl (lv_at hl 1 rfl) ?_
    refine va_put (D := (dC, dI)) (ci := 5) (v := .int p1) (ty := .int) (C := RX5) (T := TX5) (N := 13) hx hb hts zl_X5 tyX5 tyX5_ok nmX5 hown hK hP hD hS 0 rfl rfl 0 (by decide) (hts _ zw_t1_193) (fun _ h9 => h9) rfl (by decide +kernel) rfl rfl (Nat.le_of_ble_eq_true rfl) dX5_blame_9 (fun H locs hP hD hS => ?_)
    have hP : va_P (dC, dI) vwCl (zV90 rd p1 rd_place tx rd_kinds rd_starts rd_stops rd_values rd_tokens rd_at tn rd_strayCount rd_lawTold rd_falseTold rd_starts cA_rd_starts f_rd_starts) H := hP
    have hD : va_D A (zV90 rd p1 rd_place tx rd_kinds rd_starts rd_stops rd_values rd_tokens rd_at tn rd_strayCount rd_lawTold rd_falseTold rd_starts cA_rd_starts f_rd_starts) := hD
    refine lv_aload_n hx hb dX5_blame_12 rfl (lv_at hl 0 rfl) ?_
    refine lv_aload_n hx hb dX5_blame_13 rfl (lv_at hl 0 rfl) ?_
    refine va_get (D := (dC, dI)) (ci := 5) (v := .ref rd_starts) (C := RX5) (T := TX5) (N := 13) hx hb hts zl_X5 hown hK hP 0 rfl rfl 4 (by decide) (hts _ zw_t1_199) (fun _ h9 => h9) rfl dX5_blame_14 ?_
    refine lv_aload_n hx hb dX5_blame_17 rfl (lv_at hl 0 rfl) ?_
    refine va_get (D := (dC, dI)) (ci := 5) (v := .int rd_at) (C := RX5) (T := TX5) (N := 13) hx hb hts zl_X5 hown hK hP 0 rfl rfl 8 (by decide) (hts _ zw_t1_203) (fun _ h9 => h9) rfl dX5_blame_18 ?_
    refine va_iald hx hb hK hP 1 0 rfl rfl (zi_in rfl (by first | with_reducible assumption | omega)) dX5_blame_21 ?_
    refine lv_topi (fun x_2 ex_2 => ?_)
    have b_x_2 : 0 ≤ x_2.toInt ∧ x_2.toInt ≤ 1600 := by rw [ex_2]; exact b_f_rd_starts _
    refine va_put (D := (dC, dI)) (ci := 5) (v := .int x_2) (ty := .int) (C := RX5) (T := TX5) (N := 13) hx hb hts zl_X5 tyX5 tyX5_ok nmX5 hown hK hP hD hS 0 rfl rfl 1 (by decide) (hts _ zw_t1_195) (fun _ h9 => h9) rfl (by decide +kernel) rfl rfl (Nat.le_of_ble_eq_true rfl) dX5_blame_22 (fun H locs hP hD hS => ?_)
    have hP : va_P (dC, dI) vwCl (zV90 rd p1 x_2 tx rd_kinds rd_starts rd_stops rd_values rd_tokens rd_at tn rd_strayCount rd_lawTold rd_falseTold rd_starts cA_rd_starts f_rd_starts) H := hP
    have hD : va_D A (zV90 rd p1 x_2 tx rd_kinds rd_starts rd_stops rd_values rd_tokens rd_at tn rd_strayCount rd_lawTold rd_falseTold rd_starts cA_rd_starts f_rd_starts) := hD
    exact W.vret hx hb hr (fun t ht hW => by rw [← hQe]; exact ⟨⟨(), rfl, trivial, ⟨p1, x_2, (by first | with_reducible assumption | omega), z_ret hP hK hD ht hW [0, 1] [] rfl (by decide) rfl⟩⟩, hS.F ht⟩) hS.2.2 dX5_blame_25
set_option maxHeartbeats 4000000 in
set_option maxRecDepth 100000 in
theorem k_X5_advance (l : Launch) (sa : Nat → Nat) (dC : Nat → ClassId) (dI : Nat → Nat → Nat) (rd : Nat) (rd_fault : Int32) (rd_place : Int32) (tx : Nat) (rd_kinds : Nat) (rd_starts : Nat) (rd_stops : Nat) (rd_values : Nat) (rd_tokens : Int32) (rd_at : Int32) (tn : Nat) (rd_strayCount : Int32) (rd_lawTold : Int32) (rd_falseTold : Int32) (b_rd_tokens : 0 ≤ rd_tokens.toInt ∧ rd_tokens.toInt ≤ 1600) (b_rd_at : 0 ≤ rd_at.toInt ∧ rd_at.toInt ≤ 1600) (b_rd_strayCount : 0 ≤ rd_strayCount.toInt ∧ rd_strayCount.toInt ≤ 4) (b_rd_lawTold : 0 ≤ rd_lawTold.toInt ∧ rd_lawTold.toInt ≤ 1) (b_rd_falseTold : 0 ≤ rd_falseTold.toInt ∧ rd_falseTold.toInt ≤ 1) (sz : Nat) : Met l yX5_advance (.code yX5_advance cX5_advance 1 none :: zT) ({ frames := 0, cells := 0, slots := 0, locals := 0 }) (va_Pc [.ref rd] (zB sa dC dI (zV91 rd rd_fault rd_place tx rd_kinds rd_starts rd_stops rd_values rd_tokens rd_at tn rd_strayCount rd_lawTold rd_falseTold) [] sz)) (va_Qv (fun _ : Unit => True) (fun _ t => ∃ (n_rd_8 : Int32), (0 ≤ n_rd_8.toInt ∧ n_rd_8.toInt ≤ 1600) ∧ zW dC dI (zV91 rd rd_fault rd_place tx rd_kinds rd_starts rd_stops rd_values rd_tokens n_rd_8 tn rd_strayCount rd_lawTold rd_falseTold) [] (va_A (zV91 rd rd_fault rd_place tx rd_kinds rd_starts rd_stops rd_values rd_tokens rd_at tn rd_strayCount rd_lawTold rd_falseTold) sz) t) (va_A (zV91 rd rd_fault rd_place tx rd_kinds rd_starts rd_stops rd_values rd_tokens rd_at tn rd_strayCount rd_lawTold rd_falseTold) sz)) 0 0 (va_A (zV91 rd rd_fault rd_place tx rd_kinds rd_starts rd_stops rd_values rd_tokens rd_at tn rd_strayCount rd_lawTold rd_falseTold) sz) := by
  refine z_enter (by decide) (by exact (Nat.le_of_ble_eq_true rfl)) ?_
  intro p e s m args below meth c ls A R Qc hargs hsz hQe hAe hRe hx hb hml hr hts hown hlocks hin hl hP hK hD hN hXs hA hS
  rw [hAe] at hQe
  have hown : s.vm.findClass RX5 = some m.cls := hown
  have hl : lv_has ls 1 [(0, .ref rd)] := hl
  refine lv_aload_n hx hb dX5_advance_0 rfl (lv_at hl 0 rfl) ?_
  refine va_get (D := (dC, dI)) (ci := 5) (v := .int rd_fault) (C := RX5) (T := TX5) (N := 13) hx hb hts zl_X5 hown hK hP 0 rfl rfl 0 (by decide) (hts _ zw_t1_193) (fun _ h9 => h9) rfl dX5_advance_1 ?_
  have nb_rd_fault := zi_nb rd_fault
  refine lv_if_ne (tgt := 28) hx hb dX5_advance_4 (by decide) (fun c_1 => ?_) (fun c_1 => ?_)
  · have ic_1 := zz_ne rfl (show Int32.toInt 0 = 0 from by decide) c_1
    exact W.vret hx hb hr (fun t ht hW => by rw [← hQe]; exact ⟨⟨(), rfl, trivial, ⟨rd_at, (by first | with_reducible assumption | omega), z_ret hP hK hD ht hW [0] [] rfl (by decide) rfl⟩⟩, hS.F ht⟩) hS.2.2 dX5_advance_28
  · have ic_1 := zz_nne rfl (show Int32.toInt 0 = 0 from by decide) c_1
    refine lv_aload_n hx hb dX5_advance_7 rfl (lv_at hl 0 rfl) ?_
    refine va_get (D := (dC, dI)) (ci := 5) (v := .int rd_at) (C := RX5) (T := TX5) (N := 13) hx hb hts zl_X5 hown hK hP 0 rfl rfl 8 (by decide) (hts _ zw_t1_203) (fun _ h9 => h9) rfl dX5_advance_8 ?_
    refine lv_aload_n hx hb dX5_advance_11 rfl (lv_at hl 0 rfl) ?_
    refine va_get (D := (dC, dI)) (ci := 5) (v := .int rd_tokens) (C := RX5) (T := TX5) (N := 13) hx hb hts zl_X5 hown hK hP 0 rfl rfl 7 (by decide) (hts _ zw_t1_202) (fun _ h9 => h9) rfl dX5_advance_12 ?_
    refine lv_icmp_ge (tgt := 28) hx hb dX5_advance_15 (by decide) (fun c_2 => ?_) (fun c_2 => ?_)
    · have ic_2 := zz_ge rfl rfl c_2
      exact W.vret hx hb hr (fun t ht hW => by rw [← hQe]; exact ⟨⟨(), rfl, trivial, ⟨rd_at, (by first | with_reducible assumption | omega), z_ret hP hK hD ht hW [0] [] rfl (by decide) rfl⟩⟩, hS.F ht⟩) hS.2.2 dX5_advance_28
    · have ic_2 := zz_nge rfl rfl c_2
      refine lv_aload_n hx hb dX5_advance_18 rfl (lv_at hl 0 rfl) ?_
      refine lv_dup hx hb dX5_advance_19 rfl ?_
      refine va_get (D := (dC, dI)) (ci := 5) (v := .int rd_at) (C := RX5) (T := TX5) (N := 13) hx hb hts zl_X5 hown hK hP 0 rfl rfl 8 (by decide) (hts _ zw_t1_203) (fun _ h9 => h9) rfl dX5_advance_20 ?_
      refine lv_iconst (v := 1) hx hb dX5_advance_23 (by decide) ?_
      refine lv_iadd hx hb dX5_advance_24 ?_
      refine lv_topi (fun x_3 ex_3 => ?_)
      have b_x_3 : x_3.toInt = rd_at.toInt + 1 := by rw [ex_3]; exact zi_add rfl (show Int32.toInt 1 = 1 from by decide) (by first | with_reducible assumption | omega)
      refine va_put (D := (dC, dI)) (ci := 5) (v := .int x_3) (ty := .int) (C := RX5) (T := TX5) (N := 13) hx hb hts zl_X5 tyX5 tyX5_ok nmX5 hown hK hP hD hS 0 rfl rfl 8 (by decide) (hts _ zw_t1_203) (fun _ h9 => h9) rfl (by decide +kernel) rfl rfl (Nat.le_of_ble_eq_true rfl) dX5_advance_25 (fun H locs hP hD hS => ?_)
      have hP : va_P (dC, dI) vwCl (zV91 rd rd_fault rd_place tx rd_kinds rd_starts rd_stops rd_values rd_tokens x_3 tn rd_strayCount rd_lawTold rd_falseTold) H := hP
      have hD : va_D A (zV91 rd rd_fault rd_place tx rd_kinds rd_starts rd_stops rd_values rd_tokens x_3 tn rd_strayCount rd_lawTold rd_falseTold) := hD
      exact W.vret hx hb hr (fun t ht hW => by rw [← hQe]; exact ⟨⟨(), rfl, trivial, ⟨x_3, (by first | with_reducible assumption | omega), z_ret hP hK hD ht hW [0] [] rfl (by decide) rfl⟩⟩, hS.F ht⟩) hS.2.2 dX5_advance_28
set_option maxHeartbeats 4000000 in
set_option maxRecDepth 100000 in
theorem k_X5_isWord (l : Launch) (sa : Nat → Nat) (dC : Nat → ClassId) (dI : Nat → Nat → Nat) (rd : Nat) (rd_fault : Int32) (rd_place : Int32) (tx : Nat) (rd_kinds : Nat) (rd_starts : Nat) (rd_stops : Nat) (rd_values : Nat) (rd_tokens : Int32) (rd_at : Int32) (tn : Nat) (rd_strayCount : Int32) (rd_lawTold : Int32) (rd_falseTold : Int32) (cA_rd_kinds : ClassId) (f_rd_kinds : Nat → Int32) (cA_rd_starts : ClassId) (f_rd_starts : Nat → Int32) (cA_rd_stops : ClassId) (f_rd_stops : Nat → Int32) (cA_tx : ClassId) (f_tx : Nat → Int32) (wi : Nat) (b_rd_tokens : 0 ≤ rd_tokens.toInt ∧ rd_tokens.toInt ≤ 1600) (b_rd_at : 0 ≤ rd_at.toInt ∧ rd_at.toInt ≤ 1600) (b_rd_strayCount : 0 ≤ rd_strayCount.toInt ∧ rd_strayCount.toInt ≤ 4) (b_rd_lawTold : 0 ≤ rd_lawTold.toInt ∧ rd_lawTold.toInt ≤ 1) (b_rd_falseTold : 0 ≤ rd_falseTold.toInt ∧ rd_falseTold.toInt ≤ 1) (b_f_rd_kinds : ∀ j : Nat, 0 ≤ (f_rd_kinds j).toInt ∧ (f_rd_kinds j).toInt ≤ 5) (b_f_rd_starts : ∀ j : Nat, 0 ≤ (f_rd_starts j).toInt ∧ (f_rd_starts j).toInt ≤ 1600) (b_f_rd_stops : ∀ j : Nat, 0 ≤ (f_rd_stops j).toInt ∧ (f_rd_stops j).toInt ≤ 1600) (hwi : wi < 14) (sz : Nat) : Met l yX5_isWord (.code yX5_isWord cX5_isWord 3 (some .boolean) :: zT) ({ frames := 4, cells := 0, slots := 0, locals := 85 }) (va_Pc [.ref rd, .ref (sa (2 + 2 * wi))] (zB sa dC dI (zV92 rd rd_fault rd_place tx rd_kinds rd_starts rd_stops rd_values rd_tokens rd_at tn rd_strayCount rd_lawTold rd_falseTold rd_kinds cA_rd_kinds f_rd_kinds rd_starts cA_rd_starts f_rd_starts rd_stops cA_rd_stops f_rd_stops tx cA_tx f_tx) [(cA_rd_kinds, .int), (cA_rd_starts, .int), (cA_rd_stops, .int), (cA_tx, .byte)] sz)) (va_Qi (fun (r : Int32) (_ : Unit) => (0 ≤ r.toInt ∧ r.toInt ≤ 1)) (fun _ t => zW dC dI (zV92 rd rd_fault rd_place tx rd_kinds rd_starts rd_stops rd_values rd_tokens rd_at tn rd_strayCount rd_lawTold rd_falseTold rd_kinds cA_rd_kinds f_rd_kinds rd_starts cA_rd_starts f_rd_starts rd_stops cA_rd_stops f_rd_stops tx cA_tx f_tx) [] (va_A (zV92 rd rd_fault rd_place tx rd_kinds rd_starts rd_stops rd_values rd_tokens rd_at tn rd_strayCount rd_lawTold rd_falseTold rd_kinds cA_rd_kinds f_rd_kinds rd_starts cA_rd_starts f_rd_starts rd_stops cA_rd_stops f_rd_stops tx cA_tx f_tx) sz) t) (va_A (zV92 rd rd_fault rd_place tx rd_kinds rd_starts rd_stops rd_values rd_tokens rd_at tn rd_strayCount rd_lawTold rd_falseTold rd_kinds cA_rd_kinds f_rd_kinds rd_starts cA_rd_starts f_rd_starts rd_stops cA_rd_stops f_rd_stops tx cA_tx f_tx) sz)) 0 0 (va_A (zV92 rd rd_fault rd_place tx rd_kinds rd_starts rd_stops rd_values rd_tokens rd_at tn rd_strayCount rd_lawTold rd_falseTold rd_kinds cA_rd_kinds f_rd_kinds rd_starts cA_rd_starts f_rd_starts rd_stops cA_rd_stops f_rd_stops tx cA_tx f_tx) sz) := by
  refine z_enter (by decide) (by exact (Nat.le_of_ble_eq_true rfl)) ?_
  intro p e s m args below meth c ls A R Qc hargs hsz hQe hAe hRe hx hb hml hr hts hown hlocks hin hl hP hK hD hN hXs hA hS
  rw [hAe] at hQe
  have hown : s.vm.findClass RX5 = some m.cls := hown
  have hl : lv_has ls 3 [(0, .ref rd), (1, .ref (sa (2 + 2 * wi)))] := hl
  refine lv_aload_n hx hb dX5_isWord_0 rfl (lv_at hl 0 rfl) ?_
  refine va_get (D := (dC, dI)) (ci := 5) (v := .ref rd_kinds) (C := RX5) (T := TX5) (N := 13) hx hb hts zl_X5 hown hK hP 0 rfl rfl 3 (by decide) (hts _ zw_t1_198) (fun _ h9 => h9) rfl dX5_isWord_1 ?_
  refine lv_aload_n hx hb dX5_isWord_4 rfl (lv_at hl 0 rfl) ?_
  refine va_get (D := (dC, dI)) (ci := 5) (v := .int rd_at) (C := RX5) (T := TX5) (N := 13) hx hb hts zl_X5 hown hK hP 0 rfl rfl 8 (by decide) (hts _ zw_t1_203) (fun _ h9 => h9) rfl dX5_isWord_5 ?_
  refine va_iald hx hb hK hP 1 0 rfl rfl (zi_in rfl (by first | with_reducible assumption | omega)) dX5_isWord_8 ?_
  refine lv_topi (fun x_1 ex_1 => ?_)
  have b_x_1 : 0 ≤ x_1.toInt ∧ x_1.toInt ≤ 5 := by rw [ex_1]; exact b_f_rd_kinds _
  refine lv_iconst (v := 1) hx hb dX5_isWord_9 (by decide) ?_
  refine lv_icmp_ne (tgt := 39) hx hb dX5_isWord_10 (by decide) (fun c_2 => ?_) (fun c_2 => ?_)
  · have ic_2 := zz_ne rfl (show Int32.toInt 1 = 1 from by decide) c_2
    refine lv_iconst (v := 0) hx hb dX5_isWord_39 (by decide) ?_
    exact W.zret (v := 0) hx hb hr (by decide) (fun t ht hW => by rw [← hQe]; exact ⟨⟨0, (), rfl, (by decide), z_ret hP hK hD ht hW [0, 1, 2, 3, 4] [] rfl (by decide) rfl⟩, hS.F ht⟩) hS.2.2 dX5_isWord_40
  · have ic_2 := zz_nne rfl (show Int32.toInt 1 = 1 from by decide) c_2
    refine lv_aload_n hx hb dX5_isWord_13 rfl (lv_at hl 0 rfl) ?_
    refine va_get (D := (dC, dI)) (ci := 5) (v := .ref rd_stops) (C := RX5) (T := TX5) (N := 13) hx hb hts zl_X5 hown hK hP 0 rfl rfl 5 (by decide) (hts _ zw_t1_200) (fun _ h9 => h9) rfl dX5_isWord_14 ?_
    refine lv_aload_n hx hb dX5_isWord_17 rfl (lv_at hl 0 rfl) ?_
    refine va_get (D := (dC, dI)) (ci := 5) (v := .int rd_at) (C := RX5) (T := TX5) (N := 13) hx hb hts zl_X5 hown hK hP 0 rfl rfl 8 (by decide) (hts _ zw_t1_203) (fun _ h9 => h9) rfl dX5_isWord_18 ?_
    refine va_iald hx hb hK hP 3 2 rfl rfl (zi_in rfl (by first | with_reducible assumption | omega)) dX5_isWord_21 ?_
    refine lv_topi (fun x_3 ex_3 => ?_)
    have b_x_3 : 0 ≤ x_3.toInt ∧ x_3.toInt ≤ 1600 := by rw [ex_3]; exact b_f_rd_stops _
    refine lv_aload_n hx hb dX5_isWord_22 rfl (lv_at hl 0 rfl) ?_
    refine va_get (D := (dC, dI)) (ci := 5) (v := .ref rd_starts) (C := RX5) (T := TX5) (N := 13) hx hb hts zl_X5 hown hK hP 0 rfl rfl 4 (by decide) (hts _ zw_t1_199) (fun _ h9 => h9) rfl dX5_isWord_23 ?_
    refine lv_aload_n hx hb dX5_isWord_26 rfl (lv_at hl 0 rfl) ?_
    refine va_get (D := (dC, dI)) (ci := 5) (v := .int rd_at) (C := RX5) (T := TX5) (N := 13) hx hb hts zl_X5 hown hK hP 0 rfl rfl 8 (by decide) (hts _ zw_t1_203) (fun _ h9 => h9) rfl dX5_isWord_27 ?_
    refine va_iald hx hb hK hP 2 1 rfl rfl (zi_in rfl (by first | with_reducible assumption | omega)) dX5_isWord_30 ?_
    refine lv_topi (fun x_4 ex_4 => ?_)
    have b_x_4 : 0 ≤ x_4.toInt ∧ x_4.toInt ≤ 1600 := by rw [ex_4]; exact b_f_rd_starts _
    refine lv_isub hx hb dX5_isWord_31 ?_
    refine lv_topi (fun x_5 ex_5 => ?_)
    have b_x_5 : x_5.toInt = x_3.toInt - x_4.toInt := by rw [ex_5]; exact zi_sub rfl rfl (by first | with_reducible assumption | omega)
    refine lv_aload_n hx hb dX5_isWord_32 rfl (lv_at hl 1 rfl) ?_
    obtain ⟨hPc, hDc, hFc⟩ := z_cut (wc := []) hP hD hS hA [] rfl (by decide +kernel)
    have hKc := hK.sub (tys' := []) [] rfl
    refine va_calli (va_runV (As := []) (rest := [.int x_5]) ⟨hx, hb, hml, hown, hts⟩ (k_J0_length_8abf5 l sa dC dI wi hwi s.heap.size) (cwV 0 hts (z_gV zw_t3_41 zw_t3_42 zw_t3_43 zw_t1_13 zw_t3_44) rfl rfl rfl (by decide +kernel) (by rw [← hRe]; exact ⟨(Nat.le_of_ble_eq_true rfl), (Nat.le_of_ble_eq_true rfl)⟩)) (z_preK hPc hKc hDc hN hXs hS hFc (vk_recv (adK := fun i => sa (2 + 2 * i)) (i := wi) hXs.2.2.2.2.2.2.1 hwi hS)) rfl rfl hl.1 rfl (lv_room (Nat.le_of_ble_eq_true rfl)) dX5_isWord_33 (by rw [← hRe]; exact ⟨(Nat.le_of_ble_eq_true rfl), (Nat.le_of_ble_eq_true rfl)⟩)) hS (fun q _ h => hFc q h) hFc (fun r_6 u t H1 locs ht hvm hw hB hz1 hk1 hS => ?_)
    obtain ⟨hP, hD, hK⟩ := z_after3 (wn := (zV92 rd rd_fault rd_place tx rd_kinds rd_starts rd_stops rd_values rd_tokens rd_at tn rd_strayCount rd_lawTold rd_falseTold rd_kinds cA_rd_kinds f_rd_kinds rd_starts cA_rd_starts f_rd_starts rd_stops cA_rd_stops f_rd_stops tx cA_tx f_tx)) hB ht hvm hP hD hK [] [0, 1, 2, 3, 4] rfl 5 rfl (by decide +kernel) rfl (by decide +kernel) hk1 hFc
    generalize H1 = H at hP hS ⊢
    have hK : va_K (dC, dI) vwCl [(cA_rd_kinds, .int), (cA_rd_starts, .int), (cA_rd_stops, .int), (cA_tx, .byte)] s := hK
    have b_r_6 : 2 ≤ r_6.toInt ∧ r_6.toInt ≤ 6 := hw.1
    have s_r_6 := hw.2
    refine lv_icmp_eq (tgt := 41) hx hb dX5_isWord_36 (by decide) (fun c_7 => ?_) (fun c_7 => ?_)
    · have ic_7 := zz_eq rfl rfl c_7
      refine lv_iconst (v := 0) hx hb dX5_isWord_41 (by decide) ?_
      refine lv_istore_n (lv' := [(2, .int 0), (0, .ref rd), (1, .ref (sa (2 + 2 * wi)))]) hx hb dX5_isWord_42 rfl hl (by decide) rfl (fun ls hl => ?_)
      have loop_1 : ∀ (t : Nat) (v2_8 : Int32) (b_v2_8 : 0 ≤ v2_8.toInt ∧ v2_8.toInt ≤ 6) (H : Heap) (locs : List Loc) (ls : Array Slot), 6 - v2_8.toInt < (t : Int) → va_P (dC, dI) vwCl (zV92 rd rd_fault rd_place tx rd_kinds rd_starts rd_stops rd_values rd_tokens rd_at tn rd_strayCount rd_lawTold rd_falseTold rd_kinds cA_rd_kinds f_rd_kinds rd_starts cA_rd_starts f_rd_starts rd_stops cA_rd_stops f_rd_stops tx cA_tx f_tx) H → va_D A (zV92 rd rd_fault rd_place tx rd_kinds rd_starts rd_stops rd_values rd_tokens rd_at tn rd_strayCount rd_lawTold rd_falseTold rd_kinds cA_rd_kinds f_rd_kinds rd_starts cA_rd_starts f_rd_starts rd_stops cA_rd_stops f_rd_stops tx cA_tx f_tx) → va_S A s.heap H locs → lv_has ls 3 [(0, .ref rd), (1, .ref (sa (2 + 2 * wi))), (2, .int v2_8)] → W p l e R s m args below meth c H locs 0 0 (MQ below Qc args s 0 0 A) (F0 m 43 ls []) := by
        intro t
        induction t with
        | zero => intro v2_8 b_v2_8 H locs ls hmu _ _ _ _; exact absurd hmu (by first | with_reducible assumption | omega)
        | succ t ih_1 =>
          intro v2_8 b_v2_8 H locs ls hmu hP hD hS hl
          refine lv_iload_n hx hb dX5_isWord_43 rfl (lv_at hl 2 rfl) ?_
          refine lv_aload_n hx hb dX5_isWord_44 rfl (lv_at hl 1 rfl) ?_
          obtain ⟨hPc, hDc, hFc⟩ := z_cut (wc := []) hP hD hS hA [] rfl (by decide +kernel)
          have hKc := hK.sub (tys' := []) [] rfl
          refine va_calli (va_runV (As := []) (rest := [.int v2_8]) ⟨hx, hb, hml, hown, hts⟩ (k_J0_length_8abf5 l sa dC dI wi hwi H.size) (cwV 0 hts (z_gV zw_t3_41 zw_t3_42 zw_t3_43 zw_t1_13 zw_t3_44) rfl rfl rfl (by decide +kernel) (by rw [← hRe]; exact ⟨(Nat.le_of_ble_eq_true rfl), (Nat.le_of_ble_eq_true rfl)⟩)) (z_preK hPc hKc hDc hN hXs hS hFc (vk_recv (adK := fun i => sa (2 + 2 * i)) (i := wi) hXs.2.2.2.2.2.2.1 hwi hS)) rfl rfl hl.1 rfl (lv_room (Nat.le_of_ble_eq_true rfl)) dX5_isWord_45 (by rw [← hRe]; exact ⟨(Nat.le_of_ble_eq_true rfl), (Nat.le_of_ble_eq_true rfl)⟩)) hS (fun q _ h => hFc q h) hFc (fun r_9 u t H1 locs ht hvm hw hB hz1 hk1 hS => ?_)
          obtain ⟨hP, hD, hK⟩ := z_after3 (wn := (zV92 rd rd_fault rd_place tx rd_kinds rd_starts rd_stops rd_values rd_tokens rd_at tn rd_strayCount rd_lawTold rd_falseTold rd_kinds cA_rd_kinds f_rd_kinds rd_starts cA_rd_starts f_rd_starts rd_stops cA_rd_stops f_rd_stops tx cA_tx f_tx)) hB ht hvm hP hD hK [] [0, 1, 2, 3, 4] rfl 5 rfl (by decide +kernel) rfl (by decide +kernel) hk1 hFc
          generalize H1 = H at hP hS ⊢
          have hK : va_K (dC, dI) vwCl [(cA_rd_kinds, .int), (cA_rd_starts, .int), (cA_rd_stops, .int), (cA_tx, .byte)] s := hK
          have b_r_9 : 2 ≤ r_9.toInt ∧ r_9.toInt ≤ 6 := hw.1
          have s_r_9 := hw.2
          refine lv_icmp_ge (tgt := 83) hx hb dX5_isWord_48 (by decide) (fun c_10 => ?_) (fun c_10 => ?_)
          · have ic_10 := zz_ge rfl rfl c_10
            refine lv_iconst (v := 1) hx hb dX5_isWord_83 (by decide) ?_
            exact W.zret (v := 1) hx hb hr (by decide) (fun t ht hW => by rw [← hQe]; exact ⟨⟨1, (), rfl, (by decide), z_ret hP hK hD ht hW [0, 1, 2, 3, 4] [] rfl (by decide) rfl⟩, hS.F ht⟩) hS.2.2 dX5_isWord_84
          · have ic_10 := zz_nge rfl rfl c_10
            refine lv_aload_n hx hb dX5_isWord_51 rfl (lv_at hl 0 rfl) ?_
            refine va_get (D := (dC, dI)) (ci := 5) (v := .ref tx) (C := RX5) (T := TX5) (N := 13) hx hb hts zl_X5 hown hK hP 0 rfl rfl 2 (by decide) (hts _ zw_t1_197) (fun _ h9 => h9) rfl dX5_isWord_52 ?_
            refine lv_aload_n hx hb dX5_isWord_55 rfl (lv_at hl 0 rfl) ?_
            refine va_get (D := (dC, dI)) (ci := 5) (v := .ref rd_starts) (C := RX5) (T := TX5) (N := 13) hx hb hts zl_X5 hown hK hP 0 rfl rfl 4 (by decide) (hts _ zw_t1_199) (fun _ h9 => h9) rfl dX5_isWord_56 ?_
            refine lv_aload_n hx hb dX5_isWord_59 rfl (lv_at hl 0 rfl) ?_
            refine va_get (D := (dC, dI)) (ci := 5) (v := .int rd_at) (C := RX5) (T := TX5) (N := 13) hx hb hts zl_X5 hown hK hP 0 rfl rfl 8 (by decide) (hts _ zw_t1_203) (fun _ h9 => h9) rfl dX5_isWord_60 ?_
            refine va_iald hx hb hK hP 2 1 rfl rfl (zi_in rfl (by first | with_reducible assumption | omega)) dX5_isWord_63 ?_
            refine lv_topi (fun x_11 ex_11 => ?_)
            obtain rfl : x_4 = x_11 := ex_4.trans ex_11.symm
            refine lv_iload_n hx hb dX5_isWord_64 rfl (lv_at hl 2 rfl) ?_
            refine lv_iadd hx hb dX5_isWord_65 ?_
            refine lv_topi (fun x_12 ex_12 => ?_)
            have b_x_12 : x_12.toInt = x_4.toInt + v2_8.toInt := by rw [ex_12]; exact zi_add rfl rfl (by first | with_reducible assumption | omega)
            refine va_bald hx hb hK hP 4 3 rfl rfl (zi_in rfl (by first | with_reducible assumption | omega)) dX5_isWord_66 ?_
            refine lv_topi (fun x_13 ex_13 => ?_)
            refine lv_aload_n hx hb dX5_isWord_67 rfl (lv_at hl 1 rfl) ?_
            refine lv_iload_n hx hb dX5_isWord_68 rfl (lv_at hl 2 rfl) ?_
            obtain ⟨hPc, hDc, hFc⟩ := z_cut (wc := []) hP hD hS hA [] rfl (by decide +kernel)
            have hKc := hK.sub (tys' := []) [] rfl
            refine va_calli (va_runV (As := [.int v2_8]) (rest := [.int x_13]) ⟨hx, hb, hml, hown, hts⟩ (k_J0_charAt_5068e l sa dC dI v2_8 wi (by first | with_reducible assumption | omega) hwi (by first | assumption | omega) H.size) (cwV 1 hts (z_gV zw_t3_51 zw_t3_52 zw_t3_53 zw_t1_13 zw_t3_54) rfl rfl rfl (by decide +kernel) (by rw [← hRe]; exact ⟨(Nat.le_of_ble_eq_true rfl), (Nat.le_of_ble_eq_true rfl)⟩)) (z_preK hPc hKc hDc hN hXs hS hFc (vk_recv (adK := fun i => sa (2 + 2 * i)) (i := wi) hXs.2.2.2.2.2.2.1 hwi hS)) rfl rfl hl.1 rfl (lv_room (Nat.le_of_ble_eq_true rfl)) dX5_isWord_69 (by rw [← hRe]; exact ⟨(Nat.le_of_ble_eq_true rfl), (Nat.le_of_ble_eq_true rfl)⟩)) hS (fun q _ h => hFc q h) hFc (fun r_14 u t H1 locs ht hvm hw hB hz1 hk1 hS => ?_)
            obtain ⟨hP, hD, hK⟩ := z_after3 (wn := (zV92 rd rd_fault rd_place tx rd_kinds rd_starts rd_stops rd_values rd_tokens rd_at tn rd_strayCount rd_lawTold rd_falseTold rd_kinds cA_rd_kinds f_rd_kinds rd_starts cA_rd_starts f_rd_starts rd_stops cA_rd_stops f_rd_stops tx cA_tx f_tx)) hB ht hvm hP hD hK [] [0, 1, 2, 3, 4] rfl 5 rfl (by decide +kernel) rfl (by decide +kernel) hk1 hFc
            generalize H1 = H at hP hS ⊢
            have hK : va_K (dC, dI) vwCl [(cA_rd_kinds, .int), (cA_rd_starts, .int), (cA_rd_stops, .int), (cA_tx, .byte)] s := hK
            have b_r_14 : 0 ≤ r_14.toInt ∧ r_14.toInt ≤ 255 := hw
            have nb_x_13 := zi_nb x_13
            refine lv_icmp_eq (tgt := 77) hx hb dX5_isWord_72 (by decide) (fun c_15 => ?_) (fun c_15 => ?_)
            · have ic_15 := zz_eq rfl rfl c_15
              obtain ⟨x_16, ex_16⟩ : ∃ z : Int32, z = v2_8 + Int32.ofInt 1 := ⟨_, rfl⟩
              have b_x_16 : x_16.toInt = v2_8.toInt + 1 := by rw [ex_16]; exact zi_add rfl (show (Int32.ofInt 1).toInt = 1 from by decide) (by first | with_reducible assumption | omega)
              refine lv_iinc (v := x_16) (lv' := [(2, .int x_16), (0, .ref rd), (1, .ref (sa (2 + 2 * wi)))]) hx hb dX5_isWord_77 hl (k := 2) rfl ex_16.symm (by decide) rfl (fun ls hl => ?_)
              refine lv_goto (tgt := 43) hx hb dX5_isWord_80 (by decide) ?_
              exact ih_1 x_16 (by first | with_reducible assumption | omega) _ _ _ (by first | with_reducible assumption | omega) (hP.sub (ws' := (zV92 rd rd_fault rd_place tx rd_kinds rd_starts rd_stops rd_values rd_tokens rd_at tn rd_strayCount rd_lawTold rd_falseTold rd_kinds cA_rd_kinds f_rd_kinds rd_starts cA_rd_starts f_rd_starts rd_stops cA_rd_stops f_rd_stops tx cA_tx f_tx)) [0, 1, 2, 3, 4] rfl) (hD.sub (ws' := (zV92 rd rd_fault rd_place tx rd_kinds rd_starts rd_stops rd_values rd_tokens rd_at tn rd_strayCount rd_lawTold rd_falseTold rd_kinds cA_rd_kinds f_rd_kinds rd_starts cA_rd_starts f_rd_starts rd_stops cA_rd_stops f_rd_stops tx cA_tx f_tx)) [0, 1, 2, 3, 4] (by decide) rfl) hS (lv_sub hl [1, 2, 0] rfl)
            · have ic_15 := zz_neq rfl rfl c_15
              refine lv_iconst (v := 0) hx hb dX5_isWord_75 (by decide) ?_
              exact W.zret (v := 0) hx hb hr (by decide) (fun t ht hW => by rw [← hQe]; exact ⟨⟨0, (), rfl, (by decide), z_ret hP hK hD ht hW [0, 1, 2, 3, 4] [] rfl (by decide) rfl⟩, hS.F ht⟩) hS.2.2 dX5_isWord_76
      exact loop_1 8 (0) (by decide) _ _ _ (by decide) hP hD hS (lv_sub hl [1, 2, 0] rfl)
    · have ic_7 := zz_neq rfl rfl c_7
      refine lv_iconst (v := 0) hx hb dX5_isWord_39 (by decide) ?_
      exact W.zret (v := 0) hx hb hr (by decide) (fun t ht hW => by rw [← hQe]; exact ⟨⟨0, (), rfl, (by decide), z_ret hP hK hD ht hW [0, 1, 2, 3, 4] [] rfl (by decide) rfl⟩, hS.F ht⟩) hS.2.2 dX5_isWord_40
set_option maxHeartbeats 4000000 in
set_option maxRecDepth 100000 in
theorem k_X5_expectWord (l : Launch) (sa : Nat → Nat) (dC : Nat → ClassId) (dI : Nat → Nat → Nat) (rd : Nat) (rd_fault : Int32) (rd_place : Int32) (tx : Nat) (rd_kinds : Nat) (rd_starts : Nat) (rd_stops : Nat) (rd_values : Nat) (rd_tokens : Int32) (rd_at : Int32) (tn : Nat) (rd_strayCount : Int32) (rd_lawTold : Int32) (rd_falseTold : Int32) (cA_rd_kinds : ClassId) (f_rd_kinds : Nat → Int32) (cA_rd_starts : ClassId) (f_rd_starts : Nat → Int32) (cA_rd_stops : ClassId) (f_rd_stops : Nat → Int32) (cA_tx : ClassId) (f_tx : Nat → Int32) (wi : Nat) (b_rd_tokens : 0 ≤ rd_tokens.toInt ∧ rd_tokens.toInt ≤ 1600) (b_rd_at : 0 ≤ rd_at.toInt ∧ rd_at.toInt ≤ 1600) (b_rd_strayCount : 0 ≤ rd_strayCount.toInt ∧ rd_strayCount.toInt ≤ 4) (b_rd_lawTold : 0 ≤ rd_lawTold.toInt ∧ rd_lawTold.toInt ≤ 1) (b_rd_falseTold : 0 ≤ rd_falseTold.toInt ∧ rd_falseTold.toInt ≤ 1) (b_f_rd_kinds : ∀ j : Nat, 0 ≤ (f_rd_kinds j).toInt ∧ (f_rd_kinds j).toInt ≤ 5) (b_f_rd_starts : ∀ j : Nat, 0 ≤ (f_rd_starts j).toInt ∧ (f_rd_starts j).toInt ≤ 1600) (b_f_rd_stops : ∀ j : Nat, 0 ≤ (f_rd_stops j).toInt ∧ (f_rd_stops j).toInt ≤ 1600) (hwi : wi < 14) (sz : Nat) : Met l yX5_expectWord (.code yX5_expectWord cX5_expectWord 2 none :: zT) ({ frames := 5, cells := 0, slots := 0, locals := 107 }) (va_Pc [.ref rd, .ref (sa (2 + 2 * wi))] (zB sa dC dI (zV92 rd rd_fault rd_place tx rd_kinds rd_starts rd_stops rd_values rd_tokens rd_at tn rd_strayCount rd_lawTold rd_falseTold rd_kinds cA_rd_kinds f_rd_kinds rd_starts cA_rd_starts f_rd_starts rd_stops cA_rd_stops f_rd_stops tx cA_tx f_tx) [(cA_rd_kinds, .int), (cA_rd_starts, .int), (cA_rd_stops, .int), (cA_tx, .byte)] sz)) (va_Qv (fun _ : Unit => True) (fun _ t => ∃ (n_rd_0 : Int32) (n_rd_1 : Int32) (n_rd_8 : Int32), (0 ≤ n_rd_8.toInt ∧ n_rd_8.toInt ≤ 1600) ∧ zW dC dI (zV92 rd n_rd_0 n_rd_1 tx rd_kinds rd_starts rd_stops rd_values rd_tokens n_rd_8 tn rd_strayCount rd_lawTold rd_falseTold rd_kinds cA_rd_kinds f_rd_kinds rd_starts cA_rd_starts f_rd_starts rd_stops cA_rd_stops f_rd_stops tx cA_tx f_tx) [] (va_A (zV92 rd rd_fault rd_place tx rd_kinds rd_starts rd_stops rd_values rd_tokens rd_at tn rd_strayCount rd_lawTold rd_falseTold rd_kinds cA_rd_kinds f_rd_kinds rd_starts cA_rd_starts f_rd_starts rd_stops cA_rd_stops f_rd_stops tx cA_tx f_tx) sz) t) (va_A (zV92 rd rd_fault rd_place tx rd_kinds rd_starts rd_stops rd_values rd_tokens rd_at tn rd_strayCount rd_lawTold rd_falseTold rd_kinds cA_rd_kinds f_rd_kinds rd_starts cA_rd_starts f_rd_starts rd_stops cA_rd_stops f_rd_stops tx cA_tx f_tx) sz)) 0 0 (va_A (zV92 rd rd_fault rd_place tx rd_kinds rd_starts rd_stops rd_values rd_tokens rd_at tn rd_strayCount rd_lawTold rd_falseTold rd_kinds cA_rd_kinds f_rd_kinds rd_starts cA_rd_starts f_rd_starts rd_stops cA_rd_stops f_rd_stops tx cA_tx f_tx) sz) := by
  refine z_enter (by decide) (by exact (Nat.le_of_ble_eq_true rfl)) ?_
  intro p e s m args below meth c ls A R Qc hargs hsz hQe hAe hRe hx hb hml hr hts hown hlocks hin hl hP hK hD hN hXs hA hS
  rw [hAe] at hQe
  have hown : s.vm.findClass RX5 = some m.cls := hown
  have hl : lv_has ls 2 [(0, .ref rd), (1, .ref (sa (2 + 2 * wi)))] := hl
  refine lv_aload_n hx hb dX5_expectWord_0 rfl (lv_at hl 0 rfl) ?_
  refine lv_aload_n hx hb dX5_expectWord_1 rfl (lv_at hl 1 rfl) ?_
  obtain ⟨hPc, hDc, hFc⟩ := z_cut (wc := (zV92 rd rd_fault rd_place tx rd_kinds rd_starts rd_stops rd_values rd_tokens rd_at tn rd_strayCount rd_lawTold rd_falseTold rd_kinds cA_rd_kinds f_rd_kinds rd_starts cA_rd_starts f_rd_starts rd_stops cA_rd_stops f_rd_stops tx cA_tx f_tx)) hP hD hS hA [0, 1, 2, 3, 4] rfl (by decide +kernel)
  have hKc := hK.sub (tys' := [(cA_rd_kinds, .int), (cA_rd_starts, .int), (cA_rd_stops, .int), (cA_tx, .byte)]) [0, 1, 2, 3] rfl
  refine va_calli (va_runV (As := [.ref (sa (2 + 2 * wi))]) (rest := []) ⟨hx, hb, hml, hown, hts⟩ (k_X5_isWord l sa dC dI rd rd_fault rd_place tx rd_kinds rd_starts rd_stops rd_values rd_tokens rd_at tn rd_strayCount rd_lawTold rd_falseTold cA_rd_kinds f_rd_kinds cA_rd_starts f_rd_starts cA_rd_stops f_rd_stops cA_tx f_tx wi b_rd_tokens b_rd_at b_rd_strayCount b_rd_lawTold b_rd_falseTold b_f_rd_kinds b_f_rd_starts b_f_rd_stops hwi s.heap.size) (cwV 1 hts (z_gV zw_t3_37 zw_t3_39 zw_s1_6 zw_t1_4 zw_t3_40) rfl rfl rfl (by decide +kernel) (by rw [← hRe]; exact ⟨(Nat.le_of_ble_eq_true rfl), (Nat.le_of_ble_eq_true rfl)⟩)) (z_preV hPc hKc hDc hN hXs hS hFc (q := (RX5, TX5, 13)) (ci := 5) (q0 := 0) rfl rfl) rfl rfl hl.1 rfl (lv_room (Nat.le_of_ble_eq_true rfl)) dX5_expectWord_2 (by rw [← hRe]; exact ⟨(Nat.le_of_ble_eq_true rfl), (Nat.le_of_ble_eq_true rfl)⟩)) hS (fun q _ h => hFc q h) hFc (fun r_1 u t H1 locs ht hvm hw hB hz1 hk1 hS => ?_)
  obtain ⟨hP, hD, hK⟩ := z_after3 (wn := (zV92 rd rd_fault rd_place tx rd_kinds rd_starts rd_stops rd_values rd_tokens rd_at tn rd_strayCount rd_lawTold rd_falseTold rd_kinds cA_rd_kinds f_rd_kinds rd_starts cA_rd_starts f_rd_starts rd_stops cA_rd_stops f_rd_stops tx cA_tx f_tx)) hB ht hvm hP hD hK [0, 1, 2, 3, 4] [] rfl 5 rfl (by decide +kernel) rfl (by decide +kernel) hk1 hFc
  generalize H1 = H at hP hS ⊢
  have hK : va_K (dC, dI) vwCl [(cA_rd_kinds, .int), (cA_rd_starts, .int), (cA_rd_stops, .int), (cA_tx, .byte)] s := hK
  have b_r_1 : 0 ≤ r_1.toInt ∧ r_1.toInt ≤ 1 := hw
  refine lv_if_ne (tgt := 13) hx hb dX5_expectWord_5 (by decide) (fun c_2 => ?_) (fun c_2 => ?_)
  · have ic_2 := zz_ne rfl (show Int32.toInt 0 = 0 from by decide) c_2
    refine lv_aload_n hx hb dX5_expectWord_13 rfl (lv_at hl 0 rfl) ?_
    obtain ⟨hPc, hDc, hFc⟩ := z_cut (wc := (zV91 rd rd_fault rd_place tx rd_kinds rd_starts rd_stops rd_values rd_tokens rd_at tn rd_strayCount rd_lawTold rd_falseTold)) hP hD hS hA [0] rfl (by decide +kernel)
    have hKc := hK.sub (tys' := []) [] rfl
    refine va_callv (va_runV (As := []) (rest := []) ⟨hx, hb, hml, hown, hts⟩ (k_X5_advance l sa dC dI rd rd_fault rd_place tx rd_kinds rd_starts rd_stops rd_values rd_tokens rd_at tn rd_strayCount rd_lawTold rd_falseTold b_rd_tokens b_rd_at b_rd_strayCount b_rd_lawTold b_rd_falseTold H.size) (cwV 0 hts (z_gV zw_t3_93 zw_t3_95 zw_s1_8 zw_t1_4 zw_t3_96) rfl rfl rfl (by decide +kernel) (by rw [← hRe]; exact ⟨(Nat.le_of_ble_eq_true rfl), (Nat.le_of_ble_eq_true rfl)⟩)) (z_preV hPc hKc hDc hN hXs hS hFc (q := (RX5, TX5, 13)) (ci := 5) (q0 := 0) rfl rfl) rfl rfl hl.1 rfl (lv_room (Nat.le_of_ble_eq_true rfl)) dX5_expectWord_14 (by rw [← hRe]; exact ⟨(Nat.le_of_ble_eq_true rfl), (Nat.le_of_ble_eq_true rfl)⟩)) hS (fun q _ h => hFc q h) hFc (fun u t H1 locs ht hvm hw hB hz1 hk1 hS => ?_)
    obtain ⟨n_rd_4, b_n_rd_4, hB⟩ := hB
    obtain ⟨hP, hD, hK⟩ := z_after3 (wn := [(rd_kinds, .inl (cA_rd_kinds, 1601, .inl f_rd_kinds)), (rd_starts, .inl (cA_rd_starts, 1601, .inl f_rd_starts)), (rd_stops, .inl (cA_rd_stops, 1601, .inl f_rd_stops)), (tx, .inl (cA_tx, 1600, .inl f_tx)), (rd, .inr (5, [.int rd_fault, .int rd_place, .ref tx, .ref rd_kinds, .ref rd_starts, .ref rd_stops, .ref rd_values, .int rd_tokens, .int n_rd_4, .ref tn, .int rd_strayCount, .int rd_lawTold, .int rd_falseTold]))]) hB ht hvm hP hD hK [0] [1, 2, 3, 4] rfl 5 rfl (by decide +kernel) rfl (by decide +kernel) hk1 hFc
    generalize H1 = H at hP hS ⊢
    have hK : va_K (dC, dI) vwCl [(cA_rd_kinds, .int), (cA_rd_starts, .int), (cA_rd_stops, .int), (cA_tx, .byte)] s := hK
    exact W.vret hx hb hr (fun t ht hW => by rw [← hQe]; exact ⟨⟨(), rfl, trivial, ⟨rd_fault, rd_place, n_rd_4, (by first | with_reducible assumption | omega), z_ret hP hK hD ht hW [4, 0, 1, 2, 3] [] rfl (by decide) rfl⟩⟩, hS.F ht⟩) hS.2.2 dX5_expectWord_17
  · have ic_2 := zz_nne rfl (show Int32.toInt 0 = 0 from by decide) c_2
    refine lv_aload_n hx hb dX5_expectWord_8 rfl (lv_at hl 0 rfl) ?_
    refine lv_iconst (v := 1) hx hb dX5_expectWord_9 (by decide) ?_
    obtain ⟨hPc, hDc, hFc⟩ := z_cut (wc := (zV90 rd rd_fault rd_place tx rd_kinds rd_starts rd_stops rd_values rd_tokens rd_at tn rd_strayCount rd_lawTold rd_falseTold rd_starts cA_rd_starts f_rd_starts)) hP hD hS hA [0, 2] rfl (by decide +kernel)
    have hKc := hK.sub (tys' := [(cA_rd_starts, .int)]) [1] rfl
    refine va_callv (va_runV (As := [.int 1]) (rest := []) ⟨hx, hb, hml, hown, hts⟩ (k_X5_blame l sa dC dI rd (1) rd_fault rd_place tx rd_kinds rd_starts rd_stops rd_values rd_tokens rd_at tn rd_strayCount rd_lawTold rd_falseTold cA_rd_starts f_rd_starts (by decide) b_rd_tokens b_rd_at b_rd_strayCount b_rd_lawTold b_rd_falseTold b_f_rd_starts H.size) (cwV 1 hts (z_gV zw_t3_89 zw_t3_91 zw_s1_7 zw_t1_4 zw_t3_92) rfl rfl rfl (by decide +kernel) (by rw [← hRe]; exact ⟨(Nat.le_of_ble_eq_true rfl), (Nat.le_of_ble_eq_true rfl)⟩)) (z_preV hPc hKc hDc hN hXs hS hFc (q := (RX5, TX5, 13)) (ci := 5) (q0 := 0) rfl rfl) rfl rfl hl.1 rfl (lv_room (Nat.le_of_ble_eq_true rfl)) dX5_expectWord_10 (by rw [← hRe]; exact ⟨(Nat.le_of_ble_eq_true rfl), (Nat.le_of_ble_eq_true rfl)⟩)) hS (fun q _ h => hFc q h) hFc (fun u t H1 locs ht hvm hw hB hz1 hk1 hS => ?_)
    obtain ⟨n_rd_6, n_rd_7, hf_8, hB⟩ := hB
    obtain ⟨hP, hD, hK⟩ := z_after3 (wn := [(rd_kinds, .inl (cA_rd_kinds, 1601, .inl f_rd_kinds)), (rd_stops, .inl (cA_rd_stops, 1601, .inl f_rd_stops)), (tx, .inl (cA_tx, 1600, .inl f_tx)), (rd, .inr (5, [.int n_rd_6, .int n_rd_7, .ref tx, .ref rd_kinds, .ref rd_starts, .ref rd_stops, .ref rd_values, .int rd_tokens, .int rd_at, .ref tn, .int rd_strayCount, .int rd_lawTold, .int rd_falseTold])), (rd_starts, .inl (cA_rd_starts, 1601, .inl f_rd_starts))]) hB ht hvm hP hD hK [0, 2] [1, 3, 4] rfl 5 rfl (by decide +kernel) rfl (by decide +kernel) hk1 hFc
    generalize H1 = H at hP hS ⊢
    have hK : va_K (dC, dI) vwCl [(cA_rd_kinds, .int), (cA_rd_starts, .int), (cA_rd_stops, .int), (cA_tx, .byte)] s := hK
    refine lv_aload_n hx hb dX5_expectWord_13 rfl (lv_at hl 0 rfl) ?_
    obtain ⟨hPc, hDc, hFc⟩ := z_cut (wc := (zV91 rd n_rd_6 n_rd_7 tx rd_kinds rd_starts rd_stops rd_values rd_tokens rd_at tn rd_strayCount rd_lawTold rd_falseTold)) hP hD hS hA [3] rfl (by decide +kernel)
    have hKc := hK.sub (tys' := []) [] rfl
    refine va_callv (va_runV (As := []) (rest := []) ⟨hx, hb, hml, hown, hts⟩ (k_X5_advance l sa dC dI rd n_rd_6 n_rd_7 tx rd_kinds rd_starts rd_stops rd_values rd_tokens rd_at tn rd_strayCount rd_lawTold rd_falseTold b_rd_tokens b_rd_at b_rd_strayCount b_rd_lawTold b_rd_falseTold H.size) (cwV 0 hts (z_gV zw_t3_93 zw_t3_95 zw_s1_8 zw_t1_4 zw_t3_96) rfl rfl rfl (by decide +kernel) (by rw [← hRe]; exact ⟨(Nat.le_of_ble_eq_true rfl), (Nat.le_of_ble_eq_true rfl)⟩)) (z_preV hPc hKc hDc hN hXs hS hFc (q := (RX5, TX5, 13)) (ci := 5) (q0 := 0) rfl rfl) rfl rfl hl.1 rfl (lv_room (Nat.le_of_ble_eq_true rfl)) dX5_expectWord_14 (by rw [← hRe]; exact ⟨(Nat.le_of_ble_eq_true rfl), (Nat.le_of_ble_eq_true rfl)⟩)) hS (fun q _ h => hFc q h) hFc (fun u t H1 locs ht hvm hw hB hz1 hk1 hS => ?_)
    obtain ⟨n_rd_10, b_n_rd_10, hB⟩ := hB
    obtain ⟨hP, hD, hK⟩ := z_after3 (wn := [(rd_kinds, .inl (cA_rd_kinds, 1601, .inl f_rd_kinds)), (rd_stops, .inl (cA_rd_stops, 1601, .inl f_rd_stops)), (tx, .inl (cA_tx, 1600, .inl f_tx)), (rd_starts, .inl (cA_rd_starts, 1601, .inl f_rd_starts)), (rd, .inr (5, [.int n_rd_6, .int n_rd_7, .ref tx, .ref rd_kinds, .ref rd_starts, .ref rd_stops, .ref rd_values, .int rd_tokens, .int n_rd_10, .ref tn, .int rd_strayCount, .int rd_lawTold, .int rd_falseTold]))]) hB ht hvm hP hD hK [3] [0, 1, 2, 4] rfl 5 rfl (by decide +kernel) rfl (by decide +kernel) hk1 hFc
    generalize H1 = H at hP hS ⊢
    have hK : va_K (dC, dI) vwCl [(cA_rd_kinds, .int), (cA_rd_starts, .int), (cA_rd_stops, .int), (cA_tx, .byte)] s := hK
    exact W.vret hx hb hr (fun t ht hW => by rw [← hQe]; exact ⟨⟨(), rfl, trivial, ⟨n_rd_6, n_rd_7, n_rd_10, (by first | with_reducible assumption | omega), z_ret hP hK hD ht hW [4, 0, 3, 1, 2] [] rfl (by decide) rfl⟩⟩, hS.F ht⟩) hS.2.2 dX5_expectWord_17
set_option maxHeartbeats 4000000 in
set_option maxRecDepth 100000 in
theorem k_X5_expectNumber (l : Launch) (sa : Nat → Nat) (dC : Nat → ClassId) (dI : Nat → Nat → Nat) (rd : Nat) (p1 : Int32) (p2 : Int32) (rd_fault : Int32) (rd_place : Int32) (tx : Nat) (rd_kinds : Nat) (rd_starts : Nat) (rd_stops : Nat) (rd_values : Nat) (rd_tokens : Int32) (rd_at : Int32) (tn : Nat) (rd_strayCount : Int32) (rd_lawTold : Int32) (rd_falseTold : Int32) (cA_rd_kinds : ClassId) (f_rd_kinds : Nat → Int32) (cA_rd_starts : ClassId) (f_rd_starts : Nat → Int32) (cA_rd_values : ClassId) (f_rd_values : Nat → Int32) (b_p1 : 0 ≤ p1.toInt ∧ p1.toInt ≤ 48) (b_p2 : (-1) ≤ p2.toInt ∧ p2.toInt ≤ 99) (b_rd_tokens : 0 ≤ rd_tokens.toInt ∧ rd_tokens.toInt ≤ 1600) (b_rd_at : 0 ≤ rd_at.toInt ∧ rd_at.toInt ≤ 1600) (b_rd_strayCount : 0 ≤ rd_strayCount.toInt ∧ rd_strayCount.toInt ≤ 4) (b_rd_lawTold : 0 ≤ rd_lawTold.toInt ∧ rd_lawTold.toInt ≤ 1) (b_rd_falseTold : 0 ≤ rd_falseTold.toInt ∧ rd_falseTold.toInt ≤ 1) (b_f_rd_kinds : ∀ j : Nat, 0 ≤ (f_rd_kinds j).toInt ∧ (f_rd_kinds j).toInt ≤ 5) (b_f_rd_starts : ∀ j : Nat, 0 ≤ (f_rd_starts j).toInt ∧ (f_rd_starts j).toInt ≤ 1600) (b_f_rd_values : ∀ j : Nat, 0 ≤ (f_rd_values j).toInt ∧ (f_rd_values j).toInt ≤ 100000) (sz : Nat) : Met l yX5_expectNumber (.code yX5_expectNumber cX5_expectNumber 4 (some .int) :: zT) ({ frames := 1, cells := 0, slots := 0, locals := 21 }) (va_Pc [.ref rd, .int p1, .int p2] (zB sa dC dI (zV89 rd rd_fault rd_place tx rd_kinds rd_starts rd_stops rd_values rd_tokens rd_at tn rd_strayCount rd_lawTold rd_falseTold rd_kinds cA_rd_kinds f_rd_kinds rd_starts cA_rd_starts f_rd_starts rd_values cA_rd_values f_rd_values) [(cA_rd_kinds, .int), (cA_rd_starts, .int), (cA_rd_values, .int)] sz)) (va_Qi (fun (r : Int32) (_ : Unit) => (0 ≤ r.toInt ∧ r.toInt ≤ 100000) ∧ (r.toInt = 0 ∨ (p1.toInt ≤ r.toInt ∧ r.toInt ≤ p2.toInt))) (fun _ t => ∃ (n_rd_0 : Int32) (n_rd_1 : Int32) (n_rd_8 : Int32), (0 ≤ n_rd_8.toInt ∧ n_rd_8.toInt ≤ 1600) ∧ zW dC dI (zV89 rd n_rd_0 n_rd_1 tx rd_kinds rd_starts rd_stops rd_values rd_tokens n_rd_8 tn rd_strayCount rd_lawTold rd_falseTold rd_kinds cA_rd_kinds f_rd_kinds rd_starts cA_rd_starts f_rd_starts rd_values cA_rd_values f_rd_values) [] (va_A (zV89 rd rd_fault rd_place tx rd_kinds rd_starts rd_stops rd_values rd_tokens rd_at tn rd_strayCount rd_lawTold rd_falseTold rd_kinds cA_rd_kinds f_rd_kinds rd_starts cA_rd_starts f_rd_starts rd_values cA_rd_values f_rd_values) sz) t) (va_A (zV89 rd rd_fault rd_place tx rd_kinds rd_starts rd_stops rd_values rd_tokens rd_at tn rd_strayCount rd_lawTold rd_falseTold rd_kinds cA_rd_kinds f_rd_kinds rd_starts cA_rd_starts f_rd_starts rd_values cA_rd_values f_rd_values) sz)) 0 0 (va_A (zV89 rd rd_fault rd_place tx rd_kinds rd_starts rd_stops rd_values rd_tokens rd_at tn rd_strayCount rd_lawTold rd_falseTold rd_kinds cA_rd_kinds f_rd_kinds rd_starts cA_rd_starts f_rd_starts rd_values cA_rd_values f_rd_values) sz) := by
  refine z_enter (by decide) (by exact (Nat.le_of_ble_eq_true rfl)) ?_
  intro p e s m args below meth c ls A R Qc hargs hsz hQe hAe hRe hx hb hml hr hts hown hlocks hin hl hP hK hD hN hXs hA hS
  rw [hAe] at hQe
  have hown : s.vm.findClass RX5 = some m.cls := hown
  have hl : lv_has ls 4 [(0, .ref rd), (1, .int p1), (2, .int p2)] := hl
  refine lv_aload_n hx hb dX5_expectNumber_0 rfl (lv_at hl 0 rfl) ?_
  refine va_get (D := (dC, dI)) (ci := 5) (v := .ref rd_values) (C := RX5) (T := TX5) (N := 13) hx hb hts zl_X5 hown hK hP 0 rfl rfl 6 (by decide) (hts _ zw_t1_201) (fun _ h9 => h9) rfl dX5_expectNumber_1 ?_
  refine lv_aload_n hx hb dX5_expectNumber_4 rfl (lv_at hl 0 rfl) ?_
  refine va_get (D := (dC, dI)) (ci := 5) (v := .int rd_at) (C := RX5) (T := TX5) (N := 13) hx hb hts zl_X5 hown hK hP 0 rfl rfl 8 (by decide) (hts _ zw_t1_203) (fun _ h9 => h9) rfl dX5_expectNumber_5 ?_
  refine va_iald hx hb hK hP 3 2 rfl rfl (zi_in rfl (by first | with_reducible assumption | omega)) dX5_expectNumber_8 ?_
  refine lv_topi (fun x_1 ex_1 => ?_)
  have b_x_1 : 0 ≤ x_1.toInt ∧ x_1.toInt ≤ 100000 := by rw [ex_1]; exact b_f_rd_values _
  refine lv_istore_n (lv' := [(3, .int x_1), (0, .ref rd), (1, .int p1), (2, .int p2)]) hx hb dX5_expectNumber_9 rfl hl (by decide) rfl (fun ls hl => ?_)
  refine lv_aload_n hx hb dX5_expectNumber_10 rfl (lv_at hl 1 rfl) ?_
  refine va_get (D := (dC, dI)) (ci := 5) (v := .ref rd_kinds) (C := RX5) (T := TX5) (N := 13) hx hb hts zl_X5 hown hK hP 0 rfl rfl 3 (by decide) (hts _ zw_t1_198) (fun _ h9 => h9) rfl dX5_expectNumber_11 ?_
  refine lv_aload_n hx hb dX5_expectNumber_14 rfl (lv_at hl 1 rfl) ?_
  refine va_get (D := (dC, dI)) (ci := 5) (v := .int rd_at) (C := RX5) (T := TX5) (N := 13) hx hb hts zl_X5 hown hK hP 0 rfl rfl 8 (by decide) (hts _ zw_t1_203) (fun _ h9 => h9) rfl dX5_expectNumber_15 ?_
  refine va_iald hx hb hK hP 1 0 rfl rfl (zi_in rfl (by first | with_reducible assumption | omega)) dX5_expectNumber_18 ?_
  refine lv_topi (fun x_2 ex_2 => ?_)
  have b_x_2 : 0 ≤ x_2.toInt ∧ x_2.toInt ≤ 5 := by rw [ex_2]; exact b_f_rd_kinds _
  refine lv_iconst (v := 2) hx hb dX5_expectNumber_19 (by decide) ?_
  refine lv_icmp_eq (tgt := 31) hx hb dX5_expectNumber_20 (by decide) (fun c_3 => ?_) (fun c_3 => ?_)
  · have ic_3 := zz_eq rfl (show Int32.toInt 2 = 2 from by decide) c_3
    refine lv_iload_n hx hb dX5_expectNumber_31 rfl (lv_at hl 0 rfl) ?_
    refine lv_iload_n hx hb dX5_expectNumber_32 rfl (lv_at hl 2 rfl) ?_
    refine lv_icmp_lt (tgt := 41) hx hb dX5_expectNumber_33 (by decide) (fun c_4 => ?_) (fun c_4 => ?_)
    · have ic_4 := zz_lt rfl rfl c_4
      refine lv_aload_n hx hb dX5_expectNumber_41 rfl (lv_at hl 1 rfl) ?_
      refine lv_iconst (v := 2) hx hb dX5_expectNumber_42 (by decide) ?_
      obtain ⟨hPc, hDc, hFc⟩ := z_cut (wc := (zV90 rd rd_fault rd_place tx rd_kinds rd_starts rd_stops rd_values rd_tokens rd_at tn rd_strayCount rd_lawTold rd_falseTold rd_starts cA_rd_starts f_rd_starts)) hP hD hS hA [0, 2] rfl (by decide +kernel)
      have hKc := hK.sub (tys' := [(cA_rd_starts, .int)]) [1] rfl
      refine va_callv (va_runV (As := [.int 2]) (rest := []) ⟨hx, hb, hml, hown, hts⟩ (k_X5_blame l sa dC dI rd (2) rd_fault rd_place tx rd_kinds rd_starts rd_stops rd_values rd_tokens rd_at tn rd_strayCount rd_lawTold rd_falseTold cA_rd_starts f_rd_starts (by decide) b_rd_tokens b_rd_at b_rd_strayCount b_rd_lawTold b_rd_falseTold b_f_rd_starts s.heap.size) (cwV 1 hts (z_gV zw_t3_89 zw_t3_91 zw_s1_7 zw_t1_4 zw_t3_92) rfl rfl rfl (by decide +kernel) (by rw [← hRe]; exact ⟨(Nat.le_of_ble_eq_true rfl), (Nat.le_of_ble_eq_true rfl)⟩)) (z_preV hPc hKc hDc hN hXs hS hFc (q := (RX5, TX5, 13)) (ci := 5) (q0 := 0) rfl rfl) rfl rfl hl.1 rfl (lv_room (Nat.le_of_ble_eq_true rfl)) dX5_expectNumber_43 (by rw [← hRe]; exact ⟨(Nat.le_of_ble_eq_true rfl), (Nat.le_of_ble_eq_true rfl)⟩)) hS (fun q _ h => hFc q h) hFc (fun u t H1 locs ht hvm hw hB hz1 hk1 hS => ?_)
      obtain ⟨n_rd_6, n_rd_7, hf_8, hB⟩ := hB
      obtain ⟨hP, hD, hK⟩ := z_after3 (wn := (zV93 rd_kinds cA_rd_kinds f_rd_kinds rd_values cA_rd_values f_rd_values rd n_rd_6 n_rd_7 tx rd_kinds rd_starts rd_stops rd_values rd_tokens rd_at tn rd_strayCount rd_lawTold rd_falseTold rd_starts cA_rd_starts f_rd_starts)) hB ht hvm hP hD hK [0, 2] [1, 3] rfl 4 rfl (by decide +kernel) rfl (by decide +kernel) hk1 hFc
      generalize H1 = H at hP hS ⊢
      have hK : va_K (dC, dI) vwCl [(cA_rd_kinds, .int), (cA_rd_starts, .int), (cA_rd_values, .int)] s := hK
      refine lv_aload_n hx hb dX5_expectNumber_46 rfl (lv_at hl 1 rfl) ?_
      obtain ⟨hPc, hDc, hFc⟩ := z_cut (wc := (zV91 rd n_rd_6 n_rd_7 tx rd_kinds rd_starts rd_stops rd_values rd_tokens rd_at tn rd_strayCount rd_lawTold rd_falseTold)) hP hD hS hA [2] rfl (by decide +kernel)
      have hKc := hK.sub (tys' := []) [] rfl
      refine va_callv (va_runV (As := []) (rest := []) ⟨hx, hb, hml, hown, hts⟩ (k_X5_advance l sa dC dI rd n_rd_6 n_rd_7 tx rd_kinds rd_starts rd_stops rd_values rd_tokens rd_at tn rd_strayCount rd_lawTold rd_falseTold b_rd_tokens b_rd_at b_rd_strayCount b_rd_lawTold b_rd_falseTold H.size) (cwV 0 hts (z_gV zw_t3_93 zw_t3_95 zw_s1_8 zw_t1_4 zw_t3_96) rfl rfl rfl (by decide +kernel) (by rw [← hRe]; exact ⟨(Nat.le_of_ble_eq_true rfl), (Nat.le_of_ble_eq_true rfl)⟩)) (z_preV hPc hKc hDc hN hXs hS hFc (q := (RX5, TX5, 13)) (ci := 5) (q0 := 0) rfl rfl) rfl rfl hl.1 rfl (lv_room (Nat.le_of_ble_eq_true rfl)) dX5_expectNumber_47 (by rw [← hRe]; exact ⟨(Nat.le_of_ble_eq_true rfl), (Nat.le_of_ble_eq_true rfl)⟩)) hS (fun q _ h => hFc q h) hFc (fun u t H1 locs ht hvm hw hB hz1 hk1 hS => ?_)
      obtain ⟨n_rd_10, b_n_rd_10, hB⟩ := hB
      obtain ⟨hP, hD, hK⟩ := z_after3 (wn := (zV94 rd_kinds cA_rd_kinds f_rd_kinds rd_values cA_rd_values f_rd_values rd_starts cA_rd_starts f_rd_starts rd n_rd_6 n_rd_7 tx rd_kinds rd_starts rd_stops rd_values rd_tokens n_rd_10 tn rd_strayCount rd_lawTold rd_falseTold)) hB ht hvm hP hD hK [2] [0, 1, 3] rfl 4 rfl (by decide +kernel) rfl (by decide +kernel) hk1 hFc
      generalize H1 = H at hP hS ⊢
      have hK : va_K (dC, dI) vwCl [(cA_rd_kinds, .int), (cA_rd_starts, .int), (cA_rd_values, .int)] s := hK
      refine lv_aload_n hx hb dX5_expectNumber_50 rfl (lv_at hl 1 rfl) ?_
      refine va_get (D := (dC, dI)) (ci := 5) (v := .int n_rd_6) (C := RX5) (T := TX5) (N := 13) hx hb hts zl_X5 hown hK hP 3 rfl rfl 0 (by decide) (hts _ zw_t1_193) (fun _ h9 => h9) rfl dX5_expectNumber_51 ?_
      have nb_n_rd_6 := zi_nb n_rd_6
      refine lv_if_ne (tgt := 61) hx hb dX5_expectNumber_54 (by decide) (fun c_11 => ?_) (fun c_11 => ?_)
      · have ic_11 := zz_ne rfl (show Int32.toInt 0 = 0 from by decide) c_11
        refine lv_iconst (v := 0) hx hb dX5_expectNumber_61 (by decide) ?_
        have zc : Int32.toInt 0 = 0 := by decide
        exact W.iret (v := 0) hx hb hr (fun t ht hW => by rw [← hQe]; exact ⟨⟨0, (), rfl, (by first | with_reducible assumption | omega), ⟨n_rd_6, n_rd_7, n_rd_10, (by first | with_reducible assumption | omega), z_ret hP hK hD ht hW [3, 0, 2, 1] [] rfl (by decide) rfl⟩⟩, hS.F ht⟩) hS.2.2 dX5_expectNumber_62
      · have ic_11 := zz_nne rfl (show Int32.toInt 0 = 0 from by decide) c_11
        refine lv_iload_n hx hb dX5_expectNumber_57 rfl (lv_at hl 0 rfl) ?_
        refine lv_goto (tgt := 62) hx hb dX5_expectNumber_58 (by decide) ?_
        exact W.iret (v := x_1) hx hb hr (fun t ht hW => by rw [← hQe]; exact ⟨⟨x_1, (), rfl, (by first | with_reducible assumption | omega), ⟨n_rd_6, n_rd_7, n_rd_10, (by first | with_reducible assumption | omega), z_ret hP hK hD ht hW [3, 0, 2, 1] [] rfl (by decide) rfl⟩⟩, hS.F ht⟩) hS.2.2 dX5_expectNumber_62
    · have ic_4 := zz_nlt rfl rfl c_4
      refine lv_iload_n hx hb dX5_expectNumber_36 rfl (lv_at hl 0 rfl) ?_
      refine lv_iload_n hx hb dX5_expectNumber_37 rfl (lv_at hl 3 rfl) ?_
      refine lv_icmp_le (tgt := 46) hx hb dX5_expectNumber_38 (by decide) (fun c_12 => ?_) (fun c_12 => ?_)
      · have ic_12 := zz_le rfl rfl c_12
        refine lv_aload_n hx hb dX5_expectNumber_46 rfl (lv_at hl 1 rfl) ?_
        obtain ⟨hPc, hDc, hFc⟩ := z_cut (wc := (zV91 rd rd_fault rd_place tx rd_kinds rd_starts rd_stops rd_values rd_tokens rd_at tn rd_strayCount rd_lawTold rd_falseTold)) hP hD hS hA [0] rfl (by decide +kernel)
        have hKc := hK.sub (tys' := []) [] rfl
        refine va_callv (va_runV (As := []) (rest := []) ⟨hx, hb, hml, hown, hts⟩ (k_X5_advance l sa dC dI rd rd_fault rd_place tx rd_kinds rd_starts rd_stops rd_values rd_tokens rd_at tn rd_strayCount rd_lawTold rd_falseTold b_rd_tokens b_rd_at b_rd_strayCount b_rd_lawTold b_rd_falseTold s.heap.size) (cwV 0 hts (z_gV zw_t3_93 zw_t3_95 zw_s1_8 zw_t1_4 zw_t3_96) rfl rfl rfl (by decide +kernel) (by rw [← hRe]; exact ⟨(Nat.le_of_ble_eq_true rfl), (Nat.le_of_ble_eq_true rfl)⟩)) (z_preV hPc hKc hDc hN hXs hS hFc (q := (RX5, TX5, 13)) (ci := 5) (q0 := 0) rfl rfl) rfl rfl hl.1 rfl (lv_room (Nat.le_of_ble_eq_true rfl)) dX5_expectNumber_47 (by rw [← hRe]; exact ⟨(Nat.le_of_ble_eq_true rfl), (Nat.le_of_ble_eq_true rfl)⟩)) hS (fun q _ h => hFc q h) hFc (fun u t H1 locs ht hvm hw hB hz1 hk1 hS => ?_)
        obtain ⟨n_rd_14, b_n_rd_14, hB⟩ := hB
        obtain ⟨hP, hD, hK⟩ := z_after3 (wn := (zV94 rd_kinds cA_rd_kinds f_rd_kinds rd_starts cA_rd_starts f_rd_starts rd_values cA_rd_values f_rd_values rd rd_fault rd_place tx rd_kinds rd_starts rd_stops rd_values rd_tokens n_rd_14 tn rd_strayCount rd_lawTold rd_falseTold)) hB ht hvm hP hD hK [0] [1, 2, 3] rfl 4 rfl (by decide +kernel) rfl (by decide +kernel) hk1 hFc
        generalize H1 = H at hP hS ⊢
        have hK : va_K (dC, dI) vwCl [(cA_rd_kinds, .int), (cA_rd_starts, .int), (cA_rd_values, .int)] s := hK
        refine lv_aload_n hx hb dX5_expectNumber_50 rfl (lv_at hl 1 rfl) ?_
        refine va_get (D := (dC, dI)) (ci := 5) (v := .int rd_fault) (C := RX5) (T := TX5) (N := 13) hx hb hts zl_X5 hown hK hP 3 rfl rfl 0 (by decide) (hts _ zw_t1_193) (fun _ h9 => h9) rfl dX5_expectNumber_51 ?_
        have nb_rd_fault := zi_nb rd_fault
        refine lv_if_ne (tgt := 61) hx hb dX5_expectNumber_54 (by decide) (fun c_15 => ?_) (fun c_15 => ?_)
        · have ic_15 := zz_ne rfl (show Int32.toInt 0 = 0 from by decide) c_15
          refine lv_iconst (v := 0) hx hb dX5_expectNumber_61 (by decide) ?_
          have zc : Int32.toInt 0 = 0 := by decide
          exact W.iret (v := 0) hx hb hr (fun t ht hW => by rw [← hQe]; exact ⟨⟨0, (), rfl, (by first | with_reducible assumption | omega), ⟨rd_fault, rd_place, n_rd_14, (by first | with_reducible assumption | omega), z_ret hP hK hD ht hW [3, 0, 1, 2] [] rfl (by decide) rfl⟩⟩, hS.F ht⟩) hS.2.2 dX5_expectNumber_62
        · have ic_15 := zz_nne rfl (show Int32.toInt 0 = 0 from by decide) c_15
          refine lv_iload_n hx hb dX5_expectNumber_57 rfl (lv_at hl 0 rfl) ?_
          refine lv_goto (tgt := 62) hx hb dX5_expectNumber_58 (by decide) ?_
          exact W.iret (v := x_1) hx hb hr (fun t ht hW => by rw [← hQe]; exact ⟨⟨x_1, (), rfl, (by first | with_reducible assumption | omega), ⟨rd_fault, rd_place, n_rd_14, (by first | with_reducible assumption | omega), z_ret hP hK hD ht hW [3, 0, 1, 2] [] rfl (by decide) rfl⟩⟩, hS.F ht⟩) hS.2.2 dX5_expectNumber_62
      · have ic_12 := zz_nle rfl rfl c_12
        refine lv_aload_n hx hb dX5_expectNumber_41 rfl (lv_at hl 1 rfl) ?_
        refine lv_iconst (v := 2) hx hb dX5_expectNumber_42 (by decide) ?_
        obtain ⟨hPc, hDc, hFc⟩ := z_cut (wc := (zV90 rd rd_fault rd_place tx rd_kinds rd_starts rd_stops rd_values rd_tokens rd_at tn rd_strayCount rd_lawTold rd_falseTold rd_starts cA_rd_starts f_rd_starts)) hP hD hS hA [0, 2] rfl (by decide +kernel)
        have hKc := hK.sub (tys' := [(cA_rd_starts, .int)]) [1] rfl
        refine va_callv (va_runV (As := [.int 2]) (rest := []) ⟨hx, hb, hml, hown, hts⟩ (k_X5_blame l sa dC dI rd (2) rd_fault rd_place tx rd_kinds rd_starts rd_stops rd_values rd_tokens rd_at tn rd_strayCount rd_lawTold rd_falseTold cA_rd_starts f_rd_starts (by decide) b_rd_tokens b_rd_at b_rd_strayCount b_rd_lawTold b_rd_falseTold b_f_rd_starts s.heap.size) (cwV 1 hts (z_gV zw_t3_89 zw_t3_91 zw_s1_7 zw_t1_4 zw_t3_92) rfl rfl rfl (by decide +kernel) (by rw [← hRe]; exact ⟨(Nat.le_of_ble_eq_true rfl), (Nat.le_of_ble_eq_true rfl)⟩)) (z_preV hPc hKc hDc hN hXs hS hFc (q := (RX5, TX5, 13)) (ci := 5) (q0 := 0) rfl rfl) rfl rfl hl.1 rfl (lv_room (Nat.le_of_ble_eq_true rfl)) dX5_expectNumber_43 (by rw [← hRe]; exact ⟨(Nat.le_of_ble_eq_true rfl), (Nat.le_of_ble_eq_true rfl)⟩)) hS (fun q _ h => hFc q h) hFc (fun u t H1 locs ht hvm hw hB hz1 hk1 hS => ?_)
        obtain ⟨n_rd_17, n_rd_18, hf_19, hB⟩ := hB
        obtain ⟨hP, hD, hK⟩ := z_after3 (wn := (zV93 rd_kinds cA_rd_kinds f_rd_kinds rd_values cA_rd_values f_rd_values rd n_rd_17 n_rd_18 tx rd_kinds rd_starts rd_stops rd_values rd_tokens rd_at tn rd_strayCount rd_lawTold rd_falseTold rd_starts cA_rd_starts f_rd_starts)) hB ht hvm hP hD hK [0, 2] [1, 3] rfl 4 rfl (by decide +kernel) rfl (by decide +kernel) hk1 hFc
        generalize H1 = H at hP hS ⊢
        have hK : va_K (dC, dI) vwCl [(cA_rd_kinds, .int), (cA_rd_starts, .int), (cA_rd_values, .int)] s := hK
        refine lv_aload_n hx hb dX5_expectNumber_46 rfl (lv_at hl 1 rfl) ?_
        obtain ⟨hPc, hDc, hFc⟩ := z_cut (wc := (zV91 rd n_rd_17 n_rd_18 tx rd_kinds rd_starts rd_stops rd_values rd_tokens rd_at tn rd_strayCount rd_lawTold rd_falseTold)) hP hD hS hA [2] rfl (by decide +kernel)
        have hKc := hK.sub (tys' := []) [] rfl
        refine va_callv (va_runV (As := []) (rest := []) ⟨hx, hb, hml, hown, hts⟩ (k_X5_advance l sa dC dI rd n_rd_17 n_rd_18 tx rd_kinds rd_starts rd_stops rd_values rd_tokens rd_at tn rd_strayCount rd_lawTold rd_falseTold b_rd_tokens b_rd_at b_rd_strayCount b_rd_lawTold b_rd_falseTold H.size) (cwV 0 hts (z_gV zw_t3_93 zw_t3_95 zw_s1_8 zw_t1_4 zw_t3_96) rfl rfl rfl (by decide +kernel) (by rw [← hRe]; exact ⟨(Nat.le_of_ble_eq_true rfl), (Nat.le_of_ble_eq_true rfl)⟩)) (z_preV hPc hKc hDc hN hXs hS hFc (q := (RX5, TX5, 13)) (ci := 5) (q0 := 0) rfl rfl) rfl rfl hl.1 rfl (lv_room (Nat.le_of_ble_eq_true rfl)) dX5_expectNumber_47 (by rw [← hRe]; exact ⟨(Nat.le_of_ble_eq_true rfl), (Nat.le_of_ble_eq_true rfl)⟩)) hS (fun q _ h => hFc q h) hFc (fun u t H1 locs ht hvm hw hB hz1 hk1 hS => ?_)
        obtain ⟨n_rd_21, b_n_rd_21, hB⟩ := hB
        obtain ⟨hP, hD, hK⟩ := z_after3 (wn := (zV94 rd_kinds cA_rd_kinds f_rd_kinds rd_values cA_rd_values f_rd_values rd_starts cA_rd_starts f_rd_starts rd n_rd_17 n_rd_18 tx rd_kinds rd_starts rd_stops rd_values rd_tokens n_rd_21 tn rd_strayCount rd_lawTold rd_falseTold)) hB ht hvm hP hD hK [2] [0, 1, 3] rfl 4 rfl (by decide +kernel) rfl (by decide +kernel) hk1 hFc
        generalize H1 = H at hP hS ⊢
        have hK : va_K (dC, dI) vwCl [(cA_rd_kinds, .int), (cA_rd_starts, .int), (cA_rd_values, .int)] s := hK
        refine lv_aload_n hx hb dX5_expectNumber_50 rfl (lv_at hl 1 rfl) ?_
        refine va_get (D := (dC, dI)) (ci := 5) (v := .int n_rd_17) (C := RX5) (T := TX5) (N := 13) hx hb hts zl_X5 hown hK hP 3 rfl rfl 0 (by decide) (hts _ zw_t1_193) (fun _ h9 => h9) rfl dX5_expectNumber_51 ?_
        have nb_n_rd_17 := zi_nb n_rd_17
        refine lv_if_ne (tgt := 61) hx hb dX5_expectNumber_54 (by decide) (fun c_22 => ?_) (fun c_22 => ?_)
        · have ic_22 := zz_ne rfl (show Int32.toInt 0 = 0 from by decide) c_22
          refine lv_iconst (v := 0) hx hb dX5_expectNumber_61 (by decide) ?_
          have zc : Int32.toInt 0 = 0 := by decide
          exact W.iret (v := 0) hx hb hr (fun t ht hW => by rw [← hQe]; exact ⟨⟨0, (), rfl, (by first | with_reducible assumption | omega), ⟨n_rd_17, n_rd_18, n_rd_21, (by first | with_reducible assumption | omega), z_ret hP hK hD ht hW [3, 0, 2, 1] [] rfl (by decide) rfl⟩⟩, hS.F ht⟩) hS.2.2 dX5_expectNumber_62
        · have ic_22 := zz_nne rfl (show Int32.toInt 0 = 0 from by decide) c_22
          refine lv_iload_n hx hb dX5_expectNumber_57 rfl (lv_at hl 0 rfl) ?_
          refine lv_goto (tgt := 62) hx hb dX5_expectNumber_58 (by decide) ?_
          exact W.iret (v := x_1) hx hb hr (fun t ht hW => by rw [← hQe]; exact ⟨⟨x_1, (), rfl, (by first | with_reducible assumption | omega), ⟨n_rd_17, n_rd_18, n_rd_21, (by first | with_reducible assumption | omega), z_ret hP hK hD ht hW [3, 0, 2, 1] [] rfl (by decide) rfl⟩⟩, hS.F ht⟩) hS.2.2 dX5_expectNumber_62
  · have ic_3 := zz_neq rfl (show Int32.toInt 2 = 2 from by decide) c_3
    refine lv_aload_n hx hb dX5_expectNumber_23 rfl (lv_at hl 1 rfl) ?_
    refine lv_iconst (v := 1) hx hb dX5_expectNumber_24 (by decide) ?_
    obtain ⟨hPc, hDc, hFc⟩ := z_cut (wc := (zV90 rd rd_fault rd_place tx rd_kinds rd_starts rd_stops rd_values rd_tokens rd_at tn rd_strayCount rd_lawTold rd_falseTold rd_starts cA_rd_starts f_rd_starts)) hP hD hS hA [0, 2] rfl (by decide +kernel)
    have hKc := hK.sub (tys' := [(cA_rd_starts, .int)]) [1] rfl
    refine va_callv (va_runV (As := [.int 1]) (rest := []) ⟨hx, hb, hml, hown, hts⟩ (k_X5_blame l sa dC dI rd (1) rd_fault rd_place tx rd_kinds rd_starts rd_stops rd_values rd_tokens rd_at tn rd_strayCount rd_lawTold rd_falseTold cA_rd_starts f_rd_starts (by decide) b_rd_tokens b_rd_at b_rd_strayCount b_rd_lawTold b_rd_falseTold b_f_rd_starts s.heap.size) (cwV 1 hts (z_gV zw_t3_89 zw_t3_91 zw_s1_7 zw_t1_4 zw_t3_92) rfl rfl rfl (by decide +kernel) (by rw [← hRe]; exact ⟨(Nat.le_of_ble_eq_true rfl), (Nat.le_of_ble_eq_true rfl)⟩)) (z_preV hPc hKc hDc hN hXs hS hFc (q := (RX5, TX5, 13)) (ci := 5) (q0 := 0) rfl rfl) rfl rfl hl.1 rfl (lv_room (Nat.le_of_ble_eq_true rfl)) dX5_expectNumber_25 (by rw [← hRe]; exact ⟨(Nat.le_of_ble_eq_true rfl), (Nat.le_of_ble_eq_true rfl)⟩)) hS (fun q _ h => hFc q h) hFc (fun u t H1 locs ht hvm hw hB hz1 hk1 hS => ?_)
    obtain ⟨n_rd_24, n_rd_25, hf_26, hB⟩ := hB
    obtain ⟨hP, hD, hK⟩ := z_after3 (wn := (zV93 rd_kinds cA_rd_kinds f_rd_kinds rd_values cA_rd_values f_rd_values rd n_rd_24 n_rd_25 tx rd_kinds rd_starts rd_stops rd_values rd_tokens rd_at tn rd_strayCount rd_lawTold rd_falseTold rd_starts cA_rd_starts f_rd_starts)) hB ht hvm hP hD hK [0, 2] [1, 3] rfl 4 rfl (by decide +kernel) rfl (by decide +kernel) hk1 hFc
    generalize H1 = H at hP hS ⊢
    have hK : va_K (dC, dI) vwCl [(cA_rd_kinds, .int), (cA_rd_starts, .int), (cA_rd_values, .int)] s := hK
    refine lv_goto (tgt := 46) hx hb dX5_expectNumber_28 (by decide) ?_
    refine lv_aload_n hx hb dX5_expectNumber_46 rfl (lv_at hl 1 rfl) ?_
    obtain ⟨hPc, hDc, hFc⟩ := z_cut (wc := (zV91 rd n_rd_24 n_rd_25 tx rd_kinds rd_starts rd_stops rd_values rd_tokens rd_at tn rd_strayCount rd_lawTold rd_falseTold)) hP hD hS hA [2] rfl (by decide +kernel)
    have hKc := hK.sub (tys' := []) [] rfl
    refine va_callv (va_runV (As := []) (rest := []) ⟨hx, hb, hml, hown, hts⟩ (k_X5_advance l sa dC dI rd n_rd_24 n_rd_25 tx rd_kinds rd_starts rd_stops rd_values rd_tokens rd_at tn rd_strayCount rd_lawTold rd_falseTold b_rd_tokens b_rd_at b_rd_strayCount b_rd_lawTold b_rd_falseTold H.size) (cwV 0 hts (z_gV zw_t3_93 zw_t3_95 zw_s1_8 zw_t1_4 zw_t3_96) rfl rfl rfl (by decide +kernel) (by rw [← hRe]; exact ⟨(Nat.le_of_ble_eq_true rfl), (Nat.le_of_ble_eq_true rfl)⟩)) (z_preV hPc hKc hDc hN hXs hS hFc (q := (RX5, TX5, 13)) (ci := 5) (q0 := 0) rfl rfl) rfl rfl hl.1 rfl (lv_room (Nat.le_of_ble_eq_true rfl)) dX5_expectNumber_47 (by rw [← hRe]; exact ⟨(Nat.le_of_ble_eq_true rfl), (Nat.le_of_ble_eq_true rfl)⟩)) hS (fun q _ h => hFc q h) hFc (fun u t H1 locs ht hvm hw hB hz1 hk1 hS => ?_)
    obtain ⟨n_rd_28, b_n_rd_28, hB⟩ := hB
    obtain ⟨hP, hD, hK⟩ := z_after3 (wn := (zV94 rd_kinds cA_rd_kinds f_rd_kinds rd_values cA_rd_values f_rd_values rd_starts cA_rd_starts f_rd_starts rd n_rd_24 n_rd_25 tx rd_kinds rd_starts rd_stops rd_values rd_tokens n_rd_28 tn rd_strayCount rd_lawTold rd_falseTold)) hB ht hvm hP hD hK [2] [0, 1, 3] rfl 4 rfl (by decide +kernel) rfl (by decide +kernel) hk1 hFc
    generalize H1 = H at hP hS ⊢
    have hK : va_K (dC, dI) vwCl [(cA_rd_kinds, .int), (cA_rd_starts, .int), (cA_rd_values, .int)] s := hK
    refine lv_aload_n hx hb dX5_expectNumber_50 rfl (lv_at hl 1 rfl) ?_
    refine va_get (D := (dC, dI)) (ci := 5) (v := .int n_rd_24) (C := RX5) (T := TX5) (N := 13) hx hb hts zl_X5 hown hK hP 3 rfl rfl 0 (by decide) (hts _ zw_t1_193) (fun _ h9 => h9) rfl dX5_expectNumber_51 ?_
    have nb_n_rd_24 := zi_nb n_rd_24
    refine lv_if_ne (tgt := 61) hx hb dX5_expectNumber_54 (by decide) (fun c_29 => ?_) (fun c_29 => ?_)
    · have ic_29 := zz_ne rfl (show Int32.toInt 0 = 0 from by decide) c_29
      refine lv_iconst (v := 0) hx hb dX5_expectNumber_61 (by decide) ?_
      have zc : Int32.toInt 0 = 0 := by decide
      exact W.iret (v := 0) hx hb hr (fun t ht hW => by rw [← hQe]; exact ⟨⟨0, (), rfl, (by first | with_reducible assumption | omega), ⟨n_rd_24, n_rd_25, n_rd_28, (by first | with_reducible assumption | omega), z_ret hP hK hD ht hW [3, 0, 2, 1] [] rfl (by decide) rfl⟩⟩, hS.F ht⟩) hS.2.2 dX5_expectNumber_62
    · have ic_29 := zz_nne rfl (show Int32.toInt 0 = 0 from by decide) c_29
      refine lv_iload_n hx hb dX5_expectNumber_57 rfl (lv_at hl 0 rfl) ?_
      refine lv_goto (tgt := 62) hx hb dX5_expectNumber_58 (by decide) ?_
      exact W.iret (v := x_1) hx hb hr (fun t ht hW => by rw [← hQe]; exact ⟨⟨x_1, (), rfl, (by first | with_reducible assumption | omega), ⟨n_rd_24, n_rd_25, n_rd_28, (by first | with_reducible assumption | omega), z_ret hP hK hD ht hW [3, 0, 2, 1] [] rfl (by decide) rfl⟩⟩, hS.F ht⟩) hS.2.2 dX5_expectNumber_62
set_option maxHeartbeats 4000000 in
set_option maxRecDepth 100000 in
theorem k_X5_expectCourt (l : Launch) (sa : Nat → Nat) (dC : Nat → ClassId) (dI : Nat → Nat → Nat) (rd : Nat) (rd_fault : Int32) (rd_place : Int32) (tx : Nat) (rd_kinds : Nat) (rd_starts : Nat) (rd_stops : Nat) (rd_values : Nat) (rd_tokens : Int32) (rd_at : Int32) (tn : Nat) (rd_strayCount : Int32) (rd_lawTold : Int32) (rd_falseTold : Int32) (cA_rd_kinds : ClassId) (f_rd_kinds : Nat → Int32) (cA_rd_starts : ClassId) (f_rd_starts : Nat → Int32) (cA_rd_values : ClassId) (f_rd_values : Nat → Int32) (tn_hours : Int32) (tn_courts : Int32) (tn_gateCount : Int32) (tn_people : Int32) (tn_lines : Int32) (tn_falseHours : Int32) (tn_strayers : Int32) (tn_deep : Int32) (tn_above : Nat) (tn_doors : Nat) (tn_degrees : Nat) (tn_neighbours : Nat) (tn_shows : Nat) (tn_oneEnd : Nat) (tn_otherEnd : Nat) (tn_told : Nat) (tn_strayParts : Nat) (tn_strayCourts : Nat) (b_rd_tokens : 0 ≤ rd_tokens.toInt ∧ rd_tokens.toInt ≤ 1600) (b_rd_at : 0 ≤ rd_at.toInt ∧ rd_at.toInt ≤ 1600) (b_rd_strayCount : 0 ≤ rd_strayCount.toInt ∧ rd_strayCount.toInt ≤ 4) (b_rd_lawTold : 0 ≤ rd_lawTold.toInt ∧ rd_lawTold.toInt ≤ 1) (b_rd_falseTold : 0 ≤ rd_falseTold.toInt ∧ rd_falseTold.toInt ≤ 1) (b_f_rd_kinds : ∀ j : Nat, 0 ≤ (f_rd_kinds j).toInt ∧ (f_rd_kinds j).toInt ≤ 5) (b_f_rd_starts : ∀ j : Nat, 0 ≤ (f_rd_starts j).toInt ∧ (f_rd_starts j).toInt ≤ 1600) (b_f_rd_values : ∀ j : Nat, 0 ≤ (f_rd_values j).toInt ∧ (f_rd_values j).toInt ≤ 100000) (b_tn_hours : 0 ≤ tn_hours.toInt ∧ tn_hours.toInt ≤ 48) (b_tn_courts : 0 ≤ tn_courts.toInt ∧ tn_courts.toInt ≤ 10) (b_tn_gateCount : 0 ≤ tn_gateCount.toInt ∧ tn_gateCount.toInt ≤ 16) (b_tn_people : 0 ≤ tn_people.toInt ∧ tn_people.toInt ≤ 10) (b_tn_falseHours : 0 ≤ tn_falseHours.toInt ∧ tn_falseHours.toInt ≤ 9) (b_tn_deep : 0 ≤ tn_deep.toInt ∧ tn_deep.toInt ≤ 1) (sz : Nat) : Met l yX5_expectCourt (.code yX5_expectCourt cX5_expectCourt 1 (some .int) :: zT) ({ frames := 2, cells := 0, slots := 0, locals := 44 }) (va_Pc [.ref rd] (zB sa dC dI (zV95 rd rd_fault rd_place tx rd_kinds rd_starts rd_stops rd_values rd_tokens rd_at tn rd_strayCount rd_lawTold rd_falseTold rd_kinds cA_rd_kinds f_rd_kinds rd_starts cA_rd_starts f_rd_starts rd_values cA_rd_values f_rd_values tn tn_hours tn_courts tn_gateCount tn_people tn_lines tn_falseHours tn_strayers tn_deep tn_above tn_doors tn_degrees tn_neighbours tn_shows tn_oneEnd tn_otherEnd tn_told tn_strayParts tn_strayCourts) [(cA_rd_kinds, .int), (cA_rd_starts, .int), (cA_rd_values, .int)] sz)) (va_Qi (fun (r : Int32) (_ : Unit) => (0 ≤ r.toInt ∧ r.toInt ≤ 9)) (fun _ t => ∃ (n_rd_0 : Int32) (n_rd_1 : Int32) (n_rd_8 : Int32), (0 ≤ n_rd_8.toInt ∧ n_rd_8.toInt ≤ 1600) ∧ zW dC dI (zV95 rd n_rd_0 n_rd_1 tx rd_kinds rd_starts rd_stops rd_values rd_tokens n_rd_8 tn rd_strayCount rd_lawTold rd_falseTold rd_kinds cA_rd_kinds f_rd_kinds rd_starts cA_rd_starts f_rd_starts rd_values cA_rd_values f_rd_values tn tn_hours tn_courts tn_gateCount tn_people tn_lines tn_falseHours tn_strayers tn_deep tn_above tn_doors tn_degrees tn_neighbours tn_shows tn_oneEnd tn_otherEnd tn_told tn_strayParts tn_strayCourts) [] (va_A (zV95 rd rd_fault rd_place tx rd_kinds rd_starts rd_stops rd_values rd_tokens rd_at tn rd_strayCount rd_lawTold rd_falseTold rd_kinds cA_rd_kinds f_rd_kinds rd_starts cA_rd_starts f_rd_starts rd_values cA_rd_values f_rd_values tn tn_hours tn_courts tn_gateCount tn_people tn_lines tn_falseHours tn_strayers tn_deep tn_above tn_doors tn_degrees tn_neighbours tn_shows tn_oneEnd tn_otherEnd tn_told tn_strayParts tn_strayCourts) sz) t) (va_A (zV95 rd rd_fault rd_place tx rd_kinds rd_starts rd_stops rd_values rd_tokens rd_at tn rd_strayCount rd_lawTold rd_falseTold rd_kinds cA_rd_kinds f_rd_kinds rd_starts cA_rd_starts f_rd_starts rd_values cA_rd_values f_rd_values tn tn_hours tn_courts tn_gateCount tn_people tn_lines tn_falseHours tn_strayers tn_deep tn_above tn_doors tn_degrees tn_neighbours tn_shows tn_oneEnd tn_otherEnd tn_told tn_strayParts tn_strayCourts) sz)) 0 0 (va_A (zV95 rd rd_fault rd_place tx rd_kinds rd_starts rd_stops rd_values rd_tokens rd_at tn rd_strayCount rd_lawTold rd_falseTold rd_kinds cA_rd_kinds f_rd_kinds rd_starts cA_rd_starts f_rd_starts rd_values cA_rd_values f_rd_values tn tn_hours tn_courts tn_gateCount tn_people tn_lines tn_falseHours tn_strayers tn_deep tn_above tn_doors tn_degrees tn_neighbours tn_shows tn_oneEnd tn_otherEnd tn_told tn_strayParts tn_strayCourts) sz) := by
  refine z_enter (by decide) (by exact (Nat.le_of_ble_eq_true rfl)) ?_
  intro p e s m args below meth c ls A R Qc hargs hsz hQe hAe hRe hx hb hml hr hts hown hlocks hin hl hP hK hD hN hXs hA hS
  rw [hAe] at hQe
  have hown : s.vm.findClass RX5 = some m.cls := hown
  have hl : lv_has ls 1 [(0, .ref rd)] := hl
  refine lv_aload_n hx hb dX5_expectCourt_0 rfl (lv_at hl 0 rfl) ?_
  refine lv_iconst (v := 0) hx hb dX5_expectCourt_1 (by decide) ?_
  refine lv_aload_n hx hb dX5_expectCourt_2 rfl (lv_at hl 0 rfl) ?_
  refine va_get (D := (dC, dI)) (ci := 5) (v := .ref tn) (C := RX5) (T := TX5) (N := 13) hx hb hts zl_X5 hown hK hP 0 rfl rfl 9 (by decide) (hts _ zw_t1_204) (fun _ h9 => h9) rfl dX5_expectCourt_3 ?_
  refine va_get (D := (dC, dI)) (ci := 7) (v := .int tn_courts) (C := RX7) (T := TX7) (N := 18) hx hb hts zl_X7 hown hK hP 4 rfl rfl 1 (by decide) (hts _ zw_t1_51) (fun _ h9 => h9) rfl dX5_expectCourt_6 ?_
  refine lv_iconst (v := 1) hx hb dX5_expectCourt_9 (by decide) ?_
  refine lv_isub hx hb dX5_expectCourt_10 ?_
  refine lv_topi (fun x_1 ex_1 => ?_)
  have b_x_1 : x_1.toInt = tn_courts.toInt - 1 := by rw [ex_1]; exact zi_sub rfl (show Int32.toInt 1 = 1 from by decide) (by first | with_reducible assumption | omega)
  obtain ⟨hPc, hDc, hFc⟩ := z_cut (wc := (zV89 rd rd_fault rd_place tx rd_kinds rd_starts rd_stops rd_values rd_tokens rd_at tn rd_strayCount rd_lawTold rd_falseTold rd_kinds cA_rd_kinds f_rd_kinds rd_starts cA_rd_starts f_rd_starts rd_values cA_rd_values f_rd_values)) hP hD hS hA [0, 1, 2, 3] rfl (by decide +kernel)
  have hKc := hK.sub (tys' := [(cA_rd_kinds, .int), (cA_rd_starts, .int), (cA_rd_values, .int)]) [0, 1, 2] rfl
  refine va_calli (va_runV (As := [.int 0, .int x_1]) (rest := []) ⟨hx, hb, hml, hown, hts⟩ (k_X5_expectNumber l sa dC dI rd (0) x_1 rd_fault rd_place tx rd_kinds rd_starts rd_stops rd_values rd_tokens rd_at tn rd_strayCount rd_lawTold rd_falseTold cA_rd_kinds f_rd_kinds cA_rd_starts f_rd_starts cA_rd_values f_rd_values (by decide) (by first | with_reducible assumption | omega) b_rd_tokens b_rd_at b_rd_strayCount b_rd_lawTold b_rd_falseTold b_f_rd_kinds b_f_rd_starts b_f_rd_values s.heap.size) (cwV 2 hts (z_gV zw_t3_98 zw_t3_100 zw_s1_9 zw_t1_4 zw_t3_101) rfl rfl rfl (by decide +kernel) (by rw [← hRe]; exact ⟨(Nat.le_of_ble_eq_true rfl), (Nat.le_of_ble_eq_true rfl)⟩)) (z_preV hPc hKc hDc hN hXs hS hFc (q := (RX5, TX5, 13)) (ci := 5) (q0 := 0) rfl rfl) rfl rfl hl.1 rfl (lv_room (Nat.le_of_ble_eq_true rfl)) dX5_expectCourt_11 (by rw [← hRe]; exact ⟨(Nat.le_of_ble_eq_true rfl), (Nat.le_of_ble_eq_true rfl)⟩)) hS (fun q _ h => hFc q h) hFc (fun r_2 u t H1 locs ht hvm hw hB hz1 hk1 hS => ?_)
  obtain ⟨n_rd_3, n_rd_4, n_rd_5, b_n_rd_5, hB⟩ := hB
  obtain ⟨hP, hD, hK⟩ := z_after3 (wn := [(tn, .inr (7, [.int tn_hours, .int tn_courts, .int tn_gateCount, .int tn_people, .int tn_lines, .int tn_falseHours, .int tn_strayers, .int tn_deep, .ref tn_above, .ref tn_doors, .ref tn_degrees, .ref tn_neighbours, .ref tn_shows, .ref tn_oneEnd, .ref tn_otherEnd, .ref tn_told, .ref tn_strayParts, .ref tn_strayCourts])), (rd, .inr (5, [.int n_rd_3, .int n_rd_4, .ref tx, .ref rd_kinds, .ref rd_starts, .ref rd_stops, .ref rd_values, .int rd_tokens, .int n_rd_5, .ref tn, .int rd_strayCount, .int rd_lawTold, .int rd_falseTold])), (rd_kinds, .inl (cA_rd_kinds, 1601, .inl f_rd_kinds)), (rd_starts, .inl (cA_rd_starts, 1601, .inl f_rd_starts)), (rd_values, .inl (cA_rd_values, 1601, .inl f_rd_values))]) hB ht hvm hP hD hK [0, 1, 2, 3] [4] rfl 5 rfl (by decide +kernel) rfl (by decide +kernel) hk1 hFc
  generalize H1 = H at hP hS ⊢
  have hK : va_K (dC, dI) vwCl [(cA_rd_kinds, .int), (cA_rd_starts, .int), (cA_rd_values, .int)] s := hK
  have b_r_2 : 0 ≤ r_2.toInt ∧ r_2.toInt ≤ 100000 := hw.1
  have s_r_2 := hw.2
  have za_0 : Int32.toInt 0 = 0 := by decide
  exact W.iret (v := r_2) hx hb hr (fun t ht hW => by rw [← hQe]; exact ⟨⟨r_2, (), rfl, (by first | with_reducible assumption | omega), ⟨n_rd_3, n_rd_4, n_rd_5, (by first | with_reducible assumption | omega), z_ret hP hK hD ht hW [1, 2, 3, 4, 0] [] rfl (by decide) rfl⟩⟩, hS.F ht⟩) hS.2.2 dX5_expectCourt_14
set_option maxHeartbeats 4000000 in
set_option maxRecDepth 100000 in
theorem k_X5_readHours (l : Launch) (sa : Nat → Nat) (dC : Nat → ClassId) (dI : Nat → Nat → Nat) (rd : Nat) (rd_fault : Int32) (rd_place : Int32) (tx : Nat) (rd_kinds : Nat) (rd_starts : Nat) (rd_stops : Nat) (rd_values : Nat) (rd_tokens : Int32) (rd_at : Int32) (tn : Nat) (rd_strayCount : Int32) (rd_lawTold : Int32) (rd_falseTold : Int32) (cA_rd_kinds : ClassId) (f_rd_kinds : Nat → Int32) (cA_rd_starts : ClassId) (f_rd_starts : Nat → Int32) (cA_rd_stops : ClassId) (f_rd_stops : Nat → Int32) (cA_rd_values : ClassId) (f_rd_values : Nat → Int32) (cA_tx : ClassId) (f_tx : Nat → Int32) (tn_hours : Int32) (tn_courts : Int32) (tn_gateCount : Int32) (tn_people : Int32) (tn_lines : Int32) (tn_falseHours : Int32) (tn_strayers : Int32) (tn_deep : Int32) (tn_above : Nat) (tn_doors : Nat) (tn_degrees : Nat) (tn_neighbours : Nat) (tn_shows : Nat) (tn_oneEnd : Nat) (tn_otherEnd : Nat) (tn_told : Nat) (tn_strayParts : Nat) (tn_strayCourts : Nat) (b_rd_tokens : 0 ≤ rd_tokens.toInt ∧ rd_tokens.toInt ≤ 1600) (b_rd_at : 0 ≤ rd_at.toInt ∧ rd_at.toInt ≤ 1600) (b_rd_strayCount : 0 ≤ rd_strayCount.toInt ∧ rd_strayCount.toInt ≤ 4) (b_rd_lawTold : 0 ≤ rd_lawTold.toInt ∧ rd_lawTold.toInt ≤ 1) (b_rd_falseTold : 0 ≤ rd_falseTold.toInt ∧ rd_falseTold.toInt ≤ 1) (b_f_rd_kinds : ∀ j : Nat, 0 ≤ (f_rd_kinds j).toInt ∧ (f_rd_kinds j).toInt ≤ 5) (b_f_rd_starts : ∀ j : Nat, 0 ≤ (f_rd_starts j).toInt ∧ (f_rd_starts j).toInt ≤ 1600) (b_f_rd_stops : ∀ j : Nat, 0 ≤ (f_rd_stops j).toInt ∧ (f_rd_stops j).toInt ≤ 1600) (b_f_rd_values : ∀ j : Nat, 0 ≤ (f_rd_values j).toInt ∧ (f_rd_values j).toInt ≤ 100000) (b_tn_hours : 0 ≤ tn_hours.toInt ∧ tn_hours.toInt ≤ 48) (b_tn_courts : 0 ≤ tn_courts.toInt ∧ tn_courts.toInt ≤ 10) (b_tn_gateCount : 0 ≤ tn_gateCount.toInt ∧ tn_gateCount.toInt ≤ 16) (b_tn_people : 0 ≤ tn_people.toInt ∧ tn_people.toInt ≤ 10) (b_tn_falseHours : 0 ≤ tn_falseHours.toInt ∧ tn_falseHours.toInt ≤ 9) (b_tn_deep : 0 ≤ tn_deep.toInt ∧ tn_deep.toInt ≤ 1) (sz : Nat) : Met l yX5_readHours (.code yX5_readHours cX5_readHours 1 none :: zT) ({ frames := 6, cells := 0, slots := 0, locals := 128 }) (va_Pc [.ref rd] (zB sa dC dI (zV96 rd rd_fault rd_place tx rd_kinds rd_starts rd_stops rd_values rd_tokens rd_at tn rd_strayCount rd_lawTold rd_falseTold rd_kinds cA_rd_kinds f_rd_kinds rd_starts cA_rd_starts f_rd_starts rd_stops cA_rd_stops f_rd_stops rd_values cA_rd_values f_rd_values tx cA_tx f_tx tn tn_hours tn_courts tn_gateCount tn_people tn_lines tn_falseHours tn_strayers tn_deep tn_above tn_doors tn_degrees tn_neighbours tn_shows tn_oneEnd tn_otherEnd tn_told tn_strayParts tn_strayCourts) [(cA_rd_kinds, .int), (cA_rd_starts, .int), (cA_rd_stops, .int), (cA_rd_values, .int), (cA_tx, .byte)] sz)) (va_Qv (fun _ : Unit => True) (fun _ t => ∃ (n_rd_0 : Int32) (n_rd_1 : Int32) (n_rd_8 : Int32) (n_tn_0 : Int32) (n_tn_1 : Int32) (n_tn_7 : Int32), (0 ≤ n_rd_8.toInt ∧ n_rd_8.toInt ≤ 1600) ∧ (0 ≤ n_tn_0.toInt ∧ n_tn_0.toInt ≤ 48) ∧ (0 ≤ n_tn_1.toInt ∧ n_tn_1.toInt ≤ 10) ∧ (0 ≤ n_tn_7.toInt ∧ n_tn_7.toInt ≤ 1) ∧ zW dC dI (zV96 rd n_rd_0 n_rd_1 tx rd_kinds rd_starts rd_stops rd_values rd_tokens n_rd_8 tn rd_strayCount rd_lawTold rd_falseTold rd_kinds cA_rd_kinds f_rd_kinds rd_starts cA_rd_starts f_rd_starts rd_stops cA_rd_stops f_rd_stops rd_values cA_rd_values f_rd_values tx cA_tx f_tx tn n_tn_0 n_tn_1 tn_gateCount tn_people tn_lines tn_falseHours tn_strayers n_tn_7 tn_above tn_doors tn_degrees tn_neighbours tn_shows tn_oneEnd tn_otherEnd tn_told tn_strayParts tn_strayCourts) [] (va_A (zV96 rd rd_fault rd_place tx rd_kinds rd_starts rd_stops rd_values rd_tokens rd_at tn rd_strayCount rd_lawTold rd_falseTold rd_kinds cA_rd_kinds f_rd_kinds rd_starts cA_rd_starts f_rd_starts rd_stops cA_rd_stops f_rd_stops rd_values cA_rd_values f_rd_values tx cA_tx f_tx tn tn_hours tn_courts tn_gateCount tn_people tn_lines tn_falseHours tn_strayers tn_deep tn_above tn_doors tn_degrees tn_neighbours tn_shows tn_oneEnd tn_otherEnd tn_told tn_strayParts tn_strayCourts) sz) t) (va_A (zV96 rd rd_fault rd_place tx rd_kinds rd_starts rd_stops rd_values rd_tokens rd_at tn rd_strayCount rd_lawTold rd_falseTold rd_kinds cA_rd_kinds f_rd_kinds rd_starts cA_rd_starts f_rd_starts rd_stops cA_rd_stops f_rd_stops rd_values cA_rd_values f_rd_values tx cA_tx f_tx tn tn_hours tn_courts tn_gateCount tn_people tn_lines tn_falseHours tn_strayers tn_deep tn_above tn_doors tn_degrees tn_neighbours tn_shows tn_oneEnd tn_otherEnd tn_told tn_strayParts tn_strayCourts) sz)) 0 0 (va_A (zV96 rd rd_fault rd_place tx rd_kinds rd_starts rd_stops rd_values rd_tokens rd_at tn rd_strayCount rd_lawTold rd_falseTold rd_kinds cA_rd_kinds f_rd_kinds rd_starts cA_rd_starts f_rd_starts rd_stops cA_rd_stops f_rd_stops rd_values cA_rd_values f_rd_values tx cA_tx f_tx tn tn_hours tn_courts tn_gateCount tn_people tn_lines tn_falseHours tn_strayers tn_deep tn_above tn_doors tn_degrees tn_neighbours tn_shows tn_oneEnd tn_otherEnd tn_told tn_strayParts tn_strayCourts) sz) := by
  refine z_enter (by decide) (by exact (Nat.le_of_ble_eq_true rfl)) ?_
  intro p e s m args below meth c ls A R Qc hargs hsz hQe hAe hRe hx hb hml hr hts hown hlocks hin hl hP hK hD hN hXs hA hS
  rw [hAe] at hQe
  have hown : s.vm.findClass RX5 = some m.cls := hown
  have hl : lv_has ls 1 [(0, .ref rd)] := hl
  refine lv_aload_n hx hb dX5_readHours_0 rfl (lv_at hl 0 rfl) ?_
  refine va_ldcS (index := 149) hx hb hown (hXs.2.2.2.2.2.2.2 5 (by decide)) dX5_readHours_1 ?_
  obtain ⟨hPc, hDc, hFc⟩ := z_cut (wc := (zV92 rd rd_fault rd_place tx rd_kinds rd_starts rd_stops rd_values rd_tokens rd_at tn rd_strayCount rd_lawTold rd_falseTold rd_kinds cA_rd_kinds f_rd_kinds rd_starts cA_rd_starts f_rd_starts rd_stops cA_rd_stops f_rd_stops tx cA_tx f_tx)) hP hD hS hA [0, 1, 2, 3, 5] rfl (by decide +kernel)
  have hKc := hK.sub (tys' := [(cA_rd_kinds, .int), (cA_rd_starts, .int), (cA_rd_stops, .int), (cA_tx, .byte)]) [0, 1, 2, 4] rfl
  refine va_callv (va_runV (As := [.ref (sa (2 + 2 * 5))]) (rest := []) ⟨hx, hb, hml, hown, hts⟩ (k_X5_expectWord l sa dC dI rd rd_fault rd_place tx rd_kinds rd_starts rd_stops rd_values rd_tokens rd_at tn rd_strayCount rd_lawTold rd_falseTold cA_rd_kinds f_rd_kinds cA_rd_starts f_rd_starts cA_rd_stops f_rd_stops cA_tx f_tx (5) b_rd_tokens b_rd_at b_rd_strayCount b_rd_lawTold b_rd_falseTold b_f_rd_kinds b_f_rd_starts b_f_rd_stops (by decide) s.heap.size) (cwV 1 hts (z_gV zw_t3_33 zw_t3_35 zw_s1_5 zw_t1_4 zw_t3_36) rfl rfl rfl (by decide +kernel) (by rw [← hRe]; exact ⟨(Nat.le_of_ble_eq_true rfl), (Nat.le_of_ble_eq_true rfl)⟩)) (z_preV hPc hKc hDc hN hXs hS hFc (q := (RX5, TX5, 13)) (ci := 5) (q0 := 0) rfl rfl) rfl rfl hl.1 rfl (lv_room (Nat.le_of_ble_eq_true rfl)) dX5_readHours_3 (by rw [← hRe]; exact ⟨(Nat.le_of_ble_eq_true rfl), (Nat.le_of_ble_eq_true rfl)⟩)) hS (fun q _ h => hFc q h) hFc (fun u t H1 locs ht hvm hw hB hz1 hk1 hS => ?_)
  obtain ⟨n_rd_2, n_rd_3, n_rd_4, b_n_rd_4, hB⟩ := hB
  obtain ⟨hP, hD, hK⟩ := z_after3 (wn := (zV97 rd_values cA_rd_values f_rd_values tn tn_hours tn_courts tn_gateCount tn_people tn_lines tn_falseHours tn_strayers tn_deep tn_above tn_doors tn_degrees tn_neighbours tn_shows tn_oneEnd tn_otherEnd tn_told tn_strayParts tn_strayCourts rd n_rd_2 n_rd_3 tx rd_kinds rd_starts rd_stops rd_values rd_tokens n_rd_4 tn rd_strayCount rd_lawTold rd_falseTold rd_kinds cA_rd_kinds f_rd_kinds rd_starts cA_rd_starts f_rd_starts rd_stops cA_rd_stops f_rd_stops tx cA_tx f_tx)) hB ht hvm hP hD hK [0, 1, 2, 3, 5] [4, 6] rfl 7 rfl (by decide +kernel) rfl (by decide +kernel) hk1 hFc
  generalize H1 = H at hP hS ⊢
  have hK : va_K (dC, dI) vwCl [(cA_rd_kinds, .int), (cA_rd_starts, .int), (cA_rd_stops, .int), (cA_rd_values, .int), (cA_tx, .byte)] s := hK
  refine lv_aload_n hx hb dX5_readHours_6 rfl (lv_at hl 0 rfl) ?_
  refine va_ldcS (index := 154) hx hb hown (hXs.2.2.2.2.2.2.2 6 (by decide)) dX5_readHours_7 ?_
  obtain ⟨hPc, hDc, hFc⟩ := z_cut (wc := (zV92 rd n_rd_2 n_rd_3 tx rd_kinds rd_starts rd_stops rd_values rd_tokens n_rd_4 tn rd_strayCount rd_lawTold rd_falseTold rd_kinds cA_rd_kinds f_rd_kinds rd_starts cA_rd_starts f_rd_starts rd_stops cA_rd_stops f_rd_stops tx cA_tx f_tx)) hP hD hS hA [2, 3, 4, 5, 6] rfl (by decide +kernel)
  have hKc := hK.sub (tys' := [(cA_rd_kinds, .int), (cA_rd_starts, .int), (cA_rd_stops, .int), (cA_tx, .byte)]) [0, 1, 2, 4] rfl
  refine va_callv (va_runV (As := [.ref (sa (2 + 2 * 6))]) (rest := []) ⟨hx, hb, hml, hown, hts⟩ (k_X5_expectWord l sa dC dI rd n_rd_2 n_rd_3 tx rd_kinds rd_starts rd_stops rd_values rd_tokens n_rd_4 tn rd_strayCount rd_lawTold rd_falseTold cA_rd_kinds f_rd_kinds cA_rd_starts f_rd_starts cA_rd_stops f_rd_stops cA_tx f_tx (6) b_rd_tokens (by first | with_reducible assumption | omega) b_rd_strayCount b_rd_lawTold b_rd_falseTold b_f_rd_kinds b_f_rd_starts b_f_rd_stops (by decide) H.size) (cwV 1 hts (z_gV zw_t3_33 zw_t3_35 zw_s1_5 zw_t1_4 zw_t3_36) rfl rfl rfl (by decide +kernel) (by rw [← hRe]; exact ⟨(Nat.le_of_ble_eq_true rfl), (Nat.le_of_ble_eq_true rfl)⟩)) (z_preV hPc hKc hDc hN hXs hS hFc (q := (RX5, TX5, 13)) (ci := 5) (q0 := 0) rfl rfl) rfl rfl hl.1 rfl (lv_room (Nat.le_of_ble_eq_true rfl)) dX5_readHours_9 (by rw [← hRe]; exact ⟨(Nat.le_of_ble_eq_true rfl), (Nat.le_of_ble_eq_true rfl)⟩)) hS (fun q _ h => hFc q h) hFc (fun u t H1 locs ht hvm hw hB hz1 hk1 hS => ?_)
  obtain ⟨n_rd_6, n_rd_7, n_rd_8, b_n_rd_8, hB⟩ := hB
  obtain ⟨hP, hD, hK⟩ := z_after3 (wn := (zV97 rd_values cA_rd_values f_rd_values tn tn_hours tn_courts tn_gateCount tn_people tn_lines tn_falseHours tn_strayers tn_deep tn_above tn_doors tn_degrees tn_neighbours tn_shows tn_oneEnd tn_otherEnd tn_told tn_strayParts tn_strayCourts rd n_rd_6 n_rd_7 tx rd_kinds rd_starts rd_stops rd_values rd_tokens n_rd_8 tn rd_strayCount rd_lawTold rd_falseTold rd_kinds cA_rd_kinds f_rd_kinds rd_starts cA_rd_starts f_rd_starts rd_stops cA_rd_stops f_rd_stops tx cA_tx f_tx)) hB ht hvm hP hD hK [2, 3, 4, 5, 6] [0, 1] rfl 7 rfl (by decide +kernel) rfl (by decide +kernel) hk1 hFc
  generalize H1 = H at hP hS ⊢
  have hK : va_K (dC, dI) vwCl [(cA_rd_kinds, .int), (cA_rd_starts, .int), (cA_rd_stops, .int), (cA_rd_values, .int), (cA_tx, .byte)] s := hK
  refine lv_aload_n hx hb dX5_readHours_12 rfl (lv_at hl 0 rfl) ?_
  refine va_get (D := (dC, dI)) (ci := 5) (v := .ref tn) (C := RX5) (T := TX5) (N := 13) hx hb hts zl_X5 hown hK hP 2 rfl rfl 9 (by decide) (hts _ zw_t1_204) (fun _ h9 => h9) rfl dX5_readHours_13 ?_
  refine lv_aload_n hx hb dX5_readHours_16 rfl (lv_at hl 0 rfl) ?_
  refine lv_iconst (v := 1) hx hb dX5_readHours_17 (by decide) ?_
  refine lv_bipush (v := 48) hx hb dX5_readHours_18 (by decide) ?_
  obtain ⟨hPc, hDc, hFc⟩ := z_cut (wc := (zV89 rd n_rd_6 n_rd_7 tx rd_kinds rd_starts rd_stops rd_values rd_tokens n_rd_8 tn rd_strayCount rd_lawTold rd_falseTold rd_kinds cA_rd_kinds f_rd_kinds rd_starts cA_rd_starts f_rd_starts rd_values cA_rd_values f_rd_values)) hP hD hS hA [2, 3, 4, 0] rfl (by decide +kernel)
  have hKc := hK.sub (tys' := [(cA_rd_kinds, .int), (cA_rd_starts, .int), (cA_rd_values, .int)]) [0, 1, 3] rfl
  refine va_calli (va_runV (As := [.int 1, .int 48]) (rest := [.ref tn]) ⟨hx, hb, hml, hown, hts⟩ (k_X5_expectNumber l sa dC dI rd (1) (48) n_rd_6 n_rd_7 tx rd_kinds rd_starts rd_stops rd_values rd_tokens n_rd_8 tn rd_strayCount rd_lawTold rd_falseTold cA_rd_kinds f_rd_kinds cA_rd_starts f_rd_starts cA_rd_values f_rd_values (by decide) (by decide) b_rd_tokens (by first | with_reducible assumption | omega) b_rd_strayCount b_rd_lawTold b_rd_falseTold b_f_rd_kinds b_f_rd_starts b_f_rd_values H.size) (cwV 2 hts (z_gV zw_t3_98 zw_t3_100 zw_s1_9 zw_t1_4 zw_t3_101) rfl rfl rfl (by decide +kernel) (by rw [← hRe]; exact ⟨(Nat.le_of_ble_eq_true rfl), (Nat.le_of_ble_eq_true rfl)⟩)) (z_preV hPc hKc hDc hN hXs hS hFc (q := (RX5, TX5, 13)) (ci := 5) (q0 := 0) rfl rfl) rfl rfl hl.1 rfl (lv_room (Nat.le_of_ble_eq_true rfl)) dX5_readHours_20 (by rw [← hRe]; exact ⟨(Nat.le_of_ble_eq_true rfl), (Nat.le_of_ble_eq_true rfl)⟩)) hS (fun q _ h => hFc q h) hFc (fun r_9 u t H1 locs ht hvm hw hB hz1 hk1 hS => ?_)
  obtain ⟨n_rd_10, n_rd_11, n_rd_12, b_n_rd_12, hB⟩ := hB
  obtain ⟨hP, hD, hK⟩ := z_after3 (wn := (zV98 tn tn_hours tn_courts tn_gateCount tn_people tn_lines tn_falseHours tn_strayers tn_deep tn_above tn_doors tn_degrees tn_neighbours tn_shows tn_oneEnd tn_otherEnd tn_told tn_strayParts tn_strayCourts rd_stops cA_rd_stops f_rd_stops tx cA_tx f_tx rd n_rd_10 n_rd_11 tx rd_kinds rd_starts rd_stops rd_values rd_tokens n_rd_12 tn rd_strayCount rd_lawTold rd_falseTold rd_kinds cA_rd_kinds f_rd_kinds rd_starts cA_rd_starts f_rd_starts rd_values cA_rd_values f_rd_values)) hB ht hvm hP hD hK [2, 3, 4, 0] [1, 5, 6] rfl 7 rfl (by decide +kernel) rfl (by decide +kernel) hk1 hFc
  generalize H1 = H at hP hS ⊢
  have hK : va_K (dC, dI) vwCl [(cA_rd_kinds, .int), (cA_rd_starts, .int), (cA_rd_stops, .int), (cA_rd_values, .int), (cA_tx, .byte)] s := hK
  have b_r_9 : 0 ≤ r_9.toInt ∧ r_9.toInt ≤ 100000 := hw.1
  have s_r_9 := hw.2
  have za_1 : Int32.toInt 1 = 1 := by decide
  have za_48 : Int32.toInt 48 = 48 := by decide
  refine va_put (D := (dC, dI)) (ci := 7) (v := .int r_9) (ty := .int) (C := RX7) (T := TX7) (N := 18) hx hb hts zl_X7 tyX7 tyX7_ok nmX7 hown hK hP hD hS 0 rfl rfl 0 (by decide) (hts _ zw_t1_45) (fun _ h9 => h9) rfl (by decide +kernel) rfl rfl (Nat.le_of_ble_eq_true rfl) dX5_readHours_23 (fun H locs hP hD hS => ?_)
  have hP : va_P (dC, dI) vwCl (zV98 tn r_9 tn_courts tn_gateCount tn_people tn_lines tn_falseHours tn_strayers tn_deep tn_above tn_doors tn_degrees tn_neighbours tn_shows tn_oneEnd tn_otherEnd tn_told tn_strayParts tn_strayCourts rd_stops cA_rd_stops f_rd_stops tx cA_tx f_tx rd n_rd_10 n_rd_11 tx rd_kinds rd_starts rd_stops rd_values rd_tokens n_rd_12 tn rd_strayCount rd_lawTold rd_falseTold rd_kinds cA_rd_kinds f_rd_kinds rd_starts cA_rd_starts f_rd_starts rd_values cA_rd_values f_rd_values) H := hP
  have hD : va_D A (zV98 tn r_9 tn_courts tn_gateCount tn_people tn_lines tn_falseHours tn_strayers tn_deep tn_above tn_doors tn_degrees tn_neighbours tn_shows tn_oneEnd tn_otherEnd tn_told tn_strayParts tn_strayCourts rd_stops cA_rd_stops f_rd_stops tx cA_tx f_tx rd n_rd_10 n_rd_11 tx rd_kinds rd_starts rd_stops rd_values rd_tokens n_rd_12 tn rd_strayCount rd_lawTold rd_falseTold rd_kinds cA_rd_kinds f_rd_kinds rd_starts cA_rd_starts f_rd_starts rd_values cA_rd_values f_rd_values) := hD
  refine lv_aload_n hx hb dX5_readHours_26 rfl (lv_at hl 0 rfl) ?_
  refine va_get (D := (dC, dI)) (ci := 5) (v := .ref tn) (C := RX5) (T := TX5) (N := 13) hx hb hts zl_X5 hown hK hP 3 rfl rfl 9 (by decide) (hts _ zw_t1_204) (fun _ h9 => h9) rfl dX5_readHours_27 ?_
  refine lv_iconst (v := 1) hx hb dX5_readHours_30 (by decide) ?_
  refine va_put (D := (dC, dI)) (ci := 7) (v := .int 1) (ty := .int) (C := RX7) (T := TX7) (N := 18) hx hb hts zl_X7 tyX7 tyX7_ok nmX7 hown hK hP hD hS 0 rfl rfl 1 (by decide) (hts _ zw_t1_51) (fun _ h9 => h9) rfl (by decide +kernel) rfl rfl (Nat.le_of_ble_eq_true rfl) dX5_readHours_31 (fun H locs hP hD hS => ?_)
  have hP : va_P (dC, dI) vwCl (zV99 tn r_9 tn_gateCount tn_people tn_lines tn_falseHours tn_strayers tn_deep tn_above tn_doors tn_degrees tn_neighbours tn_shows tn_oneEnd tn_otherEnd tn_told tn_strayParts tn_strayCourts rd_stops cA_rd_stops f_rd_stops tx cA_tx f_tx rd n_rd_10 n_rd_11 tx rd_kinds rd_starts rd_stops rd_values rd_tokens n_rd_12 tn rd_strayCount rd_lawTold rd_falseTold rd_kinds cA_rd_kinds f_rd_kinds rd_starts cA_rd_starts f_rd_starts rd_values cA_rd_values f_rd_values) H := hP
  have hD : va_D A (zV99 tn r_9 tn_gateCount tn_people tn_lines tn_falseHours tn_strayers tn_deep tn_above tn_doors tn_degrees tn_neighbours tn_shows tn_oneEnd tn_otherEnd tn_told tn_strayParts tn_strayCourts rd_stops cA_rd_stops f_rd_stops tx cA_tx f_tx rd n_rd_10 n_rd_11 tx rd_kinds rd_starts rd_stops rd_values rd_tokens n_rd_12 tn rd_strayCount rd_lawTold rd_falseTold rd_kinds cA_rd_kinds f_rd_kinds rd_starts cA_rd_starts f_rd_starts rd_values cA_rd_values f_rd_values) := hD
  refine lv_aload_n hx hb dX5_readHours_34 rfl (lv_at hl 0 rfl) ?_
  refine va_get (D := (dC, dI)) (ci := 5) (v := .ref tn) (C := RX5) (T := TX5) (N := 13) hx hb hts zl_X5 hown hK hP 3 rfl rfl 9 (by decide) (hts _ zw_t1_204) (fun _ h9 => h9) rfl dX5_readHours_35 ?_
  refine lv_iconst (v := 1) hx hb dX5_readHours_38 (by decide) ?_
  refine va_put (D := (dC, dI)) (ci := 7) (v := .int 1) (ty := .boolean) (C := RX7) (T := TX7) (N := 18) hx hb hts zl_X7 tyX7 tyX7_ok nmX7 hown hK hP hD hS 0 rfl rfl 7 (by decide) (hts _ zw_t1_77) (fun _ h9 => h9) rfl (by decide +kernel) (by decide) (by decide) (Nat.le_of_ble_eq_true rfl) dX5_readHours_39 (fun H locs hP hD hS => ?_)
  have hP : va_P (dC, dI) vwCl (zV100 tn r_9 tn_gateCount tn_people tn_lines tn_falseHours tn_strayers tn_above tn_doors tn_degrees tn_neighbours tn_shows tn_oneEnd tn_otherEnd tn_told tn_strayParts tn_strayCourts rd_stops cA_rd_stops f_rd_stops tx cA_tx f_tx rd n_rd_10 n_rd_11 tx rd_kinds rd_starts rd_stops rd_values rd_tokens n_rd_12 tn rd_strayCount rd_lawTold rd_falseTold rd_kinds cA_rd_kinds f_rd_kinds rd_starts cA_rd_starts f_rd_starts rd_values cA_rd_values f_rd_values) H := hP
  have hD : va_D A (zV100 tn r_9 tn_gateCount tn_people tn_lines tn_falseHours tn_strayers tn_above tn_doors tn_degrees tn_neighbours tn_shows tn_oneEnd tn_otherEnd tn_told tn_strayParts tn_strayCourts rd_stops cA_rd_stops f_rd_stops tx cA_tx f_tx rd n_rd_10 n_rd_11 tx rd_kinds rd_starts rd_stops rd_values rd_tokens n_rd_12 tn rd_strayCount rd_lawTold rd_falseTold rd_kinds cA_rd_kinds f_rd_kinds rd_starts cA_rd_starts f_rd_starts rd_values cA_rd_values f_rd_values) := hD
  exact W.vret hx hb hr (fun t ht hW => by rw [← hQe]; exact ⟨⟨(), rfl, trivial, ⟨n_rd_10, n_rd_11, n_rd_12, r_9, (1), (1), (by first | with_reducible assumption | omega), (by first | with_reducible assumption | omega), (by decide), (by decide), z_ret hP hK hD ht hW [3, 4, 5, 1, 6, 2, 0] [] rfl (by decide) rfl⟩⟩, hS.F ht⟩) hS.2.2 dX5_readHours_42
set_option maxHeartbeats 4000000 in
set_option maxRecDepth 100000 in
theorem k_X5_readCourt (l : Launch) (sa : Nat → Nat) (dC : Nat → ClassId) (dI : Nat → Nat → Nat) (rd : Nat) (rd_fault : Int32) (rd_place : Int32) (tx : Nat) (rd_kinds : Nat) (rd_starts : Nat) (rd_stops : Nat) (rd_values : Nat) (rd_tokens : Int32) (rd_at : Int32) (tn : Nat) (rd_strayCount : Int32) (rd_lawTold : Int32) (rd_falseTold : Int32) (cA_rd_kinds : ClassId) (f_rd_kinds : Nat → Int32) (cA_rd_starts : ClassId) (f_rd_starts : Nat → Int32) (cA_rd_stops : ClassId) (f_rd_stops : Nat → Int32) (cA_rd_values : ClassId) (f_rd_values : Nat → Int32) (cA_tx : ClassId) (f_tx : Nat → Int32) (tn_hours : Int32) (tn_courts : Int32) (tn_gateCount : Int32) (tn_people : Int32) (tn_lines : Int32) (tn_falseHours : Int32) (tn_strayers : Int32) (tn_deep : Int32) (tn_above : Nat) (tn_doors : Nat) (tn_degrees : Nat) (tn_neighbours : Nat) (tn_shows : Nat) (tn_oneEnd : Nat) (tn_otherEnd : Nat) (tn_told : Nat) (tn_strayParts : Nat) (tn_strayCourts : Nat) (cA_tn_above : ClassId) (f_tn_above : Nat → Int32) (b_rd_tokens : 0 ≤ rd_tokens.toInt ∧ rd_tokens.toInt ≤ 1600) (b_rd_at : 0 ≤ rd_at.toInt ∧ rd_at.toInt ≤ 1600) (b_rd_strayCount : 0 ≤ rd_strayCount.toInt ∧ rd_strayCount.toInt ≤ 4) (b_rd_lawTold : 0 ≤ rd_lawTold.toInt ∧ rd_lawTold.toInt ≤ 1) (b_rd_falseTold : 0 ≤ rd_falseTold.toInt ∧ rd_falseTold.toInt ≤ 1) (b_f_rd_kinds : ∀ j : Nat, 0 ≤ (f_rd_kinds j).toInt ∧ (f_rd_kinds j).toInt ≤ 5) (b_f_rd_starts : ∀ j : Nat, 0 ≤ (f_rd_starts j).toInt ∧ (f_rd_starts j).toInt ≤ 1600) (b_f_rd_stops : ∀ j : Nat, 0 ≤ (f_rd_stops j).toInt ∧ (f_rd_stops j).toInt ≤ 1600) (b_f_rd_values : ∀ j : Nat, 0 ≤ (f_rd_values j).toInt ∧ (f_rd_values j).toInt ≤ 100000) (b_tn_hours : 0 ≤ tn_hours.toInt ∧ tn_hours.toInt ≤ 48) (b_tn_courts : 0 ≤ tn_courts.toInt ∧ tn_courts.toInt ≤ 10) (b_tn_gateCount : 0 ≤ tn_gateCount.toInt ∧ tn_gateCount.toInt ≤ 16) (b_tn_people : 0 ≤ tn_people.toInt ∧ tn_people.toInt ≤ 10) (b_tn_falseHours : 0 ≤ tn_falseHours.toInt ∧ tn_falseHours.toInt ≤ 9) (b_tn_deep : 0 ≤ tn_deep.toInt ∧ tn_deep.toInt ≤ 1) (sz : Nat) : Met l yX5_readCourt (.code yX5_readCourt cX5_readCourt 2 none :: zT) ({ frames := 6, cells := 0, slots := 0, locals := 128 }) (va_Pc [.ref rd] (zB sa dC dI (zV101 rd rd_fault rd_place tx rd_kinds rd_starts rd_stops rd_values rd_tokens rd_at tn rd_strayCount rd_lawTold rd_falseTold rd_kinds cA_rd_kinds f_rd_kinds rd_starts cA_rd_starts f_rd_starts rd_stops cA_rd_stops f_rd_stops rd_values cA_rd_values f_rd_values tx cA_tx f_tx tn tn_hours tn_courts tn_gateCount tn_people tn_lines tn_falseHours tn_strayers tn_deep tn_above tn_doors tn_degrees tn_neighbours tn_shows tn_oneEnd tn_otherEnd tn_told tn_strayParts tn_strayCourts tn_above cA_tn_above f_tn_above) [(cA_rd_kinds, .int), (cA_rd_starts, .int), (cA_rd_stops, .int), (cA_rd_values, .int), (cA_tx, .byte), (cA_tn_above, .int)] sz)) (va_Qv (fun _ : Unit => True) (fun _ t => ∃ (n_rd_0 : Int32) (n_rd_1 : Int32) (n_rd_8 : Int32) (n_tn_1 : Int32) (n_tn_above : Nat → Int32), (0 ≤ n_rd_8.toInt ∧ n_rd_8.toInt ≤ 1600) ∧ (0 ≤ n_tn_1.toInt ∧ n_tn_1.toInt ≤ 10) ∧ zW dC dI (zV101 rd n_rd_0 n_rd_1 tx rd_kinds rd_starts rd_stops rd_values rd_tokens n_rd_8 tn rd_strayCount rd_lawTold rd_falseTold rd_kinds cA_rd_kinds f_rd_kinds rd_starts cA_rd_starts f_rd_starts rd_stops cA_rd_stops f_rd_stops rd_values cA_rd_values f_rd_values tx cA_tx f_tx tn tn_hours n_tn_1 tn_gateCount tn_people tn_lines tn_falseHours tn_strayers tn_deep tn_above tn_doors tn_degrees tn_neighbours tn_shows tn_oneEnd tn_otherEnd tn_told tn_strayParts tn_strayCourts tn_above cA_tn_above n_tn_above) [] (va_A (zV101 rd rd_fault rd_place tx rd_kinds rd_starts rd_stops rd_values rd_tokens rd_at tn rd_strayCount rd_lawTold rd_falseTold rd_kinds cA_rd_kinds f_rd_kinds rd_starts cA_rd_starts f_rd_starts rd_stops cA_rd_stops f_rd_stops rd_values cA_rd_values f_rd_values tx cA_tx f_tx tn tn_hours tn_courts tn_gateCount tn_people tn_lines tn_falseHours tn_strayers tn_deep tn_above tn_doors tn_degrees tn_neighbours tn_shows tn_oneEnd tn_otherEnd tn_told tn_strayParts tn_strayCourts tn_above cA_tn_above f_tn_above) sz) t) (va_A (zV101 rd rd_fault rd_place tx rd_kinds rd_starts rd_stops rd_values rd_tokens rd_at tn rd_strayCount rd_lawTold rd_falseTold rd_kinds cA_rd_kinds f_rd_kinds rd_starts cA_rd_starts f_rd_starts rd_stops cA_rd_stops f_rd_stops rd_values cA_rd_values f_rd_values tx cA_tx f_tx tn tn_hours tn_courts tn_gateCount tn_people tn_lines tn_falseHours tn_strayers tn_deep tn_above tn_doors tn_degrees tn_neighbours tn_shows tn_oneEnd tn_otherEnd tn_told tn_strayParts tn_strayCourts tn_above cA_tn_above f_tn_above) sz)) 0 0 (va_A (zV101 rd rd_fault rd_place tx rd_kinds rd_starts rd_stops rd_values rd_tokens rd_at tn rd_strayCount rd_lawTold rd_falseTold rd_kinds cA_rd_kinds f_rd_kinds rd_starts cA_rd_starts f_rd_starts rd_stops cA_rd_stops f_rd_stops rd_values cA_rd_values f_rd_values tx cA_tx f_tx tn tn_hours tn_courts tn_gateCount tn_people tn_lines tn_falseHours tn_strayers tn_deep tn_above tn_doors tn_degrees tn_neighbours tn_shows tn_oneEnd tn_otherEnd tn_told tn_strayParts tn_strayCourts tn_above cA_tn_above f_tn_above) sz) := by
  refine z_enter (by decide) (by exact (Nat.le_of_ble_eq_true rfl)) ?_
  intro p e s m args below meth c ls A R Qc hargs hsz hQe hAe hRe hx hb hml hr hts hown hlocks hin hl hP hK hD hN hXs hA hS
  rw [hAe] at hQe
  have hown : s.vm.findClass RX5 = some m.cls := hown
  have hl : lv_has ls 2 [(0, .ref rd)] := hl
  refine lv_aload_n hx hb dX5_readCourt_0 rfl (lv_at hl 0 rfl) ?_
  refine va_get (D := (dC, dI)) (ci := 5) (v := .ref tn) (C := RX5) (T := TX5) (N := 13) hx hb hts zl_X5 hown hK hP 0 rfl rfl 9 (by decide) (hts _ zw_t1_204) (fun _ h9 => h9) rfl dX5_readCourt_1 ?_
  refine va_get (D := (dC, dI)) (ci := 7) (v := .int tn_courts) (C := RX7) (T := TX7) (N := 18) hx hb hts zl_X7 hown hK hP 6 rfl rfl 1 (by decide) (hts _ zw_t1_51) (fun _ h9 => h9) rfl dX5_readCourt_4 ?_
  refine lv_bipush (v := 10) hx hb dX5_readCourt_7 (by decide) ?_
  refine lv_icmp_lt (tgt := 18) hx hb dX5_readCourt_9 (by decide) (fun c_1 => ?_) (fun c_1 => ?_)
  · have ic_1 := zz_lt rfl (show Int32.toInt 10 = 10 from by decide) c_1
    refine lv_aload_n hx hb dX5_readCourt_18 rfl (lv_at hl 0 rfl) ?_
    obtain ⟨hPc, hDc, hFc⟩ := z_cut (wc := (zV91 rd rd_fault rd_place tx rd_kinds rd_starts rd_stops rd_values rd_tokens rd_at tn rd_strayCount rd_lawTold rd_falseTold)) hP hD hS hA [0] rfl (by decide +kernel)
    have hKc := hK.sub (tys' := []) [] rfl
    refine va_callv (va_runV (As := []) (rest := []) ⟨hx, hb, hml, hown, hts⟩ (k_X5_advance l sa dC dI rd rd_fault rd_place tx rd_kinds rd_starts rd_stops rd_values rd_tokens rd_at tn rd_strayCount rd_lawTold rd_falseTold b_rd_tokens b_rd_at b_rd_strayCount b_rd_lawTold b_rd_falseTold s.heap.size) (cwV 0 hts (z_gV zw_t3_93 zw_t3_95 zw_s1_8 zw_t1_4 zw_t3_96) rfl rfl rfl (by decide +kernel) (by rw [← hRe]; exact ⟨(Nat.le_of_ble_eq_true rfl), (Nat.le_of_ble_eq_true rfl)⟩)) (z_preV hPc hKc hDc hN hXs hS hFc (q := (RX5, TX5, 13)) (ci := 5) (q0 := 0) rfl rfl) rfl rfl hl.1 rfl (lv_room (Nat.le_of_ble_eq_true rfl)) dX5_readCourt_19 (by rw [← hRe]; exact ⟨(Nat.le_of_ble_eq_true rfl), (Nat.le_of_ble_eq_true rfl)⟩)) hS (fun q _ h => hFc q h) hFc (fun u t H1 locs ht hvm hw hB hz1 hk1 hS => ?_)
    obtain ⟨n_rd_3, b_n_rd_3, hB⟩ := hB
    obtain ⟨hP, hD, hK⟩ := z_after3 (wn := [(rd_kinds, .inl (cA_rd_kinds, 1601, .inl f_rd_kinds)), (rd_starts, .inl (cA_rd_starts, 1601, .inl f_rd_starts)), (rd_stops, .inl (cA_rd_stops, 1601, .inl f_rd_stops)), (rd_values, .inl (cA_rd_values, 1601, .inl f_rd_values)), (tx, .inl (cA_tx, 1600, .inl f_tx)), (tn, .inr (7, [.int tn_hours, .int tn_courts, .int tn_gateCount, .int tn_people, .int tn_lines, .int tn_falseHours, .int tn_strayers, .int tn_deep, .ref tn_above, .ref tn_doors, .ref tn_degrees, .ref tn_neighbours, .ref tn_shows, .ref tn_oneEnd, .ref tn_otherEnd, .ref tn_told, .ref tn_strayParts, .ref tn_strayCourts])), (tn_above, .inl (cA_tn_above, 10, .inl f_tn_above)), (rd, .inr (5, [.int rd_fault, .int rd_place, .ref tx, .ref rd_kinds, .ref rd_starts, .ref rd_stops, .ref rd_values, .int rd_tokens, .int n_rd_3, .ref tn, .int rd_strayCount, .int rd_lawTold, .int rd_falseTold]))]) hB ht hvm hP hD hK [0] [1, 2, 3, 4, 5, 6, 7] rfl 8 rfl (by decide +kernel) rfl (by decide +kernel) hk1 hFc
    generalize H1 = H at hP hS ⊢
    have hK : va_K (dC, dI) vwCl [(cA_rd_kinds, .int), (cA_rd_starts, .int), (cA_rd_stops, .int), (cA_rd_values, .int), (cA_tx, .byte), (cA_tn_above, .int)] s := hK
    refine lv_aload_n hx hb dX5_readCourt_22 rfl (lv_at hl 0 rfl) ?_
    refine va_ldcS (index := 158) hx hb hown (hXs.2.2.2.2.2.2.2 7 (by decide)) dX5_readCourt_23 ?_
    obtain ⟨hPc, hDc, hFc⟩ := z_cut (wc := (zV92 rd rd_fault rd_place tx rd_kinds rd_starts rd_stops rd_values rd_tokens n_rd_3 tn rd_strayCount rd_lawTold rd_falseTold rd_kinds cA_rd_kinds f_rd_kinds rd_starts cA_rd_starts f_rd_starts rd_stops cA_rd_stops f_rd_stops tx cA_tx f_tx)) hP hD hS hA [7, 0, 1, 2, 4] rfl (by decide +kernel)
    have hKc := hK.sub (tys' := [(cA_rd_kinds, .int), (cA_rd_starts, .int), (cA_rd_stops, .int), (cA_tx, .byte)]) [0, 1, 2, 4] rfl
    refine va_callv (va_runV (As := [.ref (sa (2 + 2 * 7))]) (rest := []) ⟨hx, hb, hml, hown, hts⟩ (k_X5_expectWord l sa dC dI rd rd_fault rd_place tx rd_kinds rd_starts rd_stops rd_values rd_tokens n_rd_3 tn rd_strayCount rd_lawTold rd_falseTold cA_rd_kinds f_rd_kinds cA_rd_starts f_rd_starts cA_rd_stops f_rd_stops cA_tx f_tx (7) b_rd_tokens (by first | with_reducible assumption | omega) b_rd_strayCount b_rd_lawTold b_rd_falseTold b_f_rd_kinds b_f_rd_starts b_f_rd_stops (by decide) H.size) (cwV 1 hts (z_gV zw_t3_33 zw_t3_35 zw_s1_5 zw_t1_4 zw_t3_36) rfl rfl rfl (by decide +kernel) (by rw [← hRe]; exact ⟨(Nat.le_of_ble_eq_true rfl), (Nat.le_of_ble_eq_true rfl)⟩)) (z_preV hPc hKc hDc hN hXs hS hFc (q := (RX5, TX5, 13)) (ci := 5) (q0 := 0) rfl rfl) rfl rfl hl.1 rfl (lv_room (Nat.le_of_ble_eq_true rfl)) dX5_readCourt_25 (by rw [← hRe]; exact ⟨(Nat.le_of_ble_eq_true rfl), (Nat.le_of_ble_eq_true rfl)⟩)) hS (fun q _ h => hFc q h) hFc (fun u t H1 locs ht hvm hw hB hz1 hk1 hS => ?_)
    obtain ⟨n_rd_5, n_rd_6, n_rd_7, b_n_rd_7, hB⟩ := hB
    obtain ⟨hP, hD, hK⟩ := z_after3 (wn := [(rd_values, .inl (cA_rd_values, 1601, .inl f_rd_values)), (tn, .inr (7, [.int tn_hours, .int tn_courts, .int tn_gateCount, .int tn_people, .int tn_lines, .int tn_falseHours, .int tn_strayers, .int tn_deep, .ref tn_above, .ref tn_doors, .ref tn_degrees, .ref tn_neighbours, .ref tn_shows, .ref tn_oneEnd, .ref tn_otherEnd, .ref tn_told, .ref tn_strayParts, .ref tn_strayCourts])), (tn_above, .inl (cA_tn_above, 10, .inl f_tn_above)), (rd, .inr (5, [.int n_rd_5, .int n_rd_6, .ref tx, .ref rd_kinds, .ref rd_starts, .ref rd_stops, .ref rd_values, .int rd_tokens, .int n_rd_7, .ref tn, .int rd_strayCount, .int rd_lawTold, .int rd_falseTold])), (rd_kinds, .inl (cA_rd_kinds, 1601, .inl f_rd_kinds)), (rd_starts, .inl (cA_rd_starts, 1601, .inl f_rd_starts)), (rd_stops, .inl (cA_rd_stops, 1601, .inl f_rd_stops)), (tx, .inl (cA_tx, 1600, .inl f_tx))]) hB ht hvm hP hD hK [7, 0, 1, 2, 4] [3, 5, 6] rfl 8 rfl (by decide +kernel) rfl (by decide +kernel) hk1 hFc
    generalize H1 = H at hP hS ⊢
    have hK : va_K (dC, dI) vwCl [(cA_rd_kinds, .int), (cA_rd_starts, .int), (cA_rd_stops, .int), (cA_rd_values, .int), (cA_tx, .byte), (cA_tn_above, .int)] s := hK
    refine lv_aload_n hx hb dX5_readCourt_28 rfl (lv_at hl 0 rfl) ?_
    obtain ⟨hPc, hDc, hFc⟩ := z_cut (wc := (zV95 rd n_rd_5 n_rd_6 tx rd_kinds rd_starts rd_stops rd_values rd_tokens n_rd_7 tn rd_strayCount rd_lawTold rd_falseTold rd_kinds cA_rd_kinds f_rd_kinds rd_starts cA_rd_starts f_rd_starts rd_values cA_rd_values f_rd_values tn tn_hours tn_courts tn_gateCount tn_people tn_lines tn_falseHours tn_strayers tn_deep tn_above tn_doors tn_degrees tn_neighbours tn_shows tn_oneEnd tn_otherEnd tn_told tn_strayParts tn_strayCourts)) hP hD hS hA [3, 4, 5, 0, 1] rfl (by decide +kernel)
    have hKc := hK.sub (tys' := [(cA_rd_kinds, .int), (cA_rd_starts, .int), (cA_rd_values, .int)]) [0, 1, 3] rfl
    refine va_calli (va_runV (As := []) (rest := []) ⟨hx, hb, hml, hown, hts⟩ (k_X5_expectCourt l sa dC dI rd n_rd_5 n_rd_6 tx rd_kinds rd_starts rd_stops rd_values rd_tokens n_rd_7 tn rd_strayCount rd_lawTold rd_falseTold cA_rd_kinds f_rd_kinds cA_rd_starts f_rd_starts cA_rd_values f_rd_values tn_hours tn_courts tn_gateCount tn_people tn_lines tn_falseHours tn_strayers tn_deep tn_above tn_doors tn_degrees tn_neighbours tn_shows tn_oneEnd tn_otherEnd tn_told tn_strayParts tn_strayCourts b_rd_tokens (by first | with_reducible assumption | omega) b_rd_strayCount b_rd_lawTold b_rd_falseTold b_f_rd_kinds b_f_rd_starts b_f_rd_values b_tn_hours b_tn_courts b_tn_gateCount b_tn_people b_tn_falseHours b_tn_deep H.size) (cwV 0 hts (z_gV zw_t3_108 zw_t3_110 zw_s1_11 zw_t1_4 zw_t3_111) rfl rfl rfl (by decide +kernel) (by rw [← hRe]; exact ⟨(Nat.le_of_ble_eq_true rfl), (Nat.le_of_ble_eq_true rfl)⟩)) (z_preV hPc hKc hDc hN hXs hS hFc (q := (RX5, TX5, 13)) (ci := 5) (q0 := 0) rfl rfl) rfl rfl hl.1 rfl (lv_room (Nat.le_of_ble_eq_true rfl)) dX5_readCourt_29 (by rw [← hRe]; exact ⟨(Nat.le_of_ble_eq_true rfl), (Nat.le_of_ble_eq_true rfl)⟩)) hS (fun q _ h => hFc q h) hFc (fun r_8 u t H1 locs ht hvm hw hB hz1 hk1 hS => ?_)
    obtain ⟨n_rd_9, n_rd_10, n_rd_11, b_n_rd_11, hB⟩ := hB
    obtain ⟨hP, hD, hK⟩ := z_after3 (wn := (zV102 tn_above cA_tn_above f_tn_above rd_stops cA_rd_stops f_rd_stops tx cA_tx f_tx rd n_rd_9 n_rd_10 tx rd_kinds rd_starts rd_stops rd_values rd_tokens n_rd_11 tn rd_strayCount rd_lawTold rd_falseTold rd_kinds cA_rd_kinds f_rd_kinds rd_starts cA_rd_starts f_rd_starts rd_values cA_rd_values f_rd_values tn tn_hours tn_courts tn_gateCount tn_people tn_lines tn_falseHours tn_strayers tn_deep tn_above tn_doors tn_degrees tn_neighbours tn_shows tn_oneEnd tn_otherEnd tn_told tn_strayParts tn_strayCourts)) hB ht hvm hP hD hK [3, 4, 5, 0, 1] [2, 6, 7] rfl 8 rfl (by decide +kernel) rfl (by decide +kernel) hk1 hFc
    generalize H1 = H at hP hS ⊢
    have hK : va_K (dC, dI) vwCl [(cA_rd_kinds, .int), (cA_rd_starts, .int), (cA_rd_stops, .int), (cA_rd_values, .int), (cA_tx, .byte), (cA_tn_above, .int)] s := hK
    have b_r_8 : 0 ≤ r_8.toInt ∧ r_8.toInt ≤ 9 := hw
    refine lv_istore_n (lv' := [(1, .int r_8), (0, .ref rd)]) hx hb dX5_readCourt_32 rfl hl (by decide) rfl (fun ls hl => ?_)
    refine lv_aload_n hx hb dX5_readCourt_33 rfl (lv_at hl 1 rfl) ?_
    refine va_get (D := (dC, dI)) (ci := 5) (v := .int n_rd_9) (C := RX5) (T := TX5) (N := 13) hx hb hts zl_X5 hown hK hP 3 rfl rfl 0 (by decide) (hts _ zw_t1_193) (fun _ h9 => h9) rfl dX5_readCourt_34 ?_
    have nb_n_rd_9 := zi_nb n_rd_9
    refine lv_if_ne (tgt := 81) hx hb dX5_readCourt_37 (by decide) (fun c_12 => ?_) (fun c_12 => ?_)
    · have ic_12 := zz_ne rfl (show Int32.toInt 0 = 0 from by decide) c_12
      exact W.vret hx hb hr (fun t ht hW => by rw [← hQe]; exact ⟨⟨(), rfl, trivial, ⟨n_rd_9, n_rd_10, n_rd_11, tn_courts, f_tn_above, (by first | with_reducible assumption | omega), (by first | with_reducible assumption | omega), z_ret hP hK hD ht hW [3, 4, 5, 1, 6, 2, 7, 0] [] rfl (by decide) rfl⟩⟩, hS.F ht⟩) hS.2.2 dX5_readCourt_81
    · have ic_12 := zz_nne rfl (show Int32.toInt 0 = 0 from by decide) c_12
      refine lv_aload_n hx hb dX5_readCourt_40 rfl (lv_at hl 1 rfl) ?_
      refine va_get (D := (dC, dI)) (ci := 5) (v := .ref tn) (C := RX5) (T := TX5) (N := 13) hx hb hts zl_X5 hown hK hP 3 rfl rfl 9 (by decide) (hts _ zw_t1_204) (fun _ h9 => h9) rfl dX5_readCourt_41 ?_
      refine va_get (D := (dC, dI)) (ci := 7) (v := .ref tn_above) (C := RX7) (T := TX7) (N := 18) hx hb hts zl_X7 hown hK hP 7 rfl rfl 8 (by decide) (hts _ zw_t1_81) (fun _ h9 => h9) rfl dX5_readCourt_44 ?_
      refine lv_aload_n hx hb dX5_readCourt_47 rfl (lv_at hl 1 rfl) ?_
      refine va_get (D := (dC, dI)) (ci := 5) (v := .ref tn) (C := RX5) (T := TX5) (N := 13) hx hb hts zl_X5 hown hK hP 3 rfl rfl 9 (by decide) (hts _ zw_t1_204) (fun _ h9 => h9) rfl dX5_readCourt_48 ?_
      refine va_get (D := (dC, dI)) (ci := 7) (v := .int tn_courts) (C := RX7) (T := TX7) (N := 18) hx hb hts zl_X7 hown hK hP 7 rfl rfl 1 (by decide) (hts _ zw_t1_51) (fun _ h9 => h9) rfl dX5_readCourt_51 ?_
      refine lv_aload_n hx hb dX5_readCourt_54 rfl (lv_at hl 1 rfl) ?_
      refine va_get (D := (dC, dI)) (ci := 5) (v := .ref tn) (C := RX5) (T := TX5) (N := 13) hx hb hts zl_X5 hown hK hP 3 rfl rfl 9 (by decide) (hts _ zw_t1_204) (fun _ h9 => h9) rfl dX5_readCourt_55 ?_
      refine va_get (D := (dC, dI)) (ci := 7) (v := .ref tn_above) (C := RX7) (T := TX7) (N := 18) hx hb hts zl_X7 hown hK hP 7 rfl rfl 8 (by decide) (hts _ zw_t1_81) (fun _ h9 => h9) rfl dX5_readCourt_58 ?_
      refine lv_iload_n hx hb dX5_readCourt_61 rfl (lv_at hl 0 rfl) ?_
      refine va_iald hx hb hK hP 0 5 rfl rfl (zi_in rfl (by first | with_reducible assumption | omega)) dX5_readCourt_62 ?_
      refine lv_topi (fun x_13 ex_13 => ?_)
      refine lv_iconst (v := 1) hx hb dX5_readCourt_63 (by decide) ?_
      refine lv_iload_n hx hb dX5_readCourt_64 rfl (lv_at hl 0 rfl) ?_
      refine lv_ishl hx hb dX5_readCourt_65 ?_
      refine lv_topi (fun x_14 ex_14 => ?_)
      have b_x_14 : 1 ≤ x_14.toInt ∧ x_14.toInt ≤ 1024 := by rw [ex_14]; exact zi_shl1 rfl (by first | with_reducible assumption | omega)
      refine lv_ior hx hb dX5_readCourt_66 ?_
      refine lv_topi (fun x_15 ex_15 => ?_)
      refine va_iast hx hb hK hP hD hS 0 5 rfl rfl (zi_in rfl (by first | with_reducible assumption | omega)) dX5_readCourt_67 (fun H locs hP hD hS => ?_)
      obtain ⟨f_16, ef_16⟩ : ∃ g : Nat → Int32, g = upd f_tn_above (Int32.toNatClampNeg tn_courts) x_15 := ⟨_, rfl⟩
      have hP : va_P (dC, dI) vwCl (zV102 tn_above cA_tn_above (upd f_tn_above (Int32.toNatClampNeg tn_courts) x_15) rd_stops cA_rd_stops f_rd_stops tx cA_tx f_tx rd n_rd_9 n_rd_10 tx rd_kinds rd_starts rd_stops rd_values rd_tokens n_rd_11 tn rd_strayCount rd_lawTold rd_falseTold rd_kinds cA_rd_kinds f_rd_kinds rd_starts cA_rd_starts f_rd_starts rd_values cA_rd_values f_rd_values tn tn_hours tn_courts tn_gateCount tn_people tn_lines tn_falseHours tn_strayers tn_deep tn_above tn_doors tn_degrees tn_neighbours tn_shows tn_oneEnd tn_otherEnd tn_told tn_strayParts tn_strayCourts) H := hP
      have hD : va_D A (zV102 tn_above cA_tn_above (upd f_tn_above (Int32.toNatClampNeg tn_courts) x_15) rd_stops cA_rd_stops f_rd_stops tx cA_tx f_tx rd n_rd_9 n_rd_10 tx rd_kinds rd_starts rd_stops rd_values rd_tokens n_rd_11 tn rd_strayCount rd_lawTold rd_falseTold rd_kinds cA_rd_kinds f_rd_kinds rd_starts cA_rd_starts f_rd_starts rd_values cA_rd_values f_rd_values tn tn_hours tn_courts tn_gateCount tn_people tn_lines tn_falseHours tn_strayers tn_deep tn_above tn_doors tn_degrees tn_neighbours tn_shows tn_oneEnd tn_otherEnd tn_told tn_strayParts tn_strayCourts) := hD
      rw [← ef_16] at hP hD
      refine lv_aload_n hx hb dX5_readCourt_68 rfl (lv_at hl 1 rfl) ?_
      refine va_get (D := (dC, dI)) (ci := 5) (v := .ref tn) (C := RX5) (T := TX5) (N := 13) hx hb hts zl_X5 hown hK hP 3 rfl rfl 9 (by decide) (hts _ zw_t1_204) (fun _ h9 => h9) rfl dX5_readCourt_69 ?_
      refine lv_dup hx hb dX5_readCourt_72 rfl ?_
      refine va_get (D := (dC, dI)) (ci := 7) (v := .int tn_courts) (C := RX7) (T := TX7) (N := 18) hx hb hts zl_X7 hown hK hP 7 rfl rfl 1 (by decide) (hts _ zw_t1_51) (fun _ h9 => h9) rfl dX5_readCourt_73 ?_
      refine lv_iconst (v := 1) hx hb dX5_readCourt_76 (by decide) ?_
      refine lv_iadd hx hb dX5_readCourt_77 ?_
      refine lv_topi (fun x_17 ex_17 => ?_)
      have b_x_17 : x_17.toInt = tn_courts.toInt + 1 := by rw [ex_17]; exact zi_add rfl (show Int32.toInt 1 = 1 from by decide) (by first | with_reducible assumption | omega)
      refine va_put (D := (dC, dI)) (ci := 7) (v := .int x_17) (ty := .int) (C := RX7) (T := TX7) (N := 18) hx hb hts zl_X7 tyX7 tyX7_ok nmX7 hown hK hP hD hS 7 rfl rfl 1 (by decide) (hts _ zw_t1_51) (fun _ h9 => h9) rfl (by decide +kernel) rfl rfl (Nat.le_of_ble_eq_true rfl) dX5_readCourt_78 (fun H locs hP hD hS => ?_)
      have hP : va_P (dC, dI) vwCl (zV102 tn_above cA_tn_above f_16 rd_stops cA_rd_stops f_rd_stops tx cA_tx f_tx rd n_rd_9 n_rd_10 tx rd_kinds rd_starts rd_stops rd_values rd_tokens n_rd_11 tn rd_strayCount rd_lawTold rd_falseTold rd_kinds cA_rd_kinds f_rd_kinds rd_starts cA_rd_starts f_rd_starts rd_values cA_rd_values f_rd_values tn tn_hours x_17 tn_gateCount tn_people tn_lines tn_falseHours tn_strayers tn_deep tn_above tn_doors tn_degrees tn_neighbours tn_shows tn_oneEnd tn_otherEnd tn_told tn_strayParts tn_strayCourts) H := hP
      have hD : va_D A (zV102 tn_above cA_tn_above f_16 rd_stops cA_rd_stops f_rd_stops tx cA_tx f_tx rd n_rd_9 n_rd_10 tx rd_kinds rd_starts rd_stops rd_values rd_tokens n_rd_11 tn rd_strayCount rd_lawTold rd_falseTold rd_kinds cA_rd_kinds f_rd_kinds rd_starts cA_rd_starts f_rd_starts rd_values cA_rd_values f_rd_values tn tn_hours x_17 tn_gateCount tn_people tn_lines tn_falseHours tn_strayers tn_deep tn_above tn_doors tn_degrees tn_neighbours tn_shows tn_oneEnd tn_otherEnd tn_told tn_strayParts tn_strayCourts) := hD
      exact W.vret hx hb hr (fun t ht hW => by rw [← hQe]; exact ⟨⟨(), rfl, trivial, ⟨n_rd_9, n_rd_10, n_rd_11, x_17, f_16, (by first | with_reducible assumption | omega), (by first | with_reducible assumption | omega), z_ret hP hK hD ht hW [3, 4, 5, 1, 6, 2, 7, 0] [] rfl (by decide) rfl⟩⟩, hS.F ht⟩) hS.2.2 dX5_readCourt_81
  · have ic_1 := zz_nlt rfl (show Int32.toInt 10 = 10 from by decide) c_1
    refine lv_aload_n hx hb dX5_readCourt_12 rfl (lv_at hl 0 rfl) ?_
    refine lv_iconst (v := 3) hx hb dX5_readCourt_13 (by decide) ?_
    obtain ⟨hPc, hDc, hFc⟩ := z_cut (wc := (zV90 rd rd_fault rd_place tx rd_kinds rd_starts rd_stops rd_values rd_tokens rd_at tn rd_strayCount rd_lawTold rd_falseTold rd_starts cA_rd_starts f_rd_starts)) hP hD hS hA [0, 2] rfl (by decide +kernel)
    have hKc := hK.sub (tys' := [(cA_rd_starts, .int)]) [1] rfl
    refine va_callv (va_runV (As := [.int 3]) (rest := []) ⟨hx, hb, hml, hown, hts⟩ (k_X5_blame l sa dC dI rd (3) rd_fault rd_place tx rd_kinds rd_starts rd_stops rd_values rd_tokens rd_at tn rd_strayCount rd_lawTold rd_falseTold cA_rd_starts f_rd_starts (by decide) b_rd_tokens b_rd_at b_rd_strayCount b_rd_lawTold b_rd_falseTold b_f_rd_starts s.heap.size) (cwV 1 hts (z_gV zw_t3_89 zw_t3_91 zw_s1_7 zw_t1_4 zw_t3_92) rfl rfl rfl (by decide +kernel) (by rw [← hRe]; exact ⟨(Nat.le_of_ble_eq_true rfl), (Nat.le_of_ble_eq_true rfl)⟩)) (z_preV hPc hKc hDc hN hXs hS hFc (q := (RX5, TX5, 13)) (ci := 5) (q0 := 0) rfl rfl) rfl rfl hl.1 rfl (lv_room (Nat.le_of_ble_eq_true rfl)) dX5_readCourt_14 (by rw [← hRe]; exact ⟨(Nat.le_of_ble_eq_true rfl), (Nat.le_of_ble_eq_true rfl)⟩)) hS (fun q _ h => hFc q h) hFc (fun u t H1 locs ht hvm hw hB hz1 hk1 hS => ?_)
    obtain ⟨n_rd_19, n_rd_20, hf_21, hB⟩ := hB
    obtain ⟨hP, hD, hK⟩ := z_after3 (wn := [(rd_kinds, .inl (cA_rd_kinds, 1601, .inl f_rd_kinds)), (rd_stops, .inl (cA_rd_stops, 1601, .inl f_rd_stops)), (rd_values, .inl (cA_rd_values, 1601, .inl f_rd_values)), (tx, .inl (cA_tx, 1600, .inl f_tx)), (tn, .inr (7, [.int tn_hours, .int tn_courts, .int tn_gateCount, .int tn_people, .int tn_lines, .int tn_falseHours, .int tn_strayers, .int tn_deep, .ref tn_above, .ref tn_doors, .ref tn_degrees, .ref tn_neighbours, .ref tn_shows, .ref tn_oneEnd, .ref tn_otherEnd, .ref tn_told, .ref tn_strayParts, .ref tn_strayCourts])), (tn_above, .inl (cA_tn_above, 10, .inl f_tn_above)), (rd, .inr (5, [.int n_rd_19, .int n_rd_20, .ref tx, .ref rd_kinds, .ref rd_starts, .ref rd_stops, .ref rd_values, .int rd_tokens, .int rd_at, .ref tn, .int rd_strayCount, .int rd_lawTold, .int rd_falseTold])), (rd_starts, .inl (cA_rd_starts, 1601, .inl f_rd_starts))]) hB ht hvm hP hD hK [0, 2] [1, 3, 4, 5, 6, 7] rfl 8 rfl (by decide +kernel) rfl (by decide +kernel) hk1 hFc
    generalize H1 = H at hP hS ⊢
    have hK : va_K (dC, dI) vwCl [(cA_rd_kinds, .int), (cA_rd_starts, .int), (cA_rd_stops, .int), (cA_rd_values, .int), (cA_tx, .byte), (cA_tn_above, .int)] s := hK
    exact W.vret hx hb hr (fun t ht hW => by rw [← hQe]; exact ⟨⟨(), rfl, trivial, ⟨n_rd_19, n_rd_20, rd_at, tn_courts, f_tn_above, (by first | with_reducible assumption | omega), (by first | with_reducible assumption | omega), z_ret hP hK hD ht hW [6, 0, 7, 1, 2, 3, 4, 5] [] rfl (by decide) rfl⟩⟩, hS.F ht⟩) hS.2.2 dX5_readCourt_17
set_option maxHeartbeats 4000000 in
set_option maxRecDepth 100000 in
theorem k_X5_readLaw (l : Launch) (sa : Nat → Nat) (dC : Nat → ClassId) (dI : Nat → Nat → Nat) (rd : Nat) (rd_fault : Int32) (rd_place : Int32) (tx : Nat) (rd_kinds : Nat) (rd_starts : Nat) (rd_stops : Nat) (rd_values : Nat) (rd_tokens : Int32) (rd_at : Int32) (tn : Nat) (rd_strayCount : Int32) (rd_lawTold : Int32) (rd_falseTold : Int32) (cA_rd_kinds : ClassId) (f_rd_kinds : Nat → Int32) (cA_rd_starts : ClassId) (f_rd_starts : Nat → Int32) (cA_rd_stops : ClassId) (f_rd_stops : Nat → Int32) (cA_tx : ClassId) (f_tx : Nat → Int32) (tn_hours : Int32) (tn_courts : Int32) (tn_gateCount : Int32) (tn_people : Int32) (tn_lines : Int32) (tn_falseHours : Int32) (tn_strayers : Int32) (tn_deep : Int32) (tn_above : Nat) (tn_doors : Nat) (tn_degrees : Nat) (tn_neighbours : Nat) (tn_shows : Nat) (tn_oneEnd : Nat) (tn_otherEnd : Nat) (tn_told : Nat) (tn_strayParts : Nat) (tn_strayCourts : Nat) (b_rd_tokens : 0 ≤ rd_tokens.toInt ∧ rd_tokens.toInt ≤ 1600) (b_rd_at : 0 ≤ rd_at.toInt ∧ rd_at.toInt ≤ 1600) (b_rd_strayCount : 0 ≤ rd_strayCount.toInt ∧ rd_strayCount.toInt ≤ 4) (b_rd_lawTold : 0 ≤ rd_lawTold.toInt ∧ rd_lawTold.toInt ≤ 1) (b_rd_falseTold : 0 ≤ rd_falseTold.toInt ∧ rd_falseTold.toInt ≤ 1) (b_f_rd_kinds : ∀ j : Nat, 0 ≤ (f_rd_kinds j).toInt ∧ (f_rd_kinds j).toInt ≤ 5) (b_f_rd_starts : ∀ j : Nat, 0 ≤ (f_rd_starts j).toInt ∧ (f_rd_starts j).toInt ≤ 1600) (b_f_rd_stops : ∀ j : Nat, 0 ≤ (f_rd_stops j).toInt ∧ (f_rd_stops j).toInt ≤ 1600) (b_tn_hours : 0 ≤ tn_hours.toInt ∧ tn_hours.toInt ≤ 48) (b_tn_courts : 0 ≤ tn_courts.toInt ∧ tn_courts.toInt ≤ 10) (b_tn_gateCount : 0 ≤ tn_gateCount.toInt ∧ tn_gateCount.toInt ≤ 16) (b_tn_people : 0 ≤ tn_people.toInt ∧ tn_people.toInt ≤ 10) (b_tn_falseHours : 0 ≤ tn_falseHours.toInt ∧ tn_falseHours.toInt ≤ 9) (b_tn_deep : 0 ≤ tn_deep.toInt ∧ tn_deep.toInt ≤ 1) (sz : Nat) : Met l yX5_readLaw (.code yX5_readLaw cX5_readLaw 1 none :: zT) ({ frames := 5, cells := 0, slots := 0, locals := 107 }) (va_Pc [.ref rd] (zB sa dC dI (zV103 rd rd_fault rd_place tx rd_kinds rd_starts rd_stops rd_values rd_tokens rd_at tn rd_strayCount rd_lawTold rd_falseTold rd_kinds cA_rd_kinds f_rd_kinds rd_starts cA_rd_starts f_rd_starts rd_stops cA_rd_stops f_rd_stops tx cA_tx f_tx tn tn_hours tn_courts tn_gateCount tn_people tn_lines tn_falseHours tn_strayers tn_deep tn_above tn_doors tn_degrees tn_neighbours tn_shows tn_oneEnd tn_otherEnd tn_told tn_strayParts tn_strayCourts) [(cA_rd_kinds, .int), (cA_rd_starts, .int), (cA_rd_stops, .int), (cA_tx, .byte)] sz)) (va_Qv (fun _ : Unit => True) (fun _ t => ∃ (n_rd_0 : Int32) (n_rd_1 : Int32) (n_rd_8 : Int32) (n_rd_11 : Int32) (n_tn_7 : Int32), (0 ≤ n_rd_8.toInt ∧ n_rd_8.toInt ≤ 1600) ∧ (0 ≤ n_rd_11.toInt ∧ n_rd_11.toInt ≤ 1) ∧ (0 ≤ n_tn_7.toInt ∧ n_tn_7.toInt ≤ 1) ∧ zW dC dI (zV103 rd n_rd_0 n_rd_1 tx rd_kinds rd_starts rd_stops rd_values rd_tokens n_rd_8 tn rd_strayCount n_rd_11 rd_falseTold rd_kinds cA_rd_kinds f_rd_kinds rd_starts cA_rd_starts f_rd_starts rd_stops cA_rd_stops f_rd_stops tx cA_tx f_tx tn tn_hours tn_courts tn_gateCount tn_people tn_lines tn_falseHours tn_strayers n_tn_7 tn_above tn_doors tn_degrees tn_neighbours tn_shows tn_oneEnd tn_otherEnd tn_told tn_strayParts tn_strayCourts) [] (va_A (zV103 rd rd_fault rd_place tx rd_kinds rd_starts rd_stops rd_values rd_tokens rd_at tn rd_strayCount rd_lawTold rd_falseTold rd_kinds cA_rd_kinds f_rd_kinds rd_starts cA_rd_starts f_rd_starts rd_stops cA_rd_stops f_rd_stops tx cA_tx f_tx tn tn_hours tn_courts tn_gateCount tn_people tn_lines tn_falseHours tn_strayers tn_deep tn_above tn_doors tn_degrees tn_neighbours tn_shows tn_oneEnd tn_otherEnd tn_told tn_strayParts tn_strayCourts) sz) t) (va_A (zV103 rd rd_fault rd_place tx rd_kinds rd_starts rd_stops rd_values rd_tokens rd_at tn rd_strayCount rd_lawTold rd_falseTold rd_kinds cA_rd_kinds f_rd_kinds rd_starts cA_rd_starts f_rd_starts rd_stops cA_rd_stops f_rd_stops tx cA_tx f_tx tn tn_hours tn_courts tn_gateCount tn_people tn_lines tn_falseHours tn_strayers tn_deep tn_above tn_doors tn_degrees tn_neighbours tn_shows tn_oneEnd tn_otherEnd tn_told tn_strayParts tn_strayCourts) sz)) 0 0 (va_A (zV103 rd rd_fault rd_place tx rd_kinds rd_starts rd_stops rd_values rd_tokens rd_at tn rd_strayCount rd_lawTold rd_falseTold rd_kinds cA_rd_kinds f_rd_kinds rd_starts cA_rd_starts f_rd_starts rd_stops cA_rd_stops f_rd_stops tx cA_tx f_tx tn tn_hours tn_courts tn_gateCount tn_people tn_lines tn_falseHours tn_strayers tn_deep tn_above tn_doors tn_degrees tn_neighbours tn_shows tn_oneEnd tn_otherEnd tn_told tn_strayParts tn_strayCourts) sz) := by
  refine z_enter (by decide) (by exact (Nat.le_of_ble_eq_true rfl)) ?_
  intro p e s m args below meth c ls A R Qc hargs hsz hQe hAe hRe hx hb hml hr hts hown hlocks hin hl hP hK hD hN hXs hA hS
  rw [hAe] at hQe
  have hown : s.vm.findClass RX5 = some m.cls := hown
  have hl : lv_has ls 1 [(0, .ref rd)] := hl
  refine lv_aload_n hx hb dX5_readLaw_0 rfl (lv_at hl 0 rfl) ?_
  refine va_get (D := (dC, dI)) (ci := 5) (v := .int rd_lawTold) (C := RX5) (T := TX5) (N := 13) hx hb hts zl_X5 hown hK hP 0 rfl rfl 11 (by decide) (hts _ zw_t1_206) (fun _ h9 => h9) rfl dX5_readLaw_1 ?_
  refine lv_if_eq (tgt := 13) hx hb dX5_readLaw_4 (by decide) (fun c_1 => ?_) (fun c_1 => ?_)
  · have ic_1 := zz_eq rfl (show Int32.toInt 0 = 0 from by decide) c_1
    refine lv_aload_n hx hb dX5_readLaw_13 rfl (lv_at hl 0 rfl) ?_
    refine lv_iconst (v := 1) hx hb dX5_readLaw_14 (by decide) ?_
    refine va_put (D := (dC, dI)) (ci := 5) (v := .int 1) (ty := .boolean) (C := RX5) (T := TX5) (N := 13) hx hb hts zl_X5 tyX5 tyX5_ok nmX5 hown hK hP hD hS 0 rfl rfl 11 (by decide) (hts _ zw_t1_206) (fun _ h9 => h9) rfl (by decide +kernel) (by decide) (by decide) (Nat.le_of_ble_eq_true rfl) dX5_readLaw_15 (fun H locs hP hD hS => ?_)
    have hP : va_P (dC, dI) vwCl (zV104 rd rd_fault rd_place tx rd_kinds rd_starts rd_stops rd_values rd_tokens rd_at tn rd_strayCount rd_falseTold rd_kinds cA_rd_kinds f_rd_kinds rd_starts cA_rd_starts f_rd_starts rd_stops cA_rd_stops f_rd_stops tx cA_tx f_tx tn tn_hours tn_courts tn_gateCount tn_people tn_lines tn_falseHours tn_strayers tn_deep tn_above tn_doors tn_degrees tn_neighbours tn_shows tn_oneEnd tn_otherEnd tn_told tn_strayParts tn_strayCourts) H := hP
    have hD : va_D A (zV104 rd rd_fault rd_place tx rd_kinds rd_starts rd_stops rd_values rd_tokens rd_at tn rd_strayCount rd_falseTold rd_kinds cA_rd_kinds f_rd_kinds rd_starts cA_rd_starts f_rd_starts rd_stops cA_rd_stops f_rd_stops tx cA_tx f_tx tn tn_hours tn_courts tn_gateCount tn_people tn_lines tn_falseHours tn_strayers tn_deep tn_above tn_doors tn_degrees tn_neighbours tn_shows tn_oneEnd tn_otherEnd tn_told tn_strayParts tn_strayCourts) := hD
    refine lv_aload_n hx hb dX5_readLaw_18 rfl (lv_at hl 0 rfl) ?_
    obtain ⟨hPc, hDc, hFc⟩ := z_cut (wc := (zV105 rd rd_fault rd_place tx rd_kinds rd_starts rd_stops rd_values rd_tokens rd_at tn rd_strayCount rd_falseTold)) hP hD hS hA [0] rfl (by decide +kernel)
    have hKc := hK.sub (tys' := []) [] rfl
    refine va_callv (va_runV (As := []) (rest := []) ⟨hx, hb, hml, hown, hts⟩ (k_X5_advance l sa dC dI rd rd_fault rd_place tx rd_kinds rd_starts rd_stops rd_values rd_tokens rd_at tn rd_strayCount (1) rd_falseTold b_rd_tokens b_rd_at b_rd_strayCount (by decide) b_rd_falseTold H.size) (cwV 0 hts (z_gV zw_t3_93 zw_t3_95 zw_s1_8 zw_t1_4 zw_t3_96) rfl rfl rfl (by decide +kernel) (by rw [← hRe]; exact ⟨(Nat.le_of_ble_eq_true rfl), (Nat.le_of_ble_eq_true rfl)⟩)) (z_preV hPc hKc hDc hN hXs hS hFc (q := (RX5, TX5, 13)) (ci := 5) (q0 := 0) rfl rfl) rfl rfl hl.1 rfl (lv_room (Nat.le_of_ble_eq_true rfl)) dX5_readLaw_19 (by rw [← hRe]; exact ⟨(Nat.le_of_ble_eq_true rfl), (Nat.le_of_ble_eq_true rfl)⟩)) hS (fun q _ h => hFc q h) hFc (fun u t H1 locs ht hvm hw hB hz1 hk1 hS => ?_)
    obtain ⟨n_rd_3, b_n_rd_3, hB⟩ := hB
    obtain ⟨hP, hD, hK⟩ := z_after3 (wn := [(rd_kinds, .inl (cA_rd_kinds, 1601, .inl f_rd_kinds)), (rd_starts, .inl (cA_rd_starts, 1601, .inl f_rd_starts)), (rd_stops, .inl (cA_rd_stops, 1601, .inl f_rd_stops)), (tx, .inl (cA_tx, 1600, .inl f_tx)), (tn, .inr (7, [.int tn_hours, .int tn_courts, .int tn_gateCount, .int tn_people, .int tn_lines, .int tn_falseHours, .int tn_strayers, .int tn_deep, .ref tn_above, .ref tn_doors, .ref tn_degrees, .ref tn_neighbours, .ref tn_shows, .ref tn_oneEnd, .ref tn_otherEnd, .ref tn_told, .ref tn_strayParts, .ref tn_strayCourts])), (rd, .inr (5, [.int rd_fault, .int rd_place, .ref tx, .ref rd_kinds, .ref rd_starts, .ref rd_stops, .ref rd_values, .int rd_tokens, .int n_rd_3, .ref tn, .int rd_strayCount, .int 1, .int rd_falseTold]))]) hB ht hvm hP hD hK [0] [1, 2, 3, 4, 5] rfl 6 rfl (by decide +kernel) rfl (by decide +kernel) hk1 hFc
    generalize H1 = H at hP hS ⊢
    have hK : va_K (dC, dI) vwCl [(cA_rd_kinds, .int), (cA_rd_starts, .int), (cA_rd_stops, .int), (cA_tx, .byte)] s := hK
    refine lv_aload_n hx hb dX5_readLaw_22 rfl (lv_at hl 0 rfl) ?_
    refine va_get (D := (dC, dI)) (ci := 5) (v := .ref tn) (C := RX5) (T := TX5) (N := 13) hx hb hts zl_X5 hown hK hP 5 rfl rfl 9 (by decide) (hts _ zw_t1_204) (fun _ h9 => h9) rfl dX5_readLaw_23 ?_
    refine lv_aload_n hx hb dX5_readLaw_26 rfl (lv_at hl 0 rfl) ?_
    refine va_ldcS (index := 216) hx hb hown (hXs.2.2.2.2.2.2.2 12 (by decide)) dX5_readLaw_27 ?_
    obtain ⟨hPc, hDc, hFc⟩ := z_cut (wc := (zV106 rd rd_fault rd_place tx rd_kinds rd_starts rd_stops rd_values rd_tokens n_rd_3 tn rd_strayCount rd_falseTold rd_kinds cA_rd_kinds f_rd_kinds rd_starts cA_rd_starts f_rd_starts rd_stops cA_rd_stops f_rd_stops tx cA_tx f_tx)) hP hD hS hA [5, 0, 1, 2, 3] rfl (by decide +kernel)
    have hKc := hK.sub (tys' := [(cA_rd_kinds, .int), (cA_rd_starts, .int), (cA_rd_stops, .int), (cA_tx, .byte)]) [0, 1, 2, 3] rfl
    refine va_calli (va_runV (As := [.ref (sa (2 + 2 * 12))]) (rest := [.ref tn]) ⟨hx, hb, hml, hown, hts⟩ (k_X5_isWord l sa dC dI rd rd_fault rd_place tx rd_kinds rd_starts rd_stops rd_values rd_tokens n_rd_3 tn rd_strayCount (1) rd_falseTold cA_rd_kinds f_rd_kinds cA_rd_starts f_rd_starts cA_rd_stops f_rd_stops cA_tx f_tx (12) b_rd_tokens (by first | with_reducible assumption | omega) b_rd_strayCount (by decide) b_rd_falseTold b_f_rd_kinds b_f_rd_starts b_f_rd_stops (by decide) H.size) (cwV 1 hts (z_gV zw_t3_37 zw_t3_39 zw_s1_6 zw_t1_4 zw_t3_40) rfl rfl rfl (by decide +kernel) (by rw [← hRe]; exact ⟨(Nat.le_of_ble_eq_true rfl), (Nat.le_of_ble_eq_true rfl)⟩)) (z_preV hPc hKc hDc hN hXs hS hFc (q := (RX5, TX5, 13)) (ci := 5) (q0 := 0) rfl rfl) rfl rfl hl.1 rfl (lv_room (Nat.le_of_ble_eq_true rfl)) dX5_readLaw_29 (by rw [← hRe]; exact ⟨(Nat.le_of_ble_eq_true rfl), (Nat.le_of_ble_eq_true rfl)⟩)) hS (fun q _ h => hFc q h) hFc (fun r_4 u t H1 locs ht hvm hw hB hz1 hk1 hS => ?_)
    obtain ⟨hP, hD, hK⟩ := z_after3 (wn := (zV107 tn tn_hours tn_courts tn_gateCount tn_people tn_lines tn_falseHours tn_strayers tn_deep tn_above tn_doors tn_degrees tn_neighbours tn_shows tn_oneEnd tn_otherEnd tn_told tn_strayParts tn_strayCourts rd rd_fault rd_place tx rd_kinds rd_starts rd_stops rd_values rd_tokens n_rd_3 tn rd_strayCount rd_falseTold rd_kinds cA_rd_kinds f_rd_kinds rd_starts cA_rd_starts f_rd_starts rd_stops cA_rd_stops f_rd_stops tx cA_tx f_tx)) hB ht hvm hP hD hK [5, 0, 1, 2, 3] [4] rfl 6 rfl (by decide +kernel) rfl (by decide +kernel) hk1 hFc
    generalize H1 = H at hP hS ⊢
    have hK : va_K (dC, dI) vwCl [(cA_rd_kinds, .int), (cA_rd_starts, .int), (cA_rd_stops, .int), (cA_tx, .byte)] s := hK
    have b_r_4 : 0 ≤ r_4.toInt ∧ r_4.toInt ≤ 1 := hw
    refine va_put (D := (dC, dI)) (ci := 7) (v := .int r_4) (ty := .boolean) (C := RX7) (T := TX7) (N := 18) hx hb hts zl_X7 tyX7 tyX7_ok nmX7 hown hK hP hD hS 0 rfl rfl 7 (by decide) (hts _ zw_t1_77) (fun _ h9 => h9) rfl (by decide +kernel) (zi_bool (by first | with_reducible assumption | omega)) (zi_boolf (by first | with_reducible assumption | omega)) (Nat.le_of_ble_eq_true rfl) dX5_readLaw_32 (fun H locs hP hD hS => ?_)
    have hP : va_P (dC, dI) vwCl (zV107 tn tn_hours tn_courts tn_gateCount tn_people tn_lines tn_falseHours tn_strayers r_4 tn_above tn_doors tn_degrees tn_neighbours tn_shows tn_oneEnd tn_otherEnd tn_told tn_strayParts tn_strayCourts rd rd_fault rd_place tx rd_kinds rd_starts rd_stops rd_values rd_tokens n_rd_3 tn rd_strayCount rd_falseTold rd_kinds cA_rd_kinds f_rd_kinds rd_starts cA_rd_starts f_rd_starts rd_stops cA_rd_stops f_rd_stops tx cA_tx f_tx) H := hP
    have hD : va_D A (zV107 tn tn_hours tn_courts tn_gateCount tn_people tn_lines tn_falseHours tn_strayers r_4 tn_above tn_doors tn_degrees tn_neighbours tn_shows tn_oneEnd tn_otherEnd tn_told tn_strayParts tn_strayCourts rd rd_fault rd_place tx rd_kinds rd_starts rd_stops rd_values rd_tokens n_rd_3 tn rd_strayCount rd_falseTold rd_kinds cA_rd_kinds f_rd_kinds rd_starts cA_rd_starts f_rd_starts rd_stops cA_rd_stops f_rd_stops tx cA_tx f_tx) := hD
    refine lv_aload_n hx hb dX5_readLaw_35 rfl (lv_at hl 0 rfl) ?_
    refine va_get (D := (dC, dI)) (ci := 5) (v := .ref tn) (C := RX5) (T := TX5) (N := 13) hx hb hts zl_X5 hown hK hP 1 rfl rfl 9 (by decide) (hts _ zw_t1_204) (fun _ h9 => h9) rfl dX5_readLaw_36 ?_
    refine va_get (D := (dC, dI)) (ci := 7) (v := .int r_4) (C := RX7) (T := TX7) (N := 18) hx hb hts zl_X7 hown hK hP 0 rfl rfl 7 (by decide) (hts _ zw_t1_77) (fun _ h9 => h9) rfl dX5_readLaw_39 ?_
    refine lv_if_ne (tgt := 54) hx hb dX5_readLaw_42 (by decide) (fun c_5 => ?_) (fun c_5 => ?_)
    · have ic_5 := zz_ne rfl (show Int32.toInt 0 = 0 from by decide) c_5
      refine lv_aload_n hx hb dX5_readLaw_54 rfl (lv_at hl 0 rfl) ?_
      obtain ⟨hPc, hDc, hFc⟩ := z_cut (wc := (zV105 rd rd_fault rd_place tx rd_kinds rd_starts rd_stops rd_values rd_tokens n_rd_3 tn rd_strayCount rd_falseTold)) hP hD hS hA [1] rfl (by decide +kernel)
      have hKc := hK.sub (tys' := []) [] rfl
      refine va_callv (va_runV (As := []) (rest := []) ⟨hx, hb, hml, hown, hts⟩ (k_X5_advance l sa dC dI rd rd_fault rd_place tx rd_kinds rd_starts rd_stops rd_values rd_tokens n_rd_3 tn rd_strayCount (1) rd_falseTold b_rd_tokens (by first | with_reducible assumption | omega) b_rd_strayCount (by decide) b_rd_falseTold H.size) (cwV 0 hts (z_gV zw_t3_93 zw_t3_95 zw_s1_8 zw_t1_4 zw_t3_96) rfl rfl rfl (by decide +kernel) (by rw [← hRe]; exact ⟨(Nat.le_of_ble_eq_true rfl), (Nat.le_of_ble_eq_true rfl)⟩)) (z_preV hPc hKc hDc hN hXs hS hFc (q := (RX5, TX5, 13)) (ci := 5) (q0 := 0) rfl rfl) rfl rfl hl.1 rfl (lv_room (Nat.le_of_ble_eq_true rfl)) dX5_readLaw_55 (by rw [← hRe]; exact ⟨(Nat.le_of_ble_eq_true rfl), (Nat.le_of_ble_eq_true rfl)⟩)) hS (fun q _ h => hFc q h) hFc (fun u t H1 locs ht hvm hw hB hz1 hk1 hS => ?_)
      obtain ⟨n_rd_7, b_n_rd_7, hB⟩ := hB
      obtain ⟨hP, hD, hK⟩ := z_after3 (wn := (zV108 tn tn_hours tn_courts tn_gateCount tn_people tn_lines tn_falseHours tn_strayers r_4 tn_above tn_doors tn_degrees tn_neighbours tn_shows tn_oneEnd tn_otherEnd tn_told tn_strayParts tn_strayCourts rd_kinds cA_rd_kinds f_rd_kinds rd_starts cA_rd_starts f_rd_starts rd_stops cA_rd_stops f_rd_stops tx cA_tx f_tx rd rd_fault rd_place tx rd_kinds rd_starts rd_stops rd_values rd_tokens n_rd_7 tn rd_strayCount rd_falseTold)) hB ht hvm hP hD hK [1] [0, 2, 3, 4, 5] rfl 6 rfl (by decide +kernel) rfl (by decide +kernel) hk1 hFc
      generalize H1 = H at hP hS ⊢
      have hK : va_K (dC, dI) vwCl [(cA_rd_kinds, .int), (cA_rd_starts, .int), (cA_rd_stops, .int), (cA_tx, .byte)] s := hK
      refine lv_goto (tgt := 66) hx hb dX5_readLaw_58 (by decide) ?_
      exact W.vret hx hb hr (fun t ht hW => by rw [← hQe]; exact ⟨⟨(), rfl, trivial, ⟨rd_fault, rd_place, n_rd_7, (1), r_4, (by first | with_reducible assumption | omega), (by decide), (by first | with_reducible assumption | omega), z_ret hP hK hD ht hW [5, 1, 2, 3, 4, 0] [] rfl (by decide) rfl⟩⟩, hS.F ht⟩) hS.2.2 dX5_readLaw_66
    · have ic_5 := zz_nne rfl (show Int32.toInt 0 = 0 from by decide) c_5
      refine lv_aload_n hx hb dX5_readLaw_45 rfl (lv_at hl 0 rfl) ?_
      refine va_ldcS (index := 217) hx hb hown (hXs.2.2.2.2.2.2.2 13 (by decide)) dX5_readLaw_46 ?_
      obtain ⟨hPc, hDc, hFc⟩ := z_cut (wc := (zV106 rd rd_fault rd_place tx rd_kinds rd_starts rd_stops rd_values rd_tokens n_rd_3 tn rd_strayCount rd_falseTold rd_kinds cA_rd_kinds f_rd_kinds rd_starts cA_rd_starts f_rd_starts rd_stops cA_rd_stops f_rd_stops tx cA_tx f_tx)) hP hD hS hA [1, 2, 3, 4, 5] rfl (by decide +kernel)
      have hKc := hK.sub (tys' := [(cA_rd_kinds, .int), (cA_rd_starts, .int), (cA_rd_stops, .int), (cA_tx, .byte)]) [0, 1, 2, 3] rfl
      refine va_calli (va_runV (As := [.ref (sa (2 + 2 * 13))]) (rest := []) ⟨hx, hb, hml, hown, hts⟩ (k_X5_isWord l sa dC dI rd rd_fault rd_place tx rd_kinds rd_starts rd_stops rd_values rd_tokens n_rd_3 tn rd_strayCount (1) rd_falseTold cA_rd_kinds f_rd_kinds cA_rd_starts f_rd_starts cA_rd_stops f_rd_stops cA_tx f_tx (13) b_rd_tokens (by first | with_reducible assumption | omega) b_rd_strayCount (by decide) b_rd_falseTold b_f_rd_kinds b_f_rd_starts b_f_rd_stops (by decide) H.size) (cwV 1 hts (z_gV zw_t3_37 zw_t3_39 zw_s1_6 zw_t1_4 zw_t3_40) rfl rfl rfl (by decide +kernel) (by rw [← hRe]; exact ⟨(Nat.le_of_ble_eq_true rfl), (Nat.le_of_ble_eq_true rfl)⟩)) (z_preV hPc hKc hDc hN hXs hS hFc (q := (RX5, TX5, 13)) (ci := 5) (q0 := 0) rfl rfl) rfl rfl hl.1 rfl (lv_room (Nat.le_of_ble_eq_true rfl)) dX5_readLaw_48 (by rw [← hRe]; exact ⟨(Nat.le_of_ble_eq_true rfl), (Nat.le_of_ble_eq_true rfl)⟩)) hS (fun q _ h => hFc q h) hFc (fun r_8 u t H1 locs ht hvm hw hB hz1 hk1 hS => ?_)
      obtain ⟨hP, hD, hK⟩ := z_after3 (wn := (zV107 tn tn_hours tn_courts tn_gateCount tn_people tn_lines tn_falseHours tn_strayers r_4 tn_above tn_doors tn_degrees tn_neighbours tn_shows tn_oneEnd tn_otherEnd tn_told tn_strayParts tn_strayCourts rd rd_fault rd_place tx rd_kinds rd_starts rd_stops rd_values rd_tokens n_rd_3 tn rd_strayCount rd_falseTold rd_kinds cA_rd_kinds f_rd_kinds rd_starts cA_rd_starts f_rd_starts rd_stops cA_rd_stops f_rd_stops tx cA_tx f_tx)) hB ht hvm hP hD hK [1, 2, 3, 4, 5] [0] rfl 6 rfl (by decide +kernel) rfl (by decide +kernel) hk1 hFc
      generalize H1 = H at hP hS ⊢
      have hK : va_K (dC, dI) vwCl [(cA_rd_kinds, .int), (cA_rd_starts, .int), (cA_rd_stops, .int), (cA_tx, .byte)] s := hK
      have b_r_8 : 0 ≤ r_8.toInt ∧ r_8.toInt ≤ 1 := hw
      refine lv_if_eq (tgt := 61) hx hb dX5_readLaw_51 (by decide) (fun c_9 => ?_) (fun c_9 => ?_)
      · have ic_9 := zz_eq rfl (show Int32.toInt 0 = 0 from by decide) c_9
        refine lv_aload_n hx hb dX5_readLaw_61 rfl (lv_at hl 0 rfl) ?_
        refine lv_iconst (v := 1) hx hb dX5_readLaw_62 (by decide) ?_
        obtain ⟨hPc, hDc, hFc⟩ := z_cut (wc := [(rd, .inr (5, [.int rd_fault, .int rd_place, .ref tx, .ref rd_kinds, .ref rd_starts, .ref rd_stops, .ref rd_values, .int rd_tokens, .int n_rd_3, .ref tn, .int rd_strayCount, .int 1, .int rd_falseTold])), (rd_starts, .inl (cA_rd_starts, 1601, .inl f_rd_starts))]) hP hD hS hA [1, 3] rfl (by decide +kernel)
        have hKc := hK.sub (tys' := [(cA_rd_starts, .int)]) [1] rfl
        refine va_callv (va_runV (As := [.int 1]) (rest := []) ⟨hx, hb, hml, hown, hts⟩ (k_X5_blame l sa dC dI rd (1) rd_fault rd_place tx rd_kinds rd_starts rd_stops rd_values rd_tokens n_rd_3 tn rd_strayCount (1) rd_falseTold cA_rd_starts f_rd_starts (by decide) b_rd_tokens (by first | with_reducible assumption | omega) b_rd_strayCount (by decide) b_rd_falseTold b_f_rd_starts H.size) (cwV 1 hts (z_gV zw_t3_89 zw_t3_91 zw_s1_7 zw_t1_4 zw_t3_92) rfl rfl rfl (by decide +kernel) (by rw [← hRe]; exact ⟨(Nat.le_of_ble_eq_true rfl), (Nat.le_of_ble_eq_true rfl)⟩)) (z_preV hPc hKc hDc hN hXs hS hFc (q := (RX5, TX5, 13)) (ci := 5) (q0 := 0) rfl rfl) rfl rfl hl.1 rfl (lv_room (Nat.le_of_ble_eq_true rfl)) dX5_readLaw_63 (by rw [← hRe]; exact ⟨(Nat.le_of_ble_eq_true rfl), (Nat.le_of_ble_eq_true rfl)⟩)) hS (fun q _ h => hFc q h) hFc (fun u t H1 locs ht hvm hw hB hz1 hk1 hS => ?_)
        obtain ⟨n_rd_11, n_rd_12, hf_13, hB⟩ := hB
        obtain ⟨hP, hD, hK⟩ := z_after3 (wn := [(tn, .inr (7, [.int tn_hours, .int tn_courts, .int tn_gateCount, .int tn_people, .int tn_lines, .int tn_falseHours, .int tn_strayers, .int r_4, .ref tn_above, .ref tn_doors, .ref tn_degrees, .ref tn_neighbours, .ref tn_shows, .ref tn_oneEnd, .ref tn_otherEnd, .ref tn_told, .ref tn_strayParts, .ref tn_strayCourts])), (rd_kinds, .inl (cA_rd_kinds, 1601, .inl f_rd_kinds)), (rd_stops, .inl (cA_rd_stops, 1601, .inl f_rd_stops)), (tx, .inl (cA_tx, 1600, .inl f_tx)), (rd, .inr (5, [.int n_rd_11, .int n_rd_12, .ref tx, .ref rd_kinds, .ref rd_starts, .ref rd_stops, .ref rd_values, .int rd_tokens, .int n_rd_3, .ref tn, .int rd_strayCount, .int 1, .int rd_falseTold])), (rd_starts, .inl (cA_rd_starts, 1601, .inl f_rd_starts))]) hB ht hvm hP hD hK [1, 3] [0, 2, 4, 5] rfl 6 rfl (by decide +kernel) rfl (by decide +kernel) hk1 hFc
        generalize H1 = H at hP hS ⊢
        have hK : va_K (dC, dI) vwCl [(cA_rd_kinds, .int), (cA_rd_starts, .int), (cA_rd_stops, .int), (cA_tx, .byte)] s := hK
        exact W.vret hx hb hr (fun t ht hW => by rw [← hQe]; exact ⟨⟨(), rfl, trivial, ⟨n_rd_11, n_rd_12, n_rd_3, (1), r_4, (by first | with_reducible assumption | omega), (by decide), (by first | with_reducible assumption | omega), z_ret hP hK hD ht hW [4, 1, 5, 2, 3, 0] [] rfl (by decide) rfl⟩⟩, hS.F ht⟩) hS.2.2 dX5_readLaw_66
      · have ic_9 := zz_neq rfl (show Int32.toInt 0 = 0 from by decide) c_9
        refine lv_aload_n hx hb dX5_readLaw_54 rfl (lv_at hl 0 rfl) ?_
        obtain ⟨hPc, hDc, hFc⟩ := z_cut (wc := (zV105 rd rd_fault rd_place tx rd_kinds rd_starts rd_stops rd_values rd_tokens n_rd_3 tn rd_strayCount rd_falseTold)) hP hD hS hA [1] rfl (by decide +kernel)
        have hKc := hK.sub (tys' := []) [] rfl
        refine va_callv (va_runV (As := []) (rest := []) ⟨hx, hb, hml, hown, hts⟩ (k_X5_advance l sa dC dI rd rd_fault rd_place tx rd_kinds rd_starts rd_stops rd_values rd_tokens n_rd_3 tn rd_strayCount (1) rd_falseTold b_rd_tokens (by first | with_reducible assumption | omega) b_rd_strayCount (by decide) b_rd_falseTold H.size) (cwV 0 hts (z_gV zw_t3_93 zw_t3_95 zw_s1_8 zw_t1_4 zw_t3_96) rfl rfl rfl (by decide +kernel) (by rw [← hRe]; exact ⟨(Nat.le_of_ble_eq_true rfl), (Nat.le_of_ble_eq_true rfl)⟩)) (z_preV hPc hKc hDc hN hXs hS hFc (q := (RX5, TX5, 13)) (ci := 5) (q0 := 0) rfl rfl) rfl rfl hl.1 rfl (lv_room (Nat.le_of_ble_eq_true rfl)) dX5_readLaw_55 (by rw [← hRe]; exact ⟨(Nat.le_of_ble_eq_true rfl), (Nat.le_of_ble_eq_true rfl)⟩)) hS (fun q _ h => hFc q h) hFc (fun u t H1 locs ht hvm hw hB hz1 hk1 hS => ?_)
        obtain ⟨n_rd_15, b_n_rd_15, hB⟩ := hB
        obtain ⟨hP, hD, hK⟩ := z_after3 (wn := (zV108 tn tn_hours tn_courts tn_gateCount tn_people tn_lines tn_falseHours tn_strayers r_4 tn_above tn_doors tn_degrees tn_neighbours tn_shows tn_oneEnd tn_otherEnd tn_told tn_strayParts tn_strayCourts rd_kinds cA_rd_kinds f_rd_kinds rd_starts cA_rd_starts f_rd_starts rd_stops cA_rd_stops f_rd_stops tx cA_tx f_tx rd rd_fault rd_place tx rd_kinds rd_starts rd_stops rd_values rd_tokens n_rd_15 tn rd_strayCount rd_falseTold)) hB ht hvm hP hD hK [1] [0, 2, 3, 4, 5] rfl 6 rfl (by decide +kernel) rfl (by decide +kernel) hk1 hFc
        generalize H1 = H at hP hS ⊢
        have hK : va_K (dC, dI) vwCl [(cA_rd_kinds, .int), (cA_rd_starts, .int), (cA_rd_stops, .int), (cA_tx, .byte)] s := hK
        refine lv_goto (tgt := 66) hx hb dX5_readLaw_58 (by decide) ?_
        exact W.vret hx hb hr (fun t ht hW => by rw [← hQe]; exact ⟨⟨(), rfl, trivial, ⟨rd_fault, rd_place, n_rd_15, (1), r_4, (by first | with_reducible assumption | omega), (by decide), (by first | with_reducible assumption | omega), z_ret hP hK hD ht hW [5, 1, 2, 3, 4, 0] [] rfl (by decide) rfl⟩⟩, hS.F ht⟩) hS.2.2 dX5_readLaw_66
  · have ic_1 := zz_neq rfl (show Int32.toInt 0 = 0 from by decide) c_1
    refine lv_aload_n hx hb dX5_readLaw_7 rfl (lv_at hl 0 rfl) ?_
    refine lv_iconst (v := 2) hx hb dX5_readLaw_8 (by decide) ?_
    obtain ⟨hPc, hDc, hFc⟩ := z_cut (wc := (zV90 rd rd_fault rd_place tx rd_kinds rd_starts rd_stops rd_values rd_tokens rd_at tn rd_strayCount rd_lawTold rd_falseTold rd_starts cA_rd_starts f_rd_starts)) hP hD hS hA [0, 2] rfl (by decide +kernel)
    have hKc := hK.sub (tys' := [(cA_rd_starts, .int)]) [1] rfl
    refine va_callv (va_runV (As := [.int 2]) (rest := []) ⟨hx, hb, hml, hown, hts⟩ (k_X5_blame l sa dC dI rd (2) rd_fault rd_place tx rd_kinds rd_starts rd_stops rd_values rd_tokens rd_at tn rd_strayCount rd_lawTold rd_falseTold cA_rd_starts f_rd_starts (by decide) b_rd_tokens b_rd_at b_rd_strayCount b_rd_lawTold b_rd_falseTold b_f_rd_starts s.heap.size) (cwV 1 hts (z_gV zw_t3_89 zw_t3_91 zw_s1_7 zw_t1_4 zw_t3_92) rfl rfl rfl (by decide +kernel) (by rw [← hRe]; exact ⟨(Nat.le_of_ble_eq_true rfl), (Nat.le_of_ble_eq_true rfl)⟩)) (z_preV hPc hKc hDc hN hXs hS hFc (q := (RX5, TX5, 13)) (ci := 5) (q0 := 0) rfl rfl) rfl rfl hl.1 rfl (lv_room (Nat.le_of_ble_eq_true rfl)) dX5_readLaw_9 (by rw [← hRe]; exact ⟨(Nat.le_of_ble_eq_true rfl), (Nat.le_of_ble_eq_true rfl)⟩)) hS (fun q _ h => hFc q h) hFc (fun u t H1 locs ht hvm hw hB hz1 hk1 hS => ?_)
    obtain ⟨n_rd_17, n_rd_18, hf_19, hB⟩ := hB
    obtain ⟨hP, hD, hK⟩ := z_after3 (wn := [(rd_kinds, .inl (cA_rd_kinds, 1601, .inl f_rd_kinds)), (rd_stops, .inl (cA_rd_stops, 1601, .inl f_rd_stops)), (tx, .inl (cA_tx, 1600, .inl f_tx)), (tn, .inr (7, [.int tn_hours, .int tn_courts, .int tn_gateCount, .int tn_people, .int tn_lines, .int tn_falseHours, .int tn_strayers, .int tn_deep, .ref tn_above, .ref tn_doors, .ref tn_degrees, .ref tn_neighbours, .ref tn_shows, .ref tn_oneEnd, .ref tn_otherEnd, .ref tn_told, .ref tn_strayParts, .ref tn_strayCourts])), (rd, .inr (5, [.int n_rd_17, .int n_rd_18, .ref tx, .ref rd_kinds, .ref rd_starts, .ref rd_stops, .ref rd_values, .int rd_tokens, .int rd_at, .ref tn, .int rd_strayCount, .int rd_lawTold, .int rd_falseTold])), (rd_starts, .inl (cA_rd_starts, 1601, .inl f_rd_starts))]) hB ht hvm hP hD hK [0, 2] [1, 3, 4, 5] rfl 6 rfl (by decide +kernel) rfl (by decide +kernel) hk1 hFc
    generalize H1 = H at hP hS ⊢
    have hK : va_K (dC, dI) vwCl [(cA_rd_kinds, .int), (cA_rd_starts, .int), (cA_rd_stops, .int), (cA_tx, .byte)] s := hK
    exact W.vret hx hb hr (fun t ht hW => by rw [← hQe]; exact ⟨⟨(), rfl, trivial, ⟨n_rd_17, n_rd_18, rd_at, rd_lawTold, tn_deep, (by first | with_reducible assumption | omega), (by first | with_reducible assumption | omega), (by first | with_reducible assumption | omega), z_ret hP hK hD ht hW [4, 0, 5, 1, 2, 3] [] rfl (by decide) rfl⟩⟩, hS.F ht⟩) hS.2.2 dX5_readLaw_12
set_option maxHeartbeats 4000000 in
set_option maxRecDepth 100000 in
theorem k_X5_readFalse (l : Launch) (sa : Nat → Nat) (dC : Nat → ClassId) (dI : Nat → Nat → Nat) (rd : Nat) (rd_fault : Int32) (rd_place : Int32) (tx : Nat) (rd_kinds : Nat) (rd_starts : Nat) (rd_stops : Nat) (rd_values : Nat) (rd_tokens : Int32) (rd_at : Int32) (tn : Nat) (rd_strayCount : Int32) (rd_lawTold : Int32) (rd_falseTold : Int32) (cA_rd_kinds : ClassId) (f_rd_kinds : Nat → Int32) (cA_rd_starts : ClassId) (f_rd_starts : Nat → Int32) (cA_rd_values : ClassId) (f_rd_values : Nat → Int32) (tn_hours : Int32) (tn_courts : Int32) (tn_gateCount : Int32) (tn_people : Int32) (tn_lines : Int32) (tn_falseHours : Int32) (tn_strayers : Int32) (tn_deep : Int32) (tn_above : Nat) (tn_doors : Nat) (tn_degrees : Nat) (tn_neighbours : Nat) (tn_shows : Nat) (tn_oneEnd : Nat) (tn_otherEnd : Nat) (tn_told : Nat) (tn_strayParts : Nat) (tn_strayCourts : Nat) (b_rd_tokens : 0 ≤ rd_tokens.toInt ∧ rd_tokens.toInt ≤ 1600) (b_rd_at : 0 ≤ rd_at.toInt ∧ rd_at.toInt ≤ 1600) (b_rd_strayCount : 0 ≤ rd_strayCount.toInt ∧ rd_strayCount.toInt ≤ 4) (b_rd_lawTold : 0 ≤ rd_lawTold.toInt ∧ rd_lawTold.toInt ≤ 1) (b_rd_falseTold : 0 ≤ rd_falseTold.toInt ∧ rd_falseTold.toInt ≤ 1) (b_f_rd_kinds : ∀ j : Nat, 0 ≤ (f_rd_kinds j).toInt ∧ (f_rd_kinds j).toInt ≤ 5) (b_f_rd_starts : ∀ j : Nat, 0 ≤ (f_rd_starts j).toInt ∧ (f_rd_starts j).toInt ≤ 1600) (b_f_rd_values : ∀ j : Nat, 0 ≤ (f_rd_values j).toInt ∧ (f_rd_values j).toInt ≤ 100000) (b_tn_hours : 0 ≤ tn_hours.toInt ∧ tn_hours.toInt ≤ 48) (b_tn_courts : 0 ≤ tn_courts.toInt ∧ tn_courts.toInt ≤ 10) (b_tn_gateCount : 0 ≤ tn_gateCount.toInt ∧ tn_gateCount.toInt ≤ 16) (b_tn_people : 0 ≤ tn_people.toInt ∧ tn_people.toInt ≤ 10) (b_tn_falseHours : 0 ≤ tn_falseHours.toInt ∧ tn_falseHours.toInt ≤ 9) (b_tn_deep : 0 ≤ tn_deep.toInt ∧ tn_deep.toInt ≤ 1) (sz : Nat) : Met l yX5_readFalse (.code yX5_readFalse cX5_readFalse 1 none :: zT) ({ frames := 2, cells := 0, slots := 0, locals := 44 }) (va_Pc [.ref rd] (zB sa dC dI (zV95 rd rd_fault rd_place tx rd_kinds rd_starts rd_stops rd_values rd_tokens rd_at tn rd_strayCount rd_lawTold rd_falseTold rd_kinds cA_rd_kinds f_rd_kinds rd_starts cA_rd_starts f_rd_starts rd_values cA_rd_values f_rd_values tn tn_hours tn_courts tn_gateCount tn_people tn_lines tn_falseHours tn_strayers tn_deep tn_above tn_doors tn_degrees tn_neighbours tn_shows tn_oneEnd tn_otherEnd tn_told tn_strayParts tn_strayCourts) [(cA_rd_kinds, .int), (cA_rd_starts, .int), (cA_rd_values, .int)] sz)) (va_Qv (fun _ : Unit => True) (fun _ t => ∃ (n_rd_0 : Int32) (n_rd_1 : Int32) (n_rd_8 : Int32) (n_rd_12 : Int32) (n_tn_5 : Int32), (0 ≤ n_rd_8.toInt ∧ n_rd_8.toInt ≤ 1600) ∧ (0 ≤ n_rd_12.toInt ∧ n_rd_12.toInt ≤ 1) ∧ (0 ≤ n_tn_5.toInt ∧ n_tn_5.toInt ≤ 9) ∧ zW dC dI (zV95 rd n_rd_0 n_rd_1 tx rd_kinds rd_starts rd_stops rd_values rd_tokens n_rd_8 tn rd_strayCount rd_lawTold n_rd_12 rd_kinds cA_rd_kinds f_rd_kinds rd_starts cA_rd_starts f_rd_starts rd_values cA_rd_values f_rd_values tn tn_hours tn_courts tn_gateCount tn_people tn_lines n_tn_5 tn_strayers tn_deep tn_above tn_doors tn_degrees tn_neighbours tn_shows tn_oneEnd tn_otherEnd tn_told tn_strayParts tn_strayCourts) [] (va_A (zV95 rd rd_fault rd_place tx rd_kinds rd_starts rd_stops rd_values rd_tokens rd_at tn rd_strayCount rd_lawTold rd_falseTold rd_kinds cA_rd_kinds f_rd_kinds rd_starts cA_rd_starts f_rd_starts rd_values cA_rd_values f_rd_values tn tn_hours tn_courts tn_gateCount tn_people tn_lines tn_falseHours tn_strayers tn_deep tn_above tn_doors tn_degrees tn_neighbours tn_shows tn_oneEnd tn_otherEnd tn_told tn_strayParts tn_strayCourts) sz) t) (va_A (zV95 rd rd_fault rd_place tx rd_kinds rd_starts rd_stops rd_values rd_tokens rd_at tn rd_strayCount rd_lawTold rd_falseTold rd_kinds cA_rd_kinds f_rd_kinds rd_starts cA_rd_starts f_rd_starts rd_values cA_rd_values f_rd_values tn tn_hours tn_courts tn_gateCount tn_people tn_lines tn_falseHours tn_strayers tn_deep tn_above tn_doors tn_degrees tn_neighbours tn_shows tn_oneEnd tn_otherEnd tn_told tn_strayParts tn_strayCourts) sz)) 0 0 (va_A (zV95 rd rd_fault rd_place tx rd_kinds rd_starts rd_stops rd_values rd_tokens rd_at tn rd_strayCount rd_lawTold rd_falseTold rd_kinds cA_rd_kinds f_rd_kinds rd_starts cA_rd_starts f_rd_starts rd_values cA_rd_values f_rd_values tn tn_hours tn_courts tn_gateCount tn_people tn_lines tn_falseHours tn_strayers tn_deep tn_above tn_doors tn_degrees tn_neighbours tn_shows tn_oneEnd tn_otherEnd tn_told tn_strayParts tn_strayCourts) sz) := by
  refine z_enter (by decide) (by exact (Nat.le_of_ble_eq_true rfl)) ?_
  intro p e s m args below meth c ls A R Qc hargs hsz hQe hAe hRe hx hb hml hr hts hown hlocks hin hl hP hK hD hN hXs hA hS
  rw [hAe] at hQe
  have hown : s.vm.findClass RX5 = some m.cls := hown
  have hl : lv_has ls 1 [(0, .ref rd)] := hl
  refine lv_aload_n hx hb dX5_readFalse_0 rfl (lv_at hl 0 rfl) ?_
  refine va_get (D := (dC, dI)) (ci := 5) (v := .int rd_falseTold) (C := RX5) (T := TX5) (N := 13) hx hb hts zl_X5 hown hK hP 0 rfl rfl 12 (by decide) (hts _ zw_t1_207) (fun _ h9 => h9) rfl dX5_readFalse_1 ?_
  refine lv_if_eq (tgt := 13) hx hb dX5_readFalse_4 (by decide) (fun c_1 => ?_) (fun c_1 => ?_)
  · have ic_1 := zz_eq rfl (show Int32.toInt 0 = 0 from by decide) c_1
    refine lv_aload_n hx hb dX5_readFalse_13 rfl (lv_at hl 0 rfl) ?_
    refine lv_iconst (v := 1) hx hb dX5_readFalse_14 (by decide) ?_
    refine va_put (D := (dC, dI)) (ci := 5) (v := .int 1) (ty := .boolean) (C := RX5) (T := TX5) (N := 13) hx hb hts zl_X5 tyX5 tyX5_ok nmX5 hown hK hP hD hS 0 rfl rfl 12 (by decide) (hts _ zw_t1_207) (fun _ h9 => h9) rfl (by decide +kernel) (by decide) (by decide) (Nat.le_of_ble_eq_true rfl) dX5_readFalse_15 (fun H locs hP hD hS => ?_)
    have hP : va_P (dC, dI) vwCl (zV109 rd rd_fault rd_place tx rd_kinds rd_starts rd_stops rd_values rd_tokens rd_at tn rd_strayCount rd_lawTold rd_kinds cA_rd_kinds f_rd_kinds rd_starts cA_rd_starts f_rd_starts rd_values cA_rd_values f_rd_values tn tn_hours tn_courts tn_gateCount tn_people tn_lines tn_falseHours tn_strayers tn_deep tn_above tn_doors tn_degrees tn_neighbours tn_shows tn_oneEnd tn_otherEnd tn_told tn_strayParts tn_strayCourts) H := hP
    have hD : va_D A (zV109 rd rd_fault rd_place tx rd_kinds rd_starts rd_stops rd_values rd_tokens rd_at tn rd_strayCount rd_lawTold rd_kinds cA_rd_kinds f_rd_kinds rd_starts cA_rd_starts f_rd_starts rd_values cA_rd_values f_rd_values tn tn_hours tn_courts tn_gateCount tn_people tn_lines tn_falseHours tn_strayers tn_deep tn_above tn_doors tn_degrees tn_neighbours tn_shows tn_oneEnd tn_otherEnd tn_told tn_strayParts tn_strayCourts) := hD
    refine lv_aload_n hx hb dX5_readFalse_18 rfl (lv_at hl 0 rfl) ?_
    obtain ⟨hPc, hDc, hFc⟩ := z_cut (wc := [(rd, .inr (5, [.int rd_fault, .int rd_place, .ref tx, .ref rd_kinds, .ref rd_starts, .ref rd_stops, .ref rd_values, .int rd_tokens, .int rd_at, .ref tn, .int rd_strayCount, .int rd_lawTold, .int 1]))]) hP hD hS hA [0] rfl (by decide +kernel)
    have hKc := hK.sub (tys' := []) [] rfl
    refine va_callv (va_runV (As := []) (rest := []) ⟨hx, hb, hml, hown, hts⟩ (k_X5_advance l sa dC dI rd rd_fault rd_place tx rd_kinds rd_starts rd_stops rd_values rd_tokens rd_at tn rd_strayCount rd_lawTold (1) b_rd_tokens b_rd_at b_rd_strayCount b_rd_lawTold (by decide) H.size) (cwV 0 hts (z_gV zw_t3_93 zw_t3_95 zw_s1_8 zw_t1_4 zw_t3_96) rfl rfl rfl (by decide +kernel) (by rw [← hRe]; exact ⟨(Nat.le_of_ble_eq_true rfl), (Nat.le_of_ble_eq_true rfl)⟩)) (z_preV hPc hKc hDc hN hXs hS hFc (q := (RX5, TX5, 13)) (ci := 5) (q0 := 0) rfl rfl) rfl rfl hl.1 rfl (lv_room (Nat.le_of_ble_eq_true rfl)) dX5_readFalse_19 (by rw [← hRe]; exact ⟨(Nat.le_of_ble_eq_true rfl), (Nat.le_of_ble_eq_true rfl)⟩)) hS (fun q _ h => hFc q h) hFc (fun u t H1 locs ht hvm hw hB hz1 hk1 hS => ?_)
    obtain ⟨n_rd_3, b_n_rd_3, hB⟩ := hB
    obtain ⟨hP, hD, hK⟩ := z_after3 (wn := [(rd_kinds, .inl (cA_rd_kinds, 1601, .inl f_rd_kinds)), (rd_starts, .inl (cA_rd_starts, 1601, .inl f_rd_starts)), (rd_values, .inl (cA_rd_values, 1601, .inl f_rd_values)), (tn, .inr (7, [.int tn_hours, .int tn_courts, .int tn_gateCount, .int tn_people, .int tn_lines, .int tn_falseHours, .int tn_strayers, .int tn_deep, .ref tn_above, .ref tn_doors, .ref tn_degrees, .ref tn_neighbours, .ref tn_shows, .ref tn_oneEnd, .ref tn_otherEnd, .ref tn_told, .ref tn_strayParts, .ref tn_strayCourts])), (rd, .inr (5, [.int rd_fault, .int rd_place, .ref tx, .ref rd_kinds, .ref rd_starts, .ref rd_stops, .ref rd_values, .int rd_tokens, .int n_rd_3, .ref tn, .int rd_strayCount, .int rd_lawTold, .int 1]))]) hB ht hvm hP hD hK [0] [1, 2, 3, 4] rfl 5 rfl (by decide +kernel) rfl (by decide +kernel) hk1 hFc
    generalize H1 = H at hP hS ⊢
    have hK : va_K (dC, dI) vwCl [(cA_rd_kinds, .int), (cA_rd_starts, .int), (cA_rd_values, .int)] s := hK
    refine lv_aload_n hx hb dX5_readFalse_22 rfl (lv_at hl 0 rfl) ?_
    refine va_get (D := (dC, dI)) (ci := 5) (v := .ref tn) (C := RX5) (T := TX5) (N := 13) hx hb hts zl_X5 hown hK hP 4 rfl rfl 9 (by decide) (hts _ zw_t1_204) (fun _ h9 => h9) rfl dX5_readFalse_23 ?_
    refine lv_aload_n hx hb dX5_readFalse_26 rfl (lv_at hl 0 rfl) ?_
    refine lv_iconst (v := 0) hx hb dX5_readFalse_27 (by decide) ?_
    refine lv_bipush (v := 9) hx hb dX5_readFalse_28 (by decide) ?_
    obtain ⟨hPc, hDc, hFc⟩ := z_cut (wc := [(rd, .inr (5, [.int rd_fault, .int rd_place, .ref tx, .ref rd_kinds, .ref rd_starts, .ref rd_stops, .ref rd_values, .int rd_tokens, .int n_rd_3, .ref tn, .int rd_strayCount, .int rd_lawTold, .int 1])), (rd_kinds, .inl (cA_rd_kinds, 1601, .inl f_rd_kinds)), (rd_starts, .inl (cA_rd_starts, 1601, .inl f_rd_starts)), (rd_values, .inl (cA_rd_values, 1601, .inl f_rd_values))]) hP hD hS hA [4, 0, 1, 2] rfl (by decide +kernel)
    have hKc := hK.sub (tys' := [(cA_rd_kinds, .int), (cA_rd_starts, .int), (cA_rd_values, .int)]) [0, 1, 2] rfl
    refine va_calli (va_runV (As := [.int 0, .int 9]) (rest := [.ref tn]) ⟨hx, hb, hml, hown, hts⟩ (k_X5_expectNumber l sa dC dI rd (0) (9) rd_fault rd_place tx rd_kinds rd_starts rd_stops rd_values rd_tokens n_rd_3 tn rd_strayCount rd_lawTold (1) cA_rd_kinds f_rd_kinds cA_rd_starts f_rd_starts cA_rd_values f_rd_values (by decide) (by decide) b_rd_tokens (by first | with_reducible assumption | omega) b_rd_strayCount b_rd_lawTold (by decide) b_f_rd_kinds b_f_rd_starts b_f_rd_values H.size) (cwV 2 hts (z_gV zw_t3_98 zw_t3_100 zw_s1_9 zw_t1_4 zw_t3_101) rfl rfl rfl (by decide +kernel) (by rw [← hRe]; exact ⟨(Nat.le_of_ble_eq_true rfl), (Nat.le_of_ble_eq_true rfl)⟩)) (z_preV hPc hKc hDc hN hXs hS hFc (q := (RX5, TX5, 13)) (ci := 5) (q0 := 0) rfl rfl) rfl rfl hl.1 rfl (lv_room (Nat.le_of_ble_eq_true rfl)) dX5_readFalse_30 (by rw [← hRe]; exact ⟨(Nat.le_of_ble_eq_true rfl), (Nat.le_of_ble_eq_true rfl)⟩)) hS (fun q _ h => hFc q h) hFc (fun r_4 u t H1 locs ht hvm hw hB hz1 hk1 hS => ?_)
    obtain ⟨n_rd_5, n_rd_6, n_rd_7, b_n_rd_7, hB⟩ := hB
    obtain ⟨hP, hD, hK⟩ := z_after3 (wn := (zV110 tn tn_hours tn_courts tn_gateCount tn_people tn_lines tn_falseHours tn_strayers tn_deep tn_above tn_doors tn_degrees tn_neighbours tn_shows tn_oneEnd tn_otherEnd tn_told tn_strayParts tn_strayCourts rd n_rd_5 n_rd_6 tx rd_kinds rd_starts rd_stops rd_values rd_tokens n_rd_7 tn rd_strayCount rd_lawTold rd_kinds cA_rd_kinds f_rd_kinds rd_starts cA_rd_starts f_rd_starts rd_values cA_rd_values f_rd_values)) hB ht hvm hP hD hK [4, 0, 1, 2] [3] rfl 5 rfl (by decide +kernel) rfl (by decide +kernel) hk1 hFc
    generalize H1 = H at hP hS ⊢
    have hK : va_K (dC, dI) vwCl [(cA_rd_kinds, .int), (cA_rd_starts, .int), (cA_rd_values, .int)] s := hK
    have b_r_4 : 0 ≤ r_4.toInt ∧ r_4.toInt ≤ 100000 := hw.1
    have s_r_4 := hw.2
    have za_0 : Int32.toInt 0 = 0 := by decide
    have za_9 : Int32.toInt 9 = 9 := by decide
    refine va_put (D := (dC, dI)) (ci := 7) (v := .int r_4) (ty := .int) (C := RX7) (T := TX7) (N := 18) hx hb hts zl_X7 tyX7 tyX7_ok nmX7 hown hK hP hD hS 0 rfl rfl 5 (by decide) (hts _ zw_t1_70) (fun _ h9 => h9) rfl (by decide +kernel) rfl rfl (Nat.le_of_ble_eq_true rfl) dX5_readFalse_33 (fun H locs hP hD hS => ?_)
    have hP : va_P (dC, dI) vwCl (zV110 tn tn_hours tn_courts tn_gateCount tn_people tn_lines r_4 tn_strayers tn_deep tn_above tn_doors tn_degrees tn_neighbours tn_shows tn_oneEnd tn_otherEnd tn_told tn_strayParts tn_strayCourts rd n_rd_5 n_rd_6 tx rd_kinds rd_starts rd_stops rd_values rd_tokens n_rd_7 tn rd_strayCount rd_lawTold rd_kinds cA_rd_kinds f_rd_kinds rd_starts cA_rd_starts f_rd_starts rd_values cA_rd_values f_rd_values) H := hP
    have hD : va_D A (zV110 tn tn_hours tn_courts tn_gateCount tn_people tn_lines r_4 tn_strayers tn_deep tn_above tn_doors tn_degrees tn_neighbours tn_shows tn_oneEnd tn_otherEnd tn_told tn_strayParts tn_strayCourts rd n_rd_5 n_rd_6 tx rd_kinds rd_starts rd_stops rd_values rd_tokens n_rd_7 tn rd_strayCount rd_lawTold rd_kinds cA_rd_kinds f_rd_kinds rd_starts cA_rd_starts f_rd_starts rd_values cA_rd_values f_rd_values) := hD
    exact W.vret hx hb hr (fun t ht hW => by rw [← hQe]; exact ⟨⟨(), rfl, trivial, ⟨n_rd_5, n_rd_6, n_rd_7, (1), r_4, (by first | with_reducible assumption | omega), (by decide), (by first | with_reducible assumption | omega), z_ret hP hK hD ht hW [1, 2, 3, 4, 0] [] rfl (by decide) rfl⟩⟩, hS.F ht⟩) hS.2.2 dX5_readFalse_36
  · have ic_1 := zz_neq rfl (show Int32.toInt 0 = 0 from by decide) c_1
    refine lv_aload_n hx hb dX5_readFalse_7 rfl (lv_at hl 0 rfl) ?_
    refine lv_iconst (v := 2) hx hb dX5_readFalse_8 (by decide) ?_
    obtain ⟨hPc, hDc, hFc⟩ := z_cut (wc := (zV90 rd rd_fault rd_place tx rd_kinds rd_starts rd_stops rd_values rd_tokens rd_at tn rd_strayCount rd_lawTold rd_falseTold rd_starts cA_rd_starts f_rd_starts)) hP hD hS hA [0, 2] rfl (by decide +kernel)
    have hKc := hK.sub (tys' := [(cA_rd_starts, .int)]) [1] rfl
    refine va_callv (va_runV (As := [.int 2]) (rest := []) ⟨hx, hb, hml, hown, hts⟩ (k_X5_blame l sa dC dI rd (2) rd_fault rd_place tx rd_kinds rd_starts rd_stops rd_values rd_tokens rd_at tn rd_strayCount rd_lawTold rd_falseTold cA_rd_starts f_rd_starts (by decide) b_rd_tokens b_rd_at b_rd_strayCount b_rd_lawTold b_rd_falseTold b_f_rd_starts s.heap.size) (cwV 1 hts (z_gV zw_t3_89 zw_t3_91 zw_s1_7 zw_t1_4 zw_t3_92) rfl rfl rfl (by decide +kernel) (by rw [← hRe]; exact ⟨(Nat.le_of_ble_eq_true rfl), (Nat.le_of_ble_eq_true rfl)⟩)) (z_preV hPc hKc hDc hN hXs hS hFc (q := (RX5, TX5, 13)) (ci := 5) (q0 := 0) rfl rfl) rfl rfl hl.1 rfl (lv_room (Nat.le_of_ble_eq_true rfl)) dX5_readFalse_9 (by rw [← hRe]; exact ⟨(Nat.le_of_ble_eq_true rfl), (Nat.le_of_ble_eq_true rfl)⟩)) hS (fun q _ h => hFc q h) hFc (fun u t H1 locs ht hvm hw hB hz1 hk1 hS => ?_)
    obtain ⟨n_rd_9, n_rd_10, hf_11, hB⟩ := hB
    obtain ⟨hP, hD, hK⟩ := z_after3 (wn := [(rd_kinds, .inl (cA_rd_kinds, 1601, .inl f_rd_kinds)), (rd_values, .inl (cA_rd_values, 1601, .inl f_rd_values)), (tn, .inr (7, [.int tn_hours, .int tn_courts, .int tn_gateCount, .int tn_people, .int tn_lines, .int tn_falseHours, .int tn_strayers, .int tn_deep, .ref tn_above, .ref tn_doors, .ref tn_degrees, .ref tn_neighbours, .ref tn_shows, .ref tn_oneEnd, .ref tn_otherEnd, .ref tn_told, .ref tn_strayParts, .ref tn_strayCourts])), (rd, .inr (5, [.int n_rd_9, .int n_rd_10, .ref tx, .ref rd_kinds, .ref rd_starts, .ref rd_stops, .ref rd_values, .int rd_tokens, .int rd_at, .ref tn, .int rd_strayCount, .int rd_lawTold, .int rd_falseTold])), (rd_starts, .inl (cA_rd_starts, 1601, .inl f_rd_starts))]) hB ht hvm hP hD hK [0, 2] [1, 3, 4] rfl 5 rfl (by decide +kernel) rfl (by decide +kernel) hk1 hFc
    generalize H1 = H at hP hS ⊢
    have hK : va_K (dC, dI) vwCl [(cA_rd_kinds, .int), (cA_rd_starts, .int), (cA_rd_values, .int)] s := hK
    exact W.vret hx hb hr (fun t ht hW => by rw [← hQe]; exact ⟨⟨(), rfl, trivial, ⟨n_rd_9, n_rd_10, rd_at, rd_falseTold, tn_falseHours, (by first | with_reducible assumption | omega), (by first | with_reducible assumption | omega), (by first | with_reducible assumption | omega), z_ret hP hK hD ht hW [3, 0, 4, 1, 2] [] rfl (by decide) rfl⟩⟩, hS.F ht⟩) hS.2.2 dX5_readFalse_12
set_option maxHeartbeats 4000000 in
set_option maxRecDepth 100000 in
theorem k_X5_readStrays (l : Launch) (sa : Nat → Nat) (dC : Nat → ClassId) (dI : Nat → Nat → Nat) (rd : Nat) (rd_fault : Int32) (rd_place : Int32) (tx : Nat) (rd_kinds : Nat) (rd_starts : Nat) (rd_stops : Nat) (rd_values : Nat) (rd_tokens : Int32) (rd_at : Int32) (tn : Nat) (rd_strayCount : Int32) (rd_lawTold : Int32) (rd_falseTold : Int32) (cA_rd_kinds : ClassId) (f_rd_kinds : Nat → Int32) (cA_rd_starts : ClassId) (f_rd_starts : Nat → Int32) (cA_rd_stops : ClassId) (f_rd_stops : Nat → Int32) (cA_rd_values : ClassId) (f_rd_values : Nat → Int32) (cA_tx : ClassId) (f_tx : Nat → Int32) (tn_hours : Int32) (tn_courts : Int32) (tn_gateCount : Int32) (tn_people : Int32) (tn_lines : Int32) (tn_falseHours : Int32) (tn_strayers : Int32) (tn_deep : Int32) (tn_above : Nat) (tn_doors : Nat) (tn_degrees : Nat) (tn_neighbours : Nat) (tn_shows : Nat) (tn_oneEnd : Nat) (tn_otherEnd : Nat) (tn_told : Nat) (tn_strayParts : Nat) (tn_strayCourts : Nat) (cA_tn_strayParts : ClassId) (f_tn_strayParts : Nat → Int32) (cA_tn_strayCourts : ClassId) (f_tn_strayCourts : Nat → Int32) (b_rd_tokens : 0 ≤ rd_tokens.toInt ∧ rd_tokens.toInt ≤ 1600) (b_rd_at : 0 ≤ rd_at.toInt ∧ rd_at.toInt ≤ 1600) (b_rd_strayCount : 0 ≤ rd_strayCount.toInt ∧ rd_strayCount.toInt ≤ 4) (b_rd_lawTold : 0 ≤ rd_lawTold.toInt ∧ rd_lawTold.toInt ≤ 1) (b_rd_falseTold : 0 ≤ rd_falseTold.toInt ∧ rd_falseTold.toInt ≤ 1) (b_f_rd_kinds : ∀ j : Nat, 0 ≤ (f_rd_kinds j).toInt ∧ (f_rd_kinds j).toInt ≤ 5) (b_f_rd_starts : ∀ j : Nat, 0 ≤ (f_rd_starts j).toInt ∧ (f_rd_starts j).toInt ≤ 1600) (b_f_rd_stops : ∀ j : Nat, 0 ≤ (f_rd_stops j).toInt ∧ (f_rd_stops j).toInt ≤ 1600) (b_f_rd_values : ∀ j : Nat, 0 ≤ (f_rd_values j).toInt ∧ (f_rd_values j).toInt ≤ 100000) (b_tn_hours : 0 ≤ tn_hours.toInt ∧ tn_hours.toInt ≤ 48) (b_tn_courts : 0 ≤ tn_courts.toInt ∧ tn_courts.toInt ≤ 10) (b_tn_gateCount : 0 ≤ tn_gateCount.toInt ∧ tn_gateCount.toInt ≤ 16) (b_tn_people : 0 ≤ tn_people.toInt ∧ tn_people.toInt ≤ 9) (b_tn_falseHours : 0 ≤ tn_falseHours.toInt ∧ tn_falseHours.toInt ≤ 9) (b_tn_deep : 0 ≤ tn_deep.toInt ∧ tn_deep.toInt ≤ 1) (b_f_tn_strayParts : ∀ j : Nat, 0 ≤ (f_tn_strayParts j).toInt ∧ (f_tn_strayParts j).toInt ≤ 99) (b_f_tn_strayCourts : ∀ j : Nat, 0 ≤ (f_tn_strayCourts j).toInt ∧ (f_tn_strayCourts j).toInt ≤ 9) (sz : Nat) : Met l yX5_readStrays (.code yX5_readStrays cX5_readStrays 1 none :: zT) ({ frames := 6, cells := 0, slots := 0, locals := 128 }) (va_Pc [.ref rd] (zB sa dC dI (zV111 rd rd_fault rd_place tx rd_kinds rd_starts rd_stops rd_values rd_tokens rd_at tn rd_strayCount rd_lawTold rd_falseTold rd_kinds cA_rd_kinds f_rd_kinds rd_starts cA_rd_starts f_rd_starts rd_stops cA_rd_stops f_rd_stops rd_values cA_rd_values f_rd_values tx cA_tx f_tx tn tn_hours tn_courts tn_gateCount tn_people tn_lines tn_falseHours tn_strayers tn_deep tn_above tn_doors tn_degrees tn_neighbours tn_shows tn_oneEnd tn_otherEnd tn_told tn_strayParts tn_strayCourts tn_strayParts cA_tn_strayParts f_tn_strayParts tn_strayCourts cA_tn_strayCourts f_tn_strayCourts) [(cA_rd_kinds, .int), (cA_rd_starts, .int), (cA_rd_stops, .int), (cA_rd_values, .int), (cA_tx, .byte), (cA_tn_strayParts, .int), (cA_tn_strayCourts, .int)] sz)) (va_Qv (fun _ : Unit => True) (fun _ t => ∃ (n_rd_0 : Int32) (n_rd_1 : Int32) (n_rd_8 : Int32) (n_rd_10 : Int32) (n_tn_6 : Int32) (n_tn_strayParts : Nat → Int32) (n_tn_strayCourts : Nat → Int32), (0 ≤ n_rd_8.toInt ∧ n_rd_8.toInt ≤ 1600) ∧ (0 ≤ n_rd_10.toInt ∧ n_rd_10.toInt ≤ 4) ∧ (∀ j : Nat, 0 ≤ (n_tn_strayParts j).toInt ∧ (n_tn_strayParts j).toInt ≤ 99) ∧ (∀ j : Nat, 0 ≤ (n_tn_strayCourts j).toInt ∧ (n_tn_strayCourts j).toInt ≤ 9) ∧ zW dC dI (zV111 rd n_rd_0 n_rd_1 tx rd_kinds rd_starts rd_stops rd_values rd_tokens n_rd_8 tn n_rd_10 rd_lawTold rd_falseTold rd_kinds cA_rd_kinds f_rd_kinds rd_starts cA_rd_starts f_rd_starts rd_stops cA_rd_stops f_rd_stops rd_values cA_rd_values f_rd_values tx cA_tx f_tx tn tn_hours tn_courts tn_gateCount tn_people tn_lines tn_falseHours n_tn_6 tn_deep tn_above tn_doors tn_degrees tn_neighbours tn_shows tn_oneEnd tn_otherEnd tn_told tn_strayParts tn_strayCourts tn_strayParts cA_tn_strayParts n_tn_strayParts tn_strayCourts cA_tn_strayCourts n_tn_strayCourts) [] (va_A (zV111 rd rd_fault rd_place tx rd_kinds rd_starts rd_stops rd_values rd_tokens rd_at tn rd_strayCount rd_lawTold rd_falseTold rd_kinds cA_rd_kinds f_rd_kinds rd_starts cA_rd_starts f_rd_starts rd_stops cA_rd_stops f_rd_stops rd_values cA_rd_values f_rd_values tx cA_tx f_tx tn tn_hours tn_courts tn_gateCount tn_people tn_lines tn_falseHours tn_strayers tn_deep tn_above tn_doors tn_degrees tn_neighbours tn_shows tn_oneEnd tn_otherEnd tn_told tn_strayParts tn_strayCourts tn_strayParts cA_tn_strayParts f_tn_strayParts tn_strayCourts cA_tn_strayCourts f_tn_strayCourts) sz) t) (va_A (zV111 rd rd_fault rd_place tx rd_kinds rd_starts rd_stops rd_values rd_tokens rd_at tn rd_strayCount rd_lawTold rd_falseTold rd_kinds cA_rd_kinds f_rd_kinds rd_starts cA_rd_starts f_rd_starts rd_stops cA_rd_stops f_rd_stops rd_values cA_rd_values f_rd_values tx cA_tx f_tx tn tn_hours tn_courts tn_gateCount tn_people tn_lines tn_falseHours tn_strayers tn_deep tn_above tn_doors tn_degrees tn_neighbours tn_shows tn_oneEnd tn_otherEnd tn_told tn_strayParts tn_strayCourts tn_strayParts cA_tn_strayParts f_tn_strayParts tn_strayCourts cA_tn_strayCourts f_tn_strayCourts) sz)) 0 0 (va_A (zV111 rd rd_fault rd_place tx rd_kinds rd_starts rd_stops rd_values rd_tokens rd_at tn rd_strayCount rd_lawTold rd_falseTold rd_kinds cA_rd_kinds f_rd_kinds rd_starts cA_rd_starts f_rd_starts rd_stops cA_rd_stops f_rd_stops rd_values cA_rd_values f_rd_values tx cA_tx f_tx tn tn_hours tn_courts tn_gateCount tn_people tn_lines tn_falseHours tn_strayers tn_deep tn_above tn_doors tn_degrees tn_neighbours tn_shows tn_oneEnd tn_otherEnd tn_told tn_strayParts tn_strayCourts tn_strayParts cA_tn_strayParts f_tn_strayParts tn_strayCourts cA_tn_strayCourts f_tn_strayCourts) sz) := by
  refine z_enter (by decide) (by exact (Nat.le_of_ble_eq_true rfl)) ?_
  intro p e s m args below meth c ls A R Qc hargs hsz hQe hAe hRe hx hb hml hr hts hown hlocks hin hl hP hK hD hN hXs hA hS
  rw [hAe] at hQe
  have hown : s.vm.findClass RX5 = some m.cls := hown
  have hl : lv_has ls 1 [(0, .ref rd)] := hl
  refine lv_aload_n hx hb dX5_readStrays_0 rfl (lv_at hl 0 rfl) ?_
  refine va_get (D := (dC, dI)) (ci := 5) (v := .int rd_strayCount) (C := RX5) (T := TX5) (N := 13) hx hb hts zl_X5 hown hK hP 0 rfl rfl 10 (by decide) (hts _ zw_t1_205) (fun _ h9 => h9) rfl dX5_readStrays_1 ?_
  refine lv_iconst (v := 4) hx hb dX5_readStrays_4 (by decide) ?_
  refine lv_icmp_lt (tgt := 14) hx hb dX5_readStrays_5 (by decide) (fun c_1 => ?_) (fun c_1 => ?_)
  · have ic_1 := zz_lt rfl (show Int32.toInt 4 = 4 from by decide) c_1
    refine lv_aload_n hx hb dX5_readStrays_14 rfl (lv_at hl 0 rfl) ?_
    refine lv_dup hx hb dX5_readStrays_15 rfl ?_
    refine va_get (D := (dC, dI)) (ci := 5) (v := .int rd_strayCount) (C := RX5) (T := TX5) (N := 13) hx hb hts zl_X5 hown hK hP 0 rfl rfl 10 (by decide) (hts _ zw_t1_205) (fun _ h9 => h9) rfl dX5_readStrays_16 ?_
    refine lv_iconst (v := 1) hx hb dX5_readStrays_19 (by decide) ?_
    refine lv_iadd hx hb dX5_readStrays_20 ?_
    refine lv_topi (fun x_2 ex_2 => ?_)
    have b_x_2 : x_2.toInt = rd_strayCount.toInt + 1 := by rw [ex_2]; exact zi_add rfl (show Int32.toInt 1 = 1 from by decide) (by first | with_reducible assumption | omega)
    refine va_put (D := (dC, dI)) (ci := 5) (v := .int x_2) (ty := .int) (C := RX5) (T := TX5) (N := 13) hx hb hts zl_X5 tyX5 tyX5_ok nmX5 hown hK hP hD hS 0 rfl rfl 10 (by decide) (hts _ zw_t1_205) (fun _ h9 => h9) rfl (by decide +kernel) rfl rfl (Nat.le_of_ble_eq_true rfl) dX5_readStrays_21 (fun H locs hP hD hS => ?_)
    have hP : va_P (dC, dI) vwCl (zV111 rd rd_fault rd_place tx rd_kinds rd_starts rd_stops rd_values rd_tokens rd_at tn x_2 rd_lawTold rd_falseTold rd_kinds cA_rd_kinds f_rd_kinds rd_starts cA_rd_starts f_rd_starts rd_stops cA_rd_stops f_rd_stops rd_values cA_rd_values f_rd_values tx cA_tx f_tx tn tn_hours tn_courts tn_gateCount tn_people tn_lines tn_falseHours tn_strayers tn_deep tn_above tn_doors tn_degrees tn_neighbours tn_shows tn_oneEnd tn_otherEnd tn_told tn_strayParts tn_strayCourts tn_strayParts cA_tn_strayParts f_tn_strayParts tn_strayCourts cA_tn_strayCourts f_tn_strayCourts) H := hP
    have hD : va_D A (zV111 rd rd_fault rd_place tx rd_kinds rd_starts rd_stops rd_values rd_tokens rd_at tn x_2 rd_lawTold rd_falseTold rd_kinds cA_rd_kinds f_rd_kinds rd_starts cA_rd_starts f_rd_starts rd_stops cA_rd_stops f_rd_stops rd_values cA_rd_values f_rd_values tx cA_tx f_tx tn tn_hours tn_courts tn_gateCount tn_people tn_lines tn_falseHours tn_strayers tn_deep tn_above tn_doors tn_degrees tn_neighbours tn_shows tn_oneEnd tn_otherEnd tn_told tn_strayParts tn_strayCourts tn_strayParts cA_tn_strayParts f_tn_strayParts tn_strayCourts cA_tn_strayCourts f_tn_strayCourts) := hD
    refine lv_aload_n hx hb dX5_readStrays_24 rfl (lv_at hl 0 rfl) ?_
    obtain ⟨hPc, hDc, hFc⟩ := z_cut (wc := (zV91 rd rd_fault rd_place tx rd_kinds rd_starts rd_stops rd_values rd_tokens rd_at tn x_2 rd_lawTold rd_falseTold)) hP hD hS hA [0] rfl (by decide +kernel)
    have hKc := hK.sub (tys' := []) [] rfl
    refine va_callv (va_runV (As := []) (rest := []) ⟨hx, hb, hml, hown, hts⟩ (k_X5_advance l sa dC dI rd rd_fault rd_place tx rd_kinds rd_starts rd_stops rd_values rd_tokens rd_at tn x_2 rd_lawTold rd_falseTold b_rd_tokens b_rd_at (by first | with_reducible assumption | omega) b_rd_lawTold b_rd_falseTold H.size) (cwV 0 hts (z_gV zw_t3_93 zw_t3_95 zw_s1_8 zw_t1_4 zw_t3_96) rfl rfl rfl (by decide +kernel) (by rw [← hRe]; exact ⟨(Nat.le_of_ble_eq_true rfl), (Nat.le_of_ble_eq_true rfl)⟩)) (z_preV hPc hKc hDc hN hXs hS hFc (q := (RX5, TX5, 13)) (ci := 5) (q0 := 0) rfl rfl) rfl rfl hl.1 rfl (lv_room (Nat.le_of_ble_eq_true rfl)) dX5_readStrays_25 (by rw [← hRe]; exact ⟨(Nat.le_of_ble_eq_true rfl), (Nat.le_of_ble_eq_true rfl)⟩)) hS (fun q _ h => hFc q h) hFc (fun u t H1 locs ht hvm hw hB hz1 hk1 hS => ?_)
    obtain ⟨n_rd_4, b_n_rd_4, hB⟩ := hB
    obtain ⟨hP, hD, hK⟩ := z_after3 (wn := (zV112 rd_kinds cA_rd_kinds f_rd_kinds rd_starts cA_rd_starts f_rd_starts rd_stops cA_rd_stops f_rd_stops rd_values cA_rd_values f_rd_values tx cA_tx f_tx tn tn_hours tn_courts tn_gateCount tn_people tn_lines tn_falseHours tn_strayers tn_deep tn_above tn_doors tn_degrees tn_neighbours tn_shows tn_oneEnd tn_otherEnd tn_told tn_strayParts tn_strayCourts tn_strayParts cA_tn_strayParts f_tn_strayParts tn_strayCourts cA_tn_strayCourts f_tn_strayCourts rd rd_fault rd_place tx rd_kinds rd_starts rd_stops rd_values rd_tokens n_rd_4 tn x_2 rd_lawTold rd_falseTold)) hB ht hvm hP hD hK [0] [1, 2, 3, 4, 5, 6, 7, 8] rfl 9 rfl (by decide +kernel) rfl (by decide +kernel) hk1 hFc
    generalize H1 = H at hP hS ⊢
    have hK : va_K (dC, dI) vwCl [(cA_rd_kinds, .int), (cA_rd_starts, .int), (cA_rd_stops, .int), (cA_rd_values, .int), (cA_tx, .byte), (cA_tn_strayParts, .int), (cA_tn_strayCourts, .int)] s := hK
    refine lv_aload_n hx hb dX5_readStrays_28 rfl (lv_at hl 0 rfl) ?_
    refine va_get (D := (dC, dI)) (ci := 5) (v := .ref tn) (C := RX5) (T := TX5) (N := 13) hx hb hts zl_X5 hown hK hP 8 rfl rfl 9 (by decide) (hts _ zw_t1_204) (fun _ h9 => h9) rfl dX5_readStrays_29 ?_
    refine lv_dup hx hb dX5_readStrays_32 rfl ?_
    refine va_get (D := (dC, dI)) (ci := 7) (v := .int tn_strayers) (C := RX7) (T := TX7) (N := 18) hx hb hts zl_X7 hown hK hP 5 rfl rfl 6 (by decide) (hts _ zw_t1_76) (fun _ h9 => h9) rfl dX5_readStrays_33 ?_
    refine lv_iconst (v := 1) hx hb dX5_readStrays_36 (by decide) ?_
    refine lv_aload_n hx hb dX5_readStrays_37 rfl (lv_at hl 0 rfl) ?_
    refine va_get (D := (dC, dI)) (ci := 5) (v := .ref tn) (C := RX5) (T := TX5) (N := 13) hx hb hts zl_X5 hown hK hP 8 rfl rfl 9 (by decide) (hts _ zw_t1_204) (fun _ h9 => h9) rfl dX5_readStrays_38 ?_
    refine va_get (D := (dC, dI)) (ci := 7) (v := .int tn_people) (C := RX7) (T := TX7) (N := 18) hx hb hts zl_X7 hown hK hP 5 rfl rfl 3 (by decide) (hts _ zw_t1_64) (fun _ h9 => h9) rfl dX5_readStrays_41 ?_
    refine lv_ishl hx hb dX5_readStrays_44 ?_
    refine lv_topi (fun x_5 ex_5 => ?_)
    have b_x_5 : 1 ≤ x_5.toInt ∧ x_5.toInt ≤ 1024 := by rw [ex_5]; exact zi_shl1 rfl (by first | with_reducible assumption | omega)
    refine lv_ior hx hb dX5_readStrays_45 ?_
    refine lv_topi (fun x_6 ex_6 => ?_)
    refine va_put (D := (dC, dI)) (ci := 7) (v := .int x_6) (ty := .int) (C := RX7) (T := TX7) (N := 18) hx hb hts zl_X7 tyX7 tyX7_ok nmX7 hown hK hP hD hS 5 rfl rfl 6 (by decide) (hts _ zw_t1_76) (fun _ h9 => h9) rfl (by decide +kernel) rfl rfl (Nat.le_of_ble_eq_true rfl) dX5_readStrays_46 (fun H locs hP hD hS => ?_)
    have hP : va_P (dC, dI) vwCl (zV112 rd_kinds cA_rd_kinds f_rd_kinds rd_starts cA_rd_starts f_rd_starts rd_stops cA_rd_stops f_rd_stops rd_values cA_rd_values f_rd_values tx cA_tx f_tx tn tn_hours tn_courts tn_gateCount tn_people tn_lines tn_falseHours x_6 tn_deep tn_above tn_doors tn_degrees tn_neighbours tn_shows tn_oneEnd tn_otherEnd tn_told tn_strayParts tn_strayCourts tn_strayParts cA_tn_strayParts f_tn_strayParts tn_strayCourts cA_tn_strayCourts f_tn_strayCourts rd rd_fault rd_place tx rd_kinds rd_starts rd_stops rd_values rd_tokens n_rd_4 tn x_2 rd_lawTold rd_falseTold) H := hP
    have hD : va_D A (zV112 rd_kinds cA_rd_kinds f_rd_kinds rd_starts cA_rd_starts f_rd_starts rd_stops cA_rd_stops f_rd_stops rd_values cA_rd_values f_rd_values tx cA_tx f_tx tn tn_hours tn_courts tn_gateCount tn_people tn_lines tn_falseHours x_6 tn_deep tn_above tn_doors tn_degrees tn_neighbours tn_shows tn_oneEnd tn_otherEnd tn_told tn_strayParts tn_strayCourts tn_strayParts cA_tn_strayParts f_tn_strayParts tn_strayCourts cA_tn_strayCourts f_tn_strayCourts rd rd_fault rd_place tx rd_kinds rd_starts rd_stops rd_values rd_tokens n_rd_4 tn x_2 rd_lawTold rd_falseTold) := hD
    refine lv_aload_n hx hb dX5_readStrays_49 rfl (lv_at hl 0 rfl) ?_
    refine va_get (D := (dC, dI)) (ci := 5) (v := .ref tn) (C := RX5) (T := TX5) (N := 13) hx hb hts zl_X5 hown hK hP 8 rfl rfl 9 (by decide) (hts _ zw_t1_204) (fun _ h9 => h9) rfl dX5_readStrays_50 ?_
    refine va_get (D := (dC, dI)) (ci := 7) (v := .ref tn_strayParts) (C := RX7) (T := TX7) (N := 18) hx hb hts zl_X7 hown hK hP 5 rfl rfl 16 (by decide) (hts _ zw_t1_110) (fun _ h9 => h9) rfl dX5_readStrays_53 ?_
    refine lv_aload_n hx hb dX5_readStrays_56 rfl (lv_at hl 0 rfl) ?_
    refine va_get (D := (dC, dI)) (ci := 5) (v := .ref tn) (C := RX5) (T := TX5) (N := 13) hx hb hts zl_X5 hown hK hP 8 rfl rfl 9 (by decide) (hts _ zw_t1_204) (fun _ h9 => h9) rfl dX5_readStrays_57 ?_
    refine va_get (D := (dC, dI)) (ci := 7) (v := .int tn_people) (C := RX7) (T := TX7) (N := 18) hx hb hts zl_X7 hown hK hP 5 rfl rfl 3 (by decide) (hts _ zw_t1_64) (fun _ h9 => h9) rfl dX5_readStrays_60 ?_
    refine lv_aload_n hx hb dX5_readStrays_63 rfl (lv_at hl 0 rfl) ?_
    refine lv_iconst (v := 1) hx hb dX5_readStrays_64 (by decide) ?_
    refine lv_bipush (v := 99) hx hb dX5_readStrays_65 (by decide) ?_
    obtain ⟨hPc, hDc, hFc⟩ := z_cut (wc := (zV89 rd rd_fault rd_place tx rd_kinds rd_starts rd_stops rd_values rd_tokens n_rd_4 tn x_2 rd_lawTold rd_falseTold rd_kinds cA_rd_kinds f_rd_kinds rd_starts cA_rd_starts f_rd_starts rd_values cA_rd_values f_rd_values)) hP hD hS hA [8, 0, 1, 3] rfl (by decide +kernel)
    have hKc := hK.sub (tys' := [(cA_rd_kinds, .int), (cA_rd_starts, .int), (cA_rd_values, .int)]) [0, 1, 3] rfl
    refine va_calli (va_runV (As := [.int 1, .int 99]) (rest := [.int tn_people, .ref tn_strayParts]) ⟨hx, hb, hml, hown, hts⟩ (k_X5_expectNumber l sa dC dI rd (1) (99) rd_fault rd_place tx rd_kinds rd_starts rd_stops rd_values rd_tokens n_rd_4 tn x_2 rd_lawTold rd_falseTold cA_rd_kinds f_rd_kinds cA_rd_starts f_rd_starts cA_rd_values f_rd_values (by decide) (by decide) b_rd_tokens (by first | with_reducible assumption | omega) (by first | with_reducible assumption | omega) b_rd_lawTold b_rd_falseTold b_f_rd_kinds b_f_rd_starts b_f_rd_values H.size) (cwV 2 hts (z_gV zw_t3_98 zw_t3_100 zw_s1_9 zw_t1_4 zw_t3_101) rfl rfl rfl (by decide +kernel) (by rw [← hRe]; exact ⟨(Nat.le_of_ble_eq_true rfl), (Nat.le_of_ble_eq_true rfl)⟩)) (z_preV hPc hKc hDc hN hXs hS hFc (q := (RX5, TX5, 13)) (ci := 5) (q0 := 0) rfl rfl) rfl rfl hl.1 rfl (lv_room (Nat.le_of_ble_eq_true rfl)) dX5_readStrays_67 (by rw [← hRe]; exact ⟨(Nat.le_of_ble_eq_true rfl), (Nat.le_of_ble_eq_true rfl)⟩)) hS (fun q _ h => hFc q h) hFc (fun r_7 u t H1 locs ht hvm hw hB hz1 hk1 hS => ?_)
    obtain ⟨n_rd_8, n_rd_9, n_rd_10, b_n_rd_10, hB⟩ := hB
    obtain ⟨hP, hD, hK⟩ := z_after3 (wn := (zV113 rd_stops cA_rd_stops f_rd_stops tx cA_tx f_tx tn tn_hours tn_courts tn_gateCount tn_people tn_lines tn_falseHours x_6 tn_deep tn_above tn_doors tn_degrees tn_neighbours tn_shows tn_oneEnd tn_otherEnd tn_told tn_strayParts tn_strayCourts tn_strayParts cA_tn_strayParts f_tn_strayParts tn_strayCourts cA_tn_strayCourts f_tn_strayCourts rd n_rd_8 n_rd_9 tx rd_kinds rd_starts rd_stops rd_values rd_tokens n_rd_10 tn x_2 rd_lawTold rd_falseTold rd_kinds cA_rd_kinds f_rd_kinds rd_starts cA_rd_starts f_rd_starts rd_values cA_rd_values f_rd_values)) hB ht hvm hP hD hK [8, 0, 1, 3] [2, 4, 5, 6, 7] rfl 9 rfl (by decide +kernel) rfl (by decide +kernel) hk1 hFc
    generalize H1 = H at hP hS ⊢
    have hK : va_K (dC, dI) vwCl [(cA_rd_kinds, .int), (cA_rd_starts, .int), (cA_rd_stops, .int), (cA_rd_values, .int), (cA_tx, .byte), (cA_tn_strayParts, .int), (cA_tn_strayCourts, .int)] s := hK
    have b_r_7 : 0 ≤ r_7.toInt ∧ r_7.toInt ≤ 100000 := hw.1
    have s_r_7 := hw.2
    have za_1 : Int32.toInt 1 = 1 := by decide
    have za_99 : Int32.toInt 99 = 99 := by decide
    refine va_iast hx hb hK hP hD hS 3 5 rfl rfl (zi_in rfl (by first | with_reducible assumption | omega)) dX5_readStrays_70 (fun H locs hP hD hS => ?_)
    obtain ⟨f_11, ef_11⟩ : ∃ g : Nat → Int32, g = upd f_tn_strayParts (Int32.toNatClampNeg tn_people) r_7 := ⟨_, rfl⟩
    have b_f_11 : ∀ j : Nat, 0 ≤ (f_11 j).toInt ∧ (f_11 j).toInt ≤ 99 := by rw [ef_11]; exact zi_upd b_f_tn_strayParts rfl (by first | with_reducible assumption | omega)
    have hP : va_P (dC, dI) vwCl (zV113 rd_stops cA_rd_stops f_rd_stops tx cA_tx f_tx tn tn_hours tn_courts tn_gateCount tn_people tn_lines tn_falseHours x_6 tn_deep tn_above tn_doors tn_degrees tn_neighbours tn_shows tn_oneEnd tn_otherEnd tn_told tn_strayParts tn_strayCourts tn_strayParts cA_tn_strayParts (upd f_tn_strayParts (Int32.toNatClampNeg tn_people) r_7) tn_strayCourts cA_tn_strayCourts f_tn_strayCourts rd n_rd_8 n_rd_9 tx rd_kinds rd_starts rd_stops rd_values rd_tokens n_rd_10 tn x_2 rd_lawTold rd_falseTold rd_kinds cA_rd_kinds f_rd_kinds rd_starts cA_rd_starts f_rd_starts rd_values cA_rd_values f_rd_values) H := hP
    have hD : va_D A (zV113 rd_stops cA_rd_stops f_rd_stops tx cA_tx f_tx tn tn_hours tn_courts tn_gateCount tn_people tn_lines tn_falseHours x_6 tn_deep tn_above tn_doors tn_degrees tn_neighbours tn_shows tn_oneEnd tn_otherEnd tn_told tn_strayParts tn_strayCourts tn_strayParts cA_tn_strayParts (upd f_tn_strayParts (Int32.toNatClampNeg tn_people) r_7) tn_strayCourts cA_tn_strayCourts f_tn_strayCourts rd n_rd_8 n_rd_9 tx rd_kinds rd_starts rd_stops rd_values rd_tokens n_rd_10 tn x_2 rd_lawTold rd_falseTold rd_kinds cA_rd_kinds f_rd_kinds rd_starts cA_rd_starts f_rd_starts rd_values cA_rd_values f_rd_values) := hD
    rw [← ef_11] at hP hD
    refine lv_aload_n hx hb dX5_readStrays_71 rfl (lv_at hl 0 rfl) ?_
    refine va_ldcS (index := 166) hx hb hown (hXs.2.2.2.2.2.2.2 8 (by decide)) dX5_readStrays_72 ?_
    obtain ⟨hPc, hDc, hFc⟩ := z_cut (wc := (zV92 rd n_rd_8 n_rd_9 tx rd_kinds rd_starts rd_stops rd_values rd_tokens n_rd_10 tn x_2 rd_lawTold rd_falseTold rd_kinds cA_rd_kinds f_rd_kinds rd_starts cA_rd_starts f_rd_starts rd_stops cA_rd_stops f_rd_stops tx cA_tx f_tx)) hP hD hS hA [5, 6, 7, 0, 1] rfl (by decide +kernel)
    have hKc := hK.sub (tys' := [(cA_rd_kinds, .int), (cA_rd_starts, .int), (cA_rd_stops, .int), (cA_tx, .byte)]) [0, 1, 2, 4] rfl
    refine va_callv (va_runV (As := [.ref (sa (2 + 2 * 8))]) (rest := []) ⟨hx, hb, hml, hown, hts⟩ (k_X5_expectWord l sa dC dI rd n_rd_8 n_rd_9 tx rd_kinds rd_starts rd_stops rd_values rd_tokens n_rd_10 tn x_2 rd_lawTold rd_falseTold cA_rd_kinds f_rd_kinds cA_rd_starts f_rd_starts cA_rd_stops f_rd_stops cA_tx f_tx (8) b_rd_tokens (by first | with_reducible assumption | omega) (by first | with_reducible assumption | omega) b_rd_lawTold b_rd_falseTold b_f_rd_kinds b_f_rd_starts b_f_rd_stops (by decide) H.size) (cwV 1 hts (z_gV zw_t3_33 zw_t3_35 zw_s1_5 zw_t1_4 zw_t3_36) rfl rfl rfl (by decide +kernel) (by rw [← hRe]; exact ⟨(Nat.le_of_ble_eq_true rfl), (Nat.le_of_ble_eq_true rfl)⟩)) (z_preV hPc hKc hDc hN hXs hS hFc (q := (RX5, TX5, 13)) (ci := 5) (q0 := 0) rfl rfl) rfl rfl hl.1 rfl (lv_room (Nat.le_of_ble_eq_true rfl)) dX5_readStrays_74 (by rw [← hRe]; exact ⟨(Nat.le_of_ble_eq_true rfl), (Nat.le_of_ble_eq_true rfl)⟩)) hS (fun q _ h => hFc q h) hFc (fun u t H1 locs ht hvm hw hB hz1 hk1 hS => ?_)
    obtain ⟨n_rd_13, n_rd_14, n_rd_15, b_n_rd_15, hB⟩ := hB
    obtain ⟨hP, hD, hK⟩ := z_after3 (wn := [(tn, .inr (7, [.int tn_hours, .int tn_courts, .int tn_gateCount, .int tn_people, .int tn_lines, .int tn_falseHours, .int x_6, .int tn_deep, .ref tn_above, .ref tn_doors, .ref tn_degrees, .ref tn_neighbours, .ref tn_shows, .ref tn_oneEnd, .ref tn_otherEnd, .ref tn_told, .ref tn_strayParts, .ref tn_strayCourts])), (tn_strayParts, .inl (cA_tn_strayParts, 10, .inl f_11)), (tn_strayCourts, .inl (cA_tn_strayCourts, 10, .inl f_tn_strayCourts)), (rd_values, .inl (cA_rd_values, 1601, .inl f_rd_values)), (rd, .inr (5, [.int n_rd_13, .int n_rd_14, .ref tx, .ref rd_kinds, .ref rd_starts, .ref rd_stops, .ref rd_values, .int rd_tokens, .int n_rd_15, .ref tn, .int x_2, .int rd_lawTold, .int rd_falseTold])), (rd_kinds, .inl (cA_rd_kinds, 1601, .inl f_rd_kinds)), (rd_starts, .inl (cA_rd_starts, 1601, .inl f_rd_starts)), (rd_stops, .inl (cA_rd_stops, 1601, .inl f_rd_stops)), (tx, .inl (cA_tx, 1600, .inl f_tx))]) hB ht hvm hP hD hK [5, 6, 7, 0, 1] [2, 3, 4, 8] rfl 9 rfl (by decide +kernel) rfl (by decide +kernel) hk1 hFc
    generalize H1 = H at hP hS ⊢
    have hK : va_K (dC, dI) vwCl [(cA_rd_kinds, .int), (cA_rd_starts, .int), (cA_rd_stops, .int), (cA_rd_values, .int), (cA_tx, .byte), (cA_tn_strayParts, .int), (cA_tn_strayCourts, .int)] s := hK
    refine lv_aload_n hx hb dX5_readStrays_77 rfl (lv_at hl 0 rfl) ?_
    refine va_get (D := (dC, dI)) (ci := 5) (v := .ref tn) (C := RX5) (T := TX5) (N := 13) hx hb hts zl_X5 hown hK hP 4 rfl rfl 9 (by decide) (hts _ zw_t1_204) (fun _ h9 => h9) rfl dX5_readStrays_78 ?_
    refine va_get (D := (dC, dI)) (ci := 7) (v := .ref tn_strayCourts) (C := RX7) (T := TX7) (N := 18) hx hb hts zl_X7 hown hK hP 0 rfl rfl 17 (by decide) (hts _ zw_t1_112) (fun _ h9 => h9) rfl dX5_readStrays_81 ?_
    refine lv_aload_n hx hb dX5_readStrays_84 rfl (lv_at hl 0 rfl) ?_
    refine va_get (D := (dC, dI)) (ci := 5) (v := .ref tn) (C := RX5) (T := TX5) (N := 13) hx hb hts zl_X5 hown hK hP 4 rfl rfl 9 (by decide) (hts _ zw_t1_204) (fun _ h9 => h9) rfl dX5_readStrays_85 ?_
    refine va_get (D := (dC, dI)) (ci := 7) (v := .int tn_people) (C := RX7) (T := TX7) (N := 18) hx hb hts zl_X7 hown hK hP 0 rfl rfl 3 (by decide) (hts _ zw_t1_64) (fun _ h9 => h9) rfl dX5_readStrays_88 ?_
    refine lv_aload_n hx hb dX5_readStrays_91 rfl (lv_at hl 0 rfl) ?_
    obtain ⟨hPc, hDc, hFc⟩ := z_cut (wc := (zV95 rd n_rd_13 n_rd_14 tx rd_kinds rd_starts rd_stops rd_values rd_tokens n_rd_15 tn x_2 rd_lawTold rd_falseTold rd_kinds cA_rd_kinds f_rd_kinds rd_starts cA_rd_starts f_rd_starts rd_values cA_rd_values f_rd_values tn tn_hours tn_courts tn_gateCount tn_people tn_lines tn_falseHours x_6 tn_deep tn_above tn_doors tn_degrees tn_neighbours tn_shows tn_oneEnd tn_otherEnd tn_told tn_strayParts tn_strayCourts)) hP hD hS hA [4, 5, 6, 3, 0] rfl (by decide +kernel)
    have hKc := hK.sub (tys' := [(cA_rd_kinds, .int), (cA_rd_starts, .int), (cA_rd_values, .int)]) [0, 1, 3] rfl
    refine va_calli (va_runV (As := []) (rest := [.int tn_people, .ref tn_strayCourts]) ⟨hx, hb, hml, hown, hts⟩ (k_X5_expectCourt l sa dC dI rd n_rd_13 n_rd_14 tx rd_kinds rd_starts rd_stops rd_values rd_tokens n_rd_15 tn x_2 rd_lawTold rd_falseTold cA_rd_kinds f_rd_kinds cA_rd_starts f_rd_starts cA_rd_values f_rd_values tn_hours tn_courts tn_gateCount tn_people tn_lines tn_falseHours x_6 tn_deep tn_above tn_doors tn_degrees tn_neighbours tn_shows tn_oneEnd tn_otherEnd tn_told tn_strayParts tn_strayCourts b_rd_tokens (by first | with_reducible assumption | omega) (by first | with_reducible assumption | omega) b_rd_lawTold b_rd_falseTold b_f_rd_kinds b_f_rd_starts b_f_rd_values b_tn_hours b_tn_courts b_tn_gateCount (by first | with_reducible assumption | omega) b_tn_falseHours b_tn_deep H.size) (cwV 0 hts (z_gV zw_t3_108 zw_t3_110 zw_s1_11 zw_t1_4 zw_t3_111) rfl rfl rfl (by decide +kernel) (by rw [← hRe]; exact ⟨(Nat.le_of_ble_eq_true rfl), (Nat.le_of_ble_eq_true rfl)⟩)) (z_preV hPc hKc hDc hN hXs hS hFc (q := (RX5, TX5, 13)) (ci := 5) (q0 := 0) rfl rfl) rfl rfl hl.1 rfl (lv_room (Nat.le_of_ble_eq_true rfl)) dX5_readStrays_92 (by rw [← hRe]; exact ⟨(Nat.le_of_ble_eq_true rfl), (Nat.le_of_ble_eq_true rfl)⟩)) hS (fun q _ h => hFc q h) hFc (fun r_16 u t H1 locs ht hvm hw hB hz1 hk1 hS => ?_)
    obtain ⟨n_rd_17, n_rd_18, n_rd_19, b_n_rd_19, hB⟩ := hB
    obtain ⟨hP, hD, hK⟩ := z_after3 (wn := (zV114 tn_strayParts cA_tn_strayParts f_11 tn_strayCourts cA_tn_strayCourts f_tn_strayCourts rd_stops cA_rd_stops f_rd_stops tx cA_tx f_tx rd n_rd_17 n_rd_18 tx rd_kinds rd_starts rd_stops rd_values rd_tokens n_rd_19 tn x_2 rd_lawTold rd_falseTold rd_kinds cA_rd_kinds f_rd_kinds rd_starts cA_rd_starts f_rd_starts rd_values cA_rd_values f_rd_values tn tn_hours tn_courts tn_gateCount tn_people tn_lines tn_falseHours x_6 tn_deep tn_above tn_doors tn_degrees tn_neighbours tn_shows tn_oneEnd tn_otherEnd tn_told tn_strayParts tn_strayCourts)) hB ht hvm hP hD hK [4, 5, 6, 3, 0] [1, 2, 7, 8] rfl 9 rfl (by decide +kernel) rfl (by decide +kernel) hk1 hFc
    generalize H1 = H at hP hS ⊢
    have hK : va_K (dC, dI) vwCl [(cA_rd_kinds, .int), (cA_rd_starts, .int), (cA_rd_stops, .int), (cA_rd_values, .int), (cA_tx, .byte), (cA_tn_strayParts, .int), (cA_tn_strayCourts, .int)] s := hK
    have b_r_16 : 0 ≤ r_16.toInt ∧ r_16.toInt ≤ 9 := hw
    refine va_iast hx hb hK hP hD hS 1 6 rfl rfl (zi_in rfl (by first | with_reducible assumption | omega)) dX5_readStrays_95 (fun H locs hP hD hS => ?_)
    obtain ⟨f_20, ef_20⟩ : ∃ g : Nat → Int32, g = upd f_tn_strayCourts (Int32.toNatClampNeg tn_people) r_16 := ⟨_, rfl⟩
    have b_f_20 : ∀ j : Nat, 0 ≤ (f_20 j).toInt ∧ (f_20 j).toInt ≤ 9 := by rw [ef_20]; exact zi_upd b_f_tn_strayCourts rfl (by first | with_reducible assumption | omega)
    have hP : va_P (dC, dI) vwCl (zV114 tn_strayParts cA_tn_strayParts f_11 tn_strayCourts cA_tn_strayCourts (upd f_tn_strayCourts (Int32.toNatClampNeg tn_people) r_16) rd_stops cA_rd_stops f_rd_stops tx cA_tx f_tx rd n_rd_17 n_rd_18 tx rd_kinds rd_starts rd_stops rd_values rd_tokens n_rd_19 tn x_2 rd_lawTold rd_falseTold rd_kinds cA_rd_kinds f_rd_kinds rd_starts cA_rd_starts f_rd_starts rd_values cA_rd_values f_rd_values tn tn_hours tn_courts tn_gateCount tn_people tn_lines tn_falseHours x_6 tn_deep tn_above tn_doors tn_degrees tn_neighbours tn_shows tn_oneEnd tn_otherEnd tn_told tn_strayParts tn_strayCourts) H := hP
    have hD : va_D A (zV114 tn_strayParts cA_tn_strayParts f_11 tn_strayCourts cA_tn_strayCourts (upd f_tn_strayCourts (Int32.toNatClampNeg tn_people) r_16) rd_stops cA_rd_stops f_rd_stops tx cA_tx f_tx rd n_rd_17 n_rd_18 tx rd_kinds rd_starts rd_stops rd_values rd_tokens n_rd_19 tn x_2 rd_lawTold rd_falseTold rd_kinds cA_rd_kinds f_rd_kinds rd_starts cA_rd_starts f_rd_starts rd_values cA_rd_values f_rd_values tn tn_hours tn_courts tn_gateCount tn_people tn_lines tn_falseHours x_6 tn_deep tn_above tn_doors tn_degrees tn_neighbours tn_shows tn_oneEnd tn_otherEnd tn_told tn_strayParts tn_strayCourts) := hD
    rw [← ef_20] at hP hD
    exact W.vret hx hb hr (fun t ht hW => by rw [← hQe]; exact ⟨⟨(), rfl, trivial, ⟨n_rd_17, n_rd_18, n_rd_19, x_2, x_6, f_11, f_20, (by first | with_reducible assumption | omega), (by first | with_reducible assumption | omega), b_f_11, b_f_20, z_ret hP hK hD ht hW [4, 5, 6, 2, 7, 3, 8, 0, 1] [] rfl (by decide) rfl⟩⟩, hS.F ht⟩) hS.2.2 dX5_readStrays_96
  · have ic_1 := zz_nlt rfl (show Int32.toInt 4 = 4 from by decide) c_1
    refine lv_aload_n hx hb dX5_readStrays_8 rfl (lv_at hl 0 rfl) ?_
    refine lv_iconst (v := 2) hx hb dX5_readStrays_9 (by decide) ?_
    obtain ⟨hPc, hDc, hFc⟩ := z_cut (wc := (zV90 rd rd_fault rd_place tx rd_kinds rd_starts rd_stops rd_values rd_tokens rd_at tn rd_strayCount rd_lawTold rd_falseTold rd_starts cA_rd_starts f_rd_starts)) hP hD hS hA [0, 2] rfl (by decide +kernel)
    have hKc := hK.sub (tys' := [(cA_rd_starts, .int)]) [1] rfl
    refine va_callv (va_runV (As := [.int 2]) (rest := []) ⟨hx, hb, hml, hown, hts⟩ (k_X5_blame l sa dC dI rd (2) rd_fault rd_place tx rd_kinds rd_starts rd_stops rd_values rd_tokens rd_at tn rd_strayCount rd_lawTold rd_falseTold cA_rd_starts f_rd_starts (by decide) b_rd_tokens b_rd_at b_rd_strayCount b_rd_lawTold b_rd_falseTold b_f_rd_starts s.heap.size) (cwV 1 hts (z_gV zw_t3_89 zw_t3_91 zw_s1_7 zw_t1_4 zw_t3_92) rfl rfl rfl (by decide +kernel) (by rw [← hRe]; exact ⟨(Nat.le_of_ble_eq_true rfl), (Nat.le_of_ble_eq_true rfl)⟩)) (z_preV hPc hKc hDc hN hXs hS hFc (q := (RX5, TX5, 13)) (ci := 5) (q0 := 0) rfl rfl) rfl rfl hl.1 rfl (lv_room (Nat.le_of_ble_eq_true rfl)) dX5_readStrays_10 (by rw [← hRe]; exact ⟨(Nat.le_of_ble_eq_true rfl), (Nat.le_of_ble_eq_true rfl)⟩)) hS (fun q _ h => hFc q h) hFc (fun u t H1 locs ht hvm hw hB hz1 hk1 hS => ?_)
    obtain ⟨n_rd_22, n_rd_23, hf_24, hB⟩ := hB
    obtain ⟨hP, hD, hK⟩ := z_after3 (wn := [(rd_kinds, .inl (cA_rd_kinds, 1601, .inl f_rd_kinds)), (rd_stops, .inl (cA_rd_stops, 1601, .inl f_rd_stops)), (rd_values, .inl (cA_rd_values, 1601, .inl f_rd_values)), (tx, .inl (cA_tx, 1600, .inl f_tx)), (tn, .inr (7, [.int tn_hours, .int tn_courts, .int tn_gateCount, .int tn_people, .int tn_lines, .int tn_falseHours, .int tn_strayers, .int tn_deep, .ref tn_above, .ref tn_doors, .ref tn_degrees, .ref tn_neighbours, .ref tn_shows, .ref tn_oneEnd, .ref tn_otherEnd, .ref tn_told, .ref tn_strayParts, .ref tn_strayCourts])), (tn_strayParts, .inl (cA_tn_strayParts, 10, .inl f_tn_strayParts)), (tn_strayCourts, .inl (cA_tn_strayCourts, 10, .inl f_tn_strayCourts)), (rd, .inr (5, [.int n_rd_22, .int n_rd_23, .ref tx, .ref rd_kinds, .ref rd_starts, .ref rd_stops, .ref rd_values, .int rd_tokens, .int rd_at, .ref tn, .int rd_strayCount, .int rd_lawTold, .int rd_falseTold])), (rd_starts, .inl (cA_rd_starts, 1601, .inl f_rd_starts))]) hB ht hvm hP hD hK [0, 2] [1, 3, 4, 5, 6, 7, 8] rfl 9 rfl (by decide +kernel) rfl (by decide +kernel) hk1 hFc
    generalize H1 = H at hP hS ⊢
    have hK : va_K (dC, dI) vwCl [(cA_rd_kinds, .int), (cA_rd_starts, .int), (cA_rd_stops, .int), (cA_rd_values, .int), (cA_tx, .byte), (cA_tn_strayParts, .int), (cA_tn_strayCourts, .int)] s := hK
    exact W.vret hx hb hr (fun t ht hW => by rw [← hQe]; exact ⟨⟨(), rfl, trivial, ⟨n_rd_22, n_rd_23, rd_at, rd_strayCount, tn_strayers, f_tn_strayParts, f_tn_strayCourts, (by first | with_reducible assumption | omega), (by first | with_reducible assumption | omega), b_f_tn_strayParts, b_f_tn_strayCourts, z_ret hP hK hD ht hW [7, 0, 8, 1, 2, 3, 4, 5, 6] [] rfl (by decide) rfl⟩⟩, hS.F ht⟩) hS.2.2 dX5_readStrays_13
set_option maxHeartbeats 4000000 in
set_option maxRecDepth 100000 in
theorem k_X5_showPlaces (l : Launch) (sa : Nat → Nat) (dC : Nat → ClassId) (dI : Nat → Nat → Nat) (rd : Nat) (rd_fault : Int32) (rd_place : Int32) (tx : Nat) (rd_kinds : Nat) (rd_starts : Nat) (rd_stops : Nat) (rd_values : Nat) (rd_tokens : Int32) (rd_at : Int32) (tn : Nat) (rd_strayCount : Int32) (rd_lawTold : Int32) (rd_falseTold : Int32) (tn_hours : Int32) (tn_courts : Int32) (tn_gateCount : Int32) (tn_people : Int32) (tn_lines : Int32) (tn_falseHours : Int32) (tn_strayers : Int32) (tn_deep : Int32) (tn_above : Nat) (tn_doors : Nat) (tn_degrees : Nat) (tn_neighbours : Nat) (tn_shows : Nat) (tn_oneEnd : Nat) (tn_otherEnd : Nat) (tn_told : Nat) (tn_strayParts : Nat) (tn_strayCourts : Nat) (cA_tn_above : ClassId) (f_tn_above : Nat → Int32) (cA_tn_shows : ClassId) (f_tn_shows : Nat → Int32) (b_rd_tokens : 0 ≤ rd_tokens.toInt ∧ rd_tokens.toInt ≤ 1600) (b_rd_at : 0 ≤ rd_at.toInt ∧ rd_at.toInt ≤ 1600) (b_rd_strayCount : 0 ≤ rd_strayCount.toInt ∧ rd_strayCount.toInt ≤ 4) (b_rd_lawTold : 0 ≤ rd_lawTold.toInt ∧ rd_lawTold.toInt ≤ 1) (b_rd_falseTold : 0 ≤ rd_falseTold.toInt ∧ rd_falseTold.toInt ≤ 1) (b_tn_hours : 0 ≤ tn_hours.toInt ∧ tn_hours.toInt ≤ 48) (b_tn_courts : 0 ≤ tn_courts.toInt ∧ tn_courts.toInt ≤ 10) (b_tn_gateCount : 0 ≤ tn_gateCount.toInt ∧ tn_gateCount.toInt ≤ 16) (b_tn_people : 0 ≤ tn_people.toInt ∧ tn_people.toInt ≤ 10) (b_tn_falseHours : 0 ≤ tn_falseHours.toInt ∧ tn_falseHours.toInt ≤ 9) (b_tn_deep : 0 ≤ tn_deep.toInt ∧ tn_deep.toInt ≤ 1) (sz : Nat) : Met l yX5_showPlaces (.code yX5_showPlaces cX5_showPlaces 2 none :: zT) ({ frames := 0, cells := 0, slots := 0, locals := 0 }) (va_Pc [.ref rd] (zB sa dC dI (zV115 rd rd_fault rd_place tx rd_kinds rd_starts rd_stops rd_values rd_tokens rd_at tn rd_strayCount rd_lawTold rd_falseTold tn tn_hours tn_courts tn_gateCount tn_people tn_lines tn_falseHours tn_strayers tn_deep tn_above tn_doors tn_degrees tn_neighbours tn_shows tn_oneEnd tn_otherEnd tn_told tn_strayParts tn_strayCourts tn_above cA_tn_above f_tn_above tn_shows cA_tn_shows f_tn_shows) [(cA_tn_above, .int), (cA_tn_shows, .int)] sz)) (va_Qv (fun _ : Unit => True) (fun _ t => ∃ (n_tn_shows : Nat → Int32), zW dC dI (zV115 rd rd_fault rd_place tx rd_kinds rd_starts rd_stops rd_values rd_tokens rd_at tn rd_strayCount rd_lawTold rd_falseTold tn tn_hours tn_courts tn_gateCount tn_people tn_lines tn_falseHours tn_strayers tn_deep tn_above tn_doors tn_degrees tn_neighbours tn_shows tn_oneEnd tn_otherEnd tn_told tn_strayParts tn_strayCourts tn_above cA_tn_above f_tn_above tn_shows cA_tn_shows n_tn_shows) [] (va_A (zV115 rd rd_fault rd_place tx rd_kinds rd_starts rd_stops rd_values rd_tokens rd_at tn rd_strayCount rd_lawTold rd_falseTold tn tn_hours tn_courts tn_gateCount tn_people tn_lines tn_falseHours tn_strayers tn_deep tn_above tn_doors tn_degrees tn_neighbours tn_shows tn_oneEnd tn_otherEnd tn_told tn_strayParts tn_strayCourts tn_above cA_tn_above f_tn_above tn_shows cA_tn_shows f_tn_shows) sz) t) (va_A (zV115 rd rd_fault rd_place tx rd_kinds rd_starts rd_stops rd_values rd_tokens rd_at tn rd_strayCount rd_lawTold rd_falseTold tn tn_hours tn_courts tn_gateCount tn_people tn_lines tn_falseHours tn_strayers tn_deep tn_above tn_doors tn_degrees tn_neighbours tn_shows tn_oneEnd tn_otherEnd tn_told tn_strayParts tn_strayCourts tn_above cA_tn_above f_tn_above tn_shows cA_tn_shows f_tn_shows) sz)) 0 0 (va_A (zV115 rd rd_fault rd_place tx rd_kinds rd_starts rd_stops rd_values rd_tokens rd_at tn rd_strayCount rd_lawTold rd_falseTold tn tn_hours tn_courts tn_gateCount tn_people tn_lines tn_falseHours tn_strayers tn_deep tn_above tn_doors tn_degrees tn_neighbours tn_shows tn_oneEnd tn_otherEnd tn_told tn_strayParts tn_strayCourts tn_above cA_tn_above f_tn_above tn_shows cA_tn_shows f_tn_shows) sz) := by
  refine z_enter (by decide) (by exact (Nat.le_of_ble_eq_true rfl)) ?_
  intro p e s m args below meth c ls A R Qc hargs hsz hQe hAe hRe hx hb hml hr hts hown hlocks hin hl hP hK hD hN hXs hA hS
  rw [hAe] at hQe
  have hown : s.vm.findClass RX5 = some m.cls := hown
  have hl : lv_has ls 2 [(0, .ref rd)] := hl
  refine lv_iconst (v := 0) hx hb dX5_showPlaces_0 (by decide) ?_
  refine lv_istore_n (lv' := [(1, .int 0), (0, .ref rd)]) hx hb dX5_showPlaces_1 rfl hl (by decide) rfl (fun ls hl => ?_)
  have loop_1 : ∀ (t : Nat) (v1_1 : Int32) (g_tn_shows_2 : Nat → Int32) (b_v1_1 : 0 ≤ v1_1.toInt ∧ v1_1.toInt ≤ 10) (H : Heap) (locs : List Loc) (ls : Array Slot), 10 - v1_1.toInt < (t : Int) → va_P (dC, dI) vwCl (zV115 rd rd_fault rd_place tx rd_kinds rd_starts rd_stops rd_values rd_tokens rd_at tn rd_strayCount rd_lawTold rd_falseTold tn tn_hours tn_courts tn_gateCount tn_people tn_lines tn_falseHours tn_strayers tn_deep tn_above tn_doors tn_degrees tn_neighbours tn_shows tn_oneEnd tn_otherEnd tn_told tn_strayParts tn_strayCourts tn_above cA_tn_above f_tn_above tn_shows cA_tn_shows g_tn_shows_2) H → va_D A (zV115 rd rd_fault rd_place tx rd_kinds rd_starts rd_stops rd_values rd_tokens rd_at tn rd_strayCount rd_lawTold rd_falseTold tn tn_hours tn_courts tn_gateCount tn_people tn_lines tn_falseHours tn_strayers tn_deep tn_above tn_doors tn_degrees tn_neighbours tn_shows tn_oneEnd tn_otherEnd tn_told tn_strayParts tn_strayCourts tn_above cA_tn_above f_tn_above tn_shows cA_tn_shows g_tn_shows_2) → va_S A s.heap H locs → lv_has ls 2 [(0, .ref rd), (1, .int v1_1)] → W p l e R s m args below meth c H locs 0 0 (MQ below Qc args s 0 0 A) (F0 m 2 ls []) := by
    intro t
    induction t with
    | zero => intro v1_1 g_tn_shows_2 b_v1_1 H locs ls hmu _ _ _ _; exact absurd hmu (by first | with_reducible assumption | omega)
    | succ t ih_1 =>
      intro v1_1 g_tn_shows_2 b_v1_1 H locs ls hmu hP hD hS hl
      refine lv_iload_n hx hb dX5_showPlaces_2 rfl (lv_at hl 1 rfl) ?_
      refine lv_aload_n hx hb dX5_showPlaces_3 rfl (lv_at hl 0 rfl) ?_
      refine va_get (D := (dC, dI)) (ci := 5) (v := .ref tn) (C := RX5) (T := TX5) (N := 13) hx hb hts zl_X5 hown hK hP 0 rfl rfl 9 (by decide) (hts _ zw_t1_204) (fun _ h9 => h9) rfl dX5_showPlaces_4 ?_
      refine va_get (D := (dC, dI)) (ci := 7) (v := .int tn_courts) (C := RX7) (T := TX7) (N := 18) hx hb hts zl_X7 hown hK hP 1 rfl rfl 1 (by decide) (hts _ zw_t1_51) (fun _ h9 => h9) rfl dX5_showPlaces_7 ?_
      refine lv_icmp_ge (tgt := 57) hx hb dX5_showPlaces_10 (by decide) (fun c_3 => ?_) (fun c_3 => ?_)
      · have ic_3 := zz_ge rfl rfl c_3
        exact W.vret hx hb hr (fun t ht hW => by rw [← hQe]; exact ⟨⟨(), rfl, trivial, ⟨g_tn_shows_2, z_ret hP hK hD ht hW [0, 1, 2, 3] [] rfl (by decide) rfl⟩⟩, hS.F ht⟩) hS.2.2 dX5_showPlaces_57
      · have ic_3 := zz_nge rfl rfl c_3
        refine lv_aload_n hx hb dX5_showPlaces_13 rfl (lv_at hl 0 rfl) ?_
        refine va_get (D := (dC, dI)) (ci := 5) (v := .ref tn) (C := RX5) (T := TX5) (N := 13) hx hb hts zl_X5 hown hK hP 0 rfl rfl 9 (by decide) (hts _ zw_t1_204) (fun _ h9 => h9) rfl dX5_showPlaces_14 ?_
        refine va_get (D := (dC, dI)) (ci := 7) (v := .ref tn_shows) (C := RX7) (T := TX7) (N := 18) hx hb hts zl_X7 hown hK hP 1 rfl rfl 12 (by decide) (hts _ zw_t1_97) (fun _ h9 => h9) rfl dX5_showPlaces_17 ?_
        refine lv_iload_n hx hb dX5_showPlaces_20 rfl (lv_at hl 1 rfl) ?_
        refine lv_aload_n hx hb dX5_showPlaces_21 rfl (lv_at hl 0 rfl) ?_
        refine va_get (D := (dC, dI)) (ci := 5) (v := .ref tn) (C := RX5) (T := TX5) (N := 13) hx hb hts zl_X5 hown hK hP 0 rfl rfl 9 (by decide) (hts _ zw_t1_204) (fun _ h9 => h9) rfl dX5_showPlaces_22 ?_
        refine va_get (D := (dC, dI)) (ci := 7) (v := .int tn_deep) (C := RX7) (T := TX7) (N := 18) hx hb hts zl_X7 hown hK hP 1 rfl rfl 7 (by decide) (hts _ zw_t1_77) (fun _ h9 => h9) rfl dX5_showPlaces_25 ?_
        refine lv_if_eq (tgt := 47) hx hb dX5_showPlaces_28 (by decide) (fun c_4 => ?_) (fun c_4 => ?_)
        · have ic_4 := zz_eq rfl (show Int32.toInt 0 = 0 from by decide) c_4
          refine lv_iconst (v := 1) hx hb dX5_showPlaces_47 (by decide) ?_
          refine lv_iload_n hx hb dX5_showPlaces_48 rfl (lv_at hl 1 rfl) ?_
          refine lv_ishl hx hb dX5_showPlaces_49 ?_
          refine lv_topi (fun x_5 ex_5 => ?_)
          have b_x_5 : 1 ≤ x_5.toInt ∧ x_5.toInt ≤ 1024 := by rw [ex_5]; exact zi_shl1 rfl (by first | with_reducible assumption | omega)
          refine va_iast hx hb hK hP hD hS 3 1 rfl rfl (zi_in rfl (by first | with_reducible assumption | omega)) dX5_showPlaces_50 (fun H locs hP hD hS => ?_)
          obtain ⟨f_6, ef_6⟩ : ∃ g : Nat → Int32, g = upd g_tn_shows_2 (Int32.toNatClampNeg v1_1) x_5 := ⟨_, rfl⟩
          have hP : va_P (dC, dI) vwCl (zV115 rd rd_fault rd_place tx rd_kinds rd_starts rd_stops rd_values rd_tokens rd_at tn rd_strayCount rd_lawTold rd_falseTold tn tn_hours tn_courts tn_gateCount tn_people tn_lines tn_falseHours tn_strayers tn_deep tn_above tn_doors tn_degrees tn_neighbours tn_shows tn_oneEnd tn_otherEnd tn_told tn_strayParts tn_strayCourts tn_above cA_tn_above f_tn_above tn_shows cA_tn_shows (upd g_tn_shows_2 (Int32.toNatClampNeg v1_1) x_5)) H := hP
          have hD : va_D A (zV115 rd rd_fault rd_place tx rd_kinds rd_starts rd_stops rd_values rd_tokens rd_at tn rd_strayCount rd_lawTold rd_falseTold tn tn_hours tn_courts tn_gateCount tn_people tn_lines tn_falseHours tn_strayers tn_deep tn_above tn_doors tn_degrees tn_neighbours tn_shows tn_oneEnd tn_otherEnd tn_told tn_strayParts tn_strayCourts tn_above cA_tn_above f_tn_above tn_shows cA_tn_shows (upd g_tn_shows_2 (Int32.toNatClampNeg v1_1) x_5)) := hD
          rw [← ef_6] at hP hD
          obtain ⟨x_7, ex_7⟩ : ∃ z : Int32, z = v1_1 + Int32.ofInt 1 := ⟨_, rfl⟩
          have b_x_7 : x_7.toInt = v1_1.toInt + 1 := by rw [ex_7]; exact zi_add rfl (show (Int32.ofInt 1).toInt = 1 from by decide) (by first | with_reducible assumption | omega)
          refine lv_iinc (v := x_7) (lv' := [(1, .int x_7), (0, .ref rd)]) hx hb dX5_showPlaces_51 hl (k := 1) rfl ex_7.symm (by decide) rfl (fun ls hl => ?_)
          refine lv_goto (tgt := 2) hx hb dX5_showPlaces_54 (by decide) ?_
          exact ih_1 x_7 f_6 (by first | with_reducible assumption | omega) _ _ _ (by first | with_reducible assumption | omega) (hP.sub (ws' := (zV115 rd rd_fault rd_place tx rd_kinds rd_starts rd_stops rd_values rd_tokens rd_at tn rd_strayCount rd_lawTold rd_falseTold tn tn_hours tn_courts tn_gateCount tn_people tn_lines tn_falseHours tn_strayers tn_deep tn_above tn_doors tn_degrees tn_neighbours tn_shows tn_oneEnd tn_otherEnd tn_told tn_strayParts tn_strayCourts tn_above cA_tn_above f_tn_above tn_shows cA_tn_shows f_6)) [0, 1, 2, 3] rfl) (hD.sub (ws' := (zV115 rd rd_fault rd_place tx rd_kinds rd_starts rd_stops rd_values rd_tokens rd_at tn rd_strayCount rd_lawTold rd_falseTold tn tn_hours tn_courts tn_gateCount tn_people tn_lines tn_falseHours tn_strayers tn_deep tn_above tn_doors tn_degrees tn_neighbours tn_shows tn_oneEnd tn_otherEnd tn_told tn_strayParts tn_strayCourts tn_above cA_tn_above f_tn_above tn_shows cA_tn_shows f_6)) [0, 1, 2, 3] (by decide) rfl) hS (lv_sub hl [1, 0] rfl)
        · have ic_4 := zz_neq rfl (show Int32.toInt 0 = 0 from by decide) c_4
          refine lv_aload_n hx hb dX5_showPlaces_31 rfl (lv_at hl 0 rfl) ?_
          refine va_get (D := (dC, dI)) (ci := 5) (v := .ref tn) (C := RX5) (T := TX5) (N := 13) hx hb hts zl_X5 hown hK hP 0 rfl rfl 9 (by decide) (hts _ zw_t1_204) (fun _ h9 => h9) rfl dX5_showPlaces_32 ?_
          refine va_get (D := (dC, dI)) (ci := 7) (v := .ref tn_above) (C := RX7) (T := TX7) (N := 18) hx hb hts zl_X7 hown hK hP 1 rfl rfl 8 (by decide) (hts _ zw_t1_81) (fun _ h9 => h9) rfl dX5_showPlaces_35 ?_
          refine lv_iload_n hx hb dX5_showPlaces_38 rfl (lv_at hl 1 rfl) ?_
          refine va_iald hx hb hK hP 2 0 rfl rfl (zi_in rfl (by first | with_reducible assumption | omega)) dX5_showPlaces_39 ?_
          refine lv_topi (fun x_8 ex_8 => ?_)
          refine lv_iconst (v := 1) hx hb dX5_showPlaces_40 (by decide) ?_
          refine lv_iload_n hx hb dX5_showPlaces_41 rfl (lv_at hl 1 rfl) ?_
          refine lv_ishl hx hb dX5_showPlaces_42 ?_
          refine lv_topi (fun x_9 ex_9 => ?_)
          have b_x_9 : 1 ≤ x_9.toInt ∧ x_9.toInt ≤ 1024 := by rw [ex_9]; exact zi_shl1 rfl (by first | with_reducible assumption | omega)
          refine lv_ior hx hb dX5_showPlaces_43 ?_
          refine lv_topi (fun x_10 ex_10 => ?_)
          refine lv_goto (tgt := 50) hx hb dX5_showPlaces_44 (by decide) ?_
          refine va_iast hx hb hK hP hD hS 3 1 rfl rfl (zi_in rfl (by first | with_reducible assumption | omega)) dX5_showPlaces_50 (fun H locs hP hD hS => ?_)
          obtain ⟨f_11, ef_11⟩ : ∃ g : Nat → Int32, g = upd g_tn_shows_2 (Int32.toNatClampNeg v1_1) x_10 := ⟨_, rfl⟩
          have hP : va_P (dC, dI) vwCl (zV115 rd rd_fault rd_place tx rd_kinds rd_starts rd_stops rd_values rd_tokens rd_at tn rd_strayCount rd_lawTold rd_falseTold tn tn_hours tn_courts tn_gateCount tn_people tn_lines tn_falseHours tn_strayers tn_deep tn_above tn_doors tn_degrees tn_neighbours tn_shows tn_oneEnd tn_otherEnd tn_told tn_strayParts tn_strayCourts tn_above cA_tn_above f_tn_above tn_shows cA_tn_shows (upd g_tn_shows_2 (Int32.toNatClampNeg v1_1) x_10)) H := hP
          have hD : va_D A (zV115 rd rd_fault rd_place tx rd_kinds rd_starts rd_stops rd_values rd_tokens rd_at tn rd_strayCount rd_lawTold rd_falseTold tn tn_hours tn_courts tn_gateCount tn_people tn_lines tn_falseHours tn_strayers tn_deep tn_above tn_doors tn_degrees tn_neighbours tn_shows tn_oneEnd tn_otherEnd tn_told tn_strayParts tn_strayCourts tn_above cA_tn_above f_tn_above tn_shows cA_tn_shows (upd g_tn_shows_2 (Int32.toNatClampNeg v1_1) x_10)) := hD
          rw [← ef_11] at hP hD
          obtain ⟨x_12, ex_12⟩ : ∃ z : Int32, z = v1_1 + Int32.ofInt 1 := ⟨_, rfl⟩
          have b_x_12 : x_12.toInt = v1_1.toInt + 1 := by rw [ex_12]; exact zi_add rfl (show (Int32.ofInt 1).toInt = 1 from by decide) (by first | with_reducible assumption | omega)
          refine lv_iinc (v := x_12) (lv' := [(1, .int x_12), (0, .ref rd)]) hx hb dX5_showPlaces_51 hl (k := 1) rfl ex_12.symm (by decide) rfl (fun ls hl => ?_)
          refine lv_goto (tgt := 2) hx hb dX5_showPlaces_54 (by decide) ?_
          exact ih_1 x_12 f_11 (by first | with_reducible assumption | omega) _ _ _ (by first | with_reducible assumption | omega) (hP.sub (ws' := (zV115 rd rd_fault rd_place tx rd_kinds rd_starts rd_stops rd_values rd_tokens rd_at tn rd_strayCount rd_lawTold rd_falseTold tn tn_hours tn_courts tn_gateCount tn_people tn_lines tn_falseHours tn_strayers tn_deep tn_above tn_doors tn_degrees tn_neighbours tn_shows tn_oneEnd tn_otherEnd tn_told tn_strayParts tn_strayCourts tn_above cA_tn_above f_tn_above tn_shows cA_tn_shows f_11)) [0, 1, 2, 3] rfl) (hD.sub (ws' := (zV115 rd rd_fault rd_place tx rd_kinds rd_starts rd_stops rd_values rd_tokens rd_at tn rd_strayCount rd_lawTold rd_falseTold tn tn_hours tn_courts tn_gateCount tn_people tn_lines tn_falseHours tn_strayers tn_deep tn_above tn_doors tn_degrees tn_neighbours tn_shows tn_oneEnd tn_otherEnd tn_told tn_strayParts tn_strayCourts tn_above cA_tn_above f_tn_above tn_shows cA_tn_shows f_11)) [0, 1, 2, 3] (by decide) rfl) hS (lv_sub hl [1, 0] rfl)
  exact loop_1 12 (0) f_tn_shows (by decide) _ _ _ (by decide) hP hD hS (lv_sub hl [1, 0] rfl)
set_option maxHeartbeats 4000000 in
set_option maxRecDepth 100000 in
theorem k_X5_placeFrom (l : Launch) (sa : Nat → Nat) (dC : Nat → ClassId) (dI : Nat → Nat → Nat) (rd : Nat) (p1 : Int32) (p2 : Int32) (rd_fault : Int32) (rd_place : Int32) (tx : Nat) (rd_kinds : Nat) (rd_starts : Nat) (rd_stops : Nat) (rd_values : Nat) (rd_tokens : Int32) (rd_at : Int32) (tn : Nat) (rd_strayCount : Int32) (rd_lawTold : Int32) (rd_falseTold : Int32) (tn_hours : Int32) (tn_courts : Int32) (tn_gateCount : Int32) (tn_people : Int32) (tn_lines : Int32) (tn_falseHours : Int32) (tn_strayers : Int32) (tn_deep : Int32) (tn_above : Nat) (tn_doors : Nat) (tn_degrees : Nat) (tn_neighbours : Nat) (tn_shows : Nat) (tn_oneEnd : Nat) (tn_otherEnd : Nat) (tn_told : Nat) (tn_strayParts : Nat) (tn_strayCourts : Nat) (cA_tn_told : ClassId) (f_tn_told : Nat → Int32) (b_p1 : 0 ≤ p1.toInt ∧ p1.toInt ≤ 47) (b_p2 : 0 ≤ p2.toInt ∧ p2.toInt ≤ 9) (b_rd_tokens : 0 ≤ rd_tokens.toInt ∧ rd_tokens.toInt ≤ 1600) (b_rd_at : 0 ≤ rd_at.toInt ∧ rd_at.toInt ≤ 1600) (b_rd_strayCount : 0 ≤ rd_strayCount.toInt ∧ rd_strayCount.toInt ≤ 4) (b_rd_lawTold : 0 ≤ rd_lawTold.toInt ∧ rd_lawTold.toInt ≤ 1) (b_rd_falseTold : 0 ≤ rd_falseTold.toInt ∧ rd_falseTold.toInt ≤ 1) (b_tn_hours : 0 ≤ tn_hours.toInt ∧ tn_hours.toInt ≤ 48) (b_tn_courts : 0 ≤ tn_courts.toInt ∧ tn_courts.toInt ≤ 10) (b_tn_gateCount : 0 ≤ tn_gateCount.toInt ∧ tn_gateCount.toInt ≤ 16) (b_tn_people : 0 ≤ tn_people.toInt ∧ tn_people.toInt ≤ 9) (b_tn_falseHours : 0 ≤ tn_falseHours.toInt ∧ tn_falseHours.toInt ≤ 9) (b_tn_deep : 0 ≤ tn_deep.toInt ∧ tn_deep.toInt ≤ 1) (b_f_tn_told : ∀ j : Nat, 0 ≤ (f_tn_told j).toInt ∧ (f_tn_told j).toInt ≤ 9) (sz : Nat) : Met l yX5_placeFrom (.code yX5_placeFrom cX5_placeFrom 4 none :: zT) ({ frames := 0, cells := 0, slots := 0, locals := 0 }) (va_Pc [.ref rd, .int p1, .int p2] (zB sa dC dI (zV116 rd rd_fault rd_place tx rd_kinds rd_starts rd_stops rd_values rd_tokens rd_at tn rd_strayCount rd_lawTold rd_falseTold tn tn_hours tn_courts tn_gateCount tn_people tn_lines tn_falseHours tn_strayers tn_deep tn_above tn_doors tn_degrees tn_neighbours tn_shows tn_oneEnd tn_otherEnd tn_told tn_strayParts tn_strayCourts tn_told cA_tn_told f_tn_told) [(cA_tn_told, .int)] sz)) (va_Qv (fun _ : Unit => True) (fun _ t => ∃ (n_tn_told : Nat → Int32), (∀ j : Nat, 0 ≤ (n_tn_told j).toInt ∧ (n_tn_told j).toInt ≤ 9) ∧ zW dC dI (zV116 rd rd_fault rd_place tx rd_kinds rd_starts rd_stops rd_values rd_tokens rd_at tn rd_strayCount rd_lawTold rd_falseTold tn tn_hours tn_courts tn_gateCount tn_people tn_lines tn_falseHours tn_strayers tn_deep tn_above tn_doors tn_degrees tn_neighbours tn_shows tn_oneEnd tn_otherEnd tn_told tn_strayParts tn_strayCourts tn_told cA_tn_told n_tn_told) [] (va_A (zV116 rd rd_fault rd_place tx rd_kinds rd_starts rd_stops rd_values rd_tokens rd_at tn rd_strayCount rd_lawTold rd_falseTold tn tn_hours tn_courts tn_gateCount tn_people tn_lines tn_falseHours tn_strayers tn_deep tn_above tn_doors tn_degrees tn_neighbours tn_shows tn_oneEnd tn_otherEnd tn_told tn_strayParts tn_strayCourts tn_told cA_tn_told f_tn_told) sz) t) (va_A (zV116 rd rd_fault rd_place tx rd_kinds rd_starts rd_stops rd_values rd_tokens rd_at tn rd_strayCount rd_lawTold rd_falseTold tn tn_hours tn_courts tn_gateCount tn_people tn_lines tn_falseHours tn_strayers tn_deep tn_above tn_doors tn_degrees tn_neighbours tn_shows tn_oneEnd tn_otherEnd tn_told tn_strayParts tn_strayCourts tn_told cA_tn_told f_tn_told) sz)) 0 0 (va_A (zV116 rd rd_fault rd_place tx rd_kinds rd_starts rd_stops rd_values rd_tokens rd_at tn rd_strayCount rd_lawTold rd_falseTold tn tn_hours tn_courts tn_gateCount tn_people tn_lines tn_falseHours tn_strayers tn_deep tn_above tn_doors tn_degrees tn_neighbours tn_shows tn_oneEnd tn_otherEnd tn_told tn_strayParts tn_strayCourts tn_told cA_tn_told f_tn_told) sz) := by
  refine z_enter (by decide) (by exact (Nat.le_of_ble_eq_true rfl)) ?_
  intro p e s m args below meth c ls A R Qc hargs hsz hQe hAe hRe hx hb hml hr hts hown hlocks hin hl hP hK hD hN hXs hA hS
  rw [hAe] at hQe
  have hown : s.vm.findClass RX5 = some m.cls := hown
  have hl : lv_has ls 4 [(0, .ref rd), (1, .int p1), (2, .int p2)] := hl
  refine lv_iload_n hx hb dX5_placeFrom_0 rfl (lv_at hl 1 rfl) ?_
  refine lv_istore_n (lv' := [(3, .int p1), (0, .ref rd), (1, .int p1), (2, .int p2)]) hx hb dX5_placeFrom_1 rfl hl (by decide) rfl (fun ls hl => ?_)
  have loop_1 : ∀ (t : Nat) (v3_1 : Int32) (g_tn_told_2 : Nat → Int32) (b_v3_1 : 0 ≤ v3_1.toInt ∧ v3_1.toInt ≤ 48) (ge_v3_1 : p1.toInt ≤ v3_1.toInt) (b_g_tn_told_2 : ∀ j : Nat, 0 ≤ (g_tn_told_2 j).toInt ∧ (g_tn_told_2 j).toInt ≤ 9) (H : Heap) (locs : List Loc) (ls : Array Slot), 48 - v3_1.toInt < (t : Int) → va_P (dC, dI) vwCl (zV116 rd rd_fault rd_place tx rd_kinds rd_starts rd_stops rd_values rd_tokens rd_at tn rd_strayCount rd_lawTold rd_falseTold tn tn_hours tn_courts tn_gateCount tn_people tn_lines tn_falseHours tn_strayers tn_deep tn_above tn_doors tn_degrees tn_neighbours tn_shows tn_oneEnd tn_otherEnd tn_told tn_strayParts tn_strayCourts tn_told cA_tn_told g_tn_told_2) H → va_D A (zV116 rd rd_fault rd_place tx rd_kinds rd_starts rd_stops rd_values rd_tokens rd_at tn rd_strayCount rd_lawTold rd_falseTold tn tn_hours tn_courts tn_gateCount tn_people tn_lines tn_falseHours tn_strayers tn_deep tn_above tn_doors tn_degrees tn_neighbours tn_shows tn_oneEnd tn_otherEnd tn_told tn_strayParts tn_strayCourts tn_told cA_tn_told g_tn_told_2) → va_S A s.heap H locs → lv_has ls 4 [(0, .ref rd), (1, .int p1), (2, .int p2), (3, .int v3_1)] → W p l e R s m args below meth c H locs 0 0 (MQ below Qc args s 0 0 A) (F0 m 2 ls []) := by
    intro t
    induction t with
    | zero => intro v3_1 g_tn_told_2 b_v3_1 ge_v3_1 b_g_tn_told_2 H locs ls hmu _ _ _ _; exact absurd hmu (by first | with_reducible assumption | omega)
    | succ t ih_1 =>
      intro v3_1 g_tn_told_2 b_v3_1 ge_v3_1 b_g_tn_told_2 H locs ls hmu hP hD hS hl
      refine lv_iload_n hx hb dX5_placeFrom_2 rfl (lv_at hl 3 rfl) ?_
      refine lv_aload_n hx hb dX5_placeFrom_3 rfl (lv_at hl 0 rfl) ?_
      refine va_get (D := (dC, dI)) (ci := 5) (v := .ref tn) (C := RX5) (T := TX5) (N := 13) hx hb hts zl_X5 hown hK hP 0 rfl rfl 9 (by decide) (hts _ zw_t1_204) (fun _ h9 => h9) rfl dX5_placeFrom_4 ?_
      refine va_get (D := (dC, dI)) (ci := 7) (v := .int tn_hours) (C := RX7) (T := TX7) (N := 18) hx hb hts zl_X7 hown hK hP 1 rfl rfl 0 (by decide) (hts _ zw_t1_45) (fun _ h9 => h9) rfl dX5_placeFrom_7 ?_
      refine lv_icmp_ge (tgt := 40) hx hb dX5_placeFrom_10 (by decide) (fun c_3 => ?_) (fun c_3 => ?_)
      · have ic_3 := zz_ge rfl rfl c_3
        exact W.vret hx hb hr (fun t ht hW => by rw [← hQe]; exact ⟨⟨(), rfl, trivial, ⟨g_tn_told_2, b_g_tn_told_2, z_ret hP hK hD ht hW [0, 1, 2] [] rfl (by decide) rfl⟩⟩, hS.F ht⟩) hS.2.2 dX5_placeFrom_40
      · have ic_3 := zz_nge rfl rfl c_3
        refine lv_aload_n hx hb dX5_placeFrom_13 rfl (lv_at hl 0 rfl) ?_
        refine va_get (D := (dC, dI)) (ci := 5) (v := .ref tn) (C := RX5) (T := TX5) (N := 13) hx hb hts zl_X5 hown hK hP 0 rfl rfl 9 (by decide) (hts _ zw_t1_204) (fun _ h9 => h9) rfl dX5_placeFrom_14 ?_
        refine va_get (D := (dC, dI)) (ci := 7) (v := .ref tn_told) (C := RX7) (T := TX7) (N := 18) hx hb hts zl_X7 hown hK hP 1 rfl rfl 15 (by decide) (hts _ zw_t1_106) (fun _ h9 => h9) rfl dX5_placeFrom_17 ?_
        refine lv_aload_n hx hb dX5_placeFrom_20 rfl (lv_at hl 0 rfl) ?_
        refine va_get (D := (dC, dI)) (ci := 5) (v := .ref tn) (C := RX5) (T := TX5) (N := 13) hx hb hts zl_X5 hown hK hP 0 rfl rfl 9 (by decide) (hts _ zw_t1_204) (fun _ h9 => h9) rfl dX5_placeFrom_21 ?_
        refine va_get (D := (dC, dI)) (ci := 7) (v := .int tn_people) (C := RX7) (T := TX7) (N := 18) hx hb hts zl_X7 hown hK hP 1 rfl rfl 3 (by decide) (hts _ zw_t1_64) (fun _ h9 => h9) rfl dX5_placeFrom_24 ?_
        refine lv_bipush (v := 48) hx hb dX5_placeFrom_27 (by decide) ?_
        refine lv_imul hx hb dX5_placeFrom_29 ?_
        refine lv_topi (fun x_4 ex_4 => ?_)
        have b_x_4 : x_4.toInt = tn_people.toInt * 48 := by rw [ex_4]; exact zi_mul rfl (show Int32.toInt 48 = 48 from by decide) (by first | with_reducible assumption | omega)
        refine lv_iload_n hx hb dX5_placeFrom_30 rfl (lv_at hl 3 rfl) ?_
        refine lv_iadd hx hb dX5_placeFrom_31 ?_
        refine lv_topi (fun x_5 ex_5 => ?_)
        have b_x_5 : x_5.toInt = x_4.toInt + v3_1.toInt := by rw [ex_5]; exact zi_add rfl rfl (by first | with_reducible assumption | omega)
        refine lv_iload_n hx hb dX5_placeFrom_32 rfl (lv_at hl 2 rfl) ?_
        refine va_iast hx hb hK hP hD hS 2 0 rfl rfl (zi_in rfl (by first | with_reducible assumption | omega)) dX5_placeFrom_33 (fun H locs hP hD hS => ?_)
        obtain ⟨f_6, ef_6⟩ : ∃ g : Nat → Int32, g = upd g_tn_told_2 (Int32.toNatClampNeg x_5) p2 := ⟨_, rfl⟩
        have b_f_6 : ∀ j : Nat, 0 ≤ (f_6 j).toInt ∧ (f_6 j).toInt ≤ 9 := by rw [ef_6]; exact zi_upd b_g_tn_told_2 rfl (by first | with_reducible assumption | omega)
        have hP : va_P (dC, dI) vwCl (zV116 rd rd_fault rd_place tx rd_kinds rd_starts rd_stops rd_values rd_tokens rd_at tn rd_strayCount rd_lawTold rd_falseTold tn tn_hours tn_courts tn_gateCount tn_people tn_lines tn_falseHours tn_strayers tn_deep tn_above tn_doors tn_degrees tn_neighbours tn_shows tn_oneEnd tn_otherEnd tn_told tn_strayParts tn_strayCourts tn_told cA_tn_told (upd g_tn_told_2 (Int32.toNatClampNeg x_5) p2)) H := hP
        have hD : va_D A (zV116 rd rd_fault rd_place tx rd_kinds rd_starts rd_stops rd_values rd_tokens rd_at tn rd_strayCount rd_lawTold rd_falseTold tn tn_hours tn_courts tn_gateCount tn_people tn_lines tn_falseHours tn_strayers tn_deep tn_above tn_doors tn_degrees tn_neighbours tn_shows tn_oneEnd tn_otherEnd tn_told tn_strayParts tn_strayCourts tn_told cA_tn_told (upd g_tn_told_2 (Int32.toNatClampNeg x_5) p2)) := hD
        rw [← ef_6] at hP hD
        obtain ⟨x_7, ex_7⟩ : ∃ z : Int32, z = v3_1 + Int32.ofInt 1 := ⟨_, rfl⟩
        have b_x_7 : x_7.toInt = v3_1.toInt + 1 := by rw [ex_7]; exact zi_add rfl (show (Int32.ofInt 1).toInt = 1 from by decide) (by first | with_reducible assumption | omega)
        refine lv_iinc (v := x_7) (lv' := [(3, .int x_7), (0, .ref rd), (1, .int p1), (2, .int p2)]) hx hb dX5_placeFrom_34 hl (k := 3) rfl ex_7.symm (by decide) rfl (fun ls hl => ?_)
        refine lv_goto (tgt := 2) hx hb dX5_placeFrom_37 (by decide) ?_
        exact ih_1 x_7 f_6 (by first | with_reducible assumption | omega) (by first | with_reducible assumption | omega) b_f_6 _ _ _ (by first | with_reducible assumption | omega) (hP.sub (ws' := (zV116 rd rd_fault rd_place tx rd_kinds rd_starts rd_stops rd_values rd_tokens rd_at tn rd_strayCount rd_lawTold rd_falseTold tn tn_hours tn_courts tn_gateCount tn_people tn_lines tn_falseHours tn_strayers tn_deep tn_above tn_doors tn_degrees tn_neighbours tn_shows tn_oneEnd tn_otherEnd tn_told tn_strayParts tn_strayCourts tn_told cA_tn_told f_6)) [0, 1, 2] rfl) (hD.sub (ws' := (zV116 rd rd_fault rd_place tx rd_kinds rd_starts rd_stops rd_values rd_tokens rd_at tn rd_strayCount rd_lawTold rd_falseTold tn tn_hours tn_courts tn_gateCount tn_people tn_lines tn_falseHours tn_strayers tn_deep tn_above tn_doors tn_degrees tn_neighbours tn_shows tn_oneEnd tn_otherEnd tn_told tn_strayParts tn_strayCourts tn_told cA_tn_told f_6)) [0, 1, 2] (by decide) rfl) hS (lv_sub hl [1, 2, 3, 0] rfl)
  exact loop_1 50 p1 f_tn_told (by first | with_reducible assumption | omega) (by first | with_reducible assumption | omega) b_f_tn_told _ _ _ (by first | with_reducible assumption | omega) hP hD hS (lv_sub hl [1, 2, 3, 0] rfl)
