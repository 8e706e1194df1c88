set_option linter.all false
theorem zw_s1_1 : Cond.selects RX5 yX5_split yX5_split ∈ zT := zs_1 (List.mem_of_getElem? (i := 1) (by decide +kernel))
theorem zw_s1_10 : Cond.selects RX5 yX5_readCourt yX5_readCourt ∈ zT := zs_1 (List.mem_of_getElem? (i := 10) (by decide +kernel))
theorem zw_s1_12 : Cond.selects RX5 yX5_readGate yX5_readGate ∈ zT := zs_1 (List.mem_of_getElem? (i := 12) (by decide +kernel))
theorem zw_s1_13 : Cond.selects RX5 yX5_joinTo yX5_joinTo ∈ zT := zs_1 (List.mem_of_getElem? (i := 13) (by decide +kernel))
theorem zw_s1_14 : Cond.selects RX5 yX5_readPerson yX5_readPerson ∈ zT := zs_1 (List.mem_of_getElem? (i := 14) (by decide +kernel))
theorem zw_s1_3 : Cond.selects RX5 yX5_readLine yX5_readLine ∈ zT := zs_1 (List.mem_of_getElem? (i := 3) (by decide +kernel))
theorem zw_s1_4 : Cond.selects RX5 yX5_readHours yX5_readHours ∈ zT := zs_1 (List.mem_of_getElem? (i := 4) (by decide +kernel))
theorem zw_s2_1 : Cond.selects RX5 yX5_readLaw yX5_readLaw ∈ zT := zs_2 (List.mem_of_getElem? (i := 1) (by decide +kernel))
theorem zw_s2_2 : Cond.selects RX5 yX5_readFalse yX5_readFalse ∈ zT := zs_2 (List.mem_of_getElem? (i := 2) (by decide +kernel))
theorem zw_s2_3 : Cond.selects RX5 yX5_showPlaces yX5_showPlaces ∈ zT := zs_2 (List.mem_of_getElem? (i := 3) (by decide +kernel))
theorem zw_t1_101 : Cond.fieldLink RX5 168 "NameGate$Town" "oneEnd" "[I" ∈ zT := zt_1 (List.mem_of_getElem? (i := 101) (by decide +kernel)) (by decide +kernel)
theorem zw_t1_104 : Cond.fieldLink RX5 171 "NameGate$Town" "otherEnd" "[I" ∈ zT := zt_1 (List.mem_of_getElem? (i := 104) (by decide +kernel)) (by decide +kernel)
theorem zw_t1_191 : Cond.classLink RX5 28 RX7 ∈ zT := zt_1 (List.mem_of_getElem? (i := 191) (by decide +kernel)) (by decide +kernel)
theorem zw_t1_192 : Cond.methodLink RX5 30 yX7_init ∈ zT := zt_1 (List.mem_of_getElem? (i := 192) (by decide +kernel)) (by decide +kernel)
theorem zw_t1_35 : Cond.instantiable RX7 18 ∈ zT := zt_1 (List.mem_of_getElem? (i := 35) (by decide +kernel)) (by decide +kernel)
theorem zw_t1_37 : Cond.instanceMethod yX7_init ∈ zT := zt_1 (List.mem_of_getElem? (i := 37) (by decide +kernel)) (by decide +kernel)
theorem zw_t1_38 : Cond.code yX7_init cX7_init 1 none ∈ zT := zt_1 (List.mem_of_getElem? (i := 38) (by decide +kernel)) (by decide +kernel)
theorem zw_t1_58 : Cond.fieldLink RX5 163 "NameGate$Town" "gateCount" "I" ∈ zT := zt_1 (List.mem_of_getElem? (i := 58) (by decide +kernel)) (by decide +kernel)
theorem zw_t1_67 : Cond.fieldLink RX5 118 "NameGate$Town" "lines" "I" ∈ zT := zt_1 (List.mem_of_getElem? (i := 67) (by decide +kernel)) (by decide +kernel)
theorem zw_t1_86 : Cond.fieldLink RX5 177 "NameGate$Town" "doors" "[I" ∈ zT := zt_1 (List.mem_of_getElem? (i := 86) (by decide +kernel)) (by decide +kernel)
theorem zw_t1_90 : Cond.fieldLink RX5 187 "NameGate$Town" "degrees" "[I" ∈ zT := zt_1 (List.mem_of_getElem? (i := 90) (by decide +kernel)) (by decide +kernel)
theorem zw_t1_94 : Cond.fieldLink RX5 184 "NameGate$Town" "neighbours" "[I" ∈ zT := zt_1 (List.mem_of_getElem? (i := 94) (by decide +kernel)) (by decide +kernel)
theorem zw_t3_103 : Cond.methodLink RX5 126 yX5_readCourt ∈ zT := zt_3 (List.mem_of_getElem? (i := 103) (by decide +kernel)) (by decide +kernel)
theorem zw_t3_105 : Cond.instanceMethod yX5_readCourt ∈ zT := zt_3 (List.mem_of_getElem? (i := 105) (by decide +kernel)) (by decide +kernel)
theorem zw_t3_106 : Cond.code yX5_readCourt cX5_readCourt 2 none ∈ zT := zt_3 (List.mem_of_getElem? (i := 106) (by decide +kernel)) (by decide +kernel)
theorem zw_t3_113 : Cond.methodLink RX5 131 yX5_readGate ∈ zT := zt_3 (List.mem_of_getElem? (i := 113) (by decide +kernel)) (by decide +kernel)
theorem zw_t3_115 : Cond.instanceMethod yX5_readGate ∈ zT := zt_3 (List.mem_of_getElem? (i := 115) (by decide +kernel)) (by decide +kernel)
theorem zw_t3_116 : Cond.code yX5_readGate cX5_readGate 3 none ∈ zT := zt_3 (List.mem_of_getElem? (i := 116) (by decide +kernel)) (by decide +kernel)
theorem zw_t3_118 : Cond.methodLink RX5 174 yX5_joinTo ∈ zT := zt_3 (List.mem_of_getElem? (i := 118) (by decide +kernel)) (by decide +kernel)
theorem zw_t3_12 : Cond.methodLink RX5 41 yX5_split ∈ zT := zt_3 (List.mem_of_getElem? (i := 12) (by decide +kernel)) (by decide +kernel)
theorem zw_t3_120 : Cond.instanceMethod yX5_joinTo ∈ zT := zt_3 (List.mem_of_getElem? (i := 120) (by decide +kernel)) (by decide +kernel)
theorem zw_t3_121 : Cond.code yX5_joinTo cX5_joinTo 3 none ∈ zT := zt_3 (List.mem_of_getElem? (i := 121) (by decide +kernel)) (by decide +kernel)
theorem zw_t3_126 : Cond.methodLink RX5 136 yX5_readPerson ∈ zT := zt_3 (List.mem_of_getElem? (i := 126) (by decide +kernel)) (by decide +kernel)
theorem zw_t3_128 : Cond.instanceMethod yX5_readPerson ∈ zT := zt_3 (List.mem_of_getElem? (i := 128) (by decide +kernel)) (by decide +kernel)
theorem zw_t3_129 : Cond.code yX5_readPerson cX5_readPerson 3 none ∈ zT := zt_3 (List.mem_of_getElem? (i := 129) (by decide +kernel)) (by decide +kernel)
theorem zw_t3_14 : Cond.instanceMethod yX5_split ∈ zT := zt_3 (List.mem_of_getElem? (i := 14) (by decide +kernel)) (by decide +kernel)
theorem zw_t3_142 : Cond.methodLink RX5 141 yX5_readLaw ∈ zT := zt_3 (List.mem_of_getElem? (i := 142) (by decide +kernel)) (by decide +kernel)
theorem zw_t3_144 : Cond.instanceMethod yX5_readLaw ∈ zT := zt_3 (List.mem_of_getElem? (i := 144) (by decide +kernel)) (by decide +kernel)
theorem zw_t3_145 : Cond.code yX5_readLaw cX5_readLaw 1 none ∈ zT := zt_3 (List.mem_of_getElem? (i := 145) (by decide +kernel)) (by decide +kernel)
theorem zw_t3_149 : Cond.methodLink RX5 146 yX5_readFalse ∈ zT := zt_3 (List.mem_of_getElem? (i := 149) (by decide +kernel)) (by decide +kernel)
theorem zw_t3_15 : Cond.code yX5_split cX5_split 6 none ∈ zT := zt_3 (List.mem_of_getElem? (i := 15) (by decide +kernel)) (by decide +kernel)
theorem zw_t3_151 : Cond.instanceMethod yX5_readFalse ∈ zT := zt_3 (List.mem_of_getElem? (i := 151) (by decide +kernel)) (by decide +kernel)
theorem zw_t3_152 : Cond.code yX5_readFalse cX5_readFalse 1 none ∈ zT := zt_3 (List.mem_of_getElem? (i := 152) (by decide +kernel)) (by decide +kernel)
theorem zw_t3_153 : Cond.methodLink RX5 68 yX5_showPlaces ∈ zT := zt_3 (List.mem_of_getElem? (i := 153) (by decide +kernel)) (by decide +kernel)
theorem zw_t3_155 : Cond.instanceMethod yX5_showPlaces ∈ zT := zt_3 (List.mem_of_getElem? (i := 155) (by decide +kernel)) (by decide +kernel)
theorem zw_t3_156 : Cond.code yX5_showPlaces cX5_showPlaces 2 none ∈ zT := zt_3 (List.mem_of_getElem? (i := 156) (by decide +kernel)) (by decide +kernel)
theorem zw_t3_24 : Cond.methodLink RX5 65 yX5_readLine ∈ zT := zt_3 (List.mem_of_getElem? (i := 24) (by decide +kernel)) (by decide +kernel)
theorem zw_t3_26 : Cond.instanceMethod yX5_readLine ∈ zT := zt_3 (List.mem_of_getElem? (i := 26) (by decide +kernel)) (by decide +kernel)
theorem zw_t3_27 : Cond.code yX5_readLine cX5_readLine 1 none ∈ zT := zt_3 (List.mem_of_getElem? (i := 27) (by decide +kernel)) (by decide +kernel)
theorem zw_t3_28 : Cond.methodLink RX5 121 yX5_readHours ∈ zT := zt_3 (List.mem_of_getElem? (i := 28) (by decide +kernel)) (by decide +kernel)
theorem zw_t3_30 : Cond.instanceMethod yX5_readHours ∈ zT := zt_3 (List.mem_of_getElem? (i := 30) (by decide +kernel)) (by decide +kernel)
theorem zw_t3_31 : Cond.code yX5_readHours cX5_readHours 1 none ∈ zT := zt_3 (List.mem_of_getElem? (i := 31) (by decide +kernel)) (by decide +kernel)
def bcX5_joinTo_0 : List Nat := [42, 180, 0, 31, 180, 0, 177, 27, 46, 28, 184, 0, 180, 154, 0, 54, 42, 180, 0, 31, 180, 0, 177, 27, 92, 46, 4, 28, 120, 128, 79, 42, 180, 0, 31, 180, 0, 184, 27, 16, 10, 104, 42, 180, 0, 31, 180, 0, 187, 27, 46, 96, 28, 79, 42, 180, 0, 31, 180, 0]
theorem bcX5_joinTo_0_ok : z_bys cX5_joinTo 0 bcX5_joinTo_0 = true := by decide +kernel
def bcX5_joinTo_60 : List Nat := [187, 27, 92, 46, 4, 96, 79, 177]
theorem bcX5_joinTo_60_ok : z_bys cX5_joinTo 60 bcX5_joinTo_60 = true := by decide +kernel
theorem dX5_joinTo_0 : decode cX5_joinTo 0 = .ok (.aload_n 0, 1) := zo_42 (z_byk bcX5_joinTo_0 0 0 _ bcX5_joinTo_0_ok rfl)
theorem dX5_joinTo_1 : decode cX5_joinTo 1 = .ok (.getfield 31, 3) := zo_180 (z_byk bcX5_joinTo_0 0 1 _ bcX5_joinTo_0_ok rfl) (z_byk bcX5_joinTo_0 0 2 _ bcX5_joinTo_0_ok rfl) (z_byk bcX5_joinTo_0 0 3 _ bcX5_joinTo_0_ok rfl) rfl
theorem dX5_joinTo_10 : decode cX5_joinTo 10 = .ok (.invokestatic 180, 3) := zo_184 (z_byk bcX5_joinTo_0 0 10 _ bcX5_joinTo_0_ok rfl) (z_byk bcX5_joinTo_0 0 11 _ bcX5_joinTo_0_ok rfl) (z_byk bcX5_joinTo_0 0 12 _ bcX5_joinTo_0_ok rfl) rfl
theorem dX5_joinTo_13 : decode cX5_joinTo 13 = .ok (.ifCond .ne 54, 3) := zo_154 (z_byk bcX5_joinTo_0 0 13 _ bcX5_joinTo_0_ok rfl) (z_byk bcX5_joinTo_0 0 14 _ bcX5_joinTo_0_ok rfl) (z_byk bcX5_joinTo_0 0 15 _ bcX5_joinTo_0_ok rfl) rfl
theorem dX5_joinTo_16 : decode cX5_joinTo 16 = .ok (.aload_n 0, 1) := zo_42 (z_byk bcX5_joinTo_0 0 16 _ bcX5_joinTo_0_ok rfl)
theorem dX5_joinTo_17 : decode cX5_joinTo 17 = .ok (.getfield 31, 3) := zo_180 (z_byk bcX5_joinTo_0 0 17 _ bcX5_joinTo_0_ok rfl) (z_byk bcX5_joinTo_0 0 18 _ bcX5_joinTo_0_ok rfl) (z_byk bcX5_joinTo_0 0 19 _ bcX5_joinTo_0_ok rfl) rfl
theorem dX5_joinTo_20 : decode cX5_joinTo 20 = .ok (.getfield 177, 3) := zo_180 (z_byk bcX5_joinTo_0 0 20 _ bcX5_joinTo_0_ok rfl) (z_byk bcX5_joinTo_0 0 21 _ bcX5_joinTo_0_ok rfl) (z_byk bcX5_joinTo_0 0 22 _ bcX5_joinTo_0_ok rfl) rfl
theorem dX5_joinTo_23 : decode cX5_joinTo 23 = .ok (.iload_n 1, 1) := zo_27 (z_byk bcX5_joinTo_0 0 23 _ bcX5_joinTo_0_ok rfl)
theorem dX5_joinTo_24 : decode cX5_joinTo 24 = .ok (.dup2, 1) := zo_92 (z_byk bcX5_joinTo_0 0 24 _ bcX5_joinTo_0_ok rfl)
theorem dX5_joinTo_25 : decode cX5_joinTo 25 = .ok (.iaload, 1) := zo_46 (z_byk bcX5_joinTo_0 0 25 _ bcX5_joinTo_0_ok rfl)
theorem dX5_joinTo_26 : decode cX5_joinTo 26 = .ok (.iconst 1, 1) := zo_4 (z_byk bcX5_joinTo_0 0 26 _ bcX5_joinTo_0_ok rfl)
theorem dX5_joinTo_27 : decode cX5_joinTo 27 = .ok (.iload_n 2, 1) := zo_28 (z_byk bcX5_joinTo_0 0 27 _ bcX5_joinTo_0_ok rfl)
theorem dX5_joinTo_28 : decode cX5_joinTo 28 = .ok (.ishl, 1) := zo_120 (z_byk bcX5_joinTo_0 0 28 _ bcX5_joinTo_0_ok rfl)
theorem dX5_joinTo_29 : decode cX5_joinTo 29 = .ok (.ior, 1) := zo_128 (z_byk bcX5_joinTo_0 0 29 _ bcX5_joinTo_0_ok rfl)
theorem dX5_joinTo_30 : decode cX5_joinTo 30 = .ok (.iastore, 1) := zo_79 (z_byk bcX5_joinTo_0 0 30 _ bcX5_joinTo_0_ok rfl)
theorem dX5_joinTo_31 : decode cX5_joinTo 31 = .ok (.aload_n 0, 1) := zo_42 (z_byk bcX5_joinTo_0 0 31 _ bcX5_joinTo_0_ok rfl)
theorem dX5_joinTo_32 : decode cX5_joinTo 32 = .ok (.getfield 31, 3) := zo_180 (z_byk bcX5_joinTo_0 0 32 _ bcX5_joinTo_0_ok rfl) (z_byk bcX5_joinTo_0 0 33 _ bcX5_joinTo_0_ok rfl) (z_byk bcX5_joinTo_0 0 34 _ bcX5_joinTo_0_ok rfl) rfl
theorem dX5_joinTo_35 : decode cX5_joinTo 35 = .ok (.getfield 184, 3) := zo_180 (z_byk bcX5_joinTo_0 0 35 _ bcX5_joinTo_0_ok rfl) (z_byk bcX5_joinTo_0 0 36 _ bcX5_joinTo_0_ok rfl) (z_byk bcX5_joinTo_0 0 37 _ bcX5_joinTo_0_ok rfl) rfl
theorem dX5_joinTo_38 : decode cX5_joinTo 38 = .ok (.iload_n 1, 1) := zo_27 (z_byk bcX5_joinTo_0 0 38 _ bcX5_joinTo_0_ok rfl)
theorem dX5_joinTo_39 : decode cX5_joinTo 39 = .ok (.bipush 10, 2) := zo_16 (z_byk bcX5_joinTo_0 0 39 _ bcX5_joinTo_0_ok rfl) (z_byk bcX5_joinTo_0 0 40 _ bcX5_joinTo_0_ok rfl) rfl
theorem dX5_joinTo_4 : decode cX5_joinTo 4 = .ok (.getfield 177, 3) := zo_180 (z_byk bcX5_joinTo_0 0 4 _ bcX5_joinTo_0_ok rfl) (z_byk bcX5_joinTo_0 0 5 _ bcX5_joinTo_0_ok rfl) (z_byk bcX5_joinTo_0 0 6 _ bcX5_joinTo_0_ok rfl) rfl
theorem dX5_joinTo_41 : decode cX5_joinTo 41 = .ok (.imul, 1) := zo_104 (z_byk bcX5_joinTo_0 0 41 _ bcX5_joinTo_0_ok rfl)
theorem dX5_joinTo_42 : decode cX5_joinTo 42 = .ok (.aload_n 0, 1) := zo_42 (z_byk bcX5_joinTo_0 0 42 _ bcX5_joinTo_0_ok rfl)
theorem dX5_joinTo_43 : decode cX5_joinTo 43 = .ok (.getfield 31, 3) := zo_180 (z_byk bcX5_joinTo_0 0 43 _ bcX5_joinTo_0_ok rfl) (z_byk bcX5_joinTo_0 0 44 _ bcX5_joinTo_0_ok rfl) (z_byk bcX5_joinTo_0 0 45 _ bcX5_joinTo_0_ok rfl) rfl
theorem dX5_joinTo_46 : decode cX5_joinTo 46 = .ok (.getfield 187, 3) := zo_180 (z_byk bcX5_joinTo_0 0 46 _ bcX5_joinTo_0_ok rfl) (z_byk bcX5_joinTo_0 0 47 _ bcX5_joinTo_0_ok rfl) (z_byk bcX5_joinTo_0 0 48 _ bcX5_joinTo_0_ok rfl) rfl
theorem dX5_joinTo_49 : decode cX5_joinTo 49 = .ok (.iload_n 1, 1) := zo_27 (z_byk bcX5_joinTo_0 0 49 _ bcX5_joinTo_0_ok rfl)
theorem dX5_joinTo_50 : decode cX5_joinTo 50 = .ok (.iaload, 1) := zo_46 (z_byk bcX5_joinTo_0 0 50 _ bcX5_joinTo_0_ok rfl)
theorem dX5_joinTo_51 : decode cX5_joinTo 51 = .ok (.iadd, 1) := zo_96 (z_byk bcX5_joinTo_0 0 51 _ bcX5_joinTo_0_ok rfl)
theorem dX5_joinTo_52 : decode cX5_joinTo 52 = .ok (.iload_n 2, 1) := zo_28 (z_byk bcX5_joinTo_0 0 52 _ bcX5_joinTo_0_ok rfl)
theorem dX5_joinTo_53 : decode cX5_joinTo 53 = .ok (.iastore, 1) := zo_79 (z_byk bcX5_joinTo_0 0 53 _ bcX5_joinTo_0_ok rfl)
theorem dX5_joinTo_54 : decode cX5_joinTo 54 = .ok (.aload_n 0, 1) := zo_42 (z_byk bcX5_joinTo_0 0 54 _ bcX5_joinTo_0_ok rfl)
theorem dX5_joinTo_55 : decode cX5_joinTo 55 = .ok (.getfield 31, 3) := zo_180 (z_byk bcX5_joinTo_0 0 55 _ bcX5_joinTo_0_ok rfl) (z_byk bcX5_joinTo_0 0 56 _ bcX5_joinTo_0_ok rfl) (z_byk bcX5_joinTo_0 0 57 _ bcX5_joinTo_0_ok rfl) rfl
theorem dX5_joinTo_58 : decode cX5_joinTo 58 = .ok (.getfield 187, 3) := zo_180 (z_byk bcX5_joinTo_0 0 58 _ bcX5_joinTo_0_ok rfl) (z_byk bcX5_joinTo_0 0 59 _ bcX5_joinTo_0_ok rfl) (z_byk bcX5_joinTo_60 60 0 _ bcX5_joinTo_60_ok rfl) rfl
theorem dX5_joinTo_61 : decode cX5_joinTo 61 = .ok (.iload_n 1, 1) := zo_27 (z_byk bcX5_joinTo_60 60 1 _ bcX5_joinTo_60_ok rfl)
theorem dX5_joinTo_62 : decode cX5_joinTo 62 = .ok (.dup2, 1) := zo_92 (z_byk bcX5_joinTo_60 60 2 _ bcX5_joinTo_60_ok rfl)
theorem dX5_joinTo_63 : decode cX5_joinTo 63 = .ok (.iaload, 1) := zo_46 (z_byk bcX5_joinTo_60 60 3 _ bcX5_joinTo_60_ok rfl)
theorem dX5_joinTo_64 : decode cX5_joinTo 64 = .ok (.iconst 1, 1) := zo_4 (z_byk bcX5_joinTo_60 60 4 _ bcX5_joinTo_60_ok rfl)
theorem dX5_joinTo_65 : decode cX5_joinTo 65 = .ok (.iadd, 1) := zo_96 (z_byk bcX5_joinTo_60 60 5 _ bcX5_joinTo_60_ok rfl)
theorem dX5_joinTo_66 : decode cX5_joinTo 66 = .ok (.iastore, 1) := zo_79 (z_byk bcX5_joinTo_60 60 6 _ bcX5_joinTo_60_ok rfl)
theorem dX5_joinTo_67 : decode cX5_joinTo 67 = .ok (.return_, 1) := zo_177 (z_byk bcX5_joinTo_60 60 7 _ bcX5_joinTo_60_ok rfl)
theorem dX5_joinTo_7 : decode cX5_joinTo 7 = .ok (.iload_n 1, 1) := zo_27 (z_byk bcX5_joinTo_0 0 7 _ bcX5_joinTo_0_ok rfl)
theorem dX5_joinTo_8 : decode cX5_joinTo 8 = .ok (.iaload, 1) := zo_46 (z_byk bcX5_joinTo_0 0 8 _ bcX5_joinTo_0_ok rfl)
theorem dX5_joinTo_9 : decode cX5_joinTo 9 = .ok (.iload_n 2, 1) := zo_28 (z_byk bcX5_joinTo_0 0 9 _ bcX5_joinTo_0_ok rfl)
def bcX5_readGate_0 : List Nat := [42, 180, 0, 31, 180, 0, 163, 16, 16, 161, 0, 9, 42, 6, 182, 0, 109, 177, 42, 182, 0, 112, 42, 182, 0, 160, 60, 42, 18, 166, 182, 0, 150, 42, 180, 0, 15, 42, 180, 0, 52, 46, 5, 160, 0, 21, 42, 180, 0, 25, 42, 180, 0, 52, 46, 27, 160, 0, 8, 42]
theorem bcX5_readGate_0_ok : z_bys cX5_readGate 0 bcX5_readGate_0 = true := by decide +kernel
def bcX5_readGate_60 : List Nat := [5, 182, 0, 109, 42, 182, 0, 160, 61, 42, 180, 0, 45, 154, 0, 60, 42, 180, 0, 31, 180, 0, 168, 42, 180, 0, 31, 180, 0, 163, 27, 79, 42, 180, 0, 31, 180, 0, 171, 42, 180, 0, 31, 180, 0, 163, 28, 79, 42, 180, 0, 31, 89, 180, 0, 163, 4, 96, 181, 0]
theorem bcX5_readGate_60_ok : z_bys cX5_readGate 60 bcX5_readGate_60 = true := by decide +kernel
def bcX5_readGate_120 : List Nat := [163, 42, 27, 28, 182, 0, 174, 42, 28, 27, 182, 0, 174, 177]
theorem bcX5_readGate_120_ok : z_bys cX5_readGate 120 bcX5_readGate_120 = true := by decide +kernel
theorem dX5_readGate_0 : decode cX5_readGate 0 = .ok (.aload_n 0, 1) := zo_42 (z_byk bcX5_readGate_0 0 0 _ bcX5_readGate_0_ok rfl)
theorem dX5_readGate_1 : decode cX5_readGate 1 = .ok (.getfield 31, 3) := zo_180 (z_byk bcX5_readGate_0 0 1 _ bcX5_readGate_0_ok rfl) (z_byk bcX5_readGate_0 0 2 _ bcX5_readGate_0_ok rfl) (z_byk bcX5_readGate_0 0 3 _ bcX5_readGate_0_ok rfl) rfl
theorem dX5_readGate_100 : decode cX5_readGate 100 = .ok (.getfield 31, 3) := zo_180 (z_byk bcX5_readGate_60 60 40 _ bcX5_readGate_60_ok rfl) (z_byk bcX5_readGate_60 60 41 _ bcX5_readGate_60_ok rfl) (z_byk bcX5_readGate_60 60 42 _ bcX5_readGate_60_ok rfl) rfl
theorem dX5_readGate_103 : decode cX5_readGate 103 = .ok (.getfield 163, 3) := zo_180 (z_byk bcX5_readGate_60 60 43 _ bcX5_readGate_60_ok rfl) (z_byk bcX5_readGate_60 60 44 _ bcX5_readGate_60_ok rfl) (z_byk bcX5_readGate_60 60 45 _ bcX5_readGate_60_ok rfl) rfl
theorem dX5_readGate_106 : decode cX5_readGate 106 = .ok (.iload_n 2, 1) := zo_28 (z_byk bcX5_readGate_60 60 46 _ bcX5_readGate_60_ok rfl)
theorem dX5_readGate_107 : decode cX5_readGate 107 = .ok (.iastore, 1) := zo_79 (z_byk bcX5_readGate_60 60 47 _ bcX5_readGate_60_ok rfl)
theorem dX5_readGate_108 : decode cX5_readGate 108 = .ok (.aload_n 0, 1) := zo_42 (z_byk bcX5_readGate_60 60 48 _ bcX5_readGate_60_ok rfl)
theorem dX5_readGate_109 : decode cX5_readGate 109 = .ok (.getfield 31, 3) := zo_180 (z_byk bcX5_readGate_60 60 49 _ bcX5_readGate_60_ok rfl) (z_byk bcX5_readGate_60 60 50 _ bcX5_readGate_60_ok rfl) (z_byk bcX5_readGate_60 60 51 _ bcX5_readGate_60_ok rfl) rfl
theorem dX5_readGate_112 : decode cX5_readGate 112 = .ok (.dup, 1) := zo_89 (z_byk bcX5_readGate_60 60 52 _ bcX5_readGate_60_ok rfl)
theorem dX5_readGate_113 : decode cX5_readGate 113 = .ok (.getfield 163, 3) := zo_180 (z_byk bcX5_readGate_60 60 53 _ bcX5_readGate_60_ok rfl) (z_byk bcX5_readGate_60 60 54 _ bcX5_readGate_60_ok rfl) (z_byk bcX5_readGate_60 60 55 _ bcX5_readGate_60_ok rfl) rfl
theorem dX5_readGate_116 : decode cX5_readGate 116 = .ok (.iconst 1, 1) := zo_4 (z_byk bcX5_readGate_60 60 56 _ bcX5_readGate_60_ok rfl)
theorem dX5_readGate_117 : decode cX5_readGate 117 = .ok (.iadd, 1) := zo_96 (z_byk bcX5_readGate_60 60 57 _ bcX5_readGate_60_ok rfl)
theorem dX5_readGate_118 : decode cX5_readGate 118 = .ok (.putfield 163, 3) := zo_181 (z_byk bcX5_readGate_60 60 58 _ bcX5_readGate_60_ok rfl) (z_byk bcX5_readGate_60 60 59 _ bcX5_readGate_60_ok rfl) (z_byk bcX5_readGate_120 120 0 _ bcX5_readGate_120_ok rfl) rfl
theorem dX5_readGate_12 : decode cX5_readGate 12 = .ok (.aload_n 0, 1) := zo_42 (z_byk bcX5_readGate_0 0 12 _ bcX5_readGate_0_ok rfl)
theorem dX5_readGate_121 : decode cX5_readGate 121 = .ok (.aload_n 0, 1) := zo_42 (z_byk bcX5_readGate_120 120 1 _ bcX5_readGate_120_ok rfl)
theorem dX5_readGate_122 : decode cX5_readGate 122 = .ok (.iload_n 1, 1) := zo_27 (z_byk bcX5_readGate_120 120 2 _ bcX5_readGate_120_ok rfl)
theorem dX5_readGate_123 : decode cX5_readGate 123 = .ok (.iload_n 2, 1) := zo_28 (z_byk bcX5_readGate_120 120 3 _ bcX5_readGate_120_ok rfl)
theorem dX5_readGate_124 : decode cX5_readGate 124 = .ok (.invokevirtual 174, 3) := zo_182 (z_byk bcX5_readGate_120 120 4 _ bcX5_readGate_120_ok rfl) (z_byk bcX5_readGate_120 120 5 _ bcX5_readGate_120_ok rfl) (z_byk bcX5_readGate_120 120 6 _ bcX5_readGate_120_ok rfl) rfl
theorem dX5_readGate_127 : decode cX5_readGate 127 = .ok (.aload_n 0, 1) := zo_42 (z_byk bcX5_readGate_120 120 7 _ bcX5_readGate_120_ok rfl)
theorem dX5_readGate_128 : decode cX5_readGate 128 = .ok (.iload_n 2, 1) := zo_28 (z_byk bcX5_readGate_120 120 8 _ bcX5_readGate_120_ok rfl)
theorem dX5_readGate_129 : decode cX5_readGate 129 = .ok (.iload_n 1, 1) := zo_27 (z_byk bcX5_readGate_120 120 9 _ bcX5_readGate_120_ok rfl)
theorem dX5_readGate_13 : decode cX5_readGate 13 = .ok (.iconst 3, 1) := zo_6 (z_byk bcX5_readGate_0 0 13 _ bcX5_readGate_0_ok rfl)
theorem dX5_readGate_130 : decode cX5_readGate 130 = .ok (.invokevirtual 174, 3) := zo_182 (z_byk bcX5_readGate_120 120 10 _ bcX5_readGate_120_ok rfl) (z_byk bcX5_readGate_120 120 11 _ bcX5_readGate_120_ok rfl) (z_byk bcX5_readGate_120 120 12 _ bcX5_readGate_120_ok rfl) rfl
theorem dX5_readGate_133 : decode cX5_readGate 133 = .ok (.return_, 1) := zo_177 (z_byk bcX5_readGate_120 120 13 _ bcX5_readGate_120_ok rfl)
theorem dX5_readGate_14 : decode cX5_readGate 14 = .ok (.invokevirtual 109, 3) := zo_182 (z_byk bcX5_readGate_0 0 14 _ bcX5_readGate_0_ok rfl) (z_byk bcX5_readGate_0 0 15 _ bcX5_readGate_0_ok rfl) (z_byk bcX5_readGate_0 0 16 _ bcX5_readGate_0_ok rfl) rfl
theorem dX5_readGate_17 : decode cX5_readGate 17 = .ok (.return_, 1) := zo_177 (z_byk bcX5_readGate_0 0 17 _ bcX5_readGate_0_ok rfl)
theorem dX5_readGate_18 : decode cX5_readGate 18 = .ok (.aload_n 0, 1) := zo_42 (z_byk bcX5_readGate_0 0 18 _ bcX5_readGate_0_ok rfl)
theorem dX5_readGate_19 : decode cX5_readGate 19 = .ok (.invokevirtual 112, 3) := zo_182 (z_byk bcX5_readGate_0 0 19 _ bcX5_readGate_0_ok rfl) (z_byk bcX5_readGate_0 0 20 _ bcX5_readGate_0_ok rfl) (z_byk bcX5_readGate_0 0 21 _ bcX5_readGate_0_ok rfl) rfl
theorem dX5_readGate_22 : decode cX5_readGate 22 = .ok (.aload_n 0, 1) := zo_42 (z_byk bcX5_readGate_0 0 22 _ bcX5_readGate_0_ok rfl)
theorem dX5_readGate_23 : decode cX5_readGate 23 = .ok (.invokevirtual 160, 3) := zo_182 (z_byk bcX5_readGate_0 0 23 _ bcX5_readGate_0_ok rfl) (z_byk bcX5_readGate_0 0 24 _ bcX5_readGate_0_ok rfl) (z_byk bcX5_readGate_0 0 25 _ bcX5_readGate_0_ok rfl) rfl
theorem dX5_readGate_26 : decode cX5_readGate 26 = .ok (.istore_n 1, 1) := zo_60 (z_byk bcX5_readGate_0 0 26 _ bcX5_readGate_0_ok rfl)
theorem dX5_readGate_27 : decode cX5_readGate 27 = .ok (.aload_n 0, 1) := zo_42 (z_byk bcX5_readGate_0 0 27 _ bcX5_readGate_0_ok rfl)
theorem dX5_readGate_28 : decode cX5_readGate 28 = .ok (.ldc 166, 2) := zo_18 (z_byk bcX5_readGate_0 0 28 _ bcX5_readGate_0_ok rfl) (z_byk bcX5_readGate_0 0 29 _ bcX5_readGate_0_ok rfl)
theorem dX5_readGate_30 : decode cX5_readGate 30 = .ok (.invokevirtual 150, 3) := zo_182 (z_byk bcX5_readGate_0 0 30 _ bcX5_readGate_0_ok rfl) (z_byk bcX5_readGate_0 0 31 _ bcX5_readGate_0_ok rfl) (z_byk bcX5_readGate_0 0 32 _ bcX5_readGate_0_ok rfl) rfl
theorem dX5_readGate_33 : decode cX5_readGate 33 = .ok (.aload_n 0, 1) := zo_42 (z_byk bcX5_readGate_0 0 33 _ bcX5_readGate_0_ok rfl)
theorem dX5_readGate_34 : decode cX5_readGate 34 = .ok (.getfield 15, 3) := zo_180 (z_byk bcX5_readGate_0 0 34 _ bcX5_readGate_0_ok rfl) (z_byk bcX5_readGate_0 0 35 _ bcX5_readGate_0_ok rfl) (z_byk bcX5_readGate_0 0 36 _ bcX5_readGate_0_ok rfl) rfl
theorem dX5_readGate_37 : decode cX5_readGate 37 = .ok (.aload_n 0, 1) := zo_42 (z_byk bcX5_readGate_0 0 37 _ bcX5_readGate_0_ok rfl)
theorem dX5_readGate_38 : decode cX5_readGate 38 = .ok (.getfield 52, 3) := zo_180 (z_byk bcX5_readGate_0 0 38 _ bcX5_readGate_0_ok rfl) (z_byk bcX5_readGate_0 0 39 _ bcX5_readGate_0_ok rfl) (z_byk bcX5_readGate_0 0 40 _ bcX5_readGate_0_ok rfl) rfl
theorem dX5_readGate_4 : decode cX5_readGate 4 = .ok (.getfield 163, 3) := zo_180 (z_byk bcX5_readGate_0 0 4 _ bcX5_readGate_0_ok rfl) (z_byk bcX5_readGate_0 0 5 _ bcX5_readGate_0_ok rfl) (z_byk bcX5_readGate_0 0 6 _ bcX5_readGate_0_ok rfl) rfl
theorem dX5_readGate_41 : decode cX5_readGate 41 = .ok (.iaload, 1) := zo_46 (z_byk bcX5_readGate_0 0 41 _ bcX5_readGate_0_ok rfl)
theorem dX5_readGate_42 : decode cX5_readGate 42 = .ok (.iconst 2, 1) := zo_5 (z_byk bcX5_readGate_0 0 42 _ bcX5_readGate_0_ok rfl)
theorem dX5_readGate_43 : decode cX5_readGate 43 = .ok (.if_icmp .ne 21, 3) := zo_160 (z_byk bcX5_readGate_0 0 43 _ bcX5_readGate_0_ok rfl) (z_byk bcX5_readGate_0 0 44 _ bcX5_readGate_0_ok rfl) (z_byk bcX5_readGate_0 0 45 _ bcX5_readGate_0_ok rfl) rfl
theorem dX5_readGate_46 : decode cX5_readGate 46 = .ok (.aload_n 0, 1) := zo_42 (z_byk bcX5_readGate_0 0 46 _ bcX5_readGate_0_ok rfl)
theorem dX5_readGate_47 : decode cX5_readGate 47 = .ok (.getfield 25, 3) := zo_180 (z_byk bcX5_readGate_0 0 47 _ bcX5_readGate_0_ok rfl) (z_byk bcX5_readGate_0 0 48 _ bcX5_readGate_0_ok rfl) (z_byk bcX5_readGate_0 0 49 _ bcX5_readGate_0_ok rfl) rfl
theorem dX5_readGate_50 : decode cX5_readGate 50 = .ok (.aload_n 0, 1) := zo_42 (z_byk bcX5_readGate_0 0 50 _ bcX5_readGate_0_ok rfl)
theorem dX5_readGate_51 : decode cX5_readGate 51 = .ok (.getfield 52, 3) := zo_180 (z_byk bcX5_readGate_0 0 51 _ bcX5_readGate_0_ok rfl) (z_byk bcX5_readGate_0 0 52 _ bcX5_readGate_0_ok rfl) (z_byk bcX5_readGate_0 0 53 _ bcX5_readGate_0_ok rfl) rfl
theorem dX5_readGate_54 : decode cX5_readGate 54 = .ok (.iaload, 1) := zo_46 (z_byk bcX5_readGate_0 0 54 _ bcX5_readGate_0_ok rfl)
theorem dX5_readGate_55 : decode cX5_readGate 55 = .ok (.iload_n 1, 1) := zo_27 (z_byk bcX5_readGate_0 0 55 _ bcX5_readGate_0_ok rfl)
theorem dX5_readGate_56 : decode cX5_readGate 56 = .ok (.if_icmp .ne 8, 3) := zo_160 (z_byk bcX5_readGate_0 0 56 _ bcX5_readGate_0_ok rfl) (z_byk bcX5_readGate_0 0 57 _ bcX5_readGate_0_ok rfl) (z_byk bcX5_readGate_0 0 58 _ bcX5_readGate_0_ok rfl) rfl
theorem dX5_readGate_59 : decode cX5_readGate 59 = .ok (.aload_n 0, 1) := zo_42 (z_byk bcX5_readGate_0 0 59 _ bcX5_readGate_0_ok rfl)
theorem dX5_readGate_60 : decode cX5_readGate 60 = .ok (.iconst 2, 1) := zo_5 (z_byk bcX5_readGate_60 60 0 _ bcX5_readGate_60_ok rfl)
theorem dX5_readGate_61 : decode cX5_readGate 61 = .ok (.invokevirtual 109, 3) := zo_182 (z_byk bcX5_readGate_60 60 1 _ bcX5_readGate_60_ok rfl) (z_byk bcX5_readGate_60 60 2 _ bcX5_readGate_60_ok rfl) (z_byk bcX5_readGate_60 60 3 _ bcX5_readGate_60_ok rfl) rfl
theorem dX5_readGate_64 : decode cX5_readGate 64 = .ok (.aload_n 0, 1) := zo_42 (z_byk bcX5_readGate_60 60 4 _ bcX5_readGate_60_ok rfl)
theorem dX5_readGate_65 : decode cX5_readGate 65 = .ok (.invokevirtual 160, 3) := zo_182 (z_byk bcX5_readGate_60 60 5 _ bcX5_readGate_60_ok rfl) (z_byk bcX5_readGate_60 60 6 _ bcX5_readGate_60_ok rfl) (z_byk bcX5_readGate_60 60 7 _ bcX5_readGate_60_ok rfl) rfl
theorem dX5_readGate_68 : decode cX5_readGate 68 = .ok (.istore_n 2, 1) := zo_61 (z_byk bcX5_readGate_60 60 8 _ bcX5_readGate_60_ok rfl)
theorem dX5_readGate_69 : decode cX5_readGate 69 = .ok (.aload_n 0, 1) := zo_42 (z_byk bcX5_readGate_60 60 9 _ bcX5_readGate_60_ok rfl)
theorem dX5_readGate_7 : decode cX5_readGate 7 = .ok (.bipush 16, 2) := zo_16 (z_byk bcX5_readGate_0 0 7 _ bcX5_readGate_0_ok rfl) (z_byk bcX5_readGate_0 0 8 _ bcX5_readGate_0_ok rfl) rfl
theorem dX5_readGate_70 : decode cX5_readGate 70 = .ok (.getfield 45, 3) := zo_180 (z_byk bcX5_readGate_60 60 10 _ bcX5_readGate_60_ok rfl) (z_byk bcX5_readGate_60 60 11 _ bcX5_readGate_60_ok rfl) (z_byk bcX5_readGate_60 60 12 _ bcX5_readGate_60_ok rfl) rfl
theorem dX5_readGate_73 : decode cX5_readGate 73 = .ok (.ifCond .ne 60, 3) := zo_154 (z_byk bcX5_readGate_60 60 13 _ bcX5_readGate_60_ok rfl) (z_byk bcX5_readGate_60 60 14 _ bcX5_readGate_60_ok rfl) (z_byk bcX5_readGate_60 60 15 _ bcX5_readGate_60_ok rfl) rfl
theorem dX5_readGate_76 : decode cX5_readGate 76 = .ok (.aload_n 0, 1) := zo_42 (z_byk bcX5_readGate_60 60 16 _ bcX5_readGate_60_ok rfl)
theorem dX5_readGate_77 : decode cX5_readGate 77 = .ok (.getfield 31, 3) := zo_180 (z_byk bcX5_readGate_60 60 17 _ bcX5_readGate_60_ok rfl) (z_byk bcX5_readGate_60 60 18 _ bcX5_readGate_60_ok rfl) (z_byk bcX5_readGate_60 60 19 _ bcX5_readGate_60_ok rfl) rfl
theorem dX5_readGate_80 : decode cX5_readGate 80 = .ok (.getfield 168, 3) := zo_180 (z_byk bcX5_readGate_60 60 20 _ bcX5_readGate_60_ok rfl) (z_byk bcX5_readGate_60 60 21 _ bcX5_readGate_60_ok rfl) (z_byk bcX5_readGate_60 60 22 _ bcX5_readGate_60_ok rfl) rfl
theorem dX5_readGate_83 : decode cX5_readGate 83 = .ok (.aload_n 0, 1) := zo_42 (z_byk bcX5_readGate_60 60 23 _ bcX5_readGate_60_ok rfl)
theorem dX5_readGate_84 : decode cX5_readGate 84 = .ok (.getfield 31, 3) := zo_180 (z_byk bcX5_readGate_60 60 24 _ bcX5_readGate_60_ok rfl) (z_byk bcX5_readGate_60 60 25 _ bcX5_readGate_60_ok rfl) (z_byk bcX5_readGate_60 60 26 _ bcX5_readGate_60_ok rfl) rfl
theorem dX5_readGate_87 : decode cX5_readGate 87 = .ok (.getfield 163, 3) := zo_180 (z_byk bcX5_readGate_60 60 27 _ bcX5_readGate_60_ok rfl) (z_byk bcX5_readGate_60 60 28 _ bcX5_readGate_60_ok rfl) (z_byk bcX5_readGate_60 60 29 _ bcX5_readGate_60_ok rfl) rfl
theorem dX5_readGate_9 : decode cX5_readGate 9 = .ok (.if_icmp .lt 9, 3) := zo_161 (z_byk bcX5_readGate_0 0 9 _ bcX5_readGate_0_ok rfl) (z_byk bcX5_readGate_0 0 10 _ bcX5_readGate_0_ok rfl) (z_byk bcX5_readGate_0 0 11 _ bcX5_readGate_0_ok rfl) rfl
theorem dX5_readGate_90 : decode cX5_readGate 90 = .ok (.iload_n 1, 1) := zo_27 (z_byk bcX5_readGate_60 60 30 _ bcX5_readGate_60_ok rfl)
theorem dX5_readGate_91 : decode cX5_readGate 91 = .ok (.iastore, 1) := zo_79 (z_byk bcX5_readGate_60 60 31 _ bcX5_readGate_60_ok rfl)
theorem dX5_readGate_92 : decode cX5_readGate 92 = .ok (.aload_n 0, 1) := zo_42 (z_byk bcX5_readGate_60 60 32 _ bcX5_readGate_60_ok rfl)
theorem dX5_readGate_93 : decode cX5_readGate 93 = .ok (.getfield 31, 3) := zo_180 (z_byk bcX5_readGate_60 60 33 _ bcX5_readGate_60_ok rfl) (z_byk bcX5_readGate_60 60 34 _ bcX5_readGate_60_ok rfl) (z_byk bcX5_readGate_60 60 35 _ bcX5_readGate_60_ok rfl) rfl
theorem dX5_readGate_96 : decode cX5_readGate 96 = .ok (.getfield 171, 3) := zo_180 (z_byk bcX5_readGate_60 60 36 _ bcX5_readGate_60_ok rfl) (z_byk bcX5_readGate_60 60 37 _ bcX5_readGate_60_ok rfl) (z_byk bcX5_readGate_60 60 38 _ bcX5_readGate_60_ok rfl) rfl
theorem dX5_readGate_99 : decode cX5_readGate 99 = .ok (.aload_n 0, 1) := zo_42 (z_byk bcX5_readGate_60 60 39 _ bcX5_readGate_60_ok rfl)
def bcX5_readLine_0 : List Nat := [42, 180, 0, 31, 180, 0, 118, 154, 0, 10, 42, 182, 0, 121, 167, 0, 88, 42, 18, 124, 182, 0, 105, 153, 0, 10, 42, 182, 0, 126, 167, 0, 72, 42, 18, 129, 182, 0, 105, 153, 0, 10, 42, 182, 0, 131, 167, 0, 56, 42, 18, 134, 182, 0, 105, 153, 0, 10, 42, 182]
theorem bcX5_readLine_0_ok : z_bys cX5_readLine 0 bcX5_readLine_0 = true := by decide +kernel
def bcX5_readLine_60 : List Nat := [0, 136, 167, 0, 40, 42, 18, 139, 182, 0, 105, 153, 0, 10, 42, 182, 0, 141, 167, 0, 24, 42, 18, 144, 182, 0, 105, 153, 0, 10, 42, 182, 0, 146, 167, 0, 8, 42, 4, 182, 0, 109, 42, 180, 0, 15, 42, 180, 0, 52, 46, 6, 159, 0, 8, 42, 4, 182, 0, 109]
theorem bcX5_readLine_60_ok : z_bys cX5_readLine 60 bcX5_readLine_60 = true := by decide +kernel
def bcX5_readLine_120 : List Nat := [42, 182, 0, 112, 42, 180, 0, 31, 89, 180, 0, 118, 4, 96, 181, 0, 118, 177]
theorem bcX5_readLine_120_ok : z_bys cX5_readLine 120 bcX5_readLine_120 = true := by decide +kernel
theorem dX5_readLine_0 : decode cX5_readLine 0 = .ok (.aload_n 0, 1) := zo_42 (z_byk bcX5_readLine_0 0 0 _ bcX5_readLine_0_ok rfl)
theorem dX5_readLine_1 : decode cX5_readLine 1 = .ok (.getfield 31, 3) := zo_180 (z_byk bcX5_readLine_0 0 1 _ bcX5_readLine_0_ok rfl) (z_byk bcX5_readLine_0 0 2 _ bcX5_readLine_0_ok rfl) (z_byk bcX5_readLine_0 0 3 _ bcX5_readLine_0_ok rfl) rfl
theorem dX5_readLine_10 : decode cX5_readLine 10 = .ok (.aload_n 0, 1) := zo_42 (z_byk bcX5_readLine_0 0 10 _ bcX5_readLine_0_ok rfl)
theorem dX5_readLine_102 : decode cX5_readLine 102 = .ok (.aload_n 0, 1) := zo_42 (z_byk bcX5_readLine_60 60 42 _ bcX5_readLine_60_ok rfl)
theorem dX5_readLine_103 : decode cX5_readLine 103 = .ok (.getfield 15, 3) := zo_180 (z_byk bcX5_readLine_60 60 43 _ bcX5_readLine_60_ok rfl) (z_byk bcX5_readLine_60 60 44 _ bcX5_readLine_60_ok rfl) (z_byk bcX5_readLine_60 60 45 _ bcX5_readLine_60_ok rfl) rfl
theorem dX5_readLine_106 : decode cX5_readLine 106 = .ok (.aload_n 0, 1) := zo_42 (z_byk bcX5_readLine_60 60 46 _ bcX5_readLine_60_ok rfl)
theorem dX5_readLine_107 : decode cX5_readLine 107 = .ok (.getfield 52, 3) := zo_180 (z_byk bcX5_readLine_60 60 47 _ bcX5_readLine_60_ok rfl) (z_byk bcX5_readLine_60 60 48 _ bcX5_readLine_60_ok rfl) (z_byk bcX5_readLine_60 60 49 _ bcX5_readLine_60_ok rfl) rfl
theorem dX5_readLine_11 : decode cX5_readLine 11 = .ok (.invokevirtual 121, 3) := zo_182 (z_byk bcX5_readLine_0 0 11 _ bcX5_readLine_0_ok rfl) (z_byk bcX5_readLine_0 0 12 _ bcX5_readLine_0_ok rfl) (z_byk bcX5_readLine_0 0 13 _ bcX5_readLine_0_ok rfl) rfl
theorem dX5_readLine_110 : decode cX5_readLine 110 = .ok (.iaload, 1) := zo_46 (z_byk bcX5_readLine_60 60 50 _ bcX5_readLine_60_ok rfl)
theorem dX5_readLine_111 : decode cX5_readLine 111 = .ok (.iconst 3, 1) := zo_6 (z_byk bcX5_readLine_60 60 51 _ bcX5_readLine_60_ok rfl)
theorem dX5_readLine_112 : decode cX5_readLine 112 = .ok (.if_icmp .eq 8, 3) := zo_159 (z_byk bcX5_readLine_60 60 52 _ bcX5_readLine_60_ok rfl) (z_byk bcX5_readLine_60 60 53 _ bcX5_readLine_60_ok rfl) (z_byk bcX5_readLine_60 60 54 _ bcX5_readLine_60_ok rfl) rfl
theorem dX5_readLine_115 : decode cX5_readLine 115 = .ok (.aload_n 0, 1) := zo_42 (z_byk bcX5_readLine_60 60 55 _ bcX5_readLine_60_ok rfl)
theorem dX5_readLine_116 : decode cX5_readLine 116 = .ok (.iconst 1, 1) := zo_4 (z_byk bcX5_readLine_60 60 56 _ bcX5_readLine_60_ok rfl)
theorem dX5_readLine_117 : decode cX5_readLine 117 = .ok (.invokevirtual 109, 3) := zo_182 (z_byk bcX5_readLine_60 60 57 _ bcX5_readLine_60_ok rfl) (z_byk bcX5_readLine_60 60 58 _ bcX5_readLine_60_ok rfl) (z_byk bcX5_readLine_60 60 59 _ bcX5_readLine_60_ok rfl) rfl
theorem dX5_readLine_120 : decode cX5_readLine 120 = .ok (.aload_n 0, 1) := zo_42 (z_byk bcX5_readLine_120 120 0 _ bcX5_readLine_120_ok rfl)
theorem dX5_readLine_121 : decode cX5_readLine 121 = .ok (.invokevirtual 112, 3) := zo_182 (z_byk bcX5_readLine_120 120 1 _ bcX5_readLine_120_ok rfl) (z_byk bcX5_readLine_120 120 2 _ bcX5_readLine_120_ok rfl) (z_byk bcX5_readLine_120 120 3 _ bcX5_readLine_120_ok rfl) rfl
theorem dX5_readLine_124 : decode cX5_readLine 124 = .ok (.aload_n 0, 1) := zo_42 (z_byk bcX5_readLine_120 120 4 _ bcX5_readLine_120_ok rfl)
theorem dX5_readLine_125 : decode cX5_readLine 125 = .ok (.getfield 31, 3) := zo_180 (z_byk bcX5_readLine_120 120 5 _ bcX5_readLine_120_ok rfl) (z_byk bcX5_readLine_120 120 6 _ bcX5_readLine_120_ok rfl) (z_byk bcX5_readLine_120 120 7 _ bcX5_readLine_120_ok rfl) rfl
theorem dX5_readLine_128 : decode cX5_readLine 128 = .ok (.dup, 1) := zo_89 (z_byk bcX5_readLine_120 120 8 _ bcX5_readLine_120_ok rfl)
theorem dX5_readLine_129 : decode cX5_readLine 129 = .ok (.getfield 118, 3) := zo_180 (z_byk bcX5_readLine_120 120 9 _ bcX5_readLine_120_ok rfl) (z_byk bcX5_readLine_120 120 10 _ bcX5_readLine_120_ok rfl) (z_byk bcX5_readLine_120 120 11 _ bcX5_readLine_120_ok rfl) rfl
theorem dX5_readLine_132 : decode cX5_readLine 132 = .ok (.iconst 1, 1) := zo_4 (z_byk bcX5_readLine_120 120 12 _ bcX5_readLine_120_ok rfl)
theorem dX5_readLine_133 : decode cX5_readLine 133 = .ok (.iadd, 1) := zo_96 (z_byk bcX5_readLine_120 120 13 _ bcX5_readLine_120_ok rfl)
theorem dX5_readLine_134 : decode cX5_readLine 134 = .ok (.putfield 118, 3) := zo_181 (z_byk bcX5_readLine_120 120 14 _ bcX5_readLine_120_ok rfl) (z_byk bcX5_readLine_120 120 15 _ bcX5_readLine_120_ok rfl) (z_byk bcX5_readLine_120 120 16 _ bcX5_readLine_120_ok rfl) rfl
theorem dX5_readLine_137 : decode cX5_readLine 137 = .ok (.return_, 1) := zo_177 (z_byk bcX5_readLine_120 120 17 _ bcX5_readLine_120_ok rfl)
theorem dX5_readLine_14 : decode cX5_readLine 14 = .ok (.goto 88, 3) := zo_167 (z_byk bcX5_readLine_0 0 14 _ bcX5_readLine_0_ok rfl) (z_byk bcX5_readLine_0 0 15 _ bcX5_readLine_0_ok rfl) (z_byk bcX5_readLine_0 0 16 _ bcX5_readLine_0_ok rfl) rfl
theorem dX5_readLine_17 : decode cX5_readLine 17 = .ok (.aload_n 0, 1) := zo_42 (z_byk bcX5_readLine_0 0 17 _ bcX5_readLine_0_ok rfl)
theorem dX5_readLine_18 : decode cX5_readLine 18 = .ok (.ldc 124, 2) := zo_18 (z_byk bcX5_readLine_0 0 18 _ bcX5_readLine_0_ok rfl) (z_byk bcX5_readLine_0 0 19 _ bcX5_readLine_0_ok rfl)
theorem dX5_readLine_20 : decode cX5_readLine 20 = .ok (.invokevirtual 105, 3) := zo_182 (z_byk bcX5_readLine_0 0 20 _ bcX5_readLine_0_ok rfl) (z_byk bcX5_readLine_0 0 21 _ bcX5_readLine_0_ok rfl) (z_byk bcX5_readLine_0 0 22 _ bcX5_readLine_0_ok rfl) rfl
theorem dX5_readLine_23 : decode cX5_readLine 23 = .ok (.ifCond .eq 10, 3) := zo_153 (z_byk bcX5_readLine_0 0 23 _ bcX5_readLine_0_ok rfl) (z_byk bcX5_readLine_0 0 24 _ bcX5_readLine_0_ok rfl) (z_byk bcX5_readLine_0 0 25 _ bcX5_readLine_0_ok rfl) rfl
theorem dX5_readLine_26 : decode cX5_readLine 26 = .ok (.aload_n 0, 1) := zo_42 (z_byk bcX5_readLine_0 0 26 _ bcX5_readLine_0_ok rfl)
theorem dX5_readLine_27 : decode cX5_readLine 27 = .ok (.invokevirtual 126, 3) := zo_182 (z_byk bcX5_readLine_0 0 27 _ bcX5_readLine_0_ok rfl) (z_byk bcX5_readLine_0 0 28 _ bcX5_readLine_0_ok rfl) (z_byk bcX5_readLine_0 0 29 _ bcX5_readLine_0_ok rfl) rfl
theorem dX5_readLine_30 : decode cX5_readLine 30 = .ok (.goto 72, 3) := zo_167 (z_byk bcX5_readLine_0 0 30 _ bcX5_readLine_0_ok rfl) (z_byk bcX5_readLine_0 0 31 _ bcX5_readLine_0_ok rfl) (z_byk bcX5_readLine_0 0 32 _ bcX5_readLine_0_ok rfl) rfl
theorem dX5_readLine_33 : decode cX5_readLine 33 = .ok (.aload_n 0, 1) := zo_42 (z_byk bcX5_readLine_0 0 33 _ bcX5_readLine_0_ok rfl)
theorem dX5_readLine_34 : decode cX5_readLine 34 = .ok (.ldc 129, 2) := zo_18 (z_byk bcX5_readLine_0 0 34 _ bcX5_readLine_0_ok rfl) (z_byk bcX5_readLine_0 0 35 _ bcX5_readLine_0_ok rfl)
theorem dX5_readLine_36 : decode cX5_readLine 36 = .ok (.invokevirtual 105, 3) := zo_182 (z_byk bcX5_readLine_0 0 36 _ bcX5_readLine_0_ok rfl) (z_byk bcX5_readLine_0 0 37 _ bcX5_readLine_0_ok rfl) (z_byk bcX5_readLine_0 0 38 _ bcX5_readLine_0_ok rfl) rfl
theorem dX5_readLine_39 : decode cX5_readLine 39 = .ok (.ifCond .eq 10, 3) := zo_153 (z_byk bcX5_readLine_0 0 39 _ bcX5_readLine_0_ok rfl) (z_byk bcX5_readLine_0 0 40 _ bcX5_readLine_0_ok rfl) (z_byk bcX5_readLine_0 0 41 _ bcX5_readLine_0_ok rfl) rfl
theorem dX5_readLine_4 : decode cX5_readLine 4 = .ok (.getfield 118, 3) := zo_180 (z_byk bcX5_readLine_0 0 4 _ bcX5_readLine_0_ok rfl) (z_byk bcX5_readLine_0 0 5 _ bcX5_readLine_0_ok rfl) (z_byk bcX5_readLine_0 0 6 _ bcX5_readLine_0_ok rfl) rfl
theorem dX5_readLine_42 : decode cX5_readLine 42 = .ok (.aload_n 0, 1) := zo_42 (z_byk bcX5_readLine_0 0 42 _ bcX5_readLine_0_ok rfl)
theorem dX5_readLine_43 : decode cX5_readLine 43 = .ok (.invokevirtual 131, 3) := zo_182 (z_byk bcX5_readLine_0 0 43 _ bcX5_readLine_0_ok rfl) (z_byk bcX5_readLine_0 0 44 _ bcX5_readLine_0_ok rfl) (z_byk bcX5_readLine_0 0 45 _ bcX5_readLine_0_ok rfl) rfl
theorem dX5_readLine_46 : decode cX5_readLine 46 = .ok (.goto 56, 3) := zo_167 (z_byk bcX5_readLine_0 0 46 _ bcX5_readLine_0_ok rfl) (z_byk bcX5_readLine_0 0 47 _ bcX5_readLine_0_ok rfl) (z_byk bcX5_readLine_0 0 48 _ bcX5_readLine_0_ok rfl) rfl
theorem dX5_readLine_49 : decode cX5_readLine 49 = .ok (.aload_n 0, 1) := zo_42 (z_byk bcX5_readLine_0 0 49 _ bcX5_readLine_0_ok rfl)
theorem dX5_readLine_50 : decode cX5_readLine 50 = .ok (.ldc 134, 2) := zo_18 (z_byk bcX5_readLine_0 0 50 _ bcX5_readLine_0_ok rfl) (z_byk bcX5_readLine_0 0 51 _ bcX5_readLine_0_ok rfl)
theorem dX5_readLine_52 : decode cX5_readLine 52 = .ok (.invokevirtual 105, 3) := zo_182 (z_byk bcX5_readLine_0 0 52 _ bcX5_readLine_0_ok rfl) (z_byk bcX5_readLine_0 0 53 _ bcX5_readLine_0_ok rfl) (z_byk bcX5_readLine_0 0 54 _ bcX5_readLine_0_ok rfl) rfl
theorem dX5_readLine_55 : decode cX5_readLine 55 = .ok (.ifCond .eq 10, 3) := zo_153 (z_byk bcX5_readLine_0 0 55 _ bcX5_readLine_0_ok rfl) (z_byk bcX5_readLine_0 0 56 _ bcX5_readLine_0_ok rfl) (z_byk bcX5_readLine_0 0 57 _ bcX5_readLine_0_ok rfl) rfl
theorem dX5_readLine_58 : decode cX5_readLine 58 = .ok (.aload_n 0, 1) := zo_42 (z_byk bcX5_readLine_0 0 58 _ bcX5_readLine_0_ok rfl)
theorem dX5_readLine_59 : decode cX5_readLine 59 = .ok (.invokevirtual 136, 3) := zo_182 (z_byk bcX5_readLine_0 0 59 _ bcX5_readLine_0_ok rfl) (z_byk bcX5_readLine_60 60 0 _ bcX5_readLine_60_ok rfl) (z_byk bcX5_readLine_60 60 1 _ bcX5_readLine_60_ok rfl) rfl
theorem dX5_readLine_62 : decode cX5_readLine 62 = .ok (.goto 40, 3) := zo_167 (z_byk bcX5_readLine_60 60 2 _ bcX5_readLine_60_ok rfl) (z_byk bcX5_readLine_60 60 3 _ bcX5_readLine_60_ok rfl) (z_byk bcX5_readLine_60 60 4 _ bcX5_readLine_60_ok rfl) rfl
theorem dX5_readLine_65 : decode cX5_readLine 65 = .ok (.aload_n 0, 1) := zo_42 (z_byk bcX5_readLine_60 60 5 _ bcX5_readLine_60_ok rfl)
theorem dX5_readLine_66 : decode cX5_readLine 66 = .ok (.ldc 139, 2) := zo_18 (z_byk bcX5_readLine_60 60 6 _ bcX5_readLine_60_ok rfl) (z_byk bcX5_readLine_60 60 7 _ bcX5_readLine_60_ok rfl)
theorem dX5_readLine_68 : decode cX5_readLine 68 = .ok (.invokevirtual 105, 3) := zo_182 (z_byk bcX5_readLine_60 60 8 _ bcX5_readLine_60_ok rfl) (z_byk bcX5_readLine_60 60 9 _ bcX5_readLine_60_ok rfl) (z_byk bcX5_readLine_60 60 10 _ bcX5_readLine_60_ok rfl) rfl
theorem dX5_readLine_7 : decode cX5_readLine 7 = .ok (.ifCond .ne 10, 3) := zo_154 (z_byk bcX5_readLine_0 0 7 _ bcX5_readLine_0_ok rfl) (z_byk bcX5_readLine_0 0 8 _ bcX5_readLine_0_ok rfl) (z_byk bcX5_readLine_0 0 9 _ bcX5_readLine_0_ok rfl) rfl
theorem dX5_readLine_71 : decode cX5_readLine 71 = .ok (.ifCond .eq 10, 3) := zo_153 (z_byk bcX5_readLine_60 60 11 _ bcX5_readLine_60_ok rfl) (z_byk bcX5_readLine_60 60 12 _ bcX5_readLine_60_ok rfl) (z_byk bcX5_readLine_60 60 13 _ bcX5_readLine_60_ok rfl) rfl
theorem dX5_readLine_74 : decode cX5_readLine 74 = .ok (.aload_n 0, 1) := zo_42 (z_byk bcX5_readLine_60 60 14 _ bcX5_readLine_60_ok rfl)
theorem dX5_readLine_75 : decode cX5_readLine 75 = .ok (.invokevirtual 141, 3) := zo_182 (z_byk bcX5_readLine_60 60 15 _ bcX5_readLine_60_ok rfl) (z_byk bcX5_readLine_60 60 16 _ bcX5_readLine_60_ok rfl) (z_byk bcX5_readLine_60 60 17 _ bcX5_readLine_60_ok rfl) rfl
theorem dX5_readLine_78 : decode cX5_readLine 78 = .ok (.goto 24, 3) := zo_167 (z_byk bcX5_readLine_60 60 18 _ bcX5_readLine_60_ok rfl) (z_byk bcX5_readLine_60 60 19 _ bcX5_readLine_60_ok rfl) (z_byk bcX5_readLine_60 60 20 _ bcX5_readLine_60_ok rfl) rfl
theorem dX5_readLine_81 : decode cX5_readLine 81 = .ok (.aload_n 0, 1) := zo_42 (z_byk bcX5_readLine_60 60 21 _ bcX5_readLine_60_ok rfl)
theorem dX5_readLine_82 : decode cX5_readLine 82 = .ok (.ldc 144, 2) := zo_18 (z_byk bcX5_readLine_60 60 22 _ bcX5_readLine_60_ok rfl) (z_byk bcX5_readLine_60 60 23 _ bcX5_readLine_60_ok rfl)
theorem dX5_readLine_84 : decode cX5_readLine 84 = .ok (.invokevirtual 105, 3) := zo_182 (z_byk bcX5_readLine_60 60 24 _ bcX5_readLine_60_ok rfl) (z_byk bcX5_readLine_60 60 25 _ bcX5_readLine_60_ok rfl) (z_byk bcX5_readLine_60 60 26 _ bcX5_readLine_60_ok rfl) rfl
theorem dX5_readLine_87 : decode cX5_readLine 87 = .ok (.ifCond .eq 10, 3) := zo_153 (z_byk bcX5_readLine_60 60 27 _ bcX5_readLine_60_ok rfl) (z_byk bcX5_readLine_60 60 28 _ bcX5_readLine_60_ok rfl) (z_byk bcX5_readLine_60 60 29 _ bcX5_readLine_60_ok rfl) rfl
theorem dX5_readLine_90 : decode cX5_readLine 90 = .ok (.aload_n 0, 1) := zo_42 (z_byk bcX5_readLine_60 60 30 _ bcX5_readLine_60_ok rfl)
theorem dX5_readLine_91 : decode cX5_readLine 91 = .ok (.invokevirtual 146, 3) := zo_182 (z_byk bcX5_readLine_60 60 31 _ bcX5_readLine_60_ok rfl) (z_byk bcX5_readLine_60 60 32 _ bcX5_readLine_60_ok rfl) (z_byk bcX5_readLine_60 60 33 _ bcX5_readLine_60_ok rfl) rfl
theorem dX5_readLine_94 : decode cX5_readLine 94 = .ok (.goto 8, 3) := zo_167 (z_byk bcX5_readLine_60 60 34 _ bcX5_readLine_60_ok rfl) (z_byk bcX5_readLine_60 60 35 _ bcX5_readLine_60_ok rfl) (z_byk bcX5_readLine_60 60 36 _ bcX5_readLine_60_ok rfl) rfl
theorem dX5_readLine_97 : decode cX5_readLine 97 = .ok (.aload_n 0, 1) := zo_42 (z_byk bcX5_readLine_60 60 37 _ bcX5_readLine_60_ok rfl)
theorem dX5_readLine_98 : decode cX5_readLine 98 = .ok (.iconst 1, 1) := zo_4 (z_byk bcX5_readLine_60 60 38 _ bcX5_readLine_60_ok rfl)
theorem dX5_readLine_99 : decode cX5_readLine 99 = .ok (.invokevirtual 109, 3) := zo_182 (z_byk bcX5_readLine_60 60 39 _ bcX5_readLine_60_ok rfl) (z_byk bcX5_readLine_60 60 40 _ bcX5_readLine_60_ok rfl) (z_byk bcX5_readLine_60 60 41 _ bcX5_readLine_60_ok rfl) rfl
def bcX5_read_0 : List Nat := [42, 43, 181, 0, 9, 42, 28, 43, 190, 184, 0, 35, 182, 0, 41, 42, 3, 181, 0, 45, 42, 2, 181, 0, 49, 42, 3, 181, 0, 52, 42, 3, 181, 0, 55, 42, 3, 181, 0, 58, 42, 3, 181, 0, 62, 42, 187, 0, 28, 89, 183, 0, 30, 181, 0, 31, 3, 62, 29, 17]
theorem bcX5_read_0_ok : z_bys cX5_read 0 bcX5_read_0 = true := by decide +kernel
def bcX5_read_60 : List Nat := [6, 64, 162, 0, 33, 42, 180, 0, 15, 42, 180, 0, 52, 46, 8, 159, 0, 20, 42, 180, 0, 45, 154, 0, 13, 42, 182, 0, 65, 132, 3, 1, 167, 255, 222, 42, 182, 0, 68, 42, 180, 0, 31, 176]
theorem bcX5_read_60_ok : z_bys cX5_read 60 bcX5_read_60 = true := by decide +kernel
theorem dX5_read_0 : decode cX5_read 0 = .ok (.aload_n 0, 1) := zo_42 (z_byk bcX5_read_0 0 0 _ bcX5_read_0_ok rfl)
theorem dX5_read_1 : decode cX5_read 1 = .ok (.aload_n 1, 1) := zo_43 (z_byk bcX5_read_0 0 1 _ bcX5_read_0_ok rfl)
theorem dX5_read_100 : decode cX5_read 100 = .ok (.getfield 31, 3) := zo_180 (z_byk bcX5_read_60 60 40 _ bcX5_read_60_ok rfl) (z_byk bcX5_read_60 60 41 _ bcX5_read_60_ok rfl) (z_byk bcX5_read_60 60 42 _ bcX5_read_60_ok rfl) rfl
theorem dX5_read_103 : decode cX5_read 103 = .ok (.areturn, 1) := zo_176 (z_byk bcX5_read_60 60 43 _ bcX5_read_60_ok rfl)
theorem dX5_read_12 : decode cX5_read 12 = .ok (.invokevirtual 41, 3) := zo_182 (z_byk bcX5_read_0 0 12 _ bcX5_read_0_ok rfl) (z_byk bcX5_read_0 0 13 _ bcX5_read_0_ok rfl) (z_byk bcX5_read_0 0 14 _ bcX5_read_0_ok rfl) rfl
theorem dX5_read_15 : decode cX5_read 15 = .ok (.aload_n 0, 1) := zo_42 (z_byk bcX5_read_0 0 15 _ bcX5_read_0_ok rfl)
theorem dX5_read_16 : decode cX5_read 16 = .ok (.iconst 0, 1) := zo_3 (z_byk bcX5_read_0 0 16 _ bcX5_read_0_ok rfl)
theorem dX5_read_17 : decode cX5_read 17 = .ok (.putfield 45, 3) := zo_181 (z_byk bcX5_read_0 0 17 _ bcX5_read_0_ok rfl) (z_byk bcX5_read_0 0 18 _ bcX5_read_0_ok rfl) (z_byk bcX5_read_0 0 19 _ bcX5_read_0_ok rfl) rfl
theorem dX5_read_2 : decode cX5_read 2 = .ok (.putfield 9, 3) := zo_181 (z_byk bcX5_read_0 0 2 _ bcX5_read_0_ok rfl) (z_byk bcX5_read_0 0 3 _ bcX5_read_0_ok rfl) (z_byk bcX5_read_0 0 4 _ bcX5_read_0_ok rfl) rfl
theorem dX5_read_20 : decode cX5_read 20 = .ok (.aload_n 0, 1) := zo_42 (z_byk bcX5_read_0 0 20 _ bcX5_read_0_ok rfl)
theorem dX5_read_21 : decode cX5_read 21 = .ok (.iconst (-1), 1) := zo_2 (z_byk bcX5_read_0 0 21 _ bcX5_read_0_ok rfl)
theorem dX5_read_22 : decode cX5_read 22 = .ok (.putfield 49, 3) := zo_181 (z_byk bcX5_read_0 0 22 _ bcX5_read_0_ok rfl) (z_byk bcX5_read_0 0 23 _ bcX5_read_0_ok rfl) (z_byk bcX5_read_0 0 24 _ bcX5_read_0_ok rfl) rfl
theorem dX5_read_25 : decode cX5_read 25 = .ok (.aload_n 0, 1) := zo_42 (z_byk bcX5_read_0 0 25 _ bcX5_read_0_ok rfl)
theorem dX5_read_26 : decode cX5_read 26 = .ok (.iconst 0, 1) := zo_3 (z_byk bcX5_read_0 0 26 _ bcX5_read_0_ok rfl)
theorem dX5_read_27 : decode cX5_read 27 = .ok (.putfield 52, 3) := zo_181 (z_byk bcX5_read_0 0 27 _ bcX5_read_0_ok rfl) (z_byk bcX5_read_0 0 28 _ bcX5_read_0_ok rfl) (z_byk bcX5_read_0 0 29 _ bcX5_read_0_ok rfl) rfl
theorem dX5_read_30 : decode cX5_read 30 = .ok (.aload_n 0, 1) := zo_42 (z_byk bcX5_read_0 0 30 _ bcX5_read_0_ok rfl)
theorem dX5_read_31 : decode cX5_read 31 = .ok (.iconst 0, 1) := zo_3 (z_byk bcX5_read_0 0 31 _ bcX5_read_0_ok rfl)
theorem dX5_read_32 : decode cX5_read 32 = .ok (.putfield 55, 3) := zo_181 (z_byk bcX5_read_0 0 32 _ bcX5_read_0_ok rfl) (z_byk bcX5_read_0 0 33 _ bcX5_read_0_ok rfl) (z_byk bcX5_read_0 0 34 _ bcX5_read_0_ok rfl) rfl
theorem dX5_read_35 : decode cX5_read 35 = .ok (.aload_n 0, 1) := zo_42 (z_byk bcX5_read_0 0 35 _ bcX5_read_0_ok rfl)
theorem dX5_read_36 : decode cX5_read 36 = .ok (.iconst 0, 1) := zo_3 (z_byk bcX5_read_0 0 36 _ bcX5_read_0_ok rfl)
theorem dX5_read_37 : decode cX5_read 37 = .ok (.putfield 58, 3) := zo_181 (z_byk bcX5_read_0 0 37 _ bcX5_read_0_ok rfl) (z_byk bcX5_read_0 0 38 _ bcX5_read_0_ok rfl) (z_byk bcX5_read_0 0 39 _ bcX5_read_0_ok rfl) rfl
theorem dX5_read_40 : decode cX5_read 40 = .ok (.aload_n 0, 1) := zo_42 (z_byk bcX5_read_0 0 40 _ bcX5_read_0_ok rfl)
theorem dX5_read_41 : decode cX5_read 41 = .ok (.iconst 0, 1) := zo_3 (z_byk bcX5_read_0 0 41 _ bcX5_read_0_ok rfl)
theorem dX5_read_42 : decode cX5_read 42 = .ok (.putfield 62, 3) := zo_181 (z_byk bcX5_read_0 0 42 _ bcX5_read_0_ok rfl) (z_byk bcX5_read_0 0 43 _ bcX5_read_0_ok rfl) (z_byk bcX5_read_0 0 44 _ bcX5_read_0_ok rfl) rfl
theorem dX5_read_45 : decode cX5_read 45 = .ok (.aload_n 0, 1) := zo_42 (z_byk bcX5_read_0 0 45 _ bcX5_read_0_ok rfl)
theorem dX5_read_46 : decode cX5_read 46 = .ok (.new 28, 3) := zo_187 (z_byk bcX5_read_0 0 46 _ bcX5_read_0_ok rfl) (z_byk bcX5_read_0 0 47 _ bcX5_read_0_ok rfl) (z_byk bcX5_read_0 0 48 _ bcX5_read_0_ok rfl) rfl
theorem dX5_read_49 : decode cX5_read 49 = .ok (.dup, 1) := zo_89 (z_byk bcX5_read_0 0 49 _ bcX5_read_0_ok rfl)
theorem dX5_read_5 : decode cX5_read 5 = .ok (.aload_n 0, 1) := zo_42 (z_byk bcX5_read_0 0 5 _ bcX5_read_0_ok rfl)
theorem dX5_read_50 : decode cX5_read 50 = .ok (.invokespecial 30, 3) := zo_183 (z_byk bcX5_read_0 0 50 _ bcX5_read_0_ok rfl) (z_byk bcX5_read_0 0 51 _ bcX5_read_0_ok rfl) (z_byk bcX5_read_0 0 52 _ bcX5_read_0_ok rfl) rfl
theorem dX5_read_53 : decode cX5_read 53 = .ok (.putfield 31, 3) := zo_181 (z_byk bcX5_read_0 0 53 _ bcX5_read_0_ok rfl) (z_byk bcX5_read_0 0 54 _ bcX5_read_0_ok rfl) (z_byk bcX5_read_0 0 55 _ bcX5_read_0_ok rfl) rfl
theorem dX5_read_56 : decode cX5_read 56 = .ok (.iconst 0, 1) := zo_3 (z_byk bcX5_read_0 0 56 _ bcX5_read_0_ok rfl)
theorem dX5_read_57 : decode cX5_read 57 = .ok (.istore_n 3, 1) := zo_62 (z_byk bcX5_read_0 0 57 _ bcX5_read_0_ok rfl)
theorem dX5_read_58 : decode cX5_read 58 = .ok (.iload_n 3, 1) := zo_29 (z_byk bcX5_read_0 0 58 _ bcX5_read_0_ok rfl)
theorem dX5_read_59 : decode cX5_read 59 = .ok (.sipush 1600, 3) := zo_17 (z_byk bcX5_read_0 0 59 _ bcX5_read_0_ok rfl) (z_byk bcX5_read_60 60 0 _ bcX5_read_60_ok rfl) (z_byk bcX5_read_60 60 1 _ bcX5_read_60_ok rfl) rfl
theorem dX5_read_6 : decode cX5_read 6 = .ok (.iload_n 2, 1) := zo_28 (z_byk bcX5_read_0 0 6 _ bcX5_read_0_ok rfl)
theorem dX5_read_62 : decode cX5_read 62 = .ok (.if_icmp .ge 33, 3) := zo_162 (z_byk bcX5_read_60 60 2 _ bcX5_read_60_ok rfl) (z_byk bcX5_read_60 60 3 _ bcX5_read_60_ok rfl) (z_byk bcX5_read_60 60 4 _ bcX5_read_60_ok rfl) rfl
theorem dX5_read_65 : decode cX5_read 65 = .ok (.aload_n 0, 1) := zo_42 (z_byk bcX5_read_60 60 5 _ bcX5_read_60_ok rfl)
theorem dX5_read_66 : decode cX5_read 66 = .ok (.getfield 15, 3) := zo_180 (z_byk bcX5_read_60 60 6 _ bcX5_read_60_ok rfl) (z_byk bcX5_read_60 60 7 _ bcX5_read_60_ok rfl) (z_byk bcX5_read_60 60 8 _ bcX5_read_60_ok rfl) rfl
theorem dX5_read_69 : decode cX5_read 69 = .ok (.aload_n 0, 1) := zo_42 (z_byk bcX5_read_60 60 9 _ bcX5_read_60_ok rfl)
theorem dX5_read_7 : decode cX5_read 7 = .ok (.aload_n 1, 1) := zo_43 (z_byk bcX5_read_0 0 7 _ bcX5_read_0_ok rfl)
theorem dX5_read_70 : decode cX5_read 70 = .ok (.getfield 52, 3) := zo_180 (z_byk bcX5_read_60 60 10 _ bcX5_read_60_ok rfl) (z_byk bcX5_read_60 60 11 _ bcX5_read_60_ok rfl) (z_byk bcX5_read_60 60 12 _ bcX5_read_60_ok rfl) rfl
theorem dX5_read_73 : decode cX5_read 73 = .ok (.iaload, 1) := zo_46 (z_byk bcX5_read_60 60 13 _ bcX5_read_60_ok rfl)
theorem dX5_read_74 : decode cX5_read 74 = .ok (.iconst 5, 1) := zo_8 (z_byk bcX5_read_60 60 14 _ bcX5_read_60_ok rfl)
theorem dX5_read_75 : decode cX5_read 75 = .ok (.if_icmp .eq 20, 3) := zo_159 (z_byk bcX5_read_60 60 15 _ bcX5_read_60_ok rfl) (z_byk bcX5_read_60 60 16 _ bcX5_read_60_ok rfl) (z_byk bcX5_read_60 60 17 _ bcX5_read_60_ok rfl) rfl
theorem dX5_read_78 : decode cX5_read 78 = .ok (.aload_n 0, 1) := zo_42 (z_byk bcX5_read_60 60 18 _ bcX5_read_60_ok rfl)
theorem dX5_read_79 : decode cX5_read 79 = .ok (.getfield 45, 3) := zo_180 (z_byk bcX5_read_60 60 19 _ bcX5_read_60_ok rfl) (z_byk bcX5_read_60 60 20 _ bcX5_read_60_ok rfl) (z_byk bcX5_read_60 60 21 _ bcX5_read_60_ok rfl) rfl
theorem dX5_read_8 : decode cX5_read 8 = .ok (.arraylength, 1) := zo_190 (z_byk bcX5_read_0 0 8 _ bcX5_read_0_ok rfl)
theorem dX5_read_82 : decode cX5_read 82 = .ok (.ifCond .ne 13, 3) := zo_154 (z_byk bcX5_read_60 60 22 _ bcX5_read_60_ok rfl) (z_byk bcX5_read_60 60 23 _ bcX5_read_60_ok rfl) (z_byk bcX5_read_60 60 24 _ bcX5_read_60_ok rfl) rfl
theorem dX5_read_85 : decode cX5_read 85 = .ok (.aload_n 0, 1) := zo_42 (z_byk bcX5_read_60 60 25 _ bcX5_read_60_ok rfl)
theorem dX5_read_86 : decode cX5_read 86 = .ok (.invokevirtual 65, 3) := zo_182 (z_byk bcX5_read_60 60 26 _ bcX5_read_60_ok rfl) (z_byk bcX5_read_60 60 27 _ bcX5_read_60_ok rfl) (z_byk bcX5_read_60 60 28 _ bcX5_read_60_ok rfl) rfl
theorem dX5_read_89 : decode cX5_read 89 = .ok (.iinc 3 1, 3) := zo_132 (z_byk bcX5_read_60 60 29 _ bcX5_read_60_ok rfl) (z_byk bcX5_read_60 60 30 _ bcX5_read_60_ok rfl) (z_byk bcX5_read_60 60 31 _ bcX5_read_60_ok rfl) rfl
theorem dX5_read_9 : decode cX5_read 9 = .ok (.invokestatic 35, 3) := zo_184 (z_byk bcX5_read_0 0 9 _ bcX5_read_0_ok rfl) (z_byk bcX5_read_0 0 10 _ bcX5_read_0_ok rfl) (z_byk bcX5_read_0 0 11 _ bcX5_read_0_ok rfl) rfl
theorem dX5_read_92 : decode cX5_read 92 = .ok (.goto (-34), 3) := zo_167 (z_byk bcX5_read_60 60 32 _ bcX5_read_60_ok rfl) (z_byk bcX5_read_60 60 33 _ bcX5_read_60_ok rfl) (z_byk bcX5_read_60 60 34 _ bcX5_read_60_ok rfl) rfl
theorem dX5_read_95 : decode cX5_read 95 = .ok (.aload_n 0, 1) := zo_42 (z_byk bcX5_read_60 60 35 _ bcX5_read_60_ok rfl)
theorem dX5_read_96 : decode cX5_read 96 = .ok (.invokevirtual 68, 3) := zo_182 (z_byk bcX5_read_60 60 36 _ bcX5_read_60_ok rfl) (z_byk bcX5_read_60 60 37 _ bcX5_read_60_ok rfl) (z_byk bcX5_read_60 60 38 _ bcX5_read_60_ok rfl) rfl
theorem dX5_read_99 : decode cX5_read 99 = .ok (.aload_n 0, 1) := zo_42 (z_byk bcX5_read_60 60 39 _ bcX5_read_60_ok rfl)
set_option maxHeartbeats 4000000 in
set_option maxRecDepth 100000 in
theorem k_X9_has_v1 (l : Launch) (sa : Nat → Nat) (dC : Nat → ClassId) (dI : Nat → Nat → Nat) (p0 : Int32) (p1 : Int32) (b_p1 : 0 ≤ p1.toInt ∧ p1.toInt ≤ 9) (sz : Nat) : Met l yX9_has (.code yX9_has cX9_has 2 (some .boolean) :: zT) ({ frames := 0, cells := 0, slots := 0, locals := 0 }) (va_Pc [.int p0, .int p1] (zB sa dC dI [] [] sz)) (va_Qi (fun (r : Int32) (_ : Unit) => (0 ≤ r.toInt ∧ r.toInt ≤ 1) ∧ r.toInt = zbt p0 (Int32.toNatClampNeg p1)) (fun _ t => zW dC dI [] [] (va_A [] sz) t) (va_A [] sz)) 0 0 (va_A [] sz) := by
  refine z_enter (by decide) (by exact (Nat.le_of_ble_eq_true rfl)) ?_
  intro p e s m args below meth c ls A R Qc hargs hsz hQe hAe hRe hx hb hml hr hts hown hlocks hin hl hP hK hD hN hXs hA hS
  rw [hAe] at hQe
  have hown : s.vm.findClass RX9 = some m.cls := hown
  have hl : lv_has ls 2 [(0, .int p0), (1, .int p1)] := hl
  refine lv_iload_n hx hb dX9_has_0 rfl (lv_at hl 0 rfl) ?_
  refine lv_iload_n hx hb dX9_has_1 rfl (lv_at hl 1 rfl) ?_
  refine lv_ishr hx hb dX9_has_2 ?_
  refine lv_topi (fun x_1 ex_1 => ?_)
  refine lv_iconst (v := 1) hx hb dX9_has_3 (by decide) ?_
  refine lv_iand hx hb dX9_has_4 ?_
  refine lv_topi (fun x_2 ex_2 => ?_)
  have b_x_2 : 0 ≤ x_2.toInt ∧ x_2.toInt ≤ 1 := by rw [ex_2]; exact zi_andR (show Int32.toInt 1 = 1 from by decide) (by first | with_reducible assumption | omega) (by first | with_reducible assumption | omega)
  have hzb := zbt_has ex_1 ex_2 (by first | with_reducible assumption | omega)
  refine lv_if_eq (tgt := 12) hx hb dX9_has_5 (by decide) (fun c_3 => ?_) (fun c_3 => ?_)
  · have ic_3 := zz_eq rfl (show Int32.toInt 0 = 0 from by decide) c_3
    refine lv_iconst (v := 0) hx hb dX9_has_12 (by decide) ?_
    have zc : Int32.toInt 0 = 0 := by decide
    exact W.zret (v := 0) hx hb hr (by decide) (fun t ht hW => by rw [← hQe]; exact ⟨⟨0, (), rfl, (by first | decide | omega), z_ret hP hK hD ht hW [] [] rfl (by decide) rfl⟩, hS.F ht⟩) hS.2.2 dX9_has_13
  · have ic_3 := zz_neq rfl (show Int32.toInt 0 = 0 from by decide) c_3
    refine lv_iconst (v := 1) hx hb dX9_has_8 (by decide) ?_
    refine lv_goto (tgt := 13) hx hb dX9_has_9 (by decide) ?_
    have zc : Int32.toInt 1 = 1 := by decide
    exact W.zret (v := 1) hx hb hr (by decide) (fun t ht hW => by rw [← hQe]; exact ⟨⟨1, (), rfl, (by first | decide | omega), z_ret hP hK hD ht hW [] [] rfl (by decide) rfl⟩, hS.F ht⟩) hS.2.2 dX9_has_13
