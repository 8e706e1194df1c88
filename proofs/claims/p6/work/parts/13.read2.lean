set_option linter.all false
theorem zw_s1_15 : Cond.selects RX5 yX5_placeFrom yX5_placeFrom ∈ zT := zs_1 (List.mem_of_getElem? (i := 15) (by decide +kernel))
theorem zw_s1_2 : Cond.selects RX5 yX5_addToken yX5_addToken ∈ zT := zs_1 (List.mem_of_getElem? (i := 2) (by decide +kernel))
theorem zw_s2_0 : Cond.selects RX5 yX5_readStrays yX5_readStrays ∈ zT := zs_2 (List.mem_of_getElem? (i := 0) (by decide +kernel))
theorem zw_t3_131 : Cond.methodLink RX5 194 yX5_placeFrom ∈ zT := zt_3 (List.mem_of_getElem? (i := 131) (by decide +kernel)) (by decide +kernel)
theorem zw_t3_133 : Cond.instanceMethod yX5_placeFrom ∈ zT := zt_3 (List.mem_of_getElem? (i := 133) (by decide +kernel)) (by decide +kernel)
theorem zw_t3_134 : Cond.code yX5_placeFrom cX5_placeFrom 4 none ∈ zT := zt_3 (List.mem_of_getElem? (i := 134) (by decide +kernel)) (by decide +kernel)
theorem zw_t3_137 : Cond.methodLink RX5 201 yX5_readStrays ∈ zT := zt_3 (List.mem_of_getElem? (i := 137) (by decide +kernel)) (by decide +kernel)
theorem zw_t3_139 : Cond.instanceMethod yX5_readStrays ∈ zT := zt_3 (List.mem_of_getElem? (i := 139) (by decide +kernel)) (by decide +kernel)
theorem zw_t3_140 : Cond.code yX5_readStrays cX5_readStrays 1 none ∈ zT := zt_3 (List.mem_of_getElem? (i := 140) (by decide +kernel)) (by decide +kernel)
theorem zw_t3_16 : Cond.methodLink RX5 74 yX5_kindOf ∈ zT := zt_3 (List.mem_of_getElem? (i := 16) (by decide +kernel)) (by decide +kernel)
theorem zw_t3_17 : Cond.static yX5_kindOf ∈ zT := zt_3 (List.mem_of_getElem? (i := 17) (by decide +kernel)) (by decide +kernel)
theorem zw_t3_18 : Cond.code yX5_kindOf cX5_kindOf 1 (some .int) ∈ zT := zt_3 (List.mem_of_getElem? (i := 18) (by decide +kernel)) (by decide +kernel)
theorem zw_t3_19 : Cond.methodLink RX5 78 yX5_addToken ∈ zT := zt_3 (List.mem_of_getElem? (i := 19) (by decide +kernel)) (by decide +kernel)
theorem zw_t3_21 : Cond.instanceMethod yX5_addToken ∈ zT := zt_3 (List.mem_of_getElem? (i := 21) (by decide +kernel)) (by decide +kernel)
theorem zw_t3_22 : Cond.code yX5_addToken cX5_addToken 3 none ∈ zT := zt_3 (List.mem_of_getElem? (i := 22) (by decide +kernel)) (by decide +kernel)
theorem zw_t3_23 : Cond.constant RX5 82 (100000) ∈ zT := zt_3 (List.mem_of_getElem? (i := 23) (by decide +kernel)) (by decide +kernel)
theorem zw_t3_9 : Cond.methodLink RX5 35 Lib.Math.min.name ∈ zT := zt_3 (List.mem_of_getElem? (i := 9) (by decide +kernel)) (by decide +kernel)
def bcX5_readPerson_0 : List Nat := [42, 180, 0, 31, 180, 0, 190, 16, 10, 161, 0, 9, 42, 6, 182, 0, 109, 177, 42, 182, 0, 112, 42, 18, 193, 182, 0, 150, 42, 3, 42, 182, 0, 160, 182, 0, 194, 3, 60, 3, 61, 28, 16, 48, 162, 0, 61, 42, 180, 0, 45, 154, 0, 54, 42, 18, 197, 182, 0, 105]
theorem bcX5_readPerson_0_ok : z_bys cX5_readPerson 0 bcX5_readPerson_0 = true := by decide +kernel
def bcX5_readPerson_60 : List Nat := [153, 0, 45, 42, 182, 0, 112, 42, 27, 4, 96, 42, 180, 0, 31, 180, 0, 156, 4, 100, 182, 0, 115, 60, 42, 18, 193, 182, 0, 150, 42, 27, 42, 182, 0, 160, 182, 0, 194, 132, 2, 1, 167, 255, 195, 42, 180, 0, 45, 154, 0, 16, 42, 18, 199, 182, 0, 105, 153, 0]
theorem bcX5_readPerson_60_ok : z_bys cX5_readPerson 60 bcX5_readPerson_60 = true := by decide +kernel
def bcX5_readPerson_120 : List Nat := [7, 42, 182, 0, 201, 42, 180, 0, 31, 89, 180, 0, 190, 4, 96, 181, 0, 190, 177]
theorem bcX5_readPerson_120_ok : z_bys cX5_readPerson 120 bcX5_readPerson_120 = true := by decide +kernel
theorem dX5_readPerson_0 : decode cX5_readPerson 0 = .ok (.aload_n 0, 1) := zo_42 (z_byk bcX5_readPerson_0 0 0 _ bcX5_readPerson_0_ok rfl)
theorem dX5_readPerson_1 : decode cX5_readPerson 1 = .ok (.getfield 31, 3) := zo_180 (z_byk bcX5_readPerson_0 0 1 _ bcX5_readPerson_0_ok rfl) (z_byk bcX5_readPerson_0 0 2 _ bcX5_readPerson_0_ok rfl) (z_byk bcX5_readPerson_0 0 3 _ bcX5_readPerson_0_ok rfl) rfl
theorem dX5_readPerson_102 : decode cX5_readPerson 102 = .ok (.goto (-61), 3) := zo_167 (z_byk bcX5_readPerson_60 60 42 _ bcX5_readPerson_60_ok rfl) (z_byk bcX5_readPerson_60 60 43 _ bcX5_readPerson_60_ok rfl) (z_byk bcX5_readPerson_60 60 44 _ bcX5_readPerson_60_ok rfl) rfl
theorem dX5_readPerson_105 : decode cX5_readPerson 105 = .ok (.aload_n 0, 1) := zo_42 (z_byk bcX5_readPerson_60 60 45 _ bcX5_readPerson_60_ok rfl)
theorem dX5_readPerson_106 : decode cX5_readPerson 106 = .ok (.getfield 45, 3) := zo_180 (z_byk bcX5_readPerson_60 60 46 _ bcX5_readPerson_60_ok rfl) (z_byk bcX5_readPerson_60 60 47 _ bcX5_readPerson_60_ok rfl) (z_byk bcX5_readPerson_60 60 48 _ bcX5_readPerson_60_ok rfl) rfl
theorem dX5_readPerson_109 : decode cX5_readPerson 109 = .ok (.ifCond .ne 16, 3) := zo_154 (z_byk bcX5_readPerson_60 60 49 _ bcX5_readPerson_60_ok rfl) (z_byk bcX5_readPerson_60 60 50 _ bcX5_readPerson_60_ok rfl) (z_byk bcX5_readPerson_60 60 51 _ bcX5_readPerson_60_ok rfl) rfl
theorem dX5_readPerson_112 : decode cX5_readPerson 112 = .ok (.aload_n 0, 1) := zo_42 (z_byk bcX5_readPerson_60 60 52 _ bcX5_readPerson_60_ok rfl)
theorem dX5_readPerson_113 : decode cX5_readPerson 113 = .ok (.ldc 199, 2) := zo_18 (z_byk bcX5_readPerson_60 60 53 _ bcX5_readPerson_60_ok rfl) (z_byk bcX5_readPerson_60 60 54 _ bcX5_readPerson_60_ok rfl)
theorem dX5_readPerson_115 : decode cX5_readPerson 115 = .ok (.invokevirtual 105, 3) := zo_182 (z_byk bcX5_readPerson_60 60 55 _ bcX5_readPerson_60_ok rfl) (z_byk bcX5_readPerson_60 60 56 _ bcX5_readPerson_60_ok rfl) (z_byk bcX5_readPerson_60 60 57 _ bcX5_readPerson_60_ok rfl) rfl
theorem dX5_readPerson_118 : decode cX5_readPerson 118 = .ok (.ifCond .eq 7, 3) := zo_153 (z_byk bcX5_readPerson_60 60 58 _ bcX5_readPerson_60_ok rfl) (z_byk bcX5_readPerson_60 60 59 _ bcX5_readPerson_60_ok rfl) (z_byk bcX5_readPerson_120 120 0 _ bcX5_readPerson_120_ok rfl) rfl
theorem dX5_readPerson_12 : decode cX5_readPerson 12 = .ok (.aload_n 0, 1) := zo_42 (z_byk bcX5_readPerson_0 0 12 _ bcX5_readPerson_0_ok rfl)
theorem dX5_readPerson_121 : decode cX5_readPerson 121 = .ok (.aload_n 0, 1) := zo_42 (z_byk bcX5_readPerson_120 120 1 _ bcX5_readPerson_120_ok rfl)
theorem dX5_readPerson_122 : decode cX5_readPerson 122 = .ok (.invokevirtual 201, 3) := zo_182 (z_byk bcX5_readPerson_120 120 2 _ bcX5_readPerson_120_ok rfl) (z_byk bcX5_readPerson_120 120 3 _ bcX5_readPerson_120_ok rfl) (z_byk bcX5_readPerson_120 120 4 _ bcX5_readPerson_120_ok rfl) rfl
theorem dX5_readPerson_125 : decode cX5_readPerson 125 = .ok (.aload_n 0, 1) := zo_42 (z_byk bcX5_readPerson_120 120 5 _ bcX5_readPerson_120_ok rfl)
theorem dX5_readPerson_126 : decode cX5_readPerson 126 = .ok (.getfield 31, 3) := zo_180 (z_byk bcX5_readPerson_120 120 6 _ bcX5_readPerson_120_ok rfl) (z_byk bcX5_readPerson_120 120 7 _ bcX5_readPerson_120_ok rfl) (z_byk bcX5_readPerson_120 120 8 _ bcX5_readPerson_120_ok rfl) rfl
theorem dX5_readPerson_129 : decode cX5_readPerson 129 = .ok (.dup, 1) := zo_89 (z_byk bcX5_readPerson_120 120 9 _ bcX5_readPerson_120_ok rfl)
theorem dX5_readPerson_13 : decode cX5_readPerson 13 = .ok (.iconst 3, 1) := zo_6 (z_byk bcX5_readPerson_0 0 13 _ bcX5_readPerson_0_ok rfl)
theorem dX5_readPerson_130 : decode cX5_readPerson 130 = .ok (.getfield 190, 3) := zo_180 (z_byk bcX5_readPerson_120 120 10 _ bcX5_readPerson_120_ok rfl) (z_byk bcX5_readPerson_120 120 11 _ bcX5_readPerson_120_ok rfl) (z_byk bcX5_readPerson_120 120 12 _ bcX5_readPerson_120_ok rfl) rfl
theorem dX5_readPerson_133 : decode cX5_readPerson 133 = .ok (.iconst 1, 1) := zo_4 (z_byk bcX5_readPerson_120 120 13 _ bcX5_readPerson_120_ok rfl)
theorem dX5_readPerson_134 : decode cX5_readPerson 134 = .ok (.iadd, 1) := zo_96 (z_byk bcX5_readPerson_120 120 14 _ bcX5_readPerson_120_ok rfl)
theorem dX5_readPerson_135 : decode cX5_readPerson 135 = .ok (.putfield 190, 3) := zo_181 (z_byk bcX5_readPerson_120 120 15 _ bcX5_readPerson_120_ok rfl) (z_byk bcX5_readPerson_120 120 16 _ bcX5_readPerson_120_ok rfl) (z_byk bcX5_readPerson_120 120 17 _ bcX5_readPerson_120_ok rfl) rfl
theorem dX5_readPerson_138 : decode cX5_readPerson 138 = .ok (.return_, 1) := zo_177 (z_byk bcX5_readPerson_120 120 18 _ bcX5_readPerson_120_ok rfl)
theorem dX5_readPerson_14 : decode cX5_readPerson 14 = .ok (.invokevirtual 109, 3) := zo_182 (z_byk bcX5_readPerson_0 0 14 _ bcX5_readPerson_0_ok rfl) (z_byk bcX5_readPerson_0 0 15 _ bcX5_readPerson_0_ok rfl) (z_byk bcX5_readPerson_0 0 16 _ bcX5_readPerson_0_ok rfl) rfl
theorem dX5_readPerson_17 : decode cX5_readPerson 17 = .ok (.return_, 1) := zo_177 (z_byk bcX5_readPerson_0 0 17 _ bcX5_readPerson_0_ok rfl)
theorem dX5_readPerson_18 : decode cX5_readPerson 18 = .ok (.aload_n 0, 1) := zo_42 (z_byk bcX5_readPerson_0 0 18 _ bcX5_readPerson_0_ok rfl)
theorem dX5_readPerson_19 : decode cX5_readPerson 19 = .ok (.invokevirtual 112, 3) := zo_182 (z_byk bcX5_readPerson_0 0 19 _ bcX5_readPerson_0_ok rfl) (z_byk bcX5_readPerson_0 0 20 _ bcX5_readPerson_0_ok rfl) (z_byk bcX5_readPerson_0 0 21 _ bcX5_readPerson_0_ok rfl) rfl
theorem dX5_readPerson_22 : decode cX5_readPerson 22 = .ok (.aload_n 0, 1) := zo_42 (z_byk bcX5_readPerson_0 0 22 _ bcX5_readPerson_0_ok rfl)
theorem dX5_readPerson_23 : decode cX5_readPerson 23 = .ok (.ldc 193, 2) := zo_18 (z_byk bcX5_readPerson_0 0 23 _ bcX5_readPerson_0_ok rfl) (z_byk bcX5_readPerson_0 0 24 _ bcX5_readPerson_0_ok rfl)
theorem dX5_readPerson_25 : decode cX5_readPerson 25 = .ok (.invokevirtual 150, 3) := zo_182 (z_byk bcX5_readPerson_0 0 25 _ bcX5_readPerson_0_ok rfl) (z_byk bcX5_readPerson_0 0 26 _ bcX5_readPerson_0_ok rfl) (z_byk bcX5_readPerson_0 0 27 _ bcX5_readPerson_0_ok rfl) rfl
theorem dX5_readPerson_28 : decode cX5_readPerson 28 = .ok (.aload_n 0, 1) := zo_42 (z_byk bcX5_readPerson_0 0 28 _ bcX5_readPerson_0_ok rfl)
theorem dX5_readPerson_29 : decode cX5_readPerson 29 = .ok (.iconst 0, 1) := zo_3 (z_byk bcX5_readPerson_0 0 29 _ bcX5_readPerson_0_ok rfl)
theorem dX5_readPerson_30 : decode cX5_readPerson 30 = .ok (.aload_n 0, 1) := zo_42 (z_byk bcX5_readPerson_0 0 30 _ bcX5_readPerson_0_ok rfl)
theorem dX5_readPerson_31 : decode cX5_readPerson 31 = .ok (.invokevirtual 160, 3) := zo_182 (z_byk bcX5_readPerson_0 0 31 _ bcX5_readPerson_0_ok rfl) (z_byk bcX5_readPerson_0 0 32 _ bcX5_readPerson_0_ok rfl) (z_byk bcX5_readPerson_0 0 33 _ bcX5_readPerson_0_ok rfl) rfl
theorem dX5_readPerson_34 : decode cX5_readPerson 34 = .ok (.invokevirtual 194, 3) := zo_182 (z_byk bcX5_readPerson_0 0 34 _ bcX5_readPerson_0_ok rfl) (z_byk bcX5_readPerson_0 0 35 _ bcX5_readPerson_0_ok rfl) (z_byk bcX5_readPerson_0 0 36 _ bcX5_readPerson_0_ok rfl) rfl
theorem dX5_readPerson_37 : decode cX5_readPerson 37 = .ok (.iconst 0, 1) := zo_3 (z_byk bcX5_readPerson_0 0 37 _ bcX5_readPerson_0_ok rfl)
theorem dX5_readPerson_38 : decode cX5_readPerson 38 = .ok (.istore_n 1, 1) := zo_60 (z_byk bcX5_readPerson_0 0 38 _ bcX5_readPerson_0_ok rfl)
theorem dX5_readPerson_39 : decode cX5_readPerson 39 = .ok (.iconst 0, 1) := zo_3 (z_byk bcX5_readPerson_0 0 39 _ bcX5_readPerson_0_ok rfl)
theorem dX5_readPerson_4 : decode cX5_readPerson 4 = .ok (.getfield 190, 3) := zo_180 (z_byk bcX5_readPerson_0 0 4 _ bcX5_readPerson_0_ok rfl) (z_byk bcX5_readPerson_0 0 5 _ bcX5_readPerson_0_ok rfl) (z_byk bcX5_readPerson_0 0 6 _ bcX5_readPerson_0_ok rfl) rfl
theorem dX5_readPerson_40 : decode cX5_readPerson 40 = .ok (.istore_n 2, 1) := zo_61 (z_byk bcX5_readPerson_0 0 40 _ bcX5_readPerson_0_ok rfl)
theorem dX5_readPerson_41 : decode cX5_readPerson 41 = .ok (.iload_n 2, 1) := zo_28 (z_byk bcX5_readPerson_0 0 41 _ bcX5_readPerson_0_ok rfl)
theorem dX5_readPerson_42 : decode cX5_readPerson 42 = .ok (.bipush 48, 2) := zo_16 (z_byk bcX5_readPerson_0 0 42 _ bcX5_readPerson_0_ok rfl) (z_byk bcX5_readPerson_0 0 43 _ bcX5_readPerson_0_ok rfl) rfl
theorem dX5_readPerson_44 : decode cX5_readPerson 44 = .ok (.if_icmp .ge 61, 3) := zo_162 (z_byk bcX5_readPerson_0 0 44 _ bcX5_readPerson_0_ok rfl) (z_byk bcX5_readPerson_0 0 45 _ bcX5_readPerson_0_ok rfl) (z_byk bcX5_readPerson_0 0 46 _ bcX5_readPerson_0_ok rfl) rfl
theorem dX5_readPerson_47 : decode cX5_readPerson 47 = .ok (.aload_n 0, 1) := zo_42 (z_byk bcX5_readPerson_0 0 47 _ bcX5_readPerson_0_ok rfl)
theorem dX5_readPerson_48 : decode cX5_readPerson 48 = .ok (.getfield 45, 3) := zo_180 (z_byk bcX5_readPerson_0 0 48 _ bcX5_readPerson_0_ok rfl) (z_byk bcX5_readPerson_0 0 49 _ bcX5_readPerson_0_ok rfl) (z_byk bcX5_readPerson_0 0 50 _ bcX5_readPerson_0_ok rfl) rfl
theorem dX5_readPerson_51 : decode cX5_readPerson 51 = .ok (.ifCond .ne 54, 3) := zo_154 (z_byk bcX5_readPerson_0 0 51 _ bcX5_readPerson_0_ok rfl) (z_byk bcX5_readPerson_0 0 52 _ bcX5_readPerson_0_ok rfl) (z_byk bcX5_readPerson_0 0 53 _ bcX5_readPerson_0_ok rfl) rfl
theorem dX5_readPerson_54 : decode cX5_readPerson 54 = .ok (.aload_n 0, 1) := zo_42 (z_byk bcX5_readPerson_0 0 54 _ bcX5_readPerson_0_ok rfl)
theorem dX5_readPerson_55 : decode cX5_readPerson 55 = .ok (.ldc 197, 2) := zo_18 (z_byk bcX5_readPerson_0 0 55 _ bcX5_readPerson_0_ok rfl) (z_byk bcX5_readPerson_0 0 56 _ bcX5_readPerson_0_ok rfl)
theorem dX5_readPerson_57 : decode cX5_readPerson 57 = .ok (.invokevirtual 105, 3) := zo_182 (z_byk bcX5_readPerson_0 0 57 _ bcX5_readPerson_0_ok rfl) (z_byk bcX5_readPerson_0 0 58 _ bcX5_readPerson_0_ok rfl) (z_byk bcX5_readPerson_0 0 59 _ bcX5_readPerson_0_ok rfl) rfl
theorem dX5_readPerson_60 : decode cX5_readPerson 60 = .ok (.ifCond .eq 45, 3) := zo_153 (z_byk bcX5_readPerson_60 60 0 _ bcX5_readPerson_60_ok rfl) (z_byk bcX5_readPerson_60 60 1 _ bcX5_readPerson_60_ok rfl) (z_byk bcX5_readPerson_60 60 2 _ bcX5_readPerson_60_ok rfl) rfl
theorem dX5_readPerson_63 : decode cX5_readPerson 63 = .ok (.aload_n 0, 1) := zo_42 (z_byk bcX5_readPerson_60 60 3 _ bcX5_readPerson_60_ok rfl)
theorem dX5_readPerson_64 : decode cX5_readPerson 64 = .ok (.invokevirtual 112, 3) := zo_182 (z_byk bcX5_readPerson_60 60 4 _ bcX5_readPerson_60_ok rfl) (z_byk bcX5_readPerson_60 60 5 _ bcX5_readPerson_60_ok rfl) (z_byk bcX5_readPerson_60 60 6 _ bcX5_readPerson_60_ok rfl) rfl
theorem dX5_readPerson_67 : decode cX5_readPerson 67 = .ok (.aload_n 0, 1) := zo_42 (z_byk bcX5_readPerson_60 60 7 _ bcX5_readPerson_60_ok rfl)
theorem dX5_readPerson_68 : decode cX5_readPerson 68 = .ok (.iload_n 1, 1) := zo_27 (z_byk bcX5_readPerson_60 60 8 _ bcX5_readPerson_60_ok rfl)
theorem dX5_readPerson_69 : decode cX5_readPerson 69 = .ok (.iconst 1, 1) := zo_4 (z_byk bcX5_readPerson_60 60 9 _ bcX5_readPerson_60_ok rfl)
theorem dX5_readPerson_7 : decode cX5_readPerson 7 = .ok (.bipush 10, 2) := zo_16 (z_byk bcX5_readPerson_0 0 7 _ bcX5_readPerson_0_ok rfl) (z_byk bcX5_readPerson_0 0 8 _ bcX5_readPerson_0_ok rfl) rfl
theorem dX5_readPerson_70 : decode cX5_readPerson 70 = .ok (.iadd, 1) := zo_96 (z_byk bcX5_readPerson_60 60 10 _ bcX5_readPerson_60_ok rfl)
theorem dX5_readPerson_71 : decode cX5_readPerson 71 = .ok (.aload_n 0, 1) := zo_42 (z_byk bcX5_readPerson_60 60 11 _ bcX5_readPerson_60_ok rfl)
theorem dX5_readPerson_72 : decode cX5_readPerson 72 = .ok (.getfield 31, 3) := zo_180 (z_byk bcX5_readPerson_60 60 12 _ bcX5_readPerson_60_ok rfl) (z_byk bcX5_readPerson_60 60 13 _ bcX5_readPerson_60_ok rfl) (z_byk bcX5_readPerson_60 60 14 _ bcX5_readPerson_60_ok rfl) rfl
theorem dX5_readPerson_75 : decode cX5_readPerson 75 = .ok (.getfield 156, 3) := zo_180 (z_byk bcX5_readPerson_60 60 15 _ bcX5_readPerson_60_ok rfl) (z_byk bcX5_readPerson_60 60 16 _ bcX5_readPerson_60_ok rfl) (z_byk bcX5_readPerson_60 60 17 _ bcX5_readPerson_60_ok rfl) rfl
theorem dX5_readPerson_78 : decode cX5_readPerson 78 = .ok (.iconst 1, 1) := zo_4 (z_byk bcX5_readPerson_60 60 18 _ bcX5_readPerson_60_ok rfl)
theorem dX5_readPerson_79 : decode cX5_readPerson 79 = .ok (.isub, 1) := zo_100 (z_byk bcX5_readPerson_60 60 19 _ bcX5_readPerson_60_ok rfl)
theorem dX5_readPerson_80 : decode cX5_readPerson 80 = .ok (.invokevirtual 115, 3) := zo_182 (z_byk bcX5_readPerson_60 60 20 _ bcX5_readPerson_60_ok rfl) (z_byk bcX5_readPerson_60 60 21 _ bcX5_readPerson_60_ok rfl) (z_byk bcX5_readPerson_60 60 22 _ bcX5_readPerson_60_ok rfl) rfl
theorem dX5_readPerson_83 : decode cX5_readPerson 83 = .ok (.istore_n 1, 1) := zo_60 (z_byk bcX5_readPerson_60 60 23 _ bcX5_readPerson_60_ok rfl)
theorem dX5_readPerson_84 : decode cX5_readPerson 84 = .ok (.aload_n 0, 1) := zo_42 (z_byk bcX5_readPerson_60 60 24 _ bcX5_readPerson_60_ok rfl)
theorem dX5_readPerson_85 : decode cX5_readPerson 85 = .ok (.ldc 193, 2) := zo_18 (z_byk bcX5_readPerson_60 60 25 _ bcX5_readPerson_60_ok rfl) (z_byk bcX5_readPerson_60 60 26 _ bcX5_readPerson_60_ok rfl)
theorem dX5_readPerson_87 : decode cX5_readPerson 87 = .ok (.invokevirtual 150, 3) := zo_182 (z_byk bcX5_readPerson_60 60 27 _ bcX5_readPerson_60_ok rfl) (z_byk bcX5_readPerson_60 60 28 _ bcX5_readPerson_60_ok rfl) (z_byk bcX5_readPerson_60 60 29 _ bcX5_readPerson_60_ok rfl) rfl
theorem dX5_readPerson_9 : decode cX5_readPerson 9 = .ok (.if_icmp .lt 9, 3) := zo_161 (z_byk bcX5_readPerson_0 0 9 _ bcX5_readPerson_0_ok rfl) (z_byk bcX5_readPerson_0 0 10 _ bcX5_readPerson_0_ok rfl) (z_byk bcX5_readPerson_0 0 11 _ bcX5_readPerson_0_ok rfl) rfl
theorem dX5_readPerson_90 : decode cX5_readPerson 90 = .ok (.aload_n 0, 1) := zo_42 (z_byk bcX5_readPerson_60 60 30 _ bcX5_readPerson_60_ok rfl)
theorem dX5_readPerson_91 : decode cX5_readPerson 91 = .ok (.iload_n 1, 1) := zo_27 (z_byk bcX5_readPerson_60 60 31 _ bcX5_readPerson_60_ok rfl)
theorem dX5_readPerson_92 : decode cX5_readPerson 92 = .ok (.aload_n 0, 1) := zo_42 (z_byk bcX5_readPerson_60 60 32 _ bcX5_readPerson_60_ok rfl)
theorem dX5_readPerson_93 : decode cX5_readPerson 93 = .ok (.invokevirtual 160, 3) := zo_182 (z_byk bcX5_readPerson_60 60 33 _ bcX5_readPerson_60_ok rfl) (z_byk bcX5_readPerson_60 60 34 _ bcX5_readPerson_60_ok rfl) (z_byk bcX5_readPerson_60 60 35 _ bcX5_readPerson_60_ok rfl) rfl
theorem dX5_readPerson_96 : decode cX5_readPerson 96 = .ok (.invokevirtual 194, 3) := zo_182 (z_byk bcX5_readPerson_60 60 36 _ bcX5_readPerson_60_ok rfl) (z_byk bcX5_readPerson_60 60 37 _ bcX5_readPerson_60_ok rfl) (z_byk bcX5_readPerson_60 60 38 _ bcX5_readPerson_60_ok rfl) rfl
theorem dX5_readPerson_99 : decode cX5_readPerson 99 = .ok (.iinc 2 1, 3) := zo_132 (z_byk bcX5_readPerson_60 60 39 _ bcX5_readPerson_60_ok rfl) (z_byk bcX5_readPerson_60 60 40 _ bcX5_readPerson_60_ok rfl) (z_byk bcX5_readPerson_60 60 41 _ bcX5_readPerson_60_ok rfl) rfl
def bcX5_split_0 : List Nat := [42, 3, 181, 0, 71, 3, 61, 3, 62, 29, 27, 162, 0, 130, 42, 180, 0, 9, 29, 51, 184, 0, 74, 54, 4, 21, 4, 28, 160, 0, 19, 21, 4, 4, 159, 0, 9, 21, 4, 5, 160, 0, 7, 4, 167, 0, 4, 3, 54, 5, 21, 4, 153, 0, 15, 21, 5, 154, 0, 10]
theorem bcX5_split_0_ok : z_bys cX5_split 0 bcX5_split_0 = true := by decide +kernel
def bcX5_split_60 : List Nat := [42, 21, 4, 29, 182, 0, 78, 21, 4, 153, 0, 17, 42, 180, 0, 22, 42, 180, 0, 71, 4, 100, 29, 4, 96, 79, 21, 4, 5, 160, 0, 43, 42, 180, 0, 25, 42, 180, 0, 71, 4, 100, 42, 180, 0, 25, 42, 180, 0, 71, 4, 100, 46, 16, 10, 104, 42, 180, 0, 9]
theorem bcX5_split_60_ok : z_bys cX5_split 60 bcX5_split_60 = true := by decide +kernel
def bcX5_split_120 : List Nat := [29, 51, 96, 16, 48, 100, 18, 82, 184, 0, 35, 79, 21, 4, 61, 132, 3, 1, 167, 255, 127, 42, 180, 0, 15, 42, 180, 0, 71, 8, 79, 42, 180, 0, 19, 42, 180, 0, 71, 27, 79, 177]
theorem bcX5_split_120_ok : z_bys cX5_split 120 bcX5_split_120 = true := by decide +kernel
theorem dX5_split_0 : decode cX5_split 0 = .ok (.aload_n 0, 1) := zo_42 (z_byk bcX5_split_0 0 0 _ bcX5_split_0_ok rfl)
theorem dX5_split_1 : decode cX5_split 1 = .ok (.iconst 0, 1) := zo_3 (z_byk bcX5_split_0 0 1 _ bcX5_split_0_ok rfl)
theorem dX5_split_10 : decode cX5_split 10 = .ok (.iload_n 1, 1) := zo_27 (z_byk bcX5_split_0 0 10 _ bcX5_split_0_ok rfl)
theorem dX5_split_100 : decode cX5_split 100 = .ok (.iconst 1, 1) := zo_4 (z_byk bcX5_split_60 60 40 _ bcX5_split_60_ok rfl)
theorem dX5_split_101 : decode cX5_split 101 = .ok (.isub, 1) := zo_100 (z_byk bcX5_split_60 60 41 _ bcX5_split_60_ok rfl)
theorem dX5_split_102 : decode cX5_split 102 = .ok (.aload_n 0, 1) := zo_42 (z_byk bcX5_split_60 60 42 _ bcX5_split_60_ok rfl)
theorem dX5_split_103 : decode cX5_split 103 = .ok (.getfield 25, 3) := zo_180 (z_byk bcX5_split_60 60 43 _ bcX5_split_60_ok rfl) (z_byk bcX5_split_60 60 44 _ bcX5_split_60_ok rfl) (z_byk bcX5_split_60 60 45 _ bcX5_split_60_ok rfl) rfl
theorem dX5_split_106 : decode cX5_split 106 = .ok (.aload_n 0, 1) := zo_42 (z_byk bcX5_split_60 60 46 _ bcX5_split_60_ok rfl)
theorem dX5_split_107 : decode cX5_split 107 = .ok (.getfield 71, 3) := zo_180 (z_byk bcX5_split_60 60 47 _ bcX5_split_60_ok rfl) (z_byk bcX5_split_60 60 48 _ bcX5_split_60_ok rfl) (z_byk bcX5_split_60 60 49 _ bcX5_split_60_ok rfl) rfl
theorem dX5_split_11 : decode cX5_split 11 = .ok (.if_icmp .ge 130, 3) := zo_162 (z_byk bcX5_split_0 0 11 _ bcX5_split_0_ok rfl) (z_byk bcX5_split_0 0 12 _ bcX5_split_0_ok rfl) (z_byk bcX5_split_0 0 13 _ bcX5_split_0_ok rfl) rfl
theorem dX5_split_110 : decode cX5_split 110 = .ok (.iconst 1, 1) := zo_4 (z_byk bcX5_split_60 60 50 _ bcX5_split_60_ok rfl)
theorem dX5_split_111 : decode cX5_split 111 = .ok (.isub, 1) := zo_100 (z_byk bcX5_split_60 60 51 _ bcX5_split_60_ok rfl)
theorem dX5_split_112 : decode cX5_split 112 = .ok (.iaload, 1) := zo_46 (z_byk bcX5_split_60 60 52 _ bcX5_split_60_ok rfl)
theorem dX5_split_113 : decode cX5_split 113 = .ok (.bipush 10, 2) := zo_16 (z_byk bcX5_split_60 60 53 _ bcX5_split_60_ok rfl) (z_byk bcX5_split_60 60 54 _ bcX5_split_60_ok rfl) rfl
theorem dX5_split_115 : decode cX5_split 115 = .ok (.imul, 1) := zo_104 (z_byk bcX5_split_60 60 55 _ bcX5_split_60_ok rfl)
theorem dX5_split_116 : decode cX5_split 116 = .ok (.aload_n 0, 1) := zo_42 (z_byk bcX5_split_60 60 56 _ bcX5_split_60_ok rfl)
theorem dX5_split_117 : decode cX5_split 117 = .ok (.getfield 9, 3) := zo_180 (z_byk bcX5_split_60 60 57 _ bcX5_split_60_ok rfl) (z_byk bcX5_split_60 60 58 _ bcX5_split_60_ok rfl) (z_byk bcX5_split_60 60 59 _ bcX5_split_60_ok rfl) rfl
theorem dX5_split_120 : decode cX5_split 120 = .ok (.iload_n 3, 1) := zo_29 (z_byk bcX5_split_120 120 0 _ bcX5_split_120_ok rfl)
theorem dX5_split_121 : decode cX5_split 121 = .ok (.baload, 1) := zo_51 (z_byk bcX5_split_120 120 1 _ bcX5_split_120_ok rfl)
theorem dX5_split_122 : decode cX5_split 122 = .ok (.iadd, 1) := zo_96 (z_byk bcX5_split_120 120 2 _ bcX5_split_120_ok rfl)
theorem dX5_split_123 : decode cX5_split 123 = .ok (.bipush 48, 2) := zo_16 (z_byk bcX5_split_120 120 3 _ bcX5_split_120_ok rfl) (z_byk bcX5_split_120 120 4 _ bcX5_split_120_ok rfl) rfl
theorem dX5_split_125 : decode cX5_split 125 = .ok (.isub, 1) := zo_100 (z_byk bcX5_split_120 120 5 _ bcX5_split_120_ok rfl)
theorem dX5_split_126 : decode cX5_split 126 = .ok (.ldc 82, 2) := zo_18 (z_byk bcX5_split_120 120 6 _ bcX5_split_120_ok rfl) (z_byk bcX5_split_120 120 7 _ bcX5_split_120_ok rfl)
theorem dX5_split_128 : decode cX5_split 128 = .ok (.invokestatic 35, 3) := zo_184 (z_byk bcX5_split_120 120 8 _ bcX5_split_120_ok rfl) (z_byk bcX5_split_120 120 9 _ bcX5_split_120_ok rfl) (z_byk bcX5_split_120 120 10 _ bcX5_split_120_ok rfl) rfl
theorem dX5_split_131 : decode cX5_split 131 = .ok (.iastore, 1) := zo_79 (z_byk bcX5_split_120 120 11 _ bcX5_split_120_ok rfl)
theorem dX5_split_132 : decode cX5_split 132 = .ok (.iload 4, 2) := zo_21 (z_byk bcX5_split_120 120 12 _ bcX5_split_120_ok rfl) (z_byk bcX5_split_120 120 13 _ bcX5_split_120_ok rfl)
theorem dX5_split_134 : decode cX5_split 134 = .ok (.istore_n 2, 1) := zo_61 (z_byk bcX5_split_120 120 14 _ bcX5_split_120_ok rfl)
theorem dX5_split_135 : decode cX5_split 135 = .ok (.iinc 3 1, 3) := zo_132 (z_byk bcX5_split_120 120 15 _ bcX5_split_120_ok rfl) (z_byk bcX5_split_120 120 16 _ bcX5_split_120_ok rfl) (z_byk bcX5_split_120 120 17 _ bcX5_split_120_ok rfl) rfl
theorem dX5_split_138 : decode cX5_split 138 = .ok (.goto (-129), 3) := zo_167 (z_byk bcX5_split_120 120 18 _ bcX5_split_120_ok rfl) (z_byk bcX5_split_120 120 19 _ bcX5_split_120_ok rfl) (z_byk bcX5_split_120 120 20 _ bcX5_split_120_ok rfl) rfl
theorem dX5_split_14 : decode cX5_split 14 = .ok (.aload_n 0, 1) := zo_42 (z_byk bcX5_split_0 0 14 _ bcX5_split_0_ok rfl)
theorem dX5_split_141 : decode cX5_split 141 = .ok (.aload_n 0, 1) := zo_42 (z_byk bcX5_split_120 120 21 _ bcX5_split_120_ok rfl)
theorem dX5_split_142 : decode cX5_split 142 = .ok (.getfield 15, 3) := zo_180 (z_byk bcX5_split_120 120 22 _ bcX5_split_120_ok rfl) (z_byk bcX5_split_120 120 23 _ bcX5_split_120_ok rfl) (z_byk bcX5_split_120 120 24 _ bcX5_split_120_ok rfl) rfl
theorem dX5_split_145 : decode cX5_split 145 = .ok (.aload_n 0, 1) := zo_42 (z_byk bcX5_split_120 120 25 _ bcX5_split_120_ok rfl)
theorem dX5_split_146 : decode cX5_split 146 = .ok (.getfield 71, 3) := zo_180 (z_byk bcX5_split_120 120 26 _ bcX5_split_120_ok rfl) (z_byk bcX5_split_120 120 27 _ bcX5_split_120_ok rfl) (z_byk bcX5_split_120 120 28 _ bcX5_split_120_ok rfl) rfl
theorem dX5_split_149 : decode cX5_split 149 = .ok (.iconst 5, 1) := zo_8 (z_byk bcX5_split_120 120 29 _ bcX5_split_120_ok rfl)
theorem dX5_split_15 : decode cX5_split 15 = .ok (.getfield 9, 3) := zo_180 (z_byk bcX5_split_0 0 15 _ bcX5_split_0_ok rfl) (z_byk bcX5_split_0 0 16 _ bcX5_split_0_ok rfl) (z_byk bcX5_split_0 0 17 _ bcX5_split_0_ok rfl) rfl
theorem dX5_split_150 : decode cX5_split 150 = .ok (.iastore, 1) := zo_79 (z_byk bcX5_split_120 120 30 _ bcX5_split_120_ok rfl)
theorem dX5_split_151 : decode cX5_split 151 = .ok (.aload_n 0, 1) := zo_42 (z_byk bcX5_split_120 120 31 _ bcX5_split_120_ok rfl)
theorem dX5_split_152 : decode cX5_split 152 = .ok (.getfield 19, 3) := zo_180 (z_byk bcX5_split_120 120 32 _ bcX5_split_120_ok rfl) (z_byk bcX5_split_120 120 33 _ bcX5_split_120_ok rfl) (z_byk bcX5_split_120 120 34 _ bcX5_split_120_ok rfl) rfl
theorem dX5_split_155 : decode cX5_split 155 = .ok (.aload_n 0, 1) := zo_42 (z_byk bcX5_split_120 120 35 _ bcX5_split_120_ok rfl)
theorem dX5_split_156 : decode cX5_split 156 = .ok (.getfield 71, 3) := zo_180 (z_byk bcX5_split_120 120 36 _ bcX5_split_120_ok rfl) (z_byk bcX5_split_120 120 37 _ bcX5_split_120_ok rfl) (z_byk bcX5_split_120 120 38 _ bcX5_split_120_ok rfl) rfl
theorem dX5_split_159 : decode cX5_split 159 = .ok (.iload_n 1, 1) := zo_27 (z_byk bcX5_split_120 120 39 _ bcX5_split_120_ok rfl)
theorem dX5_split_160 : decode cX5_split 160 = .ok (.iastore, 1) := zo_79 (z_byk bcX5_split_120 120 40 _ bcX5_split_120_ok rfl)
theorem dX5_split_161 : decode cX5_split 161 = .ok (.return_, 1) := zo_177 (z_byk bcX5_split_120 120 41 _ bcX5_split_120_ok rfl)
theorem dX5_split_18 : decode cX5_split 18 = .ok (.iload_n 3, 1) := zo_29 (z_byk bcX5_split_0 0 18 _ bcX5_split_0_ok rfl)
theorem dX5_split_19 : decode cX5_split 19 = .ok (.baload, 1) := zo_51 (z_byk bcX5_split_0 0 19 _ bcX5_split_0_ok rfl)
theorem dX5_split_2 : decode cX5_split 2 = .ok (.putfield 71, 3) := zo_181 (z_byk bcX5_split_0 0 2 _ bcX5_split_0_ok rfl) (z_byk bcX5_split_0 0 3 _ bcX5_split_0_ok rfl) (z_byk bcX5_split_0 0 4 _ bcX5_split_0_ok rfl) rfl
theorem dX5_split_20 : decode cX5_split 20 = .ok (.invokestatic 74, 3) := zo_184 (z_byk bcX5_split_0 0 20 _ bcX5_split_0_ok rfl) (z_byk bcX5_split_0 0 21 _ bcX5_split_0_ok rfl) (z_byk bcX5_split_0 0 22 _ bcX5_split_0_ok rfl) rfl
theorem dX5_split_23 : decode cX5_split 23 = .ok (.istore 4, 2) := zo_54 (z_byk bcX5_split_0 0 23 _ bcX5_split_0_ok rfl) (z_byk bcX5_split_0 0 24 _ bcX5_split_0_ok rfl)
theorem dX5_split_25 : decode cX5_split 25 = .ok (.iload 4, 2) := zo_21 (z_byk bcX5_split_0 0 25 _ bcX5_split_0_ok rfl) (z_byk bcX5_split_0 0 26 _ bcX5_split_0_ok rfl)
theorem dX5_split_27 : decode cX5_split 27 = .ok (.iload_n 2, 1) := zo_28 (z_byk bcX5_split_0 0 27 _ bcX5_split_0_ok rfl)
theorem dX5_split_28 : decode cX5_split 28 = .ok (.if_icmp .ne 19, 3) := zo_160 (z_byk bcX5_split_0 0 28 _ bcX5_split_0_ok rfl) (z_byk bcX5_split_0 0 29 _ bcX5_split_0_ok rfl) (z_byk bcX5_split_0 0 30 _ bcX5_split_0_ok rfl) rfl
theorem dX5_split_31 : decode cX5_split 31 = .ok (.iload 4, 2) := zo_21 (z_byk bcX5_split_0 0 31 _ bcX5_split_0_ok rfl) (z_byk bcX5_split_0 0 32 _ bcX5_split_0_ok rfl)
theorem dX5_split_33 : decode cX5_split 33 = .ok (.iconst 1, 1) := zo_4 (z_byk bcX5_split_0 0 33 _ bcX5_split_0_ok rfl)
theorem dX5_split_34 : decode cX5_split 34 = .ok (.if_icmp .eq 9, 3) := zo_159 (z_byk bcX5_split_0 0 34 _ bcX5_split_0_ok rfl) (z_byk bcX5_split_0 0 35 _ bcX5_split_0_ok rfl) (z_byk bcX5_split_0 0 36 _ bcX5_split_0_ok rfl) rfl
theorem dX5_split_37 : decode cX5_split 37 = .ok (.iload 4, 2) := zo_21 (z_byk bcX5_split_0 0 37 _ bcX5_split_0_ok rfl) (z_byk bcX5_split_0 0 38 _ bcX5_split_0_ok rfl)
theorem dX5_split_39 : decode cX5_split 39 = .ok (.iconst 2, 1) := zo_5 (z_byk bcX5_split_0 0 39 _ bcX5_split_0_ok rfl)
theorem dX5_split_40 : decode cX5_split 40 = .ok (.if_icmp .ne 7, 3) := zo_160 (z_byk bcX5_split_0 0 40 _ bcX5_split_0_ok rfl) (z_byk bcX5_split_0 0 41 _ bcX5_split_0_ok rfl) (z_byk bcX5_split_0 0 42 _ bcX5_split_0_ok rfl) rfl
theorem dX5_split_43 : decode cX5_split 43 = .ok (.iconst 1, 1) := zo_4 (z_byk bcX5_split_0 0 43 _ bcX5_split_0_ok rfl)
theorem dX5_split_44 : decode cX5_split 44 = .ok (.goto 4, 3) := zo_167 (z_byk bcX5_split_0 0 44 _ bcX5_split_0_ok rfl) (z_byk bcX5_split_0 0 45 _ bcX5_split_0_ok rfl) (z_byk bcX5_split_0 0 46 _ bcX5_split_0_ok rfl) rfl
theorem dX5_split_47 : decode cX5_split 47 = .ok (.iconst 0, 1) := zo_3 (z_byk bcX5_split_0 0 47 _ bcX5_split_0_ok rfl)
theorem dX5_split_48 : decode cX5_split 48 = .ok (.istore 5, 2) := zo_54 (z_byk bcX5_split_0 0 48 _ bcX5_split_0_ok rfl) (z_byk bcX5_split_0 0 49 _ bcX5_split_0_ok rfl)
theorem dX5_split_5 : decode cX5_split 5 = .ok (.iconst 0, 1) := zo_3 (z_byk bcX5_split_0 0 5 _ bcX5_split_0_ok rfl)
theorem dX5_split_50 : decode cX5_split 50 = .ok (.iload 4, 2) := zo_21 (z_byk bcX5_split_0 0 50 _ bcX5_split_0_ok rfl) (z_byk bcX5_split_0 0 51 _ bcX5_split_0_ok rfl)
theorem dX5_split_52 : decode cX5_split 52 = .ok (.ifCond .eq 15, 3) := zo_153 (z_byk bcX5_split_0 0 52 _ bcX5_split_0_ok rfl) (z_byk bcX5_split_0 0 53 _ bcX5_split_0_ok rfl) (z_byk bcX5_split_0 0 54 _ bcX5_split_0_ok rfl) rfl
theorem dX5_split_55 : decode cX5_split 55 = .ok (.iload 5, 2) := zo_21 (z_byk bcX5_split_0 0 55 _ bcX5_split_0_ok rfl) (z_byk bcX5_split_0 0 56 _ bcX5_split_0_ok rfl)
theorem dX5_split_57 : decode cX5_split 57 = .ok (.ifCond .ne 10, 3) := zo_154 (z_byk bcX5_split_0 0 57 _ bcX5_split_0_ok rfl) (z_byk bcX5_split_0 0 58 _ bcX5_split_0_ok rfl) (z_byk bcX5_split_0 0 59 _ bcX5_split_0_ok rfl) rfl
theorem dX5_split_6 : decode cX5_split 6 = .ok (.istore_n 2, 1) := zo_61 (z_byk bcX5_split_0 0 6 _ bcX5_split_0_ok rfl)
theorem dX5_split_60 : decode cX5_split 60 = .ok (.aload_n 0, 1) := zo_42 (z_byk bcX5_split_60 60 0 _ bcX5_split_60_ok rfl)
theorem dX5_split_61 : decode cX5_split 61 = .ok (.iload 4, 2) := zo_21 (z_byk bcX5_split_60 60 1 _ bcX5_split_60_ok rfl) (z_byk bcX5_split_60 60 2 _ bcX5_split_60_ok rfl)
theorem dX5_split_63 : decode cX5_split 63 = .ok (.iload_n 3, 1) := zo_29 (z_byk bcX5_split_60 60 3 _ bcX5_split_60_ok rfl)
theorem dX5_split_64 : decode cX5_split 64 = .ok (.invokevirtual 78, 3) := zo_182 (z_byk bcX5_split_60 60 4 _ bcX5_split_60_ok rfl) (z_byk bcX5_split_60 60 5 _ bcX5_split_60_ok rfl) (z_byk bcX5_split_60 60 6 _ bcX5_split_60_ok rfl) rfl
theorem dX5_split_67 : decode cX5_split 67 = .ok (.iload 4, 2) := zo_21 (z_byk bcX5_split_60 60 7 _ bcX5_split_60_ok rfl) (z_byk bcX5_split_60 60 8 _ bcX5_split_60_ok rfl)
theorem dX5_split_69 : decode cX5_split 69 = .ok (.ifCond .eq 17, 3) := zo_153 (z_byk bcX5_split_60 60 9 _ bcX5_split_60_ok rfl) (z_byk bcX5_split_60 60 10 _ bcX5_split_60_ok rfl) (z_byk bcX5_split_60 60 11 _ bcX5_split_60_ok rfl) rfl
theorem dX5_split_7 : decode cX5_split 7 = .ok (.iconst 0, 1) := zo_3 (z_byk bcX5_split_0 0 7 _ bcX5_split_0_ok rfl)
theorem dX5_split_72 : decode cX5_split 72 = .ok (.aload_n 0, 1) := zo_42 (z_byk bcX5_split_60 60 12 _ bcX5_split_60_ok rfl)
theorem dX5_split_73 : decode cX5_split 73 = .ok (.getfield 22, 3) := zo_180 (z_byk bcX5_split_60 60 13 _ bcX5_split_60_ok rfl) (z_byk bcX5_split_60 60 14 _ bcX5_split_60_ok rfl) (z_byk bcX5_split_60 60 15 _ bcX5_split_60_ok rfl) rfl
theorem dX5_split_76 : decode cX5_split 76 = .ok (.aload_n 0, 1) := zo_42 (z_byk bcX5_split_60 60 16 _ bcX5_split_60_ok rfl)
theorem dX5_split_77 : decode cX5_split 77 = .ok (.getfield 71, 3) := zo_180 (z_byk bcX5_split_60 60 17 _ bcX5_split_60_ok rfl) (z_byk bcX5_split_60 60 18 _ bcX5_split_60_ok rfl) (z_byk bcX5_split_60 60 19 _ bcX5_split_60_ok rfl) rfl
theorem dX5_split_8 : decode cX5_split 8 = .ok (.istore_n 3, 1) := zo_62 (z_byk bcX5_split_0 0 8 _ bcX5_split_0_ok rfl)
theorem dX5_split_80 : decode cX5_split 80 = .ok (.iconst 1, 1) := zo_4 (z_byk bcX5_split_60 60 20 _ bcX5_split_60_ok rfl)
theorem dX5_split_81 : decode cX5_split 81 = .ok (.isub, 1) := zo_100 (z_byk bcX5_split_60 60 21 _ bcX5_split_60_ok rfl)
theorem dX5_split_82 : decode cX5_split 82 = .ok (.iload_n 3, 1) := zo_29 (z_byk bcX5_split_60 60 22 _ bcX5_split_60_ok rfl)
theorem dX5_split_83 : decode cX5_split 83 = .ok (.iconst 1, 1) := zo_4 (z_byk bcX5_split_60 60 23 _ bcX5_split_60_ok rfl)
theorem dX5_split_84 : decode cX5_split 84 = .ok (.iadd, 1) := zo_96 (z_byk bcX5_split_60 60 24 _ bcX5_split_60_ok rfl)
theorem dX5_split_85 : decode cX5_split 85 = .ok (.iastore, 1) := zo_79 (z_byk bcX5_split_60 60 25 _ bcX5_split_60_ok rfl)
theorem dX5_split_86 : decode cX5_split 86 = .ok (.iload 4, 2) := zo_21 (z_byk bcX5_split_60 60 26 _ bcX5_split_60_ok rfl) (z_byk bcX5_split_60 60 27 _ bcX5_split_60_ok rfl)
theorem dX5_split_88 : decode cX5_split 88 = .ok (.iconst 2, 1) := zo_5 (z_byk bcX5_split_60 60 28 _ bcX5_split_60_ok rfl)
theorem dX5_split_89 : decode cX5_split 89 = .ok (.if_icmp .ne 43, 3) := zo_160 (z_byk bcX5_split_60 60 29 _ bcX5_split_60_ok rfl) (z_byk bcX5_split_60 60 30 _ bcX5_split_60_ok rfl) (z_byk bcX5_split_60 60 31 _ bcX5_split_60_ok rfl) rfl
theorem dX5_split_9 : decode cX5_split 9 = .ok (.iload_n 3, 1) := zo_29 (z_byk bcX5_split_0 0 9 _ bcX5_split_0_ok rfl)
theorem dX5_split_92 : decode cX5_split 92 = .ok (.aload_n 0, 1) := zo_42 (z_byk bcX5_split_60 60 32 _ bcX5_split_60_ok rfl)
theorem dX5_split_93 : decode cX5_split 93 = .ok (.getfield 25, 3) := zo_180 (z_byk bcX5_split_60 60 33 _ bcX5_split_60_ok rfl) (z_byk bcX5_split_60 60 34 _ bcX5_split_60_ok rfl) (z_byk bcX5_split_60 60 35 _ bcX5_split_60_ok rfl) rfl
theorem dX5_split_96 : decode cX5_split 96 = .ok (.aload_n 0, 1) := zo_42 (z_byk bcX5_split_60 60 36 _ bcX5_split_60_ok rfl)
theorem dX5_split_97 : decode cX5_split 97 = .ok (.getfield 71, 3) := zo_180 (z_byk bcX5_split_60 60 37 _ bcX5_split_60_ok rfl) (z_byk bcX5_split_60 60 38 _ bcX5_split_60_ok rfl) (z_byk bcX5_split_60 60 39 _ bcX5_split_60_ok rfl) rfl
