set_option linter.all false
theorem zw_s5_8 : Cond.selects RX10 yX10_copyTown yX10_copyTown ∈ zT := zs_5 (List.mem_of_getElem? (i := 8) (by decide +kernel))
theorem zw_t6_129 : Cond.fieldLink RX10 71 "NameGateModel" "isKept" "[Z" ∈ zT := zt_6 (List.mem_of_getElem? (i := 129) (by decide +kernel)) (by decide +kernel)
theorem zw_t7_150 : Cond.methodLink RX10 257 yX10_copyTown ∈ zT := zt_7 (List.mem_of_getElem? (i := 150) (by decide +kernel)) (by decide +kernel)
theorem zw_t7_152 : Cond.instanceMethod yX10_copyTown ∈ zT := zt_7 (List.mem_of_getElem? (i := 152) (by decide +kernel)) (by decide +kernel)
theorem zw_t7_153 : Cond.code yX10_copyTown cX10_copyTown 3 none ∈ zT := zt_7 (List.mem_of_getElem? (i := 153) (by decide +kernel)) (by decide +kernel)
theorem zw_t7_154 : Cond.methodLink RX10 261 yX10_copyRow ∈ zT := zt_7 (List.mem_of_getElem? (i := 154) (by decide +kernel)) (by decide +kernel)
theorem zw_t7_155 : Cond.static yX10_copyRow ∈ zT := zt_7 (List.mem_of_getElem? (i := 155) (by decide +kernel)) (by decide +kernel)
theorem zw_t7_156 : Cond.code yX10_copyRow cX10_copyRow 5 none ∈ zT := zt_7 (List.mem_of_getElem? (i := 156) (by decide +kernel)) (by decide +kernel)
def bcX10_back_0 : List Nat := [42, 3, 181, 0, 114, 27, 133, 9, 20, 1, 85, 184, 0, 119, 154, 0, 6, 16, 254, 172, 42, 180, 0, 71, 27, 51, 154, 0, 6, 16, 250, 172, 42, 4, 27, 96, 3, 182, 1, 1, 3, 172]
theorem bcX10_back_0_ok : z_bys cX10_back 0 bcX10_back_0 = true := by decide +kernel
theorem dX10_back_0 : decode cX10_back 0 = .ok (.aload_n 0, 1) := zo_42 (z_byk bcX10_back_0 0 0 _ bcX10_back_0_ok rfl)
theorem dX10_back_1 : decode cX10_back 1 = .ok (.iconst 0, 1) := zo_3 (z_byk bcX10_back_0 0 1 _ bcX10_back_0_ok rfl)
theorem dX10_back_11 : decode cX10_back 11 = .ok (.invokestatic 119, 3) := zo_184 (z_byk bcX10_back_0 0 11 _ bcX10_back_0_ok rfl) (z_byk bcX10_back_0 0 12 _ bcX10_back_0_ok rfl) (z_byk bcX10_back_0 0 13 _ bcX10_back_0_ok rfl) rfl
theorem dX10_back_14 : decode cX10_back 14 = .ok (.ifCond .ne 6, 3) := zo_154 (z_byk bcX10_back_0 0 14 _ bcX10_back_0_ok rfl) (z_byk bcX10_back_0 0 15 _ bcX10_back_0_ok rfl) (z_byk bcX10_back_0 0 16 _ bcX10_back_0_ok rfl) rfl
theorem dX10_back_17 : decode cX10_back 17 = .ok (.bipush (-2), 2) := zo_16 (z_byk bcX10_back_0 0 17 _ bcX10_back_0_ok rfl) (z_byk bcX10_back_0 0 18 _ bcX10_back_0_ok rfl) rfl
theorem dX10_back_19 : decode cX10_back 19 = .ok (.ireturn, 1) := zo_172 (z_byk bcX10_back_0 0 19 _ bcX10_back_0_ok rfl)
theorem dX10_back_2 : decode cX10_back 2 = .ok (.putfield 114, 3) := zo_181 (z_byk bcX10_back_0 0 2 _ bcX10_back_0_ok rfl) (z_byk bcX10_back_0 0 3 _ bcX10_back_0_ok rfl) (z_byk bcX10_back_0 0 4 _ bcX10_back_0_ok rfl) rfl
theorem dX10_back_20 : decode cX10_back 20 = .ok (.aload_n 0, 1) := zo_42 (z_byk bcX10_back_0 0 20 _ bcX10_back_0_ok rfl)
theorem dX10_back_21 : decode cX10_back 21 = .ok (.getfield 71, 3) := zo_180 (z_byk bcX10_back_0 0 21 _ bcX10_back_0_ok rfl) (z_byk bcX10_back_0 0 22 _ bcX10_back_0_ok rfl) (z_byk bcX10_back_0 0 23 _ bcX10_back_0_ok rfl) rfl
theorem dX10_back_24 : decode cX10_back 24 = .ok (.iload_n 1, 1) := zo_27 (z_byk bcX10_back_0 0 24 _ bcX10_back_0_ok rfl)
theorem dX10_back_25 : decode cX10_back 25 = .ok (.baload, 1) := zo_51 (z_byk bcX10_back_0 0 25 _ bcX10_back_0_ok rfl)
theorem dX10_back_26 : decode cX10_back 26 = .ok (.ifCond .ne 6, 3) := zo_154 (z_byk bcX10_back_0 0 26 _ bcX10_back_0_ok rfl) (z_byk bcX10_back_0 0 27 _ bcX10_back_0_ok rfl) (z_byk bcX10_back_0 0 28 _ bcX10_back_0_ok rfl) rfl
theorem dX10_back_29 : decode cX10_back 29 = .ok (.bipush (-6), 2) := zo_16 (z_byk bcX10_back_0 0 29 _ bcX10_back_0_ok rfl) (z_byk bcX10_back_0 0 30 _ bcX10_back_0_ok rfl) rfl
theorem dX10_back_31 : decode cX10_back 31 = .ok (.ireturn, 1) := zo_172 (z_byk bcX10_back_0 0 31 _ bcX10_back_0_ok rfl)
theorem dX10_back_32 : decode cX10_back 32 = .ok (.aload_n 0, 1) := zo_42 (z_byk bcX10_back_0 0 32 _ bcX10_back_0_ok rfl)
theorem dX10_back_33 : decode cX10_back 33 = .ok (.iconst 1, 1) := zo_4 (z_byk bcX10_back_0 0 33 _ bcX10_back_0_ok rfl)
theorem dX10_back_34 : decode cX10_back 34 = .ok (.iload_n 1, 1) := zo_27 (z_byk bcX10_back_0 0 34 _ bcX10_back_0_ok rfl)
theorem dX10_back_35 : decode cX10_back 35 = .ok (.iadd, 1) := zo_96 (z_byk bcX10_back_0 0 35 _ bcX10_back_0_ok rfl)
theorem dX10_back_36 : decode cX10_back 36 = .ok (.iconst 0, 1) := zo_3 (z_byk bcX10_back_0 0 36 _ bcX10_back_0_ok rfl)
theorem dX10_back_37 : decode cX10_back 37 = .ok (.invokevirtual 257, 3) := zo_182 (z_byk bcX10_back_0 0 37 _ bcX10_back_0_ok rfl) (z_byk bcX10_back_0 0 38 _ bcX10_back_0_ok rfl) (z_byk bcX10_back_0 0 39 _ bcX10_back_0_ok rfl) rfl
theorem dX10_back_40 : decode cX10_back 40 = .ok (.iconst 0, 1) := zo_3 (z_byk bcX10_back_0 0 40 _ bcX10_back_0_ok rfl)
theorem dX10_back_41 : decode cX10_back 41 = .ok (.ireturn, 1) := zo_172 (z_byk bcX10_back_0 0 41 _ bcX10_back_0_ok rfl)
theorem dX10_back_5 : decode cX10_back 5 = .ok (.iload_n 1, 1) := zo_27 (z_byk bcX10_back_0 0 5 _ bcX10_back_0_ok rfl)
theorem dX10_back_6 : decode cX10_back 6 = .ok (.i2l, 1) := zo_133 (z_byk bcX10_back_0 0 6 _ bcX10_back_0_ok rfl)
theorem dX10_back_7 : decode cX10_back 7 = .ok (.lconst 0, 1) := zo_9 (z_byk bcX10_back_0 0 7 _ bcX10_back_0_ok rfl)
theorem dX10_back_8 : decode cX10_back 8 = .ok (.ldc2_w 341, 3) := zo_20 (z_byk bcX10_back_0 0 8 _ bcX10_back_0_ok rfl) (z_byk bcX10_back_0 0 9 _ bcX10_back_0_ok rfl) (z_byk bcX10_back_0 0 10 _ bcX10_back_0_ok rfl) rfl
def bcX10_copyRow_0 : List Nat := [3, 54, 4, 21, 4, 27, 162, 0, 25, 42, 27, 29, 104, 21, 4, 96, 42, 27, 28, 104, 21, 4, 96, 46, 79, 132, 4, 1, 167, 255, 231, 177]
theorem bcX10_copyRow_0_ok : z_bys cX10_copyRow 0 bcX10_copyRow_0 = true := by decide +kernel
theorem dX10_copyRow_0 : decode cX10_copyRow 0 = .ok (.iconst 0, 1) := zo_3 (z_byk bcX10_copyRow_0 0 0 _ bcX10_copyRow_0_ok rfl)
theorem dX10_copyRow_1 : decode cX10_copyRow 1 = .ok (.istore 4, 2) := zo_54 (z_byk bcX10_copyRow_0 0 1 _ bcX10_copyRow_0_ok rfl) (z_byk bcX10_copyRow_0 0 2 _ bcX10_copyRow_0_ok rfl)
theorem dX10_copyRow_10 : decode cX10_copyRow 10 = .ok (.iload_n 1, 1) := zo_27 (z_byk bcX10_copyRow_0 0 10 _ bcX10_copyRow_0_ok rfl)
theorem dX10_copyRow_11 : decode cX10_copyRow 11 = .ok (.iload_n 3, 1) := zo_29 (z_byk bcX10_copyRow_0 0 11 _ bcX10_copyRow_0_ok rfl)
theorem dX10_copyRow_12 : decode cX10_copyRow 12 = .ok (.imul, 1) := zo_104 (z_byk bcX10_copyRow_0 0 12 _ bcX10_copyRow_0_ok rfl)
theorem dX10_copyRow_13 : decode cX10_copyRow 13 = .ok (.iload 4, 2) := zo_21 (z_byk bcX10_copyRow_0 0 13 _ bcX10_copyRow_0_ok rfl) (z_byk bcX10_copyRow_0 0 14 _ bcX10_copyRow_0_ok rfl)
theorem dX10_copyRow_15 : decode cX10_copyRow 15 = .ok (.iadd, 1) := zo_96 (z_byk bcX10_copyRow_0 0 15 _ bcX10_copyRow_0_ok rfl)
theorem dX10_copyRow_16 : decode cX10_copyRow 16 = .ok (.aload_n 0, 1) := zo_42 (z_byk bcX10_copyRow_0 0 16 _ bcX10_copyRow_0_ok rfl)
theorem dX10_copyRow_17 : decode cX10_copyRow 17 = .ok (.iload_n 1, 1) := zo_27 (z_byk bcX10_copyRow_0 0 17 _ bcX10_copyRow_0_ok rfl)
theorem dX10_copyRow_18 : decode cX10_copyRow 18 = .ok (.iload_n 2, 1) := zo_28 (z_byk bcX10_copyRow_0 0 18 _ bcX10_copyRow_0_ok rfl)
theorem dX10_copyRow_19 : decode cX10_copyRow 19 = .ok (.imul, 1) := zo_104 (z_byk bcX10_copyRow_0 0 19 _ bcX10_copyRow_0_ok rfl)
theorem dX10_copyRow_20 : decode cX10_copyRow 20 = .ok (.iload 4, 2) := zo_21 (z_byk bcX10_copyRow_0 0 20 _ bcX10_copyRow_0_ok rfl) (z_byk bcX10_copyRow_0 0 21 _ bcX10_copyRow_0_ok rfl)
theorem dX10_copyRow_22 : decode cX10_copyRow 22 = .ok (.iadd, 1) := zo_96 (z_byk bcX10_copyRow_0 0 22 _ bcX10_copyRow_0_ok rfl)
theorem dX10_copyRow_23 : decode cX10_copyRow 23 = .ok (.iaload, 1) := zo_46 (z_byk bcX10_copyRow_0 0 23 _ bcX10_copyRow_0_ok rfl)
theorem dX10_copyRow_24 : decode cX10_copyRow 24 = .ok (.iastore, 1) := zo_79 (z_byk bcX10_copyRow_0 0 24 _ bcX10_copyRow_0_ok rfl)
theorem dX10_copyRow_25 : decode cX10_copyRow 25 = .ok (.iinc 4 1, 3) := zo_132 (z_byk bcX10_copyRow_0 0 25 _ bcX10_copyRow_0_ok rfl) (z_byk bcX10_copyRow_0 0 26 _ bcX10_copyRow_0_ok rfl) (z_byk bcX10_copyRow_0 0 27 _ bcX10_copyRow_0_ok rfl) rfl
theorem dX10_copyRow_28 : decode cX10_copyRow 28 = .ok (.goto (-25), 3) := zo_167 (z_byk bcX10_copyRow_0 0 28 _ bcX10_copyRow_0_ok rfl) (z_byk bcX10_copyRow_0 0 29 _ bcX10_copyRow_0_ok rfl) (z_byk bcX10_copyRow_0 0 30 _ bcX10_copyRow_0_ok rfl) rfl
theorem dX10_copyRow_3 : decode cX10_copyRow 3 = .ok (.iload 4, 2) := zo_21 (z_byk bcX10_copyRow_0 0 3 _ bcX10_copyRow_0_ok rfl) (z_byk bcX10_copyRow_0 0 4 _ bcX10_copyRow_0_ok rfl)
theorem dX10_copyRow_31 : decode cX10_copyRow 31 = .ok (.return_, 1) := zo_177 (z_byk bcX10_copyRow_0 0 31 _ bcX10_copyRow_0_ok rfl)
theorem dX10_copyRow_5 : decode cX10_copyRow 5 = .ok (.iload_n 1, 1) := zo_27 (z_byk bcX10_copyRow_0 0 5 _ bcX10_copyRow_0_ok rfl)
theorem dX10_copyRow_6 : decode cX10_copyRow 6 = .ok (.if_icmp .ge 25, 3) := zo_162 (z_byk bcX10_copyRow_0 0 6 _ bcX10_copyRow_0_ok rfl) (z_byk bcX10_copyRow_0 0 7 _ bcX10_copyRow_0_ok rfl) (z_byk bcX10_copyRow_0 0 8 _ bcX10_copyRow_0_ok rfl) rfl
theorem dX10_copyRow_9 : decode cX10_copyRow 9 = .ok (.aload_n 0, 1) := zo_42 (z_byk bcX10_copyRow_0 0 9 _ bcX10_copyRow_0_ok rfl)
def bcX10_copyTown_0 : List Nat := [42, 180, 0, 31, 4, 27, 28, 184, 1, 5, 42, 180, 0, 34, 4, 27, 28, 184, 1, 5, 42, 180, 0, 37, 4, 27, 28, 184, 1, 5, 42, 180, 0, 40, 16, 10, 27, 28, 184, 1, 5, 42, 180, 0, 43, 4, 27, 28, 184, 1, 5, 42, 180, 0, 46, 16, 32, 27, 28, 184]
theorem bcX10_copyTown_0_ok : z_bys cX10_copyTown 0 bcX10_copyTown_0 = true := by decide +kernel
def bcX10_copyTown_60 : List Nat := [1, 5, 42, 180, 0, 49, 4, 27, 28, 184, 1, 5, 42, 180, 0, 52, 17, 1, 224, 27, 28, 184, 1, 5, 42, 180, 0, 55, 16, 20, 27, 28, 184, 1, 5, 42, 180, 0, 58, 5, 27, 28, 184, 1, 5, 42, 180, 0, 65, 5, 27, 28, 184, 1, 5, 42, 180, 0, 68, 16]
theorem bcX10_copyTown_60_ok : z_bys cX10_copyTown 60 bcX10_copyTown_60 = true := by decide +kernel
def bcX10_copyTown_120 : List Nat := [10, 27, 28, 184, 1, 5, 177]
theorem bcX10_copyTown_120_ok : z_bys cX10_copyTown 120 bcX10_copyTown_120 = true := by decide +kernel
theorem dX10_copyTown_0 : decode cX10_copyTown 0 = .ok (.aload_n 0, 1) := zo_42 (z_byk bcX10_copyTown_0 0 0 _ bcX10_copyTown_0_ok rfl)
theorem dX10_copyTown_1 : decode cX10_copyTown 1 = .ok (.getfield 31, 3) := zo_180 (z_byk bcX10_copyTown_0 0 1 _ bcX10_copyTown_0_ok rfl) (z_byk bcX10_copyTown_0 0 2 _ bcX10_copyTown_0_ok rfl) (z_byk bcX10_copyTown_0 0 3 _ bcX10_copyTown_0_ok rfl) rfl
theorem dX10_copyTown_10 : decode cX10_copyTown 10 = .ok (.aload_n 0, 1) := zo_42 (z_byk bcX10_copyTown_0 0 10 _ bcX10_copyTown_0_ok rfl)
theorem dX10_copyTown_100 : decode cX10_copyTown 100 = .ok (.iload_n 1, 1) := zo_27 (z_byk bcX10_copyTown_60 60 40 _ bcX10_copyTown_60_ok rfl)
theorem dX10_copyTown_101 : decode cX10_copyTown 101 = .ok (.iload_n 2, 1) := zo_28 (z_byk bcX10_copyTown_60 60 41 _ bcX10_copyTown_60_ok rfl)
theorem dX10_copyTown_102 : decode cX10_copyTown 102 = .ok (.invokestatic 261, 3) := zo_184 (z_byk bcX10_copyTown_60 60 42 _ bcX10_copyTown_60_ok rfl) (z_byk bcX10_copyTown_60 60 43 _ bcX10_copyTown_60_ok rfl) (z_byk bcX10_copyTown_60 60 44 _ bcX10_copyTown_60_ok rfl) rfl
theorem dX10_copyTown_105 : decode cX10_copyTown 105 = .ok (.aload_n 0, 1) := zo_42 (z_byk bcX10_copyTown_60 60 45 _ bcX10_copyTown_60_ok rfl)
theorem dX10_copyTown_106 : decode cX10_copyTown 106 = .ok (.getfield 65, 3) := zo_180 (z_byk bcX10_copyTown_60 60 46 _ bcX10_copyTown_60_ok rfl) (z_byk bcX10_copyTown_60 60 47 _ bcX10_copyTown_60_ok rfl) (z_byk bcX10_copyTown_60 60 48 _ bcX10_copyTown_60_ok rfl) rfl
theorem dX10_copyTown_109 : decode cX10_copyTown 109 = .ok (.iconst 2, 1) := zo_5 (z_byk bcX10_copyTown_60 60 49 _ bcX10_copyTown_60_ok rfl)
theorem dX10_copyTown_11 : decode cX10_copyTown 11 = .ok (.getfield 34, 3) := zo_180 (z_byk bcX10_copyTown_0 0 11 _ bcX10_copyTown_0_ok rfl) (z_byk bcX10_copyTown_0 0 12 _ bcX10_copyTown_0_ok rfl) (z_byk bcX10_copyTown_0 0 13 _ bcX10_copyTown_0_ok rfl) rfl
theorem dX10_copyTown_110 : decode cX10_copyTown 110 = .ok (.iload_n 1, 1) := zo_27 (z_byk bcX10_copyTown_60 60 50 _ bcX10_copyTown_60_ok rfl)
theorem dX10_copyTown_111 : decode cX10_copyTown 111 = .ok (.iload_n 2, 1) := zo_28 (z_byk bcX10_copyTown_60 60 51 _ bcX10_copyTown_60_ok rfl)
theorem dX10_copyTown_112 : decode cX10_copyTown 112 = .ok (.invokestatic 261, 3) := zo_184 (z_byk bcX10_copyTown_60 60 52 _ bcX10_copyTown_60_ok rfl) (z_byk bcX10_copyTown_60 60 53 _ bcX10_copyTown_60_ok rfl) (z_byk bcX10_copyTown_60 60 54 _ bcX10_copyTown_60_ok rfl) rfl
theorem dX10_copyTown_115 : decode cX10_copyTown 115 = .ok (.aload_n 0, 1) := zo_42 (z_byk bcX10_copyTown_60 60 55 _ bcX10_copyTown_60_ok rfl)
theorem dX10_copyTown_116 : decode cX10_copyTown 116 = .ok (.getfield 68, 3) := zo_180 (z_byk bcX10_copyTown_60 60 56 _ bcX10_copyTown_60_ok rfl) (z_byk bcX10_copyTown_60 60 57 _ bcX10_copyTown_60_ok rfl) (z_byk bcX10_copyTown_60 60 58 _ bcX10_copyTown_60_ok rfl) rfl
theorem dX10_copyTown_119 : decode cX10_copyTown 119 = .ok (.bipush 10, 2) := zo_16 (z_byk bcX10_copyTown_60 60 59 _ bcX10_copyTown_60_ok rfl) (z_byk bcX10_copyTown_120 120 0 _ bcX10_copyTown_120_ok rfl) rfl
theorem dX10_copyTown_121 : decode cX10_copyTown 121 = .ok (.iload_n 1, 1) := zo_27 (z_byk bcX10_copyTown_120 120 1 _ bcX10_copyTown_120_ok rfl)
theorem dX10_copyTown_122 : decode cX10_copyTown 122 = .ok (.iload_n 2, 1) := zo_28 (z_byk bcX10_copyTown_120 120 2 _ bcX10_copyTown_120_ok rfl)
theorem dX10_copyTown_123 : decode cX10_copyTown 123 = .ok (.invokestatic 261, 3) := zo_184 (z_byk bcX10_copyTown_120 120 3 _ bcX10_copyTown_120_ok rfl) (z_byk bcX10_copyTown_120 120 4 _ bcX10_copyTown_120_ok rfl) (z_byk bcX10_copyTown_120 120 5 _ bcX10_copyTown_120_ok rfl) rfl
theorem dX10_copyTown_126 : decode cX10_copyTown 126 = .ok (.return_, 1) := zo_177 (z_byk bcX10_copyTown_120 120 6 _ bcX10_copyTown_120_ok rfl)
theorem dX10_copyTown_14 : decode cX10_copyTown 14 = .ok (.iconst 1, 1) := zo_4 (z_byk bcX10_copyTown_0 0 14 _ bcX10_copyTown_0_ok rfl)
theorem dX10_copyTown_15 : decode cX10_copyTown 15 = .ok (.iload_n 1, 1) := zo_27 (z_byk bcX10_copyTown_0 0 15 _ bcX10_copyTown_0_ok rfl)
theorem dX10_copyTown_16 : decode cX10_copyTown 16 = .ok (.iload_n 2, 1) := zo_28 (z_byk bcX10_copyTown_0 0 16 _ bcX10_copyTown_0_ok rfl)
theorem dX10_copyTown_17 : decode cX10_copyTown 17 = .ok (.invokestatic 261, 3) := zo_184 (z_byk bcX10_copyTown_0 0 17 _ bcX10_copyTown_0_ok rfl) (z_byk bcX10_copyTown_0 0 18 _ bcX10_copyTown_0_ok rfl) (z_byk bcX10_copyTown_0 0 19 _ bcX10_copyTown_0_ok rfl) rfl
theorem dX10_copyTown_20 : decode cX10_copyTown 20 = .ok (.aload_n 0, 1) := zo_42 (z_byk bcX10_copyTown_0 0 20 _ bcX10_copyTown_0_ok rfl)
theorem dX10_copyTown_21 : decode cX10_copyTown 21 = .ok (.getfield 37, 3) := zo_180 (z_byk bcX10_copyTown_0 0 21 _ bcX10_copyTown_0_ok rfl) (z_byk bcX10_copyTown_0 0 22 _ bcX10_copyTown_0_ok rfl) (z_byk bcX10_copyTown_0 0 23 _ bcX10_copyTown_0_ok rfl) rfl
theorem dX10_copyTown_24 : decode cX10_copyTown 24 = .ok (.iconst 1, 1) := zo_4 (z_byk bcX10_copyTown_0 0 24 _ bcX10_copyTown_0_ok rfl)
theorem dX10_copyTown_25 : decode cX10_copyTown 25 = .ok (.iload_n 1, 1) := zo_27 (z_byk bcX10_copyTown_0 0 25 _ bcX10_copyTown_0_ok rfl)
theorem dX10_copyTown_26 : decode cX10_copyTown 26 = .ok (.iload_n 2, 1) := zo_28 (z_byk bcX10_copyTown_0 0 26 _ bcX10_copyTown_0_ok rfl)
theorem dX10_copyTown_27 : decode cX10_copyTown 27 = .ok (.invokestatic 261, 3) := zo_184 (z_byk bcX10_copyTown_0 0 27 _ bcX10_copyTown_0_ok rfl) (z_byk bcX10_copyTown_0 0 28 _ bcX10_copyTown_0_ok rfl) (z_byk bcX10_copyTown_0 0 29 _ bcX10_copyTown_0_ok rfl) rfl
theorem dX10_copyTown_30 : decode cX10_copyTown 30 = .ok (.aload_n 0, 1) := zo_42 (z_byk bcX10_copyTown_0 0 30 _ bcX10_copyTown_0_ok rfl)
theorem dX10_copyTown_31 : decode cX10_copyTown 31 = .ok (.getfield 40, 3) := zo_180 (z_byk bcX10_copyTown_0 0 31 _ bcX10_copyTown_0_ok rfl) (z_byk bcX10_copyTown_0 0 32 _ bcX10_copyTown_0_ok rfl) (z_byk bcX10_copyTown_0 0 33 _ bcX10_copyTown_0_ok rfl) rfl
theorem dX10_copyTown_34 : decode cX10_copyTown 34 = .ok (.bipush 10, 2) := zo_16 (z_byk bcX10_copyTown_0 0 34 _ bcX10_copyTown_0_ok rfl) (z_byk bcX10_copyTown_0 0 35 _ bcX10_copyTown_0_ok rfl) rfl
theorem dX10_copyTown_36 : decode cX10_copyTown 36 = .ok (.iload_n 1, 1) := zo_27 (z_byk bcX10_copyTown_0 0 36 _ bcX10_copyTown_0_ok rfl)
theorem dX10_copyTown_37 : decode cX10_copyTown 37 = .ok (.iload_n 2, 1) := zo_28 (z_byk bcX10_copyTown_0 0 37 _ bcX10_copyTown_0_ok rfl)
theorem dX10_copyTown_38 : decode cX10_copyTown 38 = .ok (.invokestatic 261, 3) := zo_184 (z_byk bcX10_copyTown_0 0 38 _ bcX10_copyTown_0_ok rfl) (z_byk bcX10_copyTown_0 0 39 _ bcX10_copyTown_0_ok rfl) (z_byk bcX10_copyTown_0 0 40 _ bcX10_copyTown_0_ok rfl) rfl
theorem dX10_copyTown_4 : decode cX10_copyTown 4 = .ok (.iconst 1, 1) := zo_4 (z_byk bcX10_copyTown_0 0 4 _ bcX10_copyTown_0_ok rfl)
theorem dX10_copyTown_41 : decode cX10_copyTown 41 = .ok (.aload_n 0, 1) := zo_42 (z_byk bcX10_copyTown_0 0 41 _ bcX10_copyTown_0_ok rfl)
theorem dX10_copyTown_42 : decode cX10_copyTown 42 = .ok (.getfield 43, 3) := zo_180 (z_byk bcX10_copyTown_0 0 42 _ bcX10_copyTown_0_ok rfl) (z_byk bcX10_copyTown_0 0 43 _ bcX10_copyTown_0_ok rfl) (z_byk bcX10_copyTown_0 0 44 _ bcX10_copyTown_0_ok rfl) rfl
theorem dX10_copyTown_45 : decode cX10_copyTown 45 = .ok (.iconst 1, 1) := zo_4 (z_byk bcX10_copyTown_0 0 45 _ bcX10_copyTown_0_ok rfl)
theorem dX10_copyTown_46 : decode cX10_copyTown 46 = .ok (.iload_n 1, 1) := zo_27 (z_byk bcX10_copyTown_0 0 46 _ bcX10_copyTown_0_ok rfl)
theorem dX10_copyTown_47 : decode cX10_copyTown 47 = .ok (.iload_n 2, 1) := zo_28 (z_byk bcX10_copyTown_0 0 47 _ bcX10_copyTown_0_ok rfl)
theorem dX10_copyTown_48 : decode cX10_copyTown 48 = .ok (.invokestatic 261, 3) := zo_184 (z_byk bcX10_copyTown_0 0 48 _ bcX10_copyTown_0_ok rfl) (z_byk bcX10_copyTown_0 0 49 _ bcX10_copyTown_0_ok rfl) (z_byk bcX10_copyTown_0 0 50 _ bcX10_copyTown_0_ok rfl) rfl
theorem dX10_copyTown_5 : decode cX10_copyTown 5 = .ok (.iload_n 1, 1) := zo_27 (z_byk bcX10_copyTown_0 0 5 _ bcX10_copyTown_0_ok rfl)
theorem dX10_copyTown_51 : decode cX10_copyTown 51 = .ok (.aload_n 0, 1) := zo_42 (z_byk bcX10_copyTown_0 0 51 _ bcX10_copyTown_0_ok rfl)
theorem dX10_copyTown_52 : decode cX10_copyTown 52 = .ok (.getfield 46, 3) := zo_180 (z_byk bcX10_copyTown_0 0 52 _ bcX10_copyTown_0_ok rfl) (z_byk bcX10_copyTown_0 0 53 _ bcX10_copyTown_0_ok rfl) (z_byk bcX10_copyTown_0 0 54 _ bcX10_copyTown_0_ok rfl) rfl
theorem dX10_copyTown_55 : decode cX10_copyTown 55 = .ok (.bipush 32, 2) := zo_16 (z_byk bcX10_copyTown_0 0 55 _ bcX10_copyTown_0_ok rfl) (z_byk bcX10_copyTown_0 0 56 _ bcX10_copyTown_0_ok rfl) rfl
theorem dX10_copyTown_57 : decode cX10_copyTown 57 = .ok (.iload_n 1, 1) := zo_27 (z_byk bcX10_copyTown_0 0 57 _ bcX10_copyTown_0_ok rfl)
theorem dX10_copyTown_58 : decode cX10_copyTown 58 = .ok (.iload_n 2, 1) := zo_28 (z_byk bcX10_copyTown_0 0 58 _ bcX10_copyTown_0_ok rfl)
theorem dX10_copyTown_59 : decode cX10_copyTown 59 = .ok (.invokestatic 261, 3) := zo_184 (z_byk bcX10_copyTown_0 0 59 _ bcX10_copyTown_0_ok rfl) (z_byk bcX10_copyTown_60 60 0 _ bcX10_copyTown_60_ok rfl) (z_byk bcX10_copyTown_60 60 1 _ bcX10_copyTown_60_ok rfl) rfl
theorem dX10_copyTown_6 : decode cX10_copyTown 6 = .ok (.iload_n 2, 1) := zo_28 (z_byk bcX10_copyTown_0 0 6 _ bcX10_copyTown_0_ok rfl)
theorem dX10_copyTown_62 : decode cX10_copyTown 62 = .ok (.aload_n 0, 1) := zo_42 (z_byk bcX10_copyTown_60 60 2 _ bcX10_copyTown_60_ok rfl)
theorem dX10_copyTown_63 : decode cX10_copyTown 63 = .ok (.getfield 49, 3) := zo_180 (z_byk bcX10_copyTown_60 60 3 _ bcX10_copyTown_60_ok rfl) (z_byk bcX10_copyTown_60 60 4 _ bcX10_copyTown_60_ok rfl) (z_byk bcX10_copyTown_60 60 5 _ bcX10_copyTown_60_ok rfl) rfl
theorem dX10_copyTown_66 : decode cX10_copyTown 66 = .ok (.iconst 1, 1) := zo_4 (z_byk bcX10_copyTown_60 60 6 _ bcX10_copyTown_60_ok rfl)
theorem dX10_copyTown_67 : decode cX10_copyTown 67 = .ok (.iload_n 1, 1) := zo_27 (z_byk bcX10_copyTown_60 60 7 _ bcX10_copyTown_60_ok rfl)
theorem dX10_copyTown_68 : decode cX10_copyTown 68 = .ok (.iload_n 2, 1) := zo_28 (z_byk bcX10_copyTown_60 60 8 _ bcX10_copyTown_60_ok rfl)
theorem dX10_copyTown_69 : decode cX10_copyTown 69 = .ok (.invokestatic 261, 3) := zo_184 (z_byk bcX10_copyTown_60 60 9 _ bcX10_copyTown_60_ok rfl) (z_byk bcX10_copyTown_60 60 10 _ bcX10_copyTown_60_ok rfl) (z_byk bcX10_copyTown_60 60 11 _ bcX10_copyTown_60_ok rfl) rfl
theorem dX10_copyTown_7 : decode cX10_copyTown 7 = .ok (.invokestatic 261, 3) := zo_184 (z_byk bcX10_copyTown_0 0 7 _ bcX10_copyTown_0_ok rfl) (z_byk bcX10_copyTown_0 0 8 _ bcX10_copyTown_0_ok rfl) (z_byk bcX10_copyTown_0 0 9 _ bcX10_copyTown_0_ok rfl) rfl
theorem dX10_copyTown_72 : decode cX10_copyTown 72 = .ok (.aload_n 0, 1) := zo_42 (z_byk bcX10_copyTown_60 60 12 _ bcX10_copyTown_60_ok rfl)
theorem dX10_copyTown_73 : decode cX10_copyTown 73 = .ok (.getfield 52, 3) := zo_180 (z_byk bcX10_copyTown_60 60 13 _ bcX10_copyTown_60_ok rfl) (z_byk bcX10_copyTown_60 60 14 _ bcX10_copyTown_60_ok rfl) (z_byk bcX10_copyTown_60 60 15 _ bcX10_copyTown_60_ok rfl) rfl
theorem dX10_copyTown_76 : decode cX10_copyTown 76 = .ok (.sipush 480, 3) := zo_17 (z_byk bcX10_copyTown_60 60 16 _ bcX10_copyTown_60_ok rfl) (z_byk bcX10_copyTown_60 60 17 _ bcX10_copyTown_60_ok rfl) (z_byk bcX10_copyTown_60 60 18 _ bcX10_copyTown_60_ok rfl) rfl
theorem dX10_copyTown_79 : decode cX10_copyTown 79 = .ok (.iload_n 1, 1) := zo_27 (z_byk bcX10_copyTown_60 60 19 _ bcX10_copyTown_60_ok rfl)
theorem dX10_copyTown_80 : decode cX10_copyTown 80 = .ok (.iload_n 2, 1) := zo_28 (z_byk bcX10_copyTown_60 60 20 _ bcX10_copyTown_60_ok rfl)
theorem dX10_copyTown_81 : decode cX10_copyTown 81 = .ok (.invokestatic 261, 3) := zo_184 (z_byk bcX10_copyTown_60 60 21 _ bcX10_copyTown_60_ok rfl) (z_byk bcX10_copyTown_60 60 22 _ bcX10_copyTown_60_ok rfl) (z_byk bcX10_copyTown_60 60 23 _ bcX10_copyTown_60_ok rfl) rfl
theorem dX10_copyTown_84 : decode cX10_copyTown 84 = .ok (.aload_n 0, 1) := zo_42 (z_byk bcX10_copyTown_60 60 24 _ bcX10_copyTown_60_ok rfl)
theorem dX10_copyTown_85 : decode cX10_copyTown 85 = .ok (.getfield 55, 3) := zo_180 (z_byk bcX10_copyTown_60 60 25 _ bcX10_copyTown_60_ok rfl) (z_byk bcX10_copyTown_60 60 26 _ bcX10_copyTown_60_ok rfl) (z_byk bcX10_copyTown_60 60 27 _ bcX10_copyTown_60_ok rfl) rfl
theorem dX10_copyTown_88 : decode cX10_copyTown 88 = .ok (.bipush 20, 2) := zo_16 (z_byk bcX10_copyTown_60 60 28 _ bcX10_copyTown_60_ok rfl) (z_byk bcX10_copyTown_60 60 29 _ bcX10_copyTown_60_ok rfl) rfl
theorem dX10_copyTown_90 : decode cX10_copyTown 90 = .ok (.iload_n 1, 1) := zo_27 (z_byk bcX10_copyTown_60 60 30 _ bcX10_copyTown_60_ok rfl)
theorem dX10_copyTown_91 : decode cX10_copyTown 91 = .ok (.iload_n 2, 1) := zo_28 (z_byk bcX10_copyTown_60 60 31 _ bcX10_copyTown_60_ok rfl)
theorem dX10_copyTown_92 : decode cX10_copyTown 92 = .ok (.invokestatic 261, 3) := zo_184 (z_byk bcX10_copyTown_60 60 32 _ bcX10_copyTown_60_ok rfl) (z_byk bcX10_copyTown_60 60 33 _ bcX10_copyTown_60_ok rfl) (z_byk bcX10_copyTown_60 60 34 _ bcX10_copyTown_60_ok rfl) rfl
theorem dX10_copyTown_95 : decode cX10_copyTown 95 = .ok (.aload_n 0, 1) := zo_42 (z_byk bcX10_copyTown_60 60 35 _ bcX10_copyTown_60_ok rfl)
theorem dX10_copyTown_96 : decode cX10_copyTown 96 = .ok (.getfield 58, 3) := zo_180 (z_byk bcX10_copyTown_60 60 36 _ bcX10_copyTown_60_ok rfl) (z_byk bcX10_copyTown_60 60 37 _ bcX10_copyTown_60_ok rfl) (z_byk bcX10_copyTown_60 60 38 _ bcX10_copyTown_60_ok rfl) rfl
theorem dX10_copyTown_99 : decode cX10_copyTown 99 = .ok (.iconst 2, 1) := zo_5 (z_byk bcX10_copyTown_60 60 39 _ bcX10_copyTown_60_ok rfl)
def bcX10_keep_0 : List Nat := [42, 3, 181, 0, 114, 27, 133, 9, 20, 1, 85, 184, 0, 119, 154, 0, 6, 16, 254, 172, 42, 3, 4, 27, 96, 182, 1, 1, 42, 180, 0, 71, 27, 4, 84, 3, 172]
theorem bcX10_keep_0_ok : z_bys cX10_keep 0 bcX10_keep_0 = true := by decide +kernel
theorem dX10_keep_0 : decode cX10_keep 0 = .ok (.aload_n 0, 1) := zo_42 (z_byk bcX10_keep_0 0 0 _ bcX10_keep_0_ok rfl)
theorem dX10_keep_1 : decode cX10_keep 1 = .ok (.iconst 0, 1) := zo_3 (z_byk bcX10_keep_0 0 1 _ bcX10_keep_0_ok rfl)
theorem dX10_keep_11 : decode cX10_keep 11 = .ok (.invokestatic 119, 3) := zo_184 (z_byk bcX10_keep_0 0 11 _ bcX10_keep_0_ok rfl) (z_byk bcX10_keep_0 0 12 _ bcX10_keep_0_ok rfl) (z_byk bcX10_keep_0 0 13 _ bcX10_keep_0_ok rfl) rfl
theorem dX10_keep_14 : decode cX10_keep 14 = .ok (.ifCond .ne 6, 3) := zo_154 (z_byk bcX10_keep_0 0 14 _ bcX10_keep_0_ok rfl) (z_byk bcX10_keep_0 0 15 _ bcX10_keep_0_ok rfl) (z_byk bcX10_keep_0 0 16 _ bcX10_keep_0_ok rfl) rfl
theorem dX10_keep_17 : decode cX10_keep 17 = .ok (.bipush (-2), 2) := zo_16 (z_byk bcX10_keep_0 0 17 _ bcX10_keep_0_ok rfl) (z_byk bcX10_keep_0 0 18 _ bcX10_keep_0_ok rfl) rfl
theorem dX10_keep_19 : decode cX10_keep 19 = .ok (.ireturn, 1) := zo_172 (z_byk bcX10_keep_0 0 19 _ bcX10_keep_0_ok rfl)
theorem dX10_keep_2 : decode cX10_keep 2 = .ok (.putfield 114, 3) := zo_181 (z_byk bcX10_keep_0 0 2 _ bcX10_keep_0_ok rfl) (z_byk bcX10_keep_0 0 3 _ bcX10_keep_0_ok rfl) (z_byk bcX10_keep_0 0 4 _ bcX10_keep_0_ok rfl) rfl
theorem dX10_keep_20 : decode cX10_keep 20 = .ok (.aload_n 0, 1) := zo_42 (z_byk bcX10_keep_0 0 20 _ bcX10_keep_0_ok rfl)
theorem dX10_keep_21 : decode cX10_keep 21 = .ok (.iconst 0, 1) := zo_3 (z_byk bcX10_keep_0 0 21 _ bcX10_keep_0_ok rfl)
theorem dX10_keep_22 : decode cX10_keep 22 = .ok (.iconst 1, 1) := zo_4 (z_byk bcX10_keep_0 0 22 _ bcX10_keep_0_ok rfl)
theorem dX10_keep_23 : decode cX10_keep 23 = .ok (.iload_n 1, 1) := zo_27 (z_byk bcX10_keep_0 0 23 _ bcX10_keep_0_ok rfl)
theorem dX10_keep_24 : decode cX10_keep 24 = .ok (.iadd, 1) := zo_96 (z_byk bcX10_keep_0 0 24 _ bcX10_keep_0_ok rfl)
theorem dX10_keep_25 : decode cX10_keep 25 = .ok (.invokevirtual 257, 3) := zo_182 (z_byk bcX10_keep_0 0 25 _ bcX10_keep_0_ok rfl) (z_byk bcX10_keep_0 0 26 _ bcX10_keep_0_ok rfl) (z_byk bcX10_keep_0 0 27 _ bcX10_keep_0_ok rfl) rfl
theorem dX10_keep_28 : decode cX10_keep 28 = .ok (.aload_n 0, 1) := zo_42 (z_byk bcX10_keep_0 0 28 _ bcX10_keep_0_ok rfl)
theorem dX10_keep_29 : decode cX10_keep 29 = .ok (.getfield 71, 3) := zo_180 (z_byk bcX10_keep_0 0 29 _ bcX10_keep_0_ok rfl) (z_byk bcX10_keep_0 0 30 _ bcX10_keep_0_ok rfl) (z_byk bcX10_keep_0 0 31 _ bcX10_keep_0_ok rfl) rfl
theorem dX10_keep_32 : decode cX10_keep 32 = .ok (.iload_n 1, 1) := zo_27 (z_byk bcX10_keep_0 0 32 _ bcX10_keep_0_ok rfl)
theorem dX10_keep_33 : decode cX10_keep 33 = .ok (.iconst 1, 1) := zo_4 (z_byk bcX10_keep_0 0 33 _ bcX10_keep_0_ok rfl)
theorem dX10_keep_34 : decode cX10_keep 34 = .ok (.bastore, 1) := zo_84 (z_byk bcX10_keep_0 0 34 _ bcX10_keep_0_ok rfl)
theorem dX10_keep_35 : decode cX10_keep 35 = .ok (.iconst 0, 1) := zo_3 (z_byk bcX10_keep_0 0 35 _ bcX10_keep_0_ok rfl)
theorem dX10_keep_36 : decode cX10_keep 36 = .ok (.ireturn, 1) := zo_172 (z_byk bcX10_keep_0 0 36 _ bcX10_keep_0_ok rfl)
theorem dX10_keep_5 : decode cX10_keep 5 = .ok (.iload_n 1, 1) := zo_27 (z_byk bcX10_keep_0 0 5 _ bcX10_keep_0_ok rfl)
theorem dX10_keep_6 : decode cX10_keep 6 = .ok (.i2l, 1) := zo_133 (z_byk bcX10_keep_0 0 6 _ bcX10_keep_0_ok rfl)
theorem dX10_keep_7 : decode cX10_keep 7 = .ok (.lconst 0, 1) := zo_9 (z_byk bcX10_keep_0 0 7 _ bcX10_keep_0_ok rfl)
theorem dX10_keep_8 : decode cX10_keep 8 = .ok (.ldc2_w 341, 3) := zo_20 (z_byk bcX10_keep_0 0 8 _ bcX10_keep_0_ok rfl) (z_byk bcX10_keep_0 0 9 _ bcX10_keep_0_ok rfl) (z_byk bcX10_keep_0 0 10 _ bcX10_keep_0_ok rfl) rfl
set_option maxHeartbeats 4000000 in
set_option maxRecDepth 100000 in
theorem k_X10_copyRow (l : Launch) (sa : Nat → Nat) (dC : Nat → ClassId) (dI : Nat → Nat → Nat) (a : Nat) (p2 : Int32) (p3 : Int32) (cA_a : ClassId) (f_a : Nat → Int32) (b_p2 : 0 ≤ p2.toInt ∧ p2.toInt ≤ 4) (b_p3 : 0 ≤ p3.toInt ∧ p3.toInt ≤ 4) (sz : Nat) : Met l yX10_copyRow (.code yX10_copyRow cX10_copyRow 5 none :: zT) ({ frames := 0, cells := 0, slots := 0, locals := 0 }) (va_Pc [.ref a, .int 1, .int p2, .int p3] (zB sa dC dI [(a, .inl (cA_a, 5, .inl f_a))] [(cA_a, .int)] sz)) (va_Qv (fun _ : Unit => True) (fun _ t => ∃ (n_a : Nat → Int32), (zCq f_a n_a 1 p2.toInt p3.toInt 1) ∧ zW dC dI [(a, .inl (cA_a, 5, .inl n_a))] [] (va_A [(a, .inl (cA_a, 5, .inl f_a))] sz) t) (va_A [(a, .inl (cA_a, 5, .inl f_a))] sz)) 0 0 (va_A [(a, .inl (cA_a, 5, .inl f_a))] sz) := by
  refine z_enter (by decide) (by exact (Nat.le_of_ble_eq_true rfl)) ?_
  intro p e s m args below meth c ls A R Qc hargs hsz hQe hAe hRe hx hb hml hr hts hown hlocks hin hl hP hK hD hN hXs hA hS
  rw [hAe] at hQe
  have hown : s.vm.findClass RX10 = some m.cls := hown
  have hl : lv_has ls 5 [(0, .ref a), (1, .int 1), (2, .int p2), (3, .int p3)] := hl
  refine lv_iconst (v := 0) hx hb dX10_copyRow_0 (by decide) ?_
  refine lv_istore (lv' := [(4, .int 0), (0, .ref a), (1, .int 1), (2, .int p2), (3, .int p3)]) hx hb dX10_copyRow_1 hl (by decide) rfl (fun ls hl => ?_)
  have hbe : zCq f_a f_a 1 p2.toInt p3.toInt (Int32.toInt 0) := zCq.zero (by decide)
  have loop_1 : ∀ (t : Nat) (v4_1 : Int32) (g_a_2 : Nat → Int32) (b_v4_1 : 0 ≤ v4_1.toInt ∧ v4_1.toInt ≤ 1) (ex_1 : zCq f_a g_a_2 1 p2.toInt p3.toInt v4_1.toInt) (H : Heap) (locs : List Loc) (ls : Array Slot), 1 - v4_1.toInt < (t : Int) → va_P (dC, dI) vwCl [(a, .inl (cA_a, 5, .inl g_a_2))] H → va_D A [(a, .inl (cA_a, 5, .inl g_a_2))] → va_S A s.heap H locs → lv_has ls 5 [(0, .ref a), (1, .int 1), (2, .int p2), (3, .int p3), (4, .int v4_1)] → W p l e R s m args below meth c H locs 0 0 (MQ below Qc args s 0 0 A) (F0 m 3 ls []) := by
    intro t
    induction t with
    | zero => intro v4_1 g_a_2 b_v4_1 ex_1 H locs ls hmu _ _ _ _; exact absurd hmu (by first | with_reducible assumption | omega)
    | succ t ih_1 =>
      intro v4_1 g_a_2 b_v4_1 ex_1 H locs ls hmu hP hD hS hl
      refine lv_iload hx hb dX10_copyRow_3 (lv_at hl 4 rfl) ?_
      refine lv_iload_n hx hb dX10_copyRow_5 rfl (lv_at hl 1 rfl) ?_
      refine lv_icmp_ge (tgt := 31) hx hb dX10_copyRow_6 (by decide) (fun c_3 => ?_) (fun c_3 => ?_)
      · have ic_3 := zz_ge rfl (show Int32.toInt 1 = 1 from by decide) c_3
        have hkk : v4_1.toInt = 1 := by omega
        have hcq : zCq f_a g_a_2 1 p2.toInt p3.toInt 1 := by have h9 := ex_1; rw [hkk] at h9; exact h9
        exact W.vret hx hb hr (fun t ht hW => by rw [← hQe]; exact ⟨⟨(), rfl, trivial, ⟨g_a_2, (by first | omega | assumption), z_ret hP hK hD ht hW [0] [] rfl (by decide) rfl⟩⟩, hS.F ht⟩) hS.2.2 dX10_copyRow_31
      · have ic_3 := zz_nge rfl (show Int32.toInt 1 = 1 from by decide) c_3
        refine lv_aload_n hx hb dX10_copyRow_9 rfl (lv_at hl 0 rfl) ?_
        refine lv_iload_n hx hb dX10_copyRow_10 rfl (lv_at hl 1 rfl) ?_
        refine lv_iload_n hx hb dX10_copyRow_11 rfl (lv_at hl 3 rfl) ?_
        refine lv_imul hx hb dX10_copyRow_12 ?_
        refine lv_topi (fun x_4 ex_4 => ?_)
        have b_x_4 : x_4.toInt = 1 * p3.toInt := by rw [ex_4]; exact zi_mul (show Int32.toInt 1 = 1 from by decide) rfl (by first | with_reducible assumption | omega)
        refine lv_iload hx hb dX10_copyRow_13 (lv_at hl 4 rfl) ?_
        refine lv_iadd hx hb dX10_copyRow_15 ?_
        refine lv_topi (fun x_5 ex_5 => ?_)
        have b_x_5 : x_5.toInt = x_4.toInt + v4_1.toInt := by rw [ex_5]; exact zi_add rfl rfl (by first | with_reducible assumption | omega)
        refine lv_aload_n hx hb dX10_copyRow_16 rfl (lv_at hl 0 rfl) ?_
        refine lv_iload_n hx hb dX10_copyRow_17 rfl (lv_at hl 1 rfl) ?_
        refine lv_iload_n hx hb dX10_copyRow_18 rfl (lv_at hl 2 rfl) ?_
        refine lv_imul hx hb dX10_copyRow_19 ?_
        refine lv_topi (fun x_6 ex_6 => ?_)
        have b_x_6 : x_6.toInt = 1 * p2.toInt := by rw [ex_6]; exact zi_mul (show Int32.toInt 1 = 1 from by decide) rfl (by first | with_reducible assumption | omega)
        refine lv_iload hx hb dX10_copyRow_20 (lv_at hl 4 rfl) ?_
        refine lv_iadd hx hb dX10_copyRow_22 ?_
        refine lv_topi (fun x_7 ex_7 => ?_)
        have b_x_7 : x_7.toInt = x_6.toInt + v4_1.toInt := by rw [ex_7]; exact zi_add rfl rfl (by first | with_reducible assumption | omega)
        refine va_iald hx hb hK hP 0 0 rfl rfl (zi_in rfl (by first | with_reducible assumption | omega)) dX10_copyRow_23 ?_
        refine lv_topi (fun x_8 ex_8 => ?_)
        refine va_iast hx hb hK hP hD hS 0 0 rfl rfl (zi_in rfl (by first | with_reducible assumption | omega)) dX10_copyRow_24 (fun H locs hP hD hS => ?_)
        obtain ⟨f_9, ef_9⟩ : ∃ g : Nat → Int32, g = upd g_a_2 (Int32.toNatClampNeg x_5) x_8 := ⟨_, rfl⟩
        have hP : va_P (dC, dI) vwCl [(a, .inl (cA_a, 5, .inl (upd g_a_2 (Int32.toNatClampNeg x_5) x_8)))] H := hP
        have hD : va_D A [(a, .inl (cA_a, 5, .inl (upd g_a_2 (Int32.toNatClampNeg x_5) x_8)))] := hD
        rw [← ef_9] at hP hD
        obtain ⟨x_10, ex_10⟩ : ∃ z : Int32, z = v4_1 + Int32.ofInt 1 := ⟨_, rfl⟩
        have b_x_10 : x_10.toInt = v4_1.toInt + 1 := by rw [ex_10]; exact zi_add rfl (show (Int32.ofInt 1).toInt = 1 from by decide) (by first | with_reducible assumption | omega)
        refine lv_iinc (v := x_10) (lv' := [(4, .int x_10), (0, .ref a), (1, .int 1), (2, .int p2), (3, .int p3)]) hx hb dX10_copyRow_25 hl (k := 4) rfl ex_10.symm (by decide) rfl (fun ls hl => ?_)
        refine lv_goto (tgt := 3) hx hb dX10_copyRow_28 (by decide) ?_
        have hbk : zCq f_a f_9 1 p2.toInt p3.toInt x_10.toInt := zCq.step ex_1 ef_9 ex_8 (i := x_5) (i2 := x_7) rfl rfl (by first | with_reducible assumption | omega) (by first | with_reducible assumption | omega) (by first | with_reducible assumption | omega) (by first | with_reducible assumption | omega) (by first | with_reducible assumption | omega)
        exact ih_1 x_10 f_9 (by first | with_reducible assumption | omega) (by first | assumption | decide | omega) _ _ _ (by first | with_reducible assumption | omega) (hP.sub (ws' := [(a, .inl (cA_a, 5, .inl f_9))]) [0] rfl) (hD.sub (ws' := [(a, .inl (cA_a, 5, .inl f_9))]) [0] (by decide) rfl) hS (lv_sub hl [1, 2, 3, 4, 0] rfl)
  have zb_0 : Int32.toInt 0 = 0 := by decide
  exact loop_1 3 (0) f_a (by decide) (by first | assumption | decide | omega) _ _ _ (by decide) hP hD hS (lv_sub hl [1, 2, 3, 4, 0] rfl)
set_option maxHeartbeats 4000000 in
set_option maxRecDepth 100000 in
theorem k_X10_copyRow_v1 (l : Launch) (sa : Nat → Nat) (dC : Nat → ClassId) (dI : Nat → Nat → Nat) (a : Nat) (p2 : Int32) (p3 : Int32) (cA_a : ClassId) (f_a : Nat → Int32) (b_p2 : 0 ≤ p2.toInt ∧ p2.toInt ≤ 4) (b_p3 : 0 ≤ p3.toInt ∧ p3.toInt ≤ 4) (b_f_a : ∀ j : Nat, 0 ≤ (f_a j).toInt ∧ (f_a j).toInt ≤ 48) (sz : Nat) : Met l yX10_copyRow (.code yX10_copyRow cX10_copyRow 5 none :: zT) ({ frames := 0, cells := 0, slots := 0, locals := 0 }) (va_Pc [.ref a, .int 1, .int p2, .int p3] (zB sa dC dI [(a, .inl (cA_a, 5, .inl f_a))] [(cA_a, .int)] sz)) (va_Qv (fun _ : Unit => True) (fun _ t => ∃ (n_a : Nat → Int32), (∀ j : Nat, 0 ≤ (n_a j).toInt ∧ (n_a j).toInt ≤ 48) ∧ (zCq f_a n_a 1 p2.toInt p3.toInt 1) ∧ zW dC dI [(a, .inl (cA_a, 5, .inl n_a))] [] (va_A [(a, .inl (cA_a, 5, .inl f_a))] sz) t) (va_A [(a, .inl (cA_a, 5, .inl f_a))] sz)) 0 0 (va_A [(a, .inl (cA_a, 5, .inl f_a))] sz) := by
  refine z_enter (by decide) (by exact (Nat.le_of_ble_eq_true rfl)) ?_
  intro p e s m args below meth c ls A R Qc hargs hsz hQe hAe hRe hx hb hml hr hts hown hlocks hin hl hP hK hD hN hXs hA hS
  rw [hAe] at hQe
  have hown : s.vm.findClass RX10 = some m.cls := hown
  have hl : lv_has ls 5 [(0, .ref a), (1, .int 1), (2, .int p2), (3, .int p3)] := hl
  refine lv_iconst (v := 0) hx hb dX10_copyRow_0 (by decide) ?_
  refine lv_istore (lv' := [(4, .int 0), (0, .ref a), (1, .int 1), (2, .int p2), (3, .int p3)]) hx hb dX10_copyRow_1 hl (by decide) rfl (fun ls hl => ?_)
  have hbe : zCq f_a f_a 1 p2.toInt p3.toInt (Int32.toInt 0) := zCq.zero (by decide)
  have loop_1 : ∀ (t : Nat) (v4_1 : Int32) (g_a_2 : Nat → Int32) (b_v4_1 : 0 ≤ v4_1.toInt ∧ v4_1.toInt ≤ 1) (b_g_a_2 : ∀ j : Nat, 0 ≤ (g_a_2 j).toInt ∧ (g_a_2 j).toInt ≤ 48) (ex_1 : zCq f_a g_a_2 1 p2.toInt p3.toInt v4_1.toInt) (H : Heap) (locs : List Loc) (ls : Array Slot), 1 - v4_1.toInt < (t : Int) → va_P (dC, dI) vwCl [(a, .inl (cA_a, 5, .inl g_a_2))] H → va_D A [(a, .inl (cA_a, 5, .inl g_a_2))] → va_S A s.heap H locs → lv_has ls 5 [(0, .ref a), (1, .int 1), (2, .int p2), (3, .int p3), (4, .int v4_1)] → W p l e R s m args below meth c H locs 0 0 (MQ below Qc args s 0 0 A) (F0 m 3 ls []) := by
    intro t
    induction t with
    | zero => intro v4_1 g_a_2 b_v4_1 b_g_a_2 ex_1 H locs ls hmu _ _ _ _; exact absurd hmu (by first | with_reducible assumption | omega)
    | succ t ih_1 =>
      intro v4_1 g_a_2 b_v4_1 b_g_a_2 ex_1 H locs ls hmu hP hD hS hl
      refine lv_iload hx hb dX10_copyRow_3 (lv_at hl 4 rfl) ?_
      refine lv_iload_n hx hb dX10_copyRow_5 rfl (lv_at hl 1 rfl) ?_
      refine lv_icmp_ge (tgt := 31) hx hb dX10_copyRow_6 (by decide) (fun c_3 => ?_) (fun c_3 => ?_)
      · have ic_3 := zz_ge rfl (show Int32.toInt 1 = 1 from by decide) c_3
        have hkk : v4_1.toInt = 1 := by omega
        have hcq : zCq f_a g_a_2 1 p2.toInt p3.toInt 1 := by have h9 := ex_1; rw [hkk] at h9; exact h9
        exact W.vret hx hb hr (fun t ht hW => by rw [← hQe]; exact ⟨⟨(), rfl, trivial, ⟨g_a_2, b_g_a_2, (by first | omega | assumption), z_ret hP hK hD ht hW [0] [] rfl (by decide) rfl⟩⟩, hS.F ht⟩) hS.2.2 dX10_copyRow_31
      · have ic_3 := zz_nge rfl (show Int32.toInt 1 = 1 from by decide) c_3
        refine lv_aload_n hx hb dX10_copyRow_9 rfl (lv_at hl 0 rfl) ?_
        refine lv_iload_n hx hb dX10_copyRow_10 rfl (lv_at hl 1 rfl) ?_
        refine lv_iload_n hx hb dX10_copyRow_11 rfl (lv_at hl 3 rfl) ?_
        refine lv_imul hx hb dX10_copyRow_12 ?_
        refine lv_topi (fun x_4 ex_4 => ?_)
        have b_x_4 : x_4.toInt = 1 * p3.toInt := by rw [ex_4]; exact zi_mul (show Int32.toInt 1 = 1 from by decide) rfl (by first | with_reducible assumption | omega)
        refine lv_iload hx hb dX10_copyRow_13 (lv_at hl 4 rfl) ?_
        refine lv_iadd hx hb dX10_copyRow_15 ?_
        refine lv_topi (fun x_5 ex_5 => ?_)
        have b_x_5 : x_5.toInt = x_4.toInt + v4_1.toInt := by rw [ex_5]; exact zi_add rfl rfl (by first | with_reducible assumption | omega)
        refine lv_aload_n hx hb dX10_copyRow_16 rfl (lv_at hl 0 rfl) ?_
        refine lv_iload_n hx hb dX10_copyRow_17 rfl (lv_at hl 1 rfl) ?_
        refine lv_iload_n hx hb dX10_copyRow_18 rfl (lv_at hl 2 rfl) ?_
        refine lv_imul hx hb dX10_copyRow_19 ?_
        refine lv_topi (fun x_6 ex_6 => ?_)
        have b_x_6 : x_6.toInt = 1 * p2.toInt := by rw [ex_6]; exact zi_mul (show Int32.toInt 1 = 1 from by decide) rfl (by first | with_reducible assumption | omega)
        refine lv_iload hx hb dX10_copyRow_20 (lv_at hl 4 rfl) ?_
        refine lv_iadd hx hb dX10_copyRow_22 ?_
        refine lv_topi (fun x_7 ex_7 => ?_)
        have b_x_7 : x_7.toInt = x_6.toInt + v4_1.toInt := by rw [ex_7]; exact zi_add rfl rfl (by first | with_reducible assumption | omega)
        refine va_iald hx hb hK hP 0 0 rfl rfl (zi_in rfl (by first | with_reducible assumption | omega)) dX10_copyRow_23 ?_
        refine lv_topi (fun x_8 ex_8 => ?_)
        have b_x_8 : 0 ≤ x_8.toInt ∧ x_8.toInt ≤ 48 := by rw [ex_8]; exact b_g_a_2 _
        refine va_iast hx hb hK hP hD hS 0 0 rfl rfl (zi_in rfl (by first | with_reducible assumption | omega)) dX10_copyRow_24 (fun H locs hP hD hS => ?_)
        obtain ⟨f_9, ef_9⟩ : ∃ g : Nat → Int32, g = upd g_a_2 (Int32.toNatClampNeg x_5) x_8 := ⟨_, rfl⟩
        have b_f_9 : ∀ j : Nat, 0 ≤ (f_9 j).toInt ∧ (f_9 j).toInt ≤ 48 := by rw [ef_9]; exact zi_upd b_g_a_2 rfl (by first | with_reducible assumption | omega)
        have hP : va_P (dC, dI) vwCl [(a, .inl (cA_a, 5, .inl (upd g_a_2 (Int32.toNatClampNeg x_5) x_8)))] H := hP
        have hD : va_D A [(a, .inl (cA_a, 5, .inl (upd g_a_2 (Int32.toNatClampNeg x_5) x_8)))] := hD
        rw [← ef_9] at hP hD
        obtain ⟨x_10, ex_10⟩ : ∃ z : Int32, z = v4_1 + Int32.ofInt 1 := ⟨_, rfl⟩
        have b_x_10 : x_10.toInt = v4_1.toInt + 1 := by rw [ex_10]; exact zi_add rfl (show (Int32.ofInt 1).toInt = 1 from by decide) (by first | with_reducible assumption | omega)
        refine lv_iinc (v := x_10) (lv' := [(4, .int x_10), (0, .ref a), (1, .int 1), (2, .int p2), (3, .int p3)]) hx hb dX10_copyRow_25 hl (k := 4) rfl ex_10.symm (by decide) rfl (fun ls hl => ?_)
        refine lv_goto (tgt := 3) hx hb dX10_copyRow_28 (by decide) ?_
        have hbk : zCq f_a f_9 1 p2.toInt p3.toInt x_10.toInt := zCq.step ex_1 ef_9 ex_8 (i := x_5) (i2 := x_7) rfl rfl (by first | with_reducible assumption | omega) (by first | with_reducible assumption | omega) (by first | with_reducible assumption | omega) (by first | with_reducible assumption | omega) (by first | with_reducible assumption | omega)
        exact ih_1 x_10 f_9 (by first | with_reducible assumption | omega) b_f_9 (by first | assumption | decide | omega) _ _ _ (by first | with_reducible assumption | omega) (hP.sub (ws' := [(a, .inl (cA_a, 5, .inl f_9))]) [0] rfl) (hD.sub (ws' := [(a, .inl (cA_a, 5, .inl f_9))]) [0] (by decide) rfl) hS (lv_sub hl [1, 2, 3, 4, 0] rfl)
  have zb_0 : Int32.toInt 0 = 0 := by decide
  exact loop_1 3 (0) f_a (by decide) b_f_a (by first | assumption | decide | omega) _ _ _ (by decide) hP hD hS (lv_sub hl [1, 2, 3, 4, 0] rfl)
set_option maxHeartbeats 4000000 in
set_option maxRecDepth 100000 in
theorem k_X10_copyRow_v2 (l : Launch) (sa : Nat → Nat) (dC : Nat → ClassId) (dI : Nat → Nat → Nat) (a : Nat) (p2 : Int32) (p3 : Int32) (cA_a : ClassId) (f_a : Nat → Int32) (b_p2 : 0 ≤ p2.toInt ∧ p2.toInt ≤ 4) (b_p3 : 0 ≤ p3.toInt ∧ p3.toInt ≤ 4) (b_f_a : ∀ j : Nat, 0 ≤ (f_a j).toInt ∧ (f_a j).toInt ≤ 10) (sz : Nat) : Met l yX10_copyRow (.code yX10_copyRow cX10_copyRow 5 none :: zT) ({ frames := 0, cells := 0, slots := 0, locals := 0 }) (va_Pc [.ref a, .int 1, .int p2, .int p3] (zB sa dC dI [(a, .inl (cA_a, 5, .inl f_a))] [(cA_a, .int)] sz)) (va_Qv (fun _ : Unit => True) (fun _ t => ∃ (n_a : Nat → Int32), (∀ j : Nat, 0 ≤ (n_a j).toInt ∧ (n_a j).toInt ≤ 10) ∧ (zCq f_a n_a 1 p2.toInt p3.toInt 1) ∧ zW dC dI [(a, .inl (cA_a, 5, .inl n_a))] [] (va_A [(a, .inl (cA_a, 5, .inl f_a))] sz) t) (va_A [(a, .inl (cA_a, 5, .inl f_a))] sz)) 0 0 (va_A [(a, .inl (cA_a, 5, .inl f_a))] sz) := by
  refine z_enter (by decide) (by exact (Nat.le_of_ble_eq_true rfl)) ?_
  intro p e s m args below meth c ls A R Qc hargs hsz hQe hAe hRe hx hb hml hr hts hown hlocks hin hl hP hK hD hN hXs hA hS
  rw [hAe] at hQe
  have hown : s.vm.findClass RX10 = some m.cls := hown
  have hl : lv_has ls 5 [(0, .ref a), (1, .int 1), (2, .int p2), (3, .int p3)] := hl
  refine lv_iconst (v := 0) hx hb dX10_copyRow_0 (by decide) ?_
  refine lv_istore (lv' := [(4, .int 0), (0, .ref a), (1, .int 1), (2, .int p2), (3, .int p3)]) hx hb dX10_copyRow_1 hl (by decide) rfl (fun ls hl => ?_)
  have hbe : zCq f_a f_a 1 p2.toInt p3.toInt (Int32.toInt 0) := zCq.zero (by decide)
  have loop_1 : ∀ (t : Nat) (v4_1 : Int32) (g_a_2 : Nat → Int32) (b_v4_1 : 0 ≤ v4_1.toInt ∧ v4_1.toInt ≤ 1) (b_g_a_2 : ∀ j : Nat, 0 ≤ (g_a_2 j).toInt ∧ (g_a_2 j).toInt ≤ 10) (ex_1 : zCq f_a g_a_2 1 p2.toInt p3.toInt v4_1.toInt) (H : Heap) (locs : List Loc) (ls : Array Slot), 1 - v4_1.toInt < (t : Int) → va_P (dC, dI) vwCl [(a, .inl (cA_a, 5, .inl g_a_2))] H → va_D A [(a, .inl (cA_a, 5, .inl g_a_2))] → va_S A s.heap H locs → lv_has ls 5 [(0, .ref a), (1, .int 1), (2, .int p2), (3, .int p3), (4, .int v4_1)] → W p l e R s m args below meth c H locs 0 0 (MQ below Qc args s 0 0 A) (F0 m 3 ls []) := by
    intro t
    induction t with
    | zero => intro v4_1 g_a_2 b_v4_1 b_g_a_2 ex_1 H locs ls hmu _ _ _ _; exact absurd hmu (by first | with_reducible assumption | omega)
    | succ t ih_1 =>
      intro v4_1 g_a_2 b_v4_1 b_g_a_2 ex_1 H locs ls hmu hP hD hS hl
      refine lv_iload hx hb dX10_copyRow_3 (lv_at hl 4 rfl) ?_
      refine lv_iload_n hx hb dX10_copyRow_5 rfl (lv_at hl 1 rfl) ?_
      refine lv_icmp_ge (tgt := 31) hx hb dX10_copyRow_6 (by decide) (fun c_3 => ?_) (fun c_3 => ?_)
      · have ic_3 := zz_ge rfl (show Int32.toInt 1 = 1 from by decide) c_3
        have hkk : v4_1.toInt = 1 := by omega
        have hcq : zCq f_a g_a_2 1 p2.toInt p3.toInt 1 := by have h9 := ex_1; rw [hkk] at h9; exact h9
        exact W.vret hx hb hr (fun t ht hW => by rw [← hQe]; exact ⟨⟨(), rfl, trivial, ⟨g_a_2, b_g_a_2, (by first | omega | assumption), z_ret hP hK hD ht hW [0] [] rfl (by decide) rfl⟩⟩, hS.F ht⟩) hS.2.2 dX10_copyRow_31
      · have ic_3 := zz_nge rfl (show Int32.toInt 1 = 1 from by decide) c_3
        refine lv_aload_n hx hb dX10_copyRow_9 rfl (lv_at hl 0 rfl) ?_
        refine lv_iload_n hx hb dX10_copyRow_10 rfl (lv_at hl 1 rfl) ?_
        refine lv_iload_n hx hb dX10_copyRow_11 rfl (lv_at hl 3 rfl) ?_
        refine lv_imul hx hb dX10_copyRow_12 ?_
        refine lv_topi (fun x_4 ex_4 => ?_)
        have b_x_4 : x_4.toInt = 1 * p3.toInt := by rw [ex_4]; exact zi_mul (show Int32.toInt 1 = 1 from by decide) rfl (by first | with_reducible assumption | omega)
        refine lv_iload hx hb dX10_copyRow_13 (lv_at hl 4 rfl) ?_
        refine lv_iadd hx hb dX10_copyRow_15 ?_
        refine lv_topi (fun x_5 ex_5 => ?_)
        have b_x_5 : x_5.toInt = x_4.toInt + v4_1.toInt := by rw [ex_5]; exact zi_add rfl rfl (by first | with_reducible assumption | omega)
        refine lv_aload_n hx hb dX10_copyRow_16 rfl (lv_at hl 0 rfl) ?_
        refine lv_iload_n hx hb dX10_copyRow_17 rfl (lv_at hl 1 rfl) ?_
        refine lv_iload_n hx hb dX10_copyRow_18 rfl (lv_at hl 2 rfl) ?_
        refine lv_imul hx hb dX10_copyRow_19 ?_
        refine lv_topi (fun x_6 ex_6 => ?_)
        have b_x_6 : x_6.toInt = 1 * p2.toInt := by rw [ex_6]; exact zi_mul (show Int32.toInt 1 = 1 from by decide) rfl (by first | with_reducible assumption | omega)
        refine lv_iload hx hb dX10_copyRow_20 (lv_at hl 4 rfl) ?_
        refine lv_iadd hx hb dX10_copyRow_22 ?_
        refine lv_topi (fun x_7 ex_7 => ?_)
        have b_x_7 : x_7.toInt = x_6.toInt + v4_1.toInt := by rw [ex_7]; exact zi_add rfl rfl (by first | with_reducible assumption | omega)
        refine va_iald hx hb hK hP 0 0 rfl rfl (zi_in rfl (by first | with_reducible assumption | omega)) dX10_copyRow_23 ?_
        refine lv_topi (fun x_8 ex_8 => ?_)
        have b_x_8 : 0 ≤ x_8.toInt ∧ x_8.toInt ≤ 10 := by rw [ex_8]; exact b_g_a_2 _
        refine va_iast hx hb hK hP hD hS 0 0 rfl rfl (zi_in rfl (by first | with_reducible assumption | omega)) dX10_copyRow_24 (fun H locs hP hD hS => ?_)
        obtain ⟨f_9, ef_9⟩ : ∃ g : Nat → Int32, g = upd g_a_2 (Int32.toNatClampNeg x_5) x_8 := ⟨_, rfl⟩
        have b_f_9 : ∀ j : Nat, 0 ≤ (f_9 j).toInt ∧ (f_9 j).toInt ≤ 10 := by rw [ef_9]; exact zi_upd b_g_a_2 rfl (by first | with_reducible assumption | omega)
        have hP : va_P (dC, dI) vwCl [(a, .inl (cA_a, 5, .inl (upd g_a_2 (Int32.toNatClampNeg x_5) x_8)))] H := hP
        have hD : va_D A [(a, .inl (cA_a, 5, .inl (upd g_a_2 (Int32.toNatClampNeg x_5) x_8)))] := hD
        rw [← ef_9] at hP hD
        obtain ⟨x_10, ex_10⟩ : ∃ z : Int32, z = v4_1 + Int32.ofInt 1 := ⟨_, rfl⟩
        have b_x_10 : x_10.toInt = v4_1.toInt + 1 := by rw [ex_10]; exact zi_add rfl (show (Int32.ofInt 1).toInt = 1 from by decide) (by first | with_reducible assumption | omega)
        refine lv_iinc (v := x_10) (lv' := [(4, .int x_10), (0, .ref a), (1, .int 1), (2, .int p2), (3, .int p3)]) hx hb dX10_copyRow_25 hl (k := 4) rfl ex_10.symm (by decide) rfl (fun ls hl => ?_)
        refine lv_goto (tgt := 3) hx hb dX10_copyRow_28 (by decide) ?_
        have hbk : zCq f_a f_9 1 p2.toInt p3.toInt x_10.toInt := zCq.step ex_1 ef_9 ex_8 (i := x_5) (i2 := x_7) rfl rfl (by first | with_reducible assumption | omega) (by first | with_reducible assumption | omega) (by first | with_reducible assumption | omega) (by first | with_reducible assumption | omega) (by first | with_reducible assumption | omega)
        exact ih_1 x_10 f_9 (by first | with_reducible assumption | omega) b_f_9 (by first | assumption | decide | omega) _ _ _ (by first | with_reducible assumption | omega) (hP.sub (ws' := [(a, .inl (cA_a, 5, .inl f_9))]) [0] rfl) (hD.sub (ws' := [(a, .inl (cA_a, 5, .inl f_9))]) [0] (by decide) rfl) hS (lv_sub hl [1, 2, 3, 4, 0] rfl)
  have zb_0 : Int32.toInt 0 = 0 := by decide
  exact loop_1 3 (0) f_a (by decide) b_f_a (by first | assumption | decide | omega) _ _ _ (by decide) hP hD hS (lv_sub hl [1, 2, 3, 4, 0] rfl)
set_option maxHeartbeats 4000000 in
set_option maxRecDepth 100000 in
theorem k_X10_copyRow_v3 (l : Launch) (sa : Nat → Nat) (dC : Nat → ClassId) (dI : Nat → Nat → Nat) (a : Nat) (p2 : Int32) (p3 : Int32) (cA_a : ClassId) (f_a : Nat → Int32) (b_p2 : 0 ≤ p2.toInt ∧ p2.toInt ≤ 4) (b_p3 : 0 ≤ p3.toInt ∧ p3.toInt ≤ 4) (b_f_a : ∀ j : Nat, ¬ j % 10 = 0 → (-1) ≤ (f_a j).toInt ∧ (f_a j).toInt < ((j % 10 : Nat) : Int)) (sz : Nat) : Met l yX10_copyRow (.code yX10_copyRow cX10_copyRow 5 none :: zT) ({ frames := 0, cells := 0, slots := 0, locals := 0 }) (va_Pc [.ref a, .int 10, .int p2, .int p3] (zB sa dC dI [(a, .inl (cA_a, 50, .inl f_a))] [(cA_a, .int)] sz)) (va_Qv (fun _ : Unit => True) (fun _ t => ∃ (n_a : Nat → Int32), (∀ j : Nat, ¬ j % 10 = 0 → (-1) ≤ (n_a j).toInt ∧ (n_a j).toInt < ((j % 10 : Nat) : Int)) ∧ (zCq f_a n_a 10 p2.toInt p3.toInt 10) ∧ zW dC dI [(a, .inl (cA_a, 50, .inl n_a))] [] (va_A [(a, .inl (cA_a, 50, .inl f_a))] sz) t) (va_A [(a, .inl (cA_a, 50, .inl f_a))] sz)) 0 0 (va_A [(a, .inl (cA_a, 50, .inl f_a))] sz) := by
  refine z_enter (by decide) (by exact (Nat.le_of_ble_eq_true rfl)) ?_
  intro p e s m args below meth c ls A R Qc hargs hsz hQe hAe hRe hx hb hml hr hts hown hlocks hin hl hP hK hD hN hXs hA hS
  rw [hAe] at hQe
  have hown : s.vm.findClass RX10 = some m.cls := hown
  have hl : lv_has ls 5 [(0, .ref a), (1, .int 10), (2, .int p2), (3, .int p3)] := hl
  refine lv_iconst (v := 0) hx hb dX10_copyRow_0 (by decide) ?_
  refine lv_istore (lv' := [(4, .int 0), (0, .ref a), (1, .int 10), (2, .int p2), (3, .int p3)]) hx hb dX10_copyRow_1 hl (by decide) rfl (fun ls hl => ?_)
  have hbe : zCq f_a f_a 10 p2.toInt p3.toInt (Int32.toInt 0) := zCq.zero (by decide)
  have loop_1 : ∀ (t : Nat) (v4_1 : Int32) (g_a_2 : Nat → Int32) (b_v4_1 : 0 ≤ v4_1.toInt ∧ v4_1.toInt ≤ 10) (b_g_a_2 : ∀ j : Nat, ¬ j % 10 = 0 → (-1) ≤ (g_a_2 j).toInt ∧ (g_a_2 j).toInt < ((j % 10 : Nat) : Int)) (ex_1 : zCq f_a g_a_2 10 p2.toInt p3.toInt v4_1.toInt) (H : Heap) (locs : List Loc) (ls : Array Slot), 10 - v4_1.toInt < (t : Int) → va_P (dC, dI) vwCl [(a, .inl (cA_a, 50, .inl g_a_2))] H → va_D A [(a, .inl (cA_a, 50, .inl g_a_2))] → va_S A s.heap H locs → lv_has ls 5 [(0, .ref a), (1, .int 10), (2, .int p2), (3, .int p3), (4, .int v4_1)] → W p l e R s m args below meth c H locs 0 0 (MQ below Qc args s 0 0 A) (F0 m 3 ls []) := by
    intro t
    induction t with
    | zero => intro v4_1 g_a_2 b_v4_1 b_g_a_2 ex_1 H locs ls hmu _ _ _ _; exact absurd hmu (by first | with_reducible assumption | omega)
    | succ t ih_1 =>
      intro v4_1 g_a_2 b_v4_1 b_g_a_2 ex_1 H locs ls hmu hP hD hS hl
      refine lv_iload hx hb dX10_copyRow_3 (lv_at hl 4 rfl) ?_
      refine lv_iload_n hx hb dX10_copyRow_5 rfl (lv_at hl 1 rfl) ?_
      refine lv_icmp_ge (tgt := 31) hx hb dX10_copyRow_6 (by decide) (fun c_3 => ?_) (fun c_3 => ?_)
      · have ic_3 := zz_ge rfl (show Int32.toInt 10 = 10 from by decide) c_3
        have hkk : v4_1.toInt = 10 := by omega
        have hcq : zCq f_a g_a_2 10 p2.toInt p3.toInt 10 := by have h9 := ex_1; rw [hkk] at h9; exact h9
        exact W.vret hx hb hr (fun t ht hW => by rw [← hQe]; exact ⟨⟨(), rfl, trivial, ⟨g_a_2, b_g_a_2, (by first | omega | assumption), z_ret hP hK hD ht hW [0] [] rfl (by decide) rfl⟩⟩, hS.F ht⟩) hS.2.2 dX10_copyRow_31
      · have ic_3 := zz_nge rfl (show Int32.toInt 10 = 10 from by decide) c_3
        refine lv_aload_n hx hb dX10_copyRow_9 rfl (lv_at hl 0 rfl) ?_
        refine lv_iload_n hx hb dX10_copyRow_10 rfl (lv_at hl 1 rfl) ?_
        refine lv_iload_n hx hb dX10_copyRow_11 rfl (lv_at hl 3 rfl) ?_
        refine lv_imul hx hb dX10_copyRow_12 ?_
        refine lv_topi (fun x_4 ex_4 => ?_)
        have b_x_4 : x_4.toInt = 10 * p3.toInt := by rw [ex_4]; exact zi_mul (show Int32.toInt 10 = 10 from by decide) rfl (by first | with_reducible assumption | omega)
        refine lv_iload hx hb dX10_copyRow_13 (lv_at hl 4 rfl) ?_
        refine lv_iadd hx hb dX10_copyRow_15 ?_
        refine lv_topi (fun x_5 ex_5 => ?_)
        have b_x_5 : x_5.toInt = x_4.toInt + v4_1.toInt := by rw [ex_5]; exact zi_add rfl rfl (by first | with_reducible assumption | omega)
        refine lv_aload_n hx hb dX10_copyRow_16 rfl (lv_at hl 0 rfl) ?_
        refine lv_iload_n hx hb dX10_copyRow_17 rfl (lv_at hl 1 rfl) ?_
        refine lv_iload_n hx hb dX10_copyRow_18 rfl (lv_at hl 2 rfl) ?_
        refine lv_imul hx hb dX10_copyRow_19 ?_
        refine lv_topi (fun x_6 ex_6 => ?_)
        have b_x_6 : x_6.toInt = 10 * p2.toInt := by rw [ex_6]; exact zi_mul (show Int32.toInt 10 = 10 from by decide) rfl (by first | with_reducible assumption | omega)
        refine lv_iload hx hb dX10_copyRow_20 (lv_at hl 4 rfl) ?_
        refine lv_iadd hx hb dX10_copyRow_22 ?_
        refine lv_topi (fun x_7 ex_7 => ?_)
        have b_x_7 : x_7.toInt = x_6.toInt + v4_1.toInt := by rw [ex_7]; exact zi_add rfl rfl (by first | with_reducible assumption | omega)
        refine va_iald hx hb hK hP 0 0 rfl rfl (zi_in rfl (by first | with_reducible assumption | omega)) dX10_copyRow_23 ?_
        refine lv_topi (fun x_8 ex_8 => ?_)
        have b_x_8 := b_g_a_2 (Int32.toNatClampNeg x_7)
        rw [← ex_8] at b_x_8
        have kx_x_8 := zi_clamp (x := x_7) rfl (by first | with_reducible assumption | omega)
        refine va_iast hx hb hK hP hD hS 0 0 rfl rfl (zi_in rfl (by first | with_reducible assumption | omega)) dX10_copyRow_24 (fun H locs hP hD hS => ?_)
        obtain ⟨f_9, ef_9⟩ : ∃ g : Nat → Int32, g = upd g_a_2 (Int32.toNatClampNeg x_5) x_8 := ⟨_, rfl⟩
        have kx_f_9 := zi_clamp (x := x_5) rfl (by first | with_reducible assumption | omega)
        have b_f_9 : ∀ j : Nat, ¬ j % 10 = 0 → (-1) ≤ (f_9 j).toInt ∧ (f_9 j).toInt < ((j % 10 : Nat) : Int) := by rw [ef_9]; exact zi_updK b_g_a_2 rfl (by first | with_reducible assumption | omega)
        have hP : va_P (dC, dI) vwCl [(a, .inl (cA_a, 50, .inl (upd g_a_2 (Int32.toNatClampNeg x_5) x_8)))] H := hP
        have hD : va_D A [(a, .inl (cA_a, 50, .inl (upd g_a_2 (Int32.toNatClampNeg x_5) x_8)))] := hD
        rw [← ef_9] at hP hD
        obtain ⟨x_10, ex_10⟩ : ∃ z : Int32, z = v4_1 + Int32.ofInt 1 := ⟨_, rfl⟩
        have b_x_10 : x_10.toInt = v4_1.toInt + 1 := by rw [ex_10]; exact zi_add rfl (show (Int32.ofInt 1).toInt = 1 from by decide) (by first | with_reducible assumption | omega)
        refine lv_iinc (v := x_10) (lv' := [(4, .int x_10), (0, .ref a), (1, .int 10), (2, .int p2), (3, .int p3)]) hx hb dX10_copyRow_25 hl (k := 4) rfl ex_10.symm (by decide) rfl (fun ls hl => ?_)
        refine lv_goto (tgt := 3) hx hb dX10_copyRow_28 (by decide) ?_
        have hbk : zCq f_a f_9 10 p2.toInt p3.toInt x_10.toInt := zCq.step ex_1 ef_9 ex_8 (i := x_5) (i2 := x_7) rfl rfl (by first | with_reducible assumption | omega) (by first | with_reducible assumption | omega) (by first | with_reducible assumption | omega) (by first | with_reducible assumption | omega) (by first | with_reducible assumption | omega)
        exact ih_1 x_10 f_9 (by first | with_reducible assumption | omega) b_f_9 (by first | assumption | decide | omega) _ _ _ (by first | with_reducible assumption | omega) (hP.sub (ws' := [(a, .inl (cA_a, 50, .inl f_9))]) [0] rfl) (hD.sub (ws' := [(a, .inl (cA_a, 50, .inl f_9))]) [0] (by decide) rfl) hS (lv_sub hl [1, 2, 3, 4, 0] rfl)
  have zb_0 : Int32.toInt 0 = 0 := by decide
  exact loop_1 12 (0) f_a (by decide) b_f_a (by first | assumption | decide | omega) _ _ _ (by decide) hP hD hS (lv_sub hl [1, 2, 3, 4, 0] rfl)
set_option maxHeartbeats 4000000 in
set_option maxRecDepth 100000 in
theorem k_X10_copyRow_v4 (l : Launch) (sa : Nat → Nat) (dC : Nat → ClassId) (dI : Nat → Nat → Nat) (a : Nat) (p2 : Int32) (p3 : Int32) (cA_a : ClassId) (f_a : Nat → Int32) (b_p2 : 0 ≤ p2.toInt ∧ p2.toInt ≤ 4) (b_p3 : 0 ≤ p3.toInt ∧ p3.toInt ≤ 4) (b_f_a : ∀ j : Nat, 0 ≤ (f_a j).toInt ∧ (f_a j).toInt ≤ 16) (sz : Nat) : Met l yX10_copyRow (.code yX10_copyRow cX10_copyRow 5 none :: zT) ({ frames := 0, cells := 0, slots := 0, locals := 0 }) (va_Pc [.ref a, .int 1, .int p2, .int p3] (zB sa dC dI [(a, .inl (cA_a, 5, .inl f_a))] [(cA_a, .int)] sz)) (va_Qv (fun _ : Unit => True) (fun _ t => ∃ (n_a : Nat → Int32), (∀ j : Nat, 0 ≤ (n_a j).toInt ∧ (n_a j).toInt ≤ 16) ∧ (zCq f_a n_a 1 p2.toInt p3.toInt 1) ∧ zW dC dI [(a, .inl (cA_a, 5, .inl n_a))] [] (va_A [(a, .inl (cA_a, 5, .inl f_a))] sz) t) (va_A [(a, .inl (cA_a, 5, .inl f_a))] sz)) 0 0 (va_A [(a, .inl (cA_a, 5, .inl f_a))] sz) := by
  refine z_enter (by decide) (by exact (Nat.le_of_ble_eq_true rfl)) ?_
  intro p e s m args below meth c ls A R Qc hargs hsz hQe hAe hRe hx hb hml hr hts hown hlocks hin hl hP hK hD hN hXs hA hS
  rw [hAe] at hQe
  have hown : s.vm.findClass RX10 = some m.cls := hown
  have hl : lv_has ls 5 [(0, .ref a), (1, .int 1), (2, .int p2), (3, .int p3)] := hl
  refine lv_iconst (v := 0) hx hb dX10_copyRow_0 (by decide) ?_
  refine lv_istore (lv' := [(4, .int 0), (0, .ref a), (1, .int 1), (2, .int p2), (3, .int p3)]) hx hb dX10_copyRow_1 hl (by decide) rfl (fun ls hl => ?_)
  have hbe : zCq f_a f_a 1 p2.toInt p3.toInt (Int32.toInt 0) := zCq.zero (by decide)
  have loop_1 : ∀ (t : Nat) (v4_1 : Int32) (g_a_2 : Nat → Int32) (b_v4_1 : 0 ≤ v4_1.toInt ∧ v4_1.toInt ≤ 1) (b_g_a_2 : ∀ j : Nat, 0 ≤ (g_a_2 j).toInt ∧ (g_a_2 j).toInt ≤ 16) (ex_1 : zCq f_a g_a_2 1 p2.toInt p3.toInt v4_1.toInt) (H : Heap) (locs : List Loc) (ls : Array Slot), 1 - v4_1.toInt < (t : Int) → va_P (dC, dI) vwCl [(a, .inl (cA_a, 5, .inl g_a_2))] H → va_D A [(a, .inl (cA_a, 5, .inl g_a_2))] → va_S A s.heap H locs → lv_has ls 5 [(0, .ref a), (1, .int 1), (2, .int p2), (3, .int p3), (4, .int v4_1)] → W p l e R s m args below meth c H locs 0 0 (MQ below Qc args s 0 0 A) (F0 m 3 ls []) := by
    intro t
    induction t with
    | zero => intro v4_1 g_a_2 b_v4_1 b_g_a_2 ex_1 H locs ls hmu _ _ _ _; exact absurd hmu (by first | with_reducible assumption | omega)
    | succ t ih_1 =>
      intro v4_1 g_a_2 b_v4_1 b_g_a_2 ex_1 H locs ls hmu hP hD hS hl
      refine lv_iload hx hb dX10_copyRow_3 (lv_at hl 4 rfl) ?_
      refine lv_iload_n hx hb dX10_copyRow_5 rfl (lv_at hl 1 rfl) ?_
      refine lv_icmp_ge (tgt := 31) hx hb dX10_copyRow_6 (by decide) (fun c_3 => ?_) (fun c_3 => ?_)
      · have ic_3 := zz_ge rfl (show Int32.toInt 1 = 1 from by decide) c_3
        have hkk : v4_1.toInt = 1 := by omega
        have hcq : zCq f_a g_a_2 1 p2.toInt p3.toInt 1 := by have h9 := ex_1; rw [hkk] at h9; exact h9
        exact W.vret hx hb hr (fun t ht hW => by rw [← hQe]; exact ⟨⟨(), rfl, trivial, ⟨g_a_2, b_g_a_2, (by first | omega | assumption), z_ret hP hK hD ht hW [0] [] rfl (by decide) rfl⟩⟩, hS.F ht⟩) hS.2.2 dX10_copyRow_31
      · have ic_3 := zz_nge rfl (show Int32.toInt 1 = 1 from by decide) c_3
        refine lv_aload_n hx hb dX10_copyRow_9 rfl (lv_at hl 0 rfl) ?_
        refine lv_iload_n hx hb dX10_copyRow_10 rfl (lv_at hl 1 rfl) ?_
        refine lv_iload_n hx hb dX10_copyRow_11 rfl (lv_at hl 3 rfl) ?_
        refine lv_imul hx hb dX10_copyRow_12 ?_
        refine lv_topi (fun x_4 ex_4 => ?_)
        have b_x_4 : x_4.toInt = 1 * p3.toInt := by rw [ex_4]; exact zi_mul (show Int32.toInt 1 = 1 from by decide) rfl (by first | with_reducible assumption | omega)
        refine lv_iload hx hb dX10_copyRow_13 (lv_at hl 4 rfl) ?_
        refine lv_iadd hx hb dX10_copyRow_15 ?_
        refine lv_topi (fun x_5 ex_5 => ?_)
        have b_x_5 : x_5.toInt = x_4.toInt + v4_1.toInt := by rw [ex_5]; exact zi_add rfl rfl (by first | with_reducible assumption | omega)
        refine lv_aload_n hx hb dX10_copyRow_16 rfl (lv_at hl 0 rfl) ?_
        refine lv_iload_n hx hb dX10_copyRow_17 rfl (lv_at hl 1 rfl) ?_
        refine lv_iload_n hx hb dX10_copyRow_18 rfl (lv_at hl 2 rfl) ?_
        refine lv_imul hx hb dX10_copyRow_19 ?_
        refine lv_topi (fun x_6 ex_6 => ?_)
        have b_x_6 : x_6.toInt = 1 * p2.toInt := by rw [ex_6]; exact zi_mul (show Int32.toInt 1 = 1 from by decide) rfl (by first | with_reducible assumption | omega)
        refine lv_iload hx hb dX10_copyRow_20 (lv_at hl 4 rfl) ?_
        refine lv_iadd hx hb dX10_copyRow_22 ?_
        refine lv_topi (fun x_7 ex_7 => ?_)
        have b_x_7 : x_7.toInt = x_6.toInt + v4_1.toInt := by rw [ex_7]; exact zi_add rfl rfl (by first | with_reducible assumption | omega)
        refine va_iald hx hb hK hP 0 0 rfl rfl (zi_in rfl (by first | with_reducible assumption | omega)) dX10_copyRow_23 ?_
        refine lv_topi (fun x_8 ex_8 => ?_)
        have b_x_8 : 0 ≤ x_8.toInt ∧ x_8.toInt ≤ 16 := by rw [ex_8]; exact b_g_a_2 _
        refine va_iast hx hb hK hP hD hS 0 0 rfl rfl (zi_in rfl (by first | with_reducible assumption | omega)) dX10_copyRow_24 (fun H locs hP hD hS => ?_)
        obtain ⟨f_9, ef_9⟩ : ∃ g : Nat → Int32, g = upd g_a_2 (Int32.toNatClampNeg x_5) x_8 := ⟨_, rfl⟩
        have b_f_9 : ∀ j : Nat, 0 ≤ (f_9 j).toInt ∧ (f_9 j).toInt ≤ 16 := by rw [ef_9]; exact zi_upd b_g_a_2 rfl (by first | with_reducible assumption | omega)
        have hP : va_P (dC, dI) vwCl [(a, .inl (cA_a, 5, .inl (upd g_a_2 (Int32.toNatClampNeg x_5) x_8)))] H := hP
        have hD : va_D A [(a, .inl (cA_a, 5, .inl (upd g_a_2 (Int32.toNatClampNeg x_5) x_8)))] := hD
        rw [← ef_9] at hP hD
        obtain ⟨x_10, ex_10⟩ : ∃ z : Int32, z = v4_1 + Int32.ofInt 1 := ⟨_, rfl⟩
        have b_x_10 : x_10.toInt = v4_1.toInt + 1 := by rw [ex_10]; exact zi_add rfl (show (Int32.ofInt 1).toInt = 1 from by decide) (by first | with_reducible assumption | omega)
        refine lv_iinc (v := x_10) (lv' := [(4, .int x_10), (0, .ref a), (1, .int 1), (2, .int p2), (3, .int p3)]) hx hb dX10_copyRow_25 hl (k := 4) rfl ex_10.symm (by decide) rfl (fun ls hl => ?_)
        refine lv_goto (tgt := 3) hx hb dX10_copyRow_28 (by decide) ?_
        have hbk : zCq f_a f_9 1 p2.toInt p3.toInt x_10.toInt := zCq.step ex_1 ef_9 ex_8 (i := x_5) (i2 := x_7) rfl rfl (by first | with_reducible assumption | omega) (by first | with_reducible assumption | omega) (by first | with_reducible assumption | omega) (by first | with_reducible assumption | omega) (by first | with_reducible assumption | omega)
        exact ih_1 x_10 f_9 (by first | with_reducible assumption | omega) b_f_9 (by first | assumption | decide | omega) _ _ _ (by first | with_reducible assumption | omega) (hP.sub (ws' := [(a, .inl (cA_a, 5, .inl f_9))]) [0] rfl) (hD.sub (ws' := [(a, .inl (cA_a, 5, .inl f_9))]) [0] (by decide) rfl) hS (lv_sub hl [1, 2, 3, 4, 0] rfl)
  have zb_0 : Int32.toInt 0 = 0 := by decide
  exact loop_1 3 (0) f_a (by decide) b_f_a (by first | assumption | decide | omega) _ _ _ (by decide) hP hD hS (lv_sub hl [1, 2, 3, 4, 0] rfl)
set_option maxHeartbeats 4000000 in
set_option maxRecDepth 100000 in
theorem k_X10_copyRow_v5 (l : Launch) (sa : Nat → Nat) (dC : Nat → ClassId) (dI : Nat → Nat → Nat) (a : Nat) (p2 : Int32) (p3 : Int32) (cA_a : ClassId) (f_a : Nat → Int32) (b_p2 : 0 ≤ p2.toInt ∧ p2.toInt ≤ 4) (b_p3 : 0 ≤ p3.toInt ∧ p3.toInt ≤ 4) (b_f_a : ∀ j : Nat, 0 ≤ (f_a j).toInt ∧ (f_a j).toInt ≤ 9) (sz : Nat) : Met l yX10_copyRow (.code yX10_copyRow cX10_copyRow 5 none :: zT) ({ frames := 0, cells := 0, slots := 0, locals := 0 }) (va_Pc [.ref a, .int 32, .int p2, .int p3] (zB sa dC dI [(a, .inl (cA_a, 160, .inl f_a))] [(cA_a, .int)] sz)) (va_Qv (fun _ : Unit => True) (fun _ t => ∃ (n_a : Nat → Int32), (∀ j : Nat, 0 ≤ (n_a j).toInt ∧ (n_a j).toInt ≤ 9) ∧ (zCq f_a n_a 32 p2.toInt p3.toInt 32) ∧ zW dC dI [(a, .inl (cA_a, 160, .inl n_a))] [] (va_A [(a, .inl (cA_a, 160, .inl f_a))] sz) t) (va_A [(a, .inl (cA_a, 160, .inl f_a))] sz)) 0 0 (va_A [(a, .inl (cA_a, 160, .inl f_a))] sz) := by
  refine z_enter (by decide) (by exact (Nat.le_of_ble_eq_true rfl)) ?_
  intro p e s m args below meth c ls A R Qc hargs hsz hQe hAe hRe hx hb hml hr hts hown hlocks hin hl hP hK hD hN hXs hA hS
  rw [hAe] at hQe
  have hown : s.vm.findClass RX10 = some m.cls := hown
  have hl : lv_has ls 5 [(0, .ref a), (1, .int 32), (2, .int p2), (3, .int p3)] := hl
  refine lv_iconst (v := 0) hx hb dX10_copyRow_0 (by decide) ?_
  refine lv_istore (lv' := [(4, .int 0), (0, .ref a), (1, .int 32), (2, .int p2), (3, .int p3)]) hx hb dX10_copyRow_1 hl (by decide) rfl (fun ls hl => ?_)
  have hbe : zCq f_a f_a 32 p2.toInt p3.toInt (Int32.toInt 0) := zCq.zero (by decide)
  have loop_1 : ∀ (t : Nat) (v4_1 : Int32) (g_a_2 : Nat → Int32) (b_v4_1 : 0 ≤ v4_1.toInt ∧ v4_1.toInt ≤ 32) (b_g_a_2 : ∀ j : Nat, 0 ≤ (g_a_2 j).toInt ∧ (g_a_2 j).toInt ≤ 9) (ex_1 : zCq f_a g_a_2 32 p2.toInt p3.toInt v4_1.toInt) (H : Heap) (locs : List Loc) (ls : Array Slot), 32 - v4_1.toInt < (t : Int) → va_P (dC, dI) vwCl [(a, .inl (cA_a, 160, .inl g_a_2))] H → va_D A [(a, .inl (cA_a, 160, .inl g_a_2))] → va_S A s.heap H locs → lv_has ls 5 [(0, .ref a), (1, .int 32), (2, .int p2), (3, .int p3), (4, .int v4_1)] → W p l e R s m args below meth c H locs 0 0 (MQ below Qc args s 0 0 A) (F0 m 3 ls []) := by
    intro t
    induction t with
    | zero => intro v4_1 g_a_2 b_v4_1 b_g_a_2 ex_1 H locs ls hmu _ _ _ _; exact absurd hmu (by first | with_reducible assumption | omega)
    | succ t ih_1 =>
      intro v4_1 g_a_2 b_v4_1 b_g_a_2 ex_1 H locs ls hmu hP hD hS hl
      refine lv_iload hx hb dX10_copyRow_3 (lv_at hl 4 rfl) ?_
      refine lv_iload_n hx hb dX10_copyRow_5 rfl (lv_at hl 1 rfl) ?_
      refine lv_icmp_ge (tgt := 31) hx hb dX10_copyRow_6 (by decide) (fun c_3 => ?_) (fun c_3 => ?_)
      · have ic_3 := zz_ge rfl (show Int32.toInt 32 = 32 from by decide) c_3
        have hkk : v4_1.toInt = 32 := by omega
        have hcq : zCq f_a g_a_2 32 p2.toInt p3.toInt 32 := by have h9 := ex_1; rw [hkk] at h9; exact h9
        exact W.vret hx hb hr (fun t ht hW => by rw [← hQe]; exact ⟨⟨(), rfl, trivial, ⟨g_a_2, b_g_a_2, (by first | omega | assumption), z_ret hP hK hD ht hW [0] [] rfl (by decide) rfl⟩⟩, hS.F ht⟩) hS.2.2 dX10_copyRow_31
      · have ic_3 := zz_nge rfl (show Int32.toInt 32 = 32 from by decide) c_3
        refine lv_aload_n hx hb dX10_copyRow_9 rfl (lv_at hl 0 rfl) ?_
        refine lv_iload_n hx hb dX10_copyRow_10 rfl (lv_at hl 1 rfl) ?_
        refine lv_iload_n hx hb dX10_copyRow_11 rfl (lv_at hl 3 rfl) ?_
        refine lv_imul hx hb dX10_copyRow_12 ?_
        refine lv_topi (fun x_4 ex_4 => ?_)
        have b_x_4 : x_4.toInt = 32 * p3.toInt := by rw [ex_4]; exact zi_mul (show Int32.toInt 32 = 32 from by decide) rfl (by first | with_reducible assumption | omega)
        refine lv_iload hx hb dX10_copyRow_13 (lv_at hl 4 rfl) ?_
        refine lv_iadd hx hb dX10_copyRow_15 ?_
        refine lv_topi (fun x_5 ex_5 => ?_)
        have b_x_5 : x_5.toInt = x_4.toInt + v4_1.toInt := by rw [ex_5]; exact zi_add rfl rfl (by first | with_reducible assumption | omega)
        refine lv_aload_n hx hb dX10_copyRow_16 rfl (lv_at hl 0 rfl) ?_
        refine lv_iload_n hx hb dX10_copyRow_17 rfl (lv_at hl 1 rfl) ?_
        refine lv_iload_n hx hb dX10_copyRow_18 rfl (lv_at hl 2 rfl) ?_
        refine lv_imul hx hb dX10_copyRow_19 ?_
        refine lv_topi (fun x_6 ex_6 => ?_)
        have b_x_6 : x_6.toInt = 32 * p2.toInt := by rw [ex_6]; exact zi_mul (show Int32.toInt 32 = 32 from by decide) rfl (by first | with_reducible assumption | omega)
        refine lv_iload hx hb dX10_copyRow_20 (lv_at hl 4 rfl) ?_
        refine lv_iadd hx hb dX10_copyRow_22 ?_
        refine lv_topi (fun x_7 ex_7 => ?_)
        have b_x_7 : x_7.toInt = x_6.toInt + v4_1.toInt := by rw [ex_7]; exact zi_add rfl rfl (by first | with_reducible assumption | omega)
        refine va_iald hx hb hK hP 0 0 rfl rfl (zi_in rfl (by first | with_reducible assumption | omega)) dX10_copyRow_23 ?_
        refine lv_topi (fun x_8 ex_8 => ?_)
        have b_x_8 : 0 ≤ x_8.toInt ∧ x_8.toInt ≤ 9 := by rw [ex_8]; exact b_g_a_2 _
        refine va_iast hx hb hK hP hD hS 0 0 rfl rfl (zi_in rfl (by first | with_reducible assumption | omega)) dX10_copyRow_24 (fun H locs hP hD hS => ?_)
        obtain ⟨f_9, ef_9⟩ : ∃ g : Nat → Int32, g = upd g_a_2 (Int32.toNatClampNeg x_5) x_8 := ⟨_, rfl⟩
        have b_f_9 : ∀ j : Nat, 0 ≤ (f_9 j).toInt ∧ (f_9 j).toInt ≤ 9 := by rw [ef_9]; exact zi_upd b_g_a_2 rfl (by first | with_reducible assumption | omega)
        have hP : va_P (dC, dI) vwCl [(a, .inl (cA_a, 160, .inl (upd g_a_2 (Int32.toNatClampNeg x_5) x_8)))] H := hP
        have hD : va_D A [(a, .inl (cA_a, 160, .inl (upd g_a_2 (Int32.toNatClampNeg x_5) x_8)))] := hD
        rw [← ef_9] at hP hD
        obtain ⟨x_10, ex_10⟩ : ∃ z : Int32, z = v4_1 + Int32.ofInt 1 := ⟨_, rfl⟩
        have b_x_10 : x_10.toInt = v4_1.toInt + 1 := by rw [ex_10]; exact zi_add rfl (show (Int32.ofInt 1).toInt = 1 from by decide) (by first | with_reducible assumption | omega)
        refine lv_iinc (v := x_10) (lv' := [(4, .int x_10), (0, .ref a), (1, .int 32), (2, .int p2), (3, .int p3)]) hx hb dX10_copyRow_25 hl (k := 4) rfl ex_10.symm (by decide) rfl (fun ls hl => ?_)
        refine lv_goto (tgt := 3) hx hb dX10_copyRow_28 (by decide) ?_
        have hbk : zCq f_a f_9 32 p2.toInt p3.toInt x_10.toInt := zCq.step ex_1 ef_9 ex_8 (i := x_5) (i2 := x_7) rfl rfl (by first | with_reducible assumption | omega) (by first | with_reducible assumption | omega) (by first | with_reducible assumption | omega) (by first | with_reducible assumption | omega) (by first | with_reducible assumption | omega)
        exact ih_1 x_10 f_9 (by first | with_reducible assumption | omega) b_f_9 (by first | assumption | decide | omega) _ _ _ (by first | with_reducible assumption | omega) (hP.sub (ws' := [(a, .inl (cA_a, 160, .inl f_9))]) [0] rfl) (hD.sub (ws' := [(a, .inl (cA_a, 160, .inl f_9))]) [0] (by decide) rfl) hS (lv_sub hl [1, 2, 3, 4, 0] rfl)
  have zb_0 : Int32.toInt 0 = 0 := by decide
  exact loop_1 34 (0) f_a (by decide) b_f_a (by first | assumption | decide | omega) _ _ _ (by decide) hP hD hS (lv_sub hl [1, 2, 3, 4, 0] rfl)
set_option maxHeartbeats 4000000 in
set_option maxRecDepth 100000 in
theorem k_X10_copyRow_v6 (l : Launch) (sa : Nat → Nat) (dC : Nat → ClassId) (dI : Nat → Nat → Nat) (a : Nat) (p2 : Int32) (p3 : Int32) (cA_a : ClassId) (f_a : Nat → Int32) (b_p2 : 0 ≤ p2.toInt ∧ p2.toInt ≤ 4) (b_p3 : 0 ≤ p3.toInt ∧ p3.toInt ≤ 4) (b_f_a : ∀ j : Nat, 0 ≤ (f_a j).toInt ∧ (f_a j).toInt ≤ 9) (sz : Nat) : Met l yX10_copyRow (.code yX10_copyRow cX10_copyRow 5 none :: zT) ({ frames := 0, cells := 0, slots := 0, locals := 0 }) (va_Pc [.ref a, .int 480, .int p2, .int p3] (zB sa dC dI [(a, .inl (cA_a, 2400, .inl f_a))] [(cA_a, .int)] sz)) (va_Qv (fun _ : Unit => True) (fun _ t => ∃ (n_a : Nat → Int32), (∀ j : Nat, 0 ≤ (n_a j).toInt ∧ (n_a j).toInt ≤ 9) ∧ (zCq f_a n_a 480 p2.toInt p3.toInt 480) ∧ zW dC dI [(a, .inl (cA_a, 2400, .inl n_a))] [] (va_A [(a, .inl (cA_a, 2400, .inl f_a))] sz) t) (va_A [(a, .inl (cA_a, 2400, .inl f_a))] sz)) 0 0 (va_A [(a, .inl (cA_a, 2400, .inl f_a))] sz) := by
  refine z_enter (by decide) (by exact (Nat.le_of_ble_eq_true rfl)) ?_
  intro p e s m args below meth c ls A R Qc hargs hsz hQe hAe hRe hx hb hml hr hts hown hlocks hin hl hP hK hD hN hXs hA hS
  rw [hAe] at hQe
  have hown : s.vm.findClass RX10 = some m.cls := hown
  have hl : lv_has ls 5 [(0, .ref a), (1, .int 480), (2, .int p2), (3, .int p3)] := hl
  refine lv_iconst (v := 0) hx hb dX10_copyRow_0 (by decide) ?_
  refine lv_istore (lv' := [(4, .int 0), (0, .ref a), (1, .int 480), (2, .int p2), (3, .int p3)]) hx hb dX10_copyRow_1 hl (by decide) rfl (fun ls hl => ?_)
  have hbe : zCq f_a f_a 480 p2.toInt p3.toInt (Int32.toInt 0) := zCq.zero (by decide)
  have loop_1 : ∀ (t : Nat) (v4_1 : Int32) (g_a_2 : Nat → Int32) (b_v4_1 : 0 ≤ v4_1.toInt ∧ v4_1.toInt ≤ 480) (b_g_a_2 : ∀ j : Nat, 0 ≤ (g_a_2 j).toInt ∧ (g_a_2 j).toInt ≤ 9) (ex_1 : zCq f_a g_a_2 480 p2.toInt p3.toInt v4_1.toInt) (H : Heap) (locs : List Loc) (ls : Array Slot), 480 - v4_1.toInt < (t : Int) → va_P (dC, dI) vwCl [(a, .inl (cA_a, 2400, .inl g_a_2))] H → va_D A [(a, .inl (cA_a, 2400, .inl g_a_2))] → va_S A s.heap H locs → lv_has ls 5 [(0, .ref a), (1, .int 480), (2, .int p2), (3, .int p3), (4, .int v4_1)] → W p l e R s m args below meth c H locs 0 0 (MQ below Qc args s 0 0 A) (F0 m 3 ls []) := by
    intro t
    induction t with
    | zero => intro v4_1 g_a_2 b_v4_1 b_g_a_2 ex_1 H locs ls hmu _ _ _ _; exact absurd hmu (by first | with_reducible assumption | omega)
    | succ t ih_1 =>
      intro v4_1 g_a_2 b_v4_1 b_g_a_2 ex_1 H locs ls hmu hP hD hS hl
      refine lv_iload hx hb dX10_copyRow_3 (lv_at hl 4 rfl) ?_
      refine lv_iload_n hx hb dX10_copyRow_5 rfl (lv_at hl 1 rfl) ?_
      refine lv_icmp_ge (tgt := 31) hx hb dX10_copyRow_6 (by decide) (fun c_3 => ?_) (fun c_3 => ?_)
      · have ic_3 := zz_ge rfl (show Int32.toInt 480 = 480 from by decide) c_3
        have hkk : v4_1.toInt = 480 := by omega
        have hcq : zCq f_a g_a_2 480 p2.toInt p3.toInt 480 := by have h9 := ex_1; rw [hkk] at h9; exact h9
        exact W.vret hx hb hr (fun t ht hW => by rw [← hQe]; exact ⟨⟨(), rfl, trivial, ⟨g_a_2, b_g_a_2, (by first | omega | assumption), z_ret hP hK hD ht hW [0] [] rfl (by decide) rfl⟩⟩, hS.F ht⟩) hS.2.2 dX10_copyRow_31
      · have ic_3 := zz_nge rfl (show Int32.toInt 480 = 480 from by decide) c_3
        refine lv_aload_n hx hb dX10_copyRow_9 rfl (lv_at hl 0 rfl) ?_
        refine lv_iload_n hx hb dX10_copyRow_10 rfl (lv_at hl 1 rfl) ?_
        refine lv_iload_n hx hb dX10_copyRow_11 rfl (lv_at hl 3 rfl) ?_
        refine lv_imul hx hb dX10_copyRow_12 ?_
        refine lv_topi (fun x_4 ex_4 => ?_)
        have b_x_4 : x_4.toInt = 480 * p3.toInt := by rw [ex_4]; exact zi_mul (show Int32.toInt 480 = 480 from by decide) rfl (by first | with_reducible assumption | omega)
        refine lv_iload hx hb dX10_copyRow_13 (lv_at hl 4 rfl) ?_
        refine lv_iadd hx hb dX10_copyRow_15 ?_
        refine lv_topi (fun x_5 ex_5 => ?_)
        have b_x_5 : x_5.toInt = x_4.toInt + v4_1.toInt := by rw [ex_5]; exact zi_add rfl rfl (by first | with_reducible assumption | omega)
        refine lv_aload_n hx hb dX10_copyRow_16 rfl (lv_at hl 0 rfl) ?_
        refine lv_iload_n hx hb dX10_copyRow_17 rfl (lv_at hl 1 rfl) ?_
        refine lv_iload_n hx hb dX10_copyRow_18 rfl (lv_at hl 2 rfl) ?_
        refine lv_imul hx hb dX10_copyRow_19 ?_
        refine lv_topi (fun x_6 ex_6 => ?_)
        have b_x_6 : x_6.toInt = 480 * p2.toInt := by rw [ex_6]; exact zi_mul (show Int32.toInt 480 = 480 from by decide) rfl (by first | with_reducible assumption | omega)
        refine lv_iload hx hb dX10_copyRow_20 (lv_at hl 4 rfl) ?_
        refine lv_iadd hx hb dX10_copyRow_22 ?_
        refine lv_topi (fun x_7 ex_7 => ?_)
        have b_x_7 : x_7.toInt = x_6.toInt + v4_1.toInt := by rw [ex_7]; exact zi_add rfl rfl (by first | with_reducible assumption | omega)
        refine va_iald hx hb hK hP 0 0 rfl rfl (zi_in rfl (by first | with_reducible assumption | omega)) dX10_copyRow_23 ?_
        refine lv_topi (fun x_8 ex_8 => ?_)
        have b_x_8 : 0 ≤ x_8.toInt ∧ x_8.toInt ≤ 9 := by rw [ex_8]; exact b_g_a_2 _
        refine va_iast hx hb hK hP hD hS 0 0 rfl rfl (zi_in rfl (by first | with_reducible assumption | omega)) dX10_copyRow_24 (fun H locs hP hD hS => ?_)
        obtain ⟨f_9, ef_9⟩ : ∃ g : Nat → Int32, g = upd g_a_2 (Int32.toNatClampNeg x_5) x_8 := ⟨_, rfl⟩
        have b_f_9 : ∀ j : Nat, 0 ≤ (f_9 j).toInt ∧ (f_9 j).toInt ≤ 9 := by rw [ef_9]; exact zi_upd b_g_a_2 rfl (by first | with_reducible assumption | omega)
        have hP : va_P (dC, dI) vwCl [(a, .inl (cA_a, 2400, .inl (upd g_a_2 (Int32.toNatClampNeg x_5) x_8)))] H := hP
        have hD : va_D A [(a, .inl (cA_a, 2400, .inl (upd g_a_2 (Int32.toNatClampNeg x_5) x_8)))] := hD
        rw [← ef_9] at hP hD
        obtain ⟨x_10, ex_10⟩ : ∃ z : Int32, z = v4_1 + Int32.ofInt 1 := ⟨_, rfl⟩
        have b_x_10 : x_10.toInt = v4_1.toInt + 1 := by rw [ex_10]; exact zi_add rfl (show (Int32.ofInt 1).toInt = 1 from by decide) (by first | with_reducible assumption | omega)
        refine lv_iinc (v := x_10) (lv' := [(4, .int x_10), (0, .ref a), (1, .int 480), (2, .int p2), (3, .int p3)]) hx hb dX10_copyRow_25 hl (k := 4) rfl ex_10.symm (by decide) rfl (fun ls hl => ?_)
        refine lv_goto (tgt := 3) hx hb dX10_copyRow_28 (by decide) ?_
        have hbk : zCq f_a f_9 480 p2.toInt p3.toInt x_10.toInt := zCq.step ex_1 ef_9 ex_8 (i := x_5) (i2 := x_7) rfl rfl (by first | with_reducible assumption | omega) (by first | with_reducible assumption | omega) (by first | with_reducible assumption | omega) (by first | with_reducible assumption | omega) (by first | with_reducible assumption | omega)
        exact ih_1 x_10 f_9 (by first | with_reducible assumption | omega) b_f_9 (by first | assumption | decide | omega) _ _ _ (by first | with_reducible assumption | omega) (hP.sub (ws' := [(a, .inl (cA_a, 2400, .inl f_9))]) [0] rfl) (hD.sub (ws' := [(a, .inl (cA_a, 2400, .inl f_9))]) [0] (by decide) rfl) hS (lv_sub hl [1, 2, 3, 4, 0] rfl)
  have zb_0 : Int32.toInt 0 = 0 := by decide
  exact loop_1 482 (0) f_a (by decide) b_f_a (by first | assumption | decide | omega) _ _ _ (by decide) hP hD hS (lv_sub hl [1, 2, 3, 4, 0] rfl)
set_option maxHeartbeats 4000000 in
set_option maxRecDepth 100000 in
theorem k_X10_copyRow_v7 (l : Launch) (sa : Nat → Nat) (dC : Nat → ClassId) (dI : Nat → Nat → Nat) (a : Nat) (p2 : Int32) (p3 : Int32) (cA_a : ClassId) (f_a : Nat → Int32) (b_p2 : 0 ≤ p2.toInt ∧ p2.toInt ≤ 4) (b_p3 : 0 ≤ p3.toInt ∧ p3.toInt ≤ 4) (b_f_a : ∀ j : Nat, 0 ≤ (f_a j).toInt ∧ (f_a j).toInt ≤ 99 ∧ (j % 2 = 1 → (f_a j).toInt ≤ 9)) (sz : Nat) : Met l yX10_copyRow (.code yX10_copyRow cX10_copyRow 5 none :: zT) ({ frames := 0, cells := 0, slots := 0, locals := 0 }) (va_Pc [.ref a, .int 20, .int p2, .int p3] (zB sa dC dI [(a, .inl (cA_a, 100, .inl f_a))] [(cA_a, .int)] sz)) (va_Qv (fun _ : Unit => True) (fun _ t => ∃ (n_a : Nat → Int32), (∀ j : Nat, 0 ≤ (n_a j).toInt ∧ (n_a j).toInt ≤ 99 ∧ (j % 2 = 1 → (n_a j).toInt ≤ 9)) ∧ (zCq f_a n_a 20 p2.toInt p3.toInt 20) ∧ zW dC dI [(a, .inl (cA_a, 100, .inl n_a))] [] (va_A [(a, .inl (cA_a, 100, .inl f_a))] sz) t) (va_A [(a, .inl (cA_a, 100, .inl f_a))] sz)) 0 0 (va_A [(a, .inl (cA_a, 100, .inl f_a))] sz) := by
  refine z_enter (by decide) (by exact (Nat.le_of_ble_eq_true rfl)) ?_
  intro p e s m args below meth c ls A R Qc hargs hsz hQe hAe hRe hx hb hml hr hts hown hlocks hin hl hP hK hD hN hXs hA hS
  rw [hAe] at hQe
  have hown : s.vm.findClass RX10 = some m.cls := hown
  have hl : lv_has ls 5 [(0, .ref a), (1, .int 20), (2, .int p2), (3, .int p3)] := hl
  refine lv_iconst (v := 0) hx hb dX10_copyRow_0 (by decide) ?_
  refine lv_istore (lv' := [(4, .int 0), (0, .ref a), (1, .int 20), (2, .int p2), (3, .int p3)]) hx hb dX10_copyRow_1 hl (by decide) rfl (fun ls hl => ?_)
  have hbe : zCq f_a f_a 20 p2.toInt p3.toInt (Int32.toInt 0) := zCq.zero (by decide)
  have loop_1 : ∀ (t : Nat) (v4_1 : Int32) (g_a_2 : Nat → Int32) (b_v4_1 : 0 ≤ v4_1.toInt ∧ v4_1.toInt ≤ 20) (b_g_a_2 : ∀ j : Nat, 0 ≤ (g_a_2 j).toInt ∧ (g_a_2 j).toInt ≤ 99 ∧ (j % 2 = 1 → (g_a_2 j).toInt ≤ 9)) (ex_1 : zCq f_a g_a_2 20 p2.toInt p3.toInt v4_1.toInt) (H : Heap) (locs : List Loc) (ls : Array Slot), 20 - v4_1.toInt < (t : Int) → va_P (dC, dI) vwCl [(a, .inl (cA_a, 100, .inl g_a_2))] H → va_D A [(a, .inl (cA_a, 100, .inl g_a_2))] → va_S A s.heap H locs → lv_has ls 5 [(0, .ref a), (1, .int 20), (2, .int p2), (3, .int p3), (4, .int v4_1)] → W p l e R s m args below meth c H locs 0 0 (MQ below Qc args s 0 0 A) (F0 m 3 ls []) := by
    intro t
    induction t with
    | zero => intro v4_1 g_a_2 b_v4_1 b_g_a_2 ex_1 H locs ls hmu _ _ _ _; exact absurd hmu (by first | with_reducible assumption | omega)
    | succ t ih_1 =>
      intro v4_1 g_a_2 b_v4_1 b_g_a_2 ex_1 H locs ls hmu hP hD hS hl
      refine lv_iload hx hb dX10_copyRow_3 (lv_at hl 4 rfl) ?_
      refine lv_iload_n hx hb dX10_copyRow_5 rfl (lv_at hl 1 rfl) ?_
      refine lv_icmp_ge (tgt := 31) hx hb dX10_copyRow_6 (by decide) (fun c_3 => ?_) (fun c_3 => ?_)
      · have ic_3 := zz_ge rfl (show Int32.toInt 20 = 20 from by decide) c_3
        have hkk : v4_1.toInt = 20 := by omega
        have hcq : zCq f_a g_a_2 20 p2.toInt p3.toInt 20 := by have h9 := ex_1; rw [hkk] at h9; exact h9
        exact W.vret hx hb hr (fun t ht hW => by rw [← hQe]; exact ⟨⟨(), rfl, trivial, ⟨g_a_2, b_g_a_2, (by first | omega | assumption), z_ret hP hK hD ht hW [0] [] rfl (by decide) rfl⟩⟩, hS.F ht⟩) hS.2.2 dX10_copyRow_31
      · have ic_3 := zz_nge rfl (show Int32.toInt 20 = 20 from by decide) c_3
        refine lv_aload_n hx hb dX10_copyRow_9 rfl (lv_at hl 0 rfl) ?_
        refine lv_iload_n hx hb dX10_copyRow_10 rfl (lv_at hl 1 rfl) ?_
        refine lv_iload_n hx hb dX10_copyRow_11 rfl (lv_at hl 3 rfl) ?_
        refine lv_imul hx hb dX10_copyRow_12 ?_
        refine lv_topi (fun x_4 ex_4 => ?_)
        have b_x_4 : x_4.toInt = 20 * p3.toInt := by rw [ex_4]; exact zi_mul (show Int32.toInt 20 = 20 from by decide) rfl (by first | with_reducible assumption | omega)
        refine lv_iload hx hb dX10_copyRow_13 (lv_at hl 4 rfl) ?_
        refine lv_iadd hx hb dX10_copyRow_15 ?_
        refine lv_topi (fun x_5 ex_5 => ?_)
        have b_x_5 : x_5.toInt = x_4.toInt + v4_1.toInt := by rw [ex_5]; exact zi_add rfl rfl (by first | with_reducible assumption | omega)
        refine lv_aload_n hx hb dX10_copyRow_16 rfl (lv_at hl 0 rfl) ?_
        refine lv_iload_n hx hb dX10_copyRow_17 rfl (lv_at hl 1 rfl) ?_
        refine lv_iload_n hx hb dX10_copyRow_18 rfl (lv_at hl 2 rfl) ?_
        refine lv_imul hx hb dX10_copyRow_19 ?_
        refine lv_topi (fun x_6 ex_6 => ?_)
        have b_x_6 : x_6.toInt = 20 * p2.toInt := by rw [ex_6]; exact zi_mul (show Int32.toInt 20 = 20 from by decide) rfl (by first | with_reducible assumption | omega)
        refine lv_iload hx hb dX10_copyRow_20 (lv_at hl 4 rfl) ?_
        refine lv_iadd hx hb dX10_copyRow_22 ?_
        refine lv_topi (fun x_7 ex_7 => ?_)
        have b_x_7 : x_7.toInt = x_6.toInt + v4_1.toInt := by rw [ex_7]; exact zi_add rfl rfl (by first | with_reducible assumption | omega)
        refine va_iald hx hb hK hP 0 0 rfl rfl (zi_in rfl (by first | with_reducible assumption | omega)) dX10_copyRow_23 ?_
        refine lv_topi (fun x_8 ex_8 => ?_)
        have b_x_8 := b_g_a_2 (Int32.toNatClampNeg x_7)
        rw [← ex_8] at b_x_8
        have kx_x_8 := zi_clamp (x := x_7) rfl (by first | with_reducible assumption | omega)
        refine va_iast hx hb hK hP hD hS 0 0 rfl rfl (zi_in rfl (by first | with_reducible assumption | omega)) dX10_copyRow_24 (fun H locs hP hD hS => ?_)
        obtain ⟨f_9, ef_9⟩ : ∃ g : Nat → Int32, g = upd g_a_2 (Int32.toNatClampNeg x_5) x_8 := ⟨_, rfl⟩
        have kx_f_9 := zi_clamp (x := x_5) rfl (by first | with_reducible assumption | omega)
        have b_f_9 : ∀ j : Nat, 0 ≤ (f_9 j).toInt ∧ (f_9 j).toInt ≤ 99 ∧ (j % 2 = 1 → (f_9 j).toInt ≤ 9) := by rw [ef_9]; exact zi_updP b_g_a_2 rfl (by first | with_reducible assumption | omega)
        have hP : va_P (dC, dI) vwCl [(a, .inl (cA_a, 100, .inl (upd g_a_2 (Int32.toNatClampNeg x_5) x_8)))] H := hP
        have hD : va_D A [(a, .inl (cA_a, 100, .inl (upd g_a_2 (Int32.toNatClampNeg x_5) x_8)))] := hD
        rw [← ef_9] at hP hD
        obtain ⟨x_10, ex_10⟩ : ∃ z : Int32, z = v4_1 + Int32.ofInt 1 := ⟨_, rfl⟩
        have b_x_10 : x_10.toInt = v4_1.toInt + 1 := by rw [ex_10]; exact zi_add rfl (show (Int32.ofInt 1).toInt = 1 from by decide) (by first | with_reducible assumption | omega)
        refine lv_iinc (v := x_10) (lv' := [(4, .int x_10), (0, .ref a), (1, .int 20), (2, .int p2), (3, .int p3)]) hx hb dX10_copyRow_25 hl (k := 4) rfl ex_10.symm (by decide) rfl (fun ls hl => ?_)
        refine lv_goto (tgt := 3) hx hb dX10_copyRow_28 (by decide) ?_
        have hbk : zCq f_a f_9 20 p2.toInt p3.toInt x_10.toInt := zCq.step ex_1 ef_9 ex_8 (i := x_5) (i2 := x_7) rfl rfl (by first | with_reducible assumption | omega) (by first | with_reducible assumption | omega) (by first | with_reducible assumption | omega) (by first | with_reducible assumption | omega) (by first | with_reducible assumption | omega)
        exact ih_1 x_10 f_9 (by first | with_reducible assumption | omega) b_f_9 (by first | assumption | decide | omega) _ _ _ (by first | with_reducible assumption | omega) (hP.sub (ws' := [(a, .inl (cA_a, 100, .inl f_9))]) [0] rfl) (hD.sub (ws' := [(a, .inl (cA_a, 100, .inl f_9))]) [0] (by decide) rfl) hS (lv_sub hl [1, 2, 3, 4, 0] rfl)
  have zb_0 : Int32.toInt 0 = 0 := by decide
  exact loop_1 22 (0) f_a (by decide) b_f_a (by first | assumption | decide | omega) _ _ _ (by decide) hP hD hS (lv_sub hl [1, 2, 3, 4, 0] rfl)
set_option maxHeartbeats 4000000 in
set_option maxRecDepth 100000 in
theorem k_X10_copyRow_v8 (l : Launch) (sa : Nat → Nat) (dC : Nat → ClassId) (dI : Nat → Nat → Nat) (a : Nat) (p2 : Int32) (p3 : Int32) (cA_a : ClassId) (f_a : Nat → Int32) (b_p2 : 0 ≤ p2.toInt ∧ p2.toInt ≤ 4) (b_p3 : 0 ≤ p3.toInt ∧ p3.toInt ≤ 4) (b_f_a : ∀ j : Nat, 0 ≤ (f_a j).toInt ∧ (f_a j).toInt ≤ 9) (sz : Nat) : Met l yX10_copyRow (.code yX10_copyRow cX10_copyRow 5 none :: zT) ({ frames := 0, cells := 0, slots := 0, locals := 0 }) (va_Pc [.ref a, .int 2, .int p2, .int p3] (zB sa dC dI [(a, .inl (cA_a, 10, .inl f_a))] [(cA_a, .int)] sz)) (va_Qv (fun _ : Unit => True) (fun _ t => ∃ (n_a : Nat → Int32), (∀ j : Nat, 0 ≤ (n_a j).toInt ∧ (n_a j).toInt ≤ 9) ∧ (zCq f_a n_a 2 p2.toInt p3.toInt 2) ∧ zW dC dI [(a, .inl (cA_a, 10, .inl n_a))] [] (va_A [(a, .inl (cA_a, 10, .inl f_a))] sz) t) (va_A [(a, .inl (cA_a, 10, .inl f_a))] sz)) 0 0 (va_A [(a, .inl (cA_a, 10, .inl f_a))] sz) := by
  refine z_enter (by decide) (by exact (Nat.le_of_ble_eq_true rfl)) ?_
  intro p e s m args below meth c ls A R Qc hargs hsz hQe hAe hRe hx hb hml hr hts hown hlocks hin hl hP hK hD hN hXs hA hS
  rw [hAe] at hQe
  have hown : s.vm.findClass RX10 = some m.cls := hown
  have hl : lv_has ls 5 [(0, .ref a), (1, .int 2), (2, .int p2), (3, .int p3)] := hl
  refine lv_iconst (v := 0) hx hb dX10_copyRow_0 (by decide) ?_
  refine lv_istore (lv' := [(4, .int 0), (0, .ref a), (1, .int 2), (2, .int p2), (3, .int p3)]) hx hb dX10_copyRow_1 hl (by decide) rfl (fun ls hl => ?_)
  have hbe : zCq f_a f_a 2 p2.toInt p3.toInt (Int32.toInt 0) := zCq.zero (by decide)
  have loop_1 : ∀ (t : Nat) (v4_1 : Int32) (g_a_2 : Nat → Int32) (b_v4_1 : 0 ≤ v4_1.toInt ∧ v4_1.toInt ≤ 2) (b_g_a_2 : ∀ j : Nat, 0 ≤ (g_a_2 j).toInt ∧ (g_a_2 j).toInt ≤ 9) (ex_1 : zCq f_a g_a_2 2 p2.toInt p3.toInt v4_1.toInt) (H : Heap) (locs : List Loc) (ls : Array Slot), 2 - v4_1.toInt < (t : Int) → va_P (dC, dI) vwCl [(a, .inl (cA_a, 10, .inl g_a_2))] H → va_D A [(a, .inl (cA_a, 10, .inl g_a_2))] → va_S A s.heap H locs → lv_has ls 5 [(0, .ref a), (1, .int 2), (2, .int p2), (3, .int p3), (4, .int v4_1)] → W p l e R s m args below meth c H locs 0 0 (MQ below Qc args s 0 0 A) (F0 m 3 ls []) := by
    intro t
    induction t with
    | zero => intro v4_1 g_a_2 b_v4_1 b_g_a_2 ex_1 H locs ls hmu _ _ _ _; exact absurd hmu (by first | with_reducible assumption | omega)
    | succ t ih_1 =>
      intro v4_1 g_a_2 b_v4_1 b_g_a_2 ex_1 H locs ls hmu hP hD hS hl
      refine lv_iload hx hb dX10_copyRow_3 (lv_at hl 4 rfl) ?_
      refine lv_iload_n hx hb dX10_copyRow_5 rfl (lv_at hl 1 rfl) ?_
      refine lv_icmp_ge (tgt := 31) hx hb dX10_copyRow_6 (by decide) (fun c_3 => ?_) (fun c_3 => ?_)
      · have ic_3 := zz_ge rfl (show Int32.toInt 2 = 2 from by decide) c_3
        have hkk : v4_1.toInt = 2 := by omega
        have hcq : zCq f_a g_a_2 2 p2.toInt p3.toInt 2 := by have h9 := ex_1; rw [hkk] at h9; exact h9
        exact W.vret hx hb hr (fun t ht hW => by rw [← hQe]; exact ⟨⟨(), rfl, trivial, ⟨g_a_2, b_g_a_2, (by first | omega | assumption), z_ret hP hK hD ht hW [0] [] rfl (by decide) rfl⟩⟩, hS.F ht⟩) hS.2.2 dX10_copyRow_31
      · have ic_3 := zz_nge rfl (show Int32.toInt 2 = 2 from by decide) c_3
        refine lv_aload_n hx hb dX10_copyRow_9 rfl (lv_at hl 0 rfl) ?_
        refine lv_iload_n hx hb dX10_copyRow_10 rfl (lv_at hl 1 rfl) ?_
        refine lv_iload_n hx hb dX10_copyRow_11 rfl (lv_at hl 3 rfl) ?_
        refine lv_imul hx hb dX10_copyRow_12 ?_
        refine lv_topi (fun x_4 ex_4 => ?_)
        have b_x_4 : x_4.toInt = 2 * p3.toInt := by rw [ex_4]; exact zi_mul (show Int32.toInt 2 = 2 from by decide) rfl (by first | with_reducible assumption | omega)
        refine lv_iload hx hb dX10_copyRow_13 (lv_at hl 4 rfl) ?_
        refine lv_iadd hx hb dX10_copyRow_15 ?_
        refine lv_topi (fun x_5 ex_5 => ?_)
        have b_x_5 : x_5.toInt = x_4.toInt + v4_1.toInt := by rw [ex_5]; exact zi_add rfl rfl (by first | with_reducible assumption | omega)
        refine lv_aload_n hx hb dX10_copyRow_16 rfl (lv_at hl 0 rfl) ?_
        refine lv_iload_n hx hb dX10_copyRow_17 rfl (lv_at hl 1 rfl) ?_
        refine lv_iload_n hx hb dX10_copyRow_18 rfl (lv_at hl 2 rfl) ?_
        refine lv_imul hx hb dX10_copyRow_19 ?_
        refine lv_topi (fun x_6 ex_6 => ?_)
        have b_x_6 : x_6.toInt = 2 * p2.toInt := by rw [ex_6]; exact zi_mul (show Int32.toInt 2 = 2 from by decide) rfl (by first | with_reducible assumption | omega)
        refine lv_iload hx hb dX10_copyRow_20 (lv_at hl 4 rfl) ?_
        refine lv_iadd hx hb dX10_copyRow_22 ?_
        refine lv_topi (fun x_7 ex_7 => ?_)
        have b_x_7 : x_7.toInt = x_6.toInt + v4_1.toInt := by rw [ex_7]; exact zi_add rfl rfl (by first | with_reducible assumption | omega)
        refine va_iald hx hb hK hP 0 0 rfl rfl (zi_in rfl (by first | with_reducible assumption | omega)) dX10_copyRow_23 ?_
        refine lv_topi (fun x_8 ex_8 => ?_)
        have b_x_8 : 0 ≤ x_8.toInt ∧ x_8.toInt ≤ 9 := by rw [ex_8]; exact b_g_a_2 _
        refine va_iast hx hb hK hP hD hS 0 0 rfl rfl (zi_in rfl (by first | with_reducible assumption | omega)) dX10_copyRow_24 (fun H locs hP hD hS => ?_)
        obtain ⟨f_9, ef_9⟩ : ∃ g : Nat → Int32, g = upd g_a_2 (Int32.toNatClampNeg x_5) x_8 := ⟨_, rfl⟩
        have b_f_9 : ∀ j : Nat, 0 ≤ (f_9 j).toInt ∧ (f_9 j).toInt ≤ 9 := by rw [ef_9]; exact zi_upd b_g_a_2 rfl (by first | with_reducible assumption | omega)
        have hP : va_P (dC, dI) vwCl [(a, .inl (cA_a, 10, .inl (upd g_a_2 (Int32.toNatClampNeg x_5) x_8)))] H := hP
        have hD : va_D A [(a, .inl (cA_a, 10, .inl (upd g_a_2 (Int32.toNatClampNeg x_5) x_8)))] := hD
        rw [← ef_9] at hP hD
        obtain ⟨x_10, ex_10⟩ : ∃ z : Int32, z = v4_1 + Int32.ofInt 1 := ⟨_, rfl⟩
        have b_x_10 : x_10.toInt = v4_1.toInt + 1 := by rw [ex_10]; exact zi_add rfl (show (Int32.ofInt 1).toInt = 1 from by decide) (by first | with_reducible assumption | omega)
        refine lv_iinc (v := x_10) (lv' := [(4, .int x_10), (0, .ref a), (1, .int 2), (2, .int p2), (3, .int p3)]) hx hb dX10_copyRow_25 hl (k := 4) rfl ex_10.symm (by decide) rfl (fun ls hl => ?_)
        refine lv_goto (tgt := 3) hx hb dX10_copyRow_28 (by decide) ?_
        have hbk : zCq f_a f_9 2 p2.toInt p3.toInt x_10.toInt := zCq.step ex_1 ef_9 ex_8 (i := x_5) (i2 := x_7) rfl rfl (by first | with_reducible assumption | omega) (by first | with_reducible assumption | omega) (by first | with_reducible assumption | omega) (by first | with_reducible assumption | omega) (by first | with_reducible assumption | omega)
        exact ih_1 x_10 f_9 (by first | with_reducible assumption | omega) b_f_9 (by first | assumption | decide | omega) _ _ _ (by first | with_reducible assumption | omega) (hP.sub (ws' := [(a, .inl (cA_a, 10, .inl f_9))]) [0] rfl) (hD.sub (ws' := [(a, .inl (cA_a, 10, .inl f_9))]) [0] (by decide) rfl) hS (lv_sub hl [1, 2, 3, 4, 0] rfl)
  have zb_0 : Int32.toInt 0 = 0 := by decide
  exact loop_1 4 (0) f_a (by decide) b_f_a (by first | assumption | decide | omega) _ _ _ (by decide) hP hD hS (lv_sub hl [1, 2, 3, 4, 0] rfl)
set_option maxHeartbeats 4000000 in
set_option maxRecDepth 100000 in
theorem k_X10_copyRow_v9 (l : Launch) (sa : Nat → Nat) (dC : Nat → ClassId) (dI : Nat → Nat → Nat) (a : Nat) (p2 : Int32) (p3 : Int32) (cA_a : ClassId) (f_a : Nat → Int32) (b_p2 : 0 ≤ p2.toInt ∧ p2.toInt ≤ 4) (b_p3 : 0 ≤ p3.toInt ∧ p3.toInt ≤ 4) (sz : Nat) : Met l yX10_copyRow (.code yX10_copyRow cX10_copyRow 5 none :: zT) ({ frames := 0, cells := 0, slots := 0, locals := 0 }) (va_Pc [.ref a, .int 2, .int p2, .int p3] (zB sa dC dI [(a, .inl (cA_a, 10, .inl f_a))] [(cA_a, .int)] sz)) (va_Qv (fun _ : Unit => True) (fun _ t => ∃ (n_a : Nat → Int32), (zCq f_a n_a 2 p2.toInt p3.toInt 2) ∧ zW dC dI [(a, .inl (cA_a, 10, .inl n_a))] [] (va_A [(a, .inl (cA_a, 10, .inl f_a))] sz) t) (va_A [(a, .inl (cA_a, 10, .inl f_a))] sz)) 0 0 (va_A [(a, .inl (cA_a, 10, .inl f_a))] sz) := by
  refine z_enter (by decide) (by exact (Nat.le_of_ble_eq_true rfl)) ?_
  intro p e s m args below meth c ls A R Qc hargs hsz hQe hAe hRe hx hb hml hr hts hown hlocks hin hl hP hK hD hN hXs hA hS
  rw [hAe] at hQe
  have hown : s.vm.findClass RX10 = some m.cls := hown
  have hl : lv_has ls 5 [(0, .ref a), (1, .int 2), (2, .int p2), (3, .int p3)] := hl
  refine lv_iconst (v := 0) hx hb dX10_copyRow_0 (by decide) ?_
  refine lv_istore (lv' := [(4, .int 0), (0, .ref a), (1, .int 2), (2, .int p2), (3, .int p3)]) hx hb dX10_copyRow_1 hl (by decide) rfl (fun ls hl => ?_)
  have hbe : zCq f_a f_a 2 p2.toInt p3.toInt (Int32.toInt 0) := zCq.zero (by decide)
  have loop_1 : ∀ (t : Nat) (v4_1 : Int32) (g_a_2 : Nat → Int32) (b_v4_1 : 0 ≤ v4_1.toInt ∧ v4_1.toInt ≤ 2) (ex_1 : zCq f_a g_a_2 2 p2.toInt p3.toInt v4_1.toInt) (H : Heap) (locs : List Loc) (ls : Array Slot), 2 - v4_1.toInt < (t : Int) → va_P (dC, dI) vwCl [(a, .inl (cA_a, 10, .inl g_a_2))] H → va_D A [(a, .inl (cA_a, 10, .inl g_a_2))] → va_S A s.heap H locs → lv_has ls 5 [(0, .ref a), (1, .int 2), (2, .int p2), (3, .int p3), (4, .int v4_1)] → W p l e R s m args below meth c H locs 0 0 (MQ below Qc args s 0 0 A) (F0 m 3 ls []) := by
    intro t
    induction t with
    | zero => intro v4_1 g_a_2 b_v4_1 ex_1 H locs ls hmu _ _ _ _; exact absurd hmu (by first | with_reducible assumption | omega)
    | succ t ih_1 =>
      intro v4_1 g_a_2 b_v4_1 ex_1 H locs ls hmu hP hD hS hl
      refine lv_iload hx hb dX10_copyRow_3 (lv_at hl 4 rfl) ?_
      refine lv_iload_n hx hb dX10_copyRow_5 rfl (lv_at hl 1 rfl) ?_
      refine lv_icmp_ge (tgt := 31) hx hb dX10_copyRow_6 (by decide) (fun c_3 => ?_) (fun c_3 => ?_)
      · have ic_3 := zz_ge rfl (show Int32.toInt 2 = 2 from by decide) c_3
        have hkk : v4_1.toInt = 2 := by omega
        have hcq : zCq f_a g_a_2 2 p2.toInt p3.toInt 2 := by have h9 := ex_1; rw [hkk] at h9; exact h9
        exact W.vret hx hb hr (fun t ht hW => by rw [← hQe]; exact ⟨⟨(), rfl, trivial, ⟨g_a_2, (by first | omega | assumption), z_ret hP hK hD ht hW [0] [] rfl (by decide) rfl⟩⟩, hS.F ht⟩) hS.2.2 dX10_copyRow_31
      · have ic_3 := zz_nge rfl (show Int32.toInt 2 = 2 from by decide) c_3
        refine lv_aload_n hx hb dX10_copyRow_9 rfl (lv_at hl 0 rfl) ?_
        refine lv_iload_n hx hb dX10_copyRow_10 rfl (lv_at hl 1 rfl) ?_
        refine lv_iload_n hx hb dX10_copyRow_11 rfl (lv_at hl 3 rfl) ?_
        refine lv_imul hx hb dX10_copyRow_12 ?_
        refine lv_topi (fun x_4 ex_4 => ?_)
        have b_x_4 : x_4.toInt = 2 * p3.toInt := by rw [ex_4]; exact zi_mul (show Int32.toInt 2 = 2 from by decide) rfl (by first | with_reducible assumption | omega)
        refine lv_iload hx hb dX10_copyRow_13 (lv_at hl 4 rfl) ?_
        refine lv_iadd hx hb dX10_copyRow_15 ?_
        refine lv_topi (fun x_5 ex_5 => ?_)
        have b_x_5 : x_5.toInt = x_4.toInt + v4_1.toInt := by rw [ex_5]; exact zi_add rfl rfl (by first | with_reducible assumption | omega)
        refine lv_aload_n hx hb dX10_copyRow_16 rfl (lv_at hl 0 rfl) ?_
        refine lv_iload_n hx hb dX10_copyRow_17 rfl (lv_at hl 1 rfl) ?_
        refine lv_iload_n hx hb dX10_copyRow_18 rfl (lv_at hl 2 rfl) ?_
        refine lv_imul hx hb dX10_copyRow_19 ?_
        refine lv_topi (fun x_6 ex_6 => ?_)
        have b_x_6 : x_6.toInt = 2 * p2.toInt := by rw [ex_6]; exact zi_mul (show Int32.toInt 2 = 2 from by decide) rfl (by first | with_reducible assumption | omega)
        refine lv_iload hx hb dX10_copyRow_20 (lv_at hl 4 rfl) ?_
        refine lv_iadd hx hb dX10_copyRow_22 ?_
        refine lv_topi (fun x_7 ex_7 => ?_)
        have b_x_7 : x_7.toInt = x_6.toInt + v4_1.toInt := by rw [ex_7]; exact zi_add rfl rfl (by first | with_reducible assumption | omega)
        refine va_iald hx hb hK hP 0 0 rfl rfl (zi_in rfl (by first | with_reducible assumption | omega)) dX10_copyRow_23 ?_
        refine lv_topi (fun x_8 ex_8 => ?_)
        refine va_iast hx hb hK hP hD hS 0 0 rfl rfl (zi_in rfl (by first | with_reducible assumption | omega)) dX10_copyRow_24 (fun H locs hP hD hS => ?_)
        obtain ⟨f_9, ef_9⟩ : ∃ g : Nat → Int32, g = upd g_a_2 (Int32.toNatClampNeg x_5) x_8 := ⟨_, rfl⟩
        have hP : va_P (dC, dI) vwCl [(a, .inl (cA_a, 10, .inl (upd g_a_2 (Int32.toNatClampNeg x_5) x_8)))] H := hP
        have hD : va_D A [(a, .inl (cA_a, 10, .inl (upd g_a_2 (Int32.toNatClampNeg x_5) x_8)))] := hD
        rw [← ef_9] at hP hD
        obtain ⟨x_10, ex_10⟩ : ∃ z : Int32, z = v4_1 + Int32.ofInt 1 := ⟨_, rfl⟩
        have b_x_10 : x_10.toInt = v4_1.toInt + 1 := by rw [ex_10]; exact zi_add rfl (show (Int32.ofInt 1).toInt = 1 from by decide) (by first | with_reducible assumption | omega)
        refine lv_iinc (v := x_10) (lv' := [(4, .int x_10), (0, .ref a), (1, .int 2), (2, .int p2), (3, .int p3)]) hx hb dX10_copyRow_25 hl (k := 4) rfl ex_10.symm (by decide) rfl (fun ls hl => ?_)
        refine lv_goto (tgt := 3) hx hb dX10_copyRow_28 (by decide) ?_
        have hbk : zCq f_a f_9 2 p2.toInt p3.toInt x_10.toInt := zCq.step ex_1 ef_9 ex_8 (i := x_5) (i2 := x_7) rfl rfl (by first | with_reducible assumption | omega) (by first | with_reducible assumption | omega) (by first | with_reducible assumption | omega) (by first | with_reducible assumption | omega) (by first | with_reducible assumption | omega)
        exact ih_1 x_10 f_9 (by first | with_reducible assumption | omega) (by first | assumption | decide | omega) _ _ _ (by first | with_reducible assumption | omega) (hP.sub (ws' := [(a, .inl (cA_a, 10, .inl f_9))]) [0] rfl) (hD.sub (ws' := [(a, .inl (cA_a, 10, .inl f_9))]) [0] (by decide) rfl) hS (lv_sub hl [1, 2, 3, 4, 0] rfl)
  have zb_0 : Int32.toInt 0 = 0 := by decide
  exact loop_1 4 (0) f_a (by decide) (by first | assumption | decide | omega) _ _ _ (by decide) hP hD hS (lv_sub hl [1, 2, 3, 4, 0] rfl)
set_option maxHeartbeats 4000000 in
set_option maxRecDepth 100000 in
theorem k_X10_copyRow_v10 (l : Launch) (sa : Nat → Nat) (dC : Nat → ClassId) (dI : Nat → Nat → Nat) (a : Nat) (p2 : Int32) (p3 : Int32) (cA_a : ClassId) (f_a : Nat → Int32) (b_p2 : 0 ≤ p2.toInt ∧ p2.toInt ≤ 4) (b_p3 : 0 ≤ p3.toInt ∧ p3.toInt ≤ 4) (b_f_a : ∀ j : Nat, 0 ≤ (f_a j).toInt ∧ (f_a j).toInt ≤ 2) (sz : Nat) : Met l yX10_copyRow (.code yX10_copyRow cX10_copyRow 5 none :: zT) ({ frames := 0, cells := 0, slots := 0, locals := 0 }) (va_Pc [.ref a, .int 10, .int p2, .int p3] (zB sa dC dI [(a, .inl (cA_a, 50, .inl f_a))] [(cA_a, .int)] sz)) (va_Qv (fun _ : Unit => True) (fun _ t => ∃ (n_a : Nat → Int32), (∀ j : Nat, 0 ≤ (n_a j).toInt ∧ (n_a j).toInt ≤ 2) ∧ (zCq f_a n_a 10 p2.toInt p3.toInt 10) ∧ zW dC dI [(a, .inl (cA_a, 50, .inl n_a))] [] (va_A [(a, .inl (cA_a, 50, .inl f_a))] sz) t) (va_A [(a, .inl (cA_a, 50, .inl f_a))] sz)) 0 0 (va_A [(a, .inl (cA_a, 50, .inl f_a))] sz) := by
  refine z_enter (by decide) (by exact (Nat.le_of_ble_eq_true rfl)) ?_
  intro p e s m args below meth c ls A R Qc hargs hsz hQe hAe hRe hx hb hml hr hts hown hlocks hin hl hP hK hD hN hXs hA hS
  rw [hAe] at hQe
  have hown : s.vm.findClass RX10 = some m.cls := hown
  have hl : lv_has ls 5 [(0, .ref a), (1, .int 10), (2, .int p2), (3, .int p3)] := hl
  refine lv_iconst (v := 0) hx hb dX10_copyRow_0 (by decide) ?_
  refine lv_istore (lv' := [(4, .int 0), (0, .ref a), (1, .int 10), (2, .int p2), (3, .int p3)]) hx hb dX10_copyRow_1 hl (by decide) rfl (fun ls hl => ?_)
  have hbe : zCq f_a f_a 10 p2.toInt p3.toInt (Int32.toInt 0) := zCq.zero (by decide)
  have loop_1 : ∀ (t : Nat) (v4_1 : Int32) (g_a_2 : Nat → Int32) (b_v4_1 : 0 ≤ v4_1.toInt ∧ v4_1.toInt ≤ 10) (b_g_a_2 : ∀ j : Nat, 0 ≤ (g_a_2 j).toInt ∧ (g_a_2 j).toInt ≤ 2) (ex_1 : zCq f_a g_a_2 10 p2.toInt p3.toInt v4_1.toInt) (H : Heap) (locs : List Loc) (ls : Array Slot), 10 - v4_1.toInt < (t : Int) → va_P (dC, dI) vwCl [(a, .inl (cA_a, 50, .inl g_a_2))] H → va_D A [(a, .inl (cA_a, 50, .inl g_a_2))] → va_S A s.heap H locs → lv_has ls 5 [(0, .ref a), (1, .int 10), (2, .int p2), (3, .int p3), (4, .int v4_1)] → W p l e R s m args below meth c H locs 0 0 (MQ below Qc args s 0 0 A) (F0 m 3 ls []) := by
    intro t
    induction t with
    | zero => intro v4_1 g_a_2 b_v4_1 b_g_a_2 ex_1 H locs ls hmu _ _ _ _; exact absurd hmu (by first | with_reducible assumption | omega)
    | succ t ih_1 =>
      intro v4_1 g_a_2 b_v4_1 b_g_a_2 ex_1 H locs ls hmu hP hD hS hl
      refine lv_iload hx hb dX10_copyRow_3 (lv_at hl 4 rfl) ?_
      refine lv_iload_n hx hb dX10_copyRow_5 rfl (lv_at hl 1 rfl) ?_
      refine lv_icmp_ge (tgt := 31) hx hb dX10_copyRow_6 (by decide) (fun c_3 => ?_) (fun c_3 => ?_)
      · have ic_3 := zz_ge rfl (show Int32.toInt 10 = 10 from by decide) c_3
        have hkk : v4_1.toInt = 10 := by omega
        have hcq : zCq f_a g_a_2 10 p2.toInt p3.toInt 10 := by have h9 := ex_1; rw [hkk] at h9; exact h9
        exact W.vret hx hb hr (fun t ht hW => by rw [← hQe]; exact ⟨⟨(), rfl, trivial, ⟨g_a_2, b_g_a_2, (by first | omega | assumption), z_ret hP hK hD ht hW [0] [] rfl (by decide) rfl⟩⟩, hS.F ht⟩) hS.2.2 dX10_copyRow_31
      · have ic_3 := zz_nge rfl (show Int32.toInt 10 = 10 from by decide) c_3
        refine lv_aload_n hx hb dX10_copyRow_9 rfl (lv_at hl 0 rfl) ?_
        refine lv_iload_n hx hb dX10_copyRow_10 rfl (lv_at hl 1 rfl) ?_
        refine lv_iload_n hx hb dX10_copyRow_11 rfl (lv_at hl 3 rfl) ?_
        refine lv_imul hx hb dX10_copyRow_12 ?_
        refine lv_topi (fun x_4 ex_4 => ?_)
        have b_x_4 : x_4.toInt = 10 * p3.toInt := by rw [ex_4]; exact zi_mul (show Int32.toInt 10 = 10 from by decide) rfl (by first | with_reducible assumption | omega)
        refine lv_iload hx hb dX10_copyRow_13 (lv_at hl 4 rfl) ?_
        refine lv_iadd hx hb dX10_copyRow_15 ?_
        refine lv_topi (fun x_5 ex_5 => ?_)
        have b_x_5 : x_5.toInt = x_4.toInt + v4_1.toInt := by rw [ex_5]; exact zi_add rfl rfl (by first | with_reducible assumption | omega)
        refine lv_aload_n hx hb dX10_copyRow_16 rfl (lv_at hl 0 rfl) ?_
        refine lv_iload_n hx hb dX10_copyRow_17 rfl (lv_at hl 1 rfl) ?_
        refine lv_iload_n hx hb dX10_copyRow_18 rfl (lv_at hl 2 rfl) ?_
        refine lv_imul hx hb dX10_copyRow_19 ?_
        refine lv_topi (fun x_6 ex_6 => ?_)
        have b_x_6 : x_6.toInt = 10 * p2.toInt := by rw [ex_6]; exact zi_mul (show Int32.toInt 10 = 10 from by decide) rfl (by first | with_reducible assumption | omega)
        refine lv_iload hx hb dX10_copyRow_20 (lv_at hl 4 rfl) ?_
        refine lv_iadd hx hb dX10_copyRow_22 ?_
        refine lv_topi (fun x_7 ex_7 => ?_)
        have b_x_7 : x_7.toInt = x_6.toInt + v4_1.toInt := by rw [ex_7]; exact zi_add rfl rfl (by first | with_reducible assumption | omega)
        refine va_iald hx hb hK hP 0 0 rfl rfl (zi_in rfl (by first | with_reducible assumption | omega)) dX10_copyRow_23 ?_
        refine lv_topi (fun x_8 ex_8 => ?_)
        have b_x_8 : 0 ≤ x_8.toInt ∧ x_8.toInt ≤ 2 := by rw [ex_8]; exact b_g_a_2 _
        refine va_iast hx hb hK hP hD hS 0 0 rfl rfl (zi_in rfl (by first | with_reducible assumption | omega)) dX10_copyRow_24 (fun H locs hP hD hS => ?_)
        obtain ⟨f_9, ef_9⟩ : ∃ g : Nat → Int32, g = upd g_a_2 (Int32.toNatClampNeg x_5) x_8 := ⟨_, rfl⟩
        have b_f_9 : ∀ j : Nat, 0 ≤ (f_9 j).toInt ∧ (f_9 j).toInt ≤ 2 := by rw [ef_9]; exact zi_upd b_g_a_2 rfl (by first | with_reducible assumption | omega)
        have hP : va_P (dC, dI) vwCl [(a, .inl (cA_a, 50, .inl (upd g_a_2 (Int32.toNatClampNeg x_5) x_8)))] H := hP
        have hD : va_D A [(a, .inl (cA_a, 50, .inl (upd g_a_2 (Int32.toNatClampNeg x_5) x_8)))] := hD
        rw [← ef_9] at hP hD
        obtain ⟨x_10, ex_10⟩ : ∃ z : Int32, z = v4_1 + Int32.ofInt 1 := ⟨_, rfl⟩
        have b_x_10 : x_10.toInt = v4_1.toInt + 1 := by rw [ex_10]; exact zi_add rfl (show (Int32.ofInt 1).toInt = 1 from by decide) (by first | with_reducible assumption | omega)
        refine lv_iinc (v := x_10) (lv' := [(4, .int x_10), (0, .ref a), (1, .int 10), (2, .int p2), (3, .int p3)]) hx hb dX10_copyRow_25 hl (k := 4) rfl ex_10.symm (by decide) rfl (fun ls hl => ?_)
        refine lv_goto (tgt := 3) hx hb dX10_copyRow_28 (by decide) ?_
        have hbk : zCq f_a f_9 10 p2.toInt p3.toInt x_10.toInt := zCq.step ex_1 ef_9 ex_8 (i := x_5) (i2 := x_7) rfl rfl (by first | with_reducible assumption | omega) (by first | with_reducible assumption | omega) (by first | with_reducible assumption | omega) (by first | with_reducible assumption | omega) (by first | with_reducible assumption | omega)
        exact ih_1 x_10 f_9 (by first | with_reducible assumption | omega) b_f_9 (by first | assumption | decide | omega) _ _ _ (by first | with_reducible assumption | omega) (hP.sub (ws' := [(a, .inl (cA_a, 50, .inl f_9))]) [0] rfl) (hD.sub (ws' := [(a, .inl (cA_a, 50, .inl f_9))]) [0] (by decide) rfl) hS (lv_sub hl [1, 2, 3, 4, 0] rfl)
  have zb_0 : Int32.toInt 0 = 0 := by decide
  exact loop_1 12 (0) f_a (by decide) b_f_a (by first | assumption | decide | omega) _ _ _ (by decide) hP hD hS (lv_sub hl [1, 2, 3, 4, 0] rfl)
set_option maxHeartbeats 4000000 in
set_option maxRecDepth 100000 in
theorem k_X10_copyTown (l : Launch) (sa : Nat → Nat) (dC : Nat → ClassId) (dI : Nat → Nat → Nat) (m0 : Nat) (p1 : Int32) (p2 : Int32) (m0_thrown : Int32) (m0_width : Nat) (m0_many : Nat) (m0_cells : Nat) (m0_moved : Nat) (m0_tape : Nat) (m0_taped : Int32) (m0_at : Int32) (m0_token : Int32) (m0_place : Int32) (m0_value : Int32) (m0_word : Int64) (m0_bad : Int32) (m0_badPlace : Int32) (m0_fault : Int32) (m0_faultPlace : Int32) (m0_lines : Nat) (m0_hours : Nat) (m0_courts : Nat) (m0_in : Nat) (m0_gates : Nat) (m0_gate : Nat) (m0_people : Nat) (m0_at0 : Nat) (m0_stray : Nat) (m0_set : Nat) (m0_once : Nat) (m0_truth : Nat) (m0_known : Nat) (m0_isKept : Nat) (m0_strays : Int32) (m0_hostPerson : Int32) (m0_hostCourt : Int32) (m0_outside : Int32) (m0_inside : Nat) (m0_can : Nat) (m0_fewest : Nat) (m0_waysTo : Nat) (m0_then : Nat) (m0_two : Nat) (m0_nextTwo : Nat) (m0_three : Nat) (m0_nextThree : Nat) (m0_shut : Int32) (m0_worth : Nat) (m0_digit : Nat) (m0_codes : Int32) (m0_most : Int64) (m0_bestTry : Int32) (m0_dayCourt : Int32) (m0_dayHour : Int32) (m0_dayNo : Int32) (m0_x : Int64) (cA_m0_lines : ClassId) (f_m0_lines : Nat → Int32) (cA_m0_hours : ClassId) (f_m0_hours : Nat → Int32) (cA_m0_courts : ClassId) (f_m0_courts : Nat → Int32) (cA_m0_in : ClassId) (f_m0_in : Nat → Int32) (cA_m0_gates : ClassId) (f_m0_gates : Nat → Int32) (cA_m0_gate : ClassId) (f_m0_gate : Nat → Int32) (cA_m0_people : ClassId) (f_m0_people : Nat → Int32) (cA_m0_at0 : ClassId) (f_m0_at0 : Nat → Int32) (cA_m0_stray : ClassId) (f_m0_stray : Nat → Int32) (cA_m0_set : ClassId) (f_m0_set : Nat → Int32) (cA_m0_truth : ClassId) (f_m0_truth : Nat → Int32) (cA_m0_known : ClassId) (f_m0_known : Nat → Int32) (b_p1 : 0 ≤ p1.toInt ∧ p1.toInt ≤ 4) (b_p2 : 0 ≤ p2.toInt ∧ p2.toInt ≤ 4) (b_m0_taped : 0 ≤ m0_taped.toInt ∧ m0_taped.toInt ≤ 1600) (b_m0_at : 0 ≤ m0_at.toInt ∧ m0_at.toInt ≤ 1600) (b_m0_token : 0 ≤ m0_token.toInt ∧ m0_token.toInt ≤ 4) (b_m0_value : 0 ≤ m0_value.toInt ∧ m0_value.toInt ≤ 1000009) (b_m0_bad : 0 ≤ m0_bad.toInt ∧ m0_bad.toInt ≤ 3) (b_m0_strays : 0 ≤ m0_strays.toInt ∧ m0_strays.toInt ≤ 5) (b_m0_hostCourt : 0 ≤ m0_hostCourt.toInt ∧ m0_hostCourt.toInt ≤ 9) (b_m0_dayCourt : 0 ≤ m0_dayCourt.toInt ∧ m0_dayCourt.toInt ≤ 9) (b_m0_dayHour : 0 ≤ m0_dayHour.toInt ∧ m0_dayHour.toInt ≤ 48) (b_f_m0_hours : ∀ j : Nat, 0 ≤ (f_m0_hours j).toInt ∧ (f_m0_hours j).toInt ≤ 48) (b_f_m0_courts : ∀ j : Nat, 0 ≤ (f_m0_courts j).toInt ∧ (f_m0_courts j).toInt ≤ 10) (b_f_m0_in : ∀ j : Nat, ¬ j % 10 = 0 → (-1) ≤ (f_m0_in j).toInt ∧ (f_m0_in j).toInt < ((j % 10 : Nat) : Int)) (b_f_m0_gates : ∀ j : Nat, 0 ≤ (f_m0_gates j).toInt ∧ (f_m0_gates j).toInt ≤ 16) (b_f_m0_gate : ∀ j : Nat, 0 ≤ (f_m0_gate j).toInt ∧ (f_m0_gate j).toInt ≤ 9) (b_f_m0_people : ∀ j : Nat, 0 ≤ (f_m0_people j).toInt ∧ (f_m0_people j).toInt ≤ 10) (b_f_m0_at0 : ∀ j : Nat, 0 ≤ (f_m0_at0 j).toInt ∧ (f_m0_at0 j).toInt ≤ 9) (b_f_m0_stray : ∀ j : Nat, 0 ≤ (f_m0_stray j).toInt ∧ (f_m0_stray j).toInt ≤ 99 ∧ (j % 2 = 1 → (f_m0_stray j).toInt ≤ 9)) (b_f_m0_set : ∀ j : Nat, 0 ≤ (f_m0_set j).toInt ∧ (f_m0_set j).toInt ≤ 9) (b_f_m0_known : ∀ j : Nat, 0 ≤ (f_m0_known j).toInt ∧ (f_m0_known j).toInt ≤ 2) (sz : Nat) : Met l yX10_copyTown (.code yX10_copyTown cX10_copyTown 3 none :: zT) ({ frames := 1, cells := 0, slots := 0, locals := 24 }) (va_Pc [.ref m0, .int p1, .int p2] (zB sa dC dI (zV165 m0 m0_thrown m0_width m0_many m0_cells m0_moved m0_tape m0_taped m0_at m0_token m0_place m0_value m0_word m0_bad m0_badPlace m0_fault m0_faultPlace m0_lines m0_hours m0_courts m0_in m0_gates m0_gate m0_people m0_at0 m0_stray m0_set m0_once m0_truth m0_known m0_isKept m0_strays m0_hostPerson m0_hostCourt m0_outside m0_inside m0_can m0_fewest m0_waysTo m0_then m0_two m0_nextTwo m0_three m0_nextThree m0_shut m0_worth m0_digit m0_codes m0_most m0_bestTry m0_dayCourt m0_dayHour m0_dayNo m0_x m0_lines cA_m0_lines f_m0_lines m0_hours cA_m0_hours f_m0_hours m0_courts cA_m0_courts f_m0_courts m0_in cA_m0_in f_m0_in m0_gates cA_m0_gates f_m0_gates m0_gate cA_m0_gate f_m0_gate m0_people cA_m0_people f_m0_people m0_at0 cA_m0_at0 f_m0_at0 m0_stray cA_m0_stray f_m0_stray m0_set cA_m0_set f_m0_set m0_truth cA_m0_truth f_m0_truth m0_known cA_m0_known f_m0_known) [(cA_m0_lines, .int), (cA_m0_hours, .int), (cA_m0_courts, .int), (cA_m0_in, .int), (cA_m0_gates, .int), (cA_m0_gate, .int), (cA_m0_people, .int), (cA_m0_at0, .int), (cA_m0_stray, .int), (cA_m0_set, .int), (cA_m0_truth, .int), (cA_m0_known, .int)] sz)) (va_Qv (fun _ : Unit => True) (fun _ t => ∃ (n_m0_lines : Nat → Int32) (n_m0_hours : Nat → Int32) (n_m0_courts : Nat → Int32) (n_m0_in : Nat → Int32) (n_m0_gates : Nat → Int32) (n_m0_gate : Nat → Int32) (n_m0_people : Nat → Int32) (n_m0_at0 : Nat → Int32) (n_m0_stray : Nat → Int32) (n_m0_set : Nat → Int32) (n_m0_truth : Nat → Int32) (n_m0_known : Nat → Int32), (∀ j : Nat, 0 ≤ (n_m0_hours j).toInt ∧ (n_m0_hours j).toInt ≤ 48) ∧ (∀ j : Nat, 0 ≤ (n_m0_courts j).toInt ∧ (n_m0_courts j).toInt ≤ 10) ∧ (∀ j : Nat, ¬ j % 10 = 0 → (-1) ≤ (n_m0_in j).toInt ∧ (n_m0_in j).toInt < ((j % 10 : Nat) : Int)) ∧ (∀ j : Nat, 0 ≤ (n_m0_gates j).toInt ∧ (n_m0_gates j).toInt ≤ 16) ∧ (∀ j : Nat, 0 ≤ (n_m0_gate j).toInt ∧ (n_m0_gate j).toInt ≤ 9) ∧ (∀ j : Nat, 0 ≤ (n_m0_people j).toInt ∧ (n_m0_people j).toInt ≤ 10) ∧ (∀ j : Nat, 0 ≤ (n_m0_at0 j).toInt ∧ (n_m0_at0 j).toInt ≤ 9) ∧ (∀ j : Nat, 0 ≤ (n_m0_stray j).toInt ∧ (n_m0_stray j).toInt ≤ 99 ∧ (j % 2 = 1 → (n_m0_stray j).toInt ≤ 9)) ∧ (∀ j : Nat, 0 ≤ (n_m0_set j).toInt ∧ (n_m0_set j).toInt ≤ 9) ∧ (∀ j : Nat, 0 ≤ (n_m0_known j).toInt ∧ (n_m0_known j).toInt ≤ 2) ∧ (zCq f_m0_in n_m0_in 10 p1.toInt p2.toInt 10) ∧ (zCq f_m0_courts n_m0_courts 1 p1.toInt p2.toInt 1) ∧ (zCq f_m0_hours n_m0_hours 1 p1.toInt p2.toInt 1) ∧ (zCq f_m0_people n_m0_people 1 p1.toInt p2.toInt 1) ∧ (zCq f_m0_stray n_m0_stray 20 p1.toInt p2.toInt 20) ∧ zW dC dI (zV165 m0 m0_thrown m0_width m0_many m0_cells m0_moved m0_tape m0_taped m0_at m0_token m0_place m0_value m0_word m0_bad m0_badPlace m0_fault m0_faultPlace m0_lines m0_hours m0_courts m0_in m0_gates m0_gate m0_people m0_at0 m0_stray m0_set m0_once m0_truth m0_known m0_isKept m0_strays m0_hostPerson m0_hostCourt m0_outside m0_inside m0_can m0_fewest m0_waysTo m0_then m0_two m0_nextTwo m0_three m0_nextThree m0_shut m0_worth m0_digit m0_codes m0_most m0_bestTry m0_dayCourt m0_dayHour m0_dayNo m0_x m0_lines cA_m0_lines n_m0_lines m0_hours cA_m0_hours n_m0_hours m0_courts cA_m0_courts n_m0_courts m0_in cA_m0_in n_m0_in m0_gates cA_m0_gates n_m0_gates m0_gate cA_m0_gate n_m0_gate m0_people cA_m0_people n_m0_people m0_at0 cA_m0_at0 n_m0_at0 m0_stray cA_m0_stray n_m0_stray m0_set cA_m0_set n_m0_set m0_truth cA_m0_truth n_m0_truth m0_known cA_m0_known n_m0_known) [] (va_A (zV165 m0 m0_thrown m0_width m0_many m0_cells m0_moved m0_tape m0_taped m0_at m0_token m0_place m0_value m0_word m0_bad m0_badPlace m0_fault m0_faultPlace m0_lines m0_hours m0_courts m0_in m0_gates m0_gate m0_people m0_at0 m0_stray m0_set m0_once m0_truth m0_known m0_isKept m0_strays m0_hostPerson m0_hostCourt m0_outside m0_inside m0_can m0_fewest m0_waysTo m0_then m0_two m0_nextTwo m0_three m0_nextThree m0_shut m0_worth m0_digit m0_codes m0_most m0_bestTry m0_dayCourt m0_dayHour m0_dayNo m0_x m0_lines cA_m0_lines f_m0_lines m0_hours cA_m0_hours f_m0_hours m0_courts cA_m0_courts f_m0_courts m0_in cA_m0_in f_m0_in m0_gates cA_m0_gates f_m0_gates m0_gate cA_m0_gate f_m0_gate m0_people cA_m0_people f_m0_people m0_at0 cA_m0_at0 f_m0_at0 m0_stray cA_m0_stray f_m0_stray m0_set cA_m0_set f_m0_set m0_truth cA_m0_truth f_m0_truth m0_known cA_m0_known f_m0_known) sz) t) (va_A (zV165 m0 m0_thrown m0_width m0_many m0_cells m0_moved m0_tape m0_taped m0_at m0_token m0_place m0_value m0_word m0_bad m0_badPlace m0_fault m0_faultPlace m0_lines m0_hours m0_courts m0_in m0_gates m0_gate m0_people m0_at0 m0_stray m0_set m0_once m0_truth m0_known m0_isKept m0_strays m0_hostPerson m0_hostCourt m0_outside m0_inside m0_can m0_fewest m0_waysTo m0_then m0_two m0_nextTwo m0_three m0_nextThree m0_shut m0_worth m0_digit m0_codes m0_most m0_bestTry m0_dayCourt m0_dayHour m0_dayNo m0_x m0_lines cA_m0_lines f_m0_lines m0_hours cA_m0_hours f_m0_hours m0_courts cA_m0_courts f_m0_courts m0_in cA_m0_in f_m0_in m0_gates cA_m0_gates f_m0_gates m0_gate cA_m0_gate f_m0_gate m0_people cA_m0_people f_m0_people m0_at0 cA_m0_at0 f_m0_at0 m0_stray cA_m0_stray f_m0_stray m0_set cA_m0_set f_m0_set m0_truth cA_m0_truth f_m0_truth m0_known cA_m0_known f_m0_known) sz)) 0 0 (va_A (zV165 m0 m0_thrown m0_width m0_many m0_cells m0_moved m0_tape m0_taped m0_at m0_token m0_place m0_value m0_word m0_bad m0_badPlace m0_fault m0_faultPlace m0_lines m0_hours m0_courts m0_in m0_gates m0_gate m0_people m0_at0 m0_stray m0_set m0_once m0_truth m0_known m0_isKept m0_strays m0_hostPerson m0_hostCourt m0_outside m0_inside m0_can m0_fewest m0_waysTo m0_then m0_two m0_nextTwo m0_three m0_nextThree m0_shut m0_worth m0_digit m0_codes m0_most m0_bestTry m0_dayCourt m0_dayHour m0_dayNo m0_x m0_lines cA_m0_lines f_m0_lines m0_hours cA_m0_hours f_m0_hours m0_courts cA_m0_courts f_m0_courts m0_in cA_m0_in f_m0_in m0_gates cA_m0_gates f_m0_gates m0_gate cA_m0_gate f_m0_gate m0_people cA_m0_people f_m0_people m0_at0 cA_m0_at0 f_m0_at0 m0_stray cA_m0_stray f_m0_stray m0_set cA_m0_set f_m0_set m0_truth cA_m0_truth f_m0_truth m0_known cA_m0_known f_m0_known) sz) := by
  refine z_enter (by decide) (by exact (Nat.le_of_ble_eq_true rfl)) ?_
  intro p e s m args below meth c ls A R Qc hargs hsz hQe hAe hRe hx hb hml hr hts hown hlocks hin hl hP hK hD hN hXs hA hS
  rw [hAe] at hQe
  have hown : s.vm.findClass RX10 = some m.cls := hown
  have hl : lv_has ls 3 [(0, .ref m0), (1, .int p1), (2, .int p2)] := hl
  refine lv_aload_n hx hb dX10_copyTown_0 rfl (lv_at hl 0 rfl) ?_
  refine va_get (D := (dC, dI)) (ci := 10) (v := .ref m0_lines) (C := RX10) (T := TX10) (N := 53) hx hb hts zl_X10 hown hK hP 0 rfl rfl 16 (by decide) (hts _ zw_t6_116) (fun _ h9 => h9) rfl dX10_copyTown_1 ?_
  refine lv_iconst (v := 1) hx hb dX10_copyTown_4 (by decide) ?_
  refine lv_iload_n hx hb dX10_copyTown_5 rfl (lv_at hl 1 rfl) ?_
  refine lv_iload_n hx hb dX10_copyTown_6 rfl (lv_at hl 2 rfl) ?_
  obtain ⟨hPc, hDc, hFc⟩ := z_cut (wc := [(m0_lines, .inl (cA_m0_lines, 5, .inl f_m0_lines))]) hP hD hS hA [1] rfl (by decide +kernel)
  have hKc := hK.sub (tys' := [(cA_m0_lines, .int)]) [0] rfl
  refine va_callv (va_runS (As := [.ref m0_lines, .int 1, .int p1, .int p2]) (rest := []) ⟨hx, hb, hml, hown, hts⟩ (k_X10_copyRow l sa dC dI m0_lines p1 p2 cA_m0_lines f_m0_lines b_p1 b_p2 s.heap.size) (va_cwS 4 hts (z_gS zw_t7_154 zw_t7_155 zw_t1_11 zw_t7_156) rfl rfl rfl (by decide +kernel) (by rw [← hRe]; exact ⟨(Nat.le_of_ble_eq_true rfl), (Nat.le_of_ble_eq_true rfl)⟩)) (z_preS hPc hKc hDc hN hXs hS hFc) rfl rfl hl.1 rfl (lv_room (Nat.le_of_ble_eq_true rfl)) dX10_copyTown_7 (by rw [← hRe]; exact ⟨(Nat.le_of_ble_eq_true rfl), (Nat.le_of_ble_eq_true rfl)⟩)) hS (fun q _ h => hFc q h) hFc (fun u t H1 locs ht hvm hw hB hz1 hk1 hS => ?_)
  obtain ⟨n_a_2, hf_3, hB⟩ := hB
  obtain ⟨hP, hD, hK⟩ := z_after3 (wn := [(m0, .inr (10, [.int m0_thrown, .ref m0_width, .ref m0_many, .ref m0_cells, .ref m0_moved, .ref m0_tape, .int m0_taped, .int m0_at, .int m0_token, .int m0_place, .int m0_value, .long m0_word, .int m0_bad, .int m0_badPlace, .int m0_fault, .int m0_faultPlace, .ref m0_lines, .ref m0_hours, .ref m0_courts, .ref m0_in, .ref m0_gates, .ref m0_gate, .ref m0_people, .ref m0_at0, .ref m0_stray, .ref m0_set, .ref m0_once, .ref m0_truth, .ref m0_known, .ref m0_isKept, .int m0_strays, .int m0_hostPerson, .int m0_hostCourt, .int m0_outside, .ref m0_inside, .ref m0_can, .ref m0_fewest, .ref m0_waysTo, .ref m0_then, .ref m0_two, .ref m0_nextTwo, .ref m0_three, .ref m0_nextThree, .int m0_shut, .ref m0_worth, .ref m0_digit, .int m0_codes, .long m0_most, .int m0_bestTry, .int m0_dayCourt, .int m0_dayHour, .int m0_dayNo, .long m0_x])), (m0_hours, .inl (cA_m0_hours, 5, .inl f_m0_hours)), (m0_courts, .inl (cA_m0_courts, 5, .inl f_m0_courts)), (m0_in, .inl (cA_m0_in, 50, .inl f_m0_in)), (m0_gates, .inl (cA_m0_gates, 5, .inl f_m0_gates)), (m0_gate, .inl (cA_m0_gate, 160, .inl f_m0_gate)), (m0_people, .inl (cA_m0_people, 5, .inl f_m0_people)), (m0_at0, .inl (cA_m0_at0, 2400, .inl f_m0_at0)), (m0_stray, .inl (cA_m0_stray, 100, .inl f_m0_stray)), (m0_set, .inl (cA_m0_set, 10, .inl f_m0_set)), (m0_truth, .inl (cA_m0_truth, 10, .inl f_m0_truth)), (m0_known, .inl (cA_m0_known, 50, .inl f_m0_known)), (m0_lines, .inl (cA_m0_lines, 5, .inl n_a_2))]) hB ht hvm hP hD hK [1] [0, 2, 3, 4, 5, 6, 7, 8, 9, 10, 11, 12] rfl 13 rfl (by decide +kernel) rfl (by decide +kernel) hk1 hFc
  generalize H1 = H at hP hS ⊢
  have hK : va_K (dC, dI) vwCl [(cA_m0_lines, .int), (cA_m0_hours, .int), (cA_m0_courts, .int), (cA_m0_in, .int), (cA_m0_gates, .int), (cA_m0_gate, .int), (cA_m0_people, .int), (cA_m0_at0, .int), (cA_m0_stray, .int), (cA_m0_set, .int), (cA_m0_truth, .int), (cA_m0_known, .int)] s := hK
  refine lv_aload_n hx hb dX10_copyTown_10 rfl (lv_at hl 0 rfl) ?_
  refine va_get (D := (dC, dI)) (ci := 10) (v := .ref m0_hours) (C := RX10) (T := TX10) (N := 53) hx hb hts zl_X10 hown hK hP 0 rfl rfl 17 (by decide) (hts _ zw_t6_117) (fun _ h9 => h9) rfl dX10_copyTown_11 ?_
  refine lv_iconst (v := 1) hx hb dX10_copyTown_14 (by decide) ?_
  refine lv_iload_n hx hb dX10_copyTown_15 rfl (lv_at hl 1 rfl) ?_
  refine lv_iload_n hx hb dX10_copyTown_16 rfl (lv_at hl 2 rfl) ?_
  obtain ⟨hPc, hDc, hFc⟩ := z_cut (wc := [(m0_hours, .inl (cA_m0_hours, 5, .inl f_m0_hours))]) hP hD hS hA [1] rfl (by decide +kernel)
  have hKc := hK.sub (tys' := [(cA_m0_hours, .int)]) [1] rfl
  refine va_callv (va_runS (As := [.ref m0_hours, .int 1, .int p1, .int p2]) (rest := []) ⟨hx, hb, hml, hown, hts⟩ (k_X10_copyRow_v1 l sa dC dI m0_hours p1 p2 cA_m0_hours f_m0_hours b_p1 b_p2 b_f_m0_hours H.size) (va_cwS 4 hts (z_gS zw_t7_154 zw_t7_155 zw_t1_11 zw_t7_156) rfl rfl rfl (by decide +kernel) (by rw [← hRe]; exact ⟨(Nat.le_of_ble_eq_true rfl), (Nat.le_of_ble_eq_true rfl)⟩)) (z_preS hPc hKc hDc hN hXs hS hFc) rfl rfl hl.1 rfl (lv_room (Nat.le_of_ble_eq_true rfl)) dX10_copyTown_17 (by rw [← hRe]; exact ⟨(Nat.le_of_ble_eq_true rfl), (Nat.le_of_ble_eq_true rfl)⟩)) hS (fun q _ h => hFc q h) hFc (fun u t H1 locs ht hvm hw hB hz1 hk1 hS => ?_)
  obtain ⟨n_a_5, b_n_a_5, hf_6, hB⟩ := hB
  obtain ⟨hP, hD, hK⟩ := z_after3 (wn := [(m0, .inr (10, [.int m0_thrown, .ref m0_width, .ref m0_many, .ref m0_cells, .ref m0_moved, .ref m0_tape, .int m0_taped, .int m0_at, .int m0_token, .int m0_place, .int m0_value, .long m0_word, .int m0_bad, .int m0_badPlace, .int m0_fault, .int m0_faultPlace, .ref m0_lines, .ref m0_hours, .ref m0_courts, .ref m0_in, .ref m0_gates, .ref m0_gate, .ref m0_people, .ref m0_at0, .ref m0_stray, .ref m0_set, .ref m0_once, .ref m0_truth, .ref m0_known, .ref m0_isKept, .int m0_strays, .int m0_hostPerson, .int m0_hostCourt, .int m0_outside, .ref m0_inside, .ref m0_can, .ref m0_fewest, .ref m0_waysTo, .ref m0_then, .ref m0_two, .ref m0_nextTwo, .ref m0_three, .ref m0_nextThree, .int m0_shut, .ref m0_worth, .ref m0_digit, .int m0_codes, .long m0_most, .int m0_bestTry, .int m0_dayCourt, .int m0_dayHour, .int m0_dayNo, .long m0_x])), (m0_courts, .inl (cA_m0_courts, 5, .inl f_m0_courts)), (m0_in, .inl (cA_m0_in, 50, .inl f_m0_in)), (m0_gates, .inl (cA_m0_gates, 5, .inl f_m0_gates)), (m0_gate, .inl (cA_m0_gate, 160, .inl f_m0_gate)), (m0_people, .inl (cA_m0_people, 5, .inl f_m0_people)), (m0_at0, .inl (cA_m0_at0, 2400, .inl f_m0_at0)), (m0_stray, .inl (cA_m0_stray, 100, .inl f_m0_stray)), (m0_set, .inl (cA_m0_set, 10, .inl f_m0_set)), (m0_truth, .inl (cA_m0_truth, 10, .inl f_m0_truth)), (m0_known, .inl (cA_m0_known, 50, .inl f_m0_known)), (m0_lines, .inl (cA_m0_lines, 5, .inl n_a_2)), (m0_hours, .inl (cA_m0_hours, 5, .inl n_a_5))]) hB ht hvm hP hD hK [1] [0, 2, 3, 4, 5, 6, 7, 8, 9, 10, 11, 12] rfl 13 rfl (by decide +kernel) rfl (by decide +kernel) hk1 hFc
  generalize H1 = H at hP hS ⊢
  have hK : va_K (dC, dI) vwCl [(cA_m0_lines, .int), (cA_m0_hours, .int), (cA_m0_courts, .int), (cA_m0_in, .int), (cA_m0_gates, .int), (cA_m0_gate, .int), (cA_m0_people, .int), (cA_m0_at0, .int), (cA_m0_stray, .int), (cA_m0_set, .int), (cA_m0_truth, .int), (cA_m0_known, .int)] s := hK
  refine lv_aload_n hx hb dX10_copyTown_20 rfl (lv_at hl 0 rfl) ?_
  refine va_get (D := (dC, dI)) (ci := 10) (v := .ref m0_courts) (C := RX10) (T := TX10) (N := 53) hx hb hts zl_X10 hown hK hP 0 rfl rfl 18 (by decide) (hts _ zw_t6_118) (fun _ h9 => h9) rfl dX10_copyTown_21 ?_
  refine lv_iconst (v := 1) hx hb dX10_copyTown_24 (by decide) ?_
  refine lv_iload_n hx hb dX10_copyTown_25 rfl (lv_at hl 1 rfl) ?_
  refine lv_iload_n hx hb dX10_copyTown_26 rfl (lv_at hl 2 rfl) ?_
  obtain ⟨hPc, hDc, hFc⟩ := z_cut (wc := [(m0_courts, .inl (cA_m0_courts, 5, .inl f_m0_courts))]) hP hD hS hA [1] rfl (by decide +kernel)
  have hKc := hK.sub (tys' := [(cA_m0_courts, .int)]) [2] rfl
  refine va_callv (va_runS (As := [.ref m0_courts, .int 1, .int p1, .int p2]) (rest := []) ⟨hx, hb, hml, hown, hts⟩ (k_X10_copyRow_v2 l sa dC dI m0_courts p1 p2 cA_m0_courts f_m0_courts b_p1 b_p2 b_f_m0_courts H.size) (va_cwS 4 hts (z_gS zw_t7_154 zw_t7_155 zw_t1_11 zw_t7_156) rfl rfl rfl (by decide +kernel) (by rw [← hRe]; exact ⟨(Nat.le_of_ble_eq_true rfl), (Nat.le_of_ble_eq_true rfl)⟩)) (z_preS hPc hKc hDc hN hXs hS hFc) rfl rfl hl.1 rfl (lv_room (Nat.le_of_ble_eq_true rfl)) dX10_copyTown_27 (by rw [← hRe]; exact ⟨(Nat.le_of_ble_eq_true rfl), (Nat.le_of_ble_eq_true rfl)⟩)) hS (fun q _ h => hFc q h) hFc (fun u t H1 locs ht hvm hw hB hz1 hk1 hS => ?_)
  obtain ⟨n_a_8, b_n_a_8, hf_9, hB⟩ := hB
  obtain ⟨hP, hD, hK⟩ := z_after3 (wn := [(m0, .inr (10, [.int m0_thrown, .ref m0_width, .ref m0_many, .ref m0_cells, .ref m0_moved, .ref m0_tape, .int m0_taped, .int m0_at, .int m0_token, .int m0_place, .int m0_value, .long m0_word, .int m0_bad, .int m0_badPlace, .int m0_fault, .int m0_faultPlace, .ref m0_lines, .ref m0_hours, .ref m0_courts, .ref m0_in, .ref m0_gates, .ref m0_gate, .ref m0_people, .ref m0_at0, .ref m0_stray, .ref m0_set, .ref m0_once, .ref m0_truth, .ref m0_known, .ref m0_isKept, .int m0_strays, .int m0_hostPerson, .int m0_hostCourt, .int m0_outside, .ref m0_inside, .ref m0_can, .ref m0_fewest, .ref m0_waysTo, .ref m0_then, .ref m0_two, .ref m0_nextTwo, .ref m0_three, .ref m0_nextThree, .int m0_shut, .ref m0_worth, .ref m0_digit, .int m0_codes, .long m0_most, .int m0_bestTry, .int m0_dayCourt, .int m0_dayHour, .int m0_dayNo, .long m0_x])), (m0_in, .inl (cA_m0_in, 50, .inl f_m0_in)), (m0_gates, .inl (cA_m0_gates, 5, .inl f_m0_gates)), (m0_gate, .inl (cA_m0_gate, 160, .inl f_m0_gate)), (m0_people, .inl (cA_m0_people, 5, .inl f_m0_people)), (m0_at0, .inl (cA_m0_at0, 2400, .inl f_m0_at0)), (m0_stray, .inl (cA_m0_stray, 100, .inl f_m0_stray)), (m0_set, .inl (cA_m0_set, 10, .inl f_m0_set)), (m0_truth, .inl (cA_m0_truth, 10, .inl f_m0_truth)), (m0_known, .inl (cA_m0_known, 50, .inl f_m0_known)), (m0_lines, .inl (cA_m0_lines, 5, .inl n_a_2)), (m0_hours, .inl (cA_m0_hours, 5, .inl n_a_5)), (m0_courts, .inl (cA_m0_courts, 5, .inl n_a_8))]) hB ht hvm hP hD hK [1] [0, 2, 3, 4, 5, 6, 7, 8, 9, 10, 11, 12] rfl 13 rfl (by decide +kernel) rfl (by decide +kernel) hk1 hFc
  generalize H1 = H at hP hS ⊢
  have hK : va_K (dC, dI) vwCl [(cA_m0_lines, .int), (cA_m0_hours, .int), (cA_m0_courts, .int), (cA_m0_in, .int), (cA_m0_gates, .int), (cA_m0_gate, .int), (cA_m0_people, .int), (cA_m0_at0, .int), (cA_m0_stray, .int), (cA_m0_set, .int), (cA_m0_truth, .int), (cA_m0_known, .int)] s := hK
  refine lv_aload_n hx hb dX10_copyTown_30 rfl (lv_at hl 0 rfl) ?_
  refine va_get (D := (dC, dI)) (ci := 10) (v := .ref m0_in) (C := RX10) (T := TX10) (N := 53) hx hb hts zl_X10 hown hK hP 0 rfl rfl 19 (by decide) (hts _ zw_t6_119) (fun _ h9 => h9) rfl dX10_copyTown_31 ?_
  refine lv_bipush (v := 10) hx hb dX10_copyTown_34 (by decide) ?_
  refine lv_iload_n hx hb dX10_copyTown_36 rfl (lv_at hl 1 rfl) ?_
  refine lv_iload_n hx hb dX10_copyTown_37 rfl (lv_at hl 2 rfl) ?_
  obtain ⟨hPc, hDc, hFc⟩ := z_cut (wc := [(m0_in, .inl (cA_m0_in, 50, .inl f_m0_in))]) hP hD hS hA [1] rfl (by decide +kernel)
  have hKc := hK.sub (tys' := [(cA_m0_in, .int)]) [3] rfl
  refine va_callv (va_runS (As := [.ref m0_in, .int 10, .int p1, .int p2]) (rest := []) ⟨hx, hb, hml, hown, hts⟩ (k_X10_copyRow_v3 l sa dC dI m0_in p1 p2 cA_m0_in f_m0_in b_p1 b_p2 b_f_m0_in H.size) (va_cwS 4 hts (z_gS zw_t7_154 zw_t7_155 zw_t1_11 zw_t7_156) rfl rfl rfl (by decide +kernel) (by rw [← hRe]; exact ⟨(Nat.le_of_ble_eq_true rfl), (Nat.le_of_ble_eq_true rfl)⟩)) (z_preS hPc hKc hDc hN hXs hS hFc) rfl rfl hl.1 rfl (lv_room (Nat.le_of_ble_eq_true rfl)) dX10_copyTown_38 (by rw [← hRe]; exact ⟨(Nat.le_of_ble_eq_true rfl), (Nat.le_of_ble_eq_true rfl)⟩)) hS (fun q _ h => hFc q h) hFc (fun u t H1 locs ht hvm hw hB hz1 hk1 hS => ?_)
  obtain ⟨n_a_11, b_n_a_11, hf_12, hB⟩ := hB
  obtain ⟨hP, hD, hK⟩ := z_after3 (wn := [(m0, .inr (10, [.int m0_thrown, .ref m0_width, .ref m0_many, .ref m0_cells, .ref m0_moved, .ref m0_tape, .int m0_taped, .int m0_at, .int m0_token, .int m0_place, .int m0_value, .long m0_word, .int m0_bad, .int m0_badPlace, .int m0_fault, .int m0_faultPlace, .ref m0_lines, .ref m0_hours, .ref m0_courts, .ref m0_in, .ref m0_gates, .ref m0_gate, .ref m0_people, .ref m0_at0, .ref m0_stray, .ref m0_set, .ref m0_once, .ref m0_truth, .ref m0_known, .ref m0_isKept, .int m0_strays, .int m0_hostPerson, .int m0_hostCourt, .int m0_outside, .ref m0_inside, .ref m0_can, .ref m0_fewest, .ref m0_waysTo, .ref m0_then, .ref m0_two, .ref m0_nextTwo, .ref m0_three, .ref m0_nextThree, .int m0_shut, .ref m0_worth, .ref m0_digit, .int m0_codes, .long m0_most, .int m0_bestTry, .int m0_dayCourt, .int m0_dayHour, .int m0_dayNo, .long m0_x])), (m0_gates, .inl (cA_m0_gates, 5, .inl f_m0_gates)), (m0_gate, .inl (cA_m0_gate, 160, .inl f_m0_gate)), (m0_people, .inl (cA_m0_people, 5, .inl f_m0_people)), (m0_at0, .inl (cA_m0_at0, 2400, .inl f_m0_at0)), (m0_stray, .inl (cA_m0_stray, 100, .inl f_m0_stray)), (m0_set, .inl (cA_m0_set, 10, .inl f_m0_set)), (m0_truth, .inl (cA_m0_truth, 10, .inl f_m0_truth)), (m0_known, .inl (cA_m0_known, 50, .inl f_m0_known)), (m0_lines, .inl (cA_m0_lines, 5, .inl n_a_2)), (m0_hours, .inl (cA_m0_hours, 5, .inl n_a_5)), (m0_courts, .inl (cA_m0_courts, 5, .inl n_a_8)), (m0_in, .inl (cA_m0_in, 50, .inl n_a_11))]) hB ht hvm hP hD hK [1] [0, 2, 3, 4, 5, 6, 7, 8, 9, 10, 11, 12] rfl 13 rfl (by decide +kernel) rfl (by decide +kernel) hk1 hFc
  generalize H1 = H at hP hS ⊢
  have hK : va_K (dC, dI) vwCl [(cA_m0_lines, .int), (cA_m0_hours, .int), (cA_m0_courts, .int), (cA_m0_in, .int), (cA_m0_gates, .int), (cA_m0_gate, .int), (cA_m0_people, .int), (cA_m0_at0, .int), (cA_m0_stray, .int), (cA_m0_set, .int), (cA_m0_truth, .int), (cA_m0_known, .int)] s := hK
  refine lv_aload_n hx hb dX10_copyTown_41 rfl (lv_at hl 0 rfl) ?_
  refine va_get (D := (dC, dI)) (ci := 10) (v := .ref m0_gates) (C := RX10) (T := TX10) (N := 53) hx hb hts zl_X10 hown hK hP 0 rfl rfl 20 (by decide) (hts _ zw_t6_120) (fun _ h9 => h9) rfl dX10_copyTown_42 ?_
  refine lv_iconst (v := 1) hx hb dX10_copyTown_45 (by decide) ?_
  refine lv_iload_n hx hb dX10_copyTown_46 rfl (lv_at hl 1 rfl) ?_
  refine lv_iload_n hx hb dX10_copyTown_47 rfl (lv_at hl 2 rfl) ?_
  obtain ⟨hPc, hDc, hFc⟩ := z_cut (wc := [(m0_gates, .inl (cA_m0_gates, 5, .inl f_m0_gates))]) hP hD hS hA [1] rfl (by decide +kernel)
  have hKc := hK.sub (tys' := [(cA_m0_gates, .int)]) [4] rfl
  refine va_callv (va_runS (As := [.ref m0_gates, .int 1, .int p1, .int p2]) (rest := []) ⟨hx, hb, hml, hown, hts⟩ (k_X10_copyRow_v4 l sa dC dI m0_gates p1 p2 cA_m0_gates f_m0_gates b_p1 b_p2 b_f_m0_gates H.size) (va_cwS 4 hts (z_gS zw_t7_154 zw_t7_155 zw_t1_11 zw_t7_156) rfl rfl rfl (by decide +kernel) (by rw [← hRe]; exact ⟨(Nat.le_of_ble_eq_true rfl), (Nat.le_of_ble_eq_true rfl)⟩)) (z_preS hPc hKc hDc hN hXs hS hFc) rfl rfl hl.1 rfl (lv_room (Nat.le_of_ble_eq_true rfl)) dX10_copyTown_48 (by rw [← hRe]; exact ⟨(Nat.le_of_ble_eq_true rfl), (Nat.le_of_ble_eq_true rfl)⟩)) hS (fun q _ h => hFc q h) hFc (fun u t H1 locs ht hvm hw hB hz1 hk1 hS => ?_)
  obtain ⟨n_a_14, b_n_a_14, hf_15, hB⟩ := hB
  obtain ⟨hP, hD, hK⟩ := z_after3 (wn := [(m0, .inr (10, [.int m0_thrown, .ref m0_width, .ref m0_many, .ref m0_cells, .ref m0_moved, .ref m0_tape, .int m0_taped, .int m0_at, .int m0_token, .int m0_place, .int m0_value, .long m0_word, .int m0_bad, .int m0_badPlace, .int m0_fault, .int m0_faultPlace, .ref m0_lines, .ref m0_hours, .ref m0_courts, .ref m0_in, .ref m0_gates, .ref m0_gate, .ref m0_people, .ref m0_at0, .ref m0_stray, .ref m0_set, .ref m0_once, .ref m0_truth, .ref m0_known, .ref m0_isKept, .int m0_strays, .int m0_hostPerson, .int m0_hostCourt, .int m0_outside, .ref m0_inside, .ref m0_can, .ref m0_fewest, .ref m0_waysTo, .ref m0_then, .ref m0_two, .ref m0_nextTwo, .ref m0_three, .ref m0_nextThree, .int m0_shut, .ref m0_worth, .ref m0_digit, .int m0_codes, .long m0_most, .int m0_bestTry, .int m0_dayCourt, .int m0_dayHour, .int m0_dayNo, .long m0_x])), (m0_gate, .inl (cA_m0_gate, 160, .inl f_m0_gate)), (m0_people, .inl (cA_m0_people, 5, .inl f_m0_people)), (m0_at0, .inl (cA_m0_at0, 2400, .inl f_m0_at0)), (m0_stray, .inl (cA_m0_stray, 100, .inl f_m0_stray)), (m0_set, .inl (cA_m0_set, 10, .inl f_m0_set)), (m0_truth, .inl (cA_m0_truth, 10, .inl f_m0_truth)), (m0_known, .inl (cA_m0_known, 50, .inl f_m0_known)), (m0_lines, .inl (cA_m0_lines, 5, .inl n_a_2)), (m0_hours, .inl (cA_m0_hours, 5, .inl n_a_5)), (m0_courts, .inl (cA_m0_courts, 5, .inl n_a_8)), (m0_in, .inl (cA_m0_in, 50, .inl n_a_11)), (m0_gates, .inl (cA_m0_gates, 5, .inl n_a_14))]) hB ht hvm hP hD hK [1] [0, 2, 3, 4, 5, 6, 7, 8, 9, 10, 11, 12] rfl 13 rfl (by decide +kernel) rfl (by decide +kernel) hk1 hFc
  generalize H1 = H at hP hS ⊢
  have hK : va_K (dC, dI) vwCl [(cA_m0_lines, .int), (cA_m0_hours, .int), (cA_m0_courts, .int), (cA_m0_in, .int), (cA_m0_gates, .int), (cA_m0_gate, .int), (cA_m0_people, .int), (cA_m0_at0, .int), (cA_m0_stray, .int), (cA_m0_set, .int), (cA_m0_truth, .int), (cA_m0_known, .int)] s := hK
  refine lv_aload_n hx hb dX10_copyTown_51 rfl (lv_at hl 0 rfl) ?_
  refine va_get (D := (dC, dI)) (ci := 10) (v := .ref m0_gate) (C := RX10) (T := TX10) (N := 53) hx hb hts zl_X10 hown hK hP 0 rfl rfl 21 (by decide) (hts _ zw_t6_121) (fun _ h9 => h9) rfl dX10_copyTown_52 ?_
  refine lv_bipush (v := 32) hx hb dX10_copyTown_55 (by decide) ?_
  refine lv_iload_n hx hb dX10_copyTown_57 rfl (lv_at hl 1 rfl) ?_
  refine lv_iload_n hx hb dX10_copyTown_58 rfl (lv_at hl 2 rfl) ?_
  obtain ⟨hPc, hDc, hFc⟩ := z_cut (wc := [(m0_gate, .inl (cA_m0_gate, 160, .inl f_m0_gate))]) hP hD hS hA [1] rfl (by decide +kernel)
  have hKc := hK.sub (tys' := [(cA_m0_gate, .int)]) [5] rfl
  refine va_callv (va_runS (As := [.ref m0_gate, .int 32, .int p1, .int p2]) (rest := []) ⟨hx, hb, hml, hown, hts⟩ (k_X10_copyRow_v5 l sa dC dI m0_gate p1 p2 cA_m0_gate f_m0_gate b_p1 b_p2 b_f_m0_gate H.size) (va_cwS 4 hts (z_gS zw_t7_154 zw_t7_155 zw_t1_11 zw_t7_156) rfl rfl rfl (by decide +kernel) (by rw [← hRe]; exact ⟨(Nat.le_of_ble_eq_true rfl), (Nat.le_of_ble_eq_true rfl)⟩)) (z_preS hPc hKc hDc hN hXs hS hFc) rfl rfl hl.1 rfl (lv_room (Nat.le_of_ble_eq_true rfl)) dX10_copyTown_59 (by rw [← hRe]; exact ⟨(Nat.le_of_ble_eq_true rfl), (Nat.le_of_ble_eq_true rfl)⟩)) hS (fun q _ h => hFc q h) hFc (fun u t H1 locs ht hvm hw hB hz1 hk1 hS => ?_)
  obtain ⟨n_a_17, b_n_a_17, hf_18, hB⟩ := hB
  obtain ⟨hP, hD, hK⟩ := z_after3 (wn := [(m0, .inr (10, [.int m0_thrown, .ref m0_width, .ref m0_many, .ref m0_cells, .ref m0_moved, .ref m0_tape, .int m0_taped, .int m0_at, .int m0_token, .int m0_place, .int m0_value, .long m0_word, .int m0_bad, .int m0_badPlace, .int m0_fault, .int m0_faultPlace, .ref m0_lines, .ref m0_hours, .ref m0_courts, .ref m0_in, .ref m0_gates, .ref m0_gate, .ref m0_people, .ref m0_at0, .ref m0_stray, .ref m0_set, .ref m0_once, .ref m0_truth, .ref m0_known, .ref m0_isKept, .int m0_strays, .int m0_hostPerson, .int m0_hostCourt, .int m0_outside, .ref m0_inside, .ref m0_can, .ref m0_fewest, .ref m0_waysTo, .ref m0_then, .ref m0_two, .ref m0_nextTwo, .ref m0_three, .ref m0_nextThree, .int m0_shut, .ref m0_worth, .ref m0_digit, .int m0_codes, .long m0_most, .int m0_bestTry, .int m0_dayCourt, .int m0_dayHour, .int m0_dayNo, .long m0_x])), (m0_people, .inl (cA_m0_people, 5, .inl f_m0_people)), (m0_at0, .inl (cA_m0_at0, 2400, .inl f_m0_at0)), (m0_stray, .inl (cA_m0_stray, 100, .inl f_m0_stray)), (m0_set, .inl (cA_m0_set, 10, .inl f_m0_set)), (m0_truth, .inl (cA_m0_truth, 10, .inl f_m0_truth)), (m0_known, .inl (cA_m0_known, 50, .inl f_m0_known)), (m0_lines, .inl (cA_m0_lines, 5, .inl n_a_2)), (m0_hours, .inl (cA_m0_hours, 5, .inl n_a_5)), (m0_courts, .inl (cA_m0_courts, 5, .inl n_a_8)), (m0_in, .inl (cA_m0_in, 50, .inl n_a_11)), (m0_gates, .inl (cA_m0_gates, 5, .inl n_a_14)), (m0_gate, .inl (cA_m0_gate, 160, .inl n_a_17))]) hB ht hvm hP hD hK [1] [0, 2, 3, 4, 5, 6, 7, 8, 9, 10, 11, 12] rfl 13 rfl (by decide +kernel) rfl (by decide +kernel) hk1 hFc
  generalize H1 = H at hP hS ⊢
  have hK : va_K (dC, dI) vwCl [(cA_m0_lines, .int), (cA_m0_hours, .int), (cA_m0_courts, .int), (cA_m0_in, .int), (cA_m0_gates, .int), (cA_m0_gate, .int), (cA_m0_people, .int), (cA_m0_at0, .int), (cA_m0_stray, .int), (cA_m0_set, .int), (cA_m0_truth, .int), (cA_m0_known, .int)] s := hK
  refine lv_aload_n hx hb dX10_copyTown_62 rfl (lv_at hl 0 rfl) ?_
  refine va_get (D := (dC, dI)) (ci := 10) (v := .ref m0_people) (C := RX10) (T := TX10) (N := 53) hx hb hts zl_X10 hown hK hP 0 rfl rfl 22 (by decide) (hts _ zw_t6_122) (fun _ h9 => h9) rfl dX10_copyTown_63 ?_
  refine lv_iconst (v := 1) hx hb dX10_copyTown_66 (by decide) ?_
  refine lv_iload_n hx hb dX10_copyTown_67 rfl (lv_at hl 1 rfl) ?_
  refine lv_iload_n hx hb dX10_copyTown_68 rfl (lv_at hl 2 rfl) ?_
  obtain ⟨hPc, hDc, hFc⟩ := z_cut (wc := [(m0_people, .inl (cA_m0_people, 5, .inl f_m0_people))]) hP hD hS hA [1] rfl (by decide +kernel)
  have hKc := hK.sub (tys' := [(cA_m0_people, .int)]) [6] rfl
  refine va_callv (va_runS (As := [.ref m0_people, .int 1, .int p1, .int p2]) (rest := []) ⟨hx, hb, hml, hown, hts⟩ (k_X10_copyRow_v2 l sa dC dI m0_people p1 p2 cA_m0_people f_m0_people b_p1 b_p2 b_f_m0_people H.size) (va_cwS 4 hts (z_gS zw_t7_154 zw_t7_155 zw_t1_11 zw_t7_156) rfl rfl rfl (by decide +kernel) (by rw [← hRe]; exact ⟨(Nat.le_of_ble_eq_true rfl), (Nat.le_of_ble_eq_true rfl)⟩)) (z_preS hPc hKc hDc hN hXs hS hFc) rfl rfl hl.1 rfl (lv_room (Nat.le_of_ble_eq_true rfl)) dX10_copyTown_69 (by rw [← hRe]; exact ⟨(Nat.le_of_ble_eq_true rfl), (Nat.le_of_ble_eq_true rfl)⟩)) hS (fun q _ h => hFc q h) hFc (fun u t H1 locs ht hvm hw hB hz1 hk1 hS => ?_)
  obtain ⟨n_a_20, b_n_a_20, hf_21, hB⟩ := hB
  obtain ⟨hP, hD, hK⟩ := z_after3 (wn := [(m0, .inr (10, [.int m0_thrown, .ref m0_width, .ref m0_many, .ref m0_cells, .ref m0_moved, .ref m0_tape, .int m0_taped, .int m0_at, .int m0_token, .int m0_place, .int m0_value, .long m0_word, .int m0_bad, .int m0_badPlace, .int m0_fault, .int m0_faultPlace, .ref m0_lines, .ref m0_hours, .ref m0_courts, .ref m0_in, .ref m0_gates, .ref m0_gate, .ref m0_people, .ref m0_at0, .ref m0_stray, .ref m0_set, .ref m0_once, .ref m0_truth, .ref m0_known, .ref m0_isKept, .int m0_strays, .int m0_hostPerson, .int m0_hostCourt, .int m0_outside, .ref m0_inside, .ref m0_can, .ref m0_fewest, .ref m0_waysTo, .ref m0_then, .ref m0_two, .ref m0_nextTwo, .ref m0_three, .ref m0_nextThree, .int m0_shut, .ref m0_worth, .ref m0_digit, .int m0_codes, .long m0_most, .int m0_bestTry, .int m0_dayCourt, .int m0_dayHour, .int m0_dayNo, .long m0_x])), (m0_at0, .inl (cA_m0_at0, 2400, .inl f_m0_at0)), (m0_stray, .inl (cA_m0_stray, 100, .inl f_m0_stray)), (m0_set, .inl (cA_m0_set, 10, .inl f_m0_set)), (m0_truth, .inl (cA_m0_truth, 10, .inl f_m0_truth)), (m0_known, .inl (cA_m0_known, 50, .inl f_m0_known)), (m0_lines, .inl (cA_m0_lines, 5, .inl n_a_2)), (m0_hours, .inl (cA_m0_hours, 5, .inl n_a_5)), (m0_courts, .inl (cA_m0_courts, 5, .inl n_a_8)), (m0_in, .inl (cA_m0_in, 50, .inl n_a_11)), (m0_gates, .inl (cA_m0_gates, 5, .inl n_a_14)), (m0_gate, .inl (cA_m0_gate, 160, .inl n_a_17)), (m0_people, .inl (cA_m0_people, 5, .inl n_a_20))]) hB ht hvm hP hD hK [1] [0, 2, 3, 4, 5, 6, 7, 8, 9, 10, 11, 12] rfl 13 rfl (by decide +kernel) rfl (by decide +kernel) hk1 hFc
  generalize H1 = H at hP hS ⊢
  have hK : va_K (dC, dI) vwCl [(cA_m0_lines, .int), (cA_m0_hours, .int), (cA_m0_courts, .int), (cA_m0_in, .int), (cA_m0_gates, .int), (cA_m0_gate, .int), (cA_m0_people, .int), (cA_m0_at0, .int), (cA_m0_stray, .int), (cA_m0_set, .int), (cA_m0_truth, .int), (cA_m0_known, .int)] s := hK
  refine lv_aload_n hx hb dX10_copyTown_72 rfl (lv_at hl 0 rfl) ?_
  refine va_get (D := (dC, dI)) (ci := 10) (v := .ref m0_at0) (C := RX10) (T := TX10) (N := 53) hx hb hts zl_X10 hown hK hP 0 rfl rfl 23 (by decide) (hts _ zw_t6_123) (fun _ h9 => h9) rfl dX10_copyTown_73 ?_
  refine lv_sipush (v := 480) hx hb dX10_copyTown_76 (by decide) ?_
  refine lv_iload_n hx hb dX10_copyTown_79 rfl (lv_at hl 1 rfl) ?_
  refine lv_iload_n hx hb dX10_copyTown_80 rfl (lv_at hl 2 rfl) ?_
  obtain ⟨hPc, hDc, hFc⟩ := z_cut (wc := [(m0_at0, .inl (cA_m0_at0, 2400, .inl f_m0_at0))]) hP hD hS hA [1] rfl (by decide +kernel)
  have hKc := hK.sub (tys' := [(cA_m0_at0, .int)]) [7] rfl
  refine va_callv (va_runS (As := [.ref m0_at0, .int 480, .int p1, .int p2]) (rest := []) ⟨hx, hb, hml, hown, hts⟩ (k_X10_copyRow_v6 l sa dC dI m0_at0 p1 p2 cA_m0_at0 f_m0_at0 b_p1 b_p2 b_f_m0_at0 H.size) (va_cwS 4 hts (z_gS zw_t7_154 zw_t7_155 zw_t1_11 zw_t7_156) rfl rfl rfl (by decide +kernel) (by rw [← hRe]; exact ⟨(Nat.le_of_ble_eq_true rfl), (Nat.le_of_ble_eq_true rfl)⟩)) (z_preS hPc hKc hDc hN hXs hS hFc) rfl rfl hl.1 rfl (lv_room (Nat.le_of_ble_eq_true rfl)) dX10_copyTown_81 (by rw [← hRe]; exact ⟨(Nat.le_of_ble_eq_true rfl), (Nat.le_of_ble_eq_true rfl)⟩)) hS (fun q _ h => hFc q h) hFc (fun u t H1 locs ht hvm hw hB hz1 hk1 hS => ?_)
  obtain ⟨n_a_23, b_n_a_23, hf_24, hB⟩ := hB
  obtain ⟨hP, hD, hK⟩ := z_after3 (wn := [(m0, .inr (10, [.int m0_thrown, .ref m0_width, .ref m0_many, .ref m0_cells, .ref m0_moved, .ref m0_tape, .int m0_taped, .int m0_at, .int m0_token, .int m0_place, .int m0_value, .long m0_word, .int m0_bad, .int m0_badPlace, .int m0_fault, .int m0_faultPlace, .ref m0_lines, .ref m0_hours, .ref m0_courts, .ref m0_in, .ref m0_gates, .ref m0_gate, .ref m0_people, .ref m0_at0, .ref m0_stray, .ref m0_set, .ref m0_once, .ref m0_truth, .ref m0_known, .ref m0_isKept, .int m0_strays, .int m0_hostPerson, .int m0_hostCourt, .int m0_outside, .ref m0_inside, .ref m0_can, .ref m0_fewest, .ref m0_waysTo, .ref m0_then, .ref m0_two, .ref m0_nextTwo, .ref m0_three, .ref m0_nextThree, .int m0_shut, .ref m0_worth, .ref m0_digit, .int m0_codes, .long m0_most, .int m0_bestTry, .int m0_dayCourt, .int m0_dayHour, .int m0_dayNo, .long m0_x])), (m0_stray, .inl (cA_m0_stray, 100, .inl f_m0_stray)), (m0_set, .inl (cA_m0_set, 10, .inl f_m0_set)), (m0_truth, .inl (cA_m0_truth, 10, .inl f_m0_truth)), (m0_known, .inl (cA_m0_known, 50, .inl f_m0_known)), (m0_lines, .inl (cA_m0_lines, 5, .inl n_a_2)), (m0_hours, .inl (cA_m0_hours, 5, .inl n_a_5)), (m0_courts, .inl (cA_m0_courts, 5, .inl n_a_8)), (m0_in, .inl (cA_m0_in, 50, .inl n_a_11)), (m0_gates, .inl (cA_m0_gates, 5, .inl n_a_14)), (m0_gate, .inl (cA_m0_gate, 160, .inl n_a_17)), (m0_people, .inl (cA_m0_people, 5, .inl n_a_20)), (m0_at0, .inl (cA_m0_at0, 2400, .inl n_a_23))]) hB ht hvm hP hD hK [1] [0, 2, 3, 4, 5, 6, 7, 8, 9, 10, 11, 12] rfl 13 rfl (by decide +kernel) rfl (by decide +kernel) hk1 hFc
  generalize H1 = H at hP hS ⊢
  have hK : va_K (dC, dI) vwCl [(cA_m0_lines, .int), (cA_m0_hours, .int), (cA_m0_courts, .int), (cA_m0_in, .int), (cA_m0_gates, .int), (cA_m0_gate, .int), (cA_m0_people, .int), (cA_m0_at0, .int), (cA_m0_stray, .int), (cA_m0_set, .int), (cA_m0_truth, .int), (cA_m0_known, .int)] s := hK
  refine lv_aload_n hx hb dX10_copyTown_84 rfl (lv_at hl 0 rfl) ?_
  refine va_get (D := (dC, dI)) (ci := 10) (v := .ref m0_stray) (C := RX10) (T := TX10) (N := 53) hx hb hts zl_X10 hown hK hP 0 rfl rfl 24 (by decide) (hts _ zw_t6_124) (fun _ h9 => h9) rfl dX10_copyTown_85 ?_
  refine lv_bipush (v := 20) hx hb dX10_copyTown_88 (by decide) ?_
  refine lv_iload_n hx hb dX10_copyTown_90 rfl (lv_at hl 1 rfl) ?_
  refine lv_iload_n hx hb dX10_copyTown_91 rfl (lv_at hl 2 rfl) ?_
  obtain ⟨hPc, hDc, hFc⟩ := z_cut (wc := [(m0_stray, .inl (cA_m0_stray, 100, .inl f_m0_stray))]) hP hD hS hA [1] rfl (by decide +kernel)
  have hKc := hK.sub (tys' := [(cA_m0_stray, .int)]) [8] rfl
  refine va_callv (va_runS (As := [.ref m0_stray, .int 20, .int p1, .int p2]) (rest := []) ⟨hx, hb, hml, hown, hts⟩ (k_X10_copyRow_v7 l sa dC dI m0_stray p1 p2 cA_m0_stray f_m0_stray b_p1 b_p2 b_f_m0_stray H.size) (va_cwS 4 hts (z_gS zw_t7_154 zw_t7_155 zw_t1_11 zw_t7_156) rfl rfl rfl (by decide +kernel) (by rw [← hRe]; exact ⟨(Nat.le_of_ble_eq_true rfl), (Nat.le_of_ble_eq_true rfl)⟩)) (z_preS hPc hKc hDc hN hXs hS hFc) rfl rfl hl.1 rfl (lv_room (Nat.le_of_ble_eq_true rfl)) dX10_copyTown_92 (by rw [← hRe]; exact ⟨(Nat.le_of_ble_eq_true rfl), (Nat.le_of_ble_eq_true rfl)⟩)) hS (fun q _ h => hFc q h) hFc (fun u t H1 locs ht hvm hw hB hz1 hk1 hS => ?_)
  obtain ⟨n_a_26, b_n_a_26, hf_27, hB⟩ := hB
  obtain ⟨hP, hD, hK⟩ := z_after3 (wn := [(m0, .inr (10, [.int m0_thrown, .ref m0_width, .ref m0_many, .ref m0_cells, .ref m0_moved, .ref m0_tape, .int m0_taped, .int m0_at, .int m0_token, .int m0_place, .int m0_value, .long m0_word, .int m0_bad, .int m0_badPlace, .int m0_fault, .int m0_faultPlace, .ref m0_lines, .ref m0_hours, .ref m0_courts, .ref m0_in, .ref m0_gates, .ref m0_gate, .ref m0_people, .ref m0_at0, .ref m0_stray, .ref m0_set, .ref m0_once, .ref m0_truth, .ref m0_known, .ref m0_isKept, .int m0_strays, .int m0_hostPerson, .int m0_hostCourt, .int m0_outside, .ref m0_inside, .ref m0_can, .ref m0_fewest, .ref m0_waysTo, .ref m0_then, .ref m0_two, .ref m0_nextTwo, .ref m0_three, .ref m0_nextThree, .int m0_shut, .ref m0_worth, .ref m0_digit, .int m0_codes, .long m0_most, .int m0_bestTry, .int m0_dayCourt, .int m0_dayHour, .int m0_dayNo, .long m0_x])), (m0_set, .inl (cA_m0_set, 10, .inl f_m0_set)), (m0_truth, .inl (cA_m0_truth, 10, .inl f_m0_truth)), (m0_known, .inl (cA_m0_known, 50, .inl f_m0_known)), (m0_lines, .inl (cA_m0_lines, 5, .inl n_a_2)), (m0_hours, .inl (cA_m0_hours, 5, .inl n_a_5)), (m0_courts, .inl (cA_m0_courts, 5, .inl n_a_8)), (m0_in, .inl (cA_m0_in, 50, .inl n_a_11)), (m0_gates, .inl (cA_m0_gates, 5, .inl n_a_14)), (m0_gate, .inl (cA_m0_gate, 160, .inl n_a_17)), (m0_people, .inl (cA_m0_people, 5, .inl n_a_20)), (m0_at0, .inl (cA_m0_at0, 2400, .inl n_a_23)), (m0_stray, .inl (cA_m0_stray, 100, .inl n_a_26))]) hB ht hvm hP hD hK [1] [0, 2, 3, 4, 5, 6, 7, 8, 9, 10, 11, 12] rfl 13 rfl (by decide +kernel) rfl (by decide +kernel) hk1 hFc
  generalize H1 = H at hP hS ⊢
  have hK : va_K (dC, dI) vwCl [(cA_m0_lines, .int), (cA_m0_hours, .int), (cA_m0_courts, .int), (cA_m0_in, .int), (cA_m0_gates, .int), (cA_m0_gate, .int), (cA_m0_people, .int), (cA_m0_at0, .int), (cA_m0_stray, .int), (cA_m0_set, .int), (cA_m0_truth, .int), (cA_m0_known, .int)] s := hK
  refine lv_aload_n hx hb dX10_copyTown_95 rfl (lv_at hl 0 rfl) ?_
  refine va_get (D := (dC, dI)) (ci := 10) (v := .ref m0_set) (C := RX10) (T := TX10) (N := 53) hx hb hts zl_X10 hown hK hP 0 rfl rfl 25 (by decide) (hts _ zw_t6_125) (fun _ h9 => h9) rfl dX10_copyTown_96 ?_
  refine lv_iconst (v := 2) hx hb dX10_copyTown_99 (by decide) ?_
  refine lv_iload_n hx hb dX10_copyTown_100 rfl (lv_at hl 1 rfl) ?_
  refine lv_iload_n hx hb dX10_copyTown_101 rfl (lv_at hl 2 rfl) ?_
  obtain ⟨hPc, hDc, hFc⟩ := z_cut (wc := [(m0_set, .inl (cA_m0_set, 10, .inl f_m0_set))]) hP hD hS hA [1] rfl (by decide +kernel)
  have hKc := hK.sub (tys' := [(cA_m0_set, .int)]) [9] rfl
  refine va_callv (va_runS (As := [.ref m0_set, .int 2, .int p1, .int p2]) (rest := []) ⟨hx, hb, hml, hown, hts⟩ (k_X10_copyRow_v8 l sa dC dI m0_set p1 p2 cA_m0_set f_m0_set b_p1 b_p2 b_f_m0_set H.size) (va_cwS 4 hts (z_gS zw_t7_154 zw_t7_155 zw_t1_11 zw_t7_156) rfl rfl rfl (by decide +kernel) (by rw [← hRe]; exact ⟨(Nat.le_of_ble_eq_true rfl), (Nat.le_of_ble_eq_true rfl)⟩)) (z_preS hPc hKc hDc hN hXs hS hFc) rfl rfl hl.1 rfl (lv_room (Nat.le_of_ble_eq_true rfl)) dX10_copyTown_102 (by rw [← hRe]; exact ⟨(Nat.le_of_ble_eq_true rfl), (Nat.le_of_ble_eq_true rfl)⟩)) hS (fun q _ h => hFc q h) hFc (fun u t H1 locs ht hvm hw hB hz1 hk1 hS => ?_)
  obtain ⟨n_a_29, b_n_a_29, hf_30, hB⟩ := hB
  obtain ⟨hP, hD, hK⟩ := z_after3 (wn := [(m0, .inr (10, [.int m0_thrown, .ref m0_width, .ref m0_many, .ref m0_cells, .ref m0_moved, .ref m0_tape, .int m0_taped, .int m0_at, .int m0_token, .int m0_place, .int m0_value, .long m0_word, .int m0_bad, .int m0_badPlace, .int m0_fault, .int m0_faultPlace, .ref m0_lines, .ref m0_hours, .ref m0_courts, .ref m0_in, .ref m0_gates, .ref m0_gate, .ref m0_people, .ref m0_at0, .ref m0_stray, .ref m0_set, .ref m0_once, .ref m0_truth, .ref m0_known, .ref m0_isKept, .int m0_strays, .int m0_hostPerson, .int m0_hostCourt, .int m0_outside, .ref m0_inside, .ref m0_can, .ref m0_fewest, .ref m0_waysTo, .ref m0_then, .ref m0_two, .ref m0_nextTwo, .ref m0_three, .ref m0_nextThree, .int m0_shut, .ref m0_worth, .ref m0_digit, .int m0_codes, .long m0_most, .int m0_bestTry, .int m0_dayCourt, .int m0_dayHour, .int m0_dayNo, .long m0_x])), (m0_truth, .inl (cA_m0_truth, 10, .inl f_m0_truth)), (m0_known, .inl (cA_m0_known, 50, .inl f_m0_known)), (m0_lines, .inl (cA_m0_lines, 5, .inl n_a_2)), (m0_hours, .inl (cA_m0_hours, 5, .inl n_a_5)), (m0_courts, .inl (cA_m0_courts, 5, .inl n_a_8)), (m0_in, .inl (cA_m0_in, 50, .inl n_a_11)), (m0_gates, .inl (cA_m0_gates, 5, .inl n_a_14)), (m0_gate, .inl (cA_m0_gate, 160, .inl n_a_17)), (m0_people, .inl (cA_m0_people, 5, .inl n_a_20)), (m0_at0, .inl (cA_m0_at0, 2400, .inl n_a_23)), (m0_stray, .inl (cA_m0_stray, 100, .inl n_a_26)), (m0_set, .inl (cA_m0_set, 10, .inl n_a_29))]) hB ht hvm hP hD hK [1] [0, 2, 3, 4, 5, 6, 7, 8, 9, 10, 11, 12] rfl 13 rfl (by decide +kernel) rfl (by decide +kernel) hk1 hFc
  generalize H1 = H at hP hS ⊢
  have hK : va_K (dC, dI) vwCl [(cA_m0_lines, .int), (cA_m0_hours, .int), (cA_m0_courts, .int), (cA_m0_in, .int), (cA_m0_gates, .int), (cA_m0_gate, .int), (cA_m0_people, .int), (cA_m0_at0, .int), (cA_m0_stray, .int), (cA_m0_set, .int), (cA_m0_truth, .int), (cA_m0_known, .int)] s := hK
  refine lv_aload_n hx hb dX10_copyTown_105 rfl (lv_at hl 0 rfl) ?_
  refine va_get (D := (dC, dI)) (ci := 10) (v := .ref m0_truth) (C := RX10) (T := TX10) (N := 53) hx hb hts zl_X10 hown hK hP 0 rfl rfl 27 (by decide) (hts _ zw_t6_127) (fun _ h9 => h9) rfl dX10_copyTown_106 ?_
  refine lv_iconst (v := 2) hx hb dX10_copyTown_109 (by decide) ?_
  refine lv_iload_n hx hb dX10_copyTown_110 rfl (lv_at hl 1 rfl) ?_
  refine lv_iload_n hx hb dX10_copyTown_111 rfl (lv_at hl 2 rfl) ?_
  obtain ⟨hPc, hDc, hFc⟩ := z_cut (wc := [(m0_truth, .inl (cA_m0_truth, 10, .inl f_m0_truth))]) hP hD hS hA [1] rfl (by decide +kernel)
  have hKc := hK.sub (tys' := [(cA_m0_truth, .int)]) [10] rfl
  refine va_callv (va_runS (As := [.ref m0_truth, .int 2, .int p1, .int p2]) (rest := []) ⟨hx, hb, hml, hown, hts⟩ (k_X10_copyRow_v9 l sa dC dI m0_truth p1 p2 cA_m0_truth f_m0_truth b_p1 b_p2 H.size) (va_cwS 4 hts (z_gS zw_t7_154 zw_t7_155 zw_t1_11 zw_t7_156) rfl rfl rfl (by decide +kernel) (by rw [← hRe]; exact ⟨(Nat.le_of_ble_eq_true rfl), (Nat.le_of_ble_eq_true rfl)⟩)) (z_preS hPc hKc hDc hN hXs hS hFc) rfl rfl hl.1 rfl (lv_room (Nat.le_of_ble_eq_true rfl)) dX10_copyTown_112 (by rw [← hRe]; exact ⟨(Nat.le_of_ble_eq_true rfl), (Nat.le_of_ble_eq_true rfl)⟩)) hS (fun q _ h => hFc q h) hFc (fun u t H1 locs ht hvm hw hB hz1 hk1 hS => ?_)
  obtain ⟨n_a_32, hf_33, hB⟩ := hB
  obtain ⟨hP, hD, hK⟩ := z_after3 (wn := [(m0, .inr (10, [.int m0_thrown, .ref m0_width, .ref m0_many, .ref m0_cells, .ref m0_moved, .ref m0_tape, .int m0_taped, .int m0_at, .int m0_token, .int m0_place, .int m0_value, .long m0_word, .int m0_bad, .int m0_badPlace, .int m0_fault, .int m0_faultPlace, .ref m0_lines, .ref m0_hours, .ref m0_courts, .ref m0_in, .ref m0_gates, .ref m0_gate, .ref m0_people, .ref m0_at0, .ref m0_stray, .ref m0_set, .ref m0_once, .ref m0_truth, .ref m0_known, .ref m0_isKept, .int m0_strays, .int m0_hostPerson, .int m0_hostCourt, .int m0_outside, .ref m0_inside, .ref m0_can, .ref m0_fewest, .ref m0_waysTo, .ref m0_then, .ref m0_two, .ref m0_nextTwo, .ref m0_three, .ref m0_nextThree, .int m0_shut, .ref m0_worth, .ref m0_digit, .int m0_codes, .long m0_most, .int m0_bestTry, .int m0_dayCourt, .int m0_dayHour, .int m0_dayNo, .long m0_x])), (m0_known, .inl (cA_m0_known, 50, .inl f_m0_known)), (m0_lines, .inl (cA_m0_lines, 5, .inl n_a_2)), (m0_hours, .inl (cA_m0_hours, 5, .inl n_a_5)), (m0_courts, .inl (cA_m0_courts, 5, .inl n_a_8)), (m0_in, .inl (cA_m0_in, 50, .inl n_a_11)), (m0_gates, .inl (cA_m0_gates, 5, .inl n_a_14)), (m0_gate, .inl (cA_m0_gate, 160, .inl n_a_17)), (m0_people, .inl (cA_m0_people, 5, .inl n_a_20)), (m0_at0, .inl (cA_m0_at0, 2400, .inl n_a_23)), (m0_stray, .inl (cA_m0_stray, 100, .inl n_a_26)), (m0_set, .inl (cA_m0_set, 10, .inl n_a_29)), (m0_truth, .inl (cA_m0_truth, 10, .inl n_a_32))]) hB ht hvm hP hD hK [1] [0, 2, 3, 4, 5, 6, 7, 8, 9, 10, 11, 12] rfl 13 rfl (by decide +kernel) rfl (by decide +kernel) hk1 hFc
  generalize H1 = H at hP hS ⊢
  have hK : va_K (dC, dI) vwCl [(cA_m0_lines, .int), (cA_m0_hours, .int), (cA_m0_courts, .int), (cA_m0_in, .int), (cA_m0_gates, .int), (cA_m0_gate, .int), (cA_m0_people, .int), (cA_m0_at0, .int), (cA_m0_stray, .int), (cA_m0_set, .int), (cA_m0_truth, .int), (cA_m0_known, .int)] s := hK
  refine lv_aload_n hx hb dX10_copyTown_115 rfl (lv_at hl 0 rfl) ?_
  refine va_get (D := (dC, dI)) (ci := 10) (v := .ref m0_known) (C := RX10) (T := TX10) (N := 53) hx hb hts zl_X10 hown hK hP 0 rfl rfl 28 (by decide) (hts _ zw_t6_128) (fun _ h9 => h9) rfl dX10_copyTown_116 ?_
  refine lv_bipush (v := 10) hx hb dX10_copyTown_119 (by decide) ?_
  refine lv_iload_n hx hb dX10_copyTown_121 rfl (lv_at hl 1 rfl) ?_
  refine lv_iload_n hx hb dX10_copyTown_122 rfl (lv_at hl 2 rfl) ?_
  obtain ⟨hPc, hDc, hFc⟩ := z_cut (wc := [(m0_known, .inl (cA_m0_known, 50, .inl f_m0_known))]) hP hD hS hA [1] rfl (by decide +kernel)
  have hKc := hK.sub (tys' := [(cA_m0_known, .int)]) [11] rfl
  refine va_callv (va_runS (As := [.ref m0_known, .int 10, .int p1, .int p2]) (rest := []) ⟨hx, hb, hml, hown, hts⟩ (k_X10_copyRow_v10 l sa dC dI m0_known p1 p2 cA_m0_known f_m0_known b_p1 b_p2 b_f_m0_known H.size) (va_cwS 4 hts (z_gS zw_t7_154 zw_t7_155 zw_t1_11 zw_t7_156) rfl rfl rfl (by decide +kernel) (by rw [← hRe]; exact ⟨(Nat.le_of_ble_eq_true rfl), (Nat.le_of_ble_eq_true rfl)⟩)) (z_preS hPc hKc hDc hN hXs hS hFc) rfl rfl hl.1 rfl (lv_room (Nat.le_of_ble_eq_true rfl)) dX10_copyTown_123 (by rw [← hRe]; exact ⟨(Nat.le_of_ble_eq_true rfl), (Nat.le_of_ble_eq_true rfl)⟩)) hS (fun q _ h => hFc q h) hFc (fun u t H1 locs ht hvm hw hB hz1 hk1 hS => ?_)
  obtain ⟨n_a_35, b_n_a_35, hf_36, hB⟩ := hB
  obtain ⟨hP, hD, hK⟩ := z_after3 (wn := (zV165 m0 m0_thrown m0_width m0_many m0_cells m0_moved m0_tape m0_taped m0_at m0_token m0_place m0_value m0_word m0_bad m0_badPlace m0_fault m0_faultPlace m0_lines m0_hours m0_courts m0_in m0_gates m0_gate m0_people m0_at0 m0_stray m0_set m0_once m0_truth m0_known m0_isKept m0_strays m0_hostPerson m0_hostCourt m0_outside m0_inside m0_can m0_fewest m0_waysTo m0_then m0_two m0_nextTwo m0_three m0_nextThree m0_shut m0_worth m0_digit m0_codes m0_most m0_bestTry m0_dayCourt m0_dayHour m0_dayNo m0_x m0_lines cA_m0_lines n_a_2 m0_hours cA_m0_hours n_a_5 m0_courts cA_m0_courts n_a_8 m0_in cA_m0_in n_a_11 m0_gates cA_m0_gates n_a_14 m0_gate cA_m0_gate n_a_17 m0_people cA_m0_people n_a_20 m0_at0 cA_m0_at0 n_a_23 m0_stray cA_m0_stray n_a_26 m0_set cA_m0_set n_a_29 m0_truth cA_m0_truth n_a_32 m0_known cA_m0_known n_a_35)) hB ht hvm hP hD hK [1] [0, 2, 3, 4, 5, 6, 7, 8, 9, 10, 11, 12] rfl 13 rfl (by decide +kernel) rfl (by decide +kernel) hk1 hFc
  generalize H1 = H at hP hS ⊢
  have hK : va_K (dC, dI) vwCl [(cA_m0_lines, .int), (cA_m0_hours, .int), (cA_m0_courts, .int), (cA_m0_in, .int), (cA_m0_gates, .int), (cA_m0_gate, .int), (cA_m0_people, .int), (cA_m0_at0, .int), (cA_m0_stray, .int), (cA_m0_set, .int), (cA_m0_truth, .int), (cA_m0_known, .int)] s := hK
  exact W.vret hx hb hr (fun t ht hW => by rw [← hQe]; exact ⟨⟨(), rfl, trivial, ⟨n_a_2, n_a_5, n_a_8, n_a_11, n_a_14, n_a_17, n_a_20, n_a_23, n_a_26, n_a_29, n_a_32, n_a_35, b_n_a_5, b_n_a_8, b_n_a_11, b_n_a_14, b_n_a_17, b_n_a_20, b_n_a_23, b_n_a_26, b_n_a_29, b_n_a_35, (by first | omega | assumption), (by first | omega | assumption), (by first | omega | assumption), (by first | omega | assumption), (by first | omega | assumption), z_ret hP hK hD ht hW [0, 1, 2, 3, 4, 5, 6, 7, 8, 9, 10, 11, 12] [] rfl (by decide) rfl⟩⟩, hS.F ht⟩) hS.2.2 dX10_copyTown_126
set_option maxHeartbeats 4000000 in
set_option maxRecDepth 100000 in
theorem k_X10_back (l : Launch) (sa : Nat → Nat) (dC : Nat → ClassId) (dI : Nat → Nat → Nat) (m0 : Nat) (p1 : Int32) (m0_thrown : Int32) (m0_width : Nat) (m0_many : Nat) (m0_cells : Nat) (m0_moved : Nat) (m0_tape : Nat) (m0_taped : Int32) (m0_at : Int32) (m0_token : Int32) (m0_place : Int32) (m0_value : Int32) (m0_word : Int64) (m0_bad : Int32) (m0_badPlace : Int32) (m0_fault : Int32) (m0_faultPlace : Int32) (m0_lines : Nat) (m0_hours : Nat) (m0_courts : Nat) (m0_in : Nat) (m0_gates : Nat) (m0_gate : Nat) (m0_people : Nat) (m0_at0 : Nat) (m0_stray : Nat) (m0_set : Nat) (m0_once : Nat) (m0_truth : Nat) (m0_known : Nat) (m0_isKept : Nat) (m0_strays : Int32) (m0_hostPerson : Int32) (m0_hostCourt : Int32) (m0_outside : Int32) (m0_inside : Nat) (m0_can : Nat) (m0_fewest : Nat) (m0_waysTo : Nat) (m0_then : Nat) (m0_two : Nat) (m0_nextTwo : Nat) (m0_three : Nat) (m0_nextThree : Nat) (m0_shut : Int32) (m0_worth : Nat) (m0_digit : Nat) (m0_codes : Int32) (m0_most : Int64) (m0_bestTry : Int32) (m0_dayCourt : Int32) (m0_dayHour : Int32) (m0_dayNo : Int32) (m0_x : Int64) (cA_m0_lines : ClassId) (f_m0_lines : Nat → Int32) (cA_m0_hours : ClassId) (f_m0_hours : Nat → Int32) (cA_m0_courts : ClassId) (f_m0_courts : Nat → Int32) (cA_m0_in : ClassId) (f_m0_in : Nat → Int32) (cA_m0_gates : ClassId) (f_m0_gates : Nat → Int32) (cA_m0_gate : ClassId) (f_m0_gate : Nat → Int32) (cA_m0_people : ClassId) (f_m0_people : Nat → Int32) (cA_m0_at0 : ClassId) (f_m0_at0 : Nat → Int32) (cA_m0_stray : ClassId) (f_m0_stray : Nat → Int32) (cA_m0_set : ClassId) (f_m0_set : Nat → Int32) (cA_m0_truth : ClassId) (f_m0_truth : Nat → Int32) (cA_m0_known : ClassId) (f_m0_known : Nat → Int32) (cA_m0_isKept : ClassId) (f_m0_isKept : Nat → Int32) (b_m0_taped : 0 ≤ m0_taped.toInt ∧ m0_taped.toInt ≤ 1600) (b_m0_at : 0 ≤ m0_at.toInt ∧ m0_at.toInt ≤ 1600) (b_m0_token : 0 ≤ m0_token.toInt ∧ m0_token.toInt ≤ 4) (b_m0_value : 0 ≤ m0_value.toInt ∧ m0_value.toInt ≤ 1000009) (b_m0_bad : 0 ≤ m0_bad.toInt ∧ m0_bad.toInt ≤ 3) (b_m0_strays : 0 ≤ m0_strays.toInt ∧ m0_strays.toInt ≤ 5) (b_m0_hostCourt : 0 ≤ m0_hostCourt.toInt ∧ m0_hostCourt.toInt ≤ 9) (b_m0_dayCourt : 0 ≤ m0_dayCourt.toInt ∧ m0_dayCourt.toInt ≤ 9) (b_m0_dayHour : 0 ≤ m0_dayHour.toInt ∧ m0_dayHour.toInt ≤ 48) (b_f_m0_hours : ∀ j : Nat, 0 ≤ (f_m0_hours j).toInt ∧ (f_m0_hours j).toInt ≤ 48) (b_f_m0_courts : ∀ j : Nat, 0 ≤ (f_m0_courts j).toInt ∧ (f_m0_courts j).toInt ≤ 10) (b_f_m0_in : ∀ j : Nat, ¬ j % 10 = 0 → (-1) ≤ (f_m0_in j).toInt ∧ (f_m0_in j).toInt < ((j % 10 : Nat) : Int)) (b_f_m0_gates : ∀ j : Nat, 0 ≤ (f_m0_gates j).toInt ∧ (f_m0_gates j).toInt ≤ 16) (b_f_m0_gate : ∀ j : Nat, 0 ≤ (f_m0_gate j).toInt ∧ (f_m0_gate j).toInt ≤ 9) (b_f_m0_people : ∀ j : Nat, 0 ≤ (f_m0_people j).toInt ∧ (f_m0_people j).toInt ≤ 10) (b_f_m0_at0 : ∀ j : Nat, 0 ≤ (f_m0_at0 j).toInt ∧ (f_m0_at0 j).toInt ≤ 9) (b_f_m0_stray : ∀ j : Nat, 0 ≤ (f_m0_stray j).toInt ∧ (f_m0_stray j).toInt ≤ 99 ∧ (j % 2 = 1 → (f_m0_stray j).toInt ≤ 9)) (b_f_m0_set : ∀ j : Nat, 0 ≤ (f_m0_set j).toInt ∧ (f_m0_set j).toInt ≤ 9) (b_f_m0_known : ∀ j : Nat, 0 ≤ (f_m0_known j).toInt ∧ (f_m0_known j).toInt ≤ 2) (hep_0 : zMd f_m0_in f_m0_courts f_m0_hours f_m0_people f_m0_stray) (sz : Nat) : Met l yX10_back (.code yX10_back cX10_back 2 (some .int) :: zT) ({ frames := 2, cells := 0, slots := 0, locals := 46 }) (va_Pc [.ref m0, .int p1] (zB sa dC dI (zV166 m0 m0_thrown m0_width m0_many m0_cells m0_moved m0_tape m0_taped m0_at m0_token m0_place m0_value m0_word m0_bad m0_badPlace m0_fault m0_faultPlace m0_lines m0_hours m0_courts m0_in m0_gates m0_gate m0_people m0_at0 m0_stray m0_set m0_once m0_truth m0_known m0_isKept m0_strays m0_hostPerson m0_hostCourt m0_outside m0_inside m0_can m0_fewest m0_waysTo m0_then m0_two m0_nextTwo m0_three m0_nextThree m0_shut m0_worth m0_digit m0_codes m0_most m0_bestTry m0_dayCourt m0_dayHour m0_dayNo m0_x m0_lines cA_m0_lines f_m0_lines m0_hours cA_m0_hours f_m0_hours m0_courts cA_m0_courts f_m0_courts m0_in cA_m0_in f_m0_in m0_gates cA_m0_gates f_m0_gates m0_gate cA_m0_gate f_m0_gate m0_people cA_m0_people f_m0_people m0_at0 cA_m0_at0 f_m0_at0 m0_stray cA_m0_stray f_m0_stray m0_set cA_m0_set f_m0_set m0_truth cA_m0_truth f_m0_truth m0_known cA_m0_known f_m0_known m0_isKept cA_m0_isKept f_m0_isKept) [(cA_m0_lines, .int), (cA_m0_hours, .int), (cA_m0_courts, .int), (cA_m0_in, .int), (cA_m0_gates, .int), (cA_m0_gate, .int), (cA_m0_people, .int), (cA_m0_at0, .int), (cA_m0_stray, .int), (cA_m0_set, .int), (cA_m0_truth, .int), (cA_m0_known, .int), (cA_m0_isKept, .boolean)] sz)) (va_Qi (fun (r : Int32) (_ : Unit) => ((-6) ≤ r.toInt ∧ r.toInt ≤ 0)) (fun _ t => ∃ (n_m0_0 : Int32) (n_m0_lines : Nat → Int32) (n_m0_hours : Nat → Int32) (n_m0_courts : Nat → Int32) (n_m0_in : Nat → Int32) (n_m0_gates : Nat → Int32) (n_m0_gate : Nat → Int32) (n_m0_people : Nat → Int32) (n_m0_at0 : Nat → Int32) (n_m0_stray : Nat → Int32) (n_m0_set : Nat → Int32) (n_m0_truth : Nat → Int32) (n_m0_known : Nat → Int32), (∀ j : Nat, 0 ≤ (n_m0_hours j).toInt ∧ (n_m0_hours j).toInt ≤ 48) ∧ (∀ j : Nat, 0 ≤ (n_m0_courts j).toInt ∧ (n_m0_courts j).toInt ≤ 10) ∧ (∀ j : Nat, ¬ j % 10 = 0 → (-1) ≤ (n_m0_in j).toInt ∧ (n_m0_in j).toInt < ((j % 10 : Nat) : Int)) ∧ (∀ j : Nat, 0 ≤ (n_m0_gates j).toInt ∧ (n_m0_gates j).toInt ≤ 16) ∧ (∀ j : Nat, 0 ≤ (n_m0_gate j).toInt ∧ (n_m0_gate j).toInt ≤ 9) ∧ (∀ j : Nat, 0 ≤ (n_m0_people j).toInt ∧ (n_m0_people j).toInt ≤ 10) ∧ (∀ j : Nat, 0 ≤ (n_m0_at0 j).toInt ∧ (n_m0_at0 j).toInt ≤ 9) ∧ (∀ j : Nat, 0 ≤ (n_m0_stray j).toInt ∧ (n_m0_stray j).toInt ≤ 99 ∧ (j % 2 = 1 → (n_m0_stray j).toInt ≤ 9)) ∧ (∀ j : Nat, 0 ≤ (n_m0_set j).toInt ∧ (n_m0_set j).toInt ≤ 9) ∧ (∀ j : Nat, 0 ≤ (n_m0_known j).toInt ∧ (n_m0_known j).toInt ≤ 2) ∧ (zMd n_m0_in n_m0_courts n_m0_hours n_m0_people n_m0_stray) ∧ zW dC dI (zV166 m0 n_m0_0 m0_width m0_many m0_cells m0_moved m0_tape m0_taped m0_at m0_token m0_place m0_value m0_word m0_bad m0_badPlace m0_fault m0_faultPlace m0_lines m0_hours m0_courts m0_in m0_gates m0_gate m0_people m0_at0 m0_stray m0_set m0_once m0_truth m0_known m0_isKept m0_strays m0_hostPerson m0_hostCourt m0_outside m0_inside m0_can m0_fewest m0_waysTo m0_then m0_two m0_nextTwo m0_three m0_nextThree m0_shut m0_worth m0_digit m0_codes m0_most m0_bestTry m0_dayCourt m0_dayHour m0_dayNo m0_x m0_lines cA_m0_lines n_m0_lines m0_hours cA_m0_hours n_m0_hours m0_courts cA_m0_courts n_m0_courts m0_in cA_m0_in n_m0_in m0_gates cA_m0_gates n_m0_gates m0_gate cA_m0_gate n_m0_gate m0_people cA_m0_people n_m0_people m0_at0 cA_m0_at0 n_m0_at0 m0_stray cA_m0_stray n_m0_stray m0_set cA_m0_set n_m0_set m0_truth cA_m0_truth n_m0_truth m0_known cA_m0_known n_m0_known m0_isKept cA_m0_isKept f_m0_isKept) [] (va_A (zV166 m0 m0_thrown m0_width m0_many m0_cells m0_moved m0_tape m0_taped m0_at m0_token m0_place m0_value m0_word m0_bad m0_badPlace m0_fault m0_faultPlace m0_lines m0_hours m0_courts m0_in m0_gates m0_gate m0_people m0_at0 m0_stray m0_set m0_once m0_truth m0_known m0_isKept m0_strays m0_hostPerson m0_hostCourt m0_outside m0_inside m0_can m0_fewest m0_waysTo m0_then m0_two m0_nextTwo m0_three m0_nextThree m0_shut m0_worth m0_digit m0_codes m0_most m0_bestTry m0_dayCourt m0_dayHour m0_dayNo m0_x m0_lines cA_m0_lines f_m0_lines m0_hours cA_m0_hours f_m0_hours m0_courts cA_m0_courts f_m0_courts m0_in cA_m0_in f_m0_in m0_gates cA_m0_gates f_m0_gates m0_gate cA_m0_gate f_m0_gate m0_people cA_m0_people f_m0_people m0_at0 cA_m0_at0 f_m0_at0 m0_stray cA_m0_stray f_m0_stray m0_set cA_m0_set f_m0_set m0_truth cA_m0_truth f_m0_truth m0_known cA_m0_known f_m0_known m0_isKept cA_m0_isKept f_m0_isKept) sz) t) (va_A (zV166 m0 m0_thrown m0_width m0_many m0_cells m0_moved m0_tape m0_taped m0_at m0_token m0_place m0_value m0_word m0_bad m0_badPlace m0_fault m0_faultPlace m0_lines m0_hours m0_courts m0_in m0_gates m0_gate m0_people m0_at0 m0_stray m0_set m0_once m0_truth m0_known m0_isKept m0_strays m0_hostPerson m0_hostCourt m0_outside m0_inside m0_can m0_fewest m0_waysTo m0_then m0_two m0_nextTwo m0_three m0_nextThree m0_shut m0_worth m0_digit m0_codes m0_most m0_bestTry m0_dayCourt m0_dayHour m0_dayNo m0_x m0_lines cA_m0_lines f_m0_lines m0_hours cA_m0_hours f_m0_hours m0_courts cA_m0_courts f_m0_courts m0_in cA_m0_in f_m0_in m0_gates cA_m0_gates f_m0_gates m0_gate cA_m0_gate f_m0_gate m0_people cA_m0_people f_m0_people m0_at0 cA_m0_at0 f_m0_at0 m0_stray cA_m0_stray f_m0_stray m0_set cA_m0_set f_m0_set m0_truth cA_m0_truth f_m0_truth m0_known cA_m0_known f_m0_known m0_isKept cA_m0_isKept f_m0_isKept) sz)) 0 0 (va_A (zV166 m0 m0_thrown m0_width m0_many m0_cells m0_moved m0_tape m0_taped m0_at m0_token m0_place m0_value m0_word m0_bad m0_badPlace m0_fault m0_faultPlace m0_lines m0_hours m0_courts m0_in m0_gates m0_gate m0_people m0_at0 m0_stray m0_set m0_once m0_truth m0_known m0_isKept m0_strays m0_hostPerson m0_hostCourt m0_outside m0_inside m0_can m0_fewest m0_waysTo m0_then m0_two m0_nextTwo m0_three m0_nextThree m0_shut m0_worth m0_digit m0_codes m0_most m0_bestTry m0_dayCourt m0_dayHour m0_dayNo m0_x m0_lines cA_m0_lines f_m0_lines m0_hours cA_m0_hours f_m0_hours m0_courts cA_m0_courts f_m0_courts m0_in cA_m0_in f_m0_in m0_gates cA_m0_gates f_m0_gates m0_gate cA_m0_gate f_m0_gate m0_people cA_m0_people f_m0_people m0_at0 cA_m0_at0 f_m0_at0 m0_stray cA_m0_stray f_m0_stray m0_set cA_m0_set f_m0_set m0_truth cA_m0_truth f_m0_truth m0_known cA_m0_known f_m0_known m0_isKept cA_m0_isKept f_m0_isKept) sz) := by
  refine z_enter (by decide) (by exact (Nat.le_of_ble_eq_true rfl)) ?_
  intro p e s m args below meth c ls A R Qc hargs hsz hQe hAe hRe hx hb hml hr hts hown hlocks hin hl hP hK hD hN hXs hA hS
  rw [hAe] at hQe
  have hown : s.vm.findClass RX10 = some m.cls := hown
  have hl : lv_has ls 2 [(0, .ref m0), (1, .int p1)] := hl
  refine lv_aload_n hx hb dX10_back_0 rfl (lv_at hl 0 rfl) ?_
  refine lv_iconst (v := 0) hx hb dX10_back_1 (by decide) ?_
  refine va_put (D := (dC, dI)) (ci := 10) (v := .int 0) (ty := .int) (C := RX10) (T := TX10) (N := 53) hx hb hts zl_X10 tyX10 tyX10_ok nmX10 hown hK hP hD hS 0 rfl rfl 0 (by decide) (hts _ zw_t6_100) (fun _ h9 => h9) rfl (by decide +kernel) rfl rfl (Nat.le_of_ble_eq_true rfl) dX10_back_2 (fun H locs hP hD hS => ?_)
  have hP : va_P (dC, dI) vwCl (zV167 m0 m0_width m0_many m0_cells m0_moved m0_tape m0_taped m0_at m0_token m0_place m0_value m0_word m0_bad m0_badPlace m0_fault m0_faultPlace m0_lines m0_hours m0_courts m0_in m0_gates m0_gate m0_people m0_at0 m0_stray m0_set m0_once m0_truth m0_known m0_isKept m0_strays m0_hostPerson m0_hostCourt m0_outside m0_inside m0_can m0_fewest m0_waysTo m0_then m0_two m0_nextTwo m0_three m0_nextThree m0_shut m0_worth m0_digit m0_codes m0_most m0_bestTry m0_dayCourt m0_dayHour m0_dayNo m0_x m0_lines cA_m0_lines f_m0_lines m0_hours cA_m0_hours f_m0_hours m0_courts cA_m0_courts f_m0_courts m0_in cA_m0_in f_m0_in m0_gates cA_m0_gates f_m0_gates m0_gate cA_m0_gate f_m0_gate m0_people cA_m0_people f_m0_people m0_at0 cA_m0_at0 f_m0_at0 m0_stray cA_m0_stray f_m0_stray m0_set cA_m0_set f_m0_set m0_truth cA_m0_truth f_m0_truth m0_known cA_m0_known f_m0_known m0_isKept cA_m0_isKept f_m0_isKept) H := hP
  have hD : va_D A (zV167 m0 m0_width m0_many m0_cells m0_moved m0_tape m0_taped m0_at m0_token m0_place m0_value m0_word m0_bad m0_badPlace m0_fault m0_faultPlace m0_lines m0_hours m0_courts m0_in m0_gates m0_gate m0_people m0_at0 m0_stray m0_set m0_once m0_truth m0_known m0_isKept m0_strays m0_hostPerson m0_hostCourt m0_outside m0_inside m0_can m0_fewest m0_waysTo m0_then m0_two m0_nextTwo m0_three m0_nextThree m0_shut m0_worth m0_digit m0_codes m0_most m0_bestTry m0_dayCourt m0_dayHour m0_dayNo m0_x m0_lines cA_m0_lines f_m0_lines m0_hours cA_m0_hours f_m0_hours m0_courts cA_m0_courts f_m0_courts m0_in cA_m0_in f_m0_in m0_gates cA_m0_gates f_m0_gates m0_gate cA_m0_gate f_m0_gate m0_people cA_m0_people f_m0_people m0_at0 cA_m0_at0 f_m0_at0 m0_stray cA_m0_stray f_m0_stray m0_set cA_m0_set f_m0_set m0_truth cA_m0_truth f_m0_truth m0_known cA_m0_known f_m0_known m0_isKept cA_m0_isKept f_m0_isKept) := hD
  refine lv_iload_n hx hb dX10_back_5 rfl (lv_at hl 1 rfl) ?_
  refine lv_i2l (v := _) hx hb dX10_back_6 rfl ?_
  refine lv_topl (fun x_1 ex_1 => ?_)
  have b_x_1 : x_1.toInt = p1.toInt := by rw [ex_1]; exact z_l64 _
  refine lv_lconst (v := 0) hx hb dX10_back_7 (by decide) ?_
  refine lv_ldc2 (v := 2) hx hb hown (hts _ zw_t8_48) dX10_back_8 ?_
  obtain ⟨hPc, hDc, hFc⟩ := z_cut (wc := []) hP hD hS hA [] rfl (by decide +kernel)
  have hKc := hK.sub (tys' := []) [] rfl
  refine va_calli (va_runS (As := [.long x_1, .long 0, .long 2]) (rest := []) ⟨hx, hb, hml, hown, hts⟩ (k_X10_in l sa dC dI x_1 (0) (2) H.size) (va_cwS 3 hts (z_gS zw_t7_29 zw_t7_30 zw_t1_11 zw_t7_31) rfl rfl rfl (by decide +kernel) (by rw [← hRe]; exact ⟨(Nat.le_of_ble_eq_true rfl), (Nat.le_of_ble_eq_true rfl)⟩)) (z_preS hPc hKc hDc hN hXs hS hFc) rfl rfl hl.1 rfl (lv_room (Nat.le_of_ble_eq_true rfl)) dX10_back_11 (by rw [← hRe]; exact ⟨(Nat.le_of_ble_eq_true rfl), (Nat.le_of_ble_eq_true rfl)⟩)) hS (fun q _ h => hFc q h) hFc (fun r_2 u t H1 locs ht hvm hw hB hz1 hk1 hS => ?_)
  obtain ⟨hP, hD, hK⟩ := z_after3 (wn := (zV167 m0 m0_width m0_many m0_cells m0_moved m0_tape m0_taped m0_at m0_token m0_place m0_value m0_word m0_bad m0_badPlace m0_fault m0_faultPlace m0_lines m0_hours m0_courts m0_in m0_gates m0_gate m0_people m0_at0 m0_stray m0_set m0_once m0_truth m0_known m0_isKept m0_strays m0_hostPerson m0_hostCourt m0_outside m0_inside m0_can m0_fewest m0_waysTo m0_then m0_two m0_nextTwo m0_three m0_nextThree m0_shut m0_worth m0_digit m0_codes m0_most m0_bestTry m0_dayCourt m0_dayHour m0_dayNo m0_x m0_lines cA_m0_lines f_m0_lines m0_hours cA_m0_hours f_m0_hours m0_courts cA_m0_courts f_m0_courts m0_in cA_m0_in f_m0_in m0_gates cA_m0_gates f_m0_gates m0_gate cA_m0_gate f_m0_gate m0_people cA_m0_people f_m0_people m0_at0 cA_m0_at0 f_m0_at0 m0_stray cA_m0_stray f_m0_stray m0_set cA_m0_set f_m0_set m0_truth cA_m0_truth f_m0_truth m0_known cA_m0_known f_m0_known m0_isKept cA_m0_isKept f_m0_isKept)) hB ht hvm hP hD hK [] [0, 1, 2, 3, 4, 5, 6, 7, 8, 9, 10, 11, 12, 13] rfl 14 rfl (by decide +kernel) rfl (by decide +kernel) hk1 hFc
  generalize H1 = H at hP hS ⊢
  have hK : va_K (dC, dI) vwCl [(cA_m0_lines, .int), (cA_m0_hours, .int), (cA_m0_courts, .int), (cA_m0_in, .int), (cA_m0_gates, .int), (cA_m0_gate, .int), (cA_m0_people, .int), (cA_m0_at0, .int), (cA_m0_stray, .int), (cA_m0_set, .int), (cA_m0_truth, .int), (cA_m0_known, .int), (cA_m0_isKept, .boolean)] s := hK
  have b_r_2 : 0 ≤ r_2.toInt ∧ r_2.toInt ≤ 1 := hw.1
  have s_r_2 := hw.2
  have zal_0 : Int64.toInt 0 = 0 := by decide
  have zal_2 : Int64.toInt 2 = 2 := by decide
  refine lv_if_ne (tgt := 20) hx hb dX10_back_14 (by decide) (fun c_3 => ?_) (fun c_3 => ?_)
  · have ic_3 := zz_ne rfl (show Int32.toInt 0 = 0 from by decide) c_3
    refine lv_aload_n hx hb dX10_back_20 rfl (lv_at hl 0 rfl) ?_
    refine va_get (D := (dC, dI)) (ci := 10) (v := .ref m0_isKept) (C := RX10) (T := TX10) (N := 53) hx hb hts zl_X10 hown hK hP 0 rfl rfl 29 (by decide) (hts _ zw_t6_129) (fun _ h9 => h9) rfl dX10_back_21 ?_
    refine lv_iload_n hx hb dX10_back_24 rfl (lv_at hl 1 rfl) ?_
    refine va_zald hx hb hK hP 13 12 rfl rfl (zi_in rfl (by first | with_reducible assumption | omega)) dX10_back_25 ?_
    refine lv_topi (fun x_4 ex_4 => ?_)
    have nb_x_4 := zi_nb x_4
    refine lv_if_ne (tgt := 32) hx hb dX10_back_26 (by decide) (fun c_5 => ?_) (fun c_5 => ?_)
    · have ic_5 := zz_ne rfl (show Int32.toInt 0 = 0 from by decide) c_5
      refine lv_aload_n hx hb dX10_back_32 rfl (lv_at hl 0 rfl) ?_
      refine lv_iconst (v := 1) hx hb dX10_back_33 (by decide) ?_
      refine lv_iload_n hx hb dX10_back_34 rfl (lv_at hl 1 rfl) ?_
      refine lv_iadd hx hb dX10_back_35 ?_
      refine lv_topi (fun x_6 ex_6 => ?_)
      have b_x_6 : x_6.toInt = 1 + p1.toInt := by rw [ex_6]; exact zi_add (show Int32.toInt 1 = 1 from by decide) rfl (by first | with_reducible assumption | omega)
      refine lv_iconst (v := 0) hx hb dX10_back_36 (by decide) ?_
      have zk_0 : Int32.toInt 0 = 0 := by decide
      obtain ⟨hPc, hDc, hFc⟩ := z_cut (wc := (zV168 m0 m0_width m0_many m0_cells m0_moved m0_tape m0_taped m0_at m0_token m0_place m0_value m0_word m0_bad m0_badPlace m0_fault m0_faultPlace m0_lines m0_hours m0_courts m0_in m0_gates m0_gate m0_people m0_at0 m0_stray m0_set m0_once m0_truth m0_known m0_isKept m0_strays m0_hostPerson m0_hostCourt m0_outside m0_inside m0_can m0_fewest m0_waysTo m0_then m0_two m0_nextTwo m0_three m0_nextThree m0_shut m0_worth m0_digit m0_codes m0_most m0_bestTry m0_dayCourt m0_dayHour m0_dayNo m0_x m0_lines cA_m0_lines f_m0_lines m0_hours cA_m0_hours f_m0_hours m0_courts cA_m0_courts f_m0_courts m0_in cA_m0_in f_m0_in m0_gates cA_m0_gates f_m0_gates m0_gate cA_m0_gate f_m0_gate m0_people cA_m0_people f_m0_people m0_at0 cA_m0_at0 f_m0_at0 m0_stray cA_m0_stray f_m0_stray m0_set cA_m0_set f_m0_set m0_truth cA_m0_truth f_m0_truth m0_known cA_m0_known f_m0_known)) hP hD hS hA [0, 1, 2, 3, 4, 5, 6, 7, 8, 9, 10, 11, 12] rfl (by decide +kernel)
      have hKc := hK.sub (tys' := [(cA_m0_lines, .int), (cA_m0_hours, .int), (cA_m0_courts, .int), (cA_m0_in, .int), (cA_m0_gates, .int), (cA_m0_gate, .int), (cA_m0_people, .int), (cA_m0_at0, .int), (cA_m0_stray, .int), (cA_m0_set, .int), (cA_m0_truth, .int), (cA_m0_known, .int)]) [0, 1, 2, 3, 4, 5, 6, 7, 8, 9, 10, 11] rfl
      refine va_callv (va_runV (As := [.int x_6, .int 0]) (rest := []) ⟨hx, hb, hml, hown, hts⟩ (k_X10_copyTown l sa dC dI m0 x_6 (0) (0) m0_width m0_many m0_cells m0_moved m0_tape m0_taped m0_at m0_token m0_place m0_value m0_word m0_bad m0_badPlace m0_fault m0_faultPlace m0_lines m0_hours m0_courts m0_in m0_gates m0_gate m0_people m0_at0 m0_stray m0_set m0_once m0_truth m0_known m0_isKept m0_strays m0_hostPerson m0_hostCourt m0_outside m0_inside m0_can m0_fewest m0_waysTo m0_then m0_two m0_nextTwo m0_three m0_nextThree m0_shut m0_worth m0_digit m0_codes m0_most m0_bestTry m0_dayCourt m0_dayHour m0_dayNo m0_x cA_m0_lines f_m0_lines cA_m0_hours f_m0_hours cA_m0_courts f_m0_courts cA_m0_in f_m0_in cA_m0_gates f_m0_gates cA_m0_gate f_m0_gate cA_m0_people f_m0_people cA_m0_at0 f_m0_at0 cA_m0_stray f_m0_stray cA_m0_set f_m0_set cA_m0_truth f_m0_truth cA_m0_known f_m0_known (by first | with_reducible assumption | omega) (by decide) b_m0_taped b_m0_at b_m0_token b_m0_value b_m0_bad b_m0_strays b_m0_hostCourt b_m0_dayCourt b_m0_dayHour b_f_m0_hours b_f_m0_courts b_f_m0_in b_f_m0_gates b_f_m0_gate b_f_m0_people b_f_m0_at0 b_f_m0_stray b_f_m0_set b_f_m0_known H.size) (cwV 2 hts (z_gV zw_t7_150 zw_t7_152 zw_s5_8 zw_t1_11 zw_t7_153) rfl rfl rfl (by decide +kernel) (by rw [← hRe]; exact ⟨(Nat.le_of_ble_eq_true rfl), (Nat.le_of_ble_eq_true rfl)⟩)) (z_preV hPc hKc hDc hN hXs hS hFc (q := (RX10, TX10, 53)) (ci := 10) (q0 := 0) rfl rfl) rfl rfl hl.1 rfl (lv_room (Nat.le_of_ble_eq_true rfl)) dX10_back_37 (by rw [← hRe]; exact ⟨(Nat.le_of_ble_eq_true rfl), (Nat.le_of_ble_eq_true rfl)⟩)) hS (fun q _ h => hFc q h) hFc (fun u t H1 locs ht hvm hw hB hz1 hk1 hS => ?_)
      refine hB.elim fun n_m0_lines_8 ze1 => ze1.elim fun n_m0_hours_9 ze2 => ze2.elim fun n_m0_courts_10 ze3 => ze3.elim fun n_m0_in_11 ze4 => ze4.elim fun n_m0_gates_12 ze5 => ze5.elim fun n_m0_gate_13 ze6 => ze6.elim fun n_m0_people_14 ze7 => ze7.elim fun n_m0_at0_15 ze8 => ze8.elim fun n_m0_stray_16 ze9 => ze9.elim fun n_m0_set_17 ze10 => ze10.elim fun n_m0_truth_18 ze11 => ze11.elim fun n_m0_known_19 ze12 => ze12.elim fun b_n_m0_hours_9 ze13 => ze13.elim fun b_n_m0_courts_10 ze14 => ze14.elim fun b_n_m0_in_11 ze15 => ze15.elim fun b_n_m0_gates_12 ze16 => ze16.elim fun b_n_m0_gate_13 ze17 => ze17.elim fun b_n_m0_people_14 ze18 => ze18.elim fun b_n_m0_at0_15 ze19 => ze19.elim fun b_n_m0_stray_16 ze20 => ze20.elim fun b_n_m0_set_17 ze21 => ze21.elim fun b_n_m0_known_19 ze22 => ze22.elim fun hf_20 ze23 => ze23.elim fun hf_21 ze24 => ze24.elim fun hf_22 ze25 => ze25.elim fun hf_23 ze26 => ze26.elim fun hf_24 ze27 => ?_
      clear hB ze1 ze2 ze3 ze4 ze5 ze6 ze7 ze8 ze9 ze10 ze11 ze12 ze13 ze14 ze15 ze16 ze17 ze18 ze19 ze20 ze21 ze22 ze23 ze24 ze25 ze26
      have hB := ze27
      clear ze27
      obtain ⟨hP, hD, hK⟩ := z_after3 (wn := (zV169 m0_isKept cA_m0_isKept f_m0_isKept m0 m0_width m0_many m0_cells m0_moved m0_tape m0_taped m0_at m0_token m0_place m0_value m0_word m0_bad m0_badPlace m0_fault m0_faultPlace m0_lines m0_hours m0_courts m0_in m0_gates m0_gate m0_people m0_at0 m0_stray m0_set m0_once m0_truth m0_known m0_isKept m0_strays m0_hostPerson m0_hostCourt m0_outside m0_inside m0_can m0_fewest m0_waysTo m0_then m0_two m0_nextTwo m0_three m0_nextThree m0_shut m0_worth m0_digit m0_codes m0_most m0_bestTry m0_dayCourt m0_dayHour m0_dayNo m0_x m0_lines cA_m0_lines n_m0_lines_8 m0_hours cA_m0_hours n_m0_hours_9 m0_courts cA_m0_courts n_m0_courts_10 m0_in cA_m0_in n_m0_in_11 m0_gates cA_m0_gates n_m0_gates_12 m0_gate cA_m0_gate n_m0_gate_13 m0_people cA_m0_people n_m0_people_14 m0_at0 cA_m0_at0 n_m0_at0_15 m0_stray cA_m0_stray n_m0_stray_16 m0_set cA_m0_set n_m0_set_17 m0_truth cA_m0_truth n_m0_truth_18 m0_known cA_m0_known n_m0_known_19)) hB ht hvm hP hD hK [0, 1, 2, 3, 4, 5, 6, 7, 8, 9, 10, 11, 12] [13] rfl 14 rfl (by decide +kernel) rfl (by decide +kernel) hk1 hFc
      generalize H1 = H at hP hS ⊢
      have hK : va_K (dC, dI) vwCl [(cA_m0_lines, .int), (cA_m0_hours, .int), (cA_m0_courts, .int), (cA_m0_in, .int), (cA_m0_gates, .int), (cA_m0_gate, .int), (cA_m0_people, .int), (cA_m0_at0, .int), (cA_m0_stray, .int), (cA_m0_set, .int), (cA_m0_truth, .int), (cA_m0_known, .int), (cA_m0_isKept, .boolean)] s := hK
      have hmd := zMd.copy (a := x_6.toInt) (b := 0) (by first | with_reducible assumption | omega) (by first | with_reducible assumption | omega) (fun j => (b_f_m0_people j).2) (zMd.at hep_0 (show (x_6.toInt).toNat < 4 by omega)) hep_0 hf_20 hf_21 hf_22 hf_23 hf_24
      refine lv_iconst (v := 0) hx hb dX10_back_40 (by decide) ?_
      exact W.iret (v := 0) hx hb hr (fun t ht hW => by rw [← hQe]; exact ⟨⟨0, (), rfl, (by decide), ⟨(0), n_m0_lines_8, n_m0_hours_9, n_m0_courts_10, n_m0_in_11, n_m0_gates_12, n_m0_gate_13, n_m0_people_14, n_m0_at0_15, n_m0_stray_16, n_m0_set_17, n_m0_truth_18, n_m0_known_19, b_n_m0_hours_9, b_n_m0_courts_10, b_n_m0_in_11, b_n_m0_gates_12, b_n_m0_gate_13, b_n_m0_people_14, b_n_m0_at0_15, b_n_m0_stray_16, b_n_m0_set_17, b_n_m0_known_19, (by first | omega | assumption), z_ret hP hK hD ht hW [1, 2, 3, 4, 5, 6, 7, 8, 9, 10, 11, 12, 13, 0] [] rfl (by decide) rfl⟩⟩, hS.F ht⟩) hS.2.2 dX10_back_41
    · have ic_5 := zz_nne rfl (show Int32.toInt 0 = 0 from by decide) c_5
      refine lv_bipush (v := (-6)) hx hb dX10_back_29 (by decide) ?_
      exact W.iret (v := (-6)) hx hb hr (fun t ht hW => by rw [← hQe]; exact ⟨⟨(-6), (), rfl, (by decide), ⟨(0), f_m0_lines, f_m0_hours, f_m0_courts, f_m0_in, f_m0_gates, f_m0_gate, f_m0_people, f_m0_at0, f_m0_stray, f_m0_set, f_m0_truth, f_m0_known, b_f_m0_hours, b_f_m0_courts, b_f_m0_in, b_f_m0_gates, b_f_m0_gate, b_f_m0_people, b_f_m0_at0, b_f_m0_stray, b_f_m0_set, b_f_m0_known, (by first | omega | assumption), z_ret hP hK hD ht hW [0, 1, 2, 3, 4, 5, 6, 7, 8, 9, 10, 11, 12, 13] [] rfl (by decide) rfl⟩⟩, hS.F ht⟩) hS.2.2 dX10_back_31
  · have ic_3 := zz_nne rfl (show Int32.toInt 0 = 0 from by decide) c_3
    refine lv_bipush (v := (-2)) hx hb dX10_back_17 (by decide) ?_
    exact W.iret (v := (-2)) hx hb hr (fun t ht hW => by rw [← hQe]; exact ⟨⟨(-2), (), rfl, (by decide), ⟨(0), f_m0_lines, f_m0_hours, f_m0_courts, f_m0_in, f_m0_gates, f_m0_gate, f_m0_people, f_m0_at0, f_m0_stray, f_m0_set, f_m0_truth, f_m0_known, b_f_m0_hours, b_f_m0_courts, b_f_m0_in, b_f_m0_gates, b_f_m0_gate, b_f_m0_people, b_f_m0_at0, b_f_m0_stray, b_f_m0_set, b_f_m0_known, (by first | omega | assumption), z_ret hP hK hD ht hW [0, 1, 2, 3, 4, 5, 6, 7, 8, 9, 10, 11, 12, 13] [] rfl (by decide) rfl⟩⟩, hS.F ht⟩) hS.2.2 dX10_back_19
