set_option linter.all false
theorem zw_s5_8 : Cond.selects RX10 yX10_copyTown yX10_copyTown ∈ zT := zs_5 (List.mem_of_getElem? (i := 8) (by decide +kernel))
theorem zw_t6_129 : Cond.fieldLink RX10 71 "NameGateModel" "isKept" "[Z" ∈ zT := zt_6 (List.mem_of_getElem? (i := 129) (by decide +kernel)) (by decide +kernel)
theorem zw_t7_150 : Cond.methodLink RX10 257 yX10_copyTown ∈ zT := zt_7 (List.mem_of_getElem? (i := 150) (by decide +kernel)) (by decide +kernel)
theorem zw_t7_152 : Cond.instanceMethod yX10_copyTown ∈ zT := zt_7 (List.mem_of_getElem? (i := 152) (by decide +kernel)) (by decide +kernel)
theorem zw_t7_153 : Cond.code yX10_copyTown cX10_copyTown 3 none ∈ zT := zt_7 (List.mem_of_getElem? (i := 153) (by decide +kernel)) (by decide +kernel)
theorem zw_t7_154 : Cond.methodLink RX10 261 yX10_copyRow ∈ zT := zt_7 (List.mem_of_getElem? (i := 154) (by decide +kernel)) (by decide +kernel)
theorem zw_t7_155 : Cond.static yX10_copyRow ∈ zT := zt_7 (List.mem_of_getElem? (i := 155) (by decide +kernel)) (by decide +kernel)
theorem zw_t7_156 : Cond.code yX10_copyRow cX10_copyRow 5 none ∈ zT := zt_7 (List.mem_of_getElem? (i := 156) (by decide +kernel)) (by decide +kernel)
def bcX10_back_0 : List Nat := [42, 3, 181, 0, 114, 27, 133, 9, 20, 1, 85, 184, 0, 119, 154, 0, 6, 16, 254, 172, 42, 180, 0, 71, 27, 51, 154, 0, 6, 16, 250, 172, 42, 4, 27, 96, 3, 182, 1, 1, 3, 172]
theorem bcX10_back_0_ok : z_bys cX10_back 0 bcX10_back_0 = true := by decide +kernel
theorem dX10_back_0 : decode cX10_back 0 = .ok (.aload_n 0, 1) := zo_42 (z_byk bcX10_back_0 0 0 _ bcX10_back_0_ok rfl)
theorem dX10_back_1 : decode cX10_back 1 = .ok (.iconst 0, 1) := zo_3 (z_byk bcX10_back_0 0 1 _ bcX10_back_0_ok rfl)
theorem dX10_back_11 : decode cX10_back 11 = .ok (.invokestatic 119, 3) := zo_184 (z_byk bcX10_back_0 0 11 _ bcX10_back_0_ok rfl) (z_byk bcX10_back_0 0 12 _ bcX10_back_0_ok rfl) (z_byk bcX10_back_0 0 13 _ bcX10_back_0_ok rfl) rfl
theorem dX10_back_14 : decode cX10_back 14 = .ok (.ifCond .ne 6, 3) := zo_154 (z_byk bcX10_back_0 0 14 _ bcX10_back_0_ok rfl) (z_byk bcX10_back_0 0 15 _ bcX10_back_0_ok rfl) (z_byk bcX10_back_0 0 16 _ bcX10_back_0_ok rfl) rfl
theorem dX10_back_17 : decode cX10_back 17 = .ok (.bipush (-2), 2) := zo_16 (z_byk bcX10_back_0 0 17 _ bcX10_back_0_ok rfl) (z_byk bcX10_back_0 0 18 _ bcX10_back_0_ok rfl) rfl
theorem dX10_back_19 : decode cX10_back 19 = .ok (.ireturn, 1) := zo_172 (z_byk bcX10_back_0 0 19 _ bcX10_back_0_ok rfl)
theorem dX10_back_2 : decode cX10_back 2 = .ok (.putfield 114, 3) := zo_181 (z_byk bcX10_back_0 0 2 _ bcX10_back_0_ok rfl) (z_byk bcX10_back_0 0 3 _ bcX10_back_0_ok rfl) (z_byk bcX10_back_0 0 4 _ bcX10_back_0_ok rfl) rfl
theorem dX10_back_20 : decode cX10_back 20 = .ok (.aload_n 0, 1) := zo_42 (z_byk bcX10_back_0 0 20 _ bcX10_back_0_ok rfl)
theorem dX10_back_21 : decode cX10_back 21 = .ok (.getfield 71, 3) := zo_180 (z_byk bcX10_back_0 0 21 _ bcX10_back_0_ok rfl) (z_byk bcX10_back_0 0 22 _ bcX10_back_0_ok rfl) (z_byk bcX10_back_0 0 23 _ bcX10_back_0_ok rfl) rfl
theorem dX10_back_24 : decode cX10_back 24 = .ok (.iload_n 1, 1) := zo_27 (z_byk bcX10_back_0 0 24 _ bcX10_back_0_ok rfl)
theorem dX10_back_25 : decode cX10_back 25 = .ok (.baload, 1) := zo_51 (z_byk bcX10_back_0 0 25 _ bcX10_back_0_ok rfl)
theorem dX10_back_26 : decode cX10_back 26 = .ok (.ifCond .ne 6, 3) := zo_154 (z_byk bcX10_back_0 0 26 _ bcX10_back_0_ok rfl) (z_byk bcX10_back_0 0 27 _ bcX10_back_0_ok rfl) (z_byk bcX10_back_0 0 28 _ bcX10_back_0_ok rfl) rfl
theorem dX10_back_29 : decode cX10_back 29 = .ok (.bipush (-6), 2) := zo_16 (z_byk bcX10_back_0 0 29 _ bcX10_back_0_ok rfl) (z_byk bcX10_back_0 0 30 _ bcX10_back_0_ok rfl) rfl
theorem dX10_back_31 : decode cX10_back 31 = .ok (.ireturn, 1) := zo_172 (z_byk bcX10_back_0 0 31 _ bcX10_back_0_ok rfl)
theorem dX10_back_32 : decode cX10_back 32 = .ok (.aload_n 0, 1) := zo_42 (z_byk bcX10_back_0 0 32 _ bcX10_back_0_ok rfl)
theorem dX10_back_33 : decode cX10_back 33 = .ok (.iconst 1, 1) := zo_4 (z_byk bcX10_back_0 0 33 _ bcX10_back_0_ok rfl)
theorem dX10_back_34 : decode cX10_back 34 = .ok (.iload_n 1, 1) := zo_27 (z_byk bcX10_back_0 0 34 _ bcX10_back_0_ok rfl)
theorem dX10_back_35 : decode cX10_back 35 = .ok (.iadd, 1) := zo_96 (z_byk bcX10_back_0 0 35 _ bcX10_back_0_ok rfl)
theorem dX10_back_36 : decode cX10_back 36 = .ok (.iconst 0, 1) := zo_3 (z_byk bcX10_back_0 0 36 _ bcX10_back_0_ok rfl)
theorem dX10_back_37 : decode cX10_back 37 = .ok (.invokevirtual 257, 3) := zo_182 (z_byk bcX10_back_0 0 37 _ bcX10_back_0_ok rfl) (z_byk bcX10_back_0 0 38 _ bcX10_back_0_ok rfl) (z_byk bcX10_back_0 0 39 _ bcX10_back_0_ok rfl) rfl
theorem dX10_back_40 : decode cX10_back 40 = .ok (.iconst 0, 1) := zo_3 (z_byk bcX10_back_0 0 40 _ bcX10_back_0_ok rfl)
theorem dX10_back_41 : decode cX10_back 41 = .ok (.ireturn, 1) := zo_172 (z_byk bcX10_back_0 0 41 _ bcX10_back_0_ok rfl)
theorem dX10_back_5 : decode cX10_back 5 = .ok (.iload_n 1, 1) := zo_27 (z_byk bcX10_back_0 0 5 _ bcX10_back_0_ok rfl)
theorem dX10_back_6 : decode cX10_back 6 = .ok (.i2l, 1) := zo_133 (z_byk bcX10_back_0 0 6 _ bcX10_back_0_ok rfl)
theorem dX10_back_7 : decode cX10_back 7 = .ok (.lconst 0, 1) := zo_9 (z_byk bcX10_back_0 0 7 _ bcX10_back_0_ok rfl)
theorem dX10_back_8 : decode cX10_back 8 = .ok (.ldc2_w 341, 3) := zo_20 (z_byk bcX10_back_0 0 8 _ bcX10_back_0_ok rfl) (z_byk bcX10_back_0 0 9 _ bcX10_back_0_ok rfl) (z_byk bcX10_back_0 0 10 _ bcX10_back_0_ok rfl) rfl
def bcX10_copyRow_0 : List Nat := [3, 54, 4, 21, 4, 27, 162, 0, 25, 42, 27, 29, 104, 21, 4, 96, 42, 27, 28, 104, 21, 4, 96, 46, 79, 132, 4, 1, 167, 255, 231, 177]
theorem bcX10_copyRow_0_ok : z_bys cX10_copyRow 0 bcX10_copyRow_0 = true := by decide +kernel
theorem dX10_copyRow_0 : decode cX10_copyRow 0 = .ok (.iconst 0, 1) := zo_3 (z_byk bcX10_copyRow_0 0 0 _ bcX10_copyRow_0_ok rfl)
theorem dX10_copyRow_1 : decode cX10_copyRow 1 = .ok (.istore 4, 2) := zo_54 (z_byk bcX10_copyRow_0 0 1 _ bcX10_copyRow_0_ok rfl) (z_byk bcX10_copyRow_0 0 2 _ bcX10_copyRow_0_ok rfl)
theorem dX10_copyRow_10 : decode cX10_copyRow 10 = .ok (.iload_n 1, 1) := zo_27 (z_byk bcX10_copyRow_0 0 10 _ bcX10_copyRow_0_ok rfl)
theorem dX10_copyRow_11 : decode cX10_copyRow 11 = .ok (.iload_n 3, 1) := zo_29 (z_byk bcX10_copyRow_0 0 11 _ bcX10_copyRow_0_ok rfl)
theorem dX10_copyRow_12 : decode cX10_copyRow 12 = .ok (.imul, 1) := zo_104 (z_byk bcX10_copyRow_0 0 12 _ bcX10_copyRow_0_ok rfl)
theorem dX10_copyRow_13 : decode cX10_copyRow 13 = .ok (.iload 4, 2) := zo_21 (z_byk bcX10_copyRow_0 0 13 _ bcX10_copyRow_0_ok rfl) (z_byk bcX10_copyRow_0 0 14 _ bcX10_copyRow_0_ok rfl)
theorem dX10_copyRow_15 : decode cX10_copyRow 15 = .ok (.iadd, 1) := zo_96 (z_byk bcX10_copyRow_0 0 15 _ bcX10_copyRow_0_ok rfl)
theorem dX10_copyRow_16 : decode cX10_copyRow 16 = .ok (.aload_n 0, 1) := zo_42 (z_byk bcX10_copyRow_0 0 16 _ bcX10_copyRow_0_ok rfl)
theorem dX10_copyRow_17 : decode cX10_copyRow 17 = .ok (.iload_n 1, 1) := zo_27 (z_byk bcX10_copyRow_0 0 17 _ bcX10_copyRow_0_ok rfl)
theorem dX10_copyRow_18 : decode cX10_copyRow 18 = .ok (.iload_n 2, 1) := zo_28 (z_byk bcX10_copyRow_0 0 18 _ bcX10_copyRow_0_ok rfl)
theorem dX10_copyRow_19 : decode cX10_copyRow 19 = .ok (.imul, 1) := zo_104 (z_byk bcX10_copyRow_0 0 19 _ bcX10_copyRow_0_ok rfl)
theorem dX10_copyRow_20 : decode cX10_copyRow 20 = .ok (.iload 4, 2) := zo_21 (z_byk bcX10_copyRow_0 0 20 _ bcX10_copyRow_0_ok rfl) (z_byk bcX10_copyRow_0 0 21 _ bcX10_copyRow_0_ok rfl)
theorem dX10_copyRow_22 : decode cX10_copyRow 22 = .ok (.iadd, 1) := zo_96 (z_byk bcX10_copyRow_0 0 22 _ bcX10_copyRow_0_ok rfl)
theorem dX10_copyRow_23 : decode cX10_copyRow 23 = .ok (.iaload, 1) := zo_46 (z_byk bcX10_copyRow_0 0 23 _ bcX10_copyRow_0_ok rfl)
theorem dX10_copyRow_24 : decode cX10_copyRow 24 = .ok (.iastore, 1) := zo_79 (z_byk bcX10_copyRow_0 0 24 _ bcX10_copyRow_0_ok rfl)
theorem dX10_copyRow_25 : decode cX10_copyRow 25 = .ok (.iinc 4 1, 3) := zo_132 (z_byk bcX10_copyRow_0 0 25 _ bcX10_copyRow_0_ok rfl) (z_byk bcX10_copyRow_0 0 26 _ bcX10_copyRow_0_ok rfl) (z_byk bcX10_copyRow_0 0 27 _ bcX10_copyRow_0_ok rfl) rfl
theorem dX10_copyRow_28 : decode cX10_copyRow 28 = .ok (.goto (-25), 3) := zo_167 (z_byk bcX10_copyRow_0 0 28 _ bcX10_copyRow_0_ok rfl) (z_byk bcX10_copyRow_0 0 29 _ bcX10_copyRow_0_ok rfl) (z_byk bcX10_copyRow_0 0 30 _ bcX10_copyRow_0_ok rfl) rfl
theorem dX10_copyRow_3 : decode cX10_copyRow 3 = .ok (.iload 4, 2) := zo_21 (z_byk bcX10_copyRow_0 0 3 _ bcX10_copyRow_0_ok rfl) (z_byk bcX10_copyRow_0 0 4 _ bcX10_copyRow_0_ok rfl)
theorem dX10_copyRow_31 : decode cX10_copyRow 31 = .ok (.return_, 1) := zo_177 (z_byk bcX10_copyRow_0 0 31 _ bcX10_copyRow_0_ok rfl)
theorem dX10_copyRow_5 : decode cX10_copyRow 5 = .ok (.iload_n 1, 1) := zo_27 (z_byk bcX10_copyRow_0 0 5 _ bcX10_copyRow_0_ok rfl)
theorem dX10_copyRow_6 : decode cX10_copyRow 6 = .ok (.if_icmp .ge 25, 3) := zo_162 (z_byk bcX10_copyRow_0 0 6 _ bcX10_copyRow_0_ok rfl) (z_byk bcX10_copyRow_0 0 7 _ bcX10_copyRow_0_ok rfl) (z_byk bcX10_copyRow_0 0 8 _ bcX10_copyRow_0_ok rfl) rfl
theorem dX10_copyRow_9 : decode cX10_copyRow 9 = .ok (.aload_n 0, 1) := zo_42 (z_byk bcX10_copyRow_0 0 9 _ bcX10_copyRow_0_ok rfl)
def bcX10_copyTown_0 : List Nat := [42, 180, 0, 31, 4, 27, 28, 184, 1, 5, 42, 180, 0, 34, 4, 27, 28, 184, 1, 5, 42, 180, 0, 37, 4, 27, 28, 184, 1, 5, 42, 180, 0, 40, 16, 10, 27, 28, 184, 1, 5, 42, 180, 0, 43, 4, 27, 28, 184, 1, 5, 42, 180, 0, 46, 16, 32, 27, 28, 184]
theorem bcX10_copyTown_0_ok : z_bys cX10_copyTown 0 bcX10_copyTown_0 = true := by decide +kernel
def bcX10_copyTown_60 : List Nat := [1, 5, 42, 180, 0, 49, 4, 27, 28, 184, 1, 5, 42, 180, 0, 52, 17, 1, 224, 27, 28, 184, 1, 5, 42, 180, 0, 55, 16, 20, 27, 28, 184, 1, 5, 42, 180, 0, 58, 5, 27, 28, 184, 1, 5, 42, 180, 0, 65, 5, 27, 28, 184, 1, 5, 42, 180, 0, 68, 16]
theorem bcX10_copyTown_60_ok : z_bys cX10_copyTown 60 bcX10_copyTown_60 = true := by decide +kernel
def bcX10_copyTown_120 : List Nat := [10, 27, 28, 184, 1, 5, 177]
theorem bcX10_copyTown_120_ok : z_bys cX10_copyTown 120 bcX10_copyTown_120 = true := by decide +kernel
theorem dX10_copyTown_0 : decode cX10_copyTown 0 = .ok (.aload_n 0, 1) := zo_42 (z_byk bcX10_copyTown_0 0 0 _ bcX10_copyTown_0_ok rfl)
theorem dX10_copyTown_1 : decode cX10_copyTown 1 = .ok (.getfield 31, 3) := zo_180 (z_byk bcX10_copyTown_0 0 1 _ bcX10_copyTown_0_ok rfl) (z_byk bcX10_copyTown_0 0 2 _ bcX10_copyTown_0_ok rfl) (z_byk bcX10_copyTown_0 0 3 _ bcX10_copyTown_0_ok rfl) rfl
theorem dX10_copyTown_10 : decode cX10_copyTown 10 = .ok (.aload_n 0, 1) := zo_42 (z_byk bcX10_copyTown_0 0 10 _ bcX10_copyTown_0_ok rfl)
theorem dX10_copyTown_100 : decode cX10_copyTown 100 = .ok (.iload_n 1, 1) := zo_27 (z_byk bcX10_copyTown_60 60 40 _ bcX10_copyTown_60_ok rfl)
theorem dX10_copyTown_101 : decode cX10_copyTown 101 = .ok (.iload_n 2, 1) := zo_28 (z_byk bcX10_copyTown_60 60 41 _ bcX10_copyTown_60_ok rfl)
theorem dX10_copyTown_102 : decode cX10_copyTown 102 = .ok (.invokestatic 261, 3) := zo_184 (z_byk bcX10_copyTown_60 60 42 _ bcX10_copyTown_60_ok rfl) (z_byk bcX10_copyTown_60 60 43 _ bcX10_copyTown_60_ok rfl) (z_byk bcX10_copyTown_60 60 44 _ bcX10_copyTown_60_ok rfl) rfl
theorem dX10_copyTown_105 : decode cX10_copyTown 105 = .ok (.aload_n 0, 1) := zo_42 (z_byk bcX10_copyTown_60 60 45 _ bcX10_copyTown_60_ok rfl)
theorem dX10_copyTown_106 : decode cX10_copyTown 106 = .ok (.getfield 65, 3) := zo_180 (z_byk bcX10_copyTown_60 60 46 _ bcX10_copyTown_60_ok rfl) (z_byk bcX10_copyTown_60 60 47 _ bcX10_copyTown_60_ok rfl) (z_byk bcX10_copyTown_60 60 48 _ bcX10_copyTown_60_ok rfl) rfl
theorem dX10_copyTown_109 : decode cX10_copyTown 109 = .ok (.iconst 2, 1) := zo_5 (z_byk bcX10_copyTown_60 60 49 _ bcX10_copyTown_60_ok rfl)
theorem dX10_copyTown_11 : decode cX10_copyTown 11 = .ok (.getfield 34, 3) := zo_180 (z_byk bcX10_copyTown_0 0 11 _ bcX10_copyTown_0_ok rfl) (z_byk bcX10_copyTown_0 0 12 _ bcX10_copyTown_0_ok rfl) (z_byk bcX10_copyTown_0 0 13 _ bcX10_copyTown_0_ok rfl) rfl
theorem dX10_copyTown_110 : decode cX10_copyTown 110 = .ok (.iload_n 1, 1) := zo_27 (z_byk bcX10_copyTown_60 60 50 _ bcX10_copyTown_60_ok rfl)
theorem dX10_copyTown_111 : decode cX10_copyTown 111 = .ok (.iload_n 2, 1) := zo_28 (z_byk bcX10_copyTown_60 60 51 _ bcX10_copyTown_60_ok rfl)
theorem dX10_copyTown_112 : decode cX10_copyTown 112 = .ok (.invokestatic 261, 3) := zo_184 (z_byk bcX10_copyTown_60 60 52 _ bcX10_copyTown_60_ok rfl) (z_byk bcX10_copyTown_60 60 53 _ bcX10_copyTown_60_ok rfl) (z_byk bcX10_copyTown_60 60 54 _ bcX10_copyTown_60_ok rfl) rfl
theorem dX10_copyTown_115 : decode cX10_copyTown 115 = .ok (.aload_n 0, 1) := zo_42 (z_byk bcX10_copyTown_60 60 55 _ bcX10_copyTown_60_ok rfl)
theorem dX10_copyTown_116 : decode cX10_copyTown 116 = .ok (.getfield 68, 3) := zo_180 (z_byk bcX10_copyTown_60 60 56 _ bcX10_copyTown_60_ok rfl) (z_byk bcX10_copyTown_60 60 57 _ bcX10_copyTown_60_ok rfl) (z_byk bcX10_copyTown_60 60 58 _ bcX10_copyTown_60_ok rfl) rfl
theorem dX10_copyTown_119 : decode cX10_copyTown 119 = .ok (.bipush 10, 2) := zo_16 (z_byk bcX10_copyTown_60 60 59 _ bcX10_copyTown_60_ok rfl) (z_byk bcX10_copyTown_120 120 0 _ bcX10_copyTown_120_ok rfl) rfl
theorem dX10_copyTown_121 : decode cX10_copyTown 121 = .ok (.iload_n 1, 1) := zo_27 (z_byk bcX10_copyTown_120 120 1 _ bcX10_copyTown_120_ok rfl)
theorem dX10_copyTown_122 : decode cX10_copyTown 122 = .ok (.iload_n 2, 1) := zo_28 (z_byk bcX10_copyTown_120 120 2 _ bcX10_copyTown_120_ok rfl)
theorem dX10_copyTown_123 : decode cX10_copyTown 123 = .ok (.invokestatic 261, 3) := zo_184 (z_byk bcX10_copyTown_120 120 3 _ bcX10_copyTown_120_ok rfl) (z_byk bcX10_copyTown_120 120 4 _ bcX10_copyTown_120_ok rfl) (z_byk bcX10_copyTown_120 120 5 _ bcX10_copyTown_120_ok rfl) rfl
theorem dX10_copyTown_126 : decode cX10_copyTown 126 = .ok (.return_, 1) := zo_177 (z_byk bcX10_copyTown_120 120 6 _ bcX10_copyTown_120_ok rfl)
theorem dX10_copyTown_14 : decode cX10_copyTown 14 = .ok (.iconst 1, 1) := zo_4 (z_byk bcX10_copyTown_0 0 14 _ bcX10_copyTown_0_ok rfl)
theorem dX10_copyTown_15 : decode cX10_copyTown 15 = .ok (.iload_n 1, 1) := zo_27 (z_byk bcX10_copyTown_0 0 15 _ bcX10_copyTown_0_ok rfl)
theorem dX10_copyTown_16 : decode cX10_copyTown 16 = .ok (.iload_n 2, 1) := zo_28 (z_byk bcX10_copyTown_0 0 16 _ bcX10_copyTown_0_ok rfl)
theorem dX10_copyTown_17 : decode cX10_copyTown 17 = .ok (.invokestatic 261, 3) := zo_184 (z_byk bcX10_copyTown_0 0 17 _ bcX10_copyTown_0_ok rfl) (z_byk bcX10_copyTown_0 0 18 _ bcX10_copyTown_0_ok rfl) (z_byk bcX10_copyTown_0 0 19 _ bcX10_copyTown_0_ok rfl) rfl
theorem dX10_copyTown_20 : decode cX10_copyTown 20 = .ok (.aload_n 0, 1) := zo_42 (z_byk bcX10_copyTown_0 0 20 _ bcX10_copyTown_0_ok rfl)
theorem dX10_copyTown_21 : decode cX10_copyTown 21 = .ok (.getfield 37, 3) := zo_180 (z_byk bcX10_copyTown_0 0 21 _ bcX10_copyTown_0_ok rfl) (z_byk bcX10_copyTown_0 0 22 _ bcX10_copyTown_0_ok rfl) (z_byk bcX10_copyTown_0 0 23 _ bcX10_copyTown_0_ok rfl) rfl
theorem dX10_copyTown_24 : decode cX10_copyTown 24 = .ok (.iconst 1, 1) := zo_4 (z_byk bcX10_copyTown_0 0 24 _ bcX10_copyTown_0_ok rfl)
theorem dX10_copyTown_25 : decode cX10_copyTown 25 = .ok (.iload_n 1, 1) := zo_27 (z_byk bcX10_copyTown_0 0 25 _ bcX10_copyTown_0_ok rfl)
theorem dX10_copyTown_26 : decode cX10_copyTown 26 = .ok (.iload_n 2, 1) := zo_28 (z_byk bcX10_copyTown_0 0 26 _ bcX10_copyTown_0_ok rfl)
theorem dX10_copyTown_27 : decode cX10_copyTown 27 = .ok (.invokestatic 261, 3) := zo_184 (z_byk bcX10_copyTown_0 0 27 _ bcX10_copyTown_0_ok rfl) (z_byk bcX10_copyTown_0 0 28 _ bcX10_copyTown_0_ok rfl) (z_byk bcX10_copyTown_0 0 29 _ bcX10_copyTown_0_ok rfl) rfl
theorem dX10_copyTown_30 : decode cX10_copyTown 30 = .ok (.aload_n 0, 1) := zo_42 (z_byk bcX10_copyTown_0 0 30 _ bcX10_copyTown_0_ok rfl)
theorem dX10_copyTown_31 : decode cX10_copyTown 31 = .ok (.getfield 40, 3) := zo_180 (z_byk bcX10_copyTown_0 0 31 _ bcX10_copyTown_0_ok rfl) (z_byk bcX10_copyTown_0 0 32 _ bcX10_copyTown_0_ok rfl) (z_byk bcX10_copyTown_0 0 33 _ bcX10_copyTown_0_ok rfl) rfl
theorem dX10_copyTown_34 : decode cX10_copyTown 34 = .ok (.bipush 10, 2) := zo_16 (z_byk bcX10_copyTown_0 0 34 _ bcX10_copyTown_0_ok rfl) (z_byk bcX10_copyTown_0 0 35 _ bcX10_copyTown_0_ok rfl) rfl
theorem dX10_copyTown_36 : decode cX10_copyTown 36 = .ok (.iload_n 1, 1) := zo_27 (z_byk bcX10_copyTown_0 0 36 _ bcX10_copyTown_0_ok rfl)
theorem dX10_copyTown_37 : decode cX10_copyTown 37 = .ok (.iload_n 2, 1) := zo_28 (z_byk bcX10_copyTown_0 0 37 _ bcX10_copyTown_0_ok rfl)
theorem dX10_copyTown_38 : decode cX10_copyTown 38 = .ok (.invokestatic 261, 3) := zo_184 (z_byk bcX10_copyTown_0 0 38 _ bcX10_copyTown_0_ok rfl) (z_byk bcX10_copyTown_0 0 39 _ bcX10_copyTown_0_ok rfl) (z_byk bcX10_copyTown_0 0 40 _ bcX10_copyTown_0_ok rfl) rfl
theorem dX10_copyTown_4 : decode cX10_copyTown 4 = .ok (.iconst 1, 1) := zo_4 (z_byk bcX10_copyTown_0 0 4 _ bcX10_copyTown_0_ok rfl)
theorem dX10_copyTown_41 : decode cX10_copyTown 41 = .ok (.aload_n 0, 1) := zo_42 (z_byk bcX10_copyTown_0 0 41 _ bcX10_copyTown_0_ok rfl)
theorem dX10_copyTown_42 : decode cX10_copyTown 42 = .ok (.getfield 43, 3) := zo_180 (z_byk bcX10_copyTown_0 0 42 _ bcX10_copyTown_0_ok rfl) (z_byk bcX10_copyTown_0 0 43 _ bcX10_copyTown_0_ok rfl) (z_byk bcX10_copyTown_0 0 44 _ bcX10_copyTown_0_ok rfl) rfl
theorem dX10_copyTown_45 : decode cX10_copyTown 45 = .ok (.iconst 1, 1) := zo_4 (z_byk bcX10_copyTown_0 0 45 _ bcX10_copyTown_0_ok rfl)
theorem dX10_copyTown_46 : decode cX10_copyTown 46 = .ok (.iload_n 1, 1) := zo_27 (z_byk bcX10_copyTown_0 0 46 _ bcX10_copyTown_0_ok rfl)
theorem dX10_copyTown_47 : decode cX10_copyTown 47 = .ok (.iload_n 2, 1) := zo_28 (z_byk bcX10_copyTown_0 0 47 _ bcX10_copyTown_0_ok rfl)
theorem dX10_copyTown_48 : decode cX10_copyTown 48 = .ok (.invokestatic 261, 3) := zo_184 (z_byk bcX10_copyTown_0 0 48 _ bcX10_copyTown_0_ok rfl) (z_byk bcX10_copyTown_0 0 49 _ bcX10_copyTown_0_ok rfl) (z_byk bcX10_copyTown_0 0 50 _ bcX10_copyTown_0_ok rfl) rfl
theorem dX10_copyTown_5 : decode cX10_copyTown 5 = .ok (.iload_n 1, 1) := zo_27 (z_byk bcX10_copyTown_0 0 5 _ bcX10_copyTown_0_ok rfl)
theorem dX10_copyTown_51 : decode cX10_copyTown 51 = .ok (.aload_n 0, 1) := zo_42 (z_byk bcX10_copyTown_0 0 51 _ bcX10_copyTown_0_ok rfl)
theorem dX10_copyTown_52 : decode cX10_copyTown 52 = .ok (.getfield 46, 3) := zo_180 (z_byk bcX10_copyTown_0 0 52 _ bcX10_copyTown_0_ok rfl) (z_byk bcX10_copyTown_0 0 53 _ bcX10_copyTown_0_ok rfl) (z_byk bcX10_copyTown_0 0 54 _ bcX10_copyTown_0_ok rfl) rfl
theorem dX10_copyTown_55 : decode cX10_copyTown 55 = .ok (.bipush 32, 2) := zo_16 (z_byk bcX10_copyTown_0 0 55 _ bcX10_copyTown_0_ok rfl) (z_byk bcX10_copyTown_0 0 56 _ bcX10_copyTown_0_ok rfl) rfl
theorem dX10_copyTown_57 : decode cX10_copyTown 57 = .ok (.iload_n 1, 1) := zo_27 (z_byk bcX10_copyTown_0 0 57 _ bcX10_copyTown_0_ok rfl)
theorem dX10_copyTown_58 : decode cX10_copyTown 58 = .ok (.iload_n 2, 1) := zo_28 (z_byk bcX10_copyTown_0 0 58 _ bcX10_copyTown_0_ok rfl)
theorem dX10_copyTown_59 : decode cX10_copyTown 59 = .ok (.invokestatic 261, 3) := zo_184 (z_byk bcX10_copyTown_0 0 59 _ bcX10_copyTown_0_ok rfl) (z_byk bcX10_copyTown_60 60 0 _ bcX10_copyTown_60_ok rfl) (z_byk bcX10_copyTown_60 60 1 _ bcX10_copyTown_60_ok rfl) rfl
theorem dX10_copyTown_6 : decode cX10_copyTown 6 = .ok (.iload_n 2, 1) := zo_28 (z_byk bcX10_copyTown_0 0 6 _ bcX10_copyTown_0_ok rfl)
theorem dX10_copyTown_62 : decode cX10_copyTown 62 = .ok (.aload_n 0, 1) := zo_42 (z_byk bcX10_copyTown_60 60 2 _ bcX10_copyTown_60_ok rfl)
theorem dX10_copyTown_63 : decode cX10_copyTown 63 = .ok (.getfield 49, 3) := zo_180 (z_byk bcX10_copyTown_60 60 3 _ bcX10_copyTown_60_ok rfl) (z_byk bcX10_copyTown_60 60 4 _ bcX10_copyTown_60_ok rfl) (z_byk bcX10_copyTown_60 60 5 _ bcX10_copyTown_60_ok rfl) rfl
theorem dX10_copyTown_66 : decode cX10_copyTown 66 = .ok (.iconst 1, 1) := zo_4 (z_byk bcX10_copyTown_60 60 6 _ bcX10_copyTown_60_ok rfl)
theorem dX10_copyTown_67 : decode cX10_copyTown 67 = .ok (.iload_n 1, 1) := zo_27 (z_byk bcX10_copyTown_60 60 7 _ bcX10_copyTown_60_ok rfl)
theorem dX10_copyTown_68 : decode cX10_copyTown 68 = .ok (.iload_n 2, 1) := zo_28 (z_byk bcX10_copyTown_60 60 8 _ bcX10_copyTown_60_ok rfl)
theorem dX10_copyTown_69 : decode cX10_copyTown 69 = .ok (.invokestatic 261, 3) := zo_184 (z_byk bcX10_copyTown_60 60 9 _ bcX10_copyTown_60_ok rfl) (z_byk bcX10_copyTown_60 60 10 _ bcX10_copyTown_60_ok rfl) (z_byk bcX10_copyTown_60 60 11 _ bcX10_copyTown_60_ok rfl) rfl
theorem dX10_copyTown_7 : decode cX10_copyTown 7 = .ok (.invokestatic 261, 3) := zo_184 (z_byk bcX10_copyTown_0 0 7 _ bcX10_copyTown_0_ok rfl) (z_byk bcX10_copyTown_0 0 8 _ bcX10_copyTown_0_ok rfl) (z_byk bcX10_copyTown_0 0 9 _ bcX10_copyTown_0_ok rfl) rfl
theorem dX10_copyTown_72 : decode cX10_copyTown 72 = .ok (.aload_n 0, 1) := zo_42 (z_byk bcX10_copyTown_60 60 12 _ bcX10_copyTown_60_ok rfl)
theorem dX10_copyTown_73 : decode cX10_copyTown 73 = .ok (.getfield 52, 3) := zo_180 (z_byk bcX10_copyTown_60 60 13 _ bcX10_copyTown_60_ok rfl) (z_byk bcX10_copyTown_60 60 14 _ bcX10_copyTown_60_ok rfl) (z_byk bcX10_copyTown_60 60 15 _ bcX10_copyTown_60_ok rfl) rfl
theorem dX10_copyTown_76 : decode cX10_copyTown 76 = .ok (.sipush 480, 3) := zo_17 (z_byk bcX10_copyTown_60 60 16 _ bcX10_copyTown_60_ok rfl) (z_byk bcX10_copyTown_60 60 17 _ bcX10_copyTown_60_ok rfl) (z_byk bcX10_copyTown_60 60 18 _ bcX10_copyTown_60_ok rfl) rfl
theorem dX10_copyTown_79 : decode cX10_copyTown 79 = .ok (.iload_n 1, 1) := zo_27 (z_byk bcX10_copyTown_60 60 19 _ bcX10_copyTown_60_ok rfl)
theorem dX10_copyTown_80 : decode cX10_copyTown 80 = .ok (.iload_n 2, 1) := zo_28 (z_byk bcX10_copyTown_60 60 20 _ bcX10_copyTown_60_ok rfl)
theorem dX10_copyTown_81 : decode cX10_copyTown 81 = .ok (.invokestatic 261, 3) := zo_184 (z_byk bcX10_copyTown_60 60 21 _ bcX10_copyTown_60_ok rfl) (z_byk bcX10_copyTown_60 60 22 _ bcX10_copyTown_60_ok rfl) (z_byk bcX10_copyTown_60 60 23 _ bcX10_copyTown_60_ok rfl) rfl
theorem dX10_copyTown_84 : decode cX10_copyTown 84 = .ok (.aload_n 0, 1) := zo_42 (z_byk bcX10_copyTown_60 60 24 _ bcX10_copyTown_60_ok rfl)
theorem dX10_copyTown_85 : decode cX10_copyTown 85 = .ok (.getfield 55, 3) := zo_180 (z_byk bcX10_copyTown_60 60 25 _ bcX10_copyTown_60_ok rfl) (z_byk bcX10_copyTown_60 60 26 _ bcX10_copyTown_60_ok rfl) (z_byk bcX10_copyTown_60 60 27 _ bcX10_copyTown_60_ok rfl) rfl
theorem dX10_copyTown_88 : decode cX10_copyTown 88 = .ok (.bipush 20, 2) := zo_16 (z_byk bcX10_copyTown_60 60 28 _ bcX10_copyTown_60_ok rfl) (z_byk bcX10_copyTown_60 60 29 _ bcX10_copyTown_60_ok rfl) rfl
theorem dX10_copyTown_90 : decode cX10_copyTown 90 = .ok (.iload_n 1, 1) := zo_27 (z_byk bcX10_copyTown_60 60 30 _ bcX10_copyTown_60_ok rfl)
theorem dX10_copyTown_91 : decode cX10_copyTown 91 = .ok (.iload_n 2, 1) := zo_28 (z_byk bcX10_copyTown_60 60 31 _ bcX10_copyTown_60_ok rfl)
theorem dX10_copyTown_92 : decode cX10_copyTown 92 = .ok (.invokestatic 261, 3) := zo_184 (z_byk bcX10_copyTown_60 60 32 _ bcX10_copyTown_60_ok rfl) (z_byk bcX10_copyTown_60 60 33 _ bcX10_copyTown_60_ok rfl) (z_byk bcX10_copyTown_60 60 34 _ bcX10_copyTown_60_ok rfl) rfl
theorem dX10_copyTown_95 : decode cX10_copyTown 95 = .ok (.aload_n 0, 1) := zo_42 (z_byk bcX10_copyTown_60 60 35 _ bcX10_copyTown_60_ok rfl)
theorem dX10_copyTown_96 : decode cX10_copyTown 96 = .ok (.getfield 58, 3) := zo_180 (z_byk bcX10_copyTown_60 60 36 _ bcX10_copyTown_60_ok rfl) (z_byk bcX10_copyTown_60 60 37 _ bcX10_copyTown_60_ok rfl) (z_byk bcX10_copyTown_60 60 38 _ bcX10_copyTown_60_ok rfl) rfl
theorem dX10_copyTown_99 : decode cX10_copyTown 99 = .ok (.iconst 2, 1) := zo_5 (z_byk bcX10_copyTown_60 60 39 _ bcX10_copyTown_60_ok rfl)
def bcX10_keep_0 : List Nat := [42, 3, 181, 0, 114, 27, 133, 9, 20, 1, 85, 184, 0, 119, 154, 0, 6, 16, 254, 172, 42, 3, 4, 27, 96, 182, 1, 1, 42, 180, 0, 71, 27, 4, 84, 3, 172]
theorem bcX10_keep_0_ok : z_bys cX10_keep 0 bcX10_keep_0 = true := by decide +kernel
theorem dX10_keep_0 : decode cX10_keep 0 = .ok (.aload_n 0, 1) := zo_42 (z_byk bcX10_keep_0 0 0 _ bcX10_keep_0_ok rfl)
theorem dX10_keep_1 : decode cX10_keep 1 = .ok (.iconst 0, 1) := zo_3 (z_byk bcX10_keep_0 0 1 _ bcX10_keep_0_ok rfl)
theorem dX10_keep_11 : decode cX10_keep 11 = .ok (.invokestatic 119, 3) := zo_184 (z_byk bcX10_keep_0 0 11 _ bcX10_keep_0_ok rfl) (z_byk bcX10_keep_0 0 12 _ bcX10_keep_0_ok rfl) (z_byk bcX10_keep_0 0 13 _ bcX10_keep_0_ok rfl) rfl
theorem dX10_keep_14 : decode cX10_keep 14 = .ok (.ifCond .ne 6, 3) := zo_154 (z_byk bcX10_keep_0 0 14 _ bcX10_keep_0_ok rfl) (z_byk bcX10_keep_0 0 15 _ bcX10_keep_0_ok rfl) (z_byk bcX10_keep_0 0 16 _ bcX10_keep_0_ok rfl) rfl
theorem dX10_keep_17 : decode cX10_keep 17 = .ok (.bipush (-2), 2) := zo_16 (z_byk bcX10_keep_0 0 17 _ bcX10_keep_0_ok rfl) (z_byk bcX10_keep_0 0 18 _ bcX10_keep_0_ok rfl) rfl
theorem dX10_keep_19 : decode cX10_keep 19 = .ok (.ireturn, 1) := zo_172 (z_byk bcX10_keep_0 0 19 _ bcX10_keep_0_ok rfl)
theorem dX10_keep_2 : decode cX10_keep 2 = .ok (.putfield 114, 3) := zo_181 (z_byk bcX10_keep_0 0 2 _ bcX10_keep_0_ok rfl) (z_byk bcX10_keep_0 0 3 _ bcX10_keep_0_ok rfl) (z_byk bcX10_keep_0 0 4 _ bcX10_keep_0_ok rfl) rfl
theorem dX10_keep_20 : decode cX10_keep 20 = .ok (.aload_n 0, 1) := zo_42 (z_byk bcX10_keep_0 0 20 _ bcX10_keep_0_ok rfl)
theorem dX10_keep_21 : decode cX10_keep 21 = .ok (.iconst 0, 1) := zo_3 (z_byk bcX10_keep_0 0 21 _ bcX10_keep_0_ok rfl)
theorem dX10_keep_22 : decode cX10_keep 22 = .ok (.iconst 1, 1) := zo_4 (z_byk bcX10_keep_0 0 22 _ bcX10_keep_0_ok rfl)
theorem dX10_keep_23 : decode cX10_keep 23 = .ok (.iload_n 1, 1) := zo_27 (z_byk bcX10_keep_0 0 23 _ bcX10_keep_0_ok rfl)
theorem dX10_keep_24 : decode cX10_keep 24 = .ok (.iadd, 1) := zo_96 (z_byk bcX10_keep_0 0 24 _ bcX10_keep_0_ok rfl)
theorem dX10_keep_25 : decode cX10_keep 25 = .ok (.invokevirtual 257, 3) := zo_182 (z_byk bcX10_keep_0 0 25 _ bcX10_keep_0_ok rfl) (z_byk bcX10_keep_0 0 26 _ bcX10_keep_0_ok rfl) (z_byk bcX10_keep_0 0 27 _ bcX10_keep_0_ok rfl) rfl
theorem dX10_keep_28 : decode cX10_keep 28 = .ok (.aload_n 0, 1) := zo_42 (z_byk bcX10_keep_0 0 28 _ bcX10_keep_0_ok rfl)
theorem dX10_keep_29 : decode cX10_keep 29 = .ok (.getfield 71, 3) := zo_180 (z_byk bcX10_keep_0 0 29 _ bcX10_keep_0_ok rfl) (z_byk bcX10_keep_0 0 30 _ bcX10_keep_0_ok rfl) (z_byk bcX10_keep_0 0 31 _ bcX10_keep_0_ok rfl) rfl
theorem dX10_keep_32 : decode cX10_keep 32 = .ok (.iload_n 1, 1) := zo_27 (z_byk bcX10_keep_0 0 32 _ bcX10_keep_0_ok rfl)
theorem dX10_keep_33 : decode cX10_keep 33 = .ok (.iconst 1, 1) := zo_4 (z_byk bcX10_keep_0 0 33 _ bcX10_keep_0_ok rfl)
theorem dX10_keep_34 : decode cX10_keep 34 = .ok (.bastore, 1) := zo_84 (z_byk bcX10_keep_0 0 34 _ bcX10_keep_0_ok rfl)
theorem dX10_keep_35 : decode cX10_keep 35 = .ok (.iconst 0, 1) := zo_3 (z_byk bcX10_keep_0 0 35 _ bcX10_keep_0_ok rfl)
theorem dX10_keep_36 : decode cX10_keep 36 = .ok (.ireturn, 1) := zo_172 (z_byk bcX10_keep_0 0 36 _ bcX10_keep_0_ok rfl)
theorem dX10_keep_5 : decode cX10_keep 5 = .ok (.iload_n 1, 1) := zo_27 (z_byk bcX10_keep_0 0 5 _ bcX10_keep_0_ok rfl)
theorem dX10_keep_6 : decode cX10_keep 6 = .ok (.i2l, 1) := zo_133 (z_byk bcX10_keep_0 0 6 _ bcX10_keep_0_ok rfl)
theorem dX10_keep_7 : decode cX10_keep 7 = .ok (.lconst 0, 1) := zo_9 (z_byk bcX10_keep_0 0 7 _ bcX10_keep_0_ok rfl)
theorem dX10_keep_8 : decode cX10_keep 8 = .ok (.ldc2_w 341, 3) := zo_20 (z_byk bcX10_keep_0 0 8 _ bcX10_keep_0_ok rfl) (z_byk bcX10_keep_0 0 9 _ bcX10_keep_0_ok rfl) (z_byk bcX10_keep_0 0 10 _ bcX10_keep_0_ok rfl) rfl
