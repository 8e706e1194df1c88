set_option linter.all false
theorem zw_s4_7 : Cond.selects RX10 yX10_clears yX10_clears ∈ zT := zs_4 (List.mem_of_getElem? (i := 7) (by decide +kernel))
theorem zw_s4_8 : Cond.selects RX10 yX10_begins yX10_begins ∈ zT := zs_4 (List.mem_of_getElem? (i := 8) (by decide +kernel))
theorem zw_s5_2 : Cond.selects RX10 yX10_line yX10_line ∈ zT := zs_5 (List.mem_of_getElem? (i := 2) (by decide +kernel))
theorem zw_s5_6 : Cond.selects RX10 yX10_ends yX10_ends ∈ zT := zs_5 (List.mem_of_getElem? (i := 6) (by decide +kernel))
theorem zw_s5_7 : Cond.selects RX10 yX10_isOver yX10_isOver ∈ zT := zs_5 (List.mem_of_getElem? (i := 7) (by decide +kernel))
theorem zw_t7_105 : Cond.constantLong RX10 246 (4562587) ∈ zT := zt_7 (List.mem_of_getElem? (i := 105) (by decide +kernel)) (by decide +kernel)
theorem zw_t7_114 : Cond.methodLink RX10 248 yX10_line ∈ zT := zt_7 (List.mem_of_getElem? (i := 114) (by decide +kernel)) (by decide +kernel)
theorem zw_t7_116 : Cond.instanceMethod yX10_line ∈ zT := zt_7 (List.mem_of_getElem? (i := 116) (by decide +kernel)) (by decide +kernel)
theorem zw_t7_117 : Cond.code yX10_line cX10_line 4 none ∈ zT := zt_7 (List.mem_of_getElem? (i := 117) (by decide +kernel)) (by decide +kernel)
theorem zw_t7_142 : Cond.methodLink RX10 251 yX10_ends ∈ zT := zt_7 (List.mem_of_getElem? (i := 142) (by decide +kernel)) (by decide +kernel)
theorem zw_t7_144 : Cond.instanceMethod yX10_ends ∈ zT := zt_7 (List.mem_of_getElem? (i := 144) (by decide +kernel)) (by decide +kernel)
theorem zw_t7_145 : Cond.code yX10_ends cX10_ends 1 none ∈ zT := zt_7 (List.mem_of_getElem? (i := 145) (by decide +kernel)) (by decide +kernel)
theorem zw_t7_146 : Cond.methodLink RX10 254 yX10_isOver ∈ zT := zt_7 (List.mem_of_getElem? (i := 146) (by decide +kernel)) (by decide +kernel)
theorem zw_t7_148 : Cond.instanceMethod yX10_isOver ∈ zT := zt_7 (List.mem_of_getElem? (i := 148) (by decide +kernel)) (by decide +kernel)
theorem zw_t7_149 : Cond.code yX10_isOver cX10_isOver 1 none ∈ zT := zt_7 (List.mem_of_getElem? (i := 149) (by decide +kernel)) (by decide +kernel)
theorem zw_t7_63 : Cond.methodLink RX10 238 yX10_clears ∈ zT := zt_7 (List.mem_of_getElem? (i := 63) (by decide +kernel)) (by decide +kernel)
theorem zw_t7_65 : Cond.instanceMethod yX10_clears ∈ zT := zt_7 (List.mem_of_getElem? (i := 65) (by decide +kernel)) (by decide +kernel)
theorem zw_t7_66 : Cond.code yX10_clears cX10_clears 2 none ∈ zT := zt_7 (List.mem_of_getElem? (i := 66) (by decide +kernel)) (by decide +kernel)
theorem zw_t7_67 : Cond.methodLink RX10 241 yX10_begins ∈ zT := zt_7 (List.mem_of_getElem? (i := 67) (by decide +kernel)) (by decide +kernel)
theorem zw_t7_69 : Cond.instanceMethod yX10_begins ∈ zT := zt_7 (List.mem_of_getElem? (i := 69) (by decide +kernel)) (by decide +kernel)
theorem zw_t7_70 : Cond.code yX10_begins cX10_begins 1 none ∈ zT := zt_7 (List.mem_of_getElem? (i := 70) (by decide +kernel)) (by decide +kernel)
theorem zw_t7_88 : Cond.constantLong RX10 244 (405230) ∈ zT := zt_7 (List.mem_of_getElem? (i := 88) (by decide +kernel)) (by decide +kernel)
def bcX10_town_0 : List Nat := [42, 3, 181, 0, 114, 42, 182, 0, 238, 42, 182, 0, 241, 42, 182, 0, 204, 153, 0, 73, 42, 180, 0, 154, 153, 0, 66, 42, 180, 0, 31, 7, 46, 154, 0, 29, 42, 20, 0, 244, 182, 0, 184, 42, 180, 0, 34, 7, 42, 20, 0, 246, 4, 16, 48, 182, 0, 199, 79, 167]
theorem bcX10_town_0_ok : z_bys cX10_town 0 bcX10_town_0 = true := by decide +kernel
def bcX10_town_60 : List Nat := [0, 7, 42, 182, 0, 248, 42, 182, 0, 204, 153, 0, 7, 42, 182, 0, 251, 42, 180, 0, 31, 7, 92, 46, 4, 96, 79, 167, 255, 182, 42, 182, 0, 254, 42, 180, 0, 165, 153, 0, 6, 16, 252, 172, 42, 180, 0, 31, 7, 46, 154, 0, 18, 42, 180, 0, 37, 7, 3, 79]
theorem bcX10_town_60_ok : z_bys cX10_town 60 bcX10_town_60 = true := by decide +kernel
def bcX10_town_120 : List Nat := [42, 180, 0, 58, 16, 8, 3, 79, 42, 7, 3, 182, 1, 1, 42, 180, 0, 31, 3, 46, 172]
theorem bcX10_town_120_ok : z_bys cX10_town 120 bcX10_town_120 = true := by decide +kernel
theorem dX10_town_0 : decode cX10_town 0 = .ok (.aload_n 0, 1) := zo_42 (z_byk bcX10_town_0 0 0 _ bcX10_town_0_ok rfl)
theorem dX10_town_1 : decode cX10_town 1 = .ok (.iconst 0, 1) := zo_3 (z_byk bcX10_town_0 0 1 _ bcX10_town_0_ok rfl)
theorem dX10_town_10 : decode cX10_town 10 = .ok (.invokevirtual 241, 3) := zo_182 (z_byk bcX10_town_0 0 10 _ bcX10_town_0_ok rfl) (z_byk bcX10_town_0 0 11 _ bcX10_town_0_ok rfl) (z_byk bcX10_town_0 0 12 _ bcX10_town_0_ok rfl) rfl
theorem dX10_town_101 : decode cX10_town 101 = .ok (.bipush (-4), 2) := zo_16 (z_byk bcX10_town_60 60 41 _ bcX10_town_60_ok rfl) (z_byk bcX10_town_60 60 42 _ bcX10_town_60_ok rfl) rfl
theorem dX10_town_103 : decode cX10_town 103 = .ok (.ireturn, 1) := zo_172 (z_byk bcX10_town_60 60 43 _ bcX10_town_60_ok rfl)
theorem dX10_town_104 : decode cX10_town 104 = .ok (.aload_n 0, 1) := zo_42 (z_byk bcX10_town_60 60 44 _ bcX10_town_60_ok rfl)
theorem dX10_town_105 : decode cX10_town 105 = .ok (.getfield 31, 3) := zo_180 (z_byk bcX10_town_60 60 45 _ bcX10_town_60_ok rfl) (z_byk bcX10_town_60 60 46 _ bcX10_town_60_ok rfl) (z_byk bcX10_town_60 60 47 _ bcX10_town_60_ok rfl) rfl
theorem dX10_town_108 : decode cX10_town 108 = .ok (.iconst 4, 1) := zo_7 (z_byk bcX10_town_60 60 48 _ bcX10_town_60_ok rfl)
theorem dX10_town_109 : decode cX10_town 109 = .ok (.iaload, 1) := zo_46 (z_byk bcX10_town_60 60 49 _ bcX10_town_60_ok rfl)
theorem dX10_town_110 : decode cX10_town 110 = .ok (.ifCond .ne 18, 3) := zo_154 (z_byk bcX10_town_60 60 50 _ bcX10_town_60_ok rfl) (z_byk bcX10_town_60 60 51 _ bcX10_town_60_ok rfl) (z_byk bcX10_town_60 60 52 _ bcX10_town_60_ok rfl) rfl
theorem dX10_town_113 : decode cX10_town 113 = .ok (.aload_n 0, 1) := zo_42 (z_byk bcX10_town_60 60 53 _ bcX10_town_60_ok rfl)
theorem dX10_town_114 : decode cX10_town 114 = .ok (.getfield 37, 3) := zo_180 (z_byk bcX10_town_60 60 54 _ bcX10_town_60_ok rfl) (z_byk bcX10_town_60 60 55 _ bcX10_town_60_ok rfl) (z_byk bcX10_town_60 60 56 _ bcX10_town_60_ok rfl) rfl
theorem dX10_town_117 : decode cX10_town 117 = .ok (.iconst 4, 1) := zo_7 (z_byk bcX10_town_60 60 57 _ bcX10_town_60_ok rfl)
theorem dX10_town_118 : decode cX10_town 118 = .ok (.iconst 0, 1) := zo_3 (z_byk bcX10_town_60 60 58 _ bcX10_town_60_ok rfl)
theorem dX10_town_119 : decode cX10_town 119 = .ok (.iastore, 1) := zo_79 (z_byk bcX10_town_60 60 59 _ bcX10_town_60_ok rfl)
theorem dX10_town_120 : decode cX10_town 120 = .ok (.aload_n 0, 1) := zo_42 (z_byk bcX10_town_120 120 0 _ bcX10_town_120_ok rfl)
theorem dX10_town_121 : decode cX10_town 121 = .ok (.getfield 58, 3) := zo_180 (z_byk bcX10_town_120 120 1 _ bcX10_town_120_ok rfl) (z_byk bcX10_town_120 120 2 _ bcX10_town_120_ok rfl) (z_byk bcX10_town_120 120 3 _ bcX10_town_120_ok rfl) rfl
theorem dX10_town_124 : decode cX10_town 124 = .ok (.bipush 8, 2) := zo_16 (z_byk bcX10_town_120 120 4 _ bcX10_town_120_ok rfl) (z_byk bcX10_town_120 120 5 _ bcX10_town_120_ok rfl) rfl
theorem dX10_town_126 : decode cX10_town 126 = .ok (.iconst 0, 1) := zo_3 (z_byk bcX10_town_120 120 6 _ bcX10_town_120_ok rfl)
theorem dX10_town_127 : decode cX10_town 127 = .ok (.iastore, 1) := zo_79 (z_byk bcX10_town_120 120 7 _ bcX10_town_120_ok rfl)
theorem dX10_town_128 : decode cX10_town 128 = .ok (.aload_n 0, 1) := zo_42 (z_byk bcX10_town_120 120 8 _ bcX10_town_120_ok rfl)
theorem dX10_town_129 : decode cX10_town 129 = .ok (.iconst 4, 1) := zo_7 (z_byk bcX10_town_120 120 9 _ bcX10_town_120_ok rfl)
theorem dX10_town_13 : decode cX10_town 13 = .ok (.aload_n 0, 1) := zo_42 (z_byk bcX10_town_0 0 13 _ bcX10_town_0_ok rfl)
theorem dX10_town_130 : decode cX10_town 130 = .ok (.iconst 0, 1) := zo_3 (z_byk bcX10_town_120 120 10 _ bcX10_town_120_ok rfl)
theorem dX10_town_131 : decode cX10_town 131 = .ok (.invokevirtual 257, 3) := zo_182 (z_byk bcX10_town_120 120 11 _ bcX10_town_120_ok rfl) (z_byk bcX10_town_120 120 12 _ bcX10_town_120_ok rfl) (z_byk bcX10_town_120 120 13 _ bcX10_town_120_ok rfl) rfl
theorem dX10_town_134 : decode cX10_town 134 = .ok (.aload_n 0, 1) := zo_42 (z_byk bcX10_town_120 120 14 _ bcX10_town_120_ok rfl)
theorem dX10_town_135 : decode cX10_town 135 = .ok (.getfield 31, 3) := zo_180 (z_byk bcX10_town_120 120 15 _ bcX10_town_120_ok rfl) (z_byk bcX10_town_120 120 16 _ bcX10_town_120_ok rfl) (z_byk bcX10_town_120 120 17 _ bcX10_town_120_ok rfl) rfl
theorem dX10_town_138 : decode cX10_town 138 = .ok (.iconst 0, 1) := zo_3 (z_byk bcX10_town_120 120 18 _ bcX10_town_120_ok rfl)
theorem dX10_town_139 : decode cX10_town 139 = .ok (.iaload, 1) := zo_46 (z_byk bcX10_town_120 120 19 _ bcX10_town_120_ok rfl)
theorem dX10_town_14 : decode cX10_town 14 = .ok (.invokevirtual 204, 3) := zo_182 (z_byk bcX10_town_0 0 14 _ bcX10_town_0_ok rfl) (z_byk bcX10_town_0 0 15 _ bcX10_town_0_ok rfl) (z_byk bcX10_town_0 0 16 _ bcX10_town_0_ok rfl) rfl
theorem dX10_town_140 : decode cX10_town 140 = .ok (.ireturn, 1) := zo_172 (z_byk bcX10_town_120 120 20 _ bcX10_town_120_ok rfl)
theorem dX10_town_17 : decode cX10_town 17 = .ok (.ifCond .eq 73, 3) := zo_153 (z_byk bcX10_town_0 0 17 _ bcX10_town_0_ok rfl) (z_byk bcX10_town_0 0 18 _ bcX10_town_0_ok rfl) (z_byk bcX10_town_0 0 19 _ bcX10_town_0_ok rfl) rfl
theorem dX10_town_2 : decode cX10_town 2 = .ok (.putfield 114, 3) := zo_181 (z_byk bcX10_town_0 0 2 _ bcX10_town_0_ok rfl) (z_byk bcX10_town_0 0 3 _ bcX10_town_0_ok rfl) (z_byk bcX10_town_0 0 4 _ bcX10_town_0_ok rfl) rfl
theorem dX10_town_20 : decode cX10_town 20 = .ok (.aload_n 0, 1) := zo_42 (z_byk bcX10_town_0 0 20 _ bcX10_town_0_ok rfl)
theorem dX10_town_21 : decode cX10_town 21 = .ok (.getfield 154, 3) := zo_180 (z_byk bcX10_town_0 0 21 _ bcX10_town_0_ok rfl) (z_byk bcX10_town_0 0 22 _ bcX10_town_0_ok rfl) (z_byk bcX10_town_0 0 23 _ bcX10_town_0_ok rfl) rfl
theorem dX10_town_24 : decode cX10_town 24 = .ok (.ifCond .eq 66, 3) := zo_153 (z_byk bcX10_town_0 0 24 _ bcX10_town_0_ok rfl) (z_byk bcX10_town_0 0 25 _ bcX10_town_0_ok rfl) (z_byk bcX10_town_0 0 26 _ bcX10_town_0_ok rfl) rfl
theorem dX10_town_27 : decode cX10_town 27 = .ok (.aload_n 0, 1) := zo_42 (z_byk bcX10_town_0 0 27 _ bcX10_town_0_ok rfl)
theorem dX10_town_28 : decode cX10_town 28 = .ok (.getfield 31, 3) := zo_180 (z_byk bcX10_town_0 0 28 _ bcX10_town_0_ok rfl) (z_byk bcX10_town_0 0 29 _ bcX10_town_0_ok rfl) (z_byk bcX10_town_0 0 30 _ bcX10_town_0_ok rfl) rfl
theorem dX10_town_31 : decode cX10_town 31 = .ok (.iconst 4, 1) := zo_7 (z_byk bcX10_town_0 0 31 _ bcX10_town_0_ok rfl)
theorem dX10_town_32 : decode cX10_town 32 = .ok (.iaload, 1) := zo_46 (z_byk bcX10_town_0 0 32 _ bcX10_town_0_ok rfl)
theorem dX10_town_33 : decode cX10_town 33 = .ok (.ifCond .ne 29, 3) := zo_154 (z_byk bcX10_town_0 0 33 _ bcX10_town_0_ok rfl) (z_byk bcX10_town_0 0 34 _ bcX10_town_0_ok rfl) (z_byk bcX10_town_0 0 35 _ bcX10_town_0_ok rfl) rfl
theorem dX10_town_36 : decode cX10_town 36 = .ok (.aload_n 0, 1) := zo_42 (z_byk bcX10_town_0 0 36 _ bcX10_town_0_ok rfl)
theorem dX10_town_37 : decode cX10_town 37 = .ok (.ldc2_w 244, 3) := zo_20 (z_byk bcX10_town_0 0 37 _ bcX10_town_0_ok rfl) (z_byk bcX10_town_0 0 38 _ bcX10_town_0_ok rfl) (z_byk bcX10_town_0 0 39 _ bcX10_town_0_ok rfl) rfl
theorem dX10_town_40 : decode cX10_town 40 = .ok (.invokevirtual 184, 3) := zo_182 (z_byk bcX10_town_0 0 40 _ bcX10_town_0_ok rfl) (z_byk bcX10_town_0 0 41 _ bcX10_town_0_ok rfl) (z_byk bcX10_town_0 0 42 _ bcX10_town_0_ok rfl) rfl
theorem dX10_town_43 : decode cX10_town 43 = .ok (.aload_n 0, 1) := zo_42 (z_byk bcX10_town_0 0 43 _ bcX10_town_0_ok rfl)
theorem dX10_town_44 : decode cX10_town 44 = .ok (.getfield 34, 3) := zo_180 (z_byk bcX10_town_0 0 44 _ bcX10_town_0_ok rfl) (z_byk bcX10_town_0 0 45 _ bcX10_town_0_ok rfl) (z_byk bcX10_town_0 0 46 _ bcX10_town_0_ok rfl) rfl
theorem dX10_town_47 : decode cX10_town 47 = .ok (.iconst 4, 1) := zo_7 (z_byk bcX10_town_0 0 47 _ bcX10_town_0_ok rfl)
theorem dX10_town_48 : decode cX10_town 48 = .ok (.aload_n 0, 1) := zo_42 (z_byk bcX10_town_0 0 48 _ bcX10_town_0_ok rfl)
theorem dX10_town_49 : decode cX10_town 49 = .ok (.ldc2_w 246, 3) := zo_20 (z_byk bcX10_town_0 0 49 _ bcX10_town_0_ok rfl) (z_byk bcX10_town_0 0 50 _ bcX10_town_0_ok rfl) (z_byk bcX10_town_0 0 51 _ bcX10_town_0_ok rfl) rfl
theorem dX10_town_5 : decode cX10_town 5 = .ok (.aload_n 0, 1) := zo_42 (z_byk bcX10_town_0 0 5 _ bcX10_town_0_ok rfl)
theorem dX10_town_52 : decode cX10_town 52 = .ok (.iconst 1, 1) := zo_4 (z_byk bcX10_town_0 0 52 _ bcX10_town_0_ok rfl)
theorem dX10_town_53 : decode cX10_town 53 = .ok (.bipush 48, 2) := zo_16 (z_byk bcX10_town_0 0 53 _ bcX10_town_0_ok rfl) (z_byk bcX10_town_0 0 54 _ bcX10_town_0_ok rfl) rfl
theorem dX10_town_55 : decode cX10_town 55 = .ok (.invokevirtual 199, 3) := zo_182 (z_byk bcX10_town_0 0 55 _ bcX10_town_0_ok rfl) (z_byk bcX10_town_0 0 56 _ bcX10_town_0_ok rfl) (z_byk bcX10_town_0 0 57 _ bcX10_town_0_ok rfl) rfl
theorem dX10_town_58 : decode cX10_town 58 = .ok (.iastore, 1) := zo_79 (z_byk bcX10_town_0 0 58 _ bcX10_town_0_ok rfl)
theorem dX10_town_59 : decode cX10_town 59 = .ok (.goto 7, 3) := zo_167 (z_byk bcX10_town_0 0 59 _ bcX10_town_0_ok rfl) (z_byk bcX10_town_60 60 0 _ bcX10_town_60_ok rfl) (z_byk bcX10_town_60 60 1 _ bcX10_town_60_ok rfl) rfl
theorem dX10_town_6 : decode cX10_town 6 = .ok (.invokevirtual 238, 3) := zo_182 (z_byk bcX10_town_0 0 6 _ bcX10_town_0_ok rfl) (z_byk bcX10_town_0 0 7 _ bcX10_town_0_ok rfl) (z_byk bcX10_town_0 0 8 _ bcX10_town_0_ok rfl) rfl
theorem dX10_town_62 : decode cX10_town 62 = .ok (.aload_n 0, 1) := zo_42 (z_byk bcX10_town_60 60 2 _ bcX10_town_60_ok rfl)
theorem dX10_town_63 : decode cX10_town 63 = .ok (.invokevirtual 248, 3) := zo_182 (z_byk bcX10_town_60 60 3 _ bcX10_town_60_ok rfl) (z_byk bcX10_town_60 60 4 _ bcX10_town_60_ok rfl) (z_byk bcX10_town_60 60 5 _ bcX10_town_60_ok rfl) rfl
theorem dX10_town_66 : decode cX10_town 66 = .ok (.aload_n 0, 1) := zo_42 (z_byk bcX10_town_60 60 6 _ bcX10_town_60_ok rfl)
theorem dX10_town_67 : decode cX10_town 67 = .ok (.invokevirtual 204, 3) := zo_182 (z_byk bcX10_town_60 60 7 _ bcX10_town_60_ok rfl) (z_byk bcX10_town_60 60 8 _ bcX10_town_60_ok rfl) (z_byk bcX10_town_60 60 9 _ bcX10_town_60_ok rfl) rfl
theorem dX10_town_70 : decode cX10_town 70 = .ok (.ifCond .eq 7, 3) := zo_153 (z_byk bcX10_town_60 60 10 _ bcX10_town_60_ok rfl) (z_byk bcX10_town_60 60 11 _ bcX10_town_60_ok rfl) (z_byk bcX10_town_60 60 12 _ bcX10_town_60_ok rfl) rfl
theorem dX10_town_73 : decode cX10_town 73 = .ok (.aload_n 0, 1) := zo_42 (z_byk bcX10_town_60 60 13 _ bcX10_town_60_ok rfl)
theorem dX10_town_74 : decode cX10_town 74 = .ok (.invokevirtual 251, 3) := zo_182 (z_byk bcX10_town_60 60 14 _ bcX10_town_60_ok rfl) (z_byk bcX10_town_60 60 15 _ bcX10_town_60_ok rfl) (z_byk bcX10_town_60 60 16 _ bcX10_town_60_ok rfl) rfl
theorem dX10_town_77 : decode cX10_town 77 = .ok (.aload_n 0, 1) := zo_42 (z_byk bcX10_town_60 60 17 _ bcX10_town_60_ok rfl)
theorem dX10_town_78 : decode cX10_town 78 = .ok (.getfield 31, 3) := zo_180 (z_byk bcX10_town_60 60 18 _ bcX10_town_60_ok rfl) (z_byk bcX10_town_60 60 19 _ bcX10_town_60_ok rfl) (z_byk bcX10_town_60 60 20 _ bcX10_town_60_ok rfl) rfl
theorem dX10_town_81 : decode cX10_town 81 = .ok (.iconst 4, 1) := zo_7 (z_byk bcX10_town_60 60 21 _ bcX10_town_60_ok rfl)
theorem dX10_town_82 : decode cX10_town 82 = .ok (.dup2, 1) := zo_92 (z_byk bcX10_town_60 60 22 _ bcX10_town_60_ok rfl)
theorem dX10_town_83 : decode cX10_town 83 = .ok (.iaload, 1) := zo_46 (z_byk bcX10_town_60 60 23 _ bcX10_town_60_ok rfl)
theorem dX10_town_84 : decode cX10_town 84 = .ok (.iconst 1, 1) := zo_4 (z_byk bcX10_town_60 60 24 _ bcX10_town_60_ok rfl)
theorem dX10_town_85 : decode cX10_town 85 = .ok (.iadd, 1) := zo_96 (z_byk bcX10_town_60 60 25 _ bcX10_town_60_ok rfl)
theorem dX10_town_86 : decode cX10_town 86 = .ok (.iastore, 1) := zo_79 (z_byk bcX10_town_60 60 26 _ bcX10_town_60_ok rfl)
theorem dX10_town_87 : decode cX10_town 87 = .ok (.goto (-74), 3) := zo_167 (z_byk bcX10_town_60 60 27 _ bcX10_town_60_ok rfl) (z_byk bcX10_town_60 60 28 _ bcX10_town_60_ok rfl) (z_byk bcX10_town_60 60 29 _ bcX10_town_60_ok rfl) rfl
theorem dX10_town_9 : decode cX10_town 9 = .ok (.aload_n 0, 1) := zo_42 (z_byk bcX10_town_0 0 9 _ bcX10_town_0_ok rfl)
theorem dX10_town_90 : decode cX10_town 90 = .ok (.aload_n 0, 1) := zo_42 (z_byk bcX10_town_60 60 30 _ bcX10_town_60_ok rfl)
theorem dX10_town_91 : decode cX10_town 91 = .ok (.invokevirtual 254, 3) := zo_182 (z_byk bcX10_town_60 60 31 _ bcX10_town_60_ok rfl) (z_byk bcX10_town_60 60 32 _ bcX10_town_60_ok rfl) (z_byk bcX10_town_60 60 33 _ bcX10_town_60_ok rfl) rfl
theorem dX10_town_94 : decode cX10_town 94 = .ok (.aload_n 0, 1) := zo_42 (z_byk bcX10_town_60 60 34 _ bcX10_town_60_ok rfl)
theorem dX10_town_95 : decode cX10_town 95 = .ok (.getfield 165, 3) := zo_180 (z_byk bcX10_town_60 60 35 _ bcX10_town_60_ok rfl) (z_byk bcX10_town_60 60 36 _ bcX10_town_60_ok rfl) (z_byk bcX10_town_60 60 37 _ bcX10_town_60_ok rfl) rfl
theorem dX10_town_98 : decode cX10_town 98 = .ok (.ifCond .eq 6, 3) := zo_153 (z_byk bcX10_town_60 60 38 _ bcX10_town_60_ok rfl) (z_byk bcX10_town_60 60 39 _ bcX10_town_60_ok rfl) (z_byk bcX10_town_60 60 40 _ bcX10_town_60_ok rfl) rfl
