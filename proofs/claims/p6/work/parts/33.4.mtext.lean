set_option linter.all false
theorem zw_s5_3 : Cond.selects RX10 yX10_onceLine yX10_onceLine ∈ zT := zs_5 (List.mem_of_getElem? (i := 3) (by decide +kernel))
theorem zw_s5_4 : Cond.selects RX10 yX10_gateLine yX10_gateLine ∈ zT := zs_5 (List.mem_of_getElem? (i := 4) (by decide +kernel))
theorem zw_s5_5 : Cond.selects RX10 yX10_personLine yX10_personLine ∈ zT := zs_5 (List.mem_of_getElem? (i := 5) (by decide +kernel))
theorem zw_t7_118 : Cond.constantLong RX10 217 (8798) ∈ zT := zt_7 (List.mem_of_getElem? (i := 118) (by decide +kernel)) (by decide +kernel)
theorem zw_t7_119 : Cond.constantLong RX10 219 (3217595) ∈ zT := zt_7 (List.mem_of_getElem? (i := 119) (by decide +kernel)) (by decide +kernel)
theorem zw_t7_120 : Cond.methodLink RX10 221 yX10_onceLine ∈ zT := zt_7 (List.mem_of_getElem? (i := 120) (by decide +kernel)) (by decide +kernel)
theorem zw_t7_122 : Cond.instanceMethod yX10_onceLine ∈ zT := zt_7 (List.mem_of_getElem? (i := 122) (by decide +kernel)) (by decide +kernel)
theorem zw_t7_123 : Cond.code yX10_onceLine cX10_onceLine 3 none ∈ zT := zt_7 (List.mem_of_getElem? (i := 123) (by decide +kernel)) (by decide +kernel)
theorem zw_t7_126 : Cond.constantLong RX10 224 (1905383) ∈ zT := zt_7 (List.mem_of_getElem? (i := 126) (by decide +kernel)) (by decide +kernel)
theorem zw_t7_127 : Cond.constantLong RX10 226 (139055) ∈ zT := zt_7 (List.mem_of_getElem? (i := 127) (by decide +kernel)) (by decide +kernel)
theorem zw_t7_128 : Cond.constantLong RX10 228 (232608281) ∈ zT := zt_7 (List.mem_of_getElem? (i := 128) (by decide +kernel)) (by decide +kernel)
theorem zw_t7_129 : Cond.methodLink RX10 230 yX10_gateLine ∈ zT := zt_7 (List.mem_of_getElem? (i := 129) (by decide +kernel)) (by decide +kernel)
theorem zw_t7_131 : Cond.instanceMethod yX10_gateLine ∈ zT := zt_7 (List.mem_of_getElem? (i := 131) (by decide +kernel)) (by decide +kernel)
theorem zw_t7_132 : Cond.code yX10_gateLine cX10_gateLine 3 none ∈ zT := zt_7 (List.mem_of_getElem? (i := 132) (by decide +kernel)) (by decide +kernel)
theorem zw_t7_134 : Cond.constantLong RX10 233 (257) ∈ zT := zt_7 (List.mem_of_getElem? (i := 134) (by decide +kernel)) (by decide +kernel)
theorem zw_t7_135 : Cond.methodLink RX10 235 yX10_personLine ∈ zT := zt_7 (List.mem_of_getElem? (i := 135) (by decide +kernel)) (by decide +kernel)
theorem zw_t7_137 : Cond.instanceMethod yX10_personLine ∈ zT := zt_7 (List.mem_of_getElem? (i := 137) (by decide +kernel)) (by decide +kernel)
theorem zw_t7_138 : Cond.code yX10_personLine cX10_personLine 6 none ∈ zT := zt_7 (List.mem_of_getElem? (i := 138) (by decide +kernel)) (by decide +kernel)
def bcX10_line_0 : List Nat := [42, 20, 0, 217, 182, 0, 171, 153, 0, 7, 3, 167, 0, 18, 42, 20, 0, 219, 182, 0, 171, 153, 0, 7, 4, 167, 0, 4, 2, 60, 27, 2, 159, 0, 9, 42, 27, 182, 0, 221, 177, 42, 20, 0, 224, 182, 0, 171, 61, 42, 20, 0, 226, 182, 0, 171, 62, 28, 154, 0]
theorem bcX10_line_0_ok : z_bys cX10_line 0 bcX10_line_0 = true := by decide +kernel
def bcX10_line_60 : List Nat := [22, 29, 154, 0, 18, 42, 20, 0, 228, 182, 0, 171, 154, 0, 8, 42, 4, 182, 0, 181, 28, 153, 0, 17, 42, 180, 0, 37, 7, 46, 16, 10, 160, 0, 40, 167, 0, 32, 29, 153, 0, 17, 42, 180, 0, 43, 7, 46, 16, 16, 160, 0, 22, 167, 0, 14, 42, 180, 0, 49]
theorem bcX10_line_60_ok : z_bys cX10_line 60 bcX10_line_60 = true := by decide +kernel
def bcX10_line_120 : List Nat := [7, 46, 16, 10, 160, 0, 8, 42, 6, 182, 0, 181, 42, 180, 0, 165, 153, 0, 4, 177, 42, 182, 0, 175, 29, 153, 0, 10, 42, 182, 0, 230, 167, 0, 54, 28, 153, 0, 46, 42, 180, 0, 40, 16, 40, 42, 180, 0, 37, 7, 46, 96, 42, 20, 0, 233, 3, 42, 180, 0]
theorem bcX10_line_120_ok : z_bys cX10_line 120 bcX10_line_120 = true := by decide +kernel
def bcX10_line_180 : List Nat := [37, 7, 46, 4, 100, 182, 0, 199, 79, 42, 180, 0, 37, 7, 92, 46, 4, 96, 79, 167, 0, 7, 42, 182, 0, 235, 177]
theorem bcX10_line_180_ok : z_bys cX10_line 180 bcX10_line_180 = true := by decide +kernel
theorem dX10_line_0 : decode cX10_line 0 = .ok (.aload_n 0, 1) := zo_42 (z_byk bcX10_line_0 0 0 _ bcX10_line_0_ok rfl)
theorem dX10_line_1 : decode cX10_line 1 = .ok (.ldc2_w 217, 3) := zo_20 (z_byk bcX10_line_0 0 1 _ bcX10_line_0_ok rfl) (z_byk bcX10_line_0 0 2 _ bcX10_line_0_ok rfl) (z_byk bcX10_line_0 0 3 _ bcX10_line_0_ok rfl) rfl
theorem dX10_line_10 : decode cX10_line 10 = .ok (.iconst 0, 1) := zo_3 (z_byk bcX10_line_0 0 10 _ bcX10_line_0_ok rfl)
theorem dX10_line_102 : decode cX10_line 102 = .ok (.aload_n 0, 1) := zo_42 (z_byk bcX10_line_60 60 42 _ bcX10_line_60_ok rfl)
theorem dX10_line_103 : decode cX10_line 103 = .ok (.getfield 43, 3) := zo_180 (z_byk bcX10_line_60 60 43 _ bcX10_line_60_ok rfl) (z_byk bcX10_line_60 60 44 _ bcX10_line_60_ok rfl) (z_byk bcX10_line_60 60 45 _ bcX10_line_60_ok rfl) rfl
theorem dX10_line_106 : decode cX10_line 106 = .ok (.iconst 4, 1) := zo_7 (z_byk bcX10_line_60 60 46 _ bcX10_line_60_ok rfl)
theorem dX10_line_107 : decode cX10_line 107 = .ok (.iaload, 1) := zo_46 (z_byk bcX10_line_60 60 47 _ bcX10_line_60_ok rfl)
theorem dX10_line_108 : decode cX10_line 108 = .ok (.bipush 16, 2) := zo_16 (z_byk bcX10_line_60 60 48 _ bcX10_line_60_ok rfl) (z_byk bcX10_line_60 60 49 _ bcX10_line_60_ok rfl) rfl
theorem dX10_line_11 : decode cX10_line 11 = .ok (.goto 18, 3) := zo_167 (z_byk bcX10_line_0 0 11 _ bcX10_line_0_ok rfl) (z_byk bcX10_line_0 0 12 _ bcX10_line_0_ok rfl) (z_byk bcX10_line_0 0 13 _ bcX10_line_0_ok rfl) rfl
theorem dX10_line_110 : decode cX10_line 110 = .ok (.if_icmp .ne 22, 3) := zo_160 (z_byk bcX10_line_60 60 50 _ bcX10_line_60_ok rfl) (z_byk bcX10_line_60 60 51 _ bcX10_line_60_ok rfl) (z_byk bcX10_line_60 60 52 _ bcX10_line_60_ok rfl) rfl
theorem dX10_line_113 : decode cX10_line 113 = .ok (.goto 14, 3) := zo_167 (z_byk bcX10_line_60 60 53 _ bcX10_line_60_ok rfl) (z_byk bcX10_line_60 60 54 _ bcX10_line_60_ok rfl) (z_byk bcX10_line_60 60 55 _ bcX10_line_60_ok rfl) rfl
theorem dX10_line_116 : decode cX10_line 116 = .ok (.aload_n 0, 1) := zo_42 (z_byk bcX10_line_60 60 56 _ bcX10_line_60_ok rfl)
theorem dX10_line_117 : decode cX10_line 117 = .ok (.getfield 49, 3) := zo_180 (z_byk bcX10_line_60 60 57 _ bcX10_line_60_ok rfl) (z_byk bcX10_line_60 60 58 _ bcX10_line_60_ok rfl) (z_byk bcX10_line_60 60 59 _ bcX10_line_60_ok rfl) rfl
theorem dX10_line_120 : decode cX10_line 120 = .ok (.iconst 4, 1) := zo_7 (z_byk bcX10_line_120 120 0 _ bcX10_line_120_ok rfl)
theorem dX10_line_121 : decode cX10_line 121 = .ok (.iaload, 1) := zo_46 (z_byk bcX10_line_120 120 1 _ bcX10_line_120_ok rfl)
theorem dX10_line_122 : decode cX10_line 122 = .ok (.bipush 10, 2) := zo_16 (z_byk bcX10_line_120 120 2 _ bcX10_line_120_ok rfl) (z_byk bcX10_line_120 120 3 _ bcX10_line_120_ok rfl) rfl
theorem dX10_line_124 : decode cX10_line 124 = .ok (.if_icmp .ne 8, 3) := zo_160 (z_byk bcX10_line_120 120 4 _ bcX10_line_120_ok rfl) (z_byk bcX10_line_120 120 5 _ bcX10_line_120_ok rfl) (z_byk bcX10_line_120 120 6 _ bcX10_line_120_ok rfl) rfl
theorem dX10_line_127 : decode cX10_line 127 = .ok (.aload_n 0, 1) := zo_42 (z_byk bcX10_line_120 120 7 _ bcX10_line_120_ok rfl)
theorem dX10_line_128 : decode cX10_line 128 = .ok (.iconst 3, 1) := zo_6 (z_byk bcX10_line_120 120 8 _ bcX10_line_120_ok rfl)
theorem dX10_line_129 : decode cX10_line 129 = .ok (.invokevirtual 181, 3) := zo_182 (z_byk bcX10_line_120 120 9 _ bcX10_line_120_ok rfl) (z_byk bcX10_line_120 120 10 _ bcX10_line_120_ok rfl) (z_byk bcX10_line_120 120 11 _ bcX10_line_120_ok rfl) rfl
theorem dX10_line_132 : decode cX10_line 132 = .ok (.aload_n 0, 1) := zo_42 (z_byk bcX10_line_120 120 12 _ bcX10_line_120_ok rfl)
theorem dX10_line_133 : decode cX10_line 133 = .ok (.getfield 165, 3) := zo_180 (z_byk bcX10_line_120 120 13 _ bcX10_line_120_ok rfl) (z_byk bcX10_line_120 120 14 _ bcX10_line_120_ok rfl) (z_byk bcX10_line_120 120 15 _ bcX10_line_120_ok rfl) rfl
theorem dX10_line_136 : decode cX10_line 136 = .ok (.ifCond .eq 4, 3) := zo_153 (z_byk bcX10_line_120 120 16 _ bcX10_line_120_ok rfl) (z_byk bcX10_line_120 120 17 _ bcX10_line_120_ok rfl) (z_byk bcX10_line_120 120 18 _ bcX10_line_120_ok rfl) rfl
theorem dX10_line_139 : decode cX10_line 139 = .ok (.return_, 1) := zo_177 (z_byk bcX10_line_120 120 19 _ bcX10_line_120_ok rfl)
theorem dX10_line_14 : decode cX10_line 14 = .ok (.aload_n 0, 1) := zo_42 (z_byk bcX10_line_0 0 14 _ bcX10_line_0_ok rfl)
theorem dX10_line_140 : decode cX10_line 140 = .ok (.aload_n 0, 1) := zo_42 (z_byk bcX10_line_120 120 20 _ bcX10_line_120_ok rfl)
theorem dX10_line_141 : decode cX10_line 141 = .ok (.invokevirtual 175, 3) := zo_182 (z_byk bcX10_line_120 120 21 _ bcX10_line_120_ok rfl) (z_byk bcX10_line_120 120 22 _ bcX10_line_120_ok rfl) (z_byk bcX10_line_120 120 23 _ bcX10_line_120_ok rfl) rfl
theorem dX10_line_144 : decode cX10_line 144 = .ok (.iload_n 3, 1) := zo_29 (z_byk bcX10_line_120 120 24 _ bcX10_line_120_ok rfl)
theorem dX10_line_145 : decode cX10_line 145 = .ok (.ifCond .eq 10, 3) := zo_153 (z_byk bcX10_line_120 120 25 _ bcX10_line_120_ok rfl) (z_byk bcX10_line_120 120 26 _ bcX10_line_120_ok rfl) (z_byk bcX10_line_120 120 27 _ bcX10_line_120_ok rfl) rfl
theorem dX10_line_148 : decode cX10_line 148 = .ok (.aload_n 0, 1) := zo_42 (z_byk bcX10_line_120 120 28 _ bcX10_line_120_ok rfl)
theorem dX10_line_149 : decode cX10_line 149 = .ok (.invokevirtual 230, 3) := zo_182 (z_byk bcX10_line_120 120 29 _ bcX10_line_120_ok rfl) (z_byk bcX10_line_120 120 30 _ bcX10_line_120_ok rfl) (z_byk bcX10_line_120 120 31 _ bcX10_line_120_ok rfl) rfl
theorem dX10_line_15 : decode cX10_line 15 = .ok (.ldc2_w 219, 3) := zo_20 (z_byk bcX10_line_0 0 15 _ bcX10_line_0_ok rfl) (z_byk bcX10_line_0 0 16 _ bcX10_line_0_ok rfl) (z_byk bcX10_line_0 0 17 _ bcX10_line_0_ok rfl) rfl
theorem dX10_line_152 : decode cX10_line 152 = .ok (.goto 54, 3) := zo_167 (z_byk bcX10_line_120 120 32 _ bcX10_line_120_ok rfl) (z_byk bcX10_line_120 120 33 _ bcX10_line_120_ok rfl) (z_byk bcX10_line_120 120 34 _ bcX10_line_120_ok rfl) rfl
theorem dX10_line_155 : decode cX10_line 155 = .ok (.iload_n 2, 1) := zo_28 (z_byk bcX10_line_120 120 35 _ bcX10_line_120_ok rfl)
theorem dX10_line_156 : decode cX10_line 156 = .ok (.ifCond .eq 46, 3) := zo_153 (z_byk bcX10_line_120 120 36 _ bcX10_line_120_ok rfl) (z_byk bcX10_line_120 120 37 _ bcX10_line_120_ok rfl) (z_byk bcX10_line_120 120 38 _ bcX10_line_120_ok rfl) rfl
theorem dX10_line_159 : decode cX10_line 159 = .ok (.aload_n 0, 1) := zo_42 (z_byk bcX10_line_120 120 39 _ bcX10_line_120_ok rfl)
theorem dX10_line_160 : decode cX10_line 160 = .ok (.getfield 40, 3) := zo_180 (z_byk bcX10_line_120 120 40 _ bcX10_line_120_ok rfl) (z_byk bcX10_line_120 120 41 _ bcX10_line_120_ok rfl) (z_byk bcX10_line_120 120 42 _ bcX10_line_120_ok rfl) rfl
theorem dX10_line_163 : decode cX10_line 163 = .ok (.bipush 40, 2) := zo_16 (z_byk bcX10_line_120 120 43 _ bcX10_line_120_ok rfl) (z_byk bcX10_line_120 120 44 _ bcX10_line_120_ok rfl) rfl
theorem dX10_line_165 : decode cX10_line 165 = .ok (.aload_n 0, 1) := zo_42 (z_byk bcX10_line_120 120 45 _ bcX10_line_120_ok rfl)
theorem dX10_line_166 : decode cX10_line 166 = .ok (.getfield 37, 3) := zo_180 (z_byk bcX10_line_120 120 46 _ bcX10_line_120_ok rfl) (z_byk bcX10_line_120 120 47 _ bcX10_line_120_ok rfl) (z_byk bcX10_line_120 120 48 _ bcX10_line_120_ok rfl) rfl
theorem dX10_line_169 : decode cX10_line 169 = .ok (.iconst 4, 1) := zo_7 (z_byk bcX10_line_120 120 49 _ bcX10_line_120_ok rfl)
theorem dX10_line_170 : decode cX10_line 170 = .ok (.iaload, 1) := zo_46 (z_byk bcX10_line_120 120 50 _ bcX10_line_120_ok rfl)
theorem dX10_line_171 : decode cX10_line 171 = .ok (.iadd, 1) := zo_96 (z_byk bcX10_line_120 120 51 _ bcX10_line_120_ok rfl)
theorem dX10_line_172 : decode cX10_line 172 = .ok (.aload_n 0, 1) := zo_42 (z_byk bcX10_line_120 120 52 _ bcX10_line_120_ok rfl)
theorem dX10_line_173 : decode cX10_line 173 = .ok (.ldc2_w 233, 3) := zo_20 (z_byk bcX10_line_120 120 53 _ bcX10_line_120_ok rfl) (z_byk bcX10_line_120 120 54 _ bcX10_line_120_ok rfl) (z_byk bcX10_line_120 120 55 _ bcX10_line_120_ok rfl) rfl
theorem dX10_line_176 : decode cX10_line 176 = .ok (.iconst 0, 1) := zo_3 (z_byk bcX10_line_120 120 56 _ bcX10_line_120_ok rfl)
theorem dX10_line_177 : decode cX10_line 177 = .ok (.aload_n 0, 1) := zo_42 (z_byk bcX10_line_120 120 57 _ bcX10_line_120_ok rfl)
theorem dX10_line_178 : decode cX10_line 178 = .ok (.getfield 37, 3) := zo_180 (z_byk bcX10_line_120 120 58 _ bcX10_line_120_ok rfl) (z_byk bcX10_line_120 120 59 _ bcX10_line_120_ok rfl) (z_byk bcX10_line_180 180 0 _ bcX10_line_180_ok rfl) rfl
theorem dX10_line_18 : decode cX10_line 18 = .ok (.invokevirtual 171, 3) := zo_182 (z_byk bcX10_line_0 0 18 _ bcX10_line_0_ok rfl) (z_byk bcX10_line_0 0 19 _ bcX10_line_0_ok rfl) (z_byk bcX10_line_0 0 20 _ bcX10_line_0_ok rfl) rfl
theorem dX10_line_181 : decode cX10_line 181 = .ok (.iconst 4, 1) := zo_7 (z_byk bcX10_line_180 180 1 _ bcX10_line_180_ok rfl)
theorem dX10_line_182 : decode cX10_line 182 = .ok (.iaload, 1) := zo_46 (z_byk bcX10_line_180 180 2 _ bcX10_line_180_ok rfl)
theorem dX10_line_183 : decode cX10_line 183 = .ok (.iconst 1, 1) := zo_4 (z_byk bcX10_line_180 180 3 _ bcX10_line_180_ok rfl)
theorem dX10_line_184 : decode cX10_line 184 = .ok (.isub, 1) := zo_100 (z_byk bcX10_line_180 180 4 _ bcX10_line_180_ok rfl)
theorem dX10_line_185 : decode cX10_line 185 = .ok (.invokevirtual 199, 3) := zo_182 (z_byk bcX10_line_180 180 5 _ bcX10_line_180_ok rfl) (z_byk bcX10_line_180 180 6 _ bcX10_line_180_ok rfl) (z_byk bcX10_line_180 180 7 _ bcX10_line_180_ok rfl) rfl
theorem dX10_line_188 : decode cX10_line 188 = .ok (.iastore, 1) := zo_79 (z_byk bcX10_line_180 180 8 _ bcX10_line_180_ok rfl)
theorem dX10_line_189 : decode cX10_line 189 = .ok (.aload_n 0, 1) := zo_42 (z_byk bcX10_line_180 180 9 _ bcX10_line_180_ok rfl)
theorem dX10_line_190 : decode cX10_line 190 = .ok (.getfield 37, 3) := zo_180 (z_byk bcX10_line_180 180 10 _ bcX10_line_180_ok rfl) (z_byk bcX10_line_180 180 11 _ bcX10_line_180_ok rfl) (z_byk bcX10_line_180 180 12 _ bcX10_line_180_ok rfl) rfl
theorem dX10_line_193 : decode cX10_line 193 = .ok (.iconst 4, 1) := zo_7 (z_byk bcX10_line_180 180 13 _ bcX10_line_180_ok rfl)
theorem dX10_line_194 : decode cX10_line 194 = .ok (.dup2, 1) := zo_92 (z_byk bcX10_line_180 180 14 _ bcX10_line_180_ok rfl)
theorem dX10_line_195 : decode cX10_line 195 = .ok (.iaload, 1) := zo_46 (z_byk bcX10_line_180 180 15 _ bcX10_line_180_ok rfl)
theorem dX10_line_196 : decode cX10_line 196 = .ok (.iconst 1, 1) := zo_4 (z_byk bcX10_line_180 180 16 _ bcX10_line_180_ok rfl)
theorem dX10_line_197 : decode cX10_line 197 = .ok (.iadd, 1) := zo_96 (z_byk bcX10_line_180 180 17 _ bcX10_line_180_ok rfl)
theorem dX10_line_198 : decode cX10_line 198 = .ok (.iastore, 1) := zo_79 (z_byk bcX10_line_180 180 18 _ bcX10_line_180_ok rfl)
theorem dX10_line_199 : decode cX10_line 199 = .ok (.goto 7, 3) := zo_167 (z_byk bcX10_line_180 180 19 _ bcX10_line_180_ok rfl) (z_byk bcX10_line_180 180 20 _ bcX10_line_180_ok rfl) (z_byk bcX10_line_180 180 21 _ bcX10_line_180_ok rfl) rfl
theorem dX10_line_202 : decode cX10_line 202 = .ok (.aload_n 0, 1) := zo_42 (z_byk bcX10_line_180 180 22 _ bcX10_line_180_ok rfl)
theorem dX10_line_203 : decode cX10_line 203 = .ok (.invokevirtual 235, 3) := zo_182 (z_byk bcX10_line_180 180 23 _ bcX10_line_180_ok rfl) (z_byk bcX10_line_180 180 24 _ bcX10_line_180_ok rfl) (z_byk bcX10_line_180 180 25 _ bcX10_line_180_ok rfl) rfl
theorem dX10_line_206 : decode cX10_line 206 = .ok (.return_, 1) := zo_177 (z_byk bcX10_line_180 180 26 _ bcX10_line_180_ok rfl)
theorem dX10_line_21 : decode cX10_line 21 = .ok (.ifCond .eq 7, 3) := zo_153 (z_byk bcX10_line_0 0 21 _ bcX10_line_0_ok rfl) (z_byk bcX10_line_0 0 22 _ bcX10_line_0_ok rfl) (z_byk bcX10_line_0 0 23 _ bcX10_line_0_ok rfl) rfl
theorem dX10_line_24 : decode cX10_line 24 = .ok (.iconst 1, 1) := zo_4 (z_byk bcX10_line_0 0 24 _ bcX10_line_0_ok rfl)
theorem dX10_line_25 : decode cX10_line 25 = .ok (.goto 4, 3) := zo_167 (z_byk bcX10_line_0 0 25 _ bcX10_line_0_ok rfl) (z_byk bcX10_line_0 0 26 _ bcX10_line_0_ok rfl) (z_byk bcX10_line_0 0 27 _ bcX10_line_0_ok rfl) rfl
theorem dX10_line_28 : decode cX10_line 28 = .ok (.iconst (-1), 1) := zo_2 (z_byk bcX10_line_0 0 28 _ bcX10_line_0_ok rfl)
theorem dX10_line_29 : decode cX10_line 29 = .ok (.istore_n 1, 1) := zo_60 (z_byk bcX10_line_0 0 29 _ bcX10_line_0_ok rfl)
theorem dX10_line_30 : decode cX10_line 30 = .ok (.iload_n 1, 1) := zo_27 (z_byk bcX10_line_0 0 30 _ bcX10_line_0_ok rfl)
theorem dX10_line_31 : decode cX10_line 31 = .ok (.iconst (-1), 1) := zo_2 (z_byk bcX10_line_0 0 31 _ bcX10_line_0_ok rfl)
theorem dX10_line_32 : decode cX10_line 32 = .ok (.if_icmp .eq 9, 3) := zo_159 (z_byk bcX10_line_0 0 32 _ bcX10_line_0_ok rfl) (z_byk bcX10_line_0 0 33 _ bcX10_line_0_ok rfl) (z_byk bcX10_line_0 0 34 _ bcX10_line_0_ok rfl) rfl
theorem dX10_line_35 : decode cX10_line 35 = .ok (.aload_n 0, 1) := zo_42 (z_byk bcX10_line_0 0 35 _ bcX10_line_0_ok rfl)
theorem dX10_line_36 : decode cX10_line 36 = .ok (.iload_n 1, 1) := zo_27 (z_byk bcX10_line_0 0 36 _ bcX10_line_0_ok rfl)
theorem dX10_line_37 : decode cX10_line 37 = .ok (.invokevirtual 221, 3) := zo_182 (z_byk bcX10_line_0 0 37 _ bcX10_line_0_ok rfl) (z_byk bcX10_line_0 0 38 _ bcX10_line_0_ok rfl) (z_byk bcX10_line_0 0 39 _ bcX10_line_0_ok rfl) rfl
theorem dX10_line_4 : decode cX10_line 4 = .ok (.invokevirtual 171, 3) := zo_182 (z_byk bcX10_line_0 0 4 _ bcX10_line_0_ok rfl) (z_byk bcX10_line_0 0 5 _ bcX10_line_0_ok rfl) (z_byk bcX10_line_0 0 6 _ bcX10_line_0_ok rfl) rfl
theorem dX10_line_40 : decode cX10_line 40 = .ok (.return_, 1) := zo_177 (z_byk bcX10_line_0 0 40 _ bcX10_line_0_ok rfl)
theorem dX10_line_41 : decode cX10_line 41 = .ok (.aload_n 0, 1) := zo_42 (z_byk bcX10_line_0 0 41 _ bcX10_line_0_ok rfl)
theorem dX10_line_42 : decode cX10_line 42 = .ok (.ldc2_w 224, 3) := zo_20 (z_byk bcX10_line_0 0 42 _ bcX10_line_0_ok rfl) (z_byk bcX10_line_0 0 43 _ bcX10_line_0_ok rfl) (z_byk bcX10_line_0 0 44 _ bcX10_line_0_ok rfl) rfl
theorem dX10_line_45 : decode cX10_line 45 = .ok (.invokevirtual 171, 3) := zo_182 (z_byk bcX10_line_0 0 45 _ bcX10_line_0_ok rfl) (z_byk bcX10_line_0 0 46 _ bcX10_line_0_ok rfl) (z_byk bcX10_line_0 0 47 _ bcX10_line_0_ok rfl) rfl
theorem dX10_line_48 : decode cX10_line 48 = .ok (.istore_n 2, 1) := zo_61 (z_byk bcX10_line_0 0 48 _ bcX10_line_0_ok rfl)
theorem dX10_line_49 : decode cX10_line 49 = .ok (.aload_n 0, 1) := zo_42 (z_byk bcX10_line_0 0 49 _ bcX10_line_0_ok rfl)
theorem dX10_line_50 : decode cX10_line 50 = .ok (.ldc2_w 226, 3) := zo_20 (z_byk bcX10_line_0 0 50 _ bcX10_line_0_ok rfl) (z_byk bcX10_line_0 0 51 _ bcX10_line_0_ok rfl) (z_byk bcX10_line_0 0 52 _ bcX10_line_0_ok rfl) rfl
theorem dX10_line_53 : decode cX10_line 53 = .ok (.invokevirtual 171, 3) := zo_182 (z_byk bcX10_line_0 0 53 _ bcX10_line_0_ok rfl) (z_byk bcX10_line_0 0 54 _ bcX10_line_0_ok rfl) (z_byk bcX10_line_0 0 55 _ bcX10_line_0_ok rfl) rfl
theorem dX10_line_56 : decode cX10_line 56 = .ok (.istore_n 3, 1) := zo_62 (z_byk bcX10_line_0 0 56 _ bcX10_line_0_ok rfl)
theorem dX10_line_57 : decode cX10_line 57 = .ok (.iload_n 2, 1) := zo_28 (z_byk bcX10_line_0 0 57 _ bcX10_line_0_ok rfl)
theorem dX10_line_58 : decode cX10_line 58 = .ok (.ifCond .ne 22, 3) := zo_154 (z_byk bcX10_line_0 0 58 _ bcX10_line_0_ok rfl) (z_byk bcX10_line_0 0 59 _ bcX10_line_0_ok rfl) (z_byk bcX10_line_60 60 0 _ bcX10_line_60_ok rfl) rfl
theorem dX10_line_61 : decode cX10_line 61 = .ok (.iload_n 3, 1) := zo_29 (z_byk bcX10_line_60 60 1 _ bcX10_line_60_ok rfl)
theorem dX10_line_62 : decode cX10_line 62 = .ok (.ifCond .ne 18, 3) := zo_154 (z_byk bcX10_line_60 60 2 _ bcX10_line_60_ok rfl) (z_byk bcX10_line_60 60 3 _ bcX10_line_60_ok rfl) (z_byk bcX10_line_60 60 4 _ bcX10_line_60_ok rfl) rfl
theorem dX10_line_65 : decode cX10_line 65 = .ok (.aload_n 0, 1) := zo_42 (z_byk bcX10_line_60 60 5 _ bcX10_line_60_ok rfl)
theorem dX10_line_66 : decode cX10_line 66 = .ok (.ldc2_w 228, 3) := zo_20 (z_byk bcX10_line_60 60 6 _ bcX10_line_60_ok rfl) (z_byk bcX10_line_60 60 7 _ bcX10_line_60_ok rfl) (z_byk bcX10_line_60 60 8 _ bcX10_line_60_ok rfl) rfl
theorem dX10_line_69 : decode cX10_line 69 = .ok (.invokevirtual 171, 3) := zo_182 (z_byk bcX10_line_60 60 9 _ bcX10_line_60_ok rfl) (z_byk bcX10_line_60 60 10 _ bcX10_line_60_ok rfl) (z_byk bcX10_line_60 60 11 _ bcX10_line_60_ok rfl) rfl
theorem dX10_line_7 : decode cX10_line 7 = .ok (.ifCond .eq 7, 3) := zo_153 (z_byk bcX10_line_0 0 7 _ bcX10_line_0_ok rfl) (z_byk bcX10_line_0 0 8 _ bcX10_line_0_ok rfl) (z_byk bcX10_line_0 0 9 _ bcX10_line_0_ok rfl) rfl
theorem dX10_line_72 : decode cX10_line 72 = .ok (.ifCond .ne 8, 3) := zo_154 (z_byk bcX10_line_60 60 12 _ bcX10_line_60_ok rfl) (z_byk bcX10_line_60 60 13 _ bcX10_line_60_ok rfl) (z_byk bcX10_line_60 60 14 _ bcX10_line_60_ok rfl) rfl
theorem dX10_line_75 : decode cX10_line 75 = .ok (.aload_n 0, 1) := zo_42 (z_byk bcX10_line_60 60 15 _ bcX10_line_60_ok rfl)
theorem dX10_line_76 : decode cX10_line 76 = .ok (.iconst 1, 1) := zo_4 (z_byk bcX10_line_60 60 16 _ bcX10_line_60_ok rfl)
theorem dX10_line_77 : decode cX10_line 77 = .ok (.invokevirtual 181, 3) := zo_182 (z_byk bcX10_line_60 60 17 _ bcX10_line_60_ok rfl) (z_byk bcX10_line_60 60 18 _ bcX10_line_60_ok rfl) (z_byk bcX10_line_60 60 19 _ bcX10_line_60_ok rfl) rfl
theorem dX10_line_80 : decode cX10_line 80 = .ok (.iload_n 2, 1) := zo_28 (z_byk bcX10_line_60 60 20 _ bcX10_line_60_ok rfl)
theorem dX10_line_81 : decode cX10_line 81 = .ok (.ifCond .eq 17, 3) := zo_153 (z_byk bcX10_line_60 60 21 _ bcX10_line_60_ok rfl) (z_byk bcX10_line_60 60 22 _ bcX10_line_60_ok rfl) (z_byk bcX10_line_60 60 23 _ bcX10_line_60_ok rfl) rfl
theorem dX10_line_84 : decode cX10_line 84 = .ok (.aload_n 0, 1) := zo_42 (z_byk bcX10_line_60 60 24 _ bcX10_line_60_ok rfl)
theorem dX10_line_85 : decode cX10_line 85 = .ok (.getfield 37, 3) := zo_180 (z_byk bcX10_line_60 60 25 _ bcX10_line_60_ok rfl) (z_byk bcX10_line_60 60 26 _ bcX10_line_60_ok rfl) (z_byk bcX10_line_60 60 27 _ bcX10_line_60_ok rfl) rfl
theorem dX10_line_88 : decode cX10_line 88 = .ok (.iconst 4, 1) := zo_7 (z_byk bcX10_line_60 60 28 _ bcX10_line_60_ok rfl)
theorem dX10_line_89 : decode cX10_line 89 = .ok (.iaload, 1) := zo_46 (z_byk bcX10_line_60 60 29 _ bcX10_line_60_ok rfl)
theorem dX10_line_90 : decode cX10_line 90 = .ok (.bipush 10, 2) := zo_16 (z_byk bcX10_line_60 60 30 _ bcX10_line_60_ok rfl) (z_byk bcX10_line_60 60 31 _ bcX10_line_60_ok rfl) rfl
theorem dX10_line_92 : decode cX10_line 92 = .ok (.if_icmp .ne 40, 3) := zo_160 (z_byk bcX10_line_60 60 32 _ bcX10_line_60_ok rfl) (z_byk bcX10_line_60 60 33 _ bcX10_line_60_ok rfl) (z_byk bcX10_line_60 60 34 _ bcX10_line_60_ok rfl) rfl
theorem dX10_line_95 : decode cX10_line 95 = .ok (.goto 32, 3) := zo_167 (z_byk bcX10_line_60 60 35 _ bcX10_line_60_ok rfl) (z_byk bcX10_line_60 60 36 _ bcX10_line_60_ok rfl) (z_byk bcX10_line_60 60 37 _ bcX10_line_60_ok rfl) rfl
theorem dX10_line_98 : decode cX10_line 98 = .ok (.iload_n 3, 1) := zo_29 (z_byk bcX10_line_60 60 38 _ bcX10_line_60_ok rfl)
theorem dX10_line_99 : decode cX10_line 99 = .ok (.ifCond .eq 17, 3) := zo_153 (z_byk bcX10_line_60 60 39 _ bcX10_line_60_ok rfl) (z_byk bcX10_line_60 60 40 _ bcX10_line_60_ok rfl) (z_byk bcX10_line_60 60 41 _ bcX10_line_60_ok rfl) rfl
