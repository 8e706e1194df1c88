set_option linter.all false
theorem zw_t6_71 : Cond.methodLink RX9 380 yX6_make ∈ zT := zt_6 (List.mem_of_getElem? (i := 71) (by decide +kernel)) (by decide +kernel)
theorem zw_t6_72 : Cond.instanceMethod yX6_make ∈ zT := zt_6 (List.mem_of_getElem? (i := 72) (by decide +kernel)) (by decide +kernel)
theorem zw_t6_73 : Cond.selects RX6 yX6_make yX6_make ∈ zT := zt_6 (List.mem_of_getElem? (i := 73) (by decide +kernel)) (by decide +kernel)
theorem zw_t6_74 : Cond.code yX6_make cX6_make 3 none ∈ zT := zt_6 (List.mem_of_getElem? (i := 74) (by decide +kernel)) (by decide +kernel)
theorem zw_t6_80 : Cond.methodLink RX9 383 yX6_hasSpan ∈ zT := zt_6 (List.mem_of_getElem? (i := 80) (by decide +kernel)) (by decide +kernel)
theorem zw_t6_81 : Cond.instanceMethod yX6_hasSpan ∈ zT := zt_6 (List.mem_of_getElem? (i := 81) (by decide +kernel)) (by decide +kernel)
theorem zw_t6_82 : Cond.selects RX6 yX6_hasSpan yX6_hasSpan ∈ zT := zt_6 (List.mem_of_getElem? (i := 82) (by decide +kernel)) (by decide +kernel)
theorem zw_t6_83 : Cond.code yX6_hasSpan cX6_hasSpan 3 (some .boolean) ∈ zT := zt_6 (List.mem_of_getElem? (i := 83) (by decide +kernel)) (by decide +kernel)
theorem zw_t6_84 : Cond.methodLink RX9 386 yX6_put ∈ zT := zt_6 (List.mem_of_getElem? (i := 84) (by decide +kernel)) (by decide +kernel)
theorem zw_t6_85 : Cond.instanceMethod yX6_put ∈ zT := zt_6 (List.mem_of_getElem? (i := 85) (by decide +kernel)) (by decide +kernel)
theorem zw_t6_86 : Cond.selects RX6 yX6_put yX6_put ∈ zT := zt_6 (List.mem_of_getElem? (i := 86) (by decide +kernel)) (by decide +kernel)
theorem zw_t6_87 : Cond.code yX6_put cX6_put 4 none ∈ zT := zt_6 (List.mem_of_getElem? (i := 87) (by decide +kernel)) (by decide +kernel)
def bcX9_back_0 : List Nat := [27, 184, 1, 115, 154, 0, 6, 16, 254, 172, 42, 180, 0, 24, 27, 50, 180, 1, 121, 154, 0, 6, 16, 250, 172, 42, 180, 0, 20, 42, 180, 0, 24, 27, 50, 182, 1, 118, 3, 172]
theorem bcX9_back_0_ok : z_bys cX9_back 0 bcX9_back_0 = true := by decide +kernel
theorem dX9_back_0 : decode cX9_back 0 = .ok (.iload_n 1, 1) := zo_27 (z_byk bcX9_back_0 0 0 _ bcX9_back_0_ok rfl)
theorem dX9_back_1 : decode cX9_back 1 = .ok (.invokestatic 371, 3) := zo_184 (z_byk bcX9_back_0 0 1 _ bcX9_back_0_ok rfl) (z_byk bcX9_back_0 0 2 _ bcX9_back_0_ok rfl) (z_byk bcX9_back_0 0 3 _ bcX9_back_0_ok rfl) rfl
theorem dX9_back_10 : decode cX9_back 10 = .ok (.aload_n 0, 1) := zo_42 (z_byk bcX9_back_0 0 10 _ bcX9_back_0_ok rfl)
theorem dX9_back_11 : decode cX9_back 11 = .ok (.getfield 24, 3) := zo_180 (z_byk bcX9_back_0 0 11 _ bcX9_back_0_ok rfl) (z_byk bcX9_back_0 0 12 _ bcX9_back_0_ok rfl) (z_byk bcX9_back_0 0 13 _ bcX9_back_0_ok rfl) rfl
theorem dX9_back_14 : decode cX9_back 14 = .ok (.iload_n 1, 1) := zo_27 (z_byk bcX9_back_0 0 14 _ bcX9_back_0_ok rfl)
theorem dX9_back_15 : decode cX9_back 15 = .ok (.aaload, 1) := zo_50 (z_byk bcX9_back_0 0 15 _ bcX9_back_0_ok rfl)
theorem dX9_back_16 : decode cX9_back 16 = .ok (.getfield 377, 3) := zo_180 (z_byk bcX9_back_0 0 16 _ bcX9_back_0_ok rfl) (z_byk bcX9_back_0 0 17 _ bcX9_back_0_ok rfl) (z_byk bcX9_back_0 0 18 _ bcX9_back_0_ok rfl) rfl
theorem dX9_back_19 : decode cX9_back 19 = .ok (.ifCond .ne 6, 3) := zo_154 (z_byk bcX9_back_0 0 19 _ bcX9_back_0_ok rfl) (z_byk bcX9_back_0 0 20 _ bcX9_back_0_ok rfl) (z_byk bcX9_back_0 0 21 _ bcX9_back_0_ok rfl) rfl
theorem dX9_back_22 : decode cX9_back 22 = .ok (.bipush (-6), 2) := zo_16 (z_byk bcX9_back_0 0 22 _ bcX9_back_0_ok rfl) (z_byk bcX9_back_0 0 23 _ bcX9_back_0_ok rfl) rfl
theorem dX9_back_24 : decode cX9_back 24 = .ok (.ireturn, 1) := zo_172 (z_byk bcX9_back_0 0 24 _ bcX9_back_0_ok rfl)
theorem dX9_back_25 : decode cX9_back 25 = .ok (.aload_n 0, 1) := zo_42 (z_byk bcX9_back_0 0 25 _ bcX9_back_0_ok rfl)
theorem dX9_back_26 : decode cX9_back 26 = .ok (.getfield 20, 3) := zo_180 (z_byk bcX9_back_0 0 26 _ bcX9_back_0_ok rfl) (z_byk bcX9_back_0 0 27 _ bcX9_back_0_ok rfl) (z_byk bcX9_back_0 0 28 _ bcX9_back_0_ok rfl) rfl
theorem dX9_back_29 : decode cX9_back 29 = .ok (.aload_n 0, 1) := zo_42 (z_byk bcX9_back_0 0 29 _ bcX9_back_0_ok rfl)
theorem dX9_back_30 : decode cX9_back 30 = .ok (.getfield 24, 3) := zo_180 (z_byk bcX9_back_0 0 30 _ bcX9_back_0_ok rfl) (z_byk bcX9_back_0 0 31 _ bcX9_back_0_ok rfl) (z_byk bcX9_back_0 0 32 _ bcX9_back_0_ok rfl) rfl
theorem dX9_back_33 : decode cX9_back 33 = .ok (.iload_n 1, 1) := zo_27 (z_byk bcX9_back_0 0 33 _ bcX9_back_0_ok rfl)
theorem dX9_back_34 : decode cX9_back 34 = .ok (.aaload, 1) := zo_50 (z_byk bcX9_back_0 0 34 _ bcX9_back_0_ok rfl)
theorem dX9_back_35 : decode cX9_back 35 = .ok (.invokevirtual 374, 3) := zo_182 (z_byk bcX9_back_0 0 35 _ bcX9_back_0_ok rfl) (z_byk bcX9_back_0 0 36 _ bcX9_back_0_ok rfl) (z_byk bcX9_back_0 0 37 _ bcX9_back_0_ok rfl) rfl
theorem dX9_back_38 : decode cX9_back 38 = .ok (.iconst 0, 1) := zo_3 (z_byk bcX9_back_0 0 38 _ bcX9_back_0_ok rfl)
theorem dX9_back_39 : decode cX9_back 39 = .ok (.ireturn, 1) := zo_172 (z_byk bcX9_back_0 0 39 _ bcX9_back_0_ok rfl)
theorem dX9_back_4 : decode cX9_back 4 = .ok (.ifCond .ne 6, 3) := zo_154 (z_byk bcX9_back_0 0 4 _ bcX9_back_0_ok rfl) (z_byk bcX9_back_0 0 5 _ bcX9_back_0_ok rfl) (z_byk bcX9_back_0 0 6 _ bcX9_back_0_ok rfl) rfl
theorem dX9_back_7 : decode cX9_back 7 = .ok (.bipush (-2), 2) := zo_16 (z_byk bcX9_back_0 0 7 _ bcX9_back_0_ok rfl) (z_byk bcX9_back_0 0 8 _ bcX9_back_0_ok rfl) rfl
theorem dX9_back_9 : decode cX9_back 9 = .ok (.ireturn, 1) := zo_172 (z_byk bcX9_back_0 0 9 _ bcX9_back_0_ok rfl)
def bcX9_row_0 : List Nat := [27, 184, 1, 66, 153, 0, 18, 28, 155, 0, 14, 28, 6, 163, 0, 9, 29, 16, 60, 164, 0, 6, 16, 254, 172, 29, 156, 0, 6, 16, 253, 172, 42, 180, 0, 30, 27, 50, 28, 29, 182, 1, 124, 3, 172]
theorem bcX9_row_0_ok : z_bys cX9_row 0 bcX9_row_0 = true := by decide +kernel
theorem dX9_row_0 : decode cX9_row 0 = .ok (.iload_n 1, 1) := zo_27 (z_byk bcX9_row_0 0 0 _ bcX9_row_0_ok rfl)
theorem dX9_row_1 : decode cX9_row 1 = .ok (.invokestatic 322, 3) := zo_184 (z_byk bcX9_row_0 0 1 _ bcX9_row_0_ok rfl) (z_byk bcX9_row_0 0 2 _ bcX9_row_0_ok rfl) (z_byk bcX9_row_0 0 3 _ bcX9_row_0_ok rfl) rfl
theorem dX9_row_11 : decode cX9_row 11 = .ok (.iload_n 2, 1) := zo_28 (z_byk bcX9_row_0 0 11 _ bcX9_row_0_ok rfl)
theorem dX9_row_12 : decode cX9_row 12 = .ok (.iconst 3, 1) := zo_6 (z_byk bcX9_row_0 0 12 _ bcX9_row_0_ok rfl)
theorem dX9_row_13 : decode cX9_row 13 = .ok (.if_icmp .gt 9, 3) := zo_163 (z_byk bcX9_row_0 0 13 _ bcX9_row_0_ok rfl) (z_byk bcX9_row_0 0 14 _ bcX9_row_0_ok rfl) (z_byk bcX9_row_0 0 15 _ bcX9_row_0_ok rfl) rfl
theorem dX9_row_16 : decode cX9_row 16 = .ok (.iload_n 3, 1) := zo_29 (z_byk bcX9_row_0 0 16 _ bcX9_row_0_ok rfl)
theorem dX9_row_17 : decode cX9_row 17 = .ok (.bipush 60, 2) := zo_16 (z_byk bcX9_row_0 0 17 _ bcX9_row_0_ok rfl) (z_byk bcX9_row_0 0 18 _ bcX9_row_0_ok rfl) rfl
theorem dX9_row_19 : decode cX9_row 19 = .ok (.if_icmp .le 6, 3) := zo_164 (z_byk bcX9_row_0 0 19 _ bcX9_row_0_ok rfl) (z_byk bcX9_row_0 0 20 _ bcX9_row_0_ok rfl) (z_byk bcX9_row_0 0 21 _ bcX9_row_0_ok rfl) rfl
theorem dX9_row_22 : decode cX9_row 22 = .ok (.bipush (-2), 2) := zo_16 (z_byk bcX9_row_0 0 22 _ bcX9_row_0_ok rfl) (z_byk bcX9_row_0 0 23 _ bcX9_row_0_ok rfl) rfl
theorem dX9_row_24 : decode cX9_row 24 = .ok (.ireturn, 1) := zo_172 (z_byk bcX9_row_0 0 24 _ bcX9_row_0_ok rfl)
theorem dX9_row_25 : decode cX9_row 25 = .ok (.iload_n 3, 1) := zo_29 (z_byk bcX9_row_0 0 25 _ bcX9_row_0_ok rfl)
theorem dX9_row_26 : decode cX9_row 26 = .ok (.ifCond .ge 6, 3) := zo_156 (z_byk bcX9_row_0 0 26 _ bcX9_row_0_ok rfl) (z_byk bcX9_row_0 0 27 _ bcX9_row_0_ok rfl) (z_byk bcX9_row_0 0 28 _ bcX9_row_0_ok rfl) rfl
theorem dX9_row_29 : decode cX9_row 29 = .ok (.bipush (-3), 2) := zo_16 (z_byk bcX9_row_0 0 29 _ bcX9_row_0_ok rfl) (z_byk bcX9_row_0 0 30 _ bcX9_row_0_ok rfl) rfl
theorem dX9_row_31 : decode cX9_row 31 = .ok (.ireturn, 1) := zo_172 (z_byk bcX9_row_0 0 31 _ bcX9_row_0_ok rfl)
theorem dX9_row_32 : decode cX9_row 32 = .ok (.aload_n 0, 1) := zo_42 (z_byk bcX9_row_0 0 32 _ bcX9_row_0_ok rfl)
theorem dX9_row_33 : decode cX9_row 33 = .ok (.getfield 30, 3) := zo_180 (z_byk bcX9_row_0 0 33 _ bcX9_row_0_ok rfl) (z_byk bcX9_row_0 0 34 _ bcX9_row_0_ok rfl) (z_byk bcX9_row_0 0 35 _ bcX9_row_0_ok rfl) rfl
theorem dX9_row_36 : decode cX9_row 36 = .ok (.iload_n 1, 1) := zo_27 (z_byk bcX9_row_0 0 36 _ bcX9_row_0_ok rfl)
theorem dX9_row_37 : decode cX9_row 37 = .ok (.aaload, 1) := zo_50 (z_byk bcX9_row_0 0 37 _ bcX9_row_0_ok rfl)
theorem dX9_row_38 : decode cX9_row 38 = .ok (.iload_n 2, 1) := zo_28 (z_byk bcX9_row_0 0 38 _ bcX9_row_0_ok rfl)
theorem dX9_row_39 : decode cX9_row 39 = .ok (.iload_n 3, 1) := zo_29 (z_byk bcX9_row_0 0 39 _ bcX9_row_0_ok rfl)
theorem dX9_row_4 : decode cX9_row 4 = .ok (.ifCond .eq 18, 3) := zo_153 (z_byk bcX9_row_0 0 4 _ bcX9_row_0_ok rfl) (z_byk bcX9_row_0 0 5 _ bcX9_row_0_ok rfl) (z_byk bcX9_row_0 0 6 _ bcX9_row_0_ok rfl) rfl
theorem dX9_row_40 : decode cX9_row 40 = .ok (.invokevirtual 380, 3) := zo_182 (z_byk bcX9_row_0 0 40 _ bcX9_row_0_ok rfl) (z_byk bcX9_row_0 0 41 _ bcX9_row_0_ok rfl) (z_byk bcX9_row_0 0 42 _ bcX9_row_0_ok rfl) rfl
theorem dX9_row_43 : decode cX9_row 43 = .ok (.iconst 0, 1) := zo_3 (z_byk bcX9_row_0 0 43 _ bcX9_row_0_ok rfl)
theorem dX9_row_44 : decode cX9_row 44 = .ok (.ireturn, 1) := zo_172 (z_byk bcX9_row_0 0 44 _ bcX9_row_0_ok rfl)
theorem dX9_row_7 : decode cX9_row 7 = .ok (.iload_n 2, 1) := zo_28 (z_byk bcX9_row_0 0 7 _ bcX9_row_0_ok rfl)
theorem dX9_row_8 : decode cX9_row 8 = .ok (.ifCond .lt 14, 3) := zo_155 (z_byk bcX9_row_0 0 8 _ bcX9_row_0_ok rfl) (z_byk bcX9_row_0 0 9 _ bcX9_row_0_ok rfl) (z_byk bcX9_row_0 0 10 _ bcX9_row_0_ok rfl) rfl
def bcX9_write_0 : List Nat := [27, 184, 1, 66, 154, 0, 6, 16, 254, 172, 42, 180, 0, 30, 27, 50, 58, 5, 25, 5, 182, 1, 69, 154, 0, 6, 16, 250, 172, 25, 5, 28, 4, 182, 1, 127, 154, 0, 6, 16, 249, 172, 25, 5, 28, 33, 182, 1, 130, 3, 172]
theorem bcX9_write_0_ok : z_bys cX9_write 0 bcX9_write_0 = true := by decide +kernel
theorem dX9_write_0 : decode cX9_write 0 = .ok (.iload_n 1, 1) := zo_27 (z_byk bcX9_write_0 0 0 _ bcX9_write_0_ok rfl)
theorem dX9_write_1 : decode cX9_write 1 = .ok (.invokestatic 322, 3) := zo_184 (z_byk bcX9_write_0 0 1 _ bcX9_write_0_ok rfl) (z_byk bcX9_write_0 0 2 _ bcX9_write_0_ok rfl) (z_byk bcX9_write_0 0 3 _ bcX9_write_0_ok rfl) rfl
theorem dX9_write_10 : decode cX9_write 10 = .ok (.aload_n 0, 1) := zo_42 (z_byk bcX9_write_0 0 10 _ bcX9_write_0_ok rfl)
theorem dX9_write_11 : decode cX9_write 11 = .ok (.getfield 30, 3) := zo_180 (z_byk bcX9_write_0 0 11 _ bcX9_write_0_ok rfl) (z_byk bcX9_write_0 0 12 _ bcX9_write_0_ok rfl) (z_byk bcX9_write_0 0 13 _ bcX9_write_0_ok rfl) rfl
theorem dX9_write_14 : decode cX9_write 14 = .ok (.iload_n 1, 1) := zo_27 (z_byk bcX9_write_0 0 14 _ bcX9_write_0_ok rfl)
theorem dX9_write_15 : decode cX9_write 15 = .ok (.aaload, 1) := zo_50 (z_byk bcX9_write_0 0 15 _ bcX9_write_0_ok rfl)
theorem dX9_write_16 : decode cX9_write 16 = .ok (.astore 5, 2) := zo_58 (z_byk bcX9_write_0 0 16 _ bcX9_write_0_ok rfl) (z_byk bcX9_write_0 0 17 _ bcX9_write_0_ok rfl)
theorem dX9_write_18 : decode cX9_write 18 = .ok (.aload 5, 2) := zo_25 (z_byk bcX9_write_0 0 18 _ bcX9_write_0_ok rfl) (z_byk bcX9_write_0 0 19 _ bcX9_write_0_ok rfl)
theorem dX9_write_20 : decode cX9_write 20 = .ok (.invokevirtual 325, 3) := zo_182 (z_byk bcX9_write_0 0 20 _ bcX9_write_0_ok rfl) (z_byk bcX9_write_0 0 21 _ bcX9_write_0_ok rfl) (z_byk bcX9_write_0 0 22 _ bcX9_write_0_ok rfl) rfl
theorem dX9_write_23 : decode cX9_write 23 = .ok (.ifCond .ne 6, 3) := zo_154 (z_byk bcX9_write_0 0 23 _ bcX9_write_0_ok rfl) (z_byk bcX9_write_0 0 24 _ bcX9_write_0_ok rfl) (z_byk bcX9_write_0 0 25 _ bcX9_write_0_ok rfl) rfl
theorem dX9_write_26 : decode cX9_write 26 = .ok (.bipush (-6), 2) := zo_16 (z_byk bcX9_write_0 0 26 _ bcX9_write_0_ok rfl) (z_byk bcX9_write_0 0 27 _ bcX9_write_0_ok rfl) rfl
theorem dX9_write_28 : decode cX9_write 28 = .ok (.ireturn, 1) := zo_172 (z_byk bcX9_write_0 0 28 _ bcX9_write_0_ok rfl)
theorem dX9_write_29 : decode cX9_write 29 = .ok (.aload 5, 2) := zo_25 (z_byk bcX9_write_0 0 29 _ bcX9_write_0_ok rfl) (z_byk bcX9_write_0 0 30 _ bcX9_write_0_ok rfl)
theorem dX9_write_31 : decode cX9_write 31 = .ok (.iload_n 2, 1) := zo_28 (z_byk bcX9_write_0 0 31 _ bcX9_write_0_ok rfl)
theorem dX9_write_32 : decode cX9_write 32 = .ok (.iconst 1, 1) := zo_4 (z_byk bcX9_write_0 0 32 _ bcX9_write_0_ok rfl)
theorem dX9_write_33 : decode cX9_write 33 = .ok (.invokevirtual 383, 3) := zo_182 (z_byk bcX9_write_0 0 33 _ bcX9_write_0_ok rfl) (z_byk bcX9_write_0 0 34 _ bcX9_write_0_ok rfl) (z_byk bcX9_write_0 0 35 _ bcX9_write_0_ok rfl) rfl
theorem dX9_write_36 : decode cX9_write 36 = .ok (.ifCond .ne 6, 3) := zo_154 (z_byk bcX9_write_0 0 36 _ bcX9_write_0_ok rfl) (z_byk bcX9_write_0 0 37 _ bcX9_write_0_ok rfl) (z_byk bcX9_write_0 0 38 _ bcX9_write_0_ok rfl) rfl
theorem dX9_write_39 : decode cX9_write 39 = .ok (.bipush (-7), 2) := zo_16 (z_byk bcX9_write_0 0 39 _ bcX9_write_0_ok rfl) (z_byk bcX9_write_0 0 40 _ bcX9_write_0_ok rfl) rfl
theorem dX9_write_4 : decode cX9_write 4 = .ok (.ifCond .ne 6, 3) := zo_154 (z_byk bcX9_write_0 0 4 _ bcX9_write_0_ok rfl) (z_byk bcX9_write_0 0 5 _ bcX9_write_0_ok rfl) (z_byk bcX9_write_0 0 6 _ bcX9_write_0_ok rfl) rfl
theorem dX9_write_41 : decode cX9_write 41 = .ok (.ireturn, 1) := zo_172 (z_byk bcX9_write_0 0 41 _ bcX9_write_0_ok rfl)
theorem dX9_write_42 : decode cX9_write 42 = .ok (.aload 5, 2) := zo_25 (z_byk bcX9_write_0 0 42 _ bcX9_write_0_ok rfl) (z_byk bcX9_write_0 0 43 _ bcX9_write_0_ok rfl)
theorem dX9_write_44 : decode cX9_write 44 = .ok (.iload_n 2, 1) := zo_28 (z_byk bcX9_write_0 0 44 _ bcX9_write_0_ok rfl)
theorem dX9_write_45 : decode cX9_write 45 = .ok (.lload_n 3, 1) := zo_33 (z_byk bcX9_write_0 0 45 _ bcX9_write_0_ok rfl)
theorem dX9_write_46 : decode cX9_write 46 = .ok (.invokevirtual 386, 3) := zo_182 (z_byk bcX9_write_0 0 46 _ bcX9_write_0_ok rfl) (z_byk bcX9_write_0 0 47 _ bcX9_write_0_ok rfl) (z_byk bcX9_write_0 0 48 _ bcX9_write_0_ok rfl) rfl
theorem dX9_write_49 : decode cX9_write 49 = .ok (.iconst 0, 1) := zo_3 (z_byk bcX9_write_0 0 49 _ bcX9_write_0_ok rfl)
theorem dX9_write_50 : decode cX9_write 50 = .ok (.ireturn, 1) := zo_172 (z_byk bcX9_write_0 0 50 _ bcX9_write_0_ok rfl)
theorem dX9_write_7 : decode cX9_write 7 = .ok (.bipush (-2), 2) := zo_16 (z_byk bcX9_write_0 0 7 _ bcX9_write_0_ok rfl) (z_byk bcX9_write_0 0 8 _ bcX9_write_0_ok rfl) rfl
theorem dX9_write_9 : decode cX9_write 9 = .ok (.ireturn, 1) := zo_172 (z_byk bcX9_write_0 0 9 _ bcX9_write_0_ok rfl)
set_option maxHeartbeats 4000000 in
set_option maxRecDepth 100000 in
theorem k_X9_write (l : Launch) (sa : Nat → Nat) (dC : Nat → ClassId) (dI : Nat → Nat → Nat) (h0 : Nat) (p1 : Int32) (p2 : Int32) (p3 : Int64) (tp : Nat) (h0_tapeLength : Int32) (h0_faultKind : Int32) (h0_faultPlace : Int32) (nw : Nat) (im : Nat) (sl : Nat) (rd : Nat) (wk : Nat) (fm : Nat) (mt : Nat) (ch : Nat) (dy : Nat) (cA_sl : ClassId) (f_sl : Nat → Option Nat) (r0 : Nat) (r1 : Nat) (r2 : Nat) (r3 : Nat) (r0_width : Int32) (r0_size : Int32) (r0_numbers : Nat) (cA_r0_numbers : ClassId) (f_r0_numbers : Nat → Int64) (r1_width : Int32) (r1_size : Int32) (r1_numbers : Nat) (cA_r1_numbers : ClassId) (f_r1_numbers : Nat → Int64) (r2_width : Int32) (r2_size : Int32) (r2_numbers : Nat) (cA_r2_numbers : ClassId) (f_r2_numbers : Nat → Int64) (r3_width : Int32) (r3_size : Int32) (r3_numbers : Nat) (cA_r3_numbers : ClassId) (f_r3_numbers : Nat → Int64) (b_h0_tapeLength : 0 ≤ h0_tapeLength.toInt ∧ h0_tapeLength.toInt ≤ 1600) (hsl0 : f_sl 0 = some r0) (hsl1 : f_sl 1 = some r1) (hsl2 : f_sl 2 = some r2) (hsl3 : f_sl 3 = some r3) (b_r0_size : 0 ≤ r0_size.toInt ∧ r0_size.toInt ≤ 60) (b_r1_size : 0 ≤ r1_size.toInt ∧ r1_size.toInt ≤ 60) (b_r2_size : 0 ≤ r2_size.toInt ∧ r2_size.toInt ≤ 60) (b_r3_size : 0 ≤ r3_size.toInt ∧ r3_size.toInt ≤ 60) (sz : Nat) : Met l yX9_write (.code yX9_write cX9_write 6 (some .int) :: zT) ({ frames := 1, cells := 0, slots := 0, locals := 23 }) (va_Pc [.ref h0, .int p1, .int p2, .long p3] (zB sa dC dI (zV73 h0 tp h0_tapeLength h0_faultKind h0_faultPlace nw im sl rd wk fm mt ch dy sl cA_sl f_sl r0 r0_width r0_size r0_numbers r0_numbers cA_r0_numbers f_r0_numbers r1 r1_width r1_size r1_numbers r1_numbers cA_r1_numbers f_r1_numbers r2 r2_width r2_size r2_numbers r2_numbers cA_r2_numbers f_r2_numbers r3 r3_width r3_size r3_numbers r3_numbers cA_r3_numbers f_r3_numbers) [(cA_sl, .object RX6), (cA_r0_numbers, .long), (cA_r1_numbers, .long), (cA_r2_numbers, .long), (cA_r3_numbers, .long)] sz)) (va_Qi (fun (r : Int32) (_ : Unit) => ((-7) ≤ r.toInt ∧ r.toInt ≤ 0)) (fun _ t => ∃ (n_r0_numbers : Nat → Int64) (n_r1_numbers : Nat → Int64) (n_r2_numbers : Nat → Int64) (n_r3_numbers : Nat → Int64), zW dC dI (zV73 h0 tp h0_tapeLength h0_faultKind h0_faultPlace nw im sl rd wk fm mt ch dy sl cA_sl f_sl r0 r0_width r0_size r0_numbers r0_numbers cA_r0_numbers n_r0_numbers r1 r1_width r1_size r1_numbers r1_numbers cA_r1_numbers n_r1_numbers r2 r2_width r2_size r2_numbers r2_numbers cA_r2_numbers n_r2_numbers r3 r3_width r3_size r3_numbers r3_numbers cA_r3_numbers n_r3_numbers) [] (va_A (zV73 h0 tp h0_tapeLength h0_faultKind h0_faultPlace nw im sl rd wk fm mt ch dy sl cA_sl f_sl r0 r0_width r0_size r0_numbers r0_numbers cA_r0_numbers f_r0_numbers r1 r1_width r1_size r1_numbers r1_numbers cA_r1_numbers f_r1_numbers r2 r2_width r2_size r2_numbers r2_numbers cA_r2_numbers f_r2_numbers r3 r3_width r3_size r3_numbers r3_numbers cA_r3_numbers f_r3_numbers) sz) t) (va_A (zV73 h0 tp h0_tapeLength h0_faultKind h0_faultPlace nw im sl rd wk fm mt ch dy sl cA_sl f_sl r0 r0_width r0_size r0_numbers r0_numbers cA_r0_numbers f_r0_numbers r1 r1_width r1_size r1_numbers r1_numbers cA_r1_numbers f_r1_numbers r2 r2_width r2_size r2_numbers r2_numbers cA_r2_numbers f_r2_numbers r3 r3_width r3_size r3_numbers r3_numbers cA_r3_numbers f_r3_numbers) sz)) 0 0 (va_A (zV73 h0 tp h0_tapeLength h0_faultKind h0_faultPlace nw im sl rd wk fm mt ch dy sl cA_sl f_sl r0 r0_width r0_size r0_numbers r0_numbers cA_r0_numbers f_r0_numbers r1 r1_width r1_size r1_numbers r1_numbers cA_r1_numbers f_r1_numbers r2 r2_width r2_size r2_numbers r2_numbers cA_r2_numbers f_r2_numbers r3 r3_width r3_size r3_numbers r3_numbers cA_r3_numbers f_r3_numbers) sz) := by
  refine z_enter (by decide) (by exact (Nat.le_of_ble_eq_true rfl)) ?_
  intro p e s m args below meth c ls A R Qc hargs hsz hQe hAe hRe hx hb hml hr hts hown hlocks hin hl hP hK hD hN hXs hA hS
  rw [hAe] at hQe
  have hown : s.vm.findClass RX9 = some m.cls := hown
  have hl : lv_has ls 6 [(0, .ref h0), (1, .int p1), (2, .int p2), (3, .long p3)] := hl
  refine lv_iload_n hx hb dX9_write_0 rfl (lv_at hl 1 rfl) ?_
  obtain ⟨hPc, hDc, hFc⟩ := z_cut (wc := []) hP hD hS hA [] rfl (by decide +kernel)
  have hKc := hK.sub (tys' := []) [] rfl
  refine va_calli (va_runS (As := [.int p1]) (rest := []) ⟨hx, hb, hml, hown, hts⟩ (k_X9_isSlot l sa dC dI p1 s.heap.size) (va_cwS 1 hts (z_gS zw_t5_219 zw_t5_220 zw_t1_1 zw_t5_221) rfl rfl rfl (by decide +kernel) (by rw [← hRe]; exact ⟨(Nat.le_of_ble_eq_true rfl), (Nat.le_of_ble_eq_true rfl)⟩)) (z_preS hPc hKc hDc hN hXs hS hFc) rfl rfl hl.1 rfl (lv_room (Nat.le_of_ble_eq_true rfl)) dX9_write_1 (by rw [← hRe]; exact ⟨(Nat.le_of_ble_eq_true rfl), (Nat.le_of_ble_eq_true rfl)⟩)) hS (fun q _ h => hFc q h) hFc (fun r_1 u t H1 locs ht hvm hw hB hz1 hk1 hS => ?_)
  obtain ⟨hP, hD, hK⟩ := z_after3 (wn := (zV73 h0 tp h0_tapeLength h0_faultKind h0_faultPlace nw im sl rd wk fm mt ch dy sl cA_sl f_sl r0 r0_width r0_size r0_numbers r0_numbers cA_r0_numbers f_r0_numbers r1 r1_width r1_size r1_numbers r1_numbers cA_r1_numbers f_r1_numbers r2 r2_width r2_size r2_numbers r2_numbers cA_r2_numbers f_r2_numbers r3 r3_width r3_size r3_numbers r3_numbers cA_r3_numbers f_r3_numbers)) hB ht hvm hP hD hK [] [0, 1, 2, 3, 4, 5, 6, 7, 8, 9] rfl 10 rfl (by decide +kernel) rfl (by decide +kernel) hk1 hFc
  generalize H1 = H at hP hS ⊢
  have hK : va_K (dC, dI) vwCl [(cA_sl, .object RX6), (cA_r0_numbers, .long), (cA_r1_numbers, .long), (cA_r2_numbers, .long), (cA_r3_numbers, .long)] s := hK
  have b_r_1 : 0 ≤ r_1.toInt ∧ r_1.toInt ≤ 1 := hw.1
  have s_r_1 := hw.2
  refine lv_if_ne (tgt := 10) hx hb dX9_write_4 (by decide) (fun c_2 => ?_) (fun c_2 => ?_)
  · have ic_2 := zz_ne rfl (show Int32.toInt 0 = 0 from by decide) c_2
    refine lv_aload_n hx hb dX9_write_10 rfl (lv_at hl 0 rfl) ?_
    refine va_get (D := (dC, dI)) (ci := 9) (v := .ref sl) (C := RX9) (T := TX9) (N := 13) hx hb hts zl_X9 hown hK hP 0 rfl rfl 6 (by decide) (hts _ zw_t2_195) (fun _ h9 => h9) rfl dX9_write_11 ?_
    refine lv_iload_n hx hb dX9_write_14 rfl (lv_at hl 1 rfl) ?_
    rcases z_s3 p1 with q_sw | rfl | rfl | rfl | rfl | q_sw
    · omega
    · have zc_0 : Int32.toInt 0 = 0 := by decide
      refine va_aldq hx hb hK hP 1 0 rfl rfl (zi_in (show Int32.toInt 0 = 0 from by decide) (by decide)) dX9_write_15 ?_
      refine W.eq (g2 := F0 m 16 ls (.ref r0 :: [])) (by rw [show f_sl (Int32.toNatClampNeg 0) = some r0 from (by rw [show Int32.toNatClampNeg 0 = 0 from by decide]; exact hsl0)]; rfl) ?_
      refine lv_astore (lv' := [(5, .ref r0), (0, .ref h0), (1, .int 0), (2, .int p2), (3, .long p3)]) hx hb dX9_write_16 hl (by decide) rfl (fun ls hl => ?_)
      refine lv_aload hx hb dX9_write_18 (lv_at hl 0 rfl) ?_
      obtain ⟨hPc, hDc, hFc⟩ := z_cut (wc := (zV6 r0 r0_width r0_size r0_numbers)) hP hD hS hA [2] rfl (by decide +kernel)
      have hKc := hK.sub (tys' := []) [] rfl
      refine va_calli (va_runV (As := []) (rest := []) ⟨hx, hb, hml, hown, hts⟩ (k_X6_isThere l sa dC dI r0 r0_width r0_size r0_numbers b_r0_size H.size) (cwV 0 hts (z_gV zw_t5_222 zw_t5_223 zw_t5_224 zw_t1_10 zw_t5_225) rfl rfl rfl (by decide +kernel) (by rw [← hRe]; exact ⟨(Nat.le_of_ble_eq_true rfl), (Nat.le_of_ble_eq_true rfl)⟩)) (z_preV hPc hKc hDc hN hXs hS hFc (q := (RX6, TX6, 3)) (ci := 6) (q0 := 0) rfl rfl) rfl rfl hl.1 rfl (lv_room (Nat.le_of_ble_eq_true rfl)) dX9_write_20 (by rw [← hRe]; exact ⟨(Nat.le_of_ble_eq_true rfl), (Nat.le_of_ble_eq_true rfl)⟩)) hS (fun q _ h => hFc q h) hFc (fun r_3 u t H1 locs ht hvm hw hB hz1 hk1 hS => ?_)
      obtain ⟨hP, hD, hK⟩ := z_after3 (wn := (zV74 h0 tp h0_tapeLength h0_faultKind h0_faultPlace nw im sl rd wk fm mt ch dy sl cA_sl f_sl r0_numbers cA_r0_numbers f_r0_numbers r1 r1_width r1_size r1_numbers r1_numbers cA_r1_numbers f_r1_numbers r2 r2_width r2_size r2_numbers r2_numbers cA_r2_numbers f_r2_numbers r3 r3_width r3_size r3_numbers r3_numbers cA_r3_numbers f_r3_numbers r0 r0_width r0_size r0_numbers)) hB ht hvm hP hD hK [2] [0, 1, 3, 4, 5, 6, 7, 8, 9] rfl 10 rfl (by decide +kernel) rfl (by decide +kernel) hk1 hFc
      generalize H1 = H at hP hS ⊢
      have hK : va_K (dC, dI) vwCl [(cA_sl, .object RX6), (cA_r0_numbers, .long), (cA_r1_numbers, .long), (cA_r2_numbers, .long), (cA_r3_numbers, .long)] s := hK
      have b_r_3 : 0 ≤ r_3.toInt ∧ r_3.toInt ≤ 1 := hw
      refine lv_if_ne (tgt := 29) hx hb dX9_write_23 (by decide) (fun c_4 => ?_) (fun c_4 => ?_)
      · have ic_4 := zz_ne rfl (show Int32.toInt 0 = 0 from by decide) c_4
        refine lv_aload hx hb dX9_write_29 (lv_at hl 0 rfl) ?_
        refine lv_iload_n hx hb dX9_write_31 rfl (lv_at hl 3 rfl) ?_
        refine lv_iconst (v := 1) hx hb dX9_write_32 (by decide) ?_
        obtain ⟨hPc, hDc, hFc⟩ := z_cut (wc := (zV6 r0 r0_width r0_size r0_numbers)) hP hD hS hA [9] rfl (by decide +kernel)
        have hKc := hK.sub (tys' := []) [] rfl
        refine va_calli (va_runV (As := [.int p2, .int 1]) (rest := []) ⟨hx, hb, hml, hown, hts⟩ (k_X6_hasSpan l sa dC dI r0 p2 (1) r0_width r0_size r0_numbers b_r0_size H.size) (cwV 2 hts (z_gV zw_t6_80 zw_t6_81 zw_t6_82 zw_t1_10 zw_t6_83) rfl rfl rfl (by decide +kernel) (by rw [← hRe]; exact ⟨(Nat.le_of_ble_eq_true rfl), (Nat.le_of_ble_eq_true rfl)⟩)) (z_preV hPc hKc hDc hN hXs hS hFc (q := (RX6, TX6, 3)) (ci := 6) (q0 := 0) rfl rfl) rfl rfl hl.1 rfl (lv_room (Nat.le_of_ble_eq_true rfl)) dX9_write_33 (by rw [← hRe]; exact ⟨(Nat.le_of_ble_eq_true rfl), (Nat.le_of_ble_eq_true rfl)⟩)) hS (fun q _ h => hFc q h) hFc (fun r_5 u t H1 locs ht hvm hw hB hz1 hk1 hS => ?_)
        obtain ⟨hP, hD, hK⟩ := z_after3 (wn := (zV74 h0 tp h0_tapeLength h0_faultKind h0_faultPlace nw im sl rd wk fm mt ch dy sl cA_sl f_sl r0_numbers cA_r0_numbers f_r0_numbers r1 r1_width r1_size r1_numbers r1_numbers cA_r1_numbers f_r1_numbers r2 r2_width r2_size r2_numbers r2_numbers cA_r2_numbers f_r2_numbers r3 r3_width r3_size r3_numbers r3_numbers cA_r3_numbers f_r3_numbers r0 r0_width r0_size r0_numbers)) hB ht hvm hP hD hK [9] [0, 1, 2, 3, 4, 5, 6, 7, 8] rfl 10 rfl (by decide +kernel) rfl (by decide +kernel) hk1 hFc
        generalize H1 = H at hP hS ⊢
        have hK : va_K (dC, dI) vwCl [(cA_sl, .object RX6), (cA_r0_numbers, .long), (cA_r1_numbers, .long), (cA_r2_numbers, .long), (cA_r3_numbers, .long)] s := hK
        have b_r_5 : 0 ≤ r_5.toInt ∧ r_5.toInt ≤ 1 := hw.1
        have s_r_5 := hw.2
        have za_1 : Int32.toInt 1 = 1 := by decide
        refine lv_if_ne (tgt := 42) hx hb dX9_write_36 (by decide) (fun c_6 => ?_) (fun c_6 => ?_)
        · have ic_6 := zz_ne rfl (show Int32.toInt 0 = 0 from by decide) c_6
          refine lv_aload hx hb dX9_write_42 (lv_at hl 0 rfl) ?_
          refine lv_iload_n hx hb dX9_write_44 rfl (lv_at hl 3 rfl) ?_
          refine lv_lload_n hx hb dX9_write_45 rfl (lv_at hl 4 rfl) ?_
          obtain ⟨hPc, hDc, hFc⟩ := z_cut (wc := (zV7 r0 r0_width r0_size r0_numbers r0_numbers cA_r0_numbers f_r0_numbers)) hP hD hS hA [9, 2] rfl (by decide +kernel)
          have hKc := hK.sub (tys' := [(cA_r0_numbers, .long)]) [1] rfl
          refine va_callv (va_runV (As := [.int p2, .long p3]) (rest := []) ⟨hx, hb, hml, hown, hts⟩ (k_X6_put l sa dC dI r0 p2 p3 r0_width r0_size r0_numbers cA_r0_numbers f_r0_numbers (by first | with_reducible assumption | omega) b_r0_size H.size) (cwV 2 hts (z_gV zw_t6_84 zw_t6_85 zw_t6_86 zw_t1_10 zw_t6_87) rfl rfl rfl (by decide +kernel) (by rw [← hRe]; exact ⟨(Nat.le_of_ble_eq_true rfl), (Nat.le_of_ble_eq_true rfl)⟩)) (z_preV hPc hKc hDc hN hXs hS hFc (q := (RX6, TX6, 3)) (ci := 6) (q0 := 0) rfl rfl) rfl rfl hl.1 rfl (lv_room (Nat.le_of_ble_eq_true rfl)) dX9_write_46 (by rw [← hRe]; exact ⟨(Nat.le_of_ble_eq_true rfl), (Nat.le_of_ble_eq_true rfl)⟩)) hS (fun q _ h => hFc q h) hFc (fun u t H1 locs ht hvm hw hB hz1 hk1 hS => ?_)
          obtain ⟨n_rw_numbers_8, hB⟩ := hB
          obtain ⟨hP, hD, hK⟩ := z_after3 (wn := (zV73 h0 tp h0_tapeLength h0_faultKind h0_faultPlace nw im sl rd wk fm mt ch dy sl cA_sl f_sl r1 r1_width r1_size r1_numbers r1_numbers cA_r1_numbers f_r1_numbers r2 r2_width r2_size r2_numbers r2_numbers cA_r2_numbers f_r2_numbers r3 r3_width r3_size r3_numbers r3_numbers cA_r3_numbers f_r3_numbers r0 r0_width r0_size r0_numbers r0_numbers cA_r0_numbers n_rw_numbers_8)) hB ht hvm hP hD hK [9, 2] [0, 1, 3, 4, 5, 6, 7, 8] rfl 10 rfl (by decide +kernel) rfl (by decide +kernel) hk1 hFc
          generalize H1 = H at hP hS ⊢
          have hK : va_K (dC, dI) vwCl [(cA_sl, .object RX6), (cA_r0_numbers, .long), (cA_r1_numbers, .long), (cA_r2_numbers, .long), (cA_r3_numbers, .long)] s := hK
          refine lv_iconst (v := 0) hx hb dX9_write_49 (by decide) ?_
          exact W.iret (v := 0) hx hb hr (fun t ht hW => by rw [← hQe]; exact ⟨⟨0, (), rfl, (by decide), ⟨n_rw_numbers_8, f_r1_numbers, f_r2_numbers, f_r3_numbers, z_ret hP hK hD ht hW [0, 1, 8, 9, 2, 3, 4, 5, 6, 7] [] rfl (by decide) rfl⟩⟩, hS.F ht⟩) hS.2.2 dX9_write_50
        · have ic_6 := zz_nne rfl (show Int32.toInt 0 = 0 from by decide) c_6
          refine lv_bipush (v := (-7)) hx hb dX9_write_39 (by decide) ?_
          exact W.iret (v := (-7)) hx hb hr (fun t ht hW => by rw [← hQe]; exact ⟨⟨(-7), (), rfl, (by decide), ⟨f_r0_numbers, f_r1_numbers, f_r2_numbers, f_r3_numbers, z_ret hP hK hD ht hW [0, 1, 9, 2, 3, 4, 5, 6, 7, 8] [] rfl (by decide) rfl⟩⟩, hS.F ht⟩) hS.2.2 dX9_write_41
      · have ic_4 := zz_nne rfl (show Int32.toInt 0 = 0 from by decide) c_4
        refine lv_bipush (v := (-6)) hx hb dX9_write_26 (by decide) ?_
        exact W.iret (v := (-6)) hx hb hr (fun t ht hW => by rw [← hQe]; exact ⟨⟨(-6), (), rfl, (by decide), ⟨f_r0_numbers, f_r1_numbers, f_r2_numbers, f_r3_numbers, z_ret hP hK hD ht hW [0, 1, 9, 2, 3, 4, 5, 6, 7, 8] [] rfl (by decide) rfl⟩⟩, hS.F ht⟩) hS.2.2 dX9_write_28
    · have zc_1 : Int32.toInt 1 = 1 := by decide
      refine va_aldq hx hb hK hP 1 0 rfl rfl (zi_in (show Int32.toInt 1 = 1 from by decide) (by decide)) dX9_write_15 ?_
      refine W.eq (g2 := F0 m 16 ls (.ref r1 :: [])) (by rw [show f_sl (Int32.toNatClampNeg 1) = some r1 from (by rw [show Int32.toNatClampNeg 1 = 1 from by decide]; exact hsl1)]; rfl) ?_
      refine lv_astore (lv' := [(5, .ref r1), (0, .ref h0), (1, .int 1), (2, .int p2), (3, .long p3)]) hx hb dX9_write_16 hl (by decide) rfl (fun ls hl => ?_)
      refine lv_aload hx hb dX9_write_18 (lv_at hl 0 rfl) ?_
      obtain ⟨hPc, hDc, hFc⟩ := z_cut (wc := (zV6 r1 r1_width r1_size r1_numbers)) hP hD hS hA [4] rfl (by decide +kernel)
      have hKc := hK.sub (tys' := []) [] rfl
      refine va_calli (va_runV (As := []) (rest := []) ⟨hx, hb, hml, hown, hts⟩ (k_X6_isThere l sa dC dI r1 r1_width r1_size r1_numbers b_r1_size H.size) (cwV 0 hts (z_gV zw_t5_222 zw_t5_223 zw_t5_224 zw_t1_10 zw_t5_225) rfl rfl rfl (by decide +kernel) (by rw [← hRe]; exact ⟨(Nat.le_of_ble_eq_true rfl), (Nat.le_of_ble_eq_true rfl)⟩)) (z_preV hPc hKc hDc hN hXs hS hFc (q := (RX6, TX6, 3)) (ci := 6) (q0 := 0) rfl rfl) rfl rfl hl.1 rfl (lv_room (Nat.le_of_ble_eq_true rfl)) dX9_write_20 (by rw [← hRe]; exact ⟨(Nat.le_of_ble_eq_true rfl), (Nat.le_of_ble_eq_true rfl)⟩)) hS (fun q _ h => hFc q h) hFc (fun r_9 u t H1 locs ht hvm hw hB hz1 hk1 hS => ?_)
      obtain ⟨hP, hD, hK⟩ := z_after3 (wn := (zV75 h0 tp h0_tapeLength h0_faultKind h0_faultPlace nw im sl rd wk fm mt ch dy sl cA_sl f_sl r0 r0_width r0_size r0_numbers r0_numbers cA_r0_numbers f_r0_numbers r1_numbers cA_r1_numbers f_r1_numbers r2 r2_width r2_size r2_numbers r2_numbers cA_r2_numbers f_r2_numbers r3 r3_width r3_size r3_numbers r3_numbers cA_r3_numbers f_r3_numbers r1 r1_width r1_size r1_numbers)) hB ht hvm hP hD hK [4] [0, 1, 2, 3, 5, 6, 7, 8, 9] rfl 10 rfl (by decide +kernel) rfl (by decide +kernel) hk1 hFc
      generalize H1 = H at hP hS ⊢
      have hK : va_K (dC, dI) vwCl [(cA_sl, .object RX6), (cA_r0_numbers, .long), (cA_r1_numbers, .long), (cA_r2_numbers, .long), (cA_r3_numbers, .long)] s := hK
      have b_r_9 : 0 ≤ r_9.toInt ∧ r_9.toInt ≤ 1 := hw
      refine lv_if_ne (tgt := 29) hx hb dX9_write_23 (by decide) (fun c_10 => ?_) (fun c_10 => ?_)
      · have ic_10 := zz_ne rfl (show Int32.toInt 0 = 0 from by decide) c_10
        refine lv_aload hx hb dX9_write_29 (lv_at hl 0 rfl) ?_
        refine lv_iload_n hx hb dX9_write_31 rfl (lv_at hl 3 rfl) ?_
        refine lv_iconst (v := 1) hx hb dX9_write_32 (by decide) ?_
        obtain ⟨hPc, hDc, hFc⟩ := z_cut (wc := (zV6 r1 r1_width r1_size r1_numbers)) hP hD hS hA [9] rfl (by decide +kernel)
        have hKc := hK.sub (tys' := []) [] rfl
        refine va_calli (va_runV (As := [.int p2, .int 1]) (rest := []) ⟨hx, hb, hml, hown, hts⟩ (k_X6_hasSpan l sa dC dI r1 p2 (1) r1_width r1_size r1_numbers b_r1_size H.size) (cwV 2 hts (z_gV zw_t6_80 zw_t6_81 zw_t6_82 zw_t1_10 zw_t6_83) rfl rfl rfl (by decide +kernel) (by rw [← hRe]; exact ⟨(Nat.le_of_ble_eq_true rfl), (Nat.le_of_ble_eq_true rfl)⟩)) (z_preV hPc hKc hDc hN hXs hS hFc (q := (RX6, TX6, 3)) (ci := 6) (q0 := 0) rfl rfl) rfl rfl hl.1 rfl (lv_room (Nat.le_of_ble_eq_true rfl)) dX9_write_33 (by rw [← hRe]; exact ⟨(Nat.le_of_ble_eq_true rfl), (Nat.le_of_ble_eq_true rfl)⟩)) hS (fun q _ h => hFc q h) hFc (fun r_11 u t H1 locs ht hvm hw hB hz1 hk1 hS => ?_)
        obtain ⟨hP, hD, hK⟩ := z_after3 (wn := (zV75 h0 tp h0_tapeLength h0_faultKind h0_faultPlace nw im sl rd wk fm mt ch dy sl cA_sl f_sl r0 r0_width r0_size r0_numbers r0_numbers cA_r0_numbers f_r0_numbers r1_numbers cA_r1_numbers f_r1_numbers r2 r2_width r2_size r2_numbers r2_numbers cA_r2_numbers f_r2_numbers r3 r3_width r3_size r3_numbers r3_numbers cA_r3_numbers f_r3_numbers r1 r1_width r1_size r1_numbers)) hB ht hvm hP hD hK [9] [0, 1, 2, 3, 4, 5, 6, 7, 8] rfl 10 rfl (by decide +kernel) rfl (by decide +kernel) hk1 hFc
        generalize H1 = H at hP hS ⊢
        have hK : va_K (dC, dI) vwCl [(cA_sl, .object RX6), (cA_r0_numbers, .long), (cA_r1_numbers, .long), (cA_r2_numbers, .long), (cA_r3_numbers, .long)] s := hK
        have b_r_11 : 0 ≤ r_11.toInt ∧ r_11.toInt ≤ 1 := hw.1
        have s_r_11 := hw.2
        have za_1 : Int32.toInt 1 = 1 := by decide
        refine lv_if_ne (tgt := 42) hx hb dX9_write_36 (by decide) (fun c_12 => ?_) (fun c_12 => ?_)
        · have ic_12 := zz_ne rfl (show Int32.toInt 0 = 0 from by decide) c_12
          refine lv_aload hx hb dX9_write_42 (lv_at hl 0 rfl) ?_
          refine lv_iload_n hx hb dX9_write_44 rfl (lv_at hl 3 rfl) ?_
          refine lv_lload_n hx hb dX9_write_45 rfl (lv_at hl 4 rfl) ?_
          obtain ⟨hPc, hDc, hFc⟩ := z_cut (wc := (zV7 r1 r1_width r1_size r1_numbers r1_numbers cA_r1_numbers f_r1_numbers)) hP hD hS hA [9, 4] rfl (by decide +kernel)
          have hKc := hK.sub (tys' := [(cA_r1_numbers, .long)]) [2] rfl
          refine va_callv (va_runV (As := [.int p2, .long p3]) (rest := []) ⟨hx, hb, hml, hown, hts⟩ (k_X6_put l sa dC dI r1 p2 p3 r1_width r1_size r1_numbers cA_r1_numbers f_r1_numbers (by first | with_reducible assumption | omega) b_r1_size H.size) (cwV 2 hts (z_gV zw_t6_84 zw_t6_85 zw_t6_86 zw_t1_10 zw_t6_87) rfl rfl rfl (by decide +kernel) (by rw [← hRe]; exact ⟨(Nat.le_of_ble_eq_true rfl), (Nat.le_of_ble_eq_true rfl)⟩)) (z_preV hPc hKc hDc hN hXs hS hFc (q := (RX6, TX6, 3)) (ci := 6) (q0 := 0) rfl rfl) rfl rfl hl.1 rfl (lv_room (Nat.le_of_ble_eq_true rfl)) dX9_write_46 (by rw [← hRe]; exact ⟨(Nat.le_of_ble_eq_true rfl), (Nat.le_of_ble_eq_true rfl)⟩)) hS (fun q _ h => hFc q h) hFc (fun u t H1 locs ht hvm hw hB hz1 hk1 hS => ?_)
          obtain ⟨n_rw_numbers_14, hB⟩ := hB
          obtain ⟨hP, hD, hK⟩ := z_after3 (wn := (zV73 h0 tp h0_tapeLength h0_faultKind h0_faultPlace nw im sl rd wk fm mt ch dy sl cA_sl f_sl r0 r0_width r0_size r0_numbers r0_numbers cA_r0_numbers f_r0_numbers r2 r2_width r2_size r2_numbers r2_numbers cA_r2_numbers f_r2_numbers r3 r3_width r3_size r3_numbers r3_numbers cA_r3_numbers f_r3_numbers r1 r1_width r1_size r1_numbers r1_numbers cA_r1_numbers n_rw_numbers_14)) hB ht hvm hP hD hK [9, 4] [0, 1, 2, 3, 5, 6, 7, 8] rfl 10 rfl (by decide +kernel) rfl (by decide +kernel) hk1 hFc
          generalize H1 = H at hP hS ⊢
          have hK : va_K (dC, dI) vwCl [(cA_sl, .object RX6), (cA_r0_numbers, .long), (cA_r1_numbers, .long), (cA_r2_numbers, .long), (cA_r3_numbers, .long)] s := hK
          refine lv_iconst (v := 0) hx hb dX9_write_49 (by decide) ?_
          exact W.iret (v := 0) hx hb hr (fun t ht hW => by rw [← hQe]; exact ⟨⟨0, (), rfl, (by decide), ⟨f_r0_numbers, n_rw_numbers_14, f_r2_numbers, f_r3_numbers, z_ret hP hK hD ht hW [0, 1, 2, 3, 8, 9, 4, 5, 6, 7] [] rfl (by decide) rfl⟩⟩, hS.F ht⟩) hS.2.2 dX9_write_50
        · have ic_12 := zz_nne rfl (show Int32.toInt 0 = 0 from by decide) c_12
          refine lv_bipush (v := (-7)) hx hb dX9_write_39 (by decide) ?_
          exact W.iret (v := (-7)) hx hb hr (fun t ht hW => by rw [← hQe]; exact ⟨⟨(-7), (), rfl, (by decide), ⟨f_r0_numbers, f_r1_numbers, f_r2_numbers, f_r3_numbers, z_ret hP hK hD ht hW [0, 1, 2, 3, 9, 4, 5, 6, 7, 8] [] rfl (by decide) rfl⟩⟩, hS.F ht⟩) hS.2.2 dX9_write_41
      · have ic_10 := zz_nne rfl (show Int32.toInt 0 = 0 from by decide) c_10
        refine lv_bipush (v := (-6)) hx hb dX9_write_26 (by decide) ?_
        exact W.iret (v := (-6)) hx hb hr (fun t ht hW => by rw [← hQe]; exact ⟨⟨(-6), (), rfl, (by decide), ⟨f_r0_numbers, f_r1_numbers, f_r2_numbers, f_r3_numbers, z_ret hP hK hD ht hW [0, 1, 2, 3, 9, 4, 5, 6, 7, 8] [] rfl (by decide) rfl⟩⟩, hS.F ht⟩) hS.2.2 dX9_write_28
    · have zc_2 : Int32.toInt 2 = 2 := by decide
      refine va_aldq hx hb hK hP 1 0 rfl rfl (zi_in (show Int32.toInt 2 = 2 from by decide) (by decide)) dX9_write_15 ?_
      refine W.eq (g2 := F0 m 16 ls (.ref r2 :: [])) (by rw [show f_sl (Int32.toNatClampNeg 2) = some r2 from (by rw [show Int32.toNatClampNeg 2 = 2 from by decide]; exact hsl2)]; rfl) ?_
      refine lv_astore (lv' := [(5, .ref r2), (0, .ref h0), (1, .int 2), (2, .int p2), (3, .long p3)]) hx hb dX9_write_16 hl (by decide) rfl (fun ls hl => ?_)
      refine lv_aload hx hb dX9_write_18 (lv_at hl 0 rfl) ?_
      obtain ⟨hPc, hDc, hFc⟩ := z_cut (wc := (zV6 r2 r2_width r2_size r2_numbers)) hP hD hS hA [6] rfl (by decide +kernel)
      have hKc := hK.sub (tys' := []) [] rfl
      refine va_calli (va_runV (As := []) (rest := []) ⟨hx, hb, hml, hown, hts⟩ (k_X6_isThere l sa dC dI r2 r2_width r2_size r2_numbers b_r2_size H.size) (cwV 0 hts (z_gV zw_t5_222 zw_t5_223 zw_t5_224 zw_t1_10 zw_t5_225) rfl rfl rfl (by decide +kernel) (by rw [← hRe]; exact ⟨(Nat.le_of_ble_eq_true rfl), (Nat.le_of_ble_eq_true rfl)⟩)) (z_preV hPc hKc hDc hN hXs hS hFc (q := (RX6, TX6, 3)) (ci := 6) (q0 := 0) rfl rfl) rfl rfl hl.1 rfl (lv_room (Nat.le_of_ble_eq_true rfl)) dX9_write_20 (by rw [← hRe]; exact ⟨(Nat.le_of_ble_eq_true rfl), (Nat.le_of_ble_eq_true rfl)⟩)) hS (fun q _ h => hFc q h) hFc (fun r_15 u t H1 locs ht hvm hw hB hz1 hk1 hS => ?_)
      obtain ⟨hP, hD, hK⟩ := z_after3 (wn := (zV76 h0 tp h0_tapeLength h0_faultKind h0_faultPlace nw im sl rd wk fm mt ch dy sl cA_sl f_sl r0 r0_width r0_size r0_numbers r0_numbers cA_r0_numbers f_r0_numbers r1 r1_width r1_size r1_numbers r1_numbers cA_r1_numbers f_r1_numbers r2_numbers cA_r2_numbers f_r2_numbers r3 r3_width r3_size r3_numbers r3_numbers cA_r3_numbers f_r3_numbers r2 r2_width r2_size r2_numbers)) hB ht hvm hP hD hK [6] [0, 1, 2, 3, 4, 5, 7, 8, 9] rfl 10 rfl (by decide +kernel) rfl (by decide +kernel) hk1 hFc
      generalize H1 = H at hP hS ⊢
      have hK : va_K (dC, dI) vwCl [(cA_sl, .object RX6), (cA_r0_numbers, .long), (cA_r1_numbers, .long), (cA_r2_numbers, .long), (cA_r3_numbers, .long)] s := hK
      have b_r_15 : 0 ≤ r_15.toInt ∧ r_15.toInt ≤ 1 := hw
      refine lv_if_ne (tgt := 29) hx hb dX9_write_23 (by decide) (fun c_16 => ?_) (fun c_16 => ?_)
      · have ic_16 := zz_ne rfl (show Int32.toInt 0 = 0 from by decide) c_16
        refine lv_aload hx hb dX9_write_29 (lv_at hl 0 rfl) ?_
        refine lv_iload_n hx hb dX9_write_31 rfl (lv_at hl 3 rfl) ?_
        refine lv_iconst (v := 1) hx hb dX9_write_32 (by decide) ?_
        obtain ⟨hPc, hDc, hFc⟩ := z_cut (wc := (zV6 r2 r2_width r2_size r2_numbers)) hP hD hS hA [9] rfl (by decide +kernel)
        have hKc := hK.sub (tys' := []) [] rfl
        refine va_calli (va_runV (As := [.int p2, .int 1]) (rest := []) ⟨hx, hb, hml, hown, hts⟩ (k_X6_hasSpan l sa dC dI r2 p2 (1) r2_width r2_size r2_numbers b_r2_size H.size) (cwV 2 hts (z_gV zw_t6_80 zw_t6_81 zw_t6_82 zw_t1_10 zw_t6_83) rfl rfl rfl (by decide +kernel) (by rw [← hRe]; exact ⟨(Nat.le_of_ble_eq_true rfl), (Nat.le_of_ble_eq_true rfl)⟩)) (z_preV hPc hKc hDc hN hXs hS hFc (q := (RX6, TX6, 3)) (ci := 6) (q0 := 0) rfl rfl) rfl rfl hl.1 rfl (lv_room (Nat.le_of_ble_eq_true rfl)) dX9_write_33 (by rw [← hRe]; exact ⟨(Nat.le_of_ble_eq_true rfl), (Nat.le_of_ble_eq_true rfl)⟩)) hS (fun q _ h => hFc q h) hFc (fun r_17 u t H1 locs ht hvm hw hB hz1 hk1 hS => ?_)
        obtain ⟨hP, hD, hK⟩ := z_after3 (wn := (zV76 h0 tp h0_tapeLength h0_faultKind h0_faultPlace nw im sl rd wk fm mt ch dy sl cA_sl f_sl r0 r0_width r0_size r0_numbers r0_numbers cA_r0_numbers f_r0_numbers r1 r1_width r1_size r1_numbers r1_numbers cA_r1_numbers f_r1_numbers r2_numbers cA_r2_numbers f_r2_numbers r3 r3_width r3_size r3_numbers r3_numbers cA_r3_numbers f_r3_numbers r2 r2_width r2_size r2_numbers)) hB ht hvm hP hD hK [9] [0, 1, 2, 3, 4, 5, 6, 7, 8] rfl 10 rfl (by decide +kernel) rfl (by decide +kernel) hk1 hFc
        generalize H1 = H at hP hS ⊢
        have hK : va_K (dC, dI) vwCl [(cA_sl, .object RX6), (cA_r0_numbers, .long), (cA_r1_numbers, .long), (cA_r2_numbers, .long), (cA_r3_numbers, .long)] s := hK
        have b_r_17 : 0 ≤ r_17.toInt ∧ r_17.toInt ≤ 1 := hw.1
        have s_r_17 := hw.2
        have za_1 : Int32.toInt 1 = 1 := by decide
        refine lv_if_ne (tgt := 42) hx hb dX9_write_36 (by decide) (fun c_18 => ?_) (fun c_18 => ?_)
        · have ic_18 := zz_ne rfl (show Int32.toInt 0 = 0 from by decide) c_18
          refine lv_aload hx hb dX9_write_42 (lv_at hl 0 rfl) ?_
          refine lv_iload_n hx hb dX9_write_44 rfl (lv_at hl 3 rfl) ?_
          refine lv_lload_n hx hb dX9_write_45 rfl (lv_at hl 4 rfl) ?_
          obtain ⟨hPc, hDc, hFc⟩ := z_cut (wc := (zV7 r2 r2_width r2_size r2_numbers r2_numbers cA_r2_numbers f_r2_numbers)) hP hD hS hA [9, 6] rfl (by decide +kernel)
          have hKc := hK.sub (tys' := [(cA_r2_numbers, .long)]) [3] rfl
          refine va_callv (va_runV (As := [.int p2, .long p3]) (rest := []) ⟨hx, hb, hml, hown, hts⟩ (k_X6_put l sa dC dI r2 p2 p3 r2_width r2_size r2_numbers cA_r2_numbers f_r2_numbers (by first | with_reducible assumption | omega) b_r2_size H.size) (cwV 2 hts (z_gV zw_t6_84 zw_t6_85 zw_t6_86 zw_t1_10 zw_t6_87) rfl rfl rfl (by decide +kernel) (by rw [← hRe]; exact ⟨(Nat.le_of_ble_eq_true rfl), (Nat.le_of_ble_eq_true rfl)⟩)) (z_preV hPc hKc hDc hN hXs hS hFc (q := (RX6, TX6, 3)) (ci := 6) (q0 := 0) rfl rfl) rfl rfl hl.1 rfl (lv_room (Nat.le_of_ble_eq_true rfl)) dX9_write_46 (by rw [← hRe]; exact ⟨(Nat.le_of_ble_eq_true rfl), (Nat.le_of_ble_eq_true rfl)⟩)) hS (fun q _ h => hFc q h) hFc (fun u t H1 locs ht hvm hw hB hz1 hk1 hS => ?_)
          obtain ⟨n_rw_numbers_20, hB⟩ := hB
          obtain ⟨hP, hD, hK⟩ := z_after3 (wn := (zV73 h0 tp h0_tapeLength h0_faultKind h0_faultPlace nw im sl rd wk fm mt ch dy sl cA_sl f_sl r0 r0_width r0_size r0_numbers r0_numbers cA_r0_numbers f_r0_numbers r1 r1_width r1_size r1_numbers r1_numbers cA_r1_numbers f_r1_numbers r3 r3_width r3_size r3_numbers r3_numbers cA_r3_numbers f_r3_numbers r2 r2_width r2_size r2_numbers r2_numbers cA_r2_numbers n_rw_numbers_20)) hB ht hvm hP hD hK [9, 6] [0, 1, 2, 3, 4, 5, 7, 8] rfl 10 rfl (by decide +kernel) rfl (by decide +kernel) hk1 hFc
          generalize H1 = H at hP hS ⊢
          have hK : va_K (dC, dI) vwCl [(cA_sl, .object RX6), (cA_r0_numbers, .long), (cA_r1_numbers, .long), (cA_r2_numbers, .long), (cA_r3_numbers, .long)] s := hK
          refine lv_iconst (v := 0) hx hb dX9_write_49 (by decide) ?_
          exact W.iret (v := 0) hx hb hr (fun t ht hW => by rw [← hQe]; exact ⟨⟨0, (), rfl, (by decide), ⟨f_r0_numbers, f_r1_numbers, n_rw_numbers_20, f_r3_numbers, z_ret hP hK hD ht hW [0, 1, 2, 3, 4, 5, 8, 9, 6, 7] [] rfl (by decide) rfl⟩⟩, hS.F ht⟩) hS.2.2 dX9_write_50
        · have ic_18 := zz_nne rfl (show Int32.toInt 0 = 0 from by decide) c_18
          refine lv_bipush (v := (-7)) hx hb dX9_write_39 (by decide) ?_
          exact W.iret (v := (-7)) hx hb hr (fun t ht hW => by rw [← hQe]; exact ⟨⟨(-7), (), rfl, (by decide), ⟨f_r0_numbers, f_r1_numbers, f_r2_numbers, f_r3_numbers, z_ret hP hK hD ht hW [0, 1, 2, 3, 4, 5, 9, 6, 7, 8] [] rfl (by decide) rfl⟩⟩, hS.F ht⟩) hS.2.2 dX9_write_41
      · have ic_16 := zz_nne rfl (show Int32.toInt 0 = 0 from by decide) c_16
        refine lv_bipush (v := (-6)) hx hb dX9_write_26 (by decide) ?_
        exact W.iret (v := (-6)) hx hb hr (fun t ht hW => by rw [← hQe]; exact ⟨⟨(-6), (), rfl, (by decide), ⟨f_r0_numbers, f_r1_numbers, f_r2_numbers, f_r3_numbers, z_ret hP hK hD ht hW [0, 1, 2, 3, 4, 5, 9, 6, 7, 8] [] rfl (by decide) rfl⟩⟩, hS.F ht⟩) hS.2.2 dX9_write_28
    · have zc_3 : Int32.toInt 3 = 3 := by decide
      refine va_aldq hx hb hK hP 1 0 rfl rfl (zi_in (show Int32.toInt 3 = 3 from by decide) (by decide)) dX9_write_15 ?_
      refine W.eq (g2 := F0 m 16 ls (.ref r3 :: [])) (by rw [show f_sl (Int32.toNatClampNeg 3) = some r3 from (by rw [show Int32.toNatClampNeg 3 = 3 from by decide]; exact hsl3)]; rfl) ?_
      refine lv_astore (lv' := [(5, .ref r3), (0, .ref h0), (1, .int 3), (2, .int p2), (3, .long p3)]) hx hb dX9_write_16 hl (by decide) rfl (fun ls hl => ?_)
      refine lv_aload hx hb dX9_write_18 (lv_at hl 0 rfl) ?_
      obtain ⟨hPc, hDc, hFc⟩ := z_cut (wc := (zV6 r3 r3_width r3_size r3_numbers)) hP hD hS hA [8] rfl (by decide +kernel)
      have hKc := hK.sub (tys' := []) [] rfl
      refine va_calli (va_runV (As := []) (rest := []) ⟨hx, hb, hml, hown, hts⟩ (k_X6_isThere l sa dC dI r3 r3_width r3_size r3_numbers b_r3_size H.size) (cwV 0 hts (z_gV zw_t5_222 zw_t5_223 zw_t5_224 zw_t1_10 zw_t5_225) rfl rfl rfl (by decide +kernel) (by rw [← hRe]; exact ⟨(Nat.le_of_ble_eq_true rfl), (Nat.le_of_ble_eq_true rfl)⟩)) (z_preV hPc hKc hDc hN hXs hS hFc (q := (RX6, TX6, 3)) (ci := 6) (q0 := 0) rfl rfl) rfl rfl hl.1 rfl (lv_room (Nat.le_of_ble_eq_true rfl)) dX9_write_20 (by rw [← hRe]; exact ⟨(Nat.le_of_ble_eq_true rfl), (Nat.le_of_ble_eq_true rfl)⟩)) hS (fun q _ h => hFc q h) hFc (fun r_21 u t H1 locs ht hvm hw hB hz1 hk1 hS => ?_)
      obtain ⟨hP, hD, hK⟩ := z_after3 (wn := (zV77 h0 tp h0_tapeLength h0_faultKind h0_faultPlace nw im sl rd wk fm mt ch dy sl cA_sl f_sl r0 r0_width r0_size r0_numbers r0_numbers cA_r0_numbers f_r0_numbers r1 r1_width r1_size r1_numbers r1_numbers cA_r1_numbers f_r1_numbers r2 r2_width r2_size r2_numbers r2_numbers cA_r2_numbers f_r2_numbers r3_numbers cA_r3_numbers f_r3_numbers r3 r3_width r3_size r3_numbers)) hB ht hvm hP hD hK [8] [0, 1, 2, 3, 4, 5, 6, 7, 9] rfl 10 rfl (by decide +kernel) rfl (by decide +kernel) hk1 hFc
      generalize H1 = H at hP hS ⊢
      have hK : va_K (dC, dI) vwCl [(cA_sl, .object RX6), (cA_r0_numbers, .long), (cA_r1_numbers, .long), (cA_r2_numbers, .long), (cA_r3_numbers, .long)] s := hK
      have b_r_21 : 0 ≤ r_21.toInt ∧ r_21.toInt ≤ 1 := hw
      refine lv_if_ne (tgt := 29) hx hb dX9_write_23 (by decide) (fun c_22 => ?_) (fun c_22 => ?_)
      · have ic_22 := zz_ne rfl (show Int32.toInt 0 = 0 from by decide) c_22
        refine lv_aload hx hb dX9_write_29 (lv_at hl 0 rfl) ?_
        refine lv_iload_n hx hb dX9_write_31 rfl (lv_at hl 3 rfl) ?_
        refine lv_iconst (v := 1) hx hb dX9_write_32 (by decide) ?_
        obtain ⟨hPc, hDc, hFc⟩ := z_cut (wc := (zV6 r3 r3_width r3_size r3_numbers)) hP hD hS hA [9] rfl (by decide +kernel)
        have hKc := hK.sub (tys' := []) [] rfl
        refine va_calli (va_runV (As := [.int p2, .int 1]) (rest := []) ⟨hx, hb, hml, hown, hts⟩ (k_X6_hasSpan l sa dC dI r3 p2 (1) r3_width r3_size r3_numbers b_r3_size H.size) (cwV 2 hts (z_gV zw_t6_80 zw_t6_81 zw_t6_82 zw_t1_10 zw_t6_83) rfl rfl rfl (by decide +kernel) (by rw [← hRe]; exact ⟨(Nat.le_of_ble_eq_true rfl), (Nat.le_of_ble_eq_true rfl)⟩)) (z_preV hPc hKc hDc hN hXs hS hFc (q := (RX6, TX6, 3)) (ci := 6) (q0 := 0) rfl rfl) rfl rfl hl.1 rfl (lv_room (Nat.le_of_ble_eq_true rfl)) dX9_write_33 (by rw [← hRe]; exact ⟨(Nat.le_of_ble_eq_true rfl), (Nat.le_of_ble_eq_true rfl)⟩)) hS (fun q _ h => hFc q h) hFc (fun r_23 u t H1 locs ht hvm hw hB hz1 hk1 hS => ?_)
        obtain ⟨hP, hD, hK⟩ := z_after3 (wn := (zV77 h0 tp h0_tapeLength h0_faultKind h0_faultPlace nw im sl rd wk fm mt ch dy sl cA_sl f_sl r0 r0_width r0_size r0_numbers r0_numbers cA_r0_numbers f_r0_numbers r1 r1_width r1_size r1_numbers r1_numbers cA_r1_numbers f_r1_numbers r2 r2_width r2_size r2_numbers r2_numbers cA_r2_numbers f_r2_numbers r3_numbers cA_r3_numbers f_r3_numbers r3 r3_width r3_size r3_numbers)) hB ht hvm hP hD hK [9] [0, 1, 2, 3, 4, 5, 6, 7, 8] rfl 10 rfl (by decide +kernel) rfl (by decide +kernel) hk1 hFc
        generalize H1 = H at hP hS ⊢
        have hK : va_K (dC, dI) vwCl [(cA_sl, .object RX6), (cA_r0_numbers, .long), (cA_r1_numbers, .long), (cA_r2_numbers, .long), (cA_r3_numbers, .long)] s := hK
        have b_r_23 : 0 ≤ r_23.toInt ∧ r_23.toInt ≤ 1 := hw.1
        have s_r_23 := hw.2
        have za_1 : Int32.toInt 1 = 1 := by decide
        refine lv_if_ne (tgt := 42) hx hb dX9_write_36 (by decide) (fun c_24 => ?_) (fun c_24 => ?_)
        · have ic_24 := zz_ne rfl (show Int32.toInt 0 = 0 from by decide) c_24
          refine lv_aload hx hb dX9_write_42 (lv_at hl 0 rfl) ?_
          refine lv_iload_n hx hb dX9_write_44 rfl (lv_at hl 3 rfl) ?_
          refine lv_lload_n hx hb dX9_write_45 rfl (lv_at hl 4 rfl) ?_
          obtain ⟨hPc, hDc, hFc⟩ := z_cut (wc := (zV7 r3 r3_width r3_size r3_numbers r3_numbers cA_r3_numbers f_r3_numbers)) hP hD hS hA [9, 8] rfl (by decide +kernel)
          have hKc := hK.sub (tys' := [(cA_r3_numbers, .long)]) [4] rfl
          refine va_callv (va_runV (As := [.int p2, .long p3]) (rest := []) ⟨hx, hb, hml, hown, hts⟩ (k_X6_put l sa dC dI r3 p2 p3 r3_width r3_size r3_numbers cA_r3_numbers f_r3_numbers (by first | with_reducible assumption | omega) b_r3_size H.size) (cwV 2 hts (z_gV zw_t6_84 zw_t6_85 zw_t6_86 zw_t1_10 zw_t6_87) rfl rfl rfl (by decide +kernel) (by rw [← hRe]; exact ⟨(Nat.le_of_ble_eq_true rfl), (Nat.le_of_ble_eq_true rfl)⟩)) (z_preV hPc hKc hDc hN hXs hS hFc (q := (RX6, TX6, 3)) (ci := 6) (q0 := 0) rfl rfl) rfl rfl hl.1 rfl (lv_room (Nat.le_of_ble_eq_true rfl)) dX9_write_46 (by rw [← hRe]; exact ⟨(Nat.le_of_ble_eq_true rfl), (Nat.le_of_ble_eq_true rfl)⟩)) hS (fun q _ h => hFc q h) hFc (fun u t H1 locs ht hvm hw hB hz1 hk1 hS => ?_)
          obtain ⟨n_rw_numbers_26, hB⟩ := hB
          obtain ⟨hP, hD, hK⟩ := z_after3 (wn := (zV73 h0 tp h0_tapeLength h0_faultKind h0_faultPlace nw im sl rd wk fm mt ch dy sl cA_sl f_sl r0 r0_width r0_size r0_numbers r0_numbers cA_r0_numbers f_r0_numbers r1 r1_width r1_size r1_numbers r1_numbers cA_r1_numbers f_r1_numbers r2 r2_width r2_size r2_numbers r2_numbers cA_r2_numbers f_r2_numbers r3 r3_width r3_size r3_numbers r3_numbers cA_r3_numbers n_rw_numbers_26)) hB ht hvm hP hD hK [9, 8] [0, 1, 2, 3, 4, 5, 6, 7] rfl 10 rfl (by decide +kernel) rfl (by decide +kernel) hk1 hFc
          generalize H1 = H at hP hS ⊢
          have hK : va_K (dC, dI) vwCl [(cA_sl, .object RX6), (cA_r0_numbers, .long), (cA_r1_numbers, .long), (cA_r2_numbers, .long), (cA_r3_numbers, .long)] s := hK
          refine lv_iconst (v := 0) hx hb dX9_write_49 (by decide) ?_
          exact W.iret (v := 0) hx hb hr (fun t ht hW => by rw [← hQe]; exact ⟨⟨0, (), rfl, (by decide), ⟨f_r0_numbers, f_r1_numbers, f_r2_numbers, n_rw_numbers_26, z_ret hP hK hD ht hW [0, 1, 2, 3, 4, 5, 6, 7, 8, 9] [] rfl (by decide) rfl⟩⟩, hS.F ht⟩) hS.2.2 dX9_write_50
        · have ic_24 := zz_nne rfl (show Int32.toInt 0 = 0 from by decide) c_24
          refine lv_bipush (v := (-7)) hx hb dX9_write_39 (by decide) ?_
          exact W.iret (v := (-7)) hx hb hr (fun t ht hW => by rw [← hQe]; exact ⟨⟨(-7), (), rfl, (by decide), ⟨f_r0_numbers, f_r1_numbers, f_r2_numbers, f_r3_numbers, z_ret hP hK hD ht hW [0, 1, 2, 3, 4, 5, 6, 7, 9, 8] [] rfl (by decide) rfl⟩⟩, hS.F ht⟩) hS.2.2 dX9_write_41
      · have ic_22 := zz_nne rfl (show Int32.toInt 0 = 0 from by decide) c_22
        refine lv_bipush (v := (-6)) hx hb dX9_write_26 (by decide) ?_
        exact W.iret (v := (-6)) hx hb hr (fun t ht hW => by rw [← hQe]; exact ⟨⟨(-6), (), rfl, (by decide), ⟨f_r0_numbers, f_r1_numbers, f_r2_numbers, f_r3_numbers, z_ret hP hK hD ht hW [0, 1, 2, 3, 4, 5, 6, 7, 9, 8] [] rfl (by decide) rfl⟩⟩, hS.F ht⟩) hS.2.2 dX9_write_28
    · omega
  · have ic_2 := zz_nne rfl (show Int32.toInt 0 = 0 from by decide) c_2
    refine lv_bipush (v := (-2)) hx hb dX9_write_7 (by decide) ?_
    exact W.iret (v := (-2)) hx hb hr (fun t ht hW => by rw [← hQe]; exact ⟨⟨(-2), (), rfl, (by decide), ⟨f_r0_numbers, f_r1_numbers, f_r2_numbers, f_r3_numbers, z_ret hP hK hD ht hW [0, 1, 2, 3, 4, 5, 6, 7, 8, 9] [] rfl (by decide) rfl⟩⟩, hS.F ht⟩) hS.2.2 dX9_write_9
