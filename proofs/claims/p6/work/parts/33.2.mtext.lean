set_option linter.all false
theorem zw_s4_11 : Cond.selects RX10 yX10_isGood yX10_isGood ∈ zT := zs_4 (List.mem_of_getElem? (i := 11) (by decide +kernel))
theorem zw_t7_124 : Cond.constantLong RX10 213 (161600) ∈ zT := zt_7 (List.mem_of_getElem? (i := 124) (by decide +kernel)) (by decide +kernel)
theorem zw_t7_125 : Cond.constantLong RX10 215 (82528) ∈ zT := zt_7 (List.mem_of_getElem? (i := 125) (by decide +kernel)) (by decide +kernel)
theorem zw_t7_84 : Cond.methodLink RX10 204 yX10_isGood ∈ zT := zt_7 (List.mem_of_getElem? (i := 84) (by decide +kernel)) (by decide +kernel)
theorem zw_t7_86 : Cond.instanceMethod yX10_isGood ∈ zT := zt_7 (List.mem_of_getElem? (i := 86) (by decide +kernel)) (by decide +kernel)
theorem zw_t7_87 : Cond.code yX10_isGood cX10_isGood 1 (some .boolean) ∈ zT := zt_7 (List.mem_of_getElem? (i := 87) (by decide +kernel)) (by decide +kernel)
def bcX10_onceLine_0 : List Nat := [42, 180, 0, 61, 16, 8, 27, 96, 51, 153, 0, 8, 42, 5, 182, 0, 181, 42, 180, 0, 165, 153, 0, 4, 177, 42, 182, 0, 175, 42, 180, 0, 61, 16, 8, 27, 96, 4, 84, 27, 4, 160, 0, 18, 42, 180, 0, 58, 16, 9, 42, 3, 16, 9, 182, 0, 188, 79, 177, 42]
theorem bcX10_onceLine_0_ok : z_bys cX10_onceLine 0 bcX10_onceLine_0 = true := by decide +kernel
def bcX10_onceLine_60 : List Nat := [20, 0, 213, 182, 0, 171, 61, 28, 154, 0, 18, 42, 20, 0, 215, 182, 0, 171, 154, 0, 8, 42, 4, 182, 0, 181, 42, 182, 0, 204, 153, 0, 7, 42, 182, 0, 175, 42, 180, 0, 58, 16, 8, 28, 153, 0, 7, 3, 167, 0, 4, 4, 79, 177]
theorem bcX10_onceLine_60_ok : z_bys cX10_onceLine 60 bcX10_onceLine_60 = true := by decide +kernel
theorem dX10_onceLine_0 : decode cX10_onceLine 0 = .ok (.aload_n 0, 1) := zo_42 (z_byk bcX10_onceLine_0 0 0 _ bcX10_onceLine_0_ok rfl)
theorem dX10_onceLine_1 : decode cX10_onceLine 1 = .ok (.getfield 61, 3) := zo_180 (z_byk bcX10_onceLine_0 0 1 _ bcX10_onceLine_0_ok rfl) (z_byk bcX10_onceLine_0 0 2 _ bcX10_onceLine_0_ok rfl) (z_byk bcX10_onceLine_0 0 3 _ bcX10_onceLine_0_ok rfl) rfl
theorem dX10_onceLine_101 : decode cX10_onceLine 101 = .ok (.bipush 8, 2) := zo_16 (z_byk bcX10_onceLine_60 60 41 _ bcX10_onceLine_60_ok rfl) (z_byk bcX10_onceLine_60 60 42 _ bcX10_onceLine_60_ok rfl) rfl
theorem dX10_onceLine_103 : decode cX10_onceLine 103 = .ok (.iload_n 2, 1) := zo_28 (z_byk bcX10_onceLine_60 60 43 _ bcX10_onceLine_60_ok rfl)
theorem dX10_onceLine_104 : decode cX10_onceLine 104 = .ok (.ifCond .eq 7, 3) := zo_153 (z_byk bcX10_onceLine_60 60 44 _ bcX10_onceLine_60_ok rfl) (z_byk bcX10_onceLine_60 60 45 _ bcX10_onceLine_60_ok rfl) (z_byk bcX10_onceLine_60 60 46 _ bcX10_onceLine_60_ok rfl) rfl
theorem dX10_onceLine_107 : decode cX10_onceLine 107 = .ok (.iconst 0, 1) := zo_3 (z_byk bcX10_onceLine_60 60 47 _ bcX10_onceLine_60_ok rfl)
theorem dX10_onceLine_108 : decode cX10_onceLine 108 = .ok (.goto 4, 3) := zo_167 (z_byk bcX10_onceLine_60 60 48 _ bcX10_onceLine_60_ok rfl) (z_byk bcX10_onceLine_60 60 49 _ bcX10_onceLine_60_ok rfl) (z_byk bcX10_onceLine_60 60 50 _ bcX10_onceLine_60_ok rfl) rfl
theorem dX10_onceLine_111 : decode cX10_onceLine 111 = .ok (.iconst 1, 1) := zo_4 (z_byk bcX10_onceLine_60 60 51 _ bcX10_onceLine_60_ok rfl)
theorem dX10_onceLine_112 : decode cX10_onceLine 112 = .ok (.iastore, 1) := zo_79 (z_byk bcX10_onceLine_60 60 52 _ bcX10_onceLine_60_ok rfl)
theorem dX10_onceLine_113 : decode cX10_onceLine 113 = .ok (.return_, 1) := zo_177 (z_byk bcX10_onceLine_60 60 53 _ bcX10_onceLine_60_ok rfl)
theorem dX10_onceLine_12 : decode cX10_onceLine 12 = .ok (.aload_n 0, 1) := zo_42 (z_byk bcX10_onceLine_0 0 12 _ bcX10_onceLine_0_ok rfl)
theorem dX10_onceLine_13 : decode cX10_onceLine 13 = .ok (.iconst 2, 1) := zo_5 (z_byk bcX10_onceLine_0 0 13 _ bcX10_onceLine_0_ok rfl)
theorem dX10_onceLine_14 : decode cX10_onceLine 14 = .ok (.invokevirtual 181, 3) := zo_182 (z_byk bcX10_onceLine_0 0 14 _ bcX10_onceLine_0_ok rfl) (z_byk bcX10_onceLine_0 0 15 _ bcX10_onceLine_0_ok rfl) (z_byk bcX10_onceLine_0 0 16 _ bcX10_onceLine_0_ok rfl) rfl
theorem dX10_onceLine_17 : decode cX10_onceLine 17 = .ok (.aload_n 0, 1) := zo_42 (z_byk bcX10_onceLine_0 0 17 _ bcX10_onceLine_0_ok rfl)
theorem dX10_onceLine_18 : decode cX10_onceLine 18 = .ok (.getfield 165, 3) := zo_180 (z_byk bcX10_onceLine_0 0 18 _ bcX10_onceLine_0_ok rfl) (z_byk bcX10_onceLine_0 0 19 _ bcX10_onceLine_0_ok rfl) (z_byk bcX10_onceLine_0 0 20 _ bcX10_onceLine_0_ok rfl) rfl
theorem dX10_onceLine_21 : decode cX10_onceLine 21 = .ok (.ifCond .eq 4, 3) := zo_153 (z_byk bcX10_onceLine_0 0 21 _ bcX10_onceLine_0_ok rfl) (z_byk bcX10_onceLine_0 0 22 _ bcX10_onceLine_0_ok rfl) (z_byk bcX10_onceLine_0 0 23 _ bcX10_onceLine_0_ok rfl) rfl
theorem dX10_onceLine_24 : decode cX10_onceLine 24 = .ok (.return_, 1) := zo_177 (z_byk bcX10_onceLine_0 0 24 _ bcX10_onceLine_0_ok rfl)
theorem dX10_onceLine_25 : decode cX10_onceLine 25 = .ok (.aload_n 0, 1) := zo_42 (z_byk bcX10_onceLine_0 0 25 _ bcX10_onceLine_0_ok rfl)
theorem dX10_onceLine_26 : decode cX10_onceLine 26 = .ok (.invokevirtual 175, 3) := zo_182 (z_byk bcX10_onceLine_0 0 26 _ bcX10_onceLine_0_ok rfl) (z_byk bcX10_onceLine_0 0 27 _ bcX10_onceLine_0_ok rfl) (z_byk bcX10_onceLine_0 0 28 _ bcX10_onceLine_0_ok rfl) rfl
theorem dX10_onceLine_29 : decode cX10_onceLine 29 = .ok (.aload_n 0, 1) := zo_42 (z_byk bcX10_onceLine_0 0 29 _ bcX10_onceLine_0_ok rfl)
theorem dX10_onceLine_30 : decode cX10_onceLine 30 = .ok (.getfield 61, 3) := zo_180 (z_byk bcX10_onceLine_0 0 30 _ bcX10_onceLine_0_ok rfl) (z_byk bcX10_onceLine_0 0 31 _ bcX10_onceLine_0_ok rfl) (z_byk bcX10_onceLine_0 0 32 _ bcX10_onceLine_0_ok rfl) rfl
theorem dX10_onceLine_33 : decode cX10_onceLine 33 = .ok (.bipush 8, 2) := zo_16 (z_byk bcX10_onceLine_0 0 33 _ bcX10_onceLine_0_ok rfl) (z_byk bcX10_onceLine_0 0 34 _ bcX10_onceLine_0_ok rfl) rfl
theorem dX10_onceLine_35 : decode cX10_onceLine 35 = .ok (.iload_n 1, 1) := zo_27 (z_byk bcX10_onceLine_0 0 35 _ bcX10_onceLine_0_ok rfl)
theorem dX10_onceLine_36 : decode cX10_onceLine 36 = .ok (.iadd, 1) := zo_96 (z_byk bcX10_onceLine_0 0 36 _ bcX10_onceLine_0_ok rfl)
theorem dX10_onceLine_37 : decode cX10_onceLine 37 = .ok (.iconst 1, 1) := zo_4 (z_byk bcX10_onceLine_0 0 37 _ bcX10_onceLine_0_ok rfl)
theorem dX10_onceLine_38 : decode cX10_onceLine 38 = .ok (.bastore, 1) := zo_84 (z_byk bcX10_onceLine_0 0 38 _ bcX10_onceLine_0_ok rfl)
theorem dX10_onceLine_39 : decode cX10_onceLine 39 = .ok (.iload_n 1, 1) := zo_27 (z_byk bcX10_onceLine_0 0 39 _ bcX10_onceLine_0_ok rfl)
theorem dX10_onceLine_4 : decode cX10_onceLine 4 = .ok (.bipush 8, 2) := zo_16 (z_byk bcX10_onceLine_0 0 4 _ bcX10_onceLine_0_ok rfl) (z_byk bcX10_onceLine_0 0 5 _ bcX10_onceLine_0_ok rfl) rfl
theorem dX10_onceLine_40 : decode cX10_onceLine 40 = .ok (.iconst 1, 1) := zo_4 (z_byk bcX10_onceLine_0 0 40 _ bcX10_onceLine_0_ok rfl)
theorem dX10_onceLine_41 : decode cX10_onceLine 41 = .ok (.if_icmp .ne 18, 3) := zo_160 (z_byk bcX10_onceLine_0 0 41 _ bcX10_onceLine_0_ok rfl) (z_byk bcX10_onceLine_0 0 42 _ bcX10_onceLine_0_ok rfl) (z_byk bcX10_onceLine_0 0 43 _ bcX10_onceLine_0_ok rfl) rfl
theorem dX10_onceLine_44 : decode cX10_onceLine 44 = .ok (.aload_n 0, 1) := zo_42 (z_byk bcX10_onceLine_0 0 44 _ bcX10_onceLine_0_ok rfl)
theorem dX10_onceLine_45 : decode cX10_onceLine 45 = .ok (.getfield 58, 3) := zo_180 (z_byk bcX10_onceLine_0 0 45 _ bcX10_onceLine_0_ok rfl) (z_byk bcX10_onceLine_0 0 46 _ bcX10_onceLine_0_ok rfl) (z_byk bcX10_onceLine_0 0 47 _ bcX10_onceLine_0_ok rfl) rfl
theorem dX10_onceLine_48 : decode cX10_onceLine 48 = .ok (.bipush 9, 2) := zo_16 (z_byk bcX10_onceLine_0 0 48 _ bcX10_onceLine_0_ok rfl) (z_byk bcX10_onceLine_0 0 49 _ bcX10_onceLine_0_ok rfl) rfl
theorem dX10_onceLine_50 : decode cX10_onceLine 50 = .ok (.aload_n 0, 1) := zo_42 (z_byk bcX10_onceLine_0 0 50 _ bcX10_onceLine_0_ok rfl)
theorem dX10_onceLine_51 : decode cX10_onceLine 51 = .ok (.iconst 0, 1) := zo_3 (z_byk bcX10_onceLine_0 0 51 _ bcX10_onceLine_0_ok rfl)
theorem dX10_onceLine_52 : decode cX10_onceLine 52 = .ok (.bipush 9, 2) := zo_16 (z_byk bcX10_onceLine_0 0 52 _ bcX10_onceLine_0_ok rfl) (z_byk bcX10_onceLine_0 0 53 _ bcX10_onceLine_0_ok rfl) rfl
theorem dX10_onceLine_54 : decode cX10_onceLine 54 = .ok (.invokevirtual 188, 3) := zo_182 (z_byk bcX10_onceLine_0 0 54 _ bcX10_onceLine_0_ok rfl) (z_byk bcX10_onceLine_0 0 55 _ bcX10_onceLine_0_ok rfl) (z_byk bcX10_onceLine_0 0 56 _ bcX10_onceLine_0_ok rfl) rfl
theorem dX10_onceLine_57 : decode cX10_onceLine 57 = .ok (.iastore, 1) := zo_79 (z_byk bcX10_onceLine_0 0 57 _ bcX10_onceLine_0_ok rfl)
theorem dX10_onceLine_58 : decode cX10_onceLine 58 = .ok (.return_, 1) := zo_177 (z_byk bcX10_onceLine_0 0 58 _ bcX10_onceLine_0_ok rfl)
theorem dX10_onceLine_59 : decode cX10_onceLine 59 = .ok (.aload_n 0, 1) := zo_42 (z_byk bcX10_onceLine_0 0 59 _ bcX10_onceLine_0_ok rfl)
theorem dX10_onceLine_6 : decode cX10_onceLine 6 = .ok (.iload_n 1, 1) := zo_27 (z_byk bcX10_onceLine_0 0 6 _ bcX10_onceLine_0_ok rfl)
theorem dX10_onceLine_60 : decode cX10_onceLine 60 = .ok (.ldc2_w 213, 3) := zo_20 (z_byk bcX10_onceLine_60 60 0 _ bcX10_onceLine_60_ok rfl) (z_byk bcX10_onceLine_60 60 1 _ bcX10_onceLine_60_ok rfl) (z_byk bcX10_onceLine_60 60 2 _ bcX10_onceLine_60_ok rfl) rfl
theorem dX10_onceLine_63 : decode cX10_onceLine 63 = .ok (.invokevirtual 171, 3) := zo_182 (z_byk bcX10_onceLine_60 60 3 _ bcX10_onceLine_60_ok rfl) (z_byk bcX10_onceLine_60 60 4 _ bcX10_onceLine_60_ok rfl) (z_byk bcX10_onceLine_60 60 5 _ bcX10_onceLine_60_ok rfl) rfl
theorem dX10_onceLine_66 : decode cX10_onceLine 66 = .ok (.istore_n 2, 1) := zo_61 (z_byk bcX10_onceLine_60 60 6 _ bcX10_onceLine_60_ok rfl)
theorem dX10_onceLine_67 : decode cX10_onceLine 67 = .ok (.iload_n 2, 1) := zo_28 (z_byk bcX10_onceLine_60 60 7 _ bcX10_onceLine_60_ok rfl)
theorem dX10_onceLine_68 : decode cX10_onceLine 68 = .ok (.ifCond .ne 18, 3) := zo_154 (z_byk bcX10_onceLine_60 60 8 _ bcX10_onceLine_60_ok rfl) (z_byk bcX10_onceLine_60 60 9 _ bcX10_onceLine_60_ok rfl) (z_byk bcX10_onceLine_60 60 10 _ bcX10_onceLine_60_ok rfl) rfl
theorem dX10_onceLine_7 : decode cX10_onceLine 7 = .ok (.iadd, 1) := zo_96 (z_byk bcX10_onceLine_0 0 7 _ bcX10_onceLine_0_ok rfl)
theorem dX10_onceLine_71 : decode cX10_onceLine 71 = .ok (.aload_n 0, 1) := zo_42 (z_byk bcX10_onceLine_60 60 11 _ bcX10_onceLine_60_ok rfl)
theorem dX10_onceLine_72 : decode cX10_onceLine 72 = .ok (.ldc2_w 215, 3) := zo_20 (z_byk bcX10_onceLine_60 60 12 _ bcX10_onceLine_60_ok rfl) (z_byk bcX10_onceLine_60 60 13 _ bcX10_onceLine_60_ok rfl) (z_byk bcX10_onceLine_60 60 14 _ bcX10_onceLine_60_ok rfl) rfl
theorem dX10_onceLine_75 : decode cX10_onceLine 75 = .ok (.invokevirtual 171, 3) := zo_182 (z_byk bcX10_onceLine_60 60 15 _ bcX10_onceLine_60_ok rfl) (z_byk bcX10_onceLine_60 60 16 _ bcX10_onceLine_60_ok rfl) (z_byk bcX10_onceLine_60 60 17 _ bcX10_onceLine_60_ok rfl) rfl
theorem dX10_onceLine_78 : decode cX10_onceLine 78 = .ok (.ifCond .ne 8, 3) := zo_154 (z_byk bcX10_onceLine_60 60 18 _ bcX10_onceLine_60_ok rfl) (z_byk bcX10_onceLine_60 60 19 _ bcX10_onceLine_60_ok rfl) (z_byk bcX10_onceLine_60 60 20 _ bcX10_onceLine_60_ok rfl) rfl
theorem dX10_onceLine_8 : decode cX10_onceLine 8 = .ok (.baload, 1) := zo_51 (z_byk bcX10_onceLine_0 0 8 _ bcX10_onceLine_0_ok rfl)
theorem dX10_onceLine_81 : decode cX10_onceLine 81 = .ok (.aload_n 0, 1) := zo_42 (z_byk bcX10_onceLine_60 60 21 _ bcX10_onceLine_60_ok rfl)
theorem dX10_onceLine_82 : decode cX10_onceLine 82 = .ok (.iconst 1, 1) := zo_4 (z_byk bcX10_onceLine_60 60 22 _ bcX10_onceLine_60_ok rfl)
theorem dX10_onceLine_83 : decode cX10_onceLine 83 = .ok (.invokevirtual 181, 3) := zo_182 (z_byk bcX10_onceLine_60 60 23 _ bcX10_onceLine_60_ok rfl) (z_byk bcX10_onceLine_60 60 24 _ bcX10_onceLine_60_ok rfl) (z_byk bcX10_onceLine_60 60 25 _ bcX10_onceLine_60_ok rfl) rfl
theorem dX10_onceLine_86 : decode cX10_onceLine 86 = .ok (.aload_n 0, 1) := zo_42 (z_byk bcX10_onceLine_60 60 26 _ bcX10_onceLine_60_ok rfl)
theorem dX10_onceLine_87 : decode cX10_onceLine 87 = .ok (.invokevirtual 204, 3) := zo_182 (z_byk bcX10_onceLine_60 60 27 _ bcX10_onceLine_60_ok rfl) (z_byk bcX10_onceLine_60 60 28 _ bcX10_onceLine_60_ok rfl) (z_byk bcX10_onceLine_60 60 29 _ bcX10_onceLine_60_ok rfl) rfl
theorem dX10_onceLine_9 : decode cX10_onceLine 9 = .ok (.ifCond .eq 8, 3) := zo_153 (z_byk bcX10_onceLine_0 0 9 _ bcX10_onceLine_0_ok rfl) (z_byk bcX10_onceLine_0 0 10 _ bcX10_onceLine_0_ok rfl) (z_byk bcX10_onceLine_0 0 11 _ bcX10_onceLine_0_ok rfl) rfl
theorem dX10_onceLine_90 : decode cX10_onceLine 90 = .ok (.ifCond .eq 7, 3) := zo_153 (z_byk bcX10_onceLine_60 60 30 _ bcX10_onceLine_60_ok rfl) (z_byk bcX10_onceLine_60 60 31 _ bcX10_onceLine_60_ok rfl) (z_byk bcX10_onceLine_60 60 32 _ bcX10_onceLine_60_ok rfl) rfl
theorem dX10_onceLine_93 : decode cX10_onceLine 93 = .ok (.aload_n 0, 1) := zo_42 (z_byk bcX10_onceLine_60 60 33 _ bcX10_onceLine_60_ok rfl)
theorem dX10_onceLine_94 : decode cX10_onceLine 94 = .ok (.invokevirtual 175, 3) := zo_182 (z_byk bcX10_onceLine_60 60 34 _ bcX10_onceLine_60_ok rfl) (z_byk bcX10_onceLine_60 60 35 _ bcX10_onceLine_60_ok rfl) (z_byk bcX10_onceLine_60 60 36 _ bcX10_onceLine_60_ok rfl) rfl
theorem dX10_onceLine_97 : decode cX10_onceLine 97 = .ok (.aload_n 0, 1) := zo_42 (z_byk bcX10_onceLine_60 60 37 _ bcX10_onceLine_60_ok rfl)
theorem dX10_onceLine_98 : decode cX10_onceLine 98 = .ok (.getfield 58, 3) := zo_180 (z_byk bcX10_onceLine_60 60 38 _ bcX10_onceLine_60_ok rfl) (z_byk bcX10_onceLine_60 60 39 _ bcX10_onceLine_60_ok rfl) (z_byk bcX10_onceLine_60 60 40 _ bcX10_onceLine_60_ok rfl) rfl
