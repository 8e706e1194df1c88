set_option linter.all false
theorem zw_t7_133 : Cond.constantLong RX10 195 (555) ∈ zT := zt_7 (List.mem_of_getElem? (i := 133) (by decide +kernel)) (by decide +kernel)
def bcX10_gateLine_0 : List Nat := [5, 16, 64, 42, 180, 0, 43, 7, 46, 96, 104, 60, 42, 3, 42, 180, 0, 37, 7, 46, 4, 100, 182, 0, 188, 61, 42, 20, 0, 195, 182, 0, 184, 42, 180, 0, 165, 154, 0, 24, 42, 180, 0, 154, 5, 160, 0, 16, 42, 180, 0, 147, 28, 160, 0, 8, 42, 5, 182, 0]
theorem bcX10_gateLine_0_ok : z_bys cX10_gateLine 0 bcX10_gateLine_0 = true := by decide +kernel
def bcX10_gateLine_60 : List Nat := [181, 42, 180, 0, 46, 27, 28, 79, 42, 180, 0, 46, 27, 4, 96, 42, 3, 42, 180, 0, 37, 7, 46, 4, 100, 182, 0, 188, 79, 42, 180, 0, 43, 7, 92, 46, 4, 96, 79, 177]
theorem bcX10_gateLine_60_ok : z_bys cX10_gateLine 60 bcX10_gateLine_60 = true := by decide +kernel
theorem dX10_gateLine_0 : decode cX10_gateLine 0 = .ok (.iconst 2, 1) := zo_5 (z_byk bcX10_gateLine_0 0 0 _ bcX10_gateLine_0_ok rfl)
theorem dX10_gateLine_1 : decode cX10_gateLine 1 = .ok (.bipush 64, 2) := zo_16 (z_byk bcX10_gateLine_0 0 1 _ bcX10_gateLine_0_ok rfl) (z_byk bcX10_gateLine_0 0 2 _ bcX10_gateLine_0_ok rfl) rfl
theorem dX10_gateLine_10 : decode cX10_gateLine 10 = .ok (.imul, 1) := zo_104 (z_byk bcX10_gateLine_0 0 10 _ bcX10_gateLine_0_ok rfl)
theorem dX10_gateLine_11 : decode cX10_gateLine 11 = .ok (.istore_n 1, 1) := zo_60 (z_byk bcX10_gateLine_0 0 11 _ bcX10_gateLine_0_ok rfl)
theorem dX10_gateLine_12 : decode cX10_gateLine 12 = .ok (.aload_n 0, 1) := zo_42 (z_byk bcX10_gateLine_0 0 12 _ bcX10_gateLine_0_ok rfl)
theorem dX10_gateLine_13 : decode cX10_gateLine 13 = .ok (.iconst 0, 1) := zo_3 (z_byk bcX10_gateLine_0 0 13 _ bcX10_gateLine_0_ok rfl)
theorem dX10_gateLine_14 : decode cX10_gateLine 14 = .ok (.aload_n 0, 1) := zo_42 (z_byk bcX10_gateLine_0 0 14 _ bcX10_gateLine_0_ok rfl)
theorem dX10_gateLine_15 : decode cX10_gateLine 15 = .ok (.getfield 37, 3) := zo_180 (z_byk bcX10_gateLine_0 0 15 _ bcX10_gateLine_0_ok rfl) (z_byk bcX10_gateLine_0 0 16 _ bcX10_gateLine_0_ok rfl) (z_byk bcX10_gateLine_0 0 17 _ bcX10_gateLine_0_ok rfl) rfl
theorem dX10_gateLine_18 : decode cX10_gateLine 18 = .ok (.iconst 4, 1) := zo_7 (z_byk bcX10_gateLine_0 0 18 _ bcX10_gateLine_0_ok rfl)
theorem dX10_gateLine_19 : decode cX10_gateLine 19 = .ok (.iaload, 1) := zo_46 (z_byk bcX10_gateLine_0 0 19 _ bcX10_gateLine_0_ok rfl)
theorem dX10_gateLine_20 : decode cX10_gateLine 20 = .ok (.iconst 1, 1) := zo_4 (z_byk bcX10_gateLine_0 0 20 _ bcX10_gateLine_0_ok rfl)
theorem dX10_gateLine_21 : decode cX10_gateLine 21 = .ok (.isub, 1) := zo_100 (z_byk bcX10_gateLine_0 0 21 _ bcX10_gateLine_0_ok rfl)
theorem dX10_gateLine_22 : decode cX10_gateLine 22 = .ok (.invokevirtual 188, 3) := zo_182 (z_byk bcX10_gateLine_0 0 22 _ bcX10_gateLine_0_ok rfl) (z_byk bcX10_gateLine_0 0 23 _ bcX10_gateLine_0_ok rfl) (z_byk bcX10_gateLine_0 0 24 _ bcX10_gateLine_0_ok rfl) rfl
theorem dX10_gateLine_25 : decode cX10_gateLine 25 = .ok (.istore_n 2, 1) := zo_61 (z_byk bcX10_gateLine_0 0 25 _ bcX10_gateLine_0_ok rfl)
theorem dX10_gateLine_26 : decode cX10_gateLine 26 = .ok (.aload_n 0, 1) := zo_42 (z_byk bcX10_gateLine_0 0 26 _ bcX10_gateLine_0_ok rfl)
theorem dX10_gateLine_27 : decode cX10_gateLine 27 = .ok (.ldc2_w 195, 3) := zo_20 (z_byk bcX10_gateLine_0 0 27 _ bcX10_gateLine_0_ok rfl) (z_byk bcX10_gateLine_0 0 28 _ bcX10_gateLine_0_ok rfl) (z_byk bcX10_gateLine_0 0 29 _ bcX10_gateLine_0_ok rfl) rfl
theorem dX10_gateLine_3 : decode cX10_gateLine 3 = .ok (.aload_n 0, 1) := zo_42 (z_byk bcX10_gateLine_0 0 3 _ bcX10_gateLine_0_ok rfl)
theorem dX10_gateLine_30 : decode cX10_gateLine 30 = .ok (.invokevirtual 184, 3) := zo_182 (z_byk bcX10_gateLine_0 0 30 _ bcX10_gateLine_0_ok rfl) (z_byk bcX10_gateLine_0 0 31 _ bcX10_gateLine_0_ok rfl) (z_byk bcX10_gateLine_0 0 32 _ bcX10_gateLine_0_ok rfl) rfl
theorem dX10_gateLine_33 : decode cX10_gateLine 33 = .ok (.aload_n 0, 1) := zo_42 (z_byk bcX10_gateLine_0 0 33 _ bcX10_gateLine_0_ok rfl)
theorem dX10_gateLine_34 : decode cX10_gateLine 34 = .ok (.getfield 165, 3) := zo_180 (z_byk bcX10_gateLine_0 0 34 _ bcX10_gateLine_0_ok rfl) (z_byk bcX10_gateLine_0 0 35 _ bcX10_gateLine_0_ok rfl) (z_byk bcX10_gateLine_0 0 36 _ bcX10_gateLine_0_ok rfl) rfl
theorem dX10_gateLine_37 : decode cX10_gateLine 37 = .ok (.ifCond .ne 24, 3) := zo_154 (z_byk bcX10_gateLine_0 0 37 _ bcX10_gateLine_0_ok rfl) (z_byk bcX10_gateLine_0 0 38 _ bcX10_gateLine_0_ok rfl) (z_byk bcX10_gateLine_0 0 39 _ bcX10_gateLine_0_ok rfl) rfl
theorem dX10_gateLine_4 : decode cX10_gateLine 4 = .ok (.getfield 43, 3) := zo_180 (z_byk bcX10_gateLine_0 0 4 _ bcX10_gateLine_0_ok rfl) (z_byk bcX10_gateLine_0 0 5 _ bcX10_gateLine_0_ok rfl) (z_byk bcX10_gateLine_0 0 6 _ bcX10_gateLine_0_ok rfl) rfl
theorem dX10_gateLine_40 : decode cX10_gateLine 40 = .ok (.aload_n 0, 1) := zo_42 (z_byk bcX10_gateLine_0 0 40 _ bcX10_gateLine_0_ok rfl)
theorem dX10_gateLine_41 : decode cX10_gateLine 41 = .ok (.getfield 154, 3) := zo_180 (z_byk bcX10_gateLine_0 0 41 _ bcX10_gateLine_0_ok rfl) (z_byk bcX10_gateLine_0 0 42 _ bcX10_gateLine_0_ok rfl) (z_byk bcX10_gateLine_0 0 43 _ bcX10_gateLine_0_ok rfl) rfl
theorem dX10_gateLine_44 : decode cX10_gateLine 44 = .ok (.iconst 2, 1) := zo_5 (z_byk bcX10_gateLine_0 0 44 _ bcX10_gateLine_0_ok rfl)
theorem dX10_gateLine_45 : decode cX10_gateLine 45 = .ok (.if_icmp .ne 16, 3) := zo_160 (z_byk bcX10_gateLine_0 0 45 _ bcX10_gateLine_0_ok rfl) (z_byk bcX10_gateLine_0 0 46 _ bcX10_gateLine_0_ok rfl) (z_byk bcX10_gateLine_0 0 47 _ bcX10_gateLine_0_ok rfl) rfl
theorem dX10_gateLine_48 : decode cX10_gateLine 48 = .ok (.aload_n 0, 1) := zo_42 (z_byk bcX10_gateLine_0 0 48 _ bcX10_gateLine_0_ok rfl)
theorem dX10_gateLine_49 : decode cX10_gateLine 49 = .ok (.getfield 147, 3) := zo_180 (z_byk bcX10_gateLine_0 0 49 _ bcX10_gateLine_0_ok rfl) (z_byk bcX10_gateLine_0 0 50 _ bcX10_gateLine_0_ok rfl) (z_byk bcX10_gateLine_0 0 51 _ bcX10_gateLine_0_ok rfl) rfl
theorem dX10_gateLine_52 : decode cX10_gateLine 52 = .ok (.iload_n 2, 1) := zo_28 (z_byk bcX10_gateLine_0 0 52 _ bcX10_gateLine_0_ok rfl)
theorem dX10_gateLine_53 : decode cX10_gateLine 53 = .ok (.if_icmp .ne 8, 3) := zo_160 (z_byk bcX10_gateLine_0 0 53 _ bcX10_gateLine_0_ok rfl) (z_byk bcX10_gateLine_0 0 54 _ bcX10_gateLine_0_ok rfl) (z_byk bcX10_gateLine_0 0 55 _ bcX10_gateLine_0_ok rfl) rfl
theorem dX10_gateLine_56 : decode cX10_gateLine 56 = .ok (.aload_n 0, 1) := zo_42 (z_byk bcX10_gateLine_0 0 56 _ bcX10_gateLine_0_ok rfl)
theorem dX10_gateLine_57 : decode cX10_gateLine 57 = .ok (.iconst 2, 1) := zo_5 (z_byk bcX10_gateLine_0 0 57 _ bcX10_gateLine_0_ok rfl)
theorem dX10_gateLine_58 : decode cX10_gateLine 58 = .ok (.invokevirtual 181, 3) := zo_182 (z_byk bcX10_gateLine_0 0 58 _ bcX10_gateLine_0_ok rfl) (z_byk bcX10_gateLine_0 0 59 _ bcX10_gateLine_0_ok rfl) (z_byk bcX10_gateLine_60 60 0 _ bcX10_gateLine_60_ok rfl) rfl
theorem dX10_gateLine_61 : decode cX10_gateLine 61 = .ok (.aload_n 0, 1) := zo_42 (z_byk bcX10_gateLine_60 60 1 _ bcX10_gateLine_60_ok rfl)
theorem dX10_gateLine_62 : decode cX10_gateLine 62 = .ok (.getfield 46, 3) := zo_180 (z_byk bcX10_gateLine_60 60 2 _ bcX10_gateLine_60_ok rfl) (z_byk bcX10_gateLine_60 60 3 _ bcX10_gateLine_60_ok rfl) (z_byk bcX10_gateLine_60 60 4 _ bcX10_gateLine_60_ok rfl) rfl
theorem dX10_gateLine_65 : decode cX10_gateLine 65 = .ok (.iload_n 1, 1) := zo_27 (z_byk bcX10_gateLine_60 60 5 _ bcX10_gateLine_60_ok rfl)
theorem dX10_gateLine_66 : decode cX10_gateLine 66 = .ok (.iload_n 2, 1) := zo_28 (z_byk bcX10_gateLine_60 60 6 _ bcX10_gateLine_60_ok rfl)
theorem dX10_gateLine_67 : decode cX10_gateLine 67 = .ok (.iastore, 1) := zo_79 (z_byk bcX10_gateLine_60 60 7 _ bcX10_gateLine_60_ok rfl)
theorem dX10_gateLine_68 : decode cX10_gateLine 68 = .ok (.aload_n 0, 1) := zo_42 (z_byk bcX10_gateLine_60 60 8 _ bcX10_gateLine_60_ok rfl)
theorem dX10_gateLine_69 : decode cX10_gateLine 69 = .ok (.getfield 46, 3) := zo_180 (z_byk bcX10_gateLine_60 60 9 _ bcX10_gateLine_60_ok rfl) (z_byk bcX10_gateLine_60 60 10 _ bcX10_gateLine_60_ok rfl) (z_byk bcX10_gateLine_60 60 11 _ bcX10_gateLine_60_ok rfl) rfl
theorem dX10_gateLine_7 : decode cX10_gateLine 7 = .ok (.iconst 4, 1) := zo_7 (z_byk bcX10_gateLine_0 0 7 _ bcX10_gateLine_0_ok rfl)
theorem dX10_gateLine_72 : decode cX10_gateLine 72 = .ok (.iload_n 1, 1) := zo_27 (z_byk bcX10_gateLine_60 60 12 _ bcX10_gateLine_60_ok rfl)
theorem dX10_gateLine_73 : decode cX10_gateLine 73 = .ok (.iconst 1, 1) := zo_4 (z_byk bcX10_gateLine_60 60 13 _ bcX10_gateLine_60_ok rfl)
theorem dX10_gateLine_74 : decode cX10_gateLine 74 = .ok (.iadd, 1) := zo_96 (z_byk bcX10_gateLine_60 60 14 _ bcX10_gateLine_60_ok rfl)
theorem dX10_gateLine_75 : decode cX10_gateLine 75 = .ok (.aload_n 0, 1) := zo_42 (z_byk bcX10_gateLine_60 60 15 _ bcX10_gateLine_60_ok rfl)
theorem dX10_gateLine_76 : decode cX10_gateLine 76 = .ok (.iconst 0, 1) := zo_3 (z_byk bcX10_gateLine_60 60 16 _ bcX10_gateLine_60_ok rfl)
theorem dX10_gateLine_77 : decode cX10_gateLine 77 = .ok (.aload_n 0, 1) := zo_42 (z_byk bcX10_gateLine_60 60 17 _ bcX10_gateLine_60_ok rfl)
theorem dX10_gateLine_78 : decode cX10_gateLine 78 = .ok (.getfield 37, 3) := zo_180 (z_byk bcX10_gateLine_60 60 18 _ bcX10_gateLine_60_ok rfl) (z_byk bcX10_gateLine_60 60 19 _ bcX10_gateLine_60_ok rfl) (z_byk bcX10_gateLine_60 60 20 _ bcX10_gateLine_60_ok rfl) rfl
theorem dX10_gateLine_8 : decode cX10_gateLine 8 = .ok (.iaload, 1) := zo_46 (z_byk bcX10_gateLine_0 0 8 _ bcX10_gateLine_0_ok rfl)
theorem dX10_gateLine_81 : decode cX10_gateLine 81 = .ok (.iconst 4, 1) := zo_7 (z_byk bcX10_gateLine_60 60 21 _ bcX10_gateLine_60_ok rfl)
theorem dX10_gateLine_82 : decode cX10_gateLine 82 = .ok (.iaload, 1) := zo_46 (z_byk bcX10_gateLine_60 60 22 _ bcX10_gateLine_60_ok rfl)
theorem dX10_gateLine_83 : decode cX10_gateLine 83 = .ok (.iconst 1, 1) := zo_4 (z_byk bcX10_gateLine_60 60 23 _ bcX10_gateLine_60_ok rfl)
theorem dX10_gateLine_84 : decode cX10_gateLine 84 = .ok (.isub, 1) := zo_100 (z_byk bcX10_gateLine_60 60 24 _ bcX10_gateLine_60_ok rfl)
theorem dX10_gateLine_85 : decode cX10_gateLine 85 = .ok (.invokevirtual 188, 3) := zo_182 (z_byk bcX10_gateLine_60 60 25 _ bcX10_gateLine_60_ok rfl) (z_byk bcX10_gateLine_60 60 26 _ bcX10_gateLine_60_ok rfl) (z_byk bcX10_gateLine_60 60 27 _ bcX10_gateLine_60_ok rfl) rfl
theorem dX10_gateLine_88 : decode cX10_gateLine 88 = .ok (.iastore, 1) := zo_79 (z_byk bcX10_gateLine_60 60 28 _ bcX10_gateLine_60_ok rfl)
theorem dX10_gateLine_89 : decode cX10_gateLine 89 = .ok (.aload_n 0, 1) := zo_42 (z_byk bcX10_gateLine_60 60 29 _ bcX10_gateLine_60_ok rfl)
theorem dX10_gateLine_9 : decode cX10_gateLine 9 = .ok (.iadd, 1) := zo_96 (z_byk bcX10_gateLine_0 0 9 _ bcX10_gateLine_0_ok rfl)
theorem dX10_gateLine_90 : decode cX10_gateLine 90 = .ok (.getfield 43, 3) := zo_180 (z_byk bcX10_gateLine_60 60 30 _ bcX10_gateLine_60_ok rfl) (z_byk bcX10_gateLine_60 60 31 _ bcX10_gateLine_60_ok rfl) (z_byk bcX10_gateLine_60 60 32 _ bcX10_gateLine_60_ok rfl) rfl
theorem dX10_gateLine_93 : decode cX10_gateLine 93 = .ok (.iconst 4, 1) := zo_7 (z_byk bcX10_gateLine_60 60 33 _ bcX10_gateLine_60_ok rfl)
theorem dX10_gateLine_94 : decode cX10_gateLine 94 = .ok (.dup2, 1) := zo_92 (z_byk bcX10_gateLine_60 60 34 _ bcX10_gateLine_60_ok rfl)
theorem dX10_gateLine_95 : decode cX10_gateLine 95 = .ok (.iaload, 1) := zo_46 (z_byk bcX10_gateLine_60 60 35 _ bcX10_gateLine_60_ok rfl)
theorem dX10_gateLine_96 : decode cX10_gateLine 96 = .ok (.iconst 1, 1) := zo_4 (z_byk bcX10_gateLine_60 60 36 _ bcX10_gateLine_60_ok rfl)
theorem dX10_gateLine_97 : decode cX10_gateLine 97 = .ok (.iadd, 1) := zo_96 (z_byk bcX10_gateLine_60 60 37 _ bcX10_gateLine_60_ok rfl)
theorem dX10_gateLine_98 : decode cX10_gateLine 98 = .ok (.iastore, 1) := zo_79 (z_byk bcX10_gateLine_60 60 38 _ bcX10_gateLine_60_ok rfl)
theorem dX10_gateLine_99 : decode cX10_gateLine 99 = .ok (.return_, 1) := zo_177 (z_byk bcX10_gateLine_60 60 39 _ bcX10_gateLine_60_ok rfl)
