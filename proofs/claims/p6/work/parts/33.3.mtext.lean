set_option linter.all false
theorem zw_s5_0 : Cond.selects RX10 yX10_number_ yX10_number_ ∈ zT := zs_5 (List.mem_of_getElem? (i := 0) (by decide +kernel))
theorem zw_t6_130 : Cond.fieldLink RX10 210 "NameGateModel" "strays" "I" ∈ zT := zt_6 (List.mem_of_getElem? (i := 130) (by decide +kernel)) (by decide +kernel)
theorem zw_t7_106 : Cond.methodLink RX10 199 yX10_number_ ∈ zT := zt_7 (List.mem_of_getElem? (i := 106) (by decide +kernel)) (by decide +kernel)
theorem zw_t7_108 : Cond.instanceMethod yX10_number_ ∈ zT := zt_7 (List.mem_of_getElem? (i := 108) (by decide +kernel)) (by decide +kernel)
theorem zw_t7_109 : Cond.code yX10_number_ cX10_number_ 5 (some .int) ∈ zT := zt_7 (List.mem_of_getElem? (i := 109) (by decide +kernel)) (by decide +kernel)
theorem zw_t7_139 : Cond.constantLong RX10 197 (47) ∈ zT := zt_7 (List.mem_of_getElem? (i := 139) (by decide +kernel)) (by decide +kernel)
theorem zw_t7_140 : Cond.constantLong RX10 202 (131638) ∈ zT := zt_7 (List.mem_of_getElem? (i := 140) (by decide +kernel)) (by decide +kernel)
theorem zw_t7_141 : Cond.constantLong RX10 208 (283613770) ∈ zT := zt_7 (List.mem_of_getElem? (i := 141) (by decide +kernel)) (by decide +kernel)
def bcX10_clears_0 : List Nat := [42, 180, 0, 31, 7, 3, 79, 42, 180, 0, 34, 7, 3, 79, 42, 180, 0, 37, 7, 4, 79, 42, 180, 0, 40, 16, 40, 2, 79, 42, 180, 0, 43, 7, 3, 79, 42, 180, 0, 49, 7, 3, 79, 42, 180, 0, 58, 16, 8, 4, 79, 42, 180, 0, 58, 16, 9, 3, 79, 42]
theorem bcX10_clears_0_ok : z_bys cX10_clears 0 bcX10_clears_0 = true := by decide +kernel
def bcX10_clears_60 : List Nat := [180, 0, 65, 16, 8, 3, 79, 42, 180, 0, 65, 16, 9, 3, 79, 3, 60, 27, 16, 10, 162, 0, 19, 42, 180, 0, 68, 16, 40, 27, 96, 3, 79, 132, 1, 1, 167, 255, 237, 3, 60, 27, 5, 162, 0, 19, 42, 180, 0, 61, 16, 8, 27, 96, 3, 84, 132, 1, 1, 167]
theorem bcX10_clears_60_ok : z_bys cX10_clears 60 bcX10_clears_60 = true := by decide +kernel
def bcX10_clears_120 : List Nat := [255, 238, 42, 3, 181, 0, 210, 177]
theorem bcX10_clears_120_ok : z_bys cX10_clears 120 bcX10_clears_120 = true := by decide +kernel
theorem dX10_clears_0 : decode cX10_clears 0 = .ok (.aload_n 0, 1) := zo_42 (z_byk bcX10_clears_0 0 0 _ bcX10_clears_0_ok rfl)
theorem dX10_clears_1 : decode cX10_clears 1 = .ok (.getfield 31, 3) := zo_180 (z_byk bcX10_clears_0 0 1 _ bcX10_clears_0_ok rfl) (z_byk bcX10_clears_0 0 2 _ bcX10_clears_0_ok rfl) (z_byk bcX10_clears_0 0 3 _ bcX10_clears_0_ok rfl) rfl
theorem dX10_clears_100 : decode cX10_clears 100 = .ok (.istore_n 1, 1) := zo_60 (z_byk bcX10_clears_60 60 40 _ bcX10_clears_60_ok rfl)
theorem dX10_clears_101 : decode cX10_clears 101 = .ok (.iload_n 1, 1) := zo_27 (z_byk bcX10_clears_60 60 41 _ bcX10_clears_60_ok rfl)
theorem dX10_clears_102 : decode cX10_clears 102 = .ok (.iconst 2, 1) := zo_5 (z_byk bcX10_clears_60 60 42 _ bcX10_clears_60_ok rfl)
theorem dX10_clears_103 : decode cX10_clears 103 = .ok (.if_icmp .ge 19, 3) := zo_162 (z_byk bcX10_clears_60 60 43 _ bcX10_clears_60_ok rfl) (z_byk bcX10_clears_60 60 44 _ bcX10_clears_60_ok rfl) (z_byk bcX10_clears_60 60 45 _ bcX10_clears_60_ok rfl) rfl
theorem dX10_clears_106 : decode cX10_clears 106 = .ok (.aload_n 0, 1) := zo_42 (z_byk bcX10_clears_60 60 46 _ bcX10_clears_60_ok rfl)
theorem dX10_clears_107 : decode cX10_clears 107 = .ok (.getfield 61, 3) := zo_180 (z_byk bcX10_clears_60 60 47 _ bcX10_clears_60_ok rfl) (z_byk bcX10_clears_60 60 48 _ bcX10_clears_60_ok rfl) (z_byk bcX10_clears_60 60 49 _ bcX10_clears_60_ok rfl) rfl
theorem dX10_clears_11 : decode cX10_clears 11 = .ok (.iconst 4, 1) := zo_7 (z_byk bcX10_clears_0 0 11 _ bcX10_clears_0_ok rfl)
theorem dX10_clears_110 : decode cX10_clears 110 = .ok (.bipush 8, 2) := zo_16 (z_byk bcX10_clears_60 60 50 _ bcX10_clears_60_ok rfl) (z_byk bcX10_clears_60 60 51 _ bcX10_clears_60_ok rfl) rfl
theorem dX10_clears_112 : decode cX10_clears 112 = .ok (.iload_n 1, 1) := zo_27 (z_byk bcX10_clears_60 60 52 _ bcX10_clears_60_ok rfl)
theorem dX10_clears_113 : decode cX10_clears 113 = .ok (.iadd, 1) := zo_96 (z_byk bcX10_clears_60 60 53 _ bcX10_clears_60_ok rfl)
theorem dX10_clears_114 : decode cX10_clears 114 = .ok (.iconst 0, 1) := zo_3 (z_byk bcX10_clears_60 60 54 _ bcX10_clears_60_ok rfl)
theorem dX10_clears_115 : decode cX10_clears 115 = .ok (.bastore, 1) := zo_84 (z_byk bcX10_clears_60 60 55 _ bcX10_clears_60_ok rfl)
theorem dX10_clears_116 : decode cX10_clears 116 = .ok (.iinc 1 1, 3) := zo_132 (z_byk bcX10_clears_60 60 56 _ bcX10_clears_60_ok rfl) (z_byk bcX10_clears_60 60 57 _ bcX10_clears_60_ok rfl) (z_byk bcX10_clears_60 60 58 _ bcX10_clears_60_ok rfl) rfl
theorem dX10_clears_119 : decode cX10_clears 119 = .ok (.goto (-18), 3) := zo_167 (z_byk bcX10_clears_60 60 59 _ bcX10_clears_60_ok rfl) (z_byk bcX10_clears_120 120 0 _ bcX10_clears_120_ok rfl) (z_byk bcX10_clears_120 120 1 _ bcX10_clears_120_ok rfl) rfl
theorem dX10_clears_12 : decode cX10_clears 12 = .ok (.iconst 0, 1) := zo_3 (z_byk bcX10_clears_0 0 12 _ bcX10_clears_0_ok rfl)
theorem dX10_clears_122 : decode cX10_clears 122 = .ok (.aload_n 0, 1) := zo_42 (z_byk bcX10_clears_120 120 2 _ bcX10_clears_120_ok rfl)
theorem dX10_clears_123 : decode cX10_clears 123 = .ok (.iconst 0, 1) := zo_3 (z_byk bcX10_clears_120 120 3 _ bcX10_clears_120_ok rfl)
theorem dX10_clears_124 : decode cX10_clears 124 = .ok (.putfield 210, 3) := zo_181 (z_byk bcX10_clears_120 120 4 _ bcX10_clears_120_ok rfl) (z_byk bcX10_clears_120 120 5 _ bcX10_clears_120_ok rfl) (z_byk bcX10_clears_120 120 6 _ bcX10_clears_120_ok rfl) rfl
theorem dX10_clears_127 : decode cX10_clears 127 = .ok (.return_, 1) := zo_177 (z_byk bcX10_clears_120 120 7 _ bcX10_clears_120_ok rfl)
theorem dX10_clears_13 : decode cX10_clears 13 = .ok (.iastore, 1) := zo_79 (z_byk bcX10_clears_0 0 13 _ bcX10_clears_0_ok rfl)
theorem dX10_clears_14 : decode cX10_clears 14 = .ok (.aload_n 0, 1) := zo_42 (z_byk bcX10_clears_0 0 14 _ bcX10_clears_0_ok rfl)
theorem dX10_clears_15 : decode cX10_clears 15 = .ok (.getfield 37, 3) := zo_180 (z_byk bcX10_clears_0 0 15 _ bcX10_clears_0_ok rfl) (z_byk bcX10_clears_0 0 16 _ bcX10_clears_0_ok rfl) (z_byk bcX10_clears_0 0 17 _ bcX10_clears_0_ok rfl) rfl
theorem dX10_clears_18 : decode cX10_clears 18 = .ok (.iconst 4, 1) := zo_7 (z_byk bcX10_clears_0 0 18 _ bcX10_clears_0_ok rfl)
theorem dX10_clears_19 : decode cX10_clears 19 = .ok (.iconst 1, 1) := zo_4 (z_byk bcX10_clears_0 0 19 _ bcX10_clears_0_ok rfl)
theorem dX10_clears_20 : decode cX10_clears 20 = .ok (.iastore, 1) := zo_79 (z_byk bcX10_clears_0 0 20 _ bcX10_clears_0_ok rfl)
theorem dX10_clears_21 : decode cX10_clears 21 = .ok (.aload_n 0, 1) := zo_42 (z_byk bcX10_clears_0 0 21 _ bcX10_clears_0_ok rfl)
theorem dX10_clears_22 : decode cX10_clears 22 = .ok (.getfield 40, 3) := zo_180 (z_byk bcX10_clears_0 0 22 _ bcX10_clears_0_ok rfl) (z_byk bcX10_clears_0 0 23 _ bcX10_clears_0_ok rfl) (z_byk bcX10_clears_0 0 24 _ bcX10_clears_0_ok rfl) rfl
theorem dX10_clears_25 : decode cX10_clears 25 = .ok (.bipush 40, 2) := zo_16 (z_byk bcX10_clears_0 0 25 _ bcX10_clears_0_ok rfl) (z_byk bcX10_clears_0 0 26 _ bcX10_clears_0_ok rfl) rfl
theorem dX10_clears_27 : decode cX10_clears 27 = .ok (.iconst (-1), 1) := zo_2 (z_byk bcX10_clears_0 0 27 _ bcX10_clears_0_ok rfl)
theorem dX10_clears_28 : decode cX10_clears 28 = .ok (.iastore, 1) := zo_79 (z_byk bcX10_clears_0 0 28 _ bcX10_clears_0_ok rfl)
theorem dX10_clears_29 : decode cX10_clears 29 = .ok (.aload_n 0, 1) := zo_42 (z_byk bcX10_clears_0 0 29 _ bcX10_clears_0_ok rfl)
theorem dX10_clears_30 : decode cX10_clears 30 = .ok (.getfield 43, 3) := zo_180 (z_byk bcX10_clears_0 0 30 _ bcX10_clears_0_ok rfl) (z_byk bcX10_clears_0 0 31 _ bcX10_clears_0_ok rfl) (z_byk bcX10_clears_0 0 32 _ bcX10_clears_0_ok rfl) rfl
theorem dX10_clears_33 : decode cX10_clears 33 = .ok (.iconst 4, 1) := zo_7 (z_byk bcX10_clears_0 0 33 _ bcX10_clears_0_ok rfl)
theorem dX10_clears_34 : decode cX10_clears 34 = .ok (.iconst 0, 1) := zo_3 (z_byk bcX10_clears_0 0 34 _ bcX10_clears_0_ok rfl)
theorem dX10_clears_35 : decode cX10_clears 35 = .ok (.iastore, 1) := zo_79 (z_byk bcX10_clears_0 0 35 _ bcX10_clears_0_ok rfl)
theorem dX10_clears_36 : decode cX10_clears 36 = .ok (.aload_n 0, 1) := zo_42 (z_byk bcX10_clears_0 0 36 _ bcX10_clears_0_ok rfl)
theorem dX10_clears_37 : decode cX10_clears 37 = .ok (.getfield 49, 3) := zo_180 (z_byk bcX10_clears_0 0 37 _ bcX10_clears_0_ok rfl) (z_byk bcX10_clears_0 0 38 _ bcX10_clears_0_ok rfl) (z_byk bcX10_clears_0 0 39 _ bcX10_clears_0_ok rfl) rfl
theorem dX10_clears_4 : decode cX10_clears 4 = .ok (.iconst 4, 1) := zo_7 (z_byk bcX10_clears_0 0 4 _ bcX10_clears_0_ok rfl)
theorem dX10_clears_40 : decode cX10_clears 40 = .ok (.iconst 4, 1) := zo_7 (z_byk bcX10_clears_0 0 40 _ bcX10_clears_0_ok rfl)
theorem dX10_clears_41 : decode cX10_clears 41 = .ok (.iconst 0, 1) := zo_3 (z_byk bcX10_clears_0 0 41 _ bcX10_clears_0_ok rfl)
theorem dX10_clears_42 : decode cX10_clears 42 = .ok (.iastore, 1) := zo_79 (z_byk bcX10_clears_0 0 42 _ bcX10_clears_0_ok rfl)
theorem dX10_clears_43 : decode cX10_clears 43 = .ok (.aload_n 0, 1) := zo_42 (z_byk bcX10_clears_0 0 43 _ bcX10_clears_0_ok rfl)
theorem dX10_clears_44 : decode cX10_clears 44 = .ok (.getfield 58, 3) := zo_180 (z_byk bcX10_clears_0 0 44 _ bcX10_clears_0_ok rfl) (z_byk bcX10_clears_0 0 45 _ bcX10_clears_0_ok rfl) (z_byk bcX10_clears_0 0 46 _ bcX10_clears_0_ok rfl) rfl
theorem dX10_clears_47 : decode cX10_clears 47 = .ok (.bipush 8, 2) := zo_16 (z_byk bcX10_clears_0 0 47 _ bcX10_clears_0_ok rfl) (z_byk bcX10_clears_0 0 48 _ bcX10_clears_0_ok rfl) rfl
theorem dX10_clears_49 : decode cX10_clears 49 = .ok (.iconst 1, 1) := zo_4 (z_byk bcX10_clears_0 0 49 _ bcX10_clears_0_ok rfl)
theorem dX10_clears_5 : decode cX10_clears 5 = .ok (.iconst 0, 1) := zo_3 (z_byk bcX10_clears_0 0 5 _ bcX10_clears_0_ok rfl)
theorem dX10_clears_50 : decode cX10_clears 50 = .ok (.iastore, 1) := zo_79 (z_byk bcX10_clears_0 0 50 _ bcX10_clears_0_ok rfl)
theorem dX10_clears_51 : decode cX10_clears 51 = .ok (.aload_n 0, 1) := zo_42 (z_byk bcX10_clears_0 0 51 _ bcX10_clears_0_ok rfl)
theorem dX10_clears_52 : decode cX10_clears 52 = .ok (.getfield 58, 3) := zo_180 (z_byk bcX10_clears_0 0 52 _ bcX10_clears_0_ok rfl) (z_byk bcX10_clears_0 0 53 _ bcX10_clears_0_ok rfl) (z_byk bcX10_clears_0 0 54 _ bcX10_clears_0_ok rfl) rfl
theorem dX10_clears_55 : decode cX10_clears 55 = .ok (.bipush 9, 2) := zo_16 (z_byk bcX10_clears_0 0 55 _ bcX10_clears_0_ok rfl) (z_byk bcX10_clears_0 0 56 _ bcX10_clears_0_ok rfl) rfl
theorem dX10_clears_57 : decode cX10_clears 57 = .ok (.iconst 0, 1) := zo_3 (z_byk bcX10_clears_0 0 57 _ bcX10_clears_0_ok rfl)
theorem dX10_clears_58 : decode cX10_clears 58 = .ok (.iastore, 1) := zo_79 (z_byk bcX10_clears_0 0 58 _ bcX10_clears_0_ok rfl)
theorem dX10_clears_59 : decode cX10_clears 59 = .ok (.aload_n 0, 1) := zo_42 (z_byk bcX10_clears_0 0 59 _ bcX10_clears_0_ok rfl)
theorem dX10_clears_6 : decode cX10_clears 6 = .ok (.iastore, 1) := zo_79 (z_byk bcX10_clears_0 0 6 _ bcX10_clears_0_ok rfl)
theorem dX10_clears_60 : decode cX10_clears 60 = .ok (.getfield 65, 3) := zo_180 (z_byk bcX10_clears_60 60 0 _ bcX10_clears_60_ok rfl) (z_byk bcX10_clears_60 60 1 _ bcX10_clears_60_ok rfl) (z_byk bcX10_clears_60 60 2 _ bcX10_clears_60_ok rfl) rfl
theorem dX10_clears_63 : decode cX10_clears 63 = .ok (.bipush 8, 2) := zo_16 (z_byk bcX10_clears_60 60 3 _ bcX10_clears_60_ok rfl) (z_byk bcX10_clears_60 60 4 _ bcX10_clears_60_ok rfl) rfl
theorem dX10_clears_65 : decode cX10_clears 65 = .ok (.iconst 0, 1) := zo_3 (z_byk bcX10_clears_60 60 5 _ bcX10_clears_60_ok rfl)
theorem dX10_clears_66 : decode cX10_clears 66 = .ok (.iastore, 1) := zo_79 (z_byk bcX10_clears_60 60 6 _ bcX10_clears_60_ok rfl)
theorem dX10_clears_67 : decode cX10_clears 67 = .ok (.aload_n 0, 1) := zo_42 (z_byk bcX10_clears_60 60 7 _ bcX10_clears_60_ok rfl)
theorem dX10_clears_68 : decode cX10_clears 68 = .ok (.getfield 65, 3) := zo_180 (z_byk bcX10_clears_60 60 8 _ bcX10_clears_60_ok rfl) (z_byk bcX10_clears_60 60 9 _ bcX10_clears_60_ok rfl) (z_byk bcX10_clears_60 60 10 _ bcX10_clears_60_ok rfl) rfl
theorem dX10_clears_7 : decode cX10_clears 7 = .ok (.aload_n 0, 1) := zo_42 (z_byk bcX10_clears_0 0 7 _ bcX10_clears_0_ok rfl)
theorem dX10_clears_71 : decode cX10_clears 71 = .ok (.bipush 9, 2) := zo_16 (z_byk bcX10_clears_60 60 11 _ bcX10_clears_60_ok rfl) (z_byk bcX10_clears_60 60 12 _ bcX10_clears_60_ok rfl) rfl
theorem dX10_clears_73 : decode cX10_clears 73 = .ok (.iconst 0, 1) := zo_3 (z_byk bcX10_clears_60 60 13 _ bcX10_clears_60_ok rfl)
theorem dX10_clears_74 : decode cX10_clears 74 = .ok (.iastore, 1) := zo_79 (z_byk bcX10_clears_60 60 14 _ bcX10_clears_60_ok rfl)
theorem dX10_clears_75 : decode cX10_clears 75 = .ok (.iconst 0, 1) := zo_3 (z_byk bcX10_clears_60 60 15 _ bcX10_clears_60_ok rfl)
theorem dX10_clears_76 : decode cX10_clears 76 = .ok (.istore_n 1, 1) := zo_60 (z_byk bcX10_clears_60 60 16 _ bcX10_clears_60_ok rfl)
theorem dX10_clears_77 : decode cX10_clears 77 = .ok (.iload_n 1, 1) := zo_27 (z_byk bcX10_clears_60 60 17 _ bcX10_clears_60_ok rfl)
theorem dX10_clears_78 : decode cX10_clears 78 = .ok (.bipush 10, 2) := zo_16 (z_byk bcX10_clears_60 60 18 _ bcX10_clears_60_ok rfl) (z_byk bcX10_clears_60 60 19 _ bcX10_clears_60_ok rfl) rfl
theorem dX10_clears_8 : decode cX10_clears 8 = .ok (.getfield 34, 3) := zo_180 (z_byk bcX10_clears_0 0 8 _ bcX10_clears_0_ok rfl) (z_byk bcX10_clears_0 0 9 _ bcX10_clears_0_ok rfl) (z_byk bcX10_clears_0 0 10 _ bcX10_clears_0_ok rfl) rfl
theorem dX10_clears_80 : decode cX10_clears 80 = .ok (.if_icmp .ge 19, 3) := zo_162 (z_byk bcX10_clears_60 60 20 _ bcX10_clears_60_ok rfl) (z_byk bcX10_clears_60 60 21 _ bcX10_clears_60_ok rfl) (z_byk bcX10_clears_60 60 22 _ bcX10_clears_60_ok rfl) rfl
theorem dX10_clears_83 : decode cX10_clears 83 = .ok (.aload_n 0, 1) := zo_42 (z_byk bcX10_clears_60 60 23 _ bcX10_clears_60_ok rfl)
theorem dX10_clears_84 : decode cX10_clears 84 = .ok (.getfield 68, 3) := zo_180 (z_byk bcX10_clears_60 60 24 _ bcX10_clears_60_ok rfl) (z_byk bcX10_clears_60 60 25 _ bcX10_clears_60_ok rfl) (z_byk bcX10_clears_60 60 26 _ bcX10_clears_60_ok rfl) rfl
theorem dX10_clears_87 : decode cX10_clears 87 = .ok (.bipush 40, 2) := zo_16 (z_byk bcX10_clears_60 60 27 _ bcX10_clears_60_ok rfl) (z_byk bcX10_clears_60 60 28 _ bcX10_clears_60_ok rfl) rfl
theorem dX10_clears_89 : decode cX10_clears 89 = .ok (.iload_n 1, 1) := zo_27 (z_byk bcX10_clears_60 60 29 _ bcX10_clears_60_ok rfl)
theorem dX10_clears_90 : decode cX10_clears 90 = .ok (.iadd, 1) := zo_96 (z_byk bcX10_clears_60 60 30 _ bcX10_clears_60_ok rfl)
theorem dX10_clears_91 : decode cX10_clears 91 = .ok (.iconst 0, 1) := zo_3 (z_byk bcX10_clears_60 60 31 _ bcX10_clears_60_ok rfl)
theorem dX10_clears_92 : decode cX10_clears 92 = .ok (.iastore, 1) := zo_79 (z_byk bcX10_clears_60 60 32 _ bcX10_clears_60_ok rfl)
theorem dX10_clears_93 : decode cX10_clears 93 = .ok (.iinc 1 1, 3) := zo_132 (z_byk bcX10_clears_60 60 33 _ bcX10_clears_60_ok rfl) (z_byk bcX10_clears_60 60 34 _ bcX10_clears_60_ok rfl) (z_byk bcX10_clears_60 60 35 _ bcX10_clears_60_ok rfl) rfl
theorem dX10_clears_96 : decode cX10_clears 96 = .ok (.goto (-19), 3) := zo_167 (z_byk bcX10_clears_60 60 36 _ bcX10_clears_60_ok rfl) (z_byk bcX10_clears_60 60 37 _ bcX10_clears_60_ok rfl) (z_byk bcX10_clears_60 60 38 _ bcX10_clears_60_ok rfl) rfl
theorem dX10_clears_99 : decode cX10_clears 99 = .ok (.iconst 0, 1) := zo_3 (z_byk bcX10_clears_60 60 39 _ bcX10_clears_60_ok rfl)
def bcX10_personLine_0 : List Nat := [16, 40, 42, 180, 0, 49, 7, 46, 96, 60, 42, 20, 0, 197, 3, 42, 180, 0, 37, 7, 46, 4, 100, 182, 0, 199, 61, 3, 62, 3, 54, 4, 21, 4, 16, 48, 162, 0, 22, 42, 180, 0, 52, 16, 48, 27, 104, 21, 4, 96, 28, 79, 132, 4, 1, 167, 255, 233, 42, 20]
theorem bcX10_personLine_0_ok : z_bys cX10_personLine 0 bcX10_personLine_0 = true := by decide +kernel
def bcX10_personLine_60 : List Nat := [0, 202, 182, 0, 178, 153, 0, 80, 42, 29, 4, 96, 42, 180, 0, 34, 7, 46, 4, 100, 182, 0, 188, 54, 4, 42, 20, 0, 197, 3, 42, 180, 0, 37, 7, 46, 4, 100, 182, 0, 199, 61, 21, 4, 54, 5, 21, 5, 16, 48, 162, 0, 29, 42, 182, 0, 204, 153, 0, 22]
theorem bcX10_personLine_60_ok : z_bys cX10_personLine 60 bcX10_personLine_60 = true := by decide +kernel
def bcX10_personLine_120 : List Nat := [42, 180, 0, 52, 16, 48, 27, 104, 21, 5, 96, 28, 79, 132, 5, 1, 167, 255, 226, 21, 4, 62, 167, 255, 172, 42, 180, 0, 55, 5, 27, 104, 3, 79, 42, 180, 0, 55, 5, 27, 104, 4, 96, 3, 79, 42, 20, 0, 208, 182, 0, 171, 153, 0, 78, 42, 180, 0, 210, 7]
theorem bcX10_personLine_120_ok : z_bys cX10_personLine 120 bcX10_personLine_120 = true := by decide +kernel
def bcX10_personLine_180 : List Nat := [160, 0, 8, 42, 5, 182, 0, 181, 42, 182, 0, 204, 153, 0, 7, 42, 182, 0, 175, 42, 180, 0, 55, 5, 27, 104, 42, 4, 16, 99, 182, 0, 188, 79, 42, 180, 0, 55, 5, 27, 104, 4, 96, 42, 20, 0, 195, 3, 42, 180, 0, 37, 7, 46, 4, 100, 182, 0, 199, 79]
theorem bcX10_personLine_180_ok : z_bys cX10_personLine 180 bcX10_personLine_180 = true := by decide +kernel
def bcX10_personLine_240 : List Nat := [42, 89, 180, 0, 210, 4, 96, 181, 0, 210, 42, 180, 0, 49, 7, 92, 46, 4, 96, 79, 177]
theorem bcX10_personLine_240_ok : z_bys cX10_personLine 240 bcX10_personLine_240 = true := by decide +kernel
theorem dX10_personLine_0 : decode cX10_personLine 0 = .ok (.bipush 40, 2) := zo_16 (z_byk bcX10_personLine_0 0 0 _ bcX10_personLine_0_ok rfl) (z_byk bcX10_personLine_0 0 1 _ bcX10_personLine_0_ok rfl) rfl
theorem dX10_personLine_10 : decode cX10_personLine 10 = .ok (.aload_n 0, 1) := zo_42 (z_byk bcX10_personLine_0 0 10 _ bcX10_personLine_0_ok rfl)
theorem dX10_personLine_101 : decode cX10_personLine 101 = .ok (.istore_n 2, 1) := zo_61 (z_byk bcX10_personLine_60 60 41 _ bcX10_personLine_60_ok rfl)
theorem dX10_personLine_102 : decode cX10_personLine 102 = .ok (.iload 4, 2) := zo_21 (z_byk bcX10_personLine_60 60 42 _ bcX10_personLine_60_ok rfl) (z_byk bcX10_personLine_60 60 43 _ bcX10_personLine_60_ok rfl)
theorem dX10_personLine_104 : decode cX10_personLine 104 = .ok (.istore 5, 2) := zo_54 (z_byk bcX10_personLine_60 60 44 _ bcX10_personLine_60_ok rfl) (z_byk bcX10_personLine_60 60 45 _ bcX10_personLine_60_ok rfl)
theorem dX10_personLine_106 : decode cX10_personLine 106 = .ok (.iload 5, 2) := zo_21 (z_byk bcX10_personLine_60 60 46 _ bcX10_personLine_60_ok rfl) (z_byk bcX10_personLine_60 60 47 _ bcX10_personLine_60_ok rfl)
theorem dX10_personLine_108 : decode cX10_personLine 108 = .ok (.bipush 48, 2) := zo_16 (z_byk bcX10_personLine_60 60 48 _ bcX10_personLine_60_ok rfl) (z_byk bcX10_personLine_60 60 49 _ bcX10_personLine_60_ok rfl) rfl
theorem dX10_personLine_11 : decode cX10_personLine 11 = .ok (.ldc2_w 197, 3) := zo_20 (z_byk bcX10_personLine_0 0 11 _ bcX10_personLine_0_ok rfl) (z_byk bcX10_personLine_0 0 12 _ bcX10_personLine_0_ok rfl) (z_byk bcX10_personLine_0 0 13 _ bcX10_personLine_0_ok rfl) rfl
theorem dX10_personLine_110 : decode cX10_personLine 110 = .ok (.if_icmp .ge 29, 3) := zo_162 (z_byk bcX10_personLine_60 60 50 _ bcX10_personLine_60_ok rfl) (z_byk bcX10_personLine_60 60 51 _ bcX10_personLine_60_ok rfl) (z_byk bcX10_personLine_60 60 52 _ bcX10_personLine_60_ok rfl) rfl
theorem dX10_personLine_113 : decode cX10_personLine 113 = .ok (.aload_n 0, 1) := zo_42 (z_byk bcX10_personLine_60 60 53 _ bcX10_personLine_60_ok rfl)
theorem dX10_personLine_114 : decode cX10_personLine 114 = .ok (.invokevirtual 204, 3) := zo_182 (z_byk bcX10_personLine_60 60 54 _ bcX10_personLine_60_ok rfl) (z_byk bcX10_personLine_60 60 55 _ bcX10_personLine_60_ok rfl) (z_byk bcX10_personLine_60 60 56 _ bcX10_personLine_60_ok rfl) rfl
theorem dX10_personLine_117 : decode cX10_personLine 117 = .ok (.ifCond .eq 22, 3) := zo_153 (z_byk bcX10_personLine_60 60 57 _ bcX10_personLine_60_ok rfl) (z_byk bcX10_personLine_60 60 58 _ bcX10_personLine_60_ok rfl) (z_byk bcX10_personLine_60 60 59 _ bcX10_personLine_60_ok rfl) rfl
theorem dX10_personLine_120 : decode cX10_personLine 120 = .ok (.aload_n 0, 1) := zo_42 (z_byk bcX10_personLine_120 120 0 _ bcX10_personLine_120_ok rfl)
theorem dX10_personLine_121 : decode cX10_personLine 121 = .ok (.getfield 52, 3) := zo_180 (z_byk bcX10_personLine_120 120 1 _ bcX10_personLine_120_ok rfl) (z_byk bcX10_personLine_120 120 2 _ bcX10_personLine_120_ok rfl) (z_byk bcX10_personLine_120 120 3 _ bcX10_personLine_120_ok rfl) rfl
theorem dX10_personLine_124 : decode cX10_personLine 124 = .ok (.bipush 48, 2) := zo_16 (z_byk bcX10_personLine_120 120 4 _ bcX10_personLine_120_ok rfl) (z_byk bcX10_personLine_120 120 5 _ bcX10_personLine_120_ok rfl) rfl
theorem dX10_personLine_126 : decode cX10_personLine 126 = .ok (.iload_n 1, 1) := zo_27 (z_byk bcX10_personLine_120 120 6 _ bcX10_personLine_120_ok rfl)
theorem dX10_personLine_127 : decode cX10_personLine 127 = .ok (.imul, 1) := zo_104 (z_byk bcX10_personLine_120 120 7 _ bcX10_personLine_120_ok rfl)
theorem dX10_personLine_128 : decode cX10_personLine 128 = .ok (.iload 5, 2) := zo_21 (z_byk bcX10_personLine_120 120 8 _ bcX10_personLine_120_ok rfl) (z_byk bcX10_personLine_120 120 9 _ bcX10_personLine_120_ok rfl)
theorem dX10_personLine_130 : decode cX10_personLine 130 = .ok (.iadd, 1) := zo_96 (z_byk bcX10_personLine_120 120 10 _ bcX10_personLine_120_ok rfl)
theorem dX10_personLine_131 : decode cX10_personLine 131 = .ok (.iload_n 2, 1) := zo_28 (z_byk bcX10_personLine_120 120 11 _ bcX10_personLine_120_ok rfl)
theorem dX10_personLine_132 : decode cX10_personLine 132 = .ok (.iastore, 1) := zo_79 (z_byk bcX10_personLine_120 120 12 _ bcX10_personLine_120_ok rfl)
theorem dX10_personLine_133 : decode cX10_personLine 133 = .ok (.iinc 5 1, 3) := zo_132 (z_byk bcX10_personLine_120 120 13 _ bcX10_personLine_120_ok rfl) (z_byk bcX10_personLine_120 120 14 _ bcX10_personLine_120_ok rfl) (z_byk bcX10_personLine_120 120 15 _ bcX10_personLine_120_ok rfl) rfl
theorem dX10_personLine_136 : decode cX10_personLine 136 = .ok (.goto (-30), 3) := zo_167 (z_byk bcX10_personLine_120 120 16 _ bcX10_personLine_120_ok rfl) (z_byk bcX10_personLine_120 120 17 _ bcX10_personLine_120_ok rfl) (z_byk bcX10_personLine_120 120 18 _ bcX10_personLine_120_ok rfl) rfl
theorem dX10_personLine_139 : decode cX10_personLine 139 = .ok (.iload 4, 2) := zo_21 (z_byk bcX10_personLine_120 120 19 _ bcX10_personLine_120_ok rfl) (z_byk bcX10_personLine_120 120 20 _ bcX10_personLine_120_ok rfl)
theorem dX10_personLine_14 : decode cX10_personLine 14 = .ok (.iconst 0, 1) := zo_3 (z_byk bcX10_personLine_0 0 14 _ bcX10_personLine_0_ok rfl)
theorem dX10_personLine_141 : decode cX10_personLine 141 = .ok (.istore_n 3, 1) := zo_62 (z_byk bcX10_personLine_120 120 21 _ bcX10_personLine_120_ok rfl)
theorem dX10_personLine_142 : decode cX10_personLine 142 = .ok (.goto (-84), 3) := zo_167 (z_byk bcX10_personLine_120 120 22 _ bcX10_personLine_120_ok rfl) (z_byk bcX10_personLine_120 120 23 _ bcX10_personLine_120_ok rfl) (z_byk bcX10_personLine_120 120 24 _ bcX10_personLine_120_ok rfl) rfl
theorem dX10_personLine_145 : decode cX10_personLine 145 = .ok (.aload_n 0, 1) := zo_42 (z_byk bcX10_personLine_120 120 25 _ bcX10_personLine_120_ok rfl)
theorem dX10_personLine_146 : decode cX10_personLine 146 = .ok (.getfield 55, 3) := zo_180 (z_byk bcX10_personLine_120 120 26 _ bcX10_personLine_120_ok rfl) (z_byk bcX10_personLine_120 120 27 _ bcX10_personLine_120_ok rfl) (z_byk bcX10_personLine_120 120 28 _ bcX10_personLine_120_ok rfl) rfl
theorem dX10_personLine_149 : decode cX10_personLine 149 = .ok (.iconst 2, 1) := zo_5 (z_byk bcX10_personLine_120 120 29 _ bcX10_personLine_120_ok rfl)
theorem dX10_personLine_15 : decode cX10_personLine 15 = .ok (.aload_n 0, 1) := zo_42 (z_byk bcX10_personLine_0 0 15 _ bcX10_personLine_0_ok rfl)
theorem dX10_personLine_150 : decode cX10_personLine 150 = .ok (.iload_n 1, 1) := zo_27 (z_byk bcX10_personLine_120 120 30 _ bcX10_personLine_120_ok rfl)
theorem dX10_personLine_151 : decode cX10_personLine 151 = .ok (.imul, 1) := zo_104 (z_byk bcX10_personLine_120 120 31 _ bcX10_personLine_120_ok rfl)
theorem dX10_personLine_152 : decode cX10_personLine 152 = .ok (.iconst 0, 1) := zo_3 (z_byk bcX10_personLine_120 120 32 _ bcX10_personLine_120_ok rfl)
theorem dX10_personLine_153 : decode cX10_personLine 153 = .ok (.iastore, 1) := zo_79 (z_byk bcX10_personLine_120 120 33 _ bcX10_personLine_120_ok rfl)
theorem dX10_personLine_154 : decode cX10_personLine 154 = .ok (.aload_n 0, 1) := zo_42 (z_byk bcX10_personLine_120 120 34 _ bcX10_personLine_120_ok rfl)
theorem dX10_personLine_155 : decode cX10_personLine 155 = .ok (.getfield 55, 3) := zo_180 (z_byk bcX10_personLine_120 120 35 _ bcX10_personLine_120_ok rfl) (z_byk bcX10_personLine_120 120 36 _ bcX10_personLine_120_ok rfl) (z_byk bcX10_personLine_120 120 37 _ bcX10_personLine_120_ok rfl) rfl
theorem dX10_personLine_158 : decode cX10_personLine 158 = .ok (.iconst 2, 1) := zo_5 (z_byk bcX10_personLine_120 120 38 _ bcX10_personLine_120_ok rfl)
theorem dX10_personLine_159 : decode cX10_personLine 159 = .ok (.iload_n 1, 1) := zo_27 (z_byk bcX10_personLine_120 120 39 _ bcX10_personLine_120_ok rfl)
theorem dX10_personLine_16 : decode cX10_personLine 16 = .ok (.getfield 37, 3) := zo_180 (z_byk bcX10_personLine_0 0 16 _ bcX10_personLine_0_ok rfl) (z_byk bcX10_personLine_0 0 17 _ bcX10_personLine_0_ok rfl) (z_byk bcX10_personLine_0 0 18 _ bcX10_personLine_0_ok rfl) rfl
theorem dX10_personLine_160 : decode cX10_personLine 160 = .ok (.imul, 1) := zo_104 (z_byk bcX10_personLine_120 120 40 _ bcX10_personLine_120_ok rfl)
theorem dX10_personLine_161 : decode cX10_personLine 161 = .ok (.iconst 1, 1) := zo_4 (z_byk bcX10_personLine_120 120 41 _ bcX10_personLine_120_ok rfl)
theorem dX10_personLine_162 : decode cX10_personLine 162 = .ok (.iadd, 1) := zo_96 (z_byk bcX10_personLine_120 120 42 _ bcX10_personLine_120_ok rfl)
theorem dX10_personLine_163 : decode cX10_personLine 163 = .ok (.iconst 0, 1) := zo_3 (z_byk bcX10_personLine_120 120 43 _ bcX10_personLine_120_ok rfl)
theorem dX10_personLine_164 : decode cX10_personLine 164 = .ok (.iastore, 1) := zo_79 (z_byk bcX10_personLine_120 120 44 _ bcX10_personLine_120_ok rfl)
theorem dX10_personLine_165 : decode cX10_personLine 165 = .ok (.aload_n 0, 1) := zo_42 (z_byk bcX10_personLine_120 120 45 _ bcX10_personLine_120_ok rfl)
theorem dX10_personLine_166 : decode cX10_personLine 166 = .ok (.ldc2_w 208, 3) := zo_20 (z_byk bcX10_personLine_120 120 46 _ bcX10_personLine_120_ok rfl) (z_byk bcX10_personLine_120 120 47 _ bcX10_personLine_120_ok rfl) (z_byk bcX10_personLine_120 120 48 _ bcX10_personLine_120_ok rfl) rfl
theorem dX10_personLine_169 : decode cX10_personLine 169 = .ok (.invokevirtual 171, 3) := zo_182 (z_byk bcX10_personLine_120 120 49 _ bcX10_personLine_120_ok rfl) (z_byk bcX10_personLine_120 120 50 _ bcX10_personLine_120_ok rfl) (z_byk bcX10_personLine_120 120 51 _ bcX10_personLine_120_ok rfl) rfl
theorem dX10_personLine_172 : decode cX10_personLine 172 = .ok (.ifCond .eq 78, 3) := zo_153 (z_byk bcX10_personLine_120 120 52 _ bcX10_personLine_120_ok rfl) (z_byk bcX10_personLine_120 120 53 _ bcX10_personLine_120_ok rfl) (z_byk bcX10_personLine_120 120 54 _ bcX10_personLine_120_ok rfl) rfl
theorem dX10_personLine_175 : decode cX10_personLine 175 = .ok (.aload_n 0, 1) := zo_42 (z_byk bcX10_personLine_120 120 55 _ bcX10_personLine_120_ok rfl)
theorem dX10_personLine_176 : decode cX10_personLine 176 = .ok (.getfield 210, 3) := zo_180 (z_byk bcX10_personLine_120 120 56 _ bcX10_personLine_120_ok rfl) (z_byk bcX10_personLine_120 120 57 _ bcX10_personLine_120_ok rfl) (z_byk bcX10_personLine_120 120 58 _ bcX10_personLine_120_ok rfl) rfl
theorem dX10_personLine_179 : decode cX10_personLine 179 = .ok (.iconst 4, 1) := zo_7 (z_byk bcX10_personLine_120 120 59 _ bcX10_personLine_120_ok rfl)
theorem dX10_personLine_180 : decode cX10_personLine 180 = .ok (.if_icmp .ne 8, 3) := zo_160 (z_byk bcX10_personLine_180 180 0 _ bcX10_personLine_180_ok rfl) (z_byk bcX10_personLine_180 180 1 _ bcX10_personLine_180_ok rfl) (z_byk bcX10_personLine_180 180 2 _ bcX10_personLine_180_ok rfl) rfl
theorem dX10_personLine_183 : decode cX10_personLine 183 = .ok (.aload_n 0, 1) := zo_42 (z_byk bcX10_personLine_180 180 3 _ bcX10_personLine_180_ok rfl)
theorem dX10_personLine_184 : decode cX10_personLine 184 = .ok (.iconst 2, 1) := zo_5 (z_byk bcX10_personLine_180 180 4 _ bcX10_personLine_180_ok rfl)
theorem dX10_personLine_185 : decode cX10_personLine 185 = .ok (.invokevirtual 181, 3) := zo_182 (z_byk bcX10_personLine_180 180 5 _ bcX10_personLine_180_ok rfl) (z_byk bcX10_personLine_180 180 6 _ bcX10_personLine_180_ok rfl) (z_byk bcX10_personLine_180 180 7 _ bcX10_personLine_180_ok rfl) rfl
theorem dX10_personLine_188 : decode cX10_personLine 188 = .ok (.aload_n 0, 1) := zo_42 (z_byk bcX10_personLine_180 180 8 _ bcX10_personLine_180_ok rfl)
theorem dX10_personLine_189 : decode cX10_personLine 189 = .ok (.invokevirtual 204, 3) := zo_182 (z_byk bcX10_personLine_180 180 9 _ bcX10_personLine_180_ok rfl) (z_byk bcX10_personLine_180 180 10 _ bcX10_personLine_180_ok rfl) (z_byk bcX10_personLine_180 180 11 _ bcX10_personLine_180_ok rfl) rfl
theorem dX10_personLine_19 : decode cX10_personLine 19 = .ok (.iconst 4, 1) := zo_7 (z_byk bcX10_personLine_0 0 19 _ bcX10_personLine_0_ok rfl)
theorem dX10_personLine_192 : decode cX10_personLine 192 = .ok (.ifCond .eq 7, 3) := zo_153 (z_byk bcX10_personLine_180 180 12 _ bcX10_personLine_180_ok rfl) (z_byk bcX10_personLine_180 180 13 _ bcX10_personLine_180_ok rfl) (z_byk bcX10_personLine_180 180 14 _ bcX10_personLine_180_ok rfl) rfl
theorem dX10_personLine_195 : decode cX10_personLine 195 = .ok (.aload_n 0, 1) := zo_42 (z_byk bcX10_personLine_180 180 15 _ bcX10_personLine_180_ok rfl)
theorem dX10_personLine_196 : decode cX10_personLine 196 = .ok (.invokevirtual 175, 3) := zo_182 (z_byk bcX10_personLine_180 180 16 _ bcX10_personLine_180_ok rfl) (z_byk bcX10_personLine_180 180 17 _ bcX10_personLine_180_ok rfl) (z_byk bcX10_personLine_180 180 18 _ bcX10_personLine_180_ok rfl) rfl
theorem dX10_personLine_199 : decode cX10_personLine 199 = .ok (.aload_n 0, 1) := zo_42 (z_byk bcX10_personLine_180 180 19 _ bcX10_personLine_180_ok rfl)
theorem dX10_personLine_2 : decode cX10_personLine 2 = .ok (.aload_n 0, 1) := zo_42 (z_byk bcX10_personLine_0 0 2 _ bcX10_personLine_0_ok rfl)
theorem dX10_personLine_20 : decode cX10_personLine 20 = .ok (.iaload, 1) := zo_46 (z_byk bcX10_personLine_0 0 20 _ bcX10_personLine_0_ok rfl)
theorem dX10_personLine_200 : decode cX10_personLine 200 = .ok (.getfield 55, 3) := zo_180 (z_byk bcX10_personLine_180 180 20 _ bcX10_personLine_180_ok rfl) (z_byk bcX10_personLine_180 180 21 _ bcX10_personLine_180_ok rfl) (z_byk bcX10_personLine_180 180 22 _ bcX10_personLine_180_ok rfl) rfl
theorem dX10_personLine_203 : decode cX10_personLine 203 = .ok (.iconst 2, 1) := zo_5 (z_byk bcX10_personLine_180 180 23 _ bcX10_personLine_180_ok rfl)
theorem dX10_personLine_204 : decode cX10_personLine 204 = .ok (.iload_n 1, 1) := zo_27 (z_byk bcX10_personLine_180 180 24 _ bcX10_personLine_180_ok rfl)
theorem dX10_personLine_205 : decode cX10_personLine 205 = .ok (.imul, 1) := zo_104 (z_byk bcX10_personLine_180 180 25 _ bcX10_personLine_180_ok rfl)
theorem dX10_personLine_206 : decode cX10_personLine 206 = .ok (.aload_n 0, 1) := zo_42 (z_byk bcX10_personLine_180 180 26 _ bcX10_personLine_180_ok rfl)
theorem dX10_personLine_207 : decode cX10_personLine 207 = .ok (.iconst 1, 1) := zo_4 (z_byk bcX10_personLine_180 180 27 _ bcX10_personLine_180_ok rfl)
theorem dX10_personLine_208 : decode cX10_personLine 208 = .ok (.bipush 99, 2) := zo_16 (z_byk bcX10_personLine_180 180 28 _ bcX10_personLine_180_ok rfl) (z_byk bcX10_personLine_180 180 29 _ bcX10_personLine_180_ok rfl) rfl
theorem dX10_personLine_21 : decode cX10_personLine 21 = .ok (.iconst 1, 1) := zo_4 (z_byk bcX10_personLine_0 0 21 _ bcX10_personLine_0_ok rfl)
theorem dX10_personLine_210 : decode cX10_personLine 210 = .ok (.invokevirtual 188, 3) := zo_182 (z_byk bcX10_personLine_180 180 30 _ bcX10_personLine_180_ok rfl) (z_byk bcX10_personLine_180 180 31 _ bcX10_personLine_180_ok rfl) (z_byk bcX10_personLine_180 180 32 _ bcX10_personLine_180_ok rfl) rfl
theorem dX10_personLine_213 : decode cX10_personLine 213 = .ok (.iastore, 1) := zo_79 (z_byk bcX10_personLine_180 180 33 _ bcX10_personLine_180_ok rfl)
theorem dX10_personLine_214 : decode cX10_personLine 214 = .ok (.aload_n 0, 1) := zo_42 (z_byk bcX10_personLine_180 180 34 _ bcX10_personLine_180_ok rfl)
theorem dX10_personLine_215 : decode cX10_personLine 215 = .ok (.getfield 55, 3) := zo_180 (z_byk bcX10_personLine_180 180 35 _ bcX10_personLine_180_ok rfl) (z_byk bcX10_personLine_180 180 36 _ bcX10_personLine_180_ok rfl) (z_byk bcX10_personLine_180 180 37 _ bcX10_personLine_180_ok rfl) rfl
theorem dX10_personLine_218 : decode cX10_personLine 218 = .ok (.iconst 2, 1) := zo_5 (z_byk bcX10_personLine_180 180 38 _ bcX10_personLine_180_ok rfl)
theorem dX10_personLine_219 : decode cX10_personLine 219 = .ok (.iload_n 1, 1) := zo_27 (z_byk bcX10_personLine_180 180 39 _ bcX10_personLine_180_ok rfl)
theorem dX10_personLine_22 : decode cX10_personLine 22 = .ok (.isub, 1) := zo_100 (z_byk bcX10_personLine_0 0 22 _ bcX10_personLine_0_ok rfl)
theorem dX10_personLine_220 : decode cX10_personLine 220 = .ok (.imul, 1) := zo_104 (z_byk bcX10_personLine_180 180 40 _ bcX10_personLine_180_ok rfl)
theorem dX10_personLine_221 : decode cX10_personLine 221 = .ok (.iconst 1, 1) := zo_4 (z_byk bcX10_personLine_180 180 41 _ bcX10_personLine_180_ok rfl)
theorem dX10_personLine_222 : decode cX10_personLine 222 = .ok (.iadd, 1) := zo_96 (z_byk bcX10_personLine_180 180 42 _ bcX10_personLine_180_ok rfl)
theorem dX10_personLine_223 : decode cX10_personLine 223 = .ok (.aload_n 0, 1) := zo_42 (z_byk bcX10_personLine_180 180 43 _ bcX10_personLine_180_ok rfl)
theorem dX10_personLine_224 : decode cX10_personLine 224 = .ok (.ldc2_w 195, 3) := zo_20 (z_byk bcX10_personLine_180 180 44 _ bcX10_personLine_180_ok rfl) (z_byk bcX10_personLine_180 180 45 _ bcX10_personLine_180_ok rfl) (z_byk bcX10_personLine_180 180 46 _ bcX10_personLine_180_ok rfl) rfl
theorem dX10_personLine_227 : decode cX10_personLine 227 = .ok (.iconst 0, 1) := zo_3 (z_byk bcX10_personLine_180 180 47 _ bcX10_personLine_180_ok rfl)
theorem dX10_personLine_228 : decode cX10_personLine 228 = .ok (.aload_n 0, 1) := zo_42 (z_byk bcX10_personLine_180 180 48 _ bcX10_personLine_180_ok rfl)
theorem dX10_personLine_229 : decode cX10_personLine 229 = .ok (.getfield 37, 3) := zo_180 (z_byk bcX10_personLine_180 180 49 _ bcX10_personLine_180_ok rfl) (z_byk bcX10_personLine_180 180 50 _ bcX10_personLine_180_ok rfl) (z_byk bcX10_personLine_180 180 51 _ bcX10_personLine_180_ok rfl) rfl
theorem dX10_personLine_23 : decode cX10_personLine 23 = .ok (.invokevirtual 199, 3) := zo_182 (z_byk bcX10_personLine_0 0 23 _ bcX10_personLine_0_ok rfl) (z_byk bcX10_personLine_0 0 24 _ bcX10_personLine_0_ok rfl) (z_byk bcX10_personLine_0 0 25 _ bcX10_personLine_0_ok rfl) rfl
theorem dX10_personLine_232 : decode cX10_personLine 232 = .ok (.iconst 4, 1) := zo_7 (z_byk bcX10_personLine_180 180 52 _ bcX10_personLine_180_ok rfl)
theorem dX10_personLine_233 : decode cX10_personLine 233 = .ok (.iaload, 1) := zo_46 (z_byk bcX10_personLine_180 180 53 _ bcX10_personLine_180_ok rfl)
theorem dX10_personLine_234 : decode cX10_personLine 234 = .ok (.iconst 1, 1) := zo_4 (z_byk bcX10_personLine_180 180 54 _ bcX10_personLine_180_ok rfl)
theorem dX10_personLine_235 : decode cX10_personLine 235 = .ok (.isub, 1) := zo_100 (z_byk bcX10_personLine_180 180 55 _ bcX10_personLine_180_ok rfl)
theorem dX10_personLine_236 : decode cX10_personLine 236 = .ok (.invokevirtual 199, 3) := zo_182 (z_byk bcX10_personLine_180 180 56 _ bcX10_personLine_180_ok rfl) (z_byk bcX10_personLine_180 180 57 _ bcX10_personLine_180_ok rfl) (z_byk bcX10_personLine_180 180 58 _ bcX10_personLine_180_ok rfl) rfl
theorem dX10_personLine_239 : decode cX10_personLine 239 = .ok (.iastore, 1) := zo_79 (z_byk bcX10_personLine_180 180 59 _ bcX10_personLine_180_ok rfl)
theorem dX10_personLine_240 : decode cX10_personLine 240 = .ok (.aload_n 0, 1) := zo_42 (z_byk bcX10_personLine_240 240 0 _ bcX10_personLine_240_ok rfl)
theorem dX10_personLine_241 : decode cX10_personLine 241 = .ok (.dup, 1) := zo_89 (z_byk bcX10_personLine_240 240 1 _ bcX10_personLine_240_ok rfl)
theorem dX10_personLine_242 : decode cX10_personLine 242 = .ok (.getfield 210, 3) := zo_180 (z_byk bcX10_personLine_240 240 2 _ bcX10_personLine_240_ok rfl) (z_byk bcX10_personLine_240 240 3 _ bcX10_personLine_240_ok rfl) (z_byk bcX10_personLine_240 240 4 _ bcX10_personLine_240_ok rfl) rfl
theorem dX10_personLine_245 : decode cX10_personLine 245 = .ok (.iconst 1, 1) := zo_4 (z_byk bcX10_personLine_240 240 5 _ bcX10_personLine_240_ok rfl)
theorem dX10_personLine_246 : decode cX10_personLine 246 = .ok (.iadd, 1) := zo_96 (z_byk bcX10_personLine_240 240 6 _ bcX10_personLine_240_ok rfl)
theorem dX10_personLine_247 : decode cX10_personLine 247 = .ok (.putfield 210, 3) := zo_181 (z_byk bcX10_personLine_240 240 7 _ bcX10_personLine_240_ok rfl) (z_byk bcX10_personLine_240 240 8 _ bcX10_personLine_240_ok rfl) (z_byk bcX10_personLine_240 240 9 _ bcX10_personLine_240_ok rfl) rfl
theorem dX10_personLine_250 : decode cX10_personLine 250 = .ok (.aload_n 0, 1) := zo_42 (z_byk bcX10_personLine_240 240 10 _ bcX10_personLine_240_ok rfl)
theorem dX10_personLine_251 : decode cX10_personLine 251 = .ok (.getfield 49, 3) := zo_180 (z_byk bcX10_personLine_240 240 11 _ bcX10_personLine_240_ok rfl) (z_byk bcX10_personLine_240 240 12 _ bcX10_personLine_240_ok rfl) (z_byk bcX10_personLine_240 240 13 _ bcX10_personLine_240_ok rfl) rfl
theorem dX10_personLine_254 : decode cX10_personLine 254 = .ok (.iconst 4, 1) := zo_7 (z_byk bcX10_personLine_240 240 14 _ bcX10_personLine_240_ok rfl)
theorem dX10_personLine_255 : decode cX10_personLine 255 = .ok (.dup2, 1) := zo_92 (z_byk bcX10_personLine_240 240 15 _ bcX10_personLine_240_ok rfl)
theorem dX10_personLine_256 : decode cX10_personLine 256 = .ok (.iaload, 1) := zo_46 (z_byk bcX10_personLine_240 240 16 _ bcX10_personLine_240_ok rfl)
theorem dX10_personLine_257 : decode cX10_personLine 257 = .ok (.iconst 1, 1) := zo_4 (z_byk bcX10_personLine_240 240 17 _ bcX10_personLine_240_ok rfl)
theorem dX10_personLine_258 : decode cX10_personLine 258 = .ok (.iadd, 1) := zo_96 (z_byk bcX10_personLine_240 240 18 _ bcX10_personLine_240_ok rfl)
theorem dX10_personLine_259 : decode cX10_personLine 259 = .ok (.iastore, 1) := zo_79 (z_byk bcX10_personLine_240 240 19 _ bcX10_personLine_240_ok rfl)
theorem dX10_personLine_26 : decode cX10_personLine 26 = .ok (.istore_n 2, 1) := zo_61 (z_byk bcX10_personLine_0 0 26 _ bcX10_personLine_0_ok rfl)
theorem dX10_personLine_260 : decode cX10_personLine 260 = .ok (.return_, 1) := zo_177 (z_byk bcX10_personLine_240 240 20 _ bcX10_personLine_240_ok rfl)
theorem dX10_personLine_27 : decode cX10_personLine 27 = .ok (.iconst 0, 1) := zo_3 (z_byk bcX10_personLine_0 0 27 _ bcX10_personLine_0_ok rfl)
theorem dX10_personLine_28 : decode cX10_personLine 28 = .ok (.istore_n 3, 1) := zo_62 (z_byk bcX10_personLine_0 0 28 _ bcX10_personLine_0_ok rfl)
theorem dX10_personLine_29 : decode cX10_personLine 29 = .ok (.iconst 0, 1) := zo_3 (z_byk bcX10_personLine_0 0 29 _ bcX10_personLine_0_ok rfl)
theorem dX10_personLine_3 : decode cX10_personLine 3 = .ok (.getfield 49, 3) := zo_180 (z_byk bcX10_personLine_0 0 3 _ bcX10_personLine_0_ok rfl) (z_byk bcX10_personLine_0 0 4 _ bcX10_personLine_0_ok rfl) (z_byk bcX10_personLine_0 0 5 _ bcX10_personLine_0_ok rfl) rfl
theorem dX10_personLine_30 : decode cX10_personLine 30 = .ok (.istore 4, 2) := zo_54 (z_byk bcX10_personLine_0 0 30 _ bcX10_personLine_0_ok rfl) (z_byk bcX10_personLine_0 0 31 _ bcX10_personLine_0_ok rfl)
theorem dX10_personLine_32 : decode cX10_personLine 32 = .ok (.iload 4, 2) := zo_21 (z_byk bcX10_personLine_0 0 32 _ bcX10_personLine_0_ok rfl) (z_byk bcX10_personLine_0 0 33 _ bcX10_personLine_0_ok rfl)
theorem dX10_personLine_34 : decode cX10_personLine 34 = .ok (.bipush 48, 2) := zo_16 (z_byk bcX10_personLine_0 0 34 _ bcX10_personLine_0_ok rfl) (z_byk bcX10_personLine_0 0 35 _ bcX10_personLine_0_ok rfl) rfl
theorem dX10_personLine_36 : decode cX10_personLine 36 = .ok (.if_icmp .ge 22, 3) := zo_162 (z_byk bcX10_personLine_0 0 36 _ bcX10_personLine_0_ok rfl) (z_byk bcX10_personLine_0 0 37 _ bcX10_personLine_0_ok rfl) (z_byk bcX10_personLine_0 0 38 _ bcX10_personLine_0_ok rfl) rfl
theorem dX10_personLine_39 : decode cX10_personLine 39 = .ok (.aload_n 0, 1) := zo_42 (z_byk bcX10_personLine_0 0 39 _ bcX10_personLine_0_ok rfl)
theorem dX10_personLine_40 : decode cX10_personLine 40 = .ok (.getfield 52, 3) := zo_180 (z_byk bcX10_personLine_0 0 40 _ bcX10_personLine_0_ok rfl) (z_byk bcX10_personLine_0 0 41 _ bcX10_personLine_0_ok rfl) (z_byk bcX10_personLine_0 0 42 _ bcX10_personLine_0_ok rfl) rfl
theorem dX10_personLine_43 : decode cX10_personLine 43 = .ok (.bipush 48, 2) := zo_16 (z_byk bcX10_personLine_0 0 43 _ bcX10_personLine_0_ok rfl) (z_byk bcX10_personLine_0 0 44 _ bcX10_personLine_0_ok rfl) rfl
theorem dX10_personLine_45 : decode cX10_personLine 45 = .ok (.iload_n 1, 1) := zo_27 (z_byk bcX10_personLine_0 0 45 _ bcX10_personLine_0_ok rfl)
theorem dX10_personLine_46 : decode cX10_personLine 46 = .ok (.imul, 1) := zo_104 (z_byk bcX10_personLine_0 0 46 _ bcX10_personLine_0_ok rfl)
theorem dX10_personLine_47 : decode cX10_personLine 47 = .ok (.iload 4, 2) := zo_21 (z_byk bcX10_personLine_0 0 47 _ bcX10_personLine_0_ok rfl) (z_byk bcX10_personLine_0 0 48 _ bcX10_personLine_0_ok rfl)
theorem dX10_personLine_49 : decode cX10_personLine 49 = .ok (.iadd, 1) := zo_96 (z_byk bcX10_personLine_0 0 49 _ bcX10_personLine_0_ok rfl)
theorem dX10_personLine_50 : decode cX10_personLine 50 = .ok (.iload_n 2, 1) := zo_28 (z_byk bcX10_personLine_0 0 50 _ bcX10_personLine_0_ok rfl)
theorem dX10_personLine_51 : decode cX10_personLine 51 = .ok (.iastore, 1) := zo_79 (z_byk bcX10_personLine_0 0 51 _ bcX10_personLine_0_ok rfl)
theorem dX10_personLine_52 : decode cX10_personLine 52 = .ok (.iinc 4 1, 3) := zo_132 (z_byk bcX10_personLine_0 0 52 _ bcX10_personLine_0_ok rfl) (z_byk bcX10_personLine_0 0 53 _ bcX10_personLine_0_ok rfl) (z_byk bcX10_personLine_0 0 54 _ bcX10_personLine_0_ok rfl) rfl
theorem dX10_personLine_55 : decode cX10_personLine 55 = .ok (.goto (-23), 3) := zo_167 (z_byk bcX10_personLine_0 0 55 _ bcX10_personLine_0_ok rfl) (z_byk bcX10_personLine_0 0 56 _ bcX10_personLine_0_ok rfl) (z_byk bcX10_personLine_0 0 57 _ bcX10_personLine_0_ok rfl) rfl
theorem dX10_personLine_58 : decode cX10_personLine 58 = .ok (.aload_n 0, 1) := zo_42 (z_byk bcX10_personLine_0 0 58 _ bcX10_personLine_0_ok rfl)
theorem dX10_personLine_59 : decode cX10_personLine 59 = .ok (.ldc2_w 202, 3) := zo_20 (z_byk bcX10_personLine_0 0 59 _ bcX10_personLine_0_ok rfl) (z_byk bcX10_personLine_60 60 0 _ bcX10_personLine_60_ok rfl) (z_byk bcX10_personLine_60 60 1 _ bcX10_personLine_60_ok rfl) rfl
theorem dX10_personLine_6 : decode cX10_personLine 6 = .ok (.iconst 4, 1) := zo_7 (z_byk bcX10_personLine_0 0 6 _ bcX10_personLine_0_ok rfl)
theorem dX10_personLine_62 : decode cX10_personLine 62 = .ok (.invokevirtual 178, 3) := zo_182 (z_byk bcX10_personLine_60 60 2 _ bcX10_personLine_60_ok rfl) (z_byk bcX10_personLine_60 60 3 _ bcX10_personLine_60_ok rfl) (z_byk bcX10_personLine_60 60 4 _ bcX10_personLine_60_ok rfl) rfl
theorem dX10_personLine_65 : decode cX10_personLine 65 = .ok (.ifCond .eq 80, 3) := zo_153 (z_byk bcX10_personLine_60 60 5 _ bcX10_personLine_60_ok rfl) (z_byk bcX10_personLine_60 60 6 _ bcX10_personLine_60_ok rfl) (z_byk bcX10_personLine_60 60 7 _ bcX10_personLine_60_ok rfl) rfl
theorem dX10_personLine_68 : decode cX10_personLine 68 = .ok (.aload_n 0, 1) := zo_42 (z_byk bcX10_personLine_60 60 8 _ bcX10_personLine_60_ok rfl)
theorem dX10_personLine_69 : decode cX10_personLine 69 = .ok (.iload_n 3, 1) := zo_29 (z_byk bcX10_personLine_60 60 9 _ bcX10_personLine_60_ok rfl)
theorem dX10_personLine_7 : decode cX10_personLine 7 = .ok (.iaload, 1) := zo_46 (z_byk bcX10_personLine_0 0 7 _ bcX10_personLine_0_ok rfl)
theorem dX10_personLine_70 : decode cX10_personLine 70 = .ok (.iconst 1, 1) := zo_4 (z_byk bcX10_personLine_60 60 10 _ bcX10_personLine_60_ok rfl)
theorem dX10_personLine_71 : decode cX10_personLine 71 = .ok (.iadd, 1) := zo_96 (z_byk bcX10_personLine_60 60 11 _ bcX10_personLine_60_ok rfl)
theorem dX10_personLine_72 : decode cX10_personLine 72 = .ok (.aload_n 0, 1) := zo_42 (z_byk bcX10_personLine_60 60 12 _ bcX10_personLine_60_ok rfl)
theorem dX10_personLine_73 : decode cX10_personLine 73 = .ok (.getfield 34, 3) := zo_180 (z_byk bcX10_personLine_60 60 13 _ bcX10_personLine_60_ok rfl) (z_byk bcX10_personLine_60 60 14 _ bcX10_personLine_60_ok rfl) (z_byk bcX10_personLine_60 60 15 _ bcX10_personLine_60_ok rfl) rfl
theorem dX10_personLine_76 : decode cX10_personLine 76 = .ok (.iconst 4, 1) := zo_7 (z_byk bcX10_personLine_60 60 16 _ bcX10_personLine_60_ok rfl)
theorem dX10_personLine_77 : decode cX10_personLine 77 = .ok (.iaload, 1) := zo_46 (z_byk bcX10_personLine_60 60 17 _ bcX10_personLine_60_ok rfl)
theorem dX10_personLine_78 : decode cX10_personLine 78 = .ok (.iconst 1, 1) := zo_4 (z_byk bcX10_personLine_60 60 18 _ bcX10_personLine_60_ok rfl)
theorem dX10_personLine_79 : decode cX10_personLine 79 = .ok (.isub, 1) := zo_100 (z_byk bcX10_personLine_60 60 19 _ bcX10_personLine_60_ok rfl)
theorem dX10_personLine_8 : decode cX10_personLine 8 = .ok (.iadd, 1) := zo_96 (z_byk bcX10_personLine_0 0 8 _ bcX10_personLine_0_ok rfl)
theorem dX10_personLine_80 : decode cX10_personLine 80 = .ok (.invokevirtual 188, 3) := zo_182 (z_byk bcX10_personLine_60 60 20 _ bcX10_personLine_60_ok rfl) (z_byk bcX10_personLine_60 60 21 _ bcX10_personLine_60_ok rfl) (z_byk bcX10_personLine_60 60 22 _ bcX10_personLine_60_ok rfl) rfl
theorem dX10_personLine_83 : decode cX10_personLine 83 = .ok (.istore 4, 2) := zo_54 (z_byk bcX10_personLine_60 60 23 _ bcX10_personLine_60_ok rfl) (z_byk bcX10_personLine_60 60 24 _ bcX10_personLine_60_ok rfl)
theorem dX10_personLine_85 : decode cX10_personLine 85 = .ok (.aload_n 0, 1) := zo_42 (z_byk bcX10_personLine_60 60 25 _ bcX10_personLine_60_ok rfl)
theorem dX10_personLine_86 : decode cX10_personLine 86 = .ok (.ldc2_w 197, 3) := zo_20 (z_byk bcX10_personLine_60 60 26 _ bcX10_personLine_60_ok rfl) (z_byk bcX10_personLine_60 60 27 _ bcX10_personLine_60_ok rfl) (z_byk bcX10_personLine_60 60 28 _ bcX10_personLine_60_ok rfl) rfl
theorem dX10_personLine_89 : decode cX10_personLine 89 = .ok (.iconst 0, 1) := zo_3 (z_byk bcX10_personLine_60 60 29 _ bcX10_personLine_60_ok rfl)
theorem dX10_personLine_9 : decode cX10_personLine 9 = .ok (.istore_n 1, 1) := zo_60 (z_byk bcX10_personLine_0 0 9 _ bcX10_personLine_0_ok rfl)
theorem dX10_personLine_90 : decode cX10_personLine 90 = .ok (.aload_n 0, 1) := zo_42 (z_byk bcX10_personLine_60 60 30 _ bcX10_personLine_60_ok rfl)
theorem dX10_personLine_91 : decode cX10_personLine 91 = .ok (.getfield 37, 3) := zo_180 (z_byk bcX10_personLine_60 60 31 _ bcX10_personLine_60_ok rfl) (z_byk bcX10_personLine_60 60 32 _ bcX10_personLine_60_ok rfl) (z_byk bcX10_personLine_60 60 33 _ bcX10_personLine_60_ok rfl) rfl
theorem dX10_personLine_94 : decode cX10_personLine 94 = .ok (.iconst 4, 1) := zo_7 (z_byk bcX10_personLine_60 60 34 _ bcX10_personLine_60_ok rfl)
theorem dX10_personLine_95 : decode cX10_personLine 95 = .ok (.iaload, 1) := zo_46 (z_byk bcX10_personLine_60 60 35 _ bcX10_personLine_60_ok rfl)
theorem dX10_personLine_96 : decode cX10_personLine 96 = .ok (.iconst 1, 1) := zo_4 (z_byk bcX10_personLine_60 60 36 _ bcX10_personLine_60_ok rfl)
theorem dX10_personLine_97 : decode cX10_personLine 97 = .ok (.isub, 1) := zo_100 (z_byk bcX10_personLine_60 60 37 _ bcX10_personLine_60_ok rfl)
theorem dX10_personLine_98 : decode cX10_personLine 98 = .ok (.invokevirtual 199, 3) := zo_182 (z_byk bcX10_personLine_60 60 38 _ bcX10_personLine_60_ok rfl) (z_byk bcX10_personLine_60 60 39 _ bcX10_personLine_60_ok rfl) (z_byk bcX10_personLine_60 60 40 _ bcX10_personLine_60_ok rfl) rfl
