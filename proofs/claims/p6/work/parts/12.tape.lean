set_option linter.all false
theorem zw_s1_0 : Cond.selects RX9 yX9_putFour yX9_putFour ∈ zT := zs_1 (List.mem_of_getElem? (i := 0) (by decide +kernel))
theorem zw_t2_189 : Cond.fieldLink RX9 9 "NameGate" "tape" "[B" ∈ zT := zt_2 (List.mem_of_getElem? (i := 189) (by decide +kernel)) (by decide +kernel)
theorem zw_t2_233 : Cond.methodLink RX9 80 yX9_putFour ∈ zT := zt_2 (List.mem_of_getElem? (i := 233) (by decide +kernel)) (by decide +kernel)
theorem zw_t2_235 : Cond.instanceMethod yX9_putFour ∈ zT := zt_2 (List.mem_of_getElem? (i := 235) (by decide +kernel)) (by decide +kernel)
theorem zw_t2_236 : Cond.code yX9_putFour cX9_putFour 3 none ∈ zT := zt_2 (List.mem_of_getElem? (i := 236) (by decide +kernel)) (by decide +kernel)
def bcX9_feed_0 : List Nat := [42, 180, 0, 77, 16, 20, 96, 17, 6, 64, 164, 0, 5, 2, 172, 42, 27, 182, 0, 80, 42, 28, 182, 0, 80, 42, 29, 182, 0, 80, 42, 21, 4, 182, 0, 80, 42, 21, 5, 182, 0, 80, 42, 180, 0, 77, 172]
theorem bcX9_feed_0_ok : z_bys cX9_feed 0 bcX9_feed_0 = true := by decide +kernel
theorem dX9_feed_0 : decode cX9_feed 0 = .ok (.aload_n 0, 1) := zo_42 (z_byk bcX9_feed_0 0 0 _ bcX9_feed_0_ok rfl)
theorem dX9_feed_1 : decode cX9_feed 1 = .ok (.getfield 77, 3) := zo_180 (z_byk bcX9_feed_0 0 1 _ bcX9_feed_0_ok rfl) (z_byk bcX9_feed_0 0 2 _ bcX9_feed_0_ok rfl) (z_byk bcX9_feed_0 0 3 _ bcX9_feed_0_ok rfl) rfl
theorem dX9_feed_10 : decode cX9_feed 10 = .ok (.if_icmp .le 5, 3) := zo_164 (z_byk bcX9_feed_0 0 10 _ bcX9_feed_0_ok rfl) (z_byk bcX9_feed_0 0 11 _ bcX9_feed_0_ok rfl) (z_byk bcX9_feed_0 0 12 _ bcX9_feed_0_ok rfl) rfl
theorem dX9_feed_13 : decode cX9_feed 13 = .ok (.iconst (-1), 1) := zo_2 (z_byk bcX9_feed_0 0 13 _ bcX9_feed_0_ok rfl)
theorem dX9_feed_14 : decode cX9_feed 14 = .ok (.ireturn, 1) := zo_172 (z_byk bcX9_feed_0 0 14 _ bcX9_feed_0_ok rfl)
theorem dX9_feed_15 : decode cX9_feed 15 = .ok (.aload_n 0, 1) := zo_42 (z_byk bcX9_feed_0 0 15 _ bcX9_feed_0_ok rfl)
theorem dX9_feed_16 : decode cX9_feed 16 = .ok (.iload_n 1, 1) := zo_27 (z_byk bcX9_feed_0 0 16 _ bcX9_feed_0_ok rfl)
theorem dX9_feed_17 : decode cX9_feed 17 = .ok (.invokevirtual 80, 3) := zo_182 (z_byk bcX9_feed_0 0 17 _ bcX9_feed_0_ok rfl) (z_byk bcX9_feed_0 0 18 _ bcX9_feed_0_ok rfl) (z_byk bcX9_feed_0 0 19 _ bcX9_feed_0_ok rfl) rfl
theorem dX9_feed_20 : decode cX9_feed 20 = .ok (.aload_n 0, 1) := zo_42 (z_byk bcX9_feed_0 0 20 _ bcX9_feed_0_ok rfl)
theorem dX9_feed_21 : decode cX9_feed 21 = .ok (.iload_n 2, 1) := zo_28 (z_byk bcX9_feed_0 0 21 _ bcX9_feed_0_ok rfl)
theorem dX9_feed_22 : decode cX9_feed 22 = .ok (.invokevirtual 80, 3) := zo_182 (z_byk bcX9_feed_0 0 22 _ bcX9_feed_0_ok rfl) (z_byk bcX9_feed_0 0 23 _ bcX9_feed_0_ok rfl) (z_byk bcX9_feed_0 0 24 _ bcX9_feed_0_ok rfl) rfl
theorem dX9_feed_25 : decode cX9_feed 25 = .ok (.aload_n 0, 1) := zo_42 (z_byk bcX9_feed_0 0 25 _ bcX9_feed_0_ok rfl)
theorem dX9_feed_26 : decode cX9_feed 26 = .ok (.iload_n 3, 1) := zo_29 (z_byk bcX9_feed_0 0 26 _ bcX9_feed_0_ok rfl)
theorem dX9_feed_27 : decode cX9_feed 27 = .ok (.invokevirtual 80, 3) := zo_182 (z_byk bcX9_feed_0 0 27 _ bcX9_feed_0_ok rfl) (z_byk bcX9_feed_0 0 28 _ bcX9_feed_0_ok rfl) (z_byk bcX9_feed_0 0 29 _ bcX9_feed_0_ok rfl) rfl
theorem dX9_feed_30 : decode cX9_feed 30 = .ok (.aload_n 0, 1) := zo_42 (z_byk bcX9_feed_0 0 30 _ bcX9_feed_0_ok rfl)
theorem dX9_feed_31 : decode cX9_feed 31 = .ok (.iload 4, 2) := zo_21 (z_byk bcX9_feed_0 0 31 _ bcX9_feed_0_ok rfl) (z_byk bcX9_feed_0 0 32 _ bcX9_feed_0_ok rfl)
theorem dX9_feed_33 : decode cX9_feed 33 = .ok (.invokevirtual 80, 3) := zo_182 (z_byk bcX9_feed_0 0 33 _ bcX9_feed_0_ok rfl) (z_byk bcX9_feed_0 0 34 _ bcX9_feed_0_ok rfl) (z_byk bcX9_feed_0 0 35 _ bcX9_feed_0_ok rfl) rfl
theorem dX9_feed_36 : decode cX9_feed 36 = .ok (.aload_n 0, 1) := zo_42 (z_byk bcX9_feed_0 0 36 _ bcX9_feed_0_ok rfl)
theorem dX9_feed_37 : decode cX9_feed 37 = .ok (.iload 5, 2) := zo_21 (z_byk bcX9_feed_0 0 37 _ bcX9_feed_0_ok rfl) (z_byk bcX9_feed_0 0 38 _ bcX9_feed_0_ok rfl)
theorem dX9_feed_39 : decode cX9_feed 39 = .ok (.invokevirtual 80, 3) := zo_182 (z_byk bcX9_feed_0 0 39 _ bcX9_feed_0_ok rfl) (z_byk bcX9_feed_0 0 40 _ bcX9_feed_0_ok rfl) (z_byk bcX9_feed_0 0 41 _ bcX9_feed_0_ok rfl) rfl
theorem dX9_feed_4 : decode cX9_feed 4 = .ok (.bipush 20, 2) := zo_16 (z_byk bcX9_feed_0 0 4 _ bcX9_feed_0_ok rfl) (z_byk bcX9_feed_0 0 5 _ bcX9_feed_0_ok rfl) rfl
theorem dX9_feed_42 : decode cX9_feed 42 = .ok (.aload_n 0, 1) := zo_42 (z_byk bcX9_feed_0 0 42 _ bcX9_feed_0_ok rfl)
theorem dX9_feed_43 : decode cX9_feed 43 = .ok (.getfield 77, 3) := zo_180 (z_byk bcX9_feed_0 0 43 _ bcX9_feed_0_ok rfl) (z_byk bcX9_feed_0 0 44 _ bcX9_feed_0_ok rfl) (z_byk bcX9_feed_0 0 45 _ bcX9_feed_0_ok rfl) rfl
theorem dX9_feed_46 : decode cX9_feed 46 = .ok (.ireturn, 1) := zo_172 (z_byk bcX9_feed_0 0 46 _ bcX9_feed_0_ok rfl)
theorem dX9_feed_6 : decode cX9_feed 6 = .ok (.iadd, 1) := zo_96 (z_byk bcX9_feed_0 0 6 _ bcX9_feed_0_ok rfl)
theorem dX9_feed_7 : decode cX9_feed 7 = .ok (.sipush 1600, 3) := zo_17 (z_byk bcX9_feed_0 0 7 _ bcX9_feed_0_ok rfl) (z_byk bcX9_feed_0 0 8 _ bcX9_feed_0_ok rfl) (z_byk bcX9_feed_0 0 9 _ bcX9_feed_0_ok rfl) rfl
def bcX9_putFour_0 : List Nat := [16, 24, 61, 28, 155, 0, 32, 42, 180, 0, 9, 42, 180, 0, 77, 27, 28, 122, 145, 84, 42, 89, 180, 0, 77, 4, 96, 181, 0, 77, 132, 2, 248, 167, 255, 226, 177]
theorem bcX9_putFour_0_ok : z_bys cX9_putFour 0 bcX9_putFour_0 = true := by decide +kernel
theorem dX9_putFour_0 : decode cX9_putFour 0 = .ok (.bipush 24, 2) := zo_16 (z_byk bcX9_putFour_0 0 0 _ bcX9_putFour_0_ok rfl) (z_byk bcX9_putFour_0 0 1 _ bcX9_putFour_0_ok rfl) rfl
theorem dX9_putFour_11 : decode cX9_putFour 11 = .ok (.aload_n 0, 1) := zo_42 (z_byk bcX9_putFour_0 0 11 _ bcX9_putFour_0_ok rfl)
theorem dX9_putFour_12 : decode cX9_putFour 12 = .ok (.getfield 77, 3) := zo_180 (z_byk bcX9_putFour_0 0 12 _ bcX9_putFour_0_ok rfl) (z_byk bcX9_putFour_0 0 13 _ bcX9_putFour_0_ok rfl) (z_byk bcX9_putFour_0 0 14 _ bcX9_putFour_0_ok rfl) rfl
theorem dX9_putFour_15 : decode cX9_putFour 15 = .ok (.iload_n 1, 1) := zo_27 (z_byk bcX9_putFour_0 0 15 _ bcX9_putFour_0_ok rfl)
theorem dX9_putFour_16 : decode cX9_putFour 16 = .ok (.iload_n 2, 1) := zo_28 (z_byk bcX9_putFour_0 0 16 _ bcX9_putFour_0_ok rfl)
theorem dX9_putFour_17 : decode cX9_putFour 17 = .ok (.ishr, 1) := zo_122 (z_byk bcX9_putFour_0 0 17 _ bcX9_putFour_0_ok rfl)
theorem dX9_putFour_18 : decode cX9_putFour 18 = .ok (.i2b, 1) := zo_145 (z_byk bcX9_putFour_0 0 18 _ bcX9_putFour_0_ok rfl)
theorem dX9_putFour_19 : decode cX9_putFour 19 = .ok (.bastore, 1) := zo_84 (z_byk bcX9_putFour_0 0 19 _ bcX9_putFour_0_ok rfl)
theorem dX9_putFour_2 : decode cX9_putFour 2 = .ok (.istore_n 2, 1) := zo_61 (z_byk bcX9_putFour_0 0 2 _ bcX9_putFour_0_ok rfl)
theorem dX9_putFour_20 : decode cX9_putFour 20 = .ok (.aload_n 0, 1) := zo_42 (z_byk bcX9_putFour_0 0 20 _ bcX9_putFour_0_ok rfl)
theorem dX9_putFour_21 : decode cX9_putFour 21 = .ok (.dup, 1) := zo_89 (z_byk bcX9_putFour_0 0 21 _ bcX9_putFour_0_ok rfl)
theorem dX9_putFour_22 : decode cX9_putFour 22 = .ok (.getfield 77, 3) := zo_180 (z_byk bcX9_putFour_0 0 22 _ bcX9_putFour_0_ok rfl) (z_byk bcX9_putFour_0 0 23 _ bcX9_putFour_0_ok rfl) (z_byk bcX9_putFour_0 0 24 _ bcX9_putFour_0_ok rfl) rfl
theorem dX9_putFour_25 : decode cX9_putFour 25 = .ok (.iconst 1, 1) := zo_4 (z_byk bcX9_putFour_0 0 25 _ bcX9_putFour_0_ok rfl)
theorem dX9_putFour_26 : decode cX9_putFour 26 = .ok (.iadd, 1) := zo_96 (z_byk bcX9_putFour_0 0 26 _ bcX9_putFour_0_ok rfl)
theorem dX9_putFour_27 : decode cX9_putFour 27 = .ok (.putfield 77, 3) := zo_181 (z_byk bcX9_putFour_0 0 27 _ bcX9_putFour_0_ok rfl) (z_byk bcX9_putFour_0 0 28 _ bcX9_putFour_0_ok rfl) (z_byk bcX9_putFour_0 0 29 _ bcX9_putFour_0_ok rfl) rfl
theorem dX9_putFour_3 : decode cX9_putFour 3 = .ok (.iload_n 2, 1) := zo_28 (z_byk bcX9_putFour_0 0 3 _ bcX9_putFour_0_ok rfl)
theorem dX9_putFour_30 : decode cX9_putFour 30 = .ok (.iinc 2 (-8), 3) := zo_132 (z_byk bcX9_putFour_0 0 30 _ bcX9_putFour_0_ok rfl) (z_byk bcX9_putFour_0 0 31 _ bcX9_putFour_0_ok rfl) (z_byk bcX9_putFour_0 0 32 _ bcX9_putFour_0_ok rfl) rfl
theorem dX9_putFour_33 : decode cX9_putFour 33 = .ok (.goto (-30), 3) := zo_167 (z_byk bcX9_putFour_0 0 33 _ bcX9_putFour_0_ok rfl) (z_byk bcX9_putFour_0 0 34 _ bcX9_putFour_0_ok rfl) (z_byk bcX9_putFour_0 0 35 _ bcX9_putFour_0_ok rfl) rfl
theorem dX9_putFour_36 : decode cX9_putFour 36 = .ok (.return_, 1) := zo_177 (z_byk bcX9_putFour_0 0 36 _ bcX9_putFour_0_ok rfl)
theorem dX9_putFour_4 : decode cX9_putFour 4 = .ok (.ifCond .lt 32, 3) := zo_155 (z_byk bcX9_putFour_0 0 4 _ bcX9_putFour_0_ok rfl) (z_byk bcX9_putFour_0 0 5 _ bcX9_putFour_0_ok rfl) (z_byk bcX9_putFour_0 0 6 _ bcX9_putFour_0_ok rfl) rfl
theorem dX9_putFour_7 : decode cX9_putFour 7 = .ok (.aload_n 0, 1) := zo_42 (z_byk bcX9_putFour_0 0 7 _ bcX9_putFour_0_ok rfl)
theorem dX9_putFour_8 : decode cX9_putFour 8 = .ok (.getfield 9, 3) := zo_180 (z_byk bcX9_putFour_0 0 8 _ bcX9_putFour_0_ok rfl) (z_byk bcX9_putFour_0 0 9 _ bcX9_putFour_0_ok rfl) (z_byk bcX9_putFour_0 0 10 _ bcX9_putFour_0_ok rfl) rfl
