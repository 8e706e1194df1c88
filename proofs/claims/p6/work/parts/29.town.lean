set_option linter.all false
theorem zw_t1_194 : Cond.fieldLink RX9 88 "NameGate$Reader" "fault" "I" ∈ zT := zt_1 (List.mem_of_getElem? (i := 194) (by decide +kernel)) (by decide +kernel)
theorem zw_t1_196 : Cond.fieldLink RX9 94 "NameGate$Reader" "place" "I" ∈ zT := zt_1 (List.mem_of_getElem? (i := 196) (by decide +kernel)) (by decide +kernel)
theorem zw_t2_196 : Cond.fieldLink RX9 37 "NameGate" "reader" "LNameGate$Reader;" ∈ zT := zt_2 (List.mem_of_getElem? (i := 196) (by decide +kernel)) (by decide +kernel)
theorem zw_t3_157 : Cond.methodLink RX9 97 yX3_settle ∈ zT := zt_3 (List.mem_of_getElem? (i := 157) (by decide +kernel)) (by decide +kernel)
theorem zw_t3_158 : Cond.instanceMethod yX3_settle ∈ zT := zt_3 (List.mem_of_getElem? (i := 158) (by decide +kernel)) (by decide +kernel)
theorem zw_t3_159 : Cond.selects RX3 yX3_settle yX3_settle ∈ zT := zt_3 (List.mem_of_getElem? (i := 159) (by decide +kernel)) (by decide +kernel)
theorem zw_t3_160 : Cond.code yX3_settle cX3_settle 2 none ∈ zT := zt_3 (List.mem_of_getElem? (i := 160) (by decide +kernel)) (by decide +kernel)
theorem zw_t3_5 : Cond.methodLink RX9 84 yX5_read ∈ zT := zt_3 (List.mem_of_getElem? (i := 5) (by decide +kernel)) (by decide +kernel)
theorem zw_t3_6 : Cond.instanceMethod yX5_read ∈ zT := zt_3 (List.mem_of_getElem? (i := 6) (by decide +kernel)) (by decide +kernel)
theorem zw_t3_7 : Cond.selects RX5 yX5_read yX5_read ∈ zT := zt_3 (List.mem_of_getElem? (i := 7) (by decide +kernel)) (by decide +kernel)
theorem zw_t3_8 : Cond.code yX5_read cX5_read 4 (some (.object "NameGate$Town")) ∈ zT := zt_3 (List.mem_of_getElem? (i := 8) (by decide +kernel)) (by decide +kernel)
def bcX9_town_0 : List Nat := [42, 180, 0, 37, 42, 180, 0, 9, 42, 180, 0, 77, 182, 0, 84, 76, 42, 3, 181, 0, 77, 42, 42, 180, 0, 37, 180, 0, 88, 181, 0, 91, 42, 42, 180, 0, 37, 180, 0, 94, 181, 0, 13, 42, 180, 0, 91, 153, 0, 6, 16, 252, 172, 42, 180, 0, 20, 43, 182, 0]
theorem bcX9_town_0_ok : z_bys cX9_town 0 bcX9_town_0 = true := by decide +kernel
def bcX9_town_60 : List Nat := [97, 43, 180, 0, 101, 172]
theorem bcX9_town_60_ok : z_bys cX9_town 60 bcX9_town_60 = true := by decide +kernel
theorem dX9_town_0 : decode cX9_town 0 = .ok (.aload_n 0, 1) := zo_42 (z_byk bcX9_town_0 0 0 _ bcX9_town_0_ok rfl)
theorem dX9_town_1 : decode cX9_town 1 = .ok (.getfield 37, 3) := zo_180 (z_byk bcX9_town_0 0 1 _ bcX9_town_0_ok rfl) (z_byk bcX9_town_0 0 2 _ bcX9_town_0_ok rfl) (z_byk bcX9_town_0 0 3 _ bcX9_town_0_ok rfl) rfl
theorem dX9_town_12 : decode cX9_town 12 = .ok (.invokevirtual 84, 3) := zo_182 (z_byk bcX9_town_0 0 12 _ bcX9_town_0_ok rfl) (z_byk bcX9_town_0 0 13 _ bcX9_town_0_ok rfl) (z_byk bcX9_town_0 0 14 _ bcX9_town_0_ok rfl) rfl
theorem dX9_town_15 : decode cX9_town 15 = .ok (.astore_n 1, 1) := zo_76 (z_byk bcX9_town_0 0 15 _ bcX9_town_0_ok rfl)
theorem dX9_town_16 : decode cX9_town 16 = .ok (.aload_n 0, 1) := zo_42 (z_byk bcX9_town_0 0 16 _ bcX9_town_0_ok rfl)
theorem dX9_town_17 : decode cX9_town 17 = .ok (.iconst 0, 1) := zo_3 (z_byk bcX9_town_0 0 17 _ bcX9_town_0_ok rfl)
theorem dX9_town_18 : decode cX9_town 18 = .ok (.putfield 77, 3) := zo_181 (z_byk bcX9_town_0 0 18 _ bcX9_town_0_ok rfl) (z_byk bcX9_town_0 0 19 _ bcX9_town_0_ok rfl) (z_byk bcX9_town_0 0 20 _ bcX9_town_0_ok rfl) rfl
theorem dX9_town_21 : decode cX9_town 21 = .ok (.aload_n 0, 1) := zo_42 (z_byk bcX9_town_0 0 21 _ bcX9_town_0_ok rfl)
theorem dX9_town_22 : decode cX9_town 22 = .ok (.aload_n 0, 1) := zo_42 (z_byk bcX9_town_0 0 22 _ bcX9_town_0_ok rfl)
theorem dX9_town_23 : decode cX9_town 23 = .ok (.getfield 37, 3) := zo_180 (z_byk bcX9_town_0 0 23 _ bcX9_town_0_ok rfl) (z_byk bcX9_town_0 0 24 _ bcX9_town_0_ok rfl) (z_byk bcX9_town_0 0 25 _ bcX9_town_0_ok rfl) rfl
theorem dX9_town_26 : decode cX9_town 26 = .ok (.getfield 88, 3) := zo_180 (z_byk bcX9_town_0 0 26 _ bcX9_town_0_ok rfl) (z_byk bcX9_town_0 0 27 _ bcX9_town_0_ok rfl) (z_byk bcX9_town_0 0 28 _ bcX9_town_0_ok rfl) rfl
theorem dX9_town_29 : decode cX9_town 29 = .ok (.putfield 91, 3) := zo_181 (z_byk bcX9_town_0 0 29 _ bcX9_town_0_ok rfl) (z_byk bcX9_town_0 0 30 _ bcX9_town_0_ok rfl) (z_byk bcX9_town_0 0 31 _ bcX9_town_0_ok rfl) rfl
theorem dX9_town_32 : decode cX9_town 32 = .ok (.aload_n 0, 1) := zo_42 (z_byk bcX9_town_0 0 32 _ bcX9_town_0_ok rfl)
theorem dX9_town_33 : decode cX9_town 33 = .ok (.aload_n 0, 1) := zo_42 (z_byk bcX9_town_0 0 33 _ bcX9_town_0_ok rfl)
theorem dX9_town_34 : decode cX9_town 34 = .ok (.getfield 37, 3) := zo_180 (z_byk bcX9_town_0 0 34 _ bcX9_town_0_ok rfl) (z_byk bcX9_town_0 0 35 _ bcX9_town_0_ok rfl) (z_byk bcX9_town_0 0 36 _ bcX9_town_0_ok rfl) rfl
theorem dX9_town_37 : decode cX9_town 37 = .ok (.getfield 94, 3) := zo_180 (z_byk bcX9_town_0 0 37 _ bcX9_town_0_ok rfl) (z_byk bcX9_town_0 0 38 _ bcX9_town_0_ok rfl) (z_byk bcX9_town_0 0 39 _ bcX9_town_0_ok rfl) rfl
theorem dX9_town_4 : decode cX9_town 4 = .ok (.aload_n 0, 1) := zo_42 (z_byk bcX9_town_0 0 4 _ bcX9_town_0_ok rfl)
theorem dX9_town_40 : decode cX9_town 40 = .ok (.putfield 13, 3) := zo_181 (z_byk bcX9_town_0 0 40 _ bcX9_town_0_ok rfl) (z_byk bcX9_town_0 0 41 _ bcX9_town_0_ok rfl) (z_byk bcX9_town_0 0 42 _ bcX9_town_0_ok rfl) rfl
theorem dX9_town_43 : decode cX9_town 43 = .ok (.aload_n 0, 1) := zo_42 (z_byk bcX9_town_0 0 43 _ bcX9_town_0_ok rfl)
theorem dX9_town_44 : decode cX9_town 44 = .ok (.getfield 91, 3) := zo_180 (z_byk bcX9_town_0 0 44 _ bcX9_town_0_ok rfl) (z_byk bcX9_town_0 0 45 _ bcX9_town_0_ok rfl) (z_byk bcX9_town_0 0 46 _ bcX9_town_0_ok rfl) rfl
theorem dX9_town_47 : decode cX9_town 47 = .ok (.ifCond .eq 6, 3) := zo_153 (z_byk bcX9_town_0 0 47 _ bcX9_town_0_ok rfl) (z_byk bcX9_town_0 0 48 _ bcX9_town_0_ok rfl) (z_byk bcX9_town_0 0 49 _ bcX9_town_0_ok rfl) rfl
theorem dX9_town_5 : decode cX9_town 5 = .ok (.getfield 9, 3) := zo_180 (z_byk bcX9_town_0 0 5 _ bcX9_town_0_ok rfl) (z_byk bcX9_town_0 0 6 _ bcX9_town_0_ok rfl) (z_byk bcX9_town_0 0 7 _ bcX9_town_0_ok rfl) rfl
theorem dX9_town_50 : decode cX9_town 50 = .ok (.bipush (-4), 2) := zo_16 (z_byk bcX9_town_0 0 50 _ bcX9_town_0_ok rfl) (z_byk bcX9_town_0 0 51 _ bcX9_town_0_ok rfl) rfl
theorem dX9_town_52 : decode cX9_town 52 = .ok (.ireturn, 1) := zo_172 (z_byk bcX9_town_0 0 52 _ bcX9_town_0_ok rfl)
theorem dX9_town_53 : decode cX9_town 53 = .ok (.aload_n 0, 1) := zo_42 (z_byk bcX9_town_0 0 53 _ bcX9_town_0_ok rfl)
theorem dX9_town_54 : decode cX9_town 54 = .ok (.getfield 20, 3) := zo_180 (z_byk bcX9_town_0 0 54 _ bcX9_town_0_ok rfl) (z_byk bcX9_town_0 0 55 _ bcX9_town_0_ok rfl) (z_byk bcX9_town_0 0 56 _ bcX9_town_0_ok rfl) rfl
theorem dX9_town_57 : decode cX9_town 57 = .ok (.aload_n 1, 1) := zo_43 (z_byk bcX9_town_0 0 57 _ bcX9_town_0_ok rfl)
theorem dX9_town_58 : decode cX9_town 58 = .ok (.invokevirtual 97, 3) := zo_182 (z_byk bcX9_town_0 0 58 _ bcX9_town_0_ok rfl) (z_byk bcX9_town_0 0 59 _ bcX9_town_0_ok rfl) (z_byk bcX9_town_60 60 0 _ bcX9_town_60_ok rfl) rfl
theorem dX9_town_61 : decode cX9_town 61 = .ok (.aload_n 1, 1) := zo_43 (z_byk bcX9_town_60 60 1 _ bcX9_town_60_ok rfl)
theorem dX9_town_62 : decode cX9_town 62 = .ok (.getfield 101, 3) := zo_180 (z_byk bcX9_town_60 60 2 _ bcX9_town_60_ok rfl) (z_byk bcX9_town_60 60 3 _ bcX9_town_60_ok rfl) (z_byk bcX9_town_60 60 4 _ bcX9_town_60_ok rfl) rfl
theorem dX9_town_65 : decode cX9_town 65 = .ok (.ireturn, 1) := zo_172 (z_byk bcX9_town_60 60 5 _ bcX9_town_60_ok rfl)
theorem dX9_town_8 : decode cX9_town 8 = .ok (.aload_n 0, 1) := zo_42 (z_byk bcX9_town_0 0 8 _ bcX9_town_0_ok rfl)
theorem dX9_town_9 : decode cX9_town 9 = .ok (.getfield 77, 3) := zo_180 (z_byk bcX9_town_0 0 9 _ bcX9_town_0_ok rfl) (z_byk bcX9_town_0 0 10 _ bcX9_town_0_ok rfl) (z_byk bcX9_town_0 0 11 _ bcX9_town_0_ok rfl) rfl
