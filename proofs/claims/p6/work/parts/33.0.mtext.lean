set_option linter.all false
/-- what falls while a text is read -/
def zMs (b a t : Int) : Int := 100000 * (1 - min b 1) + 10 * (1600 - a) + t
def zNx (a a' t' : Int) : Prop := a < a' ∨ (a' = a ∧ t' = 0)
theorem zNx.le {b a a' t t' : Int} (h : zNx a a' t') (ht : 0 ≤ t ∧ t ≤ 4) (ht' : 0 ≤ t' ∧ t' ≤ 4) : zMs b a' t' ≤ zMs b a t := by
  unfold zNx at h; unfold zMs; omega
theorem zNx.lt {b a a' t t' : Int} (h : zNx a a' t') (ht : 0 ≤ t ∧ t ≤ 4) (ht' : 0 ≤ t' ∧ t' ≤ 4) (h0 : ¬ t = 0) : zMs b a' t' < zMs b a t := by
  unfold zNx at h; unfold zMs; omega
theorem zMs_bad {b b' a a' t t' : Int} (hb : b = 0) (hb' : ¬ b' = 0) (h1 : 0 ≤ b' ∧ b' ≤ 3) (ha : 0 ≤ a ∧ a ≤ 1600) (ha' : 0 ≤ a' ∧ a' ≤ 1600) (ht : 0 ≤ t ∧ t ≤ 4) (ht' : 0 ≤ t' ∧ t' ≤ 4) : zMs b' a' t' < zMs b a t := by
  unfold zMs; omega
theorem zMs_nn {b a t : Int} (h1 : 0 ≤ b ∧ b ≤ 3) (ha : 0 ≤ a ∧ a ≤ 1600) (ht : 0 ≤ t ∧ t ≤ 4) : 0 ≤ zMs b a t ∧ zMs b a t ≤ 116004 := by
  unfold zMs; omega
theorem zNx.of {a a' t' : Int} (h : a < a' ∨ (a' = a ∧ t' = 0)) : zNx a a' t' := h
def zMo (a b : Int) : Prop := a = 0 ∨ ¬ b = 0
theorem zMo.of {a b : Int} (h : a = 0 ∨ ¬ b = 0) : zMo a b := h
theorem zMo.go {a b : Int} (h : zMo a b) (h0 : ¬ a = 0) : ¬ b = 0 := h.resolve_left h0
theorem zMo.tr {a b c : Int} (h : zMo a b) (h' : zMo b c) : zMo a c := by unfold zMo at *; omega
theorem zw_s4_10 : Cond.selects RX10 yX10_isByte yX10_isByte ∈ zT := zs_4 (List.mem_of_getElem? (i := 10) (by decide +kernel))
theorem zw_s4_12 : Cond.selects RX10 yX10_asks yX10_asks ∈ zT := zs_4 (List.mem_of_getElem? (i := 12) (by decide +kernel))
theorem zw_s4_13 : Cond.selects RX10 yX10_takes yX10_takes ∈ zT := zs_4 (List.mem_of_getElem? (i := 13) (by decide +kernel))
theorem zw_s4_14 : Cond.selects RX10 yX10_is yX10_is ∈ zT := zs_4 (List.mem_of_getElem? (i := 14) (by decide +kernel))
theorem zw_s4_15 : Cond.selects RX10 yX10_fails yX10_fails ∈ zT := zs_4 (List.mem_of_getElem? (i := 15) (by decide +kernel))
theorem zw_s4_9 : Cond.selects RX10 yX10_next yX10_next ∈ zT := zs_4 (List.mem_of_getElem? (i := 9) (by decide +kernel))
theorem zw_s5_1 : Cond.selects RX10 yX10_number yX10_number ∈ zT := zs_5 (List.mem_of_getElem? (i := 1) (by decide +kernel))
theorem zw_t6_107 : Cond.fieldLink RX10 137 "NameGateModel" "at" "I" ∈ zT := zt_6 (List.mem_of_getElem? (i := 107) (by decide +kernel)) (by decide +kernel)
theorem zw_t6_110 : Cond.fieldLink RX10 147 "NameGateModel" "value" "I" ∈ zT := zt_6 (List.mem_of_getElem? (i := 110) (by decide +kernel)) (by decide +kernel)
theorem zw_t7_100 : Cond.code yX10_is cX10_is 3 (some .boolean) ∈ zT := zt_7 (List.mem_of_getElem? (i := 100) (by decide +kernel)) (by decide +kernel)
theorem zw_t7_101 : Cond.methodLink RX10 181 yX10_fails ∈ zT := zt_7 (List.mem_of_getElem? (i := 101) (by decide +kernel)) (by decide +kernel)
theorem zw_t7_103 : Cond.instanceMethod yX10_fails ∈ zT := zt_7 (List.mem_of_getElem? (i := 103) (by decide +kernel)) (by decide +kernel)
theorem zw_t7_104 : Cond.code yX10_fails cX10_fails 2 none ∈ zT := zt_7 (List.mem_of_getElem? (i := 104) (by decide +kernel)) (by decide +kernel)
theorem zw_t7_110 : Cond.methodLink RX10 188 yX10_number ∈ zT := zt_7 (List.mem_of_getElem? (i := 110) (by decide +kernel)) (by decide +kernel)
theorem zw_t7_112 : Cond.instanceMethod yX10_number ∈ zT := zt_7 (List.mem_of_getElem? (i := 112) (by decide +kernel)) (by decide +kernel)
theorem zw_t7_113 : Cond.code yX10_number cX10_number 4 (some .int) ∈ zT := zt_7 (List.mem_of_getElem? (i := 113) (by decide +kernel)) (by decide +kernel)
theorem zw_t7_71 : Cond.methodLink RX10 175 yX10_next ∈ zT := zt_7 (List.mem_of_getElem? (i := 71) (by decide +kernel)) (by decide +kernel)
theorem zw_t7_73 : Cond.instanceMethod yX10_next ∈ zT := zt_7 (List.mem_of_getElem? (i := 73) (by decide +kernel)) (by decide +kernel)
theorem zw_t7_74 : Cond.code yX10_next cX10_next 2 none ∈ zT := zt_7 (List.mem_of_getElem? (i := 74) (by decide +kernel)) (by decide +kernel)
theorem zw_t7_75 : Cond.methodLink RX10 140 yX10_isByte ∈ zT := zt_7 (List.mem_of_getElem? (i := 75) (by decide +kernel)) (by decide +kernel)
theorem zw_t7_77 : Cond.instanceMethod yX10_isByte ∈ zT := zt_7 (List.mem_of_getElem? (i := 77) (by decide +kernel)) (by decide +kernel)
theorem zw_t7_78 : Cond.code yX10_isByte cX10_isByte 4 (some .boolean) ∈ zT := zt_7 (List.mem_of_getElem? (i := 78) (by decide +kernel)) (by decide +kernel)
theorem zw_t7_79 : Cond.constantLong RX10 157 (-1) ∈ zT := zt_7 (List.mem_of_getElem? (i := 79) (by decide +kernel)) (by decide +kernel)
theorem zw_t7_80 : Cond.constantLong RX10 159 (27) ∈ zT := zt_7 (List.mem_of_getElem? (i := 80) (by decide +kernel)) (by decide +kernel)
theorem zw_t7_81 : Cond.constantLong RX10 161 (96) ∈ zT := zt_7 (List.mem_of_getElem? (i := 81) (by decide +kernel)) (by decide +kernel)
theorem zw_t7_82 : Cond.constant RX10 163 (100000) ∈ zT := zt_7 (List.mem_of_getElem? (i := 82) (by decide +kernel)) (by decide +kernel)
theorem zw_t7_89 : Cond.methodLink RX10 184 yX10_asks ∈ zT := zt_7 (List.mem_of_getElem? (i := 89) (by decide +kernel)) (by decide +kernel)
theorem zw_t7_91 : Cond.instanceMethod yX10_asks ∈ zT := zt_7 (List.mem_of_getElem? (i := 91) (by decide +kernel)) (by decide +kernel)
theorem zw_t7_92 : Cond.code yX10_asks cX10_asks 3 none ∈ zT := zt_7 (List.mem_of_getElem? (i := 92) (by decide +kernel)) (by decide +kernel)
theorem zw_t7_93 : Cond.methodLink RX10 178 yX10_takes ∈ zT := zt_7 (List.mem_of_getElem? (i := 93) (by decide +kernel)) (by decide +kernel)
theorem zw_t7_95 : Cond.instanceMethod yX10_takes ∈ zT := zt_7 (List.mem_of_getElem? (i := 95) (by decide +kernel)) (by decide +kernel)
theorem zw_t7_96 : Cond.code yX10_takes cX10_takes 3 (some .boolean) ∈ zT := zt_7 (List.mem_of_getElem? (i := 96) (by decide +kernel)) (by decide +kernel)
theorem zw_t7_97 : Cond.methodLink RX10 171 yX10_is ∈ zT := zt_7 (List.mem_of_getElem? (i := 97) (by decide +kernel)) (by decide +kernel)
theorem zw_t7_99 : Cond.instanceMethod yX10_is ∈ zT := zt_7 (List.mem_of_getElem? (i := 99) (by decide +kernel)) (by decide +kernel)
def bcX10_asks_0 : List Nat := [42, 31, 182, 0, 178, 154, 0, 8, 42, 4, 182, 0, 181, 177]
theorem bcX10_asks_0_ok : z_bys cX10_asks 0 bcX10_asks_0 = true := by decide +kernel
theorem dX10_asks_0 : decode cX10_asks 0 = .ok (.aload_n 0, 1) := zo_42 (z_byk bcX10_asks_0 0 0 _ bcX10_asks_0_ok rfl)
theorem dX10_asks_1 : decode cX10_asks 1 = .ok (.lload_n 1, 1) := zo_31 (z_byk bcX10_asks_0 0 1 _ bcX10_asks_0_ok rfl)
theorem dX10_asks_10 : decode cX10_asks 10 = .ok (.invokevirtual 181, 3) := zo_182 (z_byk bcX10_asks_0 0 10 _ bcX10_asks_0_ok rfl) (z_byk bcX10_asks_0 0 11 _ bcX10_asks_0_ok rfl) (z_byk bcX10_asks_0 0 12 _ bcX10_asks_0_ok rfl) rfl
theorem dX10_asks_13 : decode cX10_asks 13 = .ok (.return_, 1) := zo_177 (z_byk bcX10_asks_0 0 13 _ bcX10_asks_0_ok rfl)
theorem dX10_asks_2 : decode cX10_asks 2 = .ok (.invokevirtual 178, 3) := zo_182 (z_byk bcX10_asks_0 0 2 _ bcX10_asks_0_ok rfl) (z_byk bcX10_asks_0 0 3 _ bcX10_asks_0_ok rfl) (z_byk bcX10_asks_0 0 4 _ bcX10_asks_0_ok rfl) rfl
theorem dX10_asks_5 : decode cX10_asks 5 = .ok (.ifCond .ne 8, 3) := zo_154 (z_byk bcX10_asks_0 0 5 _ bcX10_asks_0_ok rfl) (z_byk bcX10_asks_0 0 6 _ bcX10_asks_0_ok rfl) (z_byk bcX10_asks_0 0 7 _ bcX10_asks_0_ok rfl) rfl
theorem dX10_asks_8 : decode cX10_asks 8 = .ok (.aload_n 0, 1) := zo_42 (z_byk bcX10_asks_0 0 8 _ bcX10_asks_0_ok rfl)
theorem dX10_asks_9 : decode cX10_asks 9 = .ok (.iconst 1, 1) := zo_4 (z_byk bcX10_asks_0 0 9 _ bcX10_asks_0_ok rfl)
def bcX10_begins_0 : List Nat := [42, 3, 181, 0, 165, 42, 2, 181, 0, 168, 42, 3, 181, 0, 137, 42, 182, 0, 175, 177]
theorem bcX10_begins_0_ok : z_bys cX10_begins 0 bcX10_begins_0 = true := by decide +kernel
theorem dX10_begins_0 : decode cX10_begins 0 = .ok (.aload_n 0, 1) := zo_42 (z_byk bcX10_begins_0 0 0 _ bcX10_begins_0_ok rfl)
theorem dX10_begins_1 : decode cX10_begins 1 = .ok (.iconst 0, 1) := zo_3 (z_byk bcX10_begins_0 0 1 _ bcX10_begins_0_ok rfl)
theorem dX10_begins_10 : decode cX10_begins 10 = .ok (.aload_n 0, 1) := zo_42 (z_byk bcX10_begins_0 0 10 _ bcX10_begins_0_ok rfl)
theorem dX10_begins_11 : decode cX10_begins 11 = .ok (.iconst 0, 1) := zo_3 (z_byk bcX10_begins_0 0 11 _ bcX10_begins_0_ok rfl)
theorem dX10_begins_12 : decode cX10_begins 12 = .ok (.putfield 137, 3) := zo_181 (z_byk bcX10_begins_0 0 12 _ bcX10_begins_0_ok rfl) (z_byk bcX10_begins_0 0 13 _ bcX10_begins_0_ok rfl) (z_byk bcX10_begins_0 0 14 _ bcX10_begins_0_ok rfl) rfl
theorem dX10_begins_15 : decode cX10_begins 15 = .ok (.aload_n 0, 1) := zo_42 (z_byk bcX10_begins_0 0 15 _ bcX10_begins_0_ok rfl)
theorem dX10_begins_16 : decode cX10_begins 16 = .ok (.invokevirtual 175, 3) := zo_182 (z_byk bcX10_begins_0 0 16 _ bcX10_begins_0_ok rfl) (z_byk bcX10_begins_0 0 17 _ bcX10_begins_0_ok rfl) (z_byk bcX10_begins_0 0 18 _ bcX10_begins_0_ok rfl) rfl
theorem dX10_begins_19 : decode cX10_begins 19 = .ok (.return_, 1) := zo_177 (z_byk bcX10_begins_0 0 19 _ bcX10_begins_0_ok rfl)
theorem dX10_begins_2 : decode cX10_begins 2 = .ok (.putfield 165, 3) := zo_181 (z_byk bcX10_begins_0 0 2 _ bcX10_begins_0_ok rfl) (z_byk bcX10_begins_0 0 3 _ bcX10_begins_0_ok rfl) (z_byk bcX10_begins_0 0 4 _ bcX10_begins_0_ok rfl) rfl
theorem dX10_begins_5 : decode cX10_begins 5 = .ok (.aload_n 0, 1) := zo_42 (z_byk bcX10_begins_0 0 5 _ bcX10_begins_0_ok rfl)
theorem dX10_begins_6 : decode cX10_begins 6 = .ok (.iconst (-1), 1) := zo_2 (z_byk bcX10_begins_0 0 6 _ bcX10_begins_0_ok rfl)
theorem dX10_begins_7 : decode cX10_begins 7 = .ok (.putfield 168, 3) := zo_181 (z_byk bcX10_begins_0 0 7 _ bcX10_begins_0_ok rfl) (z_byk bcX10_begins_0 0 8 _ bcX10_begins_0_ok rfl) (z_byk bcX10_begins_0 0 9 _ bcX10_begins_0_ok rfl) rfl
def bcX10_ends_0 : List Nat := [42, 180, 0, 154, 6, 159, 0, 8, 42, 4, 182, 0, 181, 42, 180, 0, 165, 154, 0, 7, 42, 182, 0, 175, 177]
theorem bcX10_ends_0_ok : z_bys cX10_ends 0 bcX10_ends_0 = true := by decide +kernel
theorem dX10_ends_0 : decode cX10_ends 0 = .ok (.aload_n 0, 1) := zo_42 (z_byk bcX10_ends_0 0 0 _ bcX10_ends_0_ok rfl)
theorem dX10_ends_1 : decode cX10_ends 1 = .ok (.getfield 154, 3) := zo_180 (z_byk bcX10_ends_0 0 1 _ bcX10_ends_0_ok rfl) (z_byk bcX10_ends_0 0 2 _ bcX10_ends_0_ok rfl) (z_byk bcX10_ends_0 0 3 _ bcX10_ends_0_ok rfl) rfl
theorem dX10_ends_10 : decode cX10_ends 10 = .ok (.invokevirtual 181, 3) := zo_182 (z_byk bcX10_ends_0 0 10 _ bcX10_ends_0_ok rfl) (z_byk bcX10_ends_0 0 11 _ bcX10_ends_0_ok rfl) (z_byk bcX10_ends_0 0 12 _ bcX10_ends_0_ok rfl) rfl
theorem dX10_ends_13 : decode cX10_ends 13 = .ok (.aload_n 0, 1) := zo_42 (z_byk bcX10_ends_0 0 13 _ bcX10_ends_0_ok rfl)
theorem dX10_ends_14 : decode cX10_ends 14 = .ok (.getfield 165, 3) := zo_180 (z_byk bcX10_ends_0 0 14 _ bcX10_ends_0_ok rfl) (z_byk bcX10_ends_0 0 15 _ bcX10_ends_0_ok rfl) (z_byk bcX10_ends_0 0 16 _ bcX10_ends_0_ok rfl) rfl
theorem dX10_ends_17 : decode cX10_ends 17 = .ok (.ifCond .ne 7, 3) := zo_154 (z_byk bcX10_ends_0 0 17 _ bcX10_ends_0_ok rfl) (z_byk bcX10_ends_0 0 18 _ bcX10_ends_0_ok rfl) (z_byk bcX10_ends_0 0 19 _ bcX10_ends_0_ok rfl) rfl
theorem dX10_ends_20 : decode cX10_ends 20 = .ok (.aload_n 0, 1) := zo_42 (z_byk bcX10_ends_0 0 20 _ bcX10_ends_0_ok rfl)
theorem dX10_ends_21 : decode cX10_ends 21 = .ok (.invokevirtual 175, 3) := zo_182 (z_byk bcX10_ends_0 0 21 _ bcX10_ends_0_ok rfl) (z_byk bcX10_ends_0 0 22 _ bcX10_ends_0_ok rfl) (z_byk bcX10_ends_0 0 23 _ bcX10_ends_0_ok rfl) rfl
theorem dX10_ends_24 : decode cX10_ends 24 = .ok (.return_, 1) := zo_177 (z_byk bcX10_ends_0 0 24 _ bcX10_ends_0_ok rfl)
theorem dX10_ends_4 : decode cX10_ends 4 = .ok (.iconst 3, 1) := zo_6 (z_byk bcX10_ends_0 0 4 _ bcX10_ends_0_ok rfl)
theorem dX10_ends_5 : decode cX10_ends 5 = .ok (.if_icmp .eq 8, 3) := zo_159 (z_byk bcX10_ends_0 0 5 _ bcX10_ends_0_ok rfl) (z_byk bcX10_ends_0 0 6 _ bcX10_ends_0_ok rfl) (z_byk bcX10_ends_0 0 7 _ bcX10_ends_0_ok rfl) rfl
theorem dX10_ends_8 : decode cX10_ends 8 = .ok (.aload_n 0, 1) := zo_42 (z_byk bcX10_ends_0 0 8 _ bcX10_ends_0_ok rfl)
theorem dX10_ends_9 : decode cX10_ends 9 = .ok (.iconst 1, 1) := zo_4 (z_byk bcX10_ends_0 0 9 _ bcX10_ends_0_ok rfl)
def bcX10_isByte_0 : List Nat := [27, 42, 180, 0, 130, 162, 0, 27, 42, 180, 0, 23, 27, 51, 28, 161, 0, 17, 42, 180, 0, 23, 27, 51, 29, 163, 0, 7, 4, 167, 0, 4, 3, 172]
theorem bcX10_isByte_0_ok : z_bys cX10_isByte 0 bcX10_isByte_0 = true := by decide +kernel
theorem dX10_isByte_0 : decode cX10_isByte 0 = .ok (.iload_n 1, 1) := zo_27 (z_byk bcX10_isByte_0 0 0 _ bcX10_isByte_0_ok rfl)
theorem dX10_isByte_1 : decode cX10_isByte 1 = .ok (.aload_n 0, 1) := zo_42 (z_byk bcX10_isByte_0 0 1 _ bcX10_isByte_0_ok rfl)
theorem dX10_isByte_12 : decode cX10_isByte 12 = .ok (.iload_n 1, 1) := zo_27 (z_byk bcX10_isByte_0 0 12 _ bcX10_isByte_0_ok rfl)
theorem dX10_isByte_13 : decode cX10_isByte 13 = .ok (.baload, 1) := zo_51 (z_byk bcX10_isByte_0 0 13 _ bcX10_isByte_0_ok rfl)
theorem dX10_isByte_14 : decode cX10_isByte 14 = .ok (.iload_n 2, 1) := zo_28 (z_byk bcX10_isByte_0 0 14 _ bcX10_isByte_0_ok rfl)
theorem dX10_isByte_15 : decode cX10_isByte 15 = .ok (.if_icmp .lt 17, 3) := zo_161 (z_byk bcX10_isByte_0 0 15 _ bcX10_isByte_0_ok rfl) (z_byk bcX10_isByte_0 0 16 _ bcX10_isByte_0_ok rfl) (z_byk bcX10_isByte_0 0 17 _ bcX10_isByte_0_ok rfl) rfl
theorem dX10_isByte_18 : decode cX10_isByte 18 = .ok (.aload_n 0, 1) := zo_42 (z_byk bcX10_isByte_0 0 18 _ bcX10_isByte_0_ok rfl)
theorem dX10_isByte_19 : decode cX10_isByte 19 = .ok (.getfield 23, 3) := zo_180 (z_byk bcX10_isByte_0 0 19 _ bcX10_isByte_0_ok rfl) (z_byk bcX10_isByte_0 0 20 _ bcX10_isByte_0_ok rfl) (z_byk bcX10_isByte_0 0 21 _ bcX10_isByte_0_ok rfl) rfl
theorem dX10_isByte_2 : decode cX10_isByte 2 = .ok (.getfield 130, 3) := zo_180 (z_byk bcX10_isByte_0 0 2 _ bcX10_isByte_0_ok rfl) (z_byk bcX10_isByte_0 0 3 _ bcX10_isByte_0_ok rfl) (z_byk bcX10_isByte_0 0 4 _ bcX10_isByte_0_ok rfl) rfl
theorem dX10_isByte_22 : decode cX10_isByte 22 = .ok (.iload_n 1, 1) := zo_27 (z_byk bcX10_isByte_0 0 22 _ bcX10_isByte_0_ok rfl)
theorem dX10_isByte_23 : decode cX10_isByte 23 = .ok (.baload, 1) := zo_51 (z_byk bcX10_isByte_0 0 23 _ bcX10_isByte_0_ok rfl)
theorem dX10_isByte_24 : decode cX10_isByte 24 = .ok (.iload_n 3, 1) := zo_29 (z_byk bcX10_isByte_0 0 24 _ bcX10_isByte_0_ok rfl)
theorem dX10_isByte_25 : decode cX10_isByte 25 = .ok (.if_icmp .gt 7, 3) := zo_163 (z_byk bcX10_isByte_0 0 25 _ bcX10_isByte_0_ok rfl) (z_byk bcX10_isByte_0 0 26 _ bcX10_isByte_0_ok rfl) (z_byk bcX10_isByte_0 0 27 _ bcX10_isByte_0_ok rfl) rfl
theorem dX10_isByte_28 : decode cX10_isByte 28 = .ok (.iconst 1, 1) := zo_4 (z_byk bcX10_isByte_0 0 28 _ bcX10_isByte_0_ok rfl)
theorem dX10_isByte_29 : decode cX10_isByte 29 = .ok (.goto 4, 3) := zo_167 (z_byk bcX10_isByte_0 0 29 _ bcX10_isByte_0_ok rfl) (z_byk bcX10_isByte_0 0 30 _ bcX10_isByte_0_ok rfl) (z_byk bcX10_isByte_0 0 31 _ bcX10_isByte_0_ok rfl) rfl
theorem dX10_isByte_32 : decode cX10_isByte 32 = .ok (.iconst 0, 1) := zo_3 (z_byk bcX10_isByte_0 0 32 _ bcX10_isByte_0_ok rfl)
theorem dX10_isByte_33 : decode cX10_isByte 33 = .ok (.ireturn, 1) := zo_172 (z_byk bcX10_isByte_0 0 33 _ bcX10_isByte_0_ok rfl)
theorem dX10_isByte_5 : decode cX10_isByte 5 = .ok (.if_icmp .ge 27, 3) := zo_162 (z_byk bcX10_isByte_0 0 5 _ bcX10_isByte_0_ok rfl) (z_byk bcX10_isByte_0 0 6 _ bcX10_isByte_0_ok rfl) (z_byk bcX10_isByte_0 0 7 _ bcX10_isByte_0_ok rfl) rfl
theorem dX10_isByte_8 : decode cX10_isByte 8 = .ok (.aload_n 0, 1) := zo_42 (z_byk bcX10_isByte_0 0 8 _ bcX10_isByte_0_ok rfl)
theorem dX10_isByte_9 : decode cX10_isByte 9 = .ok (.getfield 23, 3) := zo_180 (z_byk bcX10_isByte_0 0 9 _ bcX10_isByte_0_ok rfl) (z_byk bcX10_isByte_0 0 10 _ bcX10_isByte_0_ok rfl) (z_byk bcX10_isByte_0 0 11 _ bcX10_isByte_0_ok rfl) rfl
def bcX10_isOver_0 : List Nat := [42, 3, 181, 0, 130, 42, 42, 180, 0, 165, 181, 0, 192, 42, 42, 180, 0, 165, 154, 0, 7, 2, 167, 0, 7, 42, 180, 0, 168, 181, 0, 27, 177]
theorem bcX10_isOver_0_ok : z_bys cX10_isOver 0 bcX10_isOver_0 = true := by decide +kernel
theorem dX10_isOver_0 : decode cX10_isOver 0 = .ok (.aload_n 0, 1) := zo_42 (z_byk bcX10_isOver_0 0 0 _ bcX10_isOver_0_ok rfl)
theorem dX10_isOver_1 : decode cX10_isOver 1 = .ok (.iconst 0, 1) := zo_3 (z_byk bcX10_isOver_0 0 1 _ bcX10_isOver_0_ok rfl)
theorem dX10_isOver_10 : decode cX10_isOver 10 = .ok (.putfield 192, 3) := zo_181 (z_byk bcX10_isOver_0 0 10 _ bcX10_isOver_0_ok rfl) (z_byk bcX10_isOver_0 0 11 _ bcX10_isOver_0_ok rfl) (z_byk bcX10_isOver_0 0 12 _ bcX10_isOver_0_ok rfl) rfl
theorem dX10_isOver_13 : decode cX10_isOver 13 = .ok (.aload_n 0, 1) := zo_42 (z_byk bcX10_isOver_0 0 13 _ bcX10_isOver_0_ok rfl)
theorem dX10_isOver_14 : decode cX10_isOver 14 = .ok (.aload_n 0, 1) := zo_42 (z_byk bcX10_isOver_0 0 14 _ bcX10_isOver_0_ok rfl)
theorem dX10_isOver_15 : decode cX10_isOver 15 = .ok (.getfield 165, 3) := zo_180 (z_byk bcX10_isOver_0 0 15 _ bcX10_isOver_0_ok rfl) (z_byk bcX10_isOver_0 0 16 _ bcX10_isOver_0_ok rfl) (z_byk bcX10_isOver_0 0 17 _ bcX10_isOver_0_ok rfl) rfl
theorem dX10_isOver_18 : decode cX10_isOver 18 = .ok (.ifCond .ne 7, 3) := zo_154 (z_byk bcX10_isOver_0 0 18 _ bcX10_isOver_0_ok rfl) (z_byk bcX10_isOver_0 0 19 _ bcX10_isOver_0_ok rfl) (z_byk bcX10_isOver_0 0 20 _ bcX10_isOver_0_ok rfl) rfl
theorem dX10_isOver_2 : decode cX10_isOver 2 = .ok (.putfield 130, 3) := zo_181 (z_byk bcX10_isOver_0 0 2 _ bcX10_isOver_0_ok rfl) (z_byk bcX10_isOver_0 0 3 _ bcX10_isOver_0_ok rfl) (z_byk bcX10_isOver_0 0 4 _ bcX10_isOver_0_ok rfl) rfl
theorem dX10_isOver_21 : decode cX10_isOver 21 = .ok (.iconst (-1), 1) := zo_2 (z_byk bcX10_isOver_0 0 21 _ bcX10_isOver_0_ok rfl)
theorem dX10_isOver_22 : decode cX10_isOver 22 = .ok (.goto 7, 3) := zo_167 (z_byk bcX10_isOver_0 0 22 _ bcX10_isOver_0_ok rfl) (z_byk bcX10_isOver_0 0 23 _ bcX10_isOver_0_ok rfl) (z_byk bcX10_isOver_0 0 24 _ bcX10_isOver_0_ok rfl) rfl
theorem dX10_isOver_25 : decode cX10_isOver 25 = .ok (.aload_n 0, 1) := zo_42 (z_byk bcX10_isOver_0 0 25 _ bcX10_isOver_0_ok rfl)
theorem dX10_isOver_26 : decode cX10_isOver 26 = .ok (.getfield 168, 3) := zo_180 (z_byk bcX10_isOver_0 0 26 _ bcX10_isOver_0_ok rfl) (z_byk bcX10_isOver_0 0 27 _ bcX10_isOver_0_ok rfl) (z_byk bcX10_isOver_0 0 28 _ bcX10_isOver_0_ok rfl) rfl
theorem dX10_isOver_29 : decode cX10_isOver 29 = .ok (.putfield 27, 3) := zo_181 (z_byk bcX10_isOver_0 0 29 _ bcX10_isOver_0_ok rfl) (z_byk bcX10_isOver_0 0 30 _ bcX10_isOver_0_ok rfl) (z_byk bcX10_isOver_0 0 31 _ bcX10_isOver_0_ok rfl) rfl
theorem dX10_isOver_32 : decode cX10_isOver 32 = .ok (.return_, 1) := zo_177 (z_byk bcX10_isOver_0 0 32 _ bcX10_isOver_0_ok rfl)
theorem dX10_isOver_5 : decode cX10_isOver 5 = .ok (.aload_n 0, 1) := zo_42 (z_byk bcX10_isOver_0 0 5 _ bcX10_isOver_0_ok rfl)
theorem dX10_isOver_6 : decode cX10_isOver 6 = .ok (.aload_n 0, 1) := zo_42 (z_byk bcX10_isOver_0 0 6 _ bcX10_isOver_0_ok rfl)
theorem dX10_isOver_7 : decode cX10_isOver 7 = .ok (.getfield 165, 3) := zo_180 (z_byk bcX10_isOver_0 0 7 _ bcX10_isOver_0_ok rfl) (z_byk bcX10_isOver_0 0 8 _ bcX10_isOver_0_ok rfl) (z_byk bcX10_isOver_0 0 9 _ bcX10_isOver_0_ok rfl) rfl
def bcX10_next_0 : List Nat := [42, 42, 180, 0, 137, 16, 32, 16, 32, 182, 0, 140, 154, 0, 18, 42, 42, 180, 0, 137, 16, 10, 16, 10, 182, 0, 140, 153, 0, 16, 42, 89, 180, 0, 137, 4, 96, 181, 0, 137, 167, 255, 216, 42, 42, 180, 0, 137, 181, 0, 144, 42, 3, 181, 0, 147, 42, 9, 181, 0]
theorem bcX10_next_0_ok : z_bys cX10_next 0 bcX10_next_0 = true := by decide +kernel
def bcX10_next_60 : List Nat := [150, 42, 180, 0, 137, 42, 180, 0, 130, 160, 0, 11, 42, 3, 181, 0, 154, 167, 0, 230, 42, 42, 180, 0, 137, 16, 97, 16, 122, 182, 0, 140, 153, 0, 96, 42, 4, 181, 0, 154, 3, 60, 42, 42, 180, 0, 137, 16, 97, 16, 122, 182, 0, 140, 153, 0, 71, 42, 27, 16]
theorem bcX10_next_60_ok : z_bys cX10_next 60 bcX10_next_60 = true := by decide +kernel
def bcX10_next_120 : List Nat := [11, 164, 0, 9, 20, 0, 157, 167, 0, 26, 20, 0, 159, 42, 180, 0, 150, 105, 42, 180, 0, 23, 42, 180, 0, 137, 51, 133, 97, 20, 0, 161, 101, 181, 0, 150, 27, 16, 11, 164, 0, 10, 42, 20, 0, 157, 181, 0, 150, 42, 89, 180, 0, 137, 4, 96, 181, 0, 137, 132]
theorem bcX10_next_120_ok : z_bys cX10_next 120 bcX10_next_120 = true := by decide +kernel
def bcX10_next_180 : List Nat := [1, 1, 167, 255, 176, 167, 0, 122, 42, 42, 180, 0, 137, 16, 48, 16, 57, 182, 0, 140, 153, 0, 74, 42, 5, 181, 0, 154, 42, 42, 180, 0, 137, 16, 48, 16, 57, 182, 0, 140, 153, 0, 87, 42, 42, 180, 0, 147, 18, 163, 164, 0, 8, 18, 164, 167, 0, 23, 16, 10]
theorem bcX10_next_180_ok : z_bys cX10_next 180 bcX10_next_180 = true := by decide +kernel
def bcX10_next_240 : List Nat := [42, 180, 0, 147, 104, 42, 180, 0, 23, 42, 180, 0, 137, 51, 96, 16, 48, 100, 181, 0, 147, 42, 89, 180, 0, 137, 4, 96, 181, 0, 137, 167, 255, 193, 42, 42, 180, 0, 23, 42, 180, 0, 137, 51, 16, 59, 160, 0, 7, 6, 167, 0, 4, 7, 181, 0, 154, 42, 89, 180]
theorem bcX10_next_240_ok : z_bys cX10_next 240 bcX10_next_240 = true := by decide +kernel
def bcX10_next_300 : List Nat := [0, 137, 4, 96, 181, 0, 137, 177]
theorem bcX10_next_300_ok : z_bys cX10_next 300 bcX10_next_300 = true := by decide +kernel
theorem dX10_next_0 : decode cX10_next 0 = .ok (.aload_n 0, 1) := zo_42 (z_byk bcX10_next_0 0 0 _ bcX10_next_0_ok rfl)
theorem dX10_next_1 : decode cX10_next 1 = .ok (.aload_n 0, 1) := zo_42 (z_byk bcX10_next_0 0 1 _ bcX10_next_0_ok rfl)
theorem dX10_next_100 : decode cX10_next 100 = .ok (.iconst 0, 1) := zo_3 (z_byk bcX10_next_60 60 40 _ bcX10_next_60_ok rfl)
theorem dX10_next_101 : decode cX10_next 101 = .ok (.istore_n 1, 1) := zo_60 (z_byk bcX10_next_60 60 41 _ bcX10_next_60_ok rfl)
theorem dX10_next_102 : decode cX10_next 102 = .ok (.aload_n 0, 1) := zo_42 (z_byk bcX10_next_60 60 42 _ bcX10_next_60_ok rfl)
theorem dX10_next_103 : decode cX10_next 103 = .ok (.aload_n 0, 1) := zo_42 (z_byk bcX10_next_60 60 43 _ bcX10_next_60_ok rfl)
theorem dX10_next_104 : decode cX10_next 104 = .ok (.getfield 137, 3) := zo_180 (z_byk bcX10_next_60 60 44 _ bcX10_next_60_ok rfl) (z_byk bcX10_next_60 60 45 _ bcX10_next_60_ok rfl) (z_byk bcX10_next_60 60 46 _ bcX10_next_60_ok rfl) rfl
theorem dX10_next_107 : decode cX10_next 107 = .ok (.bipush 97, 2) := zo_16 (z_byk bcX10_next_60 60 47 _ bcX10_next_60_ok rfl) (z_byk bcX10_next_60 60 48 _ bcX10_next_60_ok rfl) rfl
theorem dX10_next_109 : decode cX10_next 109 = .ok (.bipush 122, 2) := zo_16 (z_byk bcX10_next_60 60 49 _ bcX10_next_60_ok rfl) (z_byk bcX10_next_60 60 50 _ bcX10_next_60_ok rfl) rfl
theorem dX10_next_111 : decode cX10_next 111 = .ok (.invokevirtual 140, 3) := zo_182 (z_byk bcX10_next_60 60 51 _ bcX10_next_60_ok rfl) (z_byk bcX10_next_60 60 52 _ bcX10_next_60_ok rfl) (z_byk bcX10_next_60 60 53 _ bcX10_next_60_ok rfl) rfl
theorem dX10_next_114 : decode cX10_next 114 = .ok (.ifCond .eq 71, 3) := zo_153 (z_byk bcX10_next_60 60 54 _ bcX10_next_60_ok rfl) (z_byk bcX10_next_60 60 55 _ bcX10_next_60_ok rfl) (z_byk bcX10_next_60 60 56 _ bcX10_next_60_ok rfl) rfl
theorem dX10_next_117 : decode cX10_next 117 = .ok (.aload_n 0, 1) := zo_42 (z_byk bcX10_next_60 60 57 _ bcX10_next_60_ok rfl)
theorem dX10_next_118 : decode cX10_next 118 = .ok (.iload_n 1, 1) := zo_27 (z_byk bcX10_next_60 60 58 _ bcX10_next_60_ok rfl)
theorem dX10_next_119 : decode cX10_next 119 = .ok (.bipush 11, 2) := zo_16 (z_byk bcX10_next_60 60 59 _ bcX10_next_60_ok rfl) (z_byk bcX10_next_120 120 0 _ bcX10_next_120_ok rfl) rfl
theorem dX10_next_12 : decode cX10_next 12 = .ok (.ifCond .ne 18, 3) := zo_154 (z_byk bcX10_next_0 0 12 _ bcX10_next_0_ok rfl) (z_byk bcX10_next_0 0 13 _ bcX10_next_0_ok rfl) (z_byk bcX10_next_0 0 14 _ bcX10_next_0_ok rfl) rfl
theorem dX10_next_121 : decode cX10_next 121 = .ok (.if_icmp .le 9, 3) := zo_164 (z_byk bcX10_next_120 120 1 _ bcX10_next_120_ok rfl) (z_byk bcX10_next_120 120 2 _ bcX10_next_120_ok rfl) (z_byk bcX10_next_120 120 3 _ bcX10_next_120_ok rfl) rfl
theorem dX10_next_124 : decode cX10_next 124 = .ok (.ldc2_w 157, 3) := zo_20 (z_byk bcX10_next_120 120 4 _ bcX10_next_120_ok rfl) (z_byk bcX10_next_120 120 5 _ bcX10_next_120_ok rfl) (z_byk bcX10_next_120 120 6 _ bcX10_next_120_ok rfl) rfl
theorem dX10_next_127 : decode cX10_next 127 = .ok (.goto 26, 3) := zo_167 (z_byk bcX10_next_120 120 7 _ bcX10_next_120_ok rfl) (z_byk bcX10_next_120 120 8 _ bcX10_next_120_ok rfl) (z_byk bcX10_next_120 120 9 _ bcX10_next_120_ok rfl) rfl
theorem dX10_next_130 : decode cX10_next 130 = .ok (.ldc2_w 159, 3) := zo_20 (z_byk bcX10_next_120 120 10 _ bcX10_next_120_ok rfl) (z_byk bcX10_next_120 120 11 _ bcX10_next_120_ok rfl) (z_byk bcX10_next_120 120 12 _ bcX10_next_120_ok rfl) rfl
theorem dX10_next_133 : decode cX10_next 133 = .ok (.aload_n 0, 1) := zo_42 (z_byk bcX10_next_120 120 13 _ bcX10_next_120_ok rfl)
theorem dX10_next_134 : decode cX10_next 134 = .ok (.getfield 150, 3) := zo_180 (z_byk bcX10_next_120 120 14 _ bcX10_next_120_ok rfl) (z_byk bcX10_next_120 120 15 _ bcX10_next_120_ok rfl) (z_byk bcX10_next_120 120 16 _ bcX10_next_120_ok rfl) rfl
theorem dX10_next_137 : decode cX10_next 137 = .ok (.lmul, 1) := zo_105 (z_byk bcX10_next_120 120 17 _ bcX10_next_120_ok rfl)
theorem dX10_next_138 : decode cX10_next 138 = .ok (.aload_n 0, 1) := zo_42 (z_byk bcX10_next_120 120 18 _ bcX10_next_120_ok rfl)
theorem dX10_next_139 : decode cX10_next 139 = .ok (.getfield 23, 3) := zo_180 (z_byk bcX10_next_120 120 19 _ bcX10_next_120_ok rfl) (z_byk bcX10_next_120 120 20 _ bcX10_next_120_ok rfl) (z_byk bcX10_next_120 120 21 _ bcX10_next_120_ok rfl) rfl
theorem dX10_next_142 : decode cX10_next 142 = .ok (.aload_n 0, 1) := zo_42 (z_byk bcX10_next_120 120 22 _ bcX10_next_120_ok rfl)
theorem dX10_next_143 : decode cX10_next 143 = .ok (.getfield 137, 3) := zo_180 (z_byk bcX10_next_120 120 23 _ bcX10_next_120_ok rfl) (z_byk bcX10_next_120 120 24 _ bcX10_next_120_ok rfl) (z_byk bcX10_next_120 120 25 _ bcX10_next_120_ok rfl) rfl
theorem dX10_next_146 : decode cX10_next 146 = .ok (.baload, 1) := zo_51 (z_byk bcX10_next_120 120 26 _ bcX10_next_120_ok rfl)
theorem dX10_next_147 : decode cX10_next 147 = .ok (.i2l, 1) := zo_133 (z_byk bcX10_next_120 120 27 _ bcX10_next_120_ok rfl)
theorem dX10_next_148 : decode cX10_next 148 = .ok (.ladd, 1) := zo_97 (z_byk bcX10_next_120 120 28 _ bcX10_next_120_ok rfl)
theorem dX10_next_149 : decode cX10_next 149 = .ok (.ldc2_w 161, 3) := zo_20 (z_byk bcX10_next_120 120 29 _ bcX10_next_120_ok rfl) (z_byk bcX10_next_120 120 30 _ bcX10_next_120_ok rfl) (z_byk bcX10_next_120 120 31 _ bcX10_next_120_ok rfl) rfl
theorem dX10_next_15 : decode cX10_next 15 = .ok (.aload_n 0, 1) := zo_42 (z_byk bcX10_next_0 0 15 _ bcX10_next_0_ok rfl)
theorem dX10_next_152 : decode cX10_next 152 = .ok (.lsub, 1) := zo_101 (z_byk bcX10_next_120 120 32 _ bcX10_next_120_ok rfl)
theorem dX10_next_153 : decode cX10_next 153 = .ok (.putfield 150, 3) := zo_181 (z_byk bcX10_next_120 120 33 _ bcX10_next_120_ok rfl) (z_byk bcX10_next_120 120 34 _ bcX10_next_120_ok rfl) (z_byk bcX10_next_120 120 35 _ bcX10_next_120_ok rfl) rfl
theorem dX10_next_156 : decode cX10_next 156 = .ok (.iload_n 1, 1) := zo_27 (z_byk bcX10_next_120 120 36 _ bcX10_next_120_ok rfl)
theorem dX10_next_157 : decode cX10_next 157 = .ok (.bipush 11, 2) := zo_16 (z_byk bcX10_next_120 120 37 _ bcX10_next_120_ok rfl) (z_byk bcX10_next_120 120 38 _ bcX10_next_120_ok rfl) rfl
theorem dX10_next_159 : decode cX10_next 159 = .ok (.if_icmp .le 10, 3) := zo_164 (z_byk bcX10_next_120 120 39 _ bcX10_next_120_ok rfl) (z_byk bcX10_next_120 120 40 _ bcX10_next_120_ok rfl) (z_byk bcX10_next_120 120 41 _ bcX10_next_120_ok rfl) rfl
theorem dX10_next_16 : decode cX10_next 16 = .ok (.aload_n 0, 1) := zo_42 (z_byk bcX10_next_0 0 16 _ bcX10_next_0_ok rfl)
theorem dX10_next_162 : decode cX10_next 162 = .ok (.aload_n 0, 1) := zo_42 (z_byk bcX10_next_120 120 42 _ bcX10_next_120_ok rfl)
theorem dX10_next_163 : decode cX10_next 163 = .ok (.ldc2_w 157, 3) := zo_20 (z_byk bcX10_next_120 120 43 _ bcX10_next_120_ok rfl) (z_byk bcX10_next_120 120 44 _ bcX10_next_120_ok rfl) (z_byk bcX10_next_120 120 45 _ bcX10_next_120_ok rfl) rfl
theorem dX10_next_166 : decode cX10_next 166 = .ok (.putfield 150, 3) := zo_181 (z_byk bcX10_next_120 120 46 _ bcX10_next_120_ok rfl) (z_byk bcX10_next_120 120 47 _ bcX10_next_120_ok rfl) (z_byk bcX10_next_120 120 48 _ bcX10_next_120_ok rfl) rfl
theorem dX10_next_169 : decode cX10_next 169 = .ok (.aload_n 0, 1) := zo_42 (z_byk bcX10_next_120 120 49 _ bcX10_next_120_ok rfl)
theorem dX10_next_17 : decode cX10_next 17 = .ok (.getfield 137, 3) := zo_180 (z_byk bcX10_next_0 0 17 _ bcX10_next_0_ok rfl) (z_byk bcX10_next_0 0 18 _ bcX10_next_0_ok rfl) (z_byk bcX10_next_0 0 19 _ bcX10_next_0_ok rfl) rfl
theorem dX10_next_170 : decode cX10_next 170 = .ok (.dup, 1) := zo_89 (z_byk bcX10_next_120 120 50 _ bcX10_next_120_ok rfl)
theorem dX10_next_171 : decode cX10_next 171 = .ok (.getfield 137, 3) := zo_180 (z_byk bcX10_next_120 120 51 _ bcX10_next_120_ok rfl) (z_byk bcX10_next_120 120 52 _ bcX10_next_120_ok rfl) (z_byk bcX10_next_120 120 53 _ bcX10_next_120_ok rfl) rfl
theorem dX10_next_174 : decode cX10_next 174 = .ok (.iconst 1, 1) := zo_4 (z_byk bcX10_next_120 120 54 _ bcX10_next_120_ok rfl)
theorem dX10_next_175 : decode cX10_next 175 = .ok (.iadd, 1) := zo_96 (z_byk bcX10_next_120 120 55 _ bcX10_next_120_ok rfl)
theorem dX10_next_176 : decode cX10_next 176 = .ok (.putfield 137, 3) := zo_181 (z_byk bcX10_next_120 120 56 _ bcX10_next_120_ok rfl) (z_byk bcX10_next_120 120 57 _ bcX10_next_120_ok rfl) (z_byk bcX10_next_120 120 58 _ bcX10_next_120_ok rfl) rfl
theorem dX10_next_179 : decode cX10_next 179 = .ok (.iinc 1 1, 3) := zo_132 (z_byk bcX10_next_120 120 59 _ bcX10_next_120_ok rfl) (z_byk bcX10_next_180 180 0 _ bcX10_next_180_ok rfl) (z_byk bcX10_next_180 180 1 _ bcX10_next_180_ok rfl) rfl
theorem dX10_next_182 : decode cX10_next 182 = .ok (.goto (-80), 3) := zo_167 (z_byk bcX10_next_180 180 2 _ bcX10_next_180_ok rfl) (z_byk bcX10_next_180 180 3 _ bcX10_next_180_ok rfl) (z_byk bcX10_next_180 180 4 _ bcX10_next_180_ok rfl) rfl
theorem dX10_next_185 : decode cX10_next 185 = .ok (.goto 122, 3) := zo_167 (z_byk bcX10_next_180 180 5 _ bcX10_next_180_ok rfl) (z_byk bcX10_next_180 180 6 _ bcX10_next_180_ok rfl) (z_byk bcX10_next_180 180 7 _ bcX10_next_180_ok rfl) rfl
theorem dX10_next_188 : decode cX10_next 188 = .ok (.aload_n 0, 1) := zo_42 (z_byk bcX10_next_180 180 8 _ bcX10_next_180_ok rfl)
theorem dX10_next_189 : decode cX10_next 189 = .ok (.aload_n 0, 1) := zo_42 (z_byk bcX10_next_180 180 9 _ bcX10_next_180_ok rfl)
theorem dX10_next_190 : decode cX10_next 190 = .ok (.getfield 137, 3) := zo_180 (z_byk bcX10_next_180 180 10 _ bcX10_next_180_ok rfl) (z_byk bcX10_next_180 180 11 _ bcX10_next_180_ok rfl) (z_byk bcX10_next_180 180 12 _ bcX10_next_180_ok rfl) rfl
theorem dX10_next_193 : decode cX10_next 193 = .ok (.bipush 48, 2) := zo_16 (z_byk bcX10_next_180 180 13 _ bcX10_next_180_ok rfl) (z_byk bcX10_next_180 180 14 _ bcX10_next_180_ok rfl) rfl
theorem dX10_next_195 : decode cX10_next 195 = .ok (.bipush 57, 2) := zo_16 (z_byk bcX10_next_180 180 15 _ bcX10_next_180_ok rfl) (z_byk bcX10_next_180 180 16 _ bcX10_next_180_ok rfl) rfl
theorem dX10_next_197 : decode cX10_next 197 = .ok (.invokevirtual 140, 3) := zo_182 (z_byk bcX10_next_180 180 17 _ bcX10_next_180_ok rfl) (z_byk bcX10_next_180 180 18 _ bcX10_next_180_ok rfl) (z_byk bcX10_next_180 180 19 _ bcX10_next_180_ok rfl) rfl
theorem dX10_next_2 : decode cX10_next 2 = .ok (.getfield 137, 3) := zo_180 (z_byk bcX10_next_0 0 2 _ bcX10_next_0_ok rfl) (z_byk bcX10_next_0 0 3 _ bcX10_next_0_ok rfl) (z_byk bcX10_next_0 0 4 _ bcX10_next_0_ok rfl) rfl
theorem dX10_next_20 : decode cX10_next 20 = .ok (.bipush 10, 2) := zo_16 (z_byk bcX10_next_0 0 20 _ bcX10_next_0_ok rfl) (z_byk bcX10_next_0 0 21 _ bcX10_next_0_ok rfl) rfl
theorem dX10_next_200 : decode cX10_next 200 = .ok (.ifCond .eq 74, 3) := zo_153 (z_byk bcX10_next_180 180 20 _ bcX10_next_180_ok rfl) (z_byk bcX10_next_180 180 21 _ bcX10_next_180_ok rfl) (z_byk bcX10_next_180 180 22 _ bcX10_next_180_ok rfl) rfl
theorem dX10_next_203 : decode cX10_next 203 = .ok (.aload_n 0, 1) := zo_42 (z_byk bcX10_next_180 180 23 _ bcX10_next_180_ok rfl)
theorem dX10_next_204 : decode cX10_next 204 = .ok (.iconst 2, 1) := zo_5 (z_byk bcX10_next_180 180 24 _ bcX10_next_180_ok rfl)
theorem dX10_next_205 : decode cX10_next 205 = .ok (.putfield 154, 3) := zo_181 (z_byk bcX10_next_180 180 25 _ bcX10_next_180_ok rfl) (z_byk bcX10_next_180 180 26 _ bcX10_next_180_ok rfl) (z_byk bcX10_next_180 180 27 _ bcX10_next_180_ok rfl) rfl
theorem dX10_next_208 : decode cX10_next 208 = .ok (.aload_n 0, 1) := zo_42 (z_byk bcX10_next_180 180 28 _ bcX10_next_180_ok rfl)
theorem dX10_next_209 : decode cX10_next 209 = .ok (.aload_n 0, 1) := zo_42 (z_byk bcX10_next_180 180 29 _ bcX10_next_180_ok rfl)
theorem dX10_next_210 : decode cX10_next 210 = .ok (.getfield 137, 3) := zo_180 (z_byk bcX10_next_180 180 30 _ bcX10_next_180_ok rfl) (z_byk bcX10_next_180 180 31 _ bcX10_next_180_ok rfl) (z_byk bcX10_next_180 180 32 _ bcX10_next_180_ok rfl) rfl
theorem dX10_next_213 : decode cX10_next 213 = .ok (.bipush 48, 2) := zo_16 (z_byk bcX10_next_180 180 33 _ bcX10_next_180_ok rfl) (z_byk bcX10_next_180 180 34 _ bcX10_next_180_ok rfl) rfl
theorem dX10_next_215 : decode cX10_next 215 = .ok (.bipush 57, 2) := zo_16 (z_byk bcX10_next_180 180 35 _ bcX10_next_180_ok rfl) (z_byk bcX10_next_180 180 36 _ bcX10_next_180_ok rfl) rfl
theorem dX10_next_217 : decode cX10_next 217 = .ok (.invokevirtual 140, 3) := zo_182 (z_byk bcX10_next_180 180 37 _ bcX10_next_180_ok rfl) (z_byk bcX10_next_180 180 38 _ bcX10_next_180_ok rfl) (z_byk bcX10_next_180 180 39 _ bcX10_next_180_ok rfl) rfl
theorem dX10_next_22 : decode cX10_next 22 = .ok (.bipush 10, 2) := zo_16 (z_byk bcX10_next_0 0 22 _ bcX10_next_0_ok rfl) (z_byk bcX10_next_0 0 23 _ bcX10_next_0_ok rfl) rfl
theorem dX10_next_220 : decode cX10_next 220 = .ok (.ifCond .eq 87, 3) := zo_153 (z_byk bcX10_next_180 180 40 _ bcX10_next_180_ok rfl) (z_byk bcX10_next_180 180 41 _ bcX10_next_180_ok rfl) (z_byk bcX10_next_180 180 42 _ bcX10_next_180_ok rfl) rfl
theorem dX10_next_223 : decode cX10_next 223 = .ok (.aload_n 0, 1) := zo_42 (z_byk bcX10_next_180 180 43 _ bcX10_next_180_ok rfl)
theorem dX10_next_224 : decode cX10_next 224 = .ok (.aload_n 0, 1) := zo_42 (z_byk bcX10_next_180 180 44 _ bcX10_next_180_ok rfl)
theorem dX10_next_225 : decode cX10_next 225 = .ok (.getfield 147, 3) := zo_180 (z_byk bcX10_next_180 180 45 _ bcX10_next_180_ok rfl) (z_byk bcX10_next_180 180 46 _ bcX10_next_180_ok rfl) (z_byk bcX10_next_180 180 47 _ bcX10_next_180_ok rfl) rfl
theorem dX10_next_228 : decode cX10_next 228 = .ok (.ldc 163, 2) := zo_18 (z_byk bcX10_next_180 180 48 _ bcX10_next_180_ok rfl) (z_byk bcX10_next_180 180 49 _ bcX10_next_180_ok rfl)
theorem dX10_next_230 : decode cX10_next 230 = .ok (.if_icmp .le 8, 3) := zo_164 (z_byk bcX10_next_180 180 50 _ bcX10_next_180_ok rfl) (z_byk bcX10_next_180 180 51 _ bcX10_next_180_ok rfl) (z_byk bcX10_next_180 180 52 _ bcX10_next_180_ok rfl) rfl
theorem dX10_next_233 : decode cX10_next 233 = .ok (.ldc 164, 2) := zo_18 (z_byk bcX10_next_180 180 53 _ bcX10_next_180_ok rfl) (z_byk bcX10_next_180 180 54 _ bcX10_next_180_ok rfl)
theorem dX10_next_235 : decode cX10_next 235 = .ok (.goto 23, 3) := zo_167 (z_byk bcX10_next_180 180 55 _ bcX10_next_180_ok rfl) (z_byk bcX10_next_180 180 56 _ bcX10_next_180_ok rfl) (z_byk bcX10_next_180 180 57 _ bcX10_next_180_ok rfl) rfl
theorem dX10_next_238 : decode cX10_next 238 = .ok (.bipush 10, 2) := zo_16 (z_byk bcX10_next_180 180 58 _ bcX10_next_180_ok rfl) (z_byk bcX10_next_180 180 59 _ bcX10_next_180_ok rfl) rfl
theorem dX10_next_24 : decode cX10_next 24 = .ok (.invokevirtual 140, 3) := zo_182 (z_byk bcX10_next_0 0 24 _ bcX10_next_0_ok rfl) (z_byk bcX10_next_0 0 25 _ bcX10_next_0_ok rfl) (z_byk bcX10_next_0 0 26 _ bcX10_next_0_ok rfl) rfl
theorem dX10_next_240 : decode cX10_next 240 = .ok (.aload_n 0, 1) := zo_42 (z_byk bcX10_next_240 240 0 _ bcX10_next_240_ok rfl)
theorem dX10_next_241 : decode cX10_next 241 = .ok (.getfield 147, 3) := zo_180 (z_byk bcX10_next_240 240 1 _ bcX10_next_240_ok rfl) (z_byk bcX10_next_240 240 2 _ bcX10_next_240_ok rfl) (z_byk bcX10_next_240 240 3 _ bcX10_next_240_ok rfl) rfl
theorem dX10_next_244 : decode cX10_next 244 = .ok (.imul, 1) := zo_104 (z_byk bcX10_next_240 240 4 _ bcX10_next_240_ok rfl)
theorem dX10_next_245 : decode cX10_next 245 = .ok (.aload_n 0, 1) := zo_42 (z_byk bcX10_next_240 240 5 _ bcX10_next_240_ok rfl)
theorem dX10_next_246 : decode cX10_next 246 = .ok (.getfield 23, 3) := zo_180 (z_byk bcX10_next_240 240 6 _ bcX10_next_240_ok rfl) (z_byk bcX10_next_240 240 7 _ bcX10_next_240_ok rfl) (z_byk bcX10_next_240 240 8 _ bcX10_next_240_ok rfl) rfl
theorem dX10_next_249 : decode cX10_next 249 = .ok (.aload_n 0, 1) := zo_42 (z_byk bcX10_next_240 240 9 _ bcX10_next_240_ok rfl)
theorem dX10_next_250 : decode cX10_next 250 = .ok (.getfield 137, 3) := zo_180 (z_byk bcX10_next_240 240 10 _ bcX10_next_240_ok rfl) (z_byk bcX10_next_240 240 11 _ bcX10_next_240_ok rfl) (z_byk bcX10_next_240 240 12 _ bcX10_next_240_ok rfl) rfl
theorem dX10_next_253 : decode cX10_next 253 = .ok (.baload, 1) := zo_51 (z_byk bcX10_next_240 240 13 _ bcX10_next_240_ok rfl)
theorem dX10_next_254 : decode cX10_next 254 = .ok (.iadd, 1) := zo_96 (z_byk bcX10_next_240 240 14 _ bcX10_next_240_ok rfl)
theorem dX10_next_255 : decode cX10_next 255 = .ok (.bipush 48, 2) := zo_16 (z_byk bcX10_next_240 240 15 _ bcX10_next_240_ok rfl) (z_byk bcX10_next_240 240 16 _ bcX10_next_240_ok rfl) rfl
theorem dX10_next_257 : decode cX10_next 257 = .ok (.isub, 1) := zo_100 (z_byk bcX10_next_240 240 17 _ bcX10_next_240_ok rfl)
theorem dX10_next_258 : decode cX10_next 258 = .ok (.putfield 147, 3) := zo_181 (z_byk bcX10_next_240 240 18 _ bcX10_next_240_ok rfl) (z_byk bcX10_next_240 240 19 _ bcX10_next_240_ok rfl) (z_byk bcX10_next_240 240 20 _ bcX10_next_240_ok rfl) rfl
theorem dX10_next_261 : decode cX10_next 261 = .ok (.aload_n 0, 1) := zo_42 (z_byk bcX10_next_240 240 21 _ bcX10_next_240_ok rfl)
theorem dX10_next_262 : decode cX10_next 262 = .ok (.dup, 1) := zo_89 (z_byk bcX10_next_240 240 22 _ bcX10_next_240_ok rfl)
theorem dX10_next_263 : decode cX10_next 263 = .ok (.getfield 137, 3) := zo_180 (z_byk bcX10_next_240 240 23 _ bcX10_next_240_ok rfl) (z_byk bcX10_next_240 240 24 _ bcX10_next_240_ok rfl) (z_byk bcX10_next_240 240 25 _ bcX10_next_240_ok rfl) rfl
theorem dX10_next_266 : decode cX10_next 266 = .ok (.iconst 1, 1) := zo_4 (z_byk bcX10_next_240 240 26 _ bcX10_next_240_ok rfl)
theorem dX10_next_267 : decode cX10_next 267 = .ok (.iadd, 1) := zo_96 (z_byk bcX10_next_240 240 27 _ bcX10_next_240_ok rfl)
theorem dX10_next_268 : decode cX10_next 268 = .ok (.putfield 137, 3) := zo_181 (z_byk bcX10_next_240 240 28 _ bcX10_next_240_ok rfl) (z_byk bcX10_next_240 240 29 _ bcX10_next_240_ok rfl) (z_byk bcX10_next_240 240 30 _ bcX10_next_240_ok rfl) rfl
theorem dX10_next_27 : decode cX10_next 27 = .ok (.ifCond .eq 16, 3) := zo_153 (z_byk bcX10_next_0 0 27 _ bcX10_next_0_ok rfl) (z_byk bcX10_next_0 0 28 _ bcX10_next_0_ok rfl) (z_byk bcX10_next_0 0 29 _ bcX10_next_0_ok rfl) rfl
theorem dX10_next_271 : decode cX10_next 271 = .ok (.goto (-63), 3) := zo_167 (z_byk bcX10_next_240 240 31 _ bcX10_next_240_ok rfl) (z_byk bcX10_next_240 240 32 _ bcX10_next_240_ok rfl) (z_byk bcX10_next_240 240 33 _ bcX10_next_240_ok rfl) rfl
theorem dX10_next_274 : decode cX10_next 274 = .ok (.aload_n 0, 1) := zo_42 (z_byk bcX10_next_240 240 34 _ bcX10_next_240_ok rfl)
theorem dX10_next_275 : decode cX10_next 275 = .ok (.aload_n 0, 1) := zo_42 (z_byk bcX10_next_240 240 35 _ bcX10_next_240_ok rfl)
theorem dX10_next_276 : decode cX10_next 276 = .ok (.getfield 23, 3) := zo_180 (z_byk bcX10_next_240 240 36 _ bcX10_next_240_ok rfl) (z_byk bcX10_next_240 240 37 _ bcX10_next_240_ok rfl) (z_byk bcX10_next_240 240 38 _ bcX10_next_240_ok rfl) rfl
theorem dX10_next_279 : decode cX10_next 279 = .ok (.aload_n 0, 1) := zo_42 (z_byk bcX10_next_240 240 39 _ bcX10_next_240_ok rfl)
theorem dX10_next_280 : decode cX10_next 280 = .ok (.getfield 137, 3) := zo_180 (z_byk bcX10_next_240 240 40 _ bcX10_next_240_ok rfl) (z_byk bcX10_next_240 240 41 _ bcX10_next_240_ok rfl) (z_byk bcX10_next_240 240 42 _ bcX10_next_240_ok rfl) rfl
theorem dX10_next_283 : decode cX10_next 283 = .ok (.baload, 1) := zo_51 (z_byk bcX10_next_240 240 43 _ bcX10_next_240_ok rfl)
theorem dX10_next_284 : decode cX10_next 284 = .ok (.bipush 59, 2) := zo_16 (z_byk bcX10_next_240 240 44 _ bcX10_next_240_ok rfl) (z_byk bcX10_next_240 240 45 _ bcX10_next_240_ok rfl) rfl
theorem dX10_next_286 : decode cX10_next 286 = .ok (.if_icmp .ne 7, 3) := zo_160 (z_byk bcX10_next_240 240 46 _ bcX10_next_240_ok rfl) (z_byk bcX10_next_240 240 47 _ bcX10_next_240_ok rfl) (z_byk bcX10_next_240 240 48 _ bcX10_next_240_ok rfl) rfl
theorem dX10_next_289 : decode cX10_next 289 = .ok (.iconst 3, 1) := zo_6 (z_byk bcX10_next_240 240 49 _ bcX10_next_240_ok rfl)
theorem dX10_next_290 : decode cX10_next 290 = .ok (.goto 4, 3) := zo_167 (z_byk bcX10_next_240 240 50 _ bcX10_next_240_ok rfl) (z_byk bcX10_next_240 240 51 _ bcX10_next_240_ok rfl) (z_byk bcX10_next_240 240 52 _ bcX10_next_240_ok rfl) rfl
theorem dX10_next_293 : decode cX10_next 293 = .ok (.iconst 4, 1) := zo_7 (z_byk bcX10_next_240 240 53 _ bcX10_next_240_ok rfl)
theorem dX10_next_294 : decode cX10_next 294 = .ok (.putfield 154, 3) := zo_181 (z_byk bcX10_next_240 240 54 _ bcX10_next_240_ok rfl) (z_byk bcX10_next_240 240 55 _ bcX10_next_240_ok rfl) (z_byk bcX10_next_240 240 56 _ bcX10_next_240_ok rfl) rfl
theorem dX10_next_297 : decode cX10_next 297 = .ok (.aload_n 0, 1) := zo_42 (z_byk bcX10_next_240 240 57 _ bcX10_next_240_ok rfl)
theorem dX10_next_298 : decode cX10_next 298 = .ok (.dup, 1) := zo_89 (z_byk bcX10_next_240 240 58 _ bcX10_next_240_ok rfl)
theorem dX10_next_299 : decode cX10_next 299 = .ok (.getfield 137, 3) := zo_180 (z_byk bcX10_next_240 240 59 _ bcX10_next_240_ok rfl) (z_byk bcX10_next_300 300 0 _ bcX10_next_300_ok rfl) (z_byk bcX10_next_300 300 1 _ bcX10_next_300_ok rfl) rfl
theorem dX10_next_30 : decode cX10_next 30 = .ok (.aload_n 0, 1) := zo_42 (z_byk bcX10_next_0 0 30 _ bcX10_next_0_ok rfl)
theorem dX10_next_302 : decode cX10_next 302 = .ok (.iconst 1, 1) := zo_4 (z_byk bcX10_next_300 300 2 _ bcX10_next_300_ok rfl)
theorem dX10_next_303 : decode cX10_next 303 = .ok (.iadd, 1) := zo_96 (z_byk bcX10_next_300 300 3 _ bcX10_next_300_ok rfl)
theorem dX10_next_304 : decode cX10_next 304 = .ok (.putfield 137, 3) := zo_181 (z_byk bcX10_next_300 300 4 _ bcX10_next_300_ok rfl) (z_byk bcX10_next_300 300 5 _ bcX10_next_300_ok rfl) (z_byk bcX10_next_300 300 6 _ bcX10_next_300_ok rfl) rfl
theorem dX10_next_307 : decode cX10_next 307 = .ok (.return_, 1) := zo_177 (z_byk bcX10_next_300 300 7 _ bcX10_next_300_ok rfl)
theorem dX10_next_31 : decode cX10_next 31 = .ok (.dup, 1) := zo_89 (z_byk bcX10_next_0 0 31 _ bcX10_next_0_ok rfl)
theorem dX10_next_32 : decode cX10_next 32 = .ok (.getfield 137, 3) := zo_180 (z_byk bcX10_next_0 0 32 _ bcX10_next_0_ok rfl) (z_byk bcX10_next_0 0 33 _ bcX10_next_0_ok rfl) (z_byk bcX10_next_0 0 34 _ bcX10_next_0_ok rfl) rfl
theorem dX10_next_35 : decode cX10_next 35 = .ok (.iconst 1, 1) := zo_4 (z_byk bcX10_next_0 0 35 _ bcX10_next_0_ok rfl)
theorem dX10_next_36 : decode cX10_next 36 = .ok (.iadd, 1) := zo_96 (z_byk bcX10_next_0 0 36 _ bcX10_next_0_ok rfl)
theorem dX10_next_37 : decode cX10_next 37 = .ok (.putfield 137, 3) := zo_181 (z_byk bcX10_next_0 0 37 _ bcX10_next_0_ok rfl) (z_byk bcX10_next_0 0 38 _ bcX10_next_0_ok rfl) (z_byk bcX10_next_0 0 39 _ bcX10_next_0_ok rfl) rfl
theorem dX10_next_40 : decode cX10_next 40 = .ok (.goto (-40), 3) := zo_167 (z_byk bcX10_next_0 0 40 _ bcX10_next_0_ok rfl) (z_byk bcX10_next_0 0 41 _ bcX10_next_0_ok rfl) (z_byk bcX10_next_0 0 42 _ bcX10_next_0_ok rfl) rfl
theorem dX10_next_43 : decode cX10_next 43 = .ok (.aload_n 0, 1) := zo_42 (z_byk bcX10_next_0 0 43 _ bcX10_next_0_ok rfl)
theorem dX10_next_44 : decode cX10_next 44 = .ok (.aload_n 0, 1) := zo_42 (z_byk bcX10_next_0 0 44 _ bcX10_next_0_ok rfl)
theorem dX10_next_45 : decode cX10_next 45 = .ok (.getfield 137, 3) := zo_180 (z_byk bcX10_next_0 0 45 _ bcX10_next_0_ok rfl) (z_byk bcX10_next_0 0 46 _ bcX10_next_0_ok rfl) (z_byk bcX10_next_0 0 47 _ bcX10_next_0_ok rfl) rfl
theorem dX10_next_48 : decode cX10_next 48 = .ok (.putfield 144, 3) := zo_181 (z_byk bcX10_next_0 0 48 _ bcX10_next_0_ok rfl) (z_byk bcX10_next_0 0 49 _ bcX10_next_0_ok rfl) (z_byk bcX10_next_0 0 50 _ bcX10_next_0_ok rfl) rfl
theorem dX10_next_5 : decode cX10_next 5 = .ok (.bipush 32, 2) := zo_16 (z_byk bcX10_next_0 0 5 _ bcX10_next_0_ok rfl) (z_byk bcX10_next_0 0 6 _ bcX10_next_0_ok rfl) rfl
theorem dX10_next_51 : decode cX10_next 51 = .ok (.aload_n 0, 1) := zo_42 (z_byk bcX10_next_0 0 51 _ bcX10_next_0_ok rfl)
theorem dX10_next_52 : decode cX10_next 52 = .ok (.iconst 0, 1) := zo_3 (z_byk bcX10_next_0 0 52 _ bcX10_next_0_ok rfl)
theorem dX10_next_53 : decode cX10_next 53 = .ok (.putfield 147, 3) := zo_181 (z_byk bcX10_next_0 0 53 _ bcX10_next_0_ok rfl) (z_byk bcX10_next_0 0 54 _ bcX10_next_0_ok rfl) (z_byk bcX10_next_0 0 55 _ bcX10_next_0_ok rfl) rfl
theorem dX10_next_56 : decode cX10_next 56 = .ok (.aload_n 0, 1) := zo_42 (z_byk bcX10_next_0 0 56 _ bcX10_next_0_ok rfl)
theorem dX10_next_57 : decode cX10_next 57 = .ok (.lconst 0, 1) := zo_9 (z_byk bcX10_next_0 0 57 _ bcX10_next_0_ok rfl)
theorem dX10_next_58 : decode cX10_next 58 = .ok (.putfield 150, 3) := zo_181 (z_byk bcX10_next_0 0 58 _ bcX10_next_0_ok rfl) (z_byk bcX10_next_0 0 59 _ bcX10_next_0_ok rfl) (z_byk bcX10_next_60 60 0 _ bcX10_next_60_ok rfl) rfl
theorem dX10_next_61 : decode cX10_next 61 = .ok (.aload_n 0, 1) := zo_42 (z_byk bcX10_next_60 60 1 _ bcX10_next_60_ok rfl)
theorem dX10_next_62 : decode cX10_next 62 = .ok (.getfield 137, 3) := zo_180 (z_byk bcX10_next_60 60 2 _ bcX10_next_60_ok rfl) (z_byk bcX10_next_60 60 3 _ bcX10_next_60_ok rfl) (z_byk bcX10_next_60 60 4 _ bcX10_next_60_ok rfl) rfl
theorem dX10_next_65 : decode cX10_next 65 = .ok (.aload_n 0, 1) := zo_42 (z_byk bcX10_next_60 60 5 _ bcX10_next_60_ok rfl)
theorem dX10_next_66 : decode cX10_next 66 = .ok (.getfield 130, 3) := zo_180 (z_byk bcX10_next_60 60 6 _ bcX10_next_60_ok rfl) (z_byk bcX10_next_60 60 7 _ bcX10_next_60_ok rfl) (z_byk bcX10_next_60 60 8 _ bcX10_next_60_ok rfl) rfl
theorem dX10_next_69 : decode cX10_next 69 = .ok (.if_icmp .ne 11, 3) := zo_160 (z_byk bcX10_next_60 60 9 _ bcX10_next_60_ok rfl) (z_byk bcX10_next_60 60 10 _ bcX10_next_60_ok rfl) (z_byk bcX10_next_60 60 11 _ bcX10_next_60_ok rfl) rfl
theorem dX10_next_7 : decode cX10_next 7 = .ok (.bipush 32, 2) := zo_16 (z_byk bcX10_next_0 0 7 _ bcX10_next_0_ok rfl) (z_byk bcX10_next_0 0 8 _ bcX10_next_0_ok rfl) rfl
theorem dX10_next_72 : decode cX10_next 72 = .ok (.aload_n 0, 1) := zo_42 (z_byk bcX10_next_60 60 12 _ bcX10_next_60_ok rfl)
theorem dX10_next_73 : decode cX10_next 73 = .ok (.iconst 0, 1) := zo_3 (z_byk bcX10_next_60 60 13 _ bcX10_next_60_ok rfl)
theorem dX10_next_74 : decode cX10_next 74 = .ok (.putfield 154, 3) := zo_181 (z_byk bcX10_next_60 60 14 _ bcX10_next_60_ok rfl) (z_byk bcX10_next_60 60 15 _ bcX10_next_60_ok rfl) (z_byk bcX10_next_60 60 16 _ bcX10_next_60_ok rfl) rfl
theorem dX10_next_77 : decode cX10_next 77 = .ok (.goto 230, 3) := zo_167 (z_byk bcX10_next_60 60 17 _ bcX10_next_60_ok rfl) (z_byk bcX10_next_60 60 18 _ bcX10_next_60_ok rfl) (z_byk bcX10_next_60 60 19 _ bcX10_next_60_ok rfl) rfl
theorem dX10_next_80 : decode cX10_next 80 = .ok (.aload_n 0, 1) := zo_42 (z_byk bcX10_next_60 60 20 _ bcX10_next_60_ok rfl)
theorem dX10_next_81 : decode cX10_next 81 = .ok (.aload_n 0, 1) := zo_42 (z_byk bcX10_next_60 60 21 _ bcX10_next_60_ok rfl)
theorem dX10_next_82 : decode cX10_next 82 = .ok (.getfield 137, 3) := zo_180 (z_byk bcX10_next_60 60 22 _ bcX10_next_60_ok rfl) (z_byk bcX10_next_60 60 23 _ bcX10_next_60_ok rfl) (z_byk bcX10_next_60 60 24 _ bcX10_next_60_ok rfl) rfl
theorem dX10_next_85 : decode cX10_next 85 = .ok (.bipush 97, 2) := zo_16 (z_byk bcX10_next_60 60 25 _ bcX10_next_60_ok rfl) (z_byk bcX10_next_60 60 26 _ bcX10_next_60_ok rfl) rfl
theorem dX10_next_87 : decode cX10_next 87 = .ok (.bipush 122, 2) := zo_16 (z_byk bcX10_next_60 60 27 _ bcX10_next_60_ok rfl) (z_byk bcX10_next_60 60 28 _ bcX10_next_60_ok rfl) rfl
theorem dX10_next_89 : decode cX10_next 89 = .ok (.invokevirtual 140, 3) := zo_182 (z_byk bcX10_next_60 60 29 _ bcX10_next_60_ok rfl) (z_byk bcX10_next_60 60 30 _ bcX10_next_60_ok rfl) (z_byk bcX10_next_60 60 31 _ bcX10_next_60_ok rfl) rfl
theorem dX10_next_9 : decode cX10_next 9 = .ok (.invokevirtual 140, 3) := zo_182 (z_byk bcX10_next_0 0 9 _ bcX10_next_0_ok rfl) (z_byk bcX10_next_0 0 10 _ bcX10_next_0_ok rfl) (z_byk bcX10_next_0 0 11 _ bcX10_next_0_ok rfl) rfl
theorem dX10_next_92 : decode cX10_next 92 = .ok (.ifCond .eq 96, 3) := zo_153 (z_byk bcX10_next_60 60 32 _ bcX10_next_60_ok rfl) (z_byk bcX10_next_60 60 33 _ bcX10_next_60_ok rfl) (z_byk bcX10_next_60 60 34 _ bcX10_next_60_ok rfl) rfl
theorem dX10_next_95 : decode cX10_next 95 = .ok (.aload_n 0, 1) := zo_42 (z_byk bcX10_next_60 60 35 _ bcX10_next_60_ok rfl)
theorem dX10_next_96 : decode cX10_next 96 = .ok (.iconst 1, 1) := zo_4 (z_byk bcX10_next_60 60 36 _ bcX10_next_60_ok rfl)
theorem dX10_next_97 : decode cX10_next 97 = .ok (.putfield 154, 3) := zo_181 (z_byk bcX10_next_60 60 37 _ bcX10_next_60_ok rfl) (z_byk bcX10_next_60 60 38 _ bcX10_next_60_ok rfl) (z_byk bcX10_next_60 60 39 _ bcX10_next_60_ok rfl) rfl
def bcX10_number_0 : List Nat := [42, 180, 0, 165, 153, 0, 5, 27, 172, 42, 180, 0, 154, 5, 159, 0, 10, 42, 4, 182, 0, 181, 27, 172, 42, 180, 0, 147, 133, 27, 133, 28, 133, 184, 0, 119, 154, 0, 10, 42, 5, 182, 0, 181, 27, 172, 42, 180, 0, 147, 62, 42, 182, 0, 175, 29, 172]
theorem bcX10_number_0_ok : z_bys cX10_number 0 bcX10_number_0 = true := by decide +kernel
theorem dX10_number_0 : decode cX10_number 0 = .ok (.aload_n 0, 1) := zo_42 (z_byk bcX10_number_0 0 0 _ bcX10_number_0_ok rfl)
theorem dX10_number_1 : decode cX10_number 1 = .ok (.getfield 165, 3) := zo_180 (z_byk bcX10_number_0 0 1 _ bcX10_number_0_ok rfl) (z_byk bcX10_number_0 0 2 _ bcX10_number_0_ok rfl) (z_byk bcX10_number_0 0 3 _ bcX10_number_0_ok rfl) rfl
theorem dX10_number_10 : decode cX10_number 10 = .ok (.getfield 154, 3) := zo_180 (z_byk bcX10_number_0 0 10 _ bcX10_number_0_ok rfl) (z_byk bcX10_number_0 0 11 _ bcX10_number_0_ok rfl) (z_byk bcX10_number_0 0 12 _ bcX10_number_0_ok rfl) rfl
theorem dX10_number_13 : decode cX10_number 13 = .ok (.iconst 2, 1) := zo_5 (z_byk bcX10_number_0 0 13 _ bcX10_number_0_ok rfl)
theorem dX10_number_14 : decode cX10_number 14 = .ok (.if_icmp .eq 10, 3) := zo_159 (z_byk bcX10_number_0 0 14 _ bcX10_number_0_ok rfl) (z_byk bcX10_number_0 0 15 _ bcX10_number_0_ok rfl) (z_byk bcX10_number_0 0 16 _ bcX10_number_0_ok rfl) rfl
theorem dX10_number_17 : decode cX10_number 17 = .ok (.aload_n 0, 1) := zo_42 (z_byk bcX10_number_0 0 17 _ bcX10_number_0_ok rfl)
theorem dX10_number_18 : decode cX10_number 18 = .ok (.iconst 1, 1) := zo_4 (z_byk bcX10_number_0 0 18 _ bcX10_number_0_ok rfl)
theorem dX10_number_19 : decode cX10_number 19 = .ok (.invokevirtual 181, 3) := zo_182 (z_byk bcX10_number_0 0 19 _ bcX10_number_0_ok rfl) (z_byk bcX10_number_0 0 20 _ bcX10_number_0_ok rfl) (z_byk bcX10_number_0 0 21 _ bcX10_number_0_ok rfl) rfl
theorem dX10_number_22 : decode cX10_number 22 = .ok (.iload_n 1, 1) := zo_27 (z_byk bcX10_number_0 0 22 _ bcX10_number_0_ok rfl)
theorem dX10_number_23 : decode cX10_number 23 = .ok (.ireturn, 1) := zo_172 (z_byk bcX10_number_0 0 23 _ bcX10_number_0_ok rfl)
theorem dX10_number_24 : decode cX10_number 24 = .ok (.aload_n 0, 1) := zo_42 (z_byk bcX10_number_0 0 24 _ bcX10_number_0_ok rfl)
theorem dX10_number_25 : decode cX10_number 25 = .ok (.getfield 147, 3) := zo_180 (z_byk bcX10_number_0 0 25 _ bcX10_number_0_ok rfl) (z_byk bcX10_number_0 0 26 _ bcX10_number_0_ok rfl) (z_byk bcX10_number_0 0 27 _ bcX10_number_0_ok rfl) rfl
theorem dX10_number_28 : decode cX10_number 28 = .ok (.i2l, 1) := zo_133 (z_byk bcX10_number_0 0 28 _ bcX10_number_0_ok rfl)
theorem dX10_number_29 : decode cX10_number 29 = .ok (.iload_n 1, 1) := zo_27 (z_byk bcX10_number_0 0 29 _ bcX10_number_0_ok rfl)
theorem dX10_number_30 : decode cX10_number 30 = .ok (.i2l, 1) := zo_133 (z_byk bcX10_number_0 0 30 _ bcX10_number_0_ok rfl)
theorem dX10_number_31 : decode cX10_number 31 = .ok (.iload_n 2, 1) := zo_28 (z_byk bcX10_number_0 0 31 _ bcX10_number_0_ok rfl)
theorem dX10_number_32 : decode cX10_number 32 = .ok (.i2l, 1) := zo_133 (z_byk bcX10_number_0 0 32 _ bcX10_number_0_ok rfl)
theorem dX10_number_33 : decode cX10_number 33 = .ok (.invokestatic 119, 3) := zo_184 (z_byk bcX10_number_0 0 33 _ bcX10_number_0_ok rfl) (z_byk bcX10_number_0 0 34 _ bcX10_number_0_ok rfl) (z_byk bcX10_number_0 0 35 _ bcX10_number_0_ok rfl) rfl
theorem dX10_number_36 : decode cX10_number 36 = .ok (.ifCond .ne 10, 3) := zo_154 (z_byk bcX10_number_0 0 36 _ bcX10_number_0_ok rfl) (z_byk bcX10_number_0 0 37 _ bcX10_number_0_ok rfl) (z_byk bcX10_number_0 0 38 _ bcX10_number_0_ok rfl) rfl
theorem dX10_number_39 : decode cX10_number 39 = .ok (.aload_n 0, 1) := zo_42 (z_byk bcX10_number_0 0 39 _ bcX10_number_0_ok rfl)
theorem dX10_number_4 : decode cX10_number 4 = .ok (.ifCond .eq 5, 3) := zo_153 (z_byk bcX10_number_0 0 4 _ bcX10_number_0_ok rfl) (z_byk bcX10_number_0 0 5 _ bcX10_number_0_ok rfl) (z_byk bcX10_number_0 0 6 _ bcX10_number_0_ok rfl) rfl
theorem dX10_number_40 : decode cX10_number 40 = .ok (.iconst 2, 1) := zo_5 (z_byk bcX10_number_0 0 40 _ bcX10_number_0_ok rfl)
theorem dX10_number_41 : decode cX10_number 41 = .ok (.invokevirtual 181, 3) := zo_182 (z_byk bcX10_number_0 0 41 _ bcX10_number_0_ok rfl) (z_byk bcX10_number_0 0 42 _ bcX10_number_0_ok rfl) (z_byk bcX10_number_0 0 43 _ bcX10_number_0_ok rfl) rfl
theorem dX10_number_44 : decode cX10_number 44 = .ok (.iload_n 1, 1) := zo_27 (z_byk bcX10_number_0 0 44 _ bcX10_number_0_ok rfl)
theorem dX10_number_45 : decode cX10_number 45 = .ok (.ireturn, 1) := zo_172 (z_byk bcX10_number_0 0 45 _ bcX10_number_0_ok rfl)
theorem dX10_number_46 : decode cX10_number 46 = .ok (.aload_n 0, 1) := zo_42 (z_byk bcX10_number_0 0 46 _ bcX10_number_0_ok rfl)
theorem dX10_number_47 : decode cX10_number 47 = .ok (.getfield 147, 3) := zo_180 (z_byk bcX10_number_0 0 47 _ bcX10_number_0_ok rfl) (z_byk bcX10_number_0 0 48 _ bcX10_number_0_ok rfl) (z_byk bcX10_number_0 0 49 _ bcX10_number_0_ok rfl) rfl
theorem dX10_number_50 : decode cX10_number 50 = .ok (.istore_n 3, 1) := zo_62 (z_byk bcX10_number_0 0 50 _ bcX10_number_0_ok rfl)
theorem dX10_number_51 : decode cX10_number 51 = .ok (.aload_n 0, 1) := zo_42 (z_byk bcX10_number_0 0 51 _ bcX10_number_0_ok rfl)
theorem dX10_number_52 : decode cX10_number 52 = .ok (.invokevirtual 175, 3) := zo_182 (z_byk bcX10_number_0 0 52 _ bcX10_number_0_ok rfl) (z_byk bcX10_number_0 0 53 _ bcX10_number_0_ok rfl) (z_byk bcX10_number_0 0 54 _ bcX10_number_0_ok rfl) rfl
theorem dX10_number_55 : decode cX10_number 55 = .ok (.iload_n 3, 1) := zo_29 (z_byk bcX10_number_0 0 55 _ bcX10_number_0_ok rfl)
theorem dX10_number_56 : decode cX10_number 56 = .ok (.ireturn, 1) := zo_172 (z_byk bcX10_number_0 0 56 _ bcX10_number_0_ok rfl)
theorem dX10_number_7 : decode cX10_number 7 = .ok (.iload_n 1, 1) := zo_27 (z_byk bcX10_number_0 0 7 _ bcX10_number_0_ok rfl)
theorem dX10_number_8 : decode cX10_number 8 = .ok (.ireturn, 1) := zo_172 (z_byk bcX10_number_0 0 8 _ bcX10_number_0_ok rfl)
theorem dX10_number_9 : decode cX10_number 9 = .ok (.aload_n 0, 1) := zo_42 (z_byk bcX10_number_0 0 9 _ bcX10_number_0_ok rfl)
def bcX10_number__0 : List Nat := [42, 31, 182, 0, 184, 42, 29, 21, 4, 182, 0, 188, 172]
theorem bcX10_number__0_ok : z_bys cX10_number_ 0 bcX10_number__0 = true := by decide +kernel
theorem dX10_number__0 : decode cX10_number_ 0 = .ok (.aload_n 0, 1) := zo_42 (z_byk bcX10_number__0 0 0 _ bcX10_number__0_ok rfl)
theorem dX10_number__1 : decode cX10_number_ 1 = .ok (.lload_n 1, 1) := zo_31 (z_byk bcX10_number__0 0 1 _ bcX10_number__0_ok rfl)
theorem dX10_number__12 : decode cX10_number_ 12 = .ok (.ireturn, 1) := zo_172 (z_byk bcX10_number__0 0 12 _ bcX10_number__0_ok rfl)
theorem dX10_number__2 : decode cX10_number_ 2 = .ok (.invokevirtual 184, 3) := zo_182 (z_byk bcX10_number__0 0 2 _ bcX10_number__0_ok rfl) (z_byk bcX10_number__0 0 3 _ bcX10_number__0_ok rfl) (z_byk bcX10_number__0 0 4 _ bcX10_number__0_ok rfl) rfl
theorem dX10_number__5 : decode cX10_number_ 5 = .ok (.aload_n 0, 1) := zo_42 (z_byk bcX10_number__0 0 5 _ bcX10_number__0_ok rfl)
theorem dX10_number__6 : decode cX10_number_ 6 = .ok (.iload_n 3, 1) := zo_29 (z_byk bcX10_number__0 0 6 _ bcX10_number__0_ok rfl)
theorem dX10_number__7 : decode cX10_number_ 7 = .ok (.iload 4, 2) := zo_21 (z_byk bcX10_number__0 0 7 _ bcX10_number__0_ok rfl) (z_byk bcX10_number__0 0 8 _ bcX10_number__0_ok rfl)
theorem dX10_number__9 : decode cX10_number_ 9 = .ok (.invokevirtual 188, 3) := zo_182 (z_byk bcX10_number__0 0 9 _ bcX10_number__0_ok rfl) (z_byk bcX10_number__0 0 10 _ bcX10_number__0_ok rfl) (z_byk bcX10_number__0 0 11 _ bcX10_number__0_ok rfl) rfl
def bcX10_takes_0 : List Nat := [42, 31, 182, 0, 171, 154, 0, 5, 3, 172, 42, 182, 0, 175, 4, 172]
theorem bcX10_takes_0_ok : z_bys cX10_takes 0 bcX10_takes_0 = true := by decide +kernel
theorem dX10_takes_0 : decode cX10_takes 0 = .ok (.aload_n 0, 1) := zo_42 (z_byk bcX10_takes_0 0 0 _ bcX10_takes_0_ok rfl)
theorem dX10_takes_1 : decode cX10_takes 1 = .ok (.lload_n 1, 1) := zo_31 (z_byk bcX10_takes_0 0 1 _ bcX10_takes_0_ok rfl)
theorem dX10_takes_10 : decode cX10_takes 10 = .ok (.aload_n 0, 1) := zo_42 (z_byk bcX10_takes_0 0 10 _ bcX10_takes_0_ok rfl)
theorem dX10_takes_11 : decode cX10_takes 11 = .ok (.invokevirtual 175, 3) := zo_182 (z_byk bcX10_takes_0 0 11 _ bcX10_takes_0_ok rfl) (z_byk bcX10_takes_0 0 12 _ bcX10_takes_0_ok rfl) (z_byk bcX10_takes_0 0 13 _ bcX10_takes_0_ok rfl) rfl
theorem dX10_takes_14 : decode cX10_takes 14 = .ok (.iconst 1, 1) := zo_4 (z_byk bcX10_takes_0 0 14 _ bcX10_takes_0_ok rfl)
theorem dX10_takes_15 : decode cX10_takes 15 = .ok (.ireturn, 1) := zo_172 (z_byk bcX10_takes_0 0 15 _ bcX10_takes_0_ok rfl)
theorem dX10_takes_2 : decode cX10_takes 2 = .ok (.invokevirtual 171, 3) := zo_182 (z_byk bcX10_takes_0 0 2 _ bcX10_takes_0_ok rfl) (z_byk bcX10_takes_0 0 3 _ bcX10_takes_0_ok rfl) (z_byk bcX10_takes_0 0 4 _ bcX10_takes_0_ok rfl) rfl
theorem dX10_takes_5 : decode cX10_takes 5 = .ok (.ifCond .ne 5, 3) := zo_154 (z_byk bcX10_takes_0 0 5 _ bcX10_takes_0_ok rfl) (z_byk bcX10_takes_0 0 6 _ bcX10_takes_0_ok rfl) (z_byk bcX10_takes_0 0 7 _ bcX10_takes_0_ok rfl) rfl
theorem dX10_takes_8 : decode cX10_takes 8 = .ok (.iconst 0, 1) := zo_3 (z_byk bcX10_takes_0 0 8 _ bcX10_takes_0_ok rfl)
theorem dX10_takes_9 : decode cX10_takes 9 = .ok (.ireturn, 1) := zo_172 (z_byk bcX10_takes_0 0 9 _ bcX10_takes_0_ok rfl)
