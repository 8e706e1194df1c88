set_option linter.all false
theorem zw_t1_156 : Cond.fieldLink RX9 106 "NameGate$Image" "town" "LNameGate$Town;" ∈ zT := zt_1 (List.mem_of_getElem? (i := 156) (by decide +kernel)) (by decide +kernel)
theorem zw_t1_159 : Cond.fieldLink RX9 120 "NameGate$Image" "strayed" "I" ∈ zT := zt_1 (List.mem_of_getElem? (i := 159) (by decide +kernel)) (by decide +kernel)
theorem zw_t1_163 : Cond.fieldLink RX9 114 "NameGate$Image" "names" "I" ∈ zT := zt_1 (List.mem_of_getElem? (i := 163) (by decide +kernel)) (by decide +kernel)
theorem zw_t1_74 : Cond.fieldLink RX9 117 "NameGate$Town" "strayers" "I" ∈ zT := zt_1 (List.mem_of_getElem? (i := 74) (by decide +kernel)) (by decide +kernel)
theorem zw_t2_190 : Cond.fieldLink RX9 77 "NameGate" "tapeLength" "I" ∈ zT := zt_2 (List.mem_of_getElem? (i := 190) (by decide +kernel)) (by decide +kernel)
theorem zw_t2_191 : Cond.fieldLink RX9 91 "NameGate" "faultKind" "I" ∈ zT := zt_2 (List.mem_of_getElem? (i := 191) (by decide +kernel)) (by decide +kernel)
theorem zw_t2_192 : Cond.fieldLink RX9 13 "NameGate" "faultPlace" "I" ∈ zT := zt_2 (List.mem_of_getElem? (i := 192) (by decide +kernel)) (by decide +kernel)
theorem zw_t2_193 : Cond.fieldLink RX9 20 "NameGate" "now" "LNameGate$Image;" ∈ zT := zt_2 (List.mem_of_getElem? (i := 193) (by decide +kernel)) (by decide +kernel)
theorem zw_t2_197 : Cond.fieldLink RX9 44 "NameGate" "walk" "LNameGate$Walk;" ∈ zT := zt_2 (List.mem_of_getElem? (i := 197) (by decide +kernel)) (by decide +kernel)
theorem zw_t3_169 : Cond.methodLink RX9 110 yX7_hasAll ∈ zT := zt_3 (List.mem_of_getElem? (i := 169) (by decide +kernel)) (by decide +kernel)
theorem zw_t3_170 : Cond.instanceMethod yX7_hasAll ∈ zT := zt_3 (List.mem_of_getElem? (i := 170) (by decide +kernel)) (by decide +kernel)
theorem zw_t3_171 : Cond.selects RX7 yX7_hasAll yX7_hasAll ∈ zT := zt_3 (List.mem_of_getElem? (i := 171) (by decide +kernel)) (by decide +kernel)
theorem zw_t3_172 : Cond.code yX7_hasAll cX7_hasAll 2 (some .boolean) ∈ zT := zt_3 (List.mem_of_getElem? (i := 172) (by decide +kernel)) (by decide +kernel)
theorem zw_t3_181 : Cond.methodLink RX9 123 yX7_hasPerson ∈ zT := zt_3 (List.mem_of_getElem? (i := 181) (by decide +kernel)) (by decide +kernel)
theorem zw_t3_185 : Cond.methodLink RX9 126 yX7_hasHour ∈ zT := zt_3 (List.mem_of_getElem? (i := 185) (by decide +kernel)) (by decide +kernel)
theorem zw_t3_189 : Cond.methodLink RX9 129 yX7_courtOf ∈ zT := zt_3 (List.mem_of_getElem? (i := 189) (by decide +kernel)) (by decide +kernel)
theorem zw_t3_197 : Cond.methodLink RX9 133 yX7_hasCourt ∈ zT := zt_3 (List.mem_of_getElem? (i := 197) (by decide +kernel)) (by decide +kernel)
theorem zw_t3_201 : Cond.methodLink RX9 136 yX7_inside ∈ zT := zt_3 (List.mem_of_getElem? (i := 201) (by decide +kernel)) (by decide +kernel)
theorem zw_t3_215 : Cond.methodLink RX9 143 yJ6_bitCount_0f7a4 ∈ zT := zt_3 (List.mem_of_getElem? (i := 215) (by decide +kernel)) (by decide +kernel)
theorem zw_t4_29 : Cond.methodLink RX9 167 yX8_know ∈ zT := zt_4 (List.mem_of_getElem? (i := 29) (by decide +kernel)) (by decide +kernel)
theorem zw_t4_30 : Cond.instanceMethod yX8_know ∈ zT := zt_4 (List.mem_of_getElem? (i := 30) (by decide +kernel)) (by decide +kernel)
theorem zw_t4_31 : Cond.selects RX8 yX8_know yX8_know ∈ zT := zt_4 (List.mem_of_getElem? (i := 31) (by decide +kernel)) (by decide +kernel)
theorem zw_t4_32 : Cond.code yX8_know cX8_know 5 none ∈ zT := zt_4 (List.mem_of_getElem? (i := 32) (by decide +kernel)) (by decide +kernel)
def bcX9_end_0 : List Nat := [27, 155, 0, 11, 27, 42, 180, 0, 77, 164, 0, 5, 2, 172, 42, 27, 181, 0, 77, 27, 172]
theorem bcX9_end_0_ok : z_bys cX9_end 0 bcX9_end_0 = true := by decide +kernel
theorem dX9_end_0 : decode cX9_end 0 = .ok (.iload_n 1, 1) := zo_27 (z_byk bcX9_end_0 0 0 _ bcX9_end_0_ok rfl)
theorem dX9_end_1 : decode cX9_end 1 = .ok (.ifCond .lt 11, 3) := zo_155 (z_byk bcX9_end_0 0 1 _ bcX9_end_0_ok rfl) (z_byk bcX9_end_0 0 2 _ bcX9_end_0_ok rfl) (z_byk bcX9_end_0 0 3 _ bcX9_end_0_ok rfl) rfl
theorem dX9_end_12 : decode cX9_end 12 = .ok (.iconst (-1), 1) := zo_2 (z_byk bcX9_end_0 0 12 _ bcX9_end_0_ok rfl)
theorem dX9_end_13 : decode cX9_end 13 = .ok (.ireturn, 1) := zo_172 (z_byk bcX9_end_0 0 13 _ bcX9_end_0_ok rfl)
theorem dX9_end_14 : decode cX9_end 14 = .ok (.aload_n 0, 1) := zo_42 (z_byk bcX9_end_0 0 14 _ bcX9_end_0_ok rfl)
theorem dX9_end_15 : decode cX9_end 15 = .ok (.iload_n 1, 1) := zo_27 (z_byk bcX9_end_0 0 15 _ bcX9_end_0_ok rfl)
theorem dX9_end_16 : decode cX9_end 16 = .ok (.putfield 77, 3) := zo_181 (z_byk bcX9_end_0 0 16 _ bcX9_end_0_ok rfl) (z_byk bcX9_end_0 0 17 _ bcX9_end_0_ok rfl) (z_byk bcX9_end_0 0 18 _ bcX9_end_0_ok rfl) rfl
theorem dX9_end_19 : decode cX9_end 19 = .ok (.iload_n 1, 1) := zo_27 (z_byk bcX9_end_0 0 19 _ bcX9_end_0_ok rfl)
theorem dX9_end_20 : decode cX9_end 20 = .ok (.ireturn, 1) := zo_172 (z_byk bcX9_end_0 0 20 _ bcX9_end_0_ok rfl)
theorem dX9_end_4 : decode cX9_end 4 = .ok (.iload_n 1, 1) := zo_27 (z_byk bcX9_end_0 0 4 _ bcX9_end_0_ok rfl)
theorem dX9_end_5 : decode cX9_end 5 = .ok (.aload_n 0, 1) := zo_42 (z_byk bcX9_end_0 0 5 _ bcX9_end_0_ok rfl)
theorem dX9_end_6 : decode cX9_end 6 = .ok (.getfield 77, 3) := zo_180 (z_byk bcX9_end_0 0 6 _ bcX9_end_0_ok rfl) (z_byk bcX9_end_0 0 7 _ bcX9_end_0_ok rfl) (z_byk bcX9_end_0 0 8 _ bcX9_end_0_ok rfl) rfl
theorem dX9_end_9 : decode cX9_end 9 = .ok (.if_icmp .le 5, 3) := zo_164 (z_byk bcX9_end_0 0 9 _ bcX9_end_0_ok rfl) (z_byk bcX9_end_0 0 10 _ bcX9_end_0_ok rfl) (z_byk bcX9_end_0 0 11 _ bcX9_end_0_ok rfl) rfl
def bcX9_fault_0 : List Nat := [27, 154, 0, 8, 42, 180, 0, 91, 172, 27, 4, 160, 0, 10, 42, 180, 0, 13, 167, 0, 4, 2, 172]
theorem bcX9_fault_0_ok : z_bys cX9_fault 0 bcX9_fault_0 = true := by decide +kernel
theorem dX9_fault_0 : decode cX9_fault 0 = .ok (.iload_n 1, 1) := zo_27 (z_byk bcX9_fault_0 0 0 _ bcX9_fault_0_ok rfl)
theorem dX9_fault_1 : decode cX9_fault 1 = .ok (.ifCond .ne 8, 3) := zo_154 (z_byk bcX9_fault_0 0 1 _ bcX9_fault_0_ok rfl) (z_byk bcX9_fault_0 0 2 _ bcX9_fault_0_ok rfl) (z_byk bcX9_fault_0 0 3 _ bcX9_fault_0_ok rfl) rfl
theorem dX9_fault_10 : decode cX9_fault 10 = .ok (.iconst 1, 1) := zo_4 (z_byk bcX9_fault_0 0 10 _ bcX9_fault_0_ok rfl)
theorem dX9_fault_11 : decode cX9_fault 11 = .ok (.if_icmp .ne 10, 3) := zo_160 (z_byk bcX9_fault_0 0 11 _ bcX9_fault_0_ok rfl) (z_byk bcX9_fault_0 0 12 _ bcX9_fault_0_ok rfl) (z_byk bcX9_fault_0 0 13 _ bcX9_fault_0_ok rfl) rfl
theorem dX9_fault_14 : decode cX9_fault 14 = .ok (.aload_n 0, 1) := zo_42 (z_byk bcX9_fault_0 0 14 _ bcX9_fault_0_ok rfl)
theorem dX9_fault_15 : decode cX9_fault 15 = .ok (.getfield 13, 3) := zo_180 (z_byk bcX9_fault_0 0 15 _ bcX9_fault_0_ok rfl) (z_byk bcX9_fault_0 0 16 _ bcX9_fault_0_ok rfl) (z_byk bcX9_fault_0 0 17 _ bcX9_fault_0_ok rfl) rfl
theorem dX9_fault_18 : decode cX9_fault 18 = .ok (.goto 4, 3) := zo_167 (z_byk bcX9_fault_0 0 18 _ bcX9_fault_0_ok rfl) (z_byk bcX9_fault_0 0 19 _ bcX9_fault_0_ok rfl) (z_byk bcX9_fault_0 0 20 _ bcX9_fault_0_ok rfl) rfl
theorem dX9_fault_21 : decode cX9_fault 21 = .ok (.iconst (-1), 1) := zo_2 (z_byk bcX9_fault_0 0 21 _ bcX9_fault_0_ok rfl)
theorem dX9_fault_22 : decode cX9_fault 22 = .ok (.ireturn, 1) := zo_172 (z_byk bcX9_fault_0 0 22 _ bcX9_fault_0_ok rfl)
theorem dX9_fault_4 : decode cX9_fault 4 = .ok (.aload_n 0, 1) := zo_42 (z_byk bcX9_fault_0 0 4 _ bcX9_fault_0_ok rfl)
theorem dX9_fault_5 : decode cX9_fault 5 = .ok (.getfield 91, 3) := zo_180 (z_byk bcX9_fault_0 0 5 _ bcX9_fault_0_ok rfl) (z_byk bcX9_fault_0 0 6 _ bcX9_fault_0_ok rfl) (z_byk bcX9_fault_0 0 7 _ bcX9_fault_0_ok rfl) rfl
theorem dX9_fault_8 : decode cX9_fault 8 = .ok (.ireturn, 1) := zo_172 (z_byk bcX9_fault_0 0 8 _ bcX9_fault_0_ok rfl)
theorem dX9_fault_9 : decode cX9_fault 9 = .ok (.iload_n 1, 1) := zo_27 (z_byk bcX9_fault_0 0 9 _ bcX9_fault_0_ok rfl)
def bcX9_isBy_0 : List Nat := [26, 2, 159, 0, 12, 26, 27, 163, 0, 7, 4, 167, 0, 4, 3, 172]
theorem bcX9_isBy_0_ok : z_bys cX9_isBy 0 bcX9_isBy_0 = true := by decide +kernel
theorem dX9_isBy_0 : decode cX9_isBy 0 = .ok (.iload_n 0, 1) := zo_26 (z_byk bcX9_isBy_0 0 0 _ bcX9_isBy_0_ok rfl)
theorem dX9_isBy_1 : decode cX9_isBy 1 = .ok (.iconst (-1), 1) := zo_2 (z_byk bcX9_isBy_0 0 1 _ bcX9_isBy_0_ok rfl)
theorem dX9_isBy_10 : decode cX9_isBy 10 = .ok (.iconst 1, 1) := zo_4 (z_byk bcX9_isBy_0 0 10 _ bcX9_isBy_0_ok rfl)
theorem dX9_isBy_11 : decode cX9_isBy 11 = .ok (.goto 4, 3) := zo_167 (z_byk bcX9_isBy_0 0 11 _ bcX9_isBy_0_ok rfl) (z_byk bcX9_isBy_0 0 12 _ bcX9_isBy_0_ok rfl) (z_byk bcX9_isBy_0 0 13 _ bcX9_isBy_0_ok rfl) rfl
theorem dX9_isBy_14 : decode cX9_isBy 14 = .ok (.iconst 0, 1) := zo_3 (z_byk bcX9_isBy_0 0 14 _ bcX9_isBy_0_ok rfl)
theorem dX9_isBy_15 : decode cX9_isBy 15 = .ok (.ireturn, 1) := zo_172 (z_byk bcX9_isBy_0 0 15 _ bcX9_isBy_0_ok rfl)
theorem dX9_isBy_2 : decode cX9_isBy 2 = .ok (.if_icmp .eq 12, 3) := zo_159 (z_byk bcX9_isBy_0 0 2 _ bcX9_isBy_0_ok rfl) (z_byk bcX9_isBy_0 0 3 _ bcX9_isBy_0_ok rfl) (z_byk bcX9_isBy_0 0 4 _ bcX9_isBy_0_ok rfl) rfl
theorem dX9_isBy_5 : decode cX9_isBy 5 = .ok (.iload_n 0, 1) := zo_26 (z_byk bcX9_isBy_0 0 5 _ bcX9_isBy_0_ok rfl)
theorem dX9_isBy_6 : decode cX9_isBy 6 = .ok (.iload_n 1, 1) := zo_27 (z_byk bcX9_isBy_0 0 6 _ bcX9_isBy_0_ok rfl)
theorem dX9_isBy_7 : decode cX9_isBy 7 = .ok (.if_icmp .gt 7, 3) := zo_163 (z_byk bcX9_isBy_0 0 7 _ bcX9_isBy_0_ok rfl) (z_byk bcX9_isBy_0 0 8 _ bcX9_isBy_0_ok rfl) (z_byk bcX9_isBy_0 0 9 _ bcX9_isBy_0_ok rfl) rfl
def bcX9_isImage_0 : List Nat := [26, 155, 0, 12, 26, 6, 162, 0, 7, 4, 167, 0, 4, 3, 172]
theorem bcX9_isImage_0_ok : z_bys cX9_isImage 0 bcX9_isImage_0 = true := by decide +kernel
theorem dX9_isImage_0 : decode cX9_isImage 0 = .ok (.iload_n 0, 1) := zo_26 (z_byk bcX9_isImage_0 0 0 _ bcX9_isImage_0_ok rfl)
theorem dX9_isImage_1 : decode cX9_isImage 1 = .ok (.ifCond .lt 12, 3) := zo_155 (z_byk bcX9_isImage_0 0 1 _ bcX9_isImage_0_ok rfl) (z_byk bcX9_isImage_0 0 2 _ bcX9_isImage_0_ok rfl) (z_byk bcX9_isImage_0 0 3 _ bcX9_isImage_0_ok rfl) rfl
theorem dX9_isImage_10 : decode cX9_isImage 10 = .ok (.goto 4, 3) := zo_167 (z_byk bcX9_isImage_0 0 10 _ bcX9_isImage_0_ok rfl) (z_byk bcX9_isImage_0 0 11 _ bcX9_isImage_0_ok rfl) (z_byk bcX9_isImage_0 0 12 _ bcX9_isImage_0_ok rfl) rfl
theorem dX9_isImage_13 : decode cX9_isImage 13 = .ok (.iconst 0, 1) := zo_3 (z_byk bcX9_isImage_0 0 13 _ bcX9_isImage_0_ok rfl)
theorem dX9_isImage_14 : decode cX9_isImage 14 = .ok (.ireturn, 1) := zo_172 (z_byk bcX9_isImage_0 0 14 _ bcX9_isImage_0_ok rfl)
theorem dX9_isImage_4 : decode cX9_isImage 4 = .ok (.iload_n 0, 1) := zo_26 (z_byk bcX9_isImage_0 0 4 _ bcX9_isImage_0_ok rfl)
theorem dX9_isImage_5 : decode cX9_isImage 5 = .ok (.iconst 3, 1) := zo_6 (z_byk bcX9_isImage_0 0 5 _ bcX9_isImage_0_ok rfl)
theorem dX9_isImage_6 : decode cX9_isImage 6 = .ok (.if_icmp .ge 7, 3) := zo_162 (z_byk bcX9_isImage_0 0 6 _ bcX9_isImage_0_ok rfl) (z_byk bcX9_isImage_0 0 7 _ bcX9_isImage_0_ok rfl) (z_byk bcX9_isImage_0 0 8 _ bcX9_isImage_0_ok rfl) rfl
theorem dX9_isImage_9 : decode cX9_isImage 9 = .ok (.iconst 1, 1) := zo_4 (z_byk bcX9_isImage_0 0 9 _ bcX9_isImage_0_ok rfl)
def bcX9_isSlot_0 : List Nat := [26, 155, 0, 12, 26, 7, 162, 0, 7, 4, 167, 0, 4, 3, 172]
theorem bcX9_isSlot_0_ok : z_bys cX9_isSlot 0 bcX9_isSlot_0 = true := by decide +kernel
theorem dX9_isSlot_0 : decode cX9_isSlot 0 = .ok (.iload_n 0, 1) := zo_26 (z_byk bcX9_isSlot_0 0 0 _ bcX9_isSlot_0_ok rfl)
theorem dX9_isSlot_1 : decode cX9_isSlot 1 = .ok (.ifCond .lt 12, 3) := zo_155 (z_byk bcX9_isSlot_0 0 1 _ bcX9_isSlot_0_ok rfl) (z_byk bcX9_isSlot_0 0 2 _ bcX9_isSlot_0_ok rfl) (z_byk bcX9_isSlot_0 0 3 _ bcX9_isSlot_0_ok rfl) rfl
theorem dX9_isSlot_10 : decode cX9_isSlot 10 = .ok (.goto 4, 3) := zo_167 (z_byk bcX9_isSlot_0 0 10 _ bcX9_isSlot_0_ok rfl) (z_byk bcX9_isSlot_0 0 11 _ bcX9_isSlot_0_ok rfl) (z_byk bcX9_isSlot_0 0 12 _ bcX9_isSlot_0_ok rfl) rfl
theorem dX9_isSlot_13 : decode cX9_isSlot 13 = .ok (.iconst 0, 1) := zo_3 (z_byk bcX9_isSlot_0 0 13 _ bcX9_isSlot_0_ok rfl)
theorem dX9_isSlot_14 : decode cX9_isSlot 14 = .ok (.ireturn, 1) := zo_172 (z_byk bcX9_isSlot_0 0 14 _ bcX9_isSlot_0_ok rfl)
theorem dX9_isSlot_4 : decode cX9_isSlot 4 = .ok (.iload_n 0, 1) := zo_26 (z_byk bcX9_isSlot_0 0 4 _ bcX9_isSlot_0_ok rfl)
theorem dX9_isSlot_5 : decode cX9_isSlot 5 = .ok (.iconst 4, 1) := zo_7 (z_byk bcX9_isSlot_0 0 5 _ bcX9_isSlot_0_ok rfl)
theorem dX9_isSlot_6 : decode cX9_isSlot 6 = .ok (.if_icmp .ge 7, 3) := zo_162 (z_byk bcX9_isSlot_0 0 6 _ bcX9_isSlot_0_ok rfl) (z_byk bcX9_isSlot_0 0 7 _ bcX9_isSlot_0_ok rfl) (z_byk bcX9_isSlot_0 0 8 _ bcX9_isSlot_0_ok rfl) rfl
theorem dX9_isSlot_9 : decode cX9_isSlot 9 = .ok (.iconst 1, 1) := zo_4 (z_byk bcX9_isSlot_0 0 9 _ bcX9_isSlot_0_ok rfl)
def bcX9_isSooner_0 : List Nat := [26, 2, 159, 0, 17, 27, 2, 159, 0, 8, 26, 27, 162, 0, 7, 4, 167, 0, 4, 3, 172]
theorem bcX9_isSooner_0_ok : z_bys cX9_isSooner 0 bcX9_isSooner_0 = true := by decide +kernel
theorem dX9_isSooner_0 : decode cX9_isSooner 0 = .ok (.iload_n 0, 1) := zo_26 (z_byk bcX9_isSooner_0 0 0 _ bcX9_isSooner_0_ok rfl)
theorem dX9_isSooner_1 : decode cX9_isSooner 1 = .ok (.iconst (-1), 1) := zo_2 (z_byk bcX9_isSooner_0 0 1 _ bcX9_isSooner_0_ok rfl)
theorem dX9_isSooner_10 : decode cX9_isSooner 10 = .ok (.iload_n 0, 1) := zo_26 (z_byk bcX9_isSooner_0 0 10 _ bcX9_isSooner_0_ok rfl)
theorem dX9_isSooner_11 : decode cX9_isSooner 11 = .ok (.iload_n 1, 1) := zo_27 (z_byk bcX9_isSooner_0 0 11 _ bcX9_isSooner_0_ok rfl)
theorem dX9_isSooner_12 : decode cX9_isSooner 12 = .ok (.if_icmp .ge 7, 3) := zo_162 (z_byk bcX9_isSooner_0 0 12 _ bcX9_isSooner_0_ok rfl) (z_byk bcX9_isSooner_0 0 13 _ bcX9_isSooner_0_ok rfl) (z_byk bcX9_isSooner_0 0 14 _ bcX9_isSooner_0_ok rfl) rfl
theorem dX9_isSooner_15 : decode cX9_isSooner 15 = .ok (.iconst 1, 1) := zo_4 (z_byk bcX9_isSooner_0 0 15 _ bcX9_isSooner_0_ok rfl)
theorem dX9_isSooner_16 : decode cX9_isSooner 16 = .ok (.goto 4, 3) := zo_167 (z_byk bcX9_isSooner_0 0 16 _ bcX9_isSooner_0_ok rfl) (z_byk bcX9_isSooner_0 0 17 _ bcX9_isSooner_0_ok rfl) (z_byk bcX9_isSooner_0 0 18 _ bcX9_isSooner_0_ok rfl) rfl
theorem dX9_isSooner_19 : decode cX9_isSooner 19 = .ok (.iconst 0, 1) := zo_3 (z_byk bcX9_isSooner_0 0 19 _ bcX9_isSooner_0_ok rfl)
theorem dX9_isSooner_2 : decode cX9_isSooner 2 = .ok (.if_icmp .eq 17, 3) := zo_159 (z_byk bcX9_isSooner_0 0 2 _ bcX9_isSooner_0_ok rfl) (z_byk bcX9_isSooner_0 0 3 _ bcX9_isSooner_0_ok rfl) (z_byk bcX9_isSooner_0 0 4 _ bcX9_isSooner_0_ok rfl) rfl
theorem dX9_isSooner_20 : decode cX9_isSooner 20 = .ok (.ireturn, 1) := zo_172 (z_byk bcX9_isSooner_0 0 20 _ bcX9_isSooner_0_ok rfl)
theorem dX9_isSooner_5 : decode cX9_isSooner 5 = .ok (.iload_n 1, 1) := zo_27 (z_byk bcX9_isSooner_0 0 5 _ bcX9_isSooner_0_ok rfl)
theorem dX9_isSooner_6 : decode cX9_isSooner 6 = .ok (.iconst (-1), 1) := zo_2 (z_byk bcX9_isSooner_0 0 6 _ bcX9_isSooner_0_ok rfl)
theorem dX9_isSooner_7 : decode cX9_isSooner 7 = .ok (.if_icmp .eq 8, 3) := zo_159 (z_byk bcX9_isSooner_0 0 7 _ bcX9_isSooner_0_ok rfl) (z_byk bcX9_isSooner_0 0 8 _ bcX9_isSooner_0_ok rfl) (z_byk bcX9_isSooner_0 0 9 _ bcX9_isSooner_0_ok rfl) rfl
def bcX9_knowNames_0 : List Nat := [42, 180, 0, 44, 42, 180, 0, 20, 180, 0, 106, 27, 42, 180, 0, 20, 180, 0, 120, 182, 0, 167, 177]
theorem bcX9_knowNames_0_ok : z_bys cX9_knowNames 0 bcX9_knowNames_0 = true := by decide +kernel
theorem dX9_knowNames_0 : decode cX9_knowNames 0 = .ok (.aload_n 0, 1) := zo_42 (z_byk bcX9_knowNames_0 0 0 _ bcX9_knowNames_0_ok rfl)
theorem dX9_knowNames_1 : decode cX9_knowNames 1 = .ok (.getfield 44, 3) := zo_180 (z_byk bcX9_knowNames_0 0 1 _ bcX9_knowNames_0_ok rfl) (z_byk bcX9_knowNames_0 0 2 _ bcX9_knowNames_0_ok rfl) (z_byk bcX9_knowNames_0 0 3 _ bcX9_knowNames_0_ok rfl) rfl
theorem dX9_knowNames_11 : decode cX9_knowNames 11 = .ok (.iload_n 1, 1) := zo_27 (z_byk bcX9_knowNames_0 0 11 _ bcX9_knowNames_0_ok rfl)
theorem dX9_knowNames_12 : decode cX9_knowNames 12 = .ok (.aload_n 0, 1) := zo_42 (z_byk bcX9_knowNames_0 0 12 _ bcX9_knowNames_0_ok rfl)
theorem dX9_knowNames_13 : decode cX9_knowNames 13 = .ok (.getfield 20, 3) := zo_180 (z_byk bcX9_knowNames_0 0 13 _ bcX9_knowNames_0_ok rfl) (z_byk bcX9_knowNames_0 0 14 _ bcX9_knowNames_0_ok rfl) (z_byk bcX9_knowNames_0 0 15 _ bcX9_knowNames_0_ok rfl) rfl
theorem dX9_knowNames_16 : decode cX9_knowNames 16 = .ok (.getfield 120, 3) := zo_180 (z_byk bcX9_knowNames_0 0 16 _ bcX9_knowNames_0_ok rfl) (z_byk bcX9_knowNames_0 0 17 _ bcX9_knowNames_0_ok rfl) (z_byk bcX9_knowNames_0 0 18 _ bcX9_knowNames_0_ok rfl) rfl
theorem dX9_knowNames_19 : decode cX9_knowNames 19 = .ok (.invokevirtual 167, 3) := zo_182 (z_byk bcX9_knowNames_0 0 19 _ bcX9_knowNames_0_ok rfl) (z_byk bcX9_knowNames_0 0 20 _ bcX9_knowNames_0_ok rfl) (z_byk bcX9_knowNames_0 0 21 _ bcX9_knowNames_0_ok rfl) rfl
theorem dX9_knowNames_22 : decode cX9_knowNames 22 = .ok (.return_, 1) := zo_177 (z_byk bcX9_knowNames_0 0 22 _ bcX9_knowNames_0_ok rfl)
theorem dX9_knowNames_4 : decode cX9_knowNames 4 = .ok (.aload_n 0, 1) := zo_42 (z_byk bcX9_knowNames_0 0 4 _ bcX9_knowNames_0_ok rfl)
theorem dX9_knowNames_5 : decode cX9_knowNames 5 = .ok (.getfield 20, 3) := zo_180 (z_byk bcX9_knowNames_0 0 5 _ bcX9_knowNames_0_ok rfl) (z_byk bcX9_knowNames_0 0 6 _ bcX9_knowNames_0_ok rfl) (z_byk bcX9_knowNames_0 0 7 _ bcX9_knowNames_0_ok rfl) rfl
theorem dX9_knowNames_8 : decode cX9_knowNames 8 = .ok (.getfield 106, 3) := zo_180 (z_byk bcX9_knowNames_0 0 8 _ bcX9_knowNames_0_ok rfl) (z_byk bcX9_knowNames_0 0 9 _ bcX9_knowNames_0_ok rfl) (z_byk bcX9_knowNames_0 0 10 _ bcX9_knowNames_0_ok rfl) rfl
def bcX9_names_0 : List Nat := [42, 180, 0, 20, 180, 0, 106, 27, 182, 0, 110, 154, 0, 6, 16, 254, 172, 42, 180, 0, 20, 180, 0, 114, 61, 42, 180, 0, 20, 27, 181, 0, 114, 28, 172]
theorem bcX9_names_0_ok : z_bys cX9_names 0 bcX9_names_0 = true := by decide +kernel
theorem dX9_names_0 : decode cX9_names 0 = .ok (.aload_n 0, 1) := zo_42 (z_byk bcX9_names_0 0 0 _ bcX9_names_0_ok rfl)
theorem dX9_names_1 : decode cX9_names 1 = .ok (.getfield 20, 3) := zo_180 (z_byk bcX9_names_0 0 1 _ bcX9_names_0_ok rfl) (z_byk bcX9_names_0 0 2 _ bcX9_names_0_ok rfl) (z_byk bcX9_names_0 0 3 _ bcX9_names_0_ok rfl) rfl
theorem dX9_names_11 : decode cX9_names 11 = .ok (.ifCond .ne 6, 3) := zo_154 (z_byk bcX9_names_0 0 11 _ bcX9_names_0_ok rfl) (z_byk bcX9_names_0 0 12 _ bcX9_names_0_ok rfl) (z_byk bcX9_names_0 0 13 _ bcX9_names_0_ok rfl) rfl
theorem dX9_names_14 : decode cX9_names 14 = .ok (.bipush (-2), 2) := zo_16 (z_byk bcX9_names_0 0 14 _ bcX9_names_0_ok rfl) (z_byk bcX9_names_0 0 15 _ bcX9_names_0_ok rfl) rfl
theorem dX9_names_16 : decode cX9_names 16 = .ok (.ireturn, 1) := zo_172 (z_byk bcX9_names_0 0 16 _ bcX9_names_0_ok rfl)
theorem dX9_names_17 : decode cX9_names 17 = .ok (.aload_n 0, 1) := zo_42 (z_byk bcX9_names_0 0 17 _ bcX9_names_0_ok rfl)
theorem dX9_names_18 : decode cX9_names 18 = .ok (.getfield 20, 3) := zo_180 (z_byk bcX9_names_0 0 18 _ bcX9_names_0_ok rfl) (z_byk bcX9_names_0 0 19 _ bcX9_names_0_ok rfl) (z_byk bcX9_names_0 0 20 _ bcX9_names_0_ok rfl) rfl
theorem dX9_names_21 : decode cX9_names 21 = .ok (.getfield 114, 3) := zo_180 (z_byk bcX9_names_0 0 21 _ bcX9_names_0_ok rfl) (z_byk bcX9_names_0 0 22 _ bcX9_names_0_ok rfl) (z_byk bcX9_names_0 0 23 _ bcX9_names_0_ok rfl) rfl
theorem dX9_names_24 : decode cX9_names 24 = .ok (.istore_n 2, 1) := zo_61 (z_byk bcX9_names_0 0 24 _ bcX9_names_0_ok rfl)
theorem dX9_names_25 : decode cX9_names 25 = .ok (.aload_n 0, 1) := zo_42 (z_byk bcX9_names_0 0 25 _ bcX9_names_0_ok rfl)
theorem dX9_names_26 : decode cX9_names 26 = .ok (.getfield 20, 3) := zo_180 (z_byk bcX9_names_0 0 26 _ bcX9_names_0_ok rfl) (z_byk bcX9_names_0 0 27 _ bcX9_names_0_ok rfl) (z_byk bcX9_names_0 0 28 _ bcX9_names_0_ok rfl) rfl
theorem dX9_names_29 : decode cX9_names 29 = .ok (.iload_n 1, 1) := zo_27 (z_byk bcX9_names_0 0 29 _ bcX9_names_0_ok rfl)
theorem dX9_names_30 : decode cX9_names 30 = .ok (.putfield 114, 3) := zo_181 (z_byk bcX9_names_0 0 30 _ bcX9_names_0_ok rfl) (z_byk bcX9_names_0 0 31 _ bcX9_names_0_ok rfl) (z_byk bcX9_names_0 0 32 _ bcX9_names_0_ok rfl) rfl
theorem dX9_names_33 : decode cX9_names 33 = .ok (.iload_n 2, 1) := zo_28 (z_byk bcX9_names_0 0 33 _ bcX9_names_0_ok rfl)
theorem dX9_names_34 : decode cX9_names 34 = .ok (.ireturn, 1) := zo_172 (z_byk bcX9_names_0 0 34 _ bcX9_names_0_ok rfl)
theorem dX9_names_4 : decode cX9_names 4 = .ok (.getfield 106, 3) := zo_180 (z_byk bcX9_names_0 0 4 _ bcX9_names_0_ok rfl) (z_byk bcX9_names_0 0 5 _ bcX9_names_0_ok rfl) (z_byk bcX9_names_0 0 6 _ bcX9_names_0_ok rfl) rfl
theorem dX9_names_7 : decode cX9_names 7 = .ok (.iload_n 1, 1) := zo_27 (z_byk bcX9_names_0 0 7 _ bcX9_names_0_ok rfl)
theorem dX9_names_8 : decode cX9_names 8 = .ok (.invokevirtual 110, 3) := zo_182 (z_byk bcX9_names_0 0 8 _ bcX9_names_0_ok rfl) (z_byk bcX9_names_0 0 9 _ bcX9_names_0_ok rfl) (z_byk bcX9_names_0 0 10 _ bcX9_names_0_ok rfl) rfl
def bcX9_sizeOrSet_0 : List Nat := [26, 2, 160, 0, 5, 2, 172, 27, 154, 0, 10, 26, 184, 0, 143, 167, 0, 4, 26, 172]
theorem bcX9_sizeOrSet_0_ok : z_bys cX9_sizeOrSet 0 bcX9_sizeOrSet_0 = true := by decide +kernel
theorem dX9_sizeOrSet_0 : decode cX9_sizeOrSet 0 = .ok (.iload_n 0, 1) := zo_26 (z_byk bcX9_sizeOrSet_0 0 0 _ bcX9_sizeOrSet_0_ok rfl)
theorem dX9_sizeOrSet_1 : decode cX9_sizeOrSet 1 = .ok (.iconst (-1), 1) := zo_2 (z_byk bcX9_sizeOrSet_0 0 1 _ bcX9_sizeOrSet_0_ok rfl)
theorem dX9_sizeOrSet_11 : decode cX9_sizeOrSet 11 = .ok (.iload_n 0, 1) := zo_26 (z_byk bcX9_sizeOrSet_0 0 11 _ bcX9_sizeOrSet_0_ok rfl)
theorem dX9_sizeOrSet_12 : decode cX9_sizeOrSet 12 = .ok (.invokestatic 143, 3) := zo_184 (z_byk bcX9_sizeOrSet_0 0 12 _ bcX9_sizeOrSet_0_ok rfl) (z_byk bcX9_sizeOrSet_0 0 13 _ bcX9_sizeOrSet_0_ok rfl) (z_byk bcX9_sizeOrSet_0 0 14 _ bcX9_sizeOrSet_0_ok rfl) rfl
theorem dX9_sizeOrSet_15 : decode cX9_sizeOrSet 15 = .ok (.goto 4, 3) := zo_167 (z_byk bcX9_sizeOrSet_0 0 15 _ bcX9_sizeOrSet_0_ok rfl) (z_byk bcX9_sizeOrSet_0 0 16 _ bcX9_sizeOrSet_0_ok rfl) (z_byk bcX9_sizeOrSet_0 0 17 _ bcX9_sizeOrSet_0_ok rfl) rfl
theorem dX9_sizeOrSet_18 : decode cX9_sizeOrSet 18 = .ok (.iload_n 0, 1) := zo_26 (z_byk bcX9_sizeOrSet_0 0 18 _ bcX9_sizeOrSet_0_ok rfl)
theorem dX9_sizeOrSet_19 : decode cX9_sizeOrSet 19 = .ok (.ireturn, 1) := zo_172 (z_byk bcX9_sizeOrSet_0 0 19 _ bcX9_sizeOrSet_0_ok rfl)
theorem dX9_sizeOrSet_2 : decode cX9_sizeOrSet 2 = .ok (.if_icmp .ne 5, 3) := zo_160 (z_byk bcX9_sizeOrSet_0 0 2 _ bcX9_sizeOrSet_0_ok rfl) (z_byk bcX9_sizeOrSet_0 0 3 _ bcX9_sizeOrSet_0_ok rfl) (z_byk bcX9_sizeOrSet_0 0 4 _ bcX9_sizeOrSet_0_ok rfl) rfl
theorem dX9_sizeOrSet_5 : decode cX9_sizeOrSet 5 = .ok (.iconst (-1), 1) := zo_2 (z_byk bcX9_sizeOrSet_0 0 5 _ bcX9_sizeOrSet_0_ok rfl)
theorem dX9_sizeOrSet_6 : decode cX9_sizeOrSet 6 = .ok (.ireturn, 1) := zo_172 (z_byk bcX9_sizeOrSet_0 0 6 _ bcX9_sizeOrSet_0_ok rfl)
theorem dX9_sizeOrSet_7 : decode cX9_sizeOrSet 7 = .ok (.iload_n 1, 1) := zo_27 (z_byk bcX9_sizeOrSet_0 0 7 _ bcX9_sizeOrSet_0_ok rfl)
theorem dX9_sizeOrSet_8 : decode cX9_sizeOrSet 8 = .ok (.ifCond .ne 10, 3) := zo_154 (z_byk bcX9_sizeOrSet_0 0 8 _ bcX9_sizeOrSet_0_ok rfl) (z_byk bcX9_sizeOrSet_0 0 9 _ bcX9_sizeOrSet_0_ok rfl) (z_byk bcX9_sizeOrSet_0 0 10 _ bcX9_sizeOrSet_0_ok rfl) rfl
def bcX9_strayed_0 : List Nat := [27, 42, 180, 0, 20, 180, 0, 106, 180, 0, 117, 2, 130, 126, 153, 0, 6, 16, 254, 172, 42, 180, 0, 20, 180, 0, 120, 61, 42, 180, 0, 20, 27, 181, 0, 120, 28, 172]
theorem bcX9_strayed_0_ok : z_bys cX9_strayed 0 bcX9_strayed_0 = true := by decide +kernel
theorem dX9_strayed_0 : decode cX9_strayed 0 = .ok (.iload_n 1, 1) := zo_27 (z_byk bcX9_strayed_0 0 0 _ bcX9_strayed_0_ok rfl)
theorem dX9_strayed_1 : decode cX9_strayed 1 = .ok (.aload_n 0, 1) := zo_42 (z_byk bcX9_strayed_0 0 1 _ bcX9_strayed_0_ok rfl)
theorem dX9_strayed_11 : decode cX9_strayed 11 = .ok (.iconst (-1), 1) := zo_2 (z_byk bcX9_strayed_0 0 11 _ bcX9_strayed_0_ok rfl)
theorem dX9_strayed_12 : decode cX9_strayed 12 = .ok (.ixor, 1) := zo_130 (z_byk bcX9_strayed_0 0 12 _ bcX9_strayed_0_ok rfl)
theorem dX9_strayed_13 : decode cX9_strayed 13 = .ok (.iand, 1) := zo_126 (z_byk bcX9_strayed_0 0 13 _ bcX9_strayed_0_ok rfl)
theorem dX9_strayed_14 : decode cX9_strayed 14 = .ok (.ifCond .eq 6, 3) := zo_153 (z_byk bcX9_strayed_0 0 14 _ bcX9_strayed_0_ok rfl) (z_byk bcX9_strayed_0 0 15 _ bcX9_strayed_0_ok rfl) (z_byk bcX9_strayed_0 0 16 _ bcX9_strayed_0_ok rfl) rfl
theorem dX9_strayed_17 : decode cX9_strayed 17 = .ok (.bipush (-2), 2) := zo_16 (z_byk bcX9_strayed_0 0 17 _ bcX9_strayed_0_ok rfl) (z_byk bcX9_strayed_0 0 18 _ bcX9_strayed_0_ok rfl) rfl
theorem dX9_strayed_19 : decode cX9_strayed 19 = .ok (.ireturn, 1) := zo_172 (z_byk bcX9_strayed_0 0 19 _ bcX9_strayed_0_ok rfl)
theorem dX9_strayed_2 : decode cX9_strayed 2 = .ok (.getfield 20, 3) := zo_180 (z_byk bcX9_strayed_0 0 2 _ bcX9_strayed_0_ok rfl) (z_byk bcX9_strayed_0 0 3 _ bcX9_strayed_0_ok rfl) (z_byk bcX9_strayed_0 0 4 _ bcX9_strayed_0_ok rfl) rfl
theorem dX9_strayed_20 : decode cX9_strayed 20 = .ok (.aload_n 0, 1) := zo_42 (z_byk bcX9_strayed_0 0 20 _ bcX9_strayed_0_ok rfl)
theorem dX9_strayed_21 : decode cX9_strayed 21 = .ok (.getfield 20, 3) := zo_180 (z_byk bcX9_strayed_0 0 21 _ bcX9_strayed_0_ok rfl) (z_byk bcX9_strayed_0 0 22 _ bcX9_strayed_0_ok rfl) (z_byk bcX9_strayed_0 0 23 _ bcX9_strayed_0_ok rfl) rfl
theorem dX9_strayed_24 : decode cX9_strayed 24 = .ok (.getfield 120, 3) := zo_180 (z_byk bcX9_strayed_0 0 24 _ bcX9_strayed_0_ok rfl) (z_byk bcX9_strayed_0 0 25 _ bcX9_strayed_0_ok rfl) (z_byk bcX9_strayed_0 0 26 _ bcX9_strayed_0_ok rfl) rfl
theorem dX9_strayed_27 : decode cX9_strayed 27 = .ok (.istore_n 2, 1) := zo_61 (z_byk bcX9_strayed_0 0 27 _ bcX9_strayed_0_ok rfl)
theorem dX9_strayed_28 : decode cX9_strayed 28 = .ok (.aload_n 0, 1) := zo_42 (z_byk bcX9_strayed_0 0 28 _ bcX9_strayed_0_ok rfl)
theorem dX9_strayed_29 : decode cX9_strayed 29 = .ok (.getfield 20, 3) := zo_180 (z_byk bcX9_strayed_0 0 29 _ bcX9_strayed_0_ok rfl) (z_byk bcX9_strayed_0 0 30 _ bcX9_strayed_0_ok rfl) (z_byk bcX9_strayed_0 0 31 _ bcX9_strayed_0_ok rfl) rfl
theorem dX9_strayed_32 : decode cX9_strayed 32 = .ok (.iload_n 1, 1) := zo_27 (z_byk bcX9_strayed_0 0 32 _ bcX9_strayed_0_ok rfl)
theorem dX9_strayed_33 : decode cX9_strayed 33 = .ok (.putfield 120, 3) := zo_181 (z_byk bcX9_strayed_0 0 33 _ bcX9_strayed_0_ok rfl) (z_byk bcX9_strayed_0 0 34 _ bcX9_strayed_0_ok rfl) (z_byk bcX9_strayed_0 0 35 _ bcX9_strayed_0_ok rfl) rfl
theorem dX9_strayed_36 : decode cX9_strayed 36 = .ok (.iload_n 2, 1) := zo_28 (z_byk bcX9_strayed_0 0 36 _ bcX9_strayed_0_ok rfl)
theorem dX9_strayed_37 : decode cX9_strayed 37 = .ok (.ireturn, 1) := zo_172 (z_byk bcX9_strayed_0 0 37 _ bcX9_strayed_0_ok rfl)
theorem dX9_strayed_5 : decode cX9_strayed 5 = .ok (.getfield 106, 3) := zo_180 (z_byk bcX9_strayed_0 0 5 _ bcX9_strayed_0_ok rfl) (z_byk bcX9_strayed_0 0 6 _ bcX9_strayed_0_ok rfl) (z_byk bcX9_strayed_0 0 7 _ bcX9_strayed_0_ok rfl) rfl
theorem dX9_strayed_8 : decode cX9_strayed 8 = .ok (.getfield 117, 3) := zo_180 (z_byk bcX9_strayed_0 0 8 _ bcX9_strayed_0_ok rfl) (z_byk bcX9_strayed_0 0 9 _ bcX9_strayed_0_ok rfl) (z_byk bcX9_strayed_0 0 10 _ bcX9_strayed_0_ok rfl) rfl
def bcX9_where_0 : List Nat := [42, 180, 0, 20, 180, 0, 106, 78, 45, 27, 182, 0, 123, 153, 0, 11, 45, 28, 182, 0, 126, 154, 0, 6, 16, 254, 172, 45, 27, 28, 42, 180, 0, 20, 180, 0, 120, 182, 0, 129, 172]
theorem bcX9_where_0_ok : z_bys cX9_where 0 bcX9_where_0 = true := by decide +kernel
theorem dX9_where_0 : decode cX9_where 0 = .ok (.aload_n 0, 1) := zo_42 (z_byk bcX9_where_0 0 0 _ bcX9_where_0_ok rfl)
theorem dX9_where_1 : decode cX9_where 1 = .ok (.getfield 20, 3) := zo_180 (z_byk bcX9_where_0 0 1 _ bcX9_where_0_ok rfl) (z_byk bcX9_where_0 0 2 _ bcX9_where_0_ok rfl) (z_byk bcX9_where_0 0 3 _ bcX9_where_0_ok rfl) rfl
theorem dX9_where_10 : decode cX9_where 10 = .ok (.invokevirtual 123, 3) := zo_182 (z_byk bcX9_where_0 0 10 _ bcX9_where_0_ok rfl) (z_byk bcX9_where_0 0 11 _ bcX9_where_0_ok rfl) (z_byk bcX9_where_0 0 12 _ bcX9_where_0_ok rfl) rfl
theorem dX9_where_13 : decode cX9_where 13 = .ok (.ifCond .eq 11, 3) := zo_153 (z_byk bcX9_where_0 0 13 _ bcX9_where_0_ok rfl) (z_byk bcX9_where_0 0 14 _ bcX9_where_0_ok rfl) (z_byk bcX9_where_0 0 15 _ bcX9_where_0_ok rfl) rfl
theorem dX9_where_16 : decode cX9_where 16 = .ok (.aload_n 3, 1) := zo_45 (z_byk bcX9_where_0 0 16 _ bcX9_where_0_ok rfl)
theorem dX9_where_17 : decode cX9_where 17 = .ok (.iload_n 2, 1) := zo_28 (z_byk bcX9_where_0 0 17 _ bcX9_where_0_ok rfl)
theorem dX9_where_18 : decode cX9_where 18 = .ok (.invokevirtual 126, 3) := zo_182 (z_byk bcX9_where_0 0 18 _ bcX9_where_0_ok rfl) (z_byk bcX9_where_0 0 19 _ bcX9_where_0_ok rfl) (z_byk bcX9_where_0 0 20 _ bcX9_where_0_ok rfl) rfl
theorem dX9_where_21 : decode cX9_where 21 = .ok (.ifCond .ne 6, 3) := zo_154 (z_byk bcX9_where_0 0 21 _ bcX9_where_0_ok rfl) (z_byk bcX9_where_0 0 22 _ bcX9_where_0_ok rfl) (z_byk bcX9_where_0 0 23 _ bcX9_where_0_ok rfl) rfl
theorem dX9_where_24 : decode cX9_where 24 = .ok (.bipush (-2), 2) := zo_16 (z_byk bcX9_where_0 0 24 _ bcX9_where_0_ok rfl) (z_byk bcX9_where_0 0 25 _ bcX9_where_0_ok rfl) rfl
theorem dX9_where_26 : decode cX9_where 26 = .ok (.ireturn, 1) := zo_172 (z_byk bcX9_where_0 0 26 _ bcX9_where_0_ok rfl)
theorem dX9_where_27 : decode cX9_where 27 = .ok (.aload_n 3, 1) := zo_45 (z_byk bcX9_where_0 0 27 _ bcX9_where_0_ok rfl)
theorem dX9_where_28 : decode cX9_where 28 = .ok (.iload_n 1, 1) := zo_27 (z_byk bcX9_where_0 0 28 _ bcX9_where_0_ok rfl)
theorem dX9_where_29 : decode cX9_where 29 = .ok (.iload_n 2, 1) := zo_28 (z_byk bcX9_where_0 0 29 _ bcX9_where_0_ok rfl)
theorem dX9_where_30 : decode cX9_where 30 = .ok (.aload_n 0, 1) := zo_42 (z_byk bcX9_where_0 0 30 _ bcX9_where_0_ok rfl)
theorem dX9_where_31 : decode cX9_where 31 = .ok (.getfield 20, 3) := zo_180 (z_byk bcX9_where_0 0 31 _ bcX9_where_0_ok rfl) (z_byk bcX9_where_0 0 32 _ bcX9_where_0_ok rfl) (z_byk bcX9_where_0 0 33 _ bcX9_where_0_ok rfl) rfl
theorem dX9_where_34 : decode cX9_where 34 = .ok (.getfield 120, 3) := zo_180 (z_byk bcX9_where_0 0 34 _ bcX9_where_0_ok rfl) (z_byk bcX9_where_0 0 35 _ bcX9_where_0_ok rfl) (z_byk bcX9_where_0 0 36 _ bcX9_where_0_ok rfl) rfl
theorem dX9_where_37 : decode cX9_where 37 = .ok (.invokevirtual 129, 3) := zo_182 (z_byk bcX9_where_0 0 37 _ bcX9_where_0_ok rfl) (z_byk bcX9_where_0 0 38 _ bcX9_where_0_ok rfl) (z_byk bcX9_where_0 0 39 _ bcX9_where_0_ok rfl) rfl
theorem dX9_where_4 : decode cX9_where 4 = .ok (.getfield 106, 3) := zo_180 (z_byk bcX9_where_0 0 4 _ bcX9_where_0_ok rfl) (z_byk bcX9_where_0 0 5 _ bcX9_where_0_ok rfl) (z_byk bcX9_where_0 0 6 _ bcX9_where_0_ok rfl) rfl
theorem dX9_where_40 : decode cX9_where 40 = .ok (.ireturn, 1) := zo_172 (z_byk bcX9_where_0 0 40 _ bcX9_where_0_ok rfl)
theorem dX9_where_7 : decode cX9_where 7 = .ok (.astore_n 3, 1) := zo_78 (z_byk bcX9_where_0 0 7 _ bcX9_where_0_ok rfl)
theorem dX9_where_8 : decode cX9_where 8 = .ok (.aload_n 3, 1) := zo_45 (z_byk bcX9_where_0 0 8 _ bcX9_where_0_ok rfl)
theorem dX9_where_9 : decode cX9_where 9 = .ok (.iload_n 1, 1) := zo_27 (z_byk bcX9_where_0 0 9 _ bcX9_where_0_ok rfl)
def bcX9_within_0 : List Nat := [42, 180, 0, 20, 180, 0, 106, 78, 45, 27, 182, 0, 133, 153, 0, 11, 45, 28, 182, 0, 126, 154, 0, 6, 16, 254, 172, 45, 27, 28, 42, 180, 0, 20, 180, 0, 120, 182, 0, 136, 172]
theorem bcX9_within_0_ok : z_bys cX9_within 0 bcX9_within_0 = true := by decide +kernel
theorem dX9_within_0 : decode cX9_within 0 = .ok (.aload_n 0, 1) := zo_42 (z_byk bcX9_within_0 0 0 _ bcX9_within_0_ok rfl)
theorem dX9_within_1 : decode cX9_within 1 = .ok (.getfield 20, 3) := zo_180 (z_byk bcX9_within_0 0 1 _ bcX9_within_0_ok rfl) (z_byk bcX9_within_0 0 2 _ bcX9_within_0_ok rfl) (z_byk bcX9_within_0 0 3 _ bcX9_within_0_ok rfl) rfl
theorem dX9_within_10 : decode cX9_within 10 = .ok (.invokevirtual 133, 3) := zo_182 (z_byk bcX9_within_0 0 10 _ bcX9_within_0_ok rfl) (z_byk bcX9_within_0 0 11 _ bcX9_within_0_ok rfl) (z_byk bcX9_within_0 0 12 _ bcX9_within_0_ok rfl) rfl
theorem dX9_within_13 : decode cX9_within 13 = .ok (.ifCond .eq 11, 3) := zo_153 (z_byk bcX9_within_0 0 13 _ bcX9_within_0_ok rfl) (z_byk bcX9_within_0 0 14 _ bcX9_within_0_ok rfl) (z_byk bcX9_within_0 0 15 _ bcX9_within_0_ok rfl) rfl
theorem dX9_within_16 : decode cX9_within 16 = .ok (.aload_n 3, 1) := zo_45 (z_byk bcX9_within_0 0 16 _ bcX9_within_0_ok rfl)
theorem dX9_within_17 : decode cX9_within 17 = .ok (.iload_n 2, 1) := zo_28 (z_byk bcX9_within_0 0 17 _ bcX9_within_0_ok rfl)
theorem dX9_within_18 : decode cX9_within 18 = .ok (.invokevirtual 126, 3) := zo_182 (z_byk bcX9_within_0 0 18 _ bcX9_within_0_ok rfl) (z_byk bcX9_within_0 0 19 _ bcX9_within_0_ok rfl) (z_byk bcX9_within_0 0 20 _ bcX9_within_0_ok rfl) rfl
theorem dX9_within_21 : decode cX9_within 21 = .ok (.ifCond .ne 6, 3) := zo_154 (z_byk bcX9_within_0 0 21 _ bcX9_within_0_ok rfl) (z_byk bcX9_within_0 0 22 _ bcX9_within_0_ok rfl) (z_byk bcX9_within_0 0 23 _ bcX9_within_0_ok rfl) rfl
theorem dX9_within_24 : decode cX9_within 24 = .ok (.bipush (-2), 2) := zo_16 (z_byk bcX9_within_0 0 24 _ bcX9_within_0_ok rfl) (z_byk bcX9_within_0 0 25 _ bcX9_within_0_ok rfl) rfl
theorem dX9_within_26 : decode cX9_within 26 = .ok (.ireturn, 1) := zo_172 (z_byk bcX9_within_0 0 26 _ bcX9_within_0_ok rfl)
theorem dX9_within_27 : decode cX9_within 27 = .ok (.aload_n 3, 1) := zo_45 (z_byk bcX9_within_0 0 27 _ bcX9_within_0_ok rfl)
theorem dX9_within_28 : decode cX9_within 28 = .ok (.iload_n 1, 1) := zo_27 (z_byk bcX9_within_0 0 28 _ bcX9_within_0_ok rfl)
theorem dX9_within_29 : decode cX9_within 29 = .ok (.iload_n 2, 1) := zo_28 (z_byk bcX9_within_0 0 29 _ bcX9_within_0_ok rfl)
theorem dX9_within_30 : decode cX9_within 30 = .ok (.aload_n 0, 1) := zo_42 (z_byk bcX9_within_0 0 30 _ bcX9_within_0_ok rfl)
theorem dX9_within_31 : decode cX9_within 31 = .ok (.getfield 20, 3) := zo_180 (z_byk bcX9_within_0 0 31 _ bcX9_within_0_ok rfl) (z_byk bcX9_within_0 0 32 _ bcX9_within_0_ok rfl) (z_byk bcX9_within_0 0 33 _ bcX9_within_0_ok rfl) rfl
theorem dX9_within_34 : decode cX9_within 34 = .ok (.getfield 120, 3) := zo_180 (z_byk bcX9_within_0 0 34 _ bcX9_within_0_ok rfl) (z_byk bcX9_within_0 0 35 _ bcX9_within_0_ok rfl) (z_byk bcX9_within_0 0 36 _ bcX9_within_0_ok rfl) rfl
theorem dX9_within_37 : decode cX9_within 37 = .ok (.invokevirtual 136, 3) := zo_182 (z_byk bcX9_within_0 0 37 _ bcX9_within_0_ok rfl) (z_byk bcX9_within_0 0 38 _ bcX9_within_0_ok rfl) (z_byk bcX9_within_0 0 39 _ bcX9_within_0_ok rfl) rfl
theorem dX9_within_4 : decode cX9_within 4 = .ok (.getfield 106, 3) := zo_180 (z_byk bcX9_within_0 0 4 _ bcX9_within_0_ok rfl) (z_byk bcX9_within_0 0 5 _ bcX9_within_0_ok rfl) (z_byk bcX9_within_0 0 6 _ bcX9_within_0_ok rfl) rfl
theorem dX9_within_40 : decode cX9_within 40 = .ok (.ireturn, 1) := zo_172 (z_byk bcX9_within_0 0 40 _ bcX9_within_0_ok rfl)
theorem dX9_within_7 : decode cX9_within 7 = .ok (.astore_n 3, 1) := zo_78 (z_byk bcX9_within_0 0 7 _ bcX9_within_0_ok rfl)
theorem dX9_within_8 : decode cX9_within 8 = .ok (.aload_n 3, 1) := zo_45 (z_byk bcX9_within_0 0 8 _ bcX9_within_0_ok rfl)
theorem dX9_within_9 : decode cX9_within 9 = .ok (.iload_n 1, 1) := zo_27 (z_byk bcX9_within_0 0 9 _ bcX9_within_0_ok rfl)
set_option maxHeartbeats 4000000 in
set_option maxRecDepth 100000 in
theorem k_X9_isSlot (l : Launch) (sa : Nat → Nat) (dC : Nat → ClassId) (dI : Nat → Nat → Nat) (p1 : Int32)  (sz : Nat) : Met l yX9_isSlot (.code yX9_isSlot cX9_isSlot 1 (some .boolean) :: zT) ({ frames := 0, cells := 0, slots := 0, locals := 0 }) (va_Pc [.int p1] (zB sa dC dI [] [] sz)) (va_Qi (fun (r : Int32) (_ : Unit) => (0 ≤ r.toInt ∧ r.toInt ≤ 1) ∧ (r.toInt = 0 ∨ (0 ≤ p1.toInt ∧ p1.toInt ≤ 3))) (fun _ t => zW dC dI [] [] (va_A [] sz) t) (va_A [] sz)) 0 0 (va_A [] sz) := by
  refine z_enter (by decide) (by exact (Nat.le_of_ble_eq_true rfl)) ?_
  intro p e s m args below meth c ls A R Qc hargs hsz hQe hAe hRe hx hb hml hr hts hown hlocks hin hl hP hK hD hN hXs hA hS
  rw [hAe] at hQe
  have hown : s.vm.findClass RX9 = some m.cls := hown
  have hl : lv_has ls 1 [(0, .int p1)] := hl
  refine lv_iload_n hx hb dX9_isSlot_0 rfl (lv_at hl 0 rfl) ?_
  have nb_p1 := zi_nb p1
  refine lv_if_lt (tgt := 13) hx hb dX9_isSlot_1 (by decide) (fun c_1 => ?_) (fun c_1 => ?_)
  · have ic_1 := zz_lt rfl (show Int32.toInt 0 = 0 from by decide) c_1
    refine lv_iconst (v := 0) hx hb dX9_isSlot_13 (by decide) ?_
    have zc : Int32.toInt 0 = 0 := by decide
    exact W.zret (v := 0) hx hb hr (by decide) (fun t ht hW => by rw [← hQe]; exact ⟨⟨0, (), rfl, (by first | decide | omega), z_ret hP hK hD ht hW [] [] rfl (by decide) rfl⟩, hS.F ht⟩) hS.2.2 dX9_isSlot_14
  · have ic_1 := zz_nlt rfl (show Int32.toInt 0 = 0 from by decide) c_1
    refine lv_iload_n hx hb dX9_isSlot_4 rfl (lv_at hl 0 rfl) ?_
    refine lv_iconst (v := 4) hx hb dX9_isSlot_5 (by decide) ?_
    refine lv_icmp_ge (tgt := 13) hx hb dX9_isSlot_6 (by decide) (fun c_2 => ?_) (fun c_2 => ?_)
    · have ic_2 := zz_ge rfl (show Int32.toInt 4 = 4 from by decide) c_2
      refine lv_iconst (v := 0) hx hb dX9_isSlot_13 (by decide) ?_
      have zc : Int32.toInt 0 = 0 := by decide
      exact W.zret (v := 0) hx hb hr (by decide) (fun t ht hW => by rw [← hQe]; exact ⟨⟨0, (), rfl, (by first | decide | omega), z_ret hP hK hD ht hW [] [] rfl (by decide) rfl⟩, hS.F ht⟩) hS.2.2 dX9_isSlot_14
    · have ic_2 := zz_nge rfl (show Int32.toInt 4 = 4 from by decide) c_2
      refine lv_iconst (v := 1) hx hb dX9_isSlot_9 (by decide) ?_
      refine lv_goto (tgt := 14) hx hb dX9_isSlot_10 (by decide) ?_
      have zc : Int32.toInt 1 = 1 := by decide
      exact W.zret (v := 1) hx hb hr (by decide) (fun t ht hW => by rw [← hQe]; exact ⟨⟨1, (), rfl, (by first | decide | omega), z_ret hP hK hD ht hW [] [] rfl (by decide) rfl⟩, hS.F ht⟩) hS.2.2 dX9_isSlot_14
set_option maxHeartbeats 4000000 in
set_option maxRecDepth 100000 in
theorem k_X9_sizeOrSet (l : Launch) (sa : Nat → Nat) (dC : Nat → ClassId) (dI : Nat → Nat → Nat) (p0 : Int32) (p1 : Int32)  (sz : Nat) : Met l yX9_sizeOrSet (.code yX9_sizeOrSet cX9_sizeOrSet 2 (some .int) :: zT) ({ frames := 1, cells := 0, slots := 0, locals := 20 }) (va_Pc [.int p0, .int p1] (zB sa dC dI [] [] sz)) (va_Qi (fun (r : Int32) (_ : Unit) => True) (fun _ t => zW dC dI [] [] (va_A [] sz) t) (va_A [] sz)) 0 0 (va_A [] sz) := by
  refine z_enter (by decide) (by exact (Nat.le_of_ble_eq_true rfl)) ?_
  intro p e s m args below meth c ls A R Qc hargs hsz hQe hAe hRe hx hb hml hr hts hown hlocks hin hl hP hK hD hN hXs hA hS
  rw [hAe] at hQe
  have hown : s.vm.findClass RX9 = some m.cls := hown
  have hl : lv_has ls 2 [(0, .int p0), (1, .int p1)] := hl
  refine lv_iload_n hx hb dX9_sizeOrSet_0 rfl (lv_at hl 0 rfl) ?_
  refine lv_iconst (v := (-1)) hx hb dX9_sizeOrSet_1 (by decide) ?_
  have nb_p0 := zi_nb p0
  refine lv_icmp_ne (tgt := 7) hx hb dX9_sizeOrSet_2 (by decide) (fun c_1 => ?_) (fun c_1 => ?_)
  · have ic_1 := zz_ne rfl (show Int32.toInt (-1) = (-1) from by decide) c_1
    refine lv_iload_n hx hb dX9_sizeOrSet_7 rfl (lv_at hl 1 rfl) ?_
    have nb_p1 := zi_nb p1
    refine lv_if_ne (tgt := 18) hx hb dX9_sizeOrSet_8 (by decide) (fun c_2 => ?_) (fun c_2 => ?_)
    · have ic_2 := zz_ne rfl (show Int32.toInt 0 = 0 from by decide) c_2
      refine lv_iload_n hx hb dX9_sizeOrSet_18 rfl (lv_at hl 0 rfl) ?_
      exact W.iret (v := p0) hx hb hr (fun t ht hW => by rw [← hQe]; exact ⟨⟨p0, (), rfl, trivial, z_ret hP hK hD ht hW [] [] rfl (by decide) rfl⟩, hS.F ht⟩) hS.2.2 dX9_sizeOrSet_19
    · have ic_2 := zz_nne rfl (show Int32.toInt 0 = 0 from by decide) c_2
      refine lv_iload_n hx hb dX9_sizeOrSet_11 rfl (lv_at hl 0 rfl) ?_
      obtain ⟨hPc, hDc, hFc⟩ := z_cut (wc := []) hP hD hS hA [] rfl (by decide +kernel)
      have hKc := hK.sub (tys' := []) [] rfl
      refine va_calli (va_runS (As := [.int p0]) (rest := []) ⟨hx, hb, hml, hown, hts⟩ (k_J6_bitCount_0f7a4 l sa dC dI p0 s.heap.size) (va_cwS 1 hts (z_gS zw_t3_215 zw_t3_216 zw_t1_17 zw_t3_217) rfl rfl rfl (by decide +kernel) (by rw [← hRe]; exact ⟨(Nat.le_of_ble_eq_true rfl), (Nat.le_of_ble_eq_true rfl)⟩)) (z_preS hPc hKc hDc hN hXs hS hFc) rfl rfl hl.1 rfl (lv_room (Nat.le_of_ble_eq_true rfl)) dX9_sizeOrSet_12 (by rw [← hRe]; exact ⟨(Nat.le_of_ble_eq_true rfl), (Nat.le_of_ble_eq_true rfl)⟩)) hS (fun q _ h => hFc q h) hFc (fun r_3 u t H1 locs ht hvm hw hB hz1 hk1 hS => ?_)
      obtain ⟨hP, hD, hK⟩ := z_after3 (wn := []) hB ht hvm hP hD hK [] [] rfl 0 rfl (by decide +kernel) rfl (by decide +kernel) hk1 hFc
      generalize H1 = H at hP hS ⊢
      have hK : va_K (dC, dI) vwCl [] s := hK
      have b_r_3 : 0 ≤ r_3.toInt ∧ r_3.toInt ≤ 63 := hw
      refine lv_goto (tgt := 19) hx hb dX9_sizeOrSet_15 (by decide) ?_
      exact W.iret (v := r_3) hx hb hr (fun t ht hW => by rw [← hQe]; exact ⟨⟨r_3, (), rfl, trivial, z_ret hP hK hD ht hW [] [] rfl (by decide) rfl⟩, hS.F ht⟩) hS.2.2 dX9_sizeOrSet_19
  · have ic_1 := zz_nne rfl (show Int32.toInt (-1) = (-1) from by decide) c_1
    refine lv_iconst (v := (-1)) hx hb dX9_sizeOrSet_5 (by decide) ?_
    exact W.iret (v := (-1)) hx hb hr (fun t ht hW => by rw [← hQe]; exact ⟨⟨(-1), (), rfl, trivial, z_ret hP hK hD ht hW [] [] rfl (by decide) rfl⟩, hS.F ht⟩) hS.2.2 dX9_sizeOrSet_6
set_option maxHeartbeats 4000000 in
set_option maxRecDepth 100000 in
theorem k_X9_isSooner (l : Launch) (sa : Nat → Nat) (dC : Nat → ClassId) (dI : Nat → Nat → Nat) (p0 : Int32) (p1 : Int32)  (sz : Nat) : Met l yX9_isSooner (.code yX9_isSooner cX9_isSooner 2 (some .boolean) :: zT) ({ frames := 0, cells := 0, slots := 0, locals := 0 }) (va_Pc [.int p0, .int p1] (zB sa dC dI [] [] sz)) (va_Qi (fun (r : Int32) (_ : Unit) => (0 ≤ r.toInt ∧ r.toInt ≤ 1)) (fun _ t => zW dC dI [] [] (va_A [] sz) t) (va_A [] sz)) 0 0 (va_A [] sz) := by
  refine z_enter (by decide) (by exact (Nat.le_of_ble_eq_true rfl)) ?_
  intro p e s m args below meth c ls A R Qc hargs hsz hQe hAe hRe hx hb hml hr hts hown hlocks hin hl hP hK hD hN hXs hA hS
  rw [hAe] at hQe
  have hown : s.vm.findClass RX9 = some m.cls := hown
  have hl : lv_has ls 2 [(0, .int p0), (1, .int p1)] := hl
  refine lv_iload_n hx hb dX9_isSooner_0 rfl (lv_at hl 0 rfl) ?_
  refine lv_iconst (v := (-1)) hx hb dX9_isSooner_1 (by decide) ?_
  have nb_p0 := zi_nb p0
  refine lv_icmp_eq (tgt := 19) hx hb dX9_isSooner_2 (by decide) (fun c_1 => ?_) (fun c_1 => ?_)
  · have ic_1 := zz_eq rfl (show Int32.toInt (-1) = (-1) from by decide) c_1
    refine lv_iconst (v := 0) hx hb dX9_isSooner_19 (by decide) ?_
    exact W.zret (v := 0) hx hb hr (by decide) (fun t ht hW => by rw [← hQe]; exact ⟨⟨0, (), rfl, (by decide), z_ret hP hK hD ht hW [] [] rfl (by decide) rfl⟩, hS.F ht⟩) hS.2.2 dX9_isSooner_20
  · have ic_1 := zz_neq rfl (show Int32.toInt (-1) = (-1) from by decide) c_1
    refine lv_iload_n hx hb dX9_isSooner_5 rfl (lv_at hl 1 rfl) ?_
    refine lv_iconst (v := (-1)) hx hb dX9_isSooner_6 (by decide) ?_
    have nb_p1 := zi_nb p1
    refine lv_icmp_eq (tgt := 15) hx hb dX9_isSooner_7 (by decide) (fun c_2 => ?_) (fun c_2 => ?_)
    · have ic_2 := zz_eq rfl (show Int32.toInt (-1) = (-1) from by decide) c_2
      refine lv_iconst (v := 1) hx hb dX9_isSooner_15 (by decide) ?_
      refine lv_goto (tgt := 20) hx hb dX9_isSooner_16 (by decide) ?_
      exact W.zret (v := 1) hx hb hr (by decide) (fun t ht hW => by rw [← hQe]; exact ⟨⟨1, (), rfl, (by decide), z_ret hP hK hD ht hW [] [] rfl (by decide) rfl⟩, hS.F ht⟩) hS.2.2 dX9_isSooner_20
    · have ic_2 := zz_neq rfl (show Int32.toInt (-1) = (-1) from by decide) c_2
      refine lv_iload_n hx hb dX9_isSooner_10 rfl (lv_at hl 0 rfl) ?_
      refine lv_iload_n hx hb dX9_isSooner_11 rfl (lv_at hl 1 rfl) ?_
      refine lv_icmp_ge (tgt := 19) hx hb dX9_isSooner_12 (by decide) (fun c_3 => ?_) (fun c_3 => ?_)
      · have ic_3 := zz_ge rfl rfl c_3
        refine lv_iconst (v := 0) hx hb dX9_isSooner_19 (by decide) ?_
        exact W.zret (v := 0) hx hb hr (by decide) (fun t ht hW => by rw [← hQe]; exact ⟨⟨0, (), rfl, (by decide), z_ret hP hK hD ht hW [] [] rfl (by decide) rfl⟩, hS.F ht⟩) hS.2.2 dX9_isSooner_20
      · have ic_3 := zz_nge rfl rfl c_3
        refine lv_iconst (v := 1) hx hb dX9_isSooner_15 (by decide) ?_
        refine lv_goto (tgt := 20) hx hb dX9_isSooner_16 (by decide) ?_
        exact W.zret (v := 1) hx hb hr (by decide) (fun t ht hW => by rw [← hQe]; exact ⟨⟨1, (), rfl, (by decide), z_ret hP hK hD ht hW [] [] rfl (by decide) rfl⟩, hS.F ht⟩) hS.2.2 dX9_isSooner_20
set_option maxHeartbeats 4000000 in
set_option maxRecDepth 100000 in
theorem k_X9_isBy (l : Launch) (sa : Nat → Nat) (dC : Nat → ClassId) (dI : Nat → Nat → Nat) (p0 : Int32) (p1 : Int32)  (sz : Nat) : Met l yX9_isBy (.code yX9_isBy cX9_isBy 2 (some .boolean) :: zT) ({ frames := 0, cells := 0, slots := 0, locals := 0 }) (va_Pc [.int p0, .int p1] (zB sa dC dI [] [] sz)) (va_Qi (fun (r : Int32) (_ : Unit) => (0 ≤ r.toInt ∧ r.toInt ≤ 1)) (fun _ t => zW dC dI [] [] (va_A [] sz) t) (va_A [] sz)) 0 0 (va_A [] sz) := by
  refine z_enter (by decide) (by exact (Nat.le_of_ble_eq_true rfl)) ?_
  intro p e s m args below meth c ls A R Qc hargs hsz hQe hAe hRe hx hb hml hr hts hown hlocks hin hl hP hK hD hN hXs hA hS
  rw [hAe] at hQe
  have hown : s.vm.findClass RX9 = some m.cls := hown
  have hl : lv_has ls 2 [(0, .int p0), (1, .int p1)] := hl
  refine lv_iload_n hx hb dX9_isBy_0 rfl (lv_at hl 0 rfl) ?_
  refine lv_iconst (v := (-1)) hx hb dX9_isBy_1 (by decide) ?_
  have nb_p0 := zi_nb p0
  refine lv_icmp_eq (tgt := 14) hx hb dX9_isBy_2 (by decide) (fun c_1 => ?_) (fun c_1 => ?_)
  · have ic_1 := zz_eq rfl (show Int32.toInt (-1) = (-1) from by decide) c_1
    refine lv_iconst (v := 0) hx hb dX9_isBy_14 (by decide) ?_
    exact W.zret (v := 0) hx hb hr (by decide) (fun t ht hW => by rw [← hQe]; exact ⟨⟨0, (), rfl, (by decide), z_ret hP hK hD ht hW [] [] rfl (by decide) rfl⟩, hS.F ht⟩) hS.2.2 dX9_isBy_15
  · have ic_1 := zz_neq rfl (show Int32.toInt (-1) = (-1) from by decide) c_1
    refine lv_iload_n hx hb dX9_isBy_5 rfl (lv_at hl 0 rfl) ?_
    refine lv_iload_n hx hb dX9_isBy_6 rfl (lv_at hl 1 rfl) ?_
    have nb_p1 := zi_nb p1
    refine lv_icmp_gt (tgt := 14) hx hb dX9_isBy_7 (by decide) (fun c_2 => ?_) (fun c_2 => ?_)
    · have ic_2 := zz_gt rfl rfl c_2
      refine lv_iconst (v := 0) hx hb dX9_isBy_14 (by decide) ?_
      exact W.zret (v := 0) hx hb hr (by decide) (fun t ht hW => by rw [← hQe]; exact ⟨⟨0, (), rfl, (by decide), z_ret hP hK hD ht hW [] [] rfl (by decide) rfl⟩, hS.F ht⟩) hS.2.2 dX9_isBy_15
    · have ic_2 := zz_ngt rfl rfl c_2
      refine lv_iconst (v := 1) hx hb dX9_isBy_10 (by decide) ?_
      refine lv_goto (tgt := 15) hx hb dX9_isBy_11 (by decide) ?_
      exact W.zret (v := 1) hx hb hr (by decide) (fun t ht hW => by rw [← hQe]; exact ⟨⟨1, (), rfl, (by decide), z_ret hP hK hD ht hW [] [] rfl (by decide) rfl⟩, hS.F ht⟩) hS.2.2 dX9_isBy_15
set_option maxHeartbeats 4000000 in
set_option maxRecDepth 100000 in
theorem k_X9_knowNames (l : Launch) (sa : Nat → Nat) (dC : Nat → ClassId) (dI : Nat → Nat → Nat) (h0 : Nat) (p1 : Int32) (tp : Nat) (h0_tapeLength : Int32) (h0_faultKind : Int32) (h0_faultPlace : Int32) (nw : Nat) (im : Nat) (sl : Nat) (rd : Nat) (wk : Nat) (fm : Nat) (mt : Nat) (ch : Nat) (dy : Nat) (nw_isKept : Int32) (tn : Nat) (nw_strayed : Int32) (nw_names : Int32) (nw_known : Int32) (nw_gone : Int32) (tn_hours : Int32) (tn_courts : Int32) (tn_gateCount : Int32) (tn_people : Int32) (tn_lines : Int32) (tn_falseHours : Int32) (tn_strayers : Int32) (tn_deep : Int32) (tn_above : Nat) (tn_doors : Nat) (tn_degrees : Nat) (tn_neighbours : Nat) (tn_shows : Nat) (tn_oneEnd : Nat) (tn_otherEnd : Nat) (tn_told : Nat) (tn_strayParts : Nat) (tn_strayCourts : Nat) (cA_tn_doors : ClassId) (f_tn_doors : Nat → Int32) (cA_tn_shows : ClassId) (f_tn_shows : Nat → Int32) (cA_tn_told : ClassId) (f_tn_told : Nat → Int32) (cA_tn_strayCourts : ClassId) (f_tn_strayCourts : Nat → Int32) (wk_fewestGates : Int32) (wk_firstGate : Int32) (wk_firstHour : Int32) (wt : Nat) (wk_open : Nat) (wk_followed : Nat) (wk_doors : Nat) (wk_costs : Nat) (wk_lower : Nat) (wk_numbers : Nat) (wk_more : Nat) (cA_wk_open : ClassId) (f_wk_open : Nat → Int32) (cA_wk_doors : ClassId) (f_wk_doors : Nat → Int32) (b_h0_tapeLength : 0 ≤ h0_tapeLength.toInt ∧ h0_tapeLength.toInt ≤ 1600) (b_nw_isKept : 0 ≤ nw_isKept.toInt ∧ nw_isKept.toInt ≤ 1) (b_nw_names : 0 ≤ nw_names.toInt ∧ nw_names.toInt ≤ 1023) (b_tn_hours : 0 ≤ tn_hours.toInt ∧ tn_hours.toInt ≤ 48) (b_tn_courts : 0 ≤ tn_courts.toInt ∧ tn_courts.toInt ≤ 10) (b_tn_gateCount : 0 ≤ tn_gateCount.toInt ∧ tn_gateCount.toInt ≤ 16) (b_tn_people : 0 ≤ tn_people.toInt ∧ tn_people.toInt ≤ 10) (b_tn_falseHours : 0 ≤ tn_falseHours.toInt ∧ tn_falseHours.toInt ≤ 9) (b_tn_deep : 0 ≤ tn_deep.toInt ∧ tn_deep.toInt ≤ 1) (b_f_tn_told : ∀ j : Nat, 0 ≤ (f_tn_told j).toInt ∧ (f_tn_told j).toInt ≤ 9) (b_f_tn_strayCourts : ∀ j : Nat, 0 ≤ (f_tn_strayCourts j).toInt ∧ (f_tn_strayCourts j).toInt ≤ 9) (b_wk_firstGate : (-1) ≤ wk_firstGate.toInt ∧ wk_firstGate.toInt ≤ 15) (b_wk_firstHour : (-1) ≤ wk_firstHour.toInt ∧ wk_firstHour.toInt ≤ 47) (sz : Nat) : Met l yX9_knowNames (.code yX9_knowNames cX9_knowNames 2 none :: zT) ({ frames := 4, cells := 0, slots := 0, locals := 105 }) (va_Pc [.ref h0, .int p1] (zB sa dC dI (zV58 h0 tp h0_tapeLength h0_faultKind h0_faultPlace nw im sl rd wk fm mt ch dy nw nw_isKept tn nw_strayed nw_names nw_known nw_gone tn tn_hours tn_courts tn_gateCount tn_people tn_lines tn_falseHours tn_strayers tn_deep tn_above tn_doors tn_degrees tn_neighbours tn_shows tn_oneEnd tn_otherEnd tn_told tn_strayParts tn_strayCourts tn_doors cA_tn_doors f_tn_doors tn_shows cA_tn_shows f_tn_shows tn_told cA_tn_told f_tn_told tn_strayCourts cA_tn_strayCourts f_tn_strayCourts wk wk_fewestGates wk_firstGate wk_firstHour wt wk_open wk_followed wk_doors wk_costs wk_lower wk_numbers wk_more wk_open cA_wk_open f_wk_open wk_doors cA_wk_doors f_wk_doors) [(cA_tn_doors, .int), (cA_tn_shows, .int), (cA_tn_told, .int), (cA_tn_strayCourts, .int), (cA_wk_open, .int), (cA_wk_doors, .int)] sz)) (va_Qv (fun _ : Unit => True) (fun _ t => ∃ (n_wk_open : Nat → Int32) (n_wk_doors : Nat → Int32), zW dC dI (zV58 h0 tp h0_tapeLength h0_faultKind h0_faultPlace nw im sl rd wk fm mt ch dy nw nw_isKept tn nw_strayed nw_names nw_known nw_gone tn tn_hours tn_courts tn_gateCount tn_people tn_lines tn_falseHours tn_strayers tn_deep tn_above tn_doors tn_degrees tn_neighbours tn_shows tn_oneEnd tn_otherEnd tn_told tn_strayParts tn_strayCourts tn_doors cA_tn_doors f_tn_doors tn_shows cA_tn_shows f_tn_shows tn_told cA_tn_told f_tn_told tn_strayCourts cA_tn_strayCourts f_tn_strayCourts wk wk_fewestGates wk_firstGate wk_firstHour tn wk_open wk_followed wk_doors wk_costs wk_lower wk_numbers wk_more wk_open cA_wk_open n_wk_open wk_doors cA_wk_doors n_wk_doors) [] (va_A (zV58 h0 tp h0_tapeLength h0_faultKind h0_faultPlace nw im sl rd wk fm mt ch dy nw nw_isKept tn nw_strayed nw_names nw_known nw_gone tn tn_hours tn_courts tn_gateCount tn_people tn_lines tn_falseHours tn_strayers tn_deep tn_above tn_doors tn_degrees tn_neighbours tn_shows tn_oneEnd tn_otherEnd tn_told tn_strayParts tn_strayCourts tn_doors cA_tn_doors f_tn_doors tn_shows cA_tn_shows f_tn_shows tn_told cA_tn_told f_tn_told tn_strayCourts cA_tn_strayCourts f_tn_strayCourts wk wk_fewestGates wk_firstGate wk_firstHour wt wk_open wk_followed wk_doors wk_costs wk_lower wk_numbers wk_more wk_open cA_wk_open f_wk_open wk_doors cA_wk_doors f_wk_doors) sz) t) (va_A (zV58 h0 tp h0_tapeLength h0_faultKind h0_faultPlace nw im sl rd wk fm mt ch dy nw nw_isKept tn nw_strayed nw_names nw_known nw_gone tn tn_hours tn_courts tn_gateCount tn_people tn_lines tn_falseHours tn_strayers tn_deep tn_above tn_doors tn_degrees tn_neighbours tn_shows tn_oneEnd tn_otherEnd tn_told tn_strayParts tn_strayCourts tn_doors cA_tn_doors f_tn_doors tn_shows cA_tn_shows f_tn_shows tn_told cA_tn_told f_tn_told tn_strayCourts cA_tn_strayCourts f_tn_strayCourts wk wk_fewestGates wk_firstGate wk_firstHour wt wk_open wk_followed wk_doors wk_costs wk_lower wk_numbers wk_more wk_open cA_wk_open f_wk_open wk_doors cA_wk_doors f_wk_doors) sz)) 0 0 (va_A (zV58 h0 tp h0_tapeLength h0_faultKind h0_faultPlace nw im sl rd wk fm mt ch dy nw nw_isKept tn nw_strayed nw_names nw_known nw_gone tn tn_hours tn_courts tn_gateCount tn_people tn_lines tn_falseHours tn_strayers tn_deep tn_above tn_doors tn_degrees tn_neighbours tn_shows tn_oneEnd tn_otherEnd tn_told tn_strayParts tn_strayCourts tn_doors cA_tn_doors f_tn_doors tn_shows cA_tn_shows f_tn_shows tn_told cA_tn_told f_tn_told tn_strayCourts cA_tn_strayCourts f_tn_strayCourts wk wk_fewestGates wk_firstGate wk_firstHour wt wk_open wk_followed wk_doors wk_costs wk_lower wk_numbers wk_more wk_open cA_wk_open f_wk_open wk_doors cA_wk_doors f_wk_doors) sz) := by
  refine z_enter (by decide) (by exact (Nat.le_of_ble_eq_true rfl)) ?_
  intro p e s m args below meth c ls A R Qc hargs hsz hQe hAe hRe hx hb hml hr hts hown hlocks hin hl hP hK hD hN hXs hA hS
  rw [hAe] at hQe
  have hown : s.vm.findClass RX9 = some m.cls := hown
  have hl : lv_has ls 2 [(0, .ref h0), (1, .int p1)] := hl
  refine lv_aload_n hx hb dX9_knowNames_0 rfl (lv_at hl 0 rfl) ?_
  refine va_get (D := (dC, dI)) (ci := 9) (v := .ref wk) (C := RX9) (T := TX9) (N := 13) hx hb hts zl_X9 hown hK hP 0 rfl rfl 8 (by decide) (hts _ zw_t2_197) (fun _ h9 => h9) rfl dX9_knowNames_1 ?_
  refine lv_aload_n hx hb dX9_knowNames_4 rfl (lv_at hl 0 rfl) ?_
  refine va_get (D := (dC, dI)) (ci := 9) (v := .ref nw) (C := RX9) (T := TX9) (N := 13) hx hb hts zl_X9 hown hK hP 0 rfl rfl 4 (by decide) (hts _ zw_t2_193) (fun _ h9 => h9) rfl dX9_knowNames_5 ?_
  refine va_get (D := (dC, dI)) (ci := 3) (v := .ref tn) (C := RX3) (T := TX3) (N := 6) hx hb hts zl_X3 hown hK hP 1 rfl rfl 1 (by decide) (hts _ zw_t1_156) (fun _ h9 => h9) rfl dX9_knowNames_8 ?_
  refine lv_iload_n hx hb dX9_knowNames_11 rfl (lv_at hl 1 rfl) ?_
  refine lv_aload_n hx hb dX9_knowNames_12 rfl (lv_at hl 0 rfl) ?_
  refine va_get (D := (dC, dI)) (ci := 9) (v := .ref nw) (C := RX9) (T := TX9) (N := 13) hx hb hts zl_X9 hown hK hP 0 rfl rfl 4 (by decide) (hts _ zw_t2_193) (fun _ h9 => h9) rfl dX9_knowNames_13 ?_
  refine va_get (D := (dC, dI)) (ci := 3) (v := .int nw_strayed) (C := RX3) (T := TX3) (N := 6) hx hb hts zl_X3 hown hK hP 1 rfl rfl 2 (by decide) (hts _ zw_t1_159) (fun _ h9 => h9) rfl dX9_knowNames_16 ?_
  obtain ⟨hPc, hDc, hFc⟩ := z_cut (wc := (zV11 wk wk_fewestGates wk_firstGate wk_firstHour wt wk_open wk_followed wk_doors wk_costs wk_lower wk_numbers wk_more wk_open cA_wk_open f_wk_open wk_doors cA_wk_doors f_wk_doors tn tn_hours tn_courts tn_gateCount tn_people tn_lines tn_falseHours tn_strayers tn_deep tn_above tn_doors tn_degrees tn_neighbours tn_shows tn_oneEnd tn_otherEnd tn_told tn_strayParts tn_strayCourts tn_doors cA_tn_doors f_tn_doors tn_shows cA_tn_shows f_tn_shows tn_told cA_tn_told f_tn_told tn_strayCourts cA_tn_strayCourts f_tn_strayCourts)) hP hD hS hA [7, 8, 9, 2, 3, 4, 5, 6] rfl (by decide +kernel)
  have hKc := hK.sub (tys' := [(cA_wk_open, .int), (cA_wk_doors, .int), (cA_tn_doors, .int), (cA_tn_shows, .int), (cA_tn_told, .int), (cA_tn_strayCourts, .int)]) [4, 5, 0, 1, 2, 3] rfl
  refine va_callv (va_runV (As := [.ref tn, .int p1, .int nw_strayed]) (rest := []) ⟨hx, hb, hml, hown, hts⟩ (k_X8_know l sa dC dI wk tn p1 nw_strayed wk_fewestGates wk_firstGate wk_firstHour wt wk_open wk_followed wk_doors wk_costs wk_lower wk_numbers wk_more cA_wk_open f_wk_open cA_wk_doors f_wk_doors tn_hours tn_courts tn_gateCount tn_people tn_lines tn_falseHours tn_strayers tn_deep tn_above tn_doors tn_degrees tn_neighbours tn_shows tn_oneEnd tn_otherEnd tn_told tn_strayParts tn_strayCourts cA_tn_doors f_tn_doors cA_tn_shows f_tn_shows cA_tn_told f_tn_told cA_tn_strayCourts f_tn_strayCourts b_wk_firstGate b_wk_firstHour b_tn_hours b_tn_courts b_tn_gateCount b_tn_people b_tn_falseHours b_tn_deep b_f_tn_told b_f_tn_strayCourts s.heap.size) (cwV 3 hts (z_gV zw_t4_29 zw_t4_30 zw_t4_31 zw_t1_5 zw_t4_32) rfl rfl rfl (by decide +kernel) (by rw [← hRe]; exact ⟨(Nat.le_of_ble_eq_true rfl), (Nat.le_of_ble_eq_true rfl)⟩)) (z_preV hPc hKc hDc hN hXs hS hFc (q := (RX8, TX8, 11)) (ci := 8) (q0 := 0) rfl rfl) rfl rfl hl.1 rfl (lv_room (Nat.le_of_ble_eq_true rfl)) dX9_knowNames_19 (by rw [← hRe]; exact ⟨(Nat.le_of_ble_eq_true rfl), (Nat.le_of_ble_eq_true rfl)⟩)) hS (fun q _ h => hFc q h) hFc (fun u t H1 locs ht hvm hw hB hz1 hk1 hS => ?_)
  obtain ⟨n_wk_open_2, n_wk_doors_3, hB⟩ := hB
  obtain ⟨hP, hD, hK⟩ := z_after3 (wn := [(h0, .inr (9, [.ref tp, .int h0_tapeLength, .int h0_faultKind, .int h0_faultPlace, .ref nw, .ref im, .ref sl, .ref rd, .ref wk, .ref fm, .ref mt, .ref ch, .ref dy])), (nw, .inr (3, [.int nw_isKept, .ref tn, .int nw_strayed, .int nw_names, .int nw_known, .int nw_gone])), (wk, .inr (8, [.int wk_fewestGates, .int wk_firstGate, .int wk_firstHour, .ref tn, .ref wk_open, .ref wk_followed, .ref wk_doors, .ref wk_costs, .ref wk_lower, .ref wk_numbers, .ref wk_more])), (wk_open, .inl (cA_wk_open, 48, .inl n_wk_open_2)), (wk_doors, .inl (cA_wk_doors, 10, .inl n_wk_doors_3)), (tn, .inr (7, [.int tn_hours, .int tn_courts, .int tn_gateCount, .int tn_people, .int tn_lines, .int tn_falseHours, .int tn_strayers, .int tn_deep, .ref tn_above, .ref tn_doors, .ref tn_degrees, .ref tn_neighbours, .ref tn_shows, .ref tn_oneEnd, .ref tn_otherEnd, .ref tn_told, .ref tn_strayParts, .ref tn_strayCourts])), (tn_doors, .inl (cA_tn_doors, 10, .inl f_tn_doors)), (tn_shows, .inl (cA_tn_shows, 10, .inl f_tn_shows)), (tn_told, .inl (cA_tn_told, 480, .inl f_tn_told)), (tn_strayCourts, .inl (cA_tn_strayCourts, 10, .inl f_tn_strayCourts))]) hB ht hvm hP hD hK [7, 8, 9, 2, 3, 4, 5, 6] [0, 1] rfl 10 rfl (by decide +kernel) rfl (by decide +kernel) hk1 hFc
  generalize H1 = H at hP hS ⊢
  have hK : va_K (dC, dI) vwCl [(cA_tn_doors, .int), (cA_tn_shows, .int), (cA_tn_told, .int), (cA_tn_strayCourts, .int), (cA_wk_open, .int), (cA_wk_doors, .int)] s := hK
  exact W.vret hx hb hr (fun t ht hW => by rw [← hQe]; exact ⟨⟨(), rfl, trivial, ⟨n_wk_open_2, n_wk_doors_3, z_ret hP hK hD ht hW [0, 1, 5, 6, 7, 8, 9, 2, 3, 4] [] rfl (by decide) rfl⟩⟩, hS.F ht⟩) hS.2.2 dX9_knowNames_22
