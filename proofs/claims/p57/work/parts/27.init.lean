set_option linter.all false
theorem zw_t1_151 : Cond.arrayClass .int ∈ zT := zt_1 (List.mem_of_getElem? (i := 151) (by decide +kernel)) (by decide +kernel)
theorem zw_t1_26 : Cond.instanceMethod objectInit ∈ zT := zt_1 (List.mem_of_getElem? (i := 26) (by decide +kernel)) (by decide +kernel)
theorem zw_t1_27 : Cond.code objectInit ⟨#[0xb1]⟩ 1 none ∈ zT := zt_1 (List.mem_of_getElem? (i := 27) (by decide +kernel)) (by decide +kernel)
theorem zw_t1_39 : Cond.methodLink RX7 3 objectInit ∈ zT := zt_1 (List.mem_of_getElem? (i := 39) (by decide +kernel)) (by decide +kernel)
theorem zw_t1_84 : Cond.fieldLink RX7 15 "NameGate$Town" "doors" "[I" ∈ zT := zt_1 (List.mem_of_getElem? (i := 84) (by decide +kernel)) (by decide +kernel)
theorem zw_t1_87 : Cond.fieldLink RX7 18 "NameGate$Town" "degrees" "[I" ∈ zT := zt_1 (List.mem_of_getElem? (i := 87) (by decide +kernel)) (by decide +kernel)
theorem zw_t1_91 : Cond.fieldLink RX7 21 "NameGate$Town" "neighbours" "[I" ∈ zT := zt_1 (List.mem_of_getElem? (i := 91) (by decide +kernel)) (by decide +kernel)
def bcX7_init_0 : List Nat := [42, 183, 0, 3, 42, 16, 10]
theorem bcX7_init_0_ok : z_bys cX7_init 0 bcX7_init_0 = true := by decide +kernel
def bcX7_init_9 : List Nat := [181, 0, 9, 42, 16, 10]
theorem bcX7_init_9_ok : z_bys cX7_init 9 bcX7_init_9 = true := by decide +kernel
def bcX7_init_17 : List Nat := [181, 0, 15, 42, 16, 10]
theorem bcX7_init_17_ok : z_bys cX7_init 17 bcX7_init_17 = true := by decide +kernel
def bcX7_init_25 : List Nat := [181, 0, 18, 42, 16, 100]
theorem bcX7_init_25_ok : z_bys cX7_init 25 bcX7_init_25 = true := by decide +kernel
def bcX7_init_33 : List Nat := [181, 0, 21, 42, 16, 10]
theorem bcX7_init_33_ok : z_bys cX7_init 33 bcX7_init_33 = true := by decide +kernel
def bcX7_init_41 : List Nat := [181, 0, 24, 42, 16, 16]
theorem bcX7_init_41_ok : z_bys cX7_init 41 bcX7_init_41 = true := by decide +kernel
def bcX7_init_49 : List Nat := [181, 0, 27, 42, 16, 16]
theorem bcX7_init_49_ok : z_bys cX7_init 49 bcX7_init_49 = true := by decide +kernel
def bcX7_init_57 : List Nat := [181, 0, 30, 42, 17, 1, 224]
theorem bcX7_init_57_ok : z_bys cX7_init 57 bcX7_init_57 = true := by decide +kernel
def bcX7_init_66 : List Nat := [181, 0, 33, 42, 16, 10]
theorem bcX7_init_66_ok : z_bys cX7_init 66 bcX7_init_66 = true := by decide +kernel
def bcX7_init_74 : List Nat := [181, 0, 36, 42, 16, 10]
theorem bcX7_init_74_ok : z_bys cX7_init 74 bcX7_init_74 = true := by decide +kernel
def bcX7_init_82 : List Nat := [181, 0, 39, 177]
theorem bcX7_init_82_ok : z_bys cX7_init 82 bcX7_init_82 = true := by decide +kernel
theorem dX7_init_0 : decode cX7_init 0 = .ok (.aload_n 0, 1) := zo_42 (z_byk bcX7_init_0 0 0 _ bcX7_init_0_ok rfl)
theorem dX7_init_1 : decode cX7_init 1 = .ok (.invokespecial 3, 3) := zo_183 (z_byk bcX7_init_0 0 1 _ bcX7_init_0_ok rfl) (z_byk bcX7_init_0 0 2 _ bcX7_init_0_ok rfl) (z_byk bcX7_init_0 0 3 _ bcX7_init_0_ok rfl) rfl
theorem dX7_init_12 : decode cX7_init 12 = .ok (.aload_n 0, 1) := zo_42 (z_byk bcX7_init_9 9 3 _ bcX7_init_9_ok rfl)
theorem dX7_init_13 : decode cX7_init 13 = .ok (.bipush 10, 2) := zo_16 (z_byk bcX7_init_9 9 4 _ bcX7_init_9_ok rfl) (z_byk bcX7_init_9 9 5 _ bcX7_init_9_ok rfl) rfl
theorem dX7_init_15 : decode cX7_init 15 = .ok (.newarray .int, 2) := by decide +kernel
theorem dX7_init_17 : decode cX7_init 17 = .ok (.putfield 15, 3) := zo_181 (z_byk bcX7_init_17 17 0 _ bcX7_init_17_ok rfl) (z_byk bcX7_init_17 17 1 _ bcX7_init_17_ok rfl) (z_byk bcX7_init_17 17 2 _ bcX7_init_17_ok rfl) rfl
theorem dX7_init_20 : decode cX7_init 20 = .ok (.aload_n 0, 1) := zo_42 (z_byk bcX7_init_17 17 3 _ bcX7_init_17_ok rfl)
theorem dX7_init_21 : decode cX7_init 21 = .ok (.bipush 10, 2) := zo_16 (z_byk bcX7_init_17 17 4 _ bcX7_init_17_ok rfl) (z_byk bcX7_init_17 17 5 _ bcX7_init_17_ok rfl) rfl
theorem dX7_init_23 : decode cX7_init 23 = .ok (.newarray .int, 2) := by decide +kernel
theorem dX7_init_25 : decode cX7_init 25 = .ok (.putfield 18, 3) := zo_181 (z_byk bcX7_init_25 25 0 _ bcX7_init_25_ok rfl) (z_byk bcX7_init_25 25 1 _ bcX7_init_25_ok rfl) (z_byk bcX7_init_25 25 2 _ bcX7_init_25_ok rfl) rfl
theorem dX7_init_28 : decode cX7_init 28 = .ok (.aload_n 0, 1) := zo_42 (z_byk bcX7_init_25 25 3 _ bcX7_init_25_ok rfl)
theorem dX7_init_29 : decode cX7_init 29 = .ok (.bipush 100, 2) := zo_16 (z_byk bcX7_init_25 25 4 _ bcX7_init_25_ok rfl) (z_byk bcX7_init_25 25 5 _ bcX7_init_25_ok rfl) rfl
theorem dX7_init_31 : decode cX7_init 31 = .ok (.newarray .int, 2) := by decide +kernel
theorem dX7_init_33 : decode cX7_init 33 = .ok (.putfield 21, 3) := zo_181 (z_byk bcX7_init_33 33 0 _ bcX7_init_33_ok rfl) (z_byk bcX7_init_33 33 1 _ bcX7_init_33_ok rfl) (z_byk bcX7_init_33 33 2 _ bcX7_init_33_ok rfl) rfl
theorem dX7_init_36 : decode cX7_init 36 = .ok (.aload_n 0, 1) := zo_42 (z_byk bcX7_init_33 33 3 _ bcX7_init_33_ok rfl)
theorem dX7_init_37 : decode cX7_init 37 = .ok (.bipush 10, 2) := zo_16 (z_byk bcX7_init_33 33 4 _ bcX7_init_33_ok rfl) (z_byk bcX7_init_33 33 5 _ bcX7_init_33_ok rfl) rfl
theorem dX7_init_39 : decode cX7_init 39 = .ok (.newarray .int, 2) := by decide +kernel
theorem dX7_init_4 : decode cX7_init 4 = .ok (.aload_n 0, 1) := zo_42 (z_byk bcX7_init_0 0 4 _ bcX7_init_0_ok rfl)
theorem dX7_init_41 : decode cX7_init 41 = .ok (.putfield 24, 3) := zo_181 (z_byk bcX7_init_41 41 0 _ bcX7_init_41_ok rfl) (z_byk bcX7_init_41 41 1 _ bcX7_init_41_ok rfl) (z_byk bcX7_init_41 41 2 _ bcX7_init_41_ok rfl) rfl
theorem dX7_init_44 : decode cX7_init 44 = .ok (.aload_n 0, 1) := zo_42 (z_byk bcX7_init_41 41 3 _ bcX7_init_41_ok rfl)
theorem dX7_init_45 : decode cX7_init 45 = .ok (.bipush 16, 2) := zo_16 (z_byk bcX7_init_41 41 4 _ bcX7_init_41_ok rfl) (z_byk bcX7_init_41 41 5 _ bcX7_init_41_ok rfl) rfl
theorem dX7_init_47 : decode cX7_init 47 = .ok (.newarray .int, 2) := by decide +kernel
theorem dX7_init_49 : decode cX7_init 49 = .ok (.putfield 27, 3) := zo_181 (z_byk bcX7_init_49 49 0 _ bcX7_init_49_ok rfl) (z_byk bcX7_init_49 49 1 _ bcX7_init_49_ok rfl) (z_byk bcX7_init_49 49 2 _ bcX7_init_49_ok rfl) rfl
theorem dX7_init_5 : decode cX7_init 5 = .ok (.bipush 10, 2) := zo_16 (z_byk bcX7_init_0 0 5 _ bcX7_init_0_ok rfl) (z_byk bcX7_init_0 0 6 _ bcX7_init_0_ok rfl) rfl
theorem dX7_init_52 : decode cX7_init 52 = .ok (.aload_n 0, 1) := zo_42 (z_byk bcX7_init_49 49 3 _ bcX7_init_49_ok rfl)
theorem dX7_init_53 : decode cX7_init 53 = .ok (.bipush 16, 2) := zo_16 (z_byk bcX7_init_49 49 4 _ bcX7_init_49_ok rfl) (z_byk bcX7_init_49 49 5 _ bcX7_init_49_ok rfl) rfl
theorem dX7_init_55 : decode cX7_init 55 = .ok (.newarray .int, 2) := by decide +kernel
theorem dX7_init_57 : decode cX7_init 57 = .ok (.putfield 30, 3) := zo_181 (z_byk bcX7_init_57 57 0 _ bcX7_init_57_ok rfl) (z_byk bcX7_init_57 57 1 _ bcX7_init_57_ok rfl) (z_byk bcX7_init_57 57 2 _ bcX7_init_57_ok rfl) rfl
theorem dX7_init_60 : decode cX7_init 60 = .ok (.aload_n 0, 1) := zo_42 (z_byk bcX7_init_57 57 3 _ bcX7_init_57_ok rfl)
theorem dX7_init_61 : decode cX7_init 61 = .ok (.sipush 480, 3) := zo_17 (z_byk bcX7_init_57 57 4 _ bcX7_init_57_ok rfl) (z_byk bcX7_init_57 57 5 _ bcX7_init_57_ok rfl) (z_byk bcX7_init_57 57 6 _ bcX7_init_57_ok rfl) rfl
theorem dX7_init_64 : decode cX7_init 64 = .ok (.newarray .int, 2) := by decide +kernel
theorem dX7_init_66 : decode cX7_init 66 = .ok (.putfield 33, 3) := zo_181 (z_byk bcX7_init_66 66 0 _ bcX7_init_66_ok rfl) (z_byk bcX7_init_66 66 1 _ bcX7_init_66_ok rfl) (z_byk bcX7_init_66 66 2 _ bcX7_init_66_ok rfl) rfl
theorem dX7_init_69 : decode cX7_init 69 = .ok (.aload_n 0, 1) := zo_42 (z_byk bcX7_init_66 66 3 _ bcX7_init_66_ok rfl)
theorem dX7_init_7 : decode cX7_init 7 = .ok (.newarray .int, 2) := by decide +kernel
theorem dX7_init_70 : decode cX7_init 70 = .ok (.bipush 10, 2) := zo_16 (z_byk bcX7_init_66 66 4 _ bcX7_init_66_ok rfl) (z_byk bcX7_init_66 66 5 _ bcX7_init_66_ok rfl) rfl
theorem dX7_init_72 : decode cX7_init 72 = .ok (.newarray .int, 2) := by decide +kernel
theorem dX7_init_74 : decode cX7_init 74 = .ok (.putfield 36, 3) := zo_181 (z_byk bcX7_init_74 74 0 _ bcX7_init_74_ok rfl) (z_byk bcX7_init_74 74 1 _ bcX7_init_74_ok rfl) (z_byk bcX7_init_74 74 2 _ bcX7_init_74_ok rfl) rfl
theorem dX7_init_77 : decode cX7_init 77 = .ok (.aload_n 0, 1) := zo_42 (z_byk bcX7_init_74 74 3 _ bcX7_init_74_ok rfl)
theorem dX7_init_78 : decode cX7_init 78 = .ok (.bipush 10, 2) := zo_16 (z_byk bcX7_init_74 74 4 _ bcX7_init_74_ok rfl) (z_byk bcX7_init_74 74 5 _ bcX7_init_74_ok rfl) rfl
theorem dX7_init_80 : decode cX7_init 80 = .ok (.newarray .int, 2) := by decide +kernel
theorem dX7_init_82 : decode cX7_init 82 = .ok (.putfield 39, 3) := zo_181 (z_byk bcX7_init_82 82 0 _ bcX7_init_82_ok rfl) (z_byk bcX7_init_82 82 1 _ bcX7_init_82_ok rfl) (z_byk bcX7_init_82 82 2 _ bcX7_init_82_ok rfl) rfl
theorem dX7_init_85 : decode cX7_init 85 = .ok (.return_, 1) := zo_177 (z_byk bcX7_init_82 82 3 _ bcX7_init_82_ok rfl)
theorem dX7_init_9 : decode cX7_init 9 = .ok (.putfield 9, 3) := zo_181 (z_byk bcX7_init_9 9 0 _ bcX7_init_9_ok rfl) (z_byk bcX7_init_9 9 1 _ bcX7_init_9_ok rfl) (z_byk bcX7_init_9 9 2 _ bcX7_init_9_ok rfl) rfl
set_option maxHeartbeats 4000000 in
set_option maxRecDepth 100000 in
theorem k_X7_init (l : Launch) (sa : Nat → Nat) (dC : Nat → ClassId) (dI : Nat → Nat → Nat) (q0 : Nat)  (sz : Nat) : Met l yX7_init (.code yX7_init cX7_init 1 none :: zT) ({ frames := 1, cells := 10, slots := 672, locals := 12 }) (va_Pc [.ref q0] (zB sa dC dI (zV334 q0) [] sz)) (va_Qv (fun _ : Unit => True) (fun _ t => ∃ (q_1 : Nat) (q_3 : Nat) (q_5 : Nat) (q_7 : Nat) (q_9 : Nat) (q_11 : Nat) (q_13 : Nat) (q_15 : Nat) (q_17 : Nat) (q_19 : Nat) (cA_2 : ClassId) (cA_4 : ClassId) (cA_6 : ClassId) (cA_8 : ClassId) (cA_10 : ClassId) (cA_12 : ClassId) (cA_14 : ClassId) (cA_16 : ClassId) (cA_18 : ClassId) (cA_20 : ClassId), zW dC dI (zV335 q0 q_1 q_3 q_5 q_7 q_9 q_11 q_13 q_15 q_17 q_19 q_1 cA_2 q_3 cA_4 q_5 cA_6 q_7 cA_8 q_9 cA_10 q_11 cA_12 q_13 cA_14 q_15 cA_16 q_17 cA_18 q_19 cA_20) [(cA_2, .int), (cA_4, .int), (cA_6, .int), (cA_8, .int), (cA_10, .int), (cA_12, .int), (cA_14, .int), (cA_16, .int), (cA_18, .int), (cA_20, .int)] (va_A (zV334 q0) sz) t) (va_A (zV334 q0) sz)) 10 672 (va_A (zV334 q0) sz) := by
  refine z_enter (by decide) (by exact (Nat.le_of_ble_eq_true rfl)) ?_
  intro p e s m args below meth c ls A R Qc hargs hsz hQe hAe hRe hx hb hml hr hts hown hlocks hin hl hP hK hD hN hXs hA hS
  rw [hAe] at hQe
  have hown : s.vm.findClass RX7 = some m.cls := hown
  have hin : meth.name = "<init>" := hin
  have hl : lv_has ls 1 [(0, .ref q0)] := hl
  refine lv_aload_n hx hb dX7_init_0 rfl (lv_at hl 0 rfl) ?_
  refine W.objInit hx hb hown (hts _ zw_t1_39) (hts _ zw_t1_26) (hts _ zw_t1_27) rfl (by rw [hml]; exact hl.1) rfl dX7_init_1 (by rw [← hRe]; exact (Nat.le_of_ble_eq_true rfl)) (by rw [← hRe]; exact (Nat.le_of_ble_eq_true rfl)) ?_
  refine W.eq (g2 := F0 m 4 ls []) rfl ?_
  refine lv_aload_n hx hb dX7_init_4 rfl (lv_at hl 0 rfl) ?_
  refine lv_bipush (v := 10) hx hb dX7_init_5 (by decide) ?_
  refine va_newa (atype := .int) (ty := .int) (N' := 10) (a0 := (10, .inl (fun _ => 0))) hx hb (hts _ zw_t1_151) rfl hK hP hD hS hA (fun _ => rfl) (by decide) (by decide) (by decide) (by rw [← hRe]; exact (Nat.le_of_ble_eq_true rfl)) (by rw [← hRe]; exact (Nat.le_of_ble_eq_true rfl)) dX7_init_7 (fun q_1 cA_2 H hK hP hD hS => ?_)
  refine W.widen (k := 1) (n := 10) (Nat.le_of_ble_eq_true rfl) (Nat.le_of_ble_eq_true rfl) ?_
  have hP : va_P (dC, dI) vwCl (zV336 q0 q_1 cA_2) H := hP
  have hD : va_D A (zV336 q0 q_1 cA_2) := hD
  have hK : va_K (dC, dI) vwCl [(cA_2, .int)] s := hK
  refine va_putF (D := (dC, dI)) (ci := 7) (v := .ref q_1) (ty := (.array .int)) (C := RX7) (T := TX7) (N := 18) hx hb hts zl_X7 tyX7 tyX7_ok nmX7 hown hK hP hD hS 0 rfl rfl 8 (by decide) (hts _ zw_t1_79) (fun _ h9 => h9) rfl hin rfl (by decide +kernel) rfl rfl (Nat.le_of_ble_eq_true rfl) dX7_init_9 (fun H locs hP hD hS => ?_)
  have hP : va_P (dC, dI) vwCl (zV337 q0 q_1 q_1 cA_2) H := hP
  have hD : va_D A (zV337 q0 q_1 q_1 cA_2) := hD
  refine lv_aload_n hx hb dX7_init_12 rfl (lv_at hl 0 rfl) ?_
  refine lv_bipush (v := 10) hx hb dX7_init_13 (by decide) ?_
  refine va_newa (atype := .int) (ty := .int) (N' := 10) (a0 := (10, .inl (fun _ => 0))) hx hb (hts _ zw_t1_151) rfl hK hP hD hS hA (fun _ => rfl) (by decide) (by decide) (by decide) (by rw [← hRe]; exact (Nat.le_of_ble_eq_true rfl)) (by rw [← hRe]; exact (Nat.le_of_ble_eq_true rfl)) dX7_init_15 (fun q_3 cA_4 H hK hP hD hS => ?_)
  refine W.widen (k := 2) (n := 20) (Nat.le_of_ble_eq_true rfl) (Nat.le_of_ble_eq_true rfl) ?_
  have hP : va_P (dC, dI) vwCl (zV338 q0 q_1 q_1 cA_2 q_3 cA_4) H := hP
  have hD : va_D A (zV338 q0 q_1 q_1 cA_2 q_3 cA_4) := hD
  have hK : va_K (dC, dI) vwCl [(cA_2, .int), (cA_4, .int)] s := hK
  refine va_putF (D := (dC, dI)) (ci := 7) (v := .ref q_3) (ty := (.array .int)) (C := RX7) (T := TX7) (N := 18) hx hb hts zl_X7 tyX7 tyX7_ok nmX7 hown hK hP hD hS 0 rfl rfl 9 (by decide) (hts _ zw_t1_84) (fun _ h9 => h9) rfl hin rfl (by decide +kernel) rfl rfl (Nat.le_of_ble_eq_true rfl) dX7_init_17 (fun H locs hP hD hS => ?_)
  have hP : va_P (dC, dI) vwCl (zV339 q0 q_1 q_3 q_1 cA_2 q_3 cA_4) H := hP
  have hD : va_D A (zV339 q0 q_1 q_3 q_1 cA_2 q_3 cA_4) := hD
  refine lv_aload_n hx hb dX7_init_20 rfl (lv_at hl 0 rfl) ?_
  refine lv_bipush (v := 10) hx hb dX7_init_21 (by decide) ?_
  refine va_newa (atype := .int) (ty := .int) (N' := 10) (a0 := (10, .inl (fun _ => 0))) hx hb (hts _ zw_t1_151) rfl hK hP hD hS hA (fun _ => rfl) (by decide) (by decide) (by decide) (by rw [← hRe]; exact (Nat.le_of_ble_eq_true rfl)) (by rw [← hRe]; exact (Nat.le_of_ble_eq_true rfl)) dX7_init_23 (fun q_5 cA_6 H hK hP hD hS => ?_)
  refine W.widen (k := 3) (n := 30) (Nat.le_of_ble_eq_true rfl) (Nat.le_of_ble_eq_true rfl) ?_
  have hP : va_P (dC, dI) vwCl (zV340 q0 q_1 q_3 q_1 cA_2 q_3 cA_4 q_5 cA_6) H := hP
  have hD : va_D A (zV340 q0 q_1 q_3 q_1 cA_2 q_3 cA_4 q_5 cA_6) := hD
  have hK : va_K (dC, dI) vwCl [(cA_2, .int), (cA_4, .int), (cA_6, .int)] s := hK
  refine va_putF (D := (dC, dI)) (ci := 7) (v := .ref q_5) (ty := (.array .int)) (C := RX7) (T := TX7) (N := 18) hx hb hts zl_X7 tyX7 tyX7_ok nmX7 hown hK hP hD hS 0 rfl rfl 10 (by decide) (hts _ zw_t1_87) (fun _ h9 => h9) rfl hin rfl (by decide +kernel) rfl rfl (Nat.le_of_ble_eq_true rfl) dX7_init_25 (fun H locs hP hD hS => ?_)
  have hP : va_P (dC, dI) vwCl (zV341 q0 q_1 q_3 q_5 q_1 cA_2 q_3 cA_4 q_5 cA_6) H := hP
  have hD : va_D A (zV341 q0 q_1 q_3 q_5 q_1 cA_2 q_3 cA_4 q_5 cA_6) := hD
  refine lv_aload_n hx hb dX7_init_28 rfl (lv_at hl 0 rfl) ?_
  refine lv_bipush (v := 100) hx hb dX7_init_29 (by decide) ?_
  refine va_newa (atype := .int) (ty := .int) (N' := 100) (a0 := (100, .inl (fun _ => 0))) hx hb (hts _ zw_t1_151) rfl hK hP hD hS hA (fun _ => rfl) (by decide) (by decide) (by decide) (by rw [← hRe]; exact (Nat.le_of_ble_eq_true rfl)) (by rw [← hRe]; exact (Nat.le_of_ble_eq_true rfl)) dX7_init_31 (fun q_7 cA_8 H hK hP hD hS => ?_)
  refine W.widen (k := 4) (n := 130) (Nat.le_of_ble_eq_true rfl) (Nat.le_of_ble_eq_true rfl) ?_
  have hP : va_P (dC, dI) vwCl (zV342 q0 q_1 q_3 q_5 q_1 cA_2 q_3 cA_4 q_5 cA_6 q_7 cA_8) H := hP
  have hD : va_D A (zV342 q0 q_1 q_3 q_5 q_1 cA_2 q_3 cA_4 q_5 cA_6 q_7 cA_8) := hD
  have hK : va_K (dC, dI) vwCl [(cA_2, .int), (cA_4, .int), (cA_6, .int), (cA_8, .int)] s := hK
  refine va_putF (D := (dC, dI)) (ci := 7) (v := .ref q_7) (ty := (.array .int)) (C := RX7) (T := TX7) (N := 18) hx hb hts zl_X7 tyX7 tyX7_ok nmX7 hown hK hP hD hS 0 rfl rfl 11 (by decide) (hts _ zw_t1_91) (fun _ h9 => h9) rfl hin rfl (by decide +kernel) rfl rfl (Nat.le_of_ble_eq_true rfl) dX7_init_33 (fun H locs hP hD hS => ?_)
  have hP : va_P (dC, dI) vwCl (zV343 q0 q_1 q_3 q_5 q_7 q_1 cA_2 q_3 cA_4 q_5 cA_6 q_7 cA_8) H := hP
  have hD : va_D A (zV343 q0 q_1 q_3 q_5 q_7 q_1 cA_2 q_3 cA_4 q_5 cA_6 q_7 cA_8) := hD
  refine lv_aload_n hx hb dX7_init_36 rfl (lv_at hl 0 rfl) ?_
  refine lv_bipush (v := 10) hx hb dX7_init_37 (by decide) ?_
  refine va_newa (atype := .int) (ty := .int) (N' := 10) (a0 := (10, .inl (fun _ => 0))) hx hb (hts _ zw_t1_151) rfl hK hP hD hS hA (fun _ => rfl) (by decide) (by decide) (by decide) (by rw [← hRe]; exact (Nat.le_of_ble_eq_true rfl)) (by rw [← hRe]; exact (Nat.le_of_ble_eq_true rfl)) dX7_init_39 (fun q_9 cA_10 H hK hP hD hS => ?_)
  refine W.widen (k := 5) (n := 140) (Nat.le_of_ble_eq_true rfl) (Nat.le_of_ble_eq_true rfl) ?_
  have hP : va_P (dC, dI) vwCl (zV344 q0 q_1 q_3 q_5 q_7 q_1 cA_2 q_3 cA_4 q_5 cA_6 q_7 cA_8 q_9 cA_10) H := hP
  have hD : va_D A (zV344 q0 q_1 q_3 q_5 q_7 q_1 cA_2 q_3 cA_4 q_5 cA_6 q_7 cA_8 q_9 cA_10) := hD
  have hK : va_K (dC, dI) vwCl [(cA_2, .int), (cA_4, .int), (cA_6, .int), (cA_8, .int), (cA_10, .int)] s := hK
  refine va_putF (D := (dC, dI)) (ci := 7) (v := .ref q_9) (ty := (.array .int)) (C := RX7) (T := TX7) (N := 18) hx hb hts zl_X7 tyX7 tyX7_ok nmX7 hown hK hP hD hS 0 rfl rfl 12 (by decide) (hts _ zw_t1_95) (fun _ h9 => h9) rfl hin rfl (by decide +kernel) rfl rfl (Nat.le_of_ble_eq_true rfl) dX7_init_41 (fun H locs hP hD hS => ?_)
  have hP : va_P (dC, dI) vwCl (zV345 q0 q_1 q_3 q_5 q_7 q_9 q_1 cA_2 q_3 cA_4 q_5 cA_6 q_7 cA_8 q_9 cA_10) H := hP
  have hD : va_D A (zV345 q0 q_1 q_3 q_5 q_7 q_9 q_1 cA_2 q_3 cA_4 q_5 cA_6 q_7 cA_8 q_9 cA_10) := hD
  refine lv_aload_n hx hb dX7_init_44 rfl (lv_at hl 0 rfl) ?_
  refine lv_bipush (v := 16) hx hb dX7_init_45 (by decide) ?_
  refine va_newa (atype := .int) (ty := .int) (N' := 16) (a0 := (16, .inl (fun _ => 0))) hx hb (hts _ zw_t1_151) rfl hK hP hD hS hA (fun _ => rfl) (by decide) (by decide) (by decide) (by rw [← hRe]; exact (Nat.le_of_ble_eq_true rfl)) (by rw [← hRe]; exact (Nat.le_of_ble_eq_true rfl)) dX7_init_47 (fun q_11 cA_12 H hK hP hD hS => ?_)
  refine W.widen (k := 6) (n := 156) (Nat.le_of_ble_eq_true rfl) (Nat.le_of_ble_eq_true rfl) ?_
  have hP : va_P (dC, dI) vwCl (zV346 q0 q_1 q_3 q_5 q_7 q_9 q_1 cA_2 q_3 cA_4 q_5 cA_6 q_7 cA_8 q_9 cA_10 q_11 cA_12) H := hP
  have hD : va_D A (zV346 q0 q_1 q_3 q_5 q_7 q_9 q_1 cA_2 q_3 cA_4 q_5 cA_6 q_7 cA_8 q_9 cA_10 q_11 cA_12) := hD
  have hK : va_K (dC, dI) vwCl [(cA_2, .int), (cA_4, .int), (cA_6, .int), (cA_8, .int), (cA_10, .int), (cA_12, .int)] s := hK
  refine va_putF (D := (dC, dI)) (ci := 7) (v := .ref q_11) (ty := (.array .int)) (C := RX7) (T := TX7) (N := 18) hx hb hts zl_X7 tyX7 tyX7_ok nmX7 hown hK hP hD hS 0 rfl rfl 13 (by decide) (hts _ zw_t1_99) (fun _ h9 => h9) rfl hin rfl (by decide +kernel) rfl rfl (Nat.le_of_ble_eq_true rfl) dX7_init_49 (fun H locs hP hD hS => ?_)
  have hP : va_P (dC, dI) vwCl (zV347 q0 q_1 q_3 q_5 q_7 q_9 q_11 q_1 cA_2 q_3 cA_4 q_5 cA_6 q_7 cA_8 q_9 cA_10 q_11 cA_12) H := hP
  have hD : va_D A (zV347 q0 q_1 q_3 q_5 q_7 q_9 q_11 q_1 cA_2 q_3 cA_4 q_5 cA_6 q_7 cA_8 q_9 cA_10 q_11 cA_12) := hD
  refine lv_aload_n hx hb dX7_init_52 rfl (lv_at hl 0 rfl) ?_
  refine lv_bipush (v := 16) hx hb dX7_init_53 (by decide) ?_
  refine va_newa (atype := .int) (ty := .int) (N' := 16) (a0 := (16, .inl (fun _ => 0))) hx hb (hts _ zw_t1_151) rfl hK hP hD hS hA (fun _ => rfl) (by decide) (by decide) (by decide) (by rw [← hRe]; exact (Nat.le_of_ble_eq_true rfl)) (by rw [← hRe]; exact (Nat.le_of_ble_eq_true rfl)) dX7_init_55 (fun q_13 cA_14 H hK hP hD hS => ?_)
  refine W.widen (k := 7) (n := 172) (Nat.le_of_ble_eq_true rfl) (Nat.le_of_ble_eq_true rfl) ?_
  have hP : va_P (dC, dI) vwCl (zV348 q0 q_1 q_3 q_5 q_7 q_9 q_11 q_1 cA_2 q_3 cA_4 q_5 cA_6 q_7 cA_8 q_9 cA_10 q_11 cA_12 q_13 cA_14) H := hP
  have hD : va_D A (zV348 q0 q_1 q_3 q_5 q_7 q_9 q_11 q_1 cA_2 q_3 cA_4 q_5 cA_6 q_7 cA_8 q_9 cA_10 q_11 cA_12 q_13 cA_14) := hD
  have hK : va_K (dC, dI) vwCl [(cA_2, .int), (cA_4, .int), (cA_6, .int), (cA_8, .int), (cA_10, .int), (cA_12, .int), (cA_14, .int)] s := hK
  refine va_putF (D := (dC, dI)) (ci := 7) (v := .ref q_13) (ty := (.array .int)) (C := RX7) (T := TX7) (N := 18) hx hb hts zl_X7 tyX7 tyX7_ok nmX7 hown hK hP hD hS 0 rfl rfl 14 (by decide) (hts _ zw_t1_102) (fun _ h9 => h9) rfl hin rfl (by decide +kernel) rfl rfl (Nat.le_of_ble_eq_true rfl) dX7_init_57 (fun H locs hP hD hS => ?_)
  have hP : va_P (dC, dI) vwCl (zV349 q0 q_1 q_3 q_5 q_7 q_9 q_11 q_13 q_1 cA_2 q_3 cA_4 q_5 cA_6 q_7 cA_8 q_9 cA_10 q_11 cA_12 q_13 cA_14) H := hP
  have hD : va_D A (zV349 q0 q_1 q_3 q_5 q_7 q_9 q_11 q_13 q_1 cA_2 q_3 cA_4 q_5 cA_6 q_7 cA_8 q_9 cA_10 q_11 cA_12 q_13 cA_14) := hD
  refine lv_aload_n hx hb dX7_init_60 rfl (lv_at hl 0 rfl) ?_
  refine lv_sipush (v := 480) hx hb dX7_init_61 (by decide) ?_
  refine va_newa (atype := .int) (ty := .int) (N' := 480) (a0 := (480, .inl (fun _ => 0))) hx hb (hts _ zw_t1_151) rfl hK hP hD hS hA (fun _ => rfl) (by decide) (by decide) (by decide) (by rw [← hRe]; exact (Nat.le_of_ble_eq_true rfl)) (by rw [← hRe]; exact (Nat.le_of_ble_eq_true rfl)) dX7_init_64 (fun q_15 cA_16 H hK hP hD hS => ?_)
  refine W.widen (k := 8) (n := 652) (Nat.le_of_ble_eq_true rfl) (Nat.le_of_ble_eq_true rfl) ?_
  have hP : va_P (dC, dI) vwCl (zV350 q0 q_1 q_3 q_5 q_7 q_9 q_11 q_13 q_1 cA_2 q_3 cA_4 q_5 cA_6 q_7 cA_8 q_9 cA_10 q_11 cA_12 q_13 cA_14 q_15 cA_16) H := hP
  have hD : va_D A (zV350 q0 q_1 q_3 q_5 q_7 q_9 q_11 q_13 q_1 cA_2 q_3 cA_4 q_5 cA_6 q_7 cA_8 q_9 cA_10 q_11 cA_12 q_13 cA_14 q_15 cA_16) := hD
  have hK : va_K (dC, dI) vwCl [(cA_2, .int), (cA_4, .int), (cA_6, .int), (cA_8, .int), (cA_10, .int), (cA_12, .int), (cA_14, .int), (cA_16, .int)] s := hK
  refine va_putF (D := (dC, dI)) (ci := 7) (v := .ref q_15) (ty := (.array .int)) (C := RX7) (T := TX7) (N := 18) hx hb hts zl_X7 tyX7 tyX7_ok nmX7 hown hK hP hD hS 0 rfl rfl 15 (by decide) (hts _ zw_t1_105) (fun _ h9 => h9) rfl hin rfl (by decide +kernel) rfl rfl (Nat.le_of_ble_eq_true rfl) dX7_init_66 (fun H locs hP hD hS => ?_)
  have hP : va_P (dC, dI) vwCl (zV351 q0 q_1 q_3 q_5 q_7 q_9 q_11 q_13 q_15 q_1 cA_2 q_3 cA_4 q_5 cA_6 q_7 cA_8 q_9 cA_10 q_11 cA_12 q_13 cA_14 q_15 cA_16) H := hP
  have hD : va_D A (zV351 q0 q_1 q_3 q_5 q_7 q_9 q_11 q_13 q_15 q_1 cA_2 q_3 cA_4 q_5 cA_6 q_7 cA_8 q_9 cA_10 q_11 cA_12 q_13 cA_14 q_15 cA_16) := hD
  refine lv_aload_n hx hb dX7_init_69 rfl (lv_at hl 0 rfl) ?_
  refine lv_bipush (v := 10) hx hb dX7_init_70 (by decide) ?_
  refine va_newa (atype := .int) (ty := .int) (N' := 10) (a0 := (10, .inl (fun _ => 0))) hx hb (hts _ zw_t1_151) rfl hK hP hD hS hA (fun _ => rfl) (by decide) (by decide) (by decide) (by rw [← hRe]; exact (Nat.le_of_ble_eq_true rfl)) (by rw [← hRe]; exact (Nat.le_of_ble_eq_true rfl)) dX7_init_72 (fun q_17 cA_18 H hK hP hD hS => ?_)
  refine W.widen (k := 9) (n := 662) (Nat.le_of_ble_eq_true rfl) (Nat.le_of_ble_eq_true rfl) ?_
  have hP : va_P (dC, dI) vwCl (zV352 q0 q_1 q_3 q_5 q_7 q_9 q_11 q_13 q_15 q_1 cA_2 q_3 cA_4 q_5 cA_6 q_7 cA_8 q_9 cA_10 q_11 cA_12 q_13 cA_14 q_15 cA_16 q_17 cA_18) H := hP
  have hD : va_D A (zV352 q0 q_1 q_3 q_5 q_7 q_9 q_11 q_13 q_15 q_1 cA_2 q_3 cA_4 q_5 cA_6 q_7 cA_8 q_9 cA_10 q_11 cA_12 q_13 cA_14 q_15 cA_16 q_17 cA_18) := hD
  have hK : va_K (dC, dI) vwCl [(cA_2, .int), (cA_4, .int), (cA_6, .int), (cA_8, .int), (cA_10, .int), (cA_12, .int), (cA_14, .int), (cA_16, .int), (cA_18, .int)] s := hK
  refine va_putF (D := (dC, dI)) (ci := 7) (v := .ref q_17) (ty := (.array .int)) (C := RX7) (T := TX7) (N := 18) hx hb hts zl_X7 tyX7 tyX7_ok nmX7 hown hK hP hD hS 0 rfl rfl 16 (by decide) (hts _ zw_t1_107) (fun _ h9 => h9) rfl hin rfl (by decide +kernel) rfl rfl (Nat.le_of_ble_eq_true rfl) dX7_init_74 (fun H locs hP hD hS => ?_)
  have hP : va_P (dC, dI) vwCl (zV353 q0 q_1 q_3 q_5 q_7 q_9 q_11 q_13 q_15 q_17 q_1 cA_2 q_3 cA_4 q_5 cA_6 q_7 cA_8 q_9 cA_10 q_11 cA_12 q_13 cA_14 q_15 cA_16 q_17 cA_18) H := hP
  have hD : va_D A (zV353 q0 q_1 q_3 q_5 q_7 q_9 q_11 q_13 q_15 q_17 q_1 cA_2 q_3 cA_4 q_5 cA_6 q_7 cA_8 q_9 cA_10 q_11 cA_12 q_13 cA_14 q_15 cA_16 q_17 cA_18) := hD
  refine lv_aload_n hx hb dX7_init_77 rfl (lv_at hl 0 rfl) ?_
  refine lv_bipush (v := 10) hx hb dX7_init_78 (by decide) ?_
  refine va_newa (atype := .int) (ty := .int) (N' := 10) (a0 := (10, .inl (fun _ => 0))) hx hb (hts _ zw_t1_151) rfl hK hP hD hS hA (fun _ => rfl) (by decide) (by decide) (by decide) (by rw [← hRe]; exact (Nat.le_of_ble_eq_true rfl)) (by rw [← hRe]; exact (Nat.le_of_ble_eq_true rfl)) dX7_init_80 (fun q_19 cA_20 H hK hP hD hS => ?_)
  refine W.widen (k := 10) (n := 672) (Nat.le_of_ble_eq_true rfl) (Nat.le_of_ble_eq_true rfl) ?_
  have hP : va_P (dC, dI) vwCl (zV354 q0 q_1 q_3 q_5 q_7 q_9 q_11 q_13 q_15 q_17 q_1 cA_2 q_3 cA_4 q_5 cA_6 q_7 cA_8 q_9 cA_10 q_11 cA_12 q_13 cA_14 q_15 cA_16 q_17 cA_18 q_19 cA_20) H := hP
  have hD : va_D A (zV354 q0 q_1 q_3 q_5 q_7 q_9 q_11 q_13 q_15 q_17 q_1 cA_2 q_3 cA_4 q_5 cA_6 q_7 cA_8 q_9 cA_10 q_11 cA_12 q_13 cA_14 q_15 cA_16 q_17 cA_18 q_19 cA_20) := hD
  have hK : va_K (dC, dI) vwCl [(cA_2, .int), (cA_4, .int), (cA_6, .int), (cA_8, .int), (cA_10, .int), (cA_12, .int), (cA_14, .int), (cA_16, .int), (cA_18, .int), (cA_20, .int)] s := hK
  refine va_putF (D := (dC, dI)) (ci := 7) (v := .ref q_19) (ty := (.array .int)) (C := RX7) (T := TX7) (N := 18) hx hb hts zl_X7 tyX7 tyX7_ok nmX7 hown hK hP hD hS 0 rfl rfl 17 (by decide) (hts _ zw_t1_111) (fun _ h9 => h9) rfl hin rfl (by decide +kernel) rfl rfl (Nat.le_of_ble_eq_true rfl) dX7_init_82 (fun H locs hP hD hS => ?_)
  have hP : va_P (dC, dI) vwCl (zV335 q0 q_1 q_3 q_5 q_7 q_9 q_11 q_13 q_15 q_17 q_19 q_1 cA_2 q_3 cA_4 q_5 cA_6 q_7 cA_8 q_9 cA_10 q_11 cA_12 q_13 cA_14 q_15 cA_16 q_17 cA_18 q_19 cA_20) H := hP
  have hD : va_D A (zV335 q0 q_1 q_3 q_5 q_7 q_9 q_11 q_13 q_15 q_17 q_19 q_1 cA_2 q_3 cA_4 q_5 cA_6 q_7 cA_8 q_9 cA_10 q_11 cA_12 q_13 cA_14 q_15 cA_16 q_17 cA_18 q_19 cA_20) := hD
  exact W.vret hx hb hr (fun t ht hW => by rw [← hQe]; exact ⟨⟨(), rfl, trivial, ⟨q_1, q_3, q_5, q_7, q_9, q_11, q_13, q_15, q_17, q_19, cA_2, cA_4, cA_6, cA_8, cA_10, cA_12, cA_14, cA_16, cA_18, cA_20, z_ret hP hK hD ht hW [0, 1, 2, 3, 4, 5, 6, 7, 8, 9, 10] [0, 1, 2, 3, 4, 5, 6, 7, 8, 9] rfl (by decide) rfl⟩⟩, hS.F ht⟩) hS.2.2 dX7_init_85
