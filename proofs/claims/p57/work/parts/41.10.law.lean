set_option linter.all false
theorem zw_t6_67 : Cond.methodLink RL 234 yX9_row ∈ zT := zt_6 (List.mem_of_getElem? (i := 67) (by decide +kernel)) (by decide +kernel)
theorem zw_t6_68 : Cond.instanceMethod yX9_row ∈ zT := zt_6 (List.mem_of_getElem? (i := 68) (by decide +kernel)) (by decide +kernel)
theorem zw_t6_69 : Cond.selects RX9 yX9_row yX9_row ∈ zT := zt_6 (List.mem_of_getElem? (i := 69) (by decide +kernel)) (by decide +kernel)
theorem zw_t6_70 : Cond.code yX9_row cX9_row 4 (some .int) ∈ zT := zt_6 (List.mem_of_getElem? (i := 70) (by decide +kernel)) (by decide +kernel)
theorem zw_t6_76 : Cond.methodLink RL 240 yX9_write ∈ zT := zt_6 (List.mem_of_getElem? (i := 76) (by decide +kernel)) (by decide +kernel)
theorem zw_t6_77 : Cond.instanceMethod yX9_write ∈ zT := zt_6 (List.mem_of_getElem? (i := 77) (by decide +kernel)) (by decide +kernel)
theorem zw_t6_78 : Cond.selects RX9 yX9_write yX9_write ∈ zT := zt_6 (List.mem_of_getElem? (i := 78) (by decide +kernel)) (by decide +kernel)
theorem zw_t6_79 : Cond.code yX9_write cX9_write 6 (some .int) ∈ zT := zt_6 (List.mem_of_getElem? (i := 79) (by decide +kernel)) (by decide +kernel)
theorem zw_t6_88 : Cond.methodLink RL 245 yX9_paste ∈ zT := zt_6 (List.mem_of_getElem? (i := 88) (by decide +kernel)) (by decide +kernel)
theorem zw_t6_89 : Cond.instanceMethod yX9_paste ∈ zT := zt_6 (List.mem_of_getElem? (i := 89) (by decide +kernel)) (by decide +kernel)
theorem zw_t6_90 : Cond.selects RX9 yX9_paste yX9_paste ∈ zT := zt_6 (List.mem_of_getElem? (i := 90) (by decide +kernel)) (by decide +kernel)
theorem zw_t6_91 : Cond.code yX9_paste cX9_paste 8 (some .int) ∈ zT := zt_6 (List.mem_of_getElem? (i := 91) (by decide +kernel)) (by decide +kernel)
theorem zw_t7_21 : Cond.methodLink RL 237 yX10_row ∈ zT := zt_7 (List.mem_of_getElem? (i := 21) (by decide +kernel)) (by decide +kernel)
theorem zw_t7_22 : Cond.instanceMethod yX10_row ∈ zT := zt_7 (List.mem_of_getElem? (i := 22) (by decide +kernel)) (by decide +kernel)
theorem zw_t7_23 : Cond.selects RX10 yX10_row yX10_row ∈ zT := zt_7 (List.mem_of_getElem? (i := 23) (by decide +kernel)) (by decide +kernel)
theorem zw_t7_24 : Cond.code yX10_row cX10_row 5 (some .int) ∈ zT := zt_7 (List.mem_of_getElem? (i := 24) (by decide +kernel)) (by decide +kernel)
theorem zw_t7_32 : Cond.methodLink RL 244 yX10_write ∈ zT := zt_7 (List.mem_of_getElem? (i := 32) (by decide +kernel)) (by decide +kernel)
theorem zw_t7_33 : Cond.instanceMethod yX10_write ∈ zT := zt_7 (List.mem_of_getElem? (i := 33) (by decide +kernel)) (by decide +kernel)
theorem zw_t7_34 : Cond.selects RX10 yX10_write yX10_write ∈ zT := zt_7 (List.mem_of_getElem? (i := 34) (by decide +kernel)) (by decide +kernel)
theorem zw_t7_35 : Cond.code yX10_write cX10_write 5 (some .int) ∈ zT := zt_7 (List.mem_of_getElem? (i := 35) (by decide +kernel)) (by decide +kernel)
theorem zw_t7_39 : Cond.methodLink RL 248 yX10_paste ∈ zT := zt_7 (List.mem_of_getElem? (i := 39) (by decide +kernel)) (by decide +kernel)
theorem zw_t7_40 : Cond.instanceMethod yX10_paste ∈ zT := zt_7 (List.mem_of_getElem? (i := 40) (by decide +kernel)) (by decide +kernel)
theorem zw_t7_41 : Cond.selects RX10 yX10_paste yX10_paste ∈ zT := zt_7 (List.mem_of_getElem? (i := 41) (by decide +kernel)) (by decide +kernel)
theorem zw_t7_42 : Cond.code yX10_paste cX10_paste 7 (some .int) ∈ zT := zt_7 (List.mem_of_getElem? (i := 42) (by decide +kernel)) (by decide +kernel)
theorem zw_t9_88 : Cond.constantLong RL 238 (4294967295) ∈ zT := zt_9 (List.mem_of_getElem? (i := 88) (by decide +kernel)) (by decide +kernel)
def bcL_law_2467 : List Nat := [43, 42, 29, 4, 96, 46, 42, 29, 5, 96, 46, 42, 29, 6, 96, 46, 182, 0, 234, 87, 44, 42, 29, 4, 96, 46, 42, 29, 5, 96, 46, 42, 29, 6, 96, 46, 182, 0, 237, 87, 167, 0, 139, 43, 42, 29, 4, 96, 46, 42, 29, 5, 96, 46, 42, 29, 6, 96, 46, 133]
theorem bcL_law_2467_ok : z_bys cL_law 2467 bcL_law_2467 = true := by decide +kernel
def bcL_law_2527 : List Nat := [16, 32, 121, 42, 29, 7, 96, 46, 133, 20, 0, 238, 127, 129, 182, 0, 240, 87, 44, 42, 29, 4, 96, 46, 42, 29, 5, 96, 46, 42, 29, 6, 96, 46, 133, 16, 32, 121, 42, 29, 7, 96, 46, 133, 20, 0, 238, 127, 129, 182, 0, 244, 87, 167, 0, 66, 43, 42, 29, 4]
theorem bcL_law_2527_ok : z_bys cL_law 2527 bcL_law_2527 = true := by decide +kernel
def bcL_law_2587 : List Nat := [96, 46, 42, 29, 5, 96, 46, 42, 29, 6, 96, 46, 42, 29, 7, 96, 46, 42, 29, 8, 96, 46, 182, 0, 245, 44, 42, 29, 4, 96, 46, 42, 29, 5, 96, 46, 42, 29, 6, 96, 46, 42, 29, 7, 96, 46, 42, 29, 8, 96, 46, 182, 0, 248, 159, 0, 5]
theorem bcL_law_2587_ok : z_bys cL_law 2587 bcL_law_2587 = true := by decide +kernel
theorem dL_law_2467 : decode cL_law 2467 = .ok (.aload_n 1, 1) := zo_43 (z_byk bcL_law_2467 2467 0 _ bcL_law_2467_ok rfl)
theorem dL_law_2468 : decode cL_law 2468 = .ok (.aload_n 0, 1) := zo_42 (z_byk bcL_law_2467 2467 1 _ bcL_law_2467_ok rfl)
theorem dL_law_2469 : decode cL_law 2469 = .ok (.iload_n 3, 1) := zo_29 (z_byk bcL_law_2467 2467 2 _ bcL_law_2467_ok rfl)
theorem dL_law_2470 : decode cL_law 2470 = .ok (.iconst 1, 1) := zo_4 (z_byk bcL_law_2467 2467 3 _ bcL_law_2467_ok rfl)
theorem dL_law_2471 : decode cL_law 2471 = .ok (.iadd, 1) := zo_96 (z_byk bcL_law_2467 2467 4 _ bcL_law_2467_ok rfl)
theorem dL_law_2472 : decode cL_law 2472 = .ok (.iaload, 1) := zo_46 (z_byk bcL_law_2467 2467 5 _ bcL_law_2467_ok rfl)
theorem dL_law_2473 : decode cL_law 2473 = .ok (.aload_n 0, 1) := zo_42 (z_byk bcL_law_2467 2467 6 _ bcL_law_2467_ok rfl)
theorem dL_law_2474 : decode cL_law 2474 = .ok (.iload_n 3, 1) := zo_29 (z_byk bcL_law_2467 2467 7 _ bcL_law_2467_ok rfl)
theorem dL_law_2475 : decode cL_law 2475 = .ok (.iconst 2, 1) := zo_5 (z_byk bcL_law_2467 2467 8 _ bcL_law_2467_ok rfl)
theorem dL_law_2476 : decode cL_law 2476 = .ok (.iadd, 1) := zo_96 (z_byk bcL_law_2467 2467 9 _ bcL_law_2467_ok rfl)
theorem dL_law_2477 : decode cL_law 2477 = .ok (.iaload, 1) := zo_46 (z_byk bcL_law_2467 2467 10 _ bcL_law_2467_ok rfl)
theorem dL_law_2478 : decode cL_law 2478 = .ok (.aload_n 0, 1) := zo_42 (z_byk bcL_law_2467 2467 11 _ bcL_law_2467_ok rfl)
theorem dL_law_2479 : decode cL_law 2479 = .ok (.iload_n 3, 1) := zo_29 (z_byk bcL_law_2467 2467 12 _ bcL_law_2467_ok rfl)
theorem dL_law_2480 : decode cL_law 2480 = .ok (.iconst 3, 1) := zo_6 (z_byk bcL_law_2467 2467 13 _ bcL_law_2467_ok rfl)
theorem dL_law_2481 : decode cL_law 2481 = .ok (.iadd, 1) := zo_96 (z_byk bcL_law_2467 2467 14 _ bcL_law_2467_ok rfl)
theorem dL_law_2482 : decode cL_law 2482 = .ok (.iaload, 1) := zo_46 (z_byk bcL_law_2467 2467 15 _ bcL_law_2467_ok rfl)
theorem dL_law_2483 : decode cL_law 2483 = .ok (.invokevirtual 234, 3) := zo_182 (z_byk bcL_law_2467 2467 16 _ bcL_law_2467_ok rfl) (z_byk bcL_law_2467 2467 17 _ bcL_law_2467_ok rfl) (z_byk bcL_law_2467 2467 18 _ bcL_law_2467_ok rfl) rfl
theorem dL_law_2486 : decode cL_law 2486 = .ok (.pop, 1) := zo_87 (z_byk bcL_law_2467 2467 19 _ bcL_law_2467_ok rfl)
theorem dL_law_2487 : decode cL_law 2487 = .ok (.aload_n 2, 1) := zo_44 (z_byk bcL_law_2467 2467 20 _ bcL_law_2467_ok rfl)
theorem dL_law_2488 : decode cL_law 2488 = .ok (.aload_n 0, 1) := zo_42 (z_byk bcL_law_2467 2467 21 _ bcL_law_2467_ok rfl)
theorem dL_law_2489 : decode cL_law 2489 = .ok (.iload_n 3, 1) := zo_29 (z_byk bcL_law_2467 2467 22 _ bcL_law_2467_ok rfl)
theorem dL_law_2490 : decode cL_law 2490 = .ok (.iconst 1, 1) := zo_4 (z_byk bcL_law_2467 2467 23 _ bcL_law_2467_ok rfl)
theorem dL_law_2491 : decode cL_law 2491 = .ok (.iadd, 1) := zo_96 (z_byk bcL_law_2467 2467 24 _ bcL_law_2467_ok rfl)
theorem dL_law_2492 : decode cL_law 2492 = .ok (.iaload, 1) := zo_46 (z_byk bcL_law_2467 2467 25 _ bcL_law_2467_ok rfl)
theorem dL_law_2493 : decode cL_law 2493 = .ok (.aload_n 0, 1) := zo_42 (z_byk bcL_law_2467 2467 26 _ bcL_law_2467_ok rfl)
theorem dL_law_2494 : decode cL_law 2494 = .ok (.iload_n 3, 1) := zo_29 (z_byk bcL_law_2467 2467 27 _ bcL_law_2467_ok rfl)
theorem dL_law_2495 : decode cL_law 2495 = .ok (.iconst 2, 1) := zo_5 (z_byk bcL_law_2467 2467 28 _ bcL_law_2467_ok rfl)
theorem dL_law_2496 : decode cL_law 2496 = .ok (.iadd, 1) := zo_96 (z_byk bcL_law_2467 2467 29 _ bcL_law_2467_ok rfl)
theorem dL_law_2497 : decode cL_law 2497 = .ok (.iaload, 1) := zo_46 (z_byk bcL_law_2467 2467 30 _ bcL_law_2467_ok rfl)
theorem dL_law_2498 : decode cL_law 2498 = .ok (.aload_n 0, 1) := zo_42 (z_byk bcL_law_2467 2467 31 _ bcL_law_2467_ok rfl)
theorem dL_law_2499 : decode cL_law 2499 = .ok (.iload_n 3, 1) := zo_29 (z_byk bcL_law_2467 2467 32 _ bcL_law_2467_ok rfl)
theorem dL_law_2500 : decode cL_law 2500 = .ok (.iconst 3, 1) := zo_6 (z_byk bcL_law_2467 2467 33 _ bcL_law_2467_ok rfl)
theorem dL_law_2501 : decode cL_law 2501 = .ok (.iadd, 1) := zo_96 (z_byk bcL_law_2467 2467 34 _ bcL_law_2467_ok rfl)
theorem dL_law_2502 : decode cL_law 2502 = .ok (.iaload, 1) := zo_46 (z_byk bcL_law_2467 2467 35 _ bcL_law_2467_ok rfl)
theorem dL_law_2503 : decode cL_law 2503 = .ok (.invokevirtual 237, 3) := zo_182 (z_byk bcL_law_2467 2467 36 _ bcL_law_2467_ok rfl) (z_byk bcL_law_2467 2467 37 _ bcL_law_2467_ok rfl) (z_byk bcL_law_2467 2467 38 _ bcL_law_2467_ok rfl) rfl
theorem dL_law_2506 : decode cL_law 2506 = .ok (.pop, 1) := zo_87 (z_byk bcL_law_2467 2467 39 _ bcL_law_2467_ok rfl)
theorem dL_law_2507 : decode cL_law 2507 = .ok (.goto 139, 3) := zo_167 (z_byk bcL_law_2467 2467 40 _ bcL_law_2467_ok rfl) (z_byk bcL_law_2467 2467 41 _ bcL_law_2467_ok rfl) (z_byk bcL_law_2467 2467 42 _ bcL_law_2467_ok rfl) rfl
theorem dL_law_2510 : decode cL_law 2510 = .ok (.aload_n 1, 1) := zo_43 (z_byk bcL_law_2467 2467 43 _ bcL_law_2467_ok rfl)
theorem dL_law_2511 : decode cL_law 2511 = .ok (.aload_n 0, 1) := zo_42 (z_byk bcL_law_2467 2467 44 _ bcL_law_2467_ok rfl)
theorem dL_law_2512 : decode cL_law 2512 = .ok (.iload_n 3, 1) := zo_29 (z_byk bcL_law_2467 2467 45 _ bcL_law_2467_ok rfl)
theorem dL_law_2513 : decode cL_law 2513 = .ok (.iconst 1, 1) := zo_4 (z_byk bcL_law_2467 2467 46 _ bcL_law_2467_ok rfl)
theorem dL_law_2514 : decode cL_law 2514 = .ok (.iadd, 1) := zo_96 (z_byk bcL_law_2467 2467 47 _ bcL_law_2467_ok rfl)
theorem dL_law_2515 : decode cL_law 2515 = .ok (.iaload, 1) := zo_46 (z_byk bcL_law_2467 2467 48 _ bcL_law_2467_ok rfl)
theorem dL_law_2516 : decode cL_law 2516 = .ok (.aload_n 0, 1) := zo_42 (z_byk bcL_law_2467 2467 49 _ bcL_law_2467_ok rfl)
theorem dL_law_2517 : decode cL_law 2517 = .ok (.iload_n 3, 1) := zo_29 (z_byk bcL_law_2467 2467 50 _ bcL_law_2467_ok rfl)
theorem dL_law_2518 : decode cL_law 2518 = .ok (.iconst 2, 1) := zo_5 (z_byk bcL_law_2467 2467 51 _ bcL_law_2467_ok rfl)
theorem dL_law_2519 : decode cL_law 2519 = .ok (.iadd, 1) := zo_96 (z_byk bcL_law_2467 2467 52 _ bcL_law_2467_ok rfl)
theorem dL_law_2520 : decode cL_law 2520 = .ok (.iaload, 1) := zo_46 (z_byk bcL_law_2467 2467 53 _ bcL_law_2467_ok rfl)
theorem dL_law_2521 : decode cL_law 2521 = .ok (.aload_n 0, 1) := zo_42 (z_byk bcL_law_2467 2467 54 _ bcL_law_2467_ok rfl)
theorem dL_law_2522 : decode cL_law 2522 = .ok (.iload_n 3, 1) := zo_29 (z_byk bcL_law_2467 2467 55 _ bcL_law_2467_ok rfl)
theorem dL_law_2523 : decode cL_law 2523 = .ok (.iconst 3, 1) := zo_6 (z_byk bcL_law_2467 2467 56 _ bcL_law_2467_ok rfl)
theorem dL_law_2524 : decode cL_law 2524 = .ok (.iadd, 1) := zo_96 (z_byk bcL_law_2467 2467 57 _ bcL_law_2467_ok rfl)
theorem dL_law_2525 : decode cL_law 2525 = .ok (.iaload, 1) := zo_46 (z_byk bcL_law_2467 2467 58 _ bcL_law_2467_ok rfl)
theorem dL_law_2526 : decode cL_law 2526 = .ok (.i2l, 1) := zo_133 (z_byk bcL_law_2467 2467 59 _ bcL_law_2467_ok rfl)
theorem dL_law_2527 : decode cL_law 2527 = .ok (.bipush 32, 2) := zo_16 (z_byk bcL_law_2527 2527 0 _ bcL_law_2527_ok rfl) (z_byk bcL_law_2527 2527 1 _ bcL_law_2527_ok rfl) rfl
theorem dL_law_2529 : decode cL_law 2529 = .ok (.lshl, 1) := zo_121 (z_byk bcL_law_2527 2527 2 _ bcL_law_2527_ok rfl)
theorem dL_law_2530 : decode cL_law 2530 = .ok (.aload_n 0, 1) := zo_42 (z_byk bcL_law_2527 2527 3 _ bcL_law_2527_ok rfl)
theorem dL_law_2531 : decode cL_law 2531 = .ok (.iload_n 3, 1) := zo_29 (z_byk bcL_law_2527 2527 4 _ bcL_law_2527_ok rfl)
theorem dL_law_2532 : decode cL_law 2532 = .ok (.iconst 4, 1) := zo_7 (z_byk bcL_law_2527 2527 5 _ bcL_law_2527_ok rfl)
theorem dL_law_2533 : decode cL_law 2533 = .ok (.iadd, 1) := zo_96 (z_byk bcL_law_2527 2527 6 _ bcL_law_2527_ok rfl)
theorem dL_law_2534 : decode cL_law 2534 = .ok (.iaload, 1) := zo_46 (z_byk bcL_law_2527 2527 7 _ bcL_law_2527_ok rfl)
theorem dL_law_2535 : decode cL_law 2535 = .ok (.i2l, 1) := zo_133 (z_byk bcL_law_2527 2527 8 _ bcL_law_2527_ok rfl)
theorem dL_law_2536 : decode cL_law 2536 = .ok (.ldc2_w 238, 3) := zo_20 (z_byk bcL_law_2527 2527 9 _ bcL_law_2527_ok rfl) (z_byk bcL_law_2527 2527 10 _ bcL_law_2527_ok rfl) (z_byk bcL_law_2527 2527 11 _ bcL_law_2527_ok rfl) rfl
theorem dL_law_2539 : decode cL_law 2539 = .ok (.land, 1) := zo_127 (z_byk bcL_law_2527 2527 12 _ bcL_law_2527_ok rfl)
theorem dL_law_2540 : decode cL_law 2540 = .ok (.lor, 1) := zo_129 (z_byk bcL_law_2527 2527 13 _ bcL_law_2527_ok rfl)
theorem dL_law_2541 : decode cL_law 2541 = .ok (.invokevirtual 240, 3) := zo_182 (z_byk bcL_law_2527 2527 14 _ bcL_law_2527_ok rfl) (z_byk bcL_law_2527 2527 15 _ bcL_law_2527_ok rfl) (z_byk bcL_law_2527 2527 16 _ bcL_law_2527_ok rfl) rfl
theorem dL_law_2544 : decode cL_law 2544 = .ok (.pop, 1) := zo_87 (z_byk bcL_law_2527 2527 17 _ bcL_law_2527_ok rfl)
theorem dL_law_2545 : decode cL_law 2545 = .ok (.aload_n 2, 1) := zo_44 (z_byk bcL_law_2527 2527 18 _ bcL_law_2527_ok rfl)
theorem dL_law_2546 : decode cL_law 2546 = .ok (.aload_n 0, 1) := zo_42 (z_byk bcL_law_2527 2527 19 _ bcL_law_2527_ok rfl)
theorem dL_law_2547 : decode cL_law 2547 = .ok (.iload_n 3, 1) := zo_29 (z_byk bcL_law_2527 2527 20 _ bcL_law_2527_ok rfl)
theorem dL_law_2548 : decode cL_law 2548 = .ok (.iconst 1, 1) := zo_4 (z_byk bcL_law_2527 2527 21 _ bcL_law_2527_ok rfl)
theorem dL_law_2549 : decode cL_law 2549 = .ok (.iadd, 1) := zo_96 (z_byk bcL_law_2527 2527 22 _ bcL_law_2527_ok rfl)
theorem dL_law_2550 : decode cL_law 2550 = .ok (.iaload, 1) := zo_46 (z_byk bcL_law_2527 2527 23 _ bcL_law_2527_ok rfl)
theorem dL_law_2551 : decode cL_law 2551 = .ok (.aload_n 0, 1) := zo_42 (z_byk bcL_law_2527 2527 24 _ bcL_law_2527_ok rfl)
theorem dL_law_2552 : decode cL_law 2552 = .ok (.iload_n 3, 1) := zo_29 (z_byk bcL_law_2527 2527 25 _ bcL_law_2527_ok rfl)
theorem dL_law_2553 : decode cL_law 2553 = .ok (.iconst 2, 1) := zo_5 (z_byk bcL_law_2527 2527 26 _ bcL_law_2527_ok rfl)
theorem dL_law_2554 : decode cL_law 2554 = .ok (.iadd, 1) := zo_96 (z_byk bcL_law_2527 2527 27 _ bcL_law_2527_ok rfl)
theorem dL_law_2555 : decode cL_law 2555 = .ok (.iaload, 1) := zo_46 (z_byk bcL_law_2527 2527 28 _ bcL_law_2527_ok rfl)
theorem dL_law_2556 : decode cL_law 2556 = .ok (.aload_n 0, 1) := zo_42 (z_byk bcL_law_2527 2527 29 _ bcL_law_2527_ok rfl)
theorem dL_law_2557 : decode cL_law 2557 = .ok (.iload_n 3, 1) := zo_29 (z_byk bcL_law_2527 2527 30 _ bcL_law_2527_ok rfl)
theorem dL_law_2558 : decode cL_law 2558 = .ok (.iconst 3, 1) := zo_6 (z_byk bcL_law_2527 2527 31 _ bcL_law_2527_ok rfl)
theorem dL_law_2559 : decode cL_law 2559 = .ok (.iadd, 1) := zo_96 (z_byk bcL_law_2527 2527 32 _ bcL_law_2527_ok rfl)
theorem dL_law_2560 : decode cL_law 2560 = .ok (.iaload, 1) := zo_46 (z_byk bcL_law_2527 2527 33 _ bcL_law_2527_ok rfl)
theorem dL_law_2561 : decode cL_law 2561 = .ok (.i2l, 1) := zo_133 (z_byk bcL_law_2527 2527 34 _ bcL_law_2527_ok rfl)
theorem dL_law_2562 : decode cL_law 2562 = .ok (.bipush 32, 2) := zo_16 (z_byk bcL_law_2527 2527 35 _ bcL_law_2527_ok rfl) (z_byk bcL_law_2527 2527 36 _ bcL_law_2527_ok rfl) rfl
theorem dL_law_2564 : decode cL_law 2564 = .ok (.lshl, 1) := zo_121 (z_byk bcL_law_2527 2527 37 _ bcL_law_2527_ok rfl)
theorem dL_law_2565 : decode cL_law 2565 = .ok (.aload_n 0, 1) := zo_42 (z_byk bcL_law_2527 2527 38 _ bcL_law_2527_ok rfl)
theorem dL_law_2566 : decode cL_law 2566 = .ok (.iload_n 3, 1) := zo_29 (z_byk bcL_law_2527 2527 39 _ bcL_law_2527_ok rfl)
theorem dL_law_2567 : decode cL_law 2567 = .ok (.iconst 4, 1) := zo_7 (z_byk bcL_law_2527 2527 40 _ bcL_law_2527_ok rfl)
theorem dL_law_2568 : decode cL_law 2568 = .ok (.iadd, 1) := zo_96 (z_byk bcL_law_2527 2527 41 _ bcL_law_2527_ok rfl)
theorem dL_law_2569 : decode cL_law 2569 = .ok (.iaload, 1) := zo_46 (z_byk bcL_law_2527 2527 42 _ bcL_law_2527_ok rfl)
theorem dL_law_2570 : decode cL_law 2570 = .ok (.i2l, 1) := zo_133 (z_byk bcL_law_2527 2527 43 _ bcL_law_2527_ok rfl)
theorem dL_law_2571 : decode cL_law 2571 = .ok (.ldc2_w 238, 3) := zo_20 (z_byk bcL_law_2527 2527 44 _ bcL_law_2527_ok rfl) (z_byk bcL_law_2527 2527 45 _ bcL_law_2527_ok rfl) (z_byk bcL_law_2527 2527 46 _ bcL_law_2527_ok rfl) rfl
theorem dL_law_2574 : decode cL_law 2574 = .ok (.land, 1) := zo_127 (z_byk bcL_law_2527 2527 47 _ bcL_law_2527_ok rfl)
theorem dL_law_2575 : decode cL_law 2575 = .ok (.lor, 1) := zo_129 (z_byk bcL_law_2527 2527 48 _ bcL_law_2527_ok rfl)
theorem dL_law_2576 : decode cL_law 2576 = .ok (.invokevirtual 244, 3) := zo_182 (z_byk bcL_law_2527 2527 49 _ bcL_law_2527_ok rfl) (z_byk bcL_law_2527 2527 50 _ bcL_law_2527_ok rfl) (z_byk bcL_law_2527 2527 51 _ bcL_law_2527_ok rfl) rfl
theorem dL_law_2579 : decode cL_law 2579 = .ok (.pop, 1) := zo_87 (z_byk bcL_law_2527 2527 52 _ bcL_law_2527_ok rfl)
theorem dL_law_2580 : decode cL_law 2580 = .ok (.goto 66, 3) := zo_167 (z_byk bcL_law_2527 2527 53 _ bcL_law_2527_ok rfl) (z_byk bcL_law_2527 2527 54 _ bcL_law_2527_ok rfl) (z_byk bcL_law_2527 2527 55 _ bcL_law_2527_ok rfl) rfl
theorem dL_law_2583 : decode cL_law 2583 = .ok (.aload_n 1, 1) := zo_43 (z_byk bcL_law_2527 2527 56 _ bcL_law_2527_ok rfl)
theorem dL_law_2584 : decode cL_law 2584 = .ok (.aload_n 0, 1) := zo_42 (z_byk bcL_law_2527 2527 57 _ bcL_law_2527_ok rfl)
theorem dL_law_2585 : decode cL_law 2585 = .ok (.iload_n 3, 1) := zo_29 (z_byk bcL_law_2527 2527 58 _ bcL_law_2527_ok rfl)
theorem dL_law_2586 : decode cL_law 2586 = .ok (.iconst 1, 1) := zo_4 (z_byk bcL_law_2527 2527 59 _ bcL_law_2527_ok rfl)
theorem dL_law_2587 : decode cL_law 2587 = .ok (.iadd, 1) := zo_96 (z_byk bcL_law_2587 2587 0 _ bcL_law_2587_ok rfl)
theorem dL_law_2588 : decode cL_law 2588 = .ok (.iaload, 1) := zo_46 (z_byk bcL_law_2587 2587 1 _ bcL_law_2587_ok rfl)
theorem dL_law_2589 : decode cL_law 2589 = .ok (.aload_n 0, 1) := zo_42 (z_byk bcL_law_2587 2587 2 _ bcL_law_2587_ok rfl)
theorem dL_law_2590 : decode cL_law 2590 = .ok (.iload_n 3, 1) := zo_29 (z_byk bcL_law_2587 2587 3 _ bcL_law_2587_ok rfl)
theorem dL_law_2591 : decode cL_law 2591 = .ok (.iconst 2, 1) := zo_5 (z_byk bcL_law_2587 2587 4 _ bcL_law_2587_ok rfl)
theorem dL_law_2592 : decode cL_law 2592 = .ok (.iadd, 1) := zo_96 (z_byk bcL_law_2587 2587 5 _ bcL_law_2587_ok rfl)
theorem dL_law_2593 : decode cL_law 2593 = .ok (.iaload, 1) := zo_46 (z_byk bcL_law_2587 2587 6 _ bcL_law_2587_ok rfl)
theorem dL_law_2594 : decode cL_law 2594 = .ok (.aload_n 0, 1) := zo_42 (z_byk bcL_law_2587 2587 7 _ bcL_law_2587_ok rfl)
theorem dL_law_2595 : decode cL_law 2595 = .ok (.iload_n 3, 1) := zo_29 (z_byk bcL_law_2587 2587 8 _ bcL_law_2587_ok rfl)
theorem dL_law_2596 : decode cL_law 2596 = .ok (.iconst 3, 1) := zo_6 (z_byk bcL_law_2587 2587 9 _ bcL_law_2587_ok rfl)
theorem dL_law_2597 : decode cL_law 2597 = .ok (.iadd, 1) := zo_96 (z_byk bcL_law_2587 2587 10 _ bcL_law_2587_ok rfl)
theorem dL_law_2598 : decode cL_law 2598 = .ok (.iaload, 1) := zo_46 (z_byk bcL_law_2587 2587 11 _ bcL_law_2587_ok rfl)
theorem dL_law_2599 : decode cL_law 2599 = .ok (.aload_n 0, 1) := zo_42 (z_byk bcL_law_2587 2587 12 _ bcL_law_2587_ok rfl)
theorem dL_law_2600 : decode cL_law 2600 = .ok (.iload_n 3, 1) := zo_29 (z_byk bcL_law_2587 2587 13 _ bcL_law_2587_ok rfl)
theorem dL_law_2601 : decode cL_law 2601 = .ok (.iconst 4, 1) := zo_7 (z_byk bcL_law_2587 2587 14 _ bcL_law_2587_ok rfl)
theorem dL_law_2602 : decode cL_law 2602 = .ok (.iadd, 1) := zo_96 (z_byk bcL_law_2587 2587 15 _ bcL_law_2587_ok rfl)
theorem dL_law_2603 : decode cL_law 2603 = .ok (.iaload, 1) := zo_46 (z_byk bcL_law_2587 2587 16 _ bcL_law_2587_ok rfl)
theorem dL_law_2604 : decode cL_law 2604 = .ok (.aload_n 0, 1) := zo_42 (z_byk bcL_law_2587 2587 17 _ bcL_law_2587_ok rfl)
theorem dL_law_2605 : decode cL_law 2605 = .ok (.iload_n 3, 1) := zo_29 (z_byk bcL_law_2587 2587 18 _ bcL_law_2587_ok rfl)
theorem dL_law_2606 : decode cL_law 2606 = .ok (.iconst 5, 1) := zo_8 (z_byk bcL_law_2587 2587 19 _ bcL_law_2587_ok rfl)
theorem dL_law_2607 : decode cL_law 2607 = .ok (.iadd, 1) := zo_96 (z_byk bcL_law_2587 2587 20 _ bcL_law_2587_ok rfl)
theorem dL_law_2608 : decode cL_law 2608 = .ok (.iaload, 1) := zo_46 (z_byk bcL_law_2587 2587 21 _ bcL_law_2587_ok rfl)
theorem dL_law_2609 : decode cL_law 2609 = .ok (.invokevirtual 245, 3) := zo_182 (z_byk bcL_law_2587 2587 22 _ bcL_law_2587_ok rfl) (z_byk bcL_law_2587 2587 23 _ bcL_law_2587_ok rfl) (z_byk bcL_law_2587 2587 24 _ bcL_law_2587_ok rfl) rfl
theorem dL_law_2612 : decode cL_law 2612 = .ok (.aload_n 2, 1) := zo_44 (z_byk bcL_law_2587 2587 25 _ bcL_law_2587_ok rfl)
theorem dL_law_2613 : decode cL_law 2613 = .ok (.aload_n 0, 1) := zo_42 (z_byk bcL_law_2587 2587 26 _ bcL_law_2587_ok rfl)
theorem dL_law_2614 : decode cL_law 2614 = .ok (.iload_n 3, 1) := zo_29 (z_byk bcL_law_2587 2587 27 _ bcL_law_2587_ok rfl)
theorem dL_law_2615 : decode cL_law 2615 = .ok (.iconst 1, 1) := zo_4 (z_byk bcL_law_2587 2587 28 _ bcL_law_2587_ok rfl)
theorem dL_law_2616 : decode cL_law 2616 = .ok (.iadd, 1) := zo_96 (z_byk bcL_law_2587 2587 29 _ bcL_law_2587_ok rfl)
theorem dL_law_2617 : decode cL_law 2617 = .ok (.iaload, 1) := zo_46 (z_byk bcL_law_2587 2587 30 _ bcL_law_2587_ok rfl)
theorem dL_law_2618 : decode cL_law 2618 = .ok (.aload_n 0, 1) := zo_42 (z_byk bcL_law_2587 2587 31 _ bcL_law_2587_ok rfl)
theorem dL_law_2619 : decode cL_law 2619 = .ok (.iload_n 3, 1) := zo_29 (z_byk bcL_law_2587 2587 32 _ bcL_law_2587_ok rfl)
theorem dL_law_2620 : decode cL_law 2620 = .ok (.iconst 2, 1) := zo_5 (z_byk bcL_law_2587 2587 33 _ bcL_law_2587_ok rfl)
theorem dL_law_2621 : decode cL_law 2621 = .ok (.iadd, 1) := zo_96 (z_byk bcL_law_2587 2587 34 _ bcL_law_2587_ok rfl)
theorem dL_law_2622 : decode cL_law 2622 = .ok (.iaload, 1) := zo_46 (z_byk bcL_law_2587 2587 35 _ bcL_law_2587_ok rfl)
theorem dL_law_2623 : decode cL_law 2623 = .ok (.aload_n 0, 1) := zo_42 (z_byk bcL_law_2587 2587 36 _ bcL_law_2587_ok rfl)
theorem dL_law_2624 : decode cL_law 2624 = .ok (.iload_n 3, 1) := zo_29 (z_byk bcL_law_2587 2587 37 _ bcL_law_2587_ok rfl)
theorem dL_law_2625 : decode cL_law 2625 = .ok (.iconst 3, 1) := zo_6 (z_byk bcL_law_2587 2587 38 _ bcL_law_2587_ok rfl)
theorem dL_law_2626 : decode cL_law 2626 = .ok (.iadd, 1) := zo_96 (z_byk bcL_law_2587 2587 39 _ bcL_law_2587_ok rfl)
theorem dL_law_2627 : decode cL_law 2627 = .ok (.iaload, 1) := zo_46 (z_byk bcL_law_2587 2587 40 _ bcL_law_2587_ok rfl)
theorem dL_law_2628 : decode cL_law 2628 = .ok (.aload_n 0, 1) := zo_42 (z_byk bcL_law_2587 2587 41 _ bcL_law_2587_ok rfl)
theorem dL_law_2629 : decode cL_law 2629 = .ok (.iload_n 3, 1) := zo_29 (z_byk bcL_law_2587 2587 42 _ bcL_law_2587_ok rfl)
theorem dL_law_2630 : decode cL_law 2630 = .ok (.iconst 4, 1) := zo_7 (z_byk bcL_law_2587 2587 43 _ bcL_law_2587_ok rfl)
theorem dL_law_2631 : decode cL_law 2631 = .ok (.iadd, 1) := zo_96 (z_byk bcL_law_2587 2587 44 _ bcL_law_2587_ok rfl)
theorem dL_law_2632 : decode cL_law 2632 = .ok (.iaload, 1) := zo_46 (z_byk bcL_law_2587 2587 45 _ bcL_law_2587_ok rfl)
theorem dL_law_2633 : decode cL_law 2633 = .ok (.aload_n 0, 1) := zo_42 (z_byk bcL_law_2587 2587 46 _ bcL_law_2587_ok rfl)
theorem dL_law_2634 : decode cL_law 2634 = .ok (.iload_n 3, 1) := zo_29 (z_byk bcL_law_2587 2587 47 _ bcL_law_2587_ok rfl)
theorem dL_law_2635 : decode cL_law 2635 = .ok (.iconst 5, 1) := zo_8 (z_byk bcL_law_2587 2587 48 _ bcL_law_2587_ok rfl)
theorem dL_law_2636 : decode cL_law 2636 = .ok (.iadd, 1) := zo_96 (z_byk bcL_law_2587 2587 49 _ bcL_law_2587_ok rfl)
theorem dL_law_2637 : decode cL_law 2637 = .ok (.iaload, 1) := zo_46 (z_byk bcL_law_2587 2587 50 _ bcL_law_2587_ok rfl)
theorem dL_law_2638 : decode cL_law 2638 = .ok (.invokevirtual 248, 3) := zo_182 (z_byk bcL_law_2587 2587 51 _ bcL_law_2587_ok rfl) (z_byk bcL_law_2587 2587 52 _ bcL_law_2587_ok rfl) (z_byk bcL_law_2587 2587 53 _ bcL_law_2587_ok rfl) rfl
theorem dL_law_2641 : decode cL_law 2641 = .ok (.if_icmp .eq 5, 3) := zo_159 (z_byk bcL_law_2587 2587 54 _ bcL_law_2587_ok rfl) (z_byk bcL_law_2587 2587 55 _ bcL_law_2587_ok rfl) (z_byk bcL_law_2587 2587 56 _ bcL_law_2587_ok rfl) rfl
set_option maxHeartbeats 8000000 in
set_option maxRecDepth 100000 in
theorem law_row {p : Program} {e : Env} {s : State} {m : MethodId} {below : List Frame} {meth : Method} {c : Code} {l : Launch} {b L : Nat} {xs : Nat → Int32} (C0 : lw_At p s m meth c b L xs) {sa : Nat → Nat} {dC : Nat → ClassId} {dI : Nat → Nat → Nat} {A : Nat → Prop} (hA : ∀ q, s.heap.size ≤ q → A q) (hA2 : ∀ q, A q → s.heap.size ≤ q) (hN : zN s) (hXs : zX sa A s s.heap) {ad : Nat → Nat} {cA : Nat → ClassId} {iv : Nat → Int32} {lw : Nat → Int64} {fi : Nat → Nat → Int32} {fl : Nat → Nat → Int64} {fo : Nat → Nat → Option Nat} {H : Heap} {locs : List Loc} {ls : Array Slot} {i0 : Int32} {cells slots : Nat} (hcs : cells + 11 ≤ 600000 ∧ slots + 690 ≤ 7302250) (hi : 0 ≤ i0.toInt ∧ i0.toInt + 6 ≤ (L : Int) ∧ L ≤ 3072) (hF : zFacts ad cA iv lw fi fl fo) (hP : va_P (dC, dI) vwCl (zFull ad cA iv lw fi fl fo) H) (hD : va_D A (zFull ad cA iv lw fi fl fo)) (hK : va_K (dC, dI) vwCl (zTys cA) s) (hS : va_S A s.heap H locs) (hl : lv_has ls 4 [(3, .int i0), (2, .ref (ad 1)), (1, .ref (ad 0)), (0, .ref b)]) (hk : ∀ (ad : Nat → Nat) (cA : Nat → ClassId) (iv : Nat → Int32) (lw : Nat → Int64) (fi : Nat → Nat → Int32) (fl : Nat → Nat → Int64) (fo : Nat → Nat → Option Nat) (H : Heap) (locs : List Loc) (ls : Array Slot), (zFacts ad cA iv lw fi fl fo) → va_P (dC, dI) vwCl (zFull ad cA iv lw fi fl fo) H → va_D A (zFull ad cA iv lw fi fl fo) → va_K (dC, dI) vwCl (zTys cA) s → va_S A s.heap H locs → lv_has ls 4 [(3, .int i0), (2, .ref (ad 1)), (1, .ref (ad 0)), (0, .ref b)] → W p l e room_1 s m #[Value.ref b] below meth c H locs cells slots (lw_Z below #[Value.ref b] s) (F0 m 2646 ls [])) : W p l e room_1 s m #[Value.ref b] below meth c H locs cells slots (lw_Z below #[Value.ref b] s) (F0 m 2467 ls []) := by
  obtain ⟨hx, hb, hr, hml, hown, hts, hX, hbl, hlocks, hgv⟩ := id C0
  have hown : s.vm.findClass RL = some m.cls := hown
  have hb : c.code = cL_law := hb
  have hts : ∀ w ∈ zT, w.before #[Value.ref b] s = true := fun w h => hts w (zT_in w h)
  have hbA : ¬ A b := fun q => absurd (hA2 b q) (Nat.not_le.mpr hbl)
  refine zFe hF (fun b_h0_tapeLength b_m0_taped b_m0_at b_m0_token b_m0_value b_m0_bad b_m0_strays b_m0_hostCourt b_m0_dayCourt b_m0_dayHour b_f_m0_width b_f_m0_many b_f_m0_hours b_f_m0_courts b_f_m0_in b_f_m0_gates b_f_m0_gate b_f_m0_people b_f_m0_at0 b_f_m0_stray b_f_m0_set b_f_m0_known b_f_m0_isKept b_f_m0_digit him0 him1 him2 hsl0 hsl1 hsl2 hsl3 b_rd_tokens b_rd_at b_rd_strayCount b_rd_lawTold b_rd_falseTold b_f_rd_kinds b_f_rd_starts b_f_rd_stops b_f_rd_values b_wk_firstGate b_wk_firstHour b_f_wk_costs b_f_wk_lower b_ch_lastHour b_ch_unsureCount b_f_ch_unsure b_f_ch_seats b_f_ch_worth b_f_ch_digits b_dy_court b_dy_hour b_nw_isKept b_nw_names b_i0_isKept b_i0_names b_i1_isKept b_i1_names b_i2_isKept b_i2_names b_r0_size b_r1_size b_r2_size b_r3_size b_g0_hours b_g0_courts b_g0_gateCount b_g0_people b_g0_falseHours b_g0_deep b_f_g0_degrees b_f_g0_neighbours b_f_g0_oneEnd b_f_g0_otherEnd b_f_g0_told b_f_g0_strayParts b_f_g0_strayCourts b_g1_hours b_g1_courts b_g1_gateCount b_g1_people b_g1_falseHours b_g1_deep b_f_g1_degrees b_f_g1_neighbours b_f_g1_oneEnd b_f_g1_otherEnd b_f_g1_told b_f_g1_strayParts b_f_g1_strayCourts b_g2_hours b_g2_courts b_g2_gateCount b_g2_people b_g2_falseHours b_g2_deep b_f_g2_degrees b_f_g2_neighbours b_f_g2_oneEnd b_f_g2_otherEnd b_f_g2_told b_f_g2_strayParts b_f_g2_strayCourts b_g3_hours b_g3_courts b_g3_gateCount b_g3_people b_g3_falseHours b_g3_deep b_f_g3_degrees b_f_g3_neighbours b_f_g3_oneEnd b_f_g3_otherEnd b_f_g3_told b_f_g3_strayParts b_f_g3_strayCourts tw0 tw1 tw2 tw3 hmd hit0 hit1 hit2 rtl rkp0 rkp1 rkp2 rwd0 rwd1 rwd2 rwd3 rsz0 rsz1 rsz2 rsz3 => ?_)
  have hic := hmd.ic
  have hih := hmd.ih
  have hc4 := hmd.c4
  obtain ⟨wx, hwx⟩ : ∃ w : va_W, w = [((ad 5), .inl ((cA 5), 60, .inr (.inl (fl 5)))), ((ad 6), .inl ((cA 6), 1600, .inl (fi 6))), ((ad 7), .inl ((cA 7), 5, .inl (fi 7))), ((ad 8), .inl ((cA 8), 5, .inl (fi 8))), ((ad 9), .inl ((cA 9), 5, .inl (fi 9))), ((ad 10), .inl ((cA 10), 50, .inl (fi 10))), ((ad 11), .inl ((cA 11), 5, .inl (fi 11))), ((ad 12), .inl ((cA 12), 160, .inl (fi 12))), ((ad 13), .inl ((cA 13), 5, .inl (fi 13))), ((ad 14), .inl ((cA 14), 2400, .inl (fi 14))), ((ad 15), .inl ((cA 15), 100, .inl (fi 15))), ((ad 16), .inl ((cA 16), 10, .inl (fi 16))), ((ad 17), .inl ((cA 17), 10, .inl (fi 17))), ((ad 18), .inl ((cA 18), 10, .inl (fi 18))), ((ad 19), .inl ((cA 19), 50, .inl (fi 19))), ((ad 20), .inl ((cA 20), 3, .inl (fi 20))), ((ad 21), .inl ((cA 21), 480, .inl (fi 21))), ((ad 22), .inl ((cA 22), 49, .inl (fi 22))), ((ad 23), .inl ((cA 23), 490, .inl (fi 23))), ((ad 24), .inl ((cA 24), 10, .inr (.inl (fl 24)))), ((ad 25), .inl ((cA 25), 10, .inr (.inl (fl 25)))), ((ad 26), .inl ((cA 26), 100, .inl (fi 26))), ((ad 27), .inl ((cA 27), 100, .inl (fi 27))), ((ad 28), .inl ((cA 28), 1000, .inl (fi 28))), ((ad 29), .inl ((cA 29), 1000, .inl (fi 29))), ((ad 30), .inl ((cA 30), 39690, .inr (.inl (fl 30)))), ((ad 31), .inl ((cA 31), 10, .inl (fi 31))), ((ad 32), .inl ((cA 32), 1600, .inl (fi 32))), ((ad 33), .inl ((cA 33), 3, .inr (.inr (.inr (.inr (fo 33)))))), ((ad 35), .inr (5, [.int (iv 23), .int (iv 24), .ref (ad 121), .ref (ad 36), .ref (ad 37), .ref (ad 38), .ref (ad 39), .int (iv 25), .int (iv 26), .ref (ad 122), .int (iv 27), .int (iv 28), .int (iv 29)])), ((ad 36), .inl ((cA 36), 1601, .inl (fi 36))), ((ad 37), .inl ((cA 37), 1601, .inl (fi 37))), ((ad 38), .inl ((cA 38), 1601, .inl (fi 38))), ((ad 39), .inl ((cA 39), 1601, .inl (fi 39))), ((ad 40), .inr (8, [.int (iv 30), .int (iv 31), .int (iv 32), .ref (ad 123), .ref (ad 41), .ref (ad 42), .ref (ad 43), .ref (ad 44), .ref (ad 45), .ref (ad 46), .ref (ad 47)])), ((ad 41), .inl ((cA 41), 48, .inl (fi 41))), ((ad 42), .inl ((cA 42), 48, .inl (fi 42))), ((ad 43), .inl ((cA 43), 10, .inl (fi 43))), ((ad 44), .inl ((cA 44), 10, .inl (fi 44))), ((ad 45), .inl ((cA 45), 10, .inl (fi 45))), ((ad 46), .inl ((cA 46), 10, .inr (.inl (fl 46)))), ((ad 47), .inl ((cA 47), 10, .inr (.inl (fl 47)))), ((ad 48), .inr (2, [.ref (ad 124), .int (iv 33), .ref (ad 49), .ref (ad 50)])), ((ad 49), .inl ((cA 49), 160, .inr (.inl (fl 49)))), ((ad 50), .inl ((cA 50), 160, .inr (.inl (fl 50)))), ((ad 51), .inr (4, [.ref (ad 52), .ref (ad 53), .ref (ad 54), .ref (ad 55), .ref (ad 56)])), ((ad 52), .inl ((cA 52), 10, .inl (fi 52))), ((ad 53), .inl ((cA 53), 10, .inl (fi 53))), ((ad 54), .inl ((cA 54), 100, .inl (fi 54))), ((ad 55), .inl ((cA 55), 100, .inl (fi 55))), ((ad 56), .inl ((cA 56), 100, .inl (fi 56))), ((ad 57), .inr (0, [.ref (ad 125), .int (iv 34), .int (iv 35), .int (iv 36), .int (iv 37), .ref (ad 58), .ref (ad 59), .int (iv 38), .int (iv 39), .ref (ad 60), .int (iv 40), .ref (ad 61), .ref (ad 62), .ref (ad 63), .int (iv 41), .int (iv 42), .int (iv 43)])), ((ad 58), .inl ((cA 58), 4, .inl (fi 58))), ((ad 59), .inl ((cA 59), 10, .inl (fi 59))), ((ad 60), .inl ((cA 60), 38880, .inl (fi 60))), ((ad 61), .inl ((cA 61), 4, .inl (fi 61))), ((ad 62), .inl ((cA 62), 4, .inl (fi 62))), ((ad 63), .inl ((cA 63), 4, .inl (fi 63))), ((ad 64), .inr (1, [.int (iv 44), .int (iv 45), .int (iv 46), .int (iv 47)])), ((ad 65), .inr (3, [.int (iv 48), .ref (ad 77), .int (iv 49), .int (iv 50), .int (iv 51), .int (iv 52)])), ((ad 66), .inr (3, [.int (iv 53), .ref (ad 126), .int (iv 54), .int (iv 55), .int (iv 56), .int (iv 57)])), ((ad 67), .inr (3, [.int (iv 58), .ref (ad 127), .int (iv 59), .int (iv 60), .int (iv 61), .int (iv 62)])), ((ad 68), .inr (3, [.int (iv 63), .ref (ad 128), .int (iv 64), .int (iv 65), .int (iv 66), .int (iv 67)])), ((ad 77), .inr (7, [.int (iv 76), .int (iv 77), .int (iv 78), .int (iv 79), .int (iv 80), .int (iv 81), .int (iv 82), .int (iv 83), .ref (ad 78), .ref (ad 79), .ref (ad 80), .ref (ad 81), .ref (ad 82), .ref (ad 83), .ref (ad 84), .ref (ad 85), .ref (ad 86), .ref (ad 87)])), ((ad 78), .inl ((cA 78), 10, .inl (fi 78))), ((ad 79), .inl ((cA 79), 10, .inl (fi 79))), ((ad 80), .inl ((cA 80), 10, .inl (fi 80))), ((ad 81), .inl ((cA 81), 100, .inl (fi 81))), ((ad 82), .inl ((cA 82), 10, .inl (fi 82))), ((ad 83), .inl ((cA 83), 16, .inl (fi 83))), ((ad 84), .inl ((cA 84), 16, .inl (fi 84))), ((ad 85), .inl ((cA 85), 480, .inl (fi 85))), ((ad 86), .inl ((cA 86), 10, .inl (fi 86))), ((ad 87), .inl ((cA 87), 10, .inl (fi 87))), ((ad 88), .inr (7, [.int (iv 84), .int (iv 85), .int (iv 86), .int (iv 87), .int (iv 88), .int (iv 89), .int (iv 90), .int (iv 91), .ref (ad 89), .ref (ad 90), .ref (ad 91), .ref (ad 92), .ref (ad 93), .ref (ad 94), .ref (ad 95), .ref (ad 96), .ref (ad 97), .ref (ad 98)])), ((ad 89), .inl ((cA 89), 10, .inl (fi 89))), ((ad 90), .inl ((cA 90), 10, .inl (fi 90))), ((ad 91), .inl ((cA 91), 10, .inl (fi 91))), ((ad 92), .inl ((cA 92), 100, .inl (fi 92))), ((ad 93), .inl ((cA 93), 10, .inl (fi 93))), ((ad 94), .inl ((cA 94), 16, .inl (fi 94))), ((ad 95), .inl ((cA 95), 16, .inl (fi 95))), ((ad 96), .inl ((cA 96), 480, .inl (fi 96))), ((ad 97), .inl ((cA 97), 10, .inl (fi 97))), ((ad 98), .inl ((cA 98), 10, .inl (fi 98))), ((ad 99), .inr (7, [.int (iv 92), .int (iv 93), .int (iv 94), .int (iv 95), .int (iv 96), .int (iv 97), .int (iv 98), .int (iv 99), .ref (ad 100), .ref (ad 101), .ref (ad 102), .ref (ad 103), .ref (ad 104), .ref (ad 105), .ref (ad 106), .ref (ad 107), .ref (ad 108), .ref (ad 109)])), ((ad 100), .inl ((cA 100), 10, .inl (fi 100))), ((ad 101), .inl ((cA 101), 10, .inl (fi 101))), ((ad 102), .inl ((cA 102), 10, .inl (fi 102))), ((ad 103), .inl ((cA 103), 100, .inl (fi 103))), ((ad 104), .inl ((cA 104), 10, .inl (fi 104))), ((ad 105), .inl ((cA 105), 16, .inl (fi 105))), ((ad 106), .inl ((cA 106), 16, .inl (fi 106))), ((ad 107), .inl ((cA 107), 480, .inl (fi 107))), ((ad 108), .inl ((cA 108), 10, .inl (fi 108))), ((ad 109), .inl ((cA 109), 10, .inl (fi 109))), ((ad 110), .inr (7, [.int (iv 100), .int (iv 101), .int (iv 102), .int (iv 103), .int (iv 104), .int (iv 105), .int (iv 106), .int (iv 107), .ref (ad 111), .ref (ad 112), .ref (ad 113), .ref (ad 114), .ref (ad 115), .ref (ad 116), .ref (ad 117), .ref (ad 118), .ref (ad 119), .ref (ad 120)])), ((ad 111), .inl ((cA 111), 10, .inl (fi 111))), ((ad 112), .inl ((cA 112), 10, .inl (fi 112))), ((ad 113), .inl ((cA 113), 10, .inl (fi 113))), ((ad 114), .inl ((cA 114), 100, .inl (fi 114))), ((ad 115), .inl ((cA 115), 10, .inl (fi 115))), ((ad 116), .inl ((cA 116), 16, .inl (fi 116))), ((ad 117), .inl ((cA 117), 16, .inl (fi 117))), ((ad 118), .inl ((cA 118), 480, .inl (fi 118))), ((ad 119), .inl ((cA 119), 10, .inl (fi 119))), ((ad 120), .inl ((cA 120), 10, .inl (fi 120)))] := ⟨_, rfl⟩
  obtain ⟨hP, hD⟩ := z_both (wn := wx ++ (zV683 (ad 0) (ad 32) (iv 0) (iv 1) (iv 2) (ad 65) (ad 33) (ad 34) (ad 35) (ad 40) (ad 48) (ad 51) (ad 57) (ad 64) (ad 1) (iv 3) (ad 2) (ad 3) (ad 4) (ad 5) (ad 6) (iv 4) (iv 5) (iv 6) (iv 7) (iv 8) (lw 0) (iv 9) (iv 10) (iv 11) (iv 12) (ad 7) (ad 8) (ad 9) (ad 10) (ad 11) (ad 12) (ad 13) (ad 14) (ad 15) (ad 16) (ad 17) (ad 18) (ad 19) (ad 20) (iv 13) (iv 14) (iv 15) (iv 16) (ad 21) (ad 22) (ad 23) (ad 24) (ad 25) (ad 26) (ad 27) (ad 28) (ad 29) (iv 17) (ad 30) (ad 31) (iv 18) (lw 1) (iv 19) (iv 20) (iv 21) (iv 22) (lw 2) (ad 2) (cA 2) (fi 2) (ad 3) (cA 3) (fi 3) (ad 4) (cA 4) (fl 4) (ad 34) (cA 34) (fo 34) (ad 69) (iv 68) (iv 69) (ad 70) (ad 70) (cA 70) (fl 70) (ad 71) (iv 70) (iv 71) (ad 72) (ad 72) (cA 72) (fl 72) (ad 73) (iv 72) (iv 73) (ad 74) (ad 74) (cA 74) (fl 74) (ad 75) (iv 74) (iv 75) (ad 76) (ad 76) (cA 76) (fl 76))) hP hD [5, 6, 7, 8, 9, 10, 11, 12, 13, 14, 15, 16, 17, 18, 19, 20, 21, 22, 23, 24, 25, 26, 27, 28, 29, 30, 31, 32, 33, 35, 36, 37, 38, 39, 40, 41, 42, 43, 44, 45, 46, 47, 48, 49, 50, 51, 52, 53, 54, 55, 56, 57, 58, 59, 60, 61, 62, 63, 64, 65, 66, 67, 68, 77, 78, 79, 80, 81, 82, 83, 84, 85, 86, 87, 88, 89, 90, 91, 92, 93, 94, 95, 96, 97, 98, 99, 100, 101, 102, 103, 104, 105, 106, 107, 108, 109, 110, 111, 112, 113, 114, 115, 116, 117, 118, 119, 120, 0, 1, 2, 3, 4, 34, 69, 70, 71, 72, 73, 74, 75, 76] (by decide +kernel) (by rw [hwx]; rfl)
  have hKz := hK
  have hK : va_K (dC, dI) vwCl [((cA 2), .int), ((cA 3), .int), ((cA 4), .long), ((cA 34), .object RX6), ((cA 70), .long), ((cA 72), .long), ((cA 74), .long), ((cA 76), .long)] s := hK.sub [0, 1, 2, 32, 57, 58, 59, 60] rfl
  refine lv_aload_n hx hb dL_law_2467 rfl (lv_at hl 2 rfl) ?_
  refine lv_aload_n hx hb dL_law_2468 rfl (lv_at hl 3 rfl) ?_
  refine lv_iload_n hx hb dL_law_2469 rfl (lv_at hl 0 rfl) ?_
  refine lv_iconst (v := 1) hx hb dL_law_2470 (by decide) ?_
  refine lv_iadd hx hb dL_law_2471 ?_
  refine lv_topi (fun x_1 ex_1 => ?_)
  have b_x_1 : x_1.toInt = i0.toInt + 1 := zs_add ex_1 hi (show Int32.toInt 1 = 1 from by decide) (by decide)
  refine va_sld hx hb hX hbl hbA hS (zs_in b_x_1 hi (by decide)) dL_law_2472 ?_
  refine lv_topi (fun x_2 ex_2 => ?_)
  refine lv_aload_n hx hb dL_law_2473 rfl (lv_at hl 3 rfl) ?_
  refine lv_iload_n hx hb dL_law_2474 rfl (lv_at hl 0 rfl) ?_
  refine lv_iconst (v := 2) hx hb dL_law_2475 (by decide) ?_
  refine lv_iadd hx hb dL_law_2476 ?_
  refine lv_topi (fun x_3 ex_3 => ?_)
  have b_x_3 : x_3.toInt = i0.toInt + 2 := zs_add ex_3 hi (show Int32.toInt 2 = 2 from by decide) (by decide)
  refine va_sld hx hb hX hbl hbA hS (zs_in b_x_3 hi (by decide)) dL_law_2477 ?_
  refine lv_topi (fun x_4 ex_4 => ?_)
  refine lv_aload_n hx hb dL_law_2478 rfl (lv_at hl 3 rfl) ?_
  refine lv_iload_n hx hb dL_law_2479 rfl (lv_at hl 0 rfl) ?_
  refine lv_iconst (v := 3) hx hb dL_law_2480 (by decide) ?_
  refine lv_iadd hx hb dL_law_2481 ?_
  refine lv_topi (fun x_5 ex_5 => ?_)
  have b_x_5 : x_5.toInt = i0.toInt + 3 := zs_add ex_5 hi (show Int32.toInt 3 = 3 from by decide) (by decide)
  refine va_sld hx hb hX hbl hbA hS (zs_in b_x_5 hi (by decide)) dL_law_2482 ?_
  refine lv_topi (fun x_6 ex_6 => ?_)
  obtain ⟨hPc, hDc, hFc⟩ := z_cut (wc := (zV166 (ad 0) (ad 32) (iv 0) (iv 1) (iv 2) (ad 65) (ad 33) (ad 34) (ad 35) (ad 40) (ad 48) (ad 51) (ad 57) (ad 64) (ad 34) (cA 34) (fo 34) (ad 69) (iv 68) (iv 69) (ad 70) (ad 70) (cA 70) (fl 70) (ad 71) (iv 70) (iv 71) (ad 72) (ad 72) (cA 72) (fl 72) (ad 73) (iv 72) (iv 73) (ad 74) (ad 74) (cA 74) (fl 74) (ad 75) (iv 74) (iv 75) (ad 76) (ad 76) (cA 76) (fl 76))) (z_pr hP) (z_dr hD) hS hA [0, 5, 6, 7, 8, 9, 10, 11, 12, 13] rfl (by decide +kernel)
  have hKc := hK.sub (tys' := [((cA 34), .object RX6), ((cA 70), .long), ((cA 72), .long), ((cA 74), .long), ((cA 76), .long)]) [3, 4, 5, 6, 7] rfl
  refine va_calli (va_runV (As := [.int x_2, .int x_4, .int x_6]) (rest := []) ⟨hx, hb, hml, hown, hts⟩ (k_X9_row_v2 l sa dC dI (ad 0) x_2 x_4 x_6 (ad 32) (iv 0) (iv 1) (iv 2) (ad 65) (ad 33) (ad 34) (ad 35) (ad 40) (ad 48) (ad 51) (ad 57) (ad 64) (cA 34) (fo 34) (ad 69) (ad 71) (ad 73) (ad 75) (iv 68) (iv 69) (ad 70) (cA 70) (fl 70) (iv 70) (iv 71) (ad 72) (cA 72) (fl 72) (iv 72) (iv 73) (ad 74) (cA 74) (fl 74) (iv 74) (iv 75) (ad 76) (cA 76) (fl 76) b_h0_tapeLength hsl0 hsl1 hsl2 hsl3 b_r0_size b_r1_size b_r2_size b_r3_size H.size) (cwV 3 hts (z_gV zw_t6_67 zw_t6_68 zw_t6_69 zw_t1_1 zw_t6_70) rfl rfl rfl (by decide +kernel) ⟨(Nat.le_of_ble_eq_true rfl), (Nat.le_of_ble_eq_true rfl)⟩) (z_preV hPc hKc hDc hN hXs hS hFc (q := (RX9, TX9, 13)) (ci := 9) (q0 := 0) rfl rfl) rfl rfl hl.1 rfl (lv_room (Nat.le_of_ble_eq_true rfl)) dL_law_2483 ⟨(show cells + 0 + 0 ≤ 600000 by omega), (show slots + 0 + 0 ≤ 7302250 by omega)⟩) hS (fun q _ h => hFc q h) hFc (fun r_7 u t H1 locs ht hvm hw hB hz1 hk1 hS => ?_)
  obtain ⟨hu, hw⟩ := hw
  rw [hu] at hB
  obtain ⟨n_r0_8, n_r0_9, n_r0_numbers_10, n_r1_11, n_r1_12, n_r1_numbers_13, n_r2_14, n_r2_15, n_r2_numbers_16, n_r3_17, n_r3_18, n_r3_numbers_19, b_n_r0_9, b_n_r1_12, b_n_r2_15, b_n_r3_18, hf_20, hf_21, hf_22, hf_23, hB⟩ := hB
  obtain ⟨hP, hD, hK⟩ := z_after2X (wn := (zV684 (ad 1) (iv 3) (ad 2) (ad 3) (ad 4) (ad 5) (ad 6) (iv 4) (iv 5) (iv 6) (iv 7) (iv 8) (lw 0) (iv 9) (iv 10) (iv 11) (iv 12) (ad 7) (ad 8) (ad 9) (ad 10) (ad 11) (ad 12) (ad 13) (ad 14) (ad 15) (ad 16) (ad 17) (ad 18) (ad 19) (ad 20) (iv 13) (iv 14) (iv 15) (iv 16) (ad 21) (ad 22) (ad 23) (ad 24) (ad 25) (ad 26) (ad 27) (ad 28) (ad 29) (iv 17) (ad 30) (ad 31) (iv 18) (lw 1) (iv 19) (iv 20) (iv 21) (iv 22) (lw 2) (ad 2) (cA 2) (fi 2) (ad 3) (cA 3) (fi 3) (ad 4) (cA 4) (fl 4) (ad 0) (ad 32) (iv 0) (iv 1) (iv 2) (ad 65) (ad 33) (ad 34) (ad 35) (ad 40) (ad 48) (ad 51) (ad 57) (ad 64) (ad 34) (cA 34) (fo 34) (ad 69) n_r0_8 n_r0_9 (ad 70) (ad 70) (cA 70) n_r0_numbers_10 (ad 71) n_r1_11 n_r1_12 (ad 72) (ad 72) (cA 72) n_r1_numbers_13 (ad 73) n_r2_14 n_r2_15 (ad 74) (ad 74) (cA 74) n_r2_numbers_16 (ad 75) n_r3_17 n_r3_18 (ad 76) (ad 76) (cA 76) n_r3_numbers_19)) hB ht hvm hP hD hK [0, 5, 6, 7, 8, 9, 10, 11, 12, 13] [1, 2, 3, 4] rfl 14 rfl (by decide +kernel) rfl (by decide +kernel) hk1 hFc
  generalize H1 = H at hP hS ⊢
  have hK : va_K (dC, dI) vwCl [((cA 2), .int), ((cA 3), .int), ((cA 4), .long), ((cA 34), .object RX6), ((cA 70), .long), ((cA 72), .long), ((cA 74), .long), ((cA 76), .long)] s := hK
  have b_r_7 : (-3) ≤ r_7.toInt ∧ r_7.toInt ≤ 0 := hw.1
  have s_r_7 := hw.2
  refine lv_pop hx hb dL_law_2486 rfl ?_
  refine lv_aload_n hx hb dL_law_2487 rfl (lv_at hl 1 rfl) ?_
  refine lv_aload_n hx hb dL_law_2488 rfl (lv_at hl 3 rfl) ?_
  refine lv_iload_n hx hb dL_law_2489 rfl (lv_at hl 0 rfl) ?_
  refine lv_iconst (v := 1) hx hb dL_law_2490 (by decide) ?_
  refine lv_iadd hx hb dL_law_2491 ?_
  refine lv_topi (fun x_24 ex_24 => ?_)
  have b_x_24 : x_24.toInt = i0.toInt + 1 := zs_add ex_24 hi (show Int32.toInt 1 = 1 from by decide) (by decide)
  refine va_sld hx hb hX hbl hbA hS (zs_in b_x_24 hi (by decide)) dL_law_2492 ?_
  refine lv_topi (fun x_25 ex_25 => ?_)
  obtain rfl : x_1 = x_24 := zs_eq b_x_1 b_x_24
  obtain rfl : x_2 = x_25 := ex_2.trans ex_25.symm
  refine lv_aload_n hx hb dL_law_2493 rfl (lv_at hl 3 rfl) ?_
  refine lv_iload_n hx hb dL_law_2494 rfl (lv_at hl 0 rfl) ?_
  refine lv_iconst (v := 2) hx hb dL_law_2495 (by decide) ?_
  refine lv_iadd hx hb dL_law_2496 ?_
  refine lv_topi (fun x_26 ex_26 => ?_)
  have b_x_26 : x_26.toInt = i0.toInt + 2 := zs_add ex_26 hi (show Int32.toInt 2 = 2 from by decide) (by decide)
  refine va_sld hx hb hX hbl hbA hS (zs_in b_x_26 hi (by decide)) dL_law_2497 ?_
  refine lv_topi (fun x_27 ex_27 => ?_)
  obtain rfl : x_3 = x_26 := zs_eq b_x_3 b_x_26
  obtain rfl : x_4 = x_27 := ex_4.trans ex_27.symm
  refine lv_aload_n hx hb dL_law_2498 rfl (lv_at hl 3 rfl) ?_
  refine lv_iload_n hx hb dL_law_2499 rfl (lv_at hl 0 rfl) ?_
  refine lv_iconst (v := 3) hx hb dL_law_2500 (by decide) ?_
  refine lv_iadd hx hb dL_law_2501 ?_
  refine lv_topi (fun x_28 ex_28 => ?_)
  have b_x_28 : x_28.toInt = i0.toInt + 3 := zs_add ex_28 hi (show Int32.toInt 3 = 3 from by decide) (by decide)
  refine va_sld hx hb hX hbl hbA hS (zs_in b_x_28 hi (by decide)) dL_law_2502 ?_
  refine lv_topi (fun x_29 ex_29 => ?_)
  obtain rfl : x_5 = x_28 := zs_eq b_x_5 b_x_28
  obtain rfl : x_6 = x_29 := ex_6.trans ex_29.symm
  obtain ⟨hPc, hDc, hFc⟩ := z_cut (wc := (zV282 (ad 1) (iv 3) (ad 2) (ad 3) (ad 4) (ad 5) (ad 6) (iv 4) (iv 5) (iv 6) (iv 7) (iv 8) (lw 0) (iv 9) (iv 10) (iv 11) (iv 12) (ad 7) (ad 8) (ad 9) (ad 10) (ad 11) (ad 12) (ad 13) (ad 14) (ad 15) (ad 16) (ad 17) (ad 18) (ad 19) (ad 20) (iv 13) (iv 14) (iv 15) (iv 16) (ad 21) (ad 22) (ad 23) (ad 24) (ad 25) (ad 26) (ad 27) (ad 28) (ad 29) (iv 17) (ad 30) (ad 31) (iv 18) (lw 1) (iv 19) (iv 20) (iv 21) (iv 22) (lw 2) (ad 2) (cA 2) (fi 2) (ad 3) (cA 3) (fi 3) (ad 4) (cA 4) (fl 4))) (z_pr hP) (z_dr hD) hS hA [0, 1, 2, 3] rfl (by decide +kernel)
  have hKc := hK.sub (tys' := [((cA 2), .int), ((cA 3), .int), ((cA 4), .long)]) [0, 1, 2] rfl
  refine va_calli (va_runV (As := [.int x_2, .int x_4, .int x_6]) (rest := []) ⟨hx, hb, hml, hown, hts⟩ (k_X10_row_v2 l sa dC dI (ad 1) x_2 x_4 x_6 (iv 3) (ad 2) (ad 3) (ad 4) (ad 5) (ad 6) (iv 4) (iv 5) (iv 6) (iv 7) (iv 8) (lw 0) (iv 9) (iv 10) (iv 11) (iv 12) (ad 7) (ad 8) (ad 9) (ad 10) (ad 11) (ad 12) (ad 13) (ad 14) (ad 15) (ad 16) (ad 17) (ad 18) (ad 19) (ad 20) (iv 13) (iv 14) (iv 15) (iv 16) (ad 21) (ad 22) (ad 23) (ad 24) (ad 25) (ad 26) (ad 27) (ad 28) (ad 29) (iv 17) (ad 30) (ad 31) (iv 18) (lw 1) (iv 19) (iv 20) (iv 21) (iv 22) (lw 2) (cA 2) (fi 2) (cA 3) (fi 3) (cA 4) (fl 4) b_m0_taped b_m0_at b_m0_token b_m0_value b_m0_bad b_m0_strays b_m0_hostCourt b_m0_dayCourt b_m0_dayHour b_f_m0_width b_f_m0_many H.size) (cwV 3 hts (z_gV zw_t7_21 zw_t7_22 zw_t7_23 zw_t1_11 zw_t7_24) rfl rfl rfl (by decide +kernel) ⟨(Nat.le_of_ble_eq_true rfl), (Nat.le_of_ble_eq_true rfl)⟩) (z_preV hPc hKc hDc hN hXs hS hFc (q := (RX10, TX10, 53)) (ci := 10) (q0 := 0) rfl rfl) rfl rfl hl.1 rfl (lv_room (Nat.le_of_ble_eq_true rfl)) dL_law_2503 ⟨(show cells + 0 + 0 ≤ 600000 by omega), (show slots + 0 + 0 ≤ 7302250 by omega)⟩) hS (fun q _ h => hFc q h) hFc (fun r_30 u t H1 locs ht hvm hw hB hz1 hk1 hS => ?_)
  obtain ⟨hu, hw⟩ := hw
  rw [hu] at hB
  obtain ⟨n_m0_31, n_m0_width_32, n_m0_many_33, n_m0_cells_34, b_n_m0_width_32, b_n_m0_many_33, hf_35, hf_36, hB⟩ := hB
  obtain ⟨hP, hD, hK⟩ := z_after2X (wn := (zV685 (ad 0) (ad 32) (iv 0) (iv 1) (iv 2) (ad 65) (ad 33) (ad 34) (ad 35) (ad 40) (ad 48) (ad 51) (ad 57) (ad 64) (ad 34) (cA 34) (fo 34) (ad 69) n_r0_8 n_r0_9 (ad 70) (ad 70) (cA 70) n_r0_numbers_10 (ad 71) n_r1_11 n_r1_12 (ad 72) (ad 72) (cA 72) n_r1_numbers_13 (ad 73) n_r2_14 n_r2_15 (ad 74) (ad 74) (cA 74) n_r2_numbers_16 (ad 75) n_r3_17 n_r3_18 (ad 76) (ad 76) (cA 76) n_r3_numbers_19 (ad 1) n_m0_31 (ad 2) (ad 3) (ad 4) (ad 5) (ad 6) (iv 4) (iv 5) (iv 6) (iv 7) (iv 8) (lw 0) (iv 9) (iv 10) (iv 11) (iv 12) (ad 7) (ad 8) (ad 9) (ad 10) (ad 11) (ad 12) (ad 13) (ad 14) (ad 15) (ad 16) (ad 17) (ad 18) (ad 19) (ad 20) (iv 13) (iv 14) (iv 15) (iv 16) (ad 21) (ad 22) (ad 23) (ad 24) (ad 25) (ad 26) (ad 27) (ad 28) (ad 29) (iv 17) (ad 30) (ad 31) (iv 18) (lw 1) (iv 19) (iv 20) (iv 21) (iv 22) (lw 2) (ad 2) (cA 2) n_m0_width_32 (ad 3) (cA 3) n_m0_many_33 (ad 4) (cA 4) n_m0_cells_34)) hB ht hvm hP hD hK [0, 1, 2, 3] [4, 5, 6, 7, 8, 9, 10, 11, 12, 13] rfl 14 rfl (by decide +kernel) rfl (by decide +kernel) hk1 hFc
  generalize H1 = H at hP hS ⊢
  have hK : va_K (dC, dI) vwCl [((cA 2), .int), ((cA 3), .int), ((cA 4), .long), ((cA 34), .object RX6), ((cA 70), .long), ((cA 72), .long), ((cA 74), .long), ((cA 76), .long)] s := hK
  have b_r_30 : (-3) ≤ r_30.toInt ∧ r_30.toInt ≤ 0 := hw.1
  have s_r_30 := hw.2
  refine lv_pop hx hb dL_law_2506 rfl ?_
  refine lv_goto (tgt := 2646) hx hb dL_law_2507 (by decide) ?_
  rw [hwx] at hP hD
  have hz := z_both (wn := zFull ad cA (zU (zU (zU (zU (zU (zU (zU (zU (zU iv 3 n_m0_31) 68 n_r0_8) 69 n_r0_9) 70 n_r1_11) 71 n_r1_12) 72 n_r2_14) 73 n_r2_15) 74 n_r3_17) 75 n_r3_18) lw (zU (zU fi 2 n_m0_width_32) 3 n_m0_many_33) (zU (zU (zU (zU (zU fl 4 n_m0_cells_34) 70 n_r0_numbers_10) 72 n_r1_numbers_13) 74 n_r2_numbers_16) 76 n_r3_numbers_19) fo) hP hD [107, 117, 118, 119, 120, 0, 1, 2, 3, 4, 5, 6, 7, 8, 9, 10, 11, 12, 13, 14, 15, 16, 17, 18, 19, 20, 21, 22, 23, 24, 25, 26, 27, 28, 108, 29, 30, 31, 32, 33, 34, 35, 36, 37, 38, 39, 40, 41, 42, 43, 44, 45, 46, 47, 48, 49, 50, 51, 52, 53, 54, 55, 56, 57, 58, 59, 60, 61, 62, 109, 110, 111, 112, 113, 114, 115, 116, 63, 64, 65, 66, 67, 68, 69, 70, 71, 72, 73, 74, 75, 76, 77, 78, 79, 80, 81, 82, 83, 84, 85, 86, 87, 88, 89, 90, 91, 92, 93, 94, 95, 96, 97, 98, 99, 100, 101, 102, 103, 104, 105, 106] (by decide +kernel) rfl
  exact hk ad cA (zU (zU (zU (zU (zU (zU (zU (zU (zU iv 3 n_m0_31) 68 n_r0_8) 69 n_r0_9) 70 n_r1_11) 71 n_r1_12) 72 n_r2_14) 73 n_r2_15) 74 n_r3_17) 75 n_r3_18) lw (zU (zU fi 2 n_m0_width_32) 3 n_m0_many_33) (zU (zU (zU (zU (zU fl 4 n_m0_cells_34) 70 n_r0_numbers_10) 72 n_r1_numbers_13) 74 n_r2_numbers_16) 76 n_r3_numbers_19) fo _ _ _ ⟨b_h0_tapeLength, b_m0_taped, b_m0_at, b_m0_token, b_m0_value, b_m0_bad, b_m0_strays, b_m0_hostCourt, b_m0_dayCourt, b_m0_dayHour, b_n_m0_width_32, b_n_m0_many_33, b_f_m0_hours, b_f_m0_courts, b_f_m0_in, b_f_m0_gates, b_f_m0_gate, b_f_m0_people, b_f_m0_at0, b_f_m0_stray, b_f_m0_set, b_f_m0_known, b_f_m0_isKept, b_f_m0_digit, him0, him1, him2, hsl0, hsl1, hsl2, hsl3, b_rd_tokens, b_rd_at, b_rd_strayCount, b_rd_lawTold, b_rd_falseTold, b_f_rd_kinds, b_f_rd_starts, b_f_rd_stops, b_f_rd_values, b_wk_firstGate, b_wk_firstHour, b_f_wk_costs, b_f_wk_lower, b_ch_lastHour, b_ch_unsureCount, b_f_ch_unsure, b_f_ch_seats, b_f_ch_worth, b_f_ch_digits, b_dy_court, b_dy_hour, b_nw_isKept, b_nw_names, b_i0_isKept, b_i0_names, b_i1_isKept, b_i1_names, b_i2_isKept, b_i2_names, b_n_r0_9, b_n_r1_12, b_n_r2_15, b_n_r3_18, b_g0_hours, b_g0_courts, b_g0_gateCount, b_g0_people, b_g0_falseHours, b_g0_deep, b_f_g0_degrees, b_f_g0_neighbours, b_f_g0_oneEnd, b_f_g0_otherEnd, b_f_g0_told, b_f_g0_strayParts, b_f_g0_strayCourts, b_g1_hours, b_g1_courts, b_g1_gateCount, b_g1_people, b_g1_falseHours, b_g1_deep, b_f_g1_degrees, b_f_g1_neighbours, b_f_g1_oneEnd, b_f_g1_otherEnd, b_f_g1_told, b_f_g1_strayParts, b_f_g1_strayCourts, b_g2_hours, b_g2_courts, b_g2_gateCount, b_g2_people, b_g2_falseHours, b_g2_deep, b_f_g2_degrees, b_f_g2_neighbours, b_f_g2_oneEnd, b_f_g2_otherEnd, b_f_g2_told, b_f_g2_strayParts, b_f_g2_strayCourts, b_g3_hours, b_g3_courts, b_g3_gateCount, b_g3_people, b_g3_falseHours, b_g3_deep, b_f_g3_degrees, b_f_g3_neighbours, b_f_g3_oneEnd, b_f_g3_otherEnd, b_f_g3_told, b_f_g3_strayParts, b_f_g3_strayCourts, tw0, tw1, tw2, tw3, hmd, hit0, hit1, hit2, rtl, rkp0, rkp1, rkp2, (show n_r0_8.toInt = (n_m0_width_32 0).toInt from z_rw hf_20 (hf_35 0 (by decide)) (z_rowEq s_r_7 s_r_30) (by decide) rwd0), (show n_r1_11.toInt = (n_m0_width_32 1).toInt from z_rw hf_21 (hf_35 1 (by decide)) (z_rowEq s_r_7 s_r_30) (by decide) rwd1), (show n_r2_14.toInt = (n_m0_width_32 2).toInt from z_rw hf_22 (hf_35 2 (by decide)) (z_rowEq s_r_7 s_r_30) (by decide) rwd2), (show n_r3_17.toInt = (n_m0_width_32 3).toInt from z_rw hf_23 (hf_35 3 (by decide)) (z_rowEq s_r_7 s_r_30) (by decide) rwd3), (show n_r0_9.toInt = (n_m0_many_33 0).toInt from z_rz hf_20 (hf_36 0 (by decide)) (z_rowEq s_r_7 s_r_30) (by decide) rsz0), (show n_r1_12.toInt = (n_m0_many_33 1).toInt from z_rz hf_21 (hf_36 1 (by decide)) (z_rowEq s_r_7 s_r_30) (by decide) rsz1), (show n_r2_15.toInt = (n_m0_many_33 2).toInt from z_rz hf_22 (hf_36 2 (by decide)) (z_rowEq s_r_7 s_r_30) (by decide) rsz2), (show n_r3_18.toInt = (n_m0_many_33 3).toInt from z_rz hf_23 (hf_36 3 (by decide)) (z_rowEq s_r_7 s_r_30) (by decide) rsz3)⟩ hz.1 hz.2 hKz hS (lv_sub hl [0, 1, 2, 3] rfl)
set_option maxHeartbeats 8000000 in
set_option maxRecDepth 100000 in
theorem law_write {p : Program} {e : Env} {s : State} {m : MethodId} {below : List Frame} {meth : Method} {c : Code} {l : Launch} {b L : Nat} {xs : Nat → Int32} (C0 : lw_At p s m meth c b L xs) {sa : Nat → Nat} {dC : Nat → ClassId} {dI : Nat → Nat → Nat} {A : Nat → Prop} (hA : ∀ q, s.heap.size ≤ q → A q) (hA2 : ∀ q, A q → s.heap.size ≤ q) (hN : zN s) (hXs : zX sa A s s.heap) {ad : Nat → Nat} {cA : Nat → ClassId} {iv : Nat → Int32} {lw : Nat → Int64} {fi : Nat → Nat → Int32} {fl : Nat → Nat → Int64} {fo : Nat → Nat → Option Nat} {H : Heap} {locs : List Loc} {ls : Array Slot} {i0 : Int32} {cells slots : Nat} (hcs : cells + 11 ≤ 600000 ∧ slots + 690 ≤ 7302250) (hi : 0 ≤ i0.toInt ∧ i0.toInt + 6 ≤ (L : Int) ∧ L ≤ 3072) (hF : zFacts ad cA iv lw fi fl fo) (hP : va_P (dC, dI) vwCl (zFull ad cA iv lw fi fl fo) H) (hD : va_D A (zFull ad cA iv lw fi fl fo)) (hK : va_K (dC, dI) vwCl (zTys cA) s) (hS : va_S A s.heap H locs) (hl : lv_has ls 4 [(3, .int i0), (2, .ref (ad 1)), (1, .ref (ad 0)), (0, .ref b)]) (hk : ∀ (ad : Nat → Nat) (cA : Nat → ClassId) (iv : Nat → Int32) (lw : Nat → Int64) (fi : Nat → Nat → Int32) (fl : Nat → Nat → Int64) (fo : Nat → Nat → Option Nat) (H : Heap) (locs : List Loc) (ls : Array Slot), (zFacts ad cA iv lw fi fl fo) → va_P (dC, dI) vwCl (zFull ad cA iv lw fi fl fo) H → va_D A (zFull ad cA iv lw fi fl fo) → va_K (dC, dI) vwCl (zTys cA) s → va_S A s.heap H locs → lv_has ls 4 [(3, .int i0), (2, .ref (ad 1)), (1, .ref (ad 0)), (0, .ref b)] → W p l e room_1 s m #[Value.ref b] below meth c H locs cells slots (lw_Z below #[Value.ref b] s) (F0 m 2646 ls [])) : W p l e room_1 s m #[Value.ref b] below meth c H locs cells slots (lw_Z below #[Value.ref b] s) (F0 m 2510 ls []) := by
  obtain ⟨hx, hb, hr, hml, hown, hts, hX, hbl, hlocks, hgv⟩ := id C0
  have hown : s.vm.findClass RL = some m.cls := hown
  have hb : c.code = cL_law := hb
  have hts : ∀ w ∈ zT, w.before #[Value.ref b] s = true := fun w h => hts w (zT_in w h)
  have hbA : ¬ A b := fun q => absurd (hA2 b q) (Nat.not_le.mpr hbl)
  refine zFe hF (fun b_h0_tapeLength b_m0_taped b_m0_at b_m0_token b_m0_value b_m0_bad b_m0_strays b_m0_hostCourt b_m0_dayCourt b_m0_dayHour b_f_m0_width b_f_m0_many b_f_m0_hours b_f_m0_courts b_f_m0_in b_f_m0_gates b_f_m0_gate b_f_m0_people b_f_m0_at0 b_f_m0_stray b_f_m0_set b_f_m0_known b_f_m0_isKept b_f_m0_digit him0 him1 him2 hsl0 hsl1 hsl2 hsl3 b_rd_tokens b_rd_at b_rd_strayCount b_rd_lawTold b_rd_falseTold b_f_rd_kinds b_f_rd_starts b_f_rd_stops b_f_rd_values b_wk_firstGate b_wk_firstHour b_f_wk_costs b_f_wk_lower b_ch_lastHour b_ch_unsureCount b_f_ch_unsure b_f_ch_seats b_f_ch_worth b_f_ch_digits b_dy_court b_dy_hour b_nw_isKept b_nw_names b_i0_isKept b_i0_names b_i1_isKept b_i1_names b_i2_isKept b_i2_names b_r0_size b_r1_size b_r2_size b_r3_size b_g0_hours b_g0_courts b_g0_gateCount b_g0_people b_g0_falseHours b_g0_deep b_f_g0_degrees b_f_g0_neighbours b_f_g0_oneEnd b_f_g0_otherEnd b_f_g0_told b_f_g0_strayParts b_f_g0_strayCourts b_g1_hours b_g1_courts b_g1_gateCount b_g1_people b_g1_falseHours b_g1_deep b_f_g1_degrees b_f_g1_neighbours b_f_g1_oneEnd b_f_g1_otherEnd b_f_g1_told b_f_g1_strayParts b_f_g1_strayCourts b_g2_hours b_g2_courts b_g2_gateCount b_g2_people b_g2_falseHours b_g2_deep b_f_g2_degrees b_f_g2_neighbours b_f_g2_oneEnd b_f_g2_otherEnd b_f_g2_told b_f_g2_strayParts b_f_g2_strayCourts b_g3_hours b_g3_courts b_g3_gateCount b_g3_people b_g3_falseHours b_g3_deep b_f_g3_degrees b_f_g3_neighbours b_f_g3_oneEnd b_f_g3_otherEnd b_f_g3_told b_f_g3_strayParts b_f_g3_strayCourts tw0 tw1 tw2 tw3 hmd hit0 hit1 hit2 rtl rkp0 rkp1 rkp2 rwd0 rwd1 rwd2 rwd3 rsz0 rsz1 rsz2 rsz3 => ?_)
  have hic := hmd.ic
  have hih := hmd.ih
  have hc4 := hmd.c4
  obtain ⟨wx, hwx⟩ : ∃ w : va_W, w = [((ad 5), .inl ((cA 5), 60, .inr (.inl (fl 5)))), ((ad 6), .inl ((cA 6), 1600, .inl (fi 6))), ((ad 7), .inl ((cA 7), 5, .inl (fi 7))), ((ad 8), .inl ((cA 8), 5, .inl (fi 8))), ((ad 9), .inl ((cA 9), 5, .inl (fi 9))), ((ad 10), .inl ((cA 10), 50, .inl (fi 10))), ((ad 11), .inl ((cA 11), 5, .inl (fi 11))), ((ad 12), .inl ((cA 12), 160, .inl (fi 12))), ((ad 13), .inl ((cA 13), 5, .inl (fi 13))), ((ad 14), .inl ((cA 14), 2400, .inl (fi 14))), ((ad 15), .inl ((cA 15), 100, .inl (fi 15))), ((ad 16), .inl ((cA 16), 10, .inl (fi 16))), ((ad 17), .inl ((cA 17), 10, .inl (fi 17))), ((ad 18), .inl ((cA 18), 10, .inl (fi 18))), ((ad 19), .inl ((cA 19), 50, .inl (fi 19))), ((ad 20), .inl ((cA 20), 3, .inl (fi 20))), ((ad 21), .inl ((cA 21), 480, .inl (fi 21))), ((ad 22), .inl ((cA 22), 49, .inl (fi 22))), ((ad 23), .inl ((cA 23), 490, .inl (fi 23))), ((ad 24), .inl ((cA 24), 10, .inr (.inl (fl 24)))), ((ad 25), .inl ((cA 25), 10, .inr (.inl (fl 25)))), ((ad 26), .inl ((cA 26), 100, .inl (fi 26))), ((ad 27), .inl ((cA 27), 100, .inl (fi 27))), ((ad 28), .inl ((cA 28), 1000, .inl (fi 28))), ((ad 29), .inl ((cA 29), 1000, .inl (fi 29))), ((ad 30), .inl ((cA 30), 39690, .inr (.inl (fl 30)))), ((ad 31), .inl ((cA 31), 10, .inl (fi 31))), ((ad 32), .inl ((cA 32), 1600, .inl (fi 32))), ((ad 33), .inl ((cA 33), 3, .inr (.inr (.inr (.inr (fo 33)))))), ((ad 35), .inr (5, [.int (iv 23), .int (iv 24), .ref (ad 121), .ref (ad 36), .ref (ad 37), .ref (ad 38), .ref (ad 39), .int (iv 25), .int (iv 26), .ref (ad 122), .int (iv 27), .int (iv 28), .int (iv 29)])), ((ad 36), .inl ((cA 36), 1601, .inl (fi 36))), ((ad 37), .inl ((cA 37), 1601, .inl (fi 37))), ((ad 38), .inl ((cA 38), 1601, .inl (fi 38))), ((ad 39), .inl ((cA 39), 1601, .inl (fi 39))), ((ad 40), .inr (8, [.int (iv 30), .int (iv 31), .int (iv 32), .ref (ad 123), .ref (ad 41), .ref (ad 42), .ref (ad 43), .ref (ad 44), .ref (ad 45), .ref (ad 46), .ref (ad 47)])), ((ad 41), .inl ((cA 41), 48, .inl (fi 41))), ((ad 42), .inl ((cA 42), 48, .inl (fi 42))), ((ad 43), .inl ((cA 43), 10, .inl (fi 43))), ((ad 44), .inl ((cA 44), 10, .inl (fi 44))), ((ad 45), .inl ((cA 45), 10, .inl (fi 45))), ((ad 46), .inl ((cA 46), 10, .inr (.inl (fl 46)))), ((ad 47), .inl ((cA 47), 10, .inr (.inl (fl 47)))), ((ad 48), .inr (2, [.ref (ad 124), .int (iv 33), .ref (ad 49), .ref (ad 50)])), ((ad 49), .inl ((cA 49), 160, .inr (.inl (fl 49)))), ((ad 50), .inl ((cA 50), 160, .inr (.inl (fl 50)))), ((ad 51), .inr (4, [.ref (ad 52), .ref (ad 53), .ref (ad 54), .ref (ad 55), .ref (ad 56)])), ((ad 52), .inl ((cA 52), 10, .inl (fi 52))), ((ad 53), .inl ((cA 53), 10, .inl (fi 53))), ((ad 54), .inl ((cA 54), 100, .inl (fi 54))), ((ad 55), .inl ((cA 55), 100, .inl (fi 55))), ((ad 56), .inl ((cA 56), 100, .inl (fi 56))), ((ad 57), .inr (0, [.ref (ad 125), .int (iv 34), .int (iv 35), .int (iv 36), .int (iv 37), .ref (ad 58), .ref (ad 59), .int (iv 38), .int (iv 39), .ref (ad 60), .int (iv 40), .ref (ad 61), .ref (ad 62), .ref (ad 63), .int (iv 41), .int (iv 42), .int (iv 43)])), ((ad 58), .inl ((cA 58), 4, .inl (fi 58))), ((ad 59), .inl ((cA 59), 10, .inl (fi 59))), ((ad 60), .inl ((cA 60), 38880, .inl (fi 60))), ((ad 61), .inl ((cA 61), 4, .inl (fi 61))), ((ad 62), .inl ((cA 62), 4, .inl (fi 62))), ((ad 63), .inl ((cA 63), 4, .inl (fi 63))), ((ad 64), .inr (1, [.int (iv 44), .int (iv 45), .int (iv 46), .int (iv 47)])), ((ad 65), .inr (3, [.int (iv 48), .ref (ad 77), .int (iv 49), .int (iv 50), .int (iv 51), .int (iv 52)])), ((ad 66), .inr (3, [.int (iv 53), .ref (ad 126), .int (iv 54), .int (iv 55), .int (iv 56), .int (iv 57)])), ((ad 67), .inr (3, [.int (iv 58), .ref (ad 127), .int (iv 59), .int (iv 60), .int (iv 61), .int (iv 62)])), ((ad 68), .inr (3, [.int (iv 63), .ref (ad 128), .int (iv 64), .int (iv 65), .int (iv 66), .int (iv 67)])), ((ad 77), .inr (7, [.int (iv 76), .int (iv 77), .int (iv 78), .int (iv 79), .int (iv 80), .int (iv 81), .int (iv 82), .int (iv 83), .ref (ad 78), .ref (ad 79), .ref (ad 80), .ref (ad 81), .ref (ad 82), .ref (ad 83), .ref (ad 84), .ref (ad 85), .ref (ad 86), .ref (ad 87)])), ((ad 78), .inl ((cA 78), 10, .inl (fi 78))), ((ad 79), .inl ((cA 79), 10, .inl (fi 79))), ((ad 80), .inl ((cA 80), 10, .inl (fi 80))), ((ad 81), .inl ((cA 81), 100, .inl (fi 81))), ((ad 82), .inl ((cA 82), 10, .inl (fi 82))), ((ad 83), .inl ((cA 83), 16, .inl (fi 83))), ((ad 84), .inl ((cA 84), 16, .inl (fi 84))), ((ad 85), .inl ((cA 85), 480, .inl (fi 85))), ((ad 86), .inl ((cA 86), 10, .inl (fi 86))), ((ad 87), .inl ((cA 87), 10, .inl (fi 87))), ((ad 88), .inr (7, [.int (iv 84), .int (iv 85), .int (iv 86), .int (iv 87), .int (iv 88), .int (iv 89), .int (iv 90), .int (iv 91), .ref (ad 89), .ref (ad 90), .ref (ad 91), .ref (ad 92), .ref (ad 93), .ref (ad 94), .ref (ad 95), .ref (ad 96), .ref (ad 97), .ref (ad 98)])), ((ad 89), .inl ((cA 89), 10, .inl (fi 89))), ((ad 90), .inl ((cA 90), 10, .inl (fi 90))), ((ad 91), .inl ((cA 91), 10, .inl (fi 91))), ((ad 92), .inl ((cA 92), 100, .inl (fi 92))), ((ad 93), .inl ((cA 93), 10, .inl (fi 93))), ((ad 94), .inl ((cA 94), 16, .inl (fi 94))), ((ad 95), .inl ((cA 95), 16, .inl (fi 95))), ((ad 96), .inl ((cA 96), 480, .inl (fi 96))), ((ad 97), .inl ((cA 97), 10, .inl (fi 97))), ((ad 98), .inl ((cA 98), 10, .inl (fi 98))), ((ad 99), .inr (7, [.int (iv 92), .int (iv 93), .int (iv 94), .int (iv 95), .int (iv 96), .int (iv 97), .int (iv 98), .int (iv 99), .ref (ad 100), .ref (ad 101), .ref (ad 102), .ref (ad 103), .ref (ad 104), .ref (ad 105), .ref (ad 106), .ref (ad 107), .ref (ad 108), .ref (ad 109)])), ((ad 100), .inl ((cA 100), 10, .inl (fi 100))), ((ad 101), .inl ((cA 101), 10, .inl (fi 101))), ((ad 102), .inl ((cA 102), 10, .inl (fi 102))), ((ad 103), .inl ((cA 103), 100, .inl (fi 103))), ((ad 104), .inl ((cA 104), 10, .inl (fi 104))), ((ad 105), .inl ((cA 105), 16, .inl (fi 105))), ((ad 106), .inl ((cA 106), 16, .inl (fi 106))), ((ad 107), .inl ((cA 107), 480, .inl (fi 107))), ((ad 108), .inl ((cA 108), 10, .inl (fi 108))), ((ad 109), .inl ((cA 109), 10, .inl (fi 109))), ((ad 110), .inr (7, [.int (iv 100), .int (iv 101), .int (iv 102), .int (iv 103), .int (iv 104), .int (iv 105), .int (iv 106), .int (iv 107), .ref (ad 111), .ref (ad 112), .ref (ad 113), .ref (ad 114), .ref (ad 115), .ref (ad 116), .ref (ad 117), .ref (ad 118), .ref (ad 119), .ref (ad 120)])), ((ad 111), .inl ((cA 111), 10, .inl (fi 111))), ((ad 112), .inl ((cA 112), 10, .inl (fi 112))), ((ad 113), .inl ((cA 113), 10, .inl (fi 113))), ((ad 114), .inl ((cA 114), 100, .inl (fi 114))), ((ad 115), .inl ((cA 115), 10, .inl (fi 115))), ((ad 116), .inl ((cA 116), 16, .inl (fi 116))), ((ad 117), .inl ((cA 117), 16, .inl (fi 117))), ((ad 118), .inl ((cA 118), 480, .inl (fi 118))), ((ad 119), .inl ((cA 119), 10, .inl (fi 119))), ((ad 120), .inl ((cA 120), 10, .inl (fi 120)))] := ⟨_, rfl⟩
  obtain ⟨hP, hD⟩ := z_both (wn := wx ++ (zV683 (ad 0) (ad 32) (iv 0) (iv 1) (iv 2) (ad 65) (ad 33) (ad 34) (ad 35) (ad 40) (ad 48) (ad 51) (ad 57) (ad 64) (ad 1) (iv 3) (ad 2) (ad 3) (ad 4) (ad 5) (ad 6) (iv 4) (iv 5) (iv 6) (iv 7) (iv 8) (lw 0) (iv 9) (iv 10) (iv 11) (iv 12) (ad 7) (ad 8) (ad 9) (ad 10) (ad 11) (ad 12) (ad 13) (ad 14) (ad 15) (ad 16) (ad 17) (ad 18) (ad 19) (ad 20) (iv 13) (iv 14) (iv 15) (iv 16) (ad 21) (ad 22) (ad 23) (ad 24) (ad 25) (ad 26) (ad 27) (ad 28) (ad 29) (iv 17) (ad 30) (ad 31) (iv 18) (lw 1) (iv 19) (iv 20) (iv 21) (iv 22) (lw 2) (ad 2) (cA 2) (fi 2) (ad 3) (cA 3) (fi 3) (ad 4) (cA 4) (fl 4) (ad 34) (cA 34) (fo 34) (ad 69) (iv 68) (iv 69) (ad 70) (ad 70) (cA 70) (fl 70) (ad 71) (iv 70) (iv 71) (ad 72) (ad 72) (cA 72) (fl 72) (ad 73) (iv 72) (iv 73) (ad 74) (ad 74) (cA 74) (fl 74) (ad 75) (iv 74) (iv 75) (ad 76) (ad 76) (cA 76) (fl 76))) hP hD [5, 6, 7, 8, 9, 10, 11, 12, 13, 14, 15, 16, 17, 18, 19, 20, 21, 22, 23, 24, 25, 26, 27, 28, 29, 30, 31, 32, 33, 35, 36, 37, 38, 39, 40, 41, 42, 43, 44, 45, 46, 47, 48, 49, 50, 51, 52, 53, 54, 55, 56, 57, 58, 59, 60, 61, 62, 63, 64, 65, 66, 67, 68, 77, 78, 79, 80, 81, 82, 83, 84, 85, 86, 87, 88, 89, 90, 91, 92, 93, 94, 95, 96, 97, 98, 99, 100, 101, 102, 103, 104, 105, 106, 107, 108, 109, 110, 111, 112, 113, 114, 115, 116, 117, 118, 119, 120, 0, 1, 2, 3, 4, 34, 69, 70, 71, 72, 73, 74, 75, 76] (by decide +kernel) (by rw [hwx]; rfl)
  have hKz := hK
  have hK : va_K (dC, dI) vwCl [((cA 2), .int), ((cA 3), .int), ((cA 4), .long), ((cA 34), .object RX6), ((cA 70), .long), ((cA 72), .long), ((cA 74), .long), ((cA 76), .long)] s := hK.sub [0, 1, 2, 32, 57, 58, 59, 60] rfl
  refine lv_aload_n hx hb dL_law_2510 rfl (lv_at hl 2 rfl) ?_
  refine lv_aload_n hx hb dL_law_2511 rfl (lv_at hl 3 rfl) ?_
  refine lv_iload_n hx hb dL_law_2512 rfl (lv_at hl 0 rfl) ?_
  refine lv_iconst (v := 1) hx hb dL_law_2513 (by decide) ?_
  refine lv_iadd hx hb dL_law_2514 ?_
  refine lv_topi (fun x_1 ex_1 => ?_)
  have b_x_1 : x_1.toInt = i0.toInt + 1 := zs_add ex_1 hi (show Int32.toInt 1 = 1 from by decide) (by decide)
  refine va_sld hx hb hX hbl hbA hS (zs_in b_x_1 hi (by decide)) dL_law_2515 ?_
  refine lv_topi (fun x_2 ex_2 => ?_)
  refine lv_aload_n hx hb dL_law_2516 rfl (lv_at hl 3 rfl) ?_
  refine lv_iload_n hx hb dL_law_2517 rfl (lv_at hl 0 rfl) ?_
  refine lv_iconst (v := 2) hx hb dL_law_2518 (by decide) ?_
  refine lv_iadd hx hb dL_law_2519 ?_
  refine lv_topi (fun x_3 ex_3 => ?_)
  have b_x_3 : x_3.toInt = i0.toInt + 2 := zs_add ex_3 hi (show Int32.toInt 2 = 2 from by decide) (by decide)
  refine va_sld hx hb hX hbl hbA hS (zs_in b_x_3 hi (by decide)) dL_law_2520 ?_
  refine lv_topi (fun x_4 ex_4 => ?_)
  refine lv_aload_n hx hb dL_law_2521 rfl (lv_at hl 3 rfl) ?_
  refine lv_iload_n hx hb dL_law_2522 rfl (lv_at hl 0 rfl) ?_
  refine lv_iconst (v := 3) hx hb dL_law_2523 (by decide) ?_
  refine lv_iadd hx hb dL_law_2524 ?_
  refine lv_topi (fun x_5 ex_5 => ?_)
  have b_x_5 : x_5.toInt = i0.toInt + 3 := zs_add ex_5 hi (show Int32.toInt 3 = 3 from by decide) (by decide)
  refine va_sld hx hb hX hbl hbA hS (zs_in b_x_5 hi (by decide)) dL_law_2525 ?_
  refine lv_topi (fun x_6 ex_6 => ?_)
  refine lv_i2l (v := _) hx hb dL_law_2526 rfl ?_
  refine lv_topl (fun x_7 ex_7 => ?_)
  have b_x_7 : x_7.toInt = x_6.toInt := by rw [ex_7]; exact z_l64 _
  refine lv_bipush (v := 32) hx hb dL_law_2527 (by decide) ?_
  refine lv_lshl (v := _) hx hb dL_law_2529 rfl ?_
  refine lv_topl (fun x_8 ex_8 => ?_)
  refine lv_aload_n hx hb dL_law_2530 rfl (lv_at hl 3 rfl) ?_
  refine lv_iload_n hx hb dL_law_2531 rfl (lv_at hl 0 rfl) ?_
  refine lv_iconst (v := 4) hx hb dL_law_2532 (by decide) ?_
  refine lv_iadd hx hb dL_law_2533 ?_
  refine lv_topi (fun x_9 ex_9 => ?_)
  have b_x_9 : x_9.toInt = i0.toInt + 4 := zs_add ex_9 hi (show Int32.toInt 4 = 4 from by decide) (by decide)
  refine va_sld hx hb hX hbl hbA hS (zs_in b_x_9 hi (by decide)) dL_law_2534 ?_
  refine lv_topi (fun x_10 ex_10 => ?_)
  refine lv_i2l (v := _) hx hb dL_law_2535 rfl ?_
  refine lv_topl (fun x_11 ex_11 => ?_)
  have b_x_11 : x_11.toInt = x_10.toInt := by rw [ex_11]; exact z_l64 _
  refine lv_ldc2 (v := 4294967295) hx hb hown (hts _ zw_t9_88) dL_law_2536 ?_
  refine lv_land hx hb dL_law_2539 ?_
  refine lv_topl (fun x_12 ex_12 => ?_)
  refine lv_lor hx hb dL_law_2540 ?_
  refine lv_topl (fun x_13 ex_13 => ?_)
  obtain ⟨hPc, hDc, hFc⟩ := z_cut (wc := (zV166 (ad 0) (ad 32) (iv 0) (iv 1) (iv 2) (ad 65) (ad 33) (ad 34) (ad 35) (ad 40) (ad 48) (ad 51) (ad 57) (ad 64) (ad 34) (cA 34) (fo 34) (ad 69) (iv 68) (iv 69) (ad 70) (ad 70) (cA 70) (fl 70) (ad 71) (iv 70) (iv 71) (ad 72) (ad 72) (cA 72) (fl 72) (ad 73) (iv 72) (iv 73) (ad 74) (ad 74) (cA 74) (fl 74) (ad 75) (iv 74) (iv 75) (ad 76) (ad 76) (cA 76) (fl 76))) (z_pr hP) (z_dr hD) hS hA [0, 5, 6, 7, 8, 9, 10, 11, 12, 13] rfl (by decide +kernel)
  have hKc := hK.sub (tys' := [((cA 34), .object RX6), ((cA 70), .long), ((cA 72), .long), ((cA 74), .long), ((cA 76), .long)]) [3, 4, 5, 6, 7] rfl
  refine va_calli (va_runV (As := [.int x_2, .int x_4, .long x_13]) (rest := []) ⟨hx, hb, hml, hown, hts⟩ (k_X9_write_v1 l sa dC dI (ad 0) x_2 x_4 x_13 (ad 32) (iv 0) (iv 1) (iv 2) (ad 65) (ad 33) (ad 34) (ad 35) (ad 40) (ad 48) (ad 51) (ad 57) (ad 64) (cA 34) (fo 34) (ad 69) (ad 71) (ad 73) (ad 75) (iv 68) (iv 69) (ad 70) (cA 70) (fl 70) (iv 70) (iv 71) (ad 72) (cA 72) (fl 72) (iv 72) (iv 73) (ad 74) (cA 74) (fl 74) (iv 74) (iv 75) (ad 76) (cA 76) (fl 76) b_h0_tapeLength hsl0 hsl1 hsl2 hsl3 b_r0_size b_r1_size b_r2_size b_r3_size H.size) (cwV 3 hts (z_gV zw_t6_76 zw_t6_77 zw_t6_78 zw_t1_1 zw_t6_79) rfl rfl rfl (by decide +kernel) ⟨(Nat.le_of_ble_eq_true rfl), (Nat.le_of_ble_eq_true rfl)⟩) (z_preV hPc hKc hDc hN hXs hS hFc (q := (RX9, TX9, 13)) (ci := 9) (q0 := 0) rfl rfl) rfl rfl hl.1 rfl (lv_room (Nat.le_of_ble_eq_true rfl)) dL_law_2541 ⟨(show cells + 0 + 0 ≤ 600000 by omega), (show slots + 0 + 0 ≤ 7302250 by omega)⟩) hS (fun q _ h => hFc q h) hFc (fun r_14 u t H1 locs ht hvm hw hB hz1 hk1 hS => ?_)
  obtain ⟨n_r0_numbers_15, n_r1_numbers_16, n_r2_numbers_17, n_r3_numbers_18, hB⟩ := hB
  obtain ⟨hP, hD, hK⟩ := z_after2X (wn := (zV684 (ad 1) (iv 3) (ad 2) (ad 3) (ad 4) (ad 5) (ad 6) (iv 4) (iv 5) (iv 6) (iv 7) (iv 8) (lw 0) (iv 9) (iv 10) (iv 11) (iv 12) (ad 7) (ad 8) (ad 9) (ad 10) (ad 11) (ad 12) (ad 13) (ad 14) (ad 15) (ad 16) (ad 17) (ad 18) (ad 19) (ad 20) (iv 13) (iv 14) (iv 15) (iv 16) (ad 21) (ad 22) (ad 23) (ad 24) (ad 25) (ad 26) (ad 27) (ad 28) (ad 29) (iv 17) (ad 30) (ad 31) (iv 18) (lw 1) (iv 19) (iv 20) (iv 21) (iv 22) (lw 2) (ad 2) (cA 2) (fi 2) (ad 3) (cA 3) (fi 3) (ad 4) (cA 4) (fl 4) (ad 0) (ad 32) (iv 0) (iv 1) (iv 2) (ad 65) (ad 33) (ad 34) (ad 35) (ad 40) (ad 48) (ad 51) (ad 57) (ad 64) (ad 34) (cA 34) (fo 34) (ad 69) (iv 68) (iv 69) (ad 70) (ad 70) (cA 70) n_r0_numbers_15 (ad 71) (iv 70) (iv 71) (ad 72) (ad 72) (cA 72) n_r1_numbers_16 (ad 73) (iv 72) (iv 73) (ad 74) (ad 74) (cA 74) n_r2_numbers_17 (ad 75) (iv 74) (iv 75) (ad 76) (ad 76) (cA 76) n_r3_numbers_18)) hB ht hvm hP hD hK [0, 5, 6, 7, 8, 9, 10, 11, 12, 13] [1, 2, 3, 4] rfl 14 rfl (by decide +kernel) rfl (by decide +kernel) hk1 hFc
  generalize H1 = H at hP hS ⊢
  have hK : va_K (dC, dI) vwCl [((cA 2), .int), ((cA 3), .int), ((cA 4), .long), ((cA 34), .object RX6), ((cA 70), .long), ((cA 72), .long), ((cA 74), .long), ((cA 76), .long)] s := hK
  have b_r_14 : (-7) ≤ r_14.toInt ∧ r_14.toInt ≤ 0 := hw.1
  have s_r_14 := hw.2
  refine lv_pop hx hb dL_law_2544 rfl ?_
  refine lv_aload_n hx hb dL_law_2545 rfl (lv_at hl 1 rfl) ?_
  refine lv_aload_n hx hb dL_law_2546 rfl (lv_at hl 3 rfl) ?_
  refine lv_iload_n hx hb dL_law_2547 rfl (lv_at hl 0 rfl) ?_
  refine lv_iconst (v := 1) hx hb dL_law_2548 (by decide) ?_
  refine lv_iadd hx hb dL_law_2549 ?_
  refine lv_topi (fun x_19 ex_19 => ?_)
  have b_x_19 : x_19.toInt = i0.toInt + 1 := zs_add ex_19 hi (show Int32.toInt 1 = 1 from by decide) (by decide)
  refine va_sld hx hb hX hbl hbA hS (zs_in b_x_19 hi (by decide)) dL_law_2550 ?_
  refine lv_topi (fun x_20 ex_20 => ?_)
  obtain rfl : x_1 = x_19 := zs_eq b_x_1 b_x_19
  obtain rfl : x_2 = x_20 := ex_2.trans ex_20.symm
  refine lv_aload_n hx hb dL_law_2551 rfl (lv_at hl 3 rfl) ?_
  refine lv_iload_n hx hb dL_law_2552 rfl (lv_at hl 0 rfl) ?_
  refine lv_iconst (v := 2) hx hb dL_law_2553 (by decide) ?_
  refine lv_iadd hx hb dL_law_2554 ?_
  refine lv_topi (fun x_21 ex_21 => ?_)
  have b_x_21 : x_21.toInt = i0.toInt + 2 := zs_add ex_21 hi (show Int32.toInt 2 = 2 from by decide) (by decide)
  refine va_sld hx hb hX hbl hbA hS (zs_in b_x_21 hi (by decide)) dL_law_2555 ?_
  refine lv_topi (fun x_22 ex_22 => ?_)
  obtain rfl : x_3 = x_21 := zs_eq b_x_3 b_x_21
  obtain rfl : x_4 = x_22 := ex_4.trans ex_22.symm
  refine lv_aload_n hx hb dL_law_2556 rfl (lv_at hl 3 rfl) ?_
  refine lv_iload_n hx hb dL_law_2557 rfl (lv_at hl 0 rfl) ?_
  refine lv_iconst (v := 3) hx hb dL_law_2558 (by decide) ?_
  refine lv_iadd hx hb dL_law_2559 ?_
  refine lv_topi (fun x_23 ex_23 => ?_)
  have b_x_23 : x_23.toInt = i0.toInt + 3 := zs_add ex_23 hi (show Int32.toInt 3 = 3 from by decide) (by decide)
  refine va_sld hx hb hX hbl hbA hS (zs_in b_x_23 hi (by decide)) dL_law_2560 ?_
  refine lv_topi (fun x_24 ex_24 => ?_)
  obtain rfl : x_5 = x_23 := zs_eq b_x_5 b_x_23
  obtain rfl : x_6 = x_24 := ex_6.trans ex_24.symm
  refine lv_i2l (v := _) hx hb dL_law_2561 rfl ?_
  refine lv_topl (fun x_25 ex_25 => ?_)
  have b_x_25 : x_25.toInt = x_6.toInt := by rw [ex_25]; exact z_l64 _
  refine lv_bipush (v := 32) hx hb dL_law_2562 (by decide) ?_
  refine lv_lshl (v := _) hx hb dL_law_2564 rfl ?_
  refine lv_topl (fun x_26 ex_26 => ?_)
  refine lv_aload_n hx hb dL_law_2565 rfl (lv_at hl 3 rfl) ?_
  refine lv_iload_n hx hb dL_law_2566 rfl (lv_at hl 0 rfl) ?_
  refine lv_iconst (v := 4) hx hb dL_law_2567 (by decide) ?_
  refine lv_iadd hx hb dL_law_2568 ?_
  refine lv_topi (fun x_27 ex_27 => ?_)
  have b_x_27 : x_27.toInt = i0.toInt + 4 := zs_add ex_27 hi (show Int32.toInt 4 = 4 from by decide) (by decide)
  refine va_sld hx hb hX hbl hbA hS (zs_in b_x_27 hi (by decide)) dL_law_2569 ?_
  refine lv_topi (fun x_28 ex_28 => ?_)
  obtain rfl : x_9 = x_27 := zs_eq b_x_9 b_x_27
  obtain rfl : x_10 = x_28 := ex_10.trans ex_28.symm
  refine lv_i2l (v := _) hx hb dL_law_2570 rfl ?_
  refine lv_topl (fun x_29 ex_29 => ?_)
  have b_x_29 : x_29.toInt = x_10.toInt := by rw [ex_29]; exact z_l64 _
  refine lv_ldc2 (v := 4294967295) hx hb hown (hts _ zw_t9_88) dL_law_2571 ?_
  refine lv_land hx hb dL_law_2574 ?_
  refine lv_topl (fun x_30 ex_30 => ?_)
  refine lv_lor hx hb dL_law_2575 ?_
  refine lv_topl (fun x_31 ex_31 => ?_)
  obtain ⟨hPc, hDc, hFc⟩ := z_cut (wc := (zV282 (ad 1) (iv 3) (ad 2) (ad 3) (ad 4) (ad 5) (ad 6) (iv 4) (iv 5) (iv 6) (iv 7) (iv 8) (lw 0) (iv 9) (iv 10) (iv 11) (iv 12) (ad 7) (ad 8) (ad 9) (ad 10) (ad 11) (ad 12) (ad 13) (ad 14) (ad 15) (ad 16) (ad 17) (ad 18) (ad 19) (ad 20) (iv 13) (iv 14) (iv 15) (iv 16) (ad 21) (ad 22) (ad 23) (ad 24) (ad 25) (ad 26) (ad 27) (ad 28) (ad 29) (iv 17) (ad 30) (ad 31) (iv 18) (lw 1) (iv 19) (iv 20) (iv 21) (iv 22) (lw 2) (ad 2) (cA 2) (fi 2) (ad 3) (cA 3) (fi 3) (ad 4) (cA 4) (fl 4))) (z_pr hP) (z_dr hD) hS hA [0, 1, 2, 3] rfl (by decide +kernel)
  have hKc := hK.sub (tys' := [((cA 2), .int), ((cA 3), .int), ((cA 4), .long)]) [0, 1, 2] rfl
  refine va_calli (va_runV (As := [.int x_2, .int x_4, .long x_31]) (rest := []) ⟨hx, hb, hml, hown, hts⟩ (k_X10_write_v1 l sa dC dI (ad 1) x_2 x_4 x_31 (iv 3) (ad 2) (ad 3) (ad 4) (ad 5) (ad 6) (iv 4) (iv 5) (iv 6) (iv 7) (iv 8) (lw 0) (iv 9) (iv 10) (iv 11) (iv 12) (ad 7) (ad 8) (ad 9) (ad 10) (ad 11) (ad 12) (ad 13) (ad 14) (ad 15) (ad 16) (ad 17) (ad 18) (ad 19) (ad 20) (iv 13) (iv 14) (iv 15) (iv 16) (ad 21) (ad 22) (ad 23) (ad 24) (ad 25) (ad 26) (ad 27) (ad 28) (ad 29) (iv 17) (ad 30) (ad 31) (iv 18) (lw 1) (iv 19) (iv 20) (iv 21) (iv 22) (lw 2) (cA 2) (fi 2) (cA 3) (fi 3) (cA 4) (fl 4) b_m0_taped b_m0_at b_m0_token b_m0_value b_m0_bad b_m0_strays b_m0_hostCourt b_m0_dayCourt b_m0_dayHour b_f_m0_width b_f_m0_many H.size) (cwV 3 hts (z_gV zw_t7_32 zw_t7_33 zw_t7_34 zw_t1_11 zw_t7_35) rfl rfl rfl (by decide +kernel) ⟨(Nat.le_of_ble_eq_true rfl), (Nat.le_of_ble_eq_true rfl)⟩) (z_preV hPc hKc hDc hN hXs hS hFc (q := (RX10, TX10, 53)) (ci := 10) (q0 := 0) rfl rfl) rfl rfl hl.1 rfl (lv_room (Nat.le_of_ble_eq_true rfl)) dL_law_2576 ⟨(show cells + 0 + 0 ≤ 600000 by omega), (show slots + 0 + 0 ≤ 7302250 by omega)⟩) hS (fun q _ h => hFc q h) hFc (fun r_32 u t H1 locs ht hvm hw hB hz1 hk1 hS => ?_)
  obtain ⟨n_m0_33, n_m0_cells_34, hB⟩ := hB
  obtain ⟨hP, hD, hK⟩ := z_after2X (wn := (zV685 (ad 0) (ad 32) (iv 0) (iv 1) (iv 2) (ad 65) (ad 33) (ad 34) (ad 35) (ad 40) (ad 48) (ad 51) (ad 57) (ad 64) (ad 34) (cA 34) (fo 34) (ad 69) (iv 68) (iv 69) (ad 70) (ad 70) (cA 70) n_r0_numbers_15 (ad 71) (iv 70) (iv 71) (ad 72) (ad 72) (cA 72) n_r1_numbers_16 (ad 73) (iv 72) (iv 73) (ad 74) (ad 74) (cA 74) n_r2_numbers_17 (ad 75) (iv 74) (iv 75) (ad 76) (ad 76) (cA 76) n_r3_numbers_18 (ad 1) n_m0_33 (ad 2) (ad 3) (ad 4) (ad 5) (ad 6) (iv 4) (iv 5) (iv 6) (iv 7) (iv 8) (lw 0) (iv 9) (iv 10) (iv 11) (iv 12) (ad 7) (ad 8) (ad 9) (ad 10) (ad 11) (ad 12) (ad 13) (ad 14) (ad 15) (ad 16) (ad 17) (ad 18) (ad 19) (ad 20) (iv 13) (iv 14) (iv 15) (iv 16) (ad 21) (ad 22) (ad 23) (ad 24) (ad 25) (ad 26) (ad 27) (ad 28) (ad 29) (iv 17) (ad 30) (ad 31) (iv 18) (lw 1) (iv 19) (iv 20) (iv 21) (iv 22) (lw 2) (ad 2) (cA 2) (fi 2) (ad 3) (cA 3) (fi 3) (ad 4) (cA 4) n_m0_cells_34)) hB ht hvm hP hD hK [0, 1, 2, 3] [4, 5, 6, 7, 8, 9, 10, 11, 12, 13] rfl 14 rfl (by decide +kernel) rfl (by decide +kernel) hk1 hFc
  generalize H1 = H at hP hS ⊢
  have hK : va_K (dC, dI) vwCl [((cA 2), .int), ((cA 3), .int), ((cA 4), .long), ((cA 34), .object RX6), ((cA 70), .long), ((cA 72), .long), ((cA 74), .long), ((cA 76), .long)] s := hK
  have b_r_32 : (-7) ≤ r_32.toInt ∧ r_32.toInt ≤ 0 := hw.1
  have s_r_32 := hw.2
  refine lv_pop hx hb dL_law_2579 rfl ?_
  refine lv_goto (tgt := 2646) hx hb dL_law_2580 (by decide) ?_
  rw [hwx] at hP hD
  have hz := z_both (wn := zFull ad cA (zU iv 3 n_m0_33) lw fi (zU (zU (zU (zU (zU fl 4 n_m0_cells_34) 70 n_r0_numbers_15) 72 n_r1_numbers_16) 74 n_r2_numbers_17) 76 n_r3_numbers_18) fo) hP hD [107, 117, 118, 119, 120, 0, 1, 2, 3, 4, 5, 6, 7, 8, 9, 10, 11, 12, 13, 14, 15, 16, 17, 18, 19, 20, 21, 22, 23, 24, 25, 26, 27, 28, 108, 29, 30, 31, 32, 33, 34, 35, 36, 37, 38, 39, 40, 41, 42, 43, 44, 45, 46, 47, 48, 49, 50, 51, 52, 53, 54, 55, 56, 57, 58, 59, 60, 61, 62, 109, 110, 111, 112, 113, 114, 115, 116, 63, 64, 65, 66, 67, 68, 69, 70, 71, 72, 73, 74, 75, 76, 77, 78, 79, 80, 81, 82, 83, 84, 85, 86, 87, 88, 89, 90, 91, 92, 93, 94, 95, 96, 97, 98, 99, 100, 101, 102, 103, 104, 105, 106] (by decide +kernel) rfl
  exact hk ad cA (zU iv 3 n_m0_33) lw fi (zU (zU (zU (zU (zU fl 4 n_m0_cells_34) 70 n_r0_numbers_15) 72 n_r1_numbers_16) 74 n_r2_numbers_17) 76 n_r3_numbers_18) fo _ _ _ ⟨b_h0_tapeLength, b_m0_taped, b_m0_at, b_m0_token, b_m0_value, b_m0_bad, b_m0_strays, b_m0_hostCourt, b_m0_dayCourt, b_m0_dayHour, b_f_m0_width, b_f_m0_many, b_f_m0_hours, b_f_m0_courts, b_f_m0_in, b_f_m0_gates, b_f_m0_gate, b_f_m0_people, b_f_m0_at0, b_f_m0_stray, b_f_m0_set, b_f_m0_known, b_f_m0_isKept, b_f_m0_digit, him0, him1, him2, hsl0, hsl1, hsl2, hsl3, b_rd_tokens, b_rd_at, b_rd_strayCount, b_rd_lawTold, b_rd_falseTold, b_f_rd_kinds, b_f_rd_starts, b_f_rd_stops, b_f_rd_values, b_wk_firstGate, b_wk_firstHour, b_f_wk_costs, b_f_wk_lower, b_ch_lastHour, b_ch_unsureCount, b_f_ch_unsure, b_f_ch_seats, b_f_ch_worth, b_f_ch_digits, b_dy_court, b_dy_hour, b_nw_isKept, b_nw_names, b_i0_isKept, b_i0_names, b_i1_isKept, b_i1_names, b_i2_isKept, b_i2_names, b_r0_size, b_r1_size, b_r2_size, b_r3_size, b_g0_hours, b_g0_courts, b_g0_gateCount, b_g0_people, b_g0_falseHours, b_g0_deep, b_f_g0_degrees, b_f_g0_neighbours, b_f_g0_oneEnd, b_f_g0_otherEnd, b_f_g0_told, b_f_g0_strayParts, b_f_g0_strayCourts, b_g1_hours, b_g1_courts, b_g1_gateCount, b_g1_people, b_g1_falseHours, b_g1_deep, b_f_g1_degrees, b_f_g1_neighbours, b_f_g1_oneEnd, b_f_g1_otherEnd, b_f_g1_told, b_f_g1_strayParts, b_f_g1_strayCourts, b_g2_hours, b_g2_courts, b_g2_gateCount, b_g2_people, b_g2_falseHours, b_g2_deep, b_f_g2_degrees, b_f_g2_neighbours, b_f_g2_oneEnd, b_f_g2_otherEnd, b_f_g2_told, b_f_g2_strayParts, b_f_g2_strayCourts, b_g3_hours, b_g3_courts, b_g3_gateCount, b_g3_people, b_g3_falseHours, b_g3_deep, b_f_g3_degrees, b_f_g3_neighbours, b_f_g3_oneEnd, b_f_g3_otherEnd, b_f_g3_told, b_f_g3_strayParts, b_f_g3_strayCourts, tw0, tw1, tw2, tw3, hmd, hit0, hit1, hit2, rtl, rkp0, rkp1, rkp2, rwd0, rwd1, rwd2, rwd3, rsz0, rsz1, rsz2, rsz3⟩ hz.1 hz.2 hKz hS (lv_sub hl [0, 1, 2, 3] rfl)
set_option maxHeartbeats 8000000 in
set_option maxRecDepth 100000 in
theorem law_paste {p : Program} {e : Env} {s : State} {m : MethodId} {below : List Frame} {meth : Method} {c : Code} {l : Launch} {b L : Nat} {xs : Nat → Int32} (C0 : lw_At p s m meth c b L xs) {sa : Nat → Nat} {dC : Nat → ClassId} {dI : Nat → Nat → Nat} {A : Nat → Prop} (hA : ∀ q, s.heap.size ≤ q → A q) (hA2 : ∀ q, A q → s.heap.size ≤ q) (hN : zN s) (hXs : zX sa A s s.heap) {ad : Nat → Nat} {cA : Nat → ClassId} {iv : Nat → Int32} {lw : Nat → Int64} {fi : Nat → Nat → Int32} {fl : Nat → Nat → Int64} {fo : Nat → Nat → Option Nat} {H : Heap} {locs : List Loc} {ls : Array Slot} {i0 : Int32} {cells slots : Nat} (hcs : cells + 11 ≤ 600000 ∧ slots + 690 ≤ 7302250) (hi : 0 ≤ i0.toInt ∧ i0.toInt + 6 ≤ (L : Int) ∧ L ≤ 3072) (hF : zFacts ad cA iv lw fi fl fo) (hP : va_P (dC, dI) vwCl (zFull ad cA iv lw fi fl fo) H) (hD : va_D A (zFull ad cA iv lw fi fl fo)) (hK : va_K (dC, dI) vwCl (zTys cA) s) (hS : va_S A s.heap H locs) (hl : lv_has ls 4 [(3, .int i0), (2, .ref (ad 1)), (1, .ref (ad 0)), (0, .ref b)]) (hk : ∀ (ad : Nat → Nat) (cA : Nat → ClassId) (iv : Nat → Int32) (lw : Nat → Int64) (fi : Nat → Nat → Int32) (fl : Nat → Nat → Int64) (fo : Nat → Nat → Option Nat) (H : Heap) (locs : List Loc) (ls : Array Slot), (zFacts ad cA iv lw fi fl fo) → va_P (dC, dI) vwCl (zFull ad cA iv lw fi fl fo) H → va_D A (zFull ad cA iv lw fi fl fo) → va_K (dC, dI) vwCl (zTys cA) s → va_S A s.heap H locs → lv_has ls 4 [(3, .int i0), (2, .ref (ad 1)), (1, .ref (ad 0)), (0, .ref b)] → W p l e room_1 s m #[Value.ref b] below meth c H locs cells slots (lw_Z below #[Value.ref b] s) (F0 m 2646 ls [])) : W p l e room_1 s m #[Value.ref b] below meth c H locs cells slots (lw_Z below #[Value.ref b] s) (F0 m 2583 ls []) := by
  obtain ⟨hx, hb, hr, hml, hown, hts, hX, hbl, hlocks, hgv⟩ := id C0
  have hown : s.vm.findClass RL = some m.cls := hown
  have hb : c.code = cL_law := hb
  have hts : ∀ w ∈ zT, w.before #[Value.ref b] s = true := fun w h => hts w (zT_in w h)
  have hbA : ¬ A b := fun q => absurd (hA2 b q) (Nat.not_le.mpr hbl)
  refine zFe hF (fun b_h0_tapeLength b_m0_taped b_m0_at b_m0_token b_m0_value b_m0_bad b_m0_strays b_m0_hostCourt b_m0_dayCourt b_m0_dayHour b_f_m0_width b_f_m0_many b_f_m0_hours b_f_m0_courts b_f_m0_in b_f_m0_gates b_f_m0_gate b_f_m0_people b_f_m0_at0 b_f_m0_stray b_f_m0_set b_f_m0_known b_f_m0_isKept b_f_m0_digit him0 him1 him2 hsl0 hsl1 hsl2 hsl3 b_rd_tokens b_rd_at b_rd_strayCount b_rd_lawTold b_rd_falseTold b_f_rd_kinds b_f_rd_starts b_f_rd_stops b_f_rd_values b_wk_firstGate b_wk_firstHour b_f_wk_costs b_f_wk_lower b_ch_lastHour b_ch_unsureCount b_f_ch_unsure b_f_ch_seats b_f_ch_worth b_f_ch_digits b_dy_court b_dy_hour b_nw_isKept b_nw_names b_i0_isKept b_i0_names b_i1_isKept b_i1_names b_i2_isKept b_i2_names b_r0_size b_r1_size b_r2_size b_r3_size b_g0_hours b_g0_courts b_g0_gateCount b_g0_people b_g0_falseHours b_g0_deep b_f_g0_degrees b_f_g0_neighbours b_f_g0_oneEnd b_f_g0_otherEnd b_f_g0_told b_f_g0_strayParts b_f_g0_strayCourts b_g1_hours b_g1_courts b_g1_gateCount b_g1_people b_g1_falseHours b_g1_deep b_f_g1_degrees b_f_g1_neighbours b_f_g1_oneEnd b_f_g1_otherEnd b_f_g1_told b_f_g1_strayParts b_f_g1_strayCourts b_g2_hours b_g2_courts b_g2_gateCount b_g2_people b_g2_falseHours b_g2_deep b_f_g2_degrees b_f_g2_neighbours b_f_g2_oneEnd b_f_g2_otherEnd b_f_g2_told b_f_g2_strayParts b_f_g2_strayCourts b_g3_hours b_g3_courts b_g3_gateCount b_g3_people b_g3_falseHours b_g3_deep b_f_g3_degrees b_f_g3_neighbours b_f_g3_oneEnd b_f_g3_otherEnd b_f_g3_told b_f_g3_strayParts b_f_g3_strayCourts tw0 tw1 tw2 tw3 hmd hit0 hit1 hit2 rtl rkp0 rkp1 rkp2 rwd0 rwd1 rwd2 rwd3 rsz0 rsz1 rsz2 rsz3 => ?_)
  have hic := hmd.ic
  have hih := hmd.ih
  have hc4 := hmd.c4
  obtain ⟨wx, hwx⟩ : ∃ w : va_W, w = [((ad 6), .inl ((cA 6), 1600, .inl (fi 6))), ((ad 7), .inl ((cA 7), 5, .inl (fi 7))), ((ad 8), .inl ((cA 8), 5, .inl (fi 8))), ((ad 9), .inl ((cA 9), 5, .inl (fi 9))), ((ad 10), .inl ((cA 10), 50, .inl (fi 10))), ((ad 11), .inl ((cA 11), 5, .inl (fi 11))), ((ad 12), .inl ((cA 12), 160, .inl (fi 12))), ((ad 13), .inl ((cA 13), 5, .inl (fi 13))), ((ad 14), .inl ((cA 14), 2400, .inl (fi 14))), ((ad 15), .inl ((cA 15), 100, .inl (fi 15))), ((ad 16), .inl ((cA 16), 10, .inl (fi 16))), ((ad 17), .inl ((cA 17), 10, .inl (fi 17))), ((ad 18), .inl ((cA 18), 10, .inl (fi 18))), ((ad 19), .inl ((cA 19), 50, .inl (fi 19))), ((ad 20), .inl ((cA 20), 3, .inl (fi 20))), ((ad 21), .inl ((cA 21), 480, .inl (fi 21))), ((ad 22), .inl ((cA 22), 49, .inl (fi 22))), ((ad 23), .inl ((cA 23), 490, .inl (fi 23))), ((ad 24), .inl ((cA 24), 10, .inr (.inl (fl 24)))), ((ad 25), .inl ((cA 25), 10, .inr (.inl (fl 25)))), ((ad 26), .inl ((cA 26), 100, .inl (fi 26))), ((ad 27), .inl ((cA 27), 100, .inl (fi 27))), ((ad 28), .inl ((cA 28), 1000, .inl (fi 28))), ((ad 29), .inl ((cA 29), 1000, .inl (fi 29))), ((ad 30), .inl ((cA 30), 39690, .inr (.inl (fl 30)))), ((ad 31), .inl ((cA 31), 10, .inl (fi 31))), ((ad 32), .inl ((cA 32), 1600, .inl (fi 32))), ((ad 33), .inl ((cA 33), 3, .inr (.inr (.inr (.inr (fo 33)))))), ((ad 35), .inr (5, [.int (iv 23), .int (iv 24), .ref (ad 121), .ref (ad 36), .ref (ad 37), .ref (ad 38), .ref (ad 39), .int (iv 25), .int (iv 26), .ref (ad 122), .int (iv 27), .int (iv 28), .int (iv 29)])), ((ad 36), .inl ((cA 36), 1601, .inl (fi 36))), ((ad 37), .inl ((cA 37), 1601, .inl (fi 37))), ((ad 38), .inl ((cA 38), 1601, .inl (fi 38))), ((ad 39), .inl ((cA 39), 1601, .inl (fi 39))), ((ad 40), .inr (8, [.int (iv 30), .int (iv 31), .int (iv 32), .ref (ad 123), .ref (ad 41), .ref (ad 42), .ref (ad 43), .ref (ad 44), .ref (ad 45), .ref (ad 46), .ref (ad 47)])), ((ad 41), .inl ((cA 41), 48, .inl (fi 41))), ((ad 42), .inl ((cA 42), 48, .inl (fi 42))), ((ad 43), .inl ((cA 43), 10, .inl (fi 43))), ((ad 44), .inl ((cA 44), 10, .inl (fi 44))), ((ad 45), .inl ((cA 45), 10, .inl (fi 45))), ((ad 46), .inl ((cA 46), 10, .inr (.inl (fl 46)))), ((ad 47), .inl ((cA 47), 10, .inr (.inl (fl 47)))), ((ad 48), .inr (2, [.ref (ad 124), .int (iv 33), .ref (ad 49), .ref (ad 50)])), ((ad 49), .inl ((cA 49), 160, .inr (.inl (fl 49)))), ((ad 50), .inl ((cA 50), 160, .inr (.inl (fl 50)))), ((ad 51), .inr (4, [.ref (ad 52), .ref (ad 53), .ref (ad 54), .ref (ad 55), .ref (ad 56)])), ((ad 52), .inl ((cA 52), 10, .inl (fi 52))), ((ad 53), .inl ((cA 53), 10, .inl (fi 53))), ((ad 54), .inl ((cA 54), 100, .inl (fi 54))), ((ad 55), .inl ((cA 55), 100, .inl (fi 55))), ((ad 56), .inl ((cA 56), 100, .inl (fi 56))), ((ad 57), .inr (0, [.ref (ad 125), .int (iv 34), .int (iv 35), .int (iv 36), .int (iv 37), .ref (ad 58), .ref (ad 59), .int (iv 38), .int (iv 39), .ref (ad 60), .int (iv 40), .ref (ad 61), .ref (ad 62), .ref (ad 63), .int (iv 41), .int (iv 42), .int (iv 43)])), ((ad 58), .inl ((cA 58), 4, .inl (fi 58))), ((ad 59), .inl ((cA 59), 10, .inl (fi 59))), ((ad 60), .inl ((cA 60), 38880, .inl (fi 60))), ((ad 61), .inl ((cA 61), 4, .inl (fi 61))), ((ad 62), .inl ((cA 62), 4, .inl (fi 62))), ((ad 63), .inl ((cA 63), 4, .inl (fi 63))), ((ad 64), .inr (1, [.int (iv 44), .int (iv 45), .int (iv 46), .int (iv 47)])), ((ad 65), .inr (3, [.int (iv 48), .ref (ad 77), .int (iv 49), .int (iv 50), .int (iv 51), .int (iv 52)])), ((ad 66), .inr (3, [.int (iv 53), .ref (ad 126), .int (iv 54), .int (iv 55), .int (iv 56), .int (iv 57)])), ((ad 67), .inr (3, [.int (iv 58), .ref (ad 127), .int (iv 59), .int (iv 60), .int (iv 61), .int (iv 62)])), ((ad 68), .inr (3, [.int (iv 63), .ref (ad 128), .int (iv 64), .int (iv 65), .int (iv 66), .int (iv 67)])), ((ad 77), .inr (7, [.int (iv 76), .int (iv 77), .int (iv 78), .int (iv 79), .int (iv 80), .int (iv 81), .int (iv 82), .int (iv 83), .ref (ad 78), .ref (ad 79), .ref (ad 80), .ref (ad 81), .ref (ad 82), .ref (ad 83), .ref (ad 84), .ref (ad 85), .ref (ad 86), .ref (ad 87)])), ((ad 78), .inl ((cA 78), 10, .inl (fi 78))), ((ad 79), .inl ((cA 79), 10, .inl (fi 79))), ((ad 80), .inl ((cA 80), 10, .inl (fi 80))), ((ad 81), .inl ((cA 81), 100, .inl (fi 81))), ((ad 82), .inl ((cA 82), 10, .inl (fi 82))), ((ad 83), .inl ((cA 83), 16, .inl (fi 83))), ((ad 84), .inl ((cA 84), 16, .inl (fi 84))), ((ad 85), .inl ((cA 85), 480, .inl (fi 85))), ((ad 86), .inl ((cA 86), 10, .inl (fi 86))), ((ad 87), .inl ((cA 87), 10, .inl (fi 87))), ((ad 88), .inr (7, [.int (iv 84), .int (iv 85), .int (iv 86), .int (iv 87), .int (iv 88), .int (iv 89), .int (iv 90), .int (iv 91), .ref (ad 89), .ref (ad 90), .ref (ad 91), .ref (ad 92), .ref (ad 93), .ref (ad 94), .ref (ad 95), .ref (ad 96), .ref (ad 97), .ref (ad 98)])), ((ad 89), .inl ((cA 89), 10, .inl (fi 89))), ((ad 90), .inl ((cA 90), 10, .inl (fi 90))), ((ad 91), .inl ((cA 91), 10, .inl (fi 91))), ((ad 92), .inl ((cA 92), 100, .inl (fi 92))), ((ad 93), .inl ((cA 93), 10, .inl (fi 93))), ((ad 94), .inl ((cA 94), 16, .inl (fi 94))), ((ad 95), .inl ((cA 95), 16, .inl (fi 95))), ((ad 96), .inl ((cA 96), 480, .inl (fi 96))), ((ad 97), .inl ((cA 97), 10, .inl (fi 97))), ((ad 98), .inl ((cA 98), 10, .inl (fi 98))), ((ad 99), .inr (7, [.int (iv 92), .int (iv 93), .int (iv 94), .int (iv 95), .int (iv 96), .int (iv 97), .int (iv 98), .int (iv 99), .ref (ad 100), .ref (ad 101), .ref (ad 102), .ref (ad 103), .ref (ad 104), .ref (ad 105), .ref (ad 106), .ref (ad 107), .ref (ad 108), .ref (ad 109)])), ((ad 100), .inl ((cA 100), 10, .inl (fi 100))), ((ad 101), .inl ((cA 101), 10, .inl (fi 101))), ((ad 102), .inl ((cA 102), 10, .inl (fi 102))), ((ad 103), .inl ((cA 103), 100, .inl (fi 103))), ((ad 104), .inl ((cA 104), 10, .inl (fi 104))), ((ad 105), .inl ((cA 105), 16, .inl (fi 105))), ((ad 106), .inl ((cA 106), 16, .inl (fi 106))), ((ad 107), .inl ((cA 107), 480, .inl (fi 107))), ((ad 108), .inl ((cA 108), 10, .inl (fi 108))), ((ad 109), .inl ((cA 109), 10, .inl (fi 109))), ((ad 110), .inr (7, [.int (iv 100), .int (iv 101), .int (iv 102), .int (iv 103), .int (iv 104), .int (iv 105), .int (iv 106), .int (iv 107), .ref (ad 111), .ref (ad 112), .ref (ad 113), .ref (ad 114), .ref (ad 115), .ref (ad 116), .ref (ad 117), .ref (ad 118), .ref (ad 119), .ref (ad 120)])), ((ad 111), .inl ((cA 111), 10, .inl (fi 111))), ((ad 112), .inl ((cA 112), 10, .inl (fi 112))), ((ad 113), .inl ((cA 113), 10, .inl (fi 113))), ((ad 114), .inl ((cA 114), 100, .inl (fi 114))), ((ad 115), .inl ((cA 115), 10, .inl (fi 115))), ((ad 116), .inl ((cA 116), 16, .inl (fi 116))), ((ad 117), .inl ((cA 117), 16, .inl (fi 117))), ((ad 118), .inl ((cA 118), 480, .inl (fi 118))), ((ad 119), .inl ((cA 119), 10, .inl (fi 119))), ((ad 120), .inl ((cA 120), 10, .inl (fi 120)))] := ⟨_, rfl⟩
  obtain ⟨hP, hD⟩ := z_both (wn := wx ++ [((ad 0), .inr (9, [.ref (ad 32), .int (iv 0), .int (iv 1), .int (iv 2), .ref (ad 65), .ref (ad 33), .ref (ad 34), .ref (ad 35), .ref (ad 40), .ref (ad 48), .ref (ad 51), .ref (ad 57), .ref (ad 64)])), ((ad 1), .inr (10, [.int (iv 3), .ref (ad 2), .ref (ad 3), .ref (ad 4), .ref (ad 5), .ref (ad 6), .int (iv 4), .int (iv 5), .int (iv 6), .int (iv 7), .int (iv 8), .long (lw 0), .int (iv 9), .int (iv 10), .int (iv 11), .int (iv 12), .ref (ad 7), .ref (ad 8), .ref (ad 9), .ref (ad 10), .ref (ad 11), .ref (ad 12), .ref (ad 13), .ref (ad 14), .ref (ad 15), .ref (ad 16), .ref (ad 17), .ref (ad 18), .ref (ad 19), .ref (ad 20), .int (iv 13), .int (iv 14), .int (iv 15), .int (iv 16), .ref (ad 21), .ref (ad 22), .ref (ad 23), .ref (ad 24), .ref (ad 25), .ref (ad 26), .ref (ad 27), .ref (ad 28), .ref (ad 29), .int (iv 17), .ref (ad 30), .ref (ad 31), .int (iv 18), .long (lw 1), .int (iv 19), .int (iv 20), .int (iv 21), .int (iv 22), .long (lw 2)])), ((ad 2), .inl ((cA 2), 4, .inl (fi 2))), ((ad 3), .inl ((cA 3), 4, .inl (fi 3))), ((ad 4), .inl ((cA 4), 240, .inr (.inl (fl 4)))), ((ad 5), .inl ((cA 5), 60, .inr (.inl (fl 5)))), ((ad 34), .inl ((cA 34), 4, .inr (.inr (.inr (.inr (fo 34)))))), ((ad 69), .inr (6, [.int (iv 68), .int (iv 69), .ref (ad 70)])), ((ad 70), .inl ((cA 70), 60, .inr (.inl (fl 70)))), ((ad 71), .inr (6, [.int (iv 70), .int (iv 71), .ref (ad 72)])), ((ad 72), .inl ((cA 72), 60, .inr (.inl (fl 72)))), ((ad 73), .inr (6, [.int (iv 72), .int (iv 73), .ref (ad 74)])), ((ad 74), .inl ((cA 74), 60, .inr (.inl (fl 74)))), ((ad 75), .inr (6, [.int (iv 74), .int (iv 75), .ref (ad 76)])), ((ad 76), .inl ((cA 76), 60, .inr (.inl (fl 76))))]) hP hD [6, 7, 8, 9, 10, 11, 12, 13, 14, 15, 16, 17, 18, 19, 20, 21, 22, 23, 24, 25, 26, 27, 28, 29, 30, 31, 32, 33, 35, 36, 37, 38, 39, 40, 41, 42, 43, 44, 45, 46, 47, 48, 49, 50, 51, 52, 53, 54, 55, 56, 57, 58, 59, 60, 61, 62, 63, 64, 65, 66, 67, 68, 77, 78, 79, 80, 81, 82, 83, 84, 85, 86, 87, 88, 89, 90, 91, 92, 93, 94, 95, 96, 97, 98, 99, 100, 101, 102, 103, 104, 105, 106, 107, 108, 109, 110, 111, 112, 113, 114, 115, 116, 117, 118, 119, 120, 0, 1, 2, 3, 4, 5, 34, 69, 70, 71, 72, 73, 74, 75, 76] (by decide +kernel) (by rw [hwx]; rfl)
  have hKz := hK
  have hK : va_K (dC, dI) vwCl [((cA 2), .int), ((cA 3), .int), ((cA 4), .long), ((cA 5), .long), ((cA 34), .object RX6), ((cA 70), .long), ((cA 72), .long), ((cA 74), .long), ((cA 76), .long)] s := hK.sub [0, 1, 2, 3, 32, 57, 58, 59, 60] rfl
  refine lv_aload_n hx hb dL_law_2583 rfl (lv_at hl 2 rfl) ?_
  refine lv_aload_n hx hb dL_law_2584 rfl (lv_at hl 3 rfl) ?_
  refine lv_iload_n hx hb dL_law_2585 rfl (lv_at hl 0 rfl) ?_
  refine lv_iconst (v := 1) hx hb dL_law_2586 (by decide) ?_
  refine lv_iadd hx hb dL_law_2587 ?_
  refine lv_topi (fun x_1 ex_1 => ?_)
  have b_x_1 : x_1.toInt = i0.toInt + 1 := zs_add ex_1 hi (show Int32.toInt 1 = 1 from by decide) (by decide)
  refine va_sld hx hb hX hbl hbA hS (zs_in b_x_1 hi (by decide)) dL_law_2588 ?_
  refine lv_topi (fun x_2 ex_2 => ?_)
  refine lv_aload_n hx hb dL_law_2589 rfl (lv_at hl 3 rfl) ?_
  refine lv_iload_n hx hb dL_law_2590 rfl (lv_at hl 0 rfl) ?_
  refine lv_iconst (v := 2) hx hb dL_law_2591 (by decide) ?_
  refine lv_iadd hx hb dL_law_2592 ?_
  refine lv_topi (fun x_3 ex_3 => ?_)
  have b_x_3 : x_3.toInt = i0.toInt + 2 := zs_add ex_3 hi (show Int32.toInt 2 = 2 from by decide) (by decide)
  refine va_sld hx hb hX hbl hbA hS (zs_in b_x_3 hi (by decide)) dL_law_2593 ?_
  refine lv_topi (fun x_4 ex_4 => ?_)
  refine lv_aload_n hx hb dL_law_2594 rfl (lv_at hl 3 rfl) ?_
  refine lv_iload_n hx hb dL_law_2595 rfl (lv_at hl 0 rfl) ?_
  refine lv_iconst (v := 3) hx hb dL_law_2596 (by decide) ?_
  refine lv_iadd hx hb dL_law_2597 ?_
  refine lv_topi (fun x_5 ex_5 => ?_)
  have b_x_5 : x_5.toInt = i0.toInt + 3 := zs_add ex_5 hi (show Int32.toInt 3 = 3 from by decide) (by decide)
  refine va_sld hx hb hX hbl hbA hS (zs_in b_x_5 hi (by decide)) dL_law_2598 ?_
  refine lv_topi (fun x_6 ex_6 => ?_)
  refine lv_aload_n hx hb dL_law_2599 rfl (lv_at hl 3 rfl) ?_
  refine lv_iload_n hx hb dL_law_2600 rfl (lv_at hl 0 rfl) ?_
  refine lv_iconst (v := 4) hx hb dL_law_2601 (by decide) ?_
  refine lv_iadd hx hb dL_law_2602 ?_
  refine lv_topi (fun x_7 ex_7 => ?_)
  have b_x_7 : x_7.toInt = i0.toInt + 4 := zs_add ex_7 hi (show Int32.toInt 4 = 4 from by decide) (by decide)
  refine va_sld hx hb hX hbl hbA hS (zs_in b_x_7 hi (by decide)) dL_law_2603 ?_
  refine lv_topi (fun x_8 ex_8 => ?_)
  refine lv_aload_n hx hb dL_law_2604 rfl (lv_at hl 3 rfl) ?_
  refine lv_iload_n hx hb dL_law_2605 rfl (lv_at hl 0 rfl) ?_
  refine lv_iconst (v := 5) hx hb dL_law_2606 (by decide) ?_
  refine lv_iadd hx hb dL_law_2607 ?_
  refine lv_topi (fun x_9 ex_9 => ?_)
  have b_x_9 : x_9.toInt = i0.toInt + 5 := zs_add ex_9 hi (show Int32.toInt 5 = 5 from by decide) (by decide)
  refine va_sld hx hb hX hbl hbA hS (zs_in b_x_9 hi (by decide)) dL_law_2608 ?_
  refine lv_topi (fun x_10 ex_10 => ?_)
  obtain ⟨hPc, hDc, hFc⟩ := z_cut (wc := (zV166 (ad 0) (ad 32) (iv 0) (iv 1) (iv 2) (ad 65) (ad 33) (ad 34) (ad 35) (ad 40) (ad 48) (ad 51) (ad 57) (ad 64) (ad 34) (cA 34) (fo 34) (ad 69) (iv 68) (iv 69) (ad 70) (ad 70) (cA 70) (fl 70) (ad 71) (iv 70) (iv 71) (ad 72) (ad 72) (cA 72) (fl 72) (ad 73) (iv 72) (iv 73) (ad 74) (ad 74) (cA 74) (fl 74) (ad 75) (iv 74) (iv 75) (ad 76) (ad 76) (cA 76) (fl 76))) (z_pr hP) (z_dr hD) hS hA [0, 6, 7, 8, 9, 10, 11, 12, 13, 14] rfl (by decide +kernel)
  have hKc := hK.sub (tys' := [((cA 34), .object RX6), ((cA 70), .long), ((cA 72), .long), ((cA 74), .long), ((cA 76), .long)]) [4, 5, 6, 7, 8] rfl
  refine va_calli (va_runV (As := [.int x_2, .int x_4, .int x_6, .int x_8, .int x_10]) (rest := []) ⟨hx, hb, hml, hown, hts⟩ (k_X9_paste_v1 l sa dC dI (ad 0) x_2 x_4 x_6 x_8 x_10 (ad 32) (iv 0) (iv 1) (iv 2) (ad 65) (ad 33) (ad 34) (ad 35) (ad 40) (ad 48) (ad 51) (ad 57) (ad 64) (cA 34) (fo 34) (ad 69) (ad 71) (ad 73) (ad 75) (iv 68) (iv 69) (ad 70) (cA 70) (fl 70) (iv 70) (iv 71) (ad 72) (cA 72) (fl 72) (iv 72) (iv 73) (ad 74) (cA 74) (fl 74) (iv 74) (iv 75) (ad 76) (cA 76) (fl 76) b_h0_tapeLength hsl0 hsl1 hsl2 hsl3 b_r0_size b_r1_size b_r2_size b_r3_size H.size) (cwV 5 hts (z_gV zw_t6_88 zw_t6_89 zw_t6_90 zw_t1_1 zw_t6_91) rfl rfl rfl (by decide +kernel) ⟨(Nat.le_of_ble_eq_true rfl), (Nat.le_of_ble_eq_true rfl)⟩) (z_preV hPc hKc hDc hN hXs hS hFc (q := (RX9, TX9, 13)) (ci := 9) (q0 := 0) rfl rfl) rfl rfl hl.1 rfl (lv_room (Nat.le_of_ble_eq_true rfl)) dL_law_2609 ⟨(show cells + 0 + 0 ≤ 600000 by omega), (show slots + 0 + 0 ≤ 7302250 by omega)⟩) hS (fun q _ h => hFc q h) hFc (fun r_11 u t H1 locs ht hvm hw hB hz1 hk1 hS => ?_)
  obtain ⟨n_r0_numbers_12, n_r1_numbers_13, n_r2_numbers_14, n_r3_numbers_15, hB⟩ := hB
  obtain ⟨hP, hD, hK⟩ := z_after2X (wn := [((ad 1), .inr (10, [.int (iv 3), .ref (ad 2), .ref (ad 3), .ref (ad 4), .ref (ad 5), .ref (ad 6), .int (iv 4), .int (iv 5), .int (iv 6), .int (iv 7), .int (iv 8), .long (lw 0), .int (iv 9), .int (iv 10), .int (iv 11), .int (iv 12), .ref (ad 7), .ref (ad 8), .ref (ad 9), .ref (ad 10), .ref (ad 11), .ref (ad 12), .ref (ad 13), .ref (ad 14), .ref (ad 15), .ref (ad 16), .ref (ad 17), .ref (ad 18), .ref (ad 19), .ref (ad 20), .int (iv 13), .int (iv 14), .int (iv 15), .int (iv 16), .ref (ad 21), .ref (ad 22), .ref (ad 23), .ref (ad 24), .ref (ad 25), .ref (ad 26), .ref (ad 27), .ref (ad 28), .ref (ad 29), .int (iv 17), .ref (ad 30), .ref (ad 31), .int (iv 18), .long (lw 1), .int (iv 19), .int (iv 20), .int (iv 21), .int (iv 22), .long (lw 2)])), ((ad 2), .inl ((cA 2), 4, .inl (fi 2))), ((ad 3), .inl ((cA 3), 4, .inl (fi 3))), ((ad 4), .inl ((cA 4), 240, .inr (.inl (fl 4)))), ((ad 5), .inl ((cA 5), 60, .inr (.inl (fl 5)))), ((ad 0), .inr (9, [.ref (ad 32), .int (iv 0), .int (iv 1), .int (iv 2), .ref (ad 65), .ref (ad 33), .ref (ad 34), .ref (ad 35), .ref (ad 40), .ref (ad 48), .ref (ad 51), .ref (ad 57), .ref (ad 64)])), ((ad 34), .inl ((cA 34), 4, .inr (.inr (.inr (.inr (fo 34)))))), ((ad 69), .inr (6, [.int (iv 68), .int (iv 69), .ref (ad 70)])), ((ad 70), .inl ((cA 70), 60, .inr (.inl n_r0_numbers_12))), ((ad 71), .inr (6, [.int (iv 70), .int (iv 71), .ref (ad 72)])), ((ad 72), .inl ((cA 72), 60, .inr (.inl n_r1_numbers_13))), ((ad 73), .inr (6, [.int (iv 72), .int (iv 73), .ref (ad 74)])), ((ad 74), .inl ((cA 74), 60, .inr (.inl n_r2_numbers_14))), ((ad 75), .inr (6, [.int (iv 74), .int (iv 75), .ref (ad 76)])), ((ad 76), .inl ((cA 76), 60, .inr (.inl n_r3_numbers_15)))]) hB ht hvm hP hD hK [0, 6, 7, 8, 9, 10, 11, 12, 13, 14] [1, 2, 3, 4, 5] rfl 15 rfl (by decide +kernel) rfl (by decide +kernel) hk1 hFc
  generalize H1 = H at hP hS ⊢
  have hK : va_K (dC, dI) vwCl [((cA 2), .int), ((cA 3), .int), ((cA 4), .long), ((cA 5), .long), ((cA 34), .object RX6), ((cA 70), .long), ((cA 72), .long), ((cA 74), .long), ((cA 76), .long)] s := hK
  have b_r_11 : (-8) ≤ r_11.toInt ∧ r_11.toInt ≤ 0 := hw.1
  have s_r_11 := hw.2
  refine lv_aload_n hx hb dL_law_2612 rfl (lv_at hl 1 rfl) ?_
  refine lv_aload_n hx hb dL_law_2613 rfl (lv_at hl 3 rfl) ?_
  refine lv_iload_n hx hb dL_law_2614 rfl (lv_at hl 0 rfl) ?_
  refine lv_iconst (v := 1) hx hb dL_law_2615 (by decide) ?_
  refine lv_iadd hx hb dL_law_2616 ?_
  refine lv_topi (fun x_16 ex_16 => ?_)
  have b_x_16 : x_16.toInt = i0.toInt + 1 := zs_add ex_16 hi (show Int32.toInt 1 = 1 from by decide) (by decide)
  refine va_sld hx hb hX hbl hbA hS (zs_in b_x_16 hi (by decide)) dL_law_2617 ?_
  refine lv_topi (fun x_17 ex_17 => ?_)
  obtain rfl : x_1 = x_16 := zs_eq b_x_1 b_x_16
  obtain rfl : x_2 = x_17 := ex_2.trans ex_17.symm
  refine lv_aload_n hx hb dL_law_2618 rfl (lv_at hl 3 rfl) ?_
  refine lv_iload_n hx hb dL_law_2619 rfl (lv_at hl 0 rfl) ?_
  refine lv_iconst (v := 2) hx hb dL_law_2620 (by decide) ?_
  refine lv_iadd hx hb dL_law_2621 ?_
  refine lv_topi (fun x_18 ex_18 => ?_)
  have b_x_18 : x_18.toInt = i0.toInt + 2 := zs_add ex_18 hi (show Int32.toInt 2 = 2 from by decide) (by decide)
  refine va_sld hx hb hX hbl hbA hS (zs_in b_x_18 hi (by decide)) dL_law_2622 ?_
  refine lv_topi (fun x_19 ex_19 => ?_)
  obtain rfl : x_3 = x_18 := zs_eq b_x_3 b_x_18
  obtain rfl : x_4 = x_19 := ex_4.trans ex_19.symm
  refine lv_aload_n hx hb dL_law_2623 rfl (lv_at hl 3 rfl) ?_
  refine lv_iload_n hx hb dL_law_2624 rfl (lv_at hl 0 rfl) ?_
  refine lv_iconst (v := 3) hx hb dL_law_2625 (by decide) ?_
  refine lv_iadd hx hb dL_law_2626 ?_
  refine lv_topi (fun x_20 ex_20 => ?_)
  have b_x_20 : x_20.toInt = i0.toInt + 3 := zs_add ex_20 hi (show Int32.toInt 3 = 3 from by decide) (by decide)
  refine va_sld hx hb hX hbl hbA hS (zs_in b_x_20 hi (by decide)) dL_law_2627 ?_
  refine lv_topi (fun x_21 ex_21 => ?_)
  obtain rfl : x_5 = x_20 := zs_eq b_x_5 b_x_20
  obtain rfl : x_6 = x_21 := ex_6.trans ex_21.symm
  refine lv_aload_n hx hb dL_law_2628 rfl (lv_at hl 3 rfl) ?_
  refine lv_iload_n hx hb dL_law_2629 rfl (lv_at hl 0 rfl) ?_
  refine lv_iconst (v := 4) hx hb dL_law_2630 (by decide) ?_
  refine lv_iadd hx hb dL_law_2631 ?_
  refine lv_topi (fun x_22 ex_22 => ?_)
  have b_x_22 : x_22.toInt = i0.toInt + 4 := zs_add ex_22 hi (show Int32.toInt 4 = 4 from by decide) (by decide)
  refine va_sld hx hb hX hbl hbA hS (zs_in b_x_22 hi (by decide)) dL_law_2632 ?_
  refine lv_topi (fun x_23 ex_23 => ?_)
  obtain rfl : x_7 = x_22 := zs_eq b_x_7 b_x_22
  obtain rfl : x_8 = x_23 := ex_8.trans ex_23.symm
  refine lv_aload_n hx hb dL_law_2633 rfl (lv_at hl 3 rfl) ?_
  refine lv_iload_n hx hb dL_law_2634 rfl (lv_at hl 0 rfl) ?_
  refine lv_iconst (v := 5) hx hb dL_law_2635 (by decide) ?_
  refine lv_iadd hx hb dL_law_2636 ?_
  refine lv_topi (fun x_24 ex_24 => ?_)
  have b_x_24 : x_24.toInt = i0.toInt + 5 := zs_add ex_24 hi (show Int32.toInt 5 = 5 from by decide) (by decide)
  refine va_sld hx hb hX hbl hbA hS (zs_in b_x_24 hi (by decide)) dL_law_2637 ?_
  refine lv_topi (fun x_25 ex_25 => ?_)
  obtain rfl : x_9 = x_24 := zs_eq b_x_9 b_x_24
  obtain rfl : x_10 = x_25 := ex_10.trans ex_25.symm
  obtain ⟨hPc, hDc, hFc⟩ := z_cut (wc := (zV651 (ad 1) (iv 3) (ad 2) (ad 3) (ad 4) (ad 5) (ad 6) (iv 4) (iv 5) (iv 6) (iv 7) (iv 8) (lw 0) (iv 9) (iv 10) (iv 11) (iv 12) (ad 7) (ad 8) (ad 9) (ad 10) (ad 11) (ad 12) (ad 13) (ad 14) (ad 15) (ad 16) (ad 17) (ad 18) (ad 19) (ad 20) (iv 13) (iv 14) (iv 15) (iv 16) (ad 21) (ad 22) (ad 23) (ad 24) (ad 25) (ad 26) (ad 27) (ad 28) (ad 29) (iv 17) (ad 30) (ad 31) (iv 18) (lw 1) (iv 19) (iv 20) (iv 21) (iv 22) (lw 2) (ad 2) (cA 2) (fi 2) (ad 3) (cA 3) (fi 3) (ad 4) (cA 4) (fl 4) (ad 5) (cA 5) (fl 5))) (z_pr hP) (z_dr hD) hS hA [0, 1, 2, 3, 4] rfl (by decide +kernel)
  have hKc := hK.sub (tys' := [((cA 2), .int), ((cA 3), .int), ((cA 4), .long), ((cA 5), .long)]) [0, 1, 2, 3] rfl
  refine va_calli (va_runV (As := [.int x_2, .int x_4, .int x_6, .int x_8, .int x_10]) (rest := [.int r_11]) ⟨hx, hb, hml, hown, hts⟩ (k_X10_paste_v1 l sa dC dI (ad 1) x_2 x_4 x_6 x_8 x_10 (iv 3) (ad 2) (ad 3) (ad 4) (ad 5) (ad 6) (iv 4) (iv 5) (iv 6) (iv 7) (iv 8) (lw 0) (iv 9) (iv 10) (iv 11) (iv 12) (ad 7) (ad 8) (ad 9) (ad 10) (ad 11) (ad 12) (ad 13) (ad 14) (ad 15) (ad 16) (ad 17) (ad 18) (ad 19) (ad 20) (iv 13) (iv 14) (iv 15) (iv 16) (ad 21) (ad 22) (ad 23) (ad 24) (ad 25) (ad 26) (ad 27) (ad 28) (ad 29) (iv 17) (ad 30) (ad 31) (iv 18) (lw 1) (iv 19) (iv 20) (iv 21) (iv 22) (lw 2) (cA 2) (fi 2) (cA 3) (fi 3) (cA 4) (fl 4) (cA 5) (fl 5) b_m0_taped b_m0_at b_m0_token b_m0_value b_m0_bad b_m0_strays b_m0_hostCourt b_m0_dayCourt b_m0_dayHour b_f_m0_width b_f_m0_many H.size) (cwV 5 hts (z_gV zw_t7_39 zw_t7_40 zw_t7_41 zw_t1_11 zw_t7_42) rfl rfl rfl (by decide +kernel) ⟨(Nat.le_of_ble_eq_true rfl), (Nat.le_of_ble_eq_true rfl)⟩) (z_preV hPc hKc hDc hN hXs hS hFc (q := (RX10, TX10, 53)) (ci := 10) (q0 := 0) rfl rfl) rfl rfl hl.1 rfl (lv_room (Nat.le_of_ble_eq_true rfl)) dL_law_2638 ⟨(show cells + 0 + 0 ≤ 600000 by omega), (show slots + 0 + 0 ≤ 7302250 by omega)⟩) hS (fun q _ h => hFc q h) hFc (fun r_26 u t H1 locs ht hvm hw hB hz1 hk1 hS => ?_)
  obtain ⟨n_m0_27, n_m0_cells_28, n_m0_moved_29, hB⟩ := hB
  obtain ⟨hP, hD, hK⟩ := z_after2X (wn := [((ad 0), .inr (9, [.ref (ad 32), .int (iv 0), .int (iv 1), .int (iv 2), .ref (ad 65), .ref (ad 33), .ref (ad 34), .ref (ad 35), .ref (ad 40), .ref (ad 48), .ref (ad 51), .ref (ad 57), .ref (ad 64)])), ((ad 34), .inl ((cA 34), 4, .inr (.inr (.inr (.inr (fo 34)))))), ((ad 69), .inr (6, [.int (iv 68), .int (iv 69), .ref (ad 70)])), ((ad 70), .inl ((cA 70), 60, .inr (.inl n_r0_numbers_12))), ((ad 71), .inr (6, [.int (iv 70), .int (iv 71), .ref (ad 72)])), ((ad 72), .inl ((cA 72), 60, .inr (.inl n_r1_numbers_13))), ((ad 73), .inr (6, [.int (iv 72), .int (iv 73), .ref (ad 74)])), ((ad 74), .inl ((cA 74), 60, .inr (.inl n_r2_numbers_14))), ((ad 75), .inr (6, [.int (iv 74), .int (iv 75), .ref (ad 76)])), ((ad 76), .inl ((cA 76), 60, .inr (.inl n_r3_numbers_15))), ((ad 1), .inr (10, [.int n_m0_27, .ref (ad 2), .ref (ad 3), .ref (ad 4), .ref (ad 5), .ref (ad 6), .int (iv 4), .int (iv 5), .int (iv 6), .int (iv 7), .int (iv 8), .long (lw 0), .int (iv 9), .int (iv 10), .int (iv 11), .int (iv 12), .ref (ad 7), .ref (ad 8), .ref (ad 9), .ref (ad 10), .ref (ad 11), .ref (ad 12), .ref (ad 13), .ref (ad 14), .ref (ad 15), .ref (ad 16), .ref (ad 17), .ref (ad 18), .ref (ad 19), .ref (ad 20), .int (iv 13), .int (iv 14), .int (iv 15), .int (iv 16), .ref (ad 21), .ref (ad 22), .ref (ad 23), .ref (ad 24), .ref (ad 25), .ref (ad 26), .ref (ad 27), .ref (ad 28), .ref (ad 29), .int (iv 17), .ref (ad 30), .ref (ad 31), .int (iv 18), .long (lw 1), .int (iv 19), .int (iv 20), .int (iv 21), .int (iv 22), .long (lw 2)])), ((ad 2), .inl ((cA 2), 4, .inl (fi 2))), ((ad 3), .inl ((cA 3), 4, .inl (fi 3))), ((ad 4), .inl ((cA 4), 240, .inr (.inl n_m0_cells_28))), ((ad 5), .inl ((cA 5), 60, .inr (.inl n_m0_moved_29)))]) hB ht hvm hP hD hK [0, 1, 2, 3, 4] [5, 6, 7, 8, 9, 10, 11, 12, 13, 14] rfl 15 rfl (by decide +kernel) rfl (by decide +kernel) hk1 hFc
  generalize H1 = H at hP hS ⊢
  have hK : va_K (dC, dI) vwCl [((cA 2), .int), ((cA 3), .int), ((cA 4), .long), ((cA 5), .long), ((cA 34), .object RX6), ((cA 70), .long), ((cA 72), .long), ((cA 74), .long), ((cA 76), .long)] s := hK
  have b_r_26 : (-8) ≤ r_26.toInt ∧ r_26.toInt ≤ 0 := hw.1
  have s_r_26 := hw.2
  have hee : r_11.toInt = r_26.toInt := zPa.eq (zSel_ro rwd0 rwd1 rwd2 rwd3) (zSel_ro rsz0 rsz1 rsz2 rsz3) s_r_11 s_r_26
  refine lv_icmp_eq (tgt := 2646) hx hb dL_law_2641 (by decide) (fun _ => ?_) (fun q => absurd hee (zz_neq rfl rfl q))
  rw [hwx] at hP hD
  have hz := z_both (wn := zFull ad cA (zU iv 3 n_m0_27) lw fi (zU (zU (zU (zU (zU (zU fl 4 n_m0_cells_28) 5 n_m0_moved_29) 70 n_r0_numbers_12) 72 n_r1_numbers_13) 74 n_r2_numbers_14) 76 n_r3_numbers_15) fo) hP hD [106, 116, 117, 118, 119, 120, 0, 1, 2, 3, 4, 5, 6, 7, 8, 9, 10, 11, 12, 13, 14, 15, 16, 17, 18, 19, 20, 21, 22, 23, 24, 25, 26, 27, 107, 28, 29, 30, 31, 32, 33, 34, 35, 36, 37, 38, 39, 40, 41, 42, 43, 44, 45, 46, 47, 48, 49, 50, 51, 52, 53, 54, 55, 56, 57, 58, 59, 60, 61, 108, 109, 110, 111, 112, 113, 114, 115, 62, 63, 64, 65, 66, 67, 68, 69, 70, 71, 72, 73, 74, 75, 76, 77, 78, 79, 80, 81, 82, 83, 84, 85, 86, 87, 88, 89, 90, 91, 92, 93, 94, 95, 96, 97, 98, 99, 100, 101, 102, 103, 104, 105] (by decide +kernel) rfl
  exact hk ad cA (zU iv 3 n_m0_27) lw fi (zU (zU (zU (zU (zU (zU fl 4 n_m0_cells_28) 5 n_m0_moved_29) 70 n_r0_numbers_12) 72 n_r1_numbers_13) 74 n_r2_numbers_14) 76 n_r3_numbers_15) fo _ _ _ ⟨b_h0_tapeLength, b_m0_taped, b_m0_at, b_m0_token, b_m0_value, b_m0_bad, b_m0_strays, b_m0_hostCourt, b_m0_dayCourt, b_m0_dayHour, b_f_m0_width, b_f_m0_many, b_f_m0_hours, b_f_m0_courts, b_f_m0_in, b_f_m0_gates, b_f_m0_gate, b_f_m0_people, b_f_m0_at0, b_f_m0_stray, b_f_m0_set, b_f_m0_known, b_f_m0_isKept, b_f_m0_digit, him0, him1, him2, hsl0, hsl1, hsl2, hsl3, b_rd_tokens, b_rd_at, b_rd_strayCount, b_rd_lawTold, b_rd_falseTold, b_f_rd_kinds, b_f_rd_starts, b_f_rd_stops, b_f_rd_values, b_wk_firstGate, b_wk_firstHour, b_f_wk_costs, b_f_wk_lower, b_ch_lastHour, b_ch_unsureCount, b_f_ch_unsure, b_f_ch_seats, b_f_ch_worth, b_f_ch_digits, b_dy_court, b_dy_hour, b_nw_isKept, b_nw_names, b_i0_isKept, b_i0_names, b_i1_isKept, b_i1_names, b_i2_isKept, b_i2_names, b_r0_size, b_r1_size, b_r2_size, b_r3_size, b_g0_hours, b_g0_courts, b_g0_gateCount, b_g0_people, b_g0_falseHours, b_g0_deep, b_f_g0_degrees, b_f_g0_neighbours, b_f_g0_oneEnd, b_f_g0_otherEnd, b_f_g0_told, b_f_g0_strayParts, b_f_g0_strayCourts, b_g1_hours, b_g1_courts, b_g1_gateCount, b_g1_people, b_g1_falseHours, b_g1_deep, b_f_g1_degrees, b_f_g1_neighbours, b_f_g1_oneEnd, b_f_g1_otherEnd, b_f_g1_told, b_f_g1_strayParts, b_f_g1_strayCourts, b_g2_hours, b_g2_courts, b_g2_gateCount, b_g2_people, b_g2_falseHours, b_g2_deep, b_f_g2_degrees, b_f_g2_neighbours, b_f_g2_oneEnd, b_f_g2_otherEnd, b_f_g2_told, b_f_g2_strayParts, b_f_g2_strayCourts, b_g3_hours, b_g3_courts, b_g3_gateCount, b_g3_people, b_g3_falseHours, b_g3_deep, b_f_g3_degrees, b_f_g3_neighbours, b_f_g3_oneEnd, b_f_g3_otherEnd, b_f_g3_told, b_f_g3_strayParts, b_f_g3_strayCourts, tw0, tw1, tw2, tw3, hmd, hit0, hit1, hit2, rtl, rkp0, rkp1, rkp2, rwd0, rwd1, rwd2, rwd3, rsz0, rsz1, rsz2, rsz3⟩ hz.1 hz.2 hKz hS (lv_sub hl [0, 1, 2, 3] rfl)
