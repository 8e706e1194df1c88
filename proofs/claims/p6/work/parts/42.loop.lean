set_option linter.all false
def bcL_law_18 : List Nat := [29, 42, 190, 16, 6, 100, 163, 10, 68, 42, 29, 46, 16, 63, 126]
theorem bcL_law_18_ok : z_bys cL_law 18 bcL_law_18 = true := by decide +kernel
def bcL_law_2646 : List Nat := [132, 3, 6, 167, 245, 185, 4, 172]
theorem bcL_law_2646_ok : z_bys cL_law 2646 bcL_law_2646 = true := by decide +kernel
theorem dL_law_18 : decode cL_law 18 = .ok (.iload_n 3, 1) := zo_29 (z_byk bcL_law_18 18 0 _ bcL_law_18_ok rfl)
theorem dL_law_19 : decode cL_law 19 = .ok (.aload_n 0, 1) := zo_42 (z_byk bcL_law_18 18 1 _ bcL_law_18_ok rfl)
theorem dL_law_20 : decode cL_law 20 = .ok (.arraylength, 1) := zo_190 (z_byk bcL_law_18 18 2 _ bcL_law_18_ok rfl)
theorem dL_law_21 : decode cL_law 21 = .ok (.bipush 6, 2) := zo_16 (z_byk bcL_law_18 18 3 _ bcL_law_18_ok rfl) (z_byk bcL_law_18 18 4 _ bcL_law_18_ok rfl) rfl
theorem dL_law_23 : decode cL_law 23 = .ok (.isub, 1) := zo_100 (z_byk bcL_law_18 18 5 _ bcL_law_18_ok rfl)
theorem dL_law_24 : decode cL_law 24 = .ok (.if_icmp .gt 2628, 3) := zo_163 (z_byk bcL_law_18 18 6 _ bcL_law_18_ok rfl) (z_byk bcL_law_18 18 7 _ bcL_law_18_ok rfl) (z_byk bcL_law_18 18 8 _ bcL_law_18_ok rfl) rfl
theorem dL_law_2646 : decode cL_law 2646 = .ok (.iinc 3 6, 3) := zo_132 (z_byk bcL_law_2646 2646 0 _ bcL_law_2646_ok rfl) (z_byk bcL_law_2646 2646 1 _ bcL_law_2646_ok rfl) (z_byk bcL_law_2646 2646 2 _ bcL_law_2646_ok rfl) rfl
theorem dL_law_2649 : decode cL_law 2649 = .ok (.goto (-2631), 3) := zo_167 (z_byk bcL_law_2646 2646 3 _ bcL_law_2646_ok rfl) (z_byk bcL_law_2646 2646 4 _ bcL_law_2646_ok rfl) (z_byk bcL_law_2646 2646 5 _ bcL_law_2646_ok rfl) rfl
theorem dL_law_2652 : decode cL_law 2652 = .ok (.iconst 1, 1) := zo_4 (z_byk bcL_law_2646 2646 6 _ bcL_law_2646_ok rfl)
theorem dL_law_2653 : decode cL_law 2653 = .ok (.ireturn, 1) := zo_172 (z_byk bcL_law_2646 2646 7 _ bcL_law_2646_ok rfl)
theorem dL_law_27 : decode cL_law 27 = .ok (.aload_n 0, 1) := zo_42 (z_byk bcL_law_18 18 9 _ bcL_law_18_ok rfl)
theorem dL_law_28 : decode cL_law 28 = .ok (.iload_n 3, 1) := zo_29 (z_byk bcL_law_18 18 10 _ bcL_law_18_ok rfl)
theorem dL_law_29 : decode cL_law 29 = .ok (.iaload, 1) := zo_46 (z_byk bcL_law_18 18 11 _ bcL_law_18_ok rfl)
theorem dL_law_30 : decode cL_law 30 = .ok (.bipush 63, 2) := zo_16 (z_byk bcL_law_18 18 12 _ bcL_law_18_ok rfl) (z_byk bcL_law_18 18 13 _ bcL_law_18_ok rfl) rfl
theorem dL_law_32 : decode cL_law 32 = .ok (.iand, 1) := zo_126 (z_byk bcL_law_18 18 14 _ bcL_law_18_ok rfl)
theorem dL_law_33 : decode cL_law 33 = .ok (.tableswitch 2613 0 55 #[239, 302, 325, 338, 361, 384, 407, 440, 473, 496, 529, 562, 615, 658, 701, 744, 797, 830, 863, 916, 979, 1002, 1055, 1108, 1161, 1214, 1267, 1320, 1383, 1446, 1489, 1552, 1605, 1658, 1681, 1704, 1727, 1796, 1809, 1852, 1905, 1958, 2011, 2064, 2117, 2170, 2223, 2246, 2279, 2302, 2365, 2388, 2411, 2434, 2477, 2550], 239) := by decide +kernel
theorem law_tail {p : Program} {e : Env} {s : State} {m : MethodId} {below : List Frame} {meth : Method} {c : Code} {l : Launch} {b L : Nat} {xs : Nat → Int32} (C0 : lw_At p s m meth c b L xs) {ad : Nat → Nat} {H : Heap} {locs : List Loc} {ls : Array Slot} {i0 : Int32} {cells slots : Nat} (hi : 0 ≤ i0.toInt ∧ i0.toInt + 6 ≤ (L : Int) ∧ L ≤ 3072) (hl : lv_has ls 4 [(3, .int i0), (2, .ref (ad 1)), (1, .ref (ad 0)), (0, .ref b)]) (hk : ∀ (ls : Array Slot) (i1 : Int32), i1.toInt = i0.toInt + 6 → lv_has ls 4 [(3, .int i1), (2, .ref (ad 1)), (1, .ref (ad 0)), (0, .ref b)] → W p l e room_1 s m #[Value.ref b] below meth c H locs cells slots (lw_Z below #[Value.ref b] s) (F0 m 18 ls [])) : W p l e room_1 s m #[Value.ref b] below meth c H locs cells slots (lw_Z below #[Value.ref b] s) (F0 m 2646 ls []) := by
  refine (id C0).elim fun hx ze1 => ze1.elim fun hb ze2 => ze2.elim fun hr ze3 => ze3.elim fun hml ze4 => ze4.elim fun hown ze5 => ze5.elim fun hts ze6 => ze6.elim fun hX ze7 => ze7.elim fun hbl ze8 => ze8.elim fun hlocks hgv => ?_
  clear ze1 ze2 ze3 ze4 ze5 ze6 ze7 ze8
  have hb : c.code = cL_law := hb
  obtain ⟨i1, e1⟩ : ∃ z : Int32, z = i0 + Int32.ofInt 6 := ⟨_, rfl⟩
  have h1 : i1.toInt = i0.toInt + 6 := by rw [e1]; exact zi_add rfl (show (Int32.ofInt 6).toInt = 6 from by decide) (by first | with_reducible assumption | omega)
  refine lv_iinc (v := i1) (lv' := [(3, .int i1), (2, .ref (ad 1)), (1, .ref (ad 0)), (0, .ref b)]) hx hb dL_law_2646 hl (k := 0) rfl e1.symm (by decide) rfl (fun ls hl => ?_)
  refine lv_goto (tgt := 18) hx hb dL_law_2649 (by decide) ?_
  exact hk ls i1 h1 hl
set_option maxHeartbeats 8000000 in
set_option maxRecDepth 100000 in
theorem law_loop {p : Program} {e : Env} {s : State} {m : MethodId} {below : List Frame} {meth : Method} {c : Code} {l : Launch} {b L : Nat} {xs : Nat → Int32} (C0 : lw_At p s m meth c b L xs) {sa : Nat → Nat} {dC : Nat → ClassId} {dI : Nat → Nat → Nat} {A : Nat → Prop} (hA : ∀ q, s.heap.size ≤ q → A q) (hA2 : ∀ q, A q → s.heap.size ≤ q) (hN : zN s) (hXs : zX sa A s s.heap) (hL : L ≤ 3072) : ∀ (t : Nat) (ad : Nat → Nat) (cA : Nat → ClassId) (iv : Nat → Int32) (lw : Nat → Int64) (fi : Nat → Nat → Int32) (fl : Nat → Nat → Int64) (fo : Nat → Nat → Option Nat) (H : Heap) (locs : List Loc) (ls : Array Slot) (i0 : Int32) (cells slots : Nat), (L : Int) - i0.toInt < 6 * (t : Int) → 0 ≤ i0.toInt ∧ i0.toInt ≤ (L : Int) → 6 * (cells : Int) ≤ 6 * 166 + 11 * i0.toInt ∧ 6 * (slots : Int) ≤ 6 * 101284 + 690 * i0.toInt → (zFacts ad cA iv lw fi fl fo) → va_P (dC, dI) vwCl (zFull ad cA iv lw fi fl fo) H → va_D A (zFull ad cA iv lw fi fl fo) → va_K (dC, dI) vwCl (zTys cA) s → va_S A s.heap H locs → lv_has ls 4 [(3, .int i0), (2, .ref (ad 1)), (1, .ref (ad 0)), (0, .ref b)] → W p l e room_1 s m #[Value.ref b] below meth c H locs cells slots (lw_Z below #[Value.ref b] s) (F0 m 18 ls []) := by
  refine (id C0).elim fun hx ze1 => ze1.elim fun hb ze2 => ze2.elim fun hr ze3 => ze3.elim fun hml ze4 => ze4.elim fun hown ze5 => ze5.elim fun hts ze6 => ze6.elim fun hX ze7 => ze7.elim fun hbl ze8 => ze8.elim fun hlocks hgv => ?_
  clear ze1 ze2 ze3 ze4 ze5 ze6 ze7 ze8
  have hb : c.code = cL_law := hb
  have hbA : ¬ A b := fun q => absurd (hA2 b q) (Nat.not_le.mpr hbl)
  intro t
  induction t with
  | zero => intro ad cA iv lw fi fl fo H locs ls i0 cells slots h1 h2; exact absurd h1 (by first | with_reducible assumption | omega)
  | succ t ih =>
    intro ad cA iv lw fi fl fo H locs ls i0 cells slots h1 h2 h3 hF hP hD hK hS hl
    refine lv_iload_n hx hb dL_law_18 rfl (lv_at hl 0 rfl) ?_
    refine lv_aload_n hx hb dL_law_19 rfl (lv_at hl 3 rfl) ?_
    refine va_slen hx hb hX hbl hbA hS dL_law_20 ?_
    refine lv_bipush (v := 6) hx hb dL_law_21 (by decide) ?_
    refine lv_isub hx hb dL_law_23 ?_
    refine lv_topi (fun y ey => ?_)
    have hy : y.toInt = (L : Int) - 6 := by rw [ey]; exact zi_sub (zs_len hL) (show Int32.toInt 6 = 6 from by decide) (by first | with_reducible assumption | omega)
    refine lv_icmp_gt (tgt := 2652) hx hb dL_law_24 (by decide) (fun q => ?_) (fun q => ?_)
    · refine lv_iconst (v := 1) hx hb dL_law_2652 (by decide) ?_
      refine W.widen (k := 600000) (n := 7302250) (by first | with_reducible assumption | omega) (by first | with_reducible assumption | omega) ?_
      refine va_forget (fun q h => hA2 _ (hS.2.2 q h)) ?_
      exact lw_ret hx hb hr hlocks dL_law_2653
    have h4 := zz_ngt rfl hy q
    have hi : 0 ≤ i0.toInt ∧ i0.toInt + 6 ≤ (L : Int) ∧ L ≤ 3072 := ⟨h2.1, by omega, hL⟩
    have hcs : cells + 11 ≤ 600000 ∧ slots + 690 ≤ 7302250 := ⟨by omega, by omega⟩
    have hk : ∀ (cells' slots' : Nat), cells' ≤ cells + 11 → slots' ≤ slots + 690 → ∀ (ad : Nat → Nat) (cA : Nat → ClassId) (iv : Nat → Int32) (lw : Nat → Int64) (fi : Nat → Nat → Int32) (fl : Nat → Nat → Int64) (fo : Nat → Nat → Option Nat) (H : Heap) (locs : List Loc) (ls : Array Slot), (zFacts ad cA iv lw fi fl fo) → va_P (dC, dI) vwCl (zFull ad cA iv lw fi fl fo) H → va_D A (zFull ad cA iv lw fi fl fo) → va_K (dC, dI) vwCl (zTys cA) s → va_S A s.heap H locs → lv_has ls 4 [(3, .int i0), (2, .ref (ad 1)), (1, .ref (ad 0)), (0, .ref b)] → W p l e room_1 s m #[Value.ref b] below meth c H locs cells' slots' (lw_Z below #[Value.ref b] s) (F0 m 2646 ls []) := by
      intro cells' slots' h5 h6 ad cA iv lw fi fl fo H locs ls hF hP hD hK hS hl
      refine law_tail C0 hi hl (fun ls i1 h7 hl => ?_)
      exact ih ad cA iv lw fi fl fo H locs ls i1 cells' slots' (by first | with_reducible assumption | omega) (by first | with_reducible assumption | omega) (by first | with_reducible assumption | omega) hF hP hD hK hS hl
    refine lv_aload_n hx hb dL_law_27 rfl (lv_at hl 3 rfl) ?_
    refine lv_iload_n hx hb dL_law_28 rfl (lv_at hl 0 rfl) ?_
    refine va_sld hx hb hX hbl hbA hS (zs_in (n := 0) (by first | with_reducible assumption | omega) hi (by decide)) dL_law_29 ?_
    refine lv_bipush (v := 63) hx hb dL_law_30 (by decide) ?_
    refine lv_iand hx hb dL_law_32 ?_
    obtain ⟨j, hj, ej⟩ := pk_andE (xs (Int32.toNatClampNeg i0)) (m := 63) 6 (by decide)
    refine lv_topi (fun x9 ex9 => ?_)
    obtain rfl : x9 = nI j := ex9.trans ej
    match j, hj with
    | 0, _ =>
      refine lv_tableIn (tgt := 272) (off := 239) hx hb dL_law_33 (by decide) (by decide) (by decide) (by decide) ?_
      exact law_feed C0 hA hA2 hN hXs hcs hi hF hP hD hK hS hl (hk cells slots (Nat.le_add_right _ _) (Nat.le_add_right _ _))
    | 1, _ =>
      refine lv_tableIn (tgt := 335) (off := 302) hx hb dL_law_33 (by decide) (by decide) (by decide) (by decide) ?_
      exact law_end C0 hA hA2 hN hXs hcs hi hF hP hD hK hS hl (hk cells slots (Nat.le_add_right _ _) (Nat.le_add_right _ _))
    | 2, _ =>
      refine lv_tableIn (tgt := 358) (off := 325) hx hb dL_law_33 (by decide) (by decide) (by decide) (by decide) ?_
      exact law_town C0 hA hA2 hN hXs hcs hi hF hP hD hK hS hl (hk (cells + 11) (slots + 690) (Nat.le_refl _) (Nat.le_refl _))
    | 3, _ =>
      refine lv_tableIn (tgt := 371) (off := 338) hx hb dL_law_33 (by decide) (by decide) (by decide) (by decide) ?_
      exact law_fault C0 hA hA2 hN hXs hcs hi hF hP hD hK hS hl (hk cells slots (Nat.le_add_right _ _) (Nat.le_add_right _ _))
    | 4, _ =>
      refine lv_tableIn (tgt := 394) (off := 361) hx hb dL_law_33 (by decide) (by decide) (by decide) (by decide) ?_
      exact law_names C0 hA hA2 hN hXs hcs hi hF hP hD hK hS hl (hk cells slots (Nat.le_add_right _ _) (Nat.le_add_right _ _))
    | 5, _ =>
      refine lv_tableIn (tgt := 417) (off := 384) hx hb dL_law_33 (by decide) (by decide) (by decide) (by decide) ?_
      exact law_strayed C0 hA hA2 hN hXs hcs hi hF hP hD hK hS hl (hk cells slots (Nat.le_add_right _ _) (Nat.le_add_right _ _))
    | 6, _ =>
      refine lv_tableIn (tgt := 440) (off := 407) hx hb dL_law_33 (by decide) (by decide) (by decide) (by decide) ?_
      exact law_where C0 hA hA2 hN hXs hcs hi hF hP hD hK hS hl (hk cells slots (Nat.le_add_right _ _) (Nat.le_add_right _ _))
    | 7, _ =>
      refine lv_tableIn (tgt := 473) (off := 440) hx hb dL_law_33 (by decide) (by decide) (by decide) (by decide) ?_
      exact law_within C0 hA hA2 hN hXs hcs hi hF hP hD hK hS hl (hk cells slots (Nat.le_add_right _ _) (Nat.le_add_right _ _))
    | 8, _ =>
      refine lv_tableIn (tgt := 506) (off := 473) hx hb dL_law_33 (by decide) (by decide) (by decide) (by decide) ?_
      exact law_depth C0 hA hA2 hN hXs hcs hi hF hP hD hK hS hl (hk cells slots (Nat.le_add_right _ _) (Nat.le_add_right _ _))
    | 9, _ =>
      refine lv_tableIn (tgt := 529) (off := 496) hx hb dL_law_33 (by decide) (by decide) (by decide) (by decide) ?_
      exact law_lies C0 hA hA2 hN hXs hcs hi hF hP hD hK hS hl (hk cells slots (Nat.le_add_right _ _) (Nat.le_add_right _ _))
    | 10, _ =>
      refine lv_tableIn (tgt := 562) (off := 529) hx hb dL_law_33 (by decide) (by decide) (by decide) (by decide) ?_
      exact law_leads C0 hA hA2 hN hXs hcs hi hF hP hD hK hS hl (hk cells slots (Nat.le_add_right _ _) (Nat.le_add_right _ _))
    | 11, _ =>
      refine lv_tableIn (tgt := 595) (off := 562) hx hb dL_law_33 (by decide) (by decide) (by decide) (by decide) ?_
      exact law_opens C0 hA hA2 hN hXs hcs hi hF hP hD hK hS hl (hk cells slots (Nat.le_add_right _ _) (Nat.le_add_right _ _))
    | 12, _ =>
      refine lv_tableIn (tgt := 648) (off := 615) hx hb dL_law_33 (by decide) (by decide) (by decide) (by decide) ?_
      exact law_keys C0 hA hA2 hN hXs hcs hi hF hP hD hK hS hl (hk cells slots (Nat.le_add_right _ _) (Nat.le_add_right _ _))
    | 13, _ =>
      refine lv_tableIn (tgt := 691) (off := 658) hx hb dL_law_33 (by decide) (by decide) (by decide) (by decide) ?_
      exact law_soonest C0 hA hA2 hN hXs hcs hi hF hP hD hK hS hl (hk cells slots (Nat.le_add_right _ _) (Nat.le_add_right _ _))
    | 14, _ =>
      refine lv_tableIn (tgt := 734) (off := 701) hx hb dL_law_33 (by decide) (by decide) (by decide) (by decide) ?_
      exact law_gates C0 hA hA2 hN hXs hcs hi hF hP hD hK hS hl (hk cells slots (Nat.le_add_right _ _) (Nat.le_add_right _ _))
    | 15, _ =>
      refine lv_tableIn (tgt := 777) (off := 744) hx hb dL_law_33 (by decide) (by decide) (by decide) (by decide) ?_
      exact law_way C0 hA hA2 hN hXs hcs hi hF hP hD hK hS hl (hk cells slots (Nat.le_add_right _ _) (Nat.le_add_right _ _))
    | 16, _ =>
      refine lv_tableIn (tgt := 830) (off := 797) hx hb dL_law_33 (by decide) (by decide) (by decide) (by decide) ?_
      exact law_reach C0 hA hA2 hN hXs hcs hi hF hP hD hK hS hl (hk cells slots (Nat.le_add_right _ _) (Nat.le_add_right _ _))
    | 17, _ =>
      refine lv_tableIn (tgt := 863) (off := 830) hx hb dL_law_33 (by decide) (by decide) (by decide) (by decide) ?_
      exact law_latest C0 hA hA2 hN hXs hcs hi hF hP hD hK hS hl (hk cells slots (Nat.le_add_right _ _) (Nat.le_add_right _ _))
    | 18, _ =>
      refine lv_tableIn (tgt := 896) (off := 863) hx hb dL_law_33 (by decide) (by decide) (by decide) (by decide) ?_
      exact law_need C0 hA hA2 hN hXs hcs hi hF hP hD hK hS hl (hk cells slots (Nat.le_add_right _ _) (Nat.le_add_right _ _))
    | 19, _ =>
      refine lv_tableIn (tgt := 949) (off := 916) hx hb dL_law_33 (by decide) (by decide) (by decide) (by decide) ?_
      exact law_fewest C0 hA hA2 hN hXs hcs hi hF hP hD hK hS hl (hk cells slots (Nat.le_add_right _ _) (Nat.le_add_right _ _))
    | 20, _ =>
      refine lv_tableIn (tgt := 1012) (off := 979) hx hb dL_law_33 (by decide) (by decide) (by decide) (by decide) ?_
      exact law_every C0 hA hA2 hN hXs hcs hi hF hP hD hK hS hl (hk cells slots (Nat.le_add_right _ _) (Nat.le_add_right _ _))
    | 21, _ =>
      refine lv_tableIn (tgt := 1035) (off := 1002) hx hb dL_law_33 (by decide) (by decide) (by decide) (by decide) ?_
      exact law_ways C0 hA hA2 hN hXs hcs hi hF hP hD hK hS hl (hk cells slots (Nat.le_add_right _ _) (Nat.le_add_right _ _))
    | 22, _ =>
      refine lv_tableIn (tgt := 1088) (off := 1055) hx hb dL_law_33 (by decide) (by decide) (by decide) (by decide) ?_
      exact law_out C0 hA hA2 hN hXs hcs hi hF hP hD hK hS hl (hk cells slots (Nat.le_add_right _ _) (Nat.le_add_right _ _))
    | 23, _ =>
      refine lv_tableIn (tgt := 1141) (off := 1108) hx hb dL_law_33 (by decide) (by decide) (by decide) (by decide) ?_
      exact law_alone C0 hA hA2 hN hXs hcs hi hF hP hD hK hS hl (hk cells slots (Nat.le_add_right _ _) (Nat.le_add_right _ _))
    | 24, _ =>
      refine lv_tableIn (tgt := 1194) (off := 1161) hx hb dL_law_33 (by decide) (by decide) (by decide) (by decide) ?_
      exact law_both C0 hA hA2 hN hXs hcs hi hF hP hD hK hS hl (hk cells slots (Nat.le_add_right _ _) (Nat.le_add_right _ _))
    | 25, _ =>
      refine lv_tableIn (tgt := 1247) (off := 1214) hx hb dL_law_33 (by decide) (by decide) (by decide) (by decide) ?_
      exact law_friend C0 hA hA2 hN hXs hcs hi hF hP hD hK hS hl (hk cells slots (Nat.le_add_right _ _) (Nat.le_add_right _ _))
    | 26, _ =>
      refine lv_tableIn (tgt := 1300) (off := 1267) hx hb dL_law_33 (by decide) (by decide) (by decide) (by decide) ?_
      exact law_teach C0 hA hA2 hN hXs hcs hi hF hP hD hK hS hl (hk cells slots (Nat.le_add_right _ _) (Nat.le_add_right _ _))
    | 27, _ =>
      refine lv_tableIn (tgt := 1353) (off := 1320) hx hb dL_law_33 (by decide) (by decide) (by decide) (by decide) ?_
      exact law_host C0 hA hA2 hN hXs hcs hi hF hP hD hK hS hl (hk cells slots (Nat.le_add_right _ _) (Nat.le_add_right _ _))
    | 28, _ =>
      refine lv_tableIn (tgt := 1416) (off := 1383) hx hb dL_law_33 (by decide) (by decide) (by decide) (by decide) ?_
      exact law_three C0 hA hA2 hN hXs hcs hi hF hP hD hK hS hl (hk cells slots (Nat.le_add_right _ _) (Nat.le_add_right _ _))
    | 29, _ =>
      refine lv_tableIn (tgt := 1479) (off := 1446) hx hb dL_law_33 (by decide) (by decide) (by decide) (by decide) ?_
      exact law_vital C0 hA hA2 hN hXs hcs hi hF hP hD hK hS hl (hk cells slots (Nat.le_add_right _ _) (Nat.le_add_right _ _))
    | 30, _ =>
      refine lv_tableIn (tgt := 1522) (off := 1489) hx hb dL_law_33 (by decide) (by decide) (by decide) (by decide) ?_
      exact law_tell C0 hA hA2 hN hXs hcs hi hF hP hD hK hS hl (hk cells slots (Nat.le_add_right _ _) (Nat.le_add_right _ _))
    | 31, _ =>
      refine lv_tableIn (tgt := 1585) (off := 1552) hx hb dL_law_33 (by decide) (by decide) (by decide) (by decide) ?_
      exact law_tells C0 hA hA2 hN hXs hcs hi hF hP hD hK hS hl (hk cells slots (Nat.le_add_right _ _) (Nat.le_add_right _ _))
    | 32, _ =>
      refine lv_tableIn (tgt := 1638) (off := 1605) hx hb dL_law_33 (by decide) (by decide) (by decide) (by decide) ?_
      exact law_until C0 hA hA2 hN hXs hcs hi hF hP hD hK hS hl (hk cells slots (Nat.le_add_right _ _) (Nat.le_add_right _ _))
    | 33, _ =>
      refine lv_tableIn (tgt := 1691) (off := 1658) hx hb dL_law_33 (by decide) (by decide) (by decide) (by decide) ?_
      exact law_empty C0 hA hA2 hN hXs hcs hi hF hP hD hK hS hl (hk cells slots (Nat.le_add_right _ _) (Nat.le_add_right _ _))
    | 34, _ =>
      refine lv_tableIn (tgt := 1714) (off := 1681) hx hb dL_law_33 (by decide) (by decide) (by decide) (by decide) ?_
      exact law_hollow C0 hA hA2 hN hXs hcs hi hF hP hD hK hS hl (hk cells slots (Nat.le_add_right _ _) (Nat.le_add_right _ _))
    | 35, _ =>
      refine lv_tableIn (tgt := 1737) (off := 1704) hx hb dL_law_33 (by decide) (by decide) (by decide) (by decide) ?_
      exact law_keeper C0 hA hA2 hN hXs hcs hi hF hP hD hK hS hl (hk cells slots (Nat.le_add_right _ _) (Nat.le_add_right _ _))
    | 36, _ =>
      refine lv_tableIn (tgt := 1760) (off := 1727) hx hb dL_law_33 (by decide) (by decide) (by decide) (by decide) ?_
      exact law_hear C0 hA hA2 hN hXs hcs hi hF hP hD hK hS hl (hk cells slots (Nat.le_add_right _ _) (Nat.le_add_right _ _))
    | 37, _ =>
      refine lv_tableIn (tgt := 1829) (off := 1796) hx hb dL_law_33 (by decide) (by decide) (by decide) (by decide) ?_
      exact law_forget C0 hA hA2 hN hXs hcs hi hF hP hD hK hS hl (hk cells slots (Nat.le_add_right _ _) (Nat.le_add_right _ _))
    | 38, _ =>
      refine lv_tableIn (tgt := 1842) (off := 1809) hx hb dL_law_33 (by decide) (by decide) (by decide) (by decide) ?_
      exact law_think C0 hA hA2 hN hXs hcs hi hF hP hD hK hS hl (hk cells slots (Nat.le_add_right _ _) (Nat.le_add_right _ _))
    | 39, _ =>
      refine lv_tableIn (tgt := 1885) (off := 1852) hx hb dL_law_33 (by decide) (by decide) (by decide) (by decide) ?_
      exact law_likely C0 hA hA2 hN hXs hcs hi hF hP hD hK hS hl (hk cells slots (Nat.le_add_right _ _) (Nat.le_add_right _ _))
    | 40, _ =>
      refine lv_tableIn (tgt := 1938) (off := 1905) hx hb dL_law_33 (by decide) (by decide) (by decide) (by decide) ?_
      exact law_odds C0 hA hA2 hN hXs hcs hi hF hP hD hK hS hl (hk cells slots (Nat.le_add_right _ _) (Nat.le_add_right _ _))
    | 41, _ =>
      refine lv_tableIn (tgt := 1991) (off := 1958) hx hb dL_law_33 (by decide) (by decide) (by decide) (by decide) ?_
      exact law_best C0 hA hA2 hN hXs hcs hi hF hP hD hK hS hl (hk cells slots (Nat.le_add_right _ _) (Nat.le_add_right _ _))
    | 42, _ =>
      refine lv_tableIn (tgt := 2044) (off := 2011) hx hb dL_law_33 (by decide) (by decide) (by decide) (by decide) ?_
      exact law_sure C0 hA hA2 hN hXs hcs hi hF hP hD hK hS hl (hk cells slots (Nat.le_add_right _ _) (Nat.le_add_right _ _))
    | 43, _ =>
      refine lv_tableIn (tgt := 2097) (off := 2064) hx hb dL_law_33 (by decide) (by decide) (by decide) (by decide) ?_
      exact law_list C0 hA hA2 hN hXs hcs hi hF hP hD hK hS hl (hk cells slots (Nat.le_add_right _ _) (Nat.le_add_right _ _))
    | 44, _ =>
      refine lv_tableIn (tgt := 2150) (off := 2117) hx hb dL_law_33 (by decide) (by decide) (by decide) (by decide) ?_
      exact law_price C0 hA hA2 hN hXs hcs hi hF hP hD hK hS hl (hk cells slots (Nat.le_add_right _ _) (Nat.le_add_right _ _))
    | 45, _ =>
      refine lv_tableIn (tgt := 2203) (off := 2170) hx hb dL_law_33 (by decide) (by decide) (by decide) (by decide) ?_
      exact law_begin C0 hA hA2 hN hXs hcs hi hF hP hD hK hS hl (hk cells slots (Nat.le_add_right _ _) (Nat.le_add_right _ _))
    | 46, _ =>
      refine lv_tableIn (tgt := 2256) (off := 2223) hx hb dL_law_33 (by decide) (by decide) (by decide) (by decide) ?_
      exact law_judge C0 hA hA2 hN hXs hcs hi hF hP hD hK hS hl (hk cells slots (Nat.le_add_right _ _) (Nat.le_add_right _ _))
    | 47, _ =>
      refine lv_tableIn (tgt := 2279) (off := 2246) hx hb dL_law_33 (by decide) (by decide) (by decide) (by decide) ?_
      exact law_ends C0 hA hA2 hN hXs hcs hi hF hP hD hK hS hl (hk cells slots (Nat.le_add_right _ _) (Nat.le_add_right _ _))
    | 48, _ =>
      refine lv_tableIn (tgt := 2312) (off := 2279) hx hb dL_law_33 (by decide) (by decide) (by decide) (by decide) ?_
      exact law_draw C0 hA hA2 hN hXs hcs hi hF hP hD hK hS hl (hk cells slots (Nat.le_add_right _ _) (Nat.le_add_right _ _))
    | 49, _ =>
      refine lv_tableIn (tgt := 2335) (off := 2302) hx hb dL_law_33 (by decide) (by decide) (by decide) (by decide) ?_
      exact law_days C0 hA hA2 hN hXs hcs hi hF hP hD hK hS hl (hk cells slots (Nat.le_add_right _ _) (Nat.le_add_right _ _))
    | 50, _ =>
      refine lv_tableIn (tgt := 2398) (off := 2365) hx hb dL_law_33 (by decide) (by decide) (by decide) (by decide) ?_
      exact law_count C0 hA hA2 hN hXs hcs hi hF hP hD hK hS hl (hk cells slots (Nat.le_add_right _ _) (Nat.le_add_right _ _))
    | 51, _ =>
      refine lv_tableIn (tgt := 2421) (off := 2388) hx hb dL_law_33 (by decide) (by decide) (by decide) (by decide) ?_
      exact law_keep C0 hA hA2 hN hXs hcs hi hF hP hD hK hS hl (hk cells slots (Nat.le_add_right _ _) (Nat.le_add_right _ _))
    | 52, _ =>
      refine lv_tableIn (tgt := 2444) (off := 2411) hx hb dL_law_33 (by decide) (by decide) (by decide) (by decide) ?_
      exact law_back C0 hA hA2 hN hXs hcs hi hF hP hD hK hS hl (hk cells slots (Nat.le_add_right _ _) (Nat.le_add_right _ _))
    | 53, _ =>
      refine lv_tableIn (tgt := 2467) (off := 2434) hx hb dL_law_33 (by decide) (by decide) (by decide) (by decide) ?_
      exact law_row C0 hA hA2 hN hXs hcs hi hF hP hD hK hS hl (hk cells slots (Nat.le_add_right _ _) (Nat.le_add_right _ _))
    | 54, _ =>
      refine lv_tableIn (tgt := 2510) (off := 2477) hx hb dL_law_33 (by decide) (by decide) (by decide) (by decide) ?_
      exact law_write C0 hA hA2 hN hXs hcs hi hF hP hD hK hS hl (hk cells slots (Nat.le_add_right _ _) (Nat.le_add_right _ _))
    | 55, _ =>
      refine lv_tableIn (tgt := 2583) (off := 2550) hx hb dL_law_33 (by decide) (by decide) (by decide) (by decide) ?_
      exact law_paste C0 hA hA2 hN hXs hcs hi hF hP hD hK hS hl (hk cells slots (Nat.le_add_right _ _) (Nat.le_add_right _ _))
    | j + 56, hj =>
      refine lv_tableOut (tgt := 2646) hx hb dL_law_33 (Or.inr (by rw [nI_toInt (by first | with_reducible assumption | omega)]; omega)) (by decide) ?_
      exact hk cells slots (Nat.le_add_right _ _) (Nat.le_add_right _ _) ad cA iv lw fi fl fo H locs ls hF hP hD hK hS hl
