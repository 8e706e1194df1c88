set_option linter.all false
theorem zw_t5_129 : Cond.methodLink RL 164 yX9_hear ∈ zT := zt_5 (List.mem_of_getElem? (i := 129) (by decide +kernel)) (by decide +kernel)
theorem zw_t5_130 : Cond.instanceMethod yX9_hear ∈ zT := zt_5 (List.mem_of_getElem? (i := 130) (by decide +kernel)) (by decide +kernel)
theorem zw_t5_131 : Cond.selects RX9 yX9_hear yX9_hear ∈ zT := zt_5 (List.mem_of_getElem? (i := 131) (by decide +kernel)) (by decide +kernel)
theorem zw_t5_132 : Cond.code yX9_hear cX9_hear 11 (some .int) ∈ zT := zt_5 (List.mem_of_getElem? (i := 132) (by decide +kernel)) (by decide +kernel)
theorem zw_t8_152 : Cond.methodLink RL 168 yX10_hear ∈ zT := zt_8 (List.mem_of_getElem? (i := 152) (by decide +kernel)) (by decide +kernel)
theorem zw_t8_153 : Cond.instanceMethod yX10_hear ∈ zT := zt_8 (List.mem_of_getElem? (i := 153) (by decide +kernel)) (by decide +kernel)
theorem zw_t8_154 : Cond.selects RX10 yX10_hear yX10_hear ∈ zT := zt_8 (List.mem_of_getElem? (i := 154) (by decide +kernel)) (by decide +kernel)
theorem zw_t8_155 : Cond.code yX10_hear cX10_hear 8 (some .int) ∈ zT := zt_8 (List.mem_of_getElem? (i := 155) (by decide +kernel)) (by decide +kernel)
def bcL_law_1760 : List Nat := [43, 42, 29, 4, 96, 46, 42, 29, 5, 96, 46, 42, 29, 6, 96, 46, 42, 29, 7, 96, 46, 153, 0, 7, 4, 167, 0, 4, 3, 182, 0, 164, 87, 44, 42, 29, 4, 96, 46, 42, 29, 5, 96, 46, 42, 29, 6, 96, 46, 42, 29, 7, 96, 46, 153, 0, 7, 4, 167, 0]
theorem bcL_law_1760_ok : z_bys cL_law 1760 bcL_law_1760 = true := by decide +kernel
def bcL_law_1820 : List Nat := [4, 3, 182, 0, 168, 87, 167, 3, 52]
theorem bcL_law_1820_ok : z_bys cL_law 1820 bcL_law_1820 = true := by decide +kernel
theorem dL_law_1760 : decode cL_law 1760 = .ok (.aload_n 1, 1) := zo_43 (z_byk bcL_law_1760 1760 0 _ bcL_law_1760_ok rfl)
theorem dL_law_1761 : decode cL_law 1761 = .ok (.aload_n 0, 1) := zo_42 (z_byk bcL_law_1760 1760 1 _ bcL_law_1760_ok rfl)
theorem dL_law_1762 : decode cL_law 1762 = .ok (.iload_n 3, 1) := zo_29 (z_byk bcL_law_1760 1760 2 _ bcL_law_1760_ok rfl)
theorem dL_law_1763 : decode cL_law 1763 = .ok (.iconst 1, 1) := zo_4 (z_byk bcL_law_1760 1760 3 _ bcL_law_1760_ok rfl)
theorem dL_law_1764 : decode cL_law 1764 = .ok (.iadd, 1) := zo_96 (z_byk bcL_law_1760 1760 4 _ bcL_law_1760_ok rfl)
theorem dL_law_1765 : decode cL_law 1765 = .ok (.iaload, 1) := zo_46 (z_byk bcL_law_1760 1760 5 _ bcL_law_1760_ok rfl)
theorem dL_law_1766 : decode cL_law 1766 = .ok (.aload_n 0, 1) := zo_42 (z_byk bcL_law_1760 1760 6 _ bcL_law_1760_ok rfl)
theorem dL_law_1767 : decode cL_law 1767 = .ok (.iload_n 3, 1) := zo_29 (z_byk bcL_law_1760 1760 7 _ bcL_law_1760_ok rfl)
theorem dL_law_1768 : decode cL_law 1768 = .ok (.iconst 2, 1) := zo_5 (z_byk bcL_law_1760 1760 8 _ bcL_law_1760_ok rfl)
theorem dL_law_1769 : decode cL_law 1769 = .ok (.iadd, 1) := zo_96 (z_byk bcL_law_1760 1760 9 _ bcL_law_1760_ok rfl)
theorem dL_law_1770 : decode cL_law 1770 = .ok (.iaload, 1) := zo_46 (z_byk bcL_law_1760 1760 10 _ bcL_law_1760_ok rfl)
theorem dL_law_1771 : decode cL_law 1771 = .ok (.aload_n 0, 1) := zo_42 (z_byk bcL_law_1760 1760 11 _ bcL_law_1760_ok rfl)
theorem dL_law_1772 : decode cL_law 1772 = .ok (.iload_n 3, 1) := zo_29 (z_byk bcL_law_1760 1760 12 _ bcL_law_1760_ok rfl)
theorem dL_law_1773 : decode cL_law 1773 = .ok (.iconst 3, 1) := zo_6 (z_byk bcL_law_1760 1760 13 _ bcL_law_1760_ok rfl)
theorem dL_law_1774 : decode cL_law 1774 = .ok (.iadd, 1) := zo_96 (z_byk bcL_law_1760 1760 14 _ bcL_law_1760_ok rfl)
theorem dL_law_1775 : decode cL_law 1775 = .ok (.iaload, 1) := zo_46 (z_byk bcL_law_1760 1760 15 _ bcL_law_1760_ok rfl)
theorem dL_law_1776 : decode cL_law 1776 = .ok (.aload_n 0, 1) := zo_42 (z_byk bcL_law_1760 1760 16 _ bcL_law_1760_ok rfl)
theorem dL_law_1777 : decode cL_law 1777 = .ok (.iload_n 3, 1) := zo_29 (z_byk bcL_law_1760 1760 17 _ bcL_law_1760_ok rfl)
theorem dL_law_1778 : decode cL_law 1778 = .ok (.iconst 4, 1) := zo_7 (z_byk bcL_law_1760 1760 18 _ bcL_law_1760_ok rfl)
theorem dL_law_1779 : decode cL_law 1779 = .ok (.iadd, 1) := zo_96 (z_byk bcL_law_1760 1760 19 _ bcL_law_1760_ok rfl)
theorem dL_law_1780 : decode cL_law 1780 = .ok (.iaload, 1) := zo_46 (z_byk bcL_law_1760 1760 20 _ bcL_law_1760_ok rfl)
theorem dL_law_1781 : decode cL_law 1781 = .ok (.ifCond .eq 7, 3) := zo_153 (z_byk bcL_law_1760 1760 21 _ bcL_law_1760_ok rfl) (z_byk bcL_law_1760 1760 22 _ bcL_law_1760_ok rfl) (z_byk bcL_law_1760 1760 23 _ bcL_law_1760_ok rfl) rfl
theorem dL_law_1784 : decode cL_law 1784 = .ok (.iconst 1, 1) := zo_4 (z_byk bcL_law_1760 1760 24 _ bcL_law_1760_ok rfl)
theorem dL_law_1785 : decode cL_law 1785 = .ok (.goto 4, 3) := zo_167 (z_byk bcL_law_1760 1760 25 _ bcL_law_1760_ok rfl) (z_byk bcL_law_1760 1760 26 _ bcL_law_1760_ok rfl) (z_byk bcL_law_1760 1760 27 _ bcL_law_1760_ok rfl) rfl
theorem dL_law_1788 : decode cL_law 1788 = .ok (.iconst 0, 1) := zo_3 (z_byk bcL_law_1760 1760 28 _ bcL_law_1760_ok rfl)
theorem dL_law_1789 : decode cL_law 1789 = .ok (.invokevirtual 164, 3) := zo_182 (z_byk bcL_law_1760 1760 29 _ bcL_law_1760_ok rfl) (z_byk bcL_law_1760 1760 30 _ bcL_law_1760_ok rfl) (z_byk bcL_law_1760 1760 31 _ bcL_law_1760_ok rfl) rfl
theorem dL_law_1792 : decode cL_law 1792 = .ok (.pop, 1) := zo_87 (z_byk bcL_law_1760 1760 32 _ bcL_law_1760_ok rfl)
theorem dL_law_1793 : decode cL_law 1793 = .ok (.aload_n 2, 1) := zo_44 (z_byk bcL_law_1760 1760 33 _ bcL_law_1760_ok rfl)
theorem dL_law_1794 : decode cL_law 1794 = .ok (.aload_n 0, 1) := zo_42 (z_byk bcL_law_1760 1760 34 _ bcL_law_1760_ok rfl)
theorem dL_law_1795 : decode cL_law 1795 = .ok (.iload_n 3, 1) := zo_29 (z_byk bcL_law_1760 1760 35 _ bcL_law_1760_ok rfl)
theorem dL_law_1796 : decode cL_law 1796 = .ok (.iconst 1, 1) := zo_4 (z_byk bcL_law_1760 1760 36 _ bcL_law_1760_ok rfl)
theorem dL_law_1797 : decode cL_law 1797 = .ok (.iadd, 1) := zo_96 (z_byk bcL_law_1760 1760 37 _ bcL_law_1760_ok rfl)
theorem dL_law_1798 : decode cL_law 1798 = .ok (.iaload, 1) := zo_46 (z_byk bcL_law_1760 1760 38 _ bcL_law_1760_ok rfl)
theorem dL_law_1799 : decode cL_law 1799 = .ok (.aload_n 0, 1) := zo_42 (z_byk bcL_law_1760 1760 39 _ bcL_law_1760_ok rfl)
theorem dL_law_1800 : decode cL_law 1800 = .ok (.iload_n 3, 1) := zo_29 (z_byk bcL_law_1760 1760 40 _ bcL_law_1760_ok rfl)
theorem dL_law_1801 : decode cL_law 1801 = .ok (.iconst 2, 1) := zo_5 (z_byk bcL_law_1760 1760 41 _ bcL_law_1760_ok rfl)
theorem dL_law_1802 : decode cL_law 1802 = .ok (.iadd, 1) := zo_96 (z_byk bcL_law_1760 1760 42 _ bcL_law_1760_ok rfl)
theorem dL_law_1803 : decode cL_law 1803 = .ok (.iaload, 1) := zo_46 (z_byk bcL_law_1760 1760 43 _ bcL_law_1760_ok rfl)
theorem dL_law_1804 : decode cL_law 1804 = .ok (.aload_n 0, 1) := zo_42 (z_byk bcL_law_1760 1760 44 _ bcL_law_1760_ok rfl)
theorem dL_law_1805 : decode cL_law 1805 = .ok (.iload_n 3, 1) := zo_29 (z_byk bcL_law_1760 1760 45 _ bcL_law_1760_ok rfl)
theorem dL_law_1806 : decode cL_law 1806 = .ok (.iconst 3, 1) := zo_6 (z_byk bcL_law_1760 1760 46 _ bcL_law_1760_ok rfl)
theorem dL_law_1807 : decode cL_law 1807 = .ok (.iadd, 1) := zo_96 (z_byk bcL_law_1760 1760 47 _ bcL_law_1760_ok rfl)
theorem dL_law_1808 : decode cL_law 1808 = .ok (.iaload, 1) := zo_46 (z_byk bcL_law_1760 1760 48 _ bcL_law_1760_ok rfl)
theorem dL_law_1809 : decode cL_law 1809 = .ok (.aload_n 0, 1) := zo_42 (z_byk bcL_law_1760 1760 49 _ bcL_law_1760_ok rfl)
theorem dL_law_1810 : decode cL_law 1810 = .ok (.iload_n 3, 1) := zo_29 (z_byk bcL_law_1760 1760 50 _ bcL_law_1760_ok rfl)
theorem dL_law_1811 : decode cL_law 1811 = .ok (.iconst 4, 1) := zo_7 (z_byk bcL_law_1760 1760 51 _ bcL_law_1760_ok rfl)
theorem dL_law_1812 : decode cL_law 1812 = .ok (.iadd, 1) := zo_96 (z_byk bcL_law_1760 1760 52 _ bcL_law_1760_ok rfl)
theorem dL_law_1813 : decode cL_law 1813 = .ok (.iaload, 1) := zo_46 (z_byk bcL_law_1760 1760 53 _ bcL_law_1760_ok rfl)
theorem dL_law_1814 : decode cL_law 1814 = .ok (.ifCond .eq 7, 3) := zo_153 (z_byk bcL_law_1760 1760 54 _ bcL_law_1760_ok rfl) (z_byk bcL_law_1760 1760 55 _ bcL_law_1760_ok rfl) (z_byk bcL_law_1760 1760 56 _ bcL_law_1760_ok rfl) rfl
theorem dL_law_1817 : decode cL_law 1817 = .ok (.iconst 1, 1) := zo_4 (z_byk bcL_law_1760 1760 57 _ bcL_law_1760_ok rfl)
theorem dL_law_1818 : decode cL_law 1818 = .ok (.goto 4, 3) := zo_167 (z_byk bcL_law_1760 1760 58 _ bcL_law_1760_ok rfl) (z_byk bcL_law_1760 1760 59 _ bcL_law_1760_ok rfl) (z_byk bcL_law_1820 1820 0 _ bcL_law_1820_ok rfl) rfl
theorem dL_law_1821 : decode cL_law 1821 = .ok (.iconst 0, 1) := zo_3 (z_byk bcL_law_1820 1820 1 _ bcL_law_1820_ok rfl)
theorem dL_law_1822 : decode cL_law 1822 = .ok (.invokevirtual 168, 3) := zo_182 (z_byk bcL_law_1820 1820 2 _ bcL_law_1820_ok rfl) (z_byk bcL_law_1820 1820 3 _ bcL_law_1820_ok rfl) (z_byk bcL_law_1820 1820 4 _ bcL_law_1820_ok rfl) rfl
theorem dL_law_1825 : decode cL_law 1825 = .ok (.pop, 1) := zo_87 (z_byk bcL_law_1820 1820 5 _ bcL_law_1820_ok rfl)
theorem dL_law_1826 : decode cL_law 1826 = .ok (.goto 820, 3) := zo_167 (z_byk bcL_law_1820 1820 6 _ bcL_law_1820_ok rfl) (z_byk bcL_law_1820 1820 7 _ bcL_law_1820_ok rfl) (z_byk bcL_law_1820 1820 8 _ bcL_law_1820_ok rfl) rfl
set_option maxHeartbeats 8000000 in
set_option maxRecDepth 100000 in
theorem law_hear {p : Program} {e : Env} {s : State} {m : MethodId} {below : List Frame} {meth : Method} {c : Code} {l : Launch} {b L : Nat} {xs : Nat → Int32} (C0 : lw_At p s m meth c b L xs) {sa : Nat → Nat} {dC : Nat → ClassId} {dI : Nat → Nat → Nat} {A : Nat → Prop} (hA : ∀ q, s.heap.size ≤ q → A q) (hA2 : ∀ q, A q → s.heap.size ≤ q) (hN : zN s) (hXs : zX sa A s s.heap) {ad : Nat → Nat} {cA : Nat → ClassId} {iv : Nat → Int32} {lw : Nat → Int64} {fi : Nat → Nat → Int32} {fl : Nat → Nat → Int64} {fo : Nat → Nat → Option Nat} {H : Heap} {locs : List Loc} {ls : Array Slot} {i0 : Int32} {cells slots : Nat} (hcs : cells + 11 ≤ 600000 ∧ slots + 690 ≤ 7302250) (hi : 0 ≤ i0.toInt ∧ i0.toInt + 6 ≤ (L : Int) ∧ L ≤ 3072) (hF : zFacts ad cA iv lw fi fl fo) (hP : va_P (dC, dI) vwCl (zFull ad cA iv lw fi fl fo) H) (hD : va_D A (zFull ad cA iv lw fi fl fo)) (hK : va_K (dC, dI) vwCl (zTys cA) s) (hS : va_S A s.heap H locs) (hl : lv_has ls 4 [(3, .int i0), (2, .ref (ad 1)), (1, .ref (ad 0)), (0, .ref b)]) (hk : ∀ (ad : Nat → Nat) (cA : Nat → ClassId) (iv : Nat → Int32) (lw : Nat → Int64) (fi : Nat → Nat → Int32) (fl : Nat → Nat → Int64) (fo : Nat → Nat → Option Nat) (H : Heap) (locs : List Loc) (ls : Array Slot), (zFacts ad cA iv lw fi fl fo) → va_P (dC, dI) vwCl (zFull ad cA iv lw fi fl fo) H → va_D A (zFull ad cA iv lw fi fl fo) → va_K (dC, dI) vwCl (zTys cA) s → va_S A s.heap H locs → lv_has ls 4 [(3, .int i0), (2, .ref (ad 1)), (1, .ref (ad 0)), (0, .ref b)] → W p l e room_1 s m #[Value.ref b] below meth c H locs cells slots (lw_Z below #[Value.ref b] s) (F0 m 2646 ls [])) : W p l e room_1 s m #[Value.ref b] below meth c H locs cells slots (lw_Z below #[Value.ref b] s) (F0 m 1760 ls []) := by
  refine (id C0).elim fun hx ze1 => ze1.elim fun hb ze2 => ze2.elim fun hr ze3 => ze3.elim fun hml ze4 => ze4.elim fun hown ze5 => ze5.elim fun hts ze6 => ze6.elim fun hX ze7 => ze7.elim fun hbl ze8 => ze8.elim fun hlocks hgv => ?_
  clear ze1 ze2 ze3 ze4 ze5 ze6 ze7 ze8
  have hown : s.vm.findClass RL = some m.cls := hown
  have hb : c.code = cL_law := hb
  have hts : ∀ w ∈ zT, w.before #[Value.ref b] s = true := fun w h => hts w (zT_in w h)
  have hbA : ¬ A b := fun q => absurd (hA2 b q) (Nat.not_le.mpr hbl)
  refine zFe hF (fun b_h0_tapeLength b_m0_taped b_m0_at b_m0_token b_m0_value b_m0_bad b_m0_strays b_m0_hostCourt b_m0_dayCourt b_m0_dayHour b_f_m0_width b_f_m0_many b_f_m0_hours b_f_m0_courts b_f_m0_in b_f_m0_gates b_f_m0_gate b_f_m0_people b_f_m0_at0 b_f_m0_stray b_f_m0_set b_f_m0_known b_f_m0_digit him0 him1 him2 hsl0 hsl1 hsl2 hsl3 b_rd_tokens b_rd_at b_rd_strayCount b_rd_lawTold b_rd_falseTold b_f_rd_kinds b_f_rd_starts b_f_rd_stops b_f_rd_values b_wk_firstGate b_wk_firstHour b_f_wk_costs b_f_wk_lower b_ch_lastHour b_ch_unsureCount b_f_ch_unsure b_f_ch_seats b_f_ch_worth b_f_ch_digits b_dy_court b_dy_hour b_nw_isKept b_nw_names b_i0_isKept b_i0_names b_i1_isKept b_i1_names b_i2_isKept b_i2_names b_r0_size b_r1_size b_r2_size b_r3_size b_g0_hours b_g0_courts b_g0_gateCount b_g0_people b_g0_falseHours b_g0_deep b_f_g0_degrees b_f_g0_neighbours b_f_g0_oneEnd b_f_g0_otherEnd b_f_g0_told b_f_g0_strayParts b_f_g0_strayCourts b_g1_hours b_g1_courts b_g1_gateCount b_g1_people b_g1_falseHours b_g1_deep b_f_g1_degrees b_f_g1_neighbours b_f_g1_oneEnd b_f_g1_otherEnd b_f_g1_told b_f_g1_strayParts b_f_g1_strayCourts b_g2_hours b_g2_courts b_g2_gateCount b_g2_people b_g2_falseHours b_g2_deep b_f_g2_degrees b_f_g2_neighbours b_f_g2_oneEnd b_f_g2_otherEnd b_f_g2_told b_f_g2_strayParts b_f_g2_strayCourts b_g3_hours b_g3_courts b_g3_gateCount b_g3_people b_g3_falseHours b_g3_deep b_f_g3_degrees b_f_g3_neighbours b_f_g3_oneEnd b_f_g3_otherEnd b_f_g3_told b_f_g3_strayParts b_f_g3_strayCourts tw0 tw1 tw2 tw3 hmd hit0 hit1 hit2 rtl rtp rfk rfp rkp0 rkp1 rkp2 zra rhp rou rsh zrp => ?_)
  have hic := hmd.ic
  have hih := hmd.ih
  have hc4 := hmd.c4
  obtain ⟨wx, hwx⟩ : ∃ w : va_W, w = [((ad 2), .inl ((cA 2), 4, .inl (fi 2))), ((ad 3), .inl ((cA 3), 4, .inl (fi 3))), ((ad 4), .inl ((cA 4), 240, .inr (.inl (fl 4)))), ((ad 5), .inl ((cA 5), 60, .inr (.inl (fl 5)))), ((ad 6), .inl ((cA 6), 1600, .inl (fi 6))), ((ad 7), .inl ((cA 7), 5, .inl (fi 7))), ((ad 11), .inl ((cA 11), 5, .inl (fi 11))), ((ad 12), .inl ((cA 12), 160, .inl (fi 12))), ((ad 17), .inl ((cA 17), 10, .inl (fi 17))), ((ad 18), .inl ((cA 18), 10, .inl (fi 18))), ((ad 20), .inl ((cA 20), 3, .inl (fi 20))), ((ad 21), .inl ((cA 21), 480, .inl (fi 21))), ((ad 22), .inl ((cA 22), 49, .inl (fi 22))), ((ad 23), .inl ((cA 23), 490, .inl (fi 23))), ((ad 24), .inl ((cA 24), 10, .inr (.inl (fl 24)))), ((ad 25), .inl ((cA 25), 10, .inr (.inl (fl 25)))), ((ad 26), .inl ((cA 26), 100, .inl (fi 26))), ((ad 27), .inl ((cA 27), 100, .inl (fi 27))), ((ad 28), .inl ((cA 28), 1000, .inl (fi 28))), ((ad 29), .inl ((cA 29), 1000, .inl (fi 29))), ((ad 30), .inl ((cA 30), 39690, .inr (.inl (fl 30)))), ((ad 31), .inl ((cA 31), 10, .inl (fi 31))), ((ad 32), .inl ((cA 32), 1600, .inl (fi 32))), ((ad 33), .inl ((cA 33), 3, .inr (.inr (.inr (.inr (fo 33)))))), ((ad 34), .inl ((cA 34), 4, .inr (.inr (.inr (.inr (fo 34)))))), ((ad 35), .inr (5, [.int (iv 23), .int (iv 24), .ref (ad 121), .ref (ad 36), .ref (ad 37), .ref (ad 38), .ref (ad 39), .int (iv 25), .int (iv 26), .ref (ad 122), .int (iv 27), .int (iv 28), .int (iv 29)])), ((ad 36), .inl ((cA 36), 1601, .inl (fi 36))), ((ad 37), .inl ((cA 37), 1601, .inl (fi 37))), ((ad 38), .inl ((cA 38), 1601, .inl (fi 38))), ((ad 39), .inl ((cA 39), 1601, .inl (fi 39))), ((ad 40), .inr (8, [.int (iv 30), .int (iv 31), .int (iv 32), .ref (ad 123), .ref (ad 41), .ref (ad 42), .ref (ad 43), .ref (ad 44), .ref (ad 45), .ref (ad 46), .ref (ad 47)])), ((ad 41), .inl ((cA 41), 48, .inl (fi 41))), ((ad 42), .inl ((cA 42), 48, .inl (fi 42))), ((ad 43), .inl ((cA 43), 10, .inl (fi 43))), ((ad 44), .inl ((cA 44), 10, .inl (fi 44))), ((ad 45), .inl ((cA 45), 10, .inl (fi 45))), ((ad 46), .inl ((cA 46), 10, .inr (.inl (fl 46)))), ((ad 47), .inl ((cA 47), 10, .inr (.inl (fl 47)))), ((ad 48), .inr (2, [.ref (ad 124), .int (iv 33), .ref (ad 49), .ref (ad 50)])), ((ad 49), .inl ((cA 49), 160, .inr (.inl (fl 49)))), ((ad 50), .inl ((cA 50), 160, .inr (.inl (fl 50)))), ((ad 51), .inr (4, [.ref (ad 52), .ref (ad 53), .ref (ad 54), .ref (ad 55), .ref (ad 56)])), ((ad 52), .inl ((cA 52), 10, .inl (fi 52))), ((ad 53), .inl ((cA 53), 10, .inl (fi 53))), ((ad 54), .inl ((cA 54), 100, .inl (fi 54))), ((ad 55), .inl ((cA 55), 100, .inl (fi 55))), ((ad 56), .inl ((cA 56), 100, .inl (fi 56))), ((ad 57), .inr (0, [.ref (ad 125), .int (iv 34), .int (iv 35), .int (iv 36), .int (iv 37), .ref (ad 58), .ref (ad 59), .int (iv 38), .int (iv 39), .ref (ad 60), .int (iv 40), .ref (ad 61), .ref (ad 62), .ref (ad 63), .int (iv 41), .int (iv 42), .int (iv 43)])), ((ad 58), .inl ((cA 58), 4, .inl (fi 58))), ((ad 59), .inl ((cA 59), 10, .inl (fi 59))), ((ad 60), .inl ((cA 60), 38880, .inl (fi 60))), ((ad 61), .inl ((cA 61), 4, .inl (fi 61))), ((ad 62), .inl ((cA 62), 4, .inl (fi 62))), ((ad 63), .inl ((cA 63), 4, .inl (fi 63))), ((ad 64), .inr (1, [.int (iv 44), .int (iv 45), .int (iv 46), .int (iv 47)])), ((ad 66), .inr (3, [.int (iv 53), .ref (ad 126), .int (iv 54), .int (iv 55), .int (iv 56), .int (iv 57)])), ((ad 67), .inr (3, [.int (iv 58), .ref (ad 127), .int (iv 59), .int (iv 60), .int (iv 61), .int (iv 62)])), ((ad 68), .inr (3, [.int (iv 63), .ref (ad 128), .int (iv 64), .int (iv 65), .int (iv 66), .int (iv 67)])), ((ad 69), .inr (6, [.int (iv 68), .int (iv 69), .ref (ad 70)])), ((ad 70), .inl ((cA 70), 60, .inr (.inl (fl 70)))), ((ad 71), .inr (6, [.int (iv 70), .int (iv 71), .ref (ad 72)])), ((ad 72), .inl ((cA 72), 60, .inr (.inl (fl 72)))), ((ad 73), .inr (6, [.int (iv 72), .int (iv 73), .ref (ad 74)])), ((ad 74), .inl ((cA 74), 60, .inr (.inl (fl 74)))), ((ad 75), .inr (6, [.int (iv 74), .int (iv 75), .ref (ad 76)])), ((ad 76), .inl ((cA 76), 60, .inr (.inl (fl 76)))), ((ad 78), .inl ((cA 78), 10, .inl (fi 78))), ((ad 79), .inl ((cA 79), 10, .inl (fi 79))), ((ad 80), .inl ((cA 80), 10, .inl (fi 80))), ((ad 81), .inl ((cA 81), 100, .inl (fi 81))), ((ad 83), .inl ((cA 83), 16, .inl (fi 83))), ((ad 84), .inl ((cA 84), 16, .inl (fi 84))), ((ad 86), .inl ((cA 86), 10, .inl (fi 86))), ((ad 88), .inr (7, [.int (iv 84), .int (iv 85), .int (iv 86), .int (iv 87), .int (iv 88), .int (iv 89), .int (iv 90), .int (iv 91), .ref (ad 89), .ref (ad 90), .ref (ad 91), .ref (ad 92), .ref (ad 93), .ref (ad 94), .ref (ad 95), .ref (ad 96), .ref (ad 97), .ref (ad 98)])), ((ad 89), .inl ((cA 89), 10, .inl (fi 89))), ((ad 90), .inl ((cA 90), 10, .inl (fi 90))), ((ad 91), .inl ((cA 91), 10, .inl (fi 91))), ((ad 92), .inl ((cA 92), 100, .inl (fi 92))), ((ad 93), .inl ((cA 93), 10, .inl (fi 93))), ((ad 94), .inl ((cA 94), 16, .inl (fi 94))), ((ad 95), .inl ((cA 95), 16, .inl (fi 95))), ((ad 96), .inl ((cA 96), 480, .inl (fi 96))), ((ad 97), .inl ((cA 97), 10, .inl (fi 97))), ((ad 98), .inl ((cA 98), 10, .inl (fi 98))), ((ad 99), .inr (7, [.int (iv 92), .int (iv 93), .int (iv 94), .int (iv 95), .int (iv 96), .int (iv 97), .int (iv 98), .int (iv 99), .ref (ad 100), .ref (ad 101), .ref (ad 102), .ref (ad 103), .ref (ad 104), .ref (ad 105), .ref (ad 106), .ref (ad 107), .ref (ad 108), .ref (ad 109)])), ((ad 100), .inl ((cA 100), 10, .inl (fi 100))), ((ad 101), .inl ((cA 101), 10, .inl (fi 101))), ((ad 102), .inl ((cA 102), 10, .inl (fi 102))), ((ad 103), .inl ((cA 103), 100, .inl (fi 103))), ((ad 104), .inl ((cA 104), 10, .inl (fi 104))), ((ad 105), .inl ((cA 105), 16, .inl (fi 105))), ((ad 106), .inl ((cA 106), 16, .inl (fi 106))), ((ad 107), .inl ((cA 107), 480, .inl (fi 107))), ((ad 108), .inl ((cA 108), 10, .inl (fi 108))), ((ad 109), .inl ((cA 109), 10, .inl (fi 109))), ((ad 110), .inr (7, [.int (iv 100), .int (iv 101), .int (iv 102), .int (iv 103), .int (iv 104), .int (iv 105), .int (iv 106), .int (iv 107), .ref (ad 111), .ref (ad 112), .ref (ad 113), .ref (ad 114), .ref (ad 115), .ref (ad 116), .ref (ad 117), .ref (ad 118), .ref (ad 119), .ref (ad 120)])), ((ad 111), .inl ((cA 111), 10, .inl (fi 111))), ((ad 112), .inl ((cA 112), 10, .inl (fi 112))), ((ad 113), .inl ((cA 113), 10, .inl (fi 113))), ((ad 114), .inl ((cA 114), 100, .inl (fi 114))), ((ad 115), .inl ((cA 115), 10, .inl (fi 115))), ((ad 116), .inl ((cA 116), 16, .inl (fi 116))), ((ad 117), .inl ((cA 117), 16, .inl (fi 117))), ((ad 118), .inl ((cA 118), 480, .inl (fi 118))), ((ad 119), .inl ((cA 119), 10, .inl (fi 119))), ((ad 120), .inl ((cA 120), 10, .inl (fi 120)))] := ⟨_, rfl⟩
  obtain ⟨hP, hD⟩ := z_both (wn := wx ++ [((ad 0), .inr (9, [.ref (ad 32), .int (iv 0), .int (iv 1), .int (iv 2), .ref (ad 65), .ref (ad 33), .ref (ad 34), .ref (ad 35), .ref (ad 40), .ref (ad 48), .ref (ad 51), .ref (ad 57), .ref (ad 64)])), ((ad 1), .inr (10, [.int (iv 3), .ref (ad 2), .ref (ad 3), .ref (ad 4), .ref (ad 5), .ref (ad 6), .int (iv 4), .int (iv 5), .int (iv 6), .int (iv 7), .int (iv 8), .long (lw 0), .int (iv 9), .int (iv 10), .int (iv 11), .int (iv 12), .ref (ad 7), .ref (ad 8), .ref (ad 9), .ref (ad 10), .ref (ad 11), .ref (ad 12), .ref (ad 13), .ref (ad 14), .ref (ad 15), .ref (ad 16), .ref (ad 17), .ref (ad 18), .ref (ad 19), .ref (ad 20), .int (iv 13), .int (iv 14), .int (iv 15), .int (iv 16), .ref (ad 21), .ref (ad 22), .ref (ad 23), .ref (ad 24), .ref (ad 25), .ref (ad 26), .ref (ad 27), .ref (ad 28), .ref (ad 29), .int (iv 17), .ref (ad 30), .ref (ad 31), .int (iv 18), .long (lw 1), .int (iv 19), .int (iv 20), .int (iv 21), .int (iv 22), .long (lw 2)])), ((ad 8), .inl ((cA 8), 5, .inl (fi 8))), ((ad 9), .inl ((cA 9), 5, .inl (fi 9))), ((ad 10), .inl ((cA 10), 50, .inl (fi 10))), ((ad 13), .inl ((cA 13), 5, .inl (fi 13))), ((ad 14), .inl ((cA 14), 2400, .inl (fi 14))), ((ad 15), .inl ((cA 15), 100, .inl (fi 15))), ((ad 16), .inl ((cA 16), 10, .inl (fi 16))), ((ad 19), .inl ((cA 19), 50, .inl (fi 19))), ((ad 65), .inr (3, [.int (iv 48), .ref (ad 77), .int (iv 49), .int (iv 50), .int (iv 51), .int (iv 52)])), ((ad 77), .inr (7, [.int (iv 76), .int (iv 77), .int (iv 78), .int (iv 79), .int (iv 80), .int (iv 81), .int (iv 82), .int (iv 83), .ref (ad 78), .ref (ad 79), .ref (ad 80), .ref (ad 81), .ref (ad 82), .ref (ad 83), .ref (ad 84), .ref (ad 85), .ref (ad 86), .ref (ad 87)])), ((ad 82), .inl ((cA 82), 10, .inl (fi 82))), ((ad 85), .inl ((cA 85), 480, .inl (fi 85))), ((ad 87), .inl ((cA 87), 10, .inl (fi 87)))]) hP hD [2, 3, 4, 5, 6, 7, 11, 12, 17, 18, 20, 21, 22, 23, 24, 25, 26, 27, 28, 29, 30, 31, 32, 33, 34, 35, 36, 37, 38, 39, 40, 41, 42, 43, 44, 45, 46, 47, 48, 49, 50, 51, 52, 53, 54, 55, 56, 57, 58, 59, 60, 61, 62, 63, 64, 66, 67, 68, 69, 70, 71, 72, 73, 74, 75, 76, 78, 79, 80, 81, 83, 84, 86, 88, 89, 90, 91, 92, 93, 94, 95, 96, 97, 98, 99, 100, 101, 102, 103, 104, 105, 106, 107, 108, 109, 110, 111, 112, 113, 114, 115, 116, 117, 118, 119, 120, 0, 1, 8, 9, 10, 13, 14, 15, 16, 19, 65, 77, 82, 85, 87] (by decide +kernel) (by rw [hwx]; rfl)
  have hKz := hK
  have hK : va_K (dC, dI) vwCl [((cA 8), .int), ((cA 9), .int), ((cA 10), .int), ((cA 13), .int), ((cA 14), .int), ((cA 15), .int), ((cA 16), .int), ((cA 19), .int), ((cA 82), .int), ((cA 85), .int), ((cA 87), .int)] s := hK.sub [6, 7, 8, 11, 12, 13, 14, 17, 65, 68, 70] rfl
  refine lv_aload_n hx hb dL_law_1760 rfl (lv_at hl 2 rfl) ?_
  refine lv_aload_n hx hb dL_law_1761 rfl (lv_at hl 3 rfl) ?_
  refine lv_iload_n hx hb dL_law_1762 rfl (lv_at hl 0 rfl) ?_
  refine lv_iconst (v := 1) hx hb dL_law_1763 (by decide) ?_
  refine lv_iadd hx hb dL_law_1764 ?_
  refine lv_topi (fun x_1 ex_1 => ?_)
  have b_x_1 : x_1.toInt = i0.toInt + 1 := zs_add ex_1 hi (show Int32.toInt 1 = 1 from by decide) (by decide)
  refine va_sld hx hb hX hbl hbA hS (zs_in b_x_1 hi (by decide)) dL_law_1765 ?_
  refine lv_topi (fun x_2 ex_2 => ?_)
  refine lv_aload_n hx hb dL_law_1766 rfl (lv_at hl 3 rfl) ?_
  refine lv_iload_n hx hb dL_law_1767 rfl (lv_at hl 0 rfl) ?_
  refine lv_iconst (v := 2) hx hb dL_law_1768 (by decide) ?_
  refine lv_iadd hx hb dL_law_1769 ?_
  refine lv_topi (fun x_3 ex_3 => ?_)
  have b_x_3 : x_3.toInt = i0.toInt + 2 := zs_add ex_3 hi (show Int32.toInt 2 = 2 from by decide) (by decide)
  refine va_sld hx hb hX hbl hbA hS (zs_in b_x_3 hi (by decide)) dL_law_1770 ?_
  refine lv_topi (fun x_4 ex_4 => ?_)
  refine lv_aload_n hx hb dL_law_1771 rfl (lv_at hl 3 rfl) ?_
  refine lv_iload_n hx hb dL_law_1772 rfl (lv_at hl 0 rfl) ?_
  refine lv_iconst (v := 3) hx hb dL_law_1773 (by decide) ?_
  refine lv_iadd hx hb dL_law_1774 ?_
  refine lv_topi (fun x_5 ex_5 => ?_)
  have b_x_5 : x_5.toInt = i0.toInt + 3 := zs_add ex_5 hi (show Int32.toInt 3 = 3 from by decide) (by decide)
  refine va_sld hx hb hX hbl hbA hS (zs_in b_x_5 hi (by decide)) dL_law_1775 ?_
  refine lv_topi (fun x_6 ex_6 => ?_)
  refine lv_aload_n hx hb dL_law_1776 rfl (lv_at hl 3 rfl) ?_
  refine lv_iload_n hx hb dL_law_1777 rfl (lv_at hl 0 rfl) ?_
  refine lv_iconst (v := 4) hx hb dL_law_1778 (by decide) ?_
  refine lv_iadd hx hb dL_law_1779 ?_
  refine lv_topi (fun x_7 ex_7 => ?_)
  have b_x_7 : x_7.toInt = i0.toInt + 4 := zs_add ex_7 hi (show Int32.toInt 4 = 4 from by decide) (by decide)
  refine va_sld hx hb hX hbl hbA hS (zs_in b_x_7 hi (by decide)) dL_law_1780 ?_
  refine lv_topi (fun x_8 ex_8 => ?_)
  have nb_x_8 := zi_nb x_8
  refine lv_if_eq (tgt := 1788) hx hb dL_law_1781 (by decide) (fun c_9 => ?_) (fun c_9 => ?_)
  · have ic_9 := zz_eq rfl (show Int32.toInt 0 = 0 from by decide) c_9
    refine lv_iconst (v := 0) hx hb dL_law_1788 (by decide) ?_
    obtain ⟨hPc, hDc, hFc⟩ := z_cut (wc := (zV247 (ad 0) (ad 32) (iv 0) (iv 1) (iv 2) (ad 65) (ad 33) (ad 34) (ad 35) (ad 40) (ad 48) (ad 51) (ad 57) (ad 64) (ad 65) (iv 48) (ad 77) (iv 49) (iv 50) (iv 51) (iv 52) (ad 77) (iv 76) (iv 77) (iv 78) (iv 79) (iv 80) (iv 81) (iv 82) (iv 83) (ad 78) (ad 79) (ad 80) (ad 81) (ad 82) (ad 83) (ad 84) (ad 85) (ad 86) (ad 87) (ad 82) (cA 82) (fi 82) (ad 85) (cA 85) (fi 85) (ad 87) (cA 87) (fi 87))) (z_pr hP) (z_dr hD) hS hA [0, 10, 11, 12, 13, 14] rfl (by decide +kernel)
    have hKc := hK.sub (tys' := [((cA 82), .int), ((cA 85), .int), ((cA 87), .int)]) [8, 9, 10] rfl
    refine va_calli (va_runV (As := [.int x_2, .int x_4, .int x_6, .int 0]) (rest := []) ⟨hx, hb, hml, hown, hts⟩ (kf_X9_hear l sa dC dI (ad 0) x_2 x_4 x_6 (0) (ad 32) (iv 0) (iv 1) (iv 2) (ad 65) (ad 33) (ad 34) (ad 35) (ad 40) (ad 48) (ad 51) (ad 57) (ad 64) (iv 48) (ad 77) (iv 49) (iv 50) (iv 51) (iv 52) (iv 76) (iv 77) (iv 78) (iv 79) (iv 80) (iv 81) (iv 82) (iv 83) (ad 78) (ad 79) (ad 80) (ad 81) (ad 82) (ad 83) (ad 84) (ad 85) (ad 86) (ad 87) (cA 82) (fi 82) (cA 85) (fi 85) (cA 87) (fi 87) b_h0_tapeLength b_nw_isKept b_nw_names b_g0_hours b_g0_courts b_g0_gateCount b_g0_people b_g0_falseHours b_g0_deep b_f_g0_told b_f_g0_strayCourts H.size) (cwV 4 hts (z_gV zw_t5_129 zw_t5_130 zw_t5_131 zw_t1_1 zw_t5_132) rfl rfl rfl (by decide +kernel) ⟨(Nat.le_of_ble_eq_true rfl), (Nat.le_of_ble_eq_true rfl)⟩) (z_preV hPc hKc hDc hN hXs hS hFc (q := (RX9, TX9, 13)) (ci := 9) (q0 := 0) rfl rfl) rfl rfl hl.1 rfl (lv_room (Nat.le_of_ble_eq_true rfl)) dL_law_1789 ⟨(show cells + 0 + 0 ≤ 600000 by omega), (show slots + 0 + 0 ≤ 7302250 by omega)⟩) hS (fun q _ h => hFc q h) hFc (fun r_10 u t H1 locs ht hvm hw hB hz1 hk1 hS => ?_)
    obtain ⟨n_nw_11, n_nw_12, hf_13, hf_14, hB⟩ := hB
    obtain ⟨hP, hD, hK⟩ := z_after2X (wn := [((ad 1), .inr (10, [.int (iv 3), .ref (ad 2), .ref (ad 3), .ref (ad 4), .ref (ad 5), .ref (ad 6), .int (iv 4), .int (iv 5), .int (iv 6), .int (iv 7), .int (iv 8), .long (lw 0), .int (iv 9), .int (iv 10), .int (iv 11), .int (iv 12), .ref (ad 7), .ref (ad 8), .ref (ad 9), .ref (ad 10), .ref (ad 11), .ref (ad 12), .ref (ad 13), .ref (ad 14), .ref (ad 15), .ref (ad 16), .ref (ad 17), .ref (ad 18), .ref (ad 19), .ref (ad 20), .int (iv 13), .int (iv 14), .int (iv 15), .int (iv 16), .ref (ad 21), .ref (ad 22), .ref (ad 23), .ref (ad 24), .ref (ad 25), .ref (ad 26), .ref (ad 27), .ref (ad 28), .ref (ad 29), .int (iv 17), .ref (ad 30), .ref (ad 31), .int (iv 18), .long (lw 1), .int (iv 19), .int (iv 20), .int (iv 21), .int (iv 22), .long (lw 2)])), ((ad 8), .inl ((cA 8), 5, .inl (fi 8))), ((ad 9), .inl ((cA 9), 5, .inl (fi 9))), ((ad 10), .inl ((cA 10), 50, .inl (fi 10))), ((ad 13), .inl ((cA 13), 5, .inl (fi 13))), ((ad 14), .inl ((cA 14), 2400, .inl (fi 14))), ((ad 15), .inl ((cA 15), 100, .inl (fi 15))), ((ad 16), .inl ((cA 16), 10, .inl (fi 16))), ((ad 19), .inl ((cA 19), 50, .inl (fi 19))), ((ad 0), .inr (9, [.ref (ad 32), .int (iv 0), .int (iv 1), .int (iv 2), .ref (ad 65), .ref (ad 33), .ref (ad 34), .ref (ad 35), .ref (ad 40), .ref (ad 48), .ref (ad 51), .ref (ad 57), .ref (ad 64)])), ((ad 65), .inr (3, [.int (iv 48), .ref (ad 77), .int (iv 49), .int (iv 50), .int n_nw_11, .int n_nw_12])), ((ad 77), .inr (7, [.int (iv 76), .int (iv 77), .int (iv 78), .int (iv 79), .int (iv 80), .int (iv 81), .int (iv 82), .int (iv 83), .ref (ad 78), .ref (ad 79), .ref (ad 80), .ref (ad 81), .ref (ad 82), .ref (ad 83), .ref (ad 84), .ref (ad 85), .ref (ad 86), .ref (ad 87)])), ((ad 82), .inl ((cA 82), 10, .inl (fi 82))), ((ad 85), .inl ((cA 85), 480, .inl (fi 85))), ((ad 87), .inl ((cA 87), 10, .inl (fi 87)))]) hB ht hvm hP hD hK [0, 10, 11, 12, 13, 14] [1, 2, 3, 4, 5, 6, 7, 8, 9] rfl 15 rfl (by decide +kernel) rfl (by decide +kernel) hk1 hFc
    generalize H1 = H at hP hS ⊢
    have hK : va_K (dC, dI) vwCl [((cA 8), .int), ((cA 9), .int), ((cA 10), .int), ((cA 13), .int), ((cA 14), .int), ((cA 15), .int), ((cA 16), .int), ((cA 19), .int), ((cA 82), .int), ((cA 85), .int), ((cA 87), .int)] s := hK
    have b_r_10 : (-5) ≤ r_10.toInt ∧ r_10.toInt ≤ 1 := hw.1
    have sf_r_10 := hw.2
    have za_0 : Int32.toInt 0 = 0 := by decide
    refine lv_pop hx hb dL_law_1792 rfl ?_
    refine lv_aload_n hx hb dL_law_1793 rfl (lv_at hl 1 rfl) ?_
    refine lv_aload_n hx hb dL_law_1794 rfl (lv_at hl 3 rfl) ?_
    refine lv_iload_n hx hb dL_law_1795 rfl (lv_at hl 0 rfl) ?_
    refine lv_iconst (v := 1) hx hb dL_law_1796 (by decide) ?_
    refine lv_iadd hx hb dL_law_1797 ?_
    refine lv_topi (fun x_15 ex_15 => ?_)
    have b_x_15 : x_15.toInt = i0.toInt + 1 := zs_add ex_15 hi (show Int32.toInt 1 = 1 from by decide) (by decide)
    refine va_sld hx hb hX hbl hbA hS (zs_in b_x_15 hi (by decide)) dL_law_1798 ?_
    refine lv_topi (fun x_16 ex_16 => ?_)
    obtain rfl : x_1 = x_15 := zs_eq b_x_1 b_x_15
    obtain rfl : x_2 = x_16 := ex_2.trans ex_16.symm
    refine lv_aload_n hx hb dL_law_1799 rfl (lv_at hl 3 rfl) ?_
    refine lv_iload_n hx hb dL_law_1800 rfl (lv_at hl 0 rfl) ?_
    refine lv_iconst (v := 2) hx hb dL_law_1801 (by decide) ?_
    refine lv_iadd hx hb dL_law_1802 ?_
    refine lv_topi (fun x_17 ex_17 => ?_)
    have b_x_17 : x_17.toInt = i0.toInt + 2 := zs_add ex_17 hi (show Int32.toInt 2 = 2 from by decide) (by decide)
    refine va_sld hx hb hX hbl hbA hS (zs_in b_x_17 hi (by decide)) dL_law_1803 ?_
    refine lv_topi (fun x_18 ex_18 => ?_)
    obtain rfl : x_3 = x_17 := zs_eq b_x_3 b_x_17
    obtain rfl : x_4 = x_18 := ex_4.trans ex_18.symm
    refine lv_aload_n hx hb dL_law_1804 rfl (lv_at hl 3 rfl) ?_
    refine lv_iload_n hx hb dL_law_1805 rfl (lv_at hl 0 rfl) ?_
    refine lv_iconst (v := 3) hx hb dL_law_1806 (by decide) ?_
    refine lv_iadd hx hb dL_law_1807 ?_
    refine lv_topi (fun x_19 ex_19 => ?_)
    have b_x_19 : x_19.toInt = i0.toInt + 3 := zs_add ex_19 hi (show Int32.toInt 3 = 3 from by decide) (by decide)
    refine va_sld hx hb hX hbl hbA hS (zs_in b_x_19 hi (by decide)) dL_law_1808 ?_
    refine lv_topi (fun x_20 ex_20 => ?_)
    obtain rfl : x_5 = x_19 := zs_eq b_x_5 b_x_19
    obtain rfl : x_6 = x_20 := ex_6.trans ex_20.symm
    refine lv_aload_n hx hb dL_law_1809 rfl (lv_at hl 3 rfl) ?_
    refine lv_iload_n hx hb dL_law_1810 rfl (lv_at hl 0 rfl) ?_
    refine lv_iconst (v := 4) hx hb dL_law_1811 (by decide) ?_
    refine lv_iadd hx hb dL_law_1812 ?_
    refine lv_topi (fun x_21 ex_21 => ?_)
    have b_x_21 : x_21.toInt = i0.toInt + 4 := zs_add ex_21 hi (show Int32.toInt 4 = 4 from by decide) (by decide)
    refine va_sld hx hb hX hbl hbA hS (zs_in b_x_21 hi (by decide)) dL_law_1813 ?_
    refine lv_topi (fun x_22 ex_22 => ?_)
    obtain rfl : x_7 = x_21 := zs_eq b_x_7 b_x_21
    obtain rfl : x_8 = x_22 := ex_8.trans ex_22.symm
    refine lv_if_eq (tgt := 1821) hx hb dL_law_1814 (by decide) (fun c_23 => ?_) (fun c_23 => ?_)
    · have ic_23 := zz_eq rfl (show Int32.toInt 0 = 0 from by decide) c_23
      refine lv_iconst (v := 0) hx hb dL_law_1821 (by decide) ?_
      obtain ⟨hPc, hDc, hFc⟩ := z_cut (wc := (zV302 (ad 1) (iv 3) (ad 2) (ad 3) (ad 4) (ad 5) (ad 6) (iv 4) (iv 5) (iv 6) (iv 7) (iv 8) (lw 0) (iv 9) (iv 10) (iv 11) (iv 12) (ad 7) (ad 8) (ad 9) (ad 10) (ad 11) (ad 12) (ad 13) (ad 14) (ad 15) (ad 16) (ad 17) (ad 18) (ad 19) (ad 20) (iv 13) (iv 14) (iv 15) (iv 16) (ad 21) (ad 22) (ad 23) (ad 24) (ad 25) (ad 26) (ad 27) (ad 28) (ad 29) (iv 17) (ad 30) (ad 31) (iv 18) (lw 1) (iv 19) (iv 20) (iv 21) (iv 22) (lw 2) (ad 8) (cA 8) (fi 8) (ad 9) (cA 9) (fi 9) (ad 10) (cA 10) (fi 10) (ad 13) (cA 13) (fi 13) (ad 14) (cA 14) (fi 14) (ad 15) (cA 15) (fi 15) (ad 16) (cA 16) (fi 16) (ad 19) (cA 19) (fi 19))) (z_pr hP) (z_dr hD) hS hA [0, 1, 2, 3, 4, 5, 6, 7, 8] rfl (by decide +kernel)
      have hKc := hK.sub (tys' := [((cA 8), .int), ((cA 9), .int), ((cA 10), .int), ((cA 13), .int), ((cA 14), .int), ((cA 15), .int), ((cA 16), .int), ((cA 19), .int)]) [0, 1, 2, 3, 4, 5, 6, 7] rfl
      refine va_calli (va_runV (As := [.int x_2, .int x_4, .int x_6, .int 0]) (rest := []) ⟨hx, hb, hml, hown, hts⟩ (kf_X10_hear l sa dC dI (ad 1) x_2 x_4 x_6 (0) (iv 3) (ad 2) (ad 3) (ad 4) (ad 5) (ad 6) (iv 4) (iv 5) (iv 6) (iv 7) (iv 8) (lw 0) (iv 9) (iv 10) (iv 11) (iv 12) (ad 7) (ad 8) (ad 9) (ad 10) (ad 11) (ad 12) (ad 13) (ad 14) (ad 15) (ad 16) (ad 17) (ad 18) (ad 19) (ad 20) (iv 13) (iv 14) (iv 15) (iv 16) (ad 21) (ad 22) (ad 23) (ad 24) (ad 25) (ad 26) (ad 27) (ad 28) (ad 29) (iv 17) (ad 30) (ad 31) (iv 18) (lw 1) (iv 19) (iv 20) (iv 21) (iv 22) (lw 2) (cA 8) (fi 8) (cA 9) (fi 9) (cA 10) (fi 10) (cA 13) (fi 13) (cA 14) (fi 14) (cA 15) (fi 15) (cA 16) (fi 16) (cA 19) (fi 19) b_m0_taped b_m0_at b_m0_token b_m0_value b_m0_bad b_m0_strays b_m0_hostCourt b_m0_dayCourt b_m0_dayHour b_f_m0_hours b_f_m0_courts b_f_m0_in b_f_m0_people b_f_m0_at0 b_f_m0_stray b_f_m0_set b_f_m0_known (by first | assumption | omega) H.size) (cwV 4 hts (z_gV zw_t8_152 zw_t8_153 zw_t8_154 zw_t1_11 zw_t8_155) rfl rfl rfl (by decide +kernel) ⟨(Nat.le_of_ble_eq_true rfl), (Nat.le_of_ble_eq_true rfl)⟩) (z_preV hPc hKc hDc hN hXs hS hFc (q := (RX10, TX10, 53)) (ci := 10) (q0 := 0) rfl rfl) rfl rfl hl.1 rfl (lv_room (Nat.le_of_ble_eq_true rfl)) dL_law_1822 ⟨(show cells + 0 + 0 ≤ 600000 by omega), (show slots + 0 + 0 ≤ 7302250 by omega)⟩) hS (fun q _ h => hFc q h) hFc (fun r_24 u t H1 locs ht hvm hw hB hz1 hk1 hS => ?_)
      refine hB.elim fun n_m0_25 ze1 => ze1.elim fun n_m0_known_26 ze2 => ze2.elim fun b_n_m0_known_26 ze3 => ze3.elim fun hf_27 ze4 => ze4.elim fun hf_28 ze5 => ?_
      clear hB ze1 ze2 ze3 ze4
      have hB := ze5
      clear ze5
      obtain ⟨hP, hD, hK⟩ := z_after2X (wn := (zV322 (ad 0) (ad 32) (iv 0) (iv 1) (iv 2) (ad 65) (ad 33) (ad 34) (ad 35) (ad 40) (ad 48) (ad 51) (ad 57) (ad 64) (ad 65) (iv 48) (ad 77) (iv 49) (iv 50) n_nw_11 n_nw_12 (ad 77) (iv 76) (iv 77) (iv 78) (iv 79) (iv 80) (iv 81) (iv 82) (iv 83) (ad 78) (ad 79) (ad 80) (ad 81) (ad 82) (ad 83) (ad 84) (ad 85) (ad 86) (ad 87) (ad 82) (cA 82) (fi 82) (ad 85) (cA 85) (fi 85) (ad 87) (cA 87) (fi 87) (ad 1) n_m0_25 (ad 2) (ad 3) (ad 4) (ad 5) (ad 6) (iv 4) (iv 5) (iv 6) (iv 7) (iv 8) (lw 0) (iv 9) (iv 10) (iv 11) (iv 12) (ad 7) (ad 8) (ad 9) (ad 10) (ad 11) (ad 12) (ad 13) (ad 14) (ad 15) (ad 16) (ad 17) (ad 18) (ad 19) (ad 20) (iv 13) (iv 14) (iv 15) (iv 16) (ad 21) (ad 22) (ad 23) (ad 24) (ad 25) (ad 26) (ad 27) (ad 28) (ad 29) (iv 17) (ad 30) (ad 31) (iv 18) (lw 1) (iv 19) (iv 20) (iv 21) (iv 22) (lw 2) (ad 8) (cA 8) (fi 8) (ad 9) (cA 9) (fi 9) (ad 10) (cA 10) (fi 10) (ad 13) (cA 13) (fi 13) (ad 14) (cA 14) (fi 14) (ad 15) (cA 15) (fi 15) (ad 16) (cA 16) (fi 16) (ad 19) (cA 19) n_m0_known_26)) hB ht hvm hP hD hK [0, 1, 2, 3, 4, 5, 6, 7, 8] [9, 10, 11, 12, 13, 14] rfl 15 rfl (by decide +kernel) rfl (by decide +kernel) hk1 hFc
      generalize H1 = H at hP hS ⊢
      have hK : va_K (dC, dI) vwCl [((cA 8), .int), ((cA 9), .int), ((cA 10), .int), ((cA 13), .int), ((cA 14), .int), ((cA 15), .int), ((cA 16), .int), ((cA 19), .int), ((cA 82), .int), ((cA 85), .int), ((cA 87), .int)] s := hK
      have b_r_24 : (-5) ≤ r_24.toInt ∧ r_24.toInt ≤ 1 := hw.1
      have sf_r_24 := hw.2
      have za_0 : Int32.toInt 0 = 0 := by decide
      refine lv_pop hx hb dL_law_1825 rfl ?_
      refine lv_goto (tgt := 2646) hx hb dL_law_1826 (by decide) ?_
      rw [hwx] at hP hD
      have hz := z_both (wn := zFull ad cA (zU (zU (zU iv 3 n_m0_25) 51 n_nw_11) 52 n_nw_12) lw (zU fi 19 n_m0_known_26) fl fo) hP hD [106, 112, 0, 1, 2, 3, 4, 5, 113, 114, 115, 6, 7, 116, 117, 118, 119, 8, 9, 120, 10, 11, 12, 13, 14, 15, 16, 17, 18, 19, 20, 21, 22, 23, 24, 25, 26, 27, 28, 29, 30, 31, 32, 33, 34, 35, 36, 37, 38, 39, 40, 41, 42, 43, 44, 45, 46, 47, 48, 49, 50, 51, 52, 53, 54, 107, 55, 56, 57, 58, 59, 60, 61, 62, 63, 64, 65, 108, 66, 67, 68, 69, 109, 70, 71, 110, 72, 111, 73, 74, 75, 76, 77, 78, 79, 80, 81, 82, 83, 84, 85, 86, 87, 88, 89, 90, 91, 92, 93, 94, 95, 96, 97, 98, 99, 100, 101, 102, 103, 104, 105] (by decide +kernel) rfl
      exact hk ad cA (zU (zU (zU iv 3 n_m0_25) 51 n_nw_11) 52 n_nw_12) lw (zU fi 19 n_m0_known_26) fl fo _ _ _ ⟨b_h0_tapeLength, b_m0_taped, b_m0_at, b_m0_token, b_m0_value, b_m0_bad, b_m0_strays, b_m0_hostCourt, b_m0_dayCourt, b_m0_dayHour, b_f_m0_width, b_f_m0_many, b_f_m0_hours, b_f_m0_courts, b_f_m0_in, b_f_m0_gates, b_f_m0_gate, b_f_m0_people, b_f_m0_at0, b_f_m0_stray, b_f_m0_set, b_n_m0_known_26, b_f_m0_digit, him0, him1, him2, hsl0, hsl1, hsl2, hsl3, b_rd_tokens, b_rd_at, b_rd_strayCount, b_rd_lawTold, b_rd_falseTold, b_f_rd_kinds, b_f_rd_starts, b_f_rd_stops, b_f_rd_values, b_wk_firstGate, b_wk_firstHour, b_f_wk_costs, b_f_wk_lower, b_ch_lastHour, b_ch_unsureCount, b_f_ch_unsure, b_f_ch_seats, b_f_ch_worth, b_f_ch_digits, b_dy_court, b_dy_hour, b_nw_isKept, b_nw_names, b_i0_isKept, b_i0_names, b_i1_isKept, b_i1_names, b_i2_isKept, b_i2_names, b_r0_size, b_r1_size, b_r2_size, b_r3_size, b_g0_hours, b_g0_courts, b_g0_gateCount, b_g0_people, b_g0_falseHours, b_g0_deep, b_f_g0_degrees, b_f_g0_neighbours, b_f_g0_oneEnd, b_f_g0_otherEnd, b_f_g0_told, b_f_g0_strayParts, b_f_g0_strayCourts, b_g1_hours, b_g1_courts, b_g1_gateCount, b_g1_people, b_g1_falseHours, b_g1_deep, b_f_g1_degrees, b_f_g1_neighbours, b_f_g1_oneEnd, b_f_g1_otherEnd, b_f_g1_told, b_f_g1_strayParts, b_f_g1_strayCourts, b_g2_hours, b_g2_courts, b_g2_gateCount, b_g2_people, b_g2_falseHours, b_g2_deep, b_f_g2_degrees, b_f_g2_neighbours, b_f_g2_oneEnd, b_f_g2_otherEnd, b_f_g2_told, b_f_g2_strayParts, b_f_g2_strayCourts, b_g3_hours, b_g3_courts, b_g3_gateCount, b_g3_people, b_g3_falseHours, b_g3_deep, b_f_g3_degrees, b_f_g3_neighbours, b_f_g3_oneEnd, b_f_g3_otherEnd, b_f_g3_told, b_f_g3_strayParts, b_f_g3_strayCourts, tw0, tw1, tw2, tw3, hmd, hit0, hit1, hit2, rtl, rtp, rfk, rfp, rkp0, rkp1, rkp2, (show zRelA ad (zU (zU (zU iv 3 n_m0_25) 51 n_nw_11) 52 n_nw_12) (zU fi 19 n_m0_known_26) from zra), rhp, rou, rsh, (show zyRel (zU (zU (zU iv 3 n_m0_25) 51 n_nw_11) 52 n_nw_12) (zU fi 19 n_m0_known_26) from zyRel.heard zrp (zr_hear zra.1 zrp.1 b_g0_hours b_g0_courts b_g0_people rhp b_f_m0_stray sf_r_10 hf_13 hf_14 sf_r_24 hf_28).2 rfl rfl ⟨rfl, rfl, rfl, rfl, rfl⟩ ⟨rfl, rfl, rfl, rfl, rfl⟩ ⟨rfl, rfl, rfl, rfl, rfl⟩ rfl rfl)⟩ hz.1 hz.2 hKz hS (lv_sub hl [0, 1, 2, 3] rfl)
    · have ic_23 := zz_neq rfl (show Int32.toInt 0 = 0 from by decide) c_23
      exact absurd ic_9 ic_23
  · have ic_9 := zz_neq rfl (show Int32.toInt 0 = 0 from by decide) c_9
    refine lv_iconst (v := 1) hx hb dL_law_1784 (by decide) ?_
    refine lv_goto (tgt := 1789) hx hb dL_law_1785 (by decide) ?_
    obtain ⟨hPc, hDc, hFc⟩ := z_cut (wc := (zV247 (ad 0) (ad 32) (iv 0) (iv 1) (iv 2) (ad 65) (ad 33) (ad 34) (ad 35) (ad 40) (ad 48) (ad 51) (ad 57) (ad 64) (ad 65) (iv 48) (ad 77) (iv 49) (iv 50) (iv 51) (iv 52) (ad 77) (iv 76) (iv 77) (iv 78) (iv 79) (iv 80) (iv 81) (iv 82) (iv 83) (ad 78) (ad 79) (ad 80) (ad 81) (ad 82) (ad 83) (ad 84) (ad 85) (ad 86) (ad 87) (ad 82) (cA 82) (fi 82) (ad 85) (cA 85) (fi 85) (ad 87) (cA 87) (fi 87))) (z_pr hP) (z_dr hD) hS hA [0, 10, 11, 12, 13, 14] rfl (by decide +kernel)
    have hKc := hK.sub (tys' := [((cA 82), .int), ((cA 85), .int), ((cA 87), .int)]) [8, 9, 10] rfl
    refine va_calli (va_runV (As := [.int x_2, .int x_4, .int x_6, .int 1]) (rest := []) ⟨hx, hb, hml, hown, hts⟩ (kf_X9_hear l sa dC dI (ad 0) x_2 x_4 x_6 (1) (ad 32) (iv 0) (iv 1) (iv 2) (ad 65) (ad 33) (ad 34) (ad 35) (ad 40) (ad 48) (ad 51) (ad 57) (ad 64) (iv 48) (ad 77) (iv 49) (iv 50) (iv 51) (iv 52) (iv 76) (iv 77) (iv 78) (iv 79) (iv 80) (iv 81) (iv 82) (iv 83) (ad 78) (ad 79) (ad 80) (ad 81) (ad 82) (ad 83) (ad 84) (ad 85) (ad 86) (ad 87) (cA 82) (fi 82) (cA 85) (fi 85) (cA 87) (fi 87) b_h0_tapeLength b_nw_isKept b_nw_names b_g0_hours b_g0_courts b_g0_gateCount b_g0_people b_g0_falseHours b_g0_deep b_f_g0_told b_f_g0_strayCourts H.size) (cwV 4 hts (z_gV zw_t5_129 zw_t5_130 zw_t5_131 zw_t1_1 zw_t5_132) rfl rfl rfl (by decide +kernel) ⟨(Nat.le_of_ble_eq_true rfl), (Nat.le_of_ble_eq_true rfl)⟩) (z_preV hPc hKc hDc hN hXs hS hFc (q := (RX9, TX9, 13)) (ci := 9) (q0 := 0) rfl rfl) rfl rfl hl.1 rfl (lv_room (Nat.le_of_ble_eq_true rfl)) dL_law_1789 ⟨(show cells + 0 + 0 ≤ 600000 by omega), (show slots + 0 + 0 ≤ 7302250 by omega)⟩) hS (fun q _ h => hFc q h) hFc (fun r_34 u t H1 locs ht hvm hw hB hz1 hk1 hS => ?_)
    obtain ⟨n_nw_35, n_nw_36, hf_37, hf_38, hB⟩ := hB
    obtain ⟨hP, hD, hK⟩ := z_after2X (wn := [((ad 1), .inr (10, [.int (iv 3), .ref (ad 2), .ref (ad 3), .ref (ad 4), .ref (ad 5), .ref (ad 6), .int (iv 4), .int (iv 5), .int (iv 6), .int (iv 7), .int (iv 8), .long (lw 0), .int (iv 9), .int (iv 10), .int (iv 11), .int (iv 12), .ref (ad 7), .ref (ad 8), .ref (ad 9), .ref (ad 10), .ref (ad 11), .ref (ad 12), .ref (ad 13), .ref (ad 14), .ref (ad 15), .ref (ad 16), .ref (ad 17), .ref (ad 18), .ref (ad 19), .ref (ad 20), .int (iv 13), .int (iv 14), .int (iv 15), .int (iv 16), .ref (ad 21), .ref (ad 22), .ref (ad 23), .ref (ad 24), .ref (ad 25), .ref (ad 26), .ref (ad 27), .ref (ad 28), .ref (ad 29), .int (iv 17), .ref (ad 30), .ref (ad 31), .int (iv 18), .long (lw 1), .int (iv 19), .int (iv 20), .int (iv 21), .int (iv 22), .long (lw 2)])), ((ad 8), .inl ((cA 8), 5, .inl (fi 8))), ((ad 9), .inl ((cA 9), 5, .inl (fi 9))), ((ad 10), .inl ((cA 10), 50, .inl (fi 10))), ((ad 13), .inl ((cA 13), 5, .inl (fi 13))), ((ad 14), .inl ((cA 14), 2400, .inl (fi 14))), ((ad 15), .inl ((cA 15), 100, .inl (fi 15))), ((ad 16), .inl ((cA 16), 10, .inl (fi 16))), ((ad 19), .inl ((cA 19), 50, .inl (fi 19))), ((ad 0), .inr (9, [.ref (ad 32), .int (iv 0), .int (iv 1), .int (iv 2), .ref (ad 65), .ref (ad 33), .ref (ad 34), .ref (ad 35), .ref (ad 40), .ref (ad 48), .ref (ad 51), .ref (ad 57), .ref (ad 64)])), ((ad 65), .inr (3, [.int (iv 48), .ref (ad 77), .int (iv 49), .int (iv 50), .int n_nw_35, .int n_nw_36])), ((ad 77), .inr (7, [.int (iv 76), .int (iv 77), .int (iv 78), .int (iv 79), .int (iv 80), .int (iv 81), .int (iv 82), .int (iv 83), .ref (ad 78), .ref (ad 79), .ref (ad 80), .ref (ad 81), .ref (ad 82), .ref (ad 83), .ref (ad 84), .ref (ad 85), .ref (ad 86), .ref (ad 87)])), ((ad 82), .inl ((cA 82), 10, .inl (fi 82))), ((ad 85), .inl ((cA 85), 480, .inl (fi 85))), ((ad 87), .inl ((cA 87), 10, .inl (fi 87)))]) hB ht hvm hP hD hK [0, 10, 11, 12, 13, 14] [1, 2, 3, 4, 5, 6, 7, 8, 9] rfl 15 rfl (by decide +kernel) rfl (by decide +kernel) hk1 hFc
    generalize H1 = H at hP hS ⊢
    have hK : va_K (dC, dI) vwCl [((cA 8), .int), ((cA 9), .int), ((cA 10), .int), ((cA 13), .int), ((cA 14), .int), ((cA 15), .int), ((cA 16), .int), ((cA 19), .int), ((cA 82), .int), ((cA 85), .int), ((cA 87), .int)] s := hK
    have b_r_34 : (-5) ≤ r_34.toInt ∧ r_34.toInt ≤ 1 := hw.1
    have sf_r_34 := hw.2
    have za_1 : Int32.toInt 1 = 1 := by decide
    refine lv_pop hx hb dL_law_1792 rfl ?_
    refine lv_aload_n hx hb dL_law_1793 rfl (lv_at hl 1 rfl) ?_
    refine lv_aload_n hx hb dL_law_1794 rfl (lv_at hl 3 rfl) ?_
    refine lv_iload_n hx hb dL_law_1795 rfl (lv_at hl 0 rfl) ?_
    refine lv_iconst (v := 1) hx hb dL_law_1796 (by decide) ?_
    refine lv_iadd hx hb dL_law_1797 ?_
    refine lv_topi (fun x_39 ex_39 => ?_)
    have b_x_39 : x_39.toInt = i0.toInt + 1 := zs_add ex_39 hi (show Int32.toInt 1 = 1 from by decide) (by decide)
    refine va_sld hx hb hX hbl hbA hS (zs_in b_x_39 hi (by decide)) dL_law_1798 ?_
    refine lv_topi (fun x_40 ex_40 => ?_)
    obtain rfl : x_1 = x_39 := zs_eq b_x_1 b_x_39
    obtain rfl : x_2 = x_40 := ex_2.trans ex_40.symm
    refine lv_aload_n hx hb dL_law_1799 rfl (lv_at hl 3 rfl) ?_
    refine lv_iload_n hx hb dL_law_1800 rfl (lv_at hl 0 rfl) ?_
    refine lv_iconst (v := 2) hx hb dL_law_1801 (by decide) ?_
    refine lv_iadd hx hb dL_law_1802 ?_
    refine lv_topi (fun x_41 ex_41 => ?_)
    have b_x_41 : x_41.toInt = i0.toInt + 2 := zs_add ex_41 hi (show Int32.toInt 2 = 2 from by decide) (by decide)
    refine va_sld hx hb hX hbl hbA hS (zs_in b_x_41 hi (by decide)) dL_law_1803 ?_
    refine lv_topi (fun x_42 ex_42 => ?_)
    obtain rfl : x_3 = x_41 := zs_eq b_x_3 b_x_41
    obtain rfl : x_4 = x_42 := ex_4.trans ex_42.symm
    refine lv_aload_n hx hb dL_law_1804 rfl (lv_at hl 3 rfl) ?_
    refine lv_iload_n hx hb dL_law_1805 rfl (lv_at hl 0 rfl) ?_
    refine lv_iconst (v := 3) hx hb dL_law_1806 (by decide) ?_
    refine lv_iadd hx hb dL_law_1807 ?_
    refine lv_topi (fun x_43 ex_43 => ?_)
    have b_x_43 : x_43.toInt = i0.toInt + 3 := zs_add ex_43 hi (show Int32.toInt 3 = 3 from by decide) (by decide)
    refine va_sld hx hb hX hbl hbA hS (zs_in b_x_43 hi (by decide)) dL_law_1808 ?_
    refine lv_topi (fun x_44 ex_44 => ?_)
    obtain rfl : x_5 = x_43 := zs_eq b_x_5 b_x_43
    obtain rfl : x_6 = x_44 := ex_6.trans ex_44.symm
    refine lv_aload_n hx hb dL_law_1809 rfl (lv_at hl 3 rfl) ?_
    refine lv_iload_n hx hb dL_law_1810 rfl (lv_at hl 0 rfl) ?_
    refine lv_iconst (v := 4) hx hb dL_law_1811 (by decide) ?_
    refine lv_iadd hx hb dL_law_1812 ?_
    refine lv_topi (fun x_45 ex_45 => ?_)
    have b_x_45 : x_45.toInt = i0.toInt + 4 := zs_add ex_45 hi (show Int32.toInt 4 = 4 from by decide) (by decide)
    refine va_sld hx hb hX hbl hbA hS (zs_in b_x_45 hi (by decide)) dL_law_1813 ?_
    refine lv_topi (fun x_46 ex_46 => ?_)
    obtain rfl : x_7 = x_45 := zs_eq b_x_7 b_x_45
    obtain rfl : x_8 = x_46 := ex_8.trans ex_46.symm
    refine lv_if_eq (tgt := 1821) hx hb dL_law_1814 (by decide) (fun c_47 => ?_) (fun c_47 => ?_)
    · have ic_47 := zz_eq rfl (show Int32.toInt 0 = 0 from by decide) c_47
      exact absurd ic_47 ic_9
    · have ic_47 := zz_neq rfl (show Int32.toInt 0 = 0 from by decide) c_47
      refine lv_iconst (v := 1) hx hb dL_law_1817 (by decide) ?_
      refine lv_goto (tgt := 1822) hx hb dL_law_1818 (by decide) ?_
      obtain ⟨hPc, hDc, hFc⟩ := z_cut (wc := (zV302 (ad 1) (iv 3) (ad 2) (ad 3) (ad 4) (ad 5) (ad 6) (iv 4) (iv 5) (iv 6) (iv 7) (iv 8) (lw 0) (iv 9) (iv 10) (iv 11) (iv 12) (ad 7) (ad 8) (ad 9) (ad 10) (ad 11) (ad 12) (ad 13) (ad 14) (ad 15) (ad 16) (ad 17) (ad 18) (ad 19) (ad 20) (iv 13) (iv 14) (iv 15) (iv 16) (ad 21) (ad 22) (ad 23) (ad 24) (ad 25) (ad 26) (ad 27) (ad 28) (ad 29) (iv 17) (ad 30) (ad 31) (iv 18) (lw 1) (iv 19) (iv 20) (iv 21) (iv 22) (lw 2) (ad 8) (cA 8) (fi 8) (ad 9) (cA 9) (fi 9) (ad 10) (cA 10) (fi 10) (ad 13) (cA 13) (fi 13) (ad 14) (cA 14) (fi 14) (ad 15) (cA 15) (fi 15) (ad 16) (cA 16) (fi 16) (ad 19) (cA 19) (fi 19))) (z_pr hP) (z_dr hD) hS hA [0, 1, 2, 3, 4, 5, 6, 7, 8] rfl (by decide +kernel)
      have hKc := hK.sub (tys' := [((cA 8), .int), ((cA 9), .int), ((cA 10), .int), ((cA 13), .int), ((cA 14), .int), ((cA 15), .int), ((cA 16), .int), ((cA 19), .int)]) [0, 1, 2, 3, 4, 5, 6, 7] rfl
      refine va_calli (va_runV (As := [.int x_2, .int x_4, .int x_6, .int 1]) (rest := []) ⟨hx, hb, hml, hown, hts⟩ (kf_X10_hear l sa dC dI (ad 1) x_2 x_4 x_6 (1) (iv 3) (ad 2) (ad 3) (ad 4) (ad 5) (ad 6) (iv 4) (iv 5) (iv 6) (iv 7) (iv 8) (lw 0) (iv 9) (iv 10) (iv 11) (iv 12) (ad 7) (ad 8) (ad 9) (ad 10) (ad 11) (ad 12) (ad 13) (ad 14) (ad 15) (ad 16) (ad 17) (ad 18) (ad 19) (ad 20) (iv 13) (iv 14) (iv 15) (iv 16) (ad 21) (ad 22) (ad 23) (ad 24) (ad 25) (ad 26) (ad 27) (ad 28) (ad 29) (iv 17) (ad 30) (ad 31) (iv 18) (lw 1) (iv 19) (iv 20) (iv 21) (iv 22) (lw 2) (cA 8) (fi 8) (cA 9) (fi 9) (cA 10) (fi 10) (cA 13) (fi 13) (cA 14) (fi 14) (cA 15) (fi 15) (cA 16) (fi 16) (cA 19) (fi 19) b_m0_taped b_m0_at b_m0_token b_m0_value b_m0_bad b_m0_strays b_m0_hostCourt b_m0_dayCourt b_m0_dayHour b_f_m0_hours b_f_m0_courts b_f_m0_in b_f_m0_people b_f_m0_at0 b_f_m0_stray b_f_m0_set b_f_m0_known (by first | assumption | omega) H.size) (cwV 4 hts (z_gV zw_t8_152 zw_t8_153 zw_t8_154 zw_t1_11 zw_t8_155) rfl rfl rfl (by decide +kernel) ⟨(Nat.le_of_ble_eq_true rfl), (Nat.le_of_ble_eq_true rfl)⟩) (z_preV hPc hKc hDc hN hXs hS hFc (q := (RX10, TX10, 53)) (ci := 10) (q0 := 0) rfl rfl) rfl rfl hl.1 rfl (lv_room (Nat.le_of_ble_eq_true rfl)) dL_law_1822 ⟨(show cells + 0 + 0 ≤ 600000 by omega), (show slots + 0 + 0 ≤ 7302250 by omega)⟩) hS (fun q _ h => hFc q h) hFc (fun r_53 u t H1 locs ht hvm hw hB hz1 hk1 hS => ?_)
      refine hB.elim fun n_m0_54 ze1 => ze1.elim fun n_m0_known_55 ze2 => ze2.elim fun b_n_m0_known_55 ze3 => ze3.elim fun hf_56 ze4 => ze4.elim fun hf_57 ze5 => ?_
      clear hB ze1 ze2 ze3 ze4
      have hB := ze5
      clear ze5
      obtain ⟨hP, hD, hK⟩ := z_after2X (wn := (zV322 (ad 0) (ad 32) (iv 0) (iv 1) (iv 2) (ad 65) (ad 33) (ad 34) (ad 35) (ad 40) (ad 48) (ad 51) (ad 57) (ad 64) (ad 65) (iv 48) (ad 77) (iv 49) (iv 50) n_nw_35 n_nw_36 (ad 77) (iv 76) (iv 77) (iv 78) (iv 79) (iv 80) (iv 81) (iv 82) (iv 83) (ad 78) (ad 79) (ad 80) (ad 81) (ad 82) (ad 83) (ad 84) (ad 85) (ad 86) (ad 87) (ad 82) (cA 82) (fi 82) (ad 85) (cA 85) (fi 85) (ad 87) (cA 87) (fi 87) (ad 1) n_m0_54 (ad 2) (ad 3) (ad 4) (ad 5) (ad 6) (iv 4) (iv 5) (iv 6) (iv 7) (iv 8) (lw 0) (iv 9) (iv 10) (iv 11) (iv 12) (ad 7) (ad 8) (ad 9) (ad 10) (ad 11) (ad 12) (ad 13) (ad 14) (ad 15) (ad 16) (ad 17) (ad 18) (ad 19) (ad 20) (iv 13) (iv 14) (iv 15) (iv 16) (ad 21) (ad 22) (ad 23) (ad 24) (ad 25) (ad 26) (ad 27) (ad 28) (ad 29) (iv 17) (ad 30) (ad 31) (iv 18) (lw 1) (iv 19) (iv 20) (iv 21) (iv 22) (lw 2) (ad 8) (cA 8) (fi 8) (ad 9) (cA 9) (fi 9) (ad 10) (cA 10) (fi 10) (ad 13) (cA 13) (fi 13) (ad 14) (cA 14) (fi 14) (ad 15) (cA 15) (fi 15) (ad 16) (cA 16) (fi 16) (ad 19) (cA 19) n_m0_known_55)) hB ht hvm hP hD hK [0, 1, 2, 3, 4, 5, 6, 7, 8] [9, 10, 11, 12, 13, 14] rfl 15 rfl (by decide +kernel) rfl (by decide +kernel) hk1 hFc
      generalize H1 = H at hP hS ⊢
      have hK : va_K (dC, dI) vwCl [((cA 8), .int), ((cA 9), .int), ((cA 10), .int), ((cA 13), .int), ((cA 14), .int), ((cA 15), .int), ((cA 16), .int), ((cA 19), .int), ((cA 82), .int), ((cA 85), .int), ((cA 87), .int)] s := hK
      have b_r_53 : (-5) ≤ r_53.toInt ∧ r_53.toInt ≤ 1 := hw.1
      have sf_r_53 := hw.2
      have za_1 : Int32.toInt 1 = 1 := by decide
      refine lv_pop hx hb dL_law_1825 rfl ?_
      refine lv_goto (tgt := 2646) hx hb dL_law_1826 (by decide) ?_
      rw [hwx] at hP hD
      have hz := z_both (wn := zFull ad cA (zU (zU (zU iv 3 n_m0_54) 51 n_nw_35) 52 n_nw_36) lw (zU fi 19 n_m0_known_55) fl fo) hP hD [106, 112, 0, 1, 2, 3, 4, 5, 113, 114, 115, 6, 7, 116, 117, 118, 119, 8, 9, 120, 10, 11, 12, 13, 14, 15, 16, 17, 18, 19, 20, 21, 22, 23, 24, 25, 26, 27, 28, 29, 30, 31, 32, 33, 34, 35, 36, 37, 38, 39, 40, 41, 42, 43, 44, 45, 46, 47, 48, 49, 50, 51, 52, 53, 54, 107, 55, 56, 57, 58, 59, 60, 61, 62, 63, 64, 65, 108, 66, 67, 68, 69, 109, 70, 71, 110, 72, 111, 73, 74, 75, 76, 77, 78, 79, 80, 81, 82, 83, 84, 85, 86, 87, 88, 89, 90, 91, 92, 93, 94, 95, 96, 97, 98, 99, 100, 101, 102, 103, 104, 105] (by decide +kernel) rfl
      exact hk ad cA (zU (zU (zU iv 3 n_m0_54) 51 n_nw_35) 52 n_nw_36) lw (zU fi 19 n_m0_known_55) fl fo _ _ _ ⟨b_h0_tapeLength, b_m0_taped, b_m0_at, b_m0_token, b_m0_value, b_m0_bad, b_m0_strays, b_m0_hostCourt, b_m0_dayCourt, b_m0_dayHour, b_f_m0_width, b_f_m0_many, b_f_m0_hours, b_f_m0_courts, b_f_m0_in, b_f_m0_gates, b_f_m0_gate, b_f_m0_people, b_f_m0_at0, b_f_m0_stray, b_f_m0_set, b_n_m0_known_55, b_f_m0_digit, him0, him1, him2, hsl0, hsl1, hsl2, hsl3, b_rd_tokens, b_rd_at, b_rd_strayCount, b_rd_lawTold, b_rd_falseTold, b_f_rd_kinds, b_f_rd_starts, b_f_rd_stops, b_f_rd_values, b_wk_firstGate, b_wk_firstHour, b_f_wk_costs, b_f_wk_lower, b_ch_lastHour, b_ch_unsureCount, b_f_ch_unsure, b_f_ch_seats, b_f_ch_worth, b_f_ch_digits, b_dy_court, b_dy_hour, b_nw_isKept, b_nw_names, b_i0_isKept, b_i0_names, b_i1_isKept, b_i1_names, b_i2_isKept, b_i2_names, b_r0_size, b_r1_size, b_r2_size, b_r3_size, b_g0_hours, b_g0_courts, b_g0_gateCount, b_g0_people, b_g0_falseHours, b_g0_deep, b_f_g0_degrees, b_f_g0_neighbours, b_f_g0_oneEnd, b_f_g0_otherEnd, b_f_g0_told, b_f_g0_strayParts, b_f_g0_strayCourts, b_g1_hours, b_g1_courts, b_g1_gateCount, b_g1_people, b_g1_falseHours, b_g1_deep, b_f_g1_degrees, b_f_g1_neighbours, b_f_g1_oneEnd, b_f_g1_otherEnd, b_f_g1_told, b_f_g1_strayParts, b_f_g1_strayCourts, b_g2_hours, b_g2_courts, b_g2_gateCount, b_g2_people, b_g2_falseHours, b_g2_deep, b_f_g2_degrees, b_f_g2_neighbours, b_f_g2_oneEnd, b_f_g2_otherEnd, b_f_g2_told, b_f_g2_strayParts, b_f_g2_strayCourts, b_g3_hours, b_g3_courts, b_g3_gateCount, b_g3_people, b_g3_falseHours, b_g3_deep, b_f_g3_degrees, b_f_g3_neighbours, b_f_g3_oneEnd, b_f_g3_otherEnd, b_f_g3_told, b_f_g3_strayParts, b_f_g3_strayCourts, tw0, tw1, tw2, tw3, hmd, hit0, hit1, hit2, rtl, rtp, rfk, rfp, rkp0, rkp1, rkp2, (show zRelA ad (zU (zU (zU iv 3 n_m0_54) 51 n_nw_35) 52 n_nw_36) (zU fi 19 n_m0_known_55) from zra), rhp, rou, rsh, (show zyRel (zU (zU (zU iv 3 n_m0_54) 51 n_nw_35) 52 n_nw_36) (zU fi 19 n_m0_known_55) from zyRel.heard zrp (zr_hear zra.1 zrp.1 b_g0_hours b_g0_courts b_g0_people rhp b_f_m0_stray sf_r_34 hf_37 hf_38 sf_r_53 hf_57).2 rfl rfl ⟨rfl, rfl, rfl, rfl, rfl⟩ ⟨rfl, rfl, rfl, rfl, rfl⟩ ⟨rfl, rfl, rfl, rfl, rfl⟩ rfl rfl)⟩ hz.1 hz.2 hKz hS (lv_sub hl [0, 1, 2, 3] rfl)
