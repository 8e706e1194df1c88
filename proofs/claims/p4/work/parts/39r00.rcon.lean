set_option linter.all false
set_option maxHeartbeats 4000000 in
set_option maxRecDepth 100000 in
theorem kf_X10_in (l : Launch) (sa : Nat → Nat) (dC : Nat → ClassId) (dI : Nat → Nat → Nat) (p0 : Int64) (p1 : Int64) (p2 : Int64)  (sz : Nat) : Met l yX10_in (.code yX10_in cX10_in 6 (some .boolean) :: zT) ({ frames := 0, cells := 0, slots := 0, locals := 0 }) (va_Pc [.long p0, .long p1, .long p2] (zB sa dC dI [] [] sz)) (va_Qi (fun (r : Int32) (_ : Unit) => (0 ≤ r.toInt ∧ r.toInt ≤ 1) ∧ (r.toInt = 0 ∨ (p1.toInt ≤ p0.toInt ∧ p0.toInt ≤ p2.toInt)) ∧ r = (F_X10_in p0 p1 p2)) (fun _ t => zW dC dI [] [] (va_A [] sz) t) (va_A [] sz)) 0 0 (va_A [] sz) := by
  refine z_enter (by decide) (by exact (Nat.le_of_ble_eq_true rfl)) ?_
  intro p e s m args below meth c ls A R Qc hargs hsz hQe hAe hRe hx hb hml hr hts hown hlocks hin hl hP hK hD hN hXs hA hS
  rw [hAe] at hQe
  have hown : s.vm.findClass RX10 = some m.cls := hown
  have hl : lv_has ls 6 [(0, .long p0), (2, .long p1), (4, .long p2)] := hl
  obtain ⟨RR, hRR⟩ : ∃ z : Int32, z = (F_X10_in p0 p1 p2) := ⟨_, rfl⟩
  have hF : RR = (F_X10_in p0 p1 p2) := hRR
  refine lv_lload_n hx hb dX10_in_0 rfl (lv_at hl 0 rfl) ?_
  refine lv_lload_n hx hb dX10_in_1 rfl (lv_at hl 1 rfl) ?_
  refine W.lcmp hx hb dX10_in_2 ?_
  refine lv_if_lt (tgt := 17) hx hb dX10_in_3 (by decide) (fun c_1 => ?_) (fun c_1 => ?_)
  · have ic_1 := zl_lt rfl rfl c_1
    replace hF := hF.trans (if_pos c_1)
    refine lv_iconst (v := 0) hx hb dX10_in_17 (by decide) ?_
    have hF : RR = (0 : Int32) := hF
    have zc : Int32.toInt 0 = 0 := by decide
    exact W.zret (v := 0) hx hb hr (by decide) (fun t ht hW => by rw [← hQe]; exact ⟨⟨0, (), rfl, ⟨by decide, ⟨by omega, (by rw [← hRR, hF])⟩⟩, z_ret hP hK hD ht hW [] [] rfl (by decide) rfl⟩, hS.F ht⟩) hS.2.2 dX10_in_18
  · have ic_1 := zl_nlt rfl rfl c_1
    replace hF := hF.trans (if_neg c_1)
    refine lv_lload_n hx hb dX10_in_6 rfl (lv_at hl 0 rfl) ?_
    refine lv_lload hx hb dX10_in_7 (lv_at hl 2 rfl) ?_
    refine W.lcmp hx hb dX10_in_9 ?_
    refine lv_if_gt (tgt := 17) hx hb dX10_in_10 (by decide) (fun c_2 => ?_) (fun c_2 => ?_)
    · have ic_2 := zl_gt rfl rfl c_2
      replace hF := hF.trans (if_pos c_2)
      refine lv_iconst (v := 0) hx hb dX10_in_17 (by decide) ?_
      have hF : RR = (0 : Int32) := hF
      have zc : Int32.toInt 0 = 0 := by decide
      exact W.zret (v := 0) hx hb hr (by decide) (fun t ht hW => by rw [← hQe]; exact ⟨⟨0, (), rfl, ⟨by decide, ⟨by omega, (by rw [← hRR, hF])⟩⟩, z_ret hP hK hD ht hW [] [] rfl (by decide) rfl⟩, hS.F ht⟩) hS.2.2 dX10_in_18
    · have ic_2 := zl_ngt rfl rfl c_2
      replace hF := hF.trans (if_neg c_2)
      refine lv_iconst (v := 1) hx hb dX10_in_13 (by decide) ?_
      refine lv_goto (tgt := 18) hx hb dX10_in_14 (by decide) ?_
      have hF : RR = (1 : Int32) := hF
      have zc : Int32.toInt 1 = 1 := by decide
      exact W.zret (v := 1) hx hb hr (by decide) (fun t ht hW => by rw [← hQe]; exact ⟨⟨1, (), rfl, ⟨by decide, ⟨by omega, (by rw [← hRR, hF])⟩⟩, z_ret hP hK hD ht hW [] [] rfl (by decide) rfl⟩, hS.F ht⟩) hS.2.2 dX10_in_18
