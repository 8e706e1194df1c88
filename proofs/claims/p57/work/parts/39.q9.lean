set_option linter.all false
/-- one of four -/
def zSel (a b c d : Int) (k : Int) : Int := if k = 0 then a else if k = 1 then b else if k = 2 then c else d
theorem zSel_0 {a b c d : Int} : zSel a b c d 0 = a := rfl
theorem zSel_1 {a b c d : Int} : zSel a b c d 1 = b := rfl
theorem zSel_2 {a b c d : Int} : zSel a b c d 2 = c := rfl
theorem zSel_3 {a b c d : Int} : zSel a b c d 3 = d := rfl
def zRo (f : Nat → Int32) (k : Int) : Int := (f k.toNat).toInt
theorem zRo_at {f : Nat → Int32} {x : Int32} (h : 0 ≤ x.toInt) : zRo f x.toInt = (f (Int32.toNatClampNeg x)).toInt := by
  have q := zi_clamp (x := x) rfl h
  unfold zRo
  rw [show x.toInt.toNat = Int32.toNatClampNeg x by omega]
theorem zSel_ro {f : Nat → Int32} {a b c d : Int} (h0 : a = (f 0).toInt) (h1 : b = (f 1).toInt) (h2 : c = (f 2).toInt) (h3 : d = (f 3).toInt) : ∀ k : Int, 0 ≤ k → k ≤ 3 → zSel a b c d k = zRo f k := by
  intro k l u
  rcases (show k = 0 ∨ k = 1 ∨ k = 2 ∨ k = 3 by omega) with q | q | q | q
  · rw [q, zSel_0, h0]; rfl
  · rw [q, zSel_1, h1]; rfl
  · rw [q, zSel_2, h2]; rfl
  · rw [q, zSel_3, h3]; rfl
/-- what write answers, by the widths and the lengths of the rows -/
def zWr (W S : Int → Int) (s i r : Int) : Prop := (r = -2 ∧ (s < 0 ∨ 3 < s)) ∨ (0 ≤ s ∧ s ≤ 3 ∧ ((r = -6 ∧ W s = -1) ∨ (r = -7 ∧ ¬ W s = -1 ∧ (i < 0 ∨ S s ≤ i)) ∨ (r = 0 ∧ ¬ W s = -1 ∧ 0 ≤ i ∧ i < S s)))
theorem zWr.eq {W S W' S' : Int → Int} {s i r r' : Int} (hW : ∀ k : Int, 0 ≤ k → k ≤ 3 → W k = W' k) (hS : ∀ k : Int, 0 ≤ k → k ≤ 3 → S k = S' k) (h : zWr W S s i r) (h' : zWr W' S' s i r') : r = r' := by
  unfold zWr at h h'
  by_cases q : 0 ≤ s ∧ s ≤ 3
  · rw [hW s q.1 q.2, hS s q.1 q.2] at h; omega
  · omega
theorem zWr.out {W S : Int → Int} {s i r : Int} (hr : r = -2) (h : s < 0 ∨ 3 < s) : zWr W S s i r := Or.inl ⟨hr, h⟩
theorem zWr.at {W S : Int → Int} {s i r w z : Int} (hs : 0 ≤ s ∧ s ≤ 3) (hw : W s = w) (hz : S s = z) (h : (r = -6 ∧ w = -1) ∨ (r = -7 ∧ ¬ w = -1 ∧ (i < 0 ∨ z ≤ i)) ∨ (r = 0 ∧ ¬ w = -1 ∧ 0 ≤ i ∧ i < z)) : zWr W S s i r := by
  refine Or.inr ⟨hs.1, hs.2, ?_⟩
  rw [hw, hz]; exact h
/-- what paste answers -/
def zPa (W S : Int → Int) (s i t k n r : Int) : Prop := (r = -2 ∧ (s < 0 ∨ 3 < s ∨ t < 0 ∨ 3 < t)) ∨ (0 ≤ s ∧ s ≤ 3 ∧ 0 ≤ t ∧ t ≤ 3 ∧ ((r = -6 ∧ (W s = -1 ∨ W t = -1)) ∨ (r = -8 ∧ ¬ W s = -1 ∧ ¬ W t = -1 ∧ ¬ W s = W t) ∨ (r = -7 ∧ ¬ W s = -1 ∧ ¬ W t = -1 ∧ W s = W t ∧ (i < 0 ∨ k < 0 ∨ n < 0 ∨ S s < i + n ∨ S t < k + n)) ∨ (r = 0 ∧ ¬ W s = -1 ∧ ¬ W t = -1 ∧ W s = W t ∧ 0 ≤ i ∧ 0 ≤ k ∧ 0 ≤ n ∧ i + n ≤ S s ∧ k + n ≤ S t)))
theorem zPa.eq {W S W' S' : Int → Int} {s i t k n r r' : Int} (hW : ∀ k : Int, 0 ≤ k → k ≤ 3 → W k = W' k) (hS : ∀ k : Int, 0 ≤ k → k ≤ 3 → S k = S' k) (h : zPa W S s i t k n r) (h' : zPa W' S' s i t k n r') : r = r' := by
  unfold zPa at h h'
  by_cases q : (0 ≤ s ∧ s ≤ 3) ∧ 0 ≤ t ∧ t ≤ 3
  · rw [hW s q.1.1 q.1.2, hS s q.1.1 q.1.2, hW t q.2.1 q.2.2, hS t q.2.1 q.2.2] at h; omega
  · omega
theorem zPa.out {W S : Int → Int} {s i t k n r : Int} (hr : r = -2) (h : s < 0 ∨ 3 < s ∨ t < 0 ∨ 3 < t) : zPa W S s i t k n r := Or.inl ⟨hr, h⟩
theorem zPa.at {W S : Int → Int} {s i t k n r ws wt zs zt : Int} (hs : 0 ≤ s ∧ s ≤ 3 ∧ 0 ≤ t ∧ t ≤ 3) (hw : W s = ws) (hw' : W t = wt) (hz : S s = zs) (hz' : S t = zt) (h : (r = -6 ∧ (ws = -1 ∨ wt = -1)) ∨ (r = -8 ∧ ¬ ws = -1 ∧ ¬ wt = -1 ∧ ¬ ws = wt) ∨ (r = -7 ∧ ¬ ws = -1 ∧ ¬ wt = -1 ∧ ws = wt ∧ (i < 0 ∨ k < 0 ∨ n < 0 ∨ zs < i + n ∨ zt < k + n)) ∨ (r = 0 ∧ ¬ ws = -1 ∧ ¬ wt = -1 ∧ ws = wt ∧ 0 ≤ i ∧ 0 ≤ k ∧ 0 ≤ n ∧ i + n ≤ zs ∧ k + n ≤ zt)) : zPa W S s i t k n r := by
  refine Or.inr ⟨hs.1, hs.2.1, hs.2.2.1, hs.2.2.2, ?_⟩
  rw [hw, hw', hz, hz']; exact h
/-- a place of a small row is written, if so -/
def zPut (f g : Nat → Int32) (c : Prop) (k v : Int) : Prop := ∀ j : Nat, j < 4 → (c ∧ k = (j : Int) ∧ (g j).toInt = v) ∨ (¬ (c ∧ k = (j : Int)) ∧ (g j).toInt = (f j).toInt)
theorem zPut.no {f : Nat → Int32} {c : Prop} {k v : Int} (h : ¬ c) : zPut f f c k v := fun _ _ => Or.inr ⟨fun q => h q.1, rfl⟩
theorem zPut.yes {f g : Nat → Int32} {c : Prop} {x v : Int32} {a : Int} (h : c) (hx : 0 ≤ x.toInt) (eg : g = upd f (Int32.toNatClampNeg x) v) (hv : v.toInt = a) : zPut f g c x.toInt a := by
  have q := zi_clamp (x := x) rfl hx
  intro j hj
  by_cases w : j = Int32.toNatClampNeg x
  · exact Or.inl ⟨h, by omega, by rw [eg, w, pk_us, hv]⟩
  · exact Or.inr ⟨fun z => w (by first | with_reducible assumption | omega), by rw [eg, pk_un w]⟩
set_option maxHeartbeats 4000000 in
set_option maxRecDepth 100000 in
theorem k_X9_isImage_v2 (l : Launch) (sa : Nat → Nat) (dC : Nat → ClassId) (dI : Nat → Nat → Nat) (p1 : Int32)  (sz : Nat) : Met l yX9_isImage (.code yX9_isImage cX9_isImage 1 (some .boolean) :: zT) ({ frames := 0, cells := 0, slots := 0, locals := 0 }) (va_Pc [.int p1] (zB sa dC dI [] [] sz)) (va_Qi (fun (r : Int32) (_ : Unit) => (0 ≤ r.toInt ∧ r.toInt ≤ 1) ∧ ((r.toInt = 0 ∧ (p1.toInt < 0 ∨ 2 < p1.toInt)) ∨ (r.toInt = 1 ∧ 0 ≤ p1.toInt ∧ p1.toInt ≤ 2))) (fun _ t => zW dC dI [] [] (va_A [] sz) t) (va_A [] sz)) 0 0 (va_A [] sz) := by
  refine z_enter (by decide) (by exact (Nat.le_of_ble_eq_true rfl)) ?_
  intro p e s m args below meth c ls A R Qc hargs hsz hQe hAe hRe hx hb hml hr hts hown hlocks hin hl hP hK hD hN hXs hA hS
  rw [hAe] at hQe
  have hown : s.vm.findClass RX9 = some m.cls := hown
  have hl : lv_has ls 1 [(0, .int p1)] := hl
  refine lv_iload_n hx hb dX9_isImage_0 rfl (lv_at hl 0 rfl) ?_
  have nb_p1 := zi_nb p1
  refine lv_if_lt (tgt := 13) hx hb dX9_isImage_1 (by decide) (fun c_1 => ?_) (fun c_1 => ?_)
  · have ic_1 := zz_lt rfl (show Int32.toInt 0 = 0 from by decide) c_1
    refine lv_iconst (v := 0) hx hb dX9_isImage_13 (by decide) ?_
    have zc : Int32.toInt 0 = 0 := by decide
    exact W.zret (v := 0) hx hb hr (by decide) (fun t ht hW => by rw [← hQe]; exact ⟨⟨0, (), rfl, (by first | with_reducible assumption | omega), z_ret hP hK hD ht hW [] [] rfl (by decide) rfl⟩, hS.F ht⟩) hS.2.2 dX9_isImage_14
  · have ic_1 := zz_nlt rfl (show Int32.toInt 0 = 0 from by decide) c_1
    refine lv_iload_n hx hb dX9_isImage_4 rfl (lv_at hl 0 rfl) ?_
    refine lv_iconst (v := 3) hx hb dX9_isImage_5 (by decide) ?_
    refine lv_icmp_ge (tgt := 13) hx hb dX9_isImage_6 (by decide) (fun c_2 => ?_) (fun c_2 => ?_)
    · have ic_2 := zz_ge rfl (show Int32.toInt 3 = 3 from by decide) c_2
      refine lv_iconst (v := 0) hx hb dX9_isImage_13 (by decide) ?_
      have zc : Int32.toInt 0 = 0 := by decide
      exact W.zret (v := 0) hx hb hr (by decide) (fun t ht hW => by rw [← hQe]; exact ⟨⟨0, (), rfl, (by first | with_reducible assumption | omega), z_ret hP hK hD ht hW [] [] rfl (by decide) rfl⟩, hS.F ht⟩) hS.2.2 dX9_isImage_14
    · have ic_2 := zz_nge rfl (show Int32.toInt 3 = 3 from by decide) c_2
      refine lv_iconst (v := 1) hx hb dX9_isImage_9 (by decide) ?_
      refine lv_goto (tgt := 14) hx hb dX9_isImage_10 (by decide) ?_
      have zc : Int32.toInt 1 = 1 := by decide
      exact W.zret (v := 1) hx hb hr (by decide) (fun t ht hW => by rw [← hQe]; exact ⟨⟨1, (), rfl, (by first | with_reducible assumption | omega), z_ret hP hK hD ht hW [] [] rfl (by decide) rfl⟩, hS.F ht⟩) hS.2.2 dX9_isImage_14
set_option maxHeartbeats 4000000 in
set_option maxRecDepth 100000 in
theorem k_X9_isSlot_v2 (l : Launch) (sa : Nat → Nat) (dC : Nat → ClassId) (dI : Nat → Nat → Nat) (p1 : Int32)  (sz : Nat) : Met l yX9_isSlot (.code yX9_isSlot cX9_isSlot 1 (some .boolean) :: zT) ({ frames := 0, cells := 0, slots := 0, locals := 0 }) (va_Pc [.int p1] (zB sa dC dI [] [] sz)) (va_Qi (fun (r : Int32) (_ : Unit) => (0 ≤ r.toInt ∧ r.toInt ≤ 1) ∧ ((r.toInt = 0 ∧ (p1.toInt < 0 ∨ 3 < p1.toInt)) ∨ (r.toInt = 1 ∧ 0 ≤ p1.toInt ∧ p1.toInt ≤ 3))) (fun _ t => zW dC dI [] [] (va_A [] sz) t) (va_A [] sz)) 0 0 (va_A [] sz) := by
  refine z_enter (by decide) (by exact (Nat.le_of_ble_eq_true rfl)) ?_
  intro p e s m args below meth c ls A R Qc hargs hsz hQe hAe hRe hx hb hml hr hts hown hlocks hin hl hP hK hD hN hXs hA hS
  rw [hAe] at hQe
  have hown : s.vm.findClass RX9 = some m.cls := hown
  have hl : lv_has ls 1 [(0, .int p1)] := hl
  refine lv_iload_n hx hb dX9_isSlot_0 rfl (lv_at hl 0 rfl) ?_
  have nb_p1 := zi_nb p1
  refine lv_if_lt (tgt := 13) hx hb dX9_isSlot_1 (by decide) (fun c_1 => ?_) (fun c_1 => ?_)
  · have ic_1 := zz_lt rfl (show Int32.toInt 0 = 0 from by decide) c_1
    refine lv_iconst (v := 0) hx hb dX9_isSlot_13 (by decide) ?_
    have zc : Int32.toInt 0 = 0 := by decide
    exact W.zret (v := 0) hx hb hr (by decide) (fun t ht hW => by rw [← hQe]; exact ⟨⟨0, (), rfl, (by first | with_reducible assumption | omega), z_ret hP hK hD ht hW [] [] rfl (by decide) rfl⟩, hS.F ht⟩) hS.2.2 dX9_isSlot_14
  · have ic_1 := zz_nlt rfl (show Int32.toInt 0 = 0 from by decide) c_1
    refine lv_iload_n hx hb dX9_isSlot_4 rfl (lv_at hl 0 rfl) ?_
    refine lv_iconst (v := 4) hx hb dX9_isSlot_5 (by decide) ?_
    refine lv_icmp_ge (tgt := 13) hx hb dX9_isSlot_6 (by decide) (fun c_2 => ?_) (fun c_2 => ?_)
    · have ic_2 := zz_ge rfl (show Int32.toInt 4 = 4 from by decide) c_2
      refine lv_iconst (v := 0) hx hb dX9_isSlot_13 (by decide) ?_
      have zc : Int32.toInt 0 = 0 := by decide
      exact W.zret (v := 0) hx hb hr (by decide) (fun t ht hW => by rw [← hQe]; exact ⟨⟨0, (), rfl, (by first | with_reducible assumption | omega), z_ret hP hK hD ht hW [] [] rfl (by decide) rfl⟩, hS.F ht⟩) hS.2.2 dX9_isSlot_14
    · have ic_2 := zz_nge rfl (show Int32.toInt 4 = 4 from by decide) c_2
      refine lv_iconst (v := 1) hx hb dX9_isSlot_9 (by decide) ?_
      refine lv_goto (tgt := 14) hx hb dX9_isSlot_10 (by decide) ?_
      have zc : Int32.toInt 1 = 1 := by decide
      exact W.zret (v := 1) hx hb hr (by decide) (fun t ht hW => by rw [← hQe]; exact ⟨⟨1, (), rfl, (by first | with_reducible assumption | omega), z_ret hP hK hD ht hW [] [] rfl (by decide) rfl⟩, hS.F ht⟩) hS.2.2 dX9_isSlot_14
set_option maxHeartbeats 4000000 in
set_option maxRecDepth 100000 in
theorem k_X6_isThere_v1 (l : Launch) (sa : Nat → Nat) (dC : Nat → ClassId) (dI : Nat → Nat → Nat) (rw : Nat) (rw_width : Int32) (rw_size : Int32) (rw_numbers : Nat) (b_rw_size : 0 ≤ rw_size.toInt ∧ rw_size.toInt ≤ 60) (sz : Nat) : Met l yX6_isThere (.code yX6_isThere cX6_isThere 1 (some .boolean) :: zT) ({ frames := 0, cells := 0, slots := 0, locals := 0 }) (va_Pc [.ref rw] (zB sa dC dI (zV6 rw rw_width rw_size rw_numbers) [] sz)) (va_Qi (fun (r : Int32) (_ : Unit) => (0 ≤ r.toInt ∧ r.toInt ≤ 1) ∧ ((r.toInt = 0 ∧ rw_width.toInt = -1) ∨ (r.toInt = 1 ∧ ¬ rw_width.toInt = -1))) (fun _ t => zW dC dI (zV6 rw rw_width rw_size rw_numbers) [] (va_A (zV6 rw rw_width rw_size rw_numbers) sz) t) (va_A (zV6 rw rw_width rw_size rw_numbers) sz)) 0 0 (va_A (zV6 rw rw_width rw_size rw_numbers) sz) := by
  refine z_enter (by decide) (by exact (Nat.le_of_ble_eq_true rfl)) ?_
  intro p e s m args below meth c ls A R Qc hargs hsz hQe hAe hRe hx hb hml hr hts hown hlocks hin hl hP hK hD hN hXs hA hS
  rw [hAe] at hQe
  have hown : s.vm.findClass RX6 = some m.cls := hown
  have hl : lv_has ls 1 [(0, .ref rw)] := hl
  refine lv_aload_n hx hb dX6_isThere_0 rfl (lv_at hl 0 rfl) ?_
  refine va_get (D := (dC, dI)) (ci := 6) (v := .int rw_width) (C := RX6) (T := TX6) (N := 3) hx hb hts zl_X6 hown hK hP 0 rfl rfl 0 (by decide) (hts _ zw_t2_175) (fun _ h9 => h9) rfl dX6_isThere_1 ?_
  refine lv_iconst (v := (-1)) hx hb dX6_isThere_4 (by decide) ?_
  have nb_rw_width := zi_nb rw_width
  refine lv_icmp_eq (tgt := 12) hx hb dX6_isThere_5 (by decide) (fun c_1 => ?_) (fun c_1 => ?_)
  · have ic_1 := zz_eq rfl (show Int32.toInt (-1) = (-1) from by decide) c_1
    refine lv_iconst (v := 0) hx hb dX6_isThere_12 (by decide) ?_
    have zq_m1 : Int32.toInt (-1) = (-1) := by decide
    have zc : Int32.toInt 0 = 0 := by decide
    exact W.zret (v := 0) hx hb hr (by decide) (fun t ht hW => by rw [← hQe]; exact ⟨⟨0, (), rfl, (by first | with_reducible assumption | omega), z_ret hP hK hD ht hW [0] [] rfl (by decide) rfl⟩, hS.F ht⟩) hS.2.2 dX6_isThere_13
  · have ic_1 := zz_neq rfl (show Int32.toInt (-1) = (-1) from by decide) c_1
    refine lv_iconst (v := 1) hx hb dX6_isThere_8 (by decide) ?_
    refine lv_goto (tgt := 13) hx hb dX6_isThere_9 (by decide) ?_
    have zq_m1 : Int32.toInt (-1) = (-1) := by decide
    have zc : Int32.toInt 1 = 1 := by decide
    exact W.zret (v := 1) hx hb hr (by decide) (fun t ht hW => by rw [← hQe]; exact ⟨⟨1, (), rfl, (by first | with_reducible assumption | omega), z_ret hP hK hD ht hW [0] [] rfl (by decide) rfl⟩, hS.F ht⟩) hS.2.2 dX6_isThere_13
set_option maxHeartbeats 4000000 in
set_option maxRecDepth 100000 in
theorem k_X6_make_v1 (l : Launch) (sa : Nat → Nat) (dC : Nat → ClassId) (dI : Nat → Nat → Nat) (rw : Nat) (p1 : Int32) (p2 : Int32) (rw_width : Int32) (rw_size : Int32) (rw_numbers : Nat) (cA_rw_numbers : ClassId) (f_rw_numbers : Nat → Int64) (b_p2 : 0 ≤ p2.toInt ∧ p2.toInt ≤ 60) (b_rw_size : 0 ≤ rw_size.toInt ∧ rw_size.toInt ≤ 60) (sz : Nat) : Met l yX6_make (.code yX6_make cX6_make 3 none :: zT) ({ frames := 1, cells := 0, slots := 0, locals := 24 }) (va_Pc [.ref rw, .int p1, .int p2] (zB sa dC dI (zV7 rw rw_width rw_size rw_numbers rw_numbers cA_rw_numbers f_rw_numbers) [(cA_rw_numbers, .long)] sz)) (va_Qv (fun _ : Unit => True) (fun _ t => ∃ (n_rw_0 : Int32) (n_rw_1 : Int32) (n_rw_numbers : Nat → Int64), (0 ≤ n_rw_1.toInt ∧ n_rw_1.toInt ≤ 60) ∧ (n_rw_0.toInt = p1.toInt) ∧ (n_rw_1.toInt = p2.toInt) ∧ zW dC dI (zV7 rw n_rw_0 n_rw_1 rw_numbers rw_numbers cA_rw_numbers n_rw_numbers) [] (va_A (zV7 rw rw_width rw_size rw_numbers rw_numbers cA_rw_numbers f_rw_numbers) sz) t) (va_A (zV7 rw rw_width rw_size rw_numbers rw_numbers cA_rw_numbers f_rw_numbers) sz)) 0 0 (va_A (zV7 rw rw_width rw_size rw_numbers rw_numbers cA_rw_numbers f_rw_numbers) sz) := by
  refine z_enter (by decide) (by exact (Nat.le_of_ble_eq_true rfl)) ?_
  intro p e s m args below meth c ls A R Qc hargs hsz hQe hAe hRe hx hb hml hr hts hown hlocks hin hl hP hK hD hN hXs hA hS
  rw [hAe] at hQe
  have hown : s.vm.findClass RX6 = some m.cls := hown
  have hl : lv_has ls 3 [(0, .ref rw), (1, .int p1), (2, .int p2)] := hl
  refine lv_aload_n hx hb dX6_make_0 rfl (lv_at hl 0 rfl) ?_
  refine lv_iload_n hx hb dX6_make_1 rfl (lv_at hl 1 rfl) ?_
  refine va_put (D := (dC, dI)) (ci := 6) (v := .int p1) (ty := .int) (C := RX6) (T := TX6) (N := 3) hx hb hts zl_X6 tyX6 tyX6_ok nmX6 hown hK hP hD hS 0 rfl rfl 0 (by decide) (hts _ zw_t2_175) (fun _ h9 => h9) rfl (by decide +kernel) rfl rfl (Nat.le_of_ble_eq_true rfl) dX6_make_2 (fun H locs hP hD hS => ?_)
  have hP : va_P (dC, dI) vwCl (zV7 rw p1 rw_size rw_numbers rw_numbers cA_rw_numbers f_rw_numbers) H := hP
  have hD : va_D A (zV7 rw p1 rw_size rw_numbers rw_numbers cA_rw_numbers f_rw_numbers) := hD
  refine lv_aload_n hx hb dX6_make_5 rfl (lv_at hl 0 rfl) ?_
  refine lv_iload_n hx hb dX6_make_6 rfl (lv_at hl 2 rfl) ?_
  refine va_put (D := (dC, dI)) (ci := 6) (v := .int p2) (ty := .int) (C := RX6) (T := TX6) (N := 3) hx hb hts zl_X6 tyX6 tyX6_ok nmX6 hown hK hP hD hS 0 rfl rfl 1 (by decide) (hts _ zw_t2_178) (fun _ h9 => h9) rfl (by decide +kernel) rfl rfl (Nat.le_of_ble_eq_true rfl) dX6_make_7 (fun H locs hP hD hS => ?_)
  have hP : va_P (dC, dI) vwCl (zV7 rw p1 p2 rw_numbers rw_numbers cA_rw_numbers f_rw_numbers) H := hP
  have hD : va_D A (zV7 rw p1 p2 rw_numbers rw_numbers cA_rw_numbers f_rw_numbers) := hD
  refine lv_aload_n hx hb dX6_make_10 rfl (lv_at hl 0 rfl) ?_
  refine va_get (D := (dC, dI)) (ci := 6) (v := .ref rw_numbers) (C := RX6) (T := TX6) (N := 3) hx hb hts zl_X6 hown hK hP 0 rfl rfl 2 (by decide) (hts _ zw_t2_179) (fun _ h9 => h9) rfl dX6_make_11 ?_
  refine lv_lconst (v := 0) hx hb dX6_make_14 (by decide) ?_
  obtain ⟨hPc, hDc, hFc⟩ := z_cut (wc := [(rw_numbers, .inl (cA_rw_numbers, 60, .inr (.inl f_rw_numbers)))]) hP hD hS hA [1] rfl (by decide +kernel)
  have hKc := hK.sub (tys' := [(cA_rw_numbers, .long)]) [0] rfl
  refine va_callv (va_runS (As := [.ref rw_numbers, .long 0]) (rest := []) ⟨hx, hb, hml, hown, hts⟩ (k_J7_fill_d0a16_v1 l sa dC dI rw_numbers (0) cA_rw_numbers f_rw_numbers H.size) (va_cwS 2 hts (z_gS zw_t6_75 zw_t4_128 zw_t1_19 zw_t4_129) rfl rfl rfl (by decide +kernel) (by rw [← hRe]; exact ⟨(Nat.le_of_ble_eq_true rfl), (Nat.le_of_ble_eq_true rfl)⟩)) (z_preS hPc hKc hDc hN hXs hS hFc) rfl rfl hl.1 rfl (lv_room (Nat.le_of_ble_eq_true rfl)) dX6_make_15 (by rw [← hRe]; exact ⟨(Nat.le_of_ble_eq_true rfl), (Nat.le_of_ble_eq_true rfl)⟩)) hS (fun q _ h => hFc q h) hFc (fun u t H1 locs ht hvm hw hB hz1 hk1 hS => ?_)
  obtain ⟨n_a_2, hB⟩ := hB
  obtain ⟨hP, hD, hK⟩ := z_after3 (wn := (zV7 rw p1 p2 rw_numbers rw_numbers cA_rw_numbers n_a_2)) hB ht hvm hP hD hK [1] [0] rfl 2 rfl (by decide +kernel) rfl (by decide +kernel) hk1 hFc
  generalize H1 = H at hP hS ⊢
  have hK : va_K (dC, dI) vwCl [(cA_rw_numbers, .long)] s := hK
  exact W.vret hx hb hr (fun t ht hW => by rw [← hQe]; exact ⟨⟨(), rfl, trivial, ⟨p1, p2, n_a_2, (by first | with_reducible assumption | omega), (by first | omega | assumption), (by first | omega | assumption), z_ret hP hK hD ht hW [0, 1] [] rfl (by decide) rfl⟩⟩, hS.F ht⟩) hS.2.2 dX6_make_18
set_option maxHeartbeats 4000000 in
set_option maxRecDepth 100000 in
theorem k_X6_hasSpan_v1 (l : Launch) (sa : Nat → Nat) (dC : Nat → ClassId) (dI : Nat → Nat → Nat) (rw : Nat) (p1 : Int32) (p2 : Int32) (rw_width : Int32) (rw_size : Int32) (rw_numbers : Nat) (b_rw_size : 0 ≤ rw_size.toInt ∧ rw_size.toInt ≤ 60) (sz : Nat) : Met l yX6_hasSpan (.code yX6_hasSpan cX6_hasSpan 3 (some .boolean) :: zT) ({ frames := 0, cells := 0, slots := 0, locals := 0 }) (va_Pc [.ref rw, .int p1, .int p2] (zB sa dC dI (zV6 rw rw_width rw_size rw_numbers) [] sz)) (va_Qi (fun (r : Int32) (_ : Unit) => (0 ≤ r.toInt ∧ r.toInt ≤ 1) ∧ ((r.toInt = 0 ∧ (p1.toInt < 0 ∨ p2.toInt < 0 ∨ rw_size.toInt < p1.toInt + p2.toInt)) ∨ (r.toInt = 1 ∧ 0 ≤ p1.toInt ∧ 0 ≤ p2.toInt ∧ p1.toInt + p2.toInt ≤ rw_size.toInt))) (fun _ t => zW dC dI (zV6 rw rw_width rw_size rw_numbers) [] (va_A (zV6 rw rw_width rw_size rw_numbers) sz) t) (va_A (zV6 rw rw_width rw_size rw_numbers) sz)) 0 0 (va_A (zV6 rw rw_width rw_size rw_numbers) sz) := by
  refine z_enter (by decide) (by exact (Nat.le_of_ble_eq_true rfl)) ?_
  intro p e s m args below meth c ls A R Qc hargs hsz hQe hAe hRe hx hb hml hr hts hown hlocks hin hl hP hK hD hN hXs hA hS
  rw [hAe] at hQe
  have hown : s.vm.findClass RX6 = some m.cls := hown
  have hl : lv_has ls 3 [(0, .ref rw), (1, .int p1), (2, .int p2)] := hl
  refine lv_iload_n hx hb dX6_hasSpan_0 rfl (lv_at hl 1 rfl) ?_
  have nb_p1 := zi_nb p1
  refine lv_if_lt (tgt := 30) hx hb dX6_hasSpan_1 (by decide) (fun c_1 => ?_) (fun c_1 => ?_)
  · have ic_1 := zz_lt rfl (show Int32.toInt 0 = 0 from by decide) c_1
    refine lv_iconst (v := 0) hx hb dX6_hasSpan_30 (by decide) ?_
    have zc : Int32.toInt 0 = 0 := by decide
    exact W.zret (v := 0) hx hb hr (by decide) (fun t ht hW => by rw [← hQe]; exact ⟨⟨0, (), rfl, (by first | with_reducible assumption | omega), z_ret hP hK hD ht hW [0] [] rfl (by decide) rfl⟩, hS.F ht⟩) hS.2.2 dX6_hasSpan_31
  · have ic_1 := zz_nlt rfl (show Int32.toInt 0 = 0 from by decide) c_1
    refine lv_iload_n hx hb dX6_hasSpan_4 rfl (lv_at hl 2 rfl) ?_
    have nb_p2 := zi_nb p2
    refine lv_if_lt (tgt := 30) hx hb dX6_hasSpan_5 (by decide) (fun c_2 => ?_) (fun c_2 => ?_)
    · have ic_2 := zz_lt rfl (show Int32.toInt 0 = 0 from by decide) c_2
      refine lv_iconst (v := 0) hx hb dX6_hasSpan_30 (by decide) ?_
      have zc : Int32.toInt 0 = 0 := by decide
      exact W.zret (v := 0) hx hb hr (by decide) (fun t ht hW => by rw [← hQe]; exact ⟨⟨0, (), rfl, (by first | with_reducible assumption | omega), z_ret hP hK hD ht hW [0] [] rfl (by decide) rfl⟩, hS.F ht⟩) hS.2.2 dX6_hasSpan_31
    · have ic_2 := zz_nlt rfl (show Int32.toInt 0 = 0 from by decide) c_2
      refine lv_iload_n hx hb dX6_hasSpan_8 rfl (lv_at hl 2 rfl) ?_
      refine lv_aload_n hx hb dX6_hasSpan_9 rfl (lv_at hl 0 rfl) ?_
      refine va_get (D := (dC, dI)) (ci := 6) (v := .int rw_size) (C := RX6) (T := TX6) (N := 3) hx hb hts zl_X6 hown hK hP 0 rfl rfl 1 (by decide) (hts _ zw_t2_178) (fun _ h9 => h9) rfl dX6_hasSpan_10 ?_
      refine lv_icmp_gt (tgt := 30) hx hb dX6_hasSpan_13 (by decide) (fun c_3 => ?_) (fun c_3 => ?_)
      · have ic_3 := zz_gt rfl rfl c_3
        refine lv_iconst (v := 0) hx hb dX6_hasSpan_30 (by decide) ?_
        have zc : Int32.toInt 0 = 0 := by decide
        exact W.zret (v := 0) hx hb hr (by decide) (fun t ht hW => by rw [← hQe]; exact ⟨⟨0, (), rfl, (by first | with_reducible assumption | omega), z_ret hP hK hD ht hW [0] [] rfl (by decide) rfl⟩, hS.F ht⟩) hS.2.2 dX6_hasSpan_31
      · have ic_3 := zz_ngt rfl rfl c_3
        refine lv_iload_n hx hb dX6_hasSpan_16 rfl (lv_at hl 1 rfl) ?_
        refine lv_aload_n hx hb dX6_hasSpan_17 rfl (lv_at hl 0 rfl) ?_
        refine va_get (D := (dC, dI)) (ci := 6) (v := .int rw_size) (C := RX6) (T := TX6) (N := 3) hx hb hts zl_X6 hown hK hP 0 rfl rfl 1 (by decide) (hts _ zw_t2_178) (fun _ h9 => h9) rfl dX6_hasSpan_18 ?_
        refine lv_iload_n hx hb dX6_hasSpan_21 rfl (lv_at hl 2 rfl) ?_
        refine lv_isub hx hb dX6_hasSpan_22 ?_
        refine lv_topi (fun x_4 ex_4 => ?_)
        have b_x_4 : x_4.toInt = rw_size.toInt - p2.toInt := by rw [ex_4]; exact zi_sub rfl rfl (by first | with_reducible assumption | omega)
        refine lv_icmp_gt (tgt := 30) hx hb dX6_hasSpan_23 (by decide) (fun c_5 => ?_) (fun c_5 => ?_)
        · have ic_5 := zz_gt rfl rfl c_5
          refine lv_iconst (v := 0) hx hb dX6_hasSpan_30 (by decide) ?_
          have zc : Int32.toInt 0 = 0 := by decide
          exact W.zret (v := 0) hx hb hr (by decide) (fun t ht hW => by rw [← hQe]; exact ⟨⟨0, (), rfl, (by first | with_reducible assumption | omega), z_ret hP hK hD ht hW [0] [] rfl (by decide) rfl⟩, hS.F ht⟩) hS.2.2 dX6_hasSpan_31
        · have ic_5 := zz_ngt rfl rfl c_5
          refine lv_iconst (v := 1) hx hb dX6_hasSpan_26 (by decide) ?_
          refine lv_goto (tgt := 31) hx hb dX6_hasSpan_27 (by decide) ?_
          have zc : Int32.toInt 1 = 1 := by decide
          exact W.zret (v := 1) hx hb hr (by decide) (fun t ht hW => by rw [← hQe]; exact ⟨⟨1, (), rfl, (by first | with_reducible assumption | omega), z_ret hP hK hD ht hW [0] [] rfl (by decide) rfl⟩, hS.F ht⟩) hS.2.2 dX6_hasSpan_31
set_option maxHeartbeats 4000000 in
set_option maxRecDepth 100000 in
theorem k_X9_feed_v1 (l : Launch) (sa : Nat → Nat) (dC : Nat → ClassId) (dI : Nat → Nat → Nat) (h0 : Nat) (p1 : Int32) (p2 : Int32) (p3 : Int32) (p4 : Int32) (p5 : Int32) (tp : Nat) (h0_tapeLength : Int32) (h0_faultKind : Int32) (h0_faultPlace : Int32) (nw : Nat) (im : Nat) (sl : Nat) (rd : Nat) (wk : Nat) (fm : Nat) (mt : Nat) (ch : Nat) (dy : Nat) (cA_tp : ClassId) (f_tp : Nat → Int32) (b_h0_tapeLength : 0 ≤ h0_tapeLength.toInt ∧ h0_tapeLength.toInt ≤ 1600) (sz : Nat) : Met l yX9_feed (.code yX9_feed cX9_feed 6 (some .int) :: zT) ({ frames := 1, cells := 0, slots := 0, locals := 22 }) (va_Pc [.ref h0, .int p1, .int p2, .int p3, .int p4, .int p5] (zB sa dC dI (zV171 h0 tp h0_tapeLength h0_faultKind h0_faultPlace nw im sl rd wk fm mt ch dy tp cA_tp f_tp) [(cA_tp, .byte)] sz)) (va_Qi (fun (r : Int32) (u : Int32) => u = r ∧ ((-1) ≤ r.toInt ∧ r.toInt ≤ 1600)) (fun u t => ∃ (n_h0_1 : Int32) (n_tp : Nat → Int32), (0 ≤ n_h0_1.toInt ∧ n_h0_1.toInt ≤ 1600) ∧ ((u.toInt = -1 ∧ n_h0_1.toInt = h0_tapeLength.toInt ∧ 1580 < h0_tapeLength.toInt) ∨ (u.toInt = h0_tapeLength.toInt + 20 ∧ n_h0_1.toInt = h0_tapeLength.toInt + 20 ∧ h0_tapeLength.toInt ≤ 1580)) ∧ zW dC dI (zV171 h0 tp n_h0_1 h0_faultKind h0_faultPlace nw im sl rd wk fm mt ch dy tp cA_tp n_tp) [] (va_A (zV171 h0 tp h0_tapeLength h0_faultKind h0_faultPlace nw im sl rd wk fm mt ch dy tp cA_tp f_tp) sz) t) (va_A (zV171 h0 tp h0_tapeLength h0_faultKind h0_faultPlace nw im sl rd wk fm mt ch dy tp cA_tp f_tp) sz)) 0 0 (va_A (zV171 h0 tp h0_tapeLength h0_faultKind h0_faultPlace nw im sl rd wk fm mt ch dy tp cA_tp f_tp) sz) := by
  refine z_enter (by decide) (by exact (Nat.le_of_ble_eq_true rfl)) ?_
  intro p e s m args below meth c ls A R Qc hargs hsz hQe hAe hRe hx hb hml hr hts hown hlocks hin hl hP hK hD hN hXs hA hS
  rw [hAe] at hQe
  have hown : s.vm.findClass RX9 = some m.cls := hown
  have hl : lv_has ls 6 [(0, .ref h0), (1, .int p1), (2, .int p2), (3, .int p3), (4, .int p4), (5, .int p5)] := hl
  refine lv_aload_n hx hb dX9_feed_0 rfl (lv_at hl 0 rfl) ?_
  refine va_get (D := (dC, dI)) (ci := 9) (v := .int h0_tapeLength) (C := RX9) (T := TX9) (N := 13) hx hb hts zl_X9 hown hK hP 0 rfl rfl 1 (by decide) (hts _ zw_t2_190) (fun _ h9 => h9) rfl dX9_feed_1 ?_
  refine lv_bipush (v := 20) hx hb dX9_feed_4 (by decide) ?_
  refine lv_iadd hx hb dX9_feed_6 ?_
  refine lv_topi (fun x_1 ex_1 => ?_)
  have b_x_1 : x_1.toInt = h0_tapeLength.toInt + 20 := by rw [ex_1]; exact zi_add rfl (show Int32.toInt 20 = 20 from by decide) (by first | with_reducible assumption | omega)
  refine lv_sipush (v := 1600) hx hb dX9_feed_7 (by decide) ?_
  refine lv_icmp_le (tgt := 15) hx hb dX9_feed_10 (by decide) (fun c_2 => ?_) (fun c_2 => ?_)
  · have ic_2 := zz_le rfl (show Int32.toInt 1600 = 1600 from by decide) c_2
    refine lv_aload_n hx hb dX9_feed_15 rfl (lv_at hl 0 rfl) ?_
    refine lv_iload_n hx hb dX9_feed_16 rfl (lv_at hl 1 rfl) ?_
    obtain ⟨hPc, hDc, hFc⟩ := z_cut (wc := (zV171 h0 tp h0_tapeLength h0_faultKind h0_faultPlace nw im sl rd wk fm mt ch dy tp cA_tp f_tp)) hP hD hS hA [0, 1] rfl (by decide +kernel)
    have hKc := hK.sub (tys' := [(cA_tp, .byte)]) [0] rfl
    refine va_callv (va_runV (As := [.int p1]) (rest := []) ⟨hx, hb, hml, hown, hts⟩ (k_X9_putFour l sa dC dI h0 p1 tp h0_tapeLength h0_faultKind h0_faultPlace nw im sl rd wk fm mt ch dy cA_tp f_tp (by first | with_reducible assumption | omega) s.heap.size) (cwV 1 hts (z_gV zw_t2_233 zw_t2_235 zw_s1_0 zw_t1_1 zw_t2_236) rfl rfl rfl (by decide +kernel) (by rw [← hRe]; exact ⟨(Nat.le_of_ble_eq_true rfl), (Nat.le_of_ble_eq_true rfl)⟩)) (z_preV hPc hKc hDc hN hXs hS hFc (q := (RX9, TX9, 13)) (ci := 9) (q0 := 0) rfl rfl) rfl rfl hl.1 rfl (lv_room (Nat.le_of_ble_eq_true rfl)) dX9_feed_17 (by rw [← hRe]; exact ⟨(Nat.le_of_ble_eq_true rfl), (Nat.le_of_ble_eq_true rfl)⟩)) hS (fun q _ h => hFc q h) hFc (fun u t H1 locs ht hvm hw hB hz1 hk1 hS => ?_)
    obtain ⟨n_h0_4, n_tp_5, b_n_h0_4, hf_6, hB⟩ := hB
    obtain ⟨hP, hD, hK⟩ := z_after3 (wn := (zV171 h0 tp n_h0_4 h0_faultKind h0_faultPlace nw im sl rd wk fm mt ch dy tp cA_tp n_tp_5)) hB ht hvm hP hD hK [0, 1] [] rfl 2 rfl (by decide +kernel) rfl (by decide +kernel) hk1 hFc
    generalize H1 = H at hP hS ⊢
    have hK : va_K (dC, dI) vwCl [(cA_tp, .byte)] s := hK
    refine lv_aload_n hx hb dX9_feed_20 rfl (lv_at hl 0 rfl) ?_
    refine lv_iload_n hx hb dX9_feed_21 rfl (lv_at hl 2 rfl) ?_
    obtain ⟨hPc, hDc, hFc⟩ := z_cut (wc := (zV171 h0 tp n_h0_4 h0_faultKind h0_faultPlace nw im sl rd wk fm mt ch dy tp cA_tp n_tp_5)) hP hD hS hA [0, 1] rfl (by decide +kernel)
    have hKc := hK.sub (tys' := [(cA_tp, .byte)]) [0] rfl
    refine va_callv (va_runV (As := [.int p2]) (rest := []) ⟨hx, hb, hml, hown, hts⟩ (k_X9_putFour l sa dC dI h0 p2 tp n_h0_4 h0_faultKind h0_faultPlace nw im sl rd wk fm mt ch dy cA_tp n_tp_5 (by first | with_reducible assumption | omega) H.size) (cwV 1 hts (z_gV zw_t2_233 zw_t2_235 zw_s1_0 zw_t1_1 zw_t2_236) rfl rfl rfl (by decide +kernel) (by rw [← hRe]; exact ⟨(Nat.le_of_ble_eq_true rfl), (Nat.le_of_ble_eq_true rfl)⟩)) (z_preV hPc hKc hDc hN hXs hS hFc (q := (RX9, TX9, 13)) (ci := 9) (q0 := 0) rfl rfl) rfl rfl hl.1 rfl (lv_room (Nat.le_of_ble_eq_true rfl)) dX9_feed_22 (by rw [← hRe]; exact ⟨(Nat.le_of_ble_eq_true rfl), (Nat.le_of_ble_eq_true rfl)⟩)) hS (fun q _ h => hFc q h) hFc (fun u t H1 locs ht hvm hw hB hz1 hk1 hS => ?_)
    obtain ⟨n_h0_8, n_tp_9, b_n_h0_8, hf_10, hB⟩ := hB
    obtain ⟨hP, hD, hK⟩ := z_after3 (wn := (zV171 h0 tp n_h0_8 h0_faultKind h0_faultPlace nw im sl rd wk fm mt ch dy tp cA_tp n_tp_9)) hB ht hvm hP hD hK [0, 1] [] rfl 2 rfl (by decide +kernel) rfl (by decide +kernel) hk1 hFc
    generalize H1 = H at hP hS ⊢
    have hK : va_K (dC, dI) vwCl [(cA_tp, .byte)] s := hK
    refine lv_aload_n hx hb dX9_feed_25 rfl (lv_at hl 0 rfl) ?_
    refine lv_iload_n hx hb dX9_feed_26 rfl (lv_at hl 3 rfl) ?_
    obtain ⟨hPc, hDc, hFc⟩ := z_cut (wc := (zV171 h0 tp n_h0_8 h0_faultKind h0_faultPlace nw im sl rd wk fm mt ch dy tp cA_tp n_tp_9)) hP hD hS hA [0, 1] rfl (by decide +kernel)
    have hKc := hK.sub (tys' := [(cA_tp, .byte)]) [0] rfl
    refine va_callv (va_runV (As := [.int p3]) (rest := []) ⟨hx, hb, hml, hown, hts⟩ (k_X9_putFour l sa dC dI h0 p3 tp n_h0_8 h0_faultKind h0_faultPlace nw im sl rd wk fm mt ch dy cA_tp n_tp_9 (by first | with_reducible assumption | omega) H.size) (cwV 1 hts (z_gV zw_t2_233 zw_t2_235 zw_s1_0 zw_t1_1 zw_t2_236) rfl rfl rfl (by decide +kernel) (by rw [← hRe]; exact ⟨(Nat.le_of_ble_eq_true rfl), (Nat.le_of_ble_eq_true rfl)⟩)) (z_preV hPc hKc hDc hN hXs hS hFc (q := (RX9, TX9, 13)) (ci := 9) (q0 := 0) rfl rfl) rfl rfl hl.1 rfl (lv_room (Nat.le_of_ble_eq_true rfl)) dX9_feed_27 (by rw [← hRe]; exact ⟨(Nat.le_of_ble_eq_true rfl), (Nat.le_of_ble_eq_true rfl)⟩)) hS (fun q _ h => hFc q h) hFc (fun u t H1 locs ht hvm hw hB hz1 hk1 hS => ?_)
    obtain ⟨n_h0_12, n_tp_13, b_n_h0_12, hf_14, hB⟩ := hB
    obtain ⟨hP, hD, hK⟩ := z_after3 (wn := (zV171 h0 tp n_h0_12 h0_faultKind h0_faultPlace nw im sl rd wk fm mt ch dy tp cA_tp n_tp_13)) hB ht hvm hP hD hK [0, 1] [] rfl 2 rfl (by decide +kernel) rfl (by decide +kernel) hk1 hFc
    generalize H1 = H at hP hS ⊢
    have hK : va_K (dC, dI) vwCl [(cA_tp, .byte)] s := hK
    refine lv_aload_n hx hb dX9_feed_30 rfl (lv_at hl 0 rfl) ?_
    refine lv_iload hx hb dX9_feed_31 (lv_at hl 4 rfl) ?_
    obtain ⟨hPc, hDc, hFc⟩ := z_cut (wc := (zV171 h0 tp n_h0_12 h0_faultKind h0_faultPlace nw im sl rd wk fm mt ch dy tp cA_tp n_tp_13)) hP hD hS hA [0, 1] rfl (by decide +kernel)
    have hKc := hK.sub (tys' := [(cA_tp, .byte)]) [0] rfl
    refine va_callv (va_runV (As := [.int p4]) (rest := []) ⟨hx, hb, hml, hown, hts⟩ (k_X9_putFour l sa dC dI h0 p4 tp n_h0_12 h0_faultKind h0_faultPlace nw im sl rd wk fm mt ch dy cA_tp n_tp_13 (by first | with_reducible assumption | omega) H.size) (cwV 1 hts (z_gV zw_t2_233 zw_t2_235 zw_s1_0 zw_t1_1 zw_t2_236) rfl rfl rfl (by decide +kernel) (by rw [← hRe]; exact ⟨(Nat.le_of_ble_eq_true rfl), (Nat.le_of_ble_eq_true rfl)⟩)) (z_preV hPc hKc hDc hN hXs hS hFc (q := (RX9, TX9, 13)) (ci := 9) (q0 := 0) rfl rfl) rfl rfl hl.1 rfl (lv_room (Nat.le_of_ble_eq_true rfl)) dX9_feed_33 (by rw [← hRe]; exact ⟨(Nat.le_of_ble_eq_true rfl), (Nat.le_of_ble_eq_true rfl)⟩)) hS (fun q _ h => hFc q h) hFc (fun u t H1 locs ht hvm hw hB hz1 hk1 hS => ?_)
    obtain ⟨n_h0_16, n_tp_17, b_n_h0_16, hf_18, hB⟩ := hB
    obtain ⟨hP, hD, hK⟩ := z_after3 (wn := (zV171 h0 tp n_h0_16 h0_faultKind h0_faultPlace nw im sl rd wk fm mt ch dy tp cA_tp n_tp_17)) hB ht hvm hP hD hK [0, 1] [] rfl 2 rfl (by decide +kernel) rfl (by decide +kernel) hk1 hFc
    generalize H1 = H at hP hS ⊢
    have hK : va_K (dC, dI) vwCl [(cA_tp, .byte)] s := hK
    refine lv_aload_n hx hb dX9_feed_36 rfl (lv_at hl 0 rfl) ?_
    refine lv_iload hx hb dX9_feed_37 (lv_at hl 5 rfl) ?_
    obtain ⟨hPc, hDc, hFc⟩ := z_cut (wc := (zV171 h0 tp n_h0_16 h0_faultKind h0_faultPlace nw im sl rd wk fm mt ch dy tp cA_tp n_tp_17)) hP hD hS hA [0, 1] rfl (by decide +kernel)
    have hKc := hK.sub (tys' := [(cA_tp, .byte)]) [0] rfl
    refine va_callv (va_runV (As := [.int p5]) (rest := []) ⟨hx, hb, hml, hown, hts⟩ (k_X9_putFour l sa dC dI h0 p5 tp n_h0_16 h0_faultKind h0_faultPlace nw im sl rd wk fm mt ch dy cA_tp n_tp_17 (by first | with_reducible assumption | omega) H.size) (cwV 1 hts (z_gV zw_t2_233 zw_t2_235 zw_s1_0 zw_t1_1 zw_t2_236) rfl rfl rfl (by decide +kernel) (by rw [← hRe]; exact ⟨(Nat.le_of_ble_eq_true rfl), (Nat.le_of_ble_eq_true rfl)⟩)) (z_preV hPc hKc hDc hN hXs hS hFc (q := (RX9, TX9, 13)) (ci := 9) (q0 := 0) rfl rfl) rfl rfl hl.1 rfl (lv_room (Nat.le_of_ble_eq_true rfl)) dX9_feed_39 (by rw [← hRe]; exact ⟨(Nat.le_of_ble_eq_true rfl), (Nat.le_of_ble_eq_true rfl)⟩)) hS (fun q _ h => hFc q h) hFc (fun u t H1 locs ht hvm hw hB hz1 hk1 hS => ?_)
    obtain ⟨n_h0_20, n_tp_21, b_n_h0_20, hf_22, hB⟩ := hB
    obtain ⟨hP, hD, hK⟩ := z_after3 (wn := (zV171 h0 tp n_h0_20 h0_faultKind h0_faultPlace nw im sl rd wk fm mt ch dy tp cA_tp n_tp_21)) hB ht hvm hP hD hK [0, 1] [] rfl 2 rfl (by decide +kernel) rfl (by decide +kernel) hk1 hFc
    generalize H1 = H at hP hS ⊢
    have hK : va_K (dC, dI) vwCl [(cA_tp, .byte)] s := hK
    refine lv_aload_n hx hb dX9_feed_42 rfl (lv_at hl 0 rfl) ?_
    refine va_get (D := (dC, dI)) (ci := 9) (v := .int n_h0_20) (C := RX9) (T := TX9) (N := 13) hx hb hts zl_X9 hown hK hP 0 rfl rfl 1 (by decide) (hts _ zw_t2_190) (fun _ h9 => h9) rfl dX9_feed_43 ?_
    exact W.iret (v := n_h0_20) hx hb hr (fun t ht hW => by rw [← hQe]; exact ⟨⟨n_h0_20, n_h0_20, rfl, ⟨rfl, (by first | with_reducible assumption | omega)⟩, ⟨n_h0_20, n_tp_21, (by first | with_reducible assumption | omega), (by first | omega | assumption), z_ret hP hK hD ht hW [0, 1] [] rfl (by decide) rfl⟩⟩, hS.F ht⟩) hS.2.2 dX9_feed_46
  · have ic_2 := zz_nle rfl (show Int32.toInt 1600 = 1600 from by decide) c_2
    refine lv_iconst (v := (-1)) hx hb dX9_feed_13 (by decide) ?_
    have zc : Int32.toInt (-1) = (-1) := by decide
    exact W.iret (v := (-1)) hx hb hr (fun t ht hW => by rw [← hQe]; exact ⟨⟨(-1), (-1), rfl, ⟨rfl, (by decide)⟩, ⟨h0_tapeLength, f_tp, (by first | with_reducible assumption | omega), (by first | omega | assumption), z_ret hP hK hD ht hW [0, 1] [] rfl (by decide) rfl⟩⟩, hS.F ht⟩) hS.2.2 dX9_feed_14
set_option maxHeartbeats 4000000 in
set_option maxRecDepth 100000 in
theorem k_X9_end_v1 (l : Launch) (sa : Nat → Nat) (dC : Nat → ClassId) (dI : Nat → Nat → Nat) (h0 : Nat) (p1 : Int32) (tp : Nat) (h0_tapeLength : Int32) (h0_faultKind : Int32) (h0_faultPlace : Int32) (nw : Nat) (im : Nat) (sl : Nat) (rd : Nat) (wk : Nat) (fm : Nat) (mt : Nat) (ch : Nat) (dy : Nat) (b_h0_tapeLength : 0 ≤ h0_tapeLength.toInt ∧ h0_tapeLength.toInt ≤ 1600) (sz : Nat) : Met l yX9_end (.code yX9_end cX9_end 2 (some .int) :: zT) ({ frames := 0, cells := 0, slots := 0, locals := 0 }) (va_Pc [.ref h0, .int p1] (zB sa dC dI (zV119 h0 tp h0_tapeLength h0_faultKind h0_faultPlace nw im sl rd wk fm mt ch dy) [] sz)) (va_Qi (fun (r : Int32) (u : Int32) => u = r ∧ ((-1) ≤ r.toInt ∧ r.toInt ≤ 1600)) (fun u t => ∃ (n_h0_1 : Int32), (0 ≤ n_h0_1.toInt ∧ n_h0_1.toInt ≤ 1600) ∧ ((u.toInt = -1 ∧ n_h0_1.toInt = h0_tapeLength.toInt ∧ (p1.toInt < 0 ∨ h0_tapeLength.toInt < p1.toInt)) ∨ (u.toInt = p1.toInt ∧ n_h0_1.toInt = p1.toInt ∧ 0 ≤ p1.toInt ∧ p1.toInt ≤ h0_tapeLength.toInt)) ∧ zW dC dI (zV119 h0 tp n_h0_1 h0_faultKind h0_faultPlace nw im sl rd wk fm mt ch dy) [] (va_A (zV119 h0 tp h0_tapeLength h0_faultKind h0_faultPlace nw im sl rd wk fm mt ch dy) sz) t) (va_A (zV119 h0 tp h0_tapeLength h0_faultKind h0_faultPlace nw im sl rd wk fm mt ch dy) sz)) 0 0 (va_A (zV119 h0 tp h0_tapeLength h0_faultKind h0_faultPlace nw im sl rd wk fm mt ch dy) sz) := by
  refine z_enter (by decide) (by exact (Nat.le_of_ble_eq_true rfl)) ?_
  intro p e s m args below meth c ls A R Qc hargs hsz hQe hAe hRe hx hb hml hr hts hown hlocks hin hl hP hK hD hN hXs hA hS
  rw [hAe] at hQe
  have hown : s.vm.findClass RX9 = some m.cls := hown
  have hl : lv_has ls 2 [(0, .ref h0), (1, .int p1)] := hl
  refine lv_iload_n hx hb dX9_end_0 rfl (lv_at hl 1 rfl) ?_
  have nb_p1 := zi_nb p1
  refine lv_if_lt (tgt := 12) hx hb dX9_end_1 (by decide) (fun c_1 => ?_) (fun c_1 => ?_)
  · have ic_1 := zz_lt rfl (show Int32.toInt 0 = 0 from by decide) c_1
    refine lv_iconst (v := (-1)) hx hb dX9_end_12 (by decide) ?_
    have zc : Int32.toInt (-1) = (-1) := by decide
    exact W.iret (v := (-1)) hx hb hr (fun t ht hW => by rw [← hQe]; exact ⟨⟨(-1), (-1), rfl, ⟨rfl, (by decide)⟩, ⟨h0_tapeLength, (by first | with_reducible assumption | omega), (by first | omega | assumption), z_ret hP hK hD ht hW [0] [] rfl (by decide) rfl⟩⟩, hS.F ht⟩) hS.2.2 dX9_end_13
  · have ic_1 := zz_nlt rfl (show Int32.toInt 0 = 0 from by decide) c_1
    refine lv_iload_n hx hb dX9_end_4 rfl (lv_at hl 1 rfl) ?_
    refine lv_aload_n hx hb dX9_end_5 rfl (lv_at hl 0 rfl) ?_
    refine va_get (D := (dC, dI)) (ci := 9) (v := .int h0_tapeLength) (C := RX9) (T := TX9) (N := 13) hx hb hts zl_X9 hown hK hP 0 rfl rfl 1 (by decide) (hts _ zw_t2_190) (fun _ h9 => h9) rfl dX9_end_6 ?_
    refine lv_icmp_le (tgt := 14) hx hb dX9_end_9 (by decide) (fun c_2 => ?_) (fun c_2 => ?_)
    · have ic_2 := zz_le rfl rfl c_2
      refine lv_aload_n hx hb dX9_end_14 rfl (lv_at hl 0 rfl) ?_
      refine lv_iload_n hx hb dX9_end_15 rfl (lv_at hl 1 rfl) ?_
      refine va_put (D := (dC, dI)) (ci := 9) (v := .int p1) (ty := .int) (C := RX9) (T := TX9) (N := 13) hx hb hts zl_X9 tyX9 tyX9_ok nmX9 hown hK hP hD hS 0 rfl rfl 1 (by decide) (hts _ zw_t2_190) (fun _ h9 => h9) rfl (by decide +kernel) rfl rfl (Nat.le_of_ble_eq_true rfl) dX9_end_16 (fun H locs hP hD hS => ?_)
      have hP : va_P (dC, dI) vwCl (zV119 h0 tp p1 h0_faultKind h0_faultPlace nw im sl rd wk fm mt ch dy) H := hP
      have hD : va_D A (zV119 h0 tp p1 h0_faultKind h0_faultPlace nw im sl rd wk fm mt ch dy) := hD
      refine lv_iload_n hx hb dX9_end_19 rfl (lv_at hl 1 rfl) ?_
      exact W.iret (v := p1) hx hb hr (fun t ht hW => by rw [← hQe]; exact ⟨⟨p1, p1, rfl, ⟨rfl, (by first | with_reducible assumption | omega)⟩, ⟨p1, (by first | with_reducible assumption | omega), (by first | omega | assumption), z_ret hP hK hD ht hW [0] [] rfl (by decide) rfl⟩⟩, hS.F ht⟩) hS.2.2 dX9_end_20
    · have ic_2 := zz_nle rfl rfl c_2
      refine lv_iconst (v := (-1)) hx hb dX9_end_12 (by decide) ?_
      have zc : Int32.toInt (-1) = (-1) := by decide
      exact W.iret (v := (-1)) hx hb hr (fun t ht hW => by rw [← hQe]; exact ⟨⟨(-1), (-1), rfl, ⟨rfl, (by decide)⟩, ⟨h0_tapeLength, (by first | with_reducible assumption | omega), (by first | omega | assumption), z_ret hP hK hD ht hW [0] [] rfl (by decide) rfl⟩⟩, hS.F ht⟩) hS.2.2 dX9_end_13
set_option maxHeartbeats 4000000 in
set_option maxRecDepth 100000 in
theorem k_X9_town_v1 (l : Launch) (sa : Nat → Nat) (dC : Nat → ClassId) (dI : Nat → Nat → Nat) (h0 : Nat) (tp : Nat) (h0_tapeLength : Int32) (h0_faultKind : Int32) (h0_faultPlace : Int32) (nw : Nat) (im : Nat) (sl : Nat) (rd : Nat) (wk : Nat) (fm : Nat) (mt : Nat) (ch : Nat) (dy : Nat) (cA_tp : ClassId) (f_tp : Nat → Int32) (nw_isKept : Int32) (tn : Nat) (nw_strayed : Int32) (nw_names : Int32) (nw_known : Int32) (nw_gone : Int32) (rd_fault : Int32) (rd_place : Int32) (rt : Nat) (rd_kinds : Nat) (rd_starts : Nat) (rd_stops : Nat) (rd_values : Nat) (rd_tokens : Int32) (rd_at : Int32) (rn : Nat) (rd_strayCount : Int32) (rd_lawTold : Int32) (rd_falseTold : Int32) (cA_rd_kinds : ClassId) (f_rd_kinds : Nat → Int32) (cA_rd_starts : ClassId) (f_rd_starts : Nat → Int32) (cA_rd_stops : ClassId) (f_rd_stops : Nat → Int32) (cA_rd_values : ClassId) (f_rd_values : Nat → Int32) (b_h0_tapeLength : 0 ≤ h0_tapeLength.toInt ∧ h0_tapeLength.toInt ≤ 1600) (b_nw_isKept : 0 ≤ nw_isKept.toInt ∧ nw_isKept.toInt ≤ 1) (b_nw_names : 0 ≤ nw_names.toInt ∧ nw_names.toInt ≤ 1023) (b_rd_tokens : 0 ≤ rd_tokens.toInt ∧ rd_tokens.toInt ≤ 1600) (b_rd_at : 0 ≤ rd_at.toInt ∧ rd_at.toInt ≤ 1600) (b_rd_strayCount : 0 ≤ rd_strayCount.toInt ∧ rd_strayCount.toInt ≤ 4) (b_rd_lawTold : 0 ≤ rd_lawTold.toInt ∧ rd_lawTold.toInt ≤ 1) (b_rd_falseTold : 0 ≤ rd_falseTold.toInt ∧ rd_falseTold.toInt ≤ 1) (b_f_rd_kinds : ∀ j : Nat, 0 ≤ (f_rd_kinds j).toInt ∧ (f_rd_kinds j).toInt ≤ 5) (b_f_rd_starts : ∀ j : Nat, 0 ≤ (f_rd_starts j).toInt ∧ (f_rd_starts j).toInt ≤ 1600) (b_f_rd_stops : ∀ j : Nat, 0 ≤ (f_rd_stops j).toInt ∧ (f_rd_stops j).toInt ≤ 1600) (b_f_rd_values : ∀ j : Nat, 0 ≤ (f_rd_values j).toInt ∧ (f_rd_values j).toInt ≤ 100000) (sz : Nat) : Met l yX9_town (.code yX9_town cX9_town 2 (some .int) :: zT) ({ frames := 10, cells := 11, slots := 690, locals := 213 }) (va_Pc [.ref h0] (zB sa dC dI (zV385 h0 tp h0_tapeLength h0_faultKind h0_faultPlace nw im sl rd wk fm mt ch dy tp cA_tp f_tp nw nw_isKept tn nw_strayed nw_names nw_known nw_gone rd rd_fault rd_place rt rd_kinds rd_starts rd_stops rd_values rd_tokens rd_at rn rd_strayCount rd_lawTold rd_falseTold rd_kinds cA_rd_kinds f_rd_kinds rd_starts cA_rd_starts f_rd_starts rd_stops cA_rd_stops f_rd_stops rd_values cA_rd_values f_rd_values) [(cA_tp, .byte), (cA_rd_kinds, .int), (cA_rd_starts, .int), (cA_rd_stops, .int), (cA_rd_values, .int)] sz)) (va_Qi (fun (r : Int32) (_ : Unit) => True) (fun _ t => ∃ (n_h0_1 : Int32) (n_h0_2 : Int32) (n_h0_3 : Int32) (n_nw_1 : Nat) (n_nw_2 : Int32) (n_nw_3 : Int32) (n_nw_4 : Int32) (n_nw_5 : Int32) (n_rd_0 : Int32) (n_rd_1 : Int32) (n_rd_7 : Int32) (n_rd_8 : Int32) (n_rd_10 : Int32) (n_rd_11 : Int32) (n_rd_12 : Int32) (n_rd_kinds : Nat → Int32) (n_rd_starts : Nat → Int32) (n_rd_stops : Nat → Int32) (n_rd_values : Nat → Int32) (nt : Nat) (nt_hours : Int32) (nt_courts : Int32) (nt_gateCount : Int32) (nt_people : Int32) (nt_lines : Int32) (nt_falseHours : Int32) (nt_strayers : Int32) (nt_deep : Int32) (nt_above : Nat) (nt_doors : Nat) (nt_degrees : Nat) (nt_neighbours : Nat) (nt_shows : Nat) (nt_oneEnd : Nat) (nt_otherEnd : Nat) (nt_told : Nat) (nt_strayParts : Nat) (nt_strayCourts : Nat) (cA_nt_above : ClassId) (f_nt_above : Nat → Int32) (cA_nt_doors : ClassId) (f_nt_doors : Nat → Int32) (cA_nt_degrees : ClassId) (f_nt_degrees : Nat → Int32) (cA_nt_neighbours : ClassId) (f_nt_neighbours : Nat → Int32) (cA_nt_shows : ClassId) (f_nt_shows : Nat → Int32) (cA_nt_oneEnd : ClassId) (f_nt_oneEnd : Nat → Int32) (cA_nt_otherEnd : ClassId) (f_nt_otherEnd : Nat → Int32) (cA_nt_told : ClassId) (f_nt_told : Nat → Int32) (cA_nt_strayParts : ClassId) (f_nt_strayParts : Nat → Int32) (cA_nt_strayCourts : ClassId) (f_nt_strayCourts : Nat → Int32), (0 ≤ n_h0_1.toInt ∧ n_h0_1.toInt ≤ 1600) ∧ (0 ≤ n_nw_3.toInt ∧ n_nw_3.toInt ≤ 1023) ∧ (0 ≤ n_rd_7.toInt ∧ n_rd_7.toInt ≤ 1600) ∧ (0 ≤ n_rd_8.toInt ∧ n_rd_8.toInt ≤ 1600) ∧ (0 ≤ n_rd_10.toInt ∧ n_rd_10.toInt ≤ 4) ∧ (0 ≤ n_rd_11.toInt ∧ n_rd_11.toInt ≤ 1) ∧ (0 ≤ n_rd_12.toInt ∧ n_rd_12.toInt ≤ 1) ∧ (∀ j : Nat, 0 ≤ (n_rd_kinds j).toInt ∧ (n_rd_kinds j).toInt ≤ 5) ∧ (∀ j : Nat, 0 ≤ (n_rd_starts j).toInt ∧ (n_rd_starts j).toInt ≤ 1600) ∧ (∀ j : Nat, 0 ≤ (n_rd_stops j).toInt ∧ (n_rd_stops j).toInt ≤ 1600) ∧ (∀ j : Nat, 0 ≤ (n_rd_values j).toInt ∧ (n_rd_values j).toInt ≤ 100000) ∧ (0 ≤ nt_hours.toInt ∧ nt_hours.toInt ≤ 48) ∧ (0 ≤ nt_courts.toInt ∧ nt_courts.toInt ≤ 10) ∧ (0 ≤ nt_gateCount.toInt ∧ nt_gateCount.toInt ≤ 16) ∧ (0 ≤ nt_people.toInt ∧ nt_people.toInt ≤ 10) ∧ (0 ≤ nt_falseHours.toInt ∧ nt_falseHours.toInt ≤ 9) ∧ (0 ≤ nt_deep.toInt ∧ nt_deep.toInt ≤ 1) ∧ (∀ j : Nat, 0 ≤ (f_nt_degrees j).toInt ∧ (f_nt_degrees j).toInt ≤ 10) ∧ (∀ j : Nat, 0 ≤ (f_nt_neighbours j).toInt ∧ (f_nt_neighbours j).toInt ≤ 9) ∧ (∀ j : Nat, 0 ≤ (f_nt_oneEnd j).toInt ∧ (f_nt_oneEnd j).toInt ≤ 9) ∧ (∀ j : Nat, 0 ≤ (f_nt_otherEnd j).toInt ∧ (f_nt_otherEnd j).toInt ≤ 9) ∧ (∀ j : Nat, 0 ≤ (f_nt_told j).toInt ∧ (f_nt_told j).toInt ≤ 9) ∧ (∀ j : Nat, 0 ≤ (f_nt_strayParts j).toInt ∧ (f_nt_strayParts j).toInt ≤ 99) ∧ (∀ j : Nat, 0 ≤ (f_nt_strayCourts j).toInt ∧ (f_nt_strayCourts j).toInt ≤ 9) ∧ (zTw f_nt_oneEnd f_nt_otherEnd f_nt_doors f_nt_degrees nt_gateCount.toInt) ∧ (n_nw_1 = tn ∨ n_nw_1 = nt) ∧ (n_h0_1.toInt = 0) ∧ zW dC dI (zV386 h0 tp n_h0_1 n_h0_2 n_h0_3 nw im sl rd wk fm mt ch dy tp cA_tp f_tp nw nw_isKept n_nw_1 n_nw_2 n_nw_3 n_nw_4 n_nw_5 rd n_rd_0 n_rd_1 tp rd_kinds rd_starts rd_stops rd_values n_rd_7 n_rd_8 nt n_rd_10 n_rd_11 n_rd_12 rd_kinds cA_rd_kinds n_rd_kinds rd_starts cA_rd_starts n_rd_starts rd_stops cA_rd_stops n_rd_stops rd_values cA_rd_values n_rd_values nt nt_hours nt_courts nt_gateCount nt_people nt_lines nt_falseHours nt_strayers nt_deep nt_above nt_doors nt_degrees nt_neighbours nt_shows nt_oneEnd nt_otherEnd nt_told nt_strayParts nt_strayCourts nt_above cA_nt_above f_nt_above nt_doors cA_nt_doors f_nt_doors nt_degrees cA_nt_degrees f_nt_degrees nt_neighbours cA_nt_neighbours f_nt_neighbours nt_shows cA_nt_shows f_nt_shows nt_oneEnd cA_nt_oneEnd f_nt_oneEnd nt_otherEnd cA_nt_otherEnd f_nt_otherEnd nt_told cA_nt_told f_nt_told nt_strayParts cA_nt_strayParts f_nt_strayParts nt_strayCourts cA_nt_strayCourts f_nt_strayCourts) [(cA_nt_above, .int), (cA_nt_doors, .int), (cA_nt_degrees, .int), (cA_nt_neighbours, .int), (cA_nt_shows, .int), (cA_nt_oneEnd, .int), (cA_nt_otherEnd, .int), (cA_nt_told, .int), (cA_nt_strayParts, .int), (cA_nt_strayCourts, .int)] (va_A (zV385 h0 tp h0_tapeLength h0_faultKind h0_faultPlace nw im sl rd wk fm mt ch dy tp cA_tp f_tp nw nw_isKept tn nw_strayed nw_names nw_known nw_gone rd rd_fault rd_place rt rd_kinds rd_starts rd_stops rd_values rd_tokens rd_at rn rd_strayCount rd_lawTold rd_falseTold rd_kinds cA_rd_kinds f_rd_kinds rd_starts cA_rd_starts f_rd_starts rd_stops cA_rd_stops f_rd_stops rd_values cA_rd_values f_rd_values) sz) t) (va_A (zV385 h0 tp h0_tapeLength h0_faultKind h0_faultPlace nw im sl rd wk fm mt ch dy tp cA_tp f_tp nw nw_isKept tn nw_strayed nw_names nw_known nw_gone rd rd_fault rd_place rt rd_kinds rd_starts rd_stops rd_values rd_tokens rd_at rn rd_strayCount rd_lawTold rd_falseTold rd_kinds cA_rd_kinds f_rd_kinds rd_starts cA_rd_starts f_rd_starts rd_stops cA_rd_stops f_rd_stops rd_values cA_rd_values f_rd_values) sz)) 11 690 (va_A (zV385 h0 tp h0_tapeLength h0_faultKind h0_faultPlace nw im sl rd wk fm mt ch dy tp cA_tp f_tp nw nw_isKept tn nw_strayed nw_names nw_known nw_gone rd rd_fault rd_place rt rd_kinds rd_starts rd_stops rd_values rd_tokens rd_at rn rd_strayCount rd_lawTold rd_falseTold rd_kinds cA_rd_kinds f_rd_kinds rd_starts cA_rd_starts f_rd_starts rd_stops cA_rd_stops f_rd_stops rd_values cA_rd_values f_rd_values) sz) := by
  refine z_enter (by decide) (by exact (Nat.le_of_ble_eq_true rfl)) ?_
  intro p e s m args below meth c ls A R Qc hargs hsz hQe hAe hRe hx hb hml hr hts hown hlocks hin hl hP hK hD hN hXs hA hS
  rw [hAe] at hQe
  have hown : s.vm.findClass RX9 = some m.cls := hown
  have hl : lv_has ls 2 [(0, .ref h0)] := hl
  refine lv_aload_n hx hb dX9_town_0 rfl (lv_at hl 0 rfl) ?_
  refine va_get (D := (dC, dI)) (ci := 9) (v := .ref rd) (C := RX9) (T := TX9) (N := 13) hx hb hts zl_X9 hown hK hP 0 rfl rfl 7 (by decide) (hts _ zw_t2_196) (fun _ h9 => h9) rfl dX9_town_1 ?_
  refine lv_aload_n hx hb dX9_town_4 rfl (lv_at hl 0 rfl) ?_
  refine va_get (D := (dC, dI)) (ci := 9) (v := .ref tp) (C := RX9) (T := TX9) (N := 13) hx hb hts zl_X9 hown hK hP 0 rfl rfl 0 (by decide) (hts _ zw_t2_189) (fun _ h9 => h9) rfl dX9_town_5 ?_
  refine lv_aload_n hx hb dX9_town_8 rfl (lv_at hl 0 rfl) ?_
  refine va_get (D := (dC, dI)) (ci := 9) (v := .int h0_tapeLength) (C := RX9) (T := TX9) (N := 13) hx hb hts zl_X9 hown hK hP 0 rfl rfl 1 (by decide) (hts _ zw_t2_190) (fun _ h9 => h9) rfl dX9_town_9 ?_
  obtain ⟨hPc, hDc, hFc⟩ := z_cut (wc := (zV172 rd rd_fault rd_place rt rd_kinds rd_starts rd_stops rd_values rd_tokens rd_at rn rd_strayCount rd_lawTold rd_falseTold rd_kinds cA_rd_kinds f_rd_kinds rd_starts cA_rd_starts f_rd_starts rd_stops cA_rd_stops f_rd_stops rd_values cA_rd_values f_rd_values tp cA_tp f_tp)) hP hD hS hA [3, 4, 5, 6, 7, 1] rfl (by decide +kernel)
  have hKc := hK.sub (tys' := [(cA_rd_kinds, .int), (cA_rd_starts, .int), (cA_rd_stops, .int), (cA_rd_values, .int), (cA_tp, .byte)]) [1, 2, 3, 4, 0] rfl
  refine va_callr (va_runV (As := [.ref tp, .int h0_tapeLength]) (rest := []) ⟨hx, hb, hml, hown, hts⟩ (k_X5_read l sa dC dI rd tp h0_tapeLength rd_fault rd_place rt rd_kinds rd_starts rd_stops rd_values rd_tokens rd_at rn rd_strayCount rd_lawTold rd_falseTold cA_rd_kinds f_rd_kinds cA_rd_starts f_rd_starts cA_rd_stops f_rd_stops cA_rd_values f_rd_values cA_tp f_tp b_h0_tapeLength b_rd_tokens b_rd_at b_rd_strayCount b_rd_lawTold b_rd_falseTold b_f_rd_kinds b_f_rd_starts b_f_rd_stops b_f_rd_values s.heap.size) (cwV 2 hts (z_gV zw_t3_5 zw_t3_6 zw_t3_7 zw_t1_4 zw_t3_8) rfl rfl rfl (by decide +kernel) (by rw [← hRe]; exact ⟨(Nat.le_of_ble_eq_true rfl), (Nat.le_of_ble_eq_true rfl)⟩)) (z_preV hPc hKc hDc hN hXs hS hFc (q := (RX5, TX5, 13)) (ci := 5) (q0 := 0) rfl rfl) rfl rfl hl.1 rfl (lv_room (Nat.le_of_ble_eq_true rfl)) dX9_town_12 (by rw [← hRe]; exact ⟨(Nat.le_of_ble_eq_true rfl), (Nat.le_of_ble_eq_true rfl)⟩)) hS (fun q _ h => hFc q h) hFc (fun u r_1 t H1 locs ht hvm hw hB hz1 hk1 hS => ?_)
  obtain ⟨n_rd_2, n_rd_3, n_rd_4, n_rd_5, n_rd_6, n_rd_7, n_rd_8, n_rd_kinds_9, n_rd_starts_10, n_rd_stops_11, n_rd_values_12, nt_hours_13, nt_courts_14, nt_gateCount_15, nt_people_16, nt_lines_17, nt_falseHours_18, nt_strayers_19, nt_deep_20, nt_above_21, nt_doors_22, nt_degrees_23, nt_neighbours_24, nt_shows_25, nt_oneEnd_26, nt_otherEnd_27, nt_told_28, nt_strayParts_29, nt_strayCourts_30, cA_nt_above_31, f_nt_above_32, cA_nt_doors_33, f_nt_doors_34, cA_nt_degrees_35, f_nt_degrees_36, cA_nt_neighbours_37, f_nt_neighbours_38, cA_nt_shows_39, f_nt_shows_40, cA_nt_oneEnd_41, f_nt_oneEnd_42, cA_nt_otherEnd_43, f_nt_otherEnd_44, cA_nt_told_45, f_nt_told_46, cA_nt_strayParts_47, f_nt_strayParts_48, cA_nt_strayCourts_49, f_nt_strayCourts_50, b_n_rd_4, b_n_rd_5, b_n_rd_6, b_n_rd_7, b_n_rd_8, b_n_rd_kinds_9, b_n_rd_starts_10, b_n_rd_stops_11, b_n_rd_values_12, b_nt_hours_13, b_nt_courts_14, b_nt_gateCount_15, b_nt_people_16, b_nt_falseHours_18, b_nt_deep_20, b_f_nt_degrees_36, b_f_nt_neighbours_38, b_f_nt_oneEnd_42, b_f_nt_otherEnd_44, b_f_nt_told_46, b_f_nt_strayParts_48, b_f_nt_strayCourts_50, hf_51, hB⟩ := hB
  obtain ⟨hP, hD, hK⟩ := z_after3 (wn := (zV387 h0 tp h0_tapeLength h0_faultKind h0_faultPlace nw im sl rd wk fm mt ch dy nw nw_isKept tn nw_strayed nw_names nw_known nw_gone rd n_rd_2 n_rd_3 tp rd_kinds rd_starts rd_stops rd_values n_rd_4 n_rd_5 r_1 n_rd_6 n_rd_7 n_rd_8 rd_kinds cA_rd_kinds n_rd_kinds_9 rd_starts cA_rd_starts n_rd_starts_10 rd_stops cA_rd_stops n_rd_stops_11 rd_values cA_rd_values n_rd_values_12 tp cA_tp f_tp r_1 nt_hours_13 nt_courts_14 nt_gateCount_15 nt_people_16 nt_lines_17 nt_falseHours_18 nt_strayers_19 nt_deep_20 nt_above_21 nt_doors_22 nt_degrees_23 nt_neighbours_24 nt_shows_25 nt_oneEnd_26 nt_otherEnd_27 nt_told_28 nt_strayParts_29 nt_strayCourts_30 nt_above_21 cA_nt_above_31 f_nt_above_32 nt_doors_22 cA_nt_doors_33 f_nt_doors_34 nt_degrees_23 cA_nt_degrees_35 f_nt_degrees_36 nt_neighbours_24 cA_nt_neighbours_37 f_nt_neighbours_38 nt_shows_25 cA_nt_shows_39 f_nt_shows_40 nt_oneEnd_26 cA_nt_oneEnd_41 f_nt_oneEnd_42 nt_otherEnd_27 cA_nt_otherEnd_43 f_nt_otherEnd_44 nt_told_28 cA_nt_told_45 f_nt_told_46 nt_strayParts_29 cA_nt_strayParts_47 f_nt_strayParts_48 nt_strayCourts_30 cA_nt_strayCourts_49 f_nt_strayCourts_50)) hB ht hvm hP hD hK [3, 4, 5, 6, 7, 1] [0, 2] rfl 8 rfl (by decide +kernel) rfl (by decide +kernel) hk1 hFc
  generalize H1 = H at hP hS ⊢
  have hK : va_K (dC, dI) vwCl [(cA_tp, .byte), (cA_rd_kinds, .int), (cA_rd_starts, .int), (cA_rd_stops, .int), (cA_rd_values, .int), (cA_nt_above_31, .int), (cA_nt_doors_33, .int), (cA_nt_degrees_35, .int), (cA_nt_neighbours_37, .int), (cA_nt_shows_39, .int), (cA_nt_oneEnd_41, .int), (cA_nt_otherEnd_43, .int), (cA_nt_told_45, .int), (cA_nt_strayParts_47, .int), (cA_nt_strayCourts_49, .int)] s := hK
  refine W.widen (k := 11) (n := 690) (Nat.le_of_ble_eq_true rfl) (Nat.le_of_ble_eq_true rfl) ?_
  refine lv_astore_n (lv' := [(1, .ref r_1), (0, .ref h0)]) hx hb dX9_town_15 rfl hl (by decide) rfl (fun ls hl => ?_)
  refine lv_aload_n hx hb dX9_town_16 rfl (lv_at hl 1 rfl) ?_
  refine lv_iconst (v := 0) hx hb dX9_town_17 (by decide) ?_
  refine va_put (D := (dC, dI)) (ci := 9) (v := .int 0) (ty := .int) (C := RX9) (T := TX9) (N := 13) hx hb hts zl_X9 tyX9 tyX9_ok nmX9 hown hK hP hD hS 0 rfl rfl 1 (by decide) (hts _ zw_t2_190) (fun _ h9 => h9) rfl (by decide +kernel) rfl rfl (Nat.le_of_ble_eq_true rfl) dX9_town_18 (fun H locs hP hD hS => ?_)
  have hP : va_P (dC, dI) vwCl (zV388 h0 tp h0_faultKind h0_faultPlace nw im sl rd wk fm mt ch dy nw nw_isKept tn nw_strayed nw_names nw_known nw_gone rd n_rd_2 n_rd_3 tp rd_kinds rd_starts rd_stops rd_values n_rd_4 n_rd_5 r_1 n_rd_6 n_rd_7 n_rd_8 rd_kinds cA_rd_kinds n_rd_kinds_9 rd_starts cA_rd_starts n_rd_starts_10 rd_stops cA_rd_stops n_rd_stops_11 rd_values cA_rd_values n_rd_values_12 tp cA_tp f_tp r_1 nt_hours_13 nt_courts_14 nt_gateCount_15 nt_people_16 nt_lines_17 nt_falseHours_18 nt_strayers_19 nt_deep_20 nt_above_21 nt_doors_22 nt_degrees_23 nt_neighbours_24 nt_shows_25 nt_oneEnd_26 nt_otherEnd_27 nt_told_28 nt_strayParts_29 nt_strayCourts_30 nt_above_21 cA_nt_above_31 f_nt_above_32 nt_doors_22 cA_nt_doors_33 f_nt_doors_34 nt_degrees_23 cA_nt_degrees_35 f_nt_degrees_36 nt_neighbours_24 cA_nt_neighbours_37 f_nt_neighbours_38 nt_shows_25 cA_nt_shows_39 f_nt_shows_40 nt_oneEnd_26 cA_nt_oneEnd_41 f_nt_oneEnd_42 nt_otherEnd_27 cA_nt_otherEnd_43 f_nt_otherEnd_44 nt_told_28 cA_nt_told_45 f_nt_told_46 nt_strayParts_29 cA_nt_strayParts_47 f_nt_strayParts_48 nt_strayCourts_30 cA_nt_strayCourts_49 f_nt_strayCourts_50) H := hP
  have hD : va_D A (zV388 h0 tp h0_faultKind h0_faultPlace nw im sl rd wk fm mt ch dy nw nw_isKept tn nw_strayed nw_names nw_known nw_gone rd n_rd_2 n_rd_3 tp rd_kinds rd_starts rd_stops rd_values n_rd_4 n_rd_5 r_1 n_rd_6 n_rd_7 n_rd_8 rd_kinds cA_rd_kinds n_rd_kinds_9 rd_starts cA_rd_starts n_rd_starts_10 rd_stops cA_rd_stops n_rd_stops_11 rd_values cA_rd_values n_rd_values_12 tp cA_tp f_tp r_1 nt_hours_13 nt_courts_14 nt_gateCount_15 nt_people_16 nt_lines_17 nt_falseHours_18 nt_strayers_19 nt_deep_20 nt_above_21 nt_doors_22 nt_degrees_23 nt_neighbours_24 nt_shows_25 nt_oneEnd_26 nt_otherEnd_27 nt_told_28 nt_strayParts_29 nt_strayCourts_30 nt_above_21 cA_nt_above_31 f_nt_above_32 nt_doors_22 cA_nt_doors_33 f_nt_doors_34 nt_degrees_23 cA_nt_degrees_35 f_nt_degrees_36 nt_neighbours_24 cA_nt_neighbours_37 f_nt_neighbours_38 nt_shows_25 cA_nt_shows_39 f_nt_shows_40 nt_oneEnd_26 cA_nt_oneEnd_41 f_nt_oneEnd_42 nt_otherEnd_27 cA_nt_otherEnd_43 f_nt_otherEnd_44 nt_told_28 cA_nt_told_45 f_nt_told_46 nt_strayParts_29 cA_nt_strayParts_47 f_nt_strayParts_48 nt_strayCourts_30 cA_nt_strayCourts_49 f_nt_strayCourts_50) := hD
  refine lv_aload_n hx hb dX9_town_21 rfl (lv_at hl 1 rfl) ?_
  refine lv_aload_n hx hb dX9_town_22 rfl (lv_at hl 1 rfl) ?_
  refine va_get (D := (dC, dI)) (ci := 9) (v := .ref rd) (C := RX9) (T := TX9) (N := 13) hx hb hts zl_X9 hown hK hP 0 rfl rfl 7 (by decide) (hts _ zw_t2_196) (fun _ h9 => h9) rfl dX9_town_23 ?_
  refine va_get (D := (dC, dI)) (ci := 5) (v := .int n_rd_2) (C := RX5) (T := TX5) (N := 13) hx hb hts zl_X5 hown hK hP 2 rfl rfl 0 (by decide) (hts _ zw_t1_194) (fun _ h9 => h9) rfl dX9_town_26 ?_
  refine va_put (D := (dC, dI)) (ci := 9) (v := .int n_rd_2) (ty := .int) (C := RX9) (T := TX9) (N := 13) hx hb hts zl_X9 tyX9 tyX9_ok nmX9 hown hK hP hD hS 0 rfl rfl 2 (by decide) (hts _ zw_t2_191) (fun _ h9 => h9) rfl (by decide +kernel) rfl rfl (Nat.le_of_ble_eq_true rfl) dX9_town_29 (fun H locs hP hD hS => ?_)
  have hP : va_P (dC, dI) vwCl (zV388 h0 tp n_rd_2 h0_faultPlace nw im sl rd wk fm mt ch dy nw nw_isKept tn nw_strayed nw_names nw_known nw_gone rd n_rd_2 n_rd_3 tp rd_kinds rd_starts rd_stops rd_values n_rd_4 n_rd_5 r_1 n_rd_6 n_rd_7 n_rd_8 rd_kinds cA_rd_kinds n_rd_kinds_9 rd_starts cA_rd_starts n_rd_starts_10 rd_stops cA_rd_stops n_rd_stops_11 rd_values cA_rd_values n_rd_values_12 tp cA_tp f_tp r_1 nt_hours_13 nt_courts_14 nt_gateCount_15 nt_people_16 nt_lines_17 nt_falseHours_18 nt_strayers_19 nt_deep_20 nt_above_21 nt_doors_22 nt_degrees_23 nt_neighbours_24 nt_shows_25 nt_oneEnd_26 nt_otherEnd_27 nt_told_28 nt_strayParts_29 nt_strayCourts_30 nt_above_21 cA_nt_above_31 f_nt_above_32 nt_doors_22 cA_nt_doors_33 f_nt_doors_34 nt_degrees_23 cA_nt_degrees_35 f_nt_degrees_36 nt_neighbours_24 cA_nt_neighbours_37 f_nt_neighbours_38 nt_shows_25 cA_nt_shows_39 f_nt_shows_40 nt_oneEnd_26 cA_nt_oneEnd_41 f_nt_oneEnd_42 nt_otherEnd_27 cA_nt_otherEnd_43 f_nt_otherEnd_44 nt_told_28 cA_nt_told_45 f_nt_told_46 nt_strayParts_29 cA_nt_strayParts_47 f_nt_strayParts_48 nt_strayCourts_30 cA_nt_strayCourts_49 f_nt_strayCourts_50) H := hP
  have hD : va_D A (zV388 h0 tp n_rd_2 h0_faultPlace nw im sl rd wk fm mt ch dy nw nw_isKept tn nw_strayed nw_names nw_known nw_gone rd n_rd_2 n_rd_3 tp rd_kinds rd_starts rd_stops rd_values n_rd_4 n_rd_5 r_1 n_rd_6 n_rd_7 n_rd_8 rd_kinds cA_rd_kinds n_rd_kinds_9 rd_starts cA_rd_starts n_rd_starts_10 rd_stops cA_rd_stops n_rd_stops_11 rd_values cA_rd_values n_rd_values_12 tp cA_tp f_tp r_1 nt_hours_13 nt_courts_14 nt_gateCount_15 nt_people_16 nt_lines_17 nt_falseHours_18 nt_strayers_19 nt_deep_20 nt_above_21 nt_doors_22 nt_degrees_23 nt_neighbours_24 nt_shows_25 nt_oneEnd_26 nt_otherEnd_27 nt_told_28 nt_strayParts_29 nt_strayCourts_30 nt_above_21 cA_nt_above_31 f_nt_above_32 nt_doors_22 cA_nt_doors_33 f_nt_doors_34 nt_degrees_23 cA_nt_degrees_35 f_nt_degrees_36 nt_neighbours_24 cA_nt_neighbours_37 f_nt_neighbours_38 nt_shows_25 cA_nt_shows_39 f_nt_shows_40 nt_oneEnd_26 cA_nt_oneEnd_41 f_nt_oneEnd_42 nt_otherEnd_27 cA_nt_otherEnd_43 f_nt_otherEnd_44 nt_told_28 cA_nt_told_45 f_nt_told_46 nt_strayParts_29 cA_nt_strayParts_47 f_nt_strayParts_48 nt_strayCourts_30 cA_nt_strayCourts_49 f_nt_strayCourts_50) := hD
  refine lv_aload_n hx hb dX9_town_32 rfl (lv_at hl 1 rfl) ?_
  refine lv_aload_n hx hb dX9_town_33 rfl (lv_at hl 1 rfl) ?_
  refine va_get (D := (dC, dI)) (ci := 9) (v := .ref rd) (C := RX9) (T := TX9) (N := 13) hx hb hts zl_X9 hown hK hP 0 rfl rfl 7 (by decide) (hts _ zw_t2_196) (fun _ h9 => h9) rfl dX9_town_34 ?_
  refine va_get (D := (dC, dI)) (ci := 5) (v := .int n_rd_3) (C := RX5) (T := TX5) (N := 13) hx hb hts zl_X5 hown hK hP 2 rfl rfl 1 (by decide) (hts _ zw_t1_196) (fun _ h9 => h9) rfl dX9_town_37 ?_
  refine va_put (D := (dC, dI)) (ci := 9) (v := .int n_rd_3) (ty := .int) (C := RX9) (T := TX9) (N := 13) hx hb hts zl_X9 tyX9 tyX9_ok nmX9 hown hK hP hD hS 0 rfl rfl 3 (by decide) (hts _ zw_t2_192) (fun _ h9 => h9) rfl (by decide +kernel) rfl rfl (Nat.le_of_ble_eq_true rfl) dX9_town_40 (fun H locs hP hD hS => ?_)
  have hP : va_P (dC, dI) vwCl (zV388 h0 tp n_rd_2 n_rd_3 nw im sl rd wk fm mt ch dy nw nw_isKept tn nw_strayed nw_names nw_known nw_gone rd n_rd_2 n_rd_3 tp rd_kinds rd_starts rd_stops rd_values n_rd_4 n_rd_5 r_1 n_rd_6 n_rd_7 n_rd_8 rd_kinds cA_rd_kinds n_rd_kinds_9 rd_starts cA_rd_starts n_rd_starts_10 rd_stops cA_rd_stops n_rd_stops_11 rd_values cA_rd_values n_rd_values_12 tp cA_tp f_tp r_1 nt_hours_13 nt_courts_14 nt_gateCount_15 nt_people_16 nt_lines_17 nt_falseHours_18 nt_strayers_19 nt_deep_20 nt_above_21 nt_doors_22 nt_degrees_23 nt_neighbours_24 nt_shows_25 nt_oneEnd_26 nt_otherEnd_27 nt_told_28 nt_strayParts_29 nt_strayCourts_30 nt_above_21 cA_nt_above_31 f_nt_above_32 nt_doors_22 cA_nt_doors_33 f_nt_doors_34 nt_degrees_23 cA_nt_degrees_35 f_nt_degrees_36 nt_neighbours_24 cA_nt_neighbours_37 f_nt_neighbours_38 nt_shows_25 cA_nt_shows_39 f_nt_shows_40 nt_oneEnd_26 cA_nt_oneEnd_41 f_nt_oneEnd_42 nt_otherEnd_27 cA_nt_otherEnd_43 f_nt_otherEnd_44 nt_told_28 cA_nt_told_45 f_nt_told_46 nt_strayParts_29 cA_nt_strayParts_47 f_nt_strayParts_48 nt_strayCourts_30 cA_nt_strayCourts_49 f_nt_strayCourts_50) H := hP
  have hD : va_D A (zV388 h0 tp n_rd_2 n_rd_3 nw im sl rd wk fm mt ch dy nw nw_isKept tn nw_strayed nw_names nw_known nw_gone rd n_rd_2 n_rd_3 tp rd_kinds rd_starts rd_stops rd_values n_rd_4 n_rd_5 r_1 n_rd_6 n_rd_7 n_rd_8 rd_kinds cA_rd_kinds n_rd_kinds_9 rd_starts cA_rd_starts n_rd_starts_10 rd_stops cA_rd_stops n_rd_stops_11 rd_values cA_rd_values n_rd_values_12 tp cA_tp f_tp r_1 nt_hours_13 nt_courts_14 nt_gateCount_15 nt_people_16 nt_lines_17 nt_falseHours_18 nt_strayers_19 nt_deep_20 nt_above_21 nt_doors_22 nt_degrees_23 nt_neighbours_24 nt_shows_25 nt_oneEnd_26 nt_otherEnd_27 nt_told_28 nt_strayParts_29 nt_strayCourts_30 nt_above_21 cA_nt_above_31 f_nt_above_32 nt_doors_22 cA_nt_doors_33 f_nt_doors_34 nt_degrees_23 cA_nt_degrees_35 f_nt_degrees_36 nt_neighbours_24 cA_nt_neighbours_37 f_nt_neighbours_38 nt_shows_25 cA_nt_shows_39 f_nt_shows_40 nt_oneEnd_26 cA_nt_oneEnd_41 f_nt_oneEnd_42 nt_otherEnd_27 cA_nt_otherEnd_43 f_nt_otherEnd_44 nt_told_28 cA_nt_told_45 f_nt_told_46 nt_strayParts_29 cA_nt_strayParts_47 f_nt_strayParts_48 nt_strayCourts_30 cA_nt_strayCourts_49 f_nt_strayCourts_50) := hD
  refine lv_aload_n hx hb dX9_town_43 rfl (lv_at hl 1 rfl) ?_
  refine va_get (D := (dC, dI)) (ci := 9) (v := .int n_rd_2) (C := RX9) (T := TX9) (N := 13) hx hb hts zl_X9 hown hK hP 0 rfl rfl 2 (by decide) (hts _ zw_t2_191) (fun _ h9 => h9) rfl dX9_town_44 ?_
  have nb_n_rd_2 := zi_nb n_rd_2
  refine lv_if_eq (tgt := 53) hx hb dX9_town_47 (by decide) (fun c_52 => ?_) (fun c_52 => ?_)
  · have ic_52 := zz_eq rfl (show Int32.toInt 0 = 0 from by decide) c_52
    refine lv_aload_n hx hb dX9_town_53 rfl (lv_at hl 1 rfl) ?_
    refine va_get (D := (dC, dI)) (ci := 9) (v := .ref nw) (C := RX9) (T := TX9) (N := 13) hx hb hts zl_X9 hown hK hP 0 rfl rfl 4 (by decide) (hts _ zw_t2_193) (fun _ h9 => h9) rfl dX9_town_54 ?_
    refine lv_aload_n hx hb dX9_town_57 rfl (lv_at hl 0 rfl) ?_
    obtain ⟨hPc, hDc, hFc⟩ := z_cut (wc := (zV11 nw nw_isKept tn nw_strayed nw_names nw_known nw_gone)) hP hD hS hA [1] rfl (by decide +kernel)
    have hKc := hK.sub (tys' := []) [] rfl
    refine va_callv (va_runV (As := [.ref r_1]) (rest := []) ⟨hx, hb, hml, hown, hts⟩ (k_X3_settle l sa dC dI nw r_1 nw_isKept tn nw_strayed nw_names nw_known nw_gone b_nw_isKept b_nw_names H.size) (cwV 1 hts (z_gV zw_t3_157 zw_t3_158 zw_t3_159 zw_t1_2 zw_t3_160) rfl rfl rfl (by decide +kernel) (by rw [← hRe]; exact ⟨(Nat.le_of_ble_eq_true rfl), (Nat.le_of_ble_eq_true rfl)⟩)) (z_preV hPc hKc hDc hN hXs hS hFc (q := (RX3, TX3, 6)) (ci := 3) (q0 := 0) rfl rfl) rfl rfl hl.1 rfl (lv_room (Nat.le_of_ble_eq_true rfl)) dX9_town_58 (by rw [← hRe]; exact ⟨(Nat.le_of_ble_eq_true rfl), (Nat.le_of_ble_eq_true rfl)⟩)) hS (fun q _ h => hFc q h) hFc (fun u t H1 locs ht hvm hw hB hz1 hk1 hS => ?_)
    obtain ⟨n_nw_54, n_nw_55, n_nw_56, n_nw_57, b_n_nw_55, hB⟩ := hB
    obtain ⟨hP, hD, hK⟩ := z_after3 (wn := (zV389 h0 tp n_rd_2 n_rd_3 nw im sl rd wk fm mt ch dy rd n_rd_2 n_rd_3 tp rd_kinds rd_starts rd_stops rd_values n_rd_4 n_rd_5 r_1 n_rd_6 n_rd_7 n_rd_8 rd_kinds cA_rd_kinds n_rd_kinds_9 rd_starts cA_rd_starts n_rd_starts_10 rd_stops cA_rd_stops n_rd_stops_11 rd_values cA_rd_values n_rd_values_12 tp cA_tp f_tp r_1 nt_hours_13 nt_courts_14 nt_gateCount_15 nt_people_16 nt_lines_17 nt_falseHours_18 nt_strayers_19 nt_deep_20 nt_above_21 nt_doors_22 nt_degrees_23 nt_neighbours_24 nt_shows_25 nt_oneEnd_26 nt_otherEnd_27 nt_told_28 nt_strayParts_29 nt_strayCourts_30 nt_above_21 cA_nt_above_31 f_nt_above_32 nt_doors_22 cA_nt_doors_33 f_nt_doors_34 nt_degrees_23 cA_nt_degrees_35 f_nt_degrees_36 nt_neighbours_24 cA_nt_neighbours_37 f_nt_neighbours_38 nt_shows_25 cA_nt_shows_39 f_nt_shows_40 nt_oneEnd_26 cA_nt_oneEnd_41 f_nt_oneEnd_42 nt_otherEnd_27 cA_nt_otherEnd_43 f_nt_otherEnd_44 nt_told_28 cA_nt_told_45 f_nt_told_46 nt_strayParts_29 cA_nt_strayParts_47 f_nt_strayParts_48 nt_strayCourts_30 cA_nt_strayCourts_49 f_nt_strayCourts_50 nw nw_isKept r_1 n_nw_54 n_nw_55 n_nw_56 n_nw_57)) hB ht hvm hP hD hK [1] [0, 2, 3, 4, 5, 6, 7, 8, 9, 10, 11, 12, 13, 14, 15, 16, 17, 18] rfl 19 rfl (by decide +kernel) rfl (by decide +kernel) hk1 hFc
    generalize H1 = H at hP hS ⊢
    have hK : va_K (dC, dI) vwCl [(cA_tp, .byte), (cA_rd_kinds, .int), (cA_rd_starts, .int), (cA_rd_stops, .int), (cA_rd_values, .int), (cA_nt_above_31, .int), (cA_nt_doors_33, .int), (cA_nt_degrees_35, .int), (cA_nt_neighbours_37, .int), (cA_nt_shows_39, .int), (cA_nt_oneEnd_41, .int), (cA_nt_otherEnd_43, .int), (cA_nt_told_45, .int), (cA_nt_strayParts_47, .int), (cA_nt_strayCourts_49, .int)] s := hK
    refine lv_aload_n hx hb dX9_town_61 rfl (lv_at hl 0 rfl) ?_
    refine va_get (D := (dC, dI)) (ci := 7) (v := .int nt_lines_17) (C := RX7) (T := TX7) (N := 18) hx hb hts zl_X7 hown hK hP 7 rfl rfl 4 (by decide) (hts _ zw_t1_66) (fun _ h9 => h9) rfl dX9_town_62 ?_
    have zq_0 : Int32.toInt 0 = 0 := by decide
    exact W.iret (v := nt_lines_17) hx hb hr (fun t ht hW => by rw [← hQe]; exact ⟨⟨nt_lines_17, (), rfl, trivial, ⟨(0), n_rd_2, n_rd_3, r_1, n_nw_54, n_nw_55, n_nw_56, n_nw_57, n_rd_2, n_rd_3, n_rd_4, n_rd_5, n_rd_6, n_rd_7, n_rd_8, n_rd_kinds_9, n_rd_starts_10, n_rd_stops_11, n_rd_values_12, r_1, nt_hours_13, nt_courts_14, nt_gateCount_15, nt_people_16, nt_lines_17, nt_falseHours_18, nt_strayers_19, nt_deep_20, nt_above_21, nt_doors_22, nt_degrees_23, nt_neighbours_24, nt_shows_25, nt_oneEnd_26, nt_otherEnd_27, nt_told_28, nt_strayParts_29, nt_strayCourts_30, cA_nt_above_31, f_nt_above_32, cA_nt_doors_33, f_nt_doors_34, cA_nt_degrees_35, f_nt_degrees_36, cA_nt_neighbours_37, f_nt_neighbours_38, cA_nt_shows_39, f_nt_shows_40, cA_nt_oneEnd_41, f_nt_oneEnd_42, cA_nt_otherEnd_43, f_nt_otherEnd_44, cA_nt_told_45, f_nt_told_46, cA_nt_strayParts_47, f_nt_strayParts_48, cA_nt_strayCourts_49, f_nt_strayCourts_50, (by decide), (by first | with_reducible assumption | omega), (by first | with_reducible assumption | omega), (by first | with_reducible assumption | omega), (by first | with_reducible assumption | omega), (by first | with_reducible assumption | omega), (by first | with_reducible assumption | omega), b_n_rd_kinds_9, b_n_rd_starts_10, b_n_rd_stops_11, b_n_rd_values_12, (by first | with_reducible assumption | omega), (by first | with_reducible assumption | omega), (by first | with_reducible assumption | omega), (by first | with_reducible assumption | omega), (by first | with_reducible assumption | omega), (by first | with_reducible assumption | omega), b_f_nt_degrees_36, b_f_nt_neighbours_38, b_f_nt_oneEnd_42, b_f_nt_otherEnd_44, b_f_nt_told_46, b_f_nt_strayParts_48, b_f_nt_strayCourts_50, (by first | omega | assumption), (by first | omega | assumption), (by first | omega | assumption), z_ret hP hK hD ht hW [0, 6, 18, 1, 2, 3, 4, 5, 7, 8, 9, 10, 11, 12, 13, 14, 15, 16, 17] [5, 6, 7, 8, 9, 10, 11, 12, 13, 14] rfl (by decide) rfl⟩⟩, hS.F ht⟩) hS.2.2 dX9_town_65
  · have ic_52 := zz_neq rfl (show Int32.toInt 0 = 0 from by decide) c_52
    refine lv_bipush (v := (-4)) hx hb dX9_town_50 (by decide) ?_
    have zq_0 : Int32.toInt 0 = 0 := by decide
    exact W.iret (v := (-4)) hx hb hr (fun t ht hW => by rw [← hQe]; exact ⟨⟨(-4), (), rfl, trivial, ⟨(0), n_rd_2, n_rd_3, tn, nw_strayed, nw_names, nw_known, nw_gone, n_rd_2, n_rd_3, n_rd_4, n_rd_5, n_rd_6, n_rd_7, n_rd_8, n_rd_kinds_9, n_rd_starts_10, n_rd_stops_11, n_rd_values_12, r_1, nt_hours_13, nt_courts_14, nt_gateCount_15, nt_people_16, nt_lines_17, nt_falseHours_18, nt_strayers_19, nt_deep_20, nt_above_21, nt_doors_22, nt_degrees_23, nt_neighbours_24, nt_shows_25, nt_oneEnd_26, nt_otherEnd_27, nt_told_28, nt_strayParts_29, nt_strayCourts_30, cA_nt_above_31, f_nt_above_32, cA_nt_doors_33, f_nt_doors_34, cA_nt_degrees_35, f_nt_degrees_36, cA_nt_neighbours_37, f_nt_neighbours_38, cA_nt_shows_39, f_nt_shows_40, cA_nt_oneEnd_41, f_nt_oneEnd_42, cA_nt_otherEnd_43, f_nt_otherEnd_44, cA_nt_told_45, f_nt_told_46, cA_nt_strayParts_47, f_nt_strayParts_48, cA_nt_strayCourts_49, f_nt_strayCourts_50, (by decide), (by first | with_reducible assumption | omega), (by first | with_reducible assumption | omega), (by first | with_reducible assumption | omega), (by first | with_reducible assumption | omega), (by first | with_reducible assumption | omega), (by first | with_reducible assumption | omega), b_n_rd_kinds_9, b_n_rd_starts_10, b_n_rd_stops_11, b_n_rd_values_12, (by first | with_reducible assumption | omega), (by first | with_reducible assumption | omega), (by first | with_reducible assumption | omega), (by first | with_reducible assumption | omega), (by first | with_reducible assumption | omega), (by first | with_reducible assumption | omega), b_f_nt_degrees_36, b_f_nt_neighbours_38, b_f_nt_oneEnd_42, b_f_nt_otherEnd_44, b_f_nt_told_46, b_f_nt_strayParts_48, b_f_nt_strayCourts_50, (by first | omega | assumption), (by first | omega | assumption), (by first | omega | assumption), z_ret hP hK hD ht hW [0, 7, 1, 2, 3, 4, 5, 6, 8, 9, 10, 11, 12, 13, 14, 15, 16, 17, 18] [5, 6, 7, 8, 9, 10, 11, 12, 13, 14] rfl (by decide) rfl⟩⟩, hS.F ht⟩) hS.2.2 dX9_town_52
set_option maxHeartbeats 4000000 in
set_option maxRecDepth 100000 in
theorem k_X9_keep_v2 (l : Launch) (sa : Nat → Nat) (dC : Nat → ClassId) (dI : Nat → Nat → Nat) (h0 : Nat) (p1 : Int32) (tp : Nat) (h0_tapeLength : Int32) (h0_faultKind : Int32) (h0_faultPlace : Int32) (nw : Nat) (im : Nat) (sl : Nat) (rd : Nat) (wk : Nat) (fm : Nat) (mt : Nat) (ch : Nat) (dy : Nat) (cA_im : ClassId) (f_im : Nat → Option Nat) (i0 : Nat) (i1 : Nat) (i2 : Nat) (nw_isKept : Int32) (tn : Nat) (nw_strayed : Int32) (nw_names : Int32) (nw_known : Int32) (nw_gone : Int32) (i0_isKept : Int32) (it0 : Nat) (i0_strayed : Int32) (i0_names : Int32) (i0_known : Int32) (i0_gone : Int32) (i1_isKept : Int32) (it1 : Nat) (i1_strayed : Int32) (i1_names : Int32) (i1_known : Int32) (i1_gone : Int32) (i2_isKept : Int32) (it2 : Nat) (i2_strayed : Int32) (i2_names : Int32) (i2_known : Int32) (i2_gone : Int32) (b_h0_tapeLength : 0 ≤ h0_tapeLength.toInt ∧ h0_tapeLength.toInt ≤ 1600) (him0 : f_im 0 = some i0) (him1 : f_im 1 = some i1) (him2 : f_im 2 = some i2) (b_nw_isKept : 0 ≤ nw_isKept.toInt ∧ nw_isKept.toInt ≤ 1) (b_nw_names : 0 ≤ nw_names.toInt ∧ nw_names.toInt ≤ 1023) (b_i0_isKept : 0 ≤ i0_isKept.toInt ∧ i0_isKept.toInt ≤ 1) (b_i0_names : 0 ≤ i0_names.toInt ∧ i0_names.toInt ≤ 1023) (b_i1_isKept : 0 ≤ i1_isKept.toInt ∧ i1_isKept.toInt ≤ 1) (b_i1_names : 0 ≤ i1_names.toInt ∧ i1_names.toInt ≤ 1023) (b_i2_isKept : 0 ≤ i2_isKept.toInt ∧ i2_isKept.toInt ≤ 1) (b_i2_names : 0 ≤ i2_names.toInt ∧ i2_names.toInt ≤ 1023) (sz : Nat) : Met l yX9_keep (.code yX9_keep cX9_keep 2 (some .int) :: zT) ({ frames := 1, cells := 0, slots := 0, locals := 21 }) (va_Pc [.ref h0, .int p1] (zB sa dC dI (zV164 h0 tp h0_tapeLength h0_faultKind h0_faultPlace nw im sl rd wk fm mt ch dy im cA_im f_im nw nw_isKept tn nw_strayed nw_names nw_known nw_gone i0 i0_isKept it0 i0_strayed i0_names i0_known i0_gone i1 i1_isKept it1 i1_strayed i1_names i1_known i1_gone i2 i2_isKept it2 i2_strayed i2_names i2_known i2_gone) [(cA_im, .object RX3)] sz)) (va_Qi (fun (r : Int32) (_ : Unit) => ((-2) ≤ r.toInt ∧ r.toInt ≤ 0) ∧ ((r.toInt = -2 ∧ (p1.toInt < 0 ∨ 2 < p1.toInt)) ∨ (r.toInt = 0 ∧ 0 ≤ p1.toInt ∧ p1.toInt ≤ 2))) (fun _ t => ∃ (n_i0_0 : Int32) (n_i0_1 : Nat) (n_i0_2 : Int32) (n_i0_3 : Int32) (n_i0_4 : Int32) (n_i0_5 : Int32) (n_i1_0 : Int32) (n_i1_1 : Nat) (n_i1_2 : Int32) (n_i1_3 : Int32) (n_i1_4 : Int32) (n_i1_5 : Int32) (n_i2_0 : Int32) (n_i2_1 : Nat) (n_i2_2 : Int32) (n_i2_3 : Int32) (n_i2_4 : Int32) (n_i2_5 : Int32), (0 ≤ n_i0_0.toInt ∧ n_i0_0.toInt ≤ 1) ∧ (0 ≤ n_i0_3.toInt ∧ n_i0_3.toInt ≤ 1023) ∧ (0 ≤ n_i1_0.toInt ∧ n_i1_0.toInt ≤ 1) ∧ (0 ≤ n_i1_3.toInt ∧ n_i1_3.toInt ≤ 1023) ∧ (0 ≤ n_i2_0.toInt ∧ n_i2_0.toInt ≤ 1) ∧ (0 ≤ n_i2_3.toInt ∧ n_i2_3.toInt ≤ 1023) ∧ (n_i0_1 = it0 ∨ n_i0_1 = tn) ∧ (n_i1_1 = it1 ∨ n_i1_1 = tn) ∧ (n_i2_1 = it2 ∨ n_i2_1 = tn) ∧ ((p1.toInt = 0 ∧ n_i0_0.toInt = 1) ∨ (¬ p1.toInt = 0 ∧ n_i0_0.toInt = i0_isKept.toInt)) ∧ ((p1.toInt = 1 ∧ n_i1_0.toInt = 1) ∨ (¬ p1.toInt = 1 ∧ n_i1_0.toInt = i1_isKept.toInt)) ∧ ((p1.toInt = 2 ∧ n_i2_0.toInt = 1) ∨ (¬ p1.toInt = 2 ∧ n_i2_0.toInt = i2_isKept.toInt)) ∧ zW dC dI (zV164 h0 tp h0_tapeLength h0_faultKind h0_faultPlace nw im sl rd wk fm mt ch dy im cA_im f_im nw nw_isKept tn nw_strayed nw_names nw_known nw_gone i0 n_i0_0 n_i0_1 n_i0_2 n_i0_3 n_i0_4 n_i0_5 i1 n_i1_0 n_i1_1 n_i1_2 n_i1_3 n_i1_4 n_i1_5 i2 n_i2_0 n_i2_1 n_i2_2 n_i2_3 n_i2_4 n_i2_5) [] (va_A (zV164 h0 tp h0_tapeLength h0_faultKind h0_faultPlace nw im sl rd wk fm mt ch dy im cA_im f_im nw nw_isKept tn nw_strayed nw_names nw_known nw_gone i0 i0_isKept it0 i0_strayed i0_names i0_known i0_gone i1 i1_isKept it1 i1_strayed i1_names i1_known i1_gone i2 i2_isKept it2 i2_strayed i2_names i2_known i2_gone) sz) t) (va_A (zV164 h0 tp h0_tapeLength h0_faultKind h0_faultPlace nw im sl rd wk fm mt ch dy im cA_im f_im nw nw_isKept tn nw_strayed nw_names nw_known nw_gone i0 i0_isKept it0 i0_strayed i0_names i0_known i0_gone i1 i1_isKept it1 i1_strayed i1_names i1_known i1_gone i2 i2_isKept it2 i2_strayed i2_names i2_known i2_gone) sz)) 0 0 (va_A (zV164 h0 tp h0_tapeLength h0_faultKind h0_faultPlace nw im sl rd wk fm mt ch dy im cA_im f_im nw nw_isKept tn nw_strayed nw_names nw_known nw_gone i0 i0_isKept it0 i0_strayed i0_names i0_known i0_gone i1 i1_isKept it1 i1_strayed i1_names i1_known i1_gone i2 i2_isKept it2 i2_strayed i2_names i2_known i2_gone) sz) := by
  refine z_enter (by decide) (by exact (Nat.le_of_ble_eq_true rfl)) ?_
  intro p e s m args below meth c ls A R Qc hargs hsz hQe hAe hRe hx hb hml hr hts hown hlocks hin hl hP hK hD hN hXs hA hS
  rw [hAe] at hQe
  have hown : s.vm.findClass RX9 = some m.cls := hown
  have hl : lv_has ls 2 [(0, .ref h0), (1, .int p1)] := hl
  refine lv_iload_n hx hb dX9_keep_0 rfl (lv_at hl 1 rfl) ?_
  obtain ⟨hPc, hDc, hFc⟩ := z_cut (wc := []) hP hD hS hA [] rfl (by decide +kernel)
  have hKc := hK.sub (tys' := []) [] rfl
  refine va_calli (va_runS (As := [.int p1]) (rest := []) ⟨hx, hb, hml, hown, hts⟩ (k_X9_isImage_v2 l sa dC dI p1 s.heap.size) (va_cwS 1 hts (z_gS zw_t6_56 zw_t6_57 zw_t1_1 zw_t6_58) rfl rfl rfl (by decide +kernel) (by rw [← hRe]; exact ⟨(Nat.le_of_ble_eq_true rfl), (Nat.le_of_ble_eq_true rfl)⟩)) (z_preS hPc hKc hDc hN hXs hS hFc) rfl rfl hl.1 rfl (lv_room (Nat.le_of_ble_eq_true rfl)) dX9_keep_1 (by rw [← hRe]; exact ⟨(Nat.le_of_ble_eq_true rfl), (Nat.le_of_ble_eq_true rfl)⟩)) hS (fun q _ h => hFc q h) hFc (fun r_1 u t H1 locs ht hvm hw hB hz1 hk1 hS => ?_)
  obtain ⟨hP, hD, hK⟩ := z_after3 (wn := (zV164 h0 tp h0_tapeLength h0_faultKind h0_faultPlace nw im sl rd wk fm mt ch dy im cA_im f_im nw nw_isKept tn nw_strayed nw_names nw_known nw_gone i0 i0_isKept it0 i0_strayed i0_names i0_known i0_gone i1 i1_isKept it1 i1_strayed i1_names i1_known i1_gone i2 i2_isKept it2 i2_strayed i2_names i2_known i2_gone)) hB ht hvm hP hD hK [] [0, 1, 2, 3, 4, 5] rfl 6 rfl (by decide +kernel) rfl (by decide +kernel) hk1 hFc
  generalize H1 = H at hP hS ⊢
  have hK : va_K (dC, dI) vwCl [(cA_im, .object RX3)] s := hK
  have b_r_1 : 0 ≤ r_1.toInt ∧ r_1.toInt ≤ 1 := hw.1
  have s_r_1 := hw.2
  refine lv_if_ne (tgt := 10) hx hb dX9_keep_4 (by decide) (fun c_2 => ?_) (fun c_2 => ?_)
  · have ic_2 := zz_ne rfl (show Int32.toInt 0 = 0 from by decide) c_2
    refine lv_aload_n hx hb dX9_keep_10 rfl (lv_at hl 0 rfl) ?_
    refine va_get (D := (dC, dI)) (ci := 9) (v := .ref im) (C := RX9) (T := TX9) (N := 13) hx hb hts zl_X9 hown hK hP 0 rfl rfl 5 (by decide) (hts _ zw_t2_194) (fun _ h9 => h9) rfl dX9_keep_11 ?_
    refine lv_iload_n hx hb dX9_keep_14 rfl (lv_at hl 1 rfl) ?_
    rcases z_s2 p1 with q_sw | rfl | rfl | rfl | q_sw
    · omega
    · have zc_0 : Int32.toInt 0 = 0 := by decide
      refine va_aldq hx hb hK hP 1 0 rfl rfl (zi_in (show Int32.toInt 0 = 0 from by decide) (by first | with_reducible assumption | omega)) dX9_keep_15 ?_
      refine W.eq (g2 := F0 m 16 ls (.ref i0 :: [])) (by rw [show f_im (Int32.toNatClampNeg 0) = some i0 from (by rw [show Int32.toNatClampNeg 0 = 0 from by decide]; exact him0)]; rfl) ?_
      refine lv_aload_n hx hb dX9_keep_16 rfl (lv_at hl 0 rfl) ?_
      refine va_get (D := (dC, dI)) (ci := 9) (v := .ref nw) (C := RX9) (T := TX9) (N := 13) hx hb hts zl_X9 hown hK hP 0 rfl rfl 4 (by decide) (hts _ zw_t2_193) (fun _ h9 => h9) rfl dX9_keep_17 ?_
      obtain ⟨hPc, hDc, hFc⟩ := z_cut (wc := (zV16 i0 i0_isKept it0 i0_strayed i0_names i0_known i0_gone nw nw_isKept tn nw_strayed nw_names nw_known nw_gone)) hP hD hS hA [3, 2] rfl (by decide +kernel)
      have hKc := hK.sub (tys' := []) [] rfl
      refine va_callv (va_runV (As := [.ref nw]) (rest := []) ⟨hx, hb, hml, hown, hts⟩ (k_X3_take l sa dC dI i0 nw i0_isKept it0 i0_strayed i0_names i0_known i0_gone nw_isKept tn nw_strayed nw_names nw_known nw_gone b_i0_isKept b_i0_names b_nw_isKept b_nw_names H.size) (cwV 1 hts (z_gV zw_t6_59 zw_t6_60 zw_t6_61 zw_t1_2 zw_t6_62) rfl rfl rfl (by decide +kernel) (by rw [← hRe]; exact ⟨(Nat.le_of_ble_eq_true rfl), (Nat.le_of_ble_eq_true rfl)⟩)) (z_preV hPc hKc hDc hN hXs hS hFc (q := (RX3, TX3, 6)) (ci := 3) (q0 := 0) rfl rfl) rfl rfl hl.1 rfl (lv_room (Nat.le_of_ble_eq_true rfl)) dX9_keep_20 (by rw [← hRe]; exact ⟨(Nat.le_of_ble_eq_true rfl), (Nat.le_of_ble_eq_true rfl)⟩)) hS (fun q _ h => hFc q h) hFc (fun u t H1 locs ht hvm hw hB hz1 hk1 hS => ?_)
      obtain ⟨n_nw_4, n_nw_5, n_nw_6, n_nw_7, b_n_nw_5, hB⟩ := hB
      obtain ⟨hP, hD, hK⟩ := z_after3 (wn := (zV164 h0 tp h0_tapeLength h0_faultKind h0_faultPlace nw im sl rd wk fm mt ch dy im cA_im f_im i1 i1_isKept it1 i1_strayed i1_names i1_known i1_gone i2 i2_isKept it2 i2_strayed i2_names i2_known i2_gone i0 i0_isKept tn n_nw_4 n_nw_5 n_nw_6 n_nw_7 nw nw_isKept tn nw_strayed nw_names nw_known nw_gone)) hB ht hvm hP hD hK [3, 2] [0, 1, 4, 5] rfl 6 rfl (by decide +kernel) rfl (by decide +kernel) hk1 hFc
      generalize H1 = H at hP hS ⊢
      have hK : va_K (dC, dI) vwCl [(cA_im, .object RX3)] s := hK
      refine lv_aload_n hx hb dX9_keep_23 rfl (lv_at hl 0 rfl) ?_
      refine va_get (D := (dC, dI)) (ci := 9) (v := .ref im) (C := RX9) (T := TX9) (N := 13) hx hb hts zl_X9 hown hK hP 0 rfl rfl 5 (by decide) (hts _ zw_t2_194) (fun _ h9 => h9) rfl dX9_keep_24 ?_
      refine lv_iload_n hx hb dX9_keep_27 rfl (lv_at hl 1 rfl) ?_
      refine va_aldq hx hb hK hP 1 0 rfl rfl (zi_in (show Int32.toInt 0 = 0 from by decide) (by first | with_reducible assumption | omega)) dX9_keep_28 ?_
      refine W.eq (g2 := F0 m 29 ls (.ref i0 :: [])) (by rw [show f_im (Int32.toNatClampNeg 0) = some i0 from (by rw [show Int32.toNatClampNeg 0 = 0 from by decide]; exact him0)]; rfl) ?_
      refine lv_iconst (v := 1) hx hb dX9_keep_29 (by decide) ?_
      refine va_put (D := (dC, dI)) (ci := 3) (v := .int 1) (ty := .boolean) (C := RX3) (T := TX3) (N := 6) hx hb hts zl_X3 tyX3 tyX3_ok nmX3 hown hK hP hD hS 4 rfl rfl 0 (by decide) (hts _ zw_t1_152) (fun _ h9 => h9) rfl (by decide +kernel) (by decide) (by decide) (Nat.le_of_ble_eq_true rfl) dX9_keep_30 (fun H locs hP hD hS => ?_)
      have hP : va_P (dC, dI) vwCl (zV165 h0 tp h0_tapeLength h0_faultKind h0_faultPlace nw im sl rd wk fm mt ch dy im cA_im f_im i1 i1_isKept it1 i1_strayed i1_names i1_known i1_gone i2 i2_isKept it2 i2_strayed i2_names i2_known i2_gone i0 tn n_nw_4 n_nw_5 n_nw_6 n_nw_7 nw nw_isKept tn nw_strayed nw_names nw_known nw_gone) H := hP
      have hD : va_D A (zV165 h0 tp h0_tapeLength h0_faultKind h0_faultPlace nw im sl rd wk fm mt ch dy im cA_im f_im i1 i1_isKept it1 i1_strayed i1_names i1_known i1_gone i2 i2_isKept it2 i2_strayed i2_names i2_known i2_gone i0 tn n_nw_4 n_nw_5 n_nw_6 n_nw_7 nw nw_isKept tn nw_strayed nw_names nw_known nw_gone) := hD
      refine lv_iconst (v := 0) hx hb dX9_keep_33 (by decide) ?_
      have zq_1 : Int32.toInt 1 = 1 := by decide
      have zc : Int32.toInt 0 = 0 := by decide
      exact W.iret (v := 0) hx hb hr (fun t ht hW => by rw [← hQe]; exact ⟨⟨0, (), rfl, (by first | with_reducible assumption | omega), ⟨(1), tn, n_nw_4, n_nw_5, n_nw_6, n_nw_7, i1_isKept, it1, i1_strayed, i1_names, i1_known, i1_gone, i2_isKept, it2, i2_strayed, i2_names, i2_known, i2_gone, (by decide), (by first | with_reducible assumption | omega), (by first | with_reducible assumption | omega), (by first | with_reducible assumption | omega), (by first | with_reducible assumption | omega), (by first | with_reducible assumption | omega), (by first | omega | assumption), (by first | omega | assumption), (by first | omega | assumption), (by first | omega | assumption), (by first | omega | assumption), (by first | omega | assumption), z_ret hP hK hD ht hW [0, 1, 5, 4, 2, 3] [] rfl (by decide) rfl⟩⟩, hS.F ht⟩) hS.2.2 dX9_keep_34
    · have zc_1 : Int32.toInt 1 = 1 := by decide
      refine va_aldq hx hb hK hP 1 0 rfl rfl (zi_in (show Int32.toInt 1 = 1 from by decide) (by first | with_reducible assumption | omega)) dX9_keep_15 ?_
      refine W.eq (g2 := F0 m 16 ls (.ref i1 :: [])) (by rw [show f_im (Int32.toNatClampNeg 1) = some i1 from (by rw [show Int32.toNatClampNeg 1 = 1 from by decide]; exact him1)]; rfl) ?_
      refine lv_aload_n hx hb dX9_keep_16 rfl (lv_at hl 0 rfl) ?_
      refine va_get (D := (dC, dI)) (ci := 9) (v := .ref nw) (C := RX9) (T := TX9) (N := 13) hx hb hts zl_X9 hown hK hP 0 rfl rfl 4 (by decide) (hts _ zw_t2_193) (fun _ h9 => h9) rfl dX9_keep_17 ?_
      obtain ⟨hPc, hDc, hFc⟩ := z_cut (wc := (zV16 i1 i1_isKept it1 i1_strayed i1_names i1_known i1_gone nw nw_isKept tn nw_strayed nw_names nw_known nw_gone)) hP hD hS hA [4, 2] rfl (by decide +kernel)
      have hKc := hK.sub (tys' := []) [] rfl
      refine va_callv (va_runV (As := [.ref nw]) (rest := []) ⟨hx, hb, hml, hown, hts⟩ (k_X3_take l sa dC dI i1 nw i1_isKept it1 i1_strayed i1_names i1_known i1_gone nw_isKept tn nw_strayed nw_names nw_known nw_gone b_i1_isKept b_i1_names b_nw_isKept b_nw_names H.size) (cwV 1 hts (z_gV zw_t6_59 zw_t6_60 zw_t6_61 zw_t1_2 zw_t6_62) rfl rfl rfl (by decide +kernel) (by rw [← hRe]; exact ⟨(Nat.le_of_ble_eq_true rfl), (Nat.le_of_ble_eq_true rfl)⟩)) (z_preV hPc hKc hDc hN hXs hS hFc (q := (RX3, TX3, 6)) (ci := 3) (q0 := 0) rfl rfl) rfl rfl hl.1 rfl (lv_room (Nat.le_of_ble_eq_true rfl)) dX9_keep_20 (by rw [← hRe]; exact ⟨(Nat.le_of_ble_eq_true rfl), (Nat.le_of_ble_eq_true rfl)⟩)) hS (fun q _ h => hFc q h) hFc (fun u t H1 locs ht hvm hw hB hz1 hk1 hS => ?_)
      obtain ⟨n_nw_9, n_nw_10, n_nw_11, n_nw_12, b_n_nw_10, hB⟩ := hB
      obtain ⟨hP, hD, hK⟩ := z_after3 (wn := (zV164 h0 tp h0_tapeLength h0_faultKind h0_faultPlace nw im sl rd wk fm mt ch dy im cA_im f_im i0 i0_isKept it0 i0_strayed i0_names i0_known i0_gone i2 i2_isKept it2 i2_strayed i2_names i2_known i2_gone i1 i1_isKept tn n_nw_9 n_nw_10 n_nw_11 n_nw_12 nw nw_isKept tn nw_strayed nw_names nw_known nw_gone)) hB ht hvm hP hD hK [4, 2] [0, 1, 3, 5] rfl 6 rfl (by decide +kernel) rfl (by decide +kernel) hk1 hFc
      generalize H1 = H at hP hS ⊢
      have hK : va_K (dC, dI) vwCl [(cA_im, .object RX3)] s := hK
      refine lv_aload_n hx hb dX9_keep_23 rfl (lv_at hl 0 rfl) ?_
      refine va_get (D := (dC, dI)) (ci := 9) (v := .ref im) (C := RX9) (T := TX9) (N := 13) hx hb hts zl_X9 hown hK hP 0 rfl rfl 5 (by decide) (hts _ zw_t2_194) (fun _ h9 => h9) rfl dX9_keep_24 ?_
      refine lv_iload_n hx hb dX9_keep_27 rfl (lv_at hl 1 rfl) ?_
      refine va_aldq hx hb hK hP 1 0 rfl rfl (zi_in (show Int32.toInt 1 = 1 from by decide) (by first | with_reducible assumption | omega)) dX9_keep_28 ?_
      refine W.eq (g2 := F0 m 29 ls (.ref i1 :: [])) (by rw [show f_im (Int32.toNatClampNeg 1) = some i1 from (by rw [show Int32.toNatClampNeg 1 = 1 from by decide]; exact him1)]; rfl) ?_
      refine lv_iconst (v := 1) hx hb dX9_keep_29 (by decide) ?_
      refine va_put (D := (dC, dI)) (ci := 3) (v := .int 1) (ty := .boolean) (C := RX3) (T := TX3) (N := 6) hx hb hts zl_X3 tyX3 tyX3_ok nmX3 hown hK hP hD hS 4 rfl rfl 0 (by decide) (hts _ zw_t1_152) (fun _ h9 => h9) rfl (by decide +kernel) (by decide) (by decide) (Nat.le_of_ble_eq_true rfl) dX9_keep_30 (fun H locs hP hD hS => ?_)
      have hP : va_P (dC, dI) vwCl (zV165 h0 tp h0_tapeLength h0_faultKind h0_faultPlace nw im sl rd wk fm mt ch dy im cA_im f_im i0 i0_isKept it0 i0_strayed i0_names i0_known i0_gone i2 i2_isKept it2 i2_strayed i2_names i2_known i2_gone i1 tn n_nw_9 n_nw_10 n_nw_11 n_nw_12 nw nw_isKept tn nw_strayed nw_names nw_known nw_gone) H := hP
      have hD : va_D A (zV165 h0 tp h0_tapeLength h0_faultKind h0_faultPlace nw im sl rd wk fm mt ch dy im cA_im f_im i0 i0_isKept it0 i0_strayed i0_names i0_known i0_gone i2 i2_isKept it2 i2_strayed i2_names i2_known i2_gone i1 tn n_nw_9 n_nw_10 n_nw_11 n_nw_12 nw nw_isKept tn nw_strayed nw_names nw_known nw_gone) := hD
      refine lv_iconst (v := 0) hx hb dX9_keep_33 (by decide) ?_
      have zq_1 : Int32.toInt 1 = 1 := by decide
      have zc : Int32.toInt 0 = 0 := by decide
      exact W.iret (v := 0) hx hb hr (fun t ht hW => by rw [← hQe]; exact ⟨⟨0, (), rfl, (by first | with_reducible assumption | omega), ⟨i0_isKept, it0, i0_strayed, i0_names, i0_known, i0_gone, (1), tn, n_nw_9, n_nw_10, n_nw_11, n_nw_12, i2_isKept, it2, i2_strayed, i2_names, i2_known, i2_gone, (by first | with_reducible assumption | omega), (by first | with_reducible assumption | omega), (by decide), (by first | with_reducible assumption | omega), (by first | with_reducible assumption | omega), (by first | with_reducible assumption | omega), (by first | omega | assumption), (by first | omega | assumption), (by first | omega | assumption), (by first | omega | assumption), (by first | omega | assumption), (by first | omega | assumption), z_ret hP hK hD ht hW [0, 1, 5, 2, 4, 3] [] rfl (by decide) rfl⟩⟩, hS.F ht⟩) hS.2.2 dX9_keep_34
    · have zc_2 : Int32.toInt 2 = 2 := by decide
      refine va_aldq hx hb hK hP 1 0 rfl rfl (zi_in (show Int32.toInt 2 = 2 from by decide) (by first | with_reducible assumption | omega)) dX9_keep_15 ?_
      refine W.eq (g2 := F0 m 16 ls (.ref i2 :: [])) (by rw [show f_im (Int32.toNatClampNeg 2) = some i2 from (by rw [show Int32.toNatClampNeg 2 = 2 from by decide]; exact him2)]; rfl) ?_
      refine lv_aload_n hx hb dX9_keep_16 rfl (lv_at hl 0 rfl) ?_
      refine va_get (D := (dC, dI)) (ci := 9) (v := .ref nw) (C := RX9) (T := TX9) (N := 13) hx hb hts zl_X9 hown hK hP 0 rfl rfl 4 (by decide) (hts _ zw_t2_193) (fun _ h9 => h9) rfl dX9_keep_17 ?_
      obtain ⟨hPc, hDc, hFc⟩ := z_cut (wc := (zV16 i2 i2_isKept it2 i2_strayed i2_names i2_known i2_gone nw nw_isKept tn nw_strayed nw_names nw_known nw_gone)) hP hD hS hA [5, 2] rfl (by decide +kernel)
      have hKc := hK.sub (tys' := []) [] rfl
      refine va_callv (va_runV (As := [.ref nw]) (rest := []) ⟨hx, hb, hml, hown, hts⟩ (k_X3_take l sa dC dI i2 nw i2_isKept it2 i2_strayed i2_names i2_known i2_gone nw_isKept tn nw_strayed nw_names nw_known nw_gone b_i2_isKept b_i2_names b_nw_isKept b_nw_names H.size) (cwV 1 hts (z_gV zw_t6_59 zw_t6_60 zw_t6_61 zw_t1_2 zw_t6_62) rfl rfl rfl (by decide +kernel) (by rw [← hRe]; exact ⟨(Nat.le_of_ble_eq_true rfl), (Nat.le_of_ble_eq_true rfl)⟩)) (z_preV hPc hKc hDc hN hXs hS hFc (q := (RX3, TX3, 6)) (ci := 3) (q0 := 0) rfl rfl) rfl rfl hl.1 rfl (lv_room (Nat.le_of_ble_eq_true rfl)) dX9_keep_20 (by rw [← hRe]; exact ⟨(Nat.le_of_ble_eq_true rfl), (Nat.le_of_ble_eq_true rfl)⟩)) hS (fun q _ h => hFc q h) hFc (fun u t H1 locs ht hvm hw hB hz1 hk1 hS => ?_)
      obtain ⟨n_nw_14, n_nw_15, n_nw_16, n_nw_17, b_n_nw_15, hB⟩ := hB
      obtain ⟨hP, hD, hK⟩ := z_after3 (wn := (zV164 h0 tp h0_tapeLength h0_faultKind h0_faultPlace nw im sl rd wk fm mt ch dy im cA_im f_im i0 i0_isKept it0 i0_strayed i0_names i0_known i0_gone i1 i1_isKept it1 i1_strayed i1_names i1_known i1_gone i2 i2_isKept tn n_nw_14 n_nw_15 n_nw_16 n_nw_17 nw nw_isKept tn nw_strayed nw_names nw_known nw_gone)) hB ht hvm hP hD hK [5, 2] [0, 1, 3, 4] rfl 6 rfl (by decide +kernel) rfl (by decide +kernel) hk1 hFc
      generalize H1 = H at hP hS ⊢
      have hK : va_K (dC, dI) vwCl [(cA_im, .object RX3)] s := hK
      refine lv_aload_n hx hb dX9_keep_23 rfl (lv_at hl 0 rfl) ?_
      refine va_get (D := (dC, dI)) (ci := 9) (v := .ref im) (C := RX9) (T := TX9) (N := 13) hx hb hts zl_X9 hown hK hP 0 rfl rfl 5 (by decide) (hts _ zw_t2_194) (fun _ h9 => h9) rfl dX9_keep_24 ?_
      refine lv_iload_n hx hb dX9_keep_27 rfl (lv_at hl 1 rfl) ?_
      refine va_aldq hx hb hK hP 1 0 rfl rfl (zi_in (show Int32.toInt 2 = 2 from by decide) (by first | with_reducible assumption | omega)) dX9_keep_28 ?_
      refine W.eq (g2 := F0 m 29 ls (.ref i2 :: [])) (by rw [show f_im (Int32.toNatClampNeg 2) = some i2 from (by rw [show Int32.toNatClampNeg 2 = 2 from by decide]; exact him2)]; rfl) ?_
      refine lv_iconst (v := 1) hx hb dX9_keep_29 (by decide) ?_
      refine va_put (D := (dC, dI)) (ci := 3) (v := .int 1) (ty := .boolean) (C := RX3) (T := TX3) (N := 6) hx hb hts zl_X3 tyX3 tyX3_ok nmX3 hown hK hP hD hS 4 rfl rfl 0 (by decide) (hts _ zw_t1_152) (fun _ h9 => h9) rfl (by decide +kernel) (by decide) (by decide) (Nat.le_of_ble_eq_true rfl) dX9_keep_30 (fun H locs hP hD hS => ?_)
      have hP : va_P (dC, dI) vwCl (zV165 h0 tp h0_tapeLength h0_faultKind h0_faultPlace nw im sl rd wk fm mt ch dy im cA_im f_im i0 i0_isKept it0 i0_strayed i0_names i0_known i0_gone i1 i1_isKept it1 i1_strayed i1_names i1_known i1_gone i2 tn n_nw_14 n_nw_15 n_nw_16 n_nw_17 nw nw_isKept tn nw_strayed nw_names nw_known nw_gone) H := hP
      have hD : va_D A (zV165 h0 tp h0_tapeLength h0_faultKind h0_faultPlace nw im sl rd wk fm mt ch dy im cA_im f_im i0 i0_isKept it0 i0_strayed i0_names i0_known i0_gone i1 i1_isKept it1 i1_strayed i1_names i1_known i1_gone i2 tn n_nw_14 n_nw_15 n_nw_16 n_nw_17 nw nw_isKept tn nw_strayed nw_names nw_known nw_gone) := hD
      refine lv_iconst (v := 0) hx hb dX9_keep_33 (by decide) ?_
      have zq_1 : Int32.toInt 1 = 1 := by decide
      have zc : Int32.toInt 0 = 0 := by decide
      exact W.iret (v := 0) hx hb hr (fun t ht hW => by rw [← hQe]; exact ⟨⟨0, (), rfl, (by first | with_reducible assumption | omega), ⟨i0_isKept, it0, i0_strayed, i0_names, i0_known, i0_gone, i1_isKept, it1, i1_strayed, i1_names, i1_known, i1_gone, (1), tn, n_nw_14, n_nw_15, n_nw_16, n_nw_17, (by first | with_reducible assumption | omega), (by first | with_reducible assumption | omega), (by first | with_reducible assumption | omega), (by first | with_reducible assumption | omega), (by decide), (by first | with_reducible assumption | omega), (by first | omega | assumption), (by first | omega | assumption), (by first | omega | assumption), (by first | omega | assumption), (by first | omega | assumption), (by first | omega | assumption), z_ret hP hK hD ht hW [0, 1, 5, 2, 3, 4] [] rfl (by decide) rfl⟩⟩, hS.F ht⟩) hS.2.2 dX9_keep_34
    · omega
  · have ic_2 := zz_nne rfl (show Int32.toInt 0 = 0 from by decide) c_2
    refine lv_bipush (v := (-2)) hx hb dX9_keep_7 (by decide) ?_
    have zq_1 : Int32.toInt 1 = 1 := by decide
    have zc : Int32.toInt (-2) = (-2) := by decide
    exact W.iret (v := (-2)) hx hb hr (fun t ht hW => by rw [← hQe]; exact ⟨⟨(-2), (), rfl, (by first | with_reducible assumption | omega), ⟨i0_isKept, it0, i0_strayed, i0_names, i0_known, i0_gone, i1_isKept, it1, i1_strayed, i1_names, i1_known, i1_gone, i2_isKept, it2, i2_strayed, i2_names, i2_known, i2_gone, (by first | with_reducible assumption | omega), (by first | with_reducible assumption | omega), (by first | with_reducible assumption | omega), (by first | with_reducible assumption | omega), (by first | with_reducible assumption | omega), (by first | with_reducible assumption | omega), (by first | omega | assumption), (by first | omega | assumption), (by first | omega | assumption), (by first | omega | assumption), (by first | omega | assumption), (by first | omega | assumption), z_ret hP hK hD ht hW [0, 1, 2, 3, 4, 5] [] rfl (by decide) rfl⟩⟩, hS.F ht⟩) hS.2.2 dX9_keep_9
set_option maxHeartbeats 4000000 in
set_option maxRecDepth 100000 in
theorem k_X9_back_v2 (l : Launch) (sa : Nat → Nat) (dC : Nat → ClassId) (dI : Nat → Nat → Nat) (h0 : Nat) (p1 : Int32) (tp : Nat) (h0_tapeLength : Int32) (h0_faultKind : Int32) (h0_faultPlace : Int32) (nw : Nat) (im : Nat) (sl : Nat) (rd : Nat) (wk : Nat) (fm : Nat) (mt : Nat) (ch : Nat) (dy : Nat) (cA_im : ClassId) (f_im : Nat → Option Nat) (i0 : Nat) (i1 : Nat) (i2 : Nat) (nw_isKept : Int32) (tn : Nat) (nw_strayed : Int32) (nw_names : Int32) (nw_known : Int32) (nw_gone : Int32) (i0_isKept : Int32) (it0 : Nat) (i0_strayed : Int32) (i0_names : Int32) (i0_known : Int32) (i0_gone : Int32) (i1_isKept : Int32) (it1 : Nat) (i1_strayed : Int32) (i1_names : Int32) (i1_known : Int32) (i1_gone : Int32) (i2_isKept : Int32) (it2 : Nat) (i2_strayed : Int32) (i2_names : Int32) (i2_known : Int32) (i2_gone : Int32) (b_h0_tapeLength : 0 ≤ h0_tapeLength.toInt ∧ h0_tapeLength.toInt ≤ 1600) (him0 : f_im 0 = some i0) (him1 : f_im 1 = some i1) (him2 : f_im 2 = some i2) (b_nw_isKept : 0 ≤ nw_isKept.toInt ∧ nw_isKept.toInt ≤ 1) (b_nw_names : 0 ≤ nw_names.toInt ∧ nw_names.toInt ≤ 1023) (b_i0_isKept : 0 ≤ i0_isKept.toInt ∧ i0_isKept.toInt ≤ 1) (b_i0_names : 0 ≤ i0_names.toInt ∧ i0_names.toInt ≤ 1023) (b_i1_isKept : 0 ≤ i1_isKept.toInt ∧ i1_isKept.toInt ≤ 1) (b_i1_names : 0 ≤ i1_names.toInt ∧ i1_names.toInt ≤ 1023) (b_i2_isKept : 0 ≤ i2_isKept.toInt ∧ i2_isKept.toInt ≤ 1) (b_i2_names : 0 ≤ i2_names.toInt ∧ i2_names.toInt ≤ 1023) (sz : Nat) : Met l yX9_back (.code yX9_back cX9_back 2 (some .int) :: zT) ({ frames := 1, cells := 0, slots := 0, locals := 21 }) (va_Pc [.ref h0, .int p1] (zB sa dC dI (zV164 h0 tp h0_tapeLength h0_faultKind h0_faultPlace nw im sl rd wk fm mt ch dy im cA_im f_im nw nw_isKept tn nw_strayed nw_names nw_known nw_gone i0 i0_isKept it0 i0_strayed i0_names i0_known i0_gone i1 i1_isKept it1 i1_strayed i1_names i1_known i1_gone i2 i2_isKept it2 i2_strayed i2_names i2_known i2_gone) [(cA_im, .object RX3)] sz)) (va_Qi (fun (r : Int32) (_ : Unit) => ((-6) ≤ r.toInt ∧ r.toInt ≤ 0) ∧ ((r.toInt = -2 ∧ (p1.toInt < 0 ∨ 2 < p1.toInt)) ∨ (r.toInt = -6 ∧ ((p1.toInt = 0 ∧ i0_isKept.toInt = 0) ∨ (p1.toInt = 1 ∧ i1_isKept.toInt = 0) ∨ (p1.toInt = 2 ∧ i2_isKept.toInt = 0))) ∨ (r.toInt = 0 ∧ ((p1.toInt = 0 ∧ i0_isKept.toInt = 1) ∨ (p1.toInt = 1 ∧ i1_isKept.toInt = 1) ∨ (p1.toInt = 2 ∧ i2_isKept.toInt = 1))))) (fun _ t => ∃ (n_nw_1 : Nat) (n_nw_2 : Int32) (n_nw_3 : Int32) (n_nw_4 : Int32) (n_nw_5 : Int32), (0 ≤ n_nw_3.toInt ∧ n_nw_3.toInt ≤ 1023) ∧ (n_nw_1 = tn ∨ n_nw_1 = it0 ∨ n_nw_1 = it1 ∨ n_nw_1 = it2) ∧ zW dC dI (zV164 h0 tp h0_tapeLength h0_faultKind h0_faultPlace nw im sl rd wk fm mt ch dy im cA_im f_im nw nw_isKept n_nw_1 n_nw_2 n_nw_3 n_nw_4 n_nw_5 i0 i0_isKept it0 i0_strayed i0_names i0_known i0_gone i1 i1_isKept it1 i1_strayed i1_names i1_known i1_gone i2 i2_isKept it2 i2_strayed i2_names i2_known i2_gone) [] (va_A (zV164 h0 tp h0_tapeLength h0_faultKind h0_faultPlace nw im sl rd wk fm mt ch dy im cA_im f_im nw nw_isKept tn nw_strayed nw_names nw_known nw_gone i0 i0_isKept it0 i0_strayed i0_names i0_known i0_gone i1 i1_isKept it1 i1_strayed i1_names i1_known i1_gone i2 i2_isKept it2 i2_strayed i2_names i2_known i2_gone) sz) t) (va_A (zV164 h0 tp h0_tapeLength h0_faultKind h0_faultPlace nw im sl rd wk fm mt ch dy im cA_im f_im nw nw_isKept tn nw_strayed nw_names nw_known nw_gone i0 i0_isKept it0 i0_strayed i0_names i0_known i0_gone i1 i1_isKept it1 i1_strayed i1_names i1_known i1_gone i2 i2_isKept it2 i2_strayed i2_names i2_known i2_gone) sz)) 0 0 (va_A (zV164 h0 tp h0_tapeLength h0_faultKind h0_faultPlace nw im sl rd wk fm mt ch dy im cA_im f_im nw nw_isKept tn nw_strayed nw_names nw_known nw_gone i0 i0_isKept it0 i0_strayed i0_names i0_known i0_gone i1 i1_isKept it1 i1_strayed i1_names i1_known i1_gone i2 i2_isKept it2 i2_strayed i2_names i2_known i2_gone) sz) := by
  refine z_enter (by decide) (by exact (Nat.le_of_ble_eq_true rfl)) ?_
  intro p e s m args below meth c ls A R Qc hargs hsz hQe hAe hRe hx hb hml hr hts hown hlocks hin hl hP hK hD hN hXs hA hS
  rw [hAe] at hQe
  have hown : s.vm.findClass RX9 = some m.cls := hown
  have hl : lv_has ls 2 [(0, .ref h0), (1, .int p1)] := hl
  refine lv_iload_n hx hb dX9_back_0 rfl (lv_at hl 1 rfl) ?_
  obtain ⟨hPc, hDc, hFc⟩ := z_cut (wc := []) hP hD hS hA [] rfl (by decide +kernel)
  have hKc := hK.sub (tys' := []) [] rfl
  refine va_calli (va_runS (As := [.int p1]) (rest := []) ⟨hx, hb, hml, hown, hts⟩ (k_X9_isImage_v2 l sa dC dI p1 s.heap.size) (va_cwS 1 hts (z_gS zw_t6_56 zw_t6_57 zw_t1_1 zw_t6_58) rfl rfl rfl (by decide +kernel) (by rw [← hRe]; exact ⟨(Nat.le_of_ble_eq_true rfl), (Nat.le_of_ble_eq_true rfl)⟩)) (z_preS hPc hKc hDc hN hXs hS hFc) rfl rfl hl.1 rfl (lv_room (Nat.le_of_ble_eq_true rfl)) dX9_back_1 (by rw [← hRe]; exact ⟨(Nat.le_of_ble_eq_true rfl), (Nat.le_of_ble_eq_true rfl)⟩)) hS (fun q _ h => hFc q h) hFc (fun r_1 u t H1 locs ht hvm hw hB hz1 hk1 hS => ?_)
  obtain ⟨hP, hD, hK⟩ := z_after3 (wn := (zV164 h0 tp h0_tapeLength h0_faultKind h0_faultPlace nw im sl rd wk fm mt ch dy im cA_im f_im nw nw_isKept tn nw_strayed nw_names nw_known nw_gone i0 i0_isKept it0 i0_strayed i0_names i0_known i0_gone i1 i1_isKept it1 i1_strayed i1_names i1_known i1_gone i2 i2_isKept it2 i2_strayed i2_names i2_known i2_gone)) hB ht hvm hP hD hK [] [0, 1, 2, 3, 4, 5] rfl 6 rfl (by decide +kernel) rfl (by decide +kernel) hk1 hFc
  generalize H1 = H at hP hS ⊢
  have hK : va_K (dC, dI) vwCl [(cA_im, .object RX3)] s := hK
  have b_r_1 : 0 ≤ r_1.toInt ∧ r_1.toInt ≤ 1 := hw.1
  have s_r_1 := hw.2
  refine lv_if_ne (tgt := 10) hx hb dX9_back_4 (by decide) (fun c_2 => ?_) (fun c_2 => ?_)
  · have ic_2 := zz_ne rfl (show Int32.toInt 0 = 0 from by decide) c_2
    refine lv_aload_n hx hb dX9_back_10 rfl (lv_at hl 0 rfl) ?_
    refine va_get (D := (dC, dI)) (ci := 9) (v := .ref im) (C := RX9) (T := TX9) (N := 13) hx hb hts zl_X9 hown hK hP 0 rfl rfl 5 (by decide) (hts _ zw_t2_194) (fun _ h9 => h9) rfl dX9_back_11 ?_
    refine lv_iload_n hx hb dX9_back_14 rfl (lv_at hl 1 rfl) ?_
    rcases z_s2 p1 with q_sw | rfl | rfl | rfl | q_sw
    · omega
    · have zc_0 : Int32.toInt 0 = 0 := by decide
      refine va_aldq hx hb hK hP 1 0 rfl rfl (zi_in (show Int32.toInt 0 = 0 from by decide) (by first | with_reducible assumption | omega)) dX9_back_15 ?_
      refine W.eq (g2 := F0 m 16 ls (.ref i0 :: [])) (by rw [show f_im (Int32.toNatClampNeg 0) = some i0 from (by rw [show Int32.toNatClampNeg 0 = 0 from by decide]; exact him0)]; rfl) ?_
      refine va_get (D := (dC, dI)) (ci := 3) (v := .int i0_isKept) (C := RX3) (T := TX3) (N := 6) hx hb hts zl_X3 hown hK hP 3 rfl rfl 0 (by decide) (hts _ zw_t1_152) (fun _ h9 => h9) rfl dX9_back_16 ?_
      refine lv_if_ne (tgt := 25) hx hb dX9_back_19 (by decide) (fun c_3 => ?_) (fun c_3 => ?_)
      · have ic_3 := zz_ne rfl (show Int32.toInt 0 = 0 from by decide) c_3
        refine lv_aload_n hx hb dX9_back_25 rfl (lv_at hl 0 rfl) ?_
        refine va_get (D := (dC, dI)) (ci := 9) (v := .ref nw) (C := RX9) (T := TX9) (N := 13) hx hb hts zl_X9 hown hK hP 0 rfl rfl 4 (by decide) (hts _ zw_t2_193) (fun _ h9 => h9) rfl dX9_back_26 ?_
        refine lv_aload_n hx hb dX9_back_29 rfl (lv_at hl 0 rfl) ?_
        refine va_get (D := (dC, dI)) (ci := 9) (v := .ref im) (C := RX9) (T := TX9) (N := 13) hx hb hts zl_X9 hown hK hP 0 rfl rfl 5 (by decide) (hts _ zw_t2_194) (fun _ h9 => h9) rfl dX9_back_30 ?_
        refine lv_iload_n hx hb dX9_back_33 rfl (lv_at hl 1 rfl) ?_
        refine va_aldq hx hb hK hP 1 0 rfl rfl (zi_in (show Int32.toInt 0 = 0 from by decide) (by first | with_reducible assumption | omega)) dX9_back_34 ?_
        refine W.eq (g2 := F0 m 35 ls (.ref i0 :: [.ref nw])) (by rw [show f_im (Int32.toNatClampNeg 0) = some i0 from (by rw [show Int32.toNatClampNeg 0 = 0 from by decide]; exact him0)]; rfl) ?_
        obtain ⟨hPc, hDc, hFc⟩ := z_cut (wc := (zV16 nw nw_isKept tn nw_strayed nw_names nw_known nw_gone i0 i0_isKept it0 i0_strayed i0_names i0_known i0_gone)) hP hD hS hA [2, 3] rfl (by decide +kernel)
        have hKc := hK.sub (tys' := []) [] rfl
        refine va_callv (va_runV (As := [.ref i0]) (rest := []) ⟨hx, hb, hml, hown, hts⟩ (k_X3_take l sa dC dI nw i0 nw_isKept tn nw_strayed nw_names nw_known nw_gone i0_isKept it0 i0_strayed i0_names i0_known i0_gone b_nw_isKept b_nw_names b_i0_isKept b_i0_names H.size) (cwV 1 hts (z_gV zw_t6_59 zw_t6_60 zw_t6_61 zw_t1_2 zw_t6_62) rfl rfl rfl (by decide +kernel) (by rw [← hRe]; exact ⟨(Nat.le_of_ble_eq_true rfl), (Nat.le_of_ble_eq_true rfl)⟩)) (z_preV hPc hKc hDc hN hXs hS hFc (q := (RX3, TX3, 6)) (ci := 3) (q0 := 0) rfl rfl) rfl rfl hl.1 rfl (lv_room (Nat.le_of_ble_eq_true rfl)) dX9_back_35 (by rw [← hRe]; exact ⟨(Nat.le_of_ble_eq_true rfl), (Nat.le_of_ble_eq_true rfl)⟩)) hS (fun q _ h => hFc q h) hFc (fun u t H1 locs ht hvm hw hB hz1 hk1 hS => ?_)
        obtain ⟨n_nw_5, n_nw_6, n_nw_7, n_nw_8, b_n_nw_6, hB⟩ := hB
        obtain ⟨hP, hD, hK⟩ := z_after3 (wn := (zV164 h0 tp h0_tapeLength h0_faultKind h0_faultPlace nw im sl rd wk fm mt ch dy im cA_im f_im i1 i1_isKept it1 i1_strayed i1_names i1_known i1_gone i2 i2_isKept it2 i2_strayed i2_names i2_known i2_gone nw nw_isKept it0 n_nw_5 n_nw_6 n_nw_7 n_nw_8 i0 i0_isKept it0 i0_strayed i0_names i0_known i0_gone)) hB ht hvm hP hD hK [2, 3] [0, 1, 4, 5] rfl 6 rfl (by decide +kernel) rfl (by decide +kernel) hk1 hFc
        generalize H1 = H at hP hS ⊢
        have hK : va_K (dC, dI) vwCl [(cA_im, .object RX3)] s := hK
        refine lv_iconst (v := 0) hx hb dX9_back_38 (by decide) ?_
        have zc : Int32.toInt 0 = 0 := by decide
        exact W.iret (v := 0) hx hb hr (fun t ht hW => by rw [← hQe]; exact ⟨⟨0, (), rfl, (by first | with_reducible assumption | omega), ⟨it0, n_nw_5, n_nw_6, n_nw_7, n_nw_8, (by first | with_reducible assumption | omega), (by first | omega | assumption), z_ret hP hK hD ht hW [0, 1, 4, 5, 2, 3] [] rfl (by decide) rfl⟩⟩, hS.F ht⟩) hS.2.2 dX9_back_39
      · have ic_3 := zz_nne rfl (show Int32.toInt 0 = 0 from by decide) c_3
        refine lv_bipush (v := (-6)) hx hb dX9_back_22 (by decide) ?_
        have zc : Int32.toInt (-6) = (-6) := by decide
        exact W.iret (v := (-6)) hx hb hr (fun t ht hW => by rw [← hQe]; exact ⟨⟨(-6), (), rfl, (by first | with_reducible assumption | omega), ⟨tn, nw_strayed, nw_names, nw_known, nw_gone, (by first | with_reducible assumption | omega), (by first | omega | assumption), z_ret hP hK hD ht hW [0, 1, 2, 3, 4, 5] [] rfl (by decide) rfl⟩⟩, hS.F ht⟩) hS.2.2 dX9_back_24
    · have zc_1 : Int32.toInt 1 = 1 := by decide
      refine va_aldq hx hb hK hP 1 0 rfl rfl (zi_in (show Int32.toInt 1 = 1 from by decide) (by first | with_reducible assumption | omega)) dX9_back_15 ?_
      refine W.eq (g2 := F0 m 16 ls (.ref i1 :: [])) (by rw [show f_im (Int32.toNatClampNeg 1) = some i1 from (by rw [show Int32.toNatClampNeg 1 = 1 from by decide]; exact him1)]; rfl) ?_
      refine va_get (D := (dC, dI)) (ci := 3) (v := .int i1_isKept) (C := RX3) (T := TX3) (N := 6) hx hb hts zl_X3 hown hK hP 4 rfl rfl 0 (by decide) (hts _ zw_t1_152) (fun _ h9 => h9) rfl dX9_back_16 ?_
      refine lv_if_ne (tgt := 25) hx hb dX9_back_19 (by decide) (fun c_9 => ?_) (fun c_9 => ?_)
      · have ic_9 := zz_ne rfl (show Int32.toInt 0 = 0 from by decide) c_9
        refine lv_aload_n hx hb dX9_back_25 rfl (lv_at hl 0 rfl) ?_
        refine va_get (D := (dC, dI)) (ci := 9) (v := .ref nw) (C := RX9) (T := TX9) (N := 13) hx hb hts zl_X9 hown hK hP 0 rfl rfl 4 (by decide) (hts _ zw_t2_193) (fun _ h9 => h9) rfl dX9_back_26 ?_
        refine lv_aload_n hx hb dX9_back_29 rfl (lv_at hl 0 rfl) ?_
        refine va_get (D := (dC, dI)) (ci := 9) (v := .ref im) (C := RX9) (T := TX9) (N := 13) hx hb hts zl_X9 hown hK hP 0 rfl rfl 5 (by decide) (hts _ zw_t2_194) (fun _ h9 => h9) rfl dX9_back_30 ?_
        refine lv_iload_n hx hb dX9_back_33 rfl (lv_at hl 1 rfl) ?_
        refine va_aldq hx hb hK hP 1 0 rfl rfl (zi_in (show Int32.toInt 1 = 1 from by decide) (by first | with_reducible assumption | omega)) dX9_back_34 ?_
        refine W.eq (g2 := F0 m 35 ls (.ref i1 :: [.ref nw])) (by rw [show f_im (Int32.toNatClampNeg 1) = some i1 from (by rw [show Int32.toNatClampNeg 1 = 1 from by decide]; exact him1)]; rfl) ?_
        obtain ⟨hPc, hDc, hFc⟩ := z_cut (wc := (zV16 nw nw_isKept tn nw_strayed nw_names nw_known nw_gone i1 i1_isKept it1 i1_strayed i1_names i1_known i1_gone)) hP hD hS hA [2, 4] rfl (by decide +kernel)
        have hKc := hK.sub (tys' := []) [] rfl
        refine va_callv (va_runV (As := [.ref i1]) (rest := []) ⟨hx, hb, hml, hown, hts⟩ (k_X3_take l sa dC dI nw i1 nw_isKept tn nw_strayed nw_names nw_known nw_gone i1_isKept it1 i1_strayed i1_names i1_known i1_gone b_nw_isKept b_nw_names b_i1_isKept b_i1_names H.size) (cwV 1 hts (z_gV zw_t6_59 zw_t6_60 zw_t6_61 zw_t1_2 zw_t6_62) rfl rfl rfl (by decide +kernel) (by rw [← hRe]; exact ⟨(Nat.le_of_ble_eq_true rfl), (Nat.le_of_ble_eq_true rfl)⟩)) (z_preV hPc hKc hDc hN hXs hS hFc (q := (RX3, TX3, 6)) (ci := 3) (q0 := 0) rfl rfl) rfl rfl hl.1 rfl (lv_room (Nat.le_of_ble_eq_true rfl)) dX9_back_35 (by rw [← hRe]; exact ⟨(Nat.le_of_ble_eq_true rfl), (Nat.le_of_ble_eq_true rfl)⟩)) hS (fun q _ h => hFc q h) hFc (fun u t H1 locs ht hvm hw hB hz1 hk1 hS => ?_)
        obtain ⟨n_nw_11, n_nw_12, n_nw_13, n_nw_14, b_n_nw_12, hB⟩ := hB
        obtain ⟨hP, hD, hK⟩ := z_after3 (wn := (zV164 h0 tp h0_tapeLength h0_faultKind h0_faultPlace nw im sl rd wk fm mt ch dy im cA_im f_im i0 i0_isKept it0 i0_strayed i0_names i0_known i0_gone i2 i2_isKept it2 i2_strayed i2_names i2_known i2_gone nw nw_isKept it1 n_nw_11 n_nw_12 n_nw_13 n_nw_14 i1 i1_isKept it1 i1_strayed i1_names i1_known i1_gone)) hB ht hvm hP hD hK [2, 4] [0, 1, 3, 5] rfl 6 rfl (by decide +kernel) rfl (by decide +kernel) hk1 hFc
        generalize H1 = H at hP hS ⊢
        have hK : va_K (dC, dI) vwCl [(cA_im, .object RX3)] s := hK
        refine lv_iconst (v := 0) hx hb dX9_back_38 (by decide) ?_
        have zc : Int32.toInt 0 = 0 := by decide
        exact W.iret (v := 0) hx hb hr (fun t ht hW => by rw [← hQe]; exact ⟨⟨0, (), rfl, (by first | with_reducible assumption | omega), ⟨it1, n_nw_11, n_nw_12, n_nw_13, n_nw_14, (by first | with_reducible assumption | omega), (by first | omega | assumption), z_ret hP hK hD ht hW [0, 1, 4, 2, 5, 3] [] rfl (by decide) rfl⟩⟩, hS.F ht⟩) hS.2.2 dX9_back_39
      · have ic_9 := zz_nne rfl (show Int32.toInt 0 = 0 from by decide) c_9
        refine lv_bipush (v := (-6)) hx hb dX9_back_22 (by decide) ?_
        have zc : Int32.toInt (-6) = (-6) := by decide
        exact W.iret (v := (-6)) hx hb hr (fun t ht hW => by rw [← hQe]; exact ⟨⟨(-6), (), rfl, (by first | with_reducible assumption | omega), ⟨tn, nw_strayed, nw_names, nw_known, nw_gone, (by first | with_reducible assumption | omega), (by first | omega | assumption), z_ret hP hK hD ht hW [0, 1, 2, 3, 4, 5] [] rfl (by decide) rfl⟩⟩, hS.F ht⟩) hS.2.2 dX9_back_24
    · have zc_2 : Int32.toInt 2 = 2 := by decide
      refine va_aldq hx hb hK hP 1 0 rfl rfl (zi_in (show Int32.toInt 2 = 2 from by decide) (by first | with_reducible assumption | omega)) dX9_back_15 ?_
      refine W.eq (g2 := F0 m 16 ls (.ref i2 :: [])) (by rw [show f_im (Int32.toNatClampNeg 2) = some i2 from (by rw [show Int32.toNatClampNeg 2 = 2 from by decide]; exact him2)]; rfl) ?_
      refine va_get (D := (dC, dI)) (ci := 3) (v := .int i2_isKept) (C := RX3) (T := TX3) (N := 6) hx hb hts zl_X3 hown hK hP 5 rfl rfl 0 (by decide) (hts _ zw_t1_152) (fun _ h9 => h9) rfl dX9_back_16 ?_
      refine lv_if_ne (tgt := 25) hx hb dX9_back_19 (by decide) (fun c_15 => ?_) (fun c_15 => ?_)
      · have ic_15 := zz_ne rfl (show Int32.toInt 0 = 0 from by decide) c_15
        refine lv_aload_n hx hb dX9_back_25 rfl (lv_at hl 0 rfl) ?_
        refine va_get (D := (dC, dI)) (ci := 9) (v := .ref nw) (C := RX9) (T := TX9) (N := 13) hx hb hts zl_X9 hown hK hP 0 rfl rfl 4 (by decide) (hts _ zw_t2_193) (fun _ h9 => h9) rfl dX9_back_26 ?_
        refine lv_aload_n hx hb dX9_back_29 rfl (lv_at hl 0 rfl) ?_
        refine va_get (D := (dC, dI)) (ci := 9) (v := .ref im) (C := RX9) (T := TX9) (N := 13) hx hb hts zl_X9 hown hK hP 0 rfl rfl 5 (by decide) (hts _ zw_t2_194) (fun _ h9 => h9) rfl dX9_back_30 ?_
        refine lv_iload_n hx hb dX9_back_33 rfl (lv_at hl 1 rfl) ?_
        refine va_aldq hx hb hK hP 1 0 rfl rfl (zi_in (show Int32.toInt 2 = 2 from by decide) (by first | with_reducible assumption | omega)) dX9_back_34 ?_
        refine W.eq (g2 := F0 m 35 ls (.ref i2 :: [.ref nw])) (by rw [show f_im (Int32.toNatClampNeg 2) = some i2 from (by rw [show Int32.toNatClampNeg 2 = 2 from by decide]; exact him2)]; rfl) ?_
        obtain ⟨hPc, hDc, hFc⟩ := z_cut (wc := (zV16 nw nw_isKept tn nw_strayed nw_names nw_known nw_gone i2 i2_isKept it2 i2_strayed i2_names i2_known i2_gone)) hP hD hS hA [2, 5] rfl (by decide +kernel)
        have hKc := hK.sub (tys' := []) [] rfl
        refine va_callv (va_runV (As := [.ref i2]) (rest := []) ⟨hx, hb, hml, hown, hts⟩ (k_X3_take l sa dC dI nw i2 nw_isKept tn nw_strayed nw_names nw_known nw_gone i2_isKept it2 i2_strayed i2_names i2_known i2_gone b_nw_isKept b_nw_names b_i2_isKept b_i2_names H.size) (cwV 1 hts (z_gV zw_t6_59 zw_t6_60 zw_t6_61 zw_t1_2 zw_t6_62) rfl rfl rfl (by decide +kernel) (by rw [← hRe]; exact ⟨(Nat.le_of_ble_eq_true rfl), (Nat.le_of_ble_eq_true rfl)⟩)) (z_preV hPc hKc hDc hN hXs hS hFc (q := (RX3, TX3, 6)) (ci := 3) (q0 := 0) rfl rfl) rfl rfl hl.1 rfl (lv_room (Nat.le_of_ble_eq_true rfl)) dX9_back_35 (by rw [← hRe]; exact ⟨(Nat.le_of_ble_eq_true rfl), (Nat.le_of_ble_eq_true rfl)⟩)) hS (fun q _ h => hFc q h) hFc (fun u t H1 locs ht hvm hw hB hz1 hk1 hS => ?_)
        obtain ⟨n_nw_17, n_nw_18, n_nw_19, n_nw_20, b_n_nw_18, hB⟩ := hB
        obtain ⟨hP, hD, hK⟩ := z_after3 (wn := (zV164 h0 tp h0_tapeLength h0_faultKind h0_faultPlace nw im sl rd wk fm mt ch dy im cA_im f_im i0 i0_isKept it0 i0_strayed i0_names i0_known i0_gone i1 i1_isKept it1 i1_strayed i1_names i1_known i1_gone nw nw_isKept it2 n_nw_17 n_nw_18 n_nw_19 n_nw_20 i2 i2_isKept it2 i2_strayed i2_names i2_known i2_gone)) hB ht hvm hP hD hK [2, 5] [0, 1, 3, 4] rfl 6 rfl (by decide +kernel) rfl (by decide +kernel) hk1 hFc
        generalize H1 = H at hP hS ⊢
        have hK : va_K (dC, dI) vwCl [(cA_im, .object RX3)] s := hK
        refine lv_iconst (v := 0) hx hb dX9_back_38 (by decide) ?_
        have zc : Int32.toInt 0 = 0 := by decide
        exact W.iret (v := 0) hx hb hr (fun t ht hW => by rw [← hQe]; exact ⟨⟨0, (), rfl, (by first | with_reducible assumption | omega), ⟨it2, n_nw_17, n_nw_18, n_nw_19, n_nw_20, (by first | with_reducible assumption | omega), (by first | omega | assumption), z_ret hP hK hD ht hW [0, 1, 4, 2, 3, 5] [] rfl (by decide) rfl⟩⟩, hS.F ht⟩) hS.2.2 dX9_back_39
      · have ic_15 := zz_nne rfl (show Int32.toInt 0 = 0 from by decide) c_15
        refine lv_bipush (v := (-6)) hx hb dX9_back_22 (by decide) ?_
        have zc : Int32.toInt (-6) = (-6) := by decide
        exact W.iret (v := (-6)) hx hb hr (fun t ht hW => by rw [← hQe]; exact ⟨⟨(-6), (), rfl, (by first | with_reducible assumption | omega), ⟨tn, nw_strayed, nw_names, nw_known, nw_gone, (by first | with_reducible assumption | omega), (by first | omega | assumption), z_ret hP hK hD ht hW [0, 1, 2, 3, 4, 5] [] rfl (by decide) rfl⟩⟩, hS.F ht⟩) hS.2.2 dX9_back_24
    · omega
  · have ic_2 := zz_nne rfl (show Int32.toInt 0 = 0 from by decide) c_2
    refine lv_bipush (v := (-2)) hx hb dX9_back_7 (by decide) ?_
    have zc : Int32.toInt (-2) = (-2) := by decide
    exact W.iret (v := (-2)) hx hb hr (fun t ht hW => by rw [← hQe]; exact ⟨⟨(-2), (), rfl, (by first | with_reducible assumption | omega), ⟨tn, nw_strayed, nw_names, nw_known, nw_gone, (by first | with_reducible assumption | omega), (by first | omega | assumption), z_ret hP hK hD ht hW [0, 1, 2, 3, 4, 5] [] rfl (by decide) rfl⟩⟩, hS.F ht⟩) hS.2.2 dX9_back_9
set_option maxHeartbeats 4000000 in
set_option maxRecDepth 100000 in
theorem k_X9_row_v2 (l : Launch) (sa : Nat → Nat) (dC : Nat → ClassId) (dI : Nat → Nat → Nat) (h0 : Nat) (p1 : Int32) (p2 : Int32) (p3 : Int32) (tp : Nat) (h0_tapeLength : Int32) (h0_faultKind : Int32) (h0_faultPlace : Int32) (nw : Nat) (im : Nat) (sl : Nat) (rd : Nat) (wk : Nat) (fm : Nat) (mt : Nat) (ch : Nat) (dy : Nat) (cA_sl : ClassId) (f_sl : Nat → Option Nat) (r0 : Nat) (r1 : Nat) (r2 : Nat) (r3 : Nat) (r0_width : Int32) (r0_size : Int32) (r0_numbers : Nat) (cA_r0_numbers : ClassId) (f_r0_numbers : Nat → Int64) (r1_width : Int32) (r1_size : Int32) (r1_numbers : Nat) (cA_r1_numbers : ClassId) (f_r1_numbers : Nat → Int64) (r2_width : Int32) (r2_size : Int32) (r2_numbers : Nat) (cA_r2_numbers : ClassId) (f_r2_numbers : Nat → Int64) (r3_width : Int32) (r3_size : Int32) (r3_numbers : Nat) (cA_r3_numbers : ClassId) (f_r3_numbers : Nat → Int64) (b_h0_tapeLength : 0 ≤ h0_tapeLength.toInt ∧ h0_tapeLength.toInt ≤ 1600) (hsl0 : f_sl 0 = some r0) (hsl1 : f_sl 1 = some r1) (hsl2 : f_sl 2 = some r2) (hsl3 : f_sl 3 = some r3) (b_r0_size : 0 ≤ r0_size.toInt ∧ r0_size.toInt ≤ 60) (b_r1_size : 0 ≤ r1_size.toInt ∧ r1_size.toInt ≤ 60) (b_r2_size : 0 ≤ r2_size.toInt ∧ r2_size.toInt ≤ 60) (b_r3_size : 0 ≤ r3_size.toInt ∧ r3_size.toInt ≤ 60) (sz : Nat) : Met l yX9_row (.code yX9_row cX9_row 4 (some .int) :: zT) ({ frames := 2, cells := 0, slots := 0, locals := 46 }) (va_Pc [.ref h0, .int p1, .int p2, .int p3] (zB sa dC dI (zV166 h0 tp h0_tapeLength h0_faultKind h0_faultPlace nw im sl rd wk fm mt ch dy sl cA_sl f_sl r0 r0_width r0_size r0_numbers r0_numbers cA_r0_numbers f_r0_numbers r1 r1_width r1_size r1_numbers r1_numbers cA_r1_numbers f_r1_numbers r2 r2_width r2_size r2_numbers r2_numbers cA_r2_numbers f_r2_numbers r3 r3_width r3_size r3_numbers r3_numbers cA_r3_numbers f_r3_numbers) [(cA_sl, .object RX6), (cA_r0_numbers, .long), (cA_r1_numbers, .long), (cA_r2_numbers, .long), (cA_r3_numbers, .long)] sz)) (va_Qi (fun (r : Int32) (u : Int32) => u = r ∧ ((-3) ≤ r.toInt ∧ r.toInt ≤ 0) ∧ ((r.toInt = -2 ∧ (p1.toInt < 0 ∨ 3 < p1.toInt ∨ p2.toInt < 0 ∨ 3 < p2.toInt ∨ 60 < p3.toInt)) ∨ (r.toInt = -3 ∧ 0 ≤ p1.toInt ∧ p1.toInt ≤ 3 ∧ 0 ≤ p2.toInt ∧ p2.toInt ≤ 3 ∧ p3.toInt < 0) ∨ (r.toInt = 0 ∧ 0 ≤ p1.toInt ∧ p1.toInt ≤ 3 ∧ 0 ≤ p2.toInt ∧ p2.toInt ≤ 3 ∧ 0 ≤ p3.toInt ∧ p3.toInt ≤ 60))) (fun u t => ∃ (n_r0_0 : Int32) (n_r0_1 : Int32) (n_r0_numbers : Nat → Int64) (n_r1_0 : Int32) (n_r1_1 : Int32) (n_r1_numbers : Nat → Int64) (n_r2_0 : Int32) (n_r2_1 : Int32) (n_r2_numbers : Nat → Int64) (n_r3_0 : Int32) (n_r3_1 : Int32) (n_r3_numbers : Nat → Int64), (0 ≤ n_r0_1.toInt ∧ n_r0_1.toInt ≤ 60) ∧ (0 ≤ n_r1_1.toInt ∧ n_r1_1.toInt ≤ 60) ∧ (0 ≤ n_r2_1.toInt ∧ n_r2_1.toInt ≤ 60) ∧ (0 ≤ n_r3_1.toInt ∧ n_r3_1.toInt ≤ 60) ∧ ((u.toInt = 0 ∧ p1.toInt = 0 ∧ n_r0_0.toInt = p2.toInt ∧ n_r0_1.toInt = p3.toInt) ∨ (¬ (u.toInt = 0 ∧ p1.toInt = 0) ∧ n_r0_0.toInt = r0_width.toInt ∧ n_r0_1.toInt = r0_size.toInt)) ∧ ((u.toInt = 0 ∧ p1.toInt = 1 ∧ n_r1_0.toInt = p2.toInt ∧ n_r1_1.toInt = p3.toInt) ∨ (¬ (u.toInt = 0 ∧ p1.toInt = 1) ∧ n_r1_0.toInt = r1_width.toInt ∧ n_r1_1.toInt = r1_size.toInt)) ∧ ((u.toInt = 0 ∧ p1.toInt = 2 ∧ n_r2_0.toInt = p2.toInt ∧ n_r2_1.toInt = p3.toInt) ∨ (¬ (u.toInt = 0 ∧ p1.toInt = 2) ∧ n_r2_0.toInt = r2_width.toInt ∧ n_r2_1.toInt = r2_size.toInt)) ∧ ((u.toInt = 0 ∧ p1.toInt = 3 ∧ n_r3_0.toInt = p2.toInt ∧ n_r3_1.toInt = p3.toInt) ∨ (¬ (u.toInt = 0 ∧ p1.toInt = 3) ∧ n_r3_0.toInt = r3_width.toInt ∧ n_r3_1.toInt = r3_size.toInt)) ∧ zW dC dI (zV166 h0 tp h0_tapeLength h0_faultKind h0_faultPlace nw im sl rd wk fm mt ch dy sl cA_sl f_sl r0 n_r0_0 n_r0_1 r0_numbers r0_numbers cA_r0_numbers n_r0_numbers r1 n_r1_0 n_r1_1 r1_numbers r1_numbers cA_r1_numbers n_r1_numbers r2 n_r2_0 n_r2_1 r2_numbers r2_numbers cA_r2_numbers n_r2_numbers r3 n_r3_0 n_r3_1 r3_numbers r3_numbers cA_r3_numbers n_r3_numbers) [] (va_A (zV166 h0 tp h0_tapeLength h0_faultKind h0_faultPlace nw im sl rd wk fm mt ch dy sl cA_sl f_sl r0 r0_width r0_size r0_numbers r0_numbers cA_r0_numbers f_r0_numbers r1 r1_width r1_size r1_numbers r1_numbers cA_r1_numbers f_r1_numbers r2 r2_width r2_size r2_numbers r2_numbers cA_r2_numbers f_r2_numbers r3 r3_width r3_size r3_numbers r3_numbers cA_r3_numbers f_r3_numbers) sz) t) (va_A (zV166 h0 tp h0_tapeLength h0_faultKind h0_faultPlace nw im sl rd wk fm mt ch dy sl cA_sl f_sl r0 r0_width r0_size r0_numbers r0_numbers cA_r0_numbers f_r0_numbers r1 r1_width r1_size r1_numbers r1_numbers cA_r1_numbers f_r1_numbers r2 r2_width r2_size r2_numbers r2_numbers cA_r2_numbers f_r2_numbers r3 r3_width r3_size r3_numbers r3_numbers cA_r3_numbers f_r3_numbers) sz)) 0 0 (va_A (zV166 h0 tp h0_tapeLength h0_faultKind h0_faultPlace nw im sl rd wk fm mt ch dy sl cA_sl f_sl r0 r0_width r0_size r0_numbers r0_numbers cA_r0_numbers f_r0_numbers r1 r1_width r1_size r1_numbers r1_numbers cA_r1_numbers f_r1_numbers r2 r2_width r2_size r2_numbers r2_numbers cA_r2_numbers f_r2_numbers r3 r3_width r3_size r3_numbers r3_numbers cA_r3_numbers f_r3_numbers) sz) := by
  refine z_enter (by decide) (by exact (Nat.le_of_ble_eq_true rfl)) ?_
  intro p e s m args below meth c ls A R Qc hargs hsz hQe hAe hRe hx hb hml hr hts hown hlocks hin hl hP hK hD hN hXs hA hS
  rw [hAe] at hQe
  have hown : s.vm.findClass RX9 = some m.cls := hown
  have hl : lv_has ls 4 [(0, .ref h0), (1, .int p1), (2, .int p2), (3, .int p3)] := hl
  refine lv_iload_n hx hb dX9_row_0 rfl (lv_at hl 1 rfl) ?_
  obtain ⟨hPc, hDc, hFc⟩ := z_cut (wc := []) hP hD hS hA [] rfl (by decide +kernel)
  have hKc := hK.sub (tys' := []) [] rfl
  refine va_calli (va_runS (As := [.int p1]) (rest := []) ⟨hx, hb, hml, hown, hts⟩ (k_X9_isSlot_v2 l sa dC dI p1 s.heap.size) (va_cwS 1 hts (z_gS zw_t5_219 zw_t5_220 zw_t1_1 zw_t5_221) rfl rfl rfl (by decide +kernel) (by rw [← hRe]; exact ⟨(Nat.le_of_ble_eq_true rfl), (Nat.le_of_ble_eq_true rfl)⟩)) (z_preS hPc hKc hDc hN hXs hS hFc) rfl rfl hl.1 rfl (lv_room (Nat.le_of_ble_eq_true rfl)) dX9_row_1 (by rw [← hRe]; exact ⟨(Nat.le_of_ble_eq_true rfl), (Nat.le_of_ble_eq_true rfl)⟩)) hS (fun q _ h => hFc q h) hFc (fun r_1 u t H1 locs ht hvm hw hB hz1 hk1 hS => ?_)
  obtain ⟨hP, hD, hK⟩ := z_after3 (wn := (zV166 h0 tp h0_tapeLength h0_faultKind h0_faultPlace nw im sl rd wk fm mt ch dy sl cA_sl f_sl r0 r0_width r0_size r0_numbers r0_numbers cA_r0_numbers f_r0_numbers r1 r1_width r1_size r1_numbers r1_numbers cA_r1_numbers f_r1_numbers r2 r2_width r2_size r2_numbers r2_numbers cA_r2_numbers f_r2_numbers r3 r3_width r3_size r3_numbers r3_numbers cA_r3_numbers f_r3_numbers)) hB ht hvm hP hD hK [] [0, 1, 2, 3, 4, 5, 6, 7, 8, 9] rfl 10 rfl (by decide +kernel) rfl (by decide +kernel) hk1 hFc
  generalize H1 = H at hP hS ⊢
  have hK : va_K (dC, dI) vwCl [(cA_sl, .object RX6), (cA_r0_numbers, .long), (cA_r1_numbers, .long), (cA_r2_numbers, .long), (cA_r3_numbers, .long)] s := hK
  have b_r_1 : 0 ≤ r_1.toInt ∧ r_1.toInt ≤ 1 := hw.1
  have s_r_1 := hw.2
  refine lv_if_eq (tgt := 22) hx hb dX9_row_4 (by decide) (fun c_2 => ?_) (fun c_2 => ?_)
  · have ic_2 := zz_eq rfl (show Int32.toInt 0 = 0 from by decide) c_2
    refine lv_bipush (v := (-2)) hx hb dX9_row_22 (by decide) ?_
    have zc : Int32.toInt (-2) = (-2) := by decide
    exact W.iret (v := (-2)) hx hb hr (fun t ht hW => by rw [← hQe]; exact ⟨⟨(-2), (-2), rfl, ⟨rfl, (by first | with_reducible assumption | omega)⟩, ⟨r0_width, r0_size, f_r0_numbers, r1_width, r1_size, f_r1_numbers, r2_width, r2_size, f_r2_numbers, r3_width, r3_size, f_r3_numbers, (by first | with_reducible assumption | omega), (by first | with_reducible assumption | omega), (by first | with_reducible assumption | omega), (by first | with_reducible assumption | omega), (by first | omega | assumption), (by first | omega | assumption), (by first | omega | assumption), (by first | omega | assumption), z_ret hP hK hD ht hW [0, 1, 2, 3, 4, 5, 6, 7, 8, 9] [] rfl (by decide) rfl⟩⟩, hS.F ht⟩) hS.2.2 dX9_row_24
  · have ic_2 := zz_neq rfl (show Int32.toInt 0 = 0 from by decide) c_2
    refine lv_iload_n hx hb dX9_row_7 rfl (lv_at hl 2 rfl) ?_
    have nb_p2 := zi_nb p2
    refine lv_if_lt (tgt := 22) hx hb dX9_row_8 (by decide) (fun c_3 => ?_) (fun c_3 => ?_)
    · have ic_3 := zz_lt rfl (show Int32.toInt 0 = 0 from by decide) c_3
      refine lv_bipush (v := (-2)) hx hb dX9_row_22 (by decide) ?_
      have zc : Int32.toInt (-2) = (-2) := by decide
      exact W.iret (v := (-2)) hx hb hr (fun t ht hW => by rw [← hQe]; exact ⟨⟨(-2), (-2), rfl, ⟨rfl, (by first | with_reducible assumption | omega)⟩, ⟨r0_width, r0_size, f_r0_numbers, r1_width, r1_size, f_r1_numbers, r2_width, r2_size, f_r2_numbers, r3_width, r3_size, f_r3_numbers, (by first | with_reducible assumption | omega), (by first | with_reducible assumption | omega), (by first | with_reducible assumption | omega), (by first | with_reducible assumption | omega), (by first | omega | assumption), (by first | omega | assumption), (by first | omega | assumption), (by first | omega | assumption), z_ret hP hK hD ht hW [0, 1, 2, 3, 4, 5, 6, 7, 8, 9] [] rfl (by decide) rfl⟩⟩, hS.F ht⟩) hS.2.2 dX9_row_24
    · have ic_3 := zz_nlt rfl (show Int32.toInt 0 = 0 from by decide) c_3
      refine lv_iload_n hx hb dX9_row_11 rfl (lv_at hl 2 rfl) ?_
      refine lv_iconst (v := 3) hx hb dX9_row_12 (by decide) ?_
      refine lv_icmp_gt (tgt := 22) hx hb dX9_row_13 (by decide) (fun c_4 => ?_) (fun c_4 => ?_)
      · have ic_4 := zz_gt rfl (show Int32.toInt 3 = 3 from by decide) c_4
        refine lv_bipush (v := (-2)) hx hb dX9_row_22 (by decide) ?_
        have zc : Int32.toInt (-2) = (-2) := by decide
        exact W.iret (v := (-2)) hx hb hr (fun t ht hW => by rw [← hQe]; exact ⟨⟨(-2), (-2), rfl, ⟨rfl, (by first | with_reducible assumption | omega)⟩, ⟨r0_width, r0_size, f_r0_numbers, r1_width, r1_size, f_r1_numbers, r2_width, r2_size, f_r2_numbers, r3_width, r3_size, f_r3_numbers, (by first | with_reducible assumption | omega), (by first | with_reducible assumption | omega), (by first | with_reducible assumption | omega), (by first | with_reducible assumption | omega), (by first | omega | assumption), (by first | omega | assumption), (by first | omega | assumption), (by first | omega | assumption), z_ret hP hK hD ht hW [0, 1, 2, 3, 4, 5, 6, 7, 8, 9] [] rfl (by decide) rfl⟩⟩, hS.F ht⟩) hS.2.2 dX9_row_24
      · have ic_4 := zz_ngt rfl (show Int32.toInt 3 = 3 from by decide) c_4
        refine lv_iload_n hx hb dX9_row_16 rfl (lv_at hl 3 rfl) ?_
        refine lv_bipush (v := 60) hx hb dX9_row_17 (by decide) ?_
        have nb_p3 := zi_nb p3
        refine lv_icmp_le (tgt := 25) hx hb dX9_row_19 (by decide) (fun c_5 => ?_) (fun c_5 => ?_)
        · have ic_5 := zz_le rfl (show Int32.toInt 60 = 60 from by decide) c_5
          refine lv_iload_n hx hb dX9_row_25 rfl (lv_at hl 3 rfl) ?_
          refine lv_if_ge (tgt := 32) hx hb dX9_row_26 (by decide) (fun c_6 => ?_) (fun c_6 => ?_)
          · have ic_6 := zz_ge rfl (show Int32.toInt 0 = 0 from by decide) c_6
            refine lv_aload_n hx hb dX9_row_32 rfl (lv_at hl 0 rfl) ?_
            refine va_get (D := (dC, dI)) (ci := 9) (v := .ref sl) (C := RX9) (T := TX9) (N := 13) hx hb hts zl_X9 hown hK hP 0 rfl rfl 6 (by decide) (hts _ zw_t2_195) (fun _ h9 => h9) rfl dX9_row_33 ?_
            refine lv_iload_n hx hb dX9_row_36 rfl (lv_at hl 1 rfl) ?_
            rcases z_s3 p1 with q_sw | rfl | rfl | rfl | rfl | q_sw
            · omega
            · have zc_0 : Int32.toInt 0 = 0 := by decide
              refine va_aldq hx hb hK hP 1 0 rfl rfl (zi_in (show Int32.toInt 0 = 0 from by decide) (by first | with_reducible assumption | omega)) dX9_row_37 ?_
              refine W.eq (g2 := F0 m 38 ls (.ref r0 :: [])) (by rw [show f_sl (Int32.toNatClampNeg 0) = some r0 from (by rw [show Int32.toNatClampNeg 0 = 0 from by decide]; exact hsl0)]; rfl) ?_
              refine lv_iload_n hx hb dX9_row_38 rfl (lv_at hl 2 rfl) ?_
              refine lv_iload_n hx hb dX9_row_39 rfl (lv_at hl 3 rfl) ?_
              obtain ⟨hPc, hDc, hFc⟩ := z_cut (wc := (zV7 r0 r0_width r0_size r0_numbers r0_numbers cA_r0_numbers f_r0_numbers)) hP hD hS hA [2, 3] rfl (by decide +kernel)
              have hKc := hK.sub (tys' := [(cA_r0_numbers, .long)]) [1] rfl
              refine va_callv (va_runV (As := [.int p2, .int p3]) (rest := []) ⟨hx, hb, hml, hown, hts⟩ (k_X6_make_v1 l sa dC dI r0 p2 p3 r0_width r0_size r0_numbers cA_r0_numbers f_r0_numbers (by first | with_reducible assumption | omega) b_r0_size H.size) (cwV 2 hts (z_gV zw_t6_71 zw_t6_72 zw_t6_73 zw_t1_10 zw_t6_74) rfl rfl rfl (by decide +kernel) (by rw [← hRe]; exact ⟨(Nat.le_of_ble_eq_true rfl), (Nat.le_of_ble_eq_true rfl)⟩)) (z_preV hPc hKc hDc hN hXs hS hFc (q := (RX6, TX6, 3)) (ci := 6) (q0 := 0) rfl rfl) rfl rfl hl.1 rfl (lv_room (Nat.le_of_ble_eq_true rfl)) dX9_row_40 (by rw [← hRe]; exact ⟨(Nat.le_of_ble_eq_true rfl), (Nat.le_of_ble_eq_true rfl)⟩)) hS (fun q _ h => hFc q h) hFc (fun u t H1 locs ht hvm hw hB hz1 hk1 hS => ?_)
              obtain ⟨n_rw_8, n_rw_9, n_rw_numbers_10, b_n_rw_9, hf_11, hf_12, hB⟩ := hB
              obtain ⟨hP, hD, hK⟩ := z_after3 (wn := (zV166 h0 tp h0_tapeLength h0_faultKind h0_faultPlace nw im sl rd wk fm mt ch dy sl cA_sl f_sl r1 r1_width r1_size r1_numbers r1_numbers cA_r1_numbers f_r1_numbers r2 r2_width r2_size r2_numbers r2_numbers cA_r2_numbers f_r2_numbers r3 r3_width r3_size r3_numbers r3_numbers cA_r3_numbers f_r3_numbers r0 n_rw_8 n_rw_9 r0_numbers r0_numbers cA_r0_numbers n_rw_numbers_10)) hB ht hvm hP hD hK [2, 3] [0, 1, 4, 5, 6, 7, 8, 9] rfl 10 rfl (by decide +kernel) rfl (by decide +kernel) hk1 hFc
              generalize H1 = H at hP hS ⊢
              have hK : va_K (dC, dI) vwCl [(cA_sl, .object RX6), (cA_r0_numbers, .long), (cA_r1_numbers, .long), (cA_r2_numbers, .long), (cA_r3_numbers, .long)] s := hK
              refine lv_iconst (v := 0) hx hb dX9_row_43 (by decide) ?_
              have zc : Int32.toInt 0 = 0 := by decide
              exact W.iret (v := 0) hx hb hr (fun t ht hW => by rw [← hQe]; exact ⟨⟨0, 0, rfl, ⟨rfl, (by first | with_reducible assumption | omega)⟩, ⟨n_rw_8, n_rw_9, n_rw_numbers_10, r1_width, r1_size, f_r1_numbers, r2_width, r2_size, f_r2_numbers, r3_width, r3_size, f_r3_numbers, (by first | with_reducible assumption | omega), (by first | with_reducible assumption | omega), (by first | with_reducible assumption | omega), (by first | with_reducible assumption | omega), (by first | omega | assumption), (by first | omega | assumption), (by first | omega | assumption), (by first | omega | assumption), z_ret hP hK hD ht hW [0, 1, 8, 9, 2, 3, 4, 5, 6, 7] [] rfl (by decide) rfl⟩⟩, hS.F ht⟩) hS.2.2 dX9_row_44
            · have zc_1 : Int32.toInt 1 = 1 := by decide
              refine va_aldq hx hb hK hP 1 0 rfl rfl (zi_in (show Int32.toInt 1 = 1 from by decide) (by first | with_reducible assumption | omega)) dX9_row_37 ?_
              refine W.eq (g2 := F0 m 38 ls (.ref r1 :: [])) (by rw [show f_sl (Int32.toNatClampNeg 1) = some r1 from (by rw [show Int32.toNatClampNeg 1 = 1 from by decide]; exact hsl1)]; rfl) ?_
              refine lv_iload_n hx hb dX9_row_38 rfl (lv_at hl 2 rfl) ?_
              refine lv_iload_n hx hb dX9_row_39 rfl (lv_at hl 3 rfl) ?_
              obtain ⟨hPc, hDc, hFc⟩ := z_cut (wc := (zV7 r1 r1_width r1_size r1_numbers r1_numbers cA_r1_numbers f_r1_numbers)) hP hD hS hA [4, 5] rfl (by decide +kernel)
              have hKc := hK.sub (tys' := [(cA_r1_numbers, .long)]) [2] rfl
              refine va_callv (va_runV (As := [.int p2, .int p3]) (rest := []) ⟨hx, hb, hml, hown, hts⟩ (k_X6_make_v1 l sa dC dI r1 p2 p3 r1_width r1_size r1_numbers cA_r1_numbers f_r1_numbers (by first | with_reducible assumption | omega) b_r1_size H.size) (cwV 2 hts (z_gV zw_t6_71 zw_t6_72 zw_t6_73 zw_t1_10 zw_t6_74) rfl rfl rfl (by decide +kernel) (by rw [← hRe]; exact ⟨(Nat.le_of_ble_eq_true rfl), (Nat.le_of_ble_eq_true rfl)⟩)) (z_preV hPc hKc hDc hN hXs hS hFc (q := (RX6, TX6, 3)) (ci := 6) (q0 := 0) rfl rfl) rfl rfl hl.1 rfl (lv_room (Nat.le_of_ble_eq_true rfl)) dX9_row_40 (by rw [← hRe]; exact ⟨(Nat.le_of_ble_eq_true rfl), (Nat.le_of_ble_eq_true rfl)⟩)) hS (fun q _ h => hFc q h) hFc (fun u t H1 locs ht hvm hw hB hz1 hk1 hS => ?_)
              obtain ⟨n_rw_14, n_rw_15, n_rw_numbers_16, b_n_rw_15, hf_17, hf_18, hB⟩ := hB
              obtain ⟨hP, hD, hK⟩ := z_after3 (wn := (zV166 h0 tp h0_tapeLength h0_faultKind h0_faultPlace nw im sl rd wk fm mt ch dy sl cA_sl f_sl r0 r0_width r0_size r0_numbers r0_numbers cA_r0_numbers f_r0_numbers r2 r2_width r2_size r2_numbers r2_numbers cA_r2_numbers f_r2_numbers r3 r3_width r3_size r3_numbers r3_numbers cA_r3_numbers f_r3_numbers r1 n_rw_14 n_rw_15 r1_numbers r1_numbers cA_r1_numbers n_rw_numbers_16)) hB ht hvm hP hD hK [4, 5] [0, 1, 2, 3, 6, 7, 8, 9] rfl 10 rfl (by decide +kernel) rfl (by decide +kernel) hk1 hFc
              generalize H1 = H at hP hS ⊢
              have hK : va_K (dC, dI) vwCl [(cA_sl, .object RX6), (cA_r0_numbers, .long), (cA_r1_numbers, .long), (cA_r2_numbers, .long), (cA_r3_numbers, .long)] s := hK
              refine lv_iconst (v := 0) hx hb dX9_row_43 (by decide) ?_
              have zc : Int32.toInt 0 = 0 := by decide
              exact W.iret (v := 0) hx hb hr (fun t ht hW => by rw [← hQe]; exact ⟨⟨0, 0, rfl, ⟨rfl, (by first | with_reducible assumption | omega)⟩, ⟨r0_width, r0_size, f_r0_numbers, n_rw_14, n_rw_15, n_rw_numbers_16, r2_width, r2_size, f_r2_numbers, r3_width, r3_size, f_r3_numbers, (by first | with_reducible assumption | omega), (by first | with_reducible assumption | omega), (by first | with_reducible assumption | omega), (by first | with_reducible assumption | omega), (by first | omega | assumption), (by first | omega | assumption), (by first | omega | assumption), (by first | omega | assumption), z_ret hP hK hD ht hW [0, 1, 2, 3, 8, 9, 4, 5, 6, 7] [] rfl (by decide) rfl⟩⟩, hS.F ht⟩) hS.2.2 dX9_row_44
            · have zc_2 : Int32.toInt 2 = 2 := by decide
              refine va_aldq hx hb hK hP 1 0 rfl rfl (zi_in (show Int32.toInt 2 = 2 from by decide) (by first | with_reducible assumption | omega)) dX9_row_37 ?_
              refine W.eq (g2 := F0 m 38 ls (.ref r2 :: [])) (by rw [show f_sl (Int32.toNatClampNeg 2) = some r2 from (by rw [show Int32.toNatClampNeg 2 = 2 from by decide]; exact hsl2)]; rfl) ?_
              refine lv_iload_n hx hb dX9_row_38 rfl (lv_at hl 2 rfl) ?_
              refine lv_iload_n hx hb dX9_row_39 rfl (lv_at hl 3 rfl) ?_
              obtain ⟨hPc, hDc, hFc⟩ := z_cut (wc := (zV7 r2 r2_width r2_size r2_numbers r2_numbers cA_r2_numbers f_r2_numbers)) hP hD hS hA [6, 7] rfl (by decide +kernel)
              have hKc := hK.sub (tys' := [(cA_r2_numbers, .long)]) [3] rfl
              refine va_callv (va_runV (As := [.int p2, .int p3]) (rest := []) ⟨hx, hb, hml, hown, hts⟩ (k_X6_make_v1 l sa dC dI r2 p2 p3 r2_width r2_size r2_numbers cA_r2_numbers f_r2_numbers (by first | with_reducible assumption | omega) b_r2_size H.size) (cwV 2 hts (z_gV zw_t6_71 zw_t6_72 zw_t6_73 zw_t1_10 zw_t6_74) rfl rfl rfl (by decide +kernel) (by rw [← hRe]; exact ⟨(Nat.le_of_ble_eq_true rfl), (Nat.le_of_ble_eq_true rfl)⟩)) (z_preV hPc hKc hDc hN hXs hS hFc (q := (RX6, TX6, 3)) (ci := 6) (q0 := 0) rfl rfl) rfl rfl hl.1 rfl (lv_room (Nat.le_of_ble_eq_true rfl)) dX9_row_40 (by rw [← hRe]; exact ⟨(Nat.le_of_ble_eq_true rfl), (Nat.le_of_ble_eq_true rfl)⟩)) hS (fun q _ h => hFc q h) hFc (fun u t H1 locs ht hvm hw hB hz1 hk1 hS => ?_)
              obtain ⟨n_rw_20, n_rw_21, n_rw_numbers_22, b_n_rw_21, hf_23, hf_24, hB⟩ := hB
              obtain ⟨hP, hD, hK⟩ := z_after3 (wn := (zV166 h0 tp h0_tapeLength h0_faultKind h0_faultPlace nw im sl rd wk fm mt ch dy sl cA_sl f_sl r0 r0_width r0_size r0_numbers r0_numbers cA_r0_numbers f_r0_numbers r1 r1_width r1_size r1_numbers r1_numbers cA_r1_numbers f_r1_numbers r3 r3_width r3_size r3_numbers r3_numbers cA_r3_numbers f_r3_numbers r2 n_rw_20 n_rw_21 r2_numbers r2_numbers cA_r2_numbers n_rw_numbers_22)) hB ht hvm hP hD hK [6, 7] [0, 1, 2, 3, 4, 5, 8, 9] rfl 10 rfl (by decide +kernel) rfl (by decide +kernel) hk1 hFc
              generalize H1 = H at hP hS ⊢
              have hK : va_K (dC, dI) vwCl [(cA_sl, .object RX6), (cA_r0_numbers, .long), (cA_r1_numbers, .long), (cA_r2_numbers, .long), (cA_r3_numbers, .long)] s := hK
              refine lv_iconst (v := 0) hx hb dX9_row_43 (by decide) ?_
              have zc : Int32.toInt 0 = 0 := by decide
              exact W.iret (v := 0) hx hb hr (fun t ht hW => by rw [← hQe]; exact ⟨⟨0, 0, rfl, ⟨rfl, (by first | with_reducible assumption | omega)⟩, ⟨r0_width, r0_size, f_r0_numbers, r1_width, r1_size, f_r1_numbers, n_rw_20, n_rw_21, n_rw_numbers_22, r3_width, r3_size, f_r3_numbers, (by first | with_reducible assumption | omega), (by first | with_reducible assumption | omega), (by first | with_reducible assumption | omega), (by first | with_reducible assumption | omega), (by first | omega | assumption), (by first | omega | assumption), (by first | omega | assumption), (by first | omega | assumption), z_ret hP hK hD ht hW [0, 1, 2, 3, 4, 5, 8, 9, 6, 7] [] rfl (by decide) rfl⟩⟩, hS.F ht⟩) hS.2.2 dX9_row_44
            · have zc_3 : Int32.toInt 3 = 3 := by decide
              refine va_aldq hx hb hK hP 1 0 rfl rfl (zi_in (show Int32.toInt 3 = 3 from by decide) (by first | with_reducible assumption | omega)) dX9_row_37 ?_
              refine W.eq (g2 := F0 m 38 ls (.ref r3 :: [])) (by rw [show f_sl (Int32.toNatClampNeg 3) = some r3 from (by rw [show Int32.toNatClampNeg 3 = 3 from by decide]; exact hsl3)]; rfl) ?_
              refine lv_iload_n hx hb dX9_row_38 rfl (lv_at hl 2 rfl) ?_
              refine lv_iload_n hx hb dX9_row_39 rfl (lv_at hl 3 rfl) ?_
              obtain ⟨hPc, hDc, hFc⟩ := z_cut (wc := (zV7 r3 r3_width r3_size r3_numbers r3_numbers cA_r3_numbers f_r3_numbers)) hP hD hS hA [8, 9] rfl (by decide +kernel)
              have hKc := hK.sub (tys' := [(cA_r3_numbers, .long)]) [4] rfl
              refine va_callv (va_runV (As := [.int p2, .int p3]) (rest := []) ⟨hx, hb, hml, hown, hts⟩ (k_X6_make_v1 l sa dC dI r3 p2 p3 r3_width r3_size r3_numbers cA_r3_numbers f_r3_numbers (by first | with_reducible assumption | omega) b_r3_size H.size) (cwV 2 hts (z_gV zw_t6_71 zw_t6_72 zw_t6_73 zw_t1_10 zw_t6_74) rfl rfl rfl (by decide +kernel) (by rw [← hRe]; exact ⟨(Nat.le_of_ble_eq_true rfl), (Nat.le_of_ble_eq_true rfl)⟩)) (z_preV hPc hKc hDc hN hXs hS hFc (q := (RX6, TX6, 3)) (ci := 6) (q0 := 0) rfl rfl) rfl rfl hl.1 rfl (lv_room (Nat.le_of_ble_eq_true rfl)) dX9_row_40 (by rw [← hRe]; exact ⟨(Nat.le_of_ble_eq_true rfl), (Nat.le_of_ble_eq_true rfl)⟩)) hS (fun q _ h => hFc q h) hFc (fun u t H1 locs ht hvm hw hB hz1 hk1 hS => ?_)
              obtain ⟨n_rw_26, n_rw_27, n_rw_numbers_28, b_n_rw_27, hf_29, hf_30, hB⟩ := hB
              obtain ⟨hP, hD, hK⟩ := z_after3 (wn := (zV166 h0 tp h0_tapeLength h0_faultKind h0_faultPlace nw im sl rd wk fm mt ch dy sl cA_sl f_sl r0 r0_width r0_size r0_numbers r0_numbers cA_r0_numbers f_r0_numbers r1 r1_width r1_size r1_numbers r1_numbers cA_r1_numbers f_r1_numbers r2 r2_width r2_size r2_numbers r2_numbers cA_r2_numbers f_r2_numbers r3 n_rw_26 n_rw_27 r3_numbers r3_numbers cA_r3_numbers n_rw_numbers_28)) hB ht hvm hP hD hK [8, 9] [0, 1, 2, 3, 4, 5, 6, 7] rfl 10 rfl (by decide +kernel) rfl (by decide +kernel) hk1 hFc
              generalize H1 = H at hP hS ⊢
              have hK : va_K (dC, dI) vwCl [(cA_sl, .object RX6), (cA_r0_numbers, .long), (cA_r1_numbers, .long), (cA_r2_numbers, .long), (cA_r3_numbers, .long)] s := hK
              refine lv_iconst (v := 0) hx hb dX9_row_43 (by decide) ?_
              have zc : Int32.toInt 0 = 0 := by decide
              exact W.iret (v := 0) hx hb hr (fun t ht hW => by rw [← hQe]; exact ⟨⟨0, 0, rfl, ⟨rfl, (by first | with_reducible assumption | omega)⟩, ⟨r0_width, r0_size, f_r0_numbers, r1_width, r1_size, f_r1_numbers, r2_width, r2_size, f_r2_numbers, n_rw_26, n_rw_27, n_rw_numbers_28, (by first | with_reducible assumption | omega), (by first | with_reducible assumption | omega), (by first | with_reducible assumption | omega), (by first | with_reducible assumption | omega), (by first | omega | assumption), (by first | omega | assumption), (by first | omega | assumption), (by first | omega | assumption), z_ret hP hK hD ht hW [0, 1, 2, 3, 4, 5, 6, 7, 8, 9] [] rfl (by decide) rfl⟩⟩, hS.F ht⟩) hS.2.2 dX9_row_44
            · omega
          · have ic_6 := zz_nge rfl (show Int32.toInt 0 = 0 from by decide) c_6
            refine lv_bipush (v := (-3)) hx hb dX9_row_29 (by decide) ?_
            have zc : Int32.toInt (-3) = (-3) := by decide
            exact W.iret (v := (-3)) hx hb hr (fun t ht hW => by rw [← hQe]; exact ⟨⟨(-3), (-3), rfl, ⟨rfl, (by first | with_reducible assumption | omega)⟩, ⟨r0_width, r0_size, f_r0_numbers, r1_width, r1_size, f_r1_numbers, r2_width, r2_size, f_r2_numbers, r3_width, r3_size, f_r3_numbers, (by first | with_reducible assumption | omega), (by first | with_reducible assumption | omega), (by first | with_reducible assumption | omega), (by first | with_reducible assumption | omega), (by first | omega | assumption), (by first | omega | assumption), (by first | omega | assumption), (by first | omega | assumption), z_ret hP hK hD ht hW [0, 1, 2, 3, 4, 5, 6, 7, 8, 9] [] rfl (by decide) rfl⟩⟩, hS.F ht⟩) hS.2.2 dX9_row_31
        · have ic_5 := zz_nle rfl (show Int32.toInt 60 = 60 from by decide) c_5
          refine lv_bipush (v := (-2)) hx hb dX9_row_22 (by decide) ?_
          have zc : Int32.toInt (-2) = (-2) := by decide
          exact W.iret (v := (-2)) hx hb hr (fun t ht hW => by rw [← hQe]; exact ⟨⟨(-2), (-2), rfl, ⟨rfl, (by first | with_reducible assumption | omega)⟩, ⟨r0_width, r0_size, f_r0_numbers, r1_width, r1_size, f_r1_numbers, r2_width, r2_size, f_r2_numbers, r3_width, r3_size, f_r3_numbers, (by first | with_reducible assumption | omega), (by first | with_reducible assumption | omega), (by first | with_reducible assumption | omega), (by first | with_reducible assumption | omega), (by first | omega | assumption), (by first | omega | assumption), (by first | omega | assumption), (by first | omega | assumption), z_ret hP hK hD ht hW [0, 1, 2, 3, 4, 5, 6, 7, 8, 9] [] rfl (by decide) rfl⟩⟩, hS.F ht⟩) hS.2.2 dX9_row_24
set_option maxHeartbeats 4000000 in
set_option maxRecDepth 100000 in
theorem k_X9_write_v1 (l : Launch) (sa : Nat → Nat) (dC : Nat → ClassId) (dI : Nat → Nat → Nat) (h0 : Nat) (p1 : Int32) (p2 : Int32) (p3 : Int64) (tp : Nat) (h0_tapeLength : Int32) (h0_faultKind : Int32) (h0_faultPlace : Int32) (nw : Nat) (im : Nat) (sl : Nat) (rd : Nat) (wk : Nat) (fm : Nat) (mt : Nat) (ch : Nat) (dy : Nat) (cA_sl : ClassId) (f_sl : Nat → Option Nat) (r0 : Nat) (r1 : Nat) (r2 : Nat) (r3 : Nat) (r0_width : Int32) (r0_size : Int32) (r0_numbers : Nat) (cA_r0_numbers : ClassId) (f_r0_numbers : Nat → Int64) (r1_width : Int32) (r1_size : Int32) (r1_numbers : Nat) (cA_r1_numbers : ClassId) (f_r1_numbers : Nat → Int64) (r2_width : Int32) (r2_size : Int32) (r2_numbers : Nat) (cA_r2_numbers : ClassId) (f_r2_numbers : Nat → Int64) (r3_width : Int32) (r3_size : Int32) (r3_numbers : Nat) (cA_r3_numbers : ClassId) (f_r3_numbers : Nat → Int64) (b_h0_tapeLength : 0 ≤ h0_tapeLength.toInt ∧ h0_tapeLength.toInt ≤ 1600) (hsl0 : f_sl 0 = some r0) (hsl1 : f_sl 1 = some r1) (hsl2 : f_sl 2 = some r2) (hsl3 : f_sl 3 = some r3) (b_r0_size : 0 ≤ r0_size.toInt ∧ r0_size.toInt ≤ 60) (b_r1_size : 0 ≤ r1_size.toInt ∧ r1_size.toInt ≤ 60) (b_r2_size : 0 ≤ r2_size.toInt ∧ r2_size.toInt ≤ 60) (b_r3_size : 0 ≤ r3_size.toInt ∧ r3_size.toInt ≤ 60) (sz : Nat) : Met l yX9_write (.code yX9_write cX9_write 6 (some .int) :: zT) ({ frames := 1, cells := 0, slots := 0, locals := 23 }) (va_Pc [.ref h0, .int p1, .int p2, .long p3] (zB sa dC dI (zV166 h0 tp h0_tapeLength h0_faultKind h0_faultPlace nw im sl rd wk fm mt ch dy sl cA_sl f_sl r0 r0_width r0_size r0_numbers r0_numbers cA_r0_numbers f_r0_numbers r1 r1_width r1_size r1_numbers r1_numbers cA_r1_numbers f_r1_numbers r2 r2_width r2_size r2_numbers r2_numbers cA_r2_numbers f_r2_numbers r3 r3_width r3_size r3_numbers r3_numbers cA_r3_numbers f_r3_numbers) [(cA_sl, .object RX6), (cA_r0_numbers, .long), (cA_r1_numbers, .long), (cA_r2_numbers, .long), (cA_r3_numbers, .long)] sz)) (va_Qi (fun (r : Int32) (_ : Unit) => ((-7) ≤ r.toInt ∧ r.toInt ≤ 0) ∧ zWr (zSel r0_width.toInt r1_width.toInt r2_width.toInt r3_width.toInt) (zSel r0_size.toInt r1_size.toInt r2_size.toInt r3_size.toInt) p1.toInt p2.toInt r.toInt) (fun _ t => ∃ (n_r0_numbers : Nat → Int64) (n_r1_numbers : Nat → Int64) (n_r2_numbers : Nat → Int64) (n_r3_numbers : Nat → Int64), zW dC dI (zV166 h0 tp h0_tapeLength h0_faultKind h0_faultPlace nw im sl rd wk fm mt ch dy sl cA_sl f_sl r0 r0_width r0_size r0_numbers r0_numbers cA_r0_numbers n_r0_numbers r1 r1_width r1_size r1_numbers r1_numbers cA_r1_numbers n_r1_numbers r2 r2_width r2_size r2_numbers r2_numbers cA_r2_numbers n_r2_numbers r3 r3_width r3_size r3_numbers r3_numbers cA_r3_numbers n_r3_numbers) [] (va_A (zV166 h0 tp h0_tapeLength h0_faultKind h0_faultPlace nw im sl rd wk fm mt ch dy sl cA_sl f_sl r0 r0_width r0_size r0_numbers r0_numbers cA_r0_numbers f_r0_numbers r1 r1_width r1_size r1_numbers r1_numbers cA_r1_numbers f_r1_numbers r2 r2_width r2_size r2_numbers r2_numbers cA_r2_numbers f_r2_numbers r3 r3_width r3_size r3_numbers r3_numbers cA_r3_numbers f_r3_numbers) sz) t) (va_A (zV166 h0 tp h0_tapeLength h0_faultKind h0_faultPlace nw im sl rd wk fm mt ch dy sl cA_sl f_sl r0 r0_width r0_size r0_numbers r0_numbers cA_r0_numbers f_r0_numbers r1 r1_width r1_size r1_numbers r1_numbers cA_r1_numbers f_r1_numbers r2 r2_width r2_size r2_numbers r2_numbers cA_r2_numbers f_r2_numbers r3 r3_width r3_size r3_numbers r3_numbers cA_r3_numbers f_r3_numbers) sz)) 0 0 (va_A (zV166 h0 tp h0_tapeLength h0_faultKind h0_faultPlace nw im sl rd wk fm mt ch dy sl cA_sl f_sl r0 r0_width r0_size r0_numbers r0_numbers cA_r0_numbers f_r0_numbers r1 r1_width r1_size r1_numbers r1_numbers cA_r1_numbers f_r1_numbers r2 r2_width r2_size r2_numbers r2_numbers cA_r2_numbers f_r2_numbers r3 r3_width r3_size r3_numbers r3_numbers cA_r3_numbers f_r3_numbers) sz) := by
  refine z_enter (by decide) (by exact (Nat.le_of_ble_eq_true rfl)) ?_
  intro p e s m args below meth c ls A R Qc hargs hsz hQe hAe hRe hx hb hml hr hts hown hlocks hin hl hP hK hD hN hXs hA hS
  rw [hAe] at hQe
  have hown : s.vm.findClass RX9 = some m.cls := hown
  have hl : lv_has ls 6 [(0, .ref h0), (1, .int p1), (2, .int p2), (3, .long p3)] := hl
  refine lv_iload_n hx hb dX9_write_0 rfl (lv_at hl 1 rfl) ?_
  obtain ⟨hPc, hDc, hFc⟩ := z_cut (wc := []) hP hD hS hA [] rfl (by decide +kernel)
  have hKc := hK.sub (tys' := []) [] rfl
  refine va_calli (va_runS (As := [.int p1]) (rest := []) ⟨hx, hb, hml, hown, hts⟩ (k_X9_isSlot_v2 l sa dC dI p1 s.heap.size) (va_cwS 1 hts (z_gS zw_t5_219 zw_t5_220 zw_t1_1 zw_t5_221) rfl rfl rfl (by decide +kernel) (by rw [← hRe]; exact ⟨(Nat.le_of_ble_eq_true rfl), (Nat.le_of_ble_eq_true rfl)⟩)) (z_preS hPc hKc hDc hN hXs hS hFc) rfl rfl hl.1 rfl (lv_room (Nat.le_of_ble_eq_true rfl)) dX9_write_1 (by rw [← hRe]; exact ⟨(Nat.le_of_ble_eq_true rfl), (Nat.le_of_ble_eq_true rfl)⟩)) hS (fun q _ h => hFc q h) hFc (fun r_1 u t H1 locs ht hvm hw hB hz1 hk1 hS => ?_)
  obtain ⟨hP, hD, hK⟩ := z_after3 (wn := (zV166 h0 tp h0_tapeLength h0_faultKind h0_faultPlace nw im sl rd wk fm mt ch dy sl cA_sl f_sl r0 r0_width r0_size r0_numbers r0_numbers cA_r0_numbers f_r0_numbers r1 r1_width r1_size r1_numbers r1_numbers cA_r1_numbers f_r1_numbers r2 r2_width r2_size r2_numbers r2_numbers cA_r2_numbers f_r2_numbers r3 r3_width r3_size r3_numbers r3_numbers cA_r3_numbers f_r3_numbers)) hB ht hvm hP hD hK [] [0, 1, 2, 3, 4, 5, 6, 7, 8, 9] rfl 10 rfl (by decide +kernel) rfl (by decide +kernel) hk1 hFc
  generalize H1 = H at hP hS ⊢
  have hK : va_K (dC, dI) vwCl [(cA_sl, .object RX6), (cA_r0_numbers, .long), (cA_r1_numbers, .long), (cA_r2_numbers, .long), (cA_r3_numbers, .long)] s := hK
  have b_r_1 : 0 ≤ r_1.toInt ∧ r_1.toInt ≤ 1 := hw.1
  have s_r_1 := hw.2
  refine lv_if_ne (tgt := 10) hx hb dX9_write_4 (by decide) (fun c_2 => ?_) (fun c_2 => ?_)
  · have ic_2 := zz_ne rfl (show Int32.toInt 0 = 0 from by decide) c_2
    refine lv_aload_n hx hb dX9_write_10 rfl (lv_at hl 0 rfl) ?_
    refine va_get (D := (dC, dI)) (ci := 9) (v := .ref sl) (C := RX9) (T := TX9) (N := 13) hx hb hts zl_X9 hown hK hP 0 rfl rfl 6 (by decide) (hts _ zw_t2_195) (fun _ h9 => h9) rfl dX9_write_11 ?_
    refine lv_iload_n hx hb dX9_write_14 rfl (lv_at hl 1 rfl) ?_
    rcases z_s3 p1 with q_sw | rfl | rfl | rfl | rfl | q_sw
    · omega
    · have zc_0 : Int32.toInt 0 = 0 := by decide
      refine va_aldq hx hb hK hP 1 0 rfl rfl (zi_in (show Int32.toInt 0 = 0 from by decide) (by first | with_reducible assumption | omega)) dX9_write_15 ?_
      refine W.eq (g2 := F0 m 16 ls (.ref r0 :: [])) (by rw [show f_sl (Int32.toNatClampNeg 0) = some r0 from (by rw [show Int32.toNatClampNeg 0 = 0 from by decide]; exact hsl0)]; rfl) ?_
      refine lv_astore (lv' := [(5, .ref r0), (0, .ref h0), (1, .int 0), (2, .int p2), (3, .long p3)]) hx hb dX9_write_16 hl (by decide) rfl (fun ls hl => ?_)
      refine lv_aload hx hb dX9_write_18 (lv_at hl 0 rfl) ?_
      obtain ⟨hPc, hDc, hFc⟩ := z_cut (wc := (zV6 r0 r0_width r0_size r0_numbers)) hP hD hS hA [2] rfl (by decide +kernel)
      have hKc := hK.sub (tys' := []) [] rfl
      refine va_calli (va_runV (As := []) (rest := []) ⟨hx, hb, hml, hown, hts⟩ (k_X6_isThere_v1 l sa dC dI r0 r0_width r0_size r0_numbers b_r0_size H.size) (cwV 0 hts (z_gV zw_t5_222 zw_t5_223 zw_t5_224 zw_t1_10 zw_t5_225) rfl rfl rfl (by decide +kernel) (by rw [← hRe]; exact ⟨(Nat.le_of_ble_eq_true rfl), (Nat.le_of_ble_eq_true rfl)⟩)) (z_preV hPc hKc hDc hN hXs hS hFc (q := (RX6, TX6, 3)) (ci := 6) (q0 := 0) rfl rfl) rfl rfl hl.1 rfl (lv_room (Nat.le_of_ble_eq_true rfl)) dX9_write_20 (by rw [← hRe]; exact ⟨(Nat.le_of_ble_eq_true rfl), (Nat.le_of_ble_eq_true rfl)⟩)) hS (fun q _ h => hFc q h) hFc (fun r_3 u t H1 locs ht hvm hw hB hz1 hk1 hS => ?_)
      obtain ⟨hP, hD, hK⟩ := z_after3 (wn := (zV167 h0 tp h0_tapeLength h0_faultKind h0_faultPlace nw im sl rd wk fm mt ch dy sl cA_sl f_sl r0_numbers cA_r0_numbers f_r0_numbers r1 r1_width r1_size r1_numbers r1_numbers cA_r1_numbers f_r1_numbers r2 r2_width r2_size r2_numbers r2_numbers cA_r2_numbers f_r2_numbers r3 r3_width r3_size r3_numbers r3_numbers cA_r3_numbers f_r3_numbers r0 r0_width r0_size r0_numbers)) hB ht hvm hP hD hK [2] [0, 1, 3, 4, 5, 6, 7, 8, 9] rfl 10 rfl (by decide +kernel) rfl (by decide +kernel) hk1 hFc
      generalize H1 = H at hP hS ⊢
      have hK : va_K (dC, dI) vwCl [(cA_sl, .object RX6), (cA_r0_numbers, .long), (cA_r1_numbers, .long), (cA_r2_numbers, .long), (cA_r3_numbers, .long)] s := hK
      have b_r_3 : 0 ≤ r_3.toInt ∧ r_3.toInt ≤ 1 := hw.1
      have s_r_3 := hw.2
      refine lv_if_ne (tgt := 29) hx hb dX9_write_23 (by decide) (fun c_4 => ?_) (fun c_4 => ?_)
      · have ic_4 := zz_ne rfl (show Int32.toInt 0 = 0 from by decide) c_4
        refine lv_aload hx hb dX9_write_29 (lv_at hl 0 rfl) ?_
        refine lv_iload_n hx hb dX9_write_31 rfl (lv_at hl 3 rfl) ?_
        refine lv_iconst (v := 1) hx hb dX9_write_32 (by decide) ?_
        obtain ⟨hPc, hDc, hFc⟩ := z_cut (wc := (zV6 r0 r0_width r0_size r0_numbers)) hP hD hS hA [9] rfl (by decide +kernel)
        have hKc := hK.sub (tys' := []) [] rfl
        refine va_calli (va_runV (As := [.int p2, .int 1]) (rest := []) ⟨hx, hb, hml, hown, hts⟩ (k_X6_hasSpan_v1 l sa dC dI r0 p2 (1) r0_width r0_size r0_numbers b_r0_size H.size) (cwV 2 hts (z_gV zw_t6_80 zw_t6_81 zw_t6_82 zw_t1_10 zw_t6_83) rfl rfl rfl (by decide +kernel) (by rw [← hRe]; exact ⟨(Nat.le_of_ble_eq_true rfl), (Nat.le_of_ble_eq_true rfl)⟩)) (z_preV hPc hKc hDc hN hXs hS hFc (q := (RX6, TX6, 3)) (ci := 6) (q0 := 0) rfl rfl) rfl rfl hl.1 rfl (lv_room (Nat.le_of_ble_eq_true rfl)) dX9_write_33 (by rw [← hRe]; exact ⟨(Nat.le_of_ble_eq_true rfl), (Nat.le_of_ble_eq_true rfl)⟩)) hS (fun q _ h => hFc q h) hFc (fun r_5 u t H1 locs ht hvm hw hB hz1 hk1 hS => ?_)
        obtain ⟨hP, hD, hK⟩ := z_after3 (wn := (zV167 h0 tp h0_tapeLength h0_faultKind h0_faultPlace nw im sl rd wk fm mt ch dy sl cA_sl f_sl r0_numbers cA_r0_numbers f_r0_numbers r1 r1_width r1_size r1_numbers r1_numbers cA_r1_numbers f_r1_numbers r2 r2_width r2_size r2_numbers r2_numbers cA_r2_numbers f_r2_numbers r3 r3_width r3_size r3_numbers r3_numbers cA_r3_numbers f_r3_numbers r0 r0_width r0_size r0_numbers)) hB ht hvm hP hD hK [9] [0, 1, 2, 3, 4, 5, 6, 7, 8] rfl 10 rfl (by decide +kernel) rfl (by decide +kernel) hk1 hFc
        generalize H1 = H at hP hS ⊢
        have hK : va_K (dC, dI) vwCl [(cA_sl, .object RX6), (cA_r0_numbers, .long), (cA_r1_numbers, .long), (cA_r2_numbers, .long), (cA_r3_numbers, .long)] s := hK
        have b_r_5 : 0 ≤ r_5.toInt ∧ r_5.toInt ≤ 1 := hw.1
        have s_r_5 := hw.2
        have za_1 : Int32.toInt 1 = 1 := by decide
        refine lv_if_ne (tgt := 42) hx hb dX9_write_36 (by decide) (fun c_6 => ?_) (fun c_6 => ?_)
        · have ic_6 := zz_ne rfl (show Int32.toInt 0 = 0 from by decide) c_6
          refine lv_aload hx hb dX9_write_42 (lv_at hl 0 rfl) ?_
          refine lv_iload_n hx hb dX9_write_44 rfl (lv_at hl 3 rfl) ?_
          refine lv_lload_n hx hb dX9_write_45 rfl (lv_at hl 4 rfl) ?_
          obtain ⟨hPc, hDc, hFc⟩ := z_cut (wc := (zV7 r0 r0_width r0_size r0_numbers r0_numbers cA_r0_numbers f_r0_numbers)) hP hD hS hA [9, 2] rfl (by decide +kernel)
          have hKc := hK.sub (tys' := [(cA_r0_numbers, .long)]) [1] rfl
          refine va_callv (va_runV (As := [.int p2, .long p3]) (rest := []) ⟨hx, hb, hml, hown, hts⟩ (k_X6_put l sa dC dI r0 p2 p3 r0_width r0_size r0_numbers cA_r0_numbers f_r0_numbers (by first | with_reducible assumption | omega) b_r0_size H.size) (cwV 2 hts (z_gV zw_t6_84 zw_t6_85 zw_t6_86 zw_t1_10 zw_t6_87) rfl rfl rfl (by decide +kernel) (by rw [← hRe]; exact ⟨(Nat.le_of_ble_eq_true rfl), (Nat.le_of_ble_eq_true rfl)⟩)) (z_preV hPc hKc hDc hN hXs hS hFc (q := (RX6, TX6, 3)) (ci := 6) (q0 := 0) rfl rfl) rfl rfl hl.1 rfl (lv_room (Nat.le_of_ble_eq_true rfl)) dX9_write_46 (by rw [← hRe]; exact ⟨(Nat.le_of_ble_eq_true rfl), (Nat.le_of_ble_eq_true rfl)⟩)) hS (fun q _ h => hFc q h) hFc (fun u t H1 locs ht hvm hw hB hz1 hk1 hS => ?_)
          obtain ⟨n_rw_numbers_8, hB⟩ := hB
          obtain ⟨hP, hD, hK⟩ := z_after3 (wn := (zV166 h0 tp h0_tapeLength h0_faultKind h0_faultPlace nw im sl rd wk fm mt ch dy sl cA_sl f_sl r1 r1_width r1_size r1_numbers r1_numbers cA_r1_numbers f_r1_numbers r2 r2_width r2_size r2_numbers r2_numbers cA_r2_numbers f_r2_numbers r3 r3_width r3_size r3_numbers r3_numbers cA_r3_numbers f_r3_numbers r0 r0_width r0_size r0_numbers r0_numbers cA_r0_numbers n_rw_numbers_8)) hB ht hvm hP hD hK [9, 2] [0, 1, 3, 4, 5, 6, 7, 8] rfl 10 rfl (by decide +kernel) rfl (by decide +kernel) hk1 hFc
          generalize H1 = H at hP hS ⊢
          have hK : va_K (dC, dI) vwCl [(cA_sl, .object RX6), (cA_r0_numbers, .long), (cA_r1_numbers, .long), (cA_r2_numbers, .long), (cA_r3_numbers, .long)] s := hK
          refine lv_iconst (v := 0) hx hb dX9_write_49 (by decide) ?_
          have zr : Int32.toInt 0 = 0 := by decide
          have hWa : zSel r0_width.toInt r1_width.toInt r2_width.toInt r3_width.toInt (Int32.toInt 0) = r0_width.toInt := by rw [zc_0]; exact zSel_0
          have hSa : zSel r0_size.toInt r1_size.toInt r2_size.toInt r3_size.toInt (Int32.toInt 0) = r0_size.toInt := by rw [zc_0]; exact zSel_0
          have hsp : zWr (zSel r0_width.toInt r1_width.toInt r2_width.toInt r3_width.toInt) (zSel r0_size.toInt r1_size.toInt r2_size.toInt r3_size.toInt) (Int32.toInt 0) p2.toInt (Int32.toInt 0) := zWr.at (by first | with_reducible assumption | omega) hWa hSa (by first | with_reducible assumption | omega)
          have zc : Int32.toInt 0 = 0 := by decide
          exact W.iret (v := 0) hx hb hr (fun t ht hW => by rw [← hQe]; exact ⟨⟨0, (), rfl, ⟨by omega, by assumption⟩, ⟨n_rw_numbers_8, f_r1_numbers, f_r2_numbers, f_r3_numbers, z_ret hP hK hD ht hW [0, 1, 8, 9, 2, 3, 4, 5, 6, 7] [] rfl (by decide) rfl⟩⟩, hS.F ht⟩) hS.2.2 dX9_write_50
        · have ic_6 := zz_nne rfl (show Int32.toInt 0 = 0 from by decide) c_6
          refine lv_bipush (v := (-7)) hx hb dX9_write_39 (by decide) ?_
          have zr : Int32.toInt (-7) = (-7) := by decide
          have hWa : zSel r0_width.toInt r1_width.toInt r2_width.toInt r3_width.toInt (Int32.toInt 0) = r0_width.toInt := by rw [zc_0]; exact zSel_0
          have hSa : zSel r0_size.toInt r1_size.toInt r2_size.toInt r3_size.toInt (Int32.toInt 0) = r0_size.toInt := by rw [zc_0]; exact zSel_0
          have hsp : zWr (zSel r0_width.toInt r1_width.toInt r2_width.toInt r3_width.toInt) (zSel r0_size.toInt r1_size.toInt r2_size.toInt r3_size.toInt) (Int32.toInt 0) p2.toInt (Int32.toInt (-7)) := zWr.at (by first | with_reducible assumption | omega) hWa hSa (by first | with_reducible assumption | omega)
          have zc : Int32.toInt (-7) = (-7) := by decide
          exact W.iret (v := (-7)) hx hb hr (fun t ht hW => by rw [← hQe]; exact ⟨⟨(-7), (), rfl, ⟨by omega, by assumption⟩, ⟨f_r0_numbers, f_r1_numbers, f_r2_numbers, f_r3_numbers, z_ret hP hK hD ht hW [0, 1, 9, 2, 3, 4, 5, 6, 7, 8] [] rfl (by decide) rfl⟩⟩, hS.F ht⟩) hS.2.2 dX9_write_41
      · have ic_4 := zz_nne rfl (show Int32.toInt 0 = 0 from by decide) c_4
        refine lv_bipush (v := (-6)) hx hb dX9_write_26 (by decide) ?_
        have zr : Int32.toInt (-6) = (-6) := by decide
        have hWa : zSel r0_width.toInt r1_width.toInt r2_width.toInt r3_width.toInt (Int32.toInt 0) = r0_width.toInt := by rw [zc_0]; exact zSel_0
        have hSa : zSel r0_size.toInt r1_size.toInt r2_size.toInt r3_size.toInt (Int32.toInt 0) = r0_size.toInt := by rw [zc_0]; exact zSel_0
        have hsp : zWr (zSel r0_width.toInt r1_width.toInt r2_width.toInt r3_width.toInt) (zSel r0_size.toInt r1_size.toInt r2_size.toInt r3_size.toInt) (Int32.toInt 0) p2.toInt (Int32.toInt (-6)) := zWr.at (by first | with_reducible assumption | omega) hWa hSa (by first | with_reducible assumption | omega)
        have zc : Int32.toInt (-6) = (-6) := by decide
        exact W.iret (v := (-6)) hx hb hr (fun t ht hW => by rw [← hQe]; exact ⟨⟨(-6), (), rfl, ⟨by omega, by assumption⟩, ⟨f_r0_numbers, f_r1_numbers, f_r2_numbers, f_r3_numbers, z_ret hP hK hD ht hW [0, 1, 9, 2, 3, 4, 5, 6, 7, 8] [] rfl (by decide) rfl⟩⟩, hS.F ht⟩) hS.2.2 dX9_write_28
    · have zc_1 : Int32.toInt 1 = 1 := by decide
      refine va_aldq hx hb hK hP 1 0 rfl rfl (zi_in (show Int32.toInt 1 = 1 from by decide) (by first | with_reducible assumption | omega)) dX9_write_15 ?_
      refine W.eq (g2 := F0 m 16 ls (.ref r1 :: [])) (by rw [show f_sl (Int32.toNatClampNeg 1) = some r1 from (by rw [show Int32.toNatClampNeg 1 = 1 from by decide]; exact hsl1)]; rfl) ?_
      refine lv_astore (lv' := [(5, .ref r1), (0, .ref h0), (1, .int 1), (2, .int p2), (3, .long p3)]) hx hb dX9_write_16 hl (by decide) rfl (fun ls hl => ?_)
      refine lv_aload hx hb dX9_write_18 (lv_at hl 0 rfl) ?_
      obtain ⟨hPc, hDc, hFc⟩ := z_cut (wc := (zV6 r1 r1_width r1_size r1_numbers)) hP hD hS hA [4] rfl (by decide +kernel)
      have hKc := hK.sub (tys' := []) [] rfl
      refine va_calli (va_runV (As := []) (rest := []) ⟨hx, hb, hml, hown, hts⟩ (k_X6_isThere_v1 l sa dC dI r1 r1_width r1_size r1_numbers b_r1_size H.size) (cwV 0 hts (z_gV zw_t5_222 zw_t5_223 zw_t5_224 zw_t1_10 zw_t5_225) rfl rfl rfl (by decide +kernel) (by rw [← hRe]; exact ⟨(Nat.le_of_ble_eq_true rfl), (Nat.le_of_ble_eq_true rfl)⟩)) (z_preV hPc hKc hDc hN hXs hS hFc (q := (RX6, TX6, 3)) (ci := 6) (q0 := 0) rfl rfl) rfl rfl hl.1 rfl (lv_room (Nat.le_of_ble_eq_true rfl)) dX9_write_20 (by rw [← hRe]; exact ⟨(Nat.le_of_ble_eq_true rfl), (Nat.le_of_ble_eq_true rfl)⟩)) hS (fun q _ h => hFc q h) hFc (fun r_9 u t H1 locs ht hvm hw hB hz1 hk1 hS => ?_)
      obtain ⟨hP, hD, hK⟩ := z_after3 (wn := (zV168 h0 tp h0_tapeLength h0_faultKind h0_faultPlace nw im sl rd wk fm mt ch dy sl cA_sl f_sl r0 r0_width r0_size r0_numbers r0_numbers cA_r0_numbers f_r0_numbers r1_numbers cA_r1_numbers f_r1_numbers r2 r2_width r2_size r2_numbers r2_numbers cA_r2_numbers f_r2_numbers r3 r3_width r3_size r3_numbers r3_numbers cA_r3_numbers f_r3_numbers r1 r1_width r1_size r1_numbers)) hB ht hvm hP hD hK [4] [0, 1, 2, 3, 5, 6, 7, 8, 9] rfl 10 rfl (by decide +kernel) rfl (by decide +kernel) hk1 hFc
      generalize H1 = H at hP hS ⊢
      have hK : va_K (dC, dI) vwCl [(cA_sl, .object RX6), (cA_r0_numbers, .long), (cA_r1_numbers, .long), (cA_r2_numbers, .long), (cA_r3_numbers, .long)] s := hK
      have b_r_9 : 0 ≤ r_9.toInt ∧ r_9.toInt ≤ 1 := hw.1
      have s_r_9 := hw.2
      refine lv_if_ne (tgt := 29) hx hb dX9_write_23 (by decide) (fun c_10 => ?_) (fun c_10 => ?_)
      · have ic_10 := zz_ne rfl (show Int32.toInt 0 = 0 from by decide) c_10
        refine lv_aload hx hb dX9_write_29 (lv_at hl 0 rfl) ?_
        refine lv_iload_n hx hb dX9_write_31 rfl (lv_at hl 3 rfl) ?_
        refine lv_iconst (v := 1) hx hb dX9_write_32 (by decide) ?_
        obtain ⟨hPc, hDc, hFc⟩ := z_cut (wc := (zV6 r1 r1_width r1_size r1_numbers)) hP hD hS hA [9] rfl (by decide +kernel)
        have hKc := hK.sub (tys' := []) [] rfl
        refine va_calli (va_runV (As := [.int p2, .int 1]) (rest := []) ⟨hx, hb, hml, hown, hts⟩ (k_X6_hasSpan_v1 l sa dC dI r1 p2 (1) r1_width r1_size r1_numbers b_r1_size H.size) (cwV 2 hts (z_gV zw_t6_80 zw_t6_81 zw_t6_82 zw_t1_10 zw_t6_83) rfl rfl rfl (by decide +kernel) (by rw [← hRe]; exact ⟨(Nat.le_of_ble_eq_true rfl), (Nat.le_of_ble_eq_true rfl)⟩)) (z_preV hPc hKc hDc hN hXs hS hFc (q := (RX6, TX6, 3)) (ci := 6) (q0 := 0) rfl rfl) rfl rfl hl.1 rfl (lv_room (Nat.le_of_ble_eq_true rfl)) dX9_write_33 (by rw [← hRe]; exact ⟨(Nat.le_of_ble_eq_true rfl), (Nat.le_of_ble_eq_true rfl)⟩)) hS (fun q _ h => hFc q h) hFc (fun r_11 u t H1 locs ht hvm hw hB hz1 hk1 hS => ?_)
        obtain ⟨hP, hD, hK⟩ := z_after3 (wn := (zV168 h0 tp h0_tapeLength h0_faultKind h0_faultPlace nw im sl rd wk fm mt ch dy sl cA_sl f_sl r0 r0_width r0_size r0_numbers r0_numbers cA_r0_numbers f_r0_numbers r1_numbers cA_r1_numbers f_r1_numbers r2 r2_width r2_size r2_numbers r2_numbers cA_r2_numbers f_r2_numbers r3 r3_width r3_size r3_numbers r3_numbers cA_r3_numbers f_r3_numbers r1 r1_width r1_size r1_numbers)) hB ht hvm hP hD hK [9] [0, 1, 2, 3, 4, 5, 6, 7, 8] rfl 10 rfl (by decide +kernel) rfl (by decide +kernel) hk1 hFc
        generalize H1 = H at hP hS ⊢
        have hK : va_K (dC, dI) vwCl [(cA_sl, .object RX6), (cA_r0_numbers, .long), (cA_r1_numbers, .long), (cA_r2_numbers, .long), (cA_r3_numbers, .long)] s := hK
        have b_r_11 : 0 ≤ r_11.toInt ∧ r_11.toInt ≤ 1 := hw.1
        have s_r_11 := hw.2
        have za_1 : Int32.toInt 1 = 1 := by decide
        refine lv_if_ne (tgt := 42) hx hb dX9_write_36 (by decide) (fun c_12 => ?_) (fun c_12 => ?_)
        · have ic_12 := zz_ne rfl (show Int32.toInt 0 = 0 from by decide) c_12
          refine lv_aload hx hb dX9_write_42 (lv_at hl 0 rfl) ?_
          refine lv_iload_n hx hb dX9_write_44 rfl (lv_at hl 3 rfl) ?_
          refine lv_lload_n hx hb dX9_write_45 rfl (lv_at hl 4 rfl) ?_
          obtain ⟨hPc, hDc, hFc⟩ := z_cut (wc := (zV7 r1 r1_width r1_size r1_numbers r1_numbers cA_r1_numbers f_r1_numbers)) hP hD hS hA [9, 4] rfl (by decide +kernel)
          have hKc := hK.sub (tys' := [(cA_r1_numbers, .long)]) [2] rfl
          refine va_callv (va_runV (As := [.int p2, .long p3]) (rest := []) ⟨hx, hb, hml, hown, hts⟩ (k_X6_put l sa dC dI r1 p2 p3 r1_width r1_size r1_numbers cA_r1_numbers f_r1_numbers (by first | with_reducible assumption | omega) b_r1_size H.size) (cwV 2 hts (z_gV zw_t6_84 zw_t6_85 zw_t6_86 zw_t1_10 zw_t6_87) rfl rfl rfl (by decide +kernel) (by rw [← hRe]; exact ⟨(Nat.le_of_ble_eq_true rfl), (Nat.le_of_ble_eq_true rfl)⟩)) (z_preV hPc hKc hDc hN hXs hS hFc (q := (RX6, TX6, 3)) (ci := 6) (q0 := 0) rfl rfl) rfl rfl hl.1 rfl (lv_room (Nat.le_of_ble_eq_true rfl)) dX9_write_46 (by rw [← hRe]; exact ⟨(Nat.le_of_ble_eq_true rfl), (Nat.le_of_ble_eq_true rfl)⟩)) hS (fun q _ h => hFc q h) hFc (fun u t H1 locs ht hvm hw hB hz1 hk1 hS => ?_)
          obtain ⟨n_rw_numbers_14, hB⟩ := hB
          obtain ⟨hP, hD, hK⟩ := z_after3 (wn := (zV166 h0 tp h0_tapeLength h0_faultKind h0_faultPlace nw im sl rd wk fm mt ch dy sl cA_sl f_sl r0 r0_width r0_size r0_numbers r0_numbers cA_r0_numbers f_r0_numbers r2 r2_width r2_size r2_numbers r2_numbers cA_r2_numbers f_r2_numbers r3 r3_width r3_size r3_numbers r3_numbers cA_r3_numbers f_r3_numbers r1 r1_width r1_size r1_numbers r1_numbers cA_r1_numbers n_rw_numbers_14)) hB ht hvm hP hD hK [9, 4] [0, 1, 2, 3, 5, 6, 7, 8] rfl 10 rfl (by decide +kernel) rfl (by decide +kernel) hk1 hFc
          generalize H1 = H at hP hS ⊢
          have hK : va_K (dC, dI) vwCl [(cA_sl, .object RX6), (cA_r0_numbers, .long), (cA_r1_numbers, .long), (cA_r2_numbers, .long), (cA_r3_numbers, .long)] s := hK
          refine lv_iconst (v := 0) hx hb dX9_write_49 (by decide) ?_
          have zr : Int32.toInt 0 = 0 := by decide
          have hWa : zSel r0_width.toInt r1_width.toInt r2_width.toInt r3_width.toInt (Int32.toInt 1) = r1_width.toInt := by rw [zc_1]; exact zSel_1
          have hSa : zSel r0_size.toInt r1_size.toInt r2_size.toInt r3_size.toInt (Int32.toInt 1) = r1_size.toInt := by rw [zc_1]; exact zSel_1
          have hsp : zWr (zSel r0_width.toInt r1_width.toInt r2_width.toInt r3_width.toInt) (zSel r0_size.toInt r1_size.toInt r2_size.toInt r3_size.toInt) (Int32.toInt 1) p2.toInt (Int32.toInt 0) := zWr.at (by first | with_reducible assumption | omega) hWa hSa (by first | with_reducible assumption | omega)
          have zc : Int32.toInt 0 = 0 := by decide
          exact W.iret (v := 0) hx hb hr (fun t ht hW => by rw [← hQe]; exact ⟨⟨0, (), rfl, ⟨by omega, by assumption⟩, ⟨f_r0_numbers, n_rw_numbers_14, f_r2_numbers, f_r3_numbers, z_ret hP hK hD ht hW [0, 1, 2, 3, 8, 9, 4, 5, 6, 7] [] rfl (by decide) rfl⟩⟩, hS.F ht⟩) hS.2.2 dX9_write_50
        · have ic_12 := zz_nne rfl (show Int32.toInt 0 = 0 from by decide) c_12
          refine lv_bipush (v := (-7)) hx hb dX9_write_39 (by decide) ?_
          have zr : Int32.toInt (-7) = (-7) := by decide
          have hWa : zSel r0_width.toInt r1_width.toInt r2_width.toInt r3_width.toInt (Int32.toInt 1) = r1_width.toInt := by rw [zc_1]; exact zSel_1
          have hSa : zSel r0_size.toInt r1_size.toInt r2_size.toInt r3_size.toInt (Int32.toInt 1) = r1_size.toInt := by rw [zc_1]; exact zSel_1
          have hsp : zWr (zSel r0_width.toInt r1_width.toInt r2_width.toInt r3_width.toInt) (zSel r0_size.toInt r1_size.toInt r2_size.toInt r3_size.toInt) (Int32.toInt 1) p2.toInt (Int32.toInt (-7)) := zWr.at (by first | with_reducible assumption | omega) hWa hSa (by first | with_reducible assumption | omega)
          have zc : Int32.toInt (-7) = (-7) := by decide
          exact W.iret (v := (-7)) hx hb hr (fun t ht hW => by rw [← hQe]; exact ⟨⟨(-7), (), rfl, ⟨by omega, by assumption⟩, ⟨f_r0_numbers, f_r1_numbers, f_r2_numbers, f_r3_numbers, z_ret hP hK hD ht hW [0, 1, 2, 3, 9, 4, 5, 6, 7, 8] [] rfl (by decide) rfl⟩⟩, hS.F ht⟩) hS.2.2 dX9_write_41
      · have ic_10 := zz_nne rfl (show Int32.toInt 0 = 0 from by decide) c_10
        refine lv_bipush (v := (-6)) hx hb dX9_write_26 (by decide) ?_
        have zr : Int32.toInt (-6) = (-6) := by decide
        have hWa : zSel r0_width.toInt r1_width.toInt r2_width.toInt r3_width.toInt (Int32.toInt 1) = r1_width.toInt := by rw [zc_1]; exact zSel_1
        have hSa : zSel r0_size.toInt r1_size.toInt r2_size.toInt r3_size.toInt (Int32.toInt 1) = r1_size.toInt := by rw [zc_1]; exact zSel_1
        have hsp : zWr (zSel r0_width.toInt r1_width.toInt r2_width.toInt r3_width.toInt) (zSel r0_size.toInt r1_size.toInt r2_size.toInt r3_size.toInt) (Int32.toInt 1) p2.toInt (Int32.toInt (-6)) := zWr.at (by first | with_reducible assumption | omega) hWa hSa (by first | with_reducible assumption | omega)
        have zc : Int32.toInt (-6) = (-6) := by decide
        exact W.iret (v := (-6)) hx hb hr (fun t ht hW => by rw [← hQe]; exact ⟨⟨(-6), (), rfl, ⟨by omega, by assumption⟩, ⟨f_r0_numbers, f_r1_numbers, f_r2_numbers, f_r3_numbers, z_ret hP hK hD ht hW [0, 1, 2, 3, 9, 4, 5, 6, 7, 8] [] rfl (by decide) rfl⟩⟩, hS.F ht⟩) hS.2.2 dX9_write_28
    · have zc_2 : Int32.toInt 2 = 2 := by decide
      refine va_aldq hx hb hK hP 1 0 rfl rfl (zi_in (show Int32.toInt 2 = 2 from by decide) (by first | with_reducible assumption | omega)) dX9_write_15 ?_
      refine W.eq (g2 := F0 m 16 ls (.ref r2 :: [])) (by rw [show f_sl (Int32.toNatClampNeg 2) = some r2 from (by rw [show Int32.toNatClampNeg 2 = 2 from by decide]; exact hsl2)]; rfl) ?_
      refine lv_astore (lv' := [(5, .ref r2), (0, .ref h0), (1, .int 2), (2, .int p2), (3, .long p3)]) hx hb dX9_write_16 hl (by decide) rfl (fun ls hl => ?_)
      refine lv_aload hx hb dX9_write_18 (lv_at hl 0 rfl) ?_
      obtain ⟨hPc, hDc, hFc⟩ := z_cut (wc := (zV6 r2 r2_width r2_size r2_numbers)) hP hD hS hA [6] rfl (by decide +kernel)
      have hKc := hK.sub (tys' := []) [] rfl
      refine va_calli (va_runV (As := []) (rest := []) ⟨hx, hb, hml, hown, hts⟩ (k_X6_isThere_v1 l sa dC dI r2 r2_width r2_size r2_numbers b_r2_size H.size) (cwV 0 hts (z_gV zw_t5_222 zw_t5_223 zw_t5_224 zw_t1_10 zw_t5_225) rfl rfl rfl (by decide +kernel) (by rw [← hRe]; exact ⟨(Nat.le_of_ble_eq_true rfl), (Nat.le_of_ble_eq_true rfl)⟩)) (z_preV hPc hKc hDc hN hXs hS hFc (q := (RX6, TX6, 3)) (ci := 6) (q0 := 0) rfl rfl) rfl rfl hl.1 rfl (lv_room (Nat.le_of_ble_eq_true rfl)) dX9_write_20 (by rw [← hRe]; exact ⟨(Nat.le_of_ble_eq_true rfl), (Nat.le_of_ble_eq_true rfl)⟩)) hS (fun q _ h => hFc q h) hFc (fun r_15 u t H1 locs ht hvm hw hB hz1 hk1 hS => ?_)
      obtain ⟨hP, hD, hK⟩ := z_after3 (wn := (zV169 h0 tp h0_tapeLength h0_faultKind h0_faultPlace nw im sl rd wk fm mt ch dy sl cA_sl f_sl r0 r0_width r0_size r0_numbers r0_numbers cA_r0_numbers f_r0_numbers r1 r1_width r1_size r1_numbers r1_numbers cA_r1_numbers f_r1_numbers r2_numbers cA_r2_numbers f_r2_numbers r3 r3_width r3_size r3_numbers r3_numbers cA_r3_numbers f_r3_numbers r2 r2_width r2_size r2_numbers)) hB ht hvm hP hD hK [6] [0, 1, 2, 3, 4, 5, 7, 8, 9] rfl 10 rfl (by decide +kernel) rfl (by decide +kernel) hk1 hFc
      generalize H1 = H at hP hS ⊢
      have hK : va_K (dC, dI) vwCl [(cA_sl, .object RX6), (cA_r0_numbers, .long), (cA_r1_numbers, .long), (cA_r2_numbers, .long), (cA_r3_numbers, .long)] s := hK
      have b_r_15 : 0 ≤ r_15.toInt ∧ r_15.toInt ≤ 1 := hw.1
      have s_r_15 := hw.2
      refine lv_if_ne (tgt := 29) hx hb dX9_write_23 (by decide) (fun c_16 => ?_) (fun c_16 => ?_)
      · have ic_16 := zz_ne rfl (show Int32.toInt 0 = 0 from by decide) c_16
        refine lv_aload hx hb dX9_write_29 (lv_at hl 0 rfl) ?_
        refine lv_iload_n hx hb dX9_write_31 rfl (lv_at hl 3 rfl) ?_
        refine lv_iconst (v := 1) hx hb dX9_write_32 (by decide) ?_
        obtain ⟨hPc, hDc, hFc⟩ := z_cut (wc := (zV6 r2 r2_width r2_size r2_numbers)) hP hD hS hA [9] rfl (by decide +kernel)
        have hKc := hK.sub (tys' := []) [] rfl
        refine va_calli (va_runV (As := [.int p2, .int 1]) (rest := []) ⟨hx, hb, hml, hown, hts⟩ (k_X6_hasSpan_v1 l sa dC dI r2 p2 (1) r2_width r2_size r2_numbers b_r2_size H.size) (cwV 2 hts (z_gV zw_t6_80 zw_t6_81 zw_t6_82 zw_t1_10 zw_t6_83) rfl rfl rfl (by decide +kernel) (by rw [← hRe]; exact ⟨(Nat.le_of_ble_eq_true rfl), (Nat.le_of_ble_eq_true rfl)⟩)) (z_preV hPc hKc hDc hN hXs hS hFc (q := (RX6, TX6, 3)) (ci := 6) (q0 := 0) rfl rfl) rfl rfl hl.1 rfl (lv_room (Nat.le_of_ble_eq_true rfl)) dX9_write_33 (by rw [← hRe]; exact ⟨(Nat.le_of_ble_eq_true rfl), (Nat.le_of_ble_eq_true rfl)⟩)) hS (fun q _ h => hFc q h) hFc (fun r_17 u t H1 locs ht hvm hw hB hz1 hk1 hS => ?_)
        obtain ⟨hP, hD, hK⟩ := z_after3 (wn := (zV169 h0 tp h0_tapeLength h0_faultKind h0_faultPlace nw im sl rd wk fm mt ch dy sl cA_sl f_sl r0 r0_width r0_size r0_numbers r0_numbers cA_r0_numbers f_r0_numbers r1 r1_width r1_size r1_numbers r1_numbers cA_r1_numbers f_r1_numbers r2_numbers cA_r2_numbers f_r2_numbers r3 r3_width r3_size r3_numbers r3_numbers cA_r3_numbers f_r3_numbers r2 r2_width r2_size r2_numbers)) hB ht hvm hP hD hK [9] [0, 1, 2, 3, 4, 5, 6, 7, 8] rfl 10 rfl (by decide +kernel) rfl (by decide +kernel) hk1 hFc
        generalize H1 = H at hP hS ⊢
        have hK : va_K (dC, dI) vwCl [(cA_sl, .object RX6), (cA_r0_numbers, .long), (cA_r1_numbers, .long), (cA_r2_numbers, .long), (cA_r3_numbers, .long)] s := hK
        have b_r_17 : 0 ≤ r_17.toInt ∧ r_17.toInt ≤ 1 := hw.1
        have s_r_17 := hw.2
        have za_1 : Int32.toInt 1 = 1 := by decide
        refine lv_if_ne (tgt := 42) hx hb dX9_write_36 (by decide) (fun c_18 => ?_) (fun c_18 => ?_)
        · have ic_18 := zz_ne rfl (show Int32.toInt 0 = 0 from by decide) c_18
          refine lv_aload hx hb dX9_write_42 (lv_at hl 0 rfl) ?_
          refine lv_iload_n hx hb dX9_write_44 rfl (lv_at hl 3 rfl) ?_
          refine lv_lload_n hx hb dX9_write_45 rfl (lv_at hl 4 rfl) ?_
          obtain ⟨hPc, hDc, hFc⟩ := z_cut (wc := (zV7 r2 r2_width r2_size r2_numbers r2_numbers cA_r2_numbers f_r2_numbers)) hP hD hS hA [9, 6] rfl (by decide +kernel)
          have hKc := hK.sub (tys' := [(cA_r2_numbers, .long)]) [3] rfl
          refine va_callv (va_runV (As := [.int p2, .long p3]) (rest := []) ⟨hx, hb, hml, hown, hts⟩ (k_X6_put l sa dC dI r2 p2 p3 r2_width r2_size r2_numbers cA_r2_numbers f_r2_numbers (by first | with_reducible assumption | omega) b_r2_size H.size) (cwV 2 hts (z_gV zw_t6_84 zw_t6_85 zw_t6_86 zw_t1_10 zw_t6_87) rfl rfl rfl (by decide +kernel) (by rw [← hRe]; exact ⟨(Nat.le_of_ble_eq_true rfl), (Nat.le_of_ble_eq_true rfl)⟩)) (z_preV hPc hKc hDc hN hXs hS hFc (q := (RX6, TX6, 3)) (ci := 6) (q0 := 0) rfl rfl) rfl rfl hl.1 rfl (lv_room (Nat.le_of_ble_eq_true rfl)) dX9_write_46 (by rw [← hRe]; exact ⟨(Nat.le_of_ble_eq_true rfl), (Nat.le_of_ble_eq_true rfl)⟩)) hS (fun q _ h => hFc q h) hFc (fun u t H1 locs ht hvm hw hB hz1 hk1 hS => ?_)
          obtain ⟨n_rw_numbers_20, hB⟩ := hB
          obtain ⟨hP, hD, hK⟩ := z_after3 (wn := (zV166 h0 tp h0_tapeLength h0_faultKind h0_faultPlace nw im sl rd wk fm mt ch dy sl cA_sl f_sl r0 r0_width r0_size r0_numbers r0_numbers cA_r0_numbers f_r0_numbers r1 r1_width r1_size r1_numbers r1_numbers cA_r1_numbers f_r1_numbers r3 r3_width r3_size r3_numbers r3_numbers cA_r3_numbers f_r3_numbers r2 r2_width r2_size r2_numbers r2_numbers cA_r2_numbers n_rw_numbers_20)) hB ht hvm hP hD hK [9, 6] [0, 1, 2, 3, 4, 5, 7, 8] rfl 10 rfl (by decide +kernel) rfl (by decide +kernel) hk1 hFc
          generalize H1 = H at hP hS ⊢
          have hK : va_K (dC, dI) vwCl [(cA_sl, .object RX6), (cA_r0_numbers, .long), (cA_r1_numbers, .long), (cA_r2_numbers, .long), (cA_r3_numbers, .long)] s := hK
          refine lv_iconst (v := 0) hx hb dX9_write_49 (by decide) ?_
          have zr : Int32.toInt 0 = 0 := by decide
          have hWa : zSel r0_width.toInt r1_width.toInt r2_width.toInt r3_width.toInt (Int32.toInt 2) = r2_width.toInt := by rw [zc_2]; exact zSel_2
          have hSa : zSel r0_size.toInt r1_size.toInt r2_size.toInt r3_size.toInt (Int32.toInt 2) = r2_size.toInt := by rw [zc_2]; exact zSel_2
          have hsp : zWr (zSel r0_width.toInt r1_width.toInt r2_width.toInt r3_width.toInt) (zSel r0_size.toInt r1_size.toInt r2_size.toInt r3_size.toInt) (Int32.toInt 2) p2.toInt (Int32.toInt 0) := zWr.at (by first | with_reducible assumption | omega) hWa hSa (by first | with_reducible assumption | omega)
          have zc : Int32.toInt 0 = 0 := by decide
          exact W.iret (v := 0) hx hb hr (fun t ht hW => by rw [← hQe]; exact ⟨⟨0, (), rfl, ⟨by omega, by assumption⟩, ⟨f_r0_numbers, f_r1_numbers, n_rw_numbers_20, f_r3_numbers, z_ret hP hK hD ht hW [0, 1, 2, 3, 4, 5, 8, 9, 6, 7] [] rfl (by decide) rfl⟩⟩, hS.F ht⟩) hS.2.2 dX9_write_50
        · have ic_18 := zz_nne rfl (show Int32.toInt 0 = 0 from by decide) c_18
          refine lv_bipush (v := (-7)) hx hb dX9_write_39 (by decide) ?_
          have zr : Int32.toInt (-7) = (-7) := by decide
          have hWa : zSel r0_width.toInt r1_width.toInt r2_width.toInt r3_width.toInt (Int32.toInt 2) = r2_width.toInt := by rw [zc_2]; exact zSel_2
          have hSa : zSel r0_size.toInt r1_size.toInt r2_size.toInt r3_size.toInt (Int32.toInt 2) = r2_size.toInt := by rw [zc_2]; exact zSel_2
          have hsp : zWr (zSel r0_width.toInt r1_width.toInt r2_width.toInt r3_width.toInt) (zSel r0_size.toInt r1_size.toInt r2_size.toInt r3_size.toInt) (Int32.toInt 2) p2.toInt (Int32.toInt (-7)) := zWr.at (by first | with_reducible assumption | omega) hWa hSa (by first | with_reducible assumption | omega)
          have zc : Int32.toInt (-7) = (-7) := by decide
          exact W.iret (v := (-7)) hx hb hr (fun t ht hW => by rw [← hQe]; exact ⟨⟨(-7), (), rfl, ⟨by omega, by assumption⟩, ⟨f_r0_numbers, f_r1_numbers, f_r2_numbers, f_r3_numbers, z_ret hP hK hD ht hW [0, 1, 2, 3, 4, 5, 9, 6, 7, 8] [] rfl (by decide) rfl⟩⟩, hS.F ht⟩) hS.2.2 dX9_write_41
      · have ic_16 := zz_nne rfl (show Int32.toInt 0 = 0 from by decide) c_16
        refine lv_bipush (v := (-6)) hx hb dX9_write_26 (by decide) ?_
        have zr : Int32.toInt (-6) = (-6) := by decide
        have hWa : zSel r0_width.toInt r1_width.toInt r2_width.toInt r3_width.toInt (Int32.toInt 2) = r2_width.toInt := by rw [zc_2]; exact zSel_2
        have hSa : zSel r0_size.toInt r1_size.toInt r2_size.toInt r3_size.toInt (Int32.toInt 2) = r2_size.toInt := by rw [zc_2]; exact zSel_2
        have hsp : zWr (zSel r0_width.toInt r1_width.toInt r2_width.toInt r3_width.toInt) (zSel r0_size.toInt r1_size.toInt r2_size.toInt r3_size.toInt) (Int32.toInt 2) p2.toInt (Int32.toInt (-6)) := zWr.at (by first | with_reducible assumption | omega) hWa hSa (by first | with_reducible assumption | omega)
        have zc : Int32.toInt (-6) = (-6) := by decide
        exact W.iret (v := (-6)) hx hb hr (fun t ht hW => by rw [← hQe]; exact ⟨⟨(-6), (), rfl, ⟨by omega, by assumption⟩, ⟨f_r0_numbers, f_r1_numbers, f_r2_numbers, f_r3_numbers, z_ret hP hK hD ht hW [0, 1, 2, 3, 4, 5, 9, 6, 7, 8] [] rfl (by decide) rfl⟩⟩, hS.F ht⟩) hS.2.2 dX9_write_28
    · have zc_3 : Int32.toInt 3 = 3 := by decide
      refine va_aldq hx hb hK hP 1 0 rfl rfl (zi_in (show Int32.toInt 3 = 3 from by decide) (by first | with_reducible assumption | omega)) dX9_write_15 ?_
      refine W.eq (g2 := F0 m 16 ls (.ref r3 :: [])) (by rw [show f_sl (Int32.toNatClampNeg 3) = some r3 from (by rw [show Int32.toNatClampNeg 3 = 3 from by decide]; exact hsl3)]; rfl) ?_
      refine lv_astore (lv' := [(5, .ref r3), (0, .ref h0), (1, .int 3), (2, .int p2), (3, .long p3)]) hx hb dX9_write_16 hl (by decide) rfl (fun ls hl => ?_)
      refine lv_aload hx hb dX9_write_18 (lv_at hl 0 rfl) ?_
      obtain ⟨hPc, hDc, hFc⟩ := z_cut (wc := (zV6 r3 r3_width r3_size r3_numbers)) hP hD hS hA [8] rfl (by decide +kernel)
      have hKc := hK.sub (tys' := []) [] rfl
      refine va_calli (va_runV (As := []) (rest := []) ⟨hx, hb, hml, hown, hts⟩ (k_X6_isThere_v1 l sa dC dI r3 r3_width r3_size r3_numbers b_r3_size H.size) (cwV 0 hts (z_gV zw_t5_222 zw_t5_223 zw_t5_224 zw_t1_10 zw_t5_225) rfl rfl rfl (by decide +kernel) (by rw [← hRe]; exact ⟨(Nat.le_of_ble_eq_true rfl), (Nat.le_of_ble_eq_true rfl)⟩)) (z_preV hPc hKc hDc hN hXs hS hFc (q := (RX6, TX6, 3)) (ci := 6) (q0 := 0) rfl rfl) rfl rfl hl.1 rfl (lv_room (Nat.le_of_ble_eq_true rfl)) dX9_write_20 (by rw [← hRe]; exact ⟨(Nat.le_of_ble_eq_true rfl), (Nat.le_of_ble_eq_true rfl)⟩)) hS (fun q _ h => hFc q h) hFc (fun r_21 u t H1 locs ht hvm hw hB hz1 hk1 hS => ?_)
      obtain ⟨hP, hD, hK⟩ := z_after3 (wn := (zV170 h0 tp h0_tapeLength h0_faultKind h0_faultPlace nw im sl rd wk fm mt ch dy sl cA_sl f_sl r0 r0_width r0_size r0_numbers r0_numbers cA_r0_numbers f_r0_numbers r1 r1_width r1_size r1_numbers r1_numbers cA_r1_numbers f_r1_numbers r2 r2_width r2_size r2_numbers r2_numbers cA_r2_numbers f_r2_numbers r3_numbers cA_r3_numbers f_r3_numbers r3 r3_width r3_size r3_numbers)) hB ht hvm hP hD hK [8] [0, 1, 2, 3, 4, 5, 6, 7, 9] rfl 10 rfl (by decide +kernel) rfl (by decide +kernel) hk1 hFc
      generalize H1 = H at hP hS ⊢
      have hK : va_K (dC, dI) vwCl [(cA_sl, .object RX6), (cA_r0_numbers, .long), (cA_r1_numbers, .long), (cA_r2_numbers, .long), (cA_r3_numbers, .long)] s := hK
      have b_r_21 : 0 ≤ r_21.toInt ∧ r_21.toInt ≤ 1 := hw.1
      have s_r_21 := hw.2
      refine lv_if_ne (tgt := 29) hx hb dX9_write_23 (by decide) (fun c_22 => ?_) (fun c_22 => ?_)
      · have ic_22 := zz_ne rfl (show Int32.toInt 0 = 0 from by decide) c_22
        refine lv_aload hx hb dX9_write_29 (lv_at hl 0 rfl) ?_
        refine lv_iload_n hx hb dX9_write_31 rfl (lv_at hl 3 rfl) ?_
        refine lv_iconst (v := 1) hx hb dX9_write_32 (by decide) ?_
        obtain ⟨hPc, hDc, hFc⟩ := z_cut (wc := (zV6 r3 r3_width r3_size r3_numbers)) hP hD hS hA [9] rfl (by decide +kernel)
        have hKc := hK.sub (tys' := []) [] rfl
        refine va_calli (va_runV (As := [.int p2, .int 1]) (rest := []) ⟨hx, hb, hml, hown, hts⟩ (k_X6_hasSpan_v1 l sa dC dI r3 p2 (1) r3_width r3_size r3_numbers b_r3_size H.size) (cwV 2 hts (z_gV zw_t6_80 zw_t6_81 zw_t6_82 zw_t1_10 zw_t6_83) rfl rfl rfl (by decide +kernel) (by rw [← hRe]; exact ⟨(Nat.le_of_ble_eq_true rfl), (Nat.le_of_ble_eq_true rfl)⟩)) (z_preV hPc hKc hDc hN hXs hS hFc (q := (RX6, TX6, 3)) (ci := 6) (q0 := 0) rfl rfl) rfl rfl hl.1 rfl (lv_room (Nat.le_of_ble_eq_true rfl)) dX9_write_33 (by rw [← hRe]; exact ⟨(Nat.le_of_ble_eq_true rfl), (Nat.le_of_ble_eq_true rfl)⟩)) hS (fun q _ h => hFc q h) hFc (fun r_23 u t H1 locs ht hvm hw hB hz1 hk1 hS => ?_)
        obtain ⟨hP, hD, hK⟩ := z_after3 (wn := (zV170 h0 tp h0_tapeLength h0_faultKind h0_faultPlace nw im sl rd wk fm mt ch dy sl cA_sl f_sl r0 r0_width r0_size r0_numbers r0_numbers cA_r0_numbers f_r0_numbers r1 r1_width r1_size r1_numbers r1_numbers cA_r1_numbers f_r1_numbers r2 r2_width r2_size r2_numbers r2_numbers cA_r2_numbers f_r2_numbers r3_numbers cA_r3_numbers f_r3_numbers r3 r3_width r3_size r3_numbers)) hB ht hvm hP hD hK [9] [0, 1, 2, 3, 4, 5, 6, 7, 8] rfl 10 rfl (by decide +kernel) rfl (by decide +kernel) hk1 hFc
        generalize H1 = H at hP hS ⊢
        have hK : va_K (dC, dI) vwCl [(cA_sl, .object RX6), (cA_r0_numbers, .long), (cA_r1_numbers, .long), (cA_r2_numbers, .long), (cA_r3_numbers, .long)] s := hK
        have b_r_23 : 0 ≤ r_23.toInt ∧ r_23.toInt ≤ 1 := hw.1
        have s_r_23 := hw.2
        have za_1 : Int32.toInt 1 = 1 := by decide
        refine lv_if_ne (tgt := 42) hx hb dX9_write_36 (by decide) (fun c_24 => ?_) (fun c_24 => ?_)
        · have ic_24 := zz_ne rfl (show Int32.toInt 0 = 0 from by decide) c_24
          refine lv_aload hx hb dX9_write_42 (lv_at hl 0 rfl) ?_
          refine lv_iload_n hx hb dX9_write_44 rfl (lv_at hl 3 rfl) ?_
          refine lv_lload_n hx hb dX9_write_45 rfl (lv_at hl 4 rfl) ?_
          obtain ⟨hPc, hDc, hFc⟩ := z_cut (wc := (zV7 r3 r3_width r3_size r3_numbers r3_numbers cA_r3_numbers f_r3_numbers)) hP hD hS hA [9, 8] rfl (by decide +kernel)
          have hKc := hK.sub (tys' := [(cA_r3_numbers, .long)]) [4] rfl
          refine va_callv (va_runV (As := [.int p2, .long p3]) (rest := []) ⟨hx, hb, hml, hown, hts⟩ (k_X6_put l sa dC dI r3 p2 p3 r3_width r3_size r3_numbers cA_r3_numbers f_r3_numbers (by first | with_reducible assumption | omega) b_r3_size H.size) (cwV 2 hts (z_gV zw_t6_84 zw_t6_85 zw_t6_86 zw_t1_10 zw_t6_87) rfl rfl rfl (by decide +kernel) (by rw [← hRe]; exact ⟨(Nat.le_of_ble_eq_true rfl), (Nat.le_of_ble_eq_true rfl)⟩)) (z_preV hPc hKc hDc hN hXs hS hFc (q := (RX6, TX6, 3)) (ci := 6) (q0 := 0) rfl rfl) rfl rfl hl.1 rfl (lv_room (Nat.le_of_ble_eq_true rfl)) dX9_write_46 (by rw [← hRe]; exact ⟨(Nat.le_of_ble_eq_true rfl), (Nat.le_of_ble_eq_true rfl)⟩)) hS (fun q _ h => hFc q h) hFc (fun u t H1 locs ht hvm hw hB hz1 hk1 hS => ?_)
          obtain ⟨n_rw_numbers_26, hB⟩ := hB
          obtain ⟨hP, hD, hK⟩ := z_after3 (wn := (zV166 h0 tp h0_tapeLength h0_faultKind h0_faultPlace nw im sl rd wk fm mt ch dy sl cA_sl f_sl r0 r0_width r0_size r0_numbers r0_numbers cA_r0_numbers f_r0_numbers r1 r1_width r1_size r1_numbers r1_numbers cA_r1_numbers f_r1_numbers r2 r2_width r2_size r2_numbers r2_numbers cA_r2_numbers f_r2_numbers r3 r3_width r3_size r3_numbers r3_numbers cA_r3_numbers n_rw_numbers_26)) hB ht hvm hP hD hK [9, 8] [0, 1, 2, 3, 4, 5, 6, 7] rfl 10 rfl (by decide +kernel) rfl (by decide +kernel) hk1 hFc
          generalize H1 = H at hP hS ⊢
          have hK : va_K (dC, dI) vwCl [(cA_sl, .object RX6), (cA_r0_numbers, .long), (cA_r1_numbers, .long), (cA_r2_numbers, .long), (cA_r3_numbers, .long)] s := hK
          refine lv_iconst (v := 0) hx hb dX9_write_49 (by decide) ?_
          have zr : Int32.toInt 0 = 0 := by decide
          have hWa : zSel r0_width.toInt r1_width.toInt r2_width.toInt r3_width.toInt (Int32.toInt 3) = r3_width.toInt := by rw [zc_3]; exact zSel_3
          have hSa : zSel r0_size.toInt r1_size.toInt r2_size.toInt r3_size.toInt (Int32.toInt 3) = r3_size.toInt := by rw [zc_3]; exact zSel_3
          have hsp : zWr (zSel r0_width.toInt r1_width.toInt r2_width.toInt r3_width.toInt) (zSel r0_size.toInt r1_size.toInt r2_size.toInt r3_size.toInt) (Int32.toInt 3) p2.toInt (Int32.toInt 0) := zWr.at (by first | with_reducible assumption | omega) hWa hSa (by first | with_reducible assumption | omega)
          have zc : Int32.toInt 0 = 0 := by decide
          exact W.iret (v := 0) hx hb hr (fun t ht hW => by rw [← hQe]; exact ⟨⟨0, (), rfl, ⟨by omega, by assumption⟩, ⟨f_r0_numbers, f_r1_numbers, f_r2_numbers, n_rw_numbers_26, z_ret hP hK hD ht hW [0, 1, 2, 3, 4, 5, 6, 7, 8, 9] [] rfl (by decide) rfl⟩⟩, hS.F ht⟩) hS.2.2 dX9_write_50
        · have ic_24 := zz_nne rfl (show Int32.toInt 0 = 0 from by decide) c_24
          refine lv_bipush (v := (-7)) hx hb dX9_write_39 (by decide) ?_
          have zr : Int32.toInt (-7) = (-7) := by decide
          have hWa : zSel r0_width.toInt r1_width.toInt r2_width.toInt r3_width.toInt (Int32.toInt 3) = r3_width.toInt := by rw [zc_3]; exact zSel_3
          have hSa : zSel r0_size.toInt r1_size.toInt r2_size.toInt r3_size.toInt (Int32.toInt 3) = r3_size.toInt := by rw [zc_3]; exact zSel_3
          have hsp : zWr (zSel r0_width.toInt r1_width.toInt r2_width.toInt r3_width.toInt) (zSel r0_size.toInt r1_size.toInt r2_size.toInt r3_size.toInt) (Int32.toInt 3) p2.toInt (Int32.toInt (-7)) := zWr.at (by first | with_reducible assumption | omega) hWa hSa (by first | with_reducible assumption | omega)
          have zc : Int32.toInt (-7) = (-7) := by decide
          exact W.iret (v := (-7)) hx hb hr (fun t ht hW => by rw [← hQe]; exact ⟨⟨(-7), (), rfl, ⟨by omega, by assumption⟩, ⟨f_r0_numbers, f_r1_numbers, f_r2_numbers, f_r3_numbers, z_ret hP hK hD ht hW [0, 1, 2, 3, 4, 5, 6, 7, 9, 8] [] rfl (by decide) rfl⟩⟩, hS.F ht⟩) hS.2.2 dX9_write_41
      · have ic_22 := zz_nne rfl (show Int32.toInt 0 = 0 from by decide) c_22
        refine lv_bipush (v := (-6)) hx hb dX9_write_26 (by decide) ?_
        have zr : Int32.toInt (-6) = (-6) := by decide
        have hWa : zSel r0_width.toInt r1_width.toInt r2_width.toInt r3_width.toInt (Int32.toInt 3) = r3_width.toInt := by rw [zc_3]; exact zSel_3
        have hSa : zSel r0_size.toInt r1_size.toInt r2_size.toInt r3_size.toInt (Int32.toInt 3) = r3_size.toInt := by rw [zc_3]; exact zSel_3
        have hsp : zWr (zSel r0_width.toInt r1_width.toInt r2_width.toInt r3_width.toInt) (zSel r0_size.toInt r1_size.toInt r2_size.toInt r3_size.toInt) (Int32.toInt 3) p2.toInt (Int32.toInt (-6)) := zWr.at (by first | with_reducible assumption | omega) hWa hSa (by first | with_reducible assumption | omega)
        have zc : Int32.toInt (-6) = (-6) := by decide
        exact W.iret (v := (-6)) hx hb hr (fun t ht hW => by rw [← hQe]; exact ⟨⟨(-6), (), rfl, ⟨by omega, by assumption⟩, ⟨f_r0_numbers, f_r1_numbers, f_r2_numbers, f_r3_numbers, z_ret hP hK hD ht hW [0, 1, 2, 3, 4, 5, 6, 7, 9, 8] [] rfl (by decide) rfl⟩⟩, hS.F ht⟩) hS.2.2 dX9_write_28
    · omega
  · have ic_2 := zz_nne rfl (show Int32.toInt 0 = 0 from by decide) c_2
    refine lv_bipush (v := (-2)) hx hb dX9_write_7 (by decide) ?_
    have zr : Int32.toInt (-2) = (-2) := by decide
    have hsp : zWr (zSel r0_width.toInt r1_width.toInt r2_width.toInt r3_width.toInt) (zSel r0_size.toInt r1_size.toInt r2_size.toInt r3_size.toInt) p1.toInt p2.toInt (Int32.toInt (-2)) := zWr.out zr (by first | with_reducible assumption | omega)
    have zc : Int32.toInt (-2) = (-2) := by decide
    exact W.iret (v := (-2)) hx hb hr (fun t ht hW => by rw [← hQe]; exact ⟨⟨(-2), (), rfl, ⟨by omega, by assumption⟩, ⟨f_r0_numbers, f_r1_numbers, f_r2_numbers, f_r3_numbers, z_ret hP hK hD ht hW [0, 1, 2, 3, 4, 5, 6, 7, 8, 9] [] rfl (by decide) rfl⟩⟩, hS.F ht⟩) hS.2.2 dX9_write_9
set_option maxHeartbeats 4000000 in
set_option maxRecDepth 100000 in
theorem k_X9_paste_v1 (l : Launch) (sa : Nat → Nat) (dC : Nat → ClassId) (dI : Nat → Nat → Nat) (h0 : Nat) (p1 : Int32) (p2 : Int32) (p3 : Int32) (p4 : Int32) (p5 : Int32) (tp : Nat) (h0_tapeLength : Int32) (h0_faultKind : Int32) (h0_faultPlace : Int32) (nw : Nat) (im : Nat) (sl : Nat) (rd : Nat) (wk : Nat) (fm : Nat) (mt : Nat) (ch : Nat) (dy : Nat) (cA_sl : ClassId) (f_sl : Nat → Option Nat) (r0 : Nat) (r1 : Nat) (r2 : Nat) (r3 : Nat) (r0_width : Int32) (r0_size : Int32) (r0_numbers : Nat) (cA_r0_numbers : ClassId) (f_r0_numbers : Nat → Int64) (r1_width : Int32) (r1_size : Int32) (r1_numbers : Nat) (cA_r1_numbers : ClassId) (f_r1_numbers : Nat → Int64) (r2_width : Int32) (r2_size : Int32) (r2_numbers : Nat) (cA_r2_numbers : ClassId) (f_r2_numbers : Nat → Int64) (r3_width : Int32) (r3_size : Int32) (r3_numbers : Nat) (cA_r3_numbers : ClassId) (f_r3_numbers : Nat → Int64) (b_h0_tapeLength : 0 ≤ h0_tapeLength.toInt ∧ h0_tapeLength.toInt ≤ 1600) (hsl0 : f_sl 0 = some r0) (hsl1 : f_sl 1 = some r1) (hsl2 : f_sl 2 = some r2) (hsl3 : f_sl 3 = some r3) (b_r0_size : 0 ≤ r0_size.toInt ∧ r0_size.toInt ≤ 60) (b_r1_size : 0 ≤ r1_size.toInt ∧ r1_size.toInt ≤ 60) (b_r2_size : 0 ≤ r2_size.toInt ∧ r2_size.toInt ≤ 60) (b_r3_size : 0 ≤ r3_size.toInt ∧ r3_size.toInt ≤ 60) (sz : Nat) : Met l yX9_paste (.code yX9_paste cX9_paste 8 (some .int) :: zT) ({ frames := 1, cells := 0, slots := 0, locals := 60 }) (va_Pc [.ref h0, .int p1, .int p2, .int p3, .int p4, .int p5] (zB sa dC dI (zV166 h0 tp h0_tapeLength h0_faultKind h0_faultPlace nw im sl rd wk fm mt ch dy sl cA_sl f_sl r0 r0_width r0_size r0_numbers r0_numbers cA_r0_numbers f_r0_numbers r1 r1_width r1_size r1_numbers r1_numbers cA_r1_numbers f_r1_numbers r2 r2_width r2_size r2_numbers r2_numbers cA_r2_numbers f_r2_numbers r3 r3_width r3_size r3_numbers r3_numbers cA_r3_numbers f_r3_numbers) [(cA_sl, .object RX6), (cA_r0_numbers, .long), (cA_r1_numbers, .long), (cA_r2_numbers, .long), (cA_r3_numbers, .long)] sz)) (va_Qi (fun (r : Int32) (_ : Unit) => ((-8) ≤ r.toInt ∧ r.toInt ≤ 0) ∧ zPa (zSel r0_width.toInt r1_width.toInt r2_width.toInt r3_width.toInt) (zSel r0_size.toInt r1_size.toInt r2_size.toInt r3_size.toInt) p1.toInt p2.toInt p3.toInt p4.toInt p5.toInt r.toInt) (fun _ t => ∃ (n_r0_numbers : Nat → Int64) (n_r1_numbers : Nat → Int64) (n_r2_numbers : Nat → Int64) (n_r3_numbers : Nat → Int64), zW dC dI (zV166 h0 tp h0_tapeLength h0_faultKind h0_faultPlace nw im sl rd wk fm mt ch dy sl cA_sl f_sl r0 r0_width r0_size r0_numbers r0_numbers cA_r0_numbers n_r0_numbers r1 r1_width r1_size r1_numbers r1_numbers cA_r1_numbers n_r1_numbers r2 r2_width r2_size r2_numbers r2_numbers cA_r2_numbers n_r2_numbers r3 r3_width r3_size r3_numbers r3_numbers cA_r3_numbers n_r3_numbers) [] (va_A (zV166 h0 tp h0_tapeLength h0_faultKind h0_faultPlace nw im sl rd wk fm mt ch dy sl cA_sl f_sl r0 r0_width r0_size r0_numbers r0_numbers cA_r0_numbers f_r0_numbers r1 r1_width r1_size r1_numbers r1_numbers cA_r1_numbers f_r1_numbers r2 r2_width r2_size r2_numbers r2_numbers cA_r2_numbers f_r2_numbers r3 r3_width r3_size r3_numbers r3_numbers cA_r3_numbers f_r3_numbers) sz) t) (va_A (zV166 h0 tp h0_tapeLength h0_faultKind h0_faultPlace nw im sl rd wk fm mt ch dy sl cA_sl f_sl r0 r0_width r0_size r0_numbers r0_numbers cA_r0_numbers f_r0_numbers r1 r1_width r1_size r1_numbers r1_numbers cA_r1_numbers f_r1_numbers r2 r2_width r2_size r2_numbers r2_numbers cA_r2_numbers f_r2_numbers r3 r3_width r3_size r3_numbers r3_numbers cA_r3_numbers f_r3_numbers) sz)) 0 0 (va_A (zV166 h0 tp h0_tapeLength h0_faultKind h0_faultPlace nw im sl rd wk fm mt ch dy sl cA_sl f_sl r0 r0_width r0_size r0_numbers r0_numbers cA_r0_numbers f_r0_numbers r1 r1_width r1_size r1_numbers r1_numbers cA_r1_numbers f_r1_numbers r2 r2_width r2_size r2_numbers r2_numbers cA_r2_numbers f_r2_numbers r3 r3_width r3_size r3_numbers r3_numbers cA_r3_numbers f_r3_numbers) sz) := by
  refine z_enter (by decide) (by exact (Nat.le_of_ble_eq_true rfl)) ?_
  intro p e s m args below meth c ls A R Qc hargs hsz hQe hAe hRe hx hb hml hr hts hown hlocks hin hl hP hK hD hN hXs hA hS
  rw [hAe] at hQe
  have hown : s.vm.findClass RX9 = some m.cls := hown
  have hl : lv_has ls 8 [(0, .ref h0), (1, .int p1), (2, .int p2), (3, .int p3), (4, .int p4), (5, .int p5)] := hl
  refine lv_iload_n hx hb dX9_paste_0 rfl (lv_at hl 1 rfl) ?_
  obtain ⟨hPc, hDc, hFc⟩ := z_cut (wc := []) hP hD hS hA [] rfl (by decide +kernel)
  have hKc := hK.sub (tys' := []) [] rfl
  refine va_calli (va_runS (As := [.int p1]) (rest := []) ⟨hx, hb, hml, hown, hts⟩ (k_X9_isSlot_v2 l sa dC dI p1 s.heap.size) (va_cwS 1 hts (z_gS zw_t5_219 zw_t5_220 zw_t1_1 zw_t5_221) rfl rfl rfl (by decide +kernel) (by rw [← hRe]; exact ⟨(Nat.le_of_ble_eq_true rfl), (Nat.le_of_ble_eq_true rfl)⟩)) (z_preS hPc hKc hDc hN hXs hS hFc) rfl rfl hl.1 rfl (lv_room (Nat.le_of_ble_eq_true rfl)) dX9_paste_1 (by rw [← hRe]; exact ⟨(Nat.le_of_ble_eq_true rfl), (Nat.le_of_ble_eq_true rfl)⟩)) hS (fun q _ h => hFc q h) hFc (fun r_1 u t H1 locs ht hvm hw hB hz1 hk1 hS => ?_)
  obtain ⟨hP, hD, hK⟩ := z_after3 (wn := (zV166 h0 tp h0_tapeLength h0_faultKind h0_faultPlace nw im sl rd wk fm mt ch dy sl cA_sl f_sl r0 r0_width r0_size r0_numbers r0_numbers cA_r0_numbers f_r0_numbers r1 r1_width r1_size r1_numbers r1_numbers cA_r1_numbers f_r1_numbers r2 r2_width r2_size r2_numbers r2_numbers cA_r2_numbers f_r2_numbers r3 r3_width r3_size r3_numbers r3_numbers cA_r3_numbers f_r3_numbers)) hB ht hvm hP hD hK [] [0, 1, 2, 3, 4, 5, 6, 7, 8, 9] rfl 10 rfl (by decide +kernel) rfl (by decide +kernel) hk1 hFc
  generalize H1 = H at hP hS ⊢
  have hK : va_K (dC, dI) vwCl [(cA_sl, .object RX6), (cA_r0_numbers, .long), (cA_r1_numbers, .long), (cA_r2_numbers, .long), (cA_r3_numbers, .long)] s := hK
  have b_r_1 : 0 ≤ r_1.toInt ∧ r_1.toInt ≤ 1 := hw.1
  have s_r_1 := hw.2
  refine lv_if_eq (tgt := 14) hx hb dX9_paste_4 (by decide) (fun c_2 => ?_) (fun c_2 => ?_)
  · have ic_2 := zz_eq rfl (show Int32.toInt 0 = 0 from by decide) c_2
    replace s_r_1 := (s_r_1.resolve_right (fun h => absurd (ic_2.symm.trans h.1) (by decide))).2
    refine lv_bipush (v := (-2)) hx hb dX9_paste_14 (by decide) ?_
    have zr : Int32.toInt (-2) = (-2) := by decide
    have hsp : zPa (zSel r0_width.toInt r1_width.toInt r2_width.toInt r3_width.toInt) (zSel r0_size.toInt r1_size.toInt r2_size.toInt r3_size.toInt) (p1.toInt) (p2.toInt) (p3.toInt) (p4.toInt) (p5.toInt) (Int32.toInt (-2)) := zPa.out zr (by first | with_reducible assumption | omega)
    have zc : Int32.toInt (-2) = (-2) := by decide
    exact W.iret (v := (-2)) hx hb hr (fun t ht hW => by rw [← hQe]; exact ⟨⟨(-2), (), rfl, ⟨by omega, by assumption⟩, ⟨f_r0_numbers, f_r1_numbers, f_r2_numbers, f_r3_numbers, z_ret hP hK hD ht hW [0, 1, 2, 3, 4, 5, 6, 7, 8, 9] [] rfl (by decide) rfl⟩⟩, hS.F ht⟩) hS.2.2 dX9_paste_16
  · have ic_2 := zz_neq rfl (show Int32.toInt 0 = 0 from by decide) c_2
    replace s_r_1 := (s_r_1.resolve_left (fun h => ic_2 h.1)).2
    refine lv_iload_n hx hb dX9_paste_7 rfl (lv_at hl 3 rfl) ?_
    obtain ⟨hPc, hDc, hFc⟩ := z_cut (wc := []) hP hD hS hA [] rfl (by decide +kernel)
    have hKc := hK.sub (tys' := []) [] rfl
    refine va_calli (va_runS (As := [.int p3]) (rest := []) ⟨hx, hb, hml, hown, hts⟩ (k_X9_isSlot_v2 l sa dC dI p3 H.size) (va_cwS 1 hts (z_gS zw_t5_219 zw_t5_220 zw_t1_1 zw_t5_221) rfl rfl rfl (by decide +kernel) (by rw [← hRe]; exact ⟨(Nat.le_of_ble_eq_true rfl), (Nat.le_of_ble_eq_true rfl)⟩)) (z_preS hPc hKc hDc hN hXs hS hFc) rfl rfl hl.1 rfl (lv_room (Nat.le_of_ble_eq_true rfl)) dX9_paste_8 (by rw [← hRe]; exact ⟨(Nat.le_of_ble_eq_true rfl), (Nat.le_of_ble_eq_true rfl)⟩)) hS (fun q _ h => hFc q h) hFc (fun r_3 u t H1 locs ht hvm hw hB hz1 hk1 hS => ?_)
    obtain ⟨hP, hD, hK⟩ := z_after3 (wn := (zV166 h0 tp h0_tapeLength h0_faultKind h0_faultPlace nw im sl rd wk fm mt ch dy sl cA_sl f_sl r0 r0_width r0_size r0_numbers r0_numbers cA_r0_numbers f_r0_numbers r1 r1_width r1_size r1_numbers r1_numbers cA_r1_numbers f_r1_numbers r2 r2_width r2_size r2_numbers r2_numbers cA_r2_numbers f_r2_numbers r3 r3_width r3_size r3_numbers r3_numbers cA_r3_numbers f_r3_numbers)) hB ht hvm hP hD hK [] [0, 1, 2, 3, 4, 5, 6, 7, 8, 9] rfl 10 rfl (by decide +kernel) rfl (by decide +kernel) hk1 hFc
    generalize H1 = H at hP hS ⊢
    have hK : va_K (dC, dI) vwCl [(cA_sl, .object RX6), (cA_r0_numbers, .long), (cA_r1_numbers, .long), (cA_r2_numbers, .long), (cA_r3_numbers, .long)] s := hK
    have b_r_3 : 0 ≤ r_3.toInt ∧ r_3.toInt ≤ 1 := hw.1
    have s_r_3 := hw.2
    refine lv_if_ne (tgt := 17) hx hb dX9_paste_11 (by decide) (fun c_4 => ?_) (fun c_4 => ?_)
    · have ic_4 := zz_ne rfl (show Int32.toInt 0 = 0 from by decide) c_4
      replace s_r_3 := (s_r_3.resolve_left (fun h => ic_4 h.1)).2
      refine lv_aload_n hx hb dX9_paste_17 rfl (lv_at hl 0 rfl) ?_
      refine va_get (D := (dC, dI)) (ci := 9) (v := .ref sl) (C := RX9) (T := TX9) (N := 13) hx hb hts zl_X9 hown hK hP 0 rfl rfl 6 (by decide) (hts _ zw_t2_195) (fun _ h9 => h9) rfl dX9_paste_18 ?_
      refine lv_iload_n hx hb dX9_paste_21 rfl (lv_at hl 1 rfl) ?_
      rcases z_s3 p1 with q_sw | rfl | rfl | rfl | rfl | q_sw
      · omega
      · have zc_0 : Int32.toInt 0 = 0 := by decide
        refine va_aldq hx hb hK hP 1 0 rfl rfl (zi_in (show Int32.toInt 0 = 0 from by decide) (by first | with_reducible assumption | omega)) dX9_paste_22 ?_
        refine W.eq (g2 := F0 m 23 ls (.ref r0 :: [])) (by rw [show f_sl (Int32.toNatClampNeg 0) = some r0 from (by rw [show Int32.toNatClampNeg 0 = 0 from by decide]; exact hsl0)]; rfl) ?_
        refine lv_astore (lv' := [(6, .ref r0), (0, .ref h0), (1, .int 0), (2, .int p2), (3, .int p3), (4, .int p4), (5, .int p5)]) hx hb dX9_paste_23 hl (by decide) rfl (fun ls hl => ?_)
        refine lv_aload_n hx hb dX9_paste_25 rfl (lv_at hl 1 rfl) ?_
        refine va_get (D := (dC, dI)) (ci := 9) (v := .ref sl) (C := RX9) (T := TX9) (N := 13) hx hb hts zl_X9 hown hK hP 0 rfl rfl 6 (by decide) (hts _ zw_t2_195) (fun _ h9 => h9) rfl dX9_paste_26 ?_
        refine lv_iload_n hx hb dX9_paste_29 rfl (lv_at hl 4 rfl) ?_
        rcases z_s3 p3 with q_sw | rfl | rfl | rfl | rfl | q_sw
        · omega
        · have zc_0 : Int32.toInt 0 = 0 := by decide
          refine va_aldq hx hb hK hP 1 0 rfl rfl (zi_in (show Int32.toInt 0 = 0 from by decide) (by first | with_reducible assumption | omega)) dX9_paste_30 ?_
          refine W.eq (g2 := F0 m 31 ls (.ref r0 :: [])) (by rw [show f_sl (Int32.toNatClampNeg 0) = some r0 from (by rw [show Int32.toNatClampNeg 0 = 0 from by decide]; exact hsl0)]; rfl) ?_
          refine lv_astore (lv' := [(7, .ref r0), (6, .ref r0), (0, .ref h0), (1, .int 0), (2, .int p2), (3, .int 0), (4, .int p4), (5, .int p5)]) hx hb dX9_paste_31 hl (by decide) rfl (fun ls hl => ?_)
          refine lv_aload hx hb dX9_paste_33 (lv_at hl 1 rfl) ?_
          obtain ⟨hPc, hDc, hFc⟩ := z_cut (wc := (zV6 r0 r0_width r0_size r0_numbers)) hP hD hS hA [2] rfl (by decide +kernel)
          have hKc := hK.sub (tys' := []) [] rfl
          refine va_calli (va_runV (As := []) (rest := []) ⟨hx, hb, hml, hown, hts⟩ (k_X6_isThere_v1 l sa dC dI r0 r0_width r0_size r0_numbers b_r0_size H.size) (cwV 0 hts (z_gV zw_t5_222 zw_t5_223 zw_t5_224 zw_t1_10 zw_t5_225) rfl rfl rfl (by decide +kernel) (by rw [← hRe]; exact ⟨(Nat.le_of_ble_eq_true rfl), (Nat.le_of_ble_eq_true rfl)⟩)) (z_preV hPc hKc hDc hN hXs hS hFc (q := (RX6, TX6, 3)) (ci := 6) (q0 := 0) rfl rfl) rfl rfl hl.1 rfl (lv_room (Nat.le_of_ble_eq_true rfl)) dX9_paste_35 (by rw [← hRe]; exact ⟨(Nat.le_of_ble_eq_true rfl), (Nat.le_of_ble_eq_true rfl)⟩)) hS (fun q _ h => hFc q h) hFc (fun r_5 u t H1 locs ht hvm hw hB hz1 hk1 hS => ?_)
          obtain ⟨hP, hD, hK⟩ := z_after3 (wn := (zV167 h0 tp h0_tapeLength h0_faultKind h0_faultPlace nw im sl rd wk fm mt ch dy sl cA_sl f_sl r0_numbers cA_r0_numbers f_r0_numbers r1 r1_width r1_size r1_numbers r1_numbers cA_r1_numbers f_r1_numbers r2 r2_width r2_size r2_numbers r2_numbers cA_r2_numbers f_r2_numbers r3 r3_width r3_size r3_numbers r3_numbers cA_r3_numbers f_r3_numbers r0 r0_width r0_size r0_numbers)) hB ht hvm hP hD hK [2] [0, 1, 3, 4, 5, 6, 7, 8, 9] rfl 10 rfl (by decide +kernel) rfl (by decide +kernel) hk1 hFc
          generalize H1 = H at hP hS ⊢
          have hK : va_K (dC, dI) vwCl [(cA_sl, .object RX6), (cA_r0_numbers, .long), (cA_r1_numbers, .long), (cA_r2_numbers, .long), (cA_r3_numbers, .long)] s := hK
          have b_r_5 : 0 ≤ r_5.toInt ∧ r_5.toInt ≤ 1 := hw.1
          have s_r_5 := hw.2
          refine lv_if_eq (tgt := 49) hx hb dX9_paste_38 (by decide) (fun c_6 => ?_) (fun c_6 => ?_)
          · have ic_6 := zz_eq rfl (show Int32.toInt 0 = 0 from by decide) c_6
            replace s_r_5 := (s_r_5.resolve_right (fun h => absurd (ic_6.symm.trans h.1) (by decide))).2
            refine lv_bipush (v := (-6)) hx hb dX9_paste_49 (by decide) ?_
            have zr : Int32.toInt (-6) = (-6) := by decide
            have hWa : zSel r0_width.toInt r1_width.toInt r2_width.toInt r3_width.toInt (Int32.toInt 0) = r0_width.toInt := by rw [zc_0]; exact zSel_0
            have hSa : zSel r0_size.toInt r1_size.toInt r2_size.toInt r3_size.toInt (Int32.toInt 0) = r0_size.toInt := by rw [zc_0]; exact zSel_0
            have hWb : zSel r0_width.toInt r1_width.toInt r2_width.toInt r3_width.toInt (Int32.toInt 0) = r0_width.toInt := by rw [zc_0]; exact zSel_0
            have hSb : zSel r0_size.toInt r1_size.toInt r2_size.toInt r3_size.toInt (Int32.toInt 0) = r0_size.toInt := by rw [zc_0]; exact zSel_0
            have hsp : zPa (zSel r0_width.toInt r1_width.toInt r2_width.toInt r3_width.toInt) (zSel r0_size.toInt r1_size.toInt r2_size.toInt r3_size.toInt) (Int32.toInt 0) (p2.toInt) (Int32.toInt 0) (p4.toInt) (p5.toInt) (Int32.toInt (-6)) := zPa.at (by first | with_reducible assumption | omega) hWa hWb hSa hSb (Or.inl ⟨zr, by omega⟩)
            have zc : Int32.toInt (-6) = (-6) := by decide
            exact W.iret (v := (-6)) hx hb hr (fun t ht hW => by rw [← hQe]; exact ⟨⟨(-6), (), rfl, ⟨by omega, by assumption⟩, ⟨f_r0_numbers, f_r1_numbers, f_r2_numbers, f_r3_numbers, z_ret hP hK hD ht hW [0, 1, 9, 2, 3, 4, 5, 6, 7, 8] [] rfl (by decide) rfl⟩⟩, hS.F ht⟩) hS.2.2 dX9_paste_51
          · have ic_6 := zz_neq rfl (show Int32.toInt 0 = 0 from by decide) c_6
            replace s_r_5 := (s_r_5.resolve_left (fun h => ic_6 h.1)).2
            refine lv_aload hx hb dX9_paste_41 (lv_at hl 0 rfl) ?_
            obtain ⟨hPc, hDc, hFc⟩ := z_cut (wc := (zV6 r0 r0_width r0_size r0_numbers)) hP hD hS hA [9] rfl (by decide +kernel)
            have hKc := hK.sub (tys' := []) [] rfl
            refine va_calli (va_runV (As := []) (rest := []) ⟨hx, hb, hml, hown, hts⟩ (k_X6_isThere_v1 l sa dC dI r0 r0_width r0_size r0_numbers b_r0_size H.size) (cwV 0 hts (z_gV zw_t5_222 zw_t5_223 zw_t5_224 zw_t1_10 zw_t5_225) rfl rfl rfl (by decide +kernel) (by rw [← hRe]; exact ⟨(Nat.le_of_ble_eq_true rfl), (Nat.le_of_ble_eq_true rfl)⟩)) (z_preV hPc hKc hDc hN hXs hS hFc (q := (RX6, TX6, 3)) (ci := 6) (q0 := 0) rfl rfl) rfl rfl hl.1 rfl (lv_room (Nat.le_of_ble_eq_true rfl)) dX9_paste_43 (by rw [← hRe]; exact ⟨(Nat.le_of_ble_eq_true rfl), (Nat.le_of_ble_eq_true rfl)⟩)) hS (fun q _ h => hFc q h) hFc (fun r_7 u t H1 locs ht hvm hw hB hz1 hk1 hS => ?_)
            obtain ⟨hP, hD, hK⟩ := z_after3 (wn := (zV167 h0 tp h0_tapeLength h0_faultKind h0_faultPlace nw im sl rd wk fm mt ch dy sl cA_sl f_sl r0_numbers cA_r0_numbers f_r0_numbers r1 r1_width r1_size r1_numbers r1_numbers cA_r1_numbers f_r1_numbers r2 r2_width r2_size r2_numbers r2_numbers cA_r2_numbers f_r2_numbers r3 r3_width r3_size r3_numbers r3_numbers cA_r3_numbers f_r3_numbers r0 r0_width r0_size r0_numbers)) hB ht hvm hP hD hK [9] [0, 1, 2, 3, 4, 5, 6, 7, 8] rfl 10 rfl (by decide +kernel) rfl (by decide +kernel) hk1 hFc
            generalize H1 = H at hP hS ⊢
            have hK : va_K (dC, dI) vwCl [(cA_sl, .object RX6), (cA_r0_numbers, .long), (cA_r1_numbers, .long), (cA_r2_numbers, .long), (cA_r3_numbers, .long)] s := hK
            have b_r_7 : 0 ≤ r_7.toInt ∧ r_7.toInt ≤ 1 := hw.1
            have s_r_7 := hw.2
            refine lv_if_ne (tgt := 52) hx hb dX9_paste_46 (by decide) (fun c_8 => ?_) (fun c_8 => ?_)
            · have ic_8 := zz_ne rfl (show Int32.toInt 0 = 0 from by decide) c_8
              replace s_r_7 := (s_r_7.resolve_left (fun h => ic_8 h.1)).2
              refine lv_aload hx hb dX9_paste_52 (lv_at hl 1 rfl) ?_
              refine va_get (D := (dC, dI)) (ci := 6) (v := .int r0_width) (C := RX6) (T := TX6) (N := 3) hx hb hts zl_X6 hown hK hP 9 rfl rfl 0 (by decide) (hts _ zw_t2_176) (fun _ h9 => h9) rfl dX9_paste_54 ?_
              refine lv_aload hx hb dX9_paste_57 (lv_at hl 0 rfl) ?_
              refine va_get (D := (dC, dI)) (ci := 6) (v := .int r0_width) (C := RX6) (T := TX6) (N := 3) hx hb hts zl_X6 hown hK hP 9 rfl rfl 0 (by decide) (hts _ zw_t2_176) (fun _ h9 => h9) rfl dX9_paste_59 ?_
              have nb_r0_width := zi_nb r0_width
              refine lv_icmp_eq (tgt := 68) hx hb dX9_paste_62 (by decide) (fun c_9 => ?_) (fun q => absurd (zz_neq rfl rfl q) (by first | with_reducible assumption | omega))
              have ic_9 := zz_eq rfl rfl c_9
              refine lv_aload hx hb dX9_paste_68 (lv_at hl 1 rfl) ?_
              refine lv_iload_n hx hb dX9_paste_70 rfl (lv_at hl 4 rfl) ?_
              refine lv_iload hx hb dX9_paste_71 (lv_at hl 7 rfl) ?_
              obtain ⟨hPc, hDc, hFc⟩ := z_cut (wc := (zV6 r0 r0_width r0_size r0_numbers)) hP hD hS hA [9] rfl (by decide +kernel)
              have hKc := hK.sub (tys' := []) [] rfl
              refine va_calli (va_runV (As := [.int p2, .int p5]) (rest := []) ⟨hx, hb, hml, hown, hts⟩ (k_X6_hasSpan_v1 l sa dC dI r0 p2 p5 r0_width r0_size r0_numbers b_r0_size H.size) (cwV 2 hts (z_gV zw_t6_80 zw_t6_81 zw_t6_82 zw_t1_10 zw_t6_83) rfl rfl rfl (by decide +kernel) (by rw [← hRe]; exact ⟨(Nat.le_of_ble_eq_true rfl), (Nat.le_of_ble_eq_true rfl)⟩)) (z_preV hPc hKc hDc hN hXs hS hFc (q := (RX6, TX6, 3)) (ci := 6) (q0 := 0) rfl rfl) rfl rfl hl.1 rfl (lv_room (Nat.le_of_ble_eq_true rfl)) dX9_paste_73 (by rw [← hRe]; exact ⟨(Nat.le_of_ble_eq_true rfl), (Nat.le_of_ble_eq_true rfl)⟩)) hS (fun q _ h => hFc q h) hFc (fun r_10 u t H1 locs ht hvm hw hB hz1 hk1 hS => ?_)
              obtain ⟨hP, hD, hK⟩ := z_after3 (wn := (zV167 h0 tp h0_tapeLength h0_faultKind h0_faultPlace nw im sl rd wk fm mt ch dy sl cA_sl f_sl r0_numbers cA_r0_numbers f_r0_numbers r1 r1_width r1_size r1_numbers r1_numbers cA_r1_numbers f_r1_numbers r2 r2_width r2_size r2_numbers r2_numbers cA_r2_numbers f_r2_numbers r3 r3_width r3_size r3_numbers r3_numbers cA_r3_numbers f_r3_numbers r0 r0_width r0_size r0_numbers)) hB ht hvm hP hD hK [9] [0, 1, 2, 3, 4, 5, 6, 7, 8] rfl 10 rfl (by decide +kernel) rfl (by decide +kernel) hk1 hFc
              generalize H1 = H at hP hS ⊢
              have hK : va_K (dC, dI) vwCl [(cA_sl, .object RX6), (cA_r0_numbers, .long), (cA_r1_numbers, .long), (cA_r2_numbers, .long), (cA_r3_numbers, .long)] s := hK
              have b_r_10 : 0 ≤ r_10.toInt ∧ r_10.toInt ≤ 1 := hw.1
              have s_r_10 := hw.2
              refine lv_if_eq (tgt := 91) hx hb dX9_paste_76 (by decide) (fun c_11 => ?_) (fun c_11 => ?_)
              · have ic_11 := zz_eq rfl (show Int32.toInt 0 = 0 from by decide) c_11
                replace s_r_10 := (s_r_10.resolve_right (fun h => absurd (ic_11.symm.trans h.1) (by decide))).2
                refine lv_bipush (v := (-7)) hx hb dX9_paste_91 (by decide) ?_
                have zr : Int32.toInt (-7) = (-7) := by decide
                have hWa : zSel r0_width.toInt r1_width.toInt r2_width.toInt r3_width.toInt (Int32.toInt 0) = r0_width.toInt := by rw [zc_0]; exact zSel_0
                have hSa : zSel r0_size.toInt r1_size.toInt r2_size.toInt r3_size.toInt (Int32.toInt 0) = r0_size.toInt := by rw [zc_0]; exact zSel_0
                have hWb : zSel r0_width.toInt r1_width.toInt r2_width.toInt r3_width.toInt (Int32.toInt 0) = r0_width.toInt := by rw [zc_0]; exact zSel_0
                have hSb : zSel r0_size.toInt r1_size.toInt r2_size.toInt r3_size.toInt (Int32.toInt 0) = r0_size.toInt := by rw [zc_0]; exact zSel_0
                have hsp : zPa (zSel r0_width.toInt r1_width.toInt r2_width.toInt r3_width.toInt) (zSel r0_size.toInt r1_size.toInt r2_size.toInt r3_size.toInt) (Int32.toInt 0) (p2.toInt) (Int32.toInt 0) (p4.toInt) (p5.toInt) (Int32.toInt (-7)) := zPa.at (by first | with_reducible assumption | omega) hWa hWb hSa hSb (Or.inr (Or.inr (Or.inl ⟨zr, by omega, by omega, by omega, by omega⟩)))
                have zc : Int32.toInt (-7) = (-7) := by decide
                exact W.iret (v := (-7)) hx hb hr (fun t ht hW => by rw [← hQe]; exact ⟨⟨(-7), (), rfl, ⟨by omega, by assumption⟩, ⟨f_r0_numbers, f_r1_numbers, f_r2_numbers, f_r3_numbers, z_ret hP hK hD ht hW [0, 1, 9, 2, 3, 4, 5, 6, 7, 8] [] rfl (by decide) rfl⟩⟩, hS.F ht⟩) hS.2.2 dX9_paste_93
              · have ic_11 := zz_neq rfl (show Int32.toInt 0 = 0 from by decide) c_11
                replace s_r_10 := (s_r_10.resolve_left (fun h => ic_11 h.1)).2
                refine lv_aload hx hb dX9_paste_79 (lv_at hl 0 rfl) ?_
                refine lv_iload hx hb dX9_paste_81 (lv_at hl 6 rfl) ?_
                refine lv_iload hx hb dX9_paste_83 (lv_at hl 7 rfl) ?_
                obtain ⟨hPc, hDc, hFc⟩ := z_cut (wc := (zV6 r0 r0_width r0_size r0_numbers)) hP hD hS hA [9] rfl (by decide +kernel)
                have hKc := hK.sub (tys' := []) [] rfl
                refine va_calli (va_runV (As := [.int p4, .int p5]) (rest := []) ⟨hx, hb, hml, hown, hts⟩ (k_X6_hasSpan_v1 l sa dC dI r0 p4 p5 r0_width r0_size r0_numbers b_r0_size H.size) (cwV 2 hts (z_gV zw_t6_80 zw_t6_81 zw_t6_82 zw_t1_10 zw_t6_83) rfl rfl rfl (by decide +kernel) (by rw [← hRe]; exact ⟨(Nat.le_of_ble_eq_true rfl), (Nat.le_of_ble_eq_true rfl)⟩)) (z_preV hPc hKc hDc hN hXs hS hFc (q := (RX6, TX6, 3)) (ci := 6) (q0 := 0) rfl rfl) rfl rfl hl.1 rfl (lv_room (Nat.le_of_ble_eq_true rfl)) dX9_paste_85 (by rw [← hRe]; exact ⟨(Nat.le_of_ble_eq_true rfl), (Nat.le_of_ble_eq_true rfl)⟩)) hS (fun q _ h => hFc q h) hFc (fun r_12 u t H1 locs ht hvm hw hB hz1 hk1 hS => ?_)
                obtain ⟨hP, hD, hK⟩ := z_after3 (wn := (zV167 h0 tp h0_tapeLength h0_faultKind h0_faultPlace nw im sl rd wk fm mt ch dy sl cA_sl f_sl r0_numbers cA_r0_numbers f_r0_numbers r1 r1_width r1_size r1_numbers r1_numbers cA_r1_numbers f_r1_numbers r2 r2_width r2_size r2_numbers r2_numbers cA_r2_numbers f_r2_numbers r3 r3_width r3_size r3_numbers r3_numbers cA_r3_numbers f_r3_numbers r0 r0_width r0_size r0_numbers)) hB ht hvm hP hD hK [9] [0, 1, 2, 3, 4, 5, 6, 7, 8] rfl 10 rfl (by decide +kernel) rfl (by decide +kernel) hk1 hFc
                generalize H1 = H at hP hS ⊢
                have hK : va_K (dC, dI) vwCl [(cA_sl, .object RX6), (cA_r0_numbers, .long), (cA_r1_numbers, .long), (cA_r2_numbers, .long), (cA_r3_numbers, .long)] s := hK
                have b_r_12 : 0 ≤ r_12.toInt ∧ r_12.toInt ≤ 1 := hw.1
                have s_r_12 := hw.2
                refine lv_if_ne (tgt := 94) hx hb dX9_paste_88 (by decide) (fun c_13 => ?_) (fun c_13 => ?_)
                · have ic_13 := zz_ne rfl (show Int32.toInt 0 = 0 from by decide) c_13
                  replace s_r_12 := (s_r_12.resolve_left (fun h => ic_13 h.1)).2
                  refine lv_aload hx hb dX9_paste_94 (lv_at hl 1 rfl) ?_
                  refine va_get (D := (dC, dI)) (ci := 6) (v := .ref r0_numbers) (C := RX6) (T := TX6) (N := 3) hx hb hts zl_X6 hown hK hP 9 rfl rfl 2 (by decide) (hts _ zw_t2_181) (fun _ h9 => h9) rfl dX9_paste_96 ?_
                  refine lv_iload_n hx hb dX9_paste_99 rfl (lv_at hl 4 rfl) ?_
                  refine lv_aload hx hb dX9_paste_100 (lv_at hl 0 rfl) ?_
                  refine va_get (D := (dC, dI)) (ci := 6) (v := .ref r0_numbers) (C := RX6) (T := TX6) (N := 3) hx hb hts zl_X6 hown hK hP 9 rfl rfl 2 (by decide) (hts _ zw_t2_181) (fun _ h9 => h9) rfl dX9_paste_102 ?_
                  refine lv_iload hx hb dX9_paste_105 (lv_at hl 6 rfl) ?_
                  refine lv_iload hx hb dX9_paste_107 (lv_at hl 7 rfl) ?_
                  have kc_p2 := zi_clamp (x := p2) rfl (by first | with_reducible assumption | omega)
                  have kc_p4 := zi_clamp (x := p4) rfl (by first | with_reducible assumption | omega)
                  have kc_p5 := zi_clamp (x := p5) rfl (by first | with_reducible assumption | omega)
                  refine va_copyl hx hb (by rw [hml]; exact hl.1.symm) hown (hts _ zw_t6_92) (hts _ zw_t4_39) (hts _ zw_t4_38) (hts _ zw_t1_18) hK hP hD hS 2 2 1 1 rfl rfl rfl rfl rfl (fun q => absurd (z_lt (k := 0) (by decide) q) (by first | with_reducible assumption | omega)) (fun q => absurd (z_lt (k := 0) (by decide) q) (by first | with_reducible assumption | omega)) (fun q => absurd (z_lt (k := 0) (by decide) q) (by first | with_reducible assumption | omega)) (by first | with_reducible assumption | omega) (by first | with_reducible assumption | omega) (fun _ _ => rfl) (by rw [← hRe]; exact (Nat.le_of_ble_eq_true rfl)) (by rw [← hRe]; exact (Nat.le_of_ble_eq_true rfl)) dX9_paste_109 (fun H locs hP hD hS => ?_)
                  obtain ⟨f_14, ef_14⟩ : ∃ g : Nat → Int64, g = va_cpy f_r0_numbers f_r0_numbers (Int32.toNatClampNeg p2) (Int32.toNatClampNeg p4) (Int32.toNatClampNeg p5) := ⟨_, rfl⟩
                  have hP : va_P (dC, dI) vwCl (zV167 h0 tp h0_tapeLength h0_faultKind h0_faultPlace nw im sl rd wk fm mt ch dy sl cA_sl f_sl r0_numbers cA_r0_numbers (va_cpy f_r0_numbers f_r0_numbers (Int32.toNatClampNeg p2) (Int32.toNatClampNeg p4) (Int32.toNatClampNeg p5)) r1 r1_width r1_size r1_numbers r1_numbers cA_r1_numbers f_r1_numbers r2 r2_width r2_size r2_numbers r2_numbers cA_r2_numbers f_r2_numbers r3 r3_width r3_size r3_numbers r3_numbers cA_r3_numbers f_r3_numbers r0 r0_width r0_size r0_numbers) H := hP
                  have hD : va_D A (zV167 h0 tp h0_tapeLength h0_faultKind h0_faultPlace nw im sl rd wk fm mt ch dy sl cA_sl f_sl r0_numbers cA_r0_numbers (va_cpy f_r0_numbers f_r0_numbers (Int32.toNatClampNeg p2) (Int32.toNatClampNeg p4) (Int32.toNatClampNeg p5)) r1 r1_width r1_size r1_numbers r1_numbers cA_r1_numbers f_r1_numbers r2 r2_width r2_size r2_numbers r2_numbers cA_r2_numbers f_r2_numbers r3 r3_width r3_size r3_numbers r3_numbers cA_r3_numbers f_r3_numbers r0 r0_width r0_size r0_numbers) := hD
                  rw [← ef_14] at hP hD
                  refine lv_iconst (v := 0) hx hb dX9_paste_112 (by decide) ?_
                  have zr : Int32.toInt 0 = 0 := by decide
                  have hWa : zSel r0_width.toInt r1_width.toInt r2_width.toInt r3_width.toInt (Int32.toInt 0) = r0_width.toInt := by rw [zc_0]; exact zSel_0
                  have hSa : zSel r0_size.toInt r1_size.toInt r2_size.toInt r3_size.toInt (Int32.toInt 0) = r0_size.toInt := by rw [zc_0]; exact zSel_0
                  have hWb : zSel r0_width.toInt r1_width.toInt r2_width.toInt r3_width.toInt (Int32.toInt 0) = r0_width.toInt := by rw [zc_0]; exact zSel_0
                  have hSb : zSel r0_size.toInt r1_size.toInt r2_size.toInt r3_size.toInt (Int32.toInt 0) = r0_size.toInt := by rw [zc_0]; exact zSel_0
                  have hsp : zPa (zSel r0_width.toInt r1_width.toInt r2_width.toInt r3_width.toInt) (zSel r0_size.toInt r1_size.toInt r2_size.toInt r3_size.toInt) (Int32.toInt 0) (p2.toInt) (Int32.toInt 0) (p4.toInt) (p5.toInt) (Int32.toInt 0) := zPa.at (by first | with_reducible assumption | omega) hWa hWb hSa hSb (Or.inr (Or.inr (Or.inr ⟨zr, by omega, by omega, by omega, by omega, by omega, by omega, by omega, by omega⟩)))
                  have zc : Int32.toInt 0 = 0 := by decide
                  exact W.iret (v := 0) hx hb hr (fun t ht hW => by rw [← hQe]; exact ⟨⟨0, (), rfl, ⟨by omega, by assumption⟩, ⟨f_14, f_r1_numbers, f_r2_numbers, f_r3_numbers, z_ret hP hK hD ht hW [0, 1, 9, 2, 3, 4, 5, 6, 7, 8] [] rfl (by decide) rfl⟩⟩, hS.F ht⟩) hS.2.2 dX9_paste_113
                · have ic_13 := zz_nne rfl (show Int32.toInt 0 = 0 from by decide) c_13
                  replace s_r_12 := (s_r_12.resolve_right (fun h => absurd (ic_13.symm.trans h.1) (by decide))).2
                  refine lv_bipush (v := (-7)) hx hb dX9_paste_91 (by decide) ?_
                  have zr : Int32.toInt (-7) = (-7) := by decide
                  have hWa : zSel r0_width.toInt r1_width.toInt r2_width.toInt r3_width.toInt (Int32.toInt 0) = r0_width.toInt := by rw [zc_0]; exact zSel_0
                  have hSa : zSel r0_size.toInt r1_size.toInt r2_size.toInt r3_size.toInt (Int32.toInt 0) = r0_size.toInt := by rw [zc_0]; exact zSel_0
                  have hWb : zSel r0_width.toInt r1_width.toInt r2_width.toInt r3_width.toInt (Int32.toInt 0) = r0_width.toInt := by rw [zc_0]; exact zSel_0
                  have hSb : zSel r0_size.toInt r1_size.toInt r2_size.toInt r3_size.toInt (Int32.toInt 0) = r0_size.toInt := by rw [zc_0]; exact zSel_0
                  have hsp : zPa (zSel r0_width.toInt r1_width.toInt r2_width.toInt r3_width.toInt) (zSel r0_size.toInt r1_size.toInt r2_size.toInt r3_size.toInt) (Int32.toInt 0) (p2.toInt) (Int32.toInt 0) (p4.toInt) (p5.toInt) (Int32.toInt (-7)) := zPa.at (by first | with_reducible assumption | omega) hWa hWb hSa hSb (Or.inr (Or.inr (Or.inl ⟨zr, by omega, by omega, by omega, by omega⟩)))
                  have zc : Int32.toInt (-7) = (-7) := by decide
                  exact W.iret (v := (-7)) hx hb hr (fun t ht hW => by rw [← hQe]; exact ⟨⟨(-7), (), rfl, ⟨by omega, by assumption⟩, ⟨f_r0_numbers, f_r1_numbers, f_r2_numbers, f_r3_numbers, z_ret hP hK hD ht hW [0, 1, 9, 2, 3, 4, 5, 6, 7, 8] [] rfl (by decide) rfl⟩⟩, hS.F ht⟩) hS.2.2 dX9_paste_93
            · have ic_8 := zz_nne rfl (show Int32.toInt 0 = 0 from by decide) c_8
              replace s_r_7 := (s_r_7.resolve_right (fun h => absurd (ic_8.symm.trans h.1) (by decide))).2
              refine lv_bipush (v := (-6)) hx hb dX9_paste_49 (by decide) ?_
              have zr : Int32.toInt (-6) = (-6) := by decide
              have hWa : zSel r0_width.toInt r1_width.toInt r2_width.toInt r3_width.toInt (Int32.toInt 0) = r0_width.toInt := by rw [zc_0]; exact zSel_0
              have hSa : zSel r0_size.toInt r1_size.toInt r2_size.toInt r3_size.toInt (Int32.toInt 0) = r0_size.toInt := by rw [zc_0]; exact zSel_0
              have hWb : zSel r0_width.toInt r1_width.toInt r2_width.toInt r3_width.toInt (Int32.toInt 0) = r0_width.toInt := by rw [zc_0]; exact zSel_0
              have hSb : zSel r0_size.toInt r1_size.toInt r2_size.toInt r3_size.toInt (Int32.toInt 0) = r0_size.toInt := by rw [zc_0]; exact zSel_0
              have hsp : zPa (zSel r0_width.toInt r1_width.toInt r2_width.toInt r3_width.toInt) (zSel r0_size.toInt r1_size.toInt r2_size.toInt r3_size.toInt) (Int32.toInt 0) (p2.toInt) (Int32.toInt 0) (p4.toInt) (p5.toInt) (Int32.toInt (-6)) := zPa.at (by first | with_reducible assumption | omega) hWa hWb hSa hSb (Or.inl ⟨zr, by omega⟩)
              have zc : Int32.toInt (-6) = (-6) := by decide
              exact W.iret (v := (-6)) hx hb hr (fun t ht hW => by rw [← hQe]; exact ⟨⟨(-6), (), rfl, ⟨by omega, by assumption⟩, ⟨f_r0_numbers, f_r1_numbers, f_r2_numbers, f_r3_numbers, z_ret hP hK hD ht hW [0, 1, 9, 2, 3, 4, 5, 6, 7, 8] [] rfl (by decide) rfl⟩⟩, hS.F ht⟩) hS.2.2 dX9_paste_51
        · have zc_1 : Int32.toInt 1 = 1 := by decide
          refine va_aldq hx hb hK hP 1 0 rfl rfl (zi_in (show Int32.toInt 1 = 1 from by decide) (by first | with_reducible assumption | omega)) dX9_paste_30 ?_
          refine W.eq (g2 := F0 m 31 ls (.ref r1 :: [])) (by rw [show f_sl (Int32.toNatClampNeg 1) = some r1 from (by rw [show Int32.toNatClampNeg 1 = 1 from by decide]; exact hsl1)]; rfl) ?_
          refine lv_astore (lv' := [(7, .ref r1), (6, .ref r0), (0, .ref h0), (1, .int 0), (2, .int p2), (3, .int 1), (4, .int p4), (5, .int p5)]) hx hb dX9_paste_31 hl (by decide) rfl (fun ls hl => ?_)
          refine lv_aload hx hb dX9_paste_33 (lv_at hl 1 rfl) ?_
          obtain ⟨hPc, hDc, hFc⟩ := z_cut (wc := (zV6 r0 r0_width r0_size r0_numbers)) hP hD hS hA [2] rfl (by decide +kernel)
          have hKc := hK.sub (tys' := []) [] rfl
          refine va_calli (va_runV (As := []) (rest := []) ⟨hx, hb, hml, hown, hts⟩ (k_X6_isThere_v1 l sa dC dI r0 r0_width r0_size r0_numbers b_r0_size H.size) (cwV 0 hts (z_gV zw_t5_222 zw_t5_223 zw_t5_224 zw_t1_10 zw_t5_225) rfl rfl rfl (by decide +kernel) (by rw [← hRe]; exact ⟨(Nat.le_of_ble_eq_true rfl), (Nat.le_of_ble_eq_true rfl)⟩)) (z_preV hPc hKc hDc hN hXs hS hFc (q := (RX6, TX6, 3)) (ci := 6) (q0 := 0) rfl rfl) rfl rfl hl.1 rfl (lv_room (Nat.le_of_ble_eq_true rfl)) dX9_paste_35 (by rw [← hRe]; exact ⟨(Nat.le_of_ble_eq_true rfl), (Nat.le_of_ble_eq_true rfl)⟩)) hS (fun q _ h => hFc q h) hFc (fun r_15 u t H1 locs ht hvm hw hB hz1 hk1 hS => ?_)
          obtain ⟨hP, hD, hK⟩ := z_after3 (wn := (zV167 h0 tp h0_tapeLength h0_faultKind h0_faultPlace nw im sl rd wk fm mt ch dy sl cA_sl f_sl r0_numbers cA_r0_numbers f_r0_numbers r1 r1_width r1_size r1_numbers r1_numbers cA_r1_numbers f_r1_numbers r2 r2_width r2_size r2_numbers r2_numbers cA_r2_numbers f_r2_numbers r3 r3_width r3_size r3_numbers r3_numbers cA_r3_numbers f_r3_numbers r0 r0_width r0_size r0_numbers)) hB ht hvm hP hD hK [2] [0, 1, 3, 4, 5, 6, 7, 8, 9] rfl 10 rfl (by decide +kernel) rfl (by decide +kernel) hk1 hFc
          generalize H1 = H at hP hS ⊢
          have hK : va_K (dC, dI) vwCl [(cA_sl, .object RX6), (cA_r0_numbers, .long), (cA_r1_numbers, .long), (cA_r2_numbers, .long), (cA_r3_numbers, .long)] s := hK
          have b_r_15 : 0 ≤ r_15.toInt ∧ r_15.toInt ≤ 1 := hw.1
          have s_r_15 := hw.2
          refine lv_if_eq (tgt := 49) hx hb dX9_paste_38 (by decide) (fun c_16 => ?_) (fun c_16 => ?_)
          · have ic_16 := zz_eq rfl (show Int32.toInt 0 = 0 from by decide) c_16
            replace s_r_15 := (s_r_15.resolve_right (fun h => absurd (ic_16.symm.trans h.1) (by decide))).2
            refine lv_bipush (v := (-6)) hx hb dX9_paste_49 (by decide) ?_
            have zr : Int32.toInt (-6) = (-6) := by decide
            have hWa : zSel r0_width.toInt r1_width.toInt r2_width.toInt r3_width.toInt (Int32.toInt 0) = r0_width.toInt := by rw [zc_0]; exact zSel_0
            have hSa : zSel r0_size.toInt r1_size.toInt r2_size.toInt r3_size.toInt (Int32.toInt 0) = r0_size.toInt := by rw [zc_0]; exact zSel_0
            have hWb : zSel r0_width.toInt r1_width.toInt r2_width.toInt r3_width.toInt (Int32.toInt 1) = r1_width.toInt := by rw [zc_1]; exact zSel_1
            have hSb : zSel r0_size.toInt r1_size.toInt r2_size.toInt r3_size.toInt (Int32.toInt 1) = r1_size.toInt := by rw [zc_1]; exact zSel_1
            have hsp : zPa (zSel r0_width.toInt r1_width.toInt r2_width.toInt r3_width.toInt) (zSel r0_size.toInt r1_size.toInt r2_size.toInt r3_size.toInt) (Int32.toInt 0) (p2.toInt) (Int32.toInt 1) (p4.toInt) (p5.toInt) (Int32.toInt (-6)) := zPa.at (by first | with_reducible assumption | omega) hWa hWb hSa hSb (Or.inl ⟨zr, by omega⟩)
            have zc : Int32.toInt (-6) = (-6) := by decide
            exact W.iret (v := (-6)) hx hb hr (fun t ht hW => by rw [← hQe]; exact ⟨⟨(-6), (), rfl, ⟨by omega, by assumption⟩, ⟨f_r0_numbers, f_r1_numbers, f_r2_numbers, f_r3_numbers, z_ret hP hK hD ht hW [0, 1, 9, 2, 3, 4, 5, 6, 7, 8] [] rfl (by decide) rfl⟩⟩, hS.F ht⟩) hS.2.2 dX9_paste_51
          · have ic_16 := zz_neq rfl (show Int32.toInt 0 = 0 from by decide) c_16
            replace s_r_15 := (s_r_15.resolve_left (fun h => ic_16 h.1)).2
            refine lv_aload hx hb dX9_paste_41 (lv_at hl 0 rfl) ?_
            obtain ⟨hPc, hDc, hFc⟩ := z_cut (wc := (zV6 r1 r1_width r1_size r1_numbers)) hP hD hS hA [3] rfl (by decide +kernel)
            have hKc := hK.sub (tys' := []) [] rfl
            refine va_calli (va_runV (As := []) (rest := []) ⟨hx, hb, hml, hown, hts⟩ (k_X6_isThere_v1 l sa dC dI r1 r1_width r1_size r1_numbers b_r1_size H.size) (cwV 0 hts (z_gV zw_t5_222 zw_t5_223 zw_t5_224 zw_t1_10 zw_t5_225) rfl rfl rfl (by decide +kernel) (by rw [← hRe]; exact ⟨(Nat.le_of_ble_eq_true rfl), (Nat.le_of_ble_eq_true rfl)⟩)) (z_preV hPc hKc hDc hN hXs hS hFc (q := (RX6, TX6, 3)) (ci := 6) (q0 := 0) rfl rfl) rfl rfl hl.1 rfl (lv_room (Nat.le_of_ble_eq_true rfl)) dX9_paste_43 (by rw [← hRe]; exact ⟨(Nat.le_of_ble_eq_true rfl), (Nat.le_of_ble_eq_true rfl)⟩)) hS (fun q _ h => hFc q h) hFc (fun r_17 u t H1 locs ht hvm hw hB hz1 hk1 hS => ?_)
            obtain ⟨hP, hD, hK⟩ := z_after3 (wn := (zV390 h0 tp h0_tapeLength h0_faultKind h0_faultPlace nw im sl rd wk fm mt ch dy sl cA_sl f_sl r0_numbers cA_r0_numbers f_r0_numbers r1_numbers cA_r1_numbers f_r1_numbers r2 r2_width r2_size r2_numbers r2_numbers cA_r2_numbers f_r2_numbers r3 r3_width r3_size r3_numbers r3_numbers cA_r3_numbers f_r3_numbers r0 r0_width r0_size r0_numbers r1 r1_width r1_size r1_numbers)) hB ht hvm hP hD hK [3] [0, 1, 2, 4, 5, 6, 7, 8, 9] rfl 10 rfl (by decide +kernel) rfl (by decide +kernel) hk1 hFc
            generalize H1 = H at hP hS ⊢
            have hK : va_K (dC, dI) vwCl [(cA_sl, .object RX6), (cA_r0_numbers, .long), (cA_r1_numbers, .long), (cA_r2_numbers, .long), (cA_r3_numbers, .long)] s := hK
            have b_r_17 : 0 ≤ r_17.toInt ∧ r_17.toInt ≤ 1 := hw.1
            have s_r_17 := hw.2
            refine lv_if_ne (tgt := 52) hx hb dX9_paste_46 (by decide) (fun c_18 => ?_) (fun c_18 => ?_)
            · have ic_18 := zz_ne rfl (show Int32.toInt 0 = 0 from by decide) c_18
              replace s_r_17 := (s_r_17.resolve_left (fun h => ic_18 h.1)).2
              refine lv_aload hx hb dX9_paste_52 (lv_at hl 1 rfl) ?_
              refine va_get (D := (dC, dI)) (ci := 6) (v := .int r0_width) (C := RX6) (T := TX6) (N := 3) hx hb hts zl_X6 hown hK hP 8 rfl rfl 0 (by decide) (hts _ zw_t2_176) (fun _ h9 => h9) rfl dX9_paste_54 ?_
              refine lv_aload hx hb dX9_paste_57 (lv_at hl 0 rfl) ?_
              refine va_get (D := (dC, dI)) (ci := 6) (v := .int r1_width) (C := RX6) (T := TX6) (N := 3) hx hb hts zl_X6 hown hK hP 9 rfl rfl 0 (by decide) (hts _ zw_t2_176) (fun _ h9 => h9) rfl dX9_paste_59 ?_
              have nb_r0_width := zi_nb r0_width
              have nb_r1_width := zi_nb r1_width
              refine lv_icmp_eq (tgt := 68) hx hb dX9_paste_62 (by decide) (fun c_19 => ?_) (fun c_19 => ?_)
              · have ic_19 := zz_eq rfl rfl c_19
                refine lv_aload hx hb dX9_paste_68 (lv_at hl 1 rfl) ?_
                refine lv_iload_n hx hb dX9_paste_70 rfl (lv_at hl 4 rfl) ?_
                refine lv_iload hx hb dX9_paste_71 (lv_at hl 7 rfl) ?_
                obtain ⟨hPc, hDc, hFc⟩ := z_cut (wc := (zV6 r0 r0_width r0_size r0_numbers)) hP hD hS hA [8] rfl (by decide +kernel)
                have hKc := hK.sub (tys' := []) [] rfl
                refine va_calli (va_runV (As := [.int p2, .int p5]) (rest := []) ⟨hx, hb, hml, hown, hts⟩ (k_X6_hasSpan_v1 l sa dC dI r0 p2 p5 r0_width r0_size r0_numbers b_r0_size H.size) (cwV 2 hts (z_gV zw_t6_80 zw_t6_81 zw_t6_82 zw_t1_10 zw_t6_83) rfl rfl rfl (by decide +kernel) (by rw [← hRe]; exact ⟨(Nat.le_of_ble_eq_true rfl), (Nat.le_of_ble_eq_true rfl)⟩)) (z_preV hPc hKc hDc hN hXs hS hFc (q := (RX6, TX6, 3)) (ci := 6) (q0 := 0) rfl rfl) rfl rfl hl.1 rfl (lv_room (Nat.le_of_ble_eq_true rfl)) dX9_paste_73 (by rw [← hRe]; exact ⟨(Nat.le_of_ble_eq_true rfl), (Nat.le_of_ble_eq_true rfl)⟩)) hS (fun q _ h => hFc q h) hFc (fun r_20 u t H1 locs ht hvm hw hB hz1 hk1 hS => ?_)
                obtain ⟨hP, hD, hK⟩ := z_after3 (wn := (zV390 h0 tp h0_tapeLength h0_faultKind h0_faultPlace nw im sl rd wk fm mt ch dy sl cA_sl f_sl r0_numbers cA_r0_numbers f_r0_numbers r1_numbers cA_r1_numbers f_r1_numbers r2 r2_width r2_size r2_numbers r2_numbers cA_r2_numbers f_r2_numbers r3 r3_width r3_size r3_numbers r3_numbers cA_r3_numbers f_r3_numbers r1 r1_width r1_size r1_numbers r0 r0_width r0_size r0_numbers)) hB ht hvm hP hD hK [8] [0, 1, 2, 3, 4, 5, 6, 7, 9] rfl 10 rfl (by decide +kernel) rfl (by decide +kernel) hk1 hFc
                generalize H1 = H at hP hS ⊢
                have hK : va_K (dC, dI) vwCl [(cA_sl, .object RX6), (cA_r0_numbers, .long), (cA_r1_numbers, .long), (cA_r2_numbers, .long), (cA_r3_numbers, .long)] s := hK
                have b_r_20 : 0 ≤ r_20.toInt ∧ r_20.toInt ≤ 1 := hw.1
                have s_r_20 := hw.2
                refine lv_if_eq (tgt := 91) hx hb dX9_paste_76 (by decide) (fun c_21 => ?_) (fun c_21 => ?_)
                · have ic_21 := zz_eq rfl (show Int32.toInt 0 = 0 from by decide) c_21
                  replace s_r_20 := (s_r_20.resolve_right (fun h => absurd (ic_21.symm.trans h.1) (by decide))).2
                  refine lv_bipush (v := (-7)) hx hb dX9_paste_91 (by decide) ?_
                  have zr : Int32.toInt (-7) = (-7) := by decide
                  have hWa : zSel r0_width.toInt r1_width.toInt r2_width.toInt r3_width.toInt (Int32.toInt 0) = r0_width.toInt := by rw [zc_0]; exact zSel_0
                  have hSa : zSel r0_size.toInt r1_size.toInt r2_size.toInt r3_size.toInt (Int32.toInt 0) = r0_size.toInt := by rw [zc_0]; exact zSel_0
                  have hWb : zSel r0_width.toInt r1_width.toInt r2_width.toInt r3_width.toInt (Int32.toInt 1) = r1_width.toInt := by rw [zc_1]; exact zSel_1
                  have hSb : zSel r0_size.toInt r1_size.toInt r2_size.toInt r3_size.toInt (Int32.toInt 1) = r1_size.toInt := by rw [zc_1]; exact zSel_1
                  have hsp : zPa (zSel r0_width.toInt r1_width.toInt r2_width.toInt r3_width.toInt) (zSel r0_size.toInt r1_size.toInt r2_size.toInt r3_size.toInt) (Int32.toInt 0) (p2.toInt) (Int32.toInt 1) (p4.toInt) (p5.toInt) (Int32.toInt (-7)) := zPa.at (by first | with_reducible assumption | omega) hWa hWb hSa hSb (Or.inr (Or.inr (Or.inl ⟨zr, by omega, by omega, by omega, by omega⟩)))
                  have zc : Int32.toInt (-7) = (-7) := by decide
                  exact W.iret (v := (-7)) hx hb hr (fun t ht hW => by rw [← hQe]; exact ⟨⟨(-7), (), rfl, ⟨by omega, by assumption⟩, ⟨f_r0_numbers, f_r1_numbers, f_r2_numbers, f_r3_numbers, z_ret hP hK hD ht hW [0, 1, 9, 2, 8, 3, 4, 5, 6, 7] [] rfl (by decide) rfl⟩⟩, hS.F ht⟩) hS.2.2 dX9_paste_93
                · have ic_21 := zz_neq rfl (show Int32.toInt 0 = 0 from by decide) c_21
                  replace s_r_20 := (s_r_20.resolve_left (fun h => ic_21 h.1)).2
                  refine lv_aload hx hb dX9_paste_79 (lv_at hl 0 rfl) ?_
                  refine lv_iload hx hb dX9_paste_81 (lv_at hl 6 rfl) ?_
                  refine lv_iload hx hb dX9_paste_83 (lv_at hl 7 rfl) ?_
                  obtain ⟨hPc, hDc, hFc⟩ := z_cut (wc := (zV6 r1 r1_width r1_size r1_numbers)) hP hD hS hA [8] rfl (by decide +kernel)
                  have hKc := hK.sub (tys' := []) [] rfl
                  refine va_calli (va_runV (As := [.int p4, .int p5]) (rest := []) ⟨hx, hb, hml, hown, hts⟩ (k_X6_hasSpan_v1 l sa dC dI r1 p4 p5 r1_width r1_size r1_numbers b_r1_size H.size) (cwV 2 hts (z_gV zw_t6_80 zw_t6_81 zw_t6_82 zw_t1_10 zw_t6_83) rfl rfl rfl (by decide +kernel) (by rw [← hRe]; exact ⟨(Nat.le_of_ble_eq_true rfl), (Nat.le_of_ble_eq_true rfl)⟩)) (z_preV hPc hKc hDc hN hXs hS hFc (q := (RX6, TX6, 3)) (ci := 6) (q0 := 0) rfl rfl) rfl rfl hl.1 rfl (lv_room (Nat.le_of_ble_eq_true rfl)) dX9_paste_85 (by rw [← hRe]; exact ⟨(Nat.le_of_ble_eq_true rfl), (Nat.le_of_ble_eq_true rfl)⟩)) hS (fun q _ h => hFc q h) hFc (fun r_22 u t H1 locs ht hvm hw hB hz1 hk1 hS => ?_)
                  obtain ⟨hP, hD, hK⟩ := z_after3 (wn := (zV390 h0 tp h0_tapeLength h0_faultKind h0_faultPlace nw im sl rd wk fm mt ch dy sl cA_sl f_sl r0_numbers cA_r0_numbers f_r0_numbers r1_numbers cA_r1_numbers f_r1_numbers r2 r2_width r2_size r2_numbers r2_numbers cA_r2_numbers f_r2_numbers r3 r3_width r3_size r3_numbers r3_numbers cA_r3_numbers f_r3_numbers r0 r0_width r0_size r0_numbers r1 r1_width r1_size r1_numbers)) hB ht hvm hP hD hK [8] [0, 1, 2, 3, 4, 5, 6, 7, 9] rfl 10 rfl (by decide +kernel) rfl (by decide +kernel) hk1 hFc
                  generalize H1 = H at hP hS ⊢
                  have hK : va_K (dC, dI) vwCl [(cA_sl, .object RX6), (cA_r0_numbers, .long), (cA_r1_numbers, .long), (cA_r2_numbers, .long), (cA_r3_numbers, .long)] s := hK
                  have b_r_22 : 0 ≤ r_22.toInt ∧ r_22.toInt ≤ 1 := hw.1
                  have s_r_22 := hw.2
                  refine lv_if_ne (tgt := 94) hx hb dX9_paste_88 (by decide) (fun c_23 => ?_) (fun c_23 => ?_)
                  · have ic_23 := zz_ne rfl (show Int32.toInt 0 = 0 from by decide) c_23
                    replace s_r_22 := (s_r_22.resolve_left (fun h => ic_23 h.1)).2
                    refine lv_aload hx hb dX9_paste_94 (lv_at hl 1 rfl) ?_
                    refine va_get (D := (dC, dI)) (ci := 6) (v := .ref r0_numbers) (C := RX6) (T := TX6) (N := 3) hx hb hts zl_X6 hown hK hP 8 rfl rfl 2 (by decide) (hts _ zw_t2_181) (fun _ h9 => h9) rfl dX9_paste_96 ?_
                    refine lv_iload_n hx hb dX9_paste_99 rfl (lv_at hl 4 rfl) ?_
                    refine lv_aload hx hb dX9_paste_100 (lv_at hl 0 rfl) ?_
                    refine va_get (D := (dC, dI)) (ci := 6) (v := .ref r1_numbers) (C := RX6) (T := TX6) (N := 3) hx hb hts zl_X6 hown hK hP 9 rfl rfl 2 (by decide) (hts _ zw_t2_181) (fun _ h9 => h9) rfl dX9_paste_102 ?_
                    refine lv_iload hx hb dX9_paste_105 (lv_at hl 6 rfl) ?_
                    refine lv_iload hx hb dX9_paste_107 (lv_at hl 7 rfl) ?_
                    have kc_p2 := zi_clamp (x := p2) rfl (by first | with_reducible assumption | omega)
                    have kc_p4 := zi_clamp (x := p4) rfl (by first | with_reducible assumption | omega)
                    have kc_p5 := zi_clamp (x := p5) rfl (by first | with_reducible assumption | omega)
                    refine va_copyl hx hb (by rw [hml]; exact hl.1.symm) hown (hts _ zw_t6_92) (hts _ zw_t4_39) (hts _ zw_t4_38) (hts _ zw_t1_18) hK hP hD hS 2 3 1 2 rfl rfl rfl rfl rfl (fun q => absurd (z_lt (k := 0) (by decide) q) (by first | with_reducible assumption | omega)) (fun q => absurd (z_lt (k := 0) (by decide) q) (by first | with_reducible assumption | omega)) (fun q => absurd (z_lt (k := 0) (by decide) q) (by first | with_reducible assumption | omega)) (by first | with_reducible assumption | omega) (by first | with_reducible assumption | omega) (fun _ _ => rfl) (by rw [← hRe]; exact (Nat.le_of_ble_eq_true rfl)) (by rw [← hRe]; exact (Nat.le_of_ble_eq_true rfl)) dX9_paste_109 (fun H locs hP hD hS => ?_)
                    obtain ⟨f_24, ef_24⟩ : ∃ g : Nat → Int64, g = va_cpy f_r0_numbers f_r1_numbers (Int32.toNatClampNeg p2) (Int32.toNatClampNeg p4) (Int32.toNatClampNeg p5) := ⟨_, rfl⟩
                    have hP : va_P (dC, dI) vwCl (zV390 h0 tp h0_tapeLength h0_faultKind h0_faultPlace nw im sl rd wk fm mt ch dy sl cA_sl f_sl r0_numbers cA_r0_numbers f_r0_numbers r1_numbers cA_r1_numbers (va_cpy f_r0_numbers f_r1_numbers (Int32.toNatClampNeg p2) (Int32.toNatClampNeg p4) (Int32.toNatClampNeg p5)) r2 r2_width r2_size r2_numbers r2_numbers cA_r2_numbers f_r2_numbers r3 r3_width r3_size r3_numbers r3_numbers cA_r3_numbers f_r3_numbers r0 r0_width r0_size r0_numbers r1 r1_width r1_size r1_numbers) H := hP
                    have hD : va_D A (zV390 h0 tp h0_tapeLength h0_faultKind h0_faultPlace nw im sl rd wk fm mt ch dy sl cA_sl f_sl r0_numbers cA_r0_numbers f_r0_numbers r1_numbers cA_r1_numbers (va_cpy f_r0_numbers f_r1_numbers (Int32.toNatClampNeg p2) (Int32.toNatClampNeg p4) (Int32.toNatClampNeg p5)) r2 r2_width r2_size r2_numbers r2_numbers cA_r2_numbers f_r2_numbers r3 r3_width r3_size r3_numbers r3_numbers cA_r3_numbers f_r3_numbers r0 r0_width r0_size r0_numbers r1 r1_width r1_size r1_numbers) := hD
                    rw [← ef_24] at hP hD
                    refine lv_iconst (v := 0) hx hb dX9_paste_112 (by decide) ?_
                    have zr : Int32.toInt 0 = 0 := by decide
                    have hWa : zSel r0_width.toInt r1_width.toInt r2_width.toInt r3_width.toInt (Int32.toInt 0) = r0_width.toInt := by rw [zc_0]; exact zSel_0
                    have hSa : zSel r0_size.toInt r1_size.toInt r2_size.toInt r3_size.toInt (Int32.toInt 0) = r0_size.toInt := by rw [zc_0]; exact zSel_0
                    have hWb : zSel r0_width.toInt r1_width.toInt r2_width.toInt r3_width.toInt (Int32.toInt 1) = r1_width.toInt := by rw [zc_1]; exact zSel_1
                    have hSb : zSel r0_size.toInt r1_size.toInt r2_size.toInt r3_size.toInt (Int32.toInt 1) = r1_size.toInt := by rw [zc_1]; exact zSel_1
                    have hsp : zPa (zSel r0_width.toInt r1_width.toInt r2_width.toInt r3_width.toInt) (zSel r0_size.toInt r1_size.toInt r2_size.toInt r3_size.toInt) (Int32.toInt 0) (p2.toInt) (Int32.toInt 1) (p4.toInt) (p5.toInt) (Int32.toInt 0) := zPa.at (by first | with_reducible assumption | omega) hWa hWb hSa hSb (Or.inr (Or.inr (Or.inr ⟨zr, by omega, by omega, by omega, by omega, by omega, by omega, by omega, by omega⟩)))
                    have zc : Int32.toInt 0 = 0 := by decide
                    exact W.iret (v := 0) hx hb hr (fun t ht hW => by rw [← hQe]; exact ⟨⟨0, (), rfl, ⟨by omega, by assumption⟩, ⟨f_r0_numbers, f_24, f_r2_numbers, f_r3_numbers, z_ret hP hK hD ht hW [0, 1, 8, 2, 9, 3, 4, 5, 6, 7] [] rfl (by decide) rfl⟩⟩, hS.F ht⟩) hS.2.2 dX9_paste_113
                  · have ic_23 := zz_nne rfl (show Int32.toInt 0 = 0 from by decide) c_23
                    replace s_r_22 := (s_r_22.resolve_right (fun h => absurd (ic_23.symm.trans h.1) (by decide))).2
                    refine lv_bipush (v := (-7)) hx hb dX9_paste_91 (by decide) ?_
                    have zr : Int32.toInt (-7) = (-7) := by decide
                    have hWa : zSel r0_width.toInt r1_width.toInt r2_width.toInt r3_width.toInt (Int32.toInt 0) = r0_width.toInt := by rw [zc_0]; exact zSel_0
                    have hSa : zSel r0_size.toInt r1_size.toInt r2_size.toInt r3_size.toInt (Int32.toInt 0) = r0_size.toInt := by rw [zc_0]; exact zSel_0
                    have hWb : zSel r0_width.toInt r1_width.toInt r2_width.toInt r3_width.toInt (Int32.toInt 1) = r1_width.toInt := by rw [zc_1]; exact zSel_1
                    have hSb : zSel r0_size.toInt r1_size.toInt r2_size.toInt r3_size.toInt (Int32.toInt 1) = r1_size.toInt := by rw [zc_1]; exact zSel_1
                    have hsp : zPa (zSel r0_width.toInt r1_width.toInt r2_width.toInt r3_width.toInt) (zSel r0_size.toInt r1_size.toInt r2_size.toInt r3_size.toInt) (Int32.toInt 0) (p2.toInt) (Int32.toInt 1) (p4.toInt) (p5.toInt) (Int32.toInt (-7)) := zPa.at (by first | with_reducible assumption | omega) hWa hWb hSa hSb (Or.inr (Or.inr (Or.inl ⟨zr, by omega, by omega, by omega, by omega⟩)))
                    have zc : Int32.toInt (-7) = (-7) := by decide
                    exact W.iret (v := (-7)) hx hb hr (fun t ht hW => by rw [← hQe]; exact ⟨⟨(-7), (), rfl, ⟨by omega, by assumption⟩, ⟨f_r0_numbers, f_r1_numbers, f_r2_numbers, f_r3_numbers, z_ret hP hK hD ht hW [0, 1, 8, 2, 9, 3, 4, 5, 6, 7] [] rfl (by decide) rfl⟩⟩, hS.F ht⟩) hS.2.2 dX9_paste_93
              · have ic_19 := zz_neq rfl rfl c_19
                refine lv_bipush (v := (-8)) hx hb dX9_paste_65 (by decide) ?_
                have zr : Int32.toInt (-8) = (-8) := by decide
                have hWa : zSel r0_width.toInt r1_width.toInt r2_width.toInt r3_width.toInt (Int32.toInt 0) = r0_width.toInt := by rw [zc_0]; exact zSel_0
                have hSa : zSel r0_size.toInt r1_size.toInt r2_size.toInt r3_size.toInt (Int32.toInt 0) = r0_size.toInt := by rw [zc_0]; exact zSel_0
                have hWb : zSel r0_width.toInt r1_width.toInt r2_width.toInt r3_width.toInt (Int32.toInt 1) = r1_width.toInt := by rw [zc_1]; exact zSel_1
                have hSb : zSel r0_size.toInt r1_size.toInt r2_size.toInt r3_size.toInt (Int32.toInt 1) = r1_size.toInt := by rw [zc_1]; exact zSel_1
                have hsp : zPa (zSel r0_width.toInt r1_width.toInt r2_width.toInt r3_width.toInt) (zSel r0_size.toInt r1_size.toInt r2_size.toInt r3_size.toInt) (Int32.toInt 0) (p2.toInt) (Int32.toInt 1) (p4.toInt) (p5.toInt) (Int32.toInt (-8)) := zPa.at (by first | with_reducible assumption | omega) hWa hWb hSa hSb (Or.inr (Or.inl ⟨zr, by omega, by omega, by omega⟩))
                have zc : Int32.toInt (-8) = (-8) := by decide
                exact W.iret (v := (-8)) hx hb hr (fun t ht hW => by rw [← hQe]; exact ⟨⟨(-8), (), rfl, ⟨by omega, by assumption⟩, ⟨f_r0_numbers, f_r1_numbers, f_r2_numbers, f_r3_numbers, z_ret hP hK hD ht hW [0, 1, 8, 2, 9, 3, 4, 5, 6, 7] [] rfl (by decide) rfl⟩⟩, hS.F ht⟩) hS.2.2 dX9_paste_67
            · have ic_18 := zz_nne rfl (show Int32.toInt 0 = 0 from by decide) c_18
              replace s_r_17 := (s_r_17.resolve_right (fun h => absurd (ic_18.symm.trans h.1) (by decide))).2
              refine lv_bipush (v := (-6)) hx hb dX9_paste_49 (by decide) ?_
              have zr : Int32.toInt (-6) = (-6) := by decide
              have hWa : zSel r0_width.toInt r1_width.toInt r2_width.toInt r3_width.toInt (Int32.toInt 0) = r0_width.toInt := by rw [zc_0]; exact zSel_0
              have hSa : zSel r0_size.toInt r1_size.toInt r2_size.toInt r3_size.toInt (Int32.toInt 0) = r0_size.toInt := by rw [zc_0]; exact zSel_0
              have hWb : zSel r0_width.toInt r1_width.toInt r2_width.toInt r3_width.toInt (Int32.toInt 1) = r1_width.toInt := by rw [zc_1]; exact zSel_1
              have hSb : zSel r0_size.toInt r1_size.toInt r2_size.toInt r3_size.toInt (Int32.toInt 1) = r1_size.toInt := by rw [zc_1]; exact zSel_1
              have hsp : zPa (zSel r0_width.toInt r1_width.toInt r2_width.toInt r3_width.toInt) (zSel r0_size.toInt r1_size.toInt r2_size.toInt r3_size.toInt) (Int32.toInt 0) (p2.toInt) (Int32.toInt 1) (p4.toInt) (p5.toInt) (Int32.toInt (-6)) := zPa.at (by first | with_reducible assumption | omega) hWa hWb hSa hSb (Or.inl ⟨zr, by omega⟩)
              have zc : Int32.toInt (-6) = (-6) := by decide
              exact W.iret (v := (-6)) hx hb hr (fun t ht hW => by rw [← hQe]; exact ⟨⟨(-6), (), rfl, ⟨by omega, by assumption⟩, ⟨f_r0_numbers, f_r1_numbers, f_r2_numbers, f_r3_numbers, z_ret hP hK hD ht hW [0, 1, 8, 2, 9, 3, 4, 5, 6, 7] [] rfl (by decide) rfl⟩⟩, hS.F ht⟩) hS.2.2 dX9_paste_51
        · have zc_2 : Int32.toInt 2 = 2 := by decide
          refine va_aldq hx hb hK hP 1 0 rfl rfl (zi_in (show Int32.toInt 2 = 2 from by decide) (by first | with_reducible assumption | omega)) dX9_paste_30 ?_
          refine W.eq (g2 := F0 m 31 ls (.ref r2 :: [])) (by rw [show f_sl (Int32.toNatClampNeg 2) = some r2 from (by rw [show Int32.toNatClampNeg 2 = 2 from by decide]; exact hsl2)]; rfl) ?_
          refine lv_astore (lv' := [(7, .ref r2), (6, .ref r0), (0, .ref h0), (1, .int 0), (2, .int p2), (3, .int 2), (4, .int p4), (5, .int p5)]) hx hb dX9_paste_31 hl (by decide) rfl (fun ls hl => ?_)
          refine lv_aload hx hb dX9_paste_33 (lv_at hl 1 rfl) ?_
          obtain ⟨hPc, hDc, hFc⟩ := z_cut (wc := (zV6 r0 r0_width r0_size r0_numbers)) hP hD hS hA [2] rfl (by decide +kernel)
          have hKc := hK.sub (tys' := []) [] rfl
          refine va_calli (va_runV (As := []) (rest := []) ⟨hx, hb, hml, hown, hts⟩ (k_X6_isThere_v1 l sa dC dI r0 r0_width r0_size r0_numbers b_r0_size H.size) (cwV 0 hts (z_gV zw_t5_222 zw_t5_223 zw_t5_224 zw_t1_10 zw_t5_225) rfl rfl rfl (by decide +kernel) (by rw [← hRe]; exact ⟨(Nat.le_of_ble_eq_true rfl), (Nat.le_of_ble_eq_true rfl)⟩)) (z_preV hPc hKc hDc hN hXs hS hFc (q := (RX6, TX6, 3)) (ci := 6) (q0 := 0) rfl rfl) rfl rfl hl.1 rfl (lv_room (Nat.le_of_ble_eq_true rfl)) dX9_paste_35 (by rw [← hRe]; exact ⟨(Nat.le_of_ble_eq_true rfl), (Nat.le_of_ble_eq_true rfl)⟩)) hS (fun q _ h => hFc q h) hFc (fun r_25 u t H1 locs ht hvm hw hB hz1 hk1 hS => ?_)
          obtain ⟨hP, hD, hK⟩ := z_after3 (wn := (zV167 h0 tp h0_tapeLength h0_faultKind h0_faultPlace nw im sl rd wk fm mt ch dy sl cA_sl f_sl r0_numbers cA_r0_numbers f_r0_numbers r1 r1_width r1_size r1_numbers r1_numbers cA_r1_numbers f_r1_numbers r2 r2_width r2_size r2_numbers r2_numbers cA_r2_numbers f_r2_numbers r3 r3_width r3_size r3_numbers r3_numbers cA_r3_numbers f_r3_numbers r0 r0_width r0_size r0_numbers)) hB ht hvm hP hD hK [2] [0, 1, 3, 4, 5, 6, 7, 8, 9] rfl 10 rfl (by decide +kernel) rfl (by decide +kernel) hk1 hFc
          generalize H1 = H at hP hS ⊢
          have hK : va_K (dC, dI) vwCl [(cA_sl, .object RX6), (cA_r0_numbers, .long), (cA_r1_numbers, .long), (cA_r2_numbers, .long), (cA_r3_numbers, .long)] s := hK
          have b_r_25 : 0 ≤ r_25.toInt ∧ r_25.toInt ≤ 1 := hw.1
          have s_r_25 := hw.2
          refine lv_if_eq (tgt := 49) hx hb dX9_paste_38 (by decide) (fun c_26 => ?_) (fun c_26 => ?_)
          · have ic_26 := zz_eq rfl (show Int32.toInt 0 = 0 from by decide) c_26
            replace s_r_25 := (s_r_25.resolve_right (fun h => absurd (ic_26.symm.trans h.1) (by decide))).2
            refine lv_bipush (v := (-6)) hx hb dX9_paste_49 (by decide) ?_
            have zr : Int32.toInt (-6) = (-6) := by decide
            have hWa : zSel r0_width.toInt r1_width.toInt r2_width.toInt r3_width.toInt (Int32.toInt 0) = r0_width.toInt := by rw [zc_0]; exact zSel_0
            have hSa : zSel r0_size.toInt r1_size.toInt r2_size.toInt r3_size.toInt (Int32.toInt 0) = r0_size.toInt := by rw [zc_0]; exact zSel_0
            have hWb : zSel r0_width.toInt r1_width.toInt r2_width.toInt r3_width.toInt (Int32.toInt 2) = r2_width.toInt := by rw [zc_2]; exact zSel_2
            have hSb : zSel r0_size.toInt r1_size.toInt r2_size.toInt r3_size.toInt (Int32.toInt 2) = r2_size.toInt := by rw [zc_2]; exact zSel_2
            have hsp : zPa (zSel r0_width.toInt r1_width.toInt r2_width.toInt r3_width.toInt) (zSel r0_size.toInt r1_size.toInt r2_size.toInt r3_size.toInt) (Int32.toInt 0) (p2.toInt) (Int32.toInt 2) (p4.toInt) (p5.toInt) (Int32.toInt (-6)) := zPa.at (by first | with_reducible assumption | omega) hWa hWb hSa hSb (Or.inl ⟨zr, by omega⟩)
            have zc : Int32.toInt (-6) = (-6) := by decide
            exact W.iret (v := (-6)) hx hb hr (fun t ht hW => by rw [← hQe]; exact ⟨⟨(-6), (), rfl, ⟨by omega, by assumption⟩, ⟨f_r0_numbers, f_r1_numbers, f_r2_numbers, f_r3_numbers, z_ret hP hK hD ht hW [0, 1, 9, 2, 3, 4, 5, 6, 7, 8] [] rfl (by decide) rfl⟩⟩, hS.F ht⟩) hS.2.2 dX9_paste_51
          · have ic_26 := zz_neq rfl (show Int32.toInt 0 = 0 from by decide) c_26
            replace s_r_25 := (s_r_25.resolve_left (fun h => ic_26 h.1)).2
            refine lv_aload hx hb dX9_paste_41 (lv_at hl 0 rfl) ?_
            obtain ⟨hPc, hDc, hFc⟩ := z_cut (wc := (zV6 r2 r2_width r2_size r2_numbers)) hP hD hS hA [5] rfl (by decide +kernel)
            have hKc := hK.sub (tys' := []) [] rfl
            refine va_calli (va_runV (As := []) (rest := []) ⟨hx, hb, hml, hown, hts⟩ (k_X6_isThere_v1 l sa dC dI r2 r2_width r2_size r2_numbers b_r2_size H.size) (cwV 0 hts (z_gV zw_t5_222 zw_t5_223 zw_t5_224 zw_t1_10 zw_t5_225) rfl rfl rfl (by decide +kernel) (by rw [← hRe]; exact ⟨(Nat.le_of_ble_eq_true rfl), (Nat.le_of_ble_eq_true rfl)⟩)) (z_preV hPc hKc hDc hN hXs hS hFc (q := (RX6, TX6, 3)) (ci := 6) (q0 := 0) rfl rfl) rfl rfl hl.1 rfl (lv_room (Nat.le_of_ble_eq_true rfl)) dX9_paste_43 (by rw [← hRe]; exact ⟨(Nat.le_of_ble_eq_true rfl), (Nat.le_of_ble_eq_true rfl)⟩)) hS (fun q _ h => hFc q h) hFc (fun r_27 u t H1 locs ht hvm hw hB hz1 hk1 hS => ?_)
            obtain ⟨hP, hD, hK⟩ := z_after3 (wn := (zV391 h0 tp h0_tapeLength h0_faultKind h0_faultPlace nw im sl rd wk fm mt ch dy sl cA_sl f_sl r0_numbers cA_r0_numbers f_r0_numbers r1 r1_width r1_size r1_numbers r1_numbers cA_r1_numbers f_r1_numbers r2_numbers cA_r2_numbers f_r2_numbers r3 r3_width r3_size r3_numbers r3_numbers cA_r3_numbers f_r3_numbers r0 r0_width r0_size r0_numbers r2 r2_width r2_size r2_numbers)) hB ht hvm hP hD hK [5] [0, 1, 2, 3, 4, 6, 7, 8, 9] rfl 10 rfl (by decide +kernel) rfl (by decide +kernel) hk1 hFc
            generalize H1 = H at hP hS ⊢
            have hK : va_K (dC, dI) vwCl [(cA_sl, .object RX6), (cA_r0_numbers, .long), (cA_r1_numbers, .long), (cA_r2_numbers, .long), (cA_r3_numbers, .long)] s := hK
            have b_r_27 : 0 ≤ r_27.toInt ∧ r_27.toInt ≤ 1 := hw.1
            have s_r_27 := hw.2
            refine lv_if_ne (tgt := 52) hx hb dX9_paste_46 (by decide) (fun c_28 => ?_) (fun c_28 => ?_)
            · have ic_28 := zz_ne rfl (show Int32.toInt 0 = 0 from by decide) c_28
              replace s_r_27 := (s_r_27.resolve_left (fun h => ic_28 h.1)).2
              refine lv_aload hx hb dX9_paste_52 (lv_at hl 1 rfl) ?_
              refine va_get (D := (dC, dI)) (ci := 6) (v := .int r0_width) (C := RX6) (T := TX6) (N := 3) hx hb hts zl_X6 hown hK hP 8 rfl rfl 0 (by decide) (hts _ zw_t2_176) (fun _ h9 => h9) rfl dX9_paste_54 ?_
              refine lv_aload hx hb dX9_paste_57 (lv_at hl 0 rfl) ?_
              refine va_get (D := (dC, dI)) (ci := 6) (v := .int r2_width) (C := RX6) (T := TX6) (N := 3) hx hb hts zl_X6 hown hK hP 9 rfl rfl 0 (by decide) (hts _ zw_t2_176) (fun _ h9 => h9) rfl dX9_paste_59 ?_
              have nb_r0_width := zi_nb r0_width
              have nb_r2_width := zi_nb r2_width
              refine lv_icmp_eq (tgt := 68) hx hb dX9_paste_62 (by decide) (fun c_29 => ?_) (fun c_29 => ?_)
              · have ic_29 := zz_eq rfl rfl c_29
                refine lv_aload hx hb dX9_paste_68 (lv_at hl 1 rfl) ?_
                refine lv_iload_n hx hb dX9_paste_70 rfl (lv_at hl 4 rfl) ?_
                refine lv_iload hx hb dX9_paste_71 (lv_at hl 7 rfl) ?_
                obtain ⟨hPc, hDc, hFc⟩ := z_cut (wc := (zV6 r0 r0_width r0_size r0_numbers)) hP hD hS hA [8] rfl (by decide +kernel)
                have hKc := hK.sub (tys' := []) [] rfl
                refine va_calli (va_runV (As := [.int p2, .int p5]) (rest := []) ⟨hx, hb, hml, hown, hts⟩ (k_X6_hasSpan_v1 l sa dC dI r0 p2 p5 r0_width r0_size r0_numbers b_r0_size H.size) (cwV 2 hts (z_gV zw_t6_80 zw_t6_81 zw_t6_82 zw_t1_10 zw_t6_83) rfl rfl rfl (by decide +kernel) (by rw [← hRe]; exact ⟨(Nat.le_of_ble_eq_true rfl), (Nat.le_of_ble_eq_true rfl)⟩)) (z_preV hPc hKc hDc hN hXs hS hFc (q := (RX6, TX6, 3)) (ci := 6) (q0 := 0) rfl rfl) rfl rfl hl.1 rfl (lv_room (Nat.le_of_ble_eq_true rfl)) dX9_paste_73 (by rw [← hRe]; exact ⟨(Nat.le_of_ble_eq_true rfl), (Nat.le_of_ble_eq_true rfl)⟩)) hS (fun q _ h => hFc q h) hFc (fun r_30 u t H1 locs ht hvm hw hB hz1 hk1 hS => ?_)
                obtain ⟨hP, hD, hK⟩ := z_after3 (wn := (zV391 h0 tp h0_tapeLength h0_faultKind h0_faultPlace nw im sl rd wk fm mt ch dy sl cA_sl f_sl r0_numbers cA_r0_numbers f_r0_numbers r1 r1_width r1_size r1_numbers r1_numbers cA_r1_numbers f_r1_numbers r2_numbers cA_r2_numbers f_r2_numbers r3 r3_width r3_size r3_numbers r3_numbers cA_r3_numbers f_r3_numbers r2 r2_width r2_size r2_numbers r0 r0_width r0_size r0_numbers)) hB ht hvm hP hD hK [8] [0, 1, 2, 3, 4, 5, 6, 7, 9] rfl 10 rfl (by decide +kernel) rfl (by decide +kernel) hk1 hFc
                generalize H1 = H at hP hS ⊢
                have hK : va_K (dC, dI) vwCl [(cA_sl, .object RX6), (cA_r0_numbers, .long), (cA_r1_numbers, .long), (cA_r2_numbers, .long), (cA_r3_numbers, .long)] s := hK
                have b_r_30 : 0 ≤ r_30.toInt ∧ r_30.toInt ≤ 1 := hw.1
                have s_r_30 := hw.2
                refine lv_if_eq (tgt := 91) hx hb dX9_paste_76 (by decide) (fun c_31 => ?_) (fun c_31 => ?_)
                · have ic_31 := zz_eq rfl (show Int32.toInt 0 = 0 from by decide) c_31
                  replace s_r_30 := (s_r_30.resolve_right (fun h => absurd (ic_31.symm.trans h.1) (by decide))).2
                  refine lv_bipush (v := (-7)) hx hb dX9_paste_91 (by decide) ?_
                  have zr : Int32.toInt (-7) = (-7) := by decide
                  have hWa : zSel r0_width.toInt r1_width.toInt r2_width.toInt r3_width.toInt (Int32.toInt 0) = r0_width.toInt := by rw [zc_0]; exact zSel_0
                  have hSa : zSel r0_size.toInt r1_size.toInt r2_size.toInt r3_size.toInt (Int32.toInt 0) = r0_size.toInt := by rw [zc_0]; exact zSel_0
                  have hWb : zSel r0_width.toInt r1_width.toInt r2_width.toInt r3_width.toInt (Int32.toInt 2) = r2_width.toInt := by rw [zc_2]; exact zSel_2
                  have hSb : zSel r0_size.toInt r1_size.toInt r2_size.toInt r3_size.toInt (Int32.toInt 2) = r2_size.toInt := by rw [zc_2]; exact zSel_2
                  have hsp : zPa (zSel r0_width.toInt r1_width.toInt r2_width.toInt r3_width.toInt) (zSel r0_size.toInt r1_size.toInt r2_size.toInt r3_size.toInt) (Int32.toInt 0) (p2.toInt) (Int32.toInt 2) (p4.toInt) (p5.toInt) (Int32.toInt (-7)) := zPa.at (by first | with_reducible assumption | omega) hWa hWb hSa hSb (Or.inr (Or.inr (Or.inl ⟨zr, by omega, by omega, by omega, by omega⟩)))
                  have zc : Int32.toInt (-7) = (-7) := by decide
                  exact W.iret (v := (-7)) hx hb hr (fun t ht hW => by rw [← hQe]; exact ⟨⟨(-7), (), rfl, ⟨by omega, by assumption⟩, ⟨f_r0_numbers, f_r1_numbers, f_r2_numbers, f_r3_numbers, z_ret hP hK hD ht hW [0, 1, 9, 2, 3, 4, 8, 5, 6, 7] [] rfl (by decide) rfl⟩⟩, hS.F ht⟩) hS.2.2 dX9_paste_93
                · have ic_31 := zz_neq rfl (show Int32.toInt 0 = 0 from by decide) c_31
                  replace s_r_30 := (s_r_30.resolve_left (fun h => ic_31 h.1)).2
                  refine lv_aload hx hb dX9_paste_79 (lv_at hl 0 rfl) ?_
                  refine lv_iload hx hb dX9_paste_81 (lv_at hl 6 rfl) ?_
                  refine lv_iload hx hb dX9_paste_83 (lv_at hl 7 rfl) ?_
                  obtain ⟨hPc, hDc, hFc⟩ := z_cut (wc := (zV6 r2 r2_width r2_size r2_numbers)) hP hD hS hA [8] rfl (by decide +kernel)
                  have hKc := hK.sub (tys' := []) [] rfl
                  refine va_calli (va_runV (As := [.int p4, .int p5]) (rest := []) ⟨hx, hb, hml, hown, hts⟩ (k_X6_hasSpan_v1 l sa dC dI r2 p4 p5 r2_width r2_size r2_numbers b_r2_size H.size) (cwV 2 hts (z_gV zw_t6_80 zw_t6_81 zw_t6_82 zw_t1_10 zw_t6_83) rfl rfl rfl (by decide +kernel) (by rw [← hRe]; exact ⟨(Nat.le_of_ble_eq_true rfl), (Nat.le_of_ble_eq_true rfl)⟩)) (z_preV hPc hKc hDc hN hXs hS hFc (q := (RX6, TX6, 3)) (ci := 6) (q0 := 0) rfl rfl) rfl rfl hl.1 rfl (lv_room (Nat.le_of_ble_eq_true rfl)) dX9_paste_85 (by rw [← hRe]; exact ⟨(Nat.le_of_ble_eq_true rfl), (Nat.le_of_ble_eq_true rfl)⟩)) hS (fun q _ h => hFc q h) hFc (fun r_32 u t H1 locs ht hvm hw hB hz1 hk1 hS => ?_)
                  obtain ⟨hP, hD, hK⟩ := z_after3 (wn := (zV391 h0 tp h0_tapeLength h0_faultKind h0_faultPlace nw im sl rd wk fm mt ch dy sl cA_sl f_sl r0_numbers cA_r0_numbers f_r0_numbers r1 r1_width r1_size r1_numbers r1_numbers cA_r1_numbers f_r1_numbers r2_numbers cA_r2_numbers f_r2_numbers r3 r3_width r3_size r3_numbers r3_numbers cA_r3_numbers f_r3_numbers r0 r0_width r0_size r0_numbers r2 r2_width r2_size r2_numbers)) hB ht hvm hP hD hK [8] [0, 1, 2, 3, 4, 5, 6, 7, 9] rfl 10 rfl (by decide +kernel) rfl (by decide +kernel) hk1 hFc
                  generalize H1 = H at hP hS ⊢
                  have hK : va_K (dC, dI) vwCl [(cA_sl, .object RX6), (cA_r0_numbers, .long), (cA_r1_numbers, .long), (cA_r2_numbers, .long), (cA_r3_numbers, .long)] s := hK
                  have b_r_32 : 0 ≤ r_32.toInt ∧ r_32.toInt ≤ 1 := hw.1
                  have s_r_32 := hw.2
                  refine lv_if_ne (tgt := 94) hx hb dX9_paste_88 (by decide) (fun c_33 => ?_) (fun c_33 => ?_)
                  · have ic_33 := zz_ne rfl (show Int32.toInt 0 = 0 from by decide) c_33
                    replace s_r_32 := (s_r_32.resolve_left (fun h => ic_33 h.1)).2
                    refine lv_aload hx hb dX9_paste_94 (lv_at hl 1 rfl) ?_
                    refine va_get (D := (dC, dI)) (ci := 6) (v := .ref r0_numbers) (C := RX6) (T := TX6) (N := 3) hx hb hts zl_X6 hown hK hP 8 rfl rfl 2 (by decide) (hts _ zw_t2_181) (fun _ h9 => h9) rfl dX9_paste_96 ?_
                    refine lv_iload_n hx hb dX9_paste_99 rfl (lv_at hl 4 rfl) ?_
                    refine lv_aload hx hb dX9_paste_100 (lv_at hl 0 rfl) ?_
                    refine va_get (D := (dC, dI)) (ci := 6) (v := .ref r2_numbers) (C := RX6) (T := TX6) (N := 3) hx hb hts zl_X6 hown hK hP 9 rfl rfl 2 (by decide) (hts _ zw_t2_181) (fun _ h9 => h9) rfl dX9_paste_102 ?_
                    refine lv_iload hx hb dX9_paste_105 (lv_at hl 6 rfl) ?_
                    refine lv_iload hx hb dX9_paste_107 (lv_at hl 7 rfl) ?_
                    have kc_p2 := zi_clamp (x := p2) rfl (by first | with_reducible assumption | omega)
                    have kc_p4 := zi_clamp (x := p4) rfl (by first | with_reducible assumption | omega)
                    have kc_p5 := zi_clamp (x := p5) rfl (by first | with_reducible assumption | omega)
                    refine va_copyl hx hb (by rw [hml]; exact hl.1.symm) hown (hts _ zw_t6_92) (hts _ zw_t4_39) (hts _ zw_t4_38) (hts _ zw_t1_18) hK hP hD hS 2 5 1 3 rfl rfl rfl rfl rfl (fun q => absurd (z_lt (k := 0) (by decide) q) (by first | with_reducible assumption | omega)) (fun q => absurd (z_lt (k := 0) (by decide) q) (by first | with_reducible assumption | omega)) (fun q => absurd (z_lt (k := 0) (by decide) q) (by first | with_reducible assumption | omega)) (by first | with_reducible assumption | omega) (by first | with_reducible assumption | omega) (fun _ _ => rfl) (by rw [← hRe]; exact (Nat.le_of_ble_eq_true rfl)) (by rw [← hRe]; exact (Nat.le_of_ble_eq_true rfl)) dX9_paste_109 (fun H locs hP hD hS => ?_)
                    obtain ⟨f_34, ef_34⟩ : ∃ g : Nat → Int64, g = va_cpy f_r0_numbers f_r2_numbers (Int32.toNatClampNeg p2) (Int32.toNatClampNeg p4) (Int32.toNatClampNeg p5) := ⟨_, rfl⟩
                    have hP : va_P (dC, dI) vwCl (zV391 h0 tp h0_tapeLength h0_faultKind h0_faultPlace nw im sl rd wk fm mt ch dy sl cA_sl f_sl r0_numbers cA_r0_numbers f_r0_numbers r1 r1_width r1_size r1_numbers r1_numbers cA_r1_numbers f_r1_numbers r2_numbers cA_r2_numbers (va_cpy f_r0_numbers f_r2_numbers (Int32.toNatClampNeg p2) (Int32.toNatClampNeg p4) (Int32.toNatClampNeg p5)) r3 r3_width r3_size r3_numbers r3_numbers cA_r3_numbers f_r3_numbers r0 r0_width r0_size r0_numbers r2 r2_width r2_size r2_numbers) H := hP
                    have hD : va_D A (zV391 h0 tp h0_tapeLength h0_faultKind h0_faultPlace nw im sl rd wk fm mt ch dy sl cA_sl f_sl r0_numbers cA_r0_numbers f_r0_numbers r1 r1_width r1_size r1_numbers r1_numbers cA_r1_numbers f_r1_numbers r2_numbers cA_r2_numbers (va_cpy f_r0_numbers f_r2_numbers (Int32.toNatClampNeg p2) (Int32.toNatClampNeg p4) (Int32.toNatClampNeg p5)) r3 r3_width r3_size r3_numbers r3_numbers cA_r3_numbers f_r3_numbers r0 r0_width r0_size r0_numbers r2 r2_width r2_size r2_numbers) := hD
                    rw [← ef_34] at hP hD
                    refine lv_iconst (v := 0) hx hb dX9_paste_112 (by decide) ?_
                    have zr : Int32.toInt 0 = 0 := by decide
                    have hWa : zSel r0_width.toInt r1_width.toInt r2_width.toInt r3_width.toInt (Int32.toInt 0) = r0_width.toInt := by rw [zc_0]; exact zSel_0
                    have hSa : zSel r0_size.toInt r1_size.toInt r2_size.toInt r3_size.toInt (Int32.toInt 0) = r0_size.toInt := by rw [zc_0]; exact zSel_0
                    have hWb : zSel r0_width.toInt r1_width.toInt r2_width.toInt r3_width.toInt (Int32.toInt 2) = r2_width.toInt := by rw [zc_2]; exact zSel_2
                    have hSb : zSel r0_size.toInt r1_size.toInt r2_size.toInt r3_size.toInt (Int32.toInt 2) = r2_size.toInt := by rw [zc_2]; exact zSel_2
                    have hsp : zPa (zSel r0_width.toInt r1_width.toInt r2_width.toInt r3_width.toInt) (zSel r0_size.toInt r1_size.toInt r2_size.toInt r3_size.toInt) (Int32.toInt 0) (p2.toInt) (Int32.toInt 2) (p4.toInt) (p5.toInt) (Int32.toInt 0) := zPa.at (by first | with_reducible assumption | omega) hWa hWb hSa hSb (Or.inr (Or.inr (Or.inr ⟨zr, by omega, by omega, by omega, by omega, by omega, by omega, by omega, by omega⟩)))
                    have zc : Int32.toInt 0 = 0 := by decide
                    exact W.iret (v := 0) hx hb hr (fun t ht hW => by rw [← hQe]; exact ⟨⟨0, (), rfl, ⟨by omega, by assumption⟩, ⟨f_r0_numbers, f_r1_numbers, f_34, f_r3_numbers, z_ret hP hK hD ht hW [0, 1, 8, 2, 3, 4, 9, 5, 6, 7] [] rfl (by decide) rfl⟩⟩, hS.F ht⟩) hS.2.2 dX9_paste_113
                  · have ic_33 := zz_nne rfl (show Int32.toInt 0 = 0 from by decide) c_33
                    replace s_r_32 := (s_r_32.resolve_right (fun h => absurd (ic_33.symm.trans h.1) (by decide))).2
                    refine lv_bipush (v := (-7)) hx hb dX9_paste_91 (by decide) ?_
                    have zr : Int32.toInt (-7) = (-7) := by decide
                    have hWa : zSel r0_width.toInt r1_width.toInt r2_width.toInt r3_width.toInt (Int32.toInt 0) = r0_width.toInt := by rw [zc_0]; exact zSel_0
                    have hSa : zSel r0_size.toInt r1_size.toInt r2_size.toInt r3_size.toInt (Int32.toInt 0) = r0_size.toInt := by rw [zc_0]; exact zSel_0
                    have hWb : zSel r0_width.toInt r1_width.toInt r2_width.toInt r3_width.toInt (Int32.toInt 2) = r2_width.toInt := by rw [zc_2]; exact zSel_2
                    have hSb : zSel r0_size.toInt r1_size.toInt r2_size.toInt r3_size.toInt (Int32.toInt 2) = r2_size.toInt := by rw [zc_2]; exact zSel_2
                    have hsp : zPa (zSel r0_width.toInt r1_width.toInt r2_width.toInt r3_width.toInt) (zSel r0_size.toInt r1_size.toInt r2_size.toInt r3_size.toInt) (Int32.toInt 0) (p2.toInt) (Int32.toInt 2) (p4.toInt) (p5.toInt) (Int32.toInt (-7)) := zPa.at (by first | with_reducible assumption | omega) hWa hWb hSa hSb (Or.inr (Or.inr (Or.inl ⟨zr, by omega, by omega, by omega, by omega⟩)))
                    have zc : Int32.toInt (-7) = (-7) := by decide
                    exact W.iret (v := (-7)) hx hb hr (fun t ht hW => by rw [← hQe]; exact ⟨⟨(-7), (), rfl, ⟨by omega, by assumption⟩, ⟨f_r0_numbers, f_r1_numbers, f_r2_numbers, f_r3_numbers, z_ret hP hK hD ht hW [0, 1, 8, 2, 3, 4, 9, 5, 6, 7] [] rfl (by decide) rfl⟩⟩, hS.F ht⟩) hS.2.2 dX9_paste_93
              · have ic_29 := zz_neq rfl rfl c_29
                refine lv_bipush (v := (-8)) hx hb dX9_paste_65 (by decide) ?_
                have zr : Int32.toInt (-8) = (-8) := by decide
                have hWa : zSel r0_width.toInt r1_width.toInt r2_width.toInt r3_width.toInt (Int32.toInt 0) = r0_width.toInt := by rw [zc_0]; exact zSel_0
                have hSa : zSel r0_size.toInt r1_size.toInt r2_size.toInt r3_size.toInt (Int32.toInt 0) = r0_size.toInt := by rw [zc_0]; exact zSel_0
                have hWb : zSel r0_width.toInt r1_width.toInt r2_width.toInt r3_width.toInt (Int32.toInt 2) = r2_width.toInt := by rw [zc_2]; exact zSel_2
                have hSb : zSel r0_size.toInt r1_size.toInt r2_size.toInt r3_size.toInt (Int32.toInt 2) = r2_size.toInt := by rw [zc_2]; exact zSel_2
                have hsp : zPa (zSel r0_width.toInt r1_width.toInt r2_width.toInt r3_width.toInt) (zSel r0_size.toInt r1_size.toInt r2_size.toInt r3_size.toInt) (Int32.toInt 0) (p2.toInt) (Int32.toInt 2) (p4.toInt) (p5.toInt) (Int32.toInt (-8)) := zPa.at (by first | with_reducible assumption | omega) hWa hWb hSa hSb (Or.inr (Or.inl ⟨zr, by omega, by omega, by omega⟩))
                have zc : Int32.toInt (-8) = (-8) := by decide
                exact W.iret (v := (-8)) hx hb hr (fun t ht hW => by rw [← hQe]; exact ⟨⟨(-8), (), rfl, ⟨by omega, by assumption⟩, ⟨f_r0_numbers, f_r1_numbers, f_r2_numbers, f_r3_numbers, z_ret hP hK hD ht hW [0, 1, 8, 2, 3, 4, 9, 5, 6, 7] [] rfl (by decide) rfl⟩⟩, hS.F ht⟩) hS.2.2 dX9_paste_67
            · have ic_28 := zz_nne rfl (show Int32.toInt 0 = 0 from by decide) c_28
              replace s_r_27 := (s_r_27.resolve_right (fun h => absurd (ic_28.symm.trans h.1) (by decide))).2
              refine lv_bipush (v := (-6)) hx hb dX9_paste_49 (by decide) ?_
              have zr : Int32.toInt (-6) = (-6) := by decide
              have hWa : zSel r0_width.toInt r1_width.toInt r2_width.toInt r3_width.toInt (Int32.toInt 0) = r0_width.toInt := by rw [zc_0]; exact zSel_0
              have hSa : zSel r0_size.toInt r1_size.toInt r2_size.toInt r3_size.toInt (Int32.toInt 0) = r0_size.toInt := by rw [zc_0]; exact zSel_0
              have hWb : zSel r0_width.toInt r1_width.toInt r2_width.toInt r3_width.toInt (Int32.toInt 2) = r2_width.toInt := by rw [zc_2]; exact zSel_2
              have hSb : zSel r0_size.toInt r1_size.toInt r2_size.toInt r3_size.toInt (Int32.toInt 2) = r2_size.toInt := by rw [zc_2]; exact zSel_2
              have hsp : zPa (zSel r0_width.toInt r1_width.toInt r2_width.toInt r3_width.toInt) (zSel r0_size.toInt r1_size.toInt r2_size.toInt r3_size.toInt) (Int32.toInt 0) (p2.toInt) (Int32.toInt 2) (p4.toInt) (p5.toInt) (Int32.toInt (-6)) := zPa.at (by first | with_reducible assumption | omega) hWa hWb hSa hSb (Or.inl ⟨zr, by omega⟩)
              have zc : Int32.toInt (-6) = (-6) := by decide
              exact W.iret (v := (-6)) hx hb hr (fun t ht hW => by rw [← hQe]; exact ⟨⟨(-6), (), rfl, ⟨by omega, by assumption⟩, ⟨f_r0_numbers, f_r1_numbers, f_r2_numbers, f_r3_numbers, z_ret hP hK hD ht hW [0, 1, 8, 2, 3, 4, 9, 5, 6, 7] [] rfl (by decide) rfl⟩⟩, hS.F ht⟩) hS.2.2 dX9_paste_51
        · have zc_3 : Int32.toInt 3 = 3 := by decide
          refine va_aldq hx hb hK hP 1 0 rfl rfl (zi_in (show Int32.toInt 3 = 3 from by decide) (by first | with_reducible assumption | omega)) dX9_paste_30 ?_
          refine W.eq (g2 := F0 m 31 ls (.ref r3 :: [])) (by rw [show f_sl (Int32.toNatClampNeg 3) = some r3 from (by rw [show Int32.toNatClampNeg 3 = 3 from by decide]; exact hsl3)]; rfl) ?_
          refine lv_astore (lv' := [(7, .ref r3), (6, .ref r0), (0, .ref h0), (1, .int 0), (2, .int p2), (3, .int 3), (4, .int p4), (5, .int p5)]) hx hb dX9_paste_31 hl (by decide) rfl (fun ls hl => ?_)
          refine lv_aload hx hb dX9_paste_33 (lv_at hl 1 rfl) ?_
          obtain ⟨hPc, hDc, hFc⟩ := z_cut (wc := (zV6 r0 r0_width r0_size r0_numbers)) hP hD hS hA [2] rfl (by decide +kernel)
          have hKc := hK.sub (tys' := []) [] rfl
          refine va_calli (va_runV (As := []) (rest := []) ⟨hx, hb, hml, hown, hts⟩ (k_X6_isThere_v1 l sa dC dI r0 r0_width r0_size r0_numbers b_r0_size H.size) (cwV 0 hts (z_gV zw_t5_222 zw_t5_223 zw_t5_224 zw_t1_10 zw_t5_225) rfl rfl rfl (by decide +kernel) (by rw [← hRe]; exact ⟨(Nat.le_of_ble_eq_true rfl), (Nat.le_of_ble_eq_true rfl)⟩)) (z_preV hPc hKc hDc hN hXs hS hFc (q := (RX6, TX6, 3)) (ci := 6) (q0 := 0) rfl rfl) rfl rfl hl.1 rfl (lv_room (Nat.le_of_ble_eq_true rfl)) dX9_paste_35 (by rw [← hRe]; exact ⟨(Nat.le_of_ble_eq_true rfl), (Nat.le_of_ble_eq_true rfl)⟩)) hS (fun q _ h => hFc q h) hFc (fun r_35 u t H1 locs ht hvm hw hB hz1 hk1 hS => ?_)
          obtain ⟨hP, hD, hK⟩ := z_after3 (wn := (zV167 h0 tp h0_tapeLength h0_faultKind h0_faultPlace nw im sl rd wk fm mt ch dy sl cA_sl f_sl r0_numbers cA_r0_numbers f_r0_numbers r1 r1_width r1_size r1_numbers r1_numbers cA_r1_numbers f_r1_numbers r2 r2_width r2_size r2_numbers r2_numbers cA_r2_numbers f_r2_numbers r3 r3_width r3_size r3_numbers r3_numbers cA_r3_numbers f_r3_numbers r0 r0_width r0_size r0_numbers)) hB ht hvm hP hD hK [2] [0, 1, 3, 4, 5, 6, 7, 8, 9] rfl 10 rfl (by decide +kernel) rfl (by decide +kernel) hk1 hFc
          generalize H1 = H at hP hS ⊢
          have hK : va_K (dC, dI) vwCl [(cA_sl, .object RX6), (cA_r0_numbers, .long), (cA_r1_numbers, .long), (cA_r2_numbers, .long), (cA_r3_numbers, .long)] s := hK
          have b_r_35 : 0 ≤ r_35.toInt ∧ r_35.toInt ≤ 1 := hw.1
          have s_r_35 := hw.2
          refine lv_if_eq (tgt := 49) hx hb dX9_paste_38 (by decide) (fun c_36 => ?_) (fun c_36 => ?_)
          · have ic_36 := zz_eq rfl (show Int32.toInt 0 = 0 from by decide) c_36
            replace s_r_35 := (s_r_35.resolve_right (fun h => absurd (ic_36.symm.trans h.1) (by decide))).2
            refine lv_bipush (v := (-6)) hx hb dX9_paste_49 (by decide) ?_
            have zr : Int32.toInt (-6) = (-6) := by decide
            have hWa : zSel r0_width.toInt r1_width.toInt r2_width.toInt r3_width.toInt (Int32.toInt 0) = r0_width.toInt := by rw [zc_0]; exact zSel_0
            have hSa : zSel r0_size.toInt r1_size.toInt r2_size.toInt r3_size.toInt (Int32.toInt 0) = r0_size.toInt := by rw [zc_0]; exact zSel_0
            have hWb : zSel r0_width.toInt r1_width.toInt r2_width.toInt r3_width.toInt (Int32.toInt 3) = r3_width.toInt := by rw [zc_3]; exact zSel_3
            have hSb : zSel r0_size.toInt r1_size.toInt r2_size.toInt r3_size.toInt (Int32.toInt 3) = r3_size.toInt := by rw [zc_3]; exact zSel_3
            have hsp : zPa (zSel r0_width.toInt r1_width.toInt r2_width.toInt r3_width.toInt) (zSel r0_size.toInt r1_size.toInt r2_size.toInt r3_size.toInt) (Int32.toInt 0) (p2.toInt) (Int32.toInt 3) (p4.toInt) (p5.toInt) (Int32.toInt (-6)) := zPa.at (by first | with_reducible assumption | omega) hWa hWb hSa hSb (Or.inl ⟨zr, by omega⟩)
            have zc : Int32.toInt (-6) = (-6) := by decide
            exact W.iret (v := (-6)) hx hb hr (fun t ht hW => by rw [← hQe]; exact ⟨⟨(-6), (), rfl, ⟨by omega, by assumption⟩, ⟨f_r0_numbers, f_r1_numbers, f_r2_numbers, f_r3_numbers, z_ret hP hK hD ht hW [0, 1, 9, 2, 3, 4, 5, 6, 7, 8] [] rfl (by decide) rfl⟩⟩, hS.F ht⟩) hS.2.2 dX9_paste_51
          · have ic_36 := zz_neq rfl (show Int32.toInt 0 = 0 from by decide) c_36
            replace s_r_35 := (s_r_35.resolve_left (fun h => ic_36 h.1)).2
            refine lv_aload hx hb dX9_paste_41 (lv_at hl 0 rfl) ?_
            obtain ⟨hPc, hDc, hFc⟩ := z_cut (wc := (zV6 r3 r3_width r3_size r3_numbers)) hP hD hS hA [7] rfl (by decide +kernel)
            have hKc := hK.sub (tys' := []) [] rfl
            refine va_calli (va_runV (As := []) (rest := []) ⟨hx, hb, hml, hown, hts⟩ (k_X6_isThere_v1 l sa dC dI r3 r3_width r3_size r3_numbers b_r3_size H.size) (cwV 0 hts (z_gV zw_t5_222 zw_t5_223 zw_t5_224 zw_t1_10 zw_t5_225) rfl rfl rfl (by decide +kernel) (by rw [← hRe]; exact ⟨(Nat.le_of_ble_eq_true rfl), (Nat.le_of_ble_eq_true rfl)⟩)) (z_preV hPc hKc hDc hN hXs hS hFc (q := (RX6, TX6, 3)) (ci := 6) (q0 := 0) rfl rfl) rfl rfl hl.1 rfl (lv_room (Nat.le_of_ble_eq_true rfl)) dX9_paste_43 (by rw [← hRe]; exact ⟨(Nat.le_of_ble_eq_true rfl), (Nat.le_of_ble_eq_true rfl)⟩)) hS (fun q _ h => hFc q h) hFc (fun r_37 u t H1 locs ht hvm hw hB hz1 hk1 hS => ?_)
            obtain ⟨hP, hD, hK⟩ := z_after3 (wn := (zV392 h0 tp h0_tapeLength h0_faultKind h0_faultPlace nw im sl rd wk fm mt ch dy sl cA_sl f_sl r0_numbers cA_r0_numbers f_r0_numbers r1 r1_width r1_size r1_numbers r1_numbers cA_r1_numbers f_r1_numbers r2 r2_width r2_size r2_numbers r2_numbers cA_r2_numbers f_r2_numbers r3_numbers cA_r3_numbers f_r3_numbers r0 r0_width r0_size r0_numbers r3 r3_width r3_size r3_numbers)) hB ht hvm hP hD hK [7] [0, 1, 2, 3, 4, 5, 6, 8, 9] rfl 10 rfl (by decide +kernel) rfl (by decide +kernel) hk1 hFc
            generalize H1 = H at hP hS ⊢
            have hK : va_K (dC, dI) vwCl [(cA_sl, .object RX6), (cA_r0_numbers, .long), (cA_r1_numbers, .long), (cA_r2_numbers, .long), (cA_r3_numbers, .long)] s := hK
            have b_r_37 : 0 ≤ r_37.toInt ∧ r_37.toInt ≤ 1 := hw.1
            have s_r_37 := hw.2
            refine lv_if_ne (tgt := 52) hx hb dX9_paste_46 (by decide) (fun c_38 => ?_) (fun c_38 => ?_)
            · have ic_38 := zz_ne rfl (show Int32.toInt 0 = 0 from by decide) c_38
              replace s_r_37 := (s_r_37.resolve_left (fun h => ic_38 h.1)).2
              refine lv_aload hx hb dX9_paste_52 (lv_at hl 1 rfl) ?_
              refine va_get (D := (dC, dI)) (ci := 6) (v := .int r0_width) (C := RX6) (T := TX6) (N := 3) hx hb hts zl_X6 hown hK hP 8 rfl rfl 0 (by decide) (hts _ zw_t2_176) (fun _ h9 => h9) rfl dX9_paste_54 ?_
              refine lv_aload hx hb dX9_paste_57 (lv_at hl 0 rfl) ?_
              refine va_get (D := (dC, dI)) (ci := 6) (v := .int r3_width) (C := RX6) (T := TX6) (N := 3) hx hb hts zl_X6 hown hK hP 9 rfl rfl 0 (by decide) (hts _ zw_t2_176) (fun _ h9 => h9) rfl dX9_paste_59 ?_
              have nb_r0_width := zi_nb r0_width
              have nb_r3_width := zi_nb r3_width
              refine lv_icmp_eq (tgt := 68) hx hb dX9_paste_62 (by decide) (fun c_39 => ?_) (fun c_39 => ?_)
              · have ic_39 := zz_eq rfl rfl c_39
                refine lv_aload hx hb dX9_paste_68 (lv_at hl 1 rfl) ?_
                refine lv_iload_n hx hb dX9_paste_70 rfl (lv_at hl 4 rfl) ?_
                refine lv_iload hx hb dX9_paste_71 (lv_at hl 7 rfl) ?_
                obtain ⟨hPc, hDc, hFc⟩ := z_cut (wc := (zV6 r0 r0_width r0_size r0_numbers)) hP hD hS hA [8] rfl (by decide +kernel)
                have hKc := hK.sub (tys' := []) [] rfl
                refine va_calli (va_runV (As := [.int p2, .int p5]) (rest := []) ⟨hx, hb, hml, hown, hts⟩ (k_X6_hasSpan_v1 l sa dC dI r0 p2 p5 r0_width r0_size r0_numbers b_r0_size H.size) (cwV 2 hts (z_gV zw_t6_80 zw_t6_81 zw_t6_82 zw_t1_10 zw_t6_83) rfl rfl rfl (by decide +kernel) (by rw [← hRe]; exact ⟨(Nat.le_of_ble_eq_true rfl), (Nat.le_of_ble_eq_true rfl)⟩)) (z_preV hPc hKc hDc hN hXs hS hFc (q := (RX6, TX6, 3)) (ci := 6) (q0 := 0) rfl rfl) rfl rfl hl.1 rfl (lv_room (Nat.le_of_ble_eq_true rfl)) dX9_paste_73 (by rw [← hRe]; exact ⟨(Nat.le_of_ble_eq_true rfl), (Nat.le_of_ble_eq_true rfl)⟩)) hS (fun q _ h => hFc q h) hFc (fun r_40 u t H1 locs ht hvm hw hB hz1 hk1 hS => ?_)
                obtain ⟨hP, hD, hK⟩ := z_after3 (wn := (zV392 h0 tp h0_tapeLength h0_faultKind h0_faultPlace nw im sl rd wk fm mt ch dy sl cA_sl f_sl r0_numbers cA_r0_numbers f_r0_numbers r1 r1_width r1_size r1_numbers r1_numbers cA_r1_numbers f_r1_numbers r2 r2_width r2_size r2_numbers r2_numbers cA_r2_numbers f_r2_numbers r3_numbers cA_r3_numbers f_r3_numbers r3 r3_width r3_size r3_numbers r0 r0_width r0_size r0_numbers)) hB ht hvm hP hD hK [8] [0, 1, 2, 3, 4, 5, 6, 7, 9] rfl 10 rfl (by decide +kernel) rfl (by decide +kernel) hk1 hFc
                generalize H1 = H at hP hS ⊢
                have hK : va_K (dC, dI) vwCl [(cA_sl, .object RX6), (cA_r0_numbers, .long), (cA_r1_numbers, .long), (cA_r2_numbers, .long), (cA_r3_numbers, .long)] s := hK
                have b_r_40 : 0 ≤ r_40.toInt ∧ r_40.toInt ≤ 1 := hw.1
                have s_r_40 := hw.2
                refine lv_if_eq (tgt := 91) hx hb dX9_paste_76 (by decide) (fun c_41 => ?_) (fun c_41 => ?_)
                · have ic_41 := zz_eq rfl (show Int32.toInt 0 = 0 from by decide) c_41
                  replace s_r_40 := (s_r_40.resolve_right (fun h => absurd (ic_41.symm.trans h.1) (by decide))).2
                  refine lv_bipush (v := (-7)) hx hb dX9_paste_91 (by decide) ?_
                  have zr : Int32.toInt (-7) = (-7) := by decide
                  have hWa : zSel r0_width.toInt r1_width.toInt r2_width.toInt r3_width.toInt (Int32.toInt 0) = r0_width.toInt := by rw [zc_0]; exact zSel_0
                  have hSa : zSel r0_size.toInt r1_size.toInt r2_size.toInt r3_size.toInt (Int32.toInt 0) = r0_size.toInt := by rw [zc_0]; exact zSel_0
                  have hWb : zSel r0_width.toInt r1_width.toInt r2_width.toInt r3_width.toInt (Int32.toInt 3) = r3_width.toInt := by rw [zc_3]; exact zSel_3
                  have hSb : zSel r0_size.toInt r1_size.toInt r2_size.toInt r3_size.toInt (Int32.toInt 3) = r3_size.toInt := by rw [zc_3]; exact zSel_3
                  have hsp : zPa (zSel r0_width.toInt r1_width.toInt r2_width.toInt r3_width.toInt) (zSel r0_size.toInt r1_size.toInt r2_size.toInt r3_size.toInt) (Int32.toInt 0) (p2.toInt) (Int32.toInt 3) (p4.toInt) (p5.toInt) (Int32.toInt (-7)) := zPa.at (by first | with_reducible assumption | omega) hWa hWb hSa hSb (Or.inr (Or.inr (Or.inl ⟨zr, by omega, by omega, by omega, by omega⟩)))
                  have zc : Int32.toInt (-7) = (-7) := by decide
                  exact W.iret (v := (-7)) hx hb hr (fun t ht hW => by rw [← hQe]; exact ⟨⟨(-7), (), rfl, ⟨by omega, by assumption⟩, ⟨f_r0_numbers, f_r1_numbers, f_r2_numbers, f_r3_numbers, z_ret hP hK hD ht hW [0, 1, 9, 2, 3, 4, 5, 6, 8, 7] [] rfl (by decide) rfl⟩⟩, hS.F ht⟩) hS.2.2 dX9_paste_93
                · have ic_41 := zz_neq rfl (show Int32.toInt 0 = 0 from by decide) c_41
                  replace s_r_40 := (s_r_40.resolve_left (fun h => ic_41 h.1)).2
                  refine lv_aload hx hb dX9_paste_79 (lv_at hl 0 rfl) ?_
                  refine lv_iload hx hb dX9_paste_81 (lv_at hl 6 rfl) ?_
                  refine lv_iload hx hb dX9_paste_83 (lv_at hl 7 rfl) ?_
                  obtain ⟨hPc, hDc, hFc⟩ := z_cut (wc := (zV6 r3 r3_width r3_size r3_numbers)) hP hD hS hA [8] rfl (by decide +kernel)
                  have hKc := hK.sub (tys' := []) [] rfl
                  refine va_calli (va_runV (As := [.int p4, .int p5]) (rest := []) ⟨hx, hb, hml, hown, hts⟩ (k_X6_hasSpan_v1 l sa dC dI r3 p4 p5 r3_width r3_size r3_numbers b_r3_size H.size) (cwV 2 hts (z_gV zw_t6_80 zw_t6_81 zw_t6_82 zw_t1_10 zw_t6_83) rfl rfl rfl (by decide +kernel) (by rw [← hRe]; exact ⟨(Nat.le_of_ble_eq_true rfl), (Nat.le_of_ble_eq_true rfl)⟩)) (z_preV hPc hKc hDc hN hXs hS hFc (q := (RX6, TX6, 3)) (ci := 6) (q0 := 0) rfl rfl) rfl rfl hl.1 rfl (lv_room (Nat.le_of_ble_eq_true rfl)) dX9_paste_85 (by rw [← hRe]; exact ⟨(Nat.le_of_ble_eq_true rfl), (Nat.le_of_ble_eq_true rfl)⟩)) hS (fun q _ h => hFc q h) hFc (fun r_42 u t H1 locs ht hvm hw hB hz1 hk1 hS => ?_)
                  obtain ⟨hP, hD, hK⟩ := z_after3 (wn := (zV392 h0 tp h0_tapeLength h0_faultKind h0_faultPlace nw im sl rd wk fm mt ch dy sl cA_sl f_sl r0_numbers cA_r0_numbers f_r0_numbers r1 r1_width r1_size r1_numbers r1_numbers cA_r1_numbers f_r1_numbers r2 r2_width r2_size r2_numbers r2_numbers cA_r2_numbers f_r2_numbers r3_numbers cA_r3_numbers f_r3_numbers r0 r0_width r0_size r0_numbers r3 r3_width r3_size r3_numbers)) hB ht hvm hP hD hK [8] [0, 1, 2, 3, 4, 5, 6, 7, 9] rfl 10 rfl (by decide +kernel) rfl (by decide +kernel) hk1 hFc
                  generalize H1 = H at hP hS ⊢
                  have hK : va_K (dC, dI) vwCl [(cA_sl, .object RX6), (cA_r0_numbers, .long), (cA_r1_numbers, .long), (cA_r2_numbers, .long), (cA_r3_numbers, .long)] s := hK
                  have b_r_42 : 0 ≤ r_42.toInt ∧ r_42.toInt ≤ 1 := hw.1
                  have s_r_42 := hw.2
                  refine lv_if_ne (tgt := 94) hx hb dX9_paste_88 (by decide) (fun c_43 => ?_) (fun c_43 => ?_)
                  · have ic_43 := zz_ne rfl (show Int32.toInt 0 = 0 from by decide) c_43
                    replace s_r_42 := (s_r_42.resolve_left (fun h => ic_43 h.1)).2
                    refine lv_aload hx hb dX9_paste_94 (lv_at hl 1 rfl) ?_
                    refine va_get (D := (dC, dI)) (ci := 6) (v := .ref r0_numbers) (C := RX6) (T := TX6) (N := 3) hx hb hts zl_X6 hown hK hP 8 rfl rfl 2 (by decide) (hts _ zw_t2_181) (fun _ h9 => h9) rfl dX9_paste_96 ?_
                    refine lv_iload_n hx hb dX9_paste_99 rfl (lv_at hl 4 rfl) ?_
                    refine lv_aload hx hb dX9_paste_100 (lv_at hl 0 rfl) ?_
                    refine va_get (D := (dC, dI)) (ci := 6) (v := .ref r3_numbers) (C := RX6) (T := TX6) (N := 3) hx hb hts zl_X6 hown hK hP 9 rfl rfl 2 (by decide) (hts _ zw_t2_181) (fun _ h9 => h9) rfl dX9_paste_102 ?_
                    refine lv_iload hx hb dX9_paste_105 (lv_at hl 6 rfl) ?_
                    refine lv_iload hx hb dX9_paste_107 (lv_at hl 7 rfl) ?_
                    have kc_p2 := zi_clamp (x := p2) rfl (by first | with_reducible assumption | omega)
                    have kc_p4 := zi_clamp (x := p4) rfl (by first | with_reducible assumption | omega)
                    have kc_p5 := zi_clamp (x := p5) rfl (by first | with_reducible assumption | omega)
                    refine va_copyl hx hb (by rw [hml]; exact hl.1.symm) hown (hts _ zw_t6_92) (hts _ zw_t4_39) (hts _ zw_t4_38) (hts _ zw_t1_18) hK hP hD hS 2 7 1 4 rfl rfl rfl rfl rfl (fun q => absurd (z_lt (k := 0) (by decide) q) (by first | with_reducible assumption | omega)) (fun q => absurd (z_lt (k := 0) (by decide) q) (by first | with_reducible assumption | omega)) (fun q => absurd (z_lt (k := 0) (by decide) q) (by first | with_reducible assumption | omega)) (by first | with_reducible assumption | omega) (by first | with_reducible assumption | omega) (fun _ _ => rfl) (by rw [← hRe]; exact (Nat.le_of_ble_eq_true rfl)) (by rw [← hRe]; exact (Nat.le_of_ble_eq_true rfl)) dX9_paste_109 (fun H locs hP hD hS => ?_)
                    obtain ⟨f_44, ef_44⟩ : ∃ g : Nat → Int64, g = va_cpy f_r0_numbers f_r3_numbers (Int32.toNatClampNeg p2) (Int32.toNatClampNeg p4) (Int32.toNatClampNeg p5) := ⟨_, rfl⟩
                    have hP : va_P (dC, dI) vwCl (zV392 h0 tp h0_tapeLength h0_faultKind h0_faultPlace nw im sl rd wk fm mt ch dy sl cA_sl f_sl r0_numbers cA_r0_numbers f_r0_numbers r1 r1_width r1_size r1_numbers r1_numbers cA_r1_numbers f_r1_numbers r2 r2_width r2_size r2_numbers r2_numbers cA_r2_numbers f_r2_numbers r3_numbers cA_r3_numbers (va_cpy f_r0_numbers f_r3_numbers (Int32.toNatClampNeg p2) (Int32.toNatClampNeg p4) (Int32.toNatClampNeg p5)) r0 r0_width r0_size r0_numbers r3 r3_width r3_size r3_numbers) H := hP
                    have hD : va_D A (zV392 h0 tp h0_tapeLength h0_faultKind h0_faultPlace nw im sl rd wk fm mt ch dy sl cA_sl f_sl r0_numbers cA_r0_numbers f_r0_numbers r1 r1_width r1_size r1_numbers r1_numbers cA_r1_numbers f_r1_numbers r2 r2_width r2_size r2_numbers r2_numbers cA_r2_numbers f_r2_numbers r3_numbers cA_r3_numbers (va_cpy f_r0_numbers f_r3_numbers (Int32.toNatClampNeg p2) (Int32.toNatClampNeg p4) (Int32.toNatClampNeg p5)) r0 r0_width r0_size r0_numbers r3 r3_width r3_size r3_numbers) := hD
                    rw [← ef_44] at hP hD
                    refine lv_iconst (v := 0) hx hb dX9_paste_112 (by decide) ?_
                    have zr : Int32.toInt 0 = 0 := by decide
                    have hWa : zSel r0_width.toInt r1_width.toInt r2_width.toInt r3_width.toInt (Int32.toInt 0) = r0_width.toInt := by rw [zc_0]; exact zSel_0
                    have hSa : zSel r0_size.toInt r1_size.toInt r2_size.toInt r3_size.toInt (Int32.toInt 0) = r0_size.toInt := by rw [zc_0]; exact zSel_0
                    have hWb : zSel r0_width.toInt r1_width.toInt r2_width.toInt r3_width.toInt (Int32.toInt 3) = r3_width.toInt := by rw [zc_3]; exact zSel_3
                    have hSb : zSel r0_size.toInt r1_size.toInt r2_size.toInt r3_size.toInt (Int32.toInt 3) = r3_size.toInt := by rw [zc_3]; exact zSel_3
                    have hsp : zPa (zSel r0_width.toInt r1_width.toInt r2_width.toInt r3_width.toInt) (zSel r0_size.toInt r1_size.toInt r2_size.toInt r3_size.toInt) (Int32.toInt 0) (p2.toInt) (Int32.toInt 3) (p4.toInt) (p5.toInt) (Int32.toInt 0) := zPa.at (by first | with_reducible assumption | omega) hWa hWb hSa hSb (Or.inr (Or.inr (Or.inr ⟨zr, by omega, by omega, by omega, by omega, by omega, by omega, by omega, by omega⟩)))
                    have zc : Int32.toInt 0 = 0 := by decide
                    exact W.iret (v := 0) hx hb hr (fun t ht hW => by rw [← hQe]; exact ⟨⟨0, (), rfl, ⟨by omega, by assumption⟩, ⟨f_r0_numbers, f_r1_numbers, f_r2_numbers, f_44, z_ret hP hK hD ht hW [0, 1, 8, 2, 3, 4, 5, 6, 9, 7] [] rfl (by decide) rfl⟩⟩, hS.F ht⟩) hS.2.2 dX9_paste_113
                  · have ic_43 := zz_nne rfl (show Int32.toInt 0 = 0 from by decide) c_43
                    replace s_r_42 := (s_r_42.resolve_right (fun h => absurd (ic_43.symm.trans h.1) (by decide))).2
                    refine lv_bipush (v := (-7)) hx hb dX9_paste_91 (by decide) ?_
                    have zr : Int32.toInt (-7) = (-7) := by decide
                    have hWa : zSel r0_width.toInt r1_width.toInt r2_width.toInt r3_width.toInt (Int32.toInt 0) = r0_width.toInt := by rw [zc_0]; exact zSel_0
                    have hSa : zSel r0_size.toInt r1_size.toInt r2_size.toInt r3_size.toInt (Int32.toInt 0) = r0_size.toInt := by rw [zc_0]; exact zSel_0
                    have hWb : zSel r0_width.toInt r1_width.toInt r2_width.toInt r3_width.toInt (Int32.toInt 3) = r3_width.toInt := by rw [zc_3]; exact zSel_3
                    have hSb : zSel r0_size.toInt r1_size.toInt r2_size.toInt r3_size.toInt (Int32.toInt 3) = r3_size.toInt := by rw [zc_3]; exact zSel_3
                    have hsp : zPa (zSel r0_width.toInt r1_width.toInt r2_width.toInt r3_width.toInt) (zSel r0_size.toInt r1_size.toInt r2_size.toInt r3_size.toInt) (Int32.toInt 0) (p2.toInt) (Int32.toInt 3) (p4.toInt) (p5.toInt) (Int32.toInt (-7)) := zPa.at (by first | with_reducible assumption | omega) hWa hWb hSa hSb (Or.inr (Or.inr (Or.inl ⟨zr, by omega, by omega, by omega, by omega⟩)))
                    have zc : Int32.toInt (-7) = (-7) := by decide
                    exact W.iret (v := (-7)) hx hb hr (fun t ht hW => by rw [← hQe]; exact ⟨⟨(-7), (), rfl, ⟨by omega, by assumption⟩, ⟨f_r0_numbers, f_r1_numbers, f_r2_numbers, f_r3_numbers, z_ret hP hK hD ht hW [0, 1, 8, 2, 3, 4, 5, 6, 9, 7] [] rfl (by decide) rfl⟩⟩, hS.F ht⟩) hS.2.2 dX9_paste_93
              · have ic_39 := zz_neq rfl rfl c_39
                refine lv_bipush (v := (-8)) hx hb dX9_paste_65 (by decide) ?_
                have zr : Int32.toInt (-8) = (-8) := by decide
                have hWa : zSel r0_width.toInt r1_width.toInt r2_width.toInt r3_width.toInt (Int32.toInt 0) = r0_width.toInt := by rw [zc_0]; exact zSel_0
                have hSa : zSel r0_size.toInt r1_size.toInt r2_size.toInt r3_size.toInt (Int32.toInt 0) = r0_size.toInt := by rw [zc_0]; exact zSel_0
                have hWb : zSel r0_width.toInt r1_width.toInt r2_width.toInt r3_width.toInt (Int32.toInt 3) = r3_width.toInt := by rw [zc_3]; exact zSel_3
                have hSb : zSel r0_size.toInt r1_size.toInt r2_size.toInt r3_size.toInt (Int32.toInt 3) = r3_size.toInt := by rw [zc_3]; exact zSel_3
                have hsp : zPa (zSel r0_width.toInt r1_width.toInt r2_width.toInt r3_width.toInt) (zSel r0_size.toInt r1_size.toInt r2_size.toInt r3_size.toInt) (Int32.toInt 0) (p2.toInt) (Int32.toInt 3) (p4.toInt) (p5.toInt) (Int32.toInt (-8)) := zPa.at (by first | with_reducible assumption | omega) hWa hWb hSa hSb (Or.inr (Or.inl ⟨zr, by omega, by omega, by omega⟩))
                have zc : Int32.toInt (-8) = (-8) := by decide
                exact W.iret (v := (-8)) hx hb hr (fun t ht hW => by rw [← hQe]; exact ⟨⟨(-8), (), rfl, ⟨by omega, by assumption⟩, ⟨f_r0_numbers, f_r1_numbers, f_r2_numbers, f_r3_numbers, z_ret hP hK hD ht hW [0, 1, 8, 2, 3, 4, 5, 6, 9, 7] [] rfl (by decide) rfl⟩⟩, hS.F ht⟩) hS.2.2 dX9_paste_67
            · have ic_38 := zz_nne rfl (show Int32.toInt 0 = 0 from by decide) c_38
              replace s_r_37 := (s_r_37.resolve_right (fun h => absurd (ic_38.symm.trans h.1) (by decide))).2
              refine lv_bipush (v := (-6)) hx hb dX9_paste_49 (by decide) ?_
              have zr : Int32.toInt (-6) = (-6) := by decide
              have hWa : zSel r0_width.toInt r1_width.toInt r2_width.toInt r3_width.toInt (Int32.toInt 0) = r0_width.toInt := by rw [zc_0]; exact zSel_0
              have hSa : zSel r0_size.toInt r1_size.toInt r2_size.toInt r3_size.toInt (Int32.toInt 0) = r0_size.toInt := by rw [zc_0]; exact zSel_0
              have hWb : zSel r0_width.toInt r1_width.toInt r2_width.toInt r3_width.toInt (Int32.toInt 3) = r3_width.toInt := by rw [zc_3]; exact zSel_3
              have hSb : zSel r0_size.toInt r1_size.toInt r2_size.toInt r3_size.toInt (Int32.toInt 3) = r3_size.toInt := by rw [zc_3]; exact zSel_3
              have hsp : zPa (zSel r0_width.toInt r1_width.toInt r2_width.toInt r3_width.toInt) (zSel r0_size.toInt r1_size.toInt r2_size.toInt r3_size.toInt) (Int32.toInt 0) (p2.toInt) (Int32.toInt 3) (p4.toInt) (p5.toInt) (Int32.toInt (-6)) := zPa.at (by first | with_reducible assumption | omega) hWa hWb hSa hSb (Or.inl ⟨zr, by omega⟩)
              have zc : Int32.toInt (-6) = (-6) := by decide
              exact W.iret (v := (-6)) hx hb hr (fun t ht hW => by rw [← hQe]; exact ⟨⟨(-6), (), rfl, ⟨by omega, by assumption⟩, ⟨f_r0_numbers, f_r1_numbers, f_r2_numbers, f_r3_numbers, z_ret hP hK hD ht hW [0, 1, 8, 2, 3, 4, 5, 6, 9, 7] [] rfl (by decide) rfl⟩⟩, hS.F ht⟩) hS.2.2 dX9_paste_51
        · omega
      · have zc_1 : Int32.toInt 1 = 1 := by decide
        refine va_aldq hx hb hK hP 1 0 rfl rfl (zi_in (show Int32.toInt 1 = 1 from by decide) (by first | with_reducible assumption | omega)) dX9_paste_22 ?_
        refine W.eq (g2 := F0 m 23 ls (.ref r1 :: [])) (by rw [show f_sl (Int32.toNatClampNeg 1) = some r1 from (by rw [show Int32.toNatClampNeg 1 = 1 from by decide]; exact hsl1)]; rfl) ?_
        refine lv_astore (lv' := [(6, .ref r1), (0, .ref h0), (1, .int 1), (2, .int p2), (3, .int p3), (4, .int p4), (5, .int p5)]) hx hb dX9_paste_23 hl (by decide) rfl (fun ls hl => ?_)
        refine lv_aload_n hx hb dX9_paste_25 rfl (lv_at hl 1 rfl) ?_
        refine va_get (D := (dC, dI)) (ci := 9) (v := .ref sl) (C := RX9) (T := TX9) (N := 13) hx hb hts zl_X9 hown hK hP 0 rfl rfl 6 (by decide) (hts _ zw_t2_195) (fun _ h9 => h9) rfl dX9_paste_26 ?_
        refine lv_iload_n hx hb dX9_paste_29 rfl (lv_at hl 4 rfl) ?_
        rcases z_s3 p3 with q_sw | rfl | rfl | rfl | rfl | q_sw
        · omega
        · have zc_0 : Int32.toInt 0 = 0 := by decide
          refine va_aldq hx hb hK hP 1 0 rfl rfl (zi_in (show Int32.toInt 0 = 0 from by decide) (by first | with_reducible assumption | omega)) dX9_paste_30 ?_
          refine W.eq (g2 := F0 m 31 ls (.ref r0 :: [])) (by rw [show f_sl (Int32.toNatClampNeg 0) = some r0 from (by rw [show Int32.toNatClampNeg 0 = 0 from by decide]; exact hsl0)]; rfl) ?_
          refine lv_astore (lv' := [(7, .ref r0), (6, .ref r1), (0, .ref h0), (1, .int 1), (2, .int p2), (3, .int 0), (4, .int p4), (5, .int p5)]) hx hb dX9_paste_31 hl (by decide) rfl (fun ls hl => ?_)
          refine lv_aload hx hb dX9_paste_33 (lv_at hl 1 rfl) ?_
          obtain ⟨hPc, hDc, hFc⟩ := z_cut (wc := (zV6 r1 r1_width r1_size r1_numbers)) hP hD hS hA [4] rfl (by decide +kernel)
          have hKc := hK.sub (tys' := []) [] rfl
          refine va_calli (va_runV (As := []) (rest := []) ⟨hx, hb, hml, hown, hts⟩ (k_X6_isThere_v1 l sa dC dI r1 r1_width r1_size r1_numbers b_r1_size H.size) (cwV 0 hts (z_gV zw_t5_222 zw_t5_223 zw_t5_224 zw_t1_10 zw_t5_225) rfl rfl rfl (by decide +kernel) (by rw [← hRe]; exact ⟨(Nat.le_of_ble_eq_true rfl), (Nat.le_of_ble_eq_true rfl)⟩)) (z_preV hPc hKc hDc hN hXs hS hFc (q := (RX6, TX6, 3)) (ci := 6) (q0 := 0) rfl rfl) rfl rfl hl.1 rfl (lv_room (Nat.le_of_ble_eq_true rfl)) dX9_paste_35 (by rw [← hRe]; exact ⟨(Nat.le_of_ble_eq_true rfl), (Nat.le_of_ble_eq_true rfl)⟩)) hS (fun q _ h => hFc q h) hFc (fun r_45 u t H1 locs ht hvm hw hB hz1 hk1 hS => ?_)
          obtain ⟨hP, hD, hK⟩ := z_after3 (wn := (zV168 h0 tp h0_tapeLength h0_faultKind h0_faultPlace nw im sl rd wk fm mt ch dy sl cA_sl f_sl r0 r0_width r0_size r0_numbers r0_numbers cA_r0_numbers f_r0_numbers r1_numbers cA_r1_numbers f_r1_numbers r2 r2_width r2_size r2_numbers r2_numbers cA_r2_numbers f_r2_numbers r3 r3_width r3_size r3_numbers r3_numbers cA_r3_numbers f_r3_numbers r1 r1_width r1_size r1_numbers)) hB ht hvm hP hD hK [4] [0, 1, 2, 3, 5, 6, 7, 8, 9] rfl 10 rfl (by decide +kernel) rfl (by decide +kernel) hk1 hFc
          generalize H1 = H at hP hS ⊢
          have hK : va_K (dC, dI) vwCl [(cA_sl, .object RX6), (cA_r0_numbers, .long), (cA_r1_numbers, .long), (cA_r2_numbers, .long), (cA_r3_numbers, .long)] s := hK
          have b_r_45 : 0 ≤ r_45.toInt ∧ r_45.toInt ≤ 1 := hw.1
          have s_r_45 := hw.2
          refine lv_if_eq (tgt := 49) hx hb dX9_paste_38 (by decide) (fun c_46 => ?_) (fun c_46 => ?_)
          · have ic_46 := zz_eq rfl (show Int32.toInt 0 = 0 from by decide) c_46
            replace s_r_45 := (s_r_45.resolve_right (fun h => absurd (ic_46.symm.trans h.1) (by decide))).2
            refine lv_bipush (v := (-6)) hx hb dX9_paste_49 (by decide) ?_
            have zr : Int32.toInt (-6) = (-6) := by decide
            have hWa : zSel r0_width.toInt r1_width.toInt r2_width.toInt r3_width.toInt (Int32.toInt 1) = r1_width.toInt := by rw [zc_1]; exact zSel_1
            have hSa : zSel r0_size.toInt r1_size.toInt r2_size.toInt r3_size.toInt (Int32.toInt 1) = r1_size.toInt := by rw [zc_1]; exact zSel_1
            have hWb : zSel r0_width.toInt r1_width.toInt r2_width.toInt r3_width.toInt (Int32.toInt 0) = r0_width.toInt := by rw [zc_0]; exact zSel_0
            have hSb : zSel r0_size.toInt r1_size.toInt r2_size.toInt r3_size.toInt (Int32.toInt 0) = r0_size.toInt := by rw [zc_0]; exact zSel_0
            have hsp : zPa (zSel r0_width.toInt r1_width.toInt r2_width.toInt r3_width.toInt) (zSel r0_size.toInt r1_size.toInt r2_size.toInt r3_size.toInt) (Int32.toInt 1) (p2.toInt) (Int32.toInt 0) (p4.toInt) (p5.toInt) (Int32.toInt (-6)) := zPa.at (by first | with_reducible assumption | omega) hWa hWb hSa hSb (Or.inl ⟨zr, by omega⟩)
            have zc : Int32.toInt (-6) = (-6) := by decide
            exact W.iret (v := (-6)) hx hb hr (fun t ht hW => by rw [← hQe]; exact ⟨⟨(-6), (), rfl, ⟨by omega, by assumption⟩, ⟨f_r0_numbers, f_r1_numbers, f_r2_numbers, f_r3_numbers, z_ret hP hK hD ht hW [0, 1, 2, 3, 9, 4, 5, 6, 7, 8] [] rfl (by decide) rfl⟩⟩, hS.F ht⟩) hS.2.2 dX9_paste_51
          · have ic_46 := zz_neq rfl (show Int32.toInt 0 = 0 from by decide) c_46
            replace s_r_45 := (s_r_45.resolve_left (fun h => ic_46 h.1)).2
            refine lv_aload hx hb dX9_paste_41 (lv_at hl 0 rfl) ?_
            obtain ⟨hPc, hDc, hFc⟩ := z_cut (wc := (zV6 r0 r0_width r0_size r0_numbers)) hP hD hS hA [2] rfl (by decide +kernel)
            have hKc := hK.sub (tys' := []) [] rfl
            refine va_calli (va_runV (As := []) (rest := []) ⟨hx, hb, hml, hown, hts⟩ (k_X6_isThere_v1 l sa dC dI r0 r0_width r0_size r0_numbers b_r0_size H.size) (cwV 0 hts (z_gV zw_t5_222 zw_t5_223 zw_t5_224 zw_t1_10 zw_t5_225) rfl rfl rfl (by decide +kernel) (by rw [← hRe]; exact ⟨(Nat.le_of_ble_eq_true rfl), (Nat.le_of_ble_eq_true rfl)⟩)) (z_preV hPc hKc hDc hN hXs hS hFc (q := (RX6, TX6, 3)) (ci := 6) (q0 := 0) rfl rfl) rfl rfl hl.1 rfl (lv_room (Nat.le_of_ble_eq_true rfl)) dX9_paste_43 (by rw [← hRe]; exact ⟨(Nat.le_of_ble_eq_true rfl), (Nat.le_of_ble_eq_true rfl)⟩)) hS (fun q _ h => hFc q h) hFc (fun r_47 u t H1 locs ht hvm hw hB hz1 hk1 hS => ?_)
            obtain ⟨hP, hD, hK⟩ := z_after3 (wn := (zV390 h0 tp h0_tapeLength h0_faultKind h0_faultPlace nw im sl rd wk fm mt ch dy sl cA_sl f_sl r0_numbers cA_r0_numbers f_r0_numbers r1_numbers cA_r1_numbers f_r1_numbers r2 r2_width r2_size r2_numbers r2_numbers cA_r2_numbers f_r2_numbers r3 r3_width r3_size r3_numbers r3_numbers cA_r3_numbers f_r3_numbers r1 r1_width r1_size r1_numbers r0 r0_width r0_size r0_numbers)) hB ht hvm hP hD hK [2] [0, 1, 3, 4, 5, 6, 7, 8, 9] rfl 10 rfl (by decide +kernel) rfl (by decide +kernel) hk1 hFc
            generalize H1 = H at hP hS ⊢
            have hK : va_K (dC, dI) vwCl [(cA_sl, .object RX6), (cA_r0_numbers, .long), (cA_r1_numbers, .long), (cA_r2_numbers, .long), (cA_r3_numbers, .long)] s := hK
            have b_r_47 : 0 ≤ r_47.toInt ∧ r_47.toInt ≤ 1 := hw.1
            have s_r_47 := hw.2
            refine lv_if_ne (tgt := 52) hx hb dX9_paste_46 (by decide) (fun c_48 => ?_) (fun c_48 => ?_)
            · have ic_48 := zz_ne rfl (show Int32.toInt 0 = 0 from by decide) c_48
              replace s_r_47 := (s_r_47.resolve_left (fun h => ic_48 h.1)).2
              refine lv_aload hx hb dX9_paste_52 (lv_at hl 1 rfl) ?_
              refine va_get (D := (dC, dI)) (ci := 6) (v := .int r1_width) (C := RX6) (T := TX6) (N := 3) hx hb hts zl_X6 hown hK hP 8 rfl rfl 0 (by decide) (hts _ zw_t2_176) (fun _ h9 => h9) rfl dX9_paste_54 ?_
              refine lv_aload hx hb dX9_paste_57 (lv_at hl 0 rfl) ?_
              refine va_get (D := (dC, dI)) (ci := 6) (v := .int r0_width) (C := RX6) (T := TX6) (N := 3) hx hb hts zl_X6 hown hK hP 9 rfl rfl 0 (by decide) (hts _ zw_t2_176) (fun _ h9 => h9) rfl dX9_paste_59 ?_
              have nb_r1_width := zi_nb r1_width
              have nb_r0_width := zi_nb r0_width
              refine lv_icmp_eq (tgt := 68) hx hb dX9_paste_62 (by decide) (fun c_49 => ?_) (fun c_49 => ?_)
              · have ic_49 := zz_eq rfl rfl c_49
                refine lv_aload hx hb dX9_paste_68 (lv_at hl 1 rfl) ?_
                refine lv_iload_n hx hb dX9_paste_70 rfl (lv_at hl 4 rfl) ?_
                refine lv_iload hx hb dX9_paste_71 (lv_at hl 7 rfl) ?_
                obtain ⟨hPc, hDc, hFc⟩ := z_cut (wc := (zV6 r1 r1_width r1_size r1_numbers)) hP hD hS hA [8] rfl (by decide +kernel)
                have hKc := hK.sub (tys' := []) [] rfl
                refine va_calli (va_runV (As := [.int p2, .int p5]) (rest := []) ⟨hx, hb, hml, hown, hts⟩ (k_X6_hasSpan_v1 l sa dC dI r1 p2 p5 r1_width r1_size r1_numbers b_r1_size H.size) (cwV 2 hts (z_gV zw_t6_80 zw_t6_81 zw_t6_82 zw_t1_10 zw_t6_83) rfl rfl rfl (by decide +kernel) (by rw [← hRe]; exact ⟨(Nat.le_of_ble_eq_true rfl), (Nat.le_of_ble_eq_true rfl)⟩)) (z_preV hPc hKc hDc hN hXs hS hFc (q := (RX6, TX6, 3)) (ci := 6) (q0 := 0) rfl rfl) rfl rfl hl.1 rfl (lv_room (Nat.le_of_ble_eq_true rfl)) dX9_paste_73 (by rw [← hRe]; exact ⟨(Nat.le_of_ble_eq_true rfl), (Nat.le_of_ble_eq_true rfl)⟩)) hS (fun q _ h => hFc q h) hFc (fun r_50 u t H1 locs ht hvm hw hB hz1 hk1 hS => ?_)
                obtain ⟨hP, hD, hK⟩ := z_after3 (wn := (zV390 h0 tp h0_tapeLength h0_faultKind h0_faultPlace nw im sl rd wk fm mt ch dy sl cA_sl f_sl r0_numbers cA_r0_numbers f_r0_numbers r1_numbers cA_r1_numbers f_r1_numbers r2 r2_width r2_size r2_numbers r2_numbers cA_r2_numbers f_r2_numbers r3 r3_width r3_size r3_numbers r3_numbers cA_r3_numbers f_r3_numbers r0 r0_width r0_size r0_numbers r1 r1_width r1_size r1_numbers)) hB ht hvm hP hD hK [8] [0, 1, 2, 3, 4, 5, 6, 7, 9] rfl 10 rfl (by decide +kernel) rfl (by decide +kernel) hk1 hFc
                generalize H1 = H at hP hS ⊢
                have hK : va_K (dC, dI) vwCl [(cA_sl, .object RX6), (cA_r0_numbers, .long), (cA_r1_numbers, .long), (cA_r2_numbers, .long), (cA_r3_numbers, .long)] s := hK
                have b_r_50 : 0 ≤ r_50.toInt ∧ r_50.toInt ≤ 1 := hw.1
                have s_r_50 := hw.2
                refine lv_if_eq (tgt := 91) hx hb dX9_paste_76 (by decide) (fun c_51 => ?_) (fun c_51 => ?_)
                · have ic_51 := zz_eq rfl (show Int32.toInt 0 = 0 from by decide) c_51
                  replace s_r_50 := (s_r_50.resolve_right (fun h => absurd (ic_51.symm.trans h.1) (by decide))).2
                  refine lv_bipush (v := (-7)) hx hb dX9_paste_91 (by decide) ?_
                  have zr : Int32.toInt (-7) = (-7) := by decide
                  have hWa : zSel r0_width.toInt r1_width.toInt r2_width.toInt r3_width.toInt (Int32.toInt 1) = r1_width.toInt := by rw [zc_1]; exact zSel_1
                  have hSa : zSel r0_size.toInt r1_size.toInt r2_size.toInt r3_size.toInt (Int32.toInt 1) = r1_size.toInt := by rw [zc_1]; exact zSel_1
                  have hWb : zSel r0_width.toInt r1_width.toInt r2_width.toInt r3_width.toInt (Int32.toInt 0) = r0_width.toInt := by rw [zc_0]; exact zSel_0
                  have hSb : zSel r0_size.toInt r1_size.toInt r2_size.toInt r3_size.toInt (Int32.toInt 0) = r0_size.toInt := by rw [zc_0]; exact zSel_0
                  have hsp : zPa (zSel r0_width.toInt r1_width.toInt r2_width.toInt r3_width.toInt) (zSel r0_size.toInt r1_size.toInt r2_size.toInt r3_size.toInt) (Int32.toInt 1) (p2.toInt) (Int32.toInt 0) (p4.toInt) (p5.toInt) (Int32.toInt (-7)) := zPa.at (by first | with_reducible assumption | omega) hWa hWb hSa hSb (Or.inr (Or.inr (Or.inl ⟨zr, by omega, by omega, by omega, by omega⟩)))
                  have zc : Int32.toInt (-7) = (-7) := by decide
                  exact W.iret (v := (-7)) hx hb hr (fun t ht hW => by rw [← hQe]; exact ⟨⟨(-7), (), rfl, ⟨by omega, by assumption⟩, ⟨f_r0_numbers, f_r1_numbers, f_r2_numbers, f_r3_numbers, z_ret hP hK hD ht hW [0, 1, 8, 2, 9, 3, 4, 5, 6, 7] [] rfl (by decide) rfl⟩⟩, hS.F ht⟩) hS.2.2 dX9_paste_93
                · have ic_51 := zz_neq rfl (show Int32.toInt 0 = 0 from by decide) c_51
                  replace s_r_50 := (s_r_50.resolve_left (fun h => ic_51 h.1)).2
                  refine lv_aload hx hb dX9_paste_79 (lv_at hl 0 rfl) ?_
                  refine lv_iload hx hb dX9_paste_81 (lv_at hl 6 rfl) ?_
                  refine lv_iload hx hb dX9_paste_83 (lv_at hl 7 rfl) ?_
                  obtain ⟨hPc, hDc, hFc⟩ := z_cut (wc := (zV6 r0 r0_width r0_size r0_numbers)) hP hD hS hA [8] rfl (by decide +kernel)
                  have hKc := hK.sub (tys' := []) [] rfl
                  refine va_calli (va_runV (As := [.int p4, .int p5]) (rest := []) ⟨hx, hb, hml, hown, hts⟩ (k_X6_hasSpan_v1 l sa dC dI r0 p4 p5 r0_width r0_size r0_numbers b_r0_size H.size) (cwV 2 hts (z_gV zw_t6_80 zw_t6_81 zw_t6_82 zw_t1_10 zw_t6_83) rfl rfl rfl (by decide +kernel) (by rw [← hRe]; exact ⟨(Nat.le_of_ble_eq_true rfl), (Nat.le_of_ble_eq_true rfl)⟩)) (z_preV hPc hKc hDc hN hXs hS hFc (q := (RX6, TX6, 3)) (ci := 6) (q0 := 0) rfl rfl) rfl rfl hl.1 rfl (lv_room (Nat.le_of_ble_eq_true rfl)) dX9_paste_85 (by rw [← hRe]; exact ⟨(Nat.le_of_ble_eq_true rfl), (Nat.le_of_ble_eq_true rfl)⟩)) hS (fun q _ h => hFc q h) hFc (fun r_52 u t H1 locs ht hvm hw hB hz1 hk1 hS => ?_)
                  obtain ⟨hP, hD, hK⟩ := z_after3 (wn := (zV390 h0 tp h0_tapeLength h0_faultKind h0_faultPlace nw im sl rd wk fm mt ch dy sl cA_sl f_sl r0_numbers cA_r0_numbers f_r0_numbers r1_numbers cA_r1_numbers f_r1_numbers r2 r2_width r2_size r2_numbers r2_numbers cA_r2_numbers f_r2_numbers r3 r3_width r3_size r3_numbers r3_numbers cA_r3_numbers f_r3_numbers r1 r1_width r1_size r1_numbers r0 r0_width r0_size r0_numbers)) hB ht hvm hP hD hK [8] [0, 1, 2, 3, 4, 5, 6, 7, 9] rfl 10 rfl (by decide +kernel) rfl (by decide +kernel) hk1 hFc
                  generalize H1 = H at hP hS ⊢
                  have hK : va_K (dC, dI) vwCl [(cA_sl, .object RX6), (cA_r0_numbers, .long), (cA_r1_numbers, .long), (cA_r2_numbers, .long), (cA_r3_numbers, .long)] s := hK
                  have b_r_52 : 0 ≤ r_52.toInt ∧ r_52.toInt ≤ 1 := hw.1
                  have s_r_52 := hw.2
                  refine lv_if_ne (tgt := 94) hx hb dX9_paste_88 (by decide) (fun c_53 => ?_) (fun c_53 => ?_)
                  · have ic_53 := zz_ne rfl (show Int32.toInt 0 = 0 from by decide) c_53
                    replace s_r_52 := (s_r_52.resolve_left (fun h => ic_53 h.1)).2
                    refine lv_aload hx hb dX9_paste_94 (lv_at hl 1 rfl) ?_
                    refine va_get (D := (dC, dI)) (ci := 6) (v := .ref r1_numbers) (C := RX6) (T := TX6) (N := 3) hx hb hts zl_X6 hown hK hP 8 rfl rfl 2 (by decide) (hts _ zw_t2_181) (fun _ h9 => h9) rfl dX9_paste_96 ?_
                    refine lv_iload_n hx hb dX9_paste_99 rfl (lv_at hl 4 rfl) ?_
                    refine lv_aload hx hb dX9_paste_100 (lv_at hl 0 rfl) ?_
                    refine va_get (D := (dC, dI)) (ci := 6) (v := .ref r0_numbers) (C := RX6) (T := TX6) (N := 3) hx hb hts zl_X6 hown hK hP 9 rfl rfl 2 (by decide) (hts _ zw_t2_181) (fun _ h9 => h9) rfl dX9_paste_102 ?_
                    refine lv_iload hx hb dX9_paste_105 (lv_at hl 6 rfl) ?_
                    refine lv_iload hx hb dX9_paste_107 (lv_at hl 7 rfl) ?_
                    have kc_p2 := zi_clamp (x := p2) rfl (by first | with_reducible assumption | omega)
                    have kc_p4 := zi_clamp (x := p4) rfl (by first | with_reducible assumption | omega)
                    have kc_p5 := zi_clamp (x := p5) rfl (by first | with_reducible assumption | omega)
                    refine va_copyl hx hb (by rw [hml]; exact hl.1.symm) hown (hts _ zw_t6_92) (hts _ zw_t4_39) (hts _ zw_t4_38) (hts _ zw_t1_18) hK hP hD hS 3 2 2 1 rfl rfl rfl rfl rfl (fun q => absurd (z_lt (k := 0) (by decide) q) (by first | with_reducible assumption | omega)) (fun q => absurd (z_lt (k := 0) (by decide) q) (by first | with_reducible assumption | omega)) (fun q => absurd (z_lt (k := 0) (by decide) q) (by first | with_reducible assumption | omega)) (by first | with_reducible assumption | omega) (by first | with_reducible assumption | omega) (fun _ _ => rfl) (by rw [← hRe]; exact (Nat.le_of_ble_eq_true rfl)) (by rw [← hRe]; exact (Nat.le_of_ble_eq_true rfl)) dX9_paste_109 (fun H locs hP hD hS => ?_)
                    obtain ⟨f_54, ef_54⟩ : ∃ g : Nat → Int64, g = va_cpy f_r1_numbers f_r0_numbers (Int32.toNatClampNeg p2) (Int32.toNatClampNeg p4) (Int32.toNatClampNeg p5) := ⟨_, rfl⟩
                    have hP : va_P (dC, dI) vwCl (zV390 h0 tp h0_tapeLength h0_faultKind h0_faultPlace nw im sl rd wk fm mt ch dy sl cA_sl f_sl r0_numbers cA_r0_numbers (va_cpy f_r1_numbers f_r0_numbers (Int32.toNatClampNeg p2) (Int32.toNatClampNeg p4) (Int32.toNatClampNeg p5)) r1_numbers cA_r1_numbers f_r1_numbers r2 r2_width r2_size r2_numbers r2_numbers cA_r2_numbers f_r2_numbers r3 r3_width r3_size r3_numbers r3_numbers cA_r3_numbers f_r3_numbers r1 r1_width r1_size r1_numbers r0 r0_width r0_size r0_numbers) H := hP
                    have hD : va_D A (zV390 h0 tp h0_tapeLength h0_faultKind h0_faultPlace nw im sl rd wk fm mt ch dy sl cA_sl f_sl r0_numbers cA_r0_numbers (va_cpy f_r1_numbers f_r0_numbers (Int32.toNatClampNeg p2) (Int32.toNatClampNeg p4) (Int32.toNatClampNeg p5)) r1_numbers cA_r1_numbers f_r1_numbers r2 r2_width r2_size r2_numbers r2_numbers cA_r2_numbers f_r2_numbers r3 r3_width r3_size r3_numbers r3_numbers cA_r3_numbers f_r3_numbers r1 r1_width r1_size r1_numbers r0 r0_width r0_size r0_numbers) := hD
                    rw [← ef_54] at hP hD
                    refine lv_iconst (v := 0) hx hb dX9_paste_112 (by decide) ?_
                    have zr : Int32.toInt 0 = 0 := by decide
                    have hWa : zSel r0_width.toInt r1_width.toInt r2_width.toInt r3_width.toInt (Int32.toInt 1) = r1_width.toInt := by rw [zc_1]; exact zSel_1
                    have hSa : zSel r0_size.toInt r1_size.toInt r2_size.toInt r3_size.toInt (Int32.toInt 1) = r1_size.toInt := by rw [zc_1]; exact zSel_1
                    have hWb : zSel r0_width.toInt r1_width.toInt r2_width.toInt r3_width.toInt (Int32.toInt 0) = r0_width.toInt := by rw [zc_0]; exact zSel_0
                    have hSb : zSel r0_size.toInt r1_size.toInt r2_size.toInt r3_size.toInt (Int32.toInt 0) = r0_size.toInt := by rw [zc_0]; exact zSel_0
                    have hsp : zPa (zSel r0_width.toInt r1_width.toInt r2_width.toInt r3_width.toInt) (zSel r0_size.toInt r1_size.toInt r2_size.toInt r3_size.toInt) (Int32.toInt 1) (p2.toInt) (Int32.toInt 0) (p4.toInt) (p5.toInt) (Int32.toInt 0) := zPa.at (by first | with_reducible assumption | omega) hWa hWb hSa hSb (Or.inr (Or.inr (Or.inr ⟨zr, by omega, by omega, by omega, by omega, by omega, by omega, by omega, by omega⟩)))
                    have zc : Int32.toInt 0 = 0 := by decide
                    exact W.iret (v := 0) hx hb hr (fun t ht hW => by rw [← hQe]; exact ⟨⟨0, (), rfl, ⟨by omega, by assumption⟩, ⟨f_54, f_r1_numbers, f_r2_numbers, f_r3_numbers, z_ret hP hK hD ht hW [0, 1, 9, 2, 8, 3, 4, 5, 6, 7] [] rfl (by decide) rfl⟩⟩, hS.F ht⟩) hS.2.2 dX9_paste_113
                  · have ic_53 := zz_nne rfl (show Int32.toInt 0 = 0 from by decide) c_53
                    replace s_r_52 := (s_r_52.resolve_right (fun h => absurd (ic_53.symm.trans h.1) (by decide))).2
                    refine lv_bipush (v := (-7)) hx hb dX9_paste_91 (by decide) ?_
                    have zr : Int32.toInt (-7) = (-7) := by decide
                    have hWa : zSel r0_width.toInt r1_width.toInt r2_width.toInt r3_width.toInt (Int32.toInt 1) = r1_width.toInt := by rw [zc_1]; exact zSel_1
                    have hSa : zSel r0_size.toInt r1_size.toInt r2_size.toInt r3_size.toInt (Int32.toInt 1) = r1_size.toInt := by rw [zc_1]; exact zSel_1
                    have hWb : zSel r0_width.toInt r1_width.toInt r2_width.toInt r3_width.toInt (Int32.toInt 0) = r0_width.toInt := by rw [zc_0]; exact zSel_0
                    have hSb : zSel r0_size.toInt r1_size.toInt r2_size.toInt r3_size.toInt (Int32.toInt 0) = r0_size.toInt := by rw [zc_0]; exact zSel_0
                    have hsp : zPa (zSel r0_width.toInt r1_width.toInt r2_width.toInt r3_width.toInt) (zSel r0_size.toInt r1_size.toInt r2_size.toInt r3_size.toInt) (Int32.toInt 1) (p2.toInt) (Int32.toInt 0) (p4.toInt) (p5.toInt) (Int32.toInt (-7)) := zPa.at (by first | with_reducible assumption | omega) hWa hWb hSa hSb (Or.inr (Or.inr (Or.inl ⟨zr, by omega, by omega, by omega, by omega⟩)))
                    have zc : Int32.toInt (-7) = (-7) := by decide
                    exact W.iret (v := (-7)) hx hb hr (fun t ht hW => by rw [← hQe]; exact ⟨⟨(-7), (), rfl, ⟨by omega, by assumption⟩, ⟨f_r0_numbers, f_r1_numbers, f_r2_numbers, f_r3_numbers, z_ret hP hK hD ht hW [0, 1, 9, 2, 8, 3, 4, 5, 6, 7] [] rfl (by decide) rfl⟩⟩, hS.F ht⟩) hS.2.2 dX9_paste_93
              · have ic_49 := zz_neq rfl rfl c_49
                refine lv_bipush (v := (-8)) hx hb dX9_paste_65 (by decide) ?_
                have zr : Int32.toInt (-8) = (-8) := by decide
                have hWa : zSel r0_width.toInt r1_width.toInt r2_width.toInt r3_width.toInt (Int32.toInt 1) = r1_width.toInt := by rw [zc_1]; exact zSel_1
                have hSa : zSel r0_size.toInt r1_size.toInt r2_size.toInt r3_size.toInt (Int32.toInt 1) = r1_size.toInt := by rw [zc_1]; exact zSel_1
                have hWb : zSel r0_width.toInt r1_width.toInt r2_width.toInt r3_width.toInt (Int32.toInt 0) = r0_width.toInt := by rw [zc_0]; exact zSel_0
                have hSb : zSel r0_size.toInt r1_size.toInt r2_size.toInt r3_size.toInt (Int32.toInt 0) = r0_size.toInt := by rw [zc_0]; exact zSel_0
                have hsp : zPa (zSel r0_width.toInt r1_width.toInt r2_width.toInt r3_width.toInt) (zSel r0_size.toInt r1_size.toInt r2_size.toInt r3_size.toInt) (Int32.toInt 1) (p2.toInt) (Int32.toInt 0) (p4.toInt) (p5.toInt) (Int32.toInt (-8)) := zPa.at (by first | with_reducible assumption | omega) hWa hWb hSa hSb (Or.inr (Or.inl ⟨zr, by omega, by omega, by omega⟩))
                have zc : Int32.toInt (-8) = (-8) := by decide
                exact W.iret (v := (-8)) hx hb hr (fun t ht hW => by rw [← hQe]; exact ⟨⟨(-8), (), rfl, ⟨by omega, by assumption⟩, ⟨f_r0_numbers, f_r1_numbers, f_r2_numbers, f_r3_numbers, z_ret hP hK hD ht hW [0, 1, 9, 2, 8, 3, 4, 5, 6, 7] [] rfl (by decide) rfl⟩⟩, hS.F ht⟩) hS.2.2 dX9_paste_67
            · have ic_48 := zz_nne rfl (show Int32.toInt 0 = 0 from by decide) c_48
              replace s_r_47 := (s_r_47.resolve_right (fun h => absurd (ic_48.symm.trans h.1) (by decide))).2
              refine lv_bipush (v := (-6)) hx hb dX9_paste_49 (by decide) ?_
              have zr : Int32.toInt (-6) = (-6) := by decide
              have hWa : zSel r0_width.toInt r1_width.toInt r2_width.toInt r3_width.toInt (Int32.toInt 1) = r1_width.toInt := by rw [zc_1]; exact zSel_1
              have hSa : zSel r0_size.toInt r1_size.toInt r2_size.toInt r3_size.toInt (Int32.toInt 1) = r1_size.toInt := by rw [zc_1]; exact zSel_1
              have hWb : zSel r0_width.toInt r1_width.toInt r2_width.toInt r3_width.toInt (Int32.toInt 0) = r0_width.toInt := by rw [zc_0]; exact zSel_0
              have hSb : zSel r0_size.toInt r1_size.toInt r2_size.toInt r3_size.toInt (Int32.toInt 0) = r0_size.toInt := by rw [zc_0]; exact zSel_0
              have hsp : zPa (zSel r0_width.toInt r1_width.toInt r2_width.toInt r3_width.toInt) (zSel r0_size.toInt r1_size.toInt r2_size.toInt r3_size.toInt) (Int32.toInt 1) (p2.toInt) (Int32.toInt 0) (p4.toInt) (p5.toInt) (Int32.toInt (-6)) := zPa.at (by first | with_reducible assumption | omega) hWa hWb hSa hSb (Or.inl ⟨zr, by omega⟩)
              have zc : Int32.toInt (-6) = (-6) := by decide
              exact W.iret (v := (-6)) hx hb hr (fun t ht hW => by rw [← hQe]; exact ⟨⟨(-6), (), rfl, ⟨by omega, by assumption⟩, ⟨f_r0_numbers, f_r1_numbers, f_r2_numbers, f_r3_numbers, z_ret hP hK hD ht hW [0, 1, 9, 2, 8, 3, 4, 5, 6, 7] [] rfl (by decide) rfl⟩⟩, hS.F ht⟩) hS.2.2 dX9_paste_51
        · have zc_1 : Int32.toInt 1 = 1 := by decide
          refine va_aldq hx hb hK hP 1 0 rfl rfl (zi_in (show Int32.toInt 1 = 1 from by decide) (by first | with_reducible assumption | omega)) dX9_paste_30 ?_
          refine W.eq (g2 := F0 m 31 ls (.ref r1 :: [])) (by rw [show f_sl (Int32.toNatClampNeg 1) = some r1 from (by rw [show Int32.toNatClampNeg 1 = 1 from by decide]; exact hsl1)]; rfl) ?_
          refine lv_astore (lv' := [(7, .ref r1), (6, .ref r1), (0, .ref h0), (1, .int 1), (2, .int p2), (3, .int 1), (4, .int p4), (5, .int p5)]) hx hb dX9_paste_31 hl (by decide) rfl (fun ls hl => ?_)
          refine lv_aload hx hb dX9_paste_33 (lv_at hl 1 rfl) ?_
          obtain ⟨hPc, hDc, hFc⟩ := z_cut (wc := (zV6 r1 r1_width r1_size r1_numbers)) hP hD hS hA [4] rfl (by decide +kernel)
          have hKc := hK.sub (tys' := []) [] rfl
          refine va_calli (va_runV (As := []) (rest := []) ⟨hx, hb, hml, hown, hts⟩ (k_X6_isThere_v1 l sa dC dI r1 r1_width r1_size r1_numbers b_r1_size H.size) (cwV 0 hts (z_gV zw_t5_222 zw_t5_223 zw_t5_224 zw_t1_10 zw_t5_225) rfl rfl rfl (by decide +kernel) (by rw [← hRe]; exact ⟨(Nat.le_of_ble_eq_true rfl), (Nat.le_of_ble_eq_true rfl)⟩)) (z_preV hPc hKc hDc hN hXs hS hFc (q := (RX6, TX6, 3)) (ci := 6) (q0 := 0) rfl rfl) rfl rfl hl.1 rfl (lv_room (Nat.le_of_ble_eq_true rfl)) dX9_paste_35 (by rw [← hRe]; exact ⟨(Nat.le_of_ble_eq_true rfl), (Nat.le_of_ble_eq_true rfl)⟩)) hS (fun q _ h => hFc q h) hFc (fun r_55 u t H1 locs ht hvm hw hB hz1 hk1 hS => ?_)
          obtain ⟨hP, hD, hK⟩ := z_after3 (wn := (zV168 h0 tp h0_tapeLength h0_faultKind h0_faultPlace nw im sl rd wk fm mt ch dy sl cA_sl f_sl r0 r0_width r0_size r0_numbers r0_numbers cA_r0_numbers f_r0_numbers r1_numbers cA_r1_numbers f_r1_numbers r2 r2_width r2_size r2_numbers r2_numbers cA_r2_numbers f_r2_numbers r3 r3_width r3_size r3_numbers r3_numbers cA_r3_numbers f_r3_numbers r1 r1_width r1_size r1_numbers)) hB ht hvm hP hD hK [4] [0, 1, 2, 3, 5, 6, 7, 8, 9] rfl 10 rfl (by decide +kernel) rfl (by decide +kernel) hk1 hFc
          generalize H1 = H at hP hS ⊢
          have hK : va_K (dC, dI) vwCl [(cA_sl, .object RX6), (cA_r0_numbers, .long), (cA_r1_numbers, .long), (cA_r2_numbers, .long), (cA_r3_numbers, .long)] s := hK
          have b_r_55 : 0 ≤ r_55.toInt ∧ r_55.toInt ≤ 1 := hw.1
          have s_r_55 := hw.2
          refine lv_if_eq (tgt := 49) hx hb dX9_paste_38 (by decide) (fun c_56 => ?_) (fun c_56 => ?_)
          · have ic_56 := zz_eq rfl (show Int32.toInt 0 = 0 from by decide) c_56
            replace s_r_55 := (s_r_55.resolve_right (fun h => absurd (ic_56.symm.trans h.1) (by decide))).2
            refine lv_bipush (v := (-6)) hx hb dX9_paste_49 (by decide) ?_
            have zr : Int32.toInt (-6) = (-6) := by decide
            have hWa : zSel r0_width.toInt r1_width.toInt r2_width.toInt r3_width.toInt (Int32.toInt 1) = r1_width.toInt := by rw [zc_1]; exact zSel_1
            have hSa : zSel r0_size.toInt r1_size.toInt r2_size.toInt r3_size.toInt (Int32.toInt 1) = r1_size.toInt := by rw [zc_1]; exact zSel_1
            have hWb : zSel r0_width.toInt r1_width.toInt r2_width.toInt r3_width.toInt (Int32.toInt 1) = r1_width.toInt := by rw [zc_1]; exact zSel_1
            have hSb : zSel r0_size.toInt r1_size.toInt r2_size.toInt r3_size.toInt (Int32.toInt 1) = r1_size.toInt := by rw [zc_1]; exact zSel_1
            have hsp : zPa (zSel r0_width.toInt r1_width.toInt r2_width.toInt r3_width.toInt) (zSel r0_size.toInt r1_size.toInt r2_size.toInt r3_size.toInt) (Int32.toInt 1) (p2.toInt) (Int32.toInt 1) (p4.toInt) (p5.toInt) (Int32.toInt (-6)) := zPa.at (by first | with_reducible assumption | omega) hWa hWb hSa hSb (Or.inl ⟨zr, by omega⟩)
            have zc : Int32.toInt (-6) = (-6) := by decide
            exact W.iret (v := (-6)) hx hb hr (fun t ht hW => by rw [← hQe]; exact ⟨⟨(-6), (), rfl, ⟨by omega, by assumption⟩, ⟨f_r0_numbers, f_r1_numbers, f_r2_numbers, f_r3_numbers, z_ret hP hK hD ht hW [0, 1, 2, 3, 9, 4, 5, 6, 7, 8] [] rfl (by decide) rfl⟩⟩, hS.F ht⟩) hS.2.2 dX9_paste_51
          · have ic_56 := zz_neq rfl (show Int32.toInt 0 = 0 from by decide) c_56
            replace s_r_55 := (s_r_55.resolve_left (fun h => ic_56 h.1)).2
            refine lv_aload hx hb dX9_paste_41 (lv_at hl 0 rfl) ?_
            obtain ⟨hPc, hDc, hFc⟩ := z_cut (wc := (zV6 r1 r1_width r1_size r1_numbers)) hP hD hS hA [9] rfl (by decide +kernel)
            have hKc := hK.sub (tys' := []) [] rfl
            refine va_calli (va_runV (As := []) (rest := []) ⟨hx, hb, hml, hown, hts⟩ (k_X6_isThere_v1 l sa dC dI r1 r1_width r1_size r1_numbers b_r1_size H.size) (cwV 0 hts (z_gV zw_t5_222 zw_t5_223 zw_t5_224 zw_t1_10 zw_t5_225) rfl rfl rfl (by decide +kernel) (by rw [← hRe]; exact ⟨(Nat.le_of_ble_eq_true rfl), (Nat.le_of_ble_eq_true rfl)⟩)) (z_preV hPc hKc hDc hN hXs hS hFc (q := (RX6, TX6, 3)) (ci := 6) (q0 := 0) rfl rfl) rfl rfl hl.1 rfl (lv_room (Nat.le_of_ble_eq_true rfl)) dX9_paste_43 (by rw [← hRe]; exact ⟨(Nat.le_of_ble_eq_true rfl), (Nat.le_of_ble_eq_true rfl)⟩)) hS (fun q _ h => hFc q h) hFc (fun r_57 u t H1 locs ht hvm hw hB hz1 hk1 hS => ?_)
            obtain ⟨hP, hD, hK⟩ := z_after3 (wn := (zV168 h0 tp h0_tapeLength h0_faultKind h0_faultPlace nw im sl rd wk fm mt ch dy sl cA_sl f_sl r0 r0_width r0_size r0_numbers r0_numbers cA_r0_numbers f_r0_numbers r1_numbers cA_r1_numbers f_r1_numbers r2 r2_width r2_size r2_numbers r2_numbers cA_r2_numbers f_r2_numbers r3 r3_width r3_size r3_numbers r3_numbers cA_r3_numbers f_r3_numbers r1 r1_width r1_size r1_numbers)) hB ht hvm hP hD hK [9] [0, 1, 2, 3, 4, 5, 6, 7, 8] rfl 10 rfl (by decide +kernel) rfl (by decide +kernel) hk1 hFc
            generalize H1 = H at hP hS ⊢
            have hK : va_K (dC, dI) vwCl [(cA_sl, .object RX6), (cA_r0_numbers, .long), (cA_r1_numbers, .long), (cA_r2_numbers, .long), (cA_r3_numbers, .long)] s := hK
            have b_r_57 : 0 ≤ r_57.toInt ∧ r_57.toInt ≤ 1 := hw.1
            have s_r_57 := hw.2
            refine lv_if_ne (tgt := 52) hx hb dX9_paste_46 (by decide) (fun c_58 => ?_) (fun c_58 => ?_)
            · have ic_58 := zz_ne rfl (show Int32.toInt 0 = 0 from by decide) c_58
              replace s_r_57 := (s_r_57.resolve_left (fun h => ic_58 h.1)).2
              refine lv_aload hx hb dX9_paste_52 (lv_at hl 1 rfl) ?_
              refine va_get (D := (dC, dI)) (ci := 6) (v := .int r1_width) (C := RX6) (T := TX6) (N := 3) hx hb hts zl_X6 hown hK hP 9 rfl rfl 0 (by decide) (hts _ zw_t2_176) (fun _ h9 => h9) rfl dX9_paste_54 ?_
              refine lv_aload hx hb dX9_paste_57 (lv_at hl 0 rfl) ?_
              refine va_get (D := (dC, dI)) (ci := 6) (v := .int r1_width) (C := RX6) (T := TX6) (N := 3) hx hb hts zl_X6 hown hK hP 9 rfl rfl 0 (by decide) (hts _ zw_t2_176) (fun _ h9 => h9) rfl dX9_paste_59 ?_
              have nb_r1_width := zi_nb r1_width
              refine lv_icmp_eq (tgt := 68) hx hb dX9_paste_62 (by decide) (fun c_59 => ?_) (fun q => absurd (zz_neq rfl rfl q) (by first | with_reducible assumption | omega))
              have ic_59 := zz_eq rfl rfl c_59
              refine lv_aload hx hb dX9_paste_68 (lv_at hl 1 rfl) ?_
              refine lv_iload_n hx hb dX9_paste_70 rfl (lv_at hl 4 rfl) ?_
              refine lv_iload hx hb dX9_paste_71 (lv_at hl 7 rfl) ?_
              obtain ⟨hPc, hDc, hFc⟩ := z_cut (wc := (zV6 r1 r1_width r1_size r1_numbers)) hP hD hS hA [9] rfl (by decide +kernel)
              have hKc := hK.sub (tys' := []) [] rfl
              refine va_calli (va_runV (As := [.int p2, .int p5]) (rest := []) ⟨hx, hb, hml, hown, hts⟩ (k_X6_hasSpan_v1 l sa dC dI r1 p2 p5 r1_width r1_size r1_numbers b_r1_size H.size) (cwV 2 hts (z_gV zw_t6_80 zw_t6_81 zw_t6_82 zw_t1_10 zw_t6_83) rfl rfl rfl (by decide +kernel) (by rw [← hRe]; exact ⟨(Nat.le_of_ble_eq_true rfl), (Nat.le_of_ble_eq_true rfl)⟩)) (z_preV hPc hKc hDc hN hXs hS hFc (q := (RX6, TX6, 3)) (ci := 6) (q0 := 0) rfl rfl) rfl rfl hl.1 rfl (lv_room (Nat.le_of_ble_eq_true rfl)) dX9_paste_73 (by rw [← hRe]; exact ⟨(Nat.le_of_ble_eq_true rfl), (Nat.le_of_ble_eq_true rfl)⟩)) hS (fun q _ h => hFc q h) hFc (fun r_60 u t H1 locs ht hvm hw hB hz1 hk1 hS => ?_)
              obtain ⟨hP, hD, hK⟩ := z_after3 (wn := (zV168 h0 tp h0_tapeLength h0_faultKind h0_faultPlace nw im sl rd wk fm mt ch dy sl cA_sl f_sl r0 r0_width r0_size r0_numbers r0_numbers cA_r0_numbers f_r0_numbers r1_numbers cA_r1_numbers f_r1_numbers r2 r2_width r2_size r2_numbers r2_numbers cA_r2_numbers f_r2_numbers r3 r3_width r3_size r3_numbers r3_numbers cA_r3_numbers f_r3_numbers r1 r1_width r1_size r1_numbers)) hB ht hvm hP hD hK [9] [0, 1, 2, 3, 4, 5, 6, 7, 8] rfl 10 rfl (by decide +kernel) rfl (by decide +kernel) hk1 hFc
              generalize H1 = H at hP hS ⊢
              have hK : va_K (dC, dI) vwCl [(cA_sl, .object RX6), (cA_r0_numbers, .long), (cA_r1_numbers, .long), (cA_r2_numbers, .long), (cA_r3_numbers, .long)] s := hK
              have b_r_60 : 0 ≤ r_60.toInt ∧ r_60.toInt ≤ 1 := hw.1
              have s_r_60 := hw.2
              refine lv_if_eq (tgt := 91) hx hb dX9_paste_76 (by decide) (fun c_61 => ?_) (fun c_61 => ?_)
              · have ic_61 := zz_eq rfl (show Int32.toInt 0 = 0 from by decide) c_61
                replace s_r_60 := (s_r_60.resolve_right (fun h => absurd (ic_61.symm.trans h.1) (by decide))).2
                refine lv_bipush (v := (-7)) hx hb dX9_paste_91 (by decide) ?_
                have zr : Int32.toInt (-7) = (-7) := by decide
                have hWa : zSel r0_width.toInt r1_width.toInt r2_width.toInt r3_width.toInt (Int32.toInt 1) = r1_width.toInt := by rw [zc_1]; exact zSel_1
                have hSa : zSel r0_size.toInt r1_size.toInt r2_size.toInt r3_size.toInt (Int32.toInt 1) = r1_size.toInt := by rw [zc_1]; exact zSel_1
                have hWb : zSel r0_width.toInt r1_width.toInt r2_width.toInt r3_width.toInt (Int32.toInt 1) = r1_width.toInt := by rw [zc_1]; exact zSel_1
                have hSb : zSel r0_size.toInt r1_size.toInt r2_size.toInt r3_size.toInt (Int32.toInt 1) = r1_size.toInt := by rw [zc_1]; exact zSel_1
                have hsp : zPa (zSel r0_width.toInt r1_width.toInt r2_width.toInt r3_width.toInt) (zSel r0_size.toInt r1_size.toInt r2_size.toInt r3_size.toInt) (Int32.toInt 1) (p2.toInt) (Int32.toInt 1) (p4.toInt) (p5.toInt) (Int32.toInt (-7)) := zPa.at (by first | with_reducible assumption | omega) hWa hWb hSa hSb (Or.inr (Or.inr (Or.inl ⟨zr, by omega, by omega, by omega, by omega⟩)))
                have zc : Int32.toInt (-7) = (-7) := by decide
                exact W.iret (v := (-7)) hx hb hr (fun t ht hW => by rw [← hQe]; exact ⟨⟨(-7), (), rfl, ⟨by omega, by assumption⟩, ⟨f_r0_numbers, f_r1_numbers, f_r2_numbers, f_r3_numbers, z_ret hP hK hD ht hW [0, 1, 2, 3, 9, 4, 5, 6, 7, 8] [] rfl (by decide) rfl⟩⟩, hS.F ht⟩) hS.2.2 dX9_paste_93
              · have ic_61 := zz_neq rfl (show Int32.toInt 0 = 0 from by decide) c_61
                replace s_r_60 := (s_r_60.resolve_left (fun h => ic_61 h.1)).2
                refine lv_aload hx hb dX9_paste_79 (lv_at hl 0 rfl) ?_
                refine lv_iload hx hb dX9_paste_81 (lv_at hl 6 rfl) ?_
                refine lv_iload hx hb dX9_paste_83 (lv_at hl 7 rfl) ?_
                obtain ⟨hPc, hDc, hFc⟩ := z_cut (wc := (zV6 r1 r1_width r1_size r1_numbers)) hP hD hS hA [9] rfl (by decide +kernel)
                have hKc := hK.sub (tys' := []) [] rfl
                refine va_calli (va_runV (As := [.int p4, .int p5]) (rest := []) ⟨hx, hb, hml, hown, hts⟩ (k_X6_hasSpan_v1 l sa dC dI r1 p4 p5 r1_width r1_size r1_numbers b_r1_size H.size) (cwV 2 hts (z_gV zw_t6_80 zw_t6_81 zw_t6_82 zw_t1_10 zw_t6_83) rfl rfl rfl (by decide +kernel) (by rw [← hRe]; exact ⟨(Nat.le_of_ble_eq_true rfl), (Nat.le_of_ble_eq_true rfl)⟩)) (z_preV hPc hKc hDc hN hXs hS hFc (q := (RX6, TX6, 3)) (ci := 6) (q0 := 0) rfl rfl) rfl rfl hl.1 rfl (lv_room (Nat.le_of_ble_eq_true rfl)) dX9_paste_85 (by rw [← hRe]; exact ⟨(Nat.le_of_ble_eq_true rfl), (Nat.le_of_ble_eq_true rfl)⟩)) hS (fun q _ h => hFc q h) hFc (fun r_62 u t H1 locs ht hvm hw hB hz1 hk1 hS => ?_)
                obtain ⟨hP, hD, hK⟩ := z_after3 (wn := (zV168 h0 tp h0_tapeLength h0_faultKind h0_faultPlace nw im sl rd wk fm mt ch dy sl cA_sl f_sl r0 r0_width r0_size r0_numbers r0_numbers cA_r0_numbers f_r0_numbers r1_numbers cA_r1_numbers f_r1_numbers r2 r2_width r2_size r2_numbers r2_numbers cA_r2_numbers f_r2_numbers r3 r3_width r3_size r3_numbers r3_numbers cA_r3_numbers f_r3_numbers r1 r1_width r1_size r1_numbers)) hB ht hvm hP hD hK [9] [0, 1, 2, 3, 4, 5, 6, 7, 8] rfl 10 rfl (by decide +kernel) rfl (by decide +kernel) hk1 hFc
                generalize H1 = H at hP hS ⊢
                have hK : va_K (dC, dI) vwCl [(cA_sl, .object RX6), (cA_r0_numbers, .long), (cA_r1_numbers, .long), (cA_r2_numbers, .long), (cA_r3_numbers, .long)] s := hK
                have b_r_62 : 0 ≤ r_62.toInt ∧ r_62.toInt ≤ 1 := hw.1
                have s_r_62 := hw.2
                refine lv_if_ne (tgt := 94) hx hb dX9_paste_88 (by decide) (fun c_63 => ?_) (fun c_63 => ?_)
                · have ic_63 := zz_ne rfl (show Int32.toInt 0 = 0 from by decide) c_63
                  replace s_r_62 := (s_r_62.resolve_left (fun h => ic_63 h.1)).2
                  refine lv_aload hx hb dX9_paste_94 (lv_at hl 1 rfl) ?_
                  refine va_get (D := (dC, dI)) (ci := 6) (v := .ref r1_numbers) (C := RX6) (T := TX6) (N := 3) hx hb hts zl_X6 hown hK hP 9 rfl rfl 2 (by decide) (hts _ zw_t2_181) (fun _ h9 => h9) rfl dX9_paste_96 ?_
                  refine lv_iload_n hx hb dX9_paste_99 rfl (lv_at hl 4 rfl) ?_
                  refine lv_aload hx hb dX9_paste_100 (lv_at hl 0 rfl) ?_
                  refine va_get (D := (dC, dI)) (ci := 6) (v := .ref r1_numbers) (C := RX6) (T := TX6) (N := 3) hx hb hts zl_X6 hown hK hP 9 rfl rfl 2 (by decide) (hts _ zw_t2_181) (fun _ h9 => h9) rfl dX9_paste_102 ?_
                  refine lv_iload hx hb dX9_paste_105 (lv_at hl 6 rfl) ?_
                  refine lv_iload hx hb dX9_paste_107 (lv_at hl 7 rfl) ?_
                  have kc_p2 := zi_clamp (x := p2) rfl (by first | with_reducible assumption | omega)
                  have kc_p4 := zi_clamp (x := p4) rfl (by first | with_reducible assumption | omega)
                  have kc_p5 := zi_clamp (x := p5) rfl (by first | with_reducible assumption | omega)
                  refine va_copyl hx hb (by rw [hml]; exact hl.1.symm) hown (hts _ zw_t6_92) (hts _ zw_t4_39) (hts _ zw_t4_38) (hts _ zw_t1_18) hK hP hD hS 4 4 2 2 rfl rfl rfl rfl rfl (fun q => absurd (z_lt (k := 0) (by decide) q) (by first | with_reducible assumption | omega)) (fun q => absurd (z_lt (k := 0) (by decide) q) (by first | with_reducible assumption | omega)) (fun q => absurd (z_lt (k := 0) (by decide) q) (by first | with_reducible assumption | omega)) (by first | with_reducible assumption | omega) (by first | with_reducible assumption | omega) (fun _ _ => rfl) (by rw [← hRe]; exact (Nat.le_of_ble_eq_true rfl)) (by rw [← hRe]; exact (Nat.le_of_ble_eq_true rfl)) dX9_paste_109 (fun H locs hP hD hS => ?_)
                  obtain ⟨f_64, ef_64⟩ : ∃ g : Nat → Int64, g = va_cpy f_r1_numbers f_r1_numbers (Int32.toNatClampNeg p2) (Int32.toNatClampNeg p4) (Int32.toNatClampNeg p5) := ⟨_, rfl⟩
                  have hP : va_P (dC, dI) vwCl (zV168 h0 tp h0_tapeLength h0_faultKind h0_faultPlace nw im sl rd wk fm mt ch dy sl cA_sl f_sl r0 r0_width r0_size r0_numbers r0_numbers cA_r0_numbers f_r0_numbers r1_numbers cA_r1_numbers (va_cpy f_r1_numbers f_r1_numbers (Int32.toNatClampNeg p2) (Int32.toNatClampNeg p4) (Int32.toNatClampNeg p5)) r2 r2_width r2_size r2_numbers r2_numbers cA_r2_numbers f_r2_numbers r3 r3_width r3_size r3_numbers r3_numbers cA_r3_numbers f_r3_numbers r1 r1_width r1_size r1_numbers) H := hP
                  have hD : va_D A (zV168 h0 tp h0_tapeLength h0_faultKind h0_faultPlace nw im sl rd wk fm mt ch dy sl cA_sl f_sl r0 r0_width r0_size r0_numbers r0_numbers cA_r0_numbers f_r0_numbers r1_numbers cA_r1_numbers (va_cpy f_r1_numbers f_r1_numbers (Int32.toNatClampNeg p2) (Int32.toNatClampNeg p4) (Int32.toNatClampNeg p5)) r2 r2_width r2_size r2_numbers r2_numbers cA_r2_numbers f_r2_numbers r3 r3_width r3_size r3_numbers r3_numbers cA_r3_numbers f_r3_numbers r1 r1_width r1_size r1_numbers) := hD
                  rw [← ef_64] at hP hD
                  refine lv_iconst (v := 0) hx hb dX9_paste_112 (by decide) ?_
                  have zr : Int32.toInt 0 = 0 := by decide
                  have hWa : zSel r0_width.toInt r1_width.toInt r2_width.toInt r3_width.toInt (Int32.toInt 1) = r1_width.toInt := by rw [zc_1]; exact zSel_1
                  have hSa : zSel r0_size.toInt r1_size.toInt r2_size.toInt r3_size.toInt (Int32.toInt 1) = r1_size.toInt := by rw [zc_1]; exact zSel_1
                  have hWb : zSel r0_width.toInt r1_width.toInt r2_width.toInt r3_width.toInt (Int32.toInt 1) = r1_width.toInt := by rw [zc_1]; exact zSel_1
                  have hSb : zSel r0_size.toInt r1_size.toInt r2_size.toInt r3_size.toInt (Int32.toInt 1) = r1_size.toInt := by rw [zc_1]; exact zSel_1
                  have hsp : zPa (zSel r0_width.toInt r1_width.toInt r2_width.toInt r3_width.toInt) (zSel r0_size.toInt r1_size.toInt r2_size.toInt r3_size.toInt) (Int32.toInt 1) (p2.toInt) (Int32.toInt 1) (p4.toInt) (p5.toInt) (Int32.toInt 0) := zPa.at (by first | with_reducible assumption | omega) hWa hWb hSa hSb (Or.inr (Or.inr (Or.inr ⟨zr, by omega, by omega, by omega, by omega, by omega, by omega, by omega, by omega⟩)))
                  have zc : Int32.toInt 0 = 0 := by decide
                  exact W.iret (v := 0) hx hb hr (fun t ht hW => by rw [← hQe]; exact ⟨⟨0, (), rfl, ⟨by omega, by assumption⟩, ⟨f_r0_numbers, f_64, f_r2_numbers, f_r3_numbers, z_ret hP hK hD ht hW [0, 1, 2, 3, 9, 4, 5, 6, 7, 8] [] rfl (by decide) rfl⟩⟩, hS.F ht⟩) hS.2.2 dX9_paste_113
                · have ic_63 := zz_nne rfl (show Int32.toInt 0 = 0 from by decide) c_63
                  replace s_r_62 := (s_r_62.resolve_right (fun h => absurd (ic_63.symm.trans h.1) (by decide))).2
                  refine lv_bipush (v := (-7)) hx hb dX9_paste_91 (by decide) ?_
                  have zr : Int32.toInt (-7) = (-7) := by decide
                  have hWa : zSel r0_width.toInt r1_width.toInt r2_width.toInt r3_width.toInt (Int32.toInt 1) = r1_width.toInt := by rw [zc_1]; exact zSel_1
                  have hSa : zSel r0_size.toInt r1_size.toInt r2_size.toInt r3_size.toInt (Int32.toInt 1) = r1_size.toInt := by rw [zc_1]; exact zSel_1
                  have hWb : zSel r0_width.toInt r1_width.toInt r2_width.toInt r3_width.toInt (Int32.toInt 1) = r1_width.toInt := by rw [zc_1]; exact zSel_1
                  have hSb : zSel r0_size.toInt r1_size.toInt r2_size.toInt r3_size.toInt (Int32.toInt 1) = r1_size.toInt := by rw [zc_1]; exact zSel_1
                  have hsp : zPa (zSel r0_width.toInt r1_width.toInt r2_width.toInt r3_width.toInt) (zSel r0_size.toInt r1_size.toInt r2_size.toInt r3_size.toInt) (Int32.toInt 1) (p2.toInt) (Int32.toInt 1) (p4.toInt) (p5.toInt) (Int32.toInt (-7)) := zPa.at (by first | with_reducible assumption | omega) hWa hWb hSa hSb (Or.inr (Or.inr (Or.inl ⟨zr, by omega, by omega, by omega, by omega⟩)))
                  have zc : Int32.toInt (-7) = (-7) := by decide
                  exact W.iret (v := (-7)) hx hb hr (fun t ht hW => by rw [← hQe]; exact ⟨⟨(-7), (), rfl, ⟨by omega, by assumption⟩, ⟨f_r0_numbers, f_r1_numbers, f_r2_numbers, f_r3_numbers, z_ret hP hK hD ht hW [0, 1, 2, 3, 9, 4, 5, 6, 7, 8] [] rfl (by decide) rfl⟩⟩, hS.F ht⟩) hS.2.2 dX9_paste_93
            · have ic_58 := zz_nne rfl (show Int32.toInt 0 = 0 from by decide) c_58
              replace s_r_57 := (s_r_57.resolve_right (fun h => absurd (ic_58.symm.trans h.1) (by decide))).2
              refine lv_bipush (v := (-6)) hx hb dX9_paste_49 (by decide) ?_
              have zr : Int32.toInt (-6) = (-6) := by decide
              have hWa : zSel r0_width.toInt r1_width.toInt r2_width.toInt r3_width.toInt (Int32.toInt 1) = r1_width.toInt := by rw [zc_1]; exact zSel_1
              have hSa : zSel r0_size.toInt r1_size.toInt r2_size.toInt r3_size.toInt (Int32.toInt 1) = r1_size.toInt := by rw [zc_1]; exact zSel_1
              have hWb : zSel r0_width.toInt r1_width.toInt r2_width.toInt r3_width.toInt (Int32.toInt 1) = r1_width.toInt := by rw [zc_1]; exact zSel_1
              have hSb : zSel r0_size.toInt r1_size.toInt r2_size.toInt r3_size.toInt (Int32.toInt 1) = r1_size.toInt := by rw [zc_1]; exact zSel_1
              have hsp : zPa (zSel r0_width.toInt r1_width.toInt r2_width.toInt r3_width.toInt) (zSel r0_size.toInt r1_size.toInt r2_size.toInt r3_size.toInt) (Int32.toInt 1) (p2.toInt) (Int32.toInt 1) (p4.toInt) (p5.toInt) (Int32.toInt (-6)) := zPa.at (by first | with_reducible assumption | omega) hWa hWb hSa hSb (Or.inl ⟨zr, by omega⟩)
              have zc : Int32.toInt (-6) = (-6) := by decide
              exact W.iret (v := (-6)) hx hb hr (fun t ht hW => by rw [← hQe]; exact ⟨⟨(-6), (), rfl, ⟨by omega, by assumption⟩, ⟨f_r0_numbers, f_r1_numbers, f_r2_numbers, f_r3_numbers, z_ret hP hK hD ht hW [0, 1, 2, 3, 9, 4, 5, 6, 7, 8] [] rfl (by decide) rfl⟩⟩, hS.F ht⟩) hS.2.2 dX9_paste_51
        · have zc_2 : Int32.toInt 2 = 2 := by decide
          refine va_aldq hx hb hK hP 1 0 rfl rfl (zi_in (show Int32.toInt 2 = 2 from by decide) (by first | with_reducible assumption | omega)) dX9_paste_30 ?_
          refine W.eq (g2 := F0 m 31 ls (.ref r2 :: [])) (by rw [show f_sl (Int32.toNatClampNeg 2) = some r2 from (by rw [show Int32.toNatClampNeg 2 = 2 from by decide]; exact hsl2)]; rfl) ?_
          refine lv_astore (lv' := [(7, .ref r2), (6, .ref r1), (0, .ref h0), (1, .int 1), (2, .int p2), (3, .int 2), (4, .int p4), (5, .int p5)]) hx hb dX9_paste_31 hl (by decide) rfl (fun ls hl => ?_)
          refine lv_aload hx hb dX9_paste_33 (lv_at hl 1 rfl) ?_
          obtain ⟨hPc, hDc, hFc⟩ := z_cut (wc := (zV6 r1 r1_width r1_size r1_numbers)) hP hD hS hA [4] rfl (by decide +kernel)
          have hKc := hK.sub (tys' := []) [] rfl
          refine va_calli (va_runV (As := []) (rest := []) ⟨hx, hb, hml, hown, hts⟩ (k_X6_isThere_v1 l sa dC dI r1 r1_width r1_size r1_numbers b_r1_size H.size) (cwV 0 hts (z_gV zw_t5_222 zw_t5_223 zw_t5_224 zw_t1_10 zw_t5_225) rfl rfl rfl (by decide +kernel) (by rw [← hRe]; exact ⟨(Nat.le_of_ble_eq_true rfl), (Nat.le_of_ble_eq_true rfl)⟩)) (z_preV hPc hKc hDc hN hXs hS hFc (q := (RX6, TX6, 3)) (ci := 6) (q0 := 0) rfl rfl) rfl rfl hl.1 rfl (lv_room (Nat.le_of_ble_eq_true rfl)) dX9_paste_35 (by rw [← hRe]; exact ⟨(Nat.le_of_ble_eq_true rfl), (Nat.le_of_ble_eq_true rfl)⟩)) hS (fun q _ h => hFc q h) hFc (fun r_65 u t H1 locs ht hvm hw hB hz1 hk1 hS => ?_)
          obtain ⟨hP, hD, hK⟩ := z_after3 (wn := (zV168 h0 tp h0_tapeLength h0_faultKind h0_faultPlace nw im sl rd wk fm mt ch dy sl cA_sl f_sl r0 r0_width r0_size r0_numbers r0_numbers cA_r0_numbers f_r0_numbers r1_numbers cA_r1_numbers f_r1_numbers r2 r2_width r2_size r2_numbers r2_numbers cA_r2_numbers f_r2_numbers r3 r3_width r3_size r3_numbers r3_numbers cA_r3_numbers f_r3_numbers r1 r1_width r1_size r1_numbers)) hB ht hvm hP hD hK [4] [0, 1, 2, 3, 5, 6, 7, 8, 9] rfl 10 rfl (by decide +kernel) rfl (by decide +kernel) hk1 hFc
          generalize H1 = H at hP hS ⊢
          have hK : va_K (dC, dI) vwCl [(cA_sl, .object RX6), (cA_r0_numbers, .long), (cA_r1_numbers, .long), (cA_r2_numbers, .long), (cA_r3_numbers, .long)] s := hK
          have b_r_65 : 0 ≤ r_65.toInt ∧ r_65.toInt ≤ 1 := hw.1
          have s_r_65 := hw.2
          refine lv_if_eq (tgt := 49) hx hb dX9_paste_38 (by decide) (fun c_66 => ?_) (fun c_66 => ?_)
          · have ic_66 := zz_eq rfl (show Int32.toInt 0 = 0 from by decide) c_66
            replace s_r_65 := (s_r_65.resolve_right (fun h => absurd (ic_66.symm.trans h.1) (by decide))).2
            refine lv_bipush (v := (-6)) hx hb dX9_paste_49 (by decide) ?_
            have zr : Int32.toInt (-6) = (-6) := by decide
            have hWa : zSel r0_width.toInt r1_width.toInt r2_width.toInt r3_width.toInt (Int32.toInt 1) = r1_width.toInt := by rw [zc_1]; exact zSel_1
            have hSa : zSel r0_size.toInt r1_size.toInt r2_size.toInt r3_size.toInt (Int32.toInt 1) = r1_size.toInt := by rw [zc_1]; exact zSel_1
            have hWb : zSel r0_width.toInt r1_width.toInt r2_width.toInt r3_width.toInt (Int32.toInt 2) = r2_width.toInt := by rw [zc_2]; exact zSel_2
            have hSb : zSel r0_size.toInt r1_size.toInt r2_size.toInt r3_size.toInt (Int32.toInt 2) = r2_size.toInt := by rw [zc_2]; exact zSel_2
            have hsp : zPa (zSel r0_width.toInt r1_width.toInt r2_width.toInt r3_width.toInt) (zSel r0_size.toInt r1_size.toInt r2_size.toInt r3_size.toInt) (Int32.toInt 1) (p2.toInt) (Int32.toInt 2) (p4.toInt) (p5.toInt) (Int32.toInt (-6)) := zPa.at (by first | with_reducible assumption | omega) hWa hWb hSa hSb (Or.inl ⟨zr, by omega⟩)
            have zc : Int32.toInt (-6) = (-6) := by decide
            exact W.iret (v := (-6)) hx hb hr (fun t ht hW => by rw [← hQe]; exact ⟨⟨(-6), (), rfl, ⟨by omega, by assumption⟩, ⟨f_r0_numbers, f_r1_numbers, f_r2_numbers, f_r3_numbers, z_ret hP hK hD ht hW [0, 1, 2, 3, 9, 4, 5, 6, 7, 8] [] rfl (by decide) rfl⟩⟩, hS.F ht⟩) hS.2.2 dX9_paste_51
          · have ic_66 := zz_neq rfl (show Int32.toInt 0 = 0 from by decide) c_66
            replace s_r_65 := (s_r_65.resolve_left (fun h => ic_66 h.1)).2
            refine lv_aload hx hb dX9_paste_41 (lv_at hl 0 rfl) ?_
            obtain ⟨hPc, hDc, hFc⟩ := z_cut (wc := (zV6 r2 r2_width r2_size r2_numbers)) hP hD hS hA [5] rfl (by decide +kernel)
            have hKc := hK.sub (tys' := []) [] rfl
            refine va_calli (va_runV (As := []) (rest := []) ⟨hx, hb, hml, hown, hts⟩ (k_X6_isThere_v1 l sa dC dI r2 r2_width r2_size r2_numbers b_r2_size H.size) (cwV 0 hts (z_gV zw_t5_222 zw_t5_223 zw_t5_224 zw_t1_10 zw_t5_225) rfl rfl rfl (by decide +kernel) (by rw [← hRe]; exact ⟨(Nat.le_of_ble_eq_true rfl), (Nat.le_of_ble_eq_true rfl)⟩)) (z_preV hPc hKc hDc hN hXs hS hFc (q := (RX6, TX6, 3)) (ci := 6) (q0 := 0) rfl rfl) rfl rfl hl.1 rfl (lv_room (Nat.le_of_ble_eq_true rfl)) dX9_paste_43 (by rw [← hRe]; exact ⟨(Nat.le_of_ble_eq_true rfl), (Nat.le_of_ble_eq_true rfl)⟩)) hS (fun q _ h => hFc q h) hFc (fun r_67 u t H1 locs ht hvm hw hB hz1 hk1 hS => ?_)
            obtain ⟨hP, hD, hK⟩ := z_after3 (wn := (zV393 h0 tp h0_tapeLength h0_faultKind h0_faultPlace nw im sl rd wk fm mt ch dy sl cA_sl f_sl r0 r0_width r0_size r0_numbers r0_numbers cA_r0_numbers f_r0_numbers r1_numbers cA_r1_numbers f_r1_numbers r2_numbers cA_r2_numbers f_r2_numbers r3 r3_width r3_size r3_numbers r3_numbers cA_r3_numbers f_r3_numbers r1 r1_width r1_size r1_numbers r2 r2_width r2_size r2_numbers)) hB ht hvm hP hD hK [5] [0, 1, 2, 3, 4, 6, 7, 8, 9] rfl 10 rfl (by decide +kernel) rfl (by decide +kernel) hk1 hFc
            generalize H1 = H at hP hS ⊢
            have hK : va_K (dC, dI) vwCl [(cA_sl, .object RX6), (cA_r0_numbers, .long), (cA_r1_numbers, .long), (cA_r2_numbers, .long), (cA_r3_numbers, .long)] s := hK
            have b_r_67 : 0 ≤ r_67.toInt ∧ r_67.toInt ≤ 1 := hw.1
            have s_r_67 := hw.2
            refine lv_if_ne (tgt := 52) hx hb dX9_paste_46 (by decide) (fun c_68 => ?_) (fun c_68 => ?_)
            · have ic_68 := zz_ne rfl (show Int32.toInt 0 = 0 from by decide) c_68
              replace s_r_67 := (s_r_67.resolve_left (fun h => ic_68 h.1)).2
              refine lv_aload hx hb dX9_paste_52 (lv_at hl 1 rfl) ?_
              refine va_get (D := (dC, dI)) (ci := 6) (v := .int r1_width) (C := RX6) (T := TX6) (N := 3) hx hb hts zl_X6 hown hK hP 8 rfl rfl 0 (by decide) (hts _ zw_t2_176) (fun _ h9 => h9) rfl dX9_paste_54 ?_
              refine lv_aload hx hb dX9_paste_57 (lv_at hl 0 rfl) ?_
              refine va_get (D := (dC, dI)) (ci := 6) (v := .int r2_width) (C := RX6) (T := TX6) (N := 3) hx hb hts zl_X6 hown hK hP 9 rfl rfl 0 (by decide) (hts _ zw_t2_176) (fun _ h9 => h9) rfl dX9_paste_59 ?_
              have nb_r1_width := zi_nb r1_width
              have nb_r2_width := zi_nb r2_width
              refine lv_icmp_eq (tgt := 68) hx hb dX9_paste_62 (by decide) (fun c_69 => ?_) (fun c_69 => ?_)
              · have ic_69 := zz_eq rfl rfl c_69
                refine lv_aload hx hb dX9_paste_68 (lv_at hl 1 rfl) ?_
                refine lv_iload_n hx hb dX9_paste_70 rfl (lv_at hl 4 rfl) ?_
                refine lv_iload hx hb dX9_paste_71 (lv_at hl 7 rfl) ?_
                obtain ⟨hPc, hDc, hFc⟩ := z_cut (wc := (zV6 r1 r1_width r1_size r1_numbers)) hP hD hS hA [8] rfl (by decide +kernel)
                have hKc := hK.sub (tys' := []) [] rfl
                refine va_calli (va_runV (As := [.int p2, .int p5]) (rest := []) ⟨hx, hb, hml, hown, hts⟩ (k_X6_hasSpan_v1 l sa dC dI r1 p2 p5 r1_width r1_size r1_numbers b_r1_size H.size) (cwV 2 hts (z_gV zw_t6_80 zw_t6_81 zw_t6_82 zw_t1_10 zw_t6_83) rfl rfl rfl (by decide +kernel) (by rw [← hRe]; exact ⟨(Nat.le_of_ble_eq_true rfl), (Nat.le_of_ble_eq_true rfl)⟩)) (z_preV hPc hKc hDc hN hXs hS hFc (q := (RX6, TX6, 3)) (ci := 6) (q0 := 0) rfl rfl) rfl rfl hl.1 rfl (lv_room (Nat.le_of_ble_eq_true rfl)) dX9_paste_73 (by rw [← hRe]; exact ⟨(Nat.le_of_ble_eq_true rfl), (Nat.le_of_ble_eq_true rfl)⟩)) hS (fun q _ h => hFc q h) hFc (fun r_70 u t H1 locs ht hvm hw hB hz1 hk1 hS => ?_)
                obtain ⟨hP, hD, hK⟩ := z_after3 (wn := (zV393 h0 tp h0_tapeLength h0_faultKind h0_faultPlace nw im sl rd wk fm mt ch dy sl cA_sl f_sl r0 r0_width r0_size r0_numbers r0_numbers cA_r0_numbers f_r0_numbers r1_numbers cA_r1_numbers f_r1_numbers r2_numbers cA_r2_numbers f_r2_numbers r3 r3_width r3_size r3_numbers r3_numbers cA_r3_numbers f_r3_numbers r2 r2_width r2_size r2_numbers r1 r1_width r1_size r1_numbers)) hB ht hvm hP hD hK [8] [0, 1, 2, 3, 4, 5, 6, 7, 9] rfl 10 rfl (by decide +kernel) rfl (by decide +kernel) hk1 hFc
                generalize H1 = H at hP hS ⊢
                have hK : va_K (dC, dI) vwCl [(cA_sl, .object RX6), (cA_r0_numbers, .long), (cA_r1_numbers, .long), (cA_r2_numbers, .long), (cA_r3_numbers, .long)] s := hK
                have b_r_70 : 0 ≤ r_70.toInt ∧ r_70.toInt ≤ 1 := hw.1
                have s_r_70 := hw.2
                refine lv_if_eq (tgt := 91) hx hb dX9_paste_76 (by decide) (fun c_71 => ?_) (fun c_71 => ?_)
                · have ic_71 := zz_eq rfl (show Int32.toInt 0 = 0 from by decide) c_71
                  replace s_r_70 := (s_r_70.resolve_right (fun h => absurd (ic_71.symm.trans h.1) (by decide))).2
                  refine lv_bipush (v := (-7)) hx hb dX9_paste_91 (by decide) ?_
                  have zr : Int32.toInt (-7) = (-7) := by decide
                  have hWa : zSel r0_width.toInt r1_width.toInt r2_width.toInt r3_width.toInt (Int32.toInt 1) = r1_width.toInt := by rw [zc_1]; exact zSel_1
                  have hSa : zSel r0_size.toInt r1_size.toInt r2_size.toInt r3_size.toInt (Int32.toInt 1) = r1_size.toInt := by rw [zc_1]; exact zSel_1
                  have hWb : zSel r0_width.toInt r1_width.toInt r2_width.toInt r3_width.toInt (Int32.toInt 2) = r2_width.toInt := by rw [zc_2]; exact zSel_2
                  have hSb : zSel r0_size.toInt r1_size.toInt r2_size.toInt r3_size.toInt (Int32.toInt 2) = r2_size.toInt := by rw [zc_2]; exact zSel_2
                  have hsp : zPa (zSel r0_width.toInt r1_width.toInt r2_width.toInt r3_width.toInt) (zSel r0_size.toInt r1_size.toInt r2_size.toInt r3_size.toInt) (Int32.toInt 1) (p2.toInt) (Int32.toInt 2) (p4.toInt) (p5.toInt) (Int32.toInt (-7)) := zPa.at (by first | with_reducible assumption | omega) hWa hWb hSa hSb (Or.inr (Or.inr (Or.inl ⟨zr, by omega, by omega, by omega, by omega⟩)))
                  have zc : Int32.toInt (-7) = (-7) := by decide
                  exact W.iret (v := (-7)) hx hb hr (fun t ht hW => by rw [← hQe]; exact ⟨⟨(-7), (), rfl, ⟨by omega, by assumption⟩, ⟨f_r0_numbers, f_r1_numbers, f_r2_numbers, f_r3_numbers, z_ret hP hK hD ht hW [0, 1, 2, 3, 9, 4, 8, 5, 6, 7] [] rfl (by decide) rfl⟩⟩, hS.F ht⟩) hS.2.2 dX9_paste_93
                · have ic_71 := zz_neq rfl (show Int32.toInt 0 = 0 from by decide) c_71
                  replace s_r_70 := (s_r_70.resolve_left (fun h => ic_71 h.1)).2
                  refine lv_aload hx hb dX9_paste_79 (lv_at hl 0 rfl) ?_
                  refine lv_iload hx hb dX9_paste_81 (lv_at hl 6 rfl) ?_
                  refine lv_iload hx hb dX9_paste_83 (lv_at hl 7 rfl) ?_
                  obtain ⟨hPc, hDc, hFc⟩ := z_cut (wc := (zV6 r2 r2_width r2_size r2_numbers)) hP hD hS hA [8] rfl (by decide +kernel)
                  have hKc := hK.sub (tys' := []) [] rfl
                  refine va_calli (va_runV (As := [.int p4, .int p5]) (rest := []) ⟨hx, hb, hml, hown, hts⟩ (k_X6_hasSpan_v1 l sa dC dI r2 p4 p5 r2_width r2_size r2_numbers b_r2_size H.size) (cwV 2 hts (z_gV zw_t6_80 zw_t6_81 zw_t6_82 zw_t1_10 zw_t6_83) rfl rfl rfl (by decide +kernel) (by rw [← hRe]; exact ⟨(Nat.le_of_ble_eq_true rfl), (Nat.le_of_ble_eq_true rfl)⟩)) (z_preV hPc hKc hDc hN hXs hS hFc (q := (RX6, TX6, 3)) (ci := 6) (q0 := 0) rfl rfl) rfl rfl hl.1 rfl (lv_room (Nat.le_of_ble_eq_true rfl)) dX9_paste_85 (by rw [← hRe]; exact ⟨(Nat.le_of_ble_eq_true rfl), (Nat.le_of_ble_eq_true rfl)⟩)) hS (fun q _ h => hFc q h) hFc (fun r_72 u t H1 locs ht hvm hw hB hz1 hk1 hS => ?_)
                  obtain ⟨hP, hD, hK⟩ := z_after3 (wn := (zV393 h0 tp h0_tapeLength h0_faultKind h0_faultPlace nw im sl rd wk fm mt ch dy sl cA_sl f_sl r0 r0_width r0_size r0_numbers r0_numbers cA_r0_numbers f_r0_numbers r1_numbers cA_r1_numbers f_r1_numbers r2_numbers cA_r2_numbers f_r2_numbers r3 r3_width r3_size r3_numbers r3_numbers cA_r3_numbers f_r3_numbers r1 r1_width r1_size r1_numbers r2 r2_width r2_size r2_numbers)) hB ht hvm hP hD hK [8] [0, 1, 2, 3, 4, 5, 6, 7, 9] rfl 10 rfl (by decide +kernel) rfl (by decide +kernel) hk1 hFc
                  generalize H1 = H at hP hS ⊢
                  have hK : va_K (dC, dI) vwCl [(cA_sl, .object RX6), (cA_r0_numbers, .long), (cA_r1_numbers, .long), (cA_r2_numbers, .long), (cA_r3_numbers, .long)] s := hK
                  have b_r_72 : 0 ≤ r_72.toInt ∧ r_72.toInt ≤ 1 := hw.1
                  have s_r_72 := hw.2
                  refine lv_if_ne (tgt := 94) hx hb dX9_paste_88 (by decide) (fun c_73 => ?_) (fun c_73 => ?_)
                  · have ic_73 := zz_ne rfl (show Int32.toInt 0 = 0 from by decide) c_73
                    replace s_r_72 := (s_r_72.resolve_left (fun h => ic_73 h.1)).2
                    refine lv_aload hx hb dX9_paste_94 (lv_at hl 1 rfl) ?_
                    refine va_get (D := (dC, dI)) (ci := 6) (v := .ref r1_numbers) (C := RX6) (T := TX6) (N := 3) hx hb hts zl_X6 hown hK hP 8 rfl rfl 2 (by decide) (hts _ zw_t2_181) (fun _ h9 => h9) rfl dX9_paste_96 ?_
                    refine lv_iload_n hx hb dX9_paste_99 rfl (lv_at hl 4 rfl) ?_
                    refine lv_aload hx hb dX9_paste_100 (lv_at hl 0 rfl) ?_
                    refine va_get (D := (dC, dI)) (ci := 6) (v := .ref r2_numbers) (C := RX6) (T := TX6) (N := 3) hx hb hts zl_X6 hown hK hP 9 rfl rfl 2 (by decide) (hts _ zw_t2_181) (fun _ h9 => h9) rfl dX9_paste_102 ?_
                    refine lv_iload hx hb dX9_paste_105 (lv_at hl 6 rfl) ?_
                    refine lv_iload hx hb dX9_paste_107 (lv_at hl 7 rfl) ?_
                    have kc_p2 := zi_clamp (x := p2) rfl (by first | with_reducible assumption | omega)
                    have kc_p4 := zi_clamp (x := p4) rfl (by first | with_reducible assumption | omega)
                    have kc_p5 := zi_clamp (x := p5) rfl (by first | with_reducible assumption | omega)
                    refine va_copyl hx hb (by rw [hml]; exact hl.1.symm) hown (hts _ zw_t6_92) (hts _ zw_t4_39) (hts _ zw_t4_38) (hts _ zw_t1_18) hK hP hD hS 4 5 2 3 rfl rfl rfl rfl rfl (fun q => absurd (z_lt (k := 0) (by decide) q) (by first | with_reducible assumption | omega)) (fun q => absurd (z_lt (k := 0) (by decide) q) (by first | with_reducible assumption | omega)) (fun q => absurd (z_lt (k := 0) (by decide) q) (by first | with_reducible assumption | omega)) (by first | with_reducible assumption | omega) (by first | with_reducible assumption | omega) (fun _ _ => rfl) (by rw [← hRe]; exact (Nat.le_of_ble_eq_true rfl)) (by rw [← hRe]; exact (Nat.le_of_ble_eq_true rfl)) dX9_paste_109 (fun H locs hP hD hS => ?_)
                    obtain ⟨f_74, ef_74⟩ : ∃ g : Nat → Int64, g = va_cpy f_r1_numbers f_r2_numbers (Int32.toNatClampNeg p2) (Int32.toNatClampNeg p4) (Int32.toNatClampNeg p5) := ⟨_, rfl⟩
                    have hP : va_P (dC, dI) vwCl (zV393 h0 tp h0_tapeLength h0_faultKind h0_faultPlace nw im sl rd wk fm mt ch dy sl cA_sl f_sl r0 r0_width r0_size r0_numbers r0_numbers cA_r0_numbers f_r0_numbers r1_numbers cA_r1_numbers f_r1_numbers r2_numbers cA_r2_numbers (va_cpy f_r1_numbers f_r2_numbers (Int32.toNatClampNeg p2) (Int32.toNatClampNeg p4) (Int32.toNatClampNeg p5)) r3 r3_width r3_size r3_numbers r3_numbers cA_r3_numbers f_r3_numbers r1 r1_width r1_size r1_numbers r2 r2_width r2_size r2_numbers) H := hP
                    have hD : va_D A (zV393 h0 tp h0_tapeLength h0_faultKind h0_faultPlace nw im sl rd wk fm mt ch dy sl cA_sl f_sl r0 r0_width r0_size r0_numbers r0_numbers cA_r0_numbers f_r0_numbers r1_numbers cA_r1_numbers f_r1_numbers r2_numbers cA_r2_numbers (va_cpy f_r1_numbers f_r2_numbers (Int32.toNatClampNeg p2) (Int32.toNatClampNeg p4) (Int32.toNatClampNeg p5)) r3 r3_width r3_size r3_numbers r3_numbers cA_r3_numbers f_r3_numbers r1 r1_width r1_size r1_numbers r2 r2_width r2_size r2_numbers) := hD
                    rw [← ef_74] at hP hD
                    refine lv_iconst (v := 0) hx hb dX9_paste_112 (by decide) ?_
                    have zr : Int32.toInt 0 = 0 := by decide
                    have hWa : zSel r0_width.toInt r1_width.toInt r2_width.toInt r3_width.toInt (Int32.toInt 1) = r1_width.toInt := by rw [zc_1]; exact zSel_1
                    have hSa : zSel r0_size.toInt r1_size.toInt r2_size.toInt r3_size.toInt (Int32.toInt 1) = r1_size.toInt := by rw [zc_1]; exact zSel_1
                    have hWb : zSel r0_width.toInt r1_width.toInt r2_width.toInt r3_width.toInt (Int32.toInt 2) = r2_width.toInt := by rw [zc_2]; exact zSel_2
                    have hSb : zSel r0_size.toInt r1_size.toInt r2_size.toInt r3_size.toInt (Int32.toInt 2) = r2_size.toInt := by rw [zc_2]; exact zSel_2
                    have hsp : zPa (zSel r0_width.toInt r1_width.toInt r2_width.toInt r3_width.toInt) (zSel r0_size.toInt r1_size.toInt r2_size.toInt r3_size.toInt) (Int32.toInt 1) (p2.toInt) (Int32.toInt 2) (p4.toInt) (p5.toInt) (Int32.toInt 0) := zPa.at (by first | with_reducible assumption | omega) hWa hWb hSa hSb (Or.inr (Or.inr (Or.inr ⟨zr, by omega, by omega, by omega, by omega, by omega, by omega, by omega, by omega⟩)))
                    have zc : Int32.toInt 0 = 0 := by decide
                    exact W.iret (v := 0) hx hb hr (fun t ht hW => by rw [← hQe]; exact ⟨⟨0, (), rfl, ⟨by omega, by assumption⟩, ⟨f_r0_numbers, f_r1_numbers, f_74, f_r3_numbers, z_ret hP hK hD ht hW [0, 1, 2, 3, 8, 4, 9, 5, 6, 7] [] rfl (by decide) rfl⟩⟩, hS.F ht⟩) hS.2.2 dX9_paste_113
                  · have ic_73 := zz_nne rfl (show Int32.toInt 0 = 0 from by decide) c_73
                    replace s_r_72 := (s_r_72.resolve_right (fun h => absurd (ic_73.symm.trans h.1) (by decide))).2
                    refine lv_bipush (v := (-7)) hx hb dX9_paste_91 (by decide) ?_
                    have zr : Int32.toInt (-7) = (-7) := by decide
                    have hWa : zSel r0_width.toInt r1_width.toInt r2_width.toInt r3_width.toInt (Int32.toInt 1) = r1_width.toInt := by rw [zc_1]; exact zSel_1
                    have hSa : zSel r0_size.toInt r1_size.toInt r2_size.toInt r3_size.toInt (Int32.toInt 1) = r1_size.toInt := by rw [zc_1]; exact zSel_1
                    have hWb : zSel r0_width.toInt r1_width.toInt r2_width.toInt r3_width.toInt (Int32.toInt 2) = r2_width.toInt := by rw [zc_2]; exact zSel_2
                    have hSb : zSel r0_size.toInt r1_size.toInt r2_size.toInt r3_size.toInt (Int32.toInt 2) = r2_size.toInt := by rw [zc_2]; exact zSel_2
                    have hsp : zPa (zSel r0_width.toInt r1_width.toInt r2_width.toInt r3_width.toInt) (zSel r0_size.toInt r1_size.toInt r2_size.toInt r3_size.toInt) (Int32.toInt 1) (p2.toInt) (Int32.toInt 2) (p4.toInt) (p5.toInt) (Int32.toInt (-7)) := zPa.at (by first | with_reducible assumption | omega) hWa hWb hSa hSb (Or.inr (Or.inr (Or.inl ⟨zr, by omega, by omega, by omega, by omega⟩)))
                    have zc : Int32.toInt (-7) = (-7) := by decide
                    exact W.iret (v := (-7)) hx hb hr (fun t ht hW => by rw [← hQe]; exact ⟨⟨(-7), (), rfl, ⟨by omega, by assumption⟩, ⟨f_r0_numbers, f_r1_numbers, f_r2_numbers, f_r3_numbers, z_ret hP hK hD ht hW [0, 1, 2, 3, 8, 4, 9, 5, 6, 7] [] rfl (by decide) rfl⟩⟩, hS.F ht⟩) hS.2.2 dX9_paste_93
              · have ic_69 := zz_neq rfl rfl c_69
                refine lv_bipush (v := (-8)) hx hb dX9_paste_65 (by decide) ?_
                have zr : Int32.toInt (-8) = (-8) := by decide
                have hWa : zSel r0_width.toInt r1_width.toInt r2_width.toInt r3_width.toInt (Int32.toInt 1) = r1_width.toInt := by rw [zc_1]; exact zSel_1
                have hSa : zSel r0_size.toInt r1_size.toInt r2_size.toInt r3_size.toInt (Int32.toInt 1) = r1_size.toInt := by rw [zc_1]; exact zSel_1
                have hWb : zSel r0_width.toInt r1_width.toInt r2_width.toInt r3_width.toInt (Int32.toInt 2) = r2_width.toInt := by rw [zc_2]; exact zSel_2
                have hSb : zSel r0_size.toInt r1_size.toInt r2_size.toInt r3_size.toInt (Int32.toInt 2) = r2_size.toInt := by rw [zc_2]; exact zSel_2
                have hsp : zPa (zSel r0_width.toInt r1_width.toInt r2_width.toInt r3_width.toInt) (zSel r0_size.toInt r1_size.toInt r2_size.toInt r3_size.toInt) (Int32.toInt 1) (p2.toInt) (Int32.toInt 2) (p4.toInt) (p5.toInt) (Int32.toInt (-8)) := zPa.at (by first | with_reducible assumption | omega) hWa hWb hSa hSb (Or.inr (Or.inl ⟨zr, by omega, by omega, by omega⟩))
                have zc : Int32.toInt (-8) = (-8) := by decide
                exact W.iret (v := (-8)) hx hb hr (fun t ht hW => by rw [← hQe]; exact ⟨⟨(-8), (), rfl, ⟨by omega, by assumption⟩, ⟨f_r0_numbers, f_r1_numbers, f_r2_numbers, f_r3_numbers, z_ret hP hK hD ht hW [0, 1, 2, 3, 8, 4, 9, 5, 6, 7] [] rfl (by decide) rfl⟩⟩, hS.F ht⟩) hS.2.2 dX9_paste_67
            · have ic_68 := zz_nne rfl (show Int32.toInt 0 = 0 from by decide) c_68
              replace s_r_67 := (s_r_67.resolve_right (fun h => absurd (ic_68.symm.trans h.1) (by decide))).2
              refine lv_bipush (v := (-6)) hx hb dX9_paste_49 (by decide) ?_
              have zr : Int32.toInt (-6) = (-6) := by decide
              have hWa : zSel r0_width.toInt r1_width.toInt r2_width.toInt r3_width.toInt (Int32.toInt 1) = r1_width.toInt := by rw [zc_1]; exact zSel_1
              have hSa : zSel r0_size.toInt r1_size.toInt r2_size.toInt r3_size.toInt (Int32.toInt 1) = r1_size.toInt := by rw [zc_1]; exact zSel_1
              have hWb : zSel r0_width.toInt r1_width.toInt r2_width.toInt r3_width.toInt (Int32.toInt 2) = r2_width.toInt := by rw [zc_2]; exact zSel_2
              have hSb : zSel r0_size.toInt r1_size.toInt r2_size.toInt r3_size.toInt (Int32.toInt 2) = r2_size.toInt := by rw [zc_2]; exact zSel_2
              have hsp : zPa (zSel r0_width.toInt r1_width.toInt r2_width.toInt r3_width.toInt) (zSel r0_size.toInt r1_size.toInt r2_size.toInt r3_size.toInt) (Int32.toInt 1) (p2.toInt) (Int32.toInt 2) (p4.toInt) (p5.toInt) (Int32.toInt (-6)) := zPa.at (by first | with_reducible assumption | omega) hWa hWb hSa hSb (Or.inl ⟨zr, by omega⟩)
              have zc : Int32.toInt (-6) = (-6) := by decide
              exact W.iret (v := (-6)) hx hb hr (fun t ht hW => by rw [← hQe]; exact ⟨⟨(-6), (), rfl, ⟨by omega, by assumption⟩, ⟨f_r0_numbers, f_r1_numbers, f_r2_numbers, f_r3_numbers, z_ret hP hK hD ht hW [0, 1, 2, 3, 8, 4, 9, 5, 6, 7] [] rfl (by decide) rfl⟩⟩, hS.F ht⟩) hS.2.2 dX9_paste_51
        · have zc_3 : Int32.toInt 3 = 3 := by decide
          refine va_aldq hx hb hK hP 1 0 rfl rfl (zi_in (show Int32.toInt 3 = 3 from by decide) (by first | with_reducible assumption | omega)) dX9_paste_30 ?_
          refine W.eq (g2 := F0 m 31 ls (.ref r3 :: [])) (by rw [show f_sl (Int32.toNatClampNeg 3) = some r3 from (by rw [show Int32.toNatClampNeg 3 = 3 from by decide]; exact hsl3)]; rfl) ?_
          refine lv_astore (lv' := [(7, .ref r3), (6, .ref r1), (0, .ref h0), (1, .int 1), (2, .int p2), (3, .int 3), (4, .int p4), (5, .int p5)]) hx hb dX9_paste_31 hl (by decide) rfl (fun ls hl => ?_)
          refine lv_aload hx hb dX9_paste_33 (lv_at hl 1 rfl) ?_
          obtain ⟨hPc, hDc, hFc⟩ := z_cut (wc := (zV6 r1 r1_width r1_size r1_numbers)) hP hD hS hA [4] rfl (by decide +kernel)
          have hKc := hK.sub (tys' := []) [] rfl
          refine va_calli (va_runV (As := []) (rest := []) ⟨hx, hb, hml, hown, hts⟩ (k_X6_isThere_v1 l sa dC dI r1 r1_width r1_size r1_numbers b_r1_size H.size) (cwV 0 hts (z_gV zw_t5_222 zw_t5_223 zw_t5_224 zw_t1_10 zw_t5_225) rfl rfl rfl (by decide +kernel) (by rw [← hRe]; exact ⟨(Nat.le_of_ble_eq_true rfl), (Nat.le_of_ble_eq_true rfl)⟩)) (z_preV hPc hKc hDc hN hXs hS hFc (q := (RX6, TX6, 3)) (ci := 6) (q0 := 0) rfl rfl) rfl rfl hl.1 rfl (lv_room (Nat.le_of_ble_eq_true rfl)) dX9_paste_35 (by rw [← hRe]; exact ⟨(Nat.le_of_ble_eq_true rfl), (Nat.le_of_ble_eq_true rfl)⟩)) hS (fun q _ h => hFc q h) hFc (fun r_75 u t H1 locs ht hvm hw hB hz1 hk1 hS => ?_)
          obtain ⟨hP, hD, hK⟩ := z_after3 (wn := (zV168 h0 tp h0_tapeLength h0_faultKind h0_faultPlace nw im sl rd wk fm mt ch dy sl cA_sl f_sl r0 r0_width r0_size r0_numbers r0_numbers cA_r0_numbers f_r0_numbers r1_numbers cA_r1_numbers f_r1_numbers r2 r2_width r2_size r2_numbers r2_numbers cA_r2_numbers f_r2_numbers r3 r3_width r3_size r3_numbers r3_numbers cA_r3_numbers f_r3_numbers r1 r1_width r1_size r1_numbers)) hB ht hvm hP hD hK [4] [0, 1, 2, 3, 5, 6, 7, 8, 9] rfl 10 rfl (by decide +kernel) rfl (by decide +kernel) hk1 hFc
          generalize H1 = H at hP hS ⊢
          have hK : va_K (dC, dI) vwCl [(cA_sl, .object RX6), (cA_r0_numbers, .long), (cA_r1_numbers, .long), (cA_r2_numbers, .long), (cA_r3_numbers, .long)] s := hK
          have b_r_75 : 0 ≤ r_75.toInt ∧ r_75.toInt ≤ 1 := hw.1
          have s_r_75 := hw.2
          refine lv_if_eq (tgt := 49) hx hb dX9_paste_38 (by decide) (fun c_76 => ?_) (fun c_76 => ?_)
          · have ic_76 := zz_eq rfl (show Int32.toInt 0 = 0 from by decide) c_76
            replace s_r_75 := (s_r_75.resolve_right (fun h => absurd (ic_76.symm.trans h.1) (by decide))).2
            refine lv_bipush (v := (-6)) hx hb dX9_paste_49 (by decide) ?_
            have zr : Int32.toInt (-6) = (-6) := by decide
            have hWa : zSel r0_width.toInt r1_width.toInt r2_width.toInt r3_width.toInt (Int32.toInt 1) = r1_width.toInt := by rw [zc_1]; exact zSel_1
            have hSa : zSel r0_size.toInt r1_size.toInt r2_size.toInt r3_size.toInt (Int32.toInt 1) = r1_size.toInt := by rw [zc_1]; exact zSel_1
            have hWb : zSel r0_width.toInt r1_width.toInt r2_width.toInt r3_width.toInt (Int32.toInt 3) = r3_width.toInt := by rw [zc_3]; exact zSel_3
            have hSb : zSel r0_size.toInt r1_size.toInt r2_size.toInt r3_size.toInt (Int32.toInt 3) = r3_size.toInt := by rw [zc_3]; exact zSel_3
            have hsp : zPa (zSel r0_width.toInt r1_width.toInt r2_width.toInt r3_width.toInt) (zSel r0_size.toInt r1_size.toInt r2_size.toInt r3_size.toInt) (Int32.toInt 1) (p2.toInt) (Int32.toInt 3) (p4.toInt) (p5.toInt) (Int32.toInt (-6)) := zPa.at (by first | with_reducible assumption | omega) hWa hWb hSa hSb (Or.inl ⟨zr, by omega⟩)
            have zc : Int32.toInt (-6) = (-6) := by decide
            exact W.iret (v := (-6)) hx hb hr (fun t ht hW => by rw [← hQe]; exact ⟨⟨(-6), (), rfl, ⟨by omega, by assumption⟩, ⟨f_r0_numbers, f_r1_numbers, f_r2_numbers, f_r3_numbers, z_ret hP hK hD ht hW [0, 1, 2, 3, 9, 4, 5, 6, 7, 8] [] rfl (by decide) rfl⟩⟩, hS.F ht⟩) hS.2.2 dX9_paste_51
          · have ic_76 := zz_neq rfl (show Int32.toInt 0 = 0 from by decide) c_76
            replace s_r_75 := (s_r_75.resolve_left (fun h => ic_76 h.1)).2
            refine lv_aload hx hb dX9_paste_41 (lv_at hl 0 rfl) ?_
            obtain ⟨hPc, hDc, hFc⟩ := z_cut (wc := (zV6 r3 r3_width r3_size r3_numbers)) hP hD hS hA [7] rfl (by decide +kernel)
            have hKc := hK.sub (tys' := []) [] rfl
            refine va_calli (va_runV (As := []) (rest := []) ⟨hx, hb, hml, hown, hts⟩ (k_X6_isThere_v1 l sa dC dI r3 r3_width r3_size r3_numbers b_r3_size H.size) (cwV 0 hts (z_gV zw_t5_222 zw_t5_223 zw_t5_224 zw_t1_10 zw_t5_225) rfl rfl rfl (by decide +kernel) (by rw [← hRe]; exact ⟨(Nat.le_of_ble_eq_true rfl), (Nat.le_of_ble_eq_true rfl)⟩)) (z_preV hPc hKc hDc hN hXs hS hFc (q := (RX6, TX6, 3)) (ci := 6) (q0 := 0) rfl rfl) rfl rfl hl.1 rfl (lv_room (Nat.le_of_ble_eq_true rfl)) dX9_paste_43 (by rw [← hRe]; exact ⟨(Nat.le_of_ble_eq_true rfl), (Nat.le_of_ble_eq_true rfl)⟩)) hS (fun q _ h => hFc q h) hFc (fun r_77 u t H1 locs ht hvm hw hB hz1 hk1 hS => ?_)
            obtain ⟨hP, hD, hK⟩ := z_after3 (wn := (zV394 h0 tp h0_tapeLength h0_faultKind h0_faultPlace nw im sl rd wk fm mt ch dy sl cA_sl f_sl r0 r0_width r0_size r0_numbers r0_numbers cA_r0_numbers f_r0_numbers r1_numbers cA_r1_numbers f_r1_numbers r2 r2_width r2_size r2_numbers r2_numbers cA_r2_numbers f_r2_numbers r3_numbers cA_r3_numbers f_r3_numbers r1 r1_width r1_size r1_numbers r3 r3_width r3_size r3_numbers)) hB ht hvm hP hD hK [7] [0, 1, 2, 3, 4, 5, 6, 8, 9] rfl 10 rfl (by decide +kernel) rfl (by decide +kernel) hk1 hFc
            generalize H1 = H at hP hS ⊢
            have hK : va_K (dC, dI) vwCl [(cA_sl, .object RX6), (cA_r0_numbers, .long), (cA_r1_numbers, .long), (cA_r2_numbers, .long), (cA_r3_numbers, .long)] s := hK
            have b_r_77 : 0 ≤ r_77.toInt ∧ r_77.toInt ≤ 1 := hw.1
            have s_r_77 := hw.2
            refine lv_if_ne (tgt := 52) hx hb dX9_paste_46 (by decide) (fun c_78 => ?_) (fun c_78 => ?_)
            · have ic_78 := zz_ne rfl (show Int32.toInt 0 = 0 from by decide) c_78
              replace s_r_77 := (s_r_77.resolve_left (fun h => ic_78 h.1)).2
              refine lv_aload hx hb dX9_paste_52 (lv_at hl 1 rfl) ?_
              refine va_get (D := (dC, dI)) (ci := 6) (v := .int r1_width) (C := RX6) (T := TX6) (N := 3) hx hb hts zl_X6 hown hK hP 8 rfl rfl 0 (by decide) (hts _ zw_t2_176) (fun _ h9 => h9) rfl dX9_paste_54 ?_
              refine lv_aload hx hb dX9_paste_57 (lv_at hl 0 rfl) ?_
              refine va_get (D := (dC, dI)) (ci := 6) (v := .int r3_width) (C := RX6) (T := TX6) (N := 3) hx hb hts zl_X6 hown hK hP 9 rfl rfl 0 (by decide) (hts _ zw_t2_176) (fun _ h9 => h9) rfl dX9_paste_59 ?_
              have nb_r1_width := zi_nb r1_width
              have nb_r3_width := zi_nb r3_width
              refine lv_icmp_eq (tgt := 68) hx hb dX9_paste_62 (by decide) (fun c_79 => ?_) (fun c_79 => ?_)
              · have ic_79 := zz_eq rfl rfl c_79
                refine lv_aload hx hb dX9_paste_68 (lv_at hl 1 rfl) ?_
                refine lv_iload_n hx hb dX9_paste_70 rfl (lv_at hl 4 rfl) ?_
                refine lv_iload hx hb dX9_paste_71 (lv_at hl 7 rfl) ?_
                obtain ⟨hPc, hDc, hFc⟩ := z_cut (wc := (zV6 r1 r1_width r1_size r1_numbers)) hP hD hS hA [8] rfl (by decide +kernel)
                have hKc := hK.sub (tys' := []) [] rfl
                refine va_calli (va_runV (As := [.int p2, .int p5]) (rest := []) ⟨hx, hb, hml, hown, hts⟩ (k_X6_hasSpan_v1 l sa dC dI r1 p2 p5 r1_width r1_size r1_numbers b_r1_size H.size) (cwV 2 hts (z_gV zw_t6_80 zw_t6_81 zw_t6_82 zw_t1_10 zw_t6_83) rfl rfl rfl (by decide +kernel) (by rw [← hRe]; exact ⟨(Nat.le_of_ble_eq_true rfl), (Nat.le_of_ble_eq_true rfl)⟩)) (z_preV hPc hKc hDc hN hXs hS hFc (q := (RX6, TX6, 3)) (ci := 6) (q0 := 0) rfl rfl) rfl rfl hl.1 rfl (lv_room (Nat.le_of_ble_eq_true rfl)) dX9_paste_73 (by rw [← hRe]; exact ⟨(Nat.le_of_ble_eq_true rfl), (Nat.le_of_ble_eq_true rfl)⟩)) hS (fun q _ h => hFc q h) hFc (fun r_80 u t H1 locs ht hvm hw hB hz1 hk1 hS => ?_)
                obtain ⟨hP, hD, hK⟩ := z_after3 (wn := (zV394 h0 tp h0_tapeLength h0_faultKind h0_faultPlace nw im sl rd wk fm mt ch dy sl cA_sl f_sl r0 r0_width r0_size r0_numbers r0_numbers cA_r0_numbers f_r0_numbers r1_numbers cA_r1_numbers f_r1_numbers r2 r2_width r2_size r2_numbers r2_numbers cA_r2_numbers f_r2_numbers r3_numbers cA_r3_numbers f_r3_numbers r3 r3_width r3_size r3_numbers r1 r1_width r1_size r1_numbers)) hB ht hvm hP hD hK [8] [0, 1, 2, 3, 4, 5, 6, 7, 9] rfl 10 rfl (by decide +kernel) rfl (by decide +kernel) hk1 hFc
                generalize H1 = H at hP hS ⊢
                have hK : va_K (dC, dI) vwCl [(cA_sl, .object RX6), (cA_r0_numbers, .long), (cA_r1_numbers, .long), (cA_r2_numbers, .long), (cA_r3_numbers, .long)] s := hK
                have b_r_80 : 0 ≤ r_80.toInt ∧ r_80.toInt ≤ 1 := hw.1
                have s_r_80 := hw.2
                refine lv_if_eq (tgt := 91) hx hb dX9_paste_76 (by decide) (fun c_81 => ?_) (fun c_81 => ?_)
                · have ic_81 := zz_eq rfl (show Int32.toInt 0 = 0 from by decide) c_81
                  replace s_r_80 := (s_r_80.resolve_right (fun h => absurd (ic_81.symm.trans h.1) (by decide))).2
                  refine lv_bipush (v := (-7)) hx hb dX9_paste_91 (by decide) ?_
                  have zr : Int32.toInt (-7) = (-7) := by decide
                  have hWa : zSel r0_width.toInt r1_width.toInt r2_width.toInt r3_width.toInt (Int32.toInt 1) = r1_width.toInt := by rw [zc_1]; exact zSel_1
                  have hSa : zSel r0_size.toInt r1_size.toInt r2_size.toInt r3_size.toInt (Int32.toInt 1) = r1_size.toInt := by rw [zc_1]; exact zSel_1
                  have hWb : zSel r0_width.toInt r1_width.toInt r2_width.toInt r3_width.toInt (Int32.toInt 3) = r3_width.toInt := by rw [zc_3]; exact zSel_3
                  have hSb : zSel r0_size.toInt r1_size.toInt r2_size.toInt r3_size.toInt (Int32.toInt 3) = r3_size.toInt := by rw [zc_3]; exact zSel_3
                  have hsp : zPa (zSel r0_width.toInt r1_width.toInt r2_width.toInt r3_width.toInt) (zSel r0_size.toInt r1_size.toInt r2_size.toInt r3_size.toInt) (Int32.toInt 1) (p2.toInt) (Int32.toInt 3) (p4.toInt) (p5.toInt) (Int32.toInt (-7)) := zPa.at (by first | with_reducible assumption | omega) hWa hWb hSa hSb (Or.inr (Or.inr (Or.inl ⟨zr, by omega, by omega, by omega, by omega⟩)))
                  have zc : Int32.toInt (-7) = (-7) := by decide
                  exact W.iret (v := (-7)) hx hb hr (fun t ht hW => by rw [← hQe]; exact ⟨⟨(-7), (), rfl, ⟨by omega, by assumption⟩, ⟨f_r0_numbers, f_r1_numbers, f_r2_numbers, f_r3_numbers, z_ret hP hK hD ht hW [0, 1, 2, 3, 9, 4, 5, 6, 8, 7] [] rfl (by decide) rfl⟩⟩, hS.F ht⟩) hS.2.2 dX9_paste_93
                · have ic_81 := zz_neq rfl (show Int32.toInt 0 = 0 from by decide) c_81
                  replace s_r_80 := (s_r_80.resolve_left (fun h => ic_81 h.1)).2
                  refine lv_aload hx hb dX9_paste_79 (lv_at hl 0 rfl) ?_
                  refine lv_iload hx hb dX9_paste_81 (lv_at hl 6 rfl) ?_
                  refine lv_iload hx hb dX9_paste_83 (lv_at hl 7 rfl) ?_
                  obtain ⟨hPc, hDc, hFc⟩ := z_cut (wc := (zV6 r3 r3_width r3_size r3_numbers)) hP hD hS hA [8] rfl (by decide +kernel)
                  have hKc := hK.sub (tys' := []) [] rfl
                  refine va_calli (va_runV (As := [.int p4, .int p5]) (rest := []) ⟨hx, hb, hml, hown, hts⟩ (k_X6_hasSpan_v1 l sa dC dI r3 p4 p5 r3_width r3_size r3_numbers b_r3_size H.size) (cwV 2 hts (z_gV zw_t6_80 zw_t6_81 zw_t6_82 zw_t1_10 zw_t6_83) rfl rfl rfl (by decide +kernel) (by rw [← hRe]; exact ⟨(Nat.le_of_ble_eq_true rfl), (Nat.le_of_ble_eq_true rfl)⟩)) (z_preV hPc hKc hDc hN hXs hS hFc (q := (RX6, TX6, 3)) (ci := 6) (q0 := 0) rfl rfl) rfl rfl hl.1 rfl (lv_room (Nat.le_of_ble_eq_true rfl)) dX9_paste_85 (by rw [← hRe]; exact ⟨(Nat.le_of_ble_eq_true rfl), (Nat.le_of_ble_eq_true rfl)⟩)) hS (fun q _ h => hFc q h) hFc (fun r_82 u t H1 locs ht hvm hw hB hz1 hk1 hS => ?_)
                  obtain ⟨hP, hD, hK⟩ := z_after3 (wn := (zV394 h0 tp h0_tapeLength h0_faultKind h0_faultPlace nw im sl rd wk fm mt ch dy sl cA_sl f_sl r0 r0_width r0_size r0_numbers r0_numbers cA_r0_numbers f_r0_numbers r1_numbers cA_r1_numbers f_r1_numbers r2 r2_width r2_size r2_numbers r2_numbers cA_r2_numbers f_r2_numbers r3_numbers cA_r3_numbers f_r3_numbers r1 r1_width r1_size r1_numbers r3 r3_width r3_size r3_numbers)) hB ht hvm hP hD hK [8] [0, 1, 2, 3, 4, 5, 6, 7, 9] rfl 10 rfl (by decide +kernel) rfl (by decide +kernel) hk1 hFc
                  generalize H1 = H at hP hS ⊢
                  have hK : va_K (dC, dI) vwCl [(cA_sl, .object RX6), (cA_r0_numbers, .long), (cA_r1_numbers, .long), (cA_r2_numbers, .long), (cA_r3_numbers, .long)] s := hK
                  have b_r_82 : 0 ≤ r_82.toInt ∧ r_82.toInt ≤ 1 := hw.1
                  have s_r_82 := hw.2
                  refine lv_if_ne (tgt := 94) hx hb dX9_paste_88 (by decide) (fun c_83 => ?_) (fun c_83 => ?_)
                  · have ic_83 := zz_ne rfl (show Int32.toInt 0 = 0 from by decide) c_83
                    replace s_r_82 := (s_r_82.resolve_left (fun h => ic_83 h.1)).2
                    refine lv_aload hx hb dX9_paste_94 (lv_at hl 1 rfl) ?_
                    refine va_get (D := (dC, dI)) (ci := 6) (v := .ref r1_numbers) (C := RX6) (T := TX6) (N := 3) hx hb hts zl_X6 hown hK hP 8 rfl rfl 2 (by decide) (hts _ zw_t2_181) (fun _ h9 => h9) rfl dX9_paste_96 ?_
                    refine lv_iload_n hx hb dX9_paste_99 rfl (lv_at hl 4 rfl) ?_
                    refine lv_aload hx hb dX9_paste_100 (lv_at hl 0 rfl) ?_
                    refine va_get (D := (dC, dI)) (ci := 6) (v := .ref r3_numbers) (C := RX6) (T := TX6) (N := 3) hx hb hts zl_X6 hown hK hP 9 rfl rfl 2 (by decide) (hts _ zw_t2_181) (fun _ h9 => h9) rfl dX9_paste_102 ?_
                    refine lv_iload hx hb dX9_paste_105 (lv_at hl 6 rfl) ?_
                    refine lv_iload hx hb dX9_paste_107 (lv_at hl 7 rfl) ?_
                    have kc_p2 := zi_clamp (x := p2) rfl (by first | with_reducible assumption | omega)
                    have kc_p4 := zi_clamp (x := p4) rfl (by first | with_reducible assumption | omega)
                    have kc_p5 := zi_clamp (x := p5) rfl (by first | with_reducible assumption | omega)
                    refine va_copyl hx hb (by rw [hml]; exact hl.1.symm) hown (hts _ zw_t6_92) (hts _ zw_t4_39) (hts _ zw_t4_38) (hts _ zw_t1_18) hK hP hD hS 4 7 2 4 rfl rfl rfl rfl rfl (fun q => absurd (z_lt (k := 0) (by decide) q) (by first | with_reducible assumption | omega)) (fun q => absurd (z_lt (k := 0) (by decide) q) (by first | with_reducible assumption | omega)) (fun q => absurd (z_lt (k := 0) (by decide) q) (by first | with_reducible assumption | omega)) (by first | with_reducible assumption | omega) (by first | with_reducible assumption | omega) (fun _ _ => rfl) (by rw [← hRe]; exact (Nat.le_of_ble_eq_true rfl)) (by rw [← hRe]; exact (Nat.le_of_ble_eq_true rfl)) dX9_paste_109 (fun H locs hP hD hS => ?_)
                    obtain ⟨f_84, ef_84⟩ : ∃ g : Nat → Int64, g = va_cpy f_r1_numbers f_r3_numbers (Int32.toNatClampNeg p2) (Int32.toNatClampNeg p4) (Int32.toNatClampNeg p5) := ⟨_, rfl⟩
                    have hP : va_P (dC, dI) vwCl (zV394 h0 tp h0_tapeLength h0_faultKind h0_faultPlace nw im sl rd wk fm mt ch dy sl cA_sl f_sl r0 r0_width r0_size r0_numbers r0_numbers cA_r0_numbers f_r0_numbers r1_numbers cA_r1_numbers f_r1_numbers r2 r2_width r2_size r2_numbers r2_numbers cA_r2_numbers f_r2_numbers r3_numbers cA_r3_numbers (va_cpy f_r1_numbers f_r3_numbers (Int32.toNatClampNeg p2) (Int32.toNatClampNeg p4) (Int32.toNatClampNeg p5)) r1 r1_width r1_size r1_numbers r3 r3_width r3_size r3_numbers) H := hP
                    have hD : va_D A (zV394 h0 tp h0_tapeLength h0_faultKind h0_faultPlace nw im sl rd wk fm mt ch dy sl cA_sl f_sl r0 r0_width r0_size r0_numbers r0_numbers cA_r0_numbers f_r0_numbers r1_numbers cA_r1_numbers f_r1_numbers r2 r2_width r2_size r2_numbers r2_numbers cA_r2_numbers f_r2_numbers r3_numbers cA_r3_numbers (va_cpy f_r1_numbers f_r3_numbers (Int32.toNatClampNeg p2) (Int32.toNatClampNeg p4) (Int32.toNatClampNeg p5)) r1 r1_width r1_size r1_numbers r3 r3_width r3_size r3_numbers) := hD
                    rw [← ef_84] at hP hD
                    refine lv_iconst (v := 0) hx hb dX9_paste_112 (by decide) ?_
                    have zr : Int32.toInt 0 = 0 := by decide
                    have hWa : zSel r0_width.toInt r1_width.toInt r2_width.toInt r3_width.toInt (Int32.toInt 1) = r1_width.toInt := by rw [zc_1]; exact zSel_1
                    have hSa : zSel r0_size.toInt r1_size.toInt r2_size.toInt r3_size.toInt (Int32.toInt 1) = r1_size.toInt := by rw [zc_1]; exact zSel_1
                    have hWb : zSel r0_width.toInt r1_width.toInt r2_width.toInt r3_width.toInt (Int32.toInt 3) = r3_width.toInt := by rw [zc_3]; exact zSel_3
                    have hSb : zSel r0_size.toInt r1_size.toInt r2_size.toInt r3_size.toInt (Int32.toInt 3) = r3_size.toInt := by rw [zc_3]; exact zSel_3
                    have hsp : zPa (zSel r0_width.toInt r1_width.toInt r2_width.toInt r3_width.toInt) (zSel r0_size.toInt r1_size.toInt r2_size.toInt r3_size.toInt) (Int32.toInt 1) (p2.toInt) (Int32.toInt 3) (p4.toInt) (p5.toInt) (Int32.toInt 0) := zPa.at (by first | with_reducible assumption | omega) hWa hWb hSa hSb (Or.inr (Or.inr (Or.inr ⟨zr, by omega, by omega, by omega, by omega, by omega, by omega, by omega, by omega⟩)))
                    have zc : Int32.toInt 0 = 0 := by decide
                    exact W.iret (v := 0) hx hb hr (fun t ht hW => by rw [← hQe]; exact ⟨⟨0, (), rfl, ⟨by omega, by assumption⟩, ⟨f_r0_numbers, f_r1_numbers, f_r2_numbers, f_84, z_ret hP hK hD ht hW [0, 1, 2, 3, 8, 4, 5, 6, 9, 7] [] rfl (by decide) rfl⟩⟩, hS.F ht⟩) hS.2.2 dX9_paste_113
                  · have ic_83 := zz_nne rfl (show Int32.toInt 0 = 0 from by decide) c_83
                    replace s_r_82 := (s_r_82.resolve_right (fun h => absurd (ic_83.symm.trans h.1) (by decide))).2
                    refine lv_bipush (v := (-7)) hx hb dX9_paste_91 (by decide) ?_
                    have zr : Int32.toInt (-7) = (-7) := by decide
                    have hWa : zSel r0_width.toInt r1_width.toInt r2_width.toInt r3_width.toInt (Int32.toInt 1) = r1_width.toInt := by rw [zc_1]; exact zSel_1
                    have hSa : zSel r0_size.toInt r1_size.toInt r2_size.toInt r3_size.toInt (Int32.toInt 1) = r1_size.toInt := by rw [zc_1]; exact zSel_1
                    have hWb : zSel r0_width.toInt r1_width.toInt r2_width.toInt r3_width.toInt (Int32.toInt 3) = r3_width.toInt := by rw [zc_3]; exact zSel_3
                    have hSb : zSel r0_size.toInt r1_size.toInt r2_size.toInt r3_size.toInt (Int32.toInt 3) = r3_size.toInt := by rw [zc_3]; exact zSel_3
                    have hsp : zPa (zSel r0_width.toInt r1_width.toInt r2_width.toInt r3_width.toInt) (zSel r0_size.toInt r1_size.toInt r2_size.toInt r3_size.toInt) (Int32.toInt 1) (p2.toInt) (Int32.toInt 3) (p4.toInt) (p5.toInt) (Int32.toInt (-7)) := zPa.at (by first | with_reducible assumption | omega) hWa hWb hSa hSb (Or.inr (Or.inr (Or.inl ⟨zr, by omega, by omega, by omega, by omega⟩)))
                    have zc : Int32.toInt (-7) = (-7) := by decide
                    exact W.iret (v := (-7)) hx hb hr (fun t ht hW => by rw [← hQe]; exact ⟨⟨(-7), (), rfl, ⟨by omega, by assumption⟩, ⟨f_r0_numbers, f_r1_numbers, f_r2_numbers, f_r3_numbers, z_ret hP hK hD ht hW [0, 1, 2, 3, 8, 4, 5, 6, 9, 7] [] rfl (by decide) rfl⟩⟩, hS.F ht⟩) hS.2.2 dX9_paste_93
              · have ic_79 := zz_neq rfl rfl c_79
                refine lv_bipush (v := (-8)) hx hb dX9_paste_65 (by decide) ?_
                have zr : Int32.toInt (-8) = (-8) := by decide
                have hWa : zSel r0_width.toInt r1_width.toInt r2_width.toInt r3_width.toInt (Int32.toInt 1) = r1_width.toInt := by rw [zc_1]; exact zSel_1
                have hSa : zSel r0_size.toInt r1_size.toInt r2_size.toInt r3_size.toInt (Int32.toInt 1) = r1_size.toInt := by rw [zc_1]; exact zSel_1
                have hWb : zSel r0_width.toInt r1_width.toInt r2_width.toInt r3_width.toInt (Int32.toInt 3) = r3_width.toInt := by rw [zc_3]; exact zSel_3
                have hSb : zSel r0_size.toInt r1_size.toInt r2_size.toInt r3_size.toInt (Int32.toInt 3) = r3_size.toInt := by rw [zc_3]; exact zSel_3
                have hsp : zPa (zSel r0_width.toInt r1_width.toInt r2_width.toInt r3_width.toInt) (zSel r0_size.toInt r1_size.toInt r2_size.toInt r3_size.toInt) (Int32.toInt 1) (p2.toInt) (Int32.toInt 3) (p4.toInt) (p5.toInt) (Int32.toInt (-8)) := zPa.at (by first | with_reducible assumption | omega) hWa hWb hSa hSb (Or.inr (Or.inl ⟨zr, by omega, by omega, by omega⟩))
                have zc : Int32.toInt (-8) = (-8) := by decide
                exact W.iret (v := (-8)) hx hb hr (fun t ht hW => by rw [← hQe]; exact ⟨⟨(-8), (), rfl, ⟨by omega, by assumption⟩, ⟨f_r0_numbers, f_r1_numbers, f_r2_numbers, f_r3_numbers, z_ret hP hK hD ht hW [0, 1, 2, 3, 8, 4, 5, 6, 9, 7] [] rfl (by decide) rfl⟩⟩, hS.F ht⟩) hS.2.2 dX9_paste_67
            · have ic_78 := zz_nne rfl (show Int32.toInt 0 = 0 from by decide) c_78
              replace s_r_77 := (s_r_77.resolve_right (fun h => absurd (ic_78.symm.trans h.1) (by decide))).2
              refine lv_bipush (v := (-6)) hx hb dX9_paste_49 (by decide) ?_
              have zr : Int32.toInt (-6) = (-6) := by decide
              have hWa : zSel r0_width.toInt r1_width.toInt r2_width.toInt r3_width.toInt (Int32.toInt 1) = r1_width.toInt := by rw [zc_1]; exact zSel_1
              have hSa : zSel r0_size.toInt r1_size.toInt r2_size.toInt r3_size.toInt (Int32.toInt 1) = r1_size.toInt := by rw [zc_1]; exact zSel_1
              have hWb : zSel r0_width.toInt r1_width.toInt r2_width.toInt r3_width.toInt (Int32.toInt 3) = r3_width.toInt := by rw [zc_3]; exact zSel_3
              have hSb : zSel r0_size.toInt r1_size.toInt r2_size.toInt r3_size.toInt (Int32.toInt 3) = r3_size.toInt := by rw [zc_3]; exact zSel_3
              have hsp : zPa (zSel r0_width.toInt r1_width.toInt r2_width.toInt r3_width.toInt) (zSel r0_size.toInt r1_size.toInt r2_size.toInt r3_size.toInt) (Int32.toInt 1) (p2.toInt) (Int32.toInt 3) (p4.toInt) (p5.toInt) (Int32.toInt (-6)) := zPa.at (by first | with_reducible assumption | omega) hWa hWb hSa hSb (Or.inl ⟨zr, by omega⟩)
              have zc : Int32.toInt (-6) = (-6) := by decide
              exact W.iret (v := (-6)) hx hb hr (fun t ht hW => by rw [← hQe]; exact ⟨⟨(-6), (), rfl, ⟨by omega, by assumption⟩, ⟨f_r0_numbers, f_r1_numbers, f_r2_numbers, f_r3_numbers, z_ret hP hK hD ht hW [0, 1, 2, 3, 8, 4, 5, 6, 9, 7] [] rfl (by decide) rfl⟩⟩, hS.F ht⟩) hS.2.2 dX9_paste_51
        · omega
      · have zc_2 : Int32.toInt 2 = 2 := by decide
        refine va_aldq hx hb hK hP 1 0 rfl rfl (zi_in (show Int32.toInt 2 = 2 from by decide) (by first | with_reducible assumption | omega)) dX9_paste_22 ?_
        refine W.eq (g2 := F0 m 23 ls (.ref r2 :: [])) (by rw [show f_sl (Int32.toNatClampNeg 2) = some r2 from (by rw [show Int32.toNatClampNeg 2 = 2 from by decide]; exact hsl2)]; rfl) ?_
        refine lv_astore (lv' := [(6, .ref r2), (0, .ref h0), (1, .int 2), (2, .int p2), (3, .int p3), (4, .int p4), (5, .int p5)]) hx hb dX9_paste_23 hl (by decide) rfl (fun ls hl => ?_)
        refine lv_aload_n hx hb dX9_paste_25 rfl (lv_at hl 1 rfl) ?_
        refine va_get (D := (dC, dI)) (ci := 9) (v := .ref sl) (C := RX9) (T := TX9) (N := 13) hx hb hts zl_X9 hown hK hP 0 rfl rfl 6 (by decide) (hts _ zw_t2_195) (fun _ h9 => h9) rfl dX9_paste_26 ?_
        refine lv_iload_n hx hb dX9_paste_29 rfl (lv_at hl 4 rfl) ?_
        rcases z_s3 p3 with q_sw | rfl | rfl | rfl | rfl | q_sw
        · omega
        · have zc_0 : Int32.toInt 0 = 0 := by decide
          refine va_aldq hx hb hK hP 1 0 rfl rfl (zi_in (show Int32.toInt 0 = 0 from by decide) (by first | with_reducible assumption | omega)) dX9_paste_30 ?_
          refine W.eq (g2 := F0 m 31 ls (.ref r0 :: [])) (by rw [show f_sl (Int32.toNatClampNeg 0) = some r0 from (by rw [show Int32.toNatClampNeg 0 = 0 from by decide]; exact hsl0)]; rfl) ?_
          refine lv_astore (lv' := [(7, .ref r0), (6, .ref r2), (0, .ref h0), (1, .int 2), (2, .int p2), (3, .int 0), (4, .int p4), (5, .int p5)]) hx hb dX9_paste_31 hl (by decide) rfl (fun ls hl => ?_)
          refine lv_aload hx hb dX9_paste_33 (lv_at hl 1 rfl) ?_
          obtain ⟨hPc, hDc, hFc⟩ := z_cut (wc := (zV6 r2 r2_width r2_size r2_numbers)) hP hD hS hA [6] rfl (by decide +kernel)
          have hKc := hK.sub (tys' := []) [] rfl
          refine va_calli (va_runV (As := []) (rest := []) ⟨hx, hb, hml, hown, hts⟩ (k_X6_isThere_v1 l sa dC dI r2 r2_width r2_size r2_numbers b_r2_size H.size) (cwV 0 hts (z_gV zw_t5_222 zw_t5_223 zw_t5_224 zw_t1_10 zw_t5_225) rfl rfl rfl (by decide +kernel) (by rw [← hRe]; exact ⟨(Nat.le_of_ble_eq_true rfl), (Nat.le_of_ble_eq_true rfl)⟩)) (z_preV hPc hKc hDc hN hXs hS hFc (q := (RX6, TX6, 3)) (ci := 6) (q0 := 0) rfl rfl) rfl rfl hl.1 rfl (lv_room (Nat.le_of_ble_eq_true rfl)) dX9_paste_35 (by rw [← hRe]; exact ⟨(Nat.le_of_ble_eq_true rfl), (Nat.le_of_ble_eq_true rfl)⟩)) hS (fun q _ h => hFc q h) hFc (fun r_85 u t H1 locs ht hvm hw hB hz1 hk1 hS => ?_)
          obtain ⟨hP, hD, hK⟩ := z_after3 (wn := (zV169 h0 tp h0_tapeLength h0_faultKind h0_faultPlace nw im sl rd wk fm mt ch dy sl cA_sl f_sl r0 r0_width r0_size r0_numbers r0_numbers cA_r0_numbers f_r0_numbers r1 r1_width r1_size r1_numbers r1_numbers cA_r1_numbers f_r1_numbers r2_numbers cA_r2_numbers f_r2_numbers r3 r3_width r3_size r3_numbers r3_numbers cA_r3_numbers f_r3_numbers r2 r2_width r2_size r2_numbers)) hB ht hvm hP hD hK [6] [0, 1, 2, 3, 4, 5, 7, 8, 9] rfl 10 rfl (by decide +kernel) rfl (by decide +kernel) hk1 hFc
          generalize H1 = H at hP hS ⊢
          have hK : va_K (dC, dI) vwCl [(cA_sl, .object RX6), (cA_r0_numbers, .long), (cA_r1_numbers, .long), (cA_r2_numbers, .long), (cA_r3_numbers, .long)] s := hK
          have b_r_85 : 0 ≤ r_85.toInt ∧ r_85.toInt ≤ 1 := hw.1
          have s_r_85 := hw.2
          refine lv_if_eq (tgt := 49) hx hb dX9_paste_38 (by decide) (fun c_86 => ?_) (fun c_86 => ?_)
          · have ic_86 := zz_eq rfl (show Int32.toInt 0 = 0 from by decide) c_86
            replace s_r_85 := (s_r_85.resolve_right (fun h => absurd (ic_86.symm.trans h.1) (by decide))).2
            refine lv_bipush (v := (-6)) hx hb dX9_paste_49 (by decide) ?_
            have zr : Int32.toInt (-6) = (-6) := by decide
            have hWa : zSel r0_width.toInt r1_width.toInt r2_width.toInt r3_width.toInt (Int32.toInt 2) = r2_width.toInt := by rw [zc_2]; exact zSel_2
            have hSa : zSel r0_size.toInt r1_size.toInt r2_size.toInt r3_size.toInt (Int32.toInt 2) = r2_size.toInt := by rw [zc_2]; exact zSel_2
            have hWb : zSel r0_width.toInt r1_width.toInt r2_width.toInt r3_width.toInt (Int32.toInt 0) = r0_width.toInt := by rw [zc_0]; exact zSel_0
            have hSb : zSel r0_size.toInt r1_size.toInt r2_size.toInt r3_size.toInt (Int32.toInt 0) = r0_size.toInt := by rw [zc_0]; exact zSel_0
            have hsp : zPa (zSel r0_width.toInt r1_width.toInt r2_width.toInt r3_width.toInt) (zSel r0_size.toInt r1_size.toInt r2_size.toInt r3_size.toInt) (Int32.toInt 2) (p2.toInt) (Int32.toInt 0) (p4.toInt) (p5.toInt) (Int32.toInt (-6)) := zPa.at (by first | with_reducible assumption | omega) hWa hWb hSa hSb (Or.inl ⟨zr, by omega⟩)
            have zc : Int32.toInt (-6) = (-6) := by decide
            exact W.iret (v := (-6)) hx hb hr (fun t ht hW => by rw [← hQe]; exact ⟨⟨(-6), (), rfl, ⟨by omega, by assumption⟩, ⟨f_r0_numbers, f_r1_numbers, f_r2_numbers, f_r3_numbers, z_ret hP hK hD ht hW [0, 1, 2, 3, 4, 5, 9, 6, 7, 8] [] rfl (by decide) rfl⟩⟩, hS.F ht⟩) hS.2.2 dX9_paste_51
          · have ic_86 := zz_neq rfl (show Int32.toInt 0 = 0 from by decide) c_86
            replace s_r_85 := (s_r_85.resolve_left (fun h => ic_86 h.1)).2
            refine lv_aload hx hb dX9_paste_41 (lv_at hl 0 rfl) ?_
            obtain ⟨hPc, hDc, hFc⟩ := z_cut (wc := (zV6 r0 r0_width r0_size r0_numbers)) hP hD hS hA [2] rfl (by decide +kernel)
            have hKc := hK.sub (tys' := []) [] rfl
            refine va_calli (va_runV (As := []) (rest := []) ⟨hx, hb, hml, hown, hts⟩ (k_X6_isThere_v1 l sa dC dI r0 r0_width r0_size r0_numbers b_r0_size H.size) (cwV 0 hts (z_gV zw_t5_222 zw_t5_223 zw_t5_224 zw_t1_10 zw_t5_225) rfl rfl rfl (by decide +kernel) (by rw [← hRe]; exact ⟨(Nat.le_of_ble_eq_true rfl), (Nat.le_of_ble_eq_true rfl)⟩)) (z_preV hPc hKc hDc hN hXs hS hFc (q := (RX6, TX6, 3)) (ci := 6) (q0 := 0) rfl rfl) rfl rfl hl.1 rfl (lv_room (Nat.le_of_ble_eq_true rfl)) dX9_paste_43 (by rw [← hRe]; exact ⟨(Nat.le_of_ble_eq_true rfl), (Nat.le_of_ble_eq_true rfl)⟩)) hS (fun q _ h => hFc q h) hFc (fun r_87 u t H1 locs ht hvm hw hB hz1 hk1 hS => ?_)
            obtain ⟨hP, hD, hK⟩ := z_after3 (wn := (zV391 h0 tp h0_tapeLength h0_faultKind h0_faultPlace nw im sl rd wk fm mt ch dy sl cA_sl f_sl r0_numbers cA_r0_numbers f_r0_numbers r1 r1_width r1_size r1_numbers r1_numbers cA_r1_numbers f_r1_numbers r2_numbers cA_r2_numbers f_r2_numbers r3 r3_width r3_size r3_numbers r3_numbers cA_r3_numbers f_r3_numbers r2 r2_width r2_size r2_numbers r0 r0_width r0_size r0_numbers)) hB ht hvm hP hD hK [2] [0, 1, 3, 4, 5, 6, 7, 8, 9] rfl 10 rfl (by decide +kernel) rfl (by decide +kernel) hk1 hFc
            generalize H1 = H at hP hS ⊢
            have hK : va_K (dC, dI) vwCl [(cA_sl, .object RX6), (cA_r0_numbers, .long), (cA_r1_numbers, .long), (cA_r2_numbers, .long), (cA_r3_numbers, .long)] s := hK
            have b_r_87 : 0 ≤ r_87.toInt ∧ r_87.toInt ≤ 1 := hw.1
            have s_r_87 := hw.2
            refine lv_if_ne (tgt := 52) hx hb dX9_paste_46 (by decide) (fun c_88 => ?_) (fun c_88 => ?_)
            · have ic_88 := zz_ne rfl (show Int32.toInt 0 = 0 from by decide) c_88
              replace s_r_87 := (s_r_87.resolve_left (fun h => ic_88 h.1)).2
              refine lv_aload hx hb dX9_paste_52 (lv_at hl 1 rfl) ?_
              refine va_get (D := (dC, dI)) (ci := 6) (v := .int r2_width) (C := RX6) (T := TX6) (N := 3) hx hb hts zl_X6 hown hK hP 8 rfl rfl 0 (by decide) (hts _ zw_t2_176) (fun _ h9 => h9) rfl dX9_paste_54 ?_
              refine lv_aload hx hb dX9_paste_57 (lv_at hl 0 rfl) ?_
              refine va_get (D := (dC, dI)) (ci := 6) (v := .int r0_width) (C := RX6) (T := TX6) (N := 3) hx hb hts zl_X6 hown hK hP 9 rfl rfl 0 (by decide) (hts _ zw_t2_176) (fun _ h9 => h9) rfl dX9_paste_59 ?_
              have nb_r2_width := zi_nb r2_width
              have nb_r0_width := zi_nb r0_width
              refine lv_icmp_eq (tgt := 68) hx hb dX9_paste_62 (by decide) (fun c_89 => ?_) (fun c_89 => ?_)
              · have ic_89 := zz_eq rfl rfl c_89
                refine lv_aload hx hb dX9_paste_68 (lv_at hl 1 rfl) ?_
                refine lv_iload_n hx hb dX9_paste_70 rfl (lv_at hl 4 rfl) ?_
                refine lv_iload hx hb dX9_paste_71 (lv_at hl 7 rfl) ?_
                obtain ⟨hPc, hDc, hFc⟩ := z_cut (wc := (zV6 r2 r2_width r2_size r2_numbers)) hP hD hS hA [8] rfl (by decide +kernel)
                have hKc := hK.sub (tys' := []) [] rfl
                refine va_calli (va_runV (As := [.int p2, .int p5]) (rest := []) ⟨hx, hb, hml, hown, hts⟩ (k_X6_hasSpan_v1 l sa dC dI r2 p2 p5 r2_width r2_size r2_numbers b_r2_size H.size) (cwV 2 hts (z_gV zw_t6_80 zw_t6_81 zw_t6_82 zw_t1_10 zw_t6_83) rfl rfl rfl (by decide +kernel) (by rw [← hRe]; exact ⟨(Nat.le_of_ble_eq_true rfl), (Nat.le_of_ble_eq_true rfl)⟩)) (z_preV hPc hKc hDc hN hXs hS hFc (q := (RX6, TX6, 3)) (ci := 6) (q0 := 0) rfl rfl) rfl rfl hl.1 rfl (lv_room (Nat.le_of_ble_eq_true rfl)) dX9_paste_73 (by rw [← hRe]; exact ⟨(Nat.le_of_ble_eq_true rfl), (Nat.le_of_ble_eq_true rfl)⟩)) hS (fun q _ h => hFc q h) hFc (fun r_90 u t H1 locs ht hvm hw hB hz1 hk1 hS => ?_)
                obtain ⟨hP, hD, hK⟩ := z_after3 (wn := (zV391 h0 tp h0_tapeLength h0_faultKind h0_faultPlace nw im sl rd wk fm mt ch dy sl cA_sl f_sl r0_numbers cA_r0_numbers f_r0_numbers r1 r1_width r1_size r1_numbers r1_numbers cA_r1_numbers f_r1_numbers r2_numbers cA_r2_numbers f_r2_numbers r3 r3_width r3_size r3_numbers r3_numbers cA_r3_numbers f_r3_numbers r0 r0_width r0_size r0_numbers r2 r2_width r2_size r2_numbers)) hB ht hvm hP hD hK [8] [0, 1, 2, 3, 4, 5, 6, 7, 9] rfl 10 rfl (by decide +kernel) rfl (by decide +kernel) hk1 hFc
                generalize H1 = H at hP hS ⊢
                have hK : va_K (dC, dI) vwCl [(cA_sl, .object RX6), (cA_r0_numbers, .long), (cA_r1_numbers, .long), (cA_r2_numbers, .long), (cA_r3_numbers, .long)] s := hK
                have b_r_90 : 0 ≤ r_90.toInt ∧ r_90.toInt ≤ 1 := hw.1
                have s_r_90 := hw.2
                refine lv_if_eq (tgt := 91) hx hb dX9_paste_76 (by decide) (fun c_91 => ?_) (fun c_91 => ?_)
                · have ic_91 := zz_eq rfl (show Int32.toInt 0 = 0 from by decide) c_91
                  replace s_r_90 := (s_r_90.resolve_right (fun h => absurd (ic_91.symm.trans h.1) (by decide))).2
                  refine lv_bipush (v := (-7)) hx hb dX9_paste_91 (by decide) ?_
                  have zr : Int32.toInt (-7) = (-7) := by decide
                  have hWa : zSel r0_width.toInt r1_width.toInt r2_width.toInt r3_width.toInt (Int32.toInt 2) = r2_width.toInt := by rw [zc_2]; exact zSel_2
                  have hSa : zSel r0_size.toInt r1_size.toInt r2_size.toInt r3_size.toInt (Int32.toInt 2) = r2_size.toInt := by rw [zc_2]; exact zSel_2
                  have hWb : zSel r0_width.toInt r1_width.toInt r2_width.toInt r3_width.toInt (Int32.toInt 0) = r0_width.toInt := by rw [zc_0]; exact zSel_0
                  have hSb : zSel r0_size.toInt r1_size.toInt r2_size.toInt r3_size.toInt (Int32.toInt 0) = r0_size.toInt := by rw [zc_0]; exact zSel_0
                  have hsp : zPa (zSel r0_width.toInt r1_width.toInt r2_width.toInt r3_width.toInt) (zSel r0_size.toInt r1_size.toInt r2_size.toInt r3_size.toInt) (Int32.toInt 2) (p2.toInt) (Int32.toInt 0) (p4.toInt) (p5.toInt) (Int32.toInt (-7)) := zPa.at (by first | with_reducible assumption | omega) hWa hWb hSa hSb (Or.inr (Or.inr (Or.inl ⟨zr, by omega, by omega, by omega, by omega⟩)))
                  have zc : Int32.toInt (-7) = (-7) := by decide
                  exact W.iret (v := (-7)) hx hb hr (fun t ht hW => by rw [← hQe]; exact ⟨⟨(-7), (), rfl, ⟨by omega, by assumption⟩, ⟨f_r0_numbers, f_r1_numbers, f_r2_numbers, f_r3_numbers, z_ret hP hK hD ht hW [0, 1, 8, 2, 3, 4, 9, 5, 6, 7] [] rfl (by decide) rfl⟩⟩, hS.F ht⟩) hS.2.2 dX9_paste_93
                · have ic_91 := zz_neq rfl (show Int32.toInt 0 = 0 from by decide) c_91
                  replace s_r_90 := (s_r_90.resolve_left (fun h => ic_91 h.1)).2
                  refine lv_aload hx hb dX9_paste_79 (lv_at hl 0 rfl) ?_
                  refine lv_iload hx hb dX9_paste_81 (lv_at hl 6 rfl) ?_
                  refine lv_iload hx hb dX9_paste_83 (lv_at hl 7 rfl) ?_
                  obtain ⟨hPc, hDc, hFc⟩ := z_cut (wc := (zV6 r0 r0_width r0_size r0_numbers)) hP hD hS hA [8] rfl (by decide +kernel)
                  have hKc := hK.sub (tys' := []) [] rfl
                  refine va_calli (va_runV (As := [.int p4, .int p5]) (rest := []) ⟨hx, hb, hml, hown, hts⟩ (k_X6_hasSpan_v1 l sa dC dI r0 p4 p5 r0_width r0_size r0_numbers b_r0_size H.size) (cwV 2 hts (z_gV zw_t6_80 zw_t6_81 zw_t6_82 zw_t1_10 zw_t6_83) rfl rfl rfl (by decide +kernel) (by rw [← hRe]; exact ⟨(Nat.le_of_ble_eq_true rfl), (Nat.le_of_ble_eq_true rfl)⟩)) (z_preV hPc hKc hDc hN hXs hS hFc (q := (RX6, TX6, 3)) (ci := 6) (q0 := 0) rfl rfl) rfl rfl hl.1 rfl (lv_room (Nat.le_of_ble_eq_true rfl)) dX9_paste_85 (by rw [← hRe]; exact ⟨(Nat.le_of_ble_eq_true rfl), (Nat.le_of_ble_eq_true rfl)⟩)) hS (fun q _ h => hFc q h) hFc (fun r_92 u t H1 locs ht hvm hw hB hz1 hk1 hS => ?_)
                  obtain ⟨hP, hD, hK⟩ := z_after3 (wn := (zV391 h0 tp h0_tapeLength h0_faultKind h0_faultPlace nw im sl rd wk fm mt ch dy sl cA_sl f_sl r0_numbers cA_r0_numbers f_r0_numbers r1 r1_width r1_size r1_numbers r1_numbers cA_r1_numbers f_r1_numbers r2_numbers cA_r2_numbers f_r2_numbers r3 r3_width r3_size r3_numbers r3_numbers cA_r3_numbers f_r3_numbers r2 r2_width r2_size r2_numbers r0 r0_width r0_size r0_numbers)) hB ht hvm hP hD hK [8] [0, 1, 2, 3, 4, 5, 6, 7, 9] rfl 10 rfl (by decide +kernel) rfl (by decide +kernel) hk1 hFc
                  generalize H1 = H at hP hS ⊢
                  have hK : va_K (dC, dI) vwCl [(cA_sl, .object RX6), (cA_r0_numbers, .long), (cA_r1_numbers, .long), (cA_r2_numbers, .long), (cA_r3_numbers, .long)] s := hK
                  have b_r_92 : 0 ≤ r_92.toInt ∧ r_92.toInt ≤ 1 := hw.1
                  have s_r_92 := hw.2
                  refine lv_if_ne (tgt := 94) hx hb dX9_paste_88 (by decide) (fun c_93 => ?_) (fun c_93 => ?_)
                  · have ic_93 := zz_ne rfl (show Int32.toInt 0 = 0 from by decide) c_93
                    replace s_r_92 := (s_r_92.resolve_left (fun h => ic_93 h.1)).2
                    refine lv_aload hx hb dX9_paste_94 (lv_at hl 1 rfl) ?_
                    refine va_get (D := (dC, dI)) (ci := 6) (v := .ref r2_numbers) (C := RX6) (T := TX6) (N := 3) hx hb hts zl_X6 hown hK hP 8 rfl rfl 2 (by decide) (hts _ zw_t2_181) (fun _ h9 => h9) rfl dX9_paste_96 ?_
                    refine lv_iload_n hx hb dX9_paste_99 rfl (lv_at hl 4 rfl) ?_
                    refine lv_aload hx hb dX9_paste_100 (lv_at hl 0 rfl) ?_
                    refine va_get (D := (dC, dI)) (ci := 6) (v := .ref r0_numbers) (C := RX6) (T := TX6) (N := 3) hx hb hts zl_X6 hown hK hP 9 rfl rfl 2 (by decide) (hts _ zw_t2_181) (fun _ h9 => h9) rfl dX9_paste_102 ?_
                    refine lv_iload hx hb dX9_paste_105 (lv_at hl 6 rfl) ?_
                    refine lv_iload hx hb dX9_paste_107 (lv_at hl 7 rfl) ?_
                    have kc_p2 := zi_clamp (x := p2) rfl (by first | with_reducible assumption | omega)
                    have kc_p4 := zi_clamp (x := p4) rfl (by first | with_reducible assumption | omega)
                    have kc_p5 := zi_clamp (x := p5) rfl (by first | with_reducible assumption | omega)
                    refine va_copyl hx hb (by rw [hml]; exact hl.1.symm) hown (hts _ zw_t6_92) (hts _ zw_t4_39) (hts _ zw_t4_38) (hts _ zw_t1_18) hK hP hD hS 5 2 3 1 rfl rfl rfl rfl rfl (fun q => absurd (z_lt (k := 0) (by decide) q) (by first | with_reducible assumption | omega)) (fun q => absurd (z_lt (k := 0) (by decide) q) (by first | with_reducible assumption | omega)) (fun q => absurd (z_lt (k := 0) (by decide) q) (by first | with_reducible assumption | omega)) (by first | with_reducible assumption | omega) (by first | with_reducible assumption | omega) (fun _ _ => rfl) (by rw [← hRe]; exact (Nat.le_of_ble_eq_true rfl)) (by rw [← hRe]; exact (Nat.le_of_ble_eq_true rfl)) dX9_paste_109 (fun H locs hP hD hS => ?_)
                    obtain ⟨f_94, ef_94⟩ : ∃ g : Nat → Int64, g = va_cpy f_r2_numbers f_r0_numbers (Int32.toNatClampNeg p2) (Int32.toNatClampNeg p4) (Int32.toNatClampNeg p5) := ⟨_, rfl⟩
                    have hP : va_P (dC, dI) vwCl (zV391 h0 tp h0_tapeLength h0_faultKind h0_faultPlace nw im sl rd wk fm mt ch dy sl cA_sl f_sl r0_numbers cA_r0_numbers (va_cpy f_r2_numbers f_r0_numbers (Int32.toNatClampNeg p2) (Int32.toNatClampNeg p4) (Int32.toNatClampNeg p5)) r1 r1_width r1_size r1_numbers r1_numbers cA_r1_numbers f_r1_numbers r2_numbers cA_r2_numbers f_r2_numbers r3 r3_width r3_size r3_numbers r3_numbers cA_r3_numbers f_r3_numbers r2 r2_width r2_size r2_numbers r0 r0_width r0_size r0_numbers) H := hP
                    have hD : va_D A (zV391 h0 tp h0_tapeLength h0_faultKind h0_faultPlace nw im sl rd wk fm mt ch dy sl cA_sl f_sl r0_numbers cA_r0_numbers (va_cpy f_r2_numbers f_r0_numbers (Int32.toNatClampNeg p2) (Int32.toNatClampNeg p4) (Int32.toNatClampNeg p5)) r1 r1_width r1_size r1_numbers r1_numbers cA_r1_numbers f_r1_numbers r2_numbers cA_r2_numbers f_r2_numbers r3 r3_width r3_size r3_numbers r3_numbers cA_r3_numbers f_r3_numbers r2 r2_width r2_size r2_numbers r0 r0_width r0_size r0_numbers) := hD
                    rw [← ef_94] at hP hD
                    refine lv_iconst (v := 0) hx hb dX9_paste_112 (by decide) ?_
                    have zr : Int32.toInt 0 = 0 := by decide
                    have hWa : zSel r0_width.toInt r1_width.toInt r2_width.toInt r3_width.toInt (Int32.toInt 2) = r2_width.toInt := by rw [zc_2]; exact zSel_2
                    have hSa : zSel r0_size.toInt r1_size.toInt r2_size.toInt r3_size.toInt (Int32.toInt 2) = r2_size.toInt := by rw [zc_2]; exact zSel_2
                    have hWb : zSel r0_width.toInt r1_width.toInt r2_width.toInt r3_width.toInt (Int32.toInt 0) = r0_width.toInt := by rw [zc_0]; exact zSel_0
                    have hSb : zSel r0_size.toInt r1_size.toInt r2_size.toInt r3_size.toInt (Int32.toInt 0) = r0_size.toInt := by rw [zc_0]; exact zSel_0
                    have hsp : zPa (zSel r0_width.toInt r1_width.toInt r2_width.toInt r3_width.toInt) (zSel r0_size.toInt r1_size.toInt r2_size.toInt r3_size.toInt) (Int32.toInt 2) (p2.toInt) (Int32.toInt 0) (p4.toInt) (p5.toInt) (Int32.toInt 0) := zPa.at (by first | with_reducible assumption | omega) hWa hWb hSa hSb (Or.inr (Or.inr (Or.inr ⟨zr, by omega, by omega, by omega, by omega, by omega, by omega, by omega, by omega⟩)))
                    have zc : Int32.toInt 0 = 0 := by decide
                    exact W.iret (v := 0) hx hb hr (fun t ht hW => by rw [← hQe]; exact ⟨⟨0, (), rfl, ⟨by omega, by assumption⟩, ⟨f_94, f_r1_numbers, f_r2_numbers, f_r3_numbers, z_ret hP hK hD ht hW [0, 1, 9, 2, 3, 4, 8, 5, 6, 7] [] rfl (by decide) rfl⟩⟩, hS.F ht⟩) hS.2.2 dX9_paste_113
                  · have ic_93 := zz_nne rfl (show Int32.toInt 0 = 0 from by decide) c_93
                    replace s_r_92 := (s_r_92.resolve_right (fun h => absurd (ic_93.symm.trans h.1) (by decide))).2
                    refine lv_bipush (v := (-7)) hx hb dX9_paste_91 (by decide) ?_
                    have zr : Int32.toInt (-7) = (-7) := by decide
                    have hWa : zSel r0_width.toInt r1_width.toInt r2_width.toInt r3_width.toInt (Int32.toInt 2) = r2_width.toInt := by rw [zc_2]; exact zSel_2
                    have hSa : zSel r0_size.toInt r1_size.toInt r2_size.toInt r3_size.toInt (Int32.toInt 2) = r2_size.toInt := by rw [zc_2]; exact zSel_2
                    have hWb : zSel r0_width.toInt r1_width.toInt r2_width.toInt r3_width.toInt (Int32.toInt 0) = r0_width.toInt := by rw [zc_0]; exact zSel_0
                    have hSb : zSel r0_size.toInt r1_size.toInt r2_size.toInt r3_size.toInt (Int32.toInt 0) = r0_size.toInt := by rw [zc_0]; exact zSel_0
                    have hsp : zPa (zSel r0_width.toInt r1_width.toInt r2_width.toInt r3_width.toInt) (zSel r0_size.toInt r1_size.toInt r2_size.toInt r3_size.toInt) (Int32.toInt 2) (p2.toInt) (Int32.toInt 0) (p4.toInt) (p5.toInt) (Int32.toInt (-7)) := zPa.at (by first | with_reducible assumption | omega) hWa hWb hSa hSb (Or.inr (Or.inr (Or.inl ⟨zr, by omega, by omega, by omega, by omega⟩)))
                    have zc : Int32.toInt (-7) = (-7) := by decide
                    exact W.iret (v := (-7)) hx hb hr (fun t ht hW => by rw [← hQe]; exact ⟨⟨(-7), (), rfl, ⟨by omega, by assumption⟩, ⟨f_r0_numbers, f_r1_numbers, f_r2_numbers, f_r3_numbers, z_ret hP hK hD ht hW [0, 1, 9, 2, 3, 4, 8, 5, 6, 7] [] rfl (by decide) rfl⟩⟩, hS.F ht⟩) hS.2.2 dX9_paste_93
              · have ic_89 := zz_neq rfl rfl c_89
                refine lv_bipush (v := (-8)) hx hb dX9_paste_65 (by decide) ?_
                have zr : Int32.toInt (-8) = (-8) := by decide
                have hWa : zSel r0_width.toInt r1_width.toInt r2_width.toInt r3_width.toInt (Int32.toInt 2) = r2_width.toInt := by rw [zc_2]; exact zSel_2
                have hSa : zSel r0_size.toInt r1_size.toInt r2_size.toInt r3_size.toInt (Int32.toInt 2) = r2_size.toInt := by rw [zc_2]; exact zSel_2
                have hWb : zSel r0_width.toInt r1_width.toInt r2_width.toInt r3_width.toInt (Int32.toInt 0) = r0_width.toInt := by rw [zc_0]; exact zSel_0
                have hSb : zSel r0_size.toInt r1_size.toInt r2_size.toInt r3_size.toInt (Int32.toInt 0) = r0_size.toInt := by rw [zc_0]; exact zSel_0
                have hsp : zPa (zSel r0_width.toInt r1_width.toInt r2_width.toInt r3_width.toInt) (zSel r0_size.toInt r1_size.toInt r2_size.toInt r3_size.toInt) (Int32.toInt 2) (p2.toInt) (Int32.toInt 0) (p4.toInt) (p5.toInt) (Int32.toInt (-8)) := zPa.at (by first | with_reducible assumption | omega) hWa hWb hSa hSb (Or.inr (Or.inl ⟨zr, by omega, by omega, by omega⟩))
                have zc : Int32.toInt (-8) = (-8) := by decide
                exact W.iret (v := (-8)) hx hb hr (fun t ht hW => by rw [← hQe]; exact ⟨⟨(-8), (), rfl, ⟨by omega, by assumption⟩, ⟨f_r0_numbers, f_r1_numbers, f_r2_numbers, f_r3_numbers, z_ret hP hK hD ht hW [0, 1, 9, 2, 3, 4, 8, 5, 6, 7] [] rfl (by decide) rfl⟩⟩, hS.F ht⟩) hS.2.2 dX9_paste_67
            · have ic_88 := zz_nne rfl (show Int32.toInt 0 = 0 from by decide) c_88
              replace s_r_87 := (s_r_87.resolve_right (fun h => absurd (ic_88.symm.trans h.1) (by decide))).2
              refine lv_bipush (v := (-6)) hx hb dX9_paste_49 (by decide) ?_
              have zr : Int32.toInt (-6) = (-6) := by decide
              have hWa : zSel r0_width.toInt r1_width.toInt r2_width.toInt r3_width.toInt (Int32.toInt 2) = r2_width.toInt := by rw [zc_2]; exact zSel_2
              have hSa : zSel r0_size.toInt r1_size.toInt r2_size.toInt r3_size.toInt (Int32.toInt 2) = r2_size.toInt := by rw [zc_2]; exact zSel_2
              have hWb : zSel r0_width.toInt r1_width.toInt r2_width.toInt r3_width.toInt (Int32.toInt 0) = r0_width.toInt := by rw [zc_0]; exact zSel_0
              have hSb : zSel r0_size.toInt r1_size.toInt r2_size.toInt r3_size.toInt (Int32.toInt 0) = r0_size.toInt := by rw [zc_0]; exact zSel_0
              have hsp : zPa (zSel r0_width.toInt r1_width.toInt r2_width.toInt r3_width.toInt) (zSel r0_size.toInt r1_size.toInt r2_size.toInt r3_size.toInt) (Int32.toInt 2) (p2.toInt) (Int32.toInt 0) (p4.toInt) (p5.toInt) (Int32.toInt (-6)) := zPa.at (by first | with_reducible assumption | omega) hWa hWb hSa hSb (Or.inl ⟨zr, by omega⟩)
              have zc : Int32.toInt (-6) = (-6) := by decide
              exact W.iret (v := (-6)) hx hb hr (fun t ht hW => by rw [← hQe]; exact ⟨⟨(-6), (), rfl, ⟨by omega, by assumption⟩, ⟨f_r0_numbers, f_r1_numbers, f_r2_numbers, f_r3_numbers, z_ret hP hK hD ht hW [0, 1, 9, 2, 3, 4, 8, 5, 6, 7] [] rfl (by decide) rfl⟩⟩, hS.F ht⟩) hS.2.2 dX9_paste_51
        · have zc_1 : Int32.toInt 1 = 1 := by decide
          refine va_aldq hx hb hK hP 1 0 rfl rfl (zi_in (show Int32.toInt 1 = 1 from by decide) (by first | with_reducible assumption | omega)) dX9_paste_30 ?_
          refine W.eq (g2 := F0 m 31 ls (.ref r1 :: [])) (by rw [show f_sl (Int32.toNatClampNeg 1) = some r1 from (by rw [show Int32.toNatClampNeg 1 = 1 from by decide]; exact hsl1)]; rfl) ?_
          refine lv_astore (lv' := [(7, .ref r1), (6, .ref r2), (0, .ref h0), (1, .int 2), (2, .int p2), (3, .int 1), (4, .int p4), (5, .int p5)]) hx hb dX9_paste_31 hl (by decide) rfl (fun ls hl => ?_)
          refine lv_aload hx hb dX9_paste_33 (lv_at hl 1 rfl) ?_
          obtain ⟨hPc, hDc, hFc⟩ := z_cut (wc := (zV6 r2 r2_width r2_size r2_numbers)) hP hD hS hA [6] rfl (by decide +kernel)
          have hKc := hK.sub (tys' := []) [] rfl
          refine va_calli (va_runV (As := []) (rest := []) ⟨hx, hb, hml, hown, hts⟩ (k_X6_isThere_v1 l sa dC dI r2 r2_width r2_size r2_numbers b_r2_size H.size) (cwV 0 hts (z_gV zw_t5_222 zw_t5_223 zw_t5_224 zw_t1_10 zw_t5_225) rfl rfl rfl (by decide +kernel) (by rw [← hRe]; exact ⟨(Nat.le_of_ble_eq_true rfl), (Nat.le_of_ble_eq_true rfl)⟩)) (z_preV hPc hKc hDc hN hXs hS hFc (q := (RX6, TX6, 3)) (ci := 6) (q0 := 0) rfl rfl) rfl rfl hl.1 rfl (lv_room (Nat.le_of_ble_eq_true rfl)) dX9_paste_35 (by rw [← hRe]; exact ⟨(Nat.le_of_ble_eq_true rfl), (Nat.le_of_ble_eq_true rfl)⟩)) hS (fun q _ h => hFc q h) hFc (fun r_95 u t H1 locs ht hvm hw hB hz1 hk1 hS => ?_)
          obtain ⟨hP, hD, hK⟩ := z_after3 (wn := (zV169 h0 tp h0_tapeLength h0_faultKind h0_faultPlace nw im sl rd wk fm mt ch dy sl cA_sl f_sl r0 r0_width r0_size r0_numbers r0_numbers cA_r0_numbers f_r0_numbers r1 r1_width r1_size r1_numbers r1_numbers cA_r1_numbers f_r1_numbers r2_numbers cA_r2_numbers f_r2_numbers r3 r3_width r3_size r3_numbers r3_numbers cA_r3_numbers f_r3_numbers r2 r2_width r2_size r2_numbers)) hB ht hvm hP hD hK [6] [0, 1, 2, 3, 4, 5, 7, 8, 9] rfl 10 rfl (by decide +kernel) rfl (by decide +kernel) hk1 hFc
          generalize H1 = H at hP hS ⊢
          have hK : va_K (dC, dI) vwCl [(cA_sl, .object RX6), (cA_r0_numbers, .long), (cA_r1_numbers, .long), (cA_r2_numbers, .long), (cA_r3_numbers, .long)] s := hK
          have b_r_95 : 0 ≤ r_95.toInt ∧ r_95.toInt ≤ 1 := hw.1
          have s_r_95 := hw.2
          refine lv_if_eq (tgt := 49) hx hb dX9_paste_38 (by decide) (fun c_96 => ?_) (fun c_96 => ?_)
          · have ic_96 := zz_eq rfl (show Int32.toInt 0 = 0 from by decide) c_96
            replace s_r_95 := (s_r_95.resolve_right (fun h => absurd (ic_96.symm.trans h.1) (by decide))).2
            refine lv_bipush (v := (-6)) hx hb dX9_paste_49 (by decide) ?_
            have zr : Int32.toInt (-6) = (-6) := by decide
            have hWa : zSel r0_width.toInt r1_width.toInt r2_width.toInt r3_width.toInt (Int32.toInt 2) = r2_width.toInt := by rw [zc_2]; exact zSel_2
            have hSa : zSel r0_size.toInt r1_size.toInt r2_size.toInt r3_size.toInt (Int32.toInt 2) = r2_size.toInt := by rw [zc_2]; exact zSel_2
            have hWb : zSel r0_width.toInt r1_width.toInt r2_width.toInt r3_width.toInt (Int32.toInt 1) = r1_width.toInt := by rw [zc_1]; exact zSel_1
            have hSb : zSel r0_size.toInt r1_size.toInt r2_size.toInt r3_size.toInt (Int32.toInt 1) = r1_size.toInt := by rw [zc_1]; exact zSel_1
            have hsp : zPa (zSel r0_width.toInt r1_width.toInt r2_width.toInt r3_width.toInt) (zSel r0_size.toInt r1_size.toInt r2_size.toInt r3_size.toInt) (Int32.toInt 2) (p2.toInt) (Int32.toInt 1) (p4.toInt) (p5.toInt) (Int32.toInt (-6)) := zPa.at (by first | with_reducible assumption | omega) hWa hWb hSa hSb (Or.inl ⟨zr, by omega⟩)
            have zc : Int32.toInt (-6) = (-6) := by decide
            exact W.iret (v := (-6)) hx hb hr (fun t ht hW => by rw [← hQe]; exact ⟨⟨(-6), (), rfl, ⟨by omega, by assumption⟩, ⟨f_r0_numbers, f_r1_numbers, f_r2_numbers, f_r3_numbers, z_ret hP hK hD ht hW [0, 1, 2, 3, 4, 5, 9, 6, 7, 8] [] rfl (by decide) rfl⟩⟩, hS.F ht⟩) hS.2.2 dX9_paste_51
          · have ic_96 := zz_neq rfl (show Int32.toInt 0 = 0 from by decide) c_96
            replace s_r_95 := (s_r_95.resolve_left (fun h => ic_96 h.1)).2
            refine lv_aload hx hb dX9_paste_41 (lv_at hl 0 rfl) ?_
            obtain ⟨hPc, hDc, hFc⟩ := z_cut (wc := (zV6 r1 r1_width r1_size r1_numbers)) hP hD hS hA [4] rfl (by decide +kernel)
            have hKc := hK.sub (tys' := []) [] rfl
            refine va_calli (va_runV (As := []) (rest := []) ⟨hx, hb, hml, hown, hts⟩ (k_X6_isThere_v1 l sa dC dI r1 r1_width r1_size r1_numbers b_r1_size H.size) (cwV 0 hts (z_gV zw_t5_222 zw_t5_223 zw_t5_224 zw_t1_10 zw_t5_225) rfl rfl rfl (by decide +kernel) (by rw [← hRe]; exact ⟨(Nat.le_of_ble_eq_true rfl), (Nat.le_of_ble_eq_true rfl)⟩)) (z_preV hPc hKc hDc hN hXs hS hFc (q := (RX6, TX6, 3)) (ci := 6) (q0 := 0) rfl rfl) rfl rfl hl.1 rfl (lv_room (Nat.le_of_ble_eq_true rfl)) dX9_paste_43 (by rw [← hRe]; exact ⟨(Nat.le_of_ble_eq_true rfl), (Nat.le_of_ble_eq_true rfl)⟩)) hS (fun q _ h => hFc q h) hFc (fun r_97 u t H1 locs ht hvm hw hB hz1 hk1 hS => ?_)
            obtain ⟨hP, hD, hK⟩ := z_after3 (wn := (zV393 h0 tp h0_tapeLength h0_faultKind h0_faultPlace nw im sl rd wk fm mt ch dy sl cA_sl f_sl r0 r0_width r0_size r0_numbers r0_numbers cA_r0_numbers f_r0_numbers r1_numbers cA_r1_numbers f_r1_numbers r2_numbers cA_r2_numbers f_r2_numbers r3 r3_width r3_size r3_numbers r3_numbers cA_r3_numbers f_r3_numbers r2 r2_width r2_size r2_numbers r1 r1_width r1_size r1_numbers)) hB ht hvm hP hD hK [4] [0, 1, 2, 3, 5, 6, 7, 8, 9] rfl 10 rfl (by decide +kernel) rfl (by decide +kernel) hk1 hFc
            generalize H1 = H at hP hS ⊢
            have hK : va_K (dC, dI) vwCl [(cA_sl, .object RX6), (cA_r0_numbers, .long), (cA_r1_numbers, .long), (cA_r2_numbers, .long), (cA_r3_numbers, .long)] s := hK
            have b_r_97 : 0 ≤ r_97.toInt ∧ r_97.toInt ≤ 1 := hw.1
            have s_r_97 := hw.2
            refine lv_if_ne (tgt := 52) hx hb dX9_paste_46 (by decide) (fun c_98 => ?_) (fun c_98 => ?_)
            · have ic_98 := zz_ne rfl (show Int32.toInt 0 = 0 from by decide) c_98
              replace s_r_97 := (s_r_97.resolve_left (fun h => ic_98 h.1)).2
              refine lv_aload hx hb dX9_paste_52 (lv_at hl 1 rfl) ?_
              refine va_get (D := (dC, dI)) (ci := 6) (v := .int r2_width) (C := RX6) (T := TX6) (N := 3) hx hb hts zl_X6 hown hK hP 8 rfl rfl 0 (by decide) (hts _ zw_t2_176) (fun _ h9 => h9) rfl dX9_paste_54 ?_
              refine lv_aload hx hb dX9_paste_57 (lv_at hl 0 rfl) ?_
              refine va_get (D := (dC, dI)) (ci := 6) (v := .int r1_width) (C := RX6) (T := TX6) (N := 3) hx hb hts zl_X6 hown hK hP 9 rfl rfl 0 (by decide) (hts _ zw_t2_176) (fun _ h9 => h9) rfl dX9_paste_59 ?_
              have nb_r2_width := zi_nb r2_width
              have nb_r1_width := zi_nb r1_width
              refine lv_icmp_eq (tgt := 68) hx hb dX9_paste_62 (by decide) (fun c_99 => ?_) (fun c_99 => ?_)
              · have ic_99 := zz_eq rfl rfl c_99
                refine lv_aload hx hb dX9_paste_68 (lv_at hl 1 rfl) ?_
                refine lv_iload_n hx hb dX9_paste_70 rfl (lv_at hl 4 rfl) ?_
                refine lv_iload hx hb dX9_paste_71 (lv_at hl 7 rfl) ?_
                obtain ⟨hPc, hDc, hFc⟩ := z_cut (wc := (zV6 r2 r2_width r2_size r2_numbers)) hP hD hS hA [8] rfl (by decide +kernel)
                have hKc := hK.sub (tys' := []) [] rfl
                refine va_calli (va_runV (As := [.int p2, .int p5]) (rest := []) ⟨hx, hb, hml, hown, hts⟩ (k_X6_hasSpan_v1 l sa dC dI r2 p2 p5 r2_width r2_size r2_numbers b_r2_size H.size) (cwV 2 hts (z_gV zw_t6_80 zw_t6_81 zw_t6_82 zw_t1_10 zw_t6_83) rfl rfl rfl (by decide +kernel) (by rw [← hRe]; exact ⟨(Nat.le_of_ble_eq_true rfl), (Nat.le_of_ble_eq_true rfl)⟩)) (z_preV hPc hKc hDc hN hXs hS hFc (q := (RX6, TX6, 3)) (ci := 6) (q0 := 0) rfl rfl) rfl rfl hl.1 rfl (lv_room (Nat.le_of_ble_eq_true rfl)) dX9_paste_73 (by rw [← hRe]; exact ⟨(Nat.le_of_ble_eq_true rfl), (Nat.le_of_ble_eq_true rfl)⟩)) hS (fun q _ h => hFc q h) hFc (fun r_100 u t H1 locs ht hvm hw hB hz1 hk1 hS => ?_)
                obtain ⟨hP, hD, hK⟩ := z_after3 (wn := (zV393 h0 tp h0_tapeLength h0_faultKind h0_faultPlace nw im sl rd wk fm mt ch dy sl cA_sl f_sl r0 r0_width r0_size r0_numbers r0_numbers cA_r0_numbers f_r0_numbers r1_numbers cA_r1_numbers f_r1_numbers r2_numbers cA_r2_numbers f_r2_numbers r3 r3_width r3_size r3_numbers r3_numbers cA_r3_numbers f_r3_numbers r1 r1_width r1_size r1_numbers r2 r2_width r2_size r2_numbers)) hB ht hvm hP hD hK [8] [0, 1, 2, 3, 4, 5, 6, 7, 9] rfl 10 rfl (by decide +kernel) rfl (by decide +kernel) hk1 hFc
                generalize H1 = H at hP hS ⊢
                have hK : va_K (dC, dI) vwCl [(cA_sl, .object RX6), (cA_r0_numbers, .long), (cA_r1_numbers, .long), (cA_r2_numbers, .long), (cA_r3_numbers, .long)] s := hK
                have b_r_100 : 0 ≤ r_100.toInt ∧ r_100.toInt ≤ 1 := hw.1
                have s_r_100 := hw.2
                refine lv_if_eq (tgt := 91) hx hb dX9_paste_76 (by decide) (fun c_101 => ?_) (fun c_101 => ?_)
                · have ic_101 := zz_eq rfl (show Int32.toInt 0 = 0 from by decide) c_101
                  replace s_r_100 := (s_r_100.resolve_right (fun h => absurd (ic_101.symm.trans h.1) (by decide))).2
                  refine lv_bipush (v := (-7)) hx hb dX9_paste_91 (by decide) ?_
                  have zr : Int32.toInt (-7) = (-7) := by decide
                  have hWa : zSel r0_width.toInt r1_width.toInt r2_width.toInt r3_width.toInt (Int32.toInt 2) = r2_width.toInt := by rw [zc_2]; exact zSel_2
                  have hSa : zSel r0_size.toInt r1_size.toInt r2_size.toInt r3_size.toInt (Int32.toInt 2) = r2_size.toInt := by rw [zc_2]; exact zSel_2
                  have hWb : zSel r0_width.toInt r1_width.toInt r2_width.toInt r3_width.toInt (Int32.toInt 1) = r1_width.toInt := by rw [zc_1]; exact zSel_1
                  have hSb : zSel r0_size.toInt r1_size.toInt r2_size.toInt r3_size.toInt (Int32.toInt 1) = r1_size.toInt := by rw [zc_1]; exact zSel_1
                  have hsp : zPa (zSel r0_width.toInt r1_width.toInt r2_width.toInt r3_width.toInt) (zSel r0_size.toInt r1_size.toInt r2_size.toInt r3_size.toInt) (Int32.toInt 2) (p2.toInt) (Int32.toInt 1) (p4.toInt) (p5.toInt) (Int32.toInt (-7)) := zPa.at (by first | with_reducible assumption | omega) hWa hWb hSa hSb (Or.inr (Or.inr (Or.inl ⟨zr, by omega, by omega, by omega, by omega⟩)))
                  have zc : Int32.toInt (-7) = (-7) := by decide
                  exact W.iret (v := (-7)) hx hb hr (fun t ht hW => by rw [← hQe]; exact ⟨⟨(-7), (), rfl, ⟨by omega, by assumption⟩, ⟨f_r0_numbers, f_r1_numbers, f_r2_numbers, f_r3_numbers, z_ret hP hK hD ht hW [0, 1, 2, 3, 8, 4, 9, 5, 6, 7] [] rfl (by decide) rfl⟩⟩, hS.F ht⟩) hS.2.2 dX9_paste_93
                · have ic_101 := zz_neq rfl (show Int32.toInt 0 = 0 from by decide) c_101
                  replace s_r_100 := (s_r_100.resolve_left (fun h => ic_101 h.1)).2
                  refine lv_aload hx hb dX9_paste_79 (lv_at hl 0 rfl) ?_
                  refine lv_iload hx hb dX9_paste_81 (lv_at hl 6 rfl) ?_
                  refine lv_iload hx hb dX9_paste_83 (lv_at hl 7 rfl) ?_
                  obtain ⟨hPc, hDc, hFc⟩ := z_cut (wc := (zV6 r1 r1_width r1_size r1_numbers)) hP hD hS hA [8] rfl (by decide +kernel)
                  have hKc := hK.sub (tys' := []) [] rfl
                  refine va_calli (va_runV (As := [.int p4, .int p5]) (rest := []) ⟨hx, hb, hml, hown, hts⟩ (k_X6_hasSpan_v1 l sa dC dI r1 p4 p5 r1_width r1_size r1_numbers b_r1_size H.size) (cwV 2 hts (z_gV zw_t6_80 zw_t6_81 zw_t6_82 zw_t1_10 zw_t6_83) rfl rfl rfl (by decide +kernel) (by rw [← hRe]; exact ⟨(Nat.le_of_ble_eq_true rfl), (Nat.le_of_ble_eq_true rfl)⟩)) (z_preV hPc hKc hDc hN hXs hS hFc (q := (RX6, TX6, 3)) (ci := 6) (q0 := 0) rfl rfl) rfl rfl hl.1 rfl (lv_room (Nat.le_of_ble_eq_true rfl)) dX9_paste_85 (by rw [← hRe]; exact ⟨(Nat.le_of_ble_eq_true rfl), (Nat.le_of_ble_eq_true rfl)⟩)) hS (fun q _ h => hFc q h) hFc (fun r_102 u t H1 locs ht hvm hw hB hz1 hk1 hS => ?_)
                  obtain ⟨hP, hD, hK⟩ := z_after3 (wn := (zV393 h0 tp h0_tapeLength h0_faultKind h0_faultPlace nw im sl rd wk fm mt ch dy sl cA_sl f_sl r0 r0_width r0_size r0_numbers r0_numbers cA_r0_numbers f_r0_numbers r1_numbers cA_r1_numbers f_r1_numbers r2_numbers cA_r2_numbers f_r2_numbers r3 r3_width r3_size r3_numbers r3_numbers cA_r3_numbers f_r3_numbers r2 r2_width r2_size r2_numbers r1 r1_width r1_size r1_numbers)) hB ht hvm hP hD hK [8] [0, 1, 2, 3, 4, 5, 6, 7, 9] rfl 10 rfl (by decide +kernel) rfl (by decide +kernel) hk1 hFc
                  generalize H1 = H at hP hS ⊢
                  have hK : va_K (dC, dI) vwCl [(cA_sl, .object RX6), (cA_r0_numbers, .long), (cA_r1_numbers, .long), (cA_r2_numbers, .long), (cA_r3_numbers, .long)] s := hK
                  have b_r_102 : 0 ≤ r_102.toInt ∧ r_102.toInt ≤ 1 := hw.1
                  have s_r_102 := hw.2
                  refine lv_if_ne (tgt := 94) hx hb dX9_paste_88 (by decide) (fun c_103 => ?_) (fun c_103 => ?_)
                  · have ic_103 := zz_ne rfl (show Int32.toInt 0 = 0 from by decide) c_103
                    replace s_r_102 := (s_r_102.resolve_left (fun h => ic_103 h.1)).2
                    refine lv_aload hx hb dX9_paste_94 (lv_at hl 1 rfl) ?_
                    refine va_get (D := (dC, dI)) (ci := 6) (v := .ref r2_numbers) (C := RX6) (T := TX6) (N := 3) hx hb hts zl_X6 hown hK hP 8 rfl rfl 2 (by decide) (hts _ zw_t2_181) (fun _ h9 => h9) rfl dX9_paste_96 ?_
                    refine lv_iload_n hx hb dX9_paste_99 rfl (lv_at hl 4 rfl) ?_
                    refine lv_aload hx hb dX9_paste_100 (lv_at hl 0 rfl) ?_
                    refine va_get (D := (dC, dI)) (ci := 6) (v := .ref r1_numbers) (C := RX6) (T := TX6) (N := 3) hx hb hts zl_X6 hown hK hP 9 rfl rfl 2 (by decide) (hts _ zw_t2_181) (fun _ h9 => h9) rfl dX9_paste_102 ?_
                    refine lv_iload hx hb dX9_paste_105 (lv_at hl 6 rfl) ?_
                    refine lv_iload hx hb dX9_paste_107 (lv_at hl 7 rfl) ?_
                    have kc_p2 := zi_clamp (x := p2) rfl (by first | with_reducible assumption | omega)
                    have kc_p4 := zi_clamp (x := p4) rfl (by first | with_reducible assumption | omega)
                    have kc_p5 := zi_clamp (x := p5) rfl (by first | with_reducible assumption | omega)
                    refine va_copyl hx hb (by rw [hml]; exact hl.1.symm) hown (hts _ zw_t6_92) (hts _ zw_t4_39) (hts _ zw_t4_38) (hts _ zw_t1_18) hK hP hD hS 5 4 3 2 rfl rfl rfl rfl rfl (fun q => absurd (z_lt (k := 0) (by decide) q) (by first | with_reducible assumption | omega)) (fun q => absurd (z_lt (k := 0) (by decide) q) (by first | with_reducible assumption | omega)) (fun q => absurd (z_lt (k := 0) (by decide) q) (by first | with_reducible assumption | omega)) (by first | with_reducible assumption | omega) (by first | with_reducible assumption | omega) (fun _ _ => rfl) (by rw [← hRe]; exact (Nat.le_of_ble_eq_true rfl)) (by rw [← hRe]; exact (Nat.le_of_ble_eq_true rfl)) dX9_paste_109 (fun H locs hP hD hS => ?_)
                    obtain ⟨f_104, ef_104⟩ : ∃ g : Nat → Int64, g = va_cpy f_r2_numbers f_r1_numbers (Int32.toNatClampNeg p2) (Int32.toNatClampNeg p4) (Int32.toNatClampNeg p5) := ⟨_, rfl⟩
                    have hP : va_P (dC, dI) vwCl (zV393 h0 tp h0_tapeLength h0_faultKind h0_faultPlace nw im sl rd wk fm mt ch dy sl cA_sl f_sl r0 r0_width r0_size r0_numbers r0_numbers cA_r0_numbers f_r0_numbers r1_numbers cA_r1_numbers (va_cpy f_r2_numbers f_r1_numbers (Int32.toNatClampNeg p2) (Int32.toNatClampNeg p4) (Int32.toNatClampNeg p5)) r2_numbers cA_r2_numbers f_r2_numbers r3 r3_width r3_size r3_numbers r3_numbers cA_r3_numbers f_r3_numbers r2 r2_width r2_size r2_numbers r1 r1_width r1_size r1_numbers) H := hP
                    have hD : va_D A (zV393 h0 tp h0_tapeLength h0_faultKind h0_faultPlace nw im sl rd wk fm mt ch dy sl cA_sl f_sl r0 r0_width r0_size r0_numbers r0_numbers cA_r0_numbers f_r0_numbers r1_numbers cA_r1_numbers (va_cpy f_r2_numbers f_r1_numbers (Int32.toNatClampNeg p2) (Int32.toNatClampNeg p4) (Int32.toNatClampNeg p5)) r2_numbers cA_r2_numbers f_r2_numbers r3 r3_width r3_size r3_numbers r3_numbers cA_r3_numbers f_r3_numbers r2 r2_width r2_size r2_numbers r1 r1_width r1_size r1_numbers) := hD
                    rw [← ef_104] at hP hD
                    refine lv_iconst (v := 0) hx hb dX9_paste_112 (by decide) ?_
                    have zr : Int32.toInt 0 = 0 := by decide
                    have hWa : zSel r0_width.toInt r1_width.toInt r2_width.toInt r3_width.toInt (Int32.toInt 2) = r2_width.toInt := by rw [zc_2]; exact zSel_2
                    have hSa : zSel r0_size.toInt r1_size.toInt r2_size.toInt r3_size.toInt (Int32.toInt 2) = r2_size.toInt := by rw [zc_2]; exact zSel_2
                    have hWb : zSel r0_width.toInt r1_width.toInt r2_width.toInt r3_width.toInt (Int32.toInt 1) = r1_width.toInt := by rw [zc_1]; exact zSel_1
                    have hSb : zSel r0_size.toInt r1_size.toInt r2_size.toInt r3_size.toInt (Int32.toInt 1) = r1_size.toInt := by rw [zc_1]; exact zSel_1
                    have hsp : zPa (zSel r0_width.toInt r1_width.toInt r2_width.toInt r3_width.toInt) (zSel r0_size.toInt r1_size.toInt r2_size.toInt r3_size.toInt) (Int32.toInt 2) (p2.toInt) (Int32.toInt 1) (p4.toInt) (p5.toInt) (Int32.toInt 0) := zPa.at (by first | with_reducible assumption | omega) hWa hWb hSa hSb (Or.inr (Or.inr (Or.inr ⟨zr, by omega, by omega, by omega, by omega, by omega, by omega, by omega, by omega⟩)))
                    have zc : Int32.toInt 0 = 0 := by decide
                    exact W.iret (v := 0) hx hb hr (fun t ht hW => by rw [← hQe]; exact ⟨⟨0, (), rfl, ⟨by omega, by assumption⟩, ⟨f_r0_numbers, f_104, f_r2_numbers, f_r3_numbers, z_ret hP hK hD ht hW [0, 1, 2, 3, 9, 4, 8, 5, 6, 7] [] rfl (by decide) rfl⟩⟩, hS.F ht⟩) hS.2.2 dX9_paste_113
                  · have ic_103 := zz_nne rfl (show Int32.toInt 0 = 0 from by decide) c_103
                    replace s_r_102 := (s_r_102.resolve_right (fun h => absurd (ic_103.symm.trans h.1) (by decide))).2
                    refine lv_bipush (v := (-7)) hx hb dX9_paste_91 (by decide) ?_
                    have zr : Int32.toInt (-7) = (-7) := by decide
                    have hWa : zSel r0_width.toInt r1_width.toInt r2_width.toInt r3_width.toInt (Int32.toInt 2) = r2_width.toInt := by rw [zc_2]; exact zSel_2
                    have hSa : zSel r0_size.toInt r1_size.toInt r2_size.toInt r3_size.toInt (Int32.toInt 2) = r2_size.toInt := by rw [zc_2]; exact zSel_2
                    have hWb : zSel r0_width.toInt r1_width.toInt r2_width.toInt r3_width.toInt (Int32.toInt 1) = r1_width.toInt := by rw [zc_1]; exact zSel_1
                    have hSb : zSel r0_size.toInt r1_size.toInt r2_size.toInt r3_size.toInt (Int32.toInt 1) = r1_size.toInt := by rw [zc_1]; exact zSel_1
                    have hsp : zPa (zSel r0_width.toInt r1_width.toInt r2_width.toInt r3_width.toInt) (zSel r0_size.toInt r1_size.toInt r2_size.toInt r3_size.toInt) (Int32.toInt 2) (p2.toInt) (Int32.toInt 1) (p4.toInt) (p5.toInt) (Int32.toInt (-7)) := zPa.at (by first | with_reducible assumption | omega) hWa hWb hSa hSb (Or.inr (Or.inr (Or.inl ⟨zr, by omega, by omega, by omega, by omega⟩)))
                    have zc : Int32.toInt (-7) = (-7) := by decide
                    exact W.iret (v := (-7)) hx hb hr (fun t ht hW => by rw [← hQe]; exact ⟨⟨(-7), (), rfl, ⟨by omega, by assumption⟩, ⟨f_r0_numbers, f_r1_numbers, f_r2_numbers, f_r3_numbers, z_ret hP hK hD ht hW [0, 1, 2, 3, 9, 4, 8, 5, 6, 7] [] rfl (by decide) rfl⟩⟩, hS.F ht⟩) hS.2.2 dX9_paste_93
              · have ic_99 := zz_neq rfl rfl c_99
                refine lv_bipush (v := (-8)) hx hb dX9_paste_65 (by decide) ?_
                have zr : Int32.toInt (-8) = (-8) := by decide
                have hWa : zSel r0_width.toInt r1_width.toInt r2_width.toInt r3_width.toInt (Int32.toInt 2) = r2_width.toInt := by rw [zc_2]; exact zSel_2
                have hSa : zSel r0_size.toInt r1_size.toInt r2_size.toInt r3_size.toInt (Int32.toInt 2) = r2_size.toInt := by rw [zc_2]; exact zSel_2
                have hWb : zSel r0_width.toInt r1_width.toInt r2_width.toInt r3_width.toInt (Int32.toInt 1) = r1_width.toInt := by rw [zc_1]; exact zSel_1
                have hSb : zSel r0_size.toInt r1_size.toInt r2_size.toInt r3_size.toInt (Int32.toInt 1) = r1_size.toInt := by rw [zc_1]; exact zSel_1
                have hsp : zPa (zSel r0_width.toInt r1_width.toInt r2_width.toInt r3_width.toInt) (zSel r0_size.toInt r1_size.toInt r2_size.toInt r3_size.toInt) (Int32.toInt 2) (p2.toInt) (Int32.toInt 1) (p4.toInt) (p5.toInt) (Int32.toInt (-8)) := zPa.at (by first | with_reducible assumption | omega) hWa hWb hSa hSb (Or.inr (Or.inl ⟨zr, by omega, by omega, by omega⟩))
                have zc : Int32.toInt (-8) = (-8) := by decide
                exact W.iret (v := (-8)) hx hb hr (fun t ht hW => by rw [← hQe]; exact ⟨⟨(-8), (), rfl, ⟨by omega, by assumption⟩, ⟨f_r0_numbers, f_r1_numbers, f_r2_numbers, f_r3_numbers, z_ret hP hK hD ht hW [0, 1, 2, 3, 9, 4, 8, 5, 6, 7] [] rfl (by decide) rfl⟩⟩, hS.F ht⟩) hS.2.2 dX9_paste_67
            · have ic_98 := zz_nne rfl (show Int32.toInt 0 = 0 from by decide) c_98
              replace s_r_97 := (s_r_97.resolve_right (fun h => absurd (ic_98.symm.trans h.1) (by decide))).2
              refine lv_bipush (v := (-6)) hx hb dX9_paste_49 (by decide) ?_
              have zr : Int32.toInt (-6) = (-6) := by decide
              have hWa : zSel r0_width.toInt r1_width.toInt r2_width.toInt r3_width.toInt (Int32.toInt 2) = r2_width.toInt := by rw [zc_2]; exact zSel_2
              have hSa : zSel r0_size.toInt r1_size.toInt r2_size.toInt r3_size.toInt (Int32.toInt 2) = r2_size.toInt := by rw [zc_2]; exact zSel_2
              have hWb : zSel r0_width.toInt r1_width.toInt r2_width.toInt r3_width.toInt (Int32.toInt 1) = r1_width.toInt := by rw [zc_1]; exact zSel_1
              have hSb : zSel r0_size.toInt r1_size.toInt r2_size.toInt r3_size.toInt (Int32.toInt 1) = r1_size.toInt := by rw [zc_1]; exact zSel_1
              have hsp : zPa (zSel r0_width.toInt r1_width.toInt r2_width.toInt r3_width.toInt) (zSel r0_size.toInt r1_size.toInt r2_size.toInt r3_size.toInt) (Int32.toInt 2) (p2.toInt) (Int32.toInt 1) (p4.toInt) (p5.toInt) (Int32.toInt (-6)) := zPa.at (by first | with_reducible assumption | omega) hWa hWb hSa hSb (Or.inl ⟨zr, by omega⟩)
              have zc : Int32.toInt (-6) = (-6) := by decide
              exact W.iret (v := (-6)) hx hb hr (fun t ht hW => by rw [← hQe]; exact ⟨⟨(-6), (), rfl, ⟨by omega, by assumption⟩, ⟨f_r0_numbers, f_r1_numbers, f_r2_numbers, f_r3_numbers, z_ret hP hK hD ht hW [0, 1, 2, 3, 9, 4, 8, 5, 6, 7] [] rfl (by decide) rfl⟩⟩, hS.F ht⟩) hS.2.2 dX9_paste_51
        · have zc_2 : Int32.toInt 2 = 2 := by decide
          refine va_aldq hx hb hK hP 1 0 rfl rfl (zi_in (show Int32.toInt 2 = 2 from by decide) (by first | with_reducible assumption | omega)) dX9_paste_30 ?_
          refine W.eq (g2 := F0 m 31 ls (.ref r2 :: [])) (by rw [show f_sl (Int32.toNatClampNeg 2) = some r2 from (by rw [show Int32.toNatClampNeg 2 = 2 from by decide]; exact hsl2)]; rfl) ?_
          refine lv_astore (lv' := [(7, .ref r2), (6, .ref r2), (0, .ref h0), (1, .int 2), (2, .int p2), (3, .int 2), (4, .int p4), (5, .int p5)]) hx hb dX9_paste_31 hl (by decide) rfl (fun ls hl => ?_)
          refine lv_aload hx hb dX9_paste_33 (lv_at hl 1 rfl) ?_
          obtain ⟨hPc, hDc, hFc⟩ := z_cut (wc := (zV6 r2 r2_width r2_size r2_numbers)) hP hD hS hA [6] rfl (by decide +kernel)
          have hKc := hK.sub (tys' := []) [] rfl
          refine va_calli (va_runV (As := []) (rest := []) ⟨hx, hb, hml, hown, hts⟩ (k_X6_isThere_v1 l sa dC dI r2 r2_width r2_size r2_numbers b_r2_size H.size) (cwV 0 hts (z_gV zw_t5_222 zw_t5_223 zw_t5_224 zw_t1_10 zw_t5_225) rfl rfl rfl (by decide +kernel) (by rw [← hRe]; exact ⟨(Nat.le_of_ble_eq_true rfl), (Nat.le_of_ble_eq_true rfl)⟩)) (z_preV hPc hKc hDc hN hXs hS hFc (q := (RX6, TX6, 3)) (ci := 6) (q0 := 0) rfl rfl) rfl rfl hl.1 rfl (lv_room (Nat.le_of_ble_eq_true rfl)) dX9_paste_35 (by rw [← hRe]; exact ⟨(Nat.le_of_ble_eq_true rfl), (Nat.le_of_ble_eq_true rfl)⟩)) hS (fun q _ h => hFc q h) hFc (fun r_105 u t H1 locs ht hvm hw hB hz1 hk1 hS => ?_)
          obtain ⟨hP, hD, hK⟩ := z_after3 (wn := (zV169 h0 tp h0_tapeLength h0_faultKind h0_faultPlace nw im sl rd wk fm mt ch dy sl cA_sl f_sl r0 r0_width r0_size r0_numbers r0_numbers cA_r0_numbers f_r0_numbers r1 r1_width r1_size r1_numbers r1_numbers cA_r1_numbers f_r1_numbers r2_numbers cA_r2_numbers f_r2_numbers r3 r3_width r3_size r3_numbers r3_numbers cA_r3_numbers f_r3_numbers r2 r2_width r2_size r2_numbers)) hB ht hvm hP hD hK [6] [0, 1, 2, 3, 4, 5, 7, 8, 9] rfl 10 rfl (by decide +kernel) rfl (by decide +kernel) hk1 hFc
          generalize H1 = H at hP hS ⊢
          have hK : va_K (dC, dI) vwCl [(cA_sl, .object RX6), (cA_r0_numbers, .long), (cA_r1_numbers, .long), (cA_r2_numbers, .long), (cA_r3_numbers, .long)] s := hK
          have b_r_105 : 0 ≤ r_105.toInt ∧ r_105.toInt ≤ 1 := hw.1
          have s_r_105 := hw.2
          refine lv_if_eq (tgt := 49) hx hb dX9_paste_38 (by decide) (fun c_106 => ?_) (fun c_106 => ?_)
          · have ic_106 := zz_eq rfl (show Int32.toInt 0 = 0 from by decide) c_106
            replace s_r_105 := (s_r_105.resolve_right (fun h => absurd (ic_106.symm.trans h.1) (by decide))).2
            refine lv_bipush (v := (-6)) hx hb dX9_paste_49 (by decide) ?_
            have zr : Int32.toInt (-6) = (-6) := by decide
            have hWa : zSel r0_width.toInt r1_width.toInt r2_width.toInt r3_width.toInt (Int32.toInt 2) = r2_width.toInt := by rw [zc_2]; exact zSel_2
            have hSa : zSel r0_size.toInt r1_size.toInt r2_size.toInt r3_size.toInt (Int32.toInt 2) = r2_size.toInt := by rw [zc_2]; exact zSel_2
            have hWb : zSel r0_width.toInt r1_width.toInt r2_width.toInt r3_width.toInt (Int32.toInt 2) = r2_width.toInt := by rw [zc_2]; exact zSel_2
            have hSb : zSel r0_size.toInt r1_size.toInt r2_size.toInt r3_size.toInt (Int32.toInt 2) = r2_size.toInt := by rw [zc_2]; exact zSel_2
            have hsp : zPa (zSel r0_width.toInt r1_width.toInt r2_width.toInt r3_width.toInt) (zSel r0_size.toInt r1_size.toInt r2_size.toInt r3_size.toInt) (Int32.toInt 2) (p2.toInt) (Int32.toInt 2) (p4.toInt) (p5.toInt) (Int32.toInt (-6)) := zPa.at (by first | with_reducible assumption | omega) hWa hWb hSa hSb (Or.inl ⟨zr, by omega⟩)
            have zc : Int32.toInt (-6) = (-6) := by decide
            exact W.iret (v := (-6)) hx hb hr (fun t ht hW => by rw [← hQe]; exact ⟨⟨(-6), (), rfl, ⟨by omega, by assumption⟩, ⟨f_r0_numbers, f_r1_numbers, f_r2_numbers, f_r3_numbers, z_ret hP hK hD ht hW [0, 1, 2, 3, 4, 5, 9, 6, 7, 8] [] rfl (by decide) rfl⟩⟩, hS.F ht⟩) hS.2.2 dX9_paste_51
          · have ic_106 := zz_neq rfl (show Int32.toInt 0 = 0 from by decide) c_106
            replace s_r_105 := (s_r_105.resolve_left (fun h => ic_106 h.1)).2
            refine lv_aload hx hb dX9_paste_41 (lv_at hl 0 rfl) ?_
            obtain ⟨hPc, hDc, hFc⟩ := z_cut (wc := (zV6 r2 r2_width r2_size r2_numbers)) hP hD hS hA [9] rfl (by decide +kernel)
            have hKc := hK.sub (tys' := []) [] rfl
            refine va_calli (va_runV (As := []) (rest := []) ⟨hx, hb, hml, hown, hts⟩ (k_X6_isThere_v1 l sa dC dI r2 r2_width r2_size r2_numbers b_r2_size H.size) (cwV 0 hts (z_gV zw_t5_222 zw_t5_223 zw_t5_224 zw_t1_10 zw_t5_225) rfl rfl rfl (by decide +kernel) (by rw [← hRe]; exact ⟨(Nat.le_of_ble_eq_true rfl), (Nat.le_of_ble_eq_true rfl)⟩)) (z_preV hPc hKc hDc hN hXs hS hFc (q := (RX6, TX6, 3)) (ci := 6) (q0 := 0) rfl rfl) rfl rfl hl.1 rfl (lv_room (Nat.le_of_ble_eq_true rfl)) dX9_paste_43 (by rw [← hRe]; exact ⟨(Nat.le_of_ble_eq_true rfl), (Nat.le_of_ble_eq_true rfl)⟩)) hS (fun q _ h => hFc q h) hFc (fun r_107 u t H1 locs ht hvm hw hB hz1 hk1 hS => ?_)
            obtain ⟨hP, hD, hK⟩ := z_after3 (wn := (zV169 h0 tp h0_tapeLength h0_faultKind h0_faultPlace nw im sl rd wk fm mt ch dy sl cA_sl f_sl r0 r0_width r0_size r0_numbers r0_numbers cA_r0_numbers f_r0_numbers r1 r1_width r1_size r1_numbers r1_numbers cA_r1_numbers f_r1_numbers r2_numbers cA_r2_numbers f_r2_numbers r3 r3_width r3_size r3_numbers r3_numbers cA_r3_numbers f_r3_numbers r2 r2_width r2_size r2_numbers)) hB ht hvm hP hD hK [9] [0, 1, 2, 3, 4, 5, 6, 7, 8] rfl 10 rfl (by decide +kernel) rfl (by decide +kernel) hk1 hFc
            generalize H1 = H at hP hS ⊢
            have hK : va_K (dC, dI) vwCl [(cA_sl, .object RX6), (cA_r0_numbers, .long), (cA_r1_numbers, .long), (cA_r2_numbers, .long), (cA_r3_numbers, .long)] s := hK
            have b_r_107 : 0 ≤ r_107.toInt ∧ r_107.toInt ≤ 1 := hw.1
            have s_r_107 := hw.2
            refine lv_if_ne (tgt := 52) hx hb dX9_paste_46 (by decide) (fun c_108 => ?_) (fun c_108 => ?_)
            · have ic_108 := zz_ne rfl (show Int32.toInt 0 = 0 from by decide) c_108
              replace s_r_107 := (s_r_107.resolve_left (fun h => ic_108 h.1)).2
              refine lv_aload hx hb dX9_paste_52 (lv_at hl 1 rfl) ?_
              refine va_get (D := (dC, dI)) (ci := 6) (v := .int r2_width) (C := RX6) (T := TX6) (N := 3) hx hb hts zl_X6 hown hK hP 9 rfl rfl 0 (by decide) (hts _ zw_t2_176) (fun _ h9 => h9) rfl dX9_paste_54 ?_
              refine lv_aload hx hb dX9_paste_57 (lv_at hl 0 rfl) ?_
              refine va_get (D := (dC, dI)) (ci := 6) (v := .int r2_width) (C := RX6) (T := TX6) (N := 3) hx hb hts zl_X6 hown hK hP 9 rfl rfl 0 (by decide) (hts _ zw_t2_176) (fun _ h9 => h9) rfl dX9_paste_59 ?_
              have nb_r2_width := zi_nb r2_width
              refine lv_icmp_eq (tgt := 68) hx hb dX9_paste_62 (by decide) (fun c_109 => ?_) (fun q => absurd (zz_neq rfl rfl q) (by first | with_reducible assumption | omega))
              have ic_109 := zz_eq rfl rfl c_109
              refine lv_aload hx hb dX9_paste_68 (lv_at hl 1 rfl) ?_
              refine lv_iload_n hx hb dX9_paste_70 rfl (lv_at hl 4 rfl) ?_
              refine lv_iload hx hb dX9_paste_71 (lv_at hl 7 rfl) ?_
              obtain ⟨hPc, hDc, hFc⟩ := z_cut (wc := (zV6 r2 r2_width r2_size r2_numbers)) hP hD hS hA [9] rfl (by decide +kernel)
              have hKc := hK.sub (tys' := []) [] rfl
              refine va_calli (va_runV (As := [.int p2, .int p5]) (rest := []) ⟨hx, hb, hml, hown, hts⟩ (k_X6_hasSpan_v1 l sa dC dI r2 p2 p5 r2_width r2_size r2_numbers b_r2_size H.size) (cwV 2 hts (z_gV zw_t6_80 zw_t6_81 zw_t6_82 zw_t1_10 zw_t6_83) rfl rfl rfl (by decide +kernel) (by rw [← hRe]; exact ⟨(Nat.le_of_ble_eq_true rfl), (Nat.le_of_ble_eq_true rfl)⟩)) (z_preV hPc hKc hDc hN hXs hS hFc (q := (RX6, TX6, 3)) (ci := 6) (q0 := 0) rfl rfl) rfl rfl hl.1 rfl (lv_room (Nat.le_of_ble_eq_true rfl)) dX9_paste_73 (by rw [← hRe]; exact ⟨(Nat.le_of_ble_eq_true rfl), (Nat.le_of_ble_eq_true rfl)⟩)) hS (fun q _ h => hFc q h) hFc (fun r_110 u t H1 locs ht hvm hw hB hz1 hk1 hS => ?_)
              obtain ⟨hP, hD, hK⟩ := z_after3 (wn := (zV169 h0 tp h0_tapeLength h0_faultKind h0_faultPlace nw im sl rd wk fm mt ch dy sl cA_sl f_sl r0 r0_width r0_size r0_numbers r0_numbers cA_r0_numbers f_r0_numbers r1 r1_width r1_size r1_numbers r1_numbers cA_r1_numbers f_r1_numbers r2_numbers cA_r2_numbers f_r2_numbers r3 r3_width r3_size r3_numbers r3_numbers cA_r3_numbers f_r3_numbers r2 r2_width r2_size r2_numbers)) hB ht hvm hP hD hK [9] [0, 1, 2, 3, 4, 5, 6, 7, 8] rfl 10 rfl (by decide +kernel) rfl (by decide +kernel) hk1 hFc
              generalize H1 = H at hP hS ⊢
              have hK : va_K (dC, dI) vwCl [(cA_sl, .object RX6), (cA_r0_numbers, .long), (cA_r1_numbers, .long), (cA_r2_numbers, .long), (cA_r3_numbers, .long)] s := hK
              have b_r_110 : 0 ≤ r_110.toInt ∧ r_110.toInt ≤ 1 := hw.1
              have s_r_110 := hw.2
              refine lv_if_eq (tgt := 91) hx hb dX9_paste_76 (by decide) (fun c_111 => ?_) (fun c_111 => ?_)
              · have ic_111 := zz_eq rfl (show Int32.toInt 0 = 0 from by decide) c_111
                replace s_r_110 := (s_r_110.resolve_right (fun h => absurd (ic_111.symm.trans h.1) (by decide))).2
                refine lv_bipush (v := (-7)) hx hb dX9_paste_91 (by decide) ?_
                have zr : Int32.toInt (-7) = (-7) := by decide
                have hWa : zSel r0_width.toInt r1_width.toInt r2_width.toInt r3_width.toInt (Int32.toInt 2) = r2_width.toInt := by rw [zc_2]; exact zSel_2
                have hSa : zSel r0_size.toInt r1_size.toInt r2_size.toInt r3_size.toInt (Int32.toInt 2) = r2_size.toInt := by rw [zc_2]; exact zSel_2
                have hWb : zSel r0_width.toInt r1_width.toInt r2_width.toInt r3_width.toInt (Int32.toInt 2) = r2_width.toInt := by rw [zc_2]; exact zSel_2
                have hSb : zSel r0_size.toInt r1_size.toInt r2_size.toInt r3_size.toInt (Int32.toInt 2) = r2_size.toInt := by rw [zc_2]; exact zSel_2
                have hsp : zPa (zSel r0_width.toInt r1_width.toInt r2_width.toInt r3_width.toInt) (zSel r0_size.toInt r1_size.toInt r2_size.toInt r3_size.toInt) (Int32.toInt 2) (p2.toInt) (Int32.toInt 2) (p4.toInt) (p5.toInt) (Int32.toInt (-7)) := zPa.at (by first | with_reducible assumption | omega) hWa hWb hSa hSb (Or.inr (Or.inr (Or.inl ⟨zr, by omega, by omega, by omega, by omega⟩)))
                have zc : Int32.toInt (-7) = (-7) := by decide
                exact W.iret (v := (-7)) hx hb hr (fun t ht hW => by rw [← hQe]; exact ⟨⟨(-7), (), rfl, ⟨by omega, by assumption⟩, ⟨f_r0_numbers, f_r1_numbers, f_r2_numbers, f_r3_numbers, z_ret hP hK hD ht hW [0, 1, 2, 3, 4, 5, 9, 6, 7, 8] [] rfl (by decide) rfl⟩⟩, hS.F ht⟩) hS.2.2 dX9_paste_93
              · have ic_111 := zz_neq rfl (show Int32.toInt 0 = 0 from by decide) c_111
                replace s_r_110 := (s_r_110.resolve_left (fun h => ic_111 h.1)).2
                refine lv_aload hx hb dX9_paste_79 (lv_at hl 0 rfl) ?_
                refine lv_iload hx hb dX9_paste_81 (lv_at hl 6 rfl) ?_
                refine lv_iload hx hb dX9_paste_83 (lv_at hl 7 rfl) ?_
                obtain ⟨hPc, hDc, hFc⟩ := z_cut (wc := (zV6 r2 r2_width r2_size r2_numbers)) hP hD hS hA [9] rfl (by decide +kernel)
                have hKc := hK.sub (tys' := []) [] rfl
                refine va_calli (va_runV (As := [.int p4, .int p5]) (rest := []) ⟨hx, hb, hml, hown, hts⟩ (k_X6_hasSpan_v1 l sa dC dI r2 p4 p5 r2_width r2_size r2_numbers b_r2_size H.size) (cwV 2 hts (z_gV zw_t6_80 zw_t6_81 zw_t6_82 zw_t1_10 zw_t6_83) rfl rfl rfl (by decide +kernel) (by rw [← hRe]; exact ⟨(Nat.le_of_ble_eq_true rfl), (Nat.le_of_ble_eq_true rfl)⟩)) (z_preV hPc hKc hDc hN hXs hS hFc (q := (RX6, TX6, 3)) (ci := 6) (q0 := 0) rfl rfl) rfl rfl hl.1 rfl (lv_room (Nat.le_of_ble_eq_true rfl)) dX9_paste_85 (by rw [← hRe]; exact ⟨(Nat.le_of_ble_eq_true rfl), (Nat.le_of_ble_eq_true rfl)⟩)) hS (fun q _ h => hFc q h) hFc (fun r_112 u t H1 locs ht hvm hw hB hz1 hk1 hS => ?_)
                obtain ⟨hP, hD, hK⟩ := z_after3 (wn := (zV169 h0 tp h0_tapeLength h0_faultKind h0_faultPlace nw im sl rd wk fm mt ch dy sl cA_sl f_sl r0 r0_width r0_size r0_numbers r0_numbers cA_r0_numbers f_r0_numbers r1 r1_width r1_size r1_numbers r1_numbers cA_r1_numbers f_r1_numbers r2_numbers cA_r2_numbers f_r2_numbers r3 r3_width r3_size r3_numbers r3_numbers cA_r3_numbers f_r3_numbers r2 r2_width r2_size r2_numbers)) hB ht hvm hP hD hK [9] [0, 1, 2, 3, 4, 5, 6, 7, 8] rfl 10 rfl (by decide +kernel) rfl (by decide +kernel) hk1 hFc
                generalize H1 = H at hP hS ⊢
                have hK : va_K (dC, dI) vwCl [(cA_sl, .object RX6), (cA_r0_numbers, .long), (cA_r1_numbers, .long), (cA_r2_numbers, .long), (cA_r3_numbers, .long)] s := hK
                have b_r_112 : 0 ≤ r_112.toInt ∧ r_112.toInt ≤ 1 := hw.1
                have s_r_112 := hw.2
                refine lv_if_ne (tgt := 94) hx hb dX9_paste_88 (by decide) (fun c_113 => ?_) (fun c_113 => ?_)
                · have ic_113 := zz_ne rfl (show Int32.toInt 0 = 0 from by decide) c_113
                  replace s_r_112 := (s_r_112.resolve_left (fun h => ic_113 h.1)).2
                  refine lv_aload hx hb dX9_paste_94 (lv_at hl 1 rfl) ?_
                  refine va_get (D := (dC, dI)) (ci := 6) (v := .ref r2_numbers) (C := RX6) (T := TX6) (N := 3) hx hb hts zl_X6 hown hK hP 9 rfl rfl 2 (by decide) (hts _ zw_t2_181) (fun _ h9 => h9) rfl dX9_paste_96 ?_
                  refine lv_iload_n hx hb dX9_paste_99 rfl (lv_at hl 4 rfl) ?_
                  refine lv_aload hx hb dX9_paste_100 (lv_at hl 0 rfl) ?_
                  refine va_get (D := (dC, dI)) (ci := 6) (v := .ref r2_numbers) (C := RX6) (T := TX6) (N := 3) hx hb hts zl_X6 hown hK hP 9 rfl rfl 2 (by decide) (hts _ zw_t2_181) (fun _ h9 => h9) rfl dX9_paste_102 ?_
                  refine lv_iload hx hb dX9_paste_105 (lv_at hl 6 rfl) ?_
                  refine lv_iload hx hb dX9_paste_107 (lv_at hl 7 rfl) ?_
                  have kc_p2 := zi_clamp (x := p2) rfl (by first | with_reducible assumption | omega)
                  have kc_p4 := zi_clamp (x := p4) rfl (by first | with_reducible assumption | omega)
                  have kc_p5 := zi_clamp (x := p5) rfl (by first | with_reducible assumption | omega)
                  refine va_copyl hx hb (by rw [hml]; exact hl.1.symm) hown (hts _ zw_t6_92) (hts _ zw_t4_39) (hts _ zw_t4_38) (hts _ zw_t1_18) hK hP hD hS 6 6 3 3 rfl rfl rfl rfl rfl (fun q => absurd (z_lt (k := 0) (by decide) q) (by first | with_reducible assumption | omega)) (fun q => absurd (z_lt (k := 0) (by decide) q) (by first | with_reducible assumption | omega)) (fun q => absurd (z_lt (k := 0) (by decide) q) (by first | with_reducible assumption | omega)) (by first | with_reducible assumption | omega) (by first | with_reducible assumption | omega) (fun _ _ => rfl) (by rw [← hRe]; exact (Nat.le_of_ble_eq_true rfl)) (by rw [← hRe]; exact (Nat.le_of_ble_eq_true rfl)) dX9_paste_109 (fun H locs hP hD hS => ?_)
                  obtain ⟨f_114, ef_114⟩ : ∃ g : Nat → Int64, g = va_cpy f_r2_numbers f_r2_numbers (Int32.toNatClampNeg p2) (Int32.toNatClampNeg p4) (Int32.toNatClampNeg p5) := ⟨_, rfl⟩
                  have hP : va_P (dC, dI) vwCl (zV169 h0 tp h0_tapeLength h0_faultKind h0_faultPlace nw im sl rd wk fm mt ch dy sl cA_sl f_sl r0 r0_width r0_size r0_numbers r0_numbers cA_r0_numbers f_r0_numbers r1 r1_width r1_size r1_numbers r1_numbers cA_r1_numbers f_r1_numbers r2_numbers cA_r2_numbers (va_cpy f_r2_numbers f_r2_numbers (Int32.toNatClampNeg p2) (Int32.toNatClampNeg p4) (Int32.toNatClampNeg p5)) r3 r3_width r3_size r3_numbers r3_numbers cA_r3_numbers f_r3_numbers r2 r2_width r2_size r2_numbers) H := hP
                  have hD : va_D A (zV169 h0 tp h0_tapeLength h0_faultKind h0_faultPlace nw im sl rd wk fm mt ch dy sl cA_sl f_sl r0 r0_width r0_size r0_numbers r0_numbers cA_r0_numbers f_r0_numbers r1 r1_width r1_size r1_numbers r1_numbers cA_r1_numbers f_r1_numbers r2_numbers cA_r2_numbers (va_cpy f_r2_numbers f_r2_numbers (Int32.toNatClampNeg p2) (Int32.toNatClampNeg p4) (Int32.toNatClampNeg p5)) r3 r3_width r3_size r3_numbers r3_numbers cA_r3_numbers f_r3_numbers r2 r2_width r2_size r2_numbers) := hD
                  rw [← ef_114] at hP hD
                  refine lv_iconst (v := 0) hx hb dX9_paste_112 (by decide) ?_
                  have zr : Int32.toInt 0 = 0 := by decide
                  have hWa : zSel r0_width.toInt r1_width.toInt r2_width.toInt r3_width.toInt (Int32.toInt 2) = r2_width.toInt := by rw [zc_2]; exact zSel_2
                  have hSa : zSel r0_size.toInt r1_size.toInt r2_size.toInt r3_size.toInt (Int32.toInt 2) = r2_size.toInt := by rw [zc_2]; exact zSel_2
                  have hWb : zSel r0_width.toInt r1_width.toInt r2_width.toInt r3_width.toInt (Int32.toInt 2) = r2_width.toInt := by rw [zc_2]; exact zSel_2
                  have hSb : zSel r0_size.toInt r1_size.toInt r2_size.toInt r3_size.toInt (Int32.toInt 2) = r2_size.toInt := by rw [zc_2]; exact zSel_2
                  have hsp : zPa (zSel r0_width.toInt r1_width.toInt r2_width.toInt r3_width.toInt) (zSel r0_size.toInt r1_size.toInt r2_size.toInt r3_size.toInt) (Int32.toInt 2) (p2.toInt) (Int32.toInt 2) (p4.toInt) (p5.toInt) (Int32.toInt 0) := zPa.at (by first | with_reducible assumption | omega) hWa hWb hSa hSb (Or.inr (Or.inr (Or.inr ⟨zr, by omega, by omega, by omega, by omega, by omega, by omega, by omega, by omega⟩)))
                  have zc : Int32.toInt 0 = 0 := by decide
                  exact W.iret (v := 0) hx hb hr (fun t ht hW => by rw [← hQe]; exact ⟨⟨0, (), rfl, ⟨by omega, by assumption⟩, ⟨f_r0_numbers, f_r1_numbers, f_114, f_r3_numbers, z_ret hP hK hD ht hW [0, 1, 2, 3, 4, 5, 9, 6, 7, 8] [] rfl (by decide) rfl⟩⟩, hS.F ht⟩) hS.2.2 dX9_paste_113
                · have ic_113 := zz_nne rfl (show Int32.toInt 0 = 0 from by decide) c_113
                  replace s_r_112 := (s_r_112.resolve_right (fun h => absurd (ic_113.symm.trans h.1) (by decide))).2
                  refine lv_bipush (v := (-7)) hx hb dX9_paste_91 (by decide) ?_
                  have zr : Int32.toInt (-7) = (-7) := by decide
                  have hWa : zSel r0_width.toInt r1_width.toInt r2_width.toInt r3_width.toInt (Int32.toInt 2) = r2_width.toInt := by rw [zc_2]; exact zSel_2
                  have hSa : zSel r0_size.toInt r1_size.toInt r2_size.toInt r3_size.toInt (Int32.toInt 2) = r2_size.toInt := by rw [zc_2]; exact zSel_2
                  have hWb : zSel r0_width.toInt r1_width.toInt r2_width.toInt r3_width.toInt (Int32.toInt 2) = r2_width.toInt := by rw [zc_2]; exact zSel_2
                  have hSb : zSel r0_size.toInt r1_size.toInt r2_size.toInt r3_size.toInt (Int32.toInt 2) = r2_size.toInt := by rw [zc_2]; exact zSel_2
                  have hsp : zPa (zSel r0_width.toInt r1_width.toInt r2_width.toInt r3_width.toInt) (zSel r0_size.toInt r1_size.toInt r2_size.toInt r3_size.toInt) (Int32.toInt 2) (p2.toInt) (Int32.toInt 2) (p4.toInt) (p5.toInt) (Int32.toInt (-7)) := zPa.at (by first | with_reducible assumption | omega) hWa hWb hSa hSb (Or.inr (Or.inr (Or.inl ⟨zr, by omega, by omega, by omega, by omega⟩)))
                  have zc : Int32.toInt (-7) = (-7) := by decide
                  exact W.iret (v := (-7)) hx hb hr (fun t ht hW => by rw [← hQe]; exact ⟨⟨(-7), (), rfl, ⟨by omega, by assumption⟩, ⟨f_r0_numbers, f_r1_numbers, f_r2_numbers, f_r3_numbers, z_ret hP hK hD ht hW [0, 1, 2, 3, 4, 5, 9, 6, 7, 8] [] rfl (by decide) rfl⟩⟩, hS.F ht⟩) hS.2.2 dX9_paste_93
            · have ic_108 := zz_nne rfl (show Int32.toInt 0 = 0 from by decide) c_108
              replace s_r_107 := (s_r_107.resolve_right (fun h => absurd (ic_108.symm.trans h.1) (by decide))).2
              refine lv_bipush (v := (-6)) hx hb dX9_paste_49 (by decide) ?_
              have zr : Int32.toInt (-6) = (-6) := by decide
              have hWa : zSel r0_width.toInt r1_width.toInt r2_width.toInt r3_width.toInt (Int32.toInt 2) = r2_width.toInt := by rw [zc_2]; exact zSel_2
              have hSa : zSel r0_size.toInt r1_size.toInt r2_size.toInt r3_size.toInt (Int32.toInt 2) = r2_size.toInt := by rw [zc_2]; exact zSel_2
              have hWb : zSel r0_width.toInt r1_width.toInt r2_width.toInt r3_width.toInt (Int32.toInt 2) = r2_width.toInt := by rw [zc_2]; exact zSel_2
              have hSb : zSel r0_size.toInt r1_size.toInt r2_size.toInt r3_size.toInt (Int32.toInt 2) = r2_size.toInt := by rw [zc_2]; exact zSel_2
              have hsp : zPa (zSel r0_width.toInt r1_width.toInt r2_width.toInt r3_width.toInt) (zSel r0_size.toInt r1_size.toInt r2_size.toInt r3_size.toInt) (Int32.toInt 2) (p2.toInt) (Int32.toInt 2) (p4.toInt) (p5.toInt) (Int32.toInt (-6)) := zPa.at (by first | with_reducible assumption | omega) hWa hWb hSa hSb (Or.inl ⟨zr, by omega⟩)
              have zc : Int32.toInt (-6) = (-6) := by decide
              exact W.iret (v := (-6)) hx hb hr (fun t ht hW => by rw [← hQe]; exact ⟨⟨(-6), (), rfl, ⟨by omega, by assumption⟩, ⟨f_r0_numbers, f_r1_numbers, f_r2_numbers, f_r3_numbers, z_ret hP hK hD ht hW [0, 1, 2, 3, 4, 5, 9, 6, 7, 8] [] rfl (by decide) rfl⟩⟩, hS.F ht⟩) hS.2.2 dX9_paste_51
        · have zc_3 : Int32.toInt 3 = 3 := by decide
          refine va_aldq hx hb hK hP 1 0 rfl rfl (zi_in (show Int32.toInt 3 = 3 from by decide) (by first | with_reducible assumption | omega)) dX9_paste_30 ?_
          refine W.eq (g2 := F0 m 31 ls (.ref r3 :: [])) (by rw [show f_sl (Int32.toNatClampNeg 3) = some r3 from (by rw [show Int32.toNatClampNeg 3 = 3 from by decide]; exact hsl3)]; rfl) ?_
          refine lv_astore (lv' := [(7, .ref r3), (6, .ref r2), (0, .ref h0), (1, .int 2), (2, .int p2), (3, .int 3), (4, .int p4), (5, .int p5)]) hx hb dX9_paste_31 hl (by decide) rfl (fun ls hl => ?_)
          refine lv_aload hx hb dX9_paste_33 (lv_at hl 1 rfl) ?_
          obtain ⟨hPc, hDc, hFc⟩ := z_cut (wc := (zV6 r2 r2_width r2_size r2_numbers)) hP hD hS hA [6] rfl (by decide +kernel)
          have hKc := hK.sub (tys' := []) [] rfl
          refine va_calli (va_runV (As := []) (rest := []) ⟨hx, hb, hml, hown, hts⟩ (k_X6_isThere_v1 l sa dC dI r2 r2_width r2_size r2_numbers b_r2_size H.size) (cwV 0 hts (z_gV zw_t5_222 zw_t5_223 zw_t5_224 zw_t1_10 zw_t5_225) rfl rfl rfl (by decide +kernel) (by rw [← hRe]; exact ⟨(Nat.le_of_ble_eq_true rfl), (Nat.le_of_ble_eq_true rfl)⟩)) (z_preV hPc hKc hDc hN hXs hS hFc (q := (RX6, TX6, 3)) (ci := 6) (q0 := 0) rfl rfl) rfl rfl hl.1 rfl (lv_room (Nat.le_of_ble_eq_true rfl)) dX9_paste_35 (by rw [← hRe]; exact ⟨(Nat.le_of_ble_eq_true rfl), (Nat.le_of_ble_eq_true rfl)⟩)) hS (fun q _ h => hFc q h) hFc (fun r_115 u t H1 locs ht hvm hw hB hz1 hk1 hS => ?_)
          obtain ⟨hP, hD, hK⟩ := z_after3 (wn := (zV169 h0 tp h0_tapeLength h0_faultKind h0_faultPlace nw im sl rd wk fm mt ch dy sl cA_sl f_sl r0 r0_width r0_size r0_numbers r0_numbers cA_r0_numbers f_r0_numbers r1 r1_width r1_size r1_numbers r1_numbers cA_r1_numbers f_r1_numbers r2_numbers cA_r2_numbers f_r2_numbers r3 r3_width r3_size r3_numbers r3_numbers cA_r3_numbers f_r3_numbers r2 r2_width r2_size r2_numbers)) hB ht hvm hP hD hK [6] [0, 1, 2, 3, 4, 5, 7, 8, 9] rfl 10 rfl (by decide +kernel) rfl (by decide +kernel) hk1 hFc
          generalize H1 = H at hP hS ⊢
          have hK : va_K (dC, dI) vwCl [(cA_sl, .object RX6), (cA_r0_numbers, .long), (cA_r1_numbers, .long), (cA_r2_numbers, .long), (cA_r3_numbers, .long)] s := hK
          have b_r_115 : 0 ≤ r_115.toInt ∧ r_115.toInt ≤ 1 := hw.1
          have s_r_115 := hw.2
          refine lv_if_eq (tgt := 49) hx hb dX9_paste_38 (by decide) (fun c_116 => ?_) (fun c_116 => ?_)
          · have ic_116 := zz_eq rfl (show Int32.toInt 0 = 0 from by decide) c_116
            replace s_r_115 := (s_r_115.resolve_right (fun h => absurd (ic_116.symm.trans h.1) (by decide))).2
            refine lv_bipush (v := (-6)) hx hb dX9_paste_49 (by decide) ?_
            have zr : Int32.toInt (-6) = (-6) := by decide
            have hWa : zSel r0_width.toInt r1_width.toInt r2_width.toInt r3_width.toInt (Int32.toInt 2) = r2_width.toInt := by rw [zc_2]; exact zSel_2
            have hSa : zSel r0_size.toInt r1_size.toInt r2_size.toInt r3_size.toInt (Int32.toInt 2) = r2_size.toInt := by rw [zc_2]; exact zSel_2
            have hWb : zSel r0_width.toInt r1_width.toInt r2_width.toInt r3_width.toInt (Int32.toInt 3) = r3_width.toInt := by rw [zc_3]; exact zSel_3
            have hSb : zSel r0_size.toInt r1_size.toInt r2_size.toInt r3_size.toInt (Int32.toInt 3) = r3_size.toInt := by rw [zc_3]; exact zSel_3
            have hsp : zPa (zSel r0_width.toInt r1_width.toInt r2_width.toInt r3_width.toInt) (zSel r0_size.toInt r1_size.toInt r2_size.toInt r3_size.toInt) (Int32.toInt 2) (p2.toInt) (Int32.toInt 3) (p4.toInt) (p5.toInt) (Int32.toInt (-6)) := zPa.at (by first | with_reducible assumption | omega) hWa hWb hSa hSb (Or.inl ⟨zr, by omega⟩)
            have zc : Int32.toInt (-6) = (-6) := by decide
            exact W.iret (v := (-6)) hx hb hr (fun t ht hW => by rw [← hQe]; exact ⟨⟨(-6), (), rfl, ⟨by omega, by assumption⟩, ⟨f_r0_numbers, f_r1_numbers, f_r2_numbers, f_r3_numbers, z_ret hP hK hD ht hW [0, 1, 2, 3, 4, 5, 9, 6, 7, 8] [] rfl (by decide) rfl⟩⟩, hS.F ht⟩) hS.2.2 dX9_paste_51
          · have ic_116 := zz_neq rfl (show Int32.toInt 0 = 0 from by decide) c_116
            replace s_r_115 := (s_r_115.resolve_left (fun h => ic_116 h.1)).2
            refine lv_aload hx hb dX9_paste_41 (lv_at hl 0 rfl) ?_
            obtain ⟨hPc, hDc, hFc⟩ := z_cut (wc := (zV6 r3 r3_width r3_size r3_numbers)) hP hD hS hA [7] rfl (by decide +kernel)
            have hKc := hK.sub (tys' := []) [] rfl
            refine va_calli (va_runV (As := []) (rest := []) ⟨hx, hb, hml, hown, hts⟩ (k_X6_isThere_v1 l sa dC dI r3 r3_width r3_size r3_numbers b_r3_size H.size) (cwV 0 hts (z_gV zw_t5_222 zw_t5_223 zw_t5_224 zw_t1_10 zw_t5_225) rfl rfl rfl (by decide +kernel) (by rw [← hRe]; exact ⟨(Nat.le_of_ble_eq_true rfl), (Nat.le_of_ble_eq_true rfl)⟩)) (z_preV hPc hKc hDc hN hXs hS hFc (q := (RX6, TX6, 3)) (ci := 6) (q0 := 0) rfl rfl) rfl rfl hl.1 rfl (lv_room (Nat.le_of_ble_eq_true rfl)) dX9_paste_43 (by rw [← hRe]; exact ⟨(Nat.le_of_ble_eq_true rfl), (Nat.le_of_ble_eq_true rfl)⟩)) hS (fun q _ h => hFc q h) hFc (fun r_117 u t H1 locs ht hvm hw hB hz1 hk1 hS => ?_)
            obtain ⟨hP, hD, hK⟩ := z_after3 (wn := (zV395 h0 tp h0_tapeLength h0_faultKind h0_faultPlace nw im sl rd wk fm mt ch dy sl cA_sl f_sl r0 r0_width r0_size r0_numbers r0_numbers cA_r0_numbers f_r0_numbers r1 r1_width r1_size r1_numbers r1_numbers cA_r1_numbers f_r1_numbers r2_numbers cA_r2_numbers f_r2_numbers r3_numbers cA_r3_numbers f_r3_numbers r2 r2_width r2_size r2_numbers r3 r3_width r3_size r3_numbers)) hB ht hvm hP hD hK [7] [0, 1, 2, 3, 4, 5, 6, 8, 9] rfl 10 rfl (by decide +kernel) rfl (by decide +kernel) hk1 hFc
            generalize H1 = H at hP hS ⊢
            have hK : va_K (dC, dI) vwCl [(cA_sl, .object RX6), (cA_r0_numbers, .long), (cA_r1_numbers, .long), (cA_r2_numbers, .long), (cA_r3_numbers, .long)] s := hK
            have b_r_117 : 0 ≤ r_117.toInt ∧ r_117.toInt ≤ 1 := hw.1
            have s_r_117 := hw.2
            refine lv_if_ne (tgt := 52) hx hb dX9_paste_46 (by decide) (fun c_118 => ?_) (fun c_118 => ?_)
            · have ic_118 := zz_ne rfl (show Int32.toInt 0 = 0 from by decide) c_118
              replace s_r_117 := (s_r_117.resolve_left (fun h => ic_118 h.1)).2
              refine lv_aload hx hb dX9_paste_52 (lv_at hl 1 rfl) ?_
              refine va_get (D := (dC, dI)) (ci := 6) (v := .int r2_width) (C := RX6) (T := TX6) (N := 3) hx hb hts zl_X6 hown hK hP 8 rfl rfl 0 (by decide) (hts _ zw_t2_176) (fun _ h9 => h9) rfl dX9_paste_54 ?_
              refine lv_aload hx hb dX9_paste_57 (lv_at hl 0 rfl) ?_
              refine va_get (D := (dC, dI)) (ci := 6) (v := .int r3_width) (C := RX6) (T := TX6) (N := 3) hx hb hts zl_X6 hown hK hP 9 rfl rfl 0 (by decide) (hts _ zw_t2_176) (fun _ h9 => h9) rfl dX9_paste_59 ?_
              have nb_r2_width := zi_nb r2_width
              have nb_r3_width := zi_nb r3_width
              refine lv_icmp_eq (tgt := 68) hx hb dX9_paste_62 (by decide) (fun c_119 => ?_) (fun c_119 => ?_)
              · have ic_119 := zz_eq rfl rfl c_119
                refine lv_aload hx hb dX9_paste_68 (lv_at hl 1 rfl) ?_
                refine lv_iload_n hx hb dX9_paste_70 rfl (lv_at hl 4 rfl) ?_
                refine lv_iload hx hb dX9_paste_71 (lv_at hl 7 rfl) ?_
                obtain ⟨hPc, hDc, hFc⟩ := z_cut (wc := (zV6 r2 r2_width r2_size r2_numbers)) hP hD hS hA [8] rfl (by decide +kernel)
                have hKc := hK.sub (tys' := []) [] rfl
                refine va_calli (va_runV (As := [.int p2, .int p5]) (rest := []) ⟨hx, hb, hml, hown, hts⟩ (k_X6_hasSpan_v1 l sa dC dI r2 p2 p5 r2_width r2_size r2_numbers b_r2_size H.size) (cwV 2 hts (z_gV zw_t6_80 zw_t6_81 zw_t6_82 zw_t1_10 zw_t6_83) rfl rfl rfl (by decide +kernel) (by rw [← hRe]; exact ⟨(Nat.le_of_ble_eq_true rfl), (Nat.le_of_ble_eq_true rfl)⟩)) (z_preV hPc hKc hDc hN hXs hS hFc (q := (RX6, TX6, 3)) (ci := 6) (q0 := 0) rfl rfl) rfl rfl hl.1 rfl (lv_room (Nat.le_of_ble_eq_true rfl)) dX9_paste_73 (by rw [← hRe]; exact ⟨(Nat.le_of_ble_eq_true rfl), (Nat.le_of_ble_eq_true rfl)⟩)) hS (fun q _ h => hFc q h) hFc (fun r_120 u t H1 locs ht hvm hw hB hz1 hk1 hS => ?_)
                obtain ⟨hP, hD, hK⟩ := z_after3 (wn := (zV395 h0 tp h0_tapeLength h0_faultKind h0_faultPlace nw im sl rd wk fm mt ch dy sl cA_sl f_sl r0 r0_width r0_size r0_numbers r0_numbers cA_r0_numbers f_r0_numbers r1 r1_width r1_size r1_numbers r1_numbers cA_r1_numbers f_r1_numbers r2_numbers cA_r2_numbers f_r2_numbers r3_numbers cA_r3_numbers f_r3_numbers r3 r3_width r3_size r3_numbers r2 r2_width r2_size r2_numbers)) hB ht hvm hP hD hK [8] [0, 1, 2, 3, 4, 5, 6, 7, 9] rfl 10 rfl (by decide +kernel) rfl (by decide +kernel) hk1 hFc
                generalize H1 = H at hP hS ⊢
                have hK : va_K (dC, dI) vwCl [(cA_sl, .object RX6), (cA_r0_numbers, .long), (cA_r1_numbers, .long), (cA_r2_numbers, .long), (cA_r3_numbers, .long)] s := hK
                have b_r_120 : 0 ≤ r_120.toInt ∧ r_120.toInt ≤ 1 := hw.1
                have s_r_120 := hw.2
                refine lv_if_eq (tgt := 91) hx hb dX9_paste_76 (by decide) (fun c_121 => ?_) (fun c_121 => ?_)
                · have ic_121 := zz_eq rfl (show Int32.toInt 0 = 0 from by decide) c_121
                  replace s_r_120 := (s_r_120.resolve_right (fun h => absurd (ic_121.symm.trans h.1) (by decide))).2
                  refine lv_bipush (v := (-7)) hx hb dX9_paste_91 (by decide) ?_
                  have zr : Int32.toInt (-7) = (-7) := by decide
                  have hWa : zSel r0_width.toInt r1_width.toInt r2_width.toInt r3_width.toInt (Int32.toInt 2) = r2_width.toInt := by rw [zc_2]; exact zSel_2
                  have hSa : zSel r0_size.toInt r1_size.toInt r2_size.toInt r3_size.toInt (Int32.toInt 2) = r2_size.toInt := by rw [zc_2]; exact zSel_2
                  have hWb : zSel r0_width.toInt r1_width.toInt r2_width.toInt r3_width.toInt (Int32.toInt 3) = r3_width.toInt := by rw [zc_3]; exact zSel_3
                  have hSb : zSel r0_size.toInt r1_size.toInt r2_size.toInt r3_size.toInt (Int32.toInt 3) = r3_size.toInt := by rw [zc_3]; exact zSel_3
                  have hsp : zPa (zSel r0_width.toInt r1_width.toInt r2_width.toInt r3_width.toInt) (zSel r0_size.toInt r1_size.toInt r2_size.toInt r3_size.toInt) (Int32.toInt 2) (p2.toInt) (Int32.toInt 3) (p4.toInt) (p5.toInt) (Int32.toInt (-7)) := zPa.at (by first | with_reducible assumption | omega) hWa hWb hSa hSb (Or.inr (Or.inr (Or.inl ⟨zr, by omega, by omega, by omega, by omega⟩)))
                  have zc : Int32.toInt (-7) = (-7) := by decide
                  exact W.iret (v := (-7)) hx hb hr (fun t ht hW => by rw [← hQe]; exact ⟨⟨(-7), (), rfl, ⟨by omega, by assumption⟩, ⟨f_r0_numbers, f_r1_numbers, f_r2_numbers, f_r3_numbers, z_ret hP hK hD ht hW [0, 1, 2, 3, 4, 5, 9, 6, 8, 7] [] rfl (by decide) rfl⟩⟩, hS.F ht⟩) hS.2.2 dX9_paste_93
                · have ic_121 := zz_neq rfl (show Int32.toInt 0 = 0 from by decide) c_121
                  replace s_r_120 := (s_r_120.resolve_left (fun h => ic_121 h.1)).2
                  refine lv_aload hx hb dX9_paste_79 (lv_at hl 0 rfl) ?_
                  refine lv_iload hx hb dX9_paste_81 (lv_at hl 6 rfl) ?_
                  refine lv_iload hx hb dX9_paste_83 (lv_at hl 7 rfl) ?_
                  obtain ⟨hPc, hDc, hFc⟩ := z_cut (wc := (zV6 r3 r3_width r3_size r3_numbers)) hP hD hS hA [8] rfl (by decide +kernel)
                  have hKc := hK.sub (tys' := []) [] rfl
                  refine va_calli (va_runV (As := [.int p4, .int p5]) (rest := []) ⟨hx, hb, hml, hown, hts⟩ (k_X6_hasSpan_v1 l sa dC dI r3 p4 p5 r3_width r3_size r3_numbers b_r3_size H.size) (cwV 2 hts (z_gV zw_t6_80 zw_t6_81 zw_t6_82 zw_t1_10 zw_t6_83) rfl rfl rfl (by decide +kernel) (by rw [← hRe]; exact ⟨(Nat.le_of_ble_eq_true rfl), (Nat.le_of_ble_eq_true rfl)⟩)) (z_preV hPc hKc hDc hN hXs hS hFc (q := (RX6, TX6, 3)) (ci := 6) (q0 := 0) rfl rfl) rfl rfl hl.1 rfl (lv_room (Nat.le_of_ble_eq_true rfl)) dX9_paste_85 (by rw [← hRe]; exact ⟨(Nat.le_of_ble_eq_true rfl), (Nat.le_of_ble_eq_true rfl)⟩)) hS (fun q _ h => hFc q h) hFc (fun r_122 u t H1 locs ht hvm hw hB hz1 hk1 hS => ?_)
                  obtain ⟨hP, hD, hK⟩ := z_after3 (wn := (zV395 h0 tp h0_tapeLength h0_faultKind h0_faultPlace nw im sl rd wk fm mt ch dy sl cA_sl f_sl r0 r0_width r0_size r0_numbers r0_numbers cA_r0_numbers f_r0_numbers r1 r1_width r1_size r1_numbers r1_numbers cA_r1_numbers f_r1_numbers r2_numbers cA_r2_numbers f_r2_numbers r3_numbers cA_r3_numbers f_r3_numbers r2 r2_width r2_size r2_numbers r3 r3_width r3_size r3_numbers)) hB ht hvm hP hD hK [8] [0, 1, 2, 3, 4, 5, 6, 7, 9] rfl 10 rfl (by decide +kernel) rfl (by decide +kernel) hk1 hFc
                  generalize H1 = H at hP hS ⊢
                  have hK : va_K (dC, dI) vwCl [(cA_sl, .object RX6), (cA_r0_numbers, .long), (cA_r1_numbers, .long), (cA_r2_numbers, .long), (cA_r3_numbers, .long)] s := hK
                  have b_r_122 : 0 ≤ r_122.toInt ∧ r_122.toInt ≤ 1 := hw.1
                  have s_r_122 := hw.2
                  refine lv_if_ne (tgt := 94) hx hb dX9_paste_88 (by decide) (fun c_123 => ?_) (fun c_123 => ?_)
                  · have ic_123 := zz_ne rfl (show Int32.toInt 0 = 0 from by decide) c_123
                    replace s_r_122 := (s_r_122.resolve_left (fun h => ic_123 h.1)).2
                    refine lv_aload hx hb dX9_paste_94 (lv_at hl 1 rfl) ?_
                    refine va_get (D := (dC, dI)) (ci := 6) (v := .ref r2_numbers) (C := RX6) (T := TX6) (N := 3) hx hb hts zl_X6 hown hK hP 8 rfl rfl 2 (by decide) (hts _ zw_t2_181) (fun _ h9 => h9) rfl dX9_paste_96 ?_
                    refine lv_iload_n hx hb dX9_paste_99 rfl (lv_at hl 4 rfl) ?_
                    refine lv_aload hx hb dX9_paste_100 (lv_at hl 0 rfl) ?_
                    refine va_get (D := (dC, dI)) (ci := 6) (v := .ref r3_numbers) (C := RX6) (T := TX6) (N := 3) hx hb hts zl_X6 hown hK hP 9 rfl rfl 2 (by decide) (hts _ zw_t2_181) (fun _ h9 => h9) rfl dX9_paste_102 ?_
                    refine lv_iload hx hb dX9_paste_105 (lv_at hl 6 rfl) ?_
                    refine lv_iload hx hb dX9_paste_107 (lv_at hl 7 rfl) ?_
                    have kc_p2 := zi_clamp (x := p2) rfl (by first | with_reducible assumption | omega)
                    have kc_p4 := zi_clamp (x := p4) rfl (by first | with_reducible assumption | omega)
                    have kc_p5 := zi_clamp (x := p5) rfl (by first | with_reducible assumption | omega)
                    refine va_copyl hx hb (by rw [hml]; exact hl.1.symm) hown (hts _ zw_t6_92) (hts _ zw_t4_39) (hts _ zw_t4_38) (hts _ zw_t1_18) hK hP hD hS 6 7 3 4 rfl rfl rfl rfl rfl (fun q => absurd (z_lt (k := 0) (by decide) q) (by first | with_reducible assumption | omega)) (fun q => absurd (z_lt (k := 0) (by decide) q) (by first | with_reducible assumption | omega)) (fun q => absurd (z_lt (k := 0) (by decide) q) (by first | with_reducible assumption | omega)) (by first | with_reducible assumption | omega) (by first | with_reducible assumption | omega) (fun _ _ => rfl) (by rw [← hRe]; exact (Nat.le_of_ble_eq_true rfl)) (by rw [← hRe]; exact (Nat.le_of_ble_eq_true rfl)) dX9_paste_109 (fun H locs hP hD hS => ?_)
                    obtain ⟨f_124, ef_124⟩ : ∃ g : Nat → Int64, g = va_cpy f_r2_numbers f_r3_numbers (Int32.toNatClampNeg p2) (Int32.toNatClampNeg p4) (Int32.toNatClampNeg p5) := ⟨_, rfl⟩
                    have hP : va_P (dC, dI) vwCl (zV395 h0 tp h0_tapeLength h0_faultKind h0_faultPlace nw im sl rd wk fm mt ch dy sl cA_sl f_sl r0 r0_width r0_size r0_numbers r0_numbers cA_r0_numbers f_r0_numbers r1 r1_width r1_size r1_numbers r1_numbers cA_r1_numbers f_r1_numbers r2_numbers cA_r2_numbers f_r2_numbers r3_numbers cA_r3_numbers (va_cpy f_r2_numbers f_r3_numbers (Int32.toNatClampNeg p2) (Int32.toNatClampNeg p4) (Int32.toNatClampNeg p5)) r2 r2_width r2_size r2_numbers r3 r3_width r3_size r3_numbers) H := hP
                    have hD : va_D A (zV395 h0 tp h0_tapeLength h0_faultKind h0_faultPlace nw im sl rd wk fm mt ch dy sl cA_sl f_sl r0 r0_width r0_size r0_numbers r0_numbers cA_r0_numbers f_r0_numbers r1 r1_width r1_size r1_numbers r1_numbers cA_r1_numbers f_r1_numbers r2_numbers cA_r2_numbers f_r2_numbers r3_numbers cA_r3_numbers (va_cpy f_r2_numbers f_r3_numbers (Int32.toNatClampNeg p2) (Int32.toNatClampNeg p4) (Int32.toNatClampNeg p5)) r2 r2_width r2_size r2_numbers r3 r3_width r3_size r3_numbers) := hD
                    rw [← ef_124] at hP hD
                    refine lv_iconst (v := 0) hx hb dX9_paste_112 (by decide) ?_
                    have zr : Int32.toInt 0 = 0 := by decide
                    have hWa : zSel r0_width.toInt r1_width.toInt r2_width.toInt r3_width.toInt (Int32.toInt 2) = r2_width.toInt := by rw [zc_2]; exact zSel_2
                    have hSa : zSel r0_size.toInt r1_size.toInt r2_size.toInt r3_size.toInt (Int32.toInt 2) = r2_size.toInt := by rw [zc_2]; exact zSel_2
                    have hWb : zSel r0_width.toInt r1_width.toInt r2_width.toInt r3_width.toInt (Int32.toInt 3) = r3_width.toInt := by rw [zc_3]; exact zSel_3
                    have hSb : zSel r0_size.toInt r1_size.toInt r2_size.toInt r3_size.toInt (Int32.toInt 3) = r3_size.toInt := by rw [zc_3]; exact zSel_3
                    have hsp : zPa (zSel r0_width.toInt r1_width.toInt r2_width.toInt r3_width.toInt) (zSel r0_size.toInt r1_size.toInt r2_size.toInt r3_size.toInt) (Int32.toInt 2) (p2.toInt) (Int32.toInt 3) (p4.toInt) (p5.toInt) (Int32.toInt 0) := zPa.at (by first | with_reducible assumption | omega) hWa hWb hSa hSb (Or.inr (Or.inr (Or.inr ⟨zr, by omega, by omega, by omega, by omega, by omega, by omega, by omega, by omega⟩)))
                    have zc : Int32.toInt 0 = 0 := by decide
                    exact W.iret (v := 0) hx hb hr (fun t ht hW => by rw [← hQe]; exact ⟨⟨0, (), rfl, ⟨by omega, by assumption⟩, ⟨f_r0_numbers, f_r1_numbers, f_r2_numbers, f_124, z_ret hP hK hD ht hW [0, 1, 2, 3, 4, 5, 8, 6, 9, 7] [] rfl (by decide) rfl⟩⟩, hS.F ht⟩) hS.2.2 dX9_paste_113
                  · have ic_123 := zz_nne rfl (show Int32.toInt 0 = 0 from by decide) c_123
                    replace s_r_122 := (s_r_122.resolve_right (fun h => absurd (ic_123.symm.trans h.1) (by decide))).2
                    refine lv_bipush (v := (-7)) hx hb dX9_paste_91 (by decide) ?_
                    have zr : Int32.toInt (-7) = (-7) := by decide
                    have hWa : zSel r0_width.toInt r1_width.toInt r2_width.toInt r3_width.toInt (Int32.toInt 2) = r2_width.toInt := by rw [zc_2]; exact zSel_2
                    have hSa : zSel r0_size.toInt r1_size.toInt r2_size.toInt r3_size.toInt (Int32.toInt 2) = r2_size.toInt := by rw [zc_2]; exact zSel_2
                    have hWb : zSel r0_width.toInt r1_width.toInt r2_width.toInt r3_width.toInt (Int32.toInt 3) = r3_width.toInt := by rw [zc_3]; exact zSel_3
                    have hSb : zSel r0_size.toInt r1_size.toInt r2_size.toInt r3_size.toInt (Int32.toInt 3) = r3_size.toInt := by rw [zc_3]; exact zSel_3
                    have hsp : zPa (zSel r0_width.toInt r1_width.toInt r2_width.toInt r3_width.toInt) (zSel r0_size.toInt r1_size.toInt r2_size.toInt r3_size.toInt) (Int32.toInt 2) (p2.toInt) (Int32.toInt 3) (p4.toInt) (p5.toInt) (Int32.toInt (-7)) := zPa.at (by first | with_reducible assumption | omega) hWa hWb hSa hSb (Or.inr (Or.inr (Or.inl ⟨zr, by omega, by omega, by omega, by omega⟩)))
                    have zc : Int32.toInt (-7) = (-7) := by decide
                    exact W.iret (v := (-7)) hx hb hr (fun t ht hW => by rw [← hQe]; exact ⟨⟨(-7), (), rfl, ⟨by omega, by assumption⟩, ⟨f_r0_numbers, f_r1_numbers, f_r2_numbers, f_r3_numbers, z_ret hP hK hD ht hW [0, 1, 2, 3, 4, 5, 8, 6, 9, 7] [] rfl (by decide) rfl⟩⟩, hS.F ht⟩) hS.2.2 dX9_paste_93
              · have ic_119 := zz_neq rfl rfl c_119
                refine lv_bipush (v := (-8)) hx hb dX9_paste_65 (by decide) ?_
                have zr : Int32.toInt (-8) = (-8) := by decide
                have hWa : zSel r0_width.toInt r1_width.toInt r2_width.toInt r3_width.toInt (Int32.toInt 2) = r2_width.toInt := by rw [zc_2]; exact zSel_2
                have hSa : zSel r0_size.toInt r1_size.toInt r2_size.toInt r3_size.toInt (Int32.toInt 2) = r2_size.toInt := by rw [zc_2]; exact zSel_2
                have hWb : zSel r0_width.toInt r1_width.toInt r2_width.toInt r3_width.toInt (Int32.toInt 3) = r3_width.toInt := by rw [zc_3]; exact zSel_3
                have hSb : zSel r0_size.toInt r1_size.toInt r2_size.toInt r3_size.toInt (Int32.toInt 3) = r3_size.toInt := by rw [zc_3]; exact zSel_3
                have hsp : zPa (zSel r0_width.toInt r1_width.toInt r2_width.toInt r3_width.toInt) (zSel r0_size.toInt r1_size.toInt r2_size.toInt r3_size.toInt) (Int32.toInt 2) (p2.toInt) (Int32.toInt 3) (p4.toInt) (p5.toInt) (Int32.toInt (-8)) := zPa.at (by first | with_reducible assumption | omega) hWa hWb hSa hSb (Or.inr (Or.inl ⟨zr, by omega, by omega, by omega⟩))
                have zc : Int32.toInt (-8) = (-8) := by decide
                exact W.iret (v := (-8)) hx hb hr (fun t ht hW => by rw [← hQe]; exact ⟨⟨(-8), (), rfl, ⟨by omega, by assumption⟩, ⟨f_r0_numbers, f_r1_numbers, f_r2_numbers, f_r3_numbers, z_ret hP hK hD ht hW [0, 1, 2, 3, 4, 5, 8, 6, 9, 7] [] rfl (by decide) rfl⟩⟩, hS.F ht⟩) hS.2.2 dX9_paste_67
            · have ic_118 := zz_nne rfl (show Int32.toInt 0 = 0 from by decide) c_118
              replace s_r_117 := (s_r_117.resolve_right (fun h => absurd (ic_118.symm.trans h.1) (by decide))).2
              refine lv_bipush (v := (-6)) hx hb dX9_paste_49 (by decide) ?_
              have zr : Int32.toInt (-6) = (-6) := by decide
              have hWa : zSel r0_width.toInt r1_width.toInt r2_width.toInt r3_width.toInt (Int32.toInt 2) = r2_width.toInt := by rw [zc_2]; exact zSel_2
              have hSa : zSel r0_size.toInt r1_size.toInt r2_size.toInt r3_size.toInt (Int32.toInt 2) = r2_size.toInt := by rw [zc_2]; exact zSel_2
              have hWb : zSel r0_width.toInt r1_width.toInt r2_width.toInt r3_width.toInt (Int32.toInt 3) = r3_width.toInt := by rw [zc_3]; exact zSel_3
              have hSb : zSel r0_size.toInt r1_size.toInt r2_size.toInt r3_size.toInt (Int32.toInt 3) = r3_size.toInt := by rw [zc_3]; exact zSel_3
              have hsp : zPa (zSel r0_width.toInt r1_width.toInt r2_width.toInt r3_width.toInt) (zSel r0_size.toInt r1_size.toInt r2_size.toInt r3_size.toInt) (Int32.toInt 2) (p2.toInt) (Int32.toInt 3) (p4.toInt) (p5.toInt) (Int32.toInt (-6)) := zPa.at (by first | with_reducible assumption | omega) hWa hWb hSa hSb (Or.inl ⟨zr, by omega⟩)
              have zc : Int32.toInt (-6) = (-6) := by decide
              exact W.iret (v := (-6)) hx hb hr (fun t ht hW => by rw [← hQe]; exact ⟨⟨(-6), (), rfl, ⟨by omega, by assumption⟩, ⟨f_r0_numbers, f_r1_numbers, f_r2_numbers, f_r3_numbers, z_ret hP hK hD ht hW [0, 1, 2, 3, 4, 5, 8, 6, 9, 7] [] rfl (by decide) rfl⟩⟩, hS.F ht⟩) hS.2.2 dX9_paste_51
        · omega
      · have zc_3 : Int32.toInt 3 = 3 := by decide
        refine va_aldq hx hb hK hP 1 0 rfl rfl (zi_in (show Int32.toInt 3 = 3 from by decide) (by first | with_reducible assumption | omega)) dX9_paste_22 ?_
        refine W.eq (g2 := F0 m 23 ls (.ref r3 :: [])) (by rw [show f_sl (Int32.toNatClampNeg 3) = some r3 from (by rw [show Int32.toNatClampNeg 3 = 3 from by decide]; exact hsl3)]; rfl) ?_
        refine lv_astore (lv' := [(6, .ref r3), (0, .ref h0), (1, .int 3), (2, .int p2), (3, .int p3), (4, .int p4), (5, .int p5)]) hx hb dX9_paste_23 hl (by decide) rfl (fun ls hl => ?_)
        refine lv_aload_n hx hb dX9_paste_25 rfl (lv_at hl 1 rfl) ?_
        refine va_get (D := (dC, dI)) (ci := 9) (v := .ref sl) (C := RX9) (T := TX9) (N := 13) hx hb hts zl_X9 hown hK hP 0 rfl rfl 6 (by decide) (hts _ zw_t2_195) (fun _ h9 => h9) rfl dX9_paste_26 ?_
        refine lv_iload_n hx hb dX9_paste_29 rfl (lv_at hl 4 rfl) ?_
        rcases z_s3 p3 with q_sw | rfl | rfl | rfl | rfl | q_sw
        · omega
        · have zc_0 : Int32.toInt 0 = 0 := by decide
          refine va_aldq hx hb hK hP 1 0 rfl rfl (zi_in (show Int32.toInt 0 = 0 from by decide) (by first | with_reducible assumption | omega)) dX9_paste_30 ?_
          refine W.eq (g2 := F0 m 31 ls (.ref r0 :: [])) (by rw [show f_sl (Int32.toNatClampNeg 0) = some r0 from (by rw [show Int32.toNatClampNeg 0 = 0 from by decide]; exact hsl0)]; rfl) ?_
          refine lv_astore (lv' := [(7, .ref r0), (6, .ref r3), (0, .ref h0), (1, .int 3), (2, .int p2), (3, .int 0), (4, .int p4), (5, .int p5)]) hx hb dX9_paste_31 hl (by decide) rfl (fun ls hl => ?_)
          refine lv_aload hx hb dX9_paste_33 (lv_at hl 1 rfl) ?_
          obtain ⟨hPc, hDc, hFc⟩ := z_cut (wc := (zV6 r3 r3_width r3_size r3_numbers)) hP hD hS hA [8] rfl (by decide +kernel)
          have hKc := hK.sub (tys' := []) [] rfl
          refine va_calli (va_runV (As := []) (rest := []) ⟨hx, hb, hml, hown, hts⟩ (k_X6_isThere_v1 l sa dC dI r3 r3_width r3_size r3_numbers b_r3_size H.size) (cwV 0 hts (z_gV zw_t5_222 zw_t5_223 zw_t5_224 zw_t1_10 zw_t5_225) rfl rfl rfl (by decide +kernel) (by rw [← hRe]; exact ⟨(Nat.le_of_ble_eq_true rfl), (Nat.le_of_ble_eq_true rfl)⟩)) (z_preV hPc hKc hDc hN hXs hS hFc (q := (RX6, TX6, 3)) (ci := 6) (q0 := 0) rfl rfl) rfl rfl hl.1 rfl (lv_room (Nat.le_of_ble_eq_true rfl)) dX9_paste_35 (by rw [← hRe]; exact ⟨(Nat.le_of_ble_eq_true rfl), (Nat.le_of_ble_eq_true rfl)⟩)) hS (fun q _ h => hFc q h) hFc (fun r_125 u t H1 locs ht hvm hw hB hz1 hk1 hS => ?_)
          obtain ⟨hP, hD, hK⟩ := z_after3 (wn := (zV170 h0 tp h0_tapeLength h0_faultKind h0_faultPlace nw im sl rd wk fm mt ch dy sl cA_sl f_sl r0 r0_width r0_size r0_numbers r0_numbers cA_r0_numbers f_r0_numbers r1 r1_width r1_size r1_numbers r1_numbers cA_r1_numbers f_r1_numbers r2 r2_width r2_size r2_numbers r2_numbers cA_r2_numbers f_r2_numbers r3_numbers cA_r3_numbers f_r3_numbers r3 r3_width r3_size r3_numbers)) hB ht hvm hP hD hK [8] [0, 1, 2, 3, 4, 5, 6, 7, 9] rfl 10 rfl (by decide +kernel) rfl (by decide +kernel) hk1 hFc
          generalize H1 = H at hP hS ⊢
          have hK : va_K (dC, dI) vwCl [(cA_sl, .object RX6), (cA_r0_numbers, .long), (cA_r1_numbers, .long), (cA_r2_numbers, .long), (cA_r3_numbers, .long)] s := hK
          have b_r_125 : 0 ≤ r_125.toInt ∧ r_125.toInt ≤ 1 := hw.1
          have s_r_125 := hw.2
          refine lv_if_eq (tgt := 49) hx hb dX9_paste_38 (by decide) (fun c_126 => ?_) (fun c_126 => ?_)
          · have ic_126 := zz_eq rfl (show Int32.toInt 0 = 0 from by decide) c_126
            replace s_r_125 := (s_r_125.resolve_right (fun h => absurd (ic_126.symm.trans h.1) (by decide))).2
            refine lv_bipush (v := (-6)) hx hb dX9_paste_49 (by decide) ?_
            have zr : Int32.toInt (-6) = (-6) := by decide
            have hWa : zSel r0_width.toInt r1_width.toInt r2_width.toInt r3_width.toInt (Int32.toInt 3) = r3_width.toInt := by rw [zc_3]; exact zSel_3
            have hSa : zSel r0_size.toInt r1_size.toInt r2_size.toInt r3_size.toInt (Int32.toInt 3) = r3_size.toInt := by rw [zc_3]; exact zSel_3
            have hWb : zSel r0_width.toInt r1_width.toInt r2_width.toInt r3_width.toInt (Int32.toInt 0) = r0_width.toInt := by rw [zc_0]; exact zSel_0
            have hSb : zSel r0_size.toInt r1_size.toInt r2_size.toInt r3_size.toInt (Int32.toInt 0) = r0_size.toInt := by rw [zc_0]; exact zSel_0
            have hsp : zPa (zSel r0_width.toInt r1_width.toInt r2_width.toInt r3_width.toInt) (zSel r0_size.toInt r1_size.toInt r2_size.toInt r3_size.toInt) (Int32.toInt 3) (p2.toInt) (Int32.toInt 0) (p4.toInt) (p5.toInt) (Int32.toInt (-6)) := zPa.at (by first | with_reducible assumption | omega) hWa hWb hSa hSb (Or.inl ⟨zr, by omega⟩)
            have zc : Int32.toInt (-6) = (-6) := by decide
            exact W.iret (v := (-6)) hx hb hr (fun t ht hW => by rw [← hQe]; exact ⟨⟨(-6), (), rfl, ⟨by omega, by assumption⟩, ⟨f_r0_numbers, f_r1_numbers, f_r2_numbers, f_r3_numbers, z_ret hP hK hD ht hW [0, 1, 2, 3, 4, 5, 6, 7, 9, 8] [] rfl (by decide) rfl⟩⟩, hS.F ht⟩) hS.2.2 dX9_paste_51
          · have ic_126 := zz_neq rfl (show Int32.toInt 0 = 0 from by decide) c_126
            replace s_r_125 := (s_r_125.resolve_left (fun h => ic_126 h.1)).2
            refine lv_aload hx hb dX9_paste_41 (lv_at hl 0 rfl) ?_
            obtain ⟨hPc, hDc, hFc⟩ := z_cut (wc := (zV6 r0 r0_width r0_size r0_numbers)) hP hD hS hA [2] rfl (by decide +kernel)
            have hKc := hK.sub (tys' := []) [] rfl
            refine va_calli (va_runV (As := []) (rest := []) ⟨hx, hb, hml, hown, hts⟩ (k_X6_isThere_v1 l sa dC dI r0 r0_width r0_size r0_numbers b_r0_size H.size) (cwV 0 hts (z_gV zw_t5_222 zw_t5_223 zw_t5_224 zw_t1_10 zw_t5_225) rfl rfl rfl (by decide +kernel) (by rw [← hRe]; exact ⟨(Nat.le_of_ble_eq_true rfl), (Nat.le_of_ble_eq_true rfl)⟩)) (z_preV hPc hKc hDc hN hXs hS hFc (q := (RX6, TX6, 3)) (ci := 6) (q0 := 0) rfl rfl) rfl rfl hl.1 rfl (lv_room (Nat.le_of_ble_eq_true rfl)) dX9_paste_43 (by rw [← hRe]; exact ⟨(Nat.le_of_ble_eq_true rfl), (Nat.le_of_ble_eq_true rfl)⟩)) hS (fun q _ h => hFc q h) hFc (fun r_127 u t H1 locs ht hvm hw hB hz1 hk1 hS => ?_)
            obtain ⟨hP, hD, hK⟩ := z_after3 (wn := (zV392 h0 tp h0_tapeLength h0_faultKind h0_faultPlace nw im sl rd wk fm mt ch dy sl cA_sl f_sl r0_numbers cA_r0_numbers f_r0_numbers r1 r1_width r1_size r1_numbers r1_numbers cA_r1_numbers f_r1_numbers r2 r2_width r2_size r2_numbers r2_numbers cA_r2_numbers f_r2_numbers r3_numbers cA_r3_numbers f_r3_numbers r3 r3_width r3_size r3_numbers r0 r0_width r0_size r0_numbers)) hB ht hvm hP hD hK [2] [0, 1, 3, 4, 5, 6, 7, 8, 9] rfl 10 rfl (by decide +kernel) rfl (by decide +kernel) hk1 hFc
            generalize H1 = H at hP hS ⊢
            have hK : va_K (dC, dI) vwCl [(cA_sl, .object RX6), (cA_r0_numbers, .long), (cA_r1_numbers, .long), (cA_r2_numbers, .long), (cA_r3_numbers, .long)] s := hK
            have b_r_127 : 0 ≤ r_127.toInt ∧ r_127.toInt ≤ 1 := hw.1
            have s_r_127 := hw.2
            refine lv_if_ne (tgt := 52) hx hb dX9_paste_46 (by decide) (fun c_128 => ?_) (fun c_128 => ?_)
            · have ic_128 := zz_ne rfl (show Int32.toInt 0 = 0 from by decide) c_128
              replace s_r_127 := (s_r_127.resolve_left (fun h => ic_128 h.1)).2
              refine lv_aload hx hb dX9_paste_52 (lv_at hl 1 rfl) ?_
              refine va_get (D := (dC, dI)) (ci := 6) (v := .int r3_width) (C := RX6) (T := TX6) (N := 3) hx hb hts zl_X6 hown hK hP 8 rfl rfl 0 (by decide) (hts _ zw_t2_176) (fun _ h9 => h9) rfl dX9_paste_54 ?_
              refine lv_aload hx hb dX9_paste_57 (lv_at hl 0 rfl) ?_
              refine va_get (D := (dC, dI)) (ci := 6) (v := .int r0_width) (C := RX6) (T := TX6) (N := 3) hx hb hts zl_X6 hown hK hP 9 rfl rfl 0 (by decide) (hts _ zw_t2_176) (fun _ h9 => h9) rfl dX9_paste_59 ?_
              have nb_r3_width := zi_nb r3_width
              have nb_r0_width := zi_nb r0_width
              refine lv_icmp_eq (tgt := 68) hx hb dX9_paste_62 (by decide) (fun c_129 => ?_) (fun c_129 => ?_)
              · have ic_129 := zz_eq rfl rfl c_129
                refine lv_aload hx hb dX9_paste_68 (lv_at hl 1 rfl) ?_
                refine lv_iload_n hx hb dX9_paste_70 rfl (lv_at hl 4 rfl) ?_
                refine lv_iload hx hb dX9_paste_71 (lv_at hl 7 rfl) ?_
                obtain ⟨hPc, hDc, hFc⟩ := z_cut (wc := (zV6 r3 r3_width r3_size r3_numbers)) hP hD hS hA [8] rfl (by decide +kernel)
                have hKc := hK.sub (tys' := []) [] rfl
                refine va_calli (va_runV (As := [.int p2, .int p5]) (rest := []) ⟨hx, hb, hml, hown, hts⟩ (k_X6_hasSpan_v1 l sa dC dI r3 p2 p5 r3_width r3_size r3_numbers b_r3_size H.size) (cwV 2 hts (z_gV zw_t6_80 zw_t6_81 zw_t6_82 zw_t1_10 zw_t6_83) rfl rfl rfl (by decide +kernel) (by rw [← hRe]; exact ⟨(Nat.le_of_ble_eq_true rfl), (Nat.le_of_ble_eq_true rfl)⟩)) (z_preV hPc hKc hDc hN hXs hS hFc (q := (RX6, TX6, 3)) (ci := 6) (q0 := 0) rfl rfl) rfl rfl hl.1 rfl (lv_room (Nat.le_of_ble_eq_true rfl)) dX9_paste_73 (by rw [← hRe]; exact ⟨(Nat.le_of_ble_eq_true rfl), (Nat.le_of_ble_eq_true rfl)⟩)) hS (fun q _ h => hFc q h) hFc (fun r_130 u t H1 locs ht hvm hw hB hz1 hk1 hS => ?_)
                obtain ⟨hP, hD, hK⟩ := z_after3 (wn := (zV392 h0 tp h0_tapeLength h0_faultKind h0_faultPlace nw im sl rd wk fm mt ch dy sl cA_sl f_sl r0_numbers cA_r0_numbers f_r0_numbers r1 r1_width r1_size r1_numbers r1_numbers cA_r1_numbers f_r1_numbers r2 r2_width r2_size r2_numbers r2_numbers cA_r2_numbers f_r2_numbers r3_numbers cA_r3_numbers f_r3_numbers r0 r0_width r0_size r0_numbers r3 r3_width r3_size r3_numbers)) hB ht hvm hP hD hK [8] [0, 1, 2, 3, 4, 5, 6, 7, 9] rfl 10 rfl (by decide +kernel) rfl (by decide +kernel) hk1 hFc
                generalize H1 = H at hP hS ⊢
                have hK : va_K (dC, dI) vwCl [(cA_sl, .object RX6), (cA_r0_numbers, .long), (cA_r1_numbers, .long), (cA_r2_numbers, .long), (cA_r3_numbers, .long)] s := hK
                have b_r_130 : 0 ≤ r_130.toInt ∧ r_130.toInt ≤ 1 := hw.1
                have s_r_130 := hw.2
                refine lv_if_eq (tgt := 91) hx hb dX9_paste_76 (by decide) (fun c_131 => ?_) (fun c_131 => ?_)
                · have ic_131 := zz_eq rfl (show Int32.toInt 0 = 0 from by decide) c_131
                  replace s_r_130 := (s_r_130.resolve_right (fun h => absurd (ic_131.symm.trans h.1) (by decide))).2
                  refine lv_bipush (v := (-7)) hx hb dX9_paste_91 (by decide) ?_
                  have zr : Int32.toInt (-7) = (-7) := by decide
                  have hWa : zSel r0_width.toInt r1_width.toInt r2_width.toInt r3_width.toInt (Int32.toInt 3) = r3_width.toInt := by rw [zc_3]; exact zSel_3
                  have hSa : zSel r0_size.toInt r1_size.toInt r2_size.toInt r3_size.toInt (Int32.toInt 3) = r3_size.toInt := by rw [zc_3]; exact zSel_3
                  have hWb : zSel r0_width.toInt r1_width.toInt r2_width.toInt r3_width.toInt (Int32.toInt 0) = r0_width.toInt := by rw [zc_0]; exact zSel_0
                  have hSb : zSel r0_size.toInt r1_size.toInt r2_size.toInt r3_size.toInt (Int32.toInt 0) = r0_size.toInt := by rw [zc_0]; exact zSel_0
                  have hsp : zPa (zSel r0_width.toInt r1_width.toInt r2_width.toInt r3_width.toInt) (zSel r0_size.toInt r1_size.toInt r2_size.toInt r3_size.toInt) (Int32.toInt 3) (p2.toInt) (Int32.toInt 0) (p4.toInt) (p5.toInt) (Int32.toInt (-7)) := zPa.at (by first | with_reducible assumption | omega) hWa hWb hSa hSb (Or.inr (Or.inr (Or.inl ⟨zr, by omega, by omega, by omega, by omega⟩)))
                  have zc : Int32.toInt (-7) = (-7) := by decide
                  exact W.iret (v := (-7)) hx hb hr (fun t ht hW => by rw [← hQe]; exact ⟨⟨(-7), (), rfl, ⟨by omega, by assumption⟩, ⟨f_r0_numbers, f_r1_numbers, f_r2_numbers, f_r3_numbers, z_ret hP hK hD ht hW [0, 1, 8, 2, 3, 4, 5, 6, 9, 7] [] rfl (by decide) rfl⟩⟩, hS.F ht⟩) hS.2.2 dX9_paste_93
                · have ic_131 := zz_neq rfl (show Int32.toInt 0 = 0 from by decide) c_131
                  replace s_r_130 := (s_r_130.resolve_left (fun h => ic_131 h.1)).2
                  refine lv_aload hx hb dX9_paste_79 (lv_at hl 0 rfl) ?_
                  refine lv_iload hx hb dX9_paste_81 (lv_at hl 6 rfl) ?_
                  refine lv_iload hx hb dX9_paste_83 (lv_at hl 7 rfl) ?_
                  obtain ⟨hPc, hDc, hFc⟩ := z_cut (wc := (zV6 r0 r0_width r0_size r0_numbers)) hP hD hS hA [8] rfl (by decide +kernel)
                  have hKc := hK.sub (tys' := []) [] rfl
                  refine va_calli (va_runV (As := [.int p4, .int p5]) (rest := []) ⟨hx, hb, hml, hown, hts⟩ (k_X6_hasSpan_v1 l sa dC dI r0 p4 p5 r0_width r0_size r0_numbers b_r0_size H.size) (cwV 2 hts (z_gV zw_t6_80 zw_t6_81 zw_t6_82 zw_t1_10 zw_t6_83) rfl rfl rfl (by decide +kernel) (by rw [← hRe]; exact ⟨(Nat.le_of_ble_eq_true rfl), (Nat.le_of_ble_eq_true rfl)⟩)) (z_preV hPc hKc hDc hN hXs hS hFc (q := (RX6, TX6, 3)) (ci := 6) (q0 := 0) rfl rfl) rfl rfl hl.1 rfl (lv_room (Nat.le_of_ble_eq_true rfl)) dX9_paste_85 (by rw [← hRe]; exact ⟨(Nat.le_of_ble_eq_true rfl), (Nat.le_of_ble_eq_true rfl)⟩)) hS (fun q _ h => hFc q h) hFc (fun r_132 u t H1 locs ht hvm hw hB hz1 hk1 hS => ?_)
                  obtain ⟨hP, hD, hK⟩ := z_after3 (wn := (zV392 h0 tp h0_tapeLength h0_faultKind h0_faultPlace nw im sl rd wk fm mt ch dy sl cA_sl f_sl r0_numbers cA_r0_numbers f_r0_numbers r1 r1_width r1_size r1_numbers r1_numbers cA_r1_numbers f_r1_numbers r2 r2_width r2_size r2_numbers r2_numbers cA_r2_numbers f_r2_numbers r3_numbers cA_r3_numbers f_r3_numbers r3 r3_width r3_size r3_numbers r0 r0_width r0_size r0_numbers)) hB ht hvm hP hD hK [8] [0, 1, 2, 3, 4, 5, 6, 7, 9] rfl 10 rfl (by decide +kernel) rfl (by decide +kernel) hk1 hFc
                  generalize H1 = H at hP hS ⊢
                  have hK : va_K (dC, dI) vwCl [(cA_sl, .object RX6), (cA_r0_numbers, .long), (cA_r1_numbers, .long), (cA_r2_numbers, .long), (cA_r3_numbers, .long)] s := hK
                  have b_r_132 : 0 ≤ r_132.toInt ∧ r_132.toInt ≤ 1 := hw.1
                  have s_r_132 := hw.2
                  refine lv_if_ne (tgt := 94) hx hb dX9_paste_88 (by decide) (fun c_133 => ?_) (fun c_133 => ?_)
                  · have ic_133 := zz_ne rfl (show Int32.toInt 0 = 0 from by decide) c_133
                    replace s_r_132 := (s_r_132.resolve_left (fun h => ic_133 h.1)).2
                    refine lv_aload hx hb dX9_paste_94 (lv_at hl 1 rfl) ?_
                    refine va_get (D := (dC, dI)) (ci := 6) (v := .ref r3_numbers) (C := RX6) (T := TX6) (N := 3) hx hb hts zl_X6 hown hK hP 8 rfl rfl 2 (by decide) (hts _ zw_t2_181) (fun _ h9 => h9) rfl dX9_paste_96 ?_
                    refine lv_iload_n hx hb dX9_paste_99 rfl (lv_at hl 4 rfl) ?_
                    refine lv_aload hx hb dX9_paste_100 (lv_at hl 0 rfl) ?_
                    refine va_get (D := (dC, dI)) (ci := 6) (v := .ref r0_numbers) (C := RX6) (T := TX6) (N := 3) hx hb hts zl_X6 hown hK hP 9 rfl rfl 2 (by decide) (hts _ zw_t2_181) (fun _ h9 => h9) rfl dX9_paste_102 ?_
                    refine lv_iload hx hb dX9_paste_105 (lv_at hl 6 rfl) ?_
                    refine lv_iload hx hb dX9_paste_107 (lv_at hl 7 rfl) ?_
                    have kc_p2 := zi_clamp (x := p2) rfl (by first | with_reducible assumption | omega)
                    have kc_p4 := zi_clamp (x := p4) rfl (by first | with_reducible assumption | omega)
                    have kc_p5 := zi_clamp (x := p5) rfl (by first | with_reducible assumption | omega)
                    refine va_copyl hx hb (by rw [hml]; exact hl.1.symm) hown (hts _ zw_t6_92) (hts _ zw_t4_39) (hts _ zw_t4_38) (hts _ zw_t1_18) hK hP hD hS 7 2 4 1 rfl rfl rfl rfl rfl (fun q => absurd (z_lt (k := 0) (by decide) q) (by first | with_reducible assumption | omega)) (fun q => absurd (z_lt (k := 0) (by decide) q) (by first | with_reducible assumption | omega)) (fun q => absurd (z_lt (k := 0) (by decide) q) (by first | with_reducible assumption | omega)) (by first | with_reducible assumption | omega) (by first | with_reducible assumption | omega) (fun _ _ => rfl) (by rw [← hRe]; exact (Nat.le_of_ble_eq_true rfl)) (by rw [← hRe]; exact (Nat.le_of_ble_eq_true rfl)) dX9_paste_109 (fun H locs hP hD hS => ?_)
                    obtain ⟨f_134, ef_134⟩ : ∃ g : Nat → Int64, g = va_cpy f_r3_numbers f_r0_numbers (Int32.toNatClampNeg p2) (Int32.toNatClampNeg p4) (Int32.toNatClampNeg p5) := ⟨_, rfl⟩
                    have hP : va_P (dC, dI) vwCl (zV392 h0 tp h0_tapeLength h0_faultKind h0_faultPlace nw im sl rd wk fm mt ch dy sl cA_sl f_sl r0_numbers cA_r0_numbers (va_cpy f_r3_numbers f_r0_numbers (Int32.toNatClampNeg p2) (Int32.toNatClampNeg p4) (Int32.toNatClampNeg p5)) r1 r1_width r1_size r1_numbers r1_numbers cA_r1_numbers f_r1_numbers r2 r2_width r2_size r2_numbers r2_numbers cA_r2_numbers f_r2_numbers r3_numbers cA_r3_numbers f_r3_numbers r3 r3_width r3_size r3_numbers r0 r0_width r0_size r0_numbers) H := hP
                    have hD : va_D A (zV392 h0 tp h0_tapeLength h0_faultKind h0_faultPlace nw im sl rd wk fm mt ch dy sl cA_sl f_sl r0_numbers cA_r0_numbers (va_cpy f_r3_numbers f_r0_numbers (Int32.toNatClampNeg p2) (Int32.toNatClampNeg p4) (Int32.toNatClampNeg p5)) r1 r1_width r1_size r1_numbers r1_numbers cA_r1_numbers f_r1_numbers r2 r2_width r2_size r2_numbers r2_numbers cA_r2_numbers f_r2_numbers r3_numbers cA_r3_numbers f_r3_numbers r3 r3_width r3_size r3_numbers r0 r0_width r0_size r0_numbers) := hD
                    rw [← ef_134] at hP hD
                    refine lv_iconst (v := 0) hx hb dX9_paste_112 (by decide) ?_
                    have zr : Int32.toInt 0 = 0 := by decide
                    have hWa : zSel r0_width.toInt r1_width.toInt r2_width.toInt r3_width.toInt (Int32.toInt 3) = r3_width.toInt := by rw [zc_3]; exact zSel_3
                    have hSa : zSel r0_size.toInt r1_size.toInt r2_size.toInt r3_size.toInt (Int32.toInt 3) = r3_size.toInt := by rw [zc_3]; exact zSel_3
                    have hWb : zSel r0_width.toInt r1_width.toInt r2_width.toInt r3_width.toInt (Int32.toInt 0) = r0_width.toInt := by rw [zc_0]; exact zSel_0
                    have hSb : zSel r0_size.toInt r1_size.toInt r2_size.toInt r3_size.toInt (Int32.toInt 0) = r0_size.toInt := by rw [zc_0]; exact zSel_0
                    have hsp : zPa (zSel r0_width.toInt r1_width.toInt r2_width.toInt r3_width.toInt) (zSel r0_size.toInt r1_size.toInt r2_size.toInt r3_size.toInt) (Int32.toInt 3) (p2.toInt) (Int32.toInt 0) (p4.toInt) (p5.toInt) (Int32.toInt 0) := zPa.at (by first | with_reducible assumption | omega) hWa hWb hSa hSb (Or.inr (Or.inr (Or.inr ⟨zr, by omega, by omega, by omega, by omega, by omega, by omega, by omega, by omega⟩)))
                    have zc : Int32.toInt 0 = 0 := by decide
                    exact W.iret (v := 0) hx hb hr (fun t ht hW => by rw [← hQe]; exact ⟨⟨0, (), rfl, ⟨by omega, by assumption⟩, ⟨f_134, f_r1_numbers, f_r2_numbers, f_r3_numbers, z_ret hP hK hD ht hW [0, 1, 9, 2, 3, 4, 5, 6, 8, 7] [] rfl (by decide) rfl⟩⟩, hS.F ht⟩) hS.2.2 dX9_paste_113
                  · have ic_133 := zz_nne rfl (show Int32.toInt 0 = 0 from by decide) c_133
                    replace s_r_132 := (s_r_132.resolve_right (fun h => absurd (ic_133.symm.trans h.1) (by decide))).2
                    refine lv_bipush (v := (-7)) hx hb dX9_paste_91 (by decide) ?_
                    have zr : Int32.toInt (-7) = (-7) := by decide
                    have hWa : zSel r0_width.toInt r1_width.toInt r2_width.toInt r3_width.toInt (Int32.toInt 3) = r3_width.toInt := by rw [zc_3]; exact zSel_3
                    have hSa : zSel r0_size.toInt r1_size.toInt r2_size.toInt r3_size.toInt (Int32.toInt 3) = r3_size.toInt := by rw [zc_3]; exact zSel_3
                    have hWb : zSel r0_width.toInt r1_width.toInt r2_width.toInt r3_width.toInt (Int32.toInt 0) = r0_width.toInt := by rw [zc_0]; exact zSel_0
                    have hSb : zSel r0_size.toInt r1_size.toInt r2_size.toInt r3_size.toInt (Int32.toInt 0) = r0_size.toInt := by rw [zc_0]; exact zSel_0
                    have hsp : zPa (zSel r0_width.toInt r1_width.toInt r2_width.toInt r3_width.toInt) (zSel r0_size.toInt r1_size.toInt r2_size.toInt r3_size.toInt) (Int32.toInt 3) (p2.toInt) (Int32.toInt 0) (p4.toInt) (p5.toInt) (Int32.toInt (-7)) := zPa.at (by first | with_reducible assumption | omega) hWa hWb hSa hSb (Or.inr (Or.inr (Or.inl ⟨zr, by omega, by omega, by omega, by omega⟩)))
                    have zc : Int32.toInt (-7) = (-7) := by decide
                    exact W.iret (v := (-7)) hx hb hr (fun t ht hW => by rw [← hQe]; exact ⟨⟨(-7), (), rfl, ⟨by omega, by assumption⟩, ⟨f_r0_numbers, f_r1_numbers, f_r2_numbers, f_r3_numbers, z_ret hP hK hD ht hW [0, 1, 9, 2, 3, 4, 5, 6, 8, 7] [] rfl (by decide) rfl⟩⟩, hS.F ht⟩) hS.2.2 dX9_paste_93
              · have ic_129 := zz_neq rfl rfl c_129
                refine lv_bipush (v := (-8)) hx hb dX9_paste_65 (by decide) ?_
                have zr : Int32.toInt (-8) = (-8) := by decide
                have hWa : zSel r0_width.toInt r1_width.toInt r2_width.toInt r3_width.toInt (Int32.toInt 3) = r3_width.toInt := by rw [zc_3]; exact zSel_3
                have hSa : zSel r0_size.toInt r1_size.toInt r2_size.toInt r3_size.toInt (Int32.toInt 3) = r3_size.toInt := by rw [zc_3]; exact zSel_3
                have hWb : zSel r0_width.toInt r1_width.toInt r2_width.toInt r3_width.toInt (Int32.toInt 0) = r0_width.toInt := by rw [zc_0]; exact zSel_0
                have hSb : zSel r0_size.toInt r1_size.toInt r2_size.toInt r3_size.toInt (Int32.toInt 0) = r0_size.toInt := by rw [zc_0]; exact zSel_0
                have hsp : zPa (zSel r0_width.toInt r1_width.toInt r2_width.toInt r3_width.toInt) (zSel r0_size.toInt r1_size.toInt r2_size.toInt r3_size.toInt) (Int32.toInt 3) (p2.toInt) (Int32.toInt 0) (p4.toInt) (p5.toInt) (Int32.toInt (-8)) := zPa.at (by first | with_reducible assumption | omega) hWa hWb hSa hSb (Or.inr (Or.inl ⟨zr, by omega, by omega, by omega⟩))
                have zc : Int32.toInt (-8) = (-8) := by decide
                exact W.iret (v := (-8)) hx hb hr (fun t ht hW => by rw [← hQe]; exact ⟨⟨(-8), (), rfl, ⟨by omega, by assumption⟩, ⟨f_r0_numbers, f_r1_numbers, f_r2_numbers, f_r3_numbers, z_ret hP hK hD ht hW [0, 1, 9, 2, 3, 4, 5, 6, 8, 7] [] rfl (by decide) rfl⟩⟩, hS.F ht⟩) hS.2.2 dX9_paste_67
            · have ic_128 := zz_nne rfl (show Int32.toInt 0 = 0 from by decide) c_128
              replace s_r_127 := (s_r_127.resolve_right (fun h => absurd (ic_128.symm.trans h.1) (by decide))).2
              refine lv_bipush (v := (-6)) hx hb dX9_paste_49 (by decide) ?_
              have zr : Int32.toInt (-6) = (-6) := by decide
              have hWa : zSel r0_width.toInt r1_width.toInt r2_width.toInt r3_width.toInt (Int32.toInt 3) = r3_width.toInt := by rw [zc_3]; exact zSel_3
              have hSa : zSel r0_size.toInt r1_size.toInt r2_size.toInt r3_size.toInt (Int32.toInt 3) = r3_size.toInt := by rw [zc_3]; exact zSel_3
              have hWb : zSel r0_width.toInt r1_width.toInt r2_width.toInt r3_width.toInt (Int32.toInt 0) = r0_width.toInt := by rw [zc_0]; exact zSel_0
              have hSb : zSel r0_size.toInt r1_size.toInt r2_size.toInt r3_size.toInt (Int32.toInt 0) = r0_size.toInt := by rw [zc_0]; exact zSel_0
              have hsp : zPa (zSel r0_width.toInt r1_width.toInt r2_width.toInt r3_width.toInt) (zSel r0_size.toInt r1_size.toInt r2_size.toInt r3_size.toInt) (Int32.toInt 3) (p2.toInt) (Int32.toInt 0) (p4.toInt) (p5.toInt) (Int32.toInt (-6)) := zPa.at (by first | with_reducible assumption | omega) hWa hWb hSa hSb (Or.inl ⟨zr, by omega⟩)
              have zc : Int32.toInt (-6) = (-6) := by decide
              exact W.iret (v := (-6)) hx hb hr (fun t ht hW => by rw [← hQe]; exact ⟨⟨(-6), (), rfl, ⟨by omega, by assumption⟩, ⟨f_r0_numbers, f_r1_numbers, f_r2_numbers, f_r3_numbers, z_ret hP hK hD ht hW [0, 1, 9, 2, 3, 4, 5, 6, 8, 7] [] rfl (by decide) rfl⟩⟩, hS.F ht⟩) hS.2.2 dX9_paste_51
        · have zc_1 : Int32.toInt 1 = 1 := by decide
          refine va_aldq hx hb hK hP 1 0 rfl rfl (zi_in (show Int32.toInt 1 = 1 from by decide) (by first | with_reducible assumption | omega)) dX9_paste_30 ?_
          refine W.eq (g2 := F0 m 31 ls (.ref r1 :: [])) (by rw [show f_sl (Int32.toNatClampNeg 1) = some r1 from (by rw [show Int32.toNatClampNeg 1 = 1 from by decide]; exact hsl1)]; rfl) ?_
          refine lv_astore (lv' := [(7, .ref r1), (6, .ref r3), (0, .ref h0), (1, .int 3), (2, .int p2), (3, .int 1), (4, .int p4), (5, .int p5)]) hx hb dX9_paste_31 hl (by decide) rfl (fun ls hl => ?_)
          refine lv_aload hx hb dX9_paste_33 (lv_at hl 1 rfl) ?_
          obtain ⟨hPc, hDc, hFc⟩ := z_cut (wc := (zV6 r3 r3_width r3_size r3_numbers)) hP hD hS hA [8] rfl (by decide +kernel)
          have hKc := hK.sub (tys' := []) [] rfl
          refine va_calli (va_runV (As := []) (rest := []) ⟨hx, hb, hml, hown, hts⟩ (k_X6_isThere_v1 l sa dC dI r3 r3_width r3_size r3_numbers b_r3_size H.size) (cwV 0 hts (z_gV zw_t5_222 zw_t5_223 zw_t5_224 zw_t1_10 zw_t5_225) rfl rfl rfl (by decide +kernel) (by rw [← hRe]; exact ⟨(Nat.le_of_ble_eq_true rfl), (Nat.le_of_ble_eq_true rfl)⟩)) (z_preV hPc hKc hDc hN hXs hS hFc (q := (RX6, TX6, 3)) (ci := 6) (q0 := 0) rfl rfl) rfl rfl hl.1 rfl (lv_room (Nat.le_of_ble_eq_true rfl)) dX9_paste_35 (by rw [← hRe]; exact ⟨(Nat.le_of_ble_eq_true rfl), (Nat.le_of_ble_eq_true rfl)⟩)) hS (fun q _ h => hFc q h) hFc (fun r_135 u t H1 locs ht hvm hw hB hz1 hk1 hS => ?_)
          obtain ⟨hP, hD, hK⟩ := z_after3 (wn := (zV170 h0 tp h0_tapeLength h0_faultKind h0_faultPlace nw im sl rd wk fm mt ch dy sl cA_sl f_sl r0 r0_width r0_size r0_numbers r0_numbers cA_r0_numbers f_r0_numbers r1 r1_width r1_size r1_numbers r1_numbers cA_r1_numbers f_r1_numbers r2 r2_width r2_size r2_numbers r2_numbers cA_r2_numbers f_r2_numbers r3_numbers cA_r3_numbers f_r3_numbers r3 r3_width r3_size r3_numbers)) hB ht hvm hP hD hK [8] [0, 1, 2, 3, 4, 5, 6, 7, 9] rfl 10 rfl (by decide +kernel) rfl (by decide +kernel) hk1 hFc
          generalize H1 = H at hP hS ⊢
          have hK : va_K (dC, dI) vwCl [(cA_sl, .object RX6), (cA_r0_numbers, .long), (cA_r1_numbers, .long), (cA_r2_numbers, .long), (cA_r3_numbers, .long)] s := hK
          have b_r_135 : 0 ≤ r_135.toInt ∧ r_135.toInt ≤ 1 := hw.1
          have s_r_135 := hw.2
          refine lv_if_eq (tgt := 49) hx hb dX9_paste_38 (by decide) (fun c_136 => ?_) (fun c_136 => ?_)
          · have ic_136 := zz_eq rfl (show Int32.toInt 0 = 0 from by decide) c_136
            replace s_r_135 := (s_r_135.resolve_right (fun h => absurd (ic_136.symm.trans h.1) (by decide))).2
            refine lv_bipush (v := (-6)) hx hb dX9_paste_49 (by decide) ?_
            have zr : Int32.toInt (-6) = (-6) := by decide
            have hWa : zSel r0_width.toInt r1_width.toInt r2_width.toInt r3_width.toInt (Int32.toInt 3) = r3_width.toInt := by rw [zc_3]; exact zSel_3
            have hSa : zSel r0_size.toInt r1_size.toInt r2_size.toInt r3_size.toInt (Int32.toInt 3) = r3_size.toInt := by rw [zc_3]; exact zSel_3
            have hWb : zSel r0_width.toInt r1_width.toInt r2_width.toInt r3_width.toInt (Int32.toInt 1) = r1_width.toInt := by rw [zc_1]; exact zSel_1
            have hSb : zSel r0_size.toInt r1_size.toInt r2_size.toInt r3_size.toInt (Int32.toInt 1) = r1_size.toInt := by rw [zc_1]; exact zSel_1
            have hsp : zPa (zSel r0_width.toInt r1_width.toInt r2_width.toInt r3_width.toInt) (zSel r0_size.toInt r1_size.toInt r2_size.toInt r3_size.toInt) (Int32.toInt 3) (p2.toInt) (Int32.toInt 1) (p4.toInt) (p5.toInt) (Int32.toInt (-6)) := zPa.at (by first | with_reducible assumption | omega) hWa hWb hSa hSb (Or.inl ⟨zr, by omega⟩)
            have zc : Int32.toInt (-6) = (-6) := by decide
            exact W.iret (v := (-6)) hx hb hr (fun t ht hW => by rw [← hQe]; exact ⟨⟨(-6), (), rfl, ⟨by omega, by assumption⟩, ⟨f_r0_numbers, f_r1_numbers, f_r2_numbers, f_r3_numbers, z_ret hP hK hD ht hW [0, 1, 2, 3, 4, 5, 6, 7, 9, 8] [] rfl (by decide) rfl⟩⟩, hS.F ht⟩) hS.2.2 dX9_paste_51
          · have ic_136 := zz_neq rfl (show Int32.toInt 0 = 0 from by decide) c_136
            replace s_r_135 := (s_r_135.resolve_left (fun h => ic_136 h.1)).2
            refine lv_aload hx hb dX9_paste_41 (lv_at hl 0 rfl) ?_
            obtain ⟨hPc, hDc, hFc⟩ := z_cut (wc := (zV6 r1 r1_width r1_size r1_numbers)) hP hD hS hA [4] rfl (by decide +kernel)
            have hKc := hK.sub (tys' := []) [] rfl
            refine va_calli (va_runV (As := []) (rest := []) ⟨hx, hb, hml, hown, hts⟩ (k_X6_isThere_v1 l sa dC dI r1 r1_width r1_size r1_numbers b_r1_size H.size) (cwV 0 hts (z_gV zw_t5_222 zw_t5_223 zw_t5_224 zw_t1_10 zw_t5_225) rfl rfl rfl (by decide +kernel) (by rw [← hRe]; exact ⟨(Nat.le_of_ble_eq_true rfl), (Nat.le_of_ble_eq_true rfl)⟩)) (z_preV hPc hKc hDc hN hXs hS hFc (q := (RX6, TX6, 3)) (ci := 6) (q0 := 0) rfl rfl) rfl rfl hl.1 rfl (lv_room (Nat.le_of_ble_eq_true rfl)) dX9_paste_43 (by rw [← hRe]; exact ⟨(Nat.le_of_ble_eq_true rfl), (Nat.le_of_ble_eq_true rfl)⟩)) hS (fun q _ h => hFc q h) hFc (fun r_137 u t H1 locs ht hvm hw hB hz1 hk1 hS => ?_)
            obtain ⟨hP, hD, hK⟩ := z_after3 (wn := (zV394 h0 tp h0_tapeLength h0_faultKind h0_faultPlace nw im sl rd wk fm mt ch dy sl cA_sl f_sl r0 r0_width r0_size r0_numbers r0_numbers cA_r0_numbers f_r0_numbers r1_numbers cA_r1_numbers f_r1_numbers r2 r2_width r2_size r2_numbers r2_numbers cA_r2_numbers f_r2_numbers r3_numbers cA_r3_numbers f_r3_numbers r3 r3_width r3_size r3_numbers r1 r1_width r1_size r1_numbers)) hB ht hvm hP hD hK [4] [0, 1, 2, 3, 5, 6, 7, 8, 9] rfl 10 rfl (by decide +kernel) rfl (by decide +kernel) hk1 hFc
            generalize H1 = H at hP hS ⊢
            have hK : va_K (dC, dI) vwCl [(cA_sl, .object RX6), (cA_r0_numbers, .long), (cA_r1_numbers, .long), (cA_r2_numbers, .long), (cA_r3_numbers, .long)] s := hK
            have b_r_137 : 0 ≤ r_137.toInt ∧ r_137.toInt ≤ 1 := hw.1
            have s_r_137 := hw.2
            refine lv_if_ne (tgt := 52) hx hb dX9_paste_46 (by decide) (fun c_138 => ?_) (fun c_138 => ?_)
            · have ic_138 := zz_ne rfl (show Int32.toInt 0 = 0 from by decide) c_138
              replace s_r_137 := (s_r_137.resolve_left (fun h => ic_138 h.1)).2
              refine lv_aload hx hb dX9_paste_52 (lv_at hl 1 rfl) ?_
              refine va_get (D := (dC, dI)) (ci := 6) (v := .int r3_width) (C := RX6) (T := TX6) (N := 3) hx hb hts zl_X6 hown hK hP 8 rfl rfl 0 (by decide) (hts _ zw_t2_176) (fun _ h9 => h9) rfl dX9_paste_54 ?_
              refine lv_aload hx hb dX9_paste_57 (lv_at hl 0 rfl) ?_
              refine va_get (D := (dC, dI)) (ci := 6) (v := .int r1_width) (C := RX6) (T := TX6) (N := 3) hx hb hts zl_X6 hown hK hP 9 rfl rfl 0 (by decide) (hts _ zw_t2_176) (fun _ h9 => h9) rfl dX9_paste_59 ?_
              have nb_r3_width := zi_nb r3_width
              have nb_r1_width := zi_nb r1_width
              refine lv_icmp_eq (tgt := 68) hx hb dX9_paste_62 (by decide) (fun c_139 => ?_) (fun c_139 => ?_)
              · have ic_139 := zz_eq rfl rfl c_139
                refine lv_aload hx hb dX9_paste_68 (lv_at hl 1 rfl) ?_
                refine lv_iload_n hx hb dX9_paste_70 rfl (lv_at hl 4 rfl) ?_
                refine lv_iload hx hb dX9_paste_71 (lv_at hl 7 rfl) ?_
                obtain ⟨hPc, hDc, hFc⟩ := z_cut (wc := (zV6 r3 r3_width r3_size r3_numbers)) hP hD hS hA [8] rfl (by decide +kernel)
                have hKc := hK.sub (tys' := []) [] rfl
                refine va_calli (va_runV (As := [.int p2, .int p5]) (rest := []) ⟨hx, hb, hml, hown, hts⟩ (k_X6_hasSpan_v1 l sa dC dI r3 p2 p5 r3_width r3_size r3_numbers b_r3_size H.size) (cwV 2 hts (z_gV zw_t6_80 zw_t6_81 zw_t6_82 zw_t1_10 zw_t6_83) rfl rfl rfl (by decide +kernel) (by rw [← hRe]; exact ⟨(Nat.le_of_ble_eq_true rfl), (Nat.le_of_ble_eq_true rfl)⟩)) (z_preV hPc hKc hDc hN hXs hS hFc (q := (RX6, TX6, 3)) (ci := 6) (q0 := 0) rfl rfl) rfl rfl hl.1 rfl (lv_room (Nat.le_of_ble_eq_true rfl)) dX9_paste_73 (by rw [← hRe]; exact ⟨(Nat.le_of_ble_eq_true rfl), (Nat.le_of_ble_eq_true rfl)⟩)) hS (fun q _ h => hFc q h) hFc (fun r_140 u t H1 locs ht hvm hw hB hz1 hk1 hS => ?_)
                obtain ⟨hP, hD, hK⟩ := z_after3 (wn := (zV394 h0 tp h0_tapeLength h0_faultKind h0_faultPlace nw im sl rd wk fm mt ch dy sl cA_sl f_sl r0 r0_width r0_size r0_numbers r0_numbers cA_r0_numbers f_r0_numbers r1_numbers cA_r1_numbers f_r1_numbers r2 r2_width r2_size r2_numbers r2_numbers cA_r2_numbers f_r2_numbers r3_numbers cA_r3_numbers f_r3_numbers r1 r1_width r1_size r1_numbers r3 r3_width r3_size r3_numbers)) hB ht hvm hP hD hK [8] [0, 1, 2, 3, 4, 5, 6, 7, 9] rfl 10 rfl (by decide +kernel) rfl (by decide +kernel) hk1 hFc
                generalize H1 = H at hP hS ⊢
                have hK : va_K (dC, dI) vwCl [(cA_sl, .object RX6), (cA_r0_numbers, .long), (cA_r1_numbers, .long), (cA_r2_numbers, .long), (cA_r3_numbers, .long)] s := hK
                have b_r_140 : 0 ≤ r_140.toInt ∧ r_140.toInt ≤ 1 := hw.1
                have s_r_140 := hw.2
                refine lv_if_eq (tgt := 91) hx hb dX9_paste_76 (by decide) (fun c_141 => ?_) (fun c_141 => ?_)
                · have ic_141 := zz_eq rfl (show Int32.toInt 0 = 0 from by decide) c_141
                  replace s_r_140 := (s_r_140.resolve_right (fun h => absurd (ic_141.symm.trans h.1) (by decide))).2
                  refine lv_bipush (v := (-7)) hx hb dX9_paste_91 (by decide) ?_
                  have zr : Int32.toInt (-7) = (-7) := by decide
                  have hWa : zSel r0_width.toInt r1_width.toInt r2_width.toInt r3_width.toInt (Int32.toInt 3) = r3_width.toInt := by rw [zc_3]; exact zSel_3
                  have hSa : zSel r0_size.toInt r1_size.toInt r2_size.toInt r3_size.toInt (Int32.toInt 3) = r3_size.toInt := by rw [zc_3]; exact zSel_3
                  have hWb : zSel r0_width.toInt r1_width.toInt r2_width.toInt r3_width.toInt (Int32.toInt 1) = r1_width.toInt := by rw [zc_1]; exact zSel_1
                  have hSb : zSel r0_size.toInt r1_size.toInt r2_size.toInt r3_size.toInt (Int32.toInt 1) = r1_size.toInt := by rw [zc_1]; exact zSel_1
                  have hsp : zPa (zSel r0_width.toInt r1_width.toInt r2_width.toInt r3_width.toInt) (zSel r0_size.toInt r1_size.toInt r2_size.toInt r3_size.toInt) (Int32.toInt 3) (p2.toInt) (Int32.toInt 1) (p4.toInt) (p5.toInt) (Int32.toInt (-7)) := zPa.at (by first | with_reducible assumption | omega) hWa hWb hSa hSb (Or.inr (Or.inr (Or.inl ⟨zr, by omega, by omega, by omega, by omega⟩)))
                  have zc : Int32.toInt (-7) = (-7) := by decide
                  exact W.iret (v := (-7)) hx hb hr (fun t ht hW => by rw [← hQe]; exact ⟨⟨(-7), (), rfl, ⟨by omega, by assumption⟩, ⟨f_r0_numbers, f_r1_numbers, f_r2_numbers, f_r3_numbers, z_ret hP hK hD ht hW [0, 1, 2, 3, 8, 4, 5, 6, 9, 7] [] rfl (by decide) rfl⟩⟩, hS.F ht⟩) hS.2.2 dX9_paste_93
                · have ic_141 := zz_neq rfl (show Int32.toInt 0 = 0 from by decide) c_141
                  replace s_r_140 := (s_r_140.resolve_left (fun h => ic_141 h.1)).2
                  refine lv_aload hx hb dX9_paste_79 (lv_at hl 0 rfl) ?_
                  refine lv_iload hx hb dX9_paste_81 (lv_at hl 6 rfl) ?_
                  refine lv_iload hx hb dX9_paste_83 (lv_at hl 7 rfl) ?_
                  obtain ⟨hPc, hDc, hFc⟩ := z_cut (wc := (zV6 r1 r1_width r1_size r1_numbers)) hP hD hS hA [8] rfl (by decide +kernel)
                  have hKc := hK.sub (tys' := []) [] rfl
                  refine va_calli (va_runV (As := [.int p4, .int p5]) (rest := []) ⟨hx, hb, hml, hown, hts⟩ (k_X6_hasSpan_v1 l sa dC dI r1 p4 p5 r1_width r1_size r1_numbers b_r1_size H.size) (cwV 2 hts (z_gV zw_t6_80 zw_t6_81 zw_t6_82 zw_t1_10 zw_t6_83) rfl rfl rfl (by decide +kernel) (by rw [← hRe]; exact ⟨(Nat.le_of_ble_eq_true rfl), (Nat.le_of_ble_eq_true rfl)⟩)) (z_preV hPc hKc hDc hN hXs hS hFc (q := (RX6, TX6, 3)) (ci := 6) (q0 := 0) rfl rfl) rfl rfl hl.1 rfl (lv_room (Nat.le_of_ble_eq_true rfl)) dX9_paste_85 (by rw [← hRe]; exact ⟨(Nat.le_of_ble_eq_true rfl), (Nat.le_of_ble_eq_true rfl)⟩)) hS (fun q _ h => hFc q h) hFc (fun r_142 u t H1 locs ht hvm hw hB hz1 hk1 hS => ?_)
                  obtain ⟨hP, hD, hK⟩ := z_after3 (wn := (zV394 h0 tp h0_tapeLength h0_faultKind h0_faultPlace nw im sl rd wk fm mt ch dy sl cA_sl f_sl r0 r0_width r0_size r0_numbers r0_numbers cA_r0_numbers f_r0_numbers r1_numbers cA_r1_numbers f_r1_numbers r2 r2_width r2_size r2_numbers r2_numbers cA_r2_numbers f_r2_numbers r3_numbers cA_r3_numbers f_r3_numbers r3 r3_width r3_size r3_numbers r1 r1_width r1_size r1_numbers)) hB ht hvm hP hD hK [8] [0, 1, 2, 3, 4, 5, 6, 7, 9] rfl 10 rfl (by decide +kernel) rfl (by decide +kernel) hk1 hFc
                  generalize H1 = H at hP hS ⊢
                  have hK : va_K (dC, dI) vwCl [(cA_sl, .object RX6), (cA_r0_numbers, .long), (cA_r1_numbers, .long), (cA_r2_numbers, .long), (cA_r3_numbers, .long)] s := hK
                  have b_r_142 : 0 ≤ r_142.toInt ∧ r_142.toInt ≤ 1 := hw.1
                  have s_r_142 := hw.2
                  refine lv_if_ne (tgt := 94) hx hb dX9_paste_88 (by decide) (fun c_143 => ?_) (fun c_143 => ?_)
                  · have ic_143 := zz_ne rfl (show Int32.toInt 0 = 0 from by decide) c_143
                    replace s_r_142 := (s_r_142.resolve_left (fun h => ic_143 h.1)).2
                    refine lv_aload hx hb dX9_paste_94 (lv_at hl 1 rfl) ?_
                    refine va_get (D := (dC, dI)) (ci := 6) (v := .ref r3_numbers) (C := RX6) (T := TX6) (N := 3) hx hb hts zl_X6 hown hK hP 8 rfl rfl 2 (by decide) (hts _ zw_t2_181) (fun _ h9 => h9) rfl dX9_paste_96 ?_
                    refine lv_iload_n hx hb dX9_paste_99 rfl (lv_at hl 4 rfl) ?_
                    refine lv_aload hx hb dX9_paste_100 (lv_at hl 0 rfl) ?_
                    refine va_get (D := (dC, dI)) (ci := 6) (v := .ref r1_numbers) (C := RX6) (T := TX6) (N := 3) hx hb hts zl_X6 hown hK hP 9 rfl rfl 2 (by decide) (hts _ zw_t2_181) (fun _ h9 => h9) rfl dX9_paste_102 ?_
                    refine lv_iload hx hb dX9_paste_105 (lv_at hl 6 rfl) ?_
                    refine lv_iload hx hb dX9_paste_107 (lv_at hl 7 rfl) ?_
                    have kc_p2 := zi_clamp (x := p2) rfl (by first | with_reducible assumption | omega)
                    have kc_p4 := zi_clamp (x := p4) rfl (by first | with_reducible assumption | omega)
                    have kc_p5 := zi_clamp (x := p5) rfl (by first | with_reducible assumption | omega)
                    refine va_copyl hx hb (by rw [hml]; exact hl.1.symm) hown (hts _ zw_t6_92) (hts _ zw_t4_39) (hts _ zw_t4_38) (hts _ zw_t1_18) hK hP hD hS 7 4 4 2 rfl rfl rfl rfl rfl (fun q => absurd (z_lt (k := 0) (by decide) q) (by first | with_reducible assumption | omega)) (fun q => absurd (z_lt (k := 0) (by decide) q) (by first | with_reducible assumption | omega)) (fun q => absurd (z_lt (k := 0) (by decide) q) (by first | with_reducible assumption | omega)) (by first | with_reducible assumption | omega) (by first | with_reducible assumption | omega) (fun _ _ => rfl) (by rw [← hRe]; exact (Nat.le_of_ble_eq_true rfl)) (by rw [← hRe]; exact (Nat.le_of_ble_eq_true rfl)) dX9_paste_109 (fun H locs hP hD hS => ?_)
                    obtain ⟨f_144, ef_144⟩ : ∃ g : Nat → Int64, g = va_cpy f_r3_numbers f_r1_numbers (Int32.toNatClampNeg p2) (Int32.toNatClampNeg p4) (Int32.toNatClampNeg p5) := ⟨_, rfl⟩
                    have hP : va_P (dC, dI) vwCl (zV394 h0 tp h0_tapeLength h0_faultKind h0_faultPlace nw im sl rd wk fm mt ch dy sl cA_sl f_sl r0 r0_width r0_size r0_numbers r0_numbers cA_r0_numbers f_r0_numbers r1_numbers cA_r1_numbers (va_cpy f_r3_numbers f_r1_numbers (Int32.toNatClampNeg p2) (Int32.toNatClampNeg p4) (Int32.toNatClampNeg p5)) r2 r2_width r2_size r2_numbers r2_numbers cA_r2_numbers f_r2_numbers r3_numbers cA_r3_numbers f_r3_numbers r3 r3_width r3_size r3_numbers r1 r1_width r1_size r1_numbers) H := hP
                    have hD : va_D A (zV394 h0 tp h0_tapeLength h0_faultKind h0_faultPlace nw im sl rd wk fm mt ch dy sl cA_sl f_sl r0 r0_width r0_size r0_numbers r0_numbers cA_r0_numbers f_r0_numbers r1_numbers cA_r1_numbers (va_cpy f_r3_numbers f_r1_numbers (Int32.toNatClampNeg p2) (Int32.toNatClampNeg p4) (Int32.toNatClampNeg p5)) r2 r2_width r2_size r2_numbers r2_numbers cA_r2_numbers f_r2_numbers r3_numbers cA_r3_numbers f_r3_numbers r3 r3_width r3_size r3_numbers r1 r1_width r1_size r1_numbers) := hD
                    rw [← ef_144] at hP hD
                    refine lv_iconst (v := 0) hx hb dX9_paste_112 (by decide) ?_
                    have zr : Int32.toInt 0 = 0 := by decide
                    have hWa : zSel r0_width.toInt r1_width.toInt r2_width.toInt r3_width.toInt (Int32.toInt 3) = r3_width.toInt := by rw [zc_3]; exact zSel_3
                    have hSa : zSel r0_size.toInt r1_size.toInt r2_size.toInt r3_size.toInt (Int32.toInt 3) = r3_size.toInt := by rw [zc_3]; exact zSel_3
                    have hWb : zSel r0_width.toInt r1_width.toInt r2_width.toInt r3_width.toInt (Int32.toInt 1) = r1_width.toInt := by rw [zc_1]; exact zSel_1
                    have hSb : zSel r0_size.toInt r1_size.toInt r2_size.toInt r3_size.toInt (Int32.toInt 1) = r1_size.toInt := by rw [zc_1]; exact zSel_1
                    have hsp : zPa (zSel r0_width.toInt r1_width.toInt r2_width.toInt r3_width.toInt) (zSel r0_size.toInt r1_size.toInt r2_size.toInt r3_size.toInt) (Int32.toInt 3) (p2.toInt) (Int32.toInt 1) (p4.toInt) (p5.toInt) (Int32.toInt 0) := zPa.at (by first | with_reducible assumption | omega) hWa hWb hSa hSb (Or.inr (Or.inr (Or.inr ⟨zr, by omega, by omega, by omega, by omega, by omega, by omega, by omega, by omega⟩)))
                    have zc : Int32.toInt 0 = 0 := by decide
                    exact W.iret (v := 0) hx hb hr (fun t ht hW => by rw [← hQe]; exact ⟨⟨0, (), rfl, ⟨by omega, by assumption⟩, ⟨f_r0_numbers, f_144, f_r2_numbers, f_r3_numbers, z_ret hP hK hD ht hW [0, 1, 2, 3, 9, 4, 5, 6, 8, 7] [] rfl (by decide) rfl⟩⟩, hS.F ht⟩) hS.2.2 dX9_paste_113
                  · have ic_143 := zz_nne rfl (show Int32.toInt 0 = 0 from by decide) c_143
                    replace s_r_142 := (s_r_142.resolve_right (fun h => absurd (ic_143.symm.trans h.1) (by decide))).2
                    refine lv_bipush (v := (-7)) hx hb dX9_paste_91 (by decide) ?_
                    have zr : Int32.toInt (-7) = (-7) := by decide
                    have hWa : zSel r0_width.toInt r1_width.toInt r2_width.toInt r3_width.toInt (Int32.toInt 3) = r3_width.toInt := by rw [zc_3]; exact zSel_3
                    have hSa : zSel r0_size.toInt r1_size.toInt r2_size.toInt r3_size.toInt (Int32.toInt 3) = r3_size.toInt := by rw [zc_3]; exact zSel_3
                    have hWb : zSel r0_width.toInt r1_width.toInt r2_width.toInt r3_width.toInt (Int32.toInt 1) = r1_width.toInt := by rw [zc_1]; exact zSel_1
                    have hSb : zSel r0_size.toInt r1_size.toInt r2_size.toInt r3_size.toInt (Int32.toInt 1) = r1_size.toInt := by rw [zc_1]; exact zSel_1
                    have hsp : zPa (zSel r0_width.toInt r1_width.toInt r2_width.toInt r3_width.toInt) (zSel r0_size.toInt r1_size.toInt r2_size.toInt r3_size.toInt) (Int32.toInt 3) (p2.toInt) (Int32.toInt 1) (p4.toInt) (p5.toInt) (Int32.toInt (-7)) := zPa.at (by first | with_reducible assumption | omega) hWa hWb hSa hSb (Or.inr (Or.inr (Or.inl ⟨zr, by omega, by omega, by omega, by omega⟩)))
                    have zc : Int32.toInt (-7) = (-7) := by decide
                    exact W.iret (v := (-7)) hx hb hr (fun t ht hW => by rw [← hQe]; exact ⟨⟨(-7), (), rfl, ⟨by omega, by assumption⟩, ⟨f_r0_numbers, f_r1_numbers, f_r2_numbers, f_r3_numbers, z_ret hP hK hD ht hW [0, 1, 2, 3, 9, 4, 5, 6, 8, 7] [] rfl (by decide) rfl⟩⟩, hS.F ht⟩) hS.2.2 dX9_paste_93
              · have ic_139 := zz_neq rfl rfl c_139
                refine lv_bipush (v := (-8)) hx hb dX9_paste_65 (by decide) ?_
                have zr : Int32.toInt (-8) = (-8) := by decide
                have hWa : zSel r0_width.toInt r1_width.toInt r2_width.toInt r3_width.toInt (Int32.toInt 3) = r3_width.toInt := by rw [zc_3]; exact zSel_3
                have hSa : zSel r0_size.toInt r1_size.toInt r2_size.toInt r3_size.toInt (Int32.toInt 3) = r3_size.toInt := by rw [zc_3]; exact zSel_3
                have hWb : zSel r0_width.toInt r1_width.toInt r2_width.toInt r3_width.toInt (Int32.toInt 1) = r1_width.toInt := by rw [zc_1]; exact zSel_1
                have hSb : zSel r0_size.toInt r1_size.toInt r2_size.toInt r3_size.toInt (Int32.toInt 1) = r1_size.toInt := by rw [zc_1]; exact zSel_1
                have hsp : zPa (zSel r0_width.toInt r1_width.toInt r2_width.toInt r3_width.toInt) (zSel r0_size.toInt r1_size.toInt r2_size.toInt r3_size.toInt) (Int32.toInt 3) (p2.toInt) (Int32.toInt 1) (p4.toInt) (p5.toInt) (Int32.toInt (-8)) := zPa.at (by first | with_reducible assumption | omega) hWa hWb hSa hSb (Or.inr (Or.inl ⟨zr, by omega, by omega, by omega⟩))
                have zc : Int32.toInt (-8) = (-8) := by decide
                exact W.iret (v := (-8)) hx hb hr (fun t ht hW => by rw [← hQe]; exact ⟨⟨(-8), (), rfl, ⟨by omega, by assumption⟩, ⟨f_r0_numbers, f_r1_numbers, f_r2_numbers, f_r3_numbers, z_ret hP hK hD ht hW [0, 1, 2, 3, 9, 4, 5, 6, 8, 7] [] rfl (by decide) rfl⟩⟩, hS.F ht⟩) hS.2.2 dX9_paste_67
            · have ic_138 := zz_nne rfl (show Int32.toInt 0 = 0 from by decide) c_138
              replace s_r_137 := (s_r_137.resolve_right (fun h => absurd (ic_138.symm.trans h.1) (by decide))).2
              refine lv_bipush (v := (-6)) hx hb dX9_paste_49 (by decide) ?_
              have zr : Int32.toInt (-6) = (-6) := by decide
              have hWa : zSel r0_width.toInt r1_width.toInt r2_width.toInt r3_width.toInt (Int32.toInt 3) = r3_width.toInt := by rw [zc_3]; exact zSel_3
              have hSa : zSel r0_size.toInt r1_size.toInt r2_size.toInt r3_size.toInt (Int32.toInt 3) = r3_size.toInt := by rw [zc_3]; exact zSel_3
              have hWb : zSel r0_width.toInt r1_width.toInt r2_width.toInt r3_width.toInt (Int32.toInt 1) = r1_width.toInt := by rw [zc_1]; exact zSel_1
              have hSb : zSel r0_size.toInt r1_size.toInt r2_size.toInt r3_size.toInt (Int32.toInt 1) = r1_size.toInt := by rw [zc_1]; exact zSel_1
              have hsp : zPa (zSel r0_width.toInt r1_width.toInt r2_width.toInt r3_width.toInt) (zSel r0_size.toInt r1_size.toInt r2_size.toInt r3_size.toInt) (Int32.toInt 3) (p2.toInt) (Int32.toInt 1) (p4.toInt) (p5.toInt) (Int32.toInt (-6)) := zPa.at (by first | with_reducible assumption | omega) hWa hWb hSa hSb (Or.inl ⟨zr, by omega⟩)
              have zc : Int32.toInt (-6) = (-6) := by decide
              exact W.iret (v := (-6)) hx hb hr (fun t ht hW => by rw [← hQe]; exact ⟨⟨(-6), (), rfl, ⟨by omega, by assumption⟩, ⟨f_r0_numbers, f_r1_numbers, f_r2_numbers, f_r3_numbers, z_ret hP hK hD ht hW [0, 1, 2, 3, 9, 4, 5, 6, 8, 7] [] rfl (by decide) rfl⟩⟩, hS.F ht⟩) hS.2.2 dX9_paste_51
        · have zc_2 : Int32.toInt 2 = 2 := by decide
          refine va_aldq hx hb hK hP 1 0 rfl rfl (zi_in (show Int32.toInt 2 = 2 from by decide) (by first | with_reducible assumption | omega)) dX9_paste_30 ?_
          refine W.eq (g2 := F0 m 31 ls (.ref r2 :: [])) (by rw [show f_sl (Int32.toNatClampNeg 2) = some r2 from (by rw [show Int32.toNatClampNeg 2 = 2 from by decide]; exact hsl2)]; rfl) ?_
          refine lv_astore (lv' := [(7, .ref r2), (6, .ref r3), (0, .ref h0), (1, .int 3), (2, .int p2), (3, .int 2), (4, .int p4), (5, .int p5)]) hx hb dX9_paste_31 hl (by decide) rfl (fun ls hl => ?_)
          refine lv_aload hx hb dX9_paste_33 (lv_at hl 1 rfl) ?_
          obtain ⟨hPc, hDc, hFc⟩ := z_cut (wc := (zV6 r3 r3_width r3_size r3_numbers)) hP hD hS hA [8] rfl (by decide +kernel)
          have hKc := hK.sub (tys' := []) [] rfl
          refine va_calli (va_runV (As := []) (rest := []) ⟨hx, hb, hml, hown, hts⟩ (k_X6_isThere_v1 l sa dC dI r3 r3_width r3_size r3_numbers b_r3_size H.size) (cwV 0 hts (z_gV zw_t5_222 zw_t5_223 zw_t5_224 zw_t1_10 zw_t5_225) rfl rfl rfl (by decide +kernel) (by rw [← hRe]; exact ⟨(Nat.le_of_ble_eq_true rfl), (Nat.le_of_ble_eq_true rfl)⟩)) (z_preV hPc hKc hDc hN hXs hS hFc (q := (RX6, TX6, 3)) (ci := 6) (q0 := 0) rfl rfl) rfl rfl hl.1 rfl (lv_room (Nat.le_of_ble_eq_true rfl)) dX9_paste_35 (by rw [← hRe]; exact ⟨(Nat.le_of_ble_eq_true rfl), (Nat.le_of_ble_eq_true rfl)⟩)) hS (fun q _ h => hFc q h) hFc (fun r_145 u t H1 locs ht hvm hw hB hz1 hk1 hS => ?_)
          obtain ⟨hP, hD, hK⟩ := z_after3 (wn := (zV170 h0 tp h0_tapeLength h0_faultKind h0_faultPlace nw im sl rd wk fm mt ch dy sl cA_sl f_sl r0 r0_width r0_size r0_numbers r0_numbers cA_r0_numbers f_r0_numbers r1 r1_width r1_size r1_numbers r1_numbers cA_r1_numbers f_r1_numbers r2 r2_width r2_size r2_numbers r2_numbers cA_r2_numbers f_r2_numbers r3_numbers cA_r3_numbers f_r3_numbers r3 r3_width r3_size r3_numbers)) hB ht hvm hP hD hK [8] [0, 1, 2, 3, 4, 5, 6, 7, 9] rfl 10 rfl (by decide +kernel) rfl (by decide +kernel) hk1 hFc
          generalize H1 = H at hP hS ⊢
          have hK : va_K (dC, dI) vwCl [(cA_sl, .object RX6), (cA_r0_numbers, .long), (cA_r1_numbers, .long), (cA_r2_numbers, .long), (cA_r3_numbers, .long)] s := hK
          have b_r_145 : 0 ≤ r_145.toInt ∧ r_145.toInt ≤ 1 := hw.1
          have s_r_145 := hw.2
          refine lv_if_eq (tgt := 49) hx hb dX9_paste_38 (by decide) (fun c_146 => ?_) (fun c_146 => ?_)
          · have ic_146 := zz_eq rfl (show Int32.toInt 0 = 0 from by decide) c_146
            replace s_r_145 := (s_r_145.resolve_right (fun h => absurd (ic_146.symm.trans h.1) (by decide))).2
            refine lv_bipush (v := (-6)) hx hb dX9_paste_49 (by decide) ?_
            have zr : Int32.toInt (-6) = (-6) := by decide
            have hWa : zSel r0_width.toInt r1_width.toInt r2_width.toInt r3_width.toInt (Int32.toInt 3) = r3_width.toInt := by rw [zc_3]; exact zSel_3
            have hSa : zSel r0_size.toInt r1_size.toInt r2_size.toInt r3_size.toInt (Int32.toInt 3) = r3_size.toInt := by rw [zc_3]; exact zSel_3
            have hWb : zSel r0_width.toInt r1_width.toInt r2_width.toInt r3_width.toInt (Int32.toInt 2) = r2_width.toInt := by rw [zc_2]; exact zSel_2
            have hSb : zSel r0_size.toInt r1_size.toInt r2_size.toInt r3_size.toInt (Int32.toInt 2) = r2_size.toInt := by rw [zc_2]; exact zSel_2
            have hsp : zPa (zSel r0_width.toInt r1_width.toInt r2_width.toInt r3_width.toInt) (zSel r0_size.toInt r1_size.toInt r2_size.toInt r3_size.toInt) (Int32.toInt 3) (p2.toInt) (Int32.toInt 2) (p4.toInt) (p5.toInt) (Int32.toInt (-6)) := zPa.at (by first | with_reducible assumption | omega) hWa hWb hSa hSb (Or.inl ⟨zr, by omega⟩)
            have zc : Int32.toInt (-6) = (-6) := by decide
            exact W.iret (v := (-6)) hx hb hr (fun t ht hW => by rw [← hQe]; exact ⟨⟨(-6), (), rfl, ⟨by omega, by assumption⟩, ⟨f_r0_numbers, f_r1_numbers, f_r2_numbers, f_r3_numbers, z_ret hP hK hD ht hW [0, 1, 2, 3, 4, 5, 6, 7, 9, 8] [] rfl (by decide) rfl⟩⟩, hS.F ht⟩) hS.2.2 dX9_paste_51
          · have ic_146 := zz_neq rfl (show Int32.toInt 0 = 0 from by decide) c_146
            replace s_r_145 := (s_r_145.resolve_left (fun h => ic_146 h.1)).2
            refine lv_aload hx hb dX9_paste_41 (lv_at hl 0 rfl) ?_
            obtain ⟨hPc, hDc, hFc⟩ := z_cut (wc := (zV6 r2 r2_width r2_size r2_numbers)) hP hD hS hA [6] rfl (by decide +kernel)
            have hKc := hK.sub (tys' := []) [] rfl
            refine va_calli (va_runV (As := []) (rest := []) ⟨hx, hb, hml, hown, hts⟩ (k_X6_isThere_v1 l sa dC dI r2 r2_width r2_size r2_numbers b_r2_size H.size) (cwV 0 hts (z_gV zw_t5_222 zw_t5_223 zw_t5_224 zw_t1_10 zw_t5_225) rfl rfl rfl (by decide +kernel) (by rw [← hRe]; exact ⟨(Nat.le_of_ble_eq_true rfl), (Nat.le_of_ble_eq_true rfl)⟩)) (z_preV hPc hKc hDc hN hXs hS hFc (q := (RX6, TX6, 3)) (ci := 6) (q0 := 0) rfl rfl) rfl rfl hl.1 rfl (lv_room (Nat.le_of_ble_eq_true rfl)) dX9_paste_43 (by rw [← hRe]; exact ⟨(Nat.le_of_ble_eq_true rfl), (Nat.le_of_ble_eq_true rfl)⟩)) hS (fun q _ h => hFc q h) hFc (fun r_147 u t H1 locs ht hvm hw hB hz1 hk1 hS => ?_)
            obtain ⟨hP, hD, hK⟩ := z_after3 (wn := (zV395 h0 tp h0_tapeLength h0_faultKind h0_faultPlace nw im sl rd wk fm mt ch dy sl cA_sl f_sl r0 r0_width r0_size r0_numbers r0_numbers cA_r0_numbers f_r0_numbers r1 r1_width r1_size r1_numbers r1_numbers cA_r1_numbers f_r1_numbers r2_numbers cA_r2_numbers f_r2_numbers r3_numbers cA_r3_numbers f_r3_numbers r3 r3_width r3_size r3_numbers r2 r2_width r2_size r2_numbers)) hB ht hvm hP hD hK [6] [0, 1, 2, 3, 4, 5, 7, 8, 9] rfl 10 rfl (by decide +kernel) rfl (by decide +kernel) hk1 hFc
            generalize H1 = H at hP hS ⊢
            have hK : va_K (dC, dI) vwCl [(cA_sl, .object RX6), (cA_r0_numbers, .long), (cA_r1_numbers, .long), (cA_r2_numbers, .long), (cA_r3_numbers, .long)] s := hK
            have b_r_147 : 0 ≤ r_147.toInt ∧ r_147.toInt ≤ 1 := hw.1
            have s_r_147 := hw.2
            refine lv_if_ne (tgt := 52) hx hb dX9_paste_46 (by decide) (fun c_148 => ?_) (fun c_148 => ?_)
            · have ic_148 := zz_ne rfl (show Int32.toInt 0 = 0 from by decide) c_148
              replace s_r_147 := (s_r_147.resolve_left (fun h => ic_148 h.1)).2
              refine lv_aload hx hb dX9_paste_52 (lv_at hl 1 rfl) ?_
              refine va_get (D := (dC, dI)) (ci := 6) (v := .int r3_width) (C := RX6) (T := TX6) (N := 3) hx hb hts zl_X6 hown hK hP 8 rfl rfl 0 (by decide) (hts _ zw_t2_176) (fun _ h9 => h9) rfl dX9_paste_54 ?_
              refine lv_aload hx hb dX9_paste_57 (lv_at hl 0 rfl) ?_
              refine va_get (D := (dC, dI)) (ci := 6) (v := .int r2_width) (C := RX6) (T := TX6) (N := 3) hx hb hts zl_X6 hown hK hP 9 rfl rfl 0 (by decide) (hts _ zw_t2_176) (fun _ h9 => h9) rfl dX9_paste_59 ?_
              have nb_r3_width := zi_nb r3_width
              have nb_r2_width := zi_nb r2_width
              refine lv_icmp_eq (tgt := 68) hx hb dX9_paste_62 (by decide) (fun c_149 => ?_) (fun c_149 => ?_)
              · have ic_149 := zz_eq rfl rfl c_149
                refine lv_aload hx hb dX9_paste_68 (lv_at hl 1 rfl) ?_
                refine lv_iload_n hx hb dX9_paste_70 rfl (lv_at hl 4 rfl) ?_
                refine lv_iload hx hb dX9_paste_71 (lv_at hl 7 rfl) ?_
                obtain ⟨hPc, hDc, hFc⟩ := z_cut (wc := (zV6 r3 r3_width r3_size r3_numbers)) hP hD hS hA [8] rfl (by decide +kernel)
                have hKc := hK.sub (tys' := []) [] rfl
                refine va_calli (va_runV (As := [.int p2, .int p5]) (rest := []) ⟨hx, hb, hml, hown, hts⟩ (k_X6_hasSpan_v1 l sa dC dI r3 p2 p5 r3_width r3_size r3_numbers b_r3_size H.size) (cwV 2 hts (z_gV zw_t6_80 zw_t6_81 zw_t6_82 zw_t1_10 zw_t6_83) rfl rfl rfl (by decide +kernel) (by rw [← hRe]; exact ⟨(Nat.le_of_ble_eq_true rfl), (Nat.le_of_ble_eq_true rfl)⟩)) (z_preV hPc hKc hDc hN hXs hS hFc (q := (RX6, TX6, 3)) (ci := 6) (q0 := 0) rfl rfl) rfl rfl hl.1 rfl (lv_room (Nat.le_of_ble_eq_true rfl)) dX9_paste_73 (by rw [← hRe]; exact ⟨(Nat.le_of_ble_eq_true rfl), (Nat.le_of_ble_eq_true rfl)⟩)) hS (fun q _ h => hFc q h) hFc (fun r_150 u t H1 locs ht hvm hw hB hz1 hk1 hS => ?_)
                obtain ⟨hP, hD, hK⟩ := z_after3 (wn := (zV395 h0 tp h0_tapeLength h0_faultKind h0_faultPlace nw im sl rd wk fm mt ch dy sl cA_sl f_sl r0 r0_width r0_size r0_numbers r0_numbers cA_r0_numbers f_r0_numbers r1 r1_width r1_size r1_numbers r1_numbers cA_r1_numbers f_r1_numbers r2_numbers cA_r2_numbers f_r2_numbers r3_numbers cA_r3_numbers f_r3_numbers r2 r2_width r2_size r2_numbers r3 r3_width r3_size r3_numbers)) hB ht hvm hP hD hK [8] [0, 1, 2, 3, 4, 5, 6, 7, 9] rfl 10 rfl (by decide +kernel) rfl (by decide +kernel) hk1 hFc
                generalize H1 = H at hP hS ⊢
                have hK : va_K (dC, dI) vwCl [(cA_sl, .object RX6), (cA_r0_numbers, .long), (cA_r1_numbers, .long), (cA_r2_numbers, .long), (cA_r3_numbers, .long)] s := hK
                have b_r_150 : 0 ≤ r_150.toInt ∧ r_150.toInt ≤ 1 := hw.1
                have s_r_150 := hw.2
                refine lv_if_eq (tgt := 91) hx hb dX9_paste_76 (by decide) (fun c_151 => ?_) (fun c_151 => ?_)
                · have ic_151 := zz_eq rfl (show Int32.toInt 0 = 0 from by decide) c_151
                  replace s_r_150 := (s_r_150.resolve_right (fun h => absurd (ic_151.symm.trans h.1) (by decide))).2
                  refine lv_bipush (v := (-7)) hx hb dX9_paste_91 (by decide) ?_
                  have zr : Int32.toInt (-7) = (-7) := by decide
                  have hWa : zSel r0_width.toInt r1_width.toInt r2_width.toInt r3_width.toInt (Int32.toInt 3) = r3_width.toInt := by rw [zc_3]; exact zSel_3
                  have hSa : zSel r0_size.toInt r1_size.toInt r2_size.toInt r3_size.toInt (Int32.toInt 3) = r3_size.toInt := by rw [zc_3]; exact zSel_3
                  have hWb : zSel r0_width.toInt r1_width.toInt r2_width.toInt r3_width.toInt (Int32.toInt 2) = r2_width.toInt := by rw [zc_2]; exact zSel_2
                  have hSb : zSel r0_size.toInt r1_size.toInt r2_size.toInt r3_size.toInt (Int32.toInt 2) = r2_size.toInt := by rw [zc_2]; exact zSel_2
                  have hsp : zPa (zSel r0_width.toInt r1_width.toInt r2_width.toInt r3_width.toInt) (zSel r0_size.toInt r1_size.toInt r2_size.toInt r3_size.toInt) (Int32.toInt 3) (p2.toInt) (Int32.toInt 2) (p4.toInt) (p5.toInt) (Int32.toInt (-7)) := zPa.at (by first | with_reducible assumption | omega) hWa hWb hSa hSb (Or.inr (Or.inr (Or.inl ⟨zr, by omega, by omega, by omega, by omega⟩)))
                  have zc : Int32.toInt (-7) = (-7) := by decide
                  exact W.iret (v := (-7)) hx hb hr (fun t ht hW => by rw [← hQe]; exact ⟨⟨(-7), (), rfl, ⟨by omega, by assumption⟩, ⟨f_r0_numbers, f_r1_numbers, f_r2_numbers, f_r3_numbers, z_ret hP hK hD ht hW [0, 1, 2, 3, 4, 5, 8, 6, 9, 7] [] rfl (by decide) rfl⟩⟩, hS.F ht⟩) hS.2.2 dX9_paste_93
                · have ic_151 := zz_neq rfl (show Int32.toInt 0 = 0 from by decide) c_151
                  replace s_r_150 := (s_r_150.resolve_left (fun h => ic_151 h.1)).2
                  refine lv_aload hx hb dX9_paste_79 (lv_at hl 0 rfl) ?_
                  refine lv_iload hx hb dX9_paste_81 (lv_at hl 6 rfl) ?_
                  refine lv_iload hx hb dX9_paste_83 (lv_at hl 7 rfl) ?_
                  obtain ⟨hPc, hDc, hFc⟩ := z_cut (wc := (zV6 r2 r2_width r2_size r2_numbers)) hP hD hS hA [8] rfl (by decide +kernel)
                  have hKc := hK.sub (tys' := []) [] rfl
                  refine va_calli (va_runV (As := [.int p4, .int p5]) (rest := []) ⟨hx, hb, hml, hown, hts⟩ (k_X6_hasSpan_v1 l sa dC dI r2 p4 p5 r2_width r2_size r2_numbers b_r2_size H.size) (cwV 2 hts (z_gV zw_t6_80 zw_t6_81 zw_t6_82 zw_t1_10 zw_t6_83) rfl rfl rfl (by decide +kernel) (by rw [← hRe]; exact ⟨(Nat.le_of_ble_eq_true rfl), (Nat.le_of_ble_eq_true rfl)⟩)) (z_preV hPc hKc hDc hN hXs hS hFc (q := (RX6, TX6, 3)) (ci := 6) (q0 := 0) rfl rfl) rfl rfl hl.1 rfl (lv_room (Nat.le_of_ble_eq_true rfl)) dX9_paste_85 (by rw [← hRe]; exact ⟨(Nat.le_of_ble_eq_true rfl), (Nat.le_of_ble_eq_true rfl)⟩)) hS (fun q _ h => hFc q h) hFc (fun r_152 u t H1 locs ht hvm hw hB hz1 hk1 hS => ?_)
                  obtain ⟨hP, hD, hK⟩ := z_after3 (wn := (zV395 h0 tp h0_tapeLength h0_faultKind h0_faultPlace nw im sl rd wk fm mt ch dy sl cA_sl f_sl r0 r0_width r0_size r0_numbers r0_numbers cA_r0_numbers f_r0_numbers r1 r1_width r1_size r1_numbers r1_numbers cA_r1_numbers f_r1_numbers r2_numbers cA_r2_numbers f_r2_numbers r3_numbers cA_r3_numbers f_r3_numbers r3 r3_width r3_size r3_numbers r2 r2_width r2_size r2_numbers)) hB ht hvm hP hD hK [8] [0, 1, 2, 3, 4, 5, 6, 7, 9] rfl 10 rfl (by decide +kernel) rfl (by decide +kernel) hk1 hFc
                  generalize H1 = H at hP hS ⊢
                  have hK : va_K (dC, dI) vwCl [(cA_sl, .object RX6), (cA_r0_numbers, .long), (cA_r1_numbers, .long), (cA_r2_numbers, .long), (cA_r3_numbers, .long)] s := hK
                  have b_r_152 : 0 ≤ r_152.toInt ∧ r_152.toInt ≤ 1 := hw.1
                  have s_r_152 := hw.2
                  refine lv_if_ne (tgt := 94) hx hb dX9_paste_88 (by decide) (fun c_153 => ?_) (fun c_153 => ?_)
                  · have ic_153 := zz_ne rfl (show Int32.toInt 0 = 0 from by decide) c_153
                    replace s_r_152 := (s_r_152.resolve_left (fun h => ic_153 h.1)).2
                    refine lv_aload hx hb dX9_paste_94 (lv_at hl 1 rfl) ?_
                    refine va_get (D := (dC, dI)) (ci := 6) (v := .ref r3_numbers) (C := RX6) (T := TX6) (N := 3) hx hb hts zl_X6 hown hK hP 8 rfl rfl 2 (by decide) (hts _ zw_t2_181) (fun _ h9 => h9) rfl dX9_paste_96 ?_
                    refine lv_iload_n hx hb dX9_paste_99 rfl (lv_at hl 4 rfl) ?_
                    refine lv_aload hx hb dX9_paste_100 (lv_at hl 0 rfl) ?_
                    refine va_get (D := (dC, dI)) (ci := 6) (v := .ref r2_numbers) (C := RX6) (T := TX6) (N := 3) hx hb hts zl_X6 hown hK hP 9 rfl rfl 2 (by decide) (hts _ zw_t2_181) (fun _ h9 => h9) rfl dX9_paste_102 ?_
                    refine lv_iload hx hb dX9_paste_105 (lv_at hl 6 rfl) ?_
                    refine lv_iload hx hb dX9_paste_107 (lv_at hl 7 rfl) ?_
                    have kc_p2 := zi_clamp (x := p2) rfl (by first | with_reducible assumption | omega)
                    have kc_p4 := zi_clamp (x := p4) rfl (by first | with_reducible assumption | omega)
                    have kc_p5 := zi_clamp (x := p5) rfl (by first | with_reducible assumption | omega)
                    refine va_copyl hx hb (by rw [hml]; exact hl.1.symm) hown (hts _ zw_t6_92) (hts _ zw_t4_39) (hts _ zw_t4_38) (hts _ zw_t1_18) hK hP hD hS 7 6 4 3 rfl rfl rfl rfl rfl (fun q => absurd (z_lt (k := 0) (by decide) q) (by first | with_reducible assumption | omega)) (fun q => absurd (z_lt (k := 0) (by decide) q) (by first | with_reducible assumption | omega)) (fun q => absurd (z_lt (k := 0) (by decide) q) (by first | with_reducible assumption | omega)) (by first | with_reducible assumption | omega) (by first | with_reducible assumption | omega) (fun _ _ => rfl) (by rw [← hRe]; exact (Nat.le_of_ble_eq_true rfl)) (by rw [← hRe]; exact (Nat.le_of_ble_eq_true rfl)) dX9_paste_109 (fun H locs hP hD hS => ?_)
                    obtain ⟨f_154, ef_154⟩ : ∃ g : Nat → Int64, g = va_cpy f_r3_numbers f_r2_numbers (Int32.toNatClampNeg p2) (Int32.toNatClampNeg p4) (Int32.toNatClampNeg p5) := ⟨_, rfl⟩
                    have hP : va_P (dC, dI) vwCl (zV395 h0 tp h0_tapeLength h0_faultKind h0_faultPlace nw im sl rd wk fm mt ch dy sl cA_sl f_sl r0 r0_width r0_size r0_numbers r0_numbers cA_r0_numbers f_r0_numbers r1 r1_width r1_size r1_numbers r1_numbers cA_r1_numbers f_r1_numbers r2_numbers cA_r2_numbers (va_cpy f_r3_numbers f_r2_numbers (Int32.toNatClampNeg p2) (Int32.toNatClampNeg p4) (Int32.toNatClampNeg p5)) r3_numbers cA_r3_numbers f_r3_numbers r3 r3_width r3_size r3_numbers r2 r2_width r2_size r2_numbers) H := hP
                    have hD : va_D A (zV395 h0 tp h0_tapeLength h0_faultKind h0_faultPlace nw im sl rd wk fm mt ch dy sl cA_sl f_sl r0 r0_width r0_size r0_numbers r0_numbers cA_r0_numbers f_r0_numbers r1 r1_width r1_size r1_numbers r1_numbers cA_r1_numbers f_r1_numbers r2_numbers cA_r2_numbers (va_cpy f_r3_numbers f_r2_numbers (Int32.toNatClampNeg p2) (Int32.toNatClampNeg p4) (Int32.toNatClampNeg p5)) r3_numbers cA_r3_numbers f_r3_numbers r3 r3_width r3_size r3_numbers r2 r2_width r2_size r2_numbers) := hD
                    rw [← ef_154] at hP hD
                    refine lv_iconst (v := 0) hx hb dX9_paste_112 (by decide) ?_
                    have zr : Int32.toInt 0 = 0 := by decide
                    have hWa : zSel r0_width.toInt r1_width.toInt r2_width.toInt r3_width.toInt (Int32.toInt 3) = r3_width.toInt := by rw [zc_3]; exact zSel_3
                    have hSa : zSel r0_size.toInt r1_size.toInt r2_size.toInt r3_size.toInt (Int32.toInt 3) = r3_size.toInt := by rw [zc_3]; exact zSel_3
                    have hWb : zSel r0_width.toInt r1_width.toInt r2_width.toInt r3_width.toInt (Int32.toInt 2) = r2_width.toInt := by rw [zc_2]; exact zSel_2
                    have hSb : zSel r0_size.toInt r1_size.toInt r2_size.toInt r3_size.toInt (Int32.toInt 2) = r2_size.toInt := by rw [zc_2]; exact zSel_2
                    have hsp : zPa (zSel r0_width.toInt r1_width.toInt r2_width.toInt r3_width.toInt) (zSel r0_size.toInt r1_size.toInt r2_size.toInt r3_size.toInt) (Int32.toInt 3) (p2.toInt) (Int32.toInt 2) (p4.toInt) (p5.toInt) (Int32.toInt 0) := zPa.at (by first | with_reducible assumption | omega) hWa hWb hSa hSb (Or.inr (Or.inr (Or.inr ⟨zr, by omega, by omega, by omega, by omega, by omega, by omega, by omega, by omega⟩)))
                    have zc : Int32.toInt 0 = 0 := by decide
                    exact W.iret (v := 0) hx hb hr (fun t ht hW => by rw [← hQe]; exact ⟨⟨0, (), rfl, ⟨by omega, by assumption⟩, ⟨f_r0_numbers, f_r1_numbers, f_154, f_r3_numbers, z_ret hP hK hD ht hW [0, 1, 2, 3, 4, 5, 9, 6, 8, 7] [] rfl (by decide) rfl⟩⟩, hS.F ht⟩) hS.2.2 dX9_paste_113
                  · have ic_153 := zz_nne rfl (show Int32.toInt 0 = 0 from by decide) c_153
                    replace s_r_152 := (s_r_152.resolve_right (fun h => absurd (ic_153.symm.trans h.1) (by decide))).2
                    refine lv_bipush (v := (-7)) hx hb dX9_paste_91 (by decide) ?_
                    have zr : Int32.toInt (-7) = (-7) := by decide
                    have hWa : zSel r0_width.toInt r1_width.toInt r2_width.toInt r3_width.toInt (Int32.toInt 3) = r3_width.toInt := by rw [zc_3]; exact zSel_3
                    have hSa : zSel r0_size.toInt r1_size.toInt r2_size.toInt r3_size.toInt (Int32.toInt 3) = r3_size.toInt := by rw [zc_3]; exact zSel_3
                    have hWb : zSel r0_width.toInt r1_width.toInt r2_width.toInt r3_width.toInt (Int32.toInt 2) = r2_width.toInt := by rw [zc_2]; exact zSel_2
                    have hSb : zSel r0_size.toInt r1_size.toInt r2_size.toInt r3_size.toInt (Int32.toInt 2) = r2_size.toInt := by rw [zc_2]; exact zSel_2
                    have hsp : zPa (zSel r0_width.toInt r1_width.toInt r2_width.toInt r3_width.toInt) (zSel r0_size.toInt r1_size.toInt r2_size.toInt r3_size.toInt) (Int32.toInt 3) (p2.toInt) (Int32.toInt 2) (p4.toInt) (p5.toInt) (Int32.toInt (-7)) := zPa.at (by first | with_reducible assumption | omega) hWa hWb hSa hSb (Or.inr (Or.inr (Or.inl ⟨zr, by omega, by omega, by omega, by omega⟩)))
                    have zc : Int32.toInt (-7) = (-7) := by decide
                    exact W.iret (v := (-7)) hx hb hr (fun t ht hW => by rw [← hQe]; exact ⟨⟨(-7), (), rfl, ⟨by omega, by assumption⟩, ⟨f_r0_numbers, f_r1_numbers, f_r2_numbers, f_r3_numbers, z_ret hP hK hD ht hW [0, 1, 2, 3, 4, 5, 9, 6, 8, 7] [] rfl (by decide) rfl⟩⟩, hS.F ht⟩) hS.2.2 dX9_paste_93
              · have ic_149 := zz_neq rfl rfl c_149
                refine lv_bipush (v := (-8)) hx hb dX9_paste_65 (by decide) ?_
                have zr : Int32.toInt (-8) = (-8) := by decide
                have hWa : zSel r0_width.toInt r1_width.toInt r2_width.toInt r3_width.toInt (Int32.toInt 3) = r3_width.toInt := by rw [zc_3]; exact zSel_3
                have hSa : zSel r0_size.toInt r1_size.toInt r2_size.toInt r3_size.toInt (Int32.toInt 3) = r3_size.toInt := by rw [zc_3]; exact zSel_3
                have hWb : zSel r0_width.toInt r1_width.toInt r2_width.toInt r3_width.toInt (Int32.toInt 2) = r2_width.toInt := by rw [zc_2]; exact zSel_2
                have hSb : zSel r0_size.toInt r1_size.toInt r2_size.toInt r3_size.toInt (Int32.toInt 2) = r2_size.toInt := by rw [zc_2]; exact zSel_2
                have hsp : zPa (zSel r0_width.toInt r1_width.toInt r2_width.toInt r3_width.toInt) (zSel r0_size.toInt r1_size.toInt r2_size.toInt r3_size.toInt) (Int32.toInt 3) (p2.toInt) (Int32.toInt 2) (p4.toInt) (p5.toInt) (Int32.toInt (-8)) := zPa.at (by first | with_reducible assumption | omega) hWa hWb hSa hSb (Or.inr (Or.inl ⟨zr, by omega, by omega, by omega⟩))
                have zc : Int32.toInt (-8) = (-8) := by decide
                exact W.iret (v := (-8)) hx hb hr (fun t ht hW => by rw [← hQe]; exact ⟨⟨(-8), (), rfl, ⟨by omega, by assumption⟩, ⟨f_r0_numbers, f_r1_numbers, f_r2_numbers, f_r3_numbers, z_ret hP hK hD ht hW [0, 1, 2, 3, 4, 5, 9, 6, 8, 7] [] rfl (by decide) rfl⟩⟩, hS.F ht⟩) hS.2.2 dX9_paste_67
            · have ic_148 := zz_nne rfl (show Int32.toInt 0 = 0 from by decide) c_148
              replace s_r_147 := (s_r_147.resolve_right (fun h => absurd (ic_148.symm.trans h.1) (by decide))).2
              refine lv_bipush (v := (-6)) hx hb dX9_paste_49 (by decide) ?_
              have zr : Int32.toInt (-6) = (-6) := by decide
              have hWa : zSel r0_width.toInt r1_width.toInt r2_width.toInt r3_width.toInt (Int32.toInt 3) = r3_width.toInt := by rw [zc_3]; exact zSel_3
              have hSa : zSel r0_size.toInt r1_size.toInt r2_size.toInt r3_size.toInt (Int32.toInt 3) = r3_size.toInt := by rw [zc_3]; exact zSel_3
              have hWb : zSel r0_width.toInt r1_width.toInt r2_width.toInt r3_width.toInt (Int32.toInt 2) = r2_width.toInt := by rw [zc_2]; exact zSel_2
              have hSb : zSel r0_size.toInt r1_size.toInt r2_size.toInt r3_size.toInt (Int32.toInt 2) = r2_size.toInt := by rw [zc_2]; exact zSel_2
              have hsp : zPa (zSel r0_width.toInt r1_width.toInt r2_width.toInt r3_width.toInt) (zSel r0_size.toInt r1_size.toInt r2_size.toInt r3_size.toInt) (Int32.toInt 3) (p2.toInt) (Int32.toInt 2) (p4.toInt) (p5.toInt) (Int32.toInt (-6)) := zPa.at (by first | with_reducible assumption | omega) hWa hWb hSa hSb (Or.inl ⟨zr, by omega⟩)
              have zc : Int32.toInt (-6) = (-6) := by decide
              exact W.iret (v := (-6)) hx hb hr (fun t ht hW => by rw [← hQe]; exact ⟨⟨(-6), (), rfl, ⟨by omega, by assumption⟩, ⟨f_r0_numbers, f_r1_numbers, f_r2_numbers, f_r3_numbers, z_ret hP hK hD ht hW [0, 1, 2, 3, 4, 5, 9, 6, 8, 7] [] rfl (by decide) rfl⟩⟩, hS.F ht⟩) hS.2.2 dX9_paste_51
        · have zc_3 : Int32.toInt 3 = 3 := by decide
          refine va_aldq hx hb hK hP 1 0 rfl rfl (zi_in (show Int32.toInt 3 = 3 from by decide) (by first | with_reducible assumption | omega)) dX9_paste_30 ?_
          refine W.eq (g2 := F0 m 31 ls (.ref r3 :: [])) (by rw [show f_sl (Int32.toNatClampNeg 3) = some r3 from (by rw [show Int32.toNatClampNeg 3 = 3 from by decide]; exact hsl3)]; rfl) ?_
          refine lv_astore (lv' := [(7, .ref r3), (6, .ref r3), (0, .ref h0), (1, .int 3), (2, .int p2), (3, .int 3), (4, .int p4), (5, .int p5)]) hx hb dX9_paste_31 hl (by decide) rfl (fun ls hl => ?_)
          refine lv_aload hx hb dX9_paste_33 (lv_at hl 1 rfl) ?_
          obtain ⟨hPc, hDc, hFc⟩ := z_cut (wc := (zV6 r3 r3_width r3_size r3_numbers)) hP hD hS hA [8] rfl (by decide +kernel)
          have hKc := hK.sub (tys' := []) [] rfl
          refine va_calli (va_runV (As := []) (rest := []) ⟨hx, hb, hml, hown, hts⟩ (k_X6_isThere_v1 l sa dC dI r3 r3_width r3_size r3_numbers b_r3_size H.size) (cwV 0 hts (z_gV zw_t5_222 zw_t5_223 zw_t5_224 zw_t1_10 zw_t5_225) rfl rfl rfl (by decide +kernel) (by rw [← hRe]; exact ⟨(Nat.le_of_ble_eq_true rfl), (Nat.le_of_ble_eq_true rfl)⟩)) (z_preV hPc hKc hDc hN hXs hS hFc (q := (RX6, TX6, 3)) (ci := 6) (q0 := 0) rfl rfl) rfl rfl hl.1 rfl (lv_room (Nat.le_of_ble_eq_true rfl)) dX9_paste_35 (by rw [← hRe]; exact ⟨(Nat.le_of_ble_eq_true rfl), (Nat.le_of_ble_eq_true rfl)⟩)) hS (fun q _ h => hFc q h) hFc (fun r_155 u t H1 locs ht hvm hw hB hz1 hk1 hS => ?_)
          obtain ⟨hP, hD, hK⟩ := z_after3 (wn := (zV170 h0 tp h0_tapeLength h0_faultKind h0_faultPlace nw im sl rd wk fm mt ch dy sl cA_sl f_sl r0 r0_width r0_size r0_numbers r0_numbers cA_r0_numbers f_r0_numbers r1 r1_width r1_size r1_numbers r1_numbers cA_r1_numbers f_r1_numbers r2 r2_width r2_size r2_numbers r2_numbers cA_r2_numbers f_r2_numbers r3_numbers cA_r3_numbers f_r3_numbers r3 r3_width r3_size r3_numbers)) hB ht hvm hP hD hK [8] [0, 1, 2, 3, 4, 5, 6, 7, 9] rfl 10 rfl (by decide +kernel) rfl (by decide +kernel) hk1 hFc
          generalize H1 = H at hP hS ⊢
          have hK : va_K (dC, dI) vwCl [(cA_sl, .object RX6), (cA_r0_numbers, .long), (cA_r1_numbers, .long), (cA_r2_numbers, .long), (cA_r3_numbers, .long)] s := hK
          have b_r_155 : 0 ≤ r_155.toInt ∧ r_155.toInt ≤ 1 := hw.1
          have s_r_155 := hw.2
          refine lv_if_eq (tgt := 49) hx hb dX9_paste_38 (by decide) (fun c_156 => ?_) (fun c_156 => ?_)
          · have ic_156 := zz_eq rfl (show Int32.toInt 0 = 0 from by decide) c_156
            replace s_r_155 := (s_r_155.resolve_right (fun h => absurd (ic_156.symm.trans h.1) (by decide))).2
            refine lv_bipush (v := (-6)) hx hb dX9_paste_49 (by decide) ?_
            have zr : Int32.toInt (-6) = (-6) := by decide
            have hWa : zSel r0_width.toInt r1_width.toInt r2_width.toInt r3_width.toInt (Int32.toInt 3) = r3_width.toInt := by rw [zc_3]; exact zSel_3
            have hSa : zSel r0_size.toInt r1_size.toInt r2_size.toInt r3_size.toInt (Int32.toInt 3) = r3_size.toInt := by rw [zc_3]; exact zSel_3
            have hWb : zSel r0_width.toInt r1_width.toInt r2_width.toInt r3_width.toInt (Int32.toInt 3) = r3_width.toInt := by rw [zc_3]; exact zSel_3
            have hSb : zSel r0_size.toInt r1_size.toInt r2_size.toInt r3_size.toInt (Int32.toInt 3) = r3_size.toInt := by rw [zc_3]; exact zSel_3
            have hsp : zPa (zSel r0_width.toInt r1_width.toInt r2_width.toInt r3_width.toInt) (zSel r0_size.toInt r1_size.toInt r2_size.toInt r3_size.toInt) (Int32.toInt 3) (p2.toInt) (Int32.toInt 3) (p4.toInt) (p5.toInt) (Int32.toInt (-6)) := zPa.at (by first | with_reducible assumption | omega) hWa hWb hSa hSb (Or.inl ⟨zr, by omega⟩)
            have zc : Int32.toInt (-6) = (-6) := by decide
            exact W.iret (v := (-6)) hx hb hr (fun t ht hW => by rw [← hQe]; exact ⟨⟨(-6), (), rfl, ⟨by omega, by assumption⟩, ⟨f_r0_numbers, f_r1_numbers, f_r2_numbers, f_r3_numbers, z_ret hP hK hD ht hW [0, 1, 2, 3, 4, 5, 6, 7, 9, 8] [] rfl (by decide) rfl⟩⟩, hS.F ht⟩) hS.2.2 dX9_paste_51
          · have ic_156 := zz_neq rfl (show Int32.toInt 0 = 0 from by decide) c_156
            replace s_r_155 := (s_r_155.resolve_left (fun h => ic_156 h.1)).2
            refine lv_aload hx hb dX9_paste_41 (lv_at hl 0 rfl) ?_
            obtain ⟨hPc, hDc, hFc⟩ := z_cut (wc := (zV6 r3 r3_width r3_size r3_numbers)) hP hD hS hA [9] rfl (by decide +kernel)
            have hKc := hK.sub (tys' := []) [] rfl
            refine va_calli (va_runV (As := []) (rest := []) ⟨hx, hb, hml, hown, hts⟩ (k_X6_isThere_v1 l sa dC dI r3 r3_width r3_size r3_numbers b_r3_size H.size) (cwV 0 hts (z_gV zw_t5_222 zw_t5_223 zw_t5_224 zw_t1_10 zw_t5_225) rfl rfl rfl (by decide +kernel) (by rw [← hRe]; exact ⟨(Nat.le_of_ble_eq_true rfl), (Nat.le_of_ble_eq_true rfl)⟩)) (z_preV hPc hKc hDc hN hXs hS hFc (q := (RX6, TX6, 3)) (ci := 6) (q0 := 0) rfl rfl) rfl rfl hl.1 rfl (lv_room (Nat.le_of_ble_eq_true rfl)) dX9_paste_43 (by rw [← hRe]; exact ⟨(Nat.le_of_ble_eq_true rfl), (Nat.le_of_ble_eq_true rfl)⟩)) hS (fun q _ h => hFc q h) hFc (fun r_157 u t H1 locs ht hvm hw hB hz1 hk1 hS => ?_)
            obtain ⟨hP, hD, hK⟩ := z_after3 (wn := (zV170 h0 tp h0_tapeLength h0_faultKind h0_faultPlace nw im sl rd wk fm mt ch dy sl cA_sl f_sl r0 r0_width r0_size r0_numbers r0_numbers cA_r0_numbers f_r0_numbers r1 r1_width r1_size r1_numbers r1_numbers cA_r1_numbers f_r1_numbers r2 r2_width r2_size r2_numbers r2_numbers cA_r2_numbers f_r2_numbers r3_numbers cA_r3_numbers f_r3_numbers r3 r3_width r3_size r3_numbers)) hB ht hvm hP hD hK [9] [0, 1, 2, 3, 4, 5, 6, 7, 8] rfl 10 rfl (by decide +kernel) rfl (by decide +kernel) hk1 hFc
            generalize H1 = H at hP hS ⊢
            have hK : va_K (dC, dI) vwCl [(cA_sl, .object RX6), (cA_r0_numbers, .long), (cA_r1_numbers, .long), (cA_r2_numbers, .long), (cA_r3_numbers, .long)] s := hK
            have b_r_157 : 0 ≤ r_157.toInt ∧ r_157.toInt ≤ 1 := hw.1
            have s_r_157 := hw.2
            refine lv_if_ne (tgt := 52) hx hb dX9_paste_46 (by decide) (fun c_158 => ?_) (fun c_158 => ?_)
            · have ic_158 := zz_ne rfl (show Int32.toInt 0 = 0 from by decide) c_158
              replace s_r_157 := (s_r_157.resolve_left (fun h => ic_158 h.1)).2
              refine lv_aload hx hb dX9_paste_52 (lv_at hl 1 rfl) ?_
              refine va_get (D := (dC, dI)) (ci := 6) (v := .int r3_width) (C := RX6) (T := TX6) (N := 3) hx hb hts zl_X6 hown hK hP 9 rfl rfl 0 (by decide) (hts _ zw_t2_176) (fun _ h9 => h9) rfl dX9_paste_54 ?_
              refine lv_aload hx hb dX9_paste_57 (lv_at hl 0 rfl) ?_
              refine va_get (D := (dC, dI)) (ci := 6) (v := .int r3_width) (C := RX6) (T := TX6) (N := 3) hx hb hts zl_X6 hown hK hP 9 rfl rfl 0 (by decide) (hts _ zw_t2_176) (fun _ h9 => h9) rfl dX9_paste_59 ?_
              have nb_r3_width := zi_nb r3_width
              refine lv_icmp_eq (tgt := 68) hx hb dX9_paste_62 (by decide) (fun c_159 => ?_) (fun q => absurd (zz_neq rfl rfl q) (by first | with_reducible assumption | omega))
              have ic_159 := zz_eq rfl rfl c_159
              refine lv_aload hx hb dX9_paste_68 (lv_at hl 1 rfl) ?_
              refine lv_iload_n hx hb dX9_paste_70 rfl (lv_at hl 4 rfl) ?_
              refine lv_iload hx hb dX9_paste_71 (lv_at hl 7 rfl) ?_
              obtain ⟨hPc, hDc, hFc⟩ := z_cut (wc := (zV6 r3 r3_width r3_size r3_numbers)) hP hD hS hA [9] rfl (by decide +kernel)
              have hKc := hK.sub (tys' := []) [] rfl
              refine va_calli (va_runV (As := [.int p2, .int p5]) (rest := []) ⟨hx, hb, hml, hown, hts⟩ (k_X6_hasSpan_v1 l sa dC dI r3 p2 p5 r3_width r3_size r3_numbers b_r3_size H.size) (cwV 2 hts (z_gV zw_t6_80 zw_t6_81 zw_t6_82 zw_t1_10 zw_t6_83) rfl rfl rfl (by decide +kernel) (by rw [← hRe]; exact ⟨(Nat.le_of_ble_eq_true rfl), (Nat.le_of_ble_eq_true rfl)⟩)) (z_preV hPc hKc hDc hN hXs hS hFc (q := (RX6, TX6, 3)) (ci := 6) (q0 := 0) rfl rfl) rfl rfl hl.1 rfl (lv_room (Nat.le_of_ble_eq_true rfl)) dX9_paste_73 (by rw [← hRe]; exact ⟨(Nat.le_of_ble_eq_true rfl), (Nat.le_of_ble_eq_true rfl)⟩)) hS (fun q _ h => hFc q h) hFc (fun r_160 u t H1 locs ht hvm hw hB hz1 hk1 hS => ?_)
              obtain ⟨hP, hD, hK⟩ := z_after3 (wn := (zV170 h0 tp h0_tapeLength h0_faultKind h0_faultPlace nw im sl rd wk fm mt ch dy sl cA_sl f_sl r0 r0_width r0_size r0_numbers r0_numbers cA_r0_numbers f_r0_numbers r1 r1_width r1_size r1_numbers r1_numbers cA_r1_numbers f_r1_numbers r2 r2_width r2_size r2_numbers r2_numbers cA_r2_numbers f_r2_numbers r3_numbers cA_r3_numbers f_r3_numbers r3 r3_width r3_size r3_numbers)) hB ht hvm hP hD hK [9] [0, 1, 2, 3, 4, 5, 6, 7, 8] rfl 10 rfl (by decide +kernel) rfl (by decide +kernel) hk1 hFc
              generalize H1 = H at hP hS ⊢
              have hK : va_K (dC, dI) vwCl [(cA_sl, .object RX6), (cA_r0_numbers, .long), (cA_r1_numbers, .long), (cA_r2_numbers, .long), (cA_r3_numbers, .long)] s := hK
              have b_r_160 : 0 ≤ r_160.toInt ∧ r_160.toInt ≤ 1 := hw.1
              have s_r_160 := hw.2
              refine lv_if_eq (tgt := 91) hx hb dX9_paste_76 (by decide) (fun c_161 => ?_) (fun c_161 => ?_)
              · have ic_161 := zz_eq rfl (show Int32.toInt 0 = 0 from by decide) c_161
                replace s_r_160 := (s_r_160.resolve_right (fun h => absurd (ic_161.symm.trans h.1) (by decide))).2
                refine lv_bipush (v := (-7)) hx hb dX9_paste_91 (by decide) ?_
                have zr : Int32.toInt (-7) = (-7) := by decide
                have hWa : zSel r0_width.toInt r1_width.toInt r2_width.toInt r3_width.toInt (Int32.toInt 3) = r3_width.toInt := by rw [zc_3]; exact zSel_3
                have hSa : zSel r0_size.toInt r1_size.toInt r2_size.toInt r3_size.toInt (Int32.toInt 3) = r3_size.toInt := by rw [zc_3]; exact zSel_3
                have hWb : zSel r0_width.toInt r1_width.toInt r2_width.toInt r3_width.toInt (Int32.toInt 3) = r3_width.toInt := by rw [zc_3]; exact zSel_3
                have hSb : zSel r0_size.toInt r1_size.toInt r2_size.toInt r3_size.toInt (Int32.toInt 3) = r3_size.toInt := by rw [zc_3]; exact zSel_3
                have hsp : zPa (zSel r0_width.toInt r1_width.toInt r2_width.toInt r3_width.toInt) (zSel r0_size.toInt r1_size.toInt r2_size.toInt r3_size.toInt) (Int32.toInt 3) (p2.toInt) (Int32.toInt 3) (p4.toInt) (p5.toInt) (Int32.toInt (-7)) := zPa.at (by first | with_reducible assumption | omega) hWa hWb hSa hSb (Or.inr (Or.inr (Or.inl ⟨zr, by omega, by omega, by omega, by omega⟩)))
                have zc : Int32.toInt (-7) = (-7) := by decide
                exact W.iret (v := (-7)) hx hb hr (fun t ht hW => by rw [← hQe]; exact ⟨⟨(-7), (), rfl, ⟨by omega, by assumption⟩, ⟨f_r0_numbers, f_r1_numbers, f_r2_numbers, f_r3_numbers, z_ret hP hK hD ht hW [0, 1, 2, 3, 4, 5, 6, 7, 9, 8] [] rfl (by decide) rfl⟩⟩, hS.F ht⟩) hS.2.2 dX9_paste_93
              · have ic_161 := zz_neq rfl (show Int32.toInt 0 = 0 from by decide) c_161
                replace s_r_160 := (s_r_160.resolve_left (fun h => ic_161 h.1)).2
                refine lv_aload hx hb dX9_paste_79 (lv_at hl 0 rfl) ?_
                refine lv_iload hx hb dX9_paste_81 (lv_at hl 6 rfl) ?_
                refine lv_iload hx hb dX9_paste_83 (lv_at hl 7 rfl) ?_
                obtain ⟨hPc, hDc, hFc⟩ := z_cut (wc := (zV6 r3 r3_width r3_size r3_numbers)) hP hD hS hA [9] rfl (by decide +kernel)
                have hKc := hK.sub (tys' := []) [] rfl
                refine va_calli (va_runV (As := [.int p4, .int p5]) (rest := []) ⟨hx, hb, hml, hown, hts⟩ (k_X6_hasSpan_v1 l sa dC dI r3 p4 p5 r3_width r3_size r3_numbers b_r3_size H.size) (cwV 2 hts (z_gV zw_t6_80 zw_t6_81 zw_t6_82 zw_t1_10 zw_t6_83) rfl rfl rfl (by decide +kernel) (by rw [← hRe]; exact ⟨(Nat.le_of_ble_eq_true rfl), (Nat.le_of_ble_eq_true rfl)⟩)) (z_preV hPc hKc hDc hN hXs hS hFc (q := (RX6, TX6, 3)) (ci := 6) (q0 := 0) rfl rfl) rfl rfl hl.1 rfl (lv_room (Nat.le_of_ble_eq_true rfl)) dX9_paste_85 (by rw [← hRe]; exact ⟨(Nat.le_of_ble_eq_true rfl), (Nat.le_of_ble_eq_true rfl)⟩)) hS (fun q _ h => hFc q h) hFc (fun r_162 u t H1 locs ht hvm hw hB hz1 hk1 hS => ?_)
                obtain ⟨hP, hD, hK⟩ := z_after3 (wn := (zV170 h0 tp h0_tapeLength h0_faultKind h0_faultPlace nw im sl rd wk fm mt ch dy sl cA_sl f_sl r0 r0_width r0_size r0_numbers r0_numbers cA_r0_numbers f_r0_numbers r1 r1_width r1_size r1_numbers r1_numbers cA_r1_numbers f_r1_numbers r2 r2_width r2_size r2_numbers r2_numbers cA_r2_numbers f_r2_numbers r3_numbers cA_r3_numbers f_r3_numbers r3 r3_width r3_size r3_numbers)) hB ht hvm hP hD hK [9] [0, 1, 2, 3, 4, 5, 6, 7, 8] rfl 10 rfl (by decide +kernel) rfl (by decide +kernel) hk1 hFc
                generalize H1 = H at hP hS ⊢
                have hK : va_K (dC, dI) vwCl [(cA_sl, .object RX6), (cA_r0_numbers, .long), (cA_r1_numbers, .long), (cA_r2_numbers, .long), (cA_r3_numbers, .long)] s := hK
                have b_r_162 : 0 ≤ r_162.toInt ∧ r_162.toInt ≤ 1 := hw.1
                have s_r_162 := hw.2
                refine lv_if_ne (tgt := 94) hx hb dX9_paste_88 (by decide) (fun c_163 => ?_) (fun c_163 => ?_)
                · have ic_163 := zz_ne rfl (show Int32.toInt 0 = 0 from by decide) c_163
                  replace s_r_162 := (s_r_162.resolve_left (fun h => ic_163 h.1)).2
                  refine lv_aload hx hb dX9_paste_94 (lv_at hl 1 rfl) ?_
                  refine va_get (D := (dC, dI)) (ci := 6) (v := .ref r3_numbers) (C := RX6) (T := TX6) (N := 3) hx hb hts zl_X6 hown hK hP 9 rfl rfl 2 (by decide) (hts _ zw_t2_181) (fun _ h9 => h9) rfl dX9_paste_96 ?_
                  refine lv_iload_n hx hb dX9_paste_99 rfl (lv_at hl 4 rfl) ?_
                  refine lv_aload hx hb dX9_paste_100 (lv_at hl 0 rfl) ?_
                  refine va_get (D := (dC, dI)) (ci := 6) (v := .ref r3_numbers) (C := RX6) (T := TX6) (N := 3) hx hb hts zl_X6 hown hK hP 9 rfl rfl 2 (by decide) (hts _ zw_t2_181) (fun _ h9 => h9) rfl dX9_paste_102 ?_
                  refine lv_iload hx hb dX9_paste_105 (lv_at hl 6 rfl) ?_
                  refine lv_iload hx hb dX9_paste_107 (lv_at hl 7 rfl) ?_
                  have kc_p2 := zi_clamp (x := p2) rfl (by first | with_reducible assumption | omega)
                  have kc_p4 := zi_clamp (x := p4) rfl (by first | with_reducible assumption | omega)
                  have kc_p5 := zi_clamp (x := p5) rfl (by first | with_reducible assumption | omega)
                  refine va_copyl hx hb (by rw [hml]; exact hl.1.symm) hown (hts _ zw_t6_92) (hts _ zw_t4_39) (hts _ zw_t4_38) (hts _ zw_t1_18) hK hP hD hS 8 8 4 4 rfl rfl rfl rfl rfl (fun q => absurd (z_lt (k := 0) (by decide) q) (by first | with_reducible assumption | omega)) (fun q => absurd (z_lt (k := 0) (by decide) q) (by first | with_reducible assumption | omega)) (fun q => absurd (z_lt (k := 0) (by decide) q) (by first | with_reducible assumption | omega)) (by first | with_reducible assumption | omega) (by first | with_reducible assumption | omega) (fun _ _ => rfl) (by rw [← hRe]; exact (Nat.le_of_ble_eq_true rfl)) (by rw [← hRe]; exact (Nat.le_of_ble_eq_true rfl)) dX9_paste_109 (fun H locs hP hD hS => ?_)
                  obtain ⟨f_164, ef_164⟩ : ∃ g : Nat → Int64, g = va_cpy f_r3_numbers f_r3_numbers (Int32.toNatClampNeg p2) (Int32.toNatClampNeg p4) (Int32.toNatClampNeg p5) := ⟨_, rfl⟩
                  have hP : va_P (dC, dI) vwCl (zV170 h0 tp h0_tapeLength h0_faultKind h0_faultPlace nw im sl rd wk fm mt ch dy sl cA_sl f_sl r0 r0_width r0_size r0_numbers r0_numbers cA_r0_numbers f_r0_numbers r1 r1_width r1_size r1_numbers r1_numbers cA_r1_numbers f_r1_numbers r2 r2_width r2_size r2_numbers r2_numbers cA_r2_numbers f_r2_numbers r3_numbers cA_r3_numbers (va_cpy f_r3_numbers f_r3_numbers (Int32.toNatClampNeg p2) (Int32.toNatClampNeg p4) (Int32.toNatClampNeg p5)) r3 r3_width r3_size r3_numbers) H := hP
                  have hD : va_D A (zV170 h0 tp h0_tapeLength h0_faultKind h0_faultPlace nw im sl rd wk fm mt ch dy sl cA_sl f_sl r0 r0_width r0_size r0_numbers r0_numbers cA_r0_numbers f_r0_numbers r1 r1_width r1_size r1_numbers r1_numbers cA_r1_numbers f_r1_numbers r2 r2_width r2_size r2_numbers r2_numbers cA_r2_numbers f_r2_numbers r3_numbers cA_r3_numbers (va_cpy f_r3_numbers f_r3_numbers (Int32.toNatClampNeg p2) (Int32.toNatClampNeg p4) (Int32.toNatClampNeg p5)) r3 r3_width r3_size r3_numbers) := hD
                  rw [← ef_164] at hP hD
                  refine lv_iconst (v := 0) hx hb dX9_paste_112 (by decide) ?_
                  have zr : Int32.toInt 0 = 0 := by decide
                  have hWa : zSel r0_width.toInt r1_width.toInt r2_width.toInt r3_width.toInt (Int32.toInt 3) = r3_width.toInt := by rw [zc_3]; exact zSel_3
                  have hSa : zSel r0_size.toInt r1_size.toInt r2_size.toInt r3_size.toInt (Int32.toInt 3) = r3_size.toInt := by rw [zc_3]; exact zSel_3
                  have hWb : zSel r0_width.toInt r1_width.toInt r2_width.toInt r3_width.toInt (Int32.toInt 3) = r3_width.toInt := by rw [zc_3]; exact zSel_3
                  have hSb : zSel r0_size.toInt r1_size.toInt r2_size.toInt r3_size.toInt (Int32.toInt 3) = r3_size.toInt := by rw [zc_3]; exact zSel_3
                  have hsp : zPa (zSel r0_width.toInt r1_width.toInt r2_width.toInt r3_width.toInt) (zSel r0_size.toInt r1_size.toInt r2_size.toInt r3_size.toInt) (Int32.toInt 3) (p2.toInt) (Int32.toInt 3) (p4.toInt) (p5.toInt) (Int32.toInt 0) := zPa.at (by first | with_reducible assumption | omega) hWa hWb hSa hSb (Or.inr (Or.inr (Or.inr ⟨zr, by omega, by omega, by omega, by omega, by omega, by omega, by omega, by omega⟩)))
                  have zc : Int32.toInt 0 = 0 := by decide
                  exact W.iret (v := 0) hx hb hr (fun t ht hW => by rw [← hQe]; exact ⟨⟨0, (), rfl, ⟨by omega, by assumption⟩, ⟨f_r0_numbers, f_r1_numbers, f_r2_numbers, f_164, z_ret hP hK hD ht hW [0, 1, 2, 3, 4, 5, 6, 7, 9, 8] [] rfl (by decide) rfl⟩⟩, hS.F ht⟩) hS.2.2 dX9_paste_113
                · have ic_163 := zz_nne rfl (show Int32.toInt 0 = 0 from by decide) c_163
                  replace s_r_162 := (s_r_162.resolve_right (fun h => absurd (ic_163.symm.trans h.1) (by decide))).2
                  refine lv_bipush (v := (-7)) hx hb dX9_paste_91 (by decide) ?_
                  have zr : Int32.toInt (-7) = (-7) := by decide
                  have hWa : zSel r0_width.toInt r1_width.toInt r2_width.toInt r3_width.toInt (Int32.toInt 3) = r3_width.toInt := by rw [zc_3]; exact zSel_3
                  have hSa : zSel r0_size.toInt r1_size.toInt r2_size.toInt r3_size.toInt (Int32.toInt 3) = r3_size.toInt := by rw [zc_3]; exact zSel_3
                  have hWb : zSel r0_width.toInt r1_width.toInt r2_width.toInt r3_width.toInt (Int32.toInt 3) = r3_width.toInt := by rw [zc_3]; exact zSel_3
                  have hSb : zSel r0_size.toInt r1_size.toInt r2_size.toInt r3_size.toInt (Int32.toInt 3) = r3_size.toInt := by rw [zc_3]; exact zSel_3
                  have hsp : zPa (zSel r0_width.toInt r1_width.toInt r2_width.toInt r3_width.toInt) (zSel r0_size.toInt r1_size.toInt r2_size.toInt r3_size.toInt) (Int32.toInt 3) (p2.toInt) (Int32.toInt 3) (p4.toInt) (p5.toInt) (Int32.toInt (-7)) := zPa.at (by first | with_reducible assumption | omega) hWa hWb hSa hSb (Or.inr (Or.inr (Or.inl ⟨zr, by omega, by omega, by omega, by omega⟩)))
                  have zc : Int32.toInt (-7) = (-7) := by decide
                  exact W.iret (v := (-7)) hx hb hr (fun t ht hW => by rw [← hQe]; exact ⟨⟨(-7), (), rfl, ⟨by omega, by assumption⟩, ⟨f_r0_numbers, f_r1_numbers, f_r2_numbers, f_r3_numbers, z_ret hP hK hD ht hW [0, 1, 2, 3, 4, 5, 6, 7, 9, 8] [] rfl (by decide) rfl⟩⟩, hS.F ht⟩) hS.2.2 dX9_paste_93
            · have ic_158 := zz_nne rfl (show Int32.toInt 0 = 0 from by decide) c_158
              replace s_r_157 := (s_r_157.resolve_right (fun h => absurd (ic_158.symm.trans h.1) (by decide))).2
              refine lv_bipush (v := (-6)) hx hb dX9_paste_49 (by decide) ?_
              have zr : Int32.toInt (-6) = (-6) := by decide
              have hWa : zSel r0_width.toInt r1_width.toInt r2_width.toInt r3_width.toInt (Int32.toInt 3) = r3_width.toInt := by rw [zc_3]; exact zSel_3
              have hSa : zSel r0_size.toInt r1_size.toInt r2_size.toInt r3_size.toInt (Int32.toInt 3) = r3_size.toInt := by rw [zc_3]; exact zSel_3
              have hWb : zSel r0_width.toInt r1_width.toInt r2_width.toInt r3_width.toInt (Int32.toInt 3) = r3_width.toInt := by rw [zc_3]; exact zSel_3
              have hSb : zSel r0_size.toInt r1_size.toInt r2_size.toInt r3_size.toInt (Int32.toInt 3) = r3_size.toInt := by rw [zc_3]; exact zSel_3
              have hsp : zPa (zSel r0_width.toInt r1_width.toInt r2_width.toInt r3_width.toInt) (zSel r0_size.toInt r1_size.toInt r2_size.toInt r3_size.toInt) (Int32.toInt 3) (p2.toInt) (Int32.toInt 3) (p4.toInt) (p5.toInt) (Int32.toInt (-6)) := zPa.at (by first | with_reducible assumption | omega) hWa hWb hSa hSb (Or.inl ⟨zr, by omega⟩)
              have zc : Int32.toInt (-6) = (-6) := by decide
              exact W.iret (v := (-6)) hx hb hr (fun t ht hW => by rw [← hQe]; exact ⟨⟨(-6), (), rfl, ⟨by omega, by assumption⟩, ⟨f_r0_numbers, f_r1_numbers, f_r2_numbers, f_r3_numbers, z_ret hP hK hD ht hW [0, 1, 2, 3, 4, 5, 6, 7, 9, 8] [] rfl (by decide) rfl⟩⟩, hS.F ht⟩) hS.2.2 dX9_paste_51
        · omega
      · omega
    · have ic_4 := zz_nne rfl (show Int32.toInt 0 = 0 from by decide) c_4
      replace s_r_3 := (s_r_3.resolve_right (fun h => absurd (ic_4.symm.trans h.1) (by decide))).2
      refine lv_bipush (v := (-2)) hx hb dX9_paste_14 (by decide) ?_
      have zr : Int32.toInt (-2) = (-2) := by decide
      have hsp : zPa (zSel r0_width.toInt r1_width.toInt r2_width.toInt r3_width.toInt) (zSel r0_size.toInt r1_size.toInt r2_size.toInt r3_size.toInt) (p1.toInt) (p2.toInt) (p3.toInt) (p4.toInt) (p5.toInt) (Int32.toInt (-2)) := zPa.out zr (by first | with_reducible assumption | omega)
      have zc : Int32.toInt (-2) = (-2) := by decide
      exact W.iret (v := (-2)) hx hb hr (fun t ht hW => by rw [← hQe]; exact ⟨⟨(-2), (), rfl, ⟨by omega, by assumption⟩, ⟨f_r0_numbers, f_r1_numbers, f_r2_numbers, f_r3_numbers, z_ret hP hK hD ht hW [0, 1, 2, 3, 4, 5, 6, 7, 8, 9] [] rfl (by decide) rfl⟩⟩, hS.F ht⟩) hS.2.2 dX9_paste_16
