set_option linter.all false
set_option maxHeartbeats 8000000 in
set_option maxRecDepth 100000 in
/-- THE LAW, from its entry to its loop -/
theorem law_start {p : Program} {e : Env} {s : State} {m : MethodId} {below : List Frame} {meth : Method} {c : Code} (l : Launch) {b L : Nat} {xs : Nat → Int32} (C0 : lw_At p s m meth c b L xs) (hk : ∀ (sa : Nat → Nat) (dC : Nat → ClassId) (dI : Nat → Nat → Nat) (A : Nat → Prop), (∀ q, s.heap.size ≤ q → A q) → (∀ q, A q → s.heap.size ≤ q) → zN s → zX sa A s s.heap → ∀ (ad : Nat → Nat) (cA : Nat → ClassId) (iv : Nat → Int32) (lw : Nat → Int64) (fi : Nat → Nat → Int32) (fl : Nat → Nat → Int64) (fo : Nat → Nat → Option Nat) (H : Heap) (locs : List Loc) (ls : Array Slot), zFacts ad cA iv lw fi fl fo → va_P (dC, dI) vwCl (zFull ad cA iv lw fi fl fo) H → va_D A (zFull ad cA iv lw fi fl fo) → va_K (dC, dI) vwCl (zTys cA) s → va_S A s.heap H locs → lv_has ls 4 [(3, .int 0), (2, .ref (ad 1)), (1, .ref (ad 0)), (0, .ref b)] → W p l e room_1 s m #[Value.ref b] below meth c H locs 166 101284 (lw_Z below #[Value.ref b] s) (F0 m 18 ls [])) : W p l e room_1 s m #[Value.ref b] below meth c s.heap [] 0 0 (lw_Z below #[Value.ref b] s) (entryFrame m ([Value.ref b] : List Value).toArray 4) := by
  refine (id C0).elim fun hx ze1 => ze1.elim fun hb ze2 => ze2.elim fun hr ze3 => ze3.elim fun hml ze4 => ze4.elim fun hown ze5 => ze5.elim fun hts ze6 => ze6.elim fun hX ze7 => ze7.elim fun hbl ze8 => ze8.elim fun hlocks hgv => ?_
  clear ze1 ze2 ze3 ze4 ze5 ze6 ze7 ze8
  have hown : s.vm.findClass RL = some m.cls := hown
  have hb : c.code = cL_law := hb
  have hAO_RX3 : va_AO RX3 s := va_AO.of (hts (.arrayOver (.object RX3)) (List.mem_append_right _ (List.mem_append_left _ (List.mem_of_getElem? (i := 182) (by decide +kernel)))))
  have hAO_RX6 : va_AO RX6 s := va_AO.of (hts (.arrayOver (.object RX6)) (List.mem_append_right _ (List.mem_append_left _ (List.mem_of_getElem? (i := 184) (by decide +kernel)))))
  obtain ⟨A, hAe⟩ : ∃ A : Nat → Prop, A = fun q : Nat => s.heap.size ≤ q := ⟨_, rfl⟩
  have hA : ∀ q : Nat, s.heap.size ≤ q → A q := fun q h => by rw [hAe]; exact h
  have hA2 : ∀ q : Nat, A q → s.heap.size ≤ q := fun q h => by rw [hAe] at h; exact h
  have hbA : ¬ A b := fun q => absurd (hA2 b q) (Nat.not_le.mpr hbl)
  obtain ⟨hN, sa, hXs⟩ := z_start (A := A) hgv hts (fun a ha q => absurd (hA2 a q) (Nat.not_le.mpr ha))
  have hts : ∀ w ∈ zT, w.before #[Value.ref b] s = true := fun w h => hts w (zT_in w h)
  obtain ⟨c0, iS0, hKn0⟩ := u_known (C := RX0) (T := TX0) (N := 17) (n := 17) hts zl_X0 (hts _ zw_t2_87)
  obtain ⟨c1, iS1, hKn1⟩ := u_known (C := RX1) (T := TX1) (N := 4) (n := 4) hts zl_X1 (hts _ zw_t2_148)
  obtain ⟨c2, iS2, hKn2⟩ := u_known (C := RX2) (T := TX2) (N := 4) (n := 4) hts zl_X2 (hts _ zw_t2_44)
  obtain ⟨c3, iS3, hKn3⟩ := u_known (C := RX3) (T := TX3) (N := 6) (n := 6) hts zl_X3 (hts _ zw_t1_29)
  obtain ⟨c4, iS4, hKn4⟩ := u_known (C := RX4) (T := TX4) (N := 5) (n := 5) hts zl_X4 (hts _ zw_t2_65)
  obtain ⟨c5, iS5, hKn5⟩ := u_known (C := RX5) (T := TX5) (N := 13) (n := 13) hts zl_X5 (hts _ zw_t1_186)
  obtain ⟨c6, iS6, hKn6⟩ := u_known (C := RX6) (T := TX6) (N := 3) (n := 3) hts zl_X6 (hts _ zw_t2_170)
  obtain ⟨c7, iS7, hKn7⟩ := u_known (C := RX7) (T := TX7) (N := 18) (n := 18) hts zl_X7 (hts _ zw_t1_35)
  obtain ⟨c8, iS8, hKn8⟩ := u_known (C := RX8) (T := TX8) (N := 11) (n := 11) hts zl_X8 (hts _ zw_t1_236)
  obtain ⟨c9, iS9, hKn9⟩ := u_known (C := RX9) (T := TX9) (N := 13) (n := 13) hts zl_X9 (hts _ zw_t1_21)
  obtain ⟨c10, iS10, hKn10⟩ := u_known (C := RX10) (T := TX10) (N := 53) (n := 53) hts zl_X10 (hts _ zw_t6_94)
  obtain ⟨dC, dI, hKc⟩ : ∃ (dC : Nat → ClassId) (dI : Nat → Nat → Nat), ∀ (k : Nat) (q : vw_C), vwCl[k]? = some q → u_Kn s q.1 q.2.1 q.2.2 (dC k) (dI k) := by
    refine ⟨fun k => [c0, c1, c2, c3, c4, c5, c6, c7, c8, c9, c10].getD k c0, fun k => [iS0, iS1, iS2, iS3, iS4, iS5, iS6, iS7, iS8, iS9, iS10].getD k iS0, ?_⟩
    intro k q hq
    match k, hq with
    | 0, hq => cases hq; exact hKn0
    | 1, hq => cases hq; exact hKn1
    | 2, hq => cases hq; exact hKn2
    | 3, hq => cases hq; exact hKn3
    | 4, hq => cases hq; exact hKn4
    | 5, hq => cases hq; exact hKn5
    | 6, hq => cases hq; exact hKn6
    | 7, hq => cases hq; exact hKn7
    | 8, hq => cases hq; exact hKn8
    | 9, hq => cases hq; exact hKn9
    | 10, hq => cases hq; exact hKn10
    | k + 11, hq => simp [vwCl] at hq
  have hS : va_S A s.heap s.heap [] := va_S.rf
  have hK : va_K (dC, dI) vwCl [] s := ⟨hKc, fun k q h => by simp at h⟩
  have hP : va_P (dC, dI) vwCl [] s.heap := fun k q h => by simp at h
  have hD : va_D A [] := ⟨fun i j p q h => by simp at h, fun k q h => by simp at h⟩
  have hl := lv_entry ([.ref b]) (n := 4) (Nat.le_of_ble_eq_true rfl)
  rw [lg_entry_eq]
  generalize (lg_sl ([.ref b]) ++ List.replicate (4 - (lg_sl ([.ref b])).length) Slot.unset).toArray = ls at hl ⊢
  have hl : lv_has ls 4 [(0, .ref b)] := hl
  refine va_new (ci := 9) (fs := [.null, .int 0, .int 0, .int 0, .null, .null, .null, .null, .null, .null, .null, .null, .null]) (C := RX9) (T := TX9) (N := 13) hx hb hts zl_X9 tyX9 tyX9_ok hown (hts _ zw_t1_20) (hts _ zw_t1_21) (hts _ zw_t1_1) hK hP hD hS hA rfl (by decide +kernel) (Nat.le_of_ble_eq_true rfl) (Nat.le_of_ble_eq_true rfl) dL_law_0 (fun q_1 H hP hD hS => ?_)
  refine W.widen (k := 1) (n := 13) (Nat.le_of_ble_eq_true rfl) (Nat.le_of_ble_eq_true rfl) ?_
  have hP : va_P (dC, dI) vwCl (zV173 q_1) H := hP
  have hD : va_D A (zV173 q_1) := hD
  refine lv_dup hx hb dL_law_3 rfl ?_
  have hPc := hP.sub (ws' := (zV173 q_1)) [0] rfl
  have hDc := hD.sub (ws' := (zV173 q_1)) [0] (by decide) rfl
  have hKc := hK.sub (tys' := []) [] rfl
  have hFc := va_free (wc := (zV173 q_1)) hD hS hA [0] rfl
  refine va_callv (va_runI (As := []) (rest := [.ref q_1]) ⟨hx, hb, hml, hown, hts⟩ (k_X9_init l sa dC dI q_1 H.size) (cwI 0 hts (z_gI zw_t1_24) rfl rfl rfl (hts _ zw_t1_1) (hts _ zw_t1_22) (hts _ zw_t1_23) rfl (by decide +kernel) ⟨(Nat.le_of_ble_eq_true rfl), (Nat.le_of_ble_eq_true rfl)⟩) (z_preA hPc hKc hDc hN hXs hS hFc hAO_RX3 hAO_RX6) rfl rfl hl.1 rfl (lv_room (Nat.le_of_ble_eq_true rfl)) dL_law_4 ⟨(Nat.le_of_ble_eq_true rfl), (Nat.le_of_ble_eq_true rfl)⟩) hS (fun q _ h => hFc q h) hFc (fun u t H1 locs ht hvm hw hB hz1 hk1 hS => ?_)
  obtain ⟨u9, v9, hB⟩ := zk_9 (q0 := q_1) (t := t) (dC := dC) (dI := dI) hB
  obtain ⟨hP, hD, hK⟩ := z_after [] hB ht hvm hP hD hK [0] [] rfl rfl (by decide) (by decide) hk1 hFc
  have hP : va_P (dC, dI) vwCl (zW9 q_1 u9 v9) H1 := hP
  have hD : va_D A (zW9 q_1 u9 v9) := hD
  have hK : va_K (dC, dI) vwCl (zT9 v9) s := hK
  generalize H1 = H at hP hS ⊢
  refine W.widen (k := 135) (n := 53566) (Nat.le_of_ble_eq_true rfl) (Nat.le_of_ble_eq_true rfl) ?_
  refine lv_astore_n (lv' := [(1, .ref q_1), (0, .ref b)]) hx hb dL_law_7 rfl hl (by decide) rfl (fun ls hl => ?_)
  refine va_new (ci := 10) (fs := [.int 0, .null, .null, .null, .null, .null, .int 0, .int 0, .int 0, .int 0, .int 0, .long 0, .int 0, .int 0, .int 0, .int 0, .null, .null, .null, .null, .null, .null, .null, .null, .null, .null, .null, .null, .null, .null, .int 0, .int 0, .int 0, .int 0, .null, .null, .null, .null, .null, .null, .null, .null, .null, .int 0, .null, .null, .int 0, .long 0, .int 0, .int 0, .int 0, .int 0, .long 0]) (C := RX10) (T := TX10) (N := 53) hx hb hts zl_X10 tyX10 tyX10_ok hown (hts _ zw_t6_93) (hts _ zw_t6_94) (hts _ zw_t1_11) hK hP hD hS hA rfl (by decide +kernel) (Nat.le_of_ble_eq_true rfl) (Nat.le_of_ble_eq_true rfl) dL_law_8 (fun q_249 H hP hD hS => ?_)
  refine W.widen (k := 136) (n := 53619) (Nat.le_of_ble_eq_true rfl) (Nat.le_of_ble_eq_true rfl) ?_
  refine lv_dup hx hb dL_law_11 rfl ?_
  have hPc : va_P (dC, dI) vwCl (zV174 q_249) H := z_pr hP
  have hDc : va_D A (zV174 q_249) := z_dr hD
  have hKc := hK.sub (tys' := []) [] rfl
  have hFc := va_free (wc := (zV174 q_249)) hDc hS hA [0] rfl
  refine va_callv (va_runI (As := []) (rest := [.ref q_249]) ⟨hx, hb, hml, hown, hts⟩ (k_X10_init l sa dC dI q_249 H.size) (cwI 0 hts (z_gI zw_t6_97) rfl rfl rfl (hts _ zw_t1_11) (hts _ zw_t6_95) (hts _ zw_t6_96) rfl (by decide +kernel) ⟨(Nat.le_of_ble_eq_true rfl), (Nat.le_of_ble_eq_true rfl)⟩) (z_preS hPc hKc hDc hN hXs hS hFc) rfl rfl hl.1 rfl (lv_room (Nat.le_of_ble_eq_true rfl)) dL_law_12 ⟨(Nat.le_of_ble_eq_true rfl), (Nat.le_of_ble_eq_true rfl)⟩) hS (fun q _ h => hFc q h) hFc (fun u t H1 locs ht hvm hw hB hz1 hk1 hS => ?_)
  obtain ⟨u2, v2, hB⟩ := zk_10 (q0 := q_249) (t := t) (dC := dC) (dI := dI) hB
  obtain ⟨hP, hD, hK⟩ := z_afterX [] hB ht hvm hP hD hK [0] [] rfl rfl (by decide) (by decide) hk1 hFc
  have hP : va_P (dC, dI) vwCl (zW9 q_1 u9 v9 ++ zW10 q_249 u2 v2) H1 := hP
  have hD : va_D A (zW9 q_1 u9 v9 ++ zW10 q_249 u2 v2) := hD
  have hK : va_K (dC, dI) vwCl (zT9 v9 ++ zT10 v2) s := hK
  generalize H1 = H at hP hS ⊢
  refine W.widen (k := 166) (n := 101284) (Nat.le_of_ble_eq_true rfl) (Nat.le_of_ble_eq_true rfl) ?_
  refine lv_astore_n (lv' := [(2, .ref q_249), (1, .ref q_1), (0, .ref b)]) hx hb dL_law_15 rfl hl (by decide) rfl (fun ls hl => ?_)
  refine lv_iconst (v := 0) hx hb dL_law_16 (by decide) ?_
  refine lv_istore_n (lv' := [(3, .int 0), (2, .ref q_249), (1, .ref q_1), (0, .ref b)]) hx hb dL_law_17 rfl hl (by decide) rfl (fun ls hl => ?_)
  refine (zs_full q_1 q_249 u9 u2 v9 v2).elim fun ad ze1 => ze1.elim fun cA ze2 => ze2.elim fun iv ze3 => ze3.elim fun lw ze4 => ze4.elim fun fi ze5 => ze5.elim fun fl ze6 => ze6.elim fun fo ze7 => ze7.elim fun hF9 ze8 => ze8.elim fun e9a_0 ze9 => ze9.elim fun e9a_1 ze10 => ze10.elim fun h9W h9T => ?_
  clear ze1 ze2 ze3 ze4 ze5 ze6 ze7 ze8 ze9 ze10
  have hP9 : va_P (dC, dI) vwCl (zFull ad cA iv lw fi fl fo) H := hP.sub zOr (zs_fm h9W)
  have hD9 : va_D A (zFull ad cA iv lw fi fl fo) := hD.sub zOr zOr_nd h9W
  have hK9 : va_K (dC, dI) vwCl (zTys cA) s := hK.sub zOt (zs_fm h9T)
  have hl9 : lv_has ls 4 [(3, .int 0), (2, .ref (ad 1)), (1, .ref (ad 0)), (0, .ref b)] := by
    rw [e9a_1, e9a_0]
    exact lv_sub hl [0, 1, 2, 3] rfl
  exact hk sa dC dI A hA hA2 hN hXs ad cA iv lw fi fl fo _ _ _ hF9 hP9 hD9 hK9 hS hl9
