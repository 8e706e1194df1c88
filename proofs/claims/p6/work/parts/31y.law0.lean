set_option linter.all false
/-! THE CLAIM OUT OF ONE WALK OF THE LAW'S BODY. Your part is whole_start (and what it stands on); all else here is the same for every law, but numbers. -/
def R_law : String := "NameGateLaw"
def lw_P (b : Addr) (xs : List Int32) (args : Array Value) (s : State) : Prop := args = #[.ref b] ∧ s.IntsAt b xs ∧ xs.length ≤ 3072 ∧ (Jvm.Cond.and given_1 narrow_1).before args s = true
def lw_Q (_ : Array Value) (s : State) (o : Outcome) (t : State) : Prop := o = .returned (some (.int 1)) ∧ Framed s o t [] 600000 7302250
def lw_Z (below : List Frame) (a : Array Value) (s : State) : State → Prop := fun t => ∃ o, t.status = .running ∧ Ended t below o ∧ lw_Q a s o t
/-- the law's own end, with 1 on the stack, nothing written that was there before, its room as the claim has it -/
theorem lw_ret {p : Program} {l : Launch} {e : Env} {s : State} {m : MethodId} {below : List Frame} {meth : Method} {c : Code} {b : Nat} (hx : p.tables.exec = Jvm.exec) (hb : c.code = code) (hr : meth.sig.returnType = ret) (hlocks : meth.locks = false) {pc : Nat} {H : Heap} {ls : Array Slot} (hdg : decode code pc = .ok (.ireturn, 1)) : W p l e room_1 s m #[Value.ref b] below meth c H [] 600000 7302250 (lw_Z below #[Value.ref b] s) (F0 m pc ls [.int 1]) := by
  intro T hT X
  refine (X.leave (v := some (.int 1)) (hlocks := hlocks) (fun h => by rw [hr] at h; cases h)).elim fun fs ze1 => ze1.elim fun hret ze2 => ze2.elim fun hrun ze3 => ze3.elim fun hended ze4 => ze4.elim fun hW hframe => ?_
  clear ze1 ze2 ze3 ze4
  have hmeth' : T.vm.method? m = some meth := X.method'
  refine ⟨T.setFrames fs, ?_, .returned (some (.int 1)), hrun, hended, rfl, ⟨_, rfl⟩, hW, hframe⟩
  jvm_step X.here [X.here.top, hx, hb, hdg, hmeth', hr, ret, narrow_b1]
  (try refine ⟨rfl, ?_⟩); (try refine ⟨rfl, ?_⟩)
  first | (intro acts; rw [hret _ acts rfl rfl rfl]) | rw [hret _ _ rfl rfl rfl]
  exact Steps.refl _
/-- what holds at the law's entry: the machine, the code, the tables' words (any of lw_tbl by 'hts w (by decide +kernel)'), the script of L ints xs at the cell b, what the Statement gives of the start (any of its parts by flat_of_before) -/
def lw_At (p : Program) (s : State) (m : MethodId) (meth : Method) (c : Code) (b L : Nat) (xs : Nat → Int32) : Prop :=
  p.tables.exec = Jvm.exec ∧ c.code = code ∧ meth.sig.returnType = ret ∧ c.maxLocals = 4 ∧ s.vm.findClass R_law = some m.cls ∧ (∀ w ∈ lw_tbl, w.before #[Value.ref b] s = true) ∧ va_X b L xs s s.heap ∧ b < s.heap.size ∧ meth.locks = false ∧ (Jvm.Cond.and given_1 narrow_1).before #[Value.ref b] s = true
theorem zs_add {i0 x k : Int32} {L : Nat} {n : Int} (ex : x = i0 + k) (hi : 0 ≤ i0.toInt ∧ i0.toInt + 6 ≤ (L : Int) ∧ L ≤ 3072) (hk : k.toInt = n) (hn : 0 ≤ n ∧ n ≤ 5) : x.toInt = i0.toInt + n := by
  rw [ex]; exact zi_add rfl hk (by first | with_reducible assumption | omega)
theorem zs_in {i0 x : Int32} {L : Nat} {n : Int} (hx : x.toInt = i0.toInt + n) (hi : 0 ≤ i0.toInt ∧ i0.toInt + 6 ≤ (L : Int) ∧ L ≤ 3072) (hn : 0 ≤ n ∧ n ≤ 5) : vp_in x L := zi_in (n := L) hx (by first | with_reducible assumption | omega)
theorem zs_eq {x y : Int32} {a : Int} (h : x.toInt = a) (h' : y.toInt = a) : x = y := Int32.toInt_inj.mp (h.trans h'.symm)
theorem zs_len {L : Nat} (h : L ≤ 3072) : (Int32.ofNat L).toInt = (L : Int) := nI_toInt (n := L) (by first | with_reducible assumption | omega)
theorem z_preA {sa : Nat → Nat} {locs : List Loc} {s : State} {H : Heap} {dC : Nat → ClassId} {dI : Nat → Nat → Nat} {wc : va_W} {tc : List (ClassId × FieldType)} {A : Nat → Prop} {As : List Value} (hP : va_P (dC, dI) vwCl wc H) (hK : va_K (dC, dI) vwCl tc s) (hD : va_D A wc) (hN : zN s) (hX : zX sa A s s.heap) (hS : va_S A s.heap H locs) (hF : ∀ q, va_A wc H.size q → A q) (h3 : va_AO RX3 s) (h6 : va_AO RX6 s) : PreS s H (va_Pc As (fun U => zB sa dC dI wc tc H.size U ∧ va_AO RX3 U ∧ va_AO RX6 U)) As :=
  ⟨fun a U g mk q => by
    obtain ⟨q0, qB, a3, a6⟩ := q
    exact ⟨(z_blind (av := As) a U g mk ⟨q0, qB⟩).1, (z_blind (av := As) a U g mk ⟨q0, qB⟩).2, va_AO.moved (u := U) (U := U.calling g mk a) (Vm.Alike.refl U.vm) a3, va_AO.moved (u := U) (U := U.calling g mk a) (Vm.Alike.refl U.vm) a6⟩, fun U hU hW => ⟨rfl, ⟨by rw [hU], by rw [hU]; exact hP, va_K.moved hW.alike hK, hD.weaken (fun _ _ _ _ => trivial), hN.warm hW, by rw [hU]; exact (hX.call hS.2.1 hF).warm hW⟩, va_AO.moved hW.alike h3, va_AO.moved hW.alike h6⟩⟩
theorem z_pr {D : va_G} {cl : List vw_C} {wx wt : va_W} {H : Heap} (h : va_P D cl (wx ++ wt) H) : va_P D cl wt H := fun k q hq => h (wx.length + k) q (by rw [List.getElem?_append_right (Nat.le_add_right _ _), Nat.add_sub_cancel_left]; exact hq)
theorem z_dr {A : Nat → Prop} {wx wt : va_W} (h : va_D A (wx ++ wt)) : va_D A wt := by
  have e : ∀ (k : Nat) (q : Nat × va_E), wt[k]? = some q → (wx ++ wt)[wx.length + k]? = some q := fun k q hq => by rw [List.getElem?_append_right (Nat.le_add_right _ _), Nat.add_sub_cancel_left]; exact hq
  exact ⟨fun i j p q hp hq z => by have := h.1 _ _ p q (e i p hp) (e j q hq) z; omega, fun k q hq => h.2 _ q (e k q hq)⟩
theorem z_afterX {s t : State} {A0 : Nat → Prop} {dC : Nat → ClassId} {dI : Nat → Nat → Nat} {wx wt wc w1 : va_W} {t1 tys : List (ClassId × FieldType)} {H H1 : Heap} (wr : va_W) (hB : zW dC dI w1 t1 (va_A wc H.size) t) (ht : t.heap = H1) (hvm : s.vm.Alike t.vm) (hP : va_P (dC, dI) vwCl (wx ++ wt) H) (hD : va_D A0 (wx ++ wt)) (hK : va_K (dC, dI) vwCl tys s) (isC isR : List Nat) (hC : isC.map (fun i => wt[i]?) = wc.map some) (hR : isR.map (fun i => wt[i]?) = wr.map some) (hn : va_nd isR = true) (hdis : ∀ i ∈ isR, i ∉ isC)
    (hk : ∀ q : Nat, q < H.size → ¬ va_A wc H.size q → H1[q]? = H[q]?) (hF : ∀ q, va_A wc H.size q → A0 q) : va_P (dC, dI) vwCl (wx ++ (wr ++ w1)) H1 ∧ va_D A0 (wx ++ (wr ++ w1)) ∧ va_K (dC, dI) vwCl (tys ++ t1) s := by
  obtain ⟨a, b, c⟩ := z_after wr hB ht hvm (z_pr hP) (z_dr hD) hK isC isR hC hR hn hdis hk hF
  have el : ∀ (k : Nat) (q : Nat × va_E), wx[k]? = some q → (wx ++ wt)[k]? = some q ∧ k < wx.length := fun k q hq => by
    have hl := (List.getElem?_eq_some_iff.mp hq).1
    exact ⟨by rw [List.getElem?_append_left hl]; exact hq, hl⟩
  have er : ∀ (k : Nat) (q : Nat × va_E), wt[k]? = some q → (wx ++ wt)[wx.length + k]? = some q := fun k q hq => by rw [List.getElem?_append_right (Nat.le_add_right _ _), Nat.add_sub_cancel_left]; exact hq
  have at' : ∀ {is : List Nat} {w : va_W}, is.map (fun i => wt[i]?) = w.map some → ∀ (k : Nat) (q : Nat × va_E), w[k]? = some q → ∃ i : Nat, wt[i]? = some q := by
    intro is w hs k q hq
    have h1 : (is.map (fun i => wt[i]?))[k]? = some (some q) := by rw [hs, List.getElem?_map, hq]; rfl
    rw [List.getElem?_map] at h1
    cases hi : is[k]? with
    | none => rw [hi] at h1; cases h1
    | some i => rw [hi] at h1; exact ⟨i, Option.some.inj h1⟩
  have nt : ∀ (i j : Nat) (x y : Nat × va_E), wx[i]? = some x → wt[j]? = some y → x.1 ≠ y.1 := fun i j x y hx hy e => by
    have h1 := el i x hx
    have := hD.1 _ _ x y h1.1 (er j y hy) e
    omega
  have ap : ∀ (i : Nat) (x : Nat × va_E), wx[i]? = some x → x.1 < H.size ∧ ¬ va_A wc H.size x.1 := fun i x hx => by
    have hl := (hP i x (el i x hx).1).lt
    refine ⟨hl, fun h => ?_⟩
    rcases h with ⟨k2, e, h⟩ | h
    · obtain ⟨j, hj⟩ := at' hC k2 (x.1, e) h
      exact nt i j x (x.1, e) hx hj rfl
    · omega
  refine ⟨va_P.app (fun i x hx => ?_) a, va_D.app ⟨fun i j p q hp hq z => hD.1 _ _ p q (el i p hp).1 (el j q hq).1 z, fun i x hx => hD.2 _ x (el i x hx).1⟩ b (fun i j x y hx hy e => ?_), c⟩
  · exact (hP i x (el i x hx).1).kept (hk x.1 (ap i x hx).1 (ap i x hx).2)
  · rcases Nat.lt_or_ge j wr.length with hj | hj
    · rw [List.getElem?_append_left hj] at hy
      obtain ⟨k, hk'⟩ := at' hR j y hy
      exact nt i k x y hx hk' e
    · rw [List.getElem?_append_right hj] at hy
      exact (ap i x hx).2 (by rw [e]; exact hB.2.2.2 _ y hy)
theorem z_it {v a g0 g1 g2 g3 : Nat} (h : v = a ∨ v = g0) (h' : a = g0 ∨ a = g1 ∨ a = g2 ∨ a = g3) : v = g0 ∨ v = g1 ∨ v = g2 ∨ v = g3 := by omega
theorem z_bk {t a b c g0 g1 g2 g3 : Nat} (h : t = g0 ∨ t = a ∨ t = b ∨ t = c) (ha : a = g0 ∨ a = g1 ∨ a = g2 ∨ a = g3) (hb : b = g0 ∨ b = g1 ∨ b = g2 ∨ b = g3) (hc : c = g0 ∨ c = g1 ∨ c = g2 ∨ c = g3) : t = g0 ∨ t = g1 ∨ t = g2 ∨ t = g3 := by
  rcases h with h | h | h | h
  · exact Or.inl h
  · rw [h]; exact ha
  · rw [h]; exact hb
  · rw [h]; exact hc
theorem z_sw1 {a g0 g1 g2 g3 : Nat} (h : a = g0 ∨ a = g1 ∨ a = g2 ∨ a = g3) : a = g1 ∨ a = g0 ∨ a = g2 ∨ a = g3 := by omega
theorem z_sw2 {a g0 g1 g2 g3 : Nat} (h : a = g0 ∨ a = g1 ∨ a = g2 ∨ a = g3) : a = g2 ∨ a = g1 ∨ a = g0 ∨ a = g3 := by omega
theorem z_sw3 {a g0 g1 g2 g3 : Nat} (h : a = g0 ∨ a = g1 ∨ a = g2 ∨ a = g3) : a = g3 ∨ a = g1 ∨ a = g2 ∨ a = g0 := by omega
theorem z_tn0 {a n g0 g1 g2 g3 : Nat} (h : a = g0 ∨ a = g1 ∨ a = g2 ∨ a = g3) (hne : a ≠ g0) : a = n ∨ a = g1 ∨ a = g2 ∨ a = g3 := by omega
theorem z_tn1 {a n g0 g1 g2 g3 : Nat} (h : a = g0 ∨ a = g1 ∨ a = g2 ∨ a = g3) (hne : a ≠ g1) : a = n ∨ a = g0 ∨ a = g2 ∨ a = g3 := by omega
theorem z_tn2 {a n g0 g1 g2 g3 : Nat} (h : a = g0 ∨ a = g1 ∨ a = g2 ∨ a = g3) (hne : a ≠ g2) : a = n ∨ a = g1 ∨ a = g0 ∨ a = g3 := by omega
theorem z_tn3 {a n g0 g1 g2 g3 : Nat} (h : a = g0 ∨ a = g1 ∨ a = g2 ∨ a = g3) (hne : a ≠ g3) : a = n ∨ a = g1 ∨ a = g2 ∨ a = g0 := by omega
def zTm (i : Nat) : Term := .string "NameGate$Reader" (zTx.getD i (0, "")).1
def zGv : Cond := Jvm.Cond.and given_1 narrow_1
theorem zG_ex : ∀ i : Nat, i < 14 → Cond.exactly (zTm i) "java/lang/String" ∈ flatC zGv := by decide +kernel
theorem zG_co : ∀ i : Nat, i < 14 → Cond.eq (.field (zTm i) "java/lang/String" "coder" "B") (.int 0) ∈ flatC zGv := by decide +kernel
theorem zG_ar : ∀ i : Nat, i < 14 → Cond.arrayOf (.field (zTm i) "java/lang/String" "value" "[B") .byte ∈ flatC zGv := by decide +kernel
theorem zG_le : ∀ i : Nat, i < 14 → Cond.eq (.length (.field (zTm i) "java/lang/String" "value" "[B")) (.int (Int32.ofNat (zLen.getD i 0))) ∈ flatC zGv := by decide +kernel
theorem zG_el : ∀ i : Nat, i < 14 → ∀ j : Nat, j < zLen.getD i 0 → Cond.eq (.elem (.field (zTm i) "java/lang/String" "value" "[B") (.int (Int32.ofNat j))) (.int ((zByt.getD i []).getD j 0)) ∈ flatC zGv := by decide +kernel
def zIx : List (List Nat) := [[0, 95, 120, 181, 239, 74, 75, 84, 105, 132, 147, 165, 199, 218], [95, 0, 122, 183, 241, 93, 94, 96, 107, 134, 149, 167, 201, 220], [120, 122, 0, 185, 243, 118, 119, 121, 123, 136, 151, 169, 203, 222], [181, 183, 185, 0, 247, 179, 180, 182, 184, 186, 187, 188, 207, 226], [239, 241, 243, 247, 0, 237, 238, 240, 242, 244, 245, 246, 248, 249], [74, 93, 118, 179, 237, 0, 64, 82, 103, 130, 145, 163, 197, 216], [75, 94, 119, 180, 238, 64, 0, 83, 104, 131, 146, 164, 198, 217], [84, 96, 121, 182, 240, 82, 83, 0, 106, 133, 148, 166, 200, 219], [105, 107, 123, 184, 242, 103, 104, 106, 0, 135, 150, 168, 202, 221], [132, 134, 136, 186, 244, 130, 131, 133, 135, 0, 152, 170, 204, 223], [147, 149, 151, 187, 245, 145, 146, 148, 150, 152, 0, 171, 205, 224], [165, 167, 169, 188, 246, 163, 164, 166, 168, 170, 171, 0, 206, 225], [199, 201, 203, 207, 248, 197, 198, 200, 202, 204, 205, 206, 0, 227], [218, 220, 222, 226, 249, 216, 217, 219, 221, 223, 224, 225, 227, 0]]
theorem zG_nx : ∀ i : Nat, i < 14 → ∀ j : Nat, j < 14 → i ≠ j → ((flatC zGv)[(zIx.getD i []).getD j 0]? = some (Cond.not (Cond.eq (zTm i) (zTm j))) ∨ (flatC zGv)[(zIx.getD i []).getD j 0]? = some (Cond.not (Cond.eq (zTm j) (zTm i)))) := by decide +kernel
theorem zG_ne (i : Nat) (hi : i < 14) (j : Nat) (hj : j < 14) (h : i ≠ j) : (Cond.not (Cond.eq (zTm i) (zTm j)) ∈ flatC zGv ∨ Cond.not (Cond.eq (zTm j) (zTm i)) ∈ flatC zGv) := (zG_nx i hi j hj h).imp (fun q => List.mem_of_getElem? q) (fun q => List.mem_of_getElem? q)
theorem zG_wp : ∀ j : Nat, j < 6 → Cond.eq (.elem (.static "NameGate$Families" "WITH_PERSON" "[J") (.int (Int32.ofNat j))) (.long (zWP j)) ∈ flatC zGv := by decide +kernel
theorem zG_pw : ∀ j : Nat, j < 4 → Cond.eq (.elem (.static "NameGate$Chances" "POWERS" "[I") (.int (Int32.ofNat j))) (.int (zPow j)) ∈ flatC zGv := by decide +kernel
theorem zG_sr : ∀ i : Nat, i < 14 → Cond.stringRef RX5 (zTx.getD i (0, "")).1 (zTx.getD i (0, "")).2 ∈ tables_1 := by decide +kernel
theorem z_start {s : State} {b : Nat} {A : Nat → Prop} (hgv : (Jvm.Cond.and given_1 narrow_1).before #[Value.ref b] s = true) (hts : ∀ w ∈ lw_tbl, w.before #[Value.ref b] s = true) (hA : ∀ a : Nat, a < s.heap.size → ¬ A a) : zN s ∧ ∃ sa : Nat → Nat, zX sa A s s.heap := by
  have hg : ∀ c ∈ flatC zGv, c.before #[Value.ref b] s = true := flat_of_before _ hgv
  have ht : ∀ c ∈ tables_1, c.before #[Value.ref b] s = true := fun c h => hts c (List.mem_append_right _ h)
  refine ⟨⟨va_Nw.of rfl (ht _ (by decide +kernel)), va_Nw.of rfl (ht _ (by decide +kernel)), va_Nw.of rfl (ht _ (by decide +kernel)), va_Nw.of rfl (ht _ (by decide +kernel)), va_Nw.of rfl (ht _ (by decide +kernel)), va_Nw.of rfl (ht _ (by decide +kernel)), va_Nw.of rfl (ht _ (by decide +kernel)), va_Nw.of rfl (ht _ (by decide +kernel))⟩, ?_⟩
  obtain ⟨t0, e0, T0⟩ := va_Tof (tm := .static "NameGate$Families" "WITH_PERSON" "[J") (ty := .long) (N := 6) (f := fun j => .long (zWP j)) (A := A) (by decide) (hg _ (by decide +kernel)) (va_eqt (hg _ (by decide +kernel))) (fun j hj => va_eqtl (hg _ (zG_wp j hj))) hA
  obtain ⟨t1, e1, T1⟩ := va_Tof (tm := .static "NameGate$Chances" "POWERS" "[I") (ty := .int) (N := 4) (f := fun j => .int (zPow j)) (A := A) (by decide) (hg _ (by decide +kernel)) (va_eqt (hg _ (by decide +kernel))) (fun j hj => va_eqt (hg _ (zG_pw j hj))) hA
  obtain ⟨adK, adV, hSt, hE⟩ := vk_Sof (args := #[Value.ref b]) (s := s) (N := 14) (tm := zTm) (len := zLen) (byt := zByt) (A := A) (by decide) (fun i h => hg _ (zG_ex i h)) (fun i h => hg _ (zG_co i h)) (fun i h => hg _ (zG_ar i h)) (fun i h => hg _ (zG_le i h)) (fun i h j hj => hg _ (zG_el i h j hj)) (fun i j hi hj hne => (zG_ne i hi j hj hne).imp (hg _) (hg _)) hA
  obtain ⟨sa, s0, s1, sK, sV⟩ : ∃ sa : Nat → Nat, sa 0 = t0 ∧ sa 1 = t1 ∧ (∀ i, sa (2 + 2 * i) = adK i) ∧ (∀ i, sa (3 + 2 * i) = adV i) := by
    refine ⟨fun n => if n = 0 then t0 else if n = 1 then t1 else if n % 2 = 0 then adK ((n - 2) / 2) else adV ((n - 3) / 2), rfl, rfl, fun i => ?_, fun i => ?_⟩
    · show (if 2 + 2 * i = 0 then t0 else if 2 + 2 * i = 1 then t1 else if (2 + 2 * i) % 2 = 0 then adK ((2 + 2 * i - 2) / 2) else adV ((2 + 2 * i - 3) / 2)) = adK i
      rw [if_neg (by first | with_reducible assumption | omega), if_neg (by first | with_reducible assumption | omega), if_pos (by first | with_reducible assumption | omega), show (2 + 2 * i - 2) / 2 = i by omega]
    · show (if 3 + 2 * i = 0 then t0 else if 3 + 2 * i = 1 then t1 else if (3 + 2 * i) % 2 = 0 then adK ((3 + 2 * i - 2) / 2) else adV ((3 + 2 * i - 3) / 2)) = adV i
      rw [if_neg (by first | with_reducible assumption | omega), if_neg (by first | with_reducible assumption | omega), if_neg (by first | with_reducible assumption | omega), show (3 + 2 * i - 3) / 2 = i by omega]
  have kK : (fun i => sa (2 + 2 * i)) = adK := funext sK
  have kV : (fun i => sa (3 + 2 * i)) = adV := funext sV
  refine ⟨sa, ?_, ?_, ?_, ?_, ?_, ?_, ?_, ?_⟩
  · rw [s0]; exact va_Zref (ht _ (by decide +kernel)) (ht _ (by decide +kernel)) e0 hA
  · rw [s0]; exact T0
  · rw [s1]; exact va_Zref (ht _ (by decide +kernel)) (ht _ (by decide +kernel)) e1 hA
  · rw [s1]; exact T1
  · exact va_Zof (ht _ (by decide +kernel)) (ht _ (by decide +kernel)) (va_eqi (hg _ (by decide +kernel))) hA
  · exact va_Zqof (ht _ (by decide +kernel)) (ht _ (by decide +kernel)) (hg _ (by decide +kernel)) hA
  · rw [kK, kV]; exact hSt
  · intro i hi
    rw [sK i]
    exact vk_R.of (A := #[Value.ref b]) (ht _ (zG_sr i hi)) (hE i hi)
