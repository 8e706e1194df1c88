set_option linter.all false
/-! numbers -/
theorem z_lt {x y : Int32} {k : Int} (hy : y.toInt = k) (h : x < y) : x.toInt < k := by rw [← hy]; exact Int32.lt_iff_toInt_lt.mp h
theorem z_le {x y : Int32} {k : Int} (hy : y.toInt = k) (h : x ≤ y) : x.toInt ≤ k := by rw [← hy]; exact Int32.le_iff_toInt_le.mp h
theorem z_gt {x y : Int32} {k : Int} (hy : y.toInt = k) (h : y < x) : k < x.toInt := by rw [← hy]; exact Int32.lt_iff_toInt_lt.mp h
theorem z_ge {x y : Int32} {k : Int} (hy : y.toInt = k) (h : y ≤ x) : k ≤ x.toInt := by rw [← hy]; exact Int32.le_iff_toInt_le.mp h
theorem z_nlt {x y : Int32} {k : Int} (hy : y.toInt = k) (h : ¬ x < y) : k ≤ x.toInt := Int.not_lt.mp fun q => h (Int32.lt_iff_toInt_lt.mpr (by rw [hy]; exact q))
theorem z_nle {x y : Int32} {k : Int} (hy : y.toInt = k) (h : ¬ x ≤ y) : k < x.toInt := Int.not_le.mp fun q => h (Int32.le_iff_toInt_le.mpr (by rw [hy]; exact q))
theorem z_ngt {x y : Int32} {k : Int} (hy : y.toInt = k) (h : ¬ y < x) : x.toInt ≤ k := Int.not_lt.mp fun q => h (Int32.lt_iff_toInt_lt.mpr (by rw [hy]; exact q))
theorem z_nge {x y : Int32} {k : Int} (hy : y.toInt = k) (h : ¬ y ≤ x) : x.toInt < k := Int.not_le.mp fun q => h (Int32.le_iff_toInt_le.mpr (by rw [hy]; exact q))
theorem z_eq {x y : Int32} {k : Int} (hy : y.toInt = k) (h : x = y) : x.toInt = k := by rw [h]; exact hy
theorem z_ne {x y : Int32} {k : Int} (hy : y.toInt = k) (h : ¬ x = y) : ¬ x.toInt = k := fun q => h (Int32.toInt_inj.mp (q.trans hy.symm))
theorem z_of {x : Int32} (y : Int32) {k : Int} (hy : y.toInt = k) (h : x.toInt = k) : x = y := Int32.toInt_inj.mp (h.trans hy.symm)
theorem z_lo (x : Int32) : -2147483648 ≤ x.toInt := by have := Int32.le_toInt x; omega
theorem z_hi (x : Int32) : x.toInt ≤ 2147483647 := by have := Int32.toInt_lt x; omega
/-- x is below 0, one of the numbers 0 .. n, or above n -/
theorem z_s0 (x : Int32) : x.toInt < 0 ∨ x = 0 ∨ 0 < x.toInt := by
  rcases Int.lt_trichotomy x.toInt 0 with h | h | h
  · exact Or.inl h
  · exact Or.inr (Or.inl (z_of 0 (by decide) h))
  · exact Or.inr (Or.inr h)
theorem z_s1 (x : Int32) : x.toInt < 0 ∨ x = 0 ∨ x = 1 ∨ 1 < x.toInt := by
  rcases z_s0 x with h | h | h
  · exact Or.inl h
  · exact Or.inr (Or.inl h)
  · rcases Int.lt_or_le 1 x.toInt with q | q
    · exact Or.inr (Or.inr (Or.inr q))
    · exact Or.inr (Or.inr (Or.inl (z_of 1 (k := 1) (by decide) (by omega))))
theorem z_s2 (x : Int32) : x.toInt < 0 ∨ x = 0 ∨ x = 1 ∨ x = 2 ∨ 2 < x.toInt := by
  rcases z_s1 x with h | h | h | h
  · exact Or.inl h
  · exact Or.inr (Or.inl h)
  · exact Or.inr (Or.inr (Or.inl h))
  · rcases Int.lt_or_le 2 x.toInt with q | q
    · exact Or.inr (Or.inr (Or.inr (Or.inr q)))
    · exact Or.inr (Or.inr (Or.inr (Or.inl (z_of 2 (k := 2) (by decide) (by omega)))))
theorem z_s3 (x : Int32) : x.toInt < 0 ∨ x = 0 ∨ x = 1 ∨ x = 2 ∨ x = 3 ∨ 3 < x.toInt := by
  rcases z_s2 x with h | h | h | h | h
  · exact Or.inl h
  · exact Or.inr (Or.inl h)
  · exact Or.inr (Or.inr (Or.inl h))
  · exact Or.inr (Or.inr (Or.inr (Or.inl h)))
  · rcases Int.lt_or_le 3 x.toInt with q | q
    · exact Or.inr (Or.inr (Or.inr (Or.inr (Or.inr q))))
    · exact Or.inr (Or.inr (Or.inr (Or.inr (Or.inl (z_of 3 (k := 3) (by decide) (by omega))))))
/-- below a, within, above b -/
theorem z_sr (x : Int32) (a b : Int) : x.toInt < a ∨ (a ≤ x.toInt ∧ x.toInt ≤ b) ∨ b < x.toInt := by omega
theorem z_m1 (x : Int32) : x &&& (-1) = x := by
  apply Int32.toBitVec_inj.mp
  show x.toBitVec &&& (-1 : Int32).toBitVec = x.toBitVec
  rw [show (-1 : Int32).toBitVec = BitVec.allOnes 32 from by decide]
  exact BitVec.and_allOnes
theorem z_l64 (x : Int32) : x.toInt64.toInt = x.toInt := Int32.toInt_toInt64 x
theorem z_inNo (x : Int32) {lo hi : Int64} {a b : Int} (ha : lo.toInt = a) (hb : hi.toInt = b) (h : x.toInt < a ∨ b < x.toInt) : ¬ (lo ≤ x.toInt64 ∧ x.toInt64 ≤ hi) := by
  rintro ⟨h1, h2⟩
  have h1 := Int64.le_iff_toInt_le.mp h1
  have h2 := Int64.le_iff_toInt_le.mp h2
  rw [ha, z_l64] at h1
  rw [hb, z_l64] at h2
  omega
theorem z_inYes (x : Int32) {lo hi : Int64} {a b : Int} (ha : lo.toInt = a) (hb : hi.toInt = b) (h : a ≤ x.toInt ∧ x.toInt ≤ b) : lo ≤ x.toInt64 ∧ x.toInt64 ≤ hi := by
  constructor
  · apply Int64.le_iff_toInt_le.mpr
    rw [ha, z_l64]
    exact h.1
  · apply Int64.le_iff_toInt_le.mpr
    rw [hb, z_l64]
    exact h.2
theorem z_inC {n : Nat} (x : Int32) {k : Nat} (hx : x.toInt = k) (h : k < n) : vp_in x n := vp_in_iff.mpr ⟨by omega, by omega⟩
/-! worlds -/
/-- the links of the nested classes to NameGate.has -/
def zN (U : State) : Prop := va_Nw (.methodLinkNest RX5 180 yX9_has RX9) U ∧ va_Nw (.methodLinkNest RX7 76 yX9_has RX9) U ∧ va_Nw (.methodLinkNest RX8 69 yX9_has RX9) U ∧ va_Nw (.methodLinkNest RX2 78 yX9_has RX9) U ∧ va_Nw (.methodLinkNest RX4 45 yX9_has RX9) U ∧ va_Nw (.methodLinkNest RX0 54 yX9_has RX9) U ∧ va_Nw (.methodLinkNest RX3 38 yX9_has RX9) U ∧ va_Nw (.methodLinkNest RX1 74 yX9_has RX9) U
theorem zN.warm {s U : State} (hW : s.WarmedH U.vm) (h : zN s) : zN U := ⟨va_Nw.warmM hW h.1, va_Nw.warmM hW h.2.1, va_Nw.warmM hW h.2.2.1, va_Nw.warmM hW h.2.2.2.1, va_Nw.warmM hW h.2.2.2.2.1, va_Nw.warmM hW h.2.2.2.2.2.1, va_Nw.warmM hW h.2.2.2.2.2.2.1, va_Nw.warmM hW h.2.2.2.2.2.2.2⟩
theorem zN.same {s U : State} (hW : s.vm = U.vm) (h : zN s) : zN U := ⟨va_Nw.same rfl hW h.1, va_Nw.same rfl hW h.2.1, va_Nw.same rfl hW h.2.2.1, va_Nw.same rfl hW h.2.2.2.1, va_Nw.same rfl hW h.2.2.2.2.1, va_Nw.same rfl hW h.2.2.2.2.2.1, va_Nw.same rfl hW h.2.2.2.2.2.2.1, va_Nw.same rfl hW h.2.2.2.2.2.2.2⟩
/-- the static tables, and the texts: their places are sa 0, sa 1 and, of the i-th text, sa (2 + 2 i) and (its bytes) sa (3 + 2 i) -/
def zWP : Nat → Int64 := fun j => [(-6148914691236517206 : Int64), -3689348814741910324, -1085102592571150096, -71777214294589696, -281470681808896, -4294967296].getD j 0
def zPow : Nat → Int32 := fun j => [(1 : Int32), 3, 9, 27].getD j 1
def zTx : List (Nat × String) := [(124, "court"), (129, "gate"), (134, "person"), (139, "law"), (144, "false"), (149, "town"), (154, "hours"), (158, "in"), (166, "to"), (193, "at"), (197, "from"), (199, "strays"), (216, "deep"), (217, "here")]
def zLen : List Nat := [5, 4, 6, 3, 5, 4, 5, 2, 2, 2, 4, 6, 4, 4]
def zByt : List (List Int32) := [[99, 111, 117, 114, 116], [103, 97, 116, 101], [112, 101, 114, 115, 111, 110], [108, 97, 119], [102, 97, 108, 115, 101], [116, 111, 119, 110], [104, 111, 117, 114, 115], [105, 110], [116, 111], [97, 116], [102, 114, 111, 109], [115, 116, 114, 97, 121, 115], [100, 101, 101, 112], [104, 101, 114, 101]]
def zX (sa : Nat → Nat) (A : Nat → Prop) (U : State) (H : Heap) : Prop :=
  va_Z "NameGate$Families" "WITH_PERSON" "[J" (.ref (sa 0)) A U H ∧ va_T .long (sa 0) 6 (fun j => .long (zWP j)) A U H ∧ va_Z "NameGate$Chances" "POWERS" "[I" (.ref (sa 1)) A U H ∧ va_T .int (sa 1) 4 (fun j => .int (zPow j)) A U H ∧ va_Z "java/lang/String" "COMPACT_STRINGS" "Z" (.int 1) A U H ∧ va_Zq "jdk/internal/util/Preconditions" "SIOOBE_FORMATTER" "Ljava/util/function/BiFunction;" A U H ∧ vk_S 14 zLen zByt (fun i => sa (2 + 2 * i)) (fun i => sa (3 + 2 * i)) A U H ∧ ∀ i : Nat, i < 14 → vk_R RX5 (zTx.getD i (0, "")).1 (zTx.getD i (0, "")).2 (sa (2 + 2 * i)) U
theorem zX.warm {sa : Nat → Nat} {A : Nat → Prop} {s U : State} {H : Heap} (hW : s.WarmedH U.vm) (h : zX sa A s H) : zX sa A U H := by
  obtain ⟨h1, h2, h3, h4, h5, h6, h7, h8⟩ := h
  exact ⟨h1.moved hW.alike, h2.moved hW.alike, h3.moved hW.alike, h4.moved hW.alike, h5.moved hW.alike, h6.moved hW.alike, h7.moved hW.alike, fun i hi => (h8 i hi).warm hW⟩
theorem zX.same {sa : Nat → Nat} {A : Nat → Prop} {s U : State} {H : Heap} (hW : U.vm = s.vm) (h : zX sa A s H) : zX sa A U H := by
  obtain ⟨h1, h2, h3, h4, h5, h6, h7, h8⟩ := h
  have ha : s.vm.Alike U.vm := by rw [hW]; exact Vm.Alike.refl _
  exact ⟨h1.moved ha, h2.moved ha, h3.moved ha, h4.moved ha, h5.moved ha, h6.moved ha, h7.moved ha, fun i hi => (h8 i hi).same hW⟩
theorem zX.call {sa : Nat → Nat} {A B : Nat → Prop} {s : State} {H H1 : Heap} (h : zX sa A s H) (hq : ∀ a : Nat, a < H.size → ¬ A a → H1[a]? = H[a]?) (hAB : ∀ q, B q → A q) : zX sa B s H1 := by
  obtain ⟨h1, h2, h3, h4, h5, h6, h7, h8⟩ := h
  exact ⟨(h1.kept hq).narrow hAB, (h2.kept hq).narrow hAB, (h3.kept hq).narrow hAB, (h4.kept hq).narrow hAB, (h5.kept hq).narrow hAB, (h6.kept hq).narrow hAB, (h7.kept hq).narrow hAB, h8⟩
/-- what a contract asks of its start -/
def zB (sa : Nat → Nat) (dC : Nat → ClassId) (dI : Nat → Nat → Nat) (ws : va_W) (tys : List (ClassId × FieldType)) (sz : Nat) (U : State) : Prop := U.heap.size = sz ∧ va_P (dC, dI) vwCl ws U.heap ∧ va_K (dC, dI) vwCl tys U ∧ va_D (fun _ => True) ws ∧ zN U ∧ zX sa (va_A ws sz) U U.heap
/-- the world behind a method -/
def zW (dC : Nat → ClassId) (dI : Nat → Nat → Nat) (ws : va_W) (tys : List (ClassId × FieldType)) (A : Nat → Prop) (t : State) : Prop := va_P (dC, dI) vwCl ws t.heap ∧ va_K (dC, dI) vwCl tys t ∧ va_D A ws
theorem z_blind {sa : Nat → Nat} {dC : Nat → ClassId} {dI : Nat → Nat → Nat} {ws : va_W} {tys : List (ClassId × FieldType)} {sz : Nat} {av : List Value} : FrameBlind (va_Pc av (zB sa dC dI ws tys sz)) := fun a U g mk q => by
  obtain ⟨q0, q1, qP, qK, qD, qN, qX⟩ := q
  exact ⟨q0, q1, qP, va_K.moved (u := U) (U := U.calling g mk a) (Vm.Alike.refl U.vm) qK, qD, zN.same (s := U) (U := U.calling g mk a) rfl qN, zX.same (s := U) (U := U.calling g mk a) rfl qX⟩
theorem z_preS {sa : Nat → Nat} {locs : List Loc} {s : State} {H : Heap} {dC : Nat → ClassId} {dI : Nat → Nat → Nat} {wc : va_W} {tc : List (ClassId × FieldType)} {A : Nat → Prop} {As : List Value} (hP : va_P (dC, dI) vwCl wc H) (hK : va_K (dC, dI) vwCl tc s) (hD : va_D A wc) (hN : zN s) (hX : zX sa A s s.heap) (hS : va_S A s.heap H locs) (hF : ∀ q, va_A wc H.size q → A q) : PreS s H (va_Pc As (zB sa dC dI wc tc H.size)) As :=
  ⟨z_blind, fun U hU hW => ⟨rfl, by rw [hU], by rw [hU]; exact hP, va_K.moved hW.alike hK, hD.weaken (fun _ _ _ _ => trivial), hN.warm hW, by rw [hU]; exact (hX.call hS.2.1 hF).warm hW⟩⟩
theorem z_preV {sa : Nat → Nat} {locs : List Loc} {s : State} {H : Heap} {dC : Nat → ClassId} {dI : Nat → Nat → Nat} {wc : va_W} {tc : List (ClassId × FieldType)} {A : Nat → Prop} {As : List Value} {b : Nat} {ci q0 : Nat} {q : vw_C} {fs : List Value} (hP : va_P (dC, dI) vwCl wc H) (hK : va_K (dC, dI) vwCl tc s) (hD : va_D A wc) (hN : zN s) (hX : zX sa A s s.heap) (hS : va_S A s.heap H locs) (hF : ∀ q, va_A wc H.size q → A q) (hc : vwCl[ci]? = some q) (he : wc[q0]? = some (b, .inr (ci, fs))) : PreV s H q.1 b (va_Pc (.ref b :: As) (zB sa dC dI wc tc H.size)) As :=
  ⟨z_blind, va_recv hK hP hc he, fun U hU hW => ⟨rfl, by rw [hU], by rw [hU]; exact hP, va_K.moved hW.alike hK, hD.weaken (fun _ _ _ _ => trivial), hN.warm hW, by rw [hU]; exact (hX.call hS.2.1 hF).warm hW⟩⟩
/-- what came back beside the rest -/
theorem z_after {s t : State} {A0 : Nat → Prop} {dC : Nat → ClassId} {dI : Nat → Nat → Nat} {ws wc w1 : va_W} {t1 tys : List (ClassId × FieldType)} {H H1 : Heap} (wr : va_W) (hB : zW dC dI w1 t1 (va_A wc H.size) t) (ht : t.heap = H1) (hvm : s.vm.Alike t.vm) (hP : va_P (dC, dI) vwCl ws H) (hD : va_D A0 ws) (hK : va_K (dC, dI) vwCl tys s) (isC isR : List Nat) (hC : isC.map (fun i => ws[i]?) = wc.map some) (hR : isR.map (fun i => ws[i]?) = wr.map some) (hn : va_nd isR = true) (hdis : ∀ i ∈ isR, i ∉ isC)
    (hk : ∀ q : Nat, q < H.size → ¬ va_A wc H.size q → H1[q]? = H[q]?) (hF : ∀ q, va_A wc H.size q → A0 q) : va_P (dC, dI) vwCl (wr ++ w1) H1 ∧ va_D A0 (wr ++ w1) ∧ va_K (dC, dI) vwCl (tys ++ t1) s := by
  obtain ⟨hP1, hK1, hD1⟩ := hB
  rw [ht] at hP1
  obtain ⟨a, b⟩ := va_join (wr := wr) (w1 := w1) hP hD isC isR hC hR hn hdis hk hF hP1 hD1
  exact ⟨a, b, hK.app (va_K.moved hvm.symm hK1)⟩
theorem z_none {dC : Nat → ClassId} {dI : Nat → Nat → Nat} {A : Nat → Prop} {t : State} {tys : List (ClassId × FieldType)} (hK : va_K (dC, dI) vwCl tys t) : zW dC dI [] [] A t := ⟨fun k q h => by simp at h, hK.sub [] rfl, ⟨fun i j p q h => by simp at h, fun k q h => by simp at h⟩⟩
theorem z_ret {s t : State} {dC : Nat → ClassId} {dI : Nat → Nat → Nat} {ws ws' : va_W} {tys tys' : List (ClassId × FieldType)} {A : Nat → Prop} {H : Heap} (hP : va_P (dC, dI) vwCl ws H) (hK : va_K (dC, dI) vwCl tys s) (hD : va_D A ws) (ht : t.heap = H) (hW : s.WarmedH t.vm) (is js : List Nat) (h1 : is.map (fun i => ws[i]?) = ws'.map some) (h2 : va_nd is = true) (h3 : js.filterMap (fun i => tys[i]?) = tys') : zW dC dI ws' tys' A t := by
  refine ⟨?_, va_K.moved hW.alike (hK.sub js h3), hD.sub is h2 h1⟩
  rw [ht]
  intro k q hk
  have e : (is.map (fun i => ws[i]?))[k]? = some (some q) := by rw [h1, List.getElem?_map, hk]; rfl
  rw [List.getElem?_map] at e
  cases hi : is[k]? with
  | none => rw [hi] at e; cases e
  | some i => rw [hi] at e; exact hP i q (Option.some.inj e)
/-! ranges -/
theorem zi_bm {a : Int} (h : -2147483648 ≤ a ∧ a ≤ 2147483647) : a.bmod (2 ^ 32) = a := by
  rw [Int.bmod_def]
  split <;> omega
theorem zi_bmL {a : Int} (h : -9223372036854775808 ≤ a ∧ a ≤ 9223372036854775807) : a.bmod (2 ^ 64) = a := by
  rw [Int.bmod_def]
  split <;> omega
theorem zi_add {x y : Int32} {a b : Int} (hx : x.toInt = a) (hy : y.toInt = b) (h : -2147483648 ≤ a + b ∧ a + b ≤ 2147483647) : (x + y).toInt = a + b := by rw [Int32.toInt_add, hx, hy]; exact zi_bm h
theorem zi_sub {x y : Int32} {a b : Int} (hx : x.toInt = a) (hy : y.toInt = b) (h : -2147483648 ≤ a - b ∧ a - b ≤ 2147483647) : (x - y).toInt = a - b := by rw [Int32.toInt_sub, hx, hy]; exact zi_bm h
theorem zi_mul {x y : Int32} {a b : Int} (hx : x.toInt = a) (hy : y.toInt = b) (h : -2147483648 ≤ a * b ∧ a * b ≤ 2147483647) : (x * y).toInt = a * b := by rw [Int32.toInt_mul, hx, hy]; exact zi_bm h
theorem zi_addL {x y : Int64} {a b : Int} (hx : x.toInt = a) (hy : y.toInt = b) (h : -9223372036854775808 ≤ a + b ∧ a + b ≤ 9223372036854775807) : (x + y).toInt = a + b := by rw [Int64.toInt_add, hx, hy]; exact zi_bmL h
theorem zi_subL {x y : Int64} {a b : Int} (hx : x.toInt = a) (hy : y.toInt = b) (h : -9223372036854775808 ≤ a - b ∧ a - b ≤ 9223372036854775807) : (x - y).toInt = a - b := by rw [Int64.toInt_sub, hx, hy]; exact zi_bmL h
theorem zi_mulL {x y : Int64} {a b : Int} (hx : x.toInt = a) (hy : y.toInt = b) (h : -9223372036854775808 ≤ a * b ∧ a * b ≤ 9223372036854775807) : (x * y).toInt = a * b := by rw [Int64.toInt_mul, hx, hy]; exact zi_bmL h
theorem zi_l2i {x : Int64} {a : Int} (hx : x.toInt = a) (h : -2147483648 ≤ a ∧ a ≤ 2147483647) : x.toInt32.toInt = a := by rw [Int64.toInt_toInt32, hx]; exact zi_bm h
theorem zi_nat {x : Int32} {a : Int} (hx : x.toInt = a) (h : 0 ≤ a) : ∃ j : Nat, j < 2 ^ 31 ∧ x = nI j ∧ (j : Int) = a := by
  obtain ⟨j, hj, e⟩ := nI_of (x := x) (fun q => absurd (z_lt (k := 0) (by decide) q) (by omega))
  exact ⟨j, hj, e, by rw [← hx, e, nI_toInt hj]⟩
theorem zi_any (x : Int32) : ∃ n : Nat, n < 2 ^ 32 ∧ x = nI n := ⟨x.toBitVec.toNat, x.toBitVec.isLt, by
  apply Int32.toBitVec_inj.mp
  apply BitVec.eq_of_toNat_eq
  rw [pk_tn x.toBitVec.isLt]⟩
theorem zi_nand (a b : Nat) : nI a &&& nI b = nI (a &&& b) := by
  apply Int32.toBitVec_inj.mp
  show (nI a).toBitVec &&& (nI b).toBitVec = (nI (a &&& b)).toBitVec
  show BitVec.ofNat 32 a &&& BitVec.ofNat 32 b = BitVec.ofNat 32 (a &&& b)
  exact (BitVec.ofNat_and ..).symm
theorem zi_andR {x y : Int32} {b m : Int} (hy : y.toInt = b) (h0 : 0 ≤ b) (hm : b ≤ m) : 0 ≤ (x &&& y).toInt ∧ (x &&& y).toInt ≤ m := by
  obtain ⟨j, hj, e, ej⟩ := zi_nat hy h0
  obtain ⟨n, hn, en⟩ := zi_any x
  have h1 : n &&& j ≤ j := Nat.and_le_right
  rw [e, en, zi_nand, nI_toInt (by omega)]
  omega
theorem zi_andL {x y : Int32} {b m : Int} (hy : x.toInt = b) (h0 : 0 ≤ b) (hm : b ≤ m) : 0 ≤ (x &&& y).toInt ∧ (x &&& y).toInt ≤ m := by
  obtain ⟨j, hj, e, ej⟩ := zi_nat hy h0
  obtain ⟨n, hn, en⟩ := zi_any y
  have h1 : j &&& n ≤ j := Nat.and_le_left
  rw [e, en, zi_nand, nI_toInt (by omega)]
  omega
theorem zi_div {x y : Int32} {a : Int} {d : Int} (hx : x.toInt = a) (hy : y.toInt = d) (h0 : 0 ≤ a) (hd : 0 < d) : (x / y).toInt = a / d := by
  obtain ⟨j, hj, e, ej⟩ := zi_nat hx h0
  obtain ⟨k, hk, f, ek⟩ := zi_nat hy (by omega)
  have h1 : j / k ≤ j := Nat.div_le_self _ _
  rw [e, f, pk_div hj (by omega) hk, nI_toInt (by omega), ← ej, ← ek]
  exact Int.natCast_ediv _ _
theorem zi_rem {x y : Int32} {a : Int} {d : Int} (hx : x.toInt = a) (hy : y.toInt = d) (h0 : 0 ≤ a) (hd : 0 < d) : (x - x / y * y).toInt = a % d := by
  obtain ⟨j, hj, e, ej⟩ := zi_nat hx h0
  obtain ⟨k, hk, f, ek⟩ := zi_nat hy (by omega)
  have h1 : j % k < k := Nat.mod_lt _ (by omega)
  rw [e, f, pk_rem hj (by omega) hk, nI_toInt (by omega), ← ej, ← ek]
  exact Int.natCast_emod _ _
theorem zi_in {i : Int32} {a : Int} {n : Nat} (hi : i.toInt = a) (h : 0 ≤ a ∧ a < n) : vp_in i n := vp_in_iff.mpr ⟨by omega, by omega⟩
theorem zi_upd {f : Nat → Int32} {lo hi a : Int} {k : Nat} {v : Int32} (hf : ∀ j, lo ≤ (f j).toInt ∧ (f j).toInt ≤ hi) (hv : v.toInt = a) (h : lo ≤ a ∧ a ≤ hi) : ∀ j, lo ≤ (upd f k v j).toInt ∧ (upd f k v j).toInt ≤ hi := by
  intro j
  by_cases q : j = k
  · rw [q, pk_us, hv]; exact h
  · rw [pk_un q]; exact hf j
theorem zi_cpy {f g : Nat → Int32} {lo hi : Int} {a b n : Nat} (hf : ∀ j, lo ≤ (f j).toInt ∧ (f j).toInt ≤ hi) (hg : ∀ j, lo ≤ (g j).toInt ∧ (g j).toInt ≤ hi) : ∀ j, lo ≤ (va_cpy f g a b n j).toInt ∧ (va_cpy f g a b n j).toInt ≤ hi := by
  intro j
  by_cases q : b ≤ j ∧ j < b + n
  · rw [pk_cpy_in q.1 q.2]; exact hf _
  · rw [pk_cpy_out (by omega)]; exact hg j
theorem zi_min {x y : Int32} {a b : Int} (hx : x.toInt = a) (hy : y.toInt = b) : (if y < x then y else x).toInt = min a b := by
  split
  · rename_i h; have h := Int32.lt_iff_toInt_lt.mp h; omega
  · rename_i h; have h := mt Int32.lt_iff_toInt_lt.mpr h; omega
theorem zi_max {x y : Int32} {a b : Int} (hx : x.toInt = a) (hy : y.toInt = b) : (if x < y then y else x).toInt = max a b := by
  split
  · rename_i h; have h := Int32.lt_iff_toInt_lt.mp h; omega
  · rename_i h; have h := mt Int32.lt_iff_toInt_lt.mpr h; omega
theorem zi_bool {v : Int32} (h : 0 ≤ v.toInt ∧ v.toInt ≤ 1) : narrow .boolean (.int v) = .int v := by
  rcases z_s1 v with q | rfl | rfl | q
  · omega
  · decide
  · decide
  · omega
theorem zi_boolf {v : Int32} (h : 0 ≤ v.toInt ∧ v.toInt ≤ 1) : fits .boolean (.int v) = true := by
  rcases z_s1 v with q | rfl | rfl | q
  · omega
  · decide
  · decide
  · omega
theorem z_s4 (x : Int32) : x.toInt < 0 ∨ x = 0 ∨ x = 1 ∨ x = 2 ∨ x = 3 ∨ x = 4 ∨ 4 < x.toInt := by
  rcases z_s3 x with h | h | h | h | h | h
  · exact Or.inl h
  · exact Or.inr (Or.inl h)
  · exact Or.inr (Or.inr (Or.inl h))
  · exact Or.inr (Or.inr (Or.inr (Or.inl h)))
  · exact Or.inr (Or.inr (Or.inr (Or.inr (Or.inl h))))
  · rcases Int.lt_or_le 4 x.toInt with q | q
    · exact Or.inr (Or.inr (Or.inr (Or.inr (Or.inr (Or.inr q)))))
    · exact Or.inr (Or.inr (Or.inr (Or.inr (Or.inr (Or.inl (z_of 4 (k := 4) (by decide) (by omega)))))))
theorem z_s5 (x : Int32) : x.toInt < 0 ∨ x = 0 ∨ x = 1 ∨ x = 2 ∨ x = 3 ∨ x = 4 ∨ x = 5 ∨ 5 < x.toInt := by
  rcases z_s4 x with h | h | h | h | h | h | h
  · exact Or.inl h
  · exact Or.inr (Or.inl h)
  · exact Or.inr (Or.inr (Or.inl h))
  · exact Or.inr (Or.inr (Or.inr (Or.inl h)))
  · exact Or.inr (Or.inr (Or.inr (Or.inr (Or.inl h))))
  · exact Or.inr (Or.inr (Or.inr (Or.inr (Or.inr (Or.inl h)))))
  · rcases Int.lt_or_le 5 x.toInt with q | q
    · exact Or.inr (Or.inr (Or.inr (Or.inr (Or.inr (Or.inr (Or.inr q))))))
    · exact Or.inr (Or.inr (Or.inr (Or.inr (Or.inr (Or.inr (Or.inl (z_of 5 (k := 5) (by decide) (by omega))))))))
theorem z_s6 (x : Int32) : x.toInt < 0 ∨ x = 0 ∨ x = 1 ∨ x = 2 ∨ x = 3 ∨ x = 4 ∨ x = 5 ∨ x = 6 ∨ 6 < x.toInt := by
  rcases z_s5 x with h | h | h | h | h | h | h | h
  · exact Or.inl h
  · exact Or.inr (Or.inl h)
  · exact Or.inr (Or.inr (Or.inl h))
  · exact Or.inr (Or.inr (Or.inr (Or.inl h)))
  · exact Or.inr (Or.inr (Or.inr (Or.inr (Or.inl h))))
  · exact Or.inr (Or.inr (Or.inr (Or.inr (Or.inr (Or.inl h)))))
  · exact Or.inr (Or.inr (Or.inr (Or.inr (Or.inr (Or.inr (Or.inl h))))))
  · rcases Int.lt_or_le 6 x.toInt with q | q
    · exact Or.inr (Or.inr (Or.inr (Or.inr (Or.inr (Or.inr (Or.inr (Or.inr q)))))))
    · exact Or.inr (Or.inr (Or.inr (Or.inr (Or.inr (Or.inr (Or.inr (Or.inl (z_of 6 (k := 6) (by decide) (by omega)))))))))
theorem z_s7 (x : Int32) : x.toInt < 0 ∨ x = 0 ∨ x = 1 ∨ x = 2 ∨ x = 3 ∨ x = 4 ∨ x = 5 ∨ x = 6 ∨ x = 7 ∨ 7 < x.toInt := by
  rcases z_s6 x with h | h | h | h | h | h | h | h | h
  · exact Or.inl h
  · exact Or.inr (Or.inl h)
  · exact Or.inr (Or.inr (Or.inl h))
  · exact Or.inr (Or.inr (Or.inr (Or.inl h)))
  · exact Or.inr (Or.inr (Or.inr (Or.inr (Or.inl h))))
  · exact Or.inr (Or.inr (Or.inr (Or.inr (Or.inr (Or.inl h)))))
  · exact Or.inr (Or.inr (Or.inr (Or.inr (Or.inr (Or.inr (Or.inl h))))))
  · exact Or.inr (Or.inr (Or.inr (Or.inr (Or.inr (Or.inr (Or.inr (Or.inl h)))))))
  · rcases Int.lt_or_le 7 x.toInt with q | q
    · exact Or.inr (Or.inr (Or.inr (Or.inr (Or.inr (Or.inr (Or.inr (Or.inr (Or.inr q))))))))
    · exact Or.inr (Or.inr (Or.inr (Or.inr (Or.inr (Or.inr (Or.inr (Or.inr (Or.inl (z_of 7 (k := 7) (by decide) (by omega))))))))))
theorem z_s8 (x : Int32) : x.toInt < 0 ∨ x = 0 ∨ x = 1 ∨ x = 2 ∨ x = 3 ∨ x = 4 ∨ x = 5 ∨ x = 6 ∨ x = 7 ∨ x = 8 ∨ 8 < x.toInt := by
  rcases z_s7 x with h | h | h | h | h | h | h | h | h | h
  · exact Or.inl h
  · exact Or.inr (Or.inl h)
  · exact Or.inr (Or.inr (Or.inl h))
  · exact Or.inr (Or.inr (Or.inr (Or.inl h)))
  · exact Or.inr (Or.inr (Or.inr (Or.inr (Or.inl h))))
  · exact Or.inr (Or.inr (Or.inr (Or.inr (Or.inr (Or.inl h)))))
  · exact Or.inr (Or.inr (Or.inr (Or.inr (Or.inr (Or.inr (Or.inl h))))))
  · exact Or.inr (Or.inr (Or.inr (Or.inr (Or.inr (Or.inr (Or.inr (Or.inl h)))))))
  · exact Or.inr (Or.inr (Or.inr (Or.inr (Or.inr (Or.inr (Or.inr (Or.inr (Or.inl h))))))))
  · rcases Int.lt_or_le 8 x.toInt with q | q
    · exact Or.inr (Or.inr (Or.inr (Or.inr (Or.inr (Or.inr (Or.inr (Or.inr (Or.inr (Or.inr q)))))))))
    · exact Or.inr (Or.inr (Or.inr (Or.inr (Or.inr (Or.inr (Or.inr (Or.inr (Or.inr (Or.inl (z_of 8 (k := 8) (by decide) (by omega)))))))))))
theorem z_s9 (x : Int32) : x.toInt < 0 ∨ x = 0 ∨ x = 1 ∨ x = 2 ∨ x = 3 ∨ x = 4 ∨ x = 5 ∨ x = 6 ∨ x = 7 ∨ x = 8 ∨ x = 9 ∨ 9 < x.toInt := by
  rcases z_s8 x with h | h | h | h | h | h | h | h | h | h | h
  · exact Or.inl h
  · exact Or.inr (Or.inl h)
  · exact Or.inr (Or.inr (Or.inl h))
  · exact Or.inr (Or.inr (Or.inr (Or.inl h)))
  · exact Or.inr (Or.inr (Or.inr (Or.inr (Or.inl h))))
  · exact Or.inr (Or.inr (Or.inr (Or.inr (Or.inr (Or.inl h)))))
  · exact Or.inr (Or.inr (Or.inr (Or.inr (Or.inr (Or.inr (Or.inl h))))))
  · exact Or.inr (Or.inr (Or.inr (Or.inr (Or.inr (Or.inr (Or.inr (Or.inl h)))))))
  · exact Or.inr (Or.inr (Or.inr (Or.inr (Or.inr (Or.inr (Or.inr (Or.inr (Or.inl h))))))))
  · exact Or.inr (Or.inr (Or.inr (Or.inr (Or.inr (Or.inr (Or.inr (Or.inr (Or.inr (Or.inl h)))))))))
  · rcases Int.lt_or_le 9 x.toInt with q | q
    · exact Or.inr (Or.inr (Or.inr (Or.inr (Or.inr (Or.inr (Or.inr (Or.inr (Or.inr (Or.inr (Or.inr q))))))))))
    · exact Or.inr (Or.inr (Or.inr (Or.inr (Or.inr (Or.inr (Or.inr (Or.inr (Or.inr (Or.inr (Or.inl (z_of 9 (k := 9) (by decide) (by omega))))))))))))
theorem z_s10 (x : Int32) : x.toInt < 0 ∨ x = 0 ∨ x = 1 ∨ x = 2 ∨ x = 3 ∨ x = 4 ∨ x = 5 ∨ x = 6 ∨ x = 7 ∨ x = 8 ∨ x = 9 ∨ x = 10 ∨ 10 < x.toInt := by
  rcases z_s9 x with h | h | h | h | h | h | h | h | h | h | h | h
  · exact Or.inl h
  · exact Or.inr (Or.inl h)
  · exact Or.inr (Or.inr (Or.inl h))
  · exact Or.inr (Or.inr (Or.inr (Or.inl h)))
  · exact Or.inr (Or.inr (Or.inr (Or.inr (Or.inl h))))
  · exact Or.inr (Or.inr (Or.inr (Or.inr (Or.inr (Or.inl h)))))
  · exact Or.inr (Or.inr (Or.inr (Or.inr (Or.inr (Or.inr (Or.inl h))))))
  · exact Or.inr (Or.inr (Or.inr (Or.inr (Or.inr (Or.inr (Or.inr (Or.inl h)))))))
  · exact Or.inr (Or.inr (Or.inr (Or.inr (Or.inr (Or.inr (Or.inr (Or.inr (Or.inl h))))))))
  · exact Or.inr (Or.inr (Or.inr (Or.inr (Or.inr (Or.inr (Or.inr (Or.inr (Or.inr (Or.inl h)))))))))
  · exact Or.inr (Or.inr (Or.inr (Or.inr (Or.inr (Or.inr (Or.inr (Or.inr (Or.inr (Or.inr (Or.inl h))))))))))
  · rcases Int.lt_or_le 10 x.toInt with q | q
    · exact Or.inr (Or.inr (Or.inr (Or.inr (Or.inr (Or.inr (Or.inr (Or.inr (Or.inr (Or.inr (Or.inr (Or.inr q)))))))))))
    · exact Or.inr (Or.inr (Or.inr (Or.inr (Or.inr (Or.inr (Or.inr (Or.inr (Or.inr (Or.inr (Or.inr (Or.inl (z_of 10 (k := 10) (by decide) (by omega)))))))))))))
theorem zi_shl1 {y : Int32} {b : Int} (hy : y.toInt = b) (h : 0 ≤ b ∧ b ≤ 10) : 1 ≤ ((1 : Int32) <<< (y &&& 31)).toInt ∧ ((1 : Int32) <<< (y &&& 31)).toInt ≤ 1024 := by
  rcases z_s10 y with q | rfl | rfl | rfl | rfl | rfl | rfl | rfl | rfl | rfl | rfl | rfl | q
  · omega
  · decide
  · decide
  · decide
  · decide
  · decide
  · decide
  · decide
  · decide
  · decide
  · decide
  · decide
  · omega
theorem zz_eq {x y : Int32} {a b : Int} (hx : x.toInt = a) (hy : y.toInt = b) (h : x = y) : a = b := by rw [← hx, ← hy, h]
theorem zz_neq {x y : Int32} {a b : Int} (hx : x.toInt = a) (hy : y.toInt = b) (h : ¬ x = y) : ¬ a = b := fun q => h (Int32.toInt_inj.mp (by omega))
theorem zz_ne {x y : Int32} {a b : Int} (hx : x.toInt = a) (hy : y.toInt = b) (h : ¬ x = y) : ¬ a = b := fun q => h (Int32.toInt_inj.mp (by omega))
theorem zz_nne {x y : Int32} {a b : Int} (hx : x.toInt = a) (hy : y.toInt = b) (h : x = y) : a = b := by rw [← hx, ← hy, h]
theorem zz_lt {x y : Int32} {a b : Int} (hx : x.toInt = a) (hy : y.toInt = b) (h : x < y) : a < b := by have h := Int32.lt_iff_toInt_lt.mp h; omega
theorem zz_nlt {x y : Int32} {a b : Int} (hx : x.toInt = a) (hy : y.toInt = b) (h : ¬ x < y) : b ≤ a := by have h := mt Int32.lt_iff_toInt_lt.mpr h; omega
theorem zz_ge {x y : Int32} {a b : Int} (hx : x.toInt = a) (hy : y.toInt = b) (h : y ≤ x) : b ≤ a := by have h := Int32.le_iff_toInt_le.mp h; omega
theorem zz_nge {x y : Int32} {a b : Int} (hx : x.toInt = a) (hy : y.toInt = b) (h : ¬ y ≤ x) : a < b := by have h := mt Int32.le_iff_toInt_le.mpr h; omega
theorem zz_gt {x y : Int32} {a b : Int} (hx : x.toInt = a) (hy : y.toInt = b) (h : y < x) : b < a := by have h := Int32.lt_iff_toInt_lt.mp h; omega
theorem zz_ngt {x y : Int32} {a b : Int} (hx : x.toInt = a) (hy : y.toInt = b) (h : ¬ y < x) : a ≤ b := by have h := mt Int32.lt_iff_toInt_lt.mpr h; omega
theorem zz_le {x y : Int32} {a b : Int} (hx : x.toInt = a) (hy : y.toInt = b) (h : x ≤ y) : a ≤ b := by have h := Int32.le_iff_toInt_le.mp h; omega
theorem zz_nle {x y : Int32} {a b : Int} (hx : x.toInt = a) (hy : y.toInt = b) (h : ¬ x ≤ y) : b < a := by have h := mt Int32.le_iff_toInt_le.mpr h; omega
theorem zl_eq {x y : Int64} {a b : Int} (hx : x.toInt = a) (hy : y.toInt = b) (h : lg_cmp x y = 0) : a = b := by rw [← hx, ← hy, (lg_cmp_eq _ _).mp h]
theorem zl_neq {x y : Int64} {a b : Int} (hx : x.toInt = a) (hy : y.toInt = b) (h : ¬ lg_cmp x y = 0) : ¬ a = b := fun q => h ((lg_cmp_eq _ _).mpr (Int64.toInt_inj.mp (by omega)))
theorem zl_ne {x y : Int64} {a b : Int} (hx : x.toInt = a) (hy : y.toInt = b) (h : ¬ lg_cmp x y = 0) : ¬ a = b := zl_neq hx hy h
theorem zl_nne {x y : Int64} {a b : Int} (hx : x.toInt = a) (hy : y.toInt = b) (h : lg_cmp x y = 0) : a = b := zl_eq hx hy h
theorem zl_lt {x y : Int64} {a b : Int} (hx : x.toInt = a) (hy : y.toInt = b) (h : lg_cmp x y < 0) : a < b := by have h := Int64.lt_iff_toInt_lt.mp ((lg_cmp_lt _ _).mp h); omega
theorem zl_nlt {x y : Int64} {a b : Int} (hx : x.toInt = a) (hy : y.toInt = b) (h : ¬ lg_cmp x y < 0) : b ≤ a := by have h := mt (fun q => (lg_cmp_lt _ _).mpr (Int64.lt_iff_toInt_lt.mpr q)) h; omega
theorem zl_ge {x y : Int64} {a b : Int} (hx : x.toInt = a) (hy : y.toInt = b) (h : 0 ≤ lg_cmp x y) : b ≤ a := by have h := Int64.le_iff_toInt_le.mp ((lg_cmp_ge _ _).mp h); omega
theorem zl_nge {x y : Int64} {a b : Int} (hx : x.toInt = a) (hy : y.toInt = b) (h : ¬ 0 ≤ lg_cmp x y) : a < b := by have h := mt (fun q => (lg_cmp_ge _ _).mpr (Int64.le_iff_toInt_le.mpr q)) h; omega
theorem zl_gt {x y : Int64} {a b : Int} (hx : x.toInt = a) (hy : y.toInt = b) (h : 0 < lg_cmp x y) : b < a := by have h := Int64.lt_iff_toInt_lt.mp ((lg_cmp_gt _ _).mp h); omega
theorem zl_ngt {x y : Int64} {a b : Int} (hx : x.toInt = a) (hy : y.toInt = b) (h : ¬ 0 < lg_cmp x y) : a ≤ b := by have h := mt (fun q => (lg_cmp_gt _ _).mpr (Int64.lt_iff_toInt_lt.mpr q)) h; omega
theorem zl_le {x y : Int64} {a b : Int} (hx : x.toInt = a) (hy : y.toInt = b) (h : lg_cmp x y ≤ 0) : a ≤ b := by have h := Int64.le_iff_toInt_le.mp ((lg_cmp_le _ _).mp h); omega
theorem zl_nle {x y : Int64} {a b : Int} (hx : x.toInt = a) (hy : y.toInt = b) (h : ¬ lg_cmp x y ≤ 0) : b < a := by have h := mt (fun q => (lg_cmp_le _ _).mpr (Int64.le_iff_toInt_le.mpr q)) h; omega
theorem zPow_b (j : Nat) : 1 ≤ (zPow j).toInt ∧ (zPow j).toInt ≤ 27 := by
  match j with
  | 0 => decide
  | 1 => decide
  | 2 => decide
  | 3 => decide
  | j + 4 => exact (by decide : 1 ≤ (1 : Int32).toInt ∧ (1 : Int32).toInt ≤ 27)
/-! texts -/
theorem z_preK {sa : Nat → Nat} {locs : List Loc} {s : State} {H : Heap} {dC : Nat → ClassId} {dI : Nat → Nat → Nat} {wc : va_W} {tc : List (ClassId × FieldType)} {A : Nat → Prop} {As : List Value} {b : Nat} {C : String} (hP : va_P (dC, dI) vwCl wc H) (hK : va_K (dC, dI) vwCl tc s) (hD : va_D A wc) (hN : zN s) (hX : zX sa A s s.heap) (hS : va_S A s.heap H locs) (hF : ∀ q, va_A wc H.size q → A q) (hr : ∃ cell : Cell, H[b]? = some cell ∧ cell.vm.isStatics = false ∧ s.vm.findClass C = some cell.cls) : PreV s H C b (va_Pc (.ref b :: As) (zB sa dC dI wc tc H.size)) As :=
  ⟨z_blind, hr, fun U hU hW => ⟨rfl, by rw [hU], by rw [hU]; exact hP, va_K.moved hW.alike hK, hD.weaken (fun _ _ _ _ => trivial), hN.warm hW, by rw [hU]; exact (hX.call hS.2.1 hF).warm hW⟩⟩
theorem zLen_n : ∀ i : Nat, i < 14 → 2 ≤ zLen.getD i 0 ∧ zLen.getD i 0 ≤ 6 := by decide
theorem zLen_b (i : Nat) (hi : i < 14) : (Int32.ofNat (zLen.getD i 0)).toInt = ((zLen.getD i 0 : Nat) : Int) ∧ 2 ≤ (Int32.ofNat (zLen.getD i 0)).toInt ∧ (Int32.ofNat (zLen.getD i 0)).toInt ≤ 6 := by
  have h := zLen_n i hi
  have e : (Int32.ofNat (zLen.getD i 0)).toInt = ((zLen.getD i 0 : Nat) : Int) := nI_toInt (by omega)
  rw [e]
  omega
theorem zi_i2c {x : Int32} {a : Int} (hx : x.toInt = a) (h : 0 ≤ a ∧ a < 65536) : ((x.toUInt32 % 65536).toInt32).toInt = a := by rw [lg_i2c_word (by omega) (by omega)]; exact hx
theorem zi_char {v : Int32} (h : 0 ≤ v.toInt ∧ v.toInt ≤ 255) : narrow .char (.int v) = .int v := by
  obtain ⟨j, hj, e, ej⟩ := zi_nat rfl h.1
  rw [e]
  exact (pk_charN (by omega)).1
theorem zi_shr0 {x y : Int32} {a b : Int} (hx : x.toInt = a) (hy : y.toInt = b) (h : b = 0) : (x >>> (y &&& 31)).toInt = a := by
  obtain rfl : y = 0 := z_of 0 (k := 0) (by decide) (by omega)
  rw [sb_shr0]
  exact hx
theorem zi_nb (x : Int32) : -2147483648 ≤ x.toInt ∧ x.toInt ≤ 2147483647 := ⟨z_lo x, z_hi x⟩
