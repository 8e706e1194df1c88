/-! numbers -/
theorem z_lt {x y : Int32} {k : Int} (hy : y.toInt = k) (h : x < y) : x.toInt < k := by rw [← hy]; exact Int32.lt_iff_toInt_lt.mp h
theorem z_le {x y : Int32} {k : Int} (hy : y.toInt = k) (h : x ≤ y) : x.toInt ≤ k := by rw [← hy]; exact Int32.le_iff_toInt_le.mp h
theorem z_gt {x y : Int32} {k : Int} (hy : y.toInt = k) (h : y < x) : k < x.toInt := by rw [← hy]; exact Int32.lt_iff_toInt_lt.mp h
theorem z_ge {x y : Int32} {k : Int} (hy : y.toInt = k) (h : y ≤ x) : k ≤ x.toInt := by rw [← hy]; exact Int32.le_iff_toInt_le.mp h
theorem z_nlt {x y : Int32} {k : Int} (hy : y.toInt = k) (h : ¬ x < y) : k ≤ x.toInt := Int.not_lt.mp fun q => h (Int32.lt_iff_toInt_lt.mpr (by rw [hy]; exact q))
theorem z_nle {x y : Int32} {k : Int} (hy : y.toInt = k) (h : ¬ x ≤ y) : k < x.toInt := Int.not_le.mp fun q => h (Int32.le_iff_toInt_le.mpr (by rw [hy]; exact q))
theorem z_ngt {x y : Int32} {k : Int} (hy : y.toInt = k) (h : ¬ y < x) : x.toInt ≤ k := Int.not_lt.mp fun q => h (Int32.lt_iff_toInt_lt.mpr (by rw [hy]; exact q))
theorem z_nge {x y : Int32} {k : Int} (hy : y.toInt = k) (h : ¬ y ≤ x) : x.toInt < k := Int.not_le.mp fun q => h (Int32.le_iff_toInt_le.mpr (by rw [hy]; exact q))
theorem z_eq {x y : Int32} {k : Int} (hy : y.toInt = k) (h : x = y) : x.toInt = k := by rw [h]; exact hy
theorem z_ne {x y : Int32} {k : Int} (hy : y.toInt = k) (h : ¬ x = y) : ¬ x.toInt = k := fun q => h (Int32.toInt_inj.mp (q.trans hy.symm))
theorem z_of {x : Int32} (y : Int32) {k : Int} (hy : y.toInt = k) (h : x.toInt = k) : x = y := Int32.toInt_inj.mp (h.trans hy.symm)
theorem z_lo (x : Int32) : -2147483648 ≤ x.toInt := by have := Int32.le_toInt x; omega
theorem z_hi (x : Int32) : x.toInt ≤ 2147483647 := by have := Int32.toInt_lt x; omega
/-- x is below 0, one of the numbers 0 .. n, or above n -/
theorem z_s0 (x : Int32) : x.toInt < 0 ∨ x = 0 ∨ 0 < x.toInt := by
  rcases Int.lt_trichotomy x.toInt 0 with h | h | h
  · exact Or.inl h
  · exact Or.inr (Or.inl (z_of 0 (by decide) h))
  · exact Or.inr (Or.inr h)
theorem z_s1 (x : Int32) : x.toInt < 0 ∨ x = 0 ∨ x = 1 ∨ 1 < x.toInt := by
  rcases z_s0 x with h | h | h
  · exact Or.inl h
  · exact Or.inr (Or.inl h)
  · rcases Int.lt_or_le 1 x.toInt with q | q
    · exact Or.inr (Or.inr (Or.inr q))
    · exact Or.inr (Or.inr (Or.inl (z_of 1 (k := 1) (by decide) (by omega))))
theorem z_s2 (x : Int32) : x.toInt < 0 ∨ x = 0 ∨ x = 1 ∨ x = 2 ∨ 2 < x.toInt := by
  rcases z_s1 x with h | h | h | h
  · exact Or.inl h
  · exact Or.inr (Or.inl h)
  · exact Or.inr (Or.inr (Or.inl h))
  · rcases Int.lt_or_le 2 x.toInt with q | q
    · exact Or.inr (Or.inr (Or.inr (Or.inr q)))
    · exact Or.inr (Or.inr (Or.inr (Or.inl (z_of 2 (k := 2) (by decide) (by omega)))))
theorem z_s3 (x : Int32) : x.toInt < 0 ∨ x = 0 ∨ x = 1 ∨ x = 2 ∨ x = 3 ∨ 3 < x.toInt := by
  rcases z_s2 x with h | h | h | h | h
  · exact Or.inl h
  · exact Or.inr (Or.inl h)
  · exact Or.inr (Or.inr (Or.inl h))
  · exact Or.inr (Or.inr (Or.inr (Or.inl h)))
  · rcases Int.lt_or_le 3 x.toInt with q | q
    · exact Or.inr (Or.inr (Or.inr (Or.inr (Or.inr q))))
    · exact Or.inr (Or.inr (Or.inr (Or.inr (Or.inl (z_of 3 (k := 3) (by decide) (by omega))))))
/-- below a, within, above b -/
theorem z_sr (x : Int32) (a b : Int) : x.toInt < a ∨ (a ≤ x.toInt ∧ x.toInt ≤ b) ∨ b < x.toInt := by omega
theorem z_m1 (x : Int32) : x &&& (-1) = x := by
  apply Int32.toBitVec_inj.mp
  show x.toBitVec &&& (-1 : Int32).toBitVec = x.toBitVec
  rw [show (-1 : Int32).toBitVec = BitVec.allOnes 32 from by decide]
  exact BitVec.and_allOnes
theorem z_l64 (x : Int32) : x.toInt64.toInt = x.toInt := Int32.toInt_toInt64 x
theorem z_inNo (x : Int32) {lo hi : Int64} {a b : Int} (ha : lo.toInt = a) (hb : hi.toInt = b) (h : x.toInt < a ∨ b < x.toInt) : ¬ (lo ≤ x.toInt64 ∧ x.toInt64 ≤ hi) := by
  rintro ⟨h1, h2⟩
  have h1 := Int64.le_iff_toInt_le.mp h1
  have h2 := Int64.le_iff_toInt_le.mp h2
  rw [ha, z_l64] at h1
  rw [hb, z_l64] at h2
  omega
theorem z_inYes (x : Int32) {lo hi : Int64} {a b : Int} (ha : lo.toInt = a) (hb : hi.toInt = b) (h : a ≤ x.toInt ∧ x.toInt ≤ b) : lo ≤ x.toInt64 ∧ x.toInt64 ≤ hi := by
  constructor
  · apply Int64.le_iff_toInt_le.mpr
    rw [ha, z_l64]
    exact h.1
  · apply Int64.le_iff_toInt_le.mpr
    rw [hb, z_l64]
    exact h.2
theorem z_inC {n : Nat} (x : Int32) {k : Nat} (hx : x.toInt = k) (h : k < n) : vp_in x n := vp_in_iff.mpr ⟨by omega, by omega⟩
/-! worlds -/
/-- what a contract asks of its start -/
def zB (dC : Nat → ClassId) (dI : Nat → Nat → Nat) (ws : va_W) (tys : List (ClassId × FieldType)) (sz : Nat) (U : State) : Prop := U.heap.size = sz ∧ va_P (dC, dI) vwCl ws U.heap ∧ va_K (dC, dI) vwCl tys U ∧ va_D (fun _ => True) ws
/-- the world behind a method -/
def zW (dC : Nat → ClassId) (dI : Nat → Nat → Nat) (ws : va_W) (tys : List (ClassId × FieldType)) (A : Nat → Prop) (t : State) : Prop := va_P (dC, dI) vwCl ws t.heap ∧ va_K (dC, dI) vwCl tys t ∧ va_D A ws
theorem z_blind {dC : Nat → ClassId} {dI : Nat → Nat → Nat} {ws : va_W} {tys : List (ClassId × FieldType)} {sz : Nat} {av : List Value} : FrameBlind (va_Pc av (zB dC dI ws tys sz)) := fun a U g mk q => by
  obtain ⟨q0, q1, qP, qK, qD⟩ := q
  exact ⟨q0, q1, qP, va_K.moved (u := U) (U := U.calling g mk a) (Vm.Alike.refl U.vm) qK, qD⟩
theorem z_preS {s : State} {H : Heap} {dC : Nat → ClassId} {dI : Nat → Nat → Nat} {wc : va_W} {tc : List (ClassId × FieldType)} {A : Nat → Prop} {As : List Value} (hP : va_P (dC, dI) vwCl wc H) (hK : va_K (dC, dI) vwCl tc s) (hD : va_D A wc) : PreS s H (va_Pc As (zB dC dI wc tc H.size)) As :=
  ⟨z_blind, fun U hU hW => ⟨rfl, by rw [hU], by rw [hU]; exact hP, va_K.moved hW.alike hK, hD.weaken (fun _ _ _ _ => trivial)⟩⟩
theorem z_preV {s : State} {H : Heap} {dC : Nat → ClassId} {dI : Nat → Nat → Nat} {wc : va_W} {tc : List (ClassId × FieldType)} {A : Nat → Prop} {As : List Value} {b : Nat} {ci q0 : Nat} {q : vw_C} {fs : List Value} (hP : va_P (dC, dI) vwCl wc H) (hK : va_K (dC, dI) vwCl tc s) (hD : va_D A wc) (hc : vwCl[ci]? = some q) (he : wc[q0]? = some (b, .inr (ci, fs))) : PreV s H q.1 b (va_Pc (.ref b :: As) (zB dC dI wc tc H.size)) As :=
  ⟨z_blind, va_recv hK hP hc he, fun U hU hW => ⟨rfl, by rw [hU], by rw [hU]; exact hP, va_K.moved hW.alike hK, hD.weaken (fun _ _ _ _ => trivial)⟩⟩
/-- what came back beside the rest -/
theorem z_after {s t : State} {A0 : Nat → Prop} {dC : Nat → ClassId} {dI : Nat → Nat → Nat} {ws wc w1 : va_W} {t1 tys : List (ClassId × FieldType)} {H H1 : Heap} (wr : va_W) (hB : zW dC dI w1 t1 (va_A wc H.size) t) (ht : t.heap = H1) (hvm : s.vm.Alike t.vm) (hP : va_P (dC, dI) vwCl ws H) (hD : va_D A0 ws) (hK : va_K (dC, dI) vwCl tys s) (isC isR : List Nat) (hC : isC.map (fun i => ws[i]?) = wc.map some) (hR : isR.map (fun i => ws[i]?) = wr.map some) (hn : va_nd isR = true) (hdis : ∀ i ∈ isR, i ∉ isC)
    (hk : ∀ q : Nat, q < H.size → ¬ va_A wc H.size q → H1[q]? = H[q]?) (hF : ∀ q, va_A wc H.size q → A0 q) : va_P (dC, dI) vwCl (wr ++ w1) H1 ∧ va_D A0 (wr ++ w1) ∧ va_K (dC, dI) vwCl (tys ++ t1) s := by
  obtain ⟨hP1, hK1, hD1⟩ := hB
  rw [ht] at hP1
  obtain ⟨a, b⟩ := va_join (wr := wr) (w1 := w1) hP hD isC isR hC hR hn hdis hk hF hP1 hD1
  exact ⟨a, b, hK.app (va_K.moved hvm.symm hK1)⟩
theorem z_none {dC : Nat → ClassId} {dI : Nat → Nat → Nat} {A : Nat → Prop} {t : State} {tys : List (ClassId × FieldType)} (hK : va_K (dC, dI) vwCl tys t) : zW dC dI [] [] A t := ⟨fun k q h => by simp at h, hK.sub [] rfl, ⟨fun i j p q h => by simp at h, fun k q h => by simp at h⟩⟩
theorem z_ret {s t : State} {dC : Nat → ClassId} {dI : Nat → Nat → Nat} {ws ws' : va_W} {tys tys' : List (ClassId × FieldType)} {A : Nat → Prop} {H : Heap} (hP : va_P (dC, dI) vwCl ws H) (hK : va_K (dC, dI) vwCl tys s) (hD : va_D A ws) (ht : t.heap = H) (hW : s.WarmedH t.vm) (is js : List Nat) (h1 : is.map (fun i => ws[i]?) = ws'.map some) (h2 : va_nd is = true) (h3 : js.filterMap (fun i => tys[i]?) = tys') : zW dC dI ws' tys' A t := by
  refine ⟨?_, va_K.moved hW.alike (hK.sub js h3), hD.sub is h2 h1⟩
  rw [ht]
  intro k q hk
  have e : (is.map (fun i => ws[i]?))[k]? = some (some q) := by rw [h1, List.getElem?_map, hk]; rfl
  rw [List.getElem?_map] at e
  cases hi : is[k]? with
  | none => rw [hi] at e; cases e
  | some i => rw [hi] at e; exact hP i q (Option.some.inj e)
