/-! more numbers -/
theorem zi_mulrL {x y : Int64} {A B m : Int} (ha : 0 ≤ x.toInt ∧ x.toInt ≤ A) (hb : 0 ≤ y.toInt ∧ y.toInt ≤ B) (hm : A * B ≤ m ∧ m ≤ 9223372036854775807) : 0 ≤ (x * y).toInt ∧ (x * y).toInt ≤ m := by
  have h1 : 0 ≤ x.toInt * y.toInt := Int.mul_nonneg ha.1 hb.1
  have h2 : x.toInt * y.toInt ≤ A * B := Int.mul_le_mul ha.2 hb.2 hb.1 (by omega)
  rw [Int64.toInt_mul, zi_bmL ⟨by omega, by omega⟩]
  exact ⟨h1, by omega⟩
theorem zi_mix {a b w v : Int64} (ha : 0 ≤ a.toInt ∧ a.toInt ≤ 100) (hb : b.toInt = 100 - a.toInt) (hw : 0 ≤ w.toInt ∧ w.toInt ≤ 1000000000) (hv : 0 ≤ v.toInt ∧ v.toInt ≤ 1000000000) : 0 ≤ (a * w + b * v).toInt ∧ (a * w + b * v).toInt ≤ 100000000000 := by
  have h1 : 0 ≤ a.toInt * w.toInt := Int.mul_nonneg ha.1 hw.1
  have h2 : 0 ≤ b.toInt * v.toInt := Int.mul_nonneg (by omega) hv.1
  have h3 : a.toInt * w.toInt ≤ a.toInt * 1000000000 := Int.mul_le_mul_of_nonneg_left hw.2 ha.1
  have h4 : b.toInt * v.toInt ≤ b.toInt * 1000000000 := Int.mul_le_mul_of_nonneg_left hv.2 (by omega)
  rw [zi_addL (a := a.toInt * w.toInt) (b := b.toInt * v.toInt) (zi_mulL rfl rfl (by omega)) (zi_mulL rfl rfl (by omega)) (by omega)]
  omega
theorem zi_divL {x y : Int64} {a d : Int} (hx : x.toInt = a) (hy : y.toInt = d) (h0 : 0 ≤ a) (hd : 0 < d) : (x / y).toInt = a / d := by
  have h1 : 0 ≤ a / d := Int.ediv_nonneg h0 (by omega)
  have h2 : a / d ≤ a := Int.ediv_le_self _ h0
  have h3 := Int64.toInt_lt x
  rw [Int64.toInt_div, hx, hy, Int.tdiv_eq_ediv_of_nonneg h0]
  exact zi_bmL ⟨by omega, by omega⟩
theorem zPow_c {y : Int32} {a : Int} (hy : y.toInt = a) (h : 0 ≤ a ∧ a ≤ 3) : (a = 0 → (zPow (Int32.toNatClampNeg y)).toInt = 1) ∧ (a = 1 → (zPow (Int32.toNatClampNeg y)).toInt = 3) ∧ (a = 2 → (zPow (Int32.toNatClampNeg y)).toInt = 9) ∧ (a = 3 → (zPow (Int32.toNatClampNeg y)).toInt = 27) := by
  rcases z_s3 y with q | rfl | rfl | rfl | rfl | q
  · omega
  · have e : (0 : Int32).toInt = 0 := by decide
    exact ⟨fun _ => by decide, fun _ => by omega, fun _ => by omega, fun _ => by omega⟩
  · have e : (1 : Int32).toInt = 1 := by decide
    exact ⟨fun _ => by omega, fun _ => by decide, fun _ => by omega, fun _ => by omega⟩
  · have e : (2 : Int32).toInt = 2 := by decide
    exact ⟨fun _ => by omega, fun _ => by omega, fun _ => by decide, fun _ => by omega⟩
  · have e : (3 : Int32).toInt = 3 := by decide
    exact ⟨fun _ => by omega, fun _ => by omega, fun _ => by omega, fun _ => by decide⟩
  · omega
/-- the digits of a state -/
def zDg (f : Nat → Int32) (s n : Int) : Prop := (0 < n → (f 0).toInt = s % 3) ∧ (1 < n → (f 1).toInt = s / 3 % 3) ∧ (2 < n → (f 2).toInt = s / 9 % 3) ∧ (3 < n → (f 3).toInt = s / 27 % 3)
def zDl (f : Nat → Int32) (i r s : Int) : Prop := (i = 0 ∧ r = s) ∨ (i = 1 ∧ r = s / 3 ∧ (f 0).toInt = s % 3) ∨ (i = 2 ∧ r = s / 9 ∧ (f 0).toInt = s % 3 ∧ (f 1).toInt = s / 3 % 3) ∨ (i = 3 ∧ r = s / 27 ∧ (f 0).toInt = s % 3 ∧ (f 1).toInt = s / 3 % 3 ∧ (f 2).toInt = s / 9 % 3) ∨ (i = 4 ∧ (f 0).toInt = s % 3 ∧ (f 1).toInt = s / 3 % 3 ∧ (f 2).toInt = s / 9 % 3 ∧ (f 3).toInt = s / 27 % 3)
theorem zDl.zero {f : Nat → Int32} {s i r : Int} (hi : i = 0) (hr : r = s) : zDl f i r s := Or.inl ⟨hi, hr⟩
theorem zDl.step {f g : Nat → Int32} {i x : Int32} {a j r r' s : Int} (h : zDl f a r s) (eg : g = upd f (Int32.toNatClampNeg i) x) (hi : i.toInt = a) (ha : 0 ≤ a ∧ a ≤ 3) (hx : x.toInt = r % 3) (hj : j = a + 1) (hr : r' = r / 3) : zDl g j r' s := by
  rcases z_s3 i with q | rfl | rfl | rfl | rfl | q
  · omega
  · have e : (0 : Int32).toInt = 0 := by decide
    have e0 : (g 0).toInt = r % 3 := by rw [eg]; exact hx
    rcases h with h | h | h | h | h
    · exact Or.inr (Or.inl (by omega))
    all_goals omega
  · have e : (1 : Int32).toInt = 1 := by decide
    have e0 : g 0 = f 0 := by rw [eg]; rfl
    have e1 : (g 1).toInt = r % 3 := by rw [eg]; exact hx
    unfold zDl
    rw [e0]
    rcases h with h | h | h | h | h
    · omega
    · exact Or.inr (Or.inr (Or.inl (by omega)))
    all_goals omega
  · have e : (2 : Int32).toInt = 2 := by decide
    have e0 : g 0 = f 0 := by rw [eg]; rfl
    have e1 : g 1 = f 1 := by rw [eg]; rfl
    have e2 : (g 2).toInt = r % 3 := by rw [eg]; exact hx
    unfold zDl
    rw [e0, e1]
    rcases h with h | h | h | h | h
    · omega
    · omega
    · exact Or.inr (Or.inr (Or.inr (Or.inl (by omega))))
    all_goals omega
  · have e : (3 : Int32).toInt = 3 := by decide
    have e0 : g 0 = f 0 := by rw [eg]; rfl
    have e1 : g 1 = f 1 := by rw [eg]; rfl
    have e2 : g 2 = f 2 := by rw [eg]; rfl
    have e3 : (g 3).toInt = r % 3 := by rw [eg]; exact hx
    unfold zDl
    rw [e0, e1, e2]
    rcases h with h | h | h | h | h
    · omega
    · omega
    · omega
    · exact Or.inr (Or.inr (Or.inr (Or.inr (by omega))))
    · omega
  · omega
theorem zDl.done {f : Nat → Int32} {i r s n : Int} (h : zDl f i r s) (hn : n ≤ i ∧ n ≤ 4) : zDg f s n := by
  unfold zDl at h
  unfold zDg
  omega
/-- an open digit: both of its other values keep the state below 81 -/
def zOp (i s : Int) : Prop := (i = 0 → s ≤ 78) ∧ (i = 1 → s ≤ 74) ∧ (i = 2 → s ≤ 62) ∧ (i = 3 → s ≤ 26)
theorem zDg.op {f : Nat → Int32} {s n a : Int} {i : Int32} (h : zDg f s n) (hi : i.toInt = a) (ha : 0 ≤ a ∧ a < n ∧ n ≤ 4) (h0 : (f (Int32.toNatClampNeg i)).toInt = 0) (hs : 0 ≤ s ∧ s ≤ 80) : zOp a s := by
  unfold zDg at h
  unfold zOp
  rcases z_s3 i with q | rfl | rfl | rfl | rfl | q
  · omega
  · have e : (0 : Int32).toInt = 0 := by decide
    have h0 : (f 0).toInt = 0 := h0
    omega
  · have e : (1 : Int32).toInt = 1 := by decide
    have h0 : (f 1).toInt = 0 := h0
    omega
  · have e : (2 : Int32).toInt = 2 := by decide
    have h0 : (f 2).toInt = 0 := h0
    omega
  · have e : (3 : Int32).toInt = 3 := by decide
    have h0 : (f 3).toInt = 0 := h0
    omega
  · omega
theorem zOp.go {i s : Int} (h : zOp i s) : (i = 0 → s ≤ 78) ∧ (i = 1 → s ≤ 74) ∧ (i = 2 → s ≤ 62) ∧ (i = 3 → s ≤ 26) := h
/-- seats below n, of the people below k -/
def zSt (f : Nat → Int32) (n k : Int) : Prop := ∀ j : Nat, (j : Int) < k → (f j).toInt < n
theorem zSt.zero {f : Nat → Int32} {n k : Int} (h : k = 0) : zSt f n k := fun j hj => by omega
theorem zSt.put {f g : Nat → Int32} {p v : Int32} {n m k k' : Int} (h : zSt f n k) (eg : g = upd f (Int32.toNatClampNeg p) v) (hp : p.toInt = k) (hk : 0 ≤ k) (hk' : k' = k + 1) (hv : v.toInt < m) (hnm : n ≤ m) : zSt g m k' := by
  intro j hj
  rw [eg]
  obtain ⟨q, hq, e, eq⟩ := zi_nat hp hk
  have e2 : Int32.toNatClampNeg p = q := by rw [e]; exact nI_clamp hq
  rw [e2]
  by_cases c : j = q
  · rw [c, pk_us]; exact hv
  · rw [pk_un c]
    have := h j (by omega)
    omega
theorem zSt.put2 {f g : Nat → Int32} {p v : Int32} {n m k a : Int} (h : zSt f n k) (eg : g = upd f (Int32.toNatClampNeg p) v) (hp : p.toInt = a) (hk : 0 ≤ a) (hv : v.toInt < m) (hnm : n ≤ m) : zSt g m k := by
  intro j hj
  rw [eg]
  obtain ⟨q, hq, e, eq⟩ := zi_nat hp hk
  have e2 : Int32.toNatClampNeg p = q := by rw [e]; exact nI_clamp hq
  rw [e2]
  by_cases c : j = q
  · rw [c, pk_us]; exact hv
  · rw [pk_un c]
    have := h j (by omega)
    omega
theorem zSt.at {f : Nat → Int32} {n k a : Int} {p : Int32} (h : zSt f n k) (hp : p.toInt = a) (ha : 0 ≤ a ∧ a < k) : (f (Int32.toNatClampNeg p)).toInt < n := by
  obtain ⟨q, hq, e, eq⟩ := zi_nat hp ha.1
  have e2 : Int32.toNatClampNeg p = q := by rw [e]; exact nI_clamp hq
  rw [e2]
  exact h q (by omega)
/-- does the gate a touch the court c -/
def zJ (f g : Nat → Int32) (a c : Int) : Int := if (f a.toNat).toInt = c ∨ (g a.toNat).toInt = c then 1 else 0
theorem zJ_yes {f g : Nat → Int32} {x : Int32} {a c : Int} (hx : x.toInt = a) (h0 : 0 ≤ a) (h : (f (Int32.toNatClampNeg x)).toInt = c ∨ (g (Int32.toNatClampNeg x)).toInt = c) : zJ f g a c = 1 := by
  obtain ⟨q, hq, e, eq⟩ := zi_nat hx h0
  have e2 : Int32.toNatClampNeg x = q := by rw [e]; exact nI_clamp hq
  rw [e2] at h
  have e3 : a.toNat = q := by omega
  unfold zJ
  rw [e3, if_pos h]
theorem zJ_no {f g : Nat → Int32} {x : Int32} {a c : Int} (hx : x.toInt = a) (h0 : 0 ≤ a) (h : ¬ (f (Int32.toNatClampNeg x)).toInt = c ∧ ¬ (g (Int32.toNatClampNeg x)).toInt = c) : zJ f g a c = 0 := by
  obtain ⟨q, hq, e, eq⟩ := zi_nat hx h0
  have e2 : Int32.toNatClampNeg x = q := by rw [e]; exact nI_clamp hq
  rw [e2] at h
  have e3 : a.toNat = q := by omega
  unfold zJ
  rw [e3, if_neg (by omega)]
/-! bits -/
def zbt (x : Int32) (k : Nat) : Int := if x.toBitVec.getLsbD k = true then 1 else 0
def zPc (x : Int32) : Int := zbt x 0 + zbt x 1 + zbt x 2 + zbt x 3 + zbt x 4 + zbt x 5 + zbt x 6 + zbt x 7 + zbt x 8 + zbt x 9
theorem zbt_01 (x : Int32) (k : Nat) : 0 ≤ zbt x k ∧ zbt x k ≤ 1 := by unfold zbt; split <;> omega
theorem zPc_b (x : Int32) : 0 ≤ zPc x ∧ zPc x ≤ 10 := by
  have h0 := zbt_01 x 0
  have h1 := zbt_01 x 1
  have h2 := zbt_01 x 2
  have h3 := zbt_01 x 3
  have h4 := zbt_01 x 4
  have h5 := zbt_01 x 5
  have h6 := zbt_01 x 6
  have h7 := zbt_01 x 7
  have h8 := zbt_01 x 8
  have h9 := zbt_01 x 9
  unfold zPc
  omega
theorem zbv_one (b : BitVec 32) : (b &&& 1#32 = 0#32) ↔ b.getLsbD 0 = false := by
  rw [BitVec.and_one_eq_setWidth_ofBool_getLsbD]
  cases b.getLsbD 0 <;> decide
theorem zbv_shr (b : BitVec 32) (k : Nat) (hk : k < 32) : (b.sshiftRight k).getLsbD 0 = b.getLsbD k := by
  rw [BitVec.getLsbD_sshiftRight]
  simp [hk]
theorem zbt_and {x a : Int32} {k : Nat} (hk : k < 32) (e : a.toBitVec = x.toBitVec.sshiftRight k) : ((a &&& 1).toInt = 0 → zbt x k = 0) ∧ (¬ (a &&& 1).toInt = 0 → zbt x k = 1) := by
  have h1 : (a &&& 1).toInt = 0 ↔ x.toBitVec.getLsbD k = false := by
    rw [← zbv_shr _ _ hk, ← e, ← zbv_one]
    constructor
    · intro h
      have h2 : a &&& 1 = 0 := z_of 0 (by decide) h
      exact congrArg Int32.toBitVec h2
    · intro h
      have h2 : a &&& 1 = 0 := Int32.toBitVec_inj.mp h
      rw [h2]; decide
  unfold zbt
  cases hb : x.toBitVec.getLsbD k
  · exact ⟨fun _ => rfl, fun q => absurd (h1.mpr hb) q⟩
  · refine ⟨fun q => ?_, fun _ => rfl⟩
    have := h1.mp q
    rw [hb] at this
    cases this
/-- what has() says of a member below ten -/
theorem zbt_has {x y a b : Int32} (e1 : a = x >>> (y &&& 31)) (e2 : b = a &&& 1) (hy : 0 ≤ y.toInt ∧ y.toInt ≤ 9) : (b.toInt = 0 → zbt x (Int32.toNatClampNeg y) = 0) ∧ (¬ b.toInt = 0 → zbt x (Int32.toNatClampNeg y) = 1) := by
  rw [e2, e1]
  rcases z_s9 y with q | rfl | rfl | rfl | rfl | rfl | rfl | rfl | rfl | rfl | rfl | q
  · omega
  · exact zbt_and (k := 0) (by decide) rfl
  · exact zbt_and (k := 1) (by decide) rfl
  · exact zbt_and (k := 2) (by decide) rfl
  · exact zbt_and (k := 3) (by decide) rfl
  · exact zbt_and (k := 4) (by decide) rfl
  · exact zbt_and (k := 5) (by decide) rfl
  · exact zbt_and (k := 6) (by decide) rfl
  · exact zbt_and (k := 7) (by decide) rfl
  · exact zbt_and (k := 8) (by decide) rfl
  · exact zbt_and (k := 9) (by decide) rfl
  · omega
theorem zbt_or (x c : Int32) (k : Nat) : zbt (x ||| c) k = if c.toBitVec.getLsbD k = true then 1 else zbt x k := by
  unfold zbt
  rw [show (x ||| c).toBitVec = x.toBitVec ||| c.toBitVec from rfl, BitVec.getLsbD_or]
  cases c.toBitVec.getLsbD k <;> cases x.toBitVec.getLsbD k <;> rfl
theorem zPc_or {d y : Int32} (hy : 0 ≤ y.toInt ∧ y.toInt ≤ 9) (h : zbt d (Int32.toNatClampNeg y) = 0) : zPc (d ||| ((1 : Int32) <<< (y &&& 31))) = zPc d + 1 := by
  unfold zPc
  simp only [zbt_or]
  rcases z_s9 y with q | rfl | rfl | rfl | rfl | rfl | rfl | rfl | rfl | rfl | rfl | q
  · omega
  · have h : zbt d 0 = 0 := h
    rw [if_pos (by decide), if_neg (by decide), if_neg (by decide), if_neg (by decide), if_neg (by decide), if_neg (by decide), if_neg (by decide), if_neg (by decide), if_neg (by decide), if_neg (by decide)]; omega
  · have h : zbt d 1 = 0 := h
    rw [if_neg (by decide), if_pos (by decide), if_neg (by decide), if_neg (by decide), if_neg (by decide), if_neg (by decide), if_neg (by decide), if_neg (by decide), if_neg (by decide), if_neg (by decide)]; omega
  · have h : zbt d 2 = 0 := h
    rw [if_neg (by decide), if_neg (by decide), if_pos (by decide), if_neg (by decide), if_neg (by decide), if_neg (by decide), if_neg (by decide), if_neg (by decide), if_neg (by decide), if_neg (by decide)]; omega
  · have h : zbt d 3 = 0 := h
    rw [if_neg (by decide), if_neg (by decide), if_neg (by decide), if_pos (by decide), if_neg (by decide), if_neg (by decide), if_neg (by decide), if_neg (by decide), if_neg (by decide), if_neg (by decide)]; omega
  · have h : zbt d 4 = 0 := h
    rw [if_neg (by decide), if_neg (by decide), if_neg (by decide), if_neg (by decide), if_pos (by decide), if_neg (by decide), if_neg (by decide), if_neg (by decide), if_neg (by decide), if_neg (by decide)]; omega
  · have h : zbt d 5 = 0 := h
    rw [if_neg (by decide), if_neg (by decide), if_neg (by decide), if_neg (by decide), if_neg (by decide), if_pos (by decide), if_neg (by decide), if_neg (by decide), if_neg (by decide), if_neg (by decide)]; omega
  · have h : zbt d 6 = 0 := h
    rw [if_neg (by decide), if_neg (by decide), if_neg (by decide), if_neg (by decide), if_neg (by decide), if_neg (by decide), if_pos (by decide), if_neg (by decide), if_neg (by decide), if_neg (by decide)]; omega
  · have h : zbt d 7 = 0 := h
    rw [if_neg (by decide), if_neg (by decide), if_neg (by decide), if_neg (by decide), if_neg (by decide), if_neg (by decide), if_neg (by decide), if_pos (by decide), if_neg (by decide), if_neg (by decide)]; omega
  · have h : zbt d 8 = 0 := h
    rw [if_neg (by decide), if_neg (by decide), if_neg (by decide), if_neg (by decide), if_neg (by decide), if_neg (by decide), if_neg (by decide), if_neg (by decide), if_pos (by decide), if_neg (by decide)]; omega
  · have h : zbt d 9 = 0 := h
    rw [if_neg (by decide), if_neg (by decide), if_neg (by decide), if_neg (by decide), if_neg (by decide), if_neg (by decide), if_neg (by decide), if_neg (by decide), if_neg (by decide), if_pos (by decide)]; omega
  · omega
/-- degrees are the numbers of doors -/
def zDeg (f g : Nat → Int32) : Prop := ∀ j : Nat, (g j).toInt = zPc (f j)
theorem zDeg.add {f g f' g' : Nat → Int32} {c o d n v : Int32} (h : zDeg f g) (ed : d = f (Int32.toNatClampNeg c)) (ef : f' = upd f (Int32.toNatClampNeg c) v) (ev : v = d ||| ((1 : Int32) <<< (o &&& 31))) (eg : g' = upd g (Int32.toNatClampNeg c) n) (ho : 0 ≤ o.toInt ∧ o.toInt ≤ 9) (hb : zbt d (Int32.toNatClampNeg o) = 0) (hn : n.toInt = (g (Int32.toNatClampNeg c)).toInt + 1) : zDeg f' g' := by
  intro j
  rw [ef, eg]
  by_cases q : j = Int32.toNatClampNeg c
  · rw [q, pk_us, pk_us, ev, zPc_or ho hb, hn, h, ← ed]
  · rw [pk_un q, pk_un q]; exact h j
theorem zDeg.le {f g : Nat → Int32} {c o d : Int32} (h : zDeg f g) (ed : d = f (Int32.toNatClampNeg c)) (ho : 0 ≤ o.toInt ∧ o.toInt ≤ 9) (hb : zbt d (Int32.toNatClampNeg o) = 0) : (g (Int32.toNatClampNeg c)).toInt ≤ 9 := by
  have h1 := zPc_or ho hb
  have h2 := (zPc_b (d ||| ((1 : Int32) <<< (o &&& 31)))).2
  have h3 := h (Int32.toNatClampNeg c)
  rw [← ed] at h3
  omega
theorem zDeg.zero : zDeg (fun _ => 0) (fun _ => 0) := fun j => (by decide : Int32.toInt 0 = zPc 0)
/-- a door that is there behind was there ahead, or is the new one -/
def zAd (f f' : Nat → Int32) (c o : Nat) : Prop := ∀ j x : Nat, x < 10 → zbt (f' j) x = 1 → zbt (f j) x = 1 ∨ (j = c ∧ x = o)
theorem zAd.refl {f : Nat → Int32} {c o : Nat} : zAd f f c o := fun _ _ _ h => Or.inl h
theorem zbt_one {y : Int32} (hy : 0 ≤ y.toInt ∧ y.toInt ≤ 9) : ∀ x : Nat, x < 10 → ((1 : Int32) <<< (y &&& 31)).toBitVec.getLsbD x = true → x = Int32.toNatClampNeg y := by
  rcases z_s9 y with q | rfl | rfl | rfl | rfl | rfl | rfl | rfl | rfl | rfl | rfl | q
  · omega
  · decide
  · decide
  · decide
  · decide
  · decide
  · decide
  · decide
  · decide
  · decide
  · decide
  · omega
theorem zAd.put {f f' : Nat → Int32} {c o d v : Int32} (ed : d = f (Int32.toNatClampNeg c)) (ef : f' = upd f (Int32.toNatClampNeg c) v) (ev : v = d ||| ((1 : Int32) <<< (o &&& 31))) (ho : 0 ≤ o.toInt ∧ o.toInt ≤ 9) : zAd f f' (Int32.toNatClampNeg c) (Int32.toNatClampNeg o) := by
  intro j x hx h
  rw [ef] at h
  by_cases q : j = Int32.toNatClampNeg c
  · rw [q, pk_us, ev, zbt_or] at h
    split at h
    · rename_i g
      exact Or.inr ⟨q, zbt_one ho x hx g⟩
    · rw [q, ← ed]; exact Or.inl h
  · rw [pk_un q] at h; exact Or.inl h
/-- every door is a gate's -/
def zGd (f g d : Nat → Int32) (n : Int) : Prop := ∀ c x : Nat, x < 10 → zbt (d c) x = 1 → ∃ k : Nat, (k : Int) < n ∧ (((f k).toInt = c ∧ (g k).toInt = x) ∨ ((f k).toInt = x ∧ (g k).toInt = c))
def zTw (f g d e : Nat → Int32) (n : Int) : Prop := zDeg d e ∧ zGd f g d n
theorem zTw.zero {f : Nat → Int32} {n : Int} (e : f = fun _ => 0) : zTw f f f f n := by
  rw [e]
  refine ⟨zDeg.zero, fun c x hx h => ?_⟩
  exfalso
  have h : zbt 0 x = 1 := h
  unfold zbt at h
  rw [show (0 : Int32).toBitVec = 0#32 from rfl, BitVec.getLsbD_zero] at h
  exact absurd h (by decide)
theorem zTw.add {f g d e f' g' d1 d2 e2 : Nat → Int32} {k a b : Int32} {n n' : Int} (h : zTw f g d e n) (ef : f' = upd f (Int32.toNatClampNeg k) a) (eg : g' = upd g (Int32.toNatClampNeg k) b) (hk : k.toInt = n) (h0 : 0 ≤ n) (hn : n' = n + 1) (ha : 0 ≤ a.toInt) (hb : 0 ≤ b.toInt) (h1 : zAd d d1 (Int32.toNatClampNeg a) (Int32.toNatClampNeg b)) (h2 : zAd d1 d2 (Int32.toNatClampNeg b) (Int32.toNatClampNeg a)) (hz : zDeg d2 e2) : zTw f' g' d2 e2 n' := by
  obtain ⟨q, hq, eq, hqn⟩ := zi_nat hk h0
  have e1 : Int32.toNatClampNeg k = q := by rw [eq]; exact nI_clamp hq
  obtain ⟨i, hi, ei, hia⟩ := zi_nat (x := a) rfl ha
  have e2' : Int32.toNatClampNeg a = i := by rw [ei]; exact nI_clamp hi
  obtain ⟨j, hj, ej, hjb⟩ := zi_nat (x := b) rfl hb
  have e3 : Int32.toNatClampNeg b = j := by rw [ej]; exact nI_clamp hj
  rw [e1] at ef eg
  rw [e2', e3] at h1 h2
  refine ⟨hz, fun c x hx hb2 => ?_⟩
  have hnew : ∀ c x : Nat, (c = i ∧ x = j) ∨ (c = j ∧ x = i) → ∃ k : Nat, (k : Int) < n' ∧ (((f' k).toInt = c ∧ (g' k).toInt = x) ∨ ((f' k).toInt = x ∧ (g' k).toInt = c)) := by
    intro c x hc
    refine ⟨q, by omega, ?_⟩
    rw [ef, eg, pk_us, pk_us]
    omega
  rcases h2 c x hx hb2 with w | w
  · rcases h1 c x hx w with w | w
    · obtain ⟨t, ht, hh⟩ := h.2 c x hx w
      refine ⟨t, by omega, ?_⟩
      rw [ef, eg, pk_un (by omega), pk_un (by omega)]
      exact hh
    · exact hnew c x (Or.inl w)
  · exact hnew c x (Or.inr w)
theorem zl_nb (x : Int64) : -9223372036854775808 ≤ x.toInt ∧ x.toInt ≤ 9223372036854775807 := by
  have h1 := Int64.le_toInt x
  have h2 := Int64.toInt_lt x
  omega
