set_option linter.all false
theorem zi_clamp {x : Int32} {a : Int} (hx : x.toInt = a) (h : 0 ≤ a) : ((Int32.toNatClampNeg x : Nat) : Int) = a := by
  obtain ⟨j, hj, e, ej⟩ := zi_nat hx h
  rw [e, nI_clamp hj, ej]
theorem zi_updB {f : Nat → Int32} {a : Int} {k : Nat} {v : Int32} (hf : ∀ j : Nat, (-1) ≤ (f j).toInt ∧ (f j).toInt < ((j % 10 : Nat) : Int)) (hv : v.toInt = a) (h : (-1) ≤ a ∧ a < ((k % 10 : Nat) : Int)) : ∀ j : Nat, (-1) ≤ (upd f k v j).toInt ∧ (upd f k v j).toInt < ((j % 10 : Nat) : Int) := by
  intro j
  by_cases q : j = k
  · rw [q, pk_us, hv]; exact h
  · rw [pk_un q]; exact hf j
theorem zi_updP {f : Nat → Int32} {a : Int} {k : Nat} {v : Int32} (hf : ∀ j : Nat, 0 ≤ (f j).toInt ∧ (f j).toInt ≤ 99 ∧ (j % 2 = 1 → (f j).toInt ≤ 9)) (hv : v.toInt = a) (h : 0 ≤ a ∧ a ≤ 99 ∧ (k % 2 = 1 → a ≤ 9)) : ∀ j : Nat, 0 ≤ (upd f k v j).toInt ∧ (upd f k v j).toInt ≤ 99 ∧ (j % 2 = 1 → (upd f k v j).toInt ≤ 9) := by
  intro j
  by_cases q : j = k
  · rw [q, pk_us, hv]; exact h
  · rw [pk_un q]; exact hf j
theorem zi_shl9 {y : Int32} {b : Int} (hy : y.toInt = b) (h : 0 ≤ b ∧ b ≤ 9) : 1 ≤ ((1 : Int32) <<< (y &&& 31)).toInt ∧ ((1 : Int32) <<< (y &&& 31)).toInt ≤ 512 := by
  rcases z_s9 y with q | rfl | rfl | rfl | rfl | rfl | rfl | rfl | rfl | rfl | rfl | q
  · omega
  · decide
  · decide
  · decide
  · decide
  · decide
  · decide
  · decide
  · decide
  · decide
  · decide
  · omega
theorem zi_mulr {x y : Int32} {A B m : Int} (ha : 0 ≤ x.toInt ∧ x.toInt ≤ A) (hb : 0 ≤ y.toInt ∧ y.toInt ≤ B) (hm : A * B ≤ m ∧ m ≤ 2147483647) : 0 ≤ (x * y).toInt ∧ (x * y).toInt ≤ m := by
  have h1 : 0 ≤ x.toInt * y.toInt := Int.mul_nonneg ha.1 hb.1
  have h2 : x.toInt * y.toInt ≤ A * B := Int.mul_le_mul ha.2 hb.2 hb.1 (by omega)
  rw [Int32.toInt_mul, zi_bm ⟨by omega, by omega⟩]
  exact ⟨h1, by omega⟩
theorem zi_nor (a b : Nat) : nI a ||| nI b = nI (a ||| b) := by
  apply Int32.toBitVec_inj.mp
  show BitVec.ofNat 32 a ||| BitVec.ofNat 32 b = BitVec.ofNat 32 (a ||| b)
  exact (BitVec.ofNat_or ..).symm
theorem zi_or (k : Nat) {x y : Int32} {a b m : Int} (hx : x.toInt = a) (hy : y.toInt = b) (ha : 0 ≤ a ∧ a ≤ m) (hb : 0 ≤ b ∧ b ≤ m) (hm : (m + 1 = ((2 ^ k : Nat) : Int)) ∧ k ≤ 30) : 0 ≤ (x ||| y).toInt ∧ (x ||| y).toInt ≤ m := by
  obtain ⟨i, hi, e, ei⟩ := zi_nat hx ha.1
  obtain ⟨j, hj, f, ej⟩ := zi_nat hy hb.1
  have h1 : i < 2 ^ k := by omega
  have h2 : j < 2 ^ k := by omega
  have h3 := Nat.or_lt_two_pow h1 h2
  have h4 : 2 ^ k ≤ 2 ^ 30 := Nat.pow_le_pow_right (by decide) hm.2
  rw [e, f, zi_nor, nI_toInt (by omega)]
  omega
/-! more numbers -/
theorem zi_mulrL {x y : Int64} {A B m : Int} (ha : 0 ≤ x.toInt ∧ x.toInt ≤ A) (hb : 0 ≤ y.toInt ∧ y.toInt ≤ B) (hm : A * B ≤ m ∧ m ≤ 9223372036854775807) : 0 ≤ (x * y).toInt ∧ (x * y).toInt ≤ m := by
  have h1 : 0 ≤ x.toInt * y.toInt := Int.mul_nonneg ha.1 hb.1
  have h2 : x.toInt * y.toInt ≤ A * B := Int.mul_le_mul ha.2 hb.2 hb.1 (by omega)
  rw [Int64.toInt_mul, zi_bmL ⟨by omega, by omega⟩]
  exact ⟨h1, by omega⟩
theorem zi_mix {a b w v : Int64} (ha : 0 ≤ a.toInt ∧ a.toInt ≤ 100) (hb : b.toInt = 100 - a.toInt) (hw : 0 ≤ w.toInt ∧ w.toInt ≤ 1000000000) (hv : 0 ≤ v.toInt ∧ v.toInt ≤ 1000000000) : 0 ≤ (a * w + b * v).toInt ∧ (a * w + b * v).toInt ≤ 100000000000 := by
  have h1 : 0 ≤ a.toInt * w.toInt := Int.mul_nonneg ha.1 hw.1
  have h2 : 0 ≤ b.toInt * v.toInt := Int.mul_nonneg (by omega) hv.1
  have h3 : a.toInt * w.toInt ≤ a.toInt * 1000000000 := Int.mul_le_mul_of_nonneg_left hw.2 ha.1
  have h4 : b.toInt * v.toInt ≤ b.toInt * 1000000000 := Int.mul_le_mul_of_nonneg_left hv.2 (by omega)
  rw [zi_addL (a := a.toInt * w.toInt) (b := b.toInt * v.toInt) (zi_mulL rfl rfl (by omega)) (zi_mulL rfl rfl (by omega)) (by omega)]
  omega
theorem zi_divL {x y : Int64} {a d : Int} (hx : x.toInt = a) (hy : y.toInt = d) (h0 : 0 ≤ a) (hd : 0 < d) : (x / y).toInt = a / d := by
  have h1 : 0 ≤ a / d := Int.ediv_nonneg h0 (by omega)
  have h2 : a / d ≤ a := Int.ediv_le_self _ h0
  have h3 := Int64.toInt_lt x
  rw [Int64.toInt_div, hx, hy, Int.tdiv_eq_ediv_of_nonneg h0]
  exact zi_bmL ⟨by omega, by omega⟩
theorem zPow_c {y : Int32} {a : Int} (hy : y.toInt = a) (h : 0 ≤ a ∧ a ≤ 3) : (a = 0 → (zPow (Int32.toNatClampNeg y)).toInt = 1) ∧ (a = 1 → (zPow (Int32.toNatClampNeg y)).toInt = 3) ∧ (a = 2 → (zPow (Int32.toNatClampNeg y)).toInt = 9) ∧ (a = 3 → (zPow (Int32.toNatClampNeg y)).toInt = 27) := by
  rcases z_s3 y with q | rfl | rfl | rfl | rfl | q
  · omega
  · have e : (0 : Int32).toInt = 0 := by decide
    exact ⟨fun _ => by decide, fun _ => by omega, fun _ => by omega, fun _ => by omega⟩
  · have e : (1 : Int32).toInt = 1 := by decide
    exact ⟨fun _ => by omega, fun _ => by decide, fun _ => by omega, fun _ => by omega⟩
  · have e : (2 : Int32).toInt = 2 := by decide
    exact ⟨fun _ => by omega, fun _ => by omega, fun _ => by decide, fun _ => by omega⟩
  · have e : (3 : Int32).toInt = 3 := by decide
    exact ⟨fun _ => by omega, fun _ => by omega, fun _ => by omega, fun _ => by decide⟩
  · omega
/-- the digits of a state -/
def zDg (f : Nat → Int32) (s n : Int) : Prop := (0 < n → (f 0).toInt = s % 3) ∧ (1 < n → (f 1).toInt = s / 3 % 3) ∧ (2 < n → (f 2).toInt = s / 9 % 3) ∧ (3 < n → (f 3).toInt = s / 27 % 3)
def zDl (f : Nat → Int32) (i r s : Int) : Prop := (i = 0 ∧ r = s) ∨ (i = 1 ∧ r = s / 3 ∧ (f 0).toInt = s % 3) ∨ (i = 2 ∧ r = s / 9 ∧ (f 0).toInt = s % 3 ∧ (f 1).toInt = s / 3 % 3) ∨ (i = 3 ∧ r = s / 27 ∧ (f 0).toInt = s % 3 ∧ (f 1).toInt = s / 3 % 3 ∧ (f 2).toInt = s / 9 % 3) ∨ (i = 4 ∧ (f 0).toInt = s % 3 ∧ (f 1).toInt = s / 3 % 3 ∧ (f 2).toInt = s / 9 % 3 ∧ (f 3).toInt = s / 27 % 3)
theorem zDl.zero {f : Nat → Int32} {s i r : Int} (hi : i = 0) (hr : r = s) : zDl f i r s := Or.inl ⟨hi, hr⟩
theorem zDl.step {f g : Nat → Int32} {i x : Int32} {a j r r' s : Int} (h : zDl f a r s) (eg : g = upd f (Int32.toNatClampNeg i) x) (hi : i.toInt = a) (ha : 0 ≤ a ∧ a ≤ 3) (hx : x.toInt = r % 3) (hj : j = a + 1) (hr : r' = r / 3) : zDl g j r' s := by
  rcases z_s3 i with q | rfl | rfl | rfl | rfl | q
  · omega
  · have e : (0 : Int32).toInt = 0 := by decide
    have e0 : (g 0).toInt = r % 3 := by rw [eg]; exact hx
    rcases h with h | h | h | h | h
    · exact Or.inr (Or.inl (by omega))
    all_goals omega
  · have e : (1 : Int32).toInt = 1 := by decide
    have e0 : g 0 = f 0 := by rw [eg]; rfl
    have e1 : (g 1).toInt = r % 3 := by rw [eg]; exact hx
    unfold zDl
    rw [e0]
    rcases h with h | h | h | h | h
    · omega
    · exact Or.inr (Or.inr (Or.inl (by omega)))
    all_goals omega
  · have e : (2 : Int32).toInt = 2 := by decide
    have e0 : g 0 = f 0 := by rw [eg]; rfl
    have e1 : g 1 = f 1 := by rw [eg]; rfl
    have e2 : (g 2).toInt = r % 3 := by rw [eg]; exact hx
    unfold zDl
    rw [e0, e1]
    rcases h with h | h | h | h | h
    · omega
    · omega
    · exact Or.inr (Or.inr (Or.inr (Or.inl (by omega))))
    all_goals omega
  · have e : (3 : Int32).toInt = 3 := by decide
    have e0 : g 0 = f 0 := by rw [eg]; rfl
    have e1 : g 1 = f 1 := by rw [eg]; rfl
    have e2 : g 2 = f 2 := by rw [eg]; rfl
    have e3 : (g 3).toInt = r % 3 := by rw [eg]; exact hx
    unfold zDl
    rw [e0, e1, e2]
    rcases h with h | h | h | h | h
    · omega
    · omega
    · omega
    · exact Or.inr (Or.inr (Or.inr (Or.inr (by omega))))
    · omega
  · omega
theorem zDl.done {f : Nat → Int32} {i r s n : Int} (h : zDl f i r s) (hn : n ≤ i ∧ n ≤ 4) : zDg f s n := by
  unfold zDl at h
  unfold zDg
  omega
/-- an open digit: both of its other values keep the state below 81 -/
def zOp (i s : Int) : Prop := (i = 0 → s ≤ 78) ∧ (i = 1 → s ≤ 74) ∧ (i = 2 → s ≤ 62) ∧ (i = 3 → s ≤ 26)
theorem zDg.op {f : Nat → Int32} {s n a : Int} {i : Int32} (h : zDg f s n) (hi : i.toInt = a) (ha : 0 ≤ a ∧ a < n ∧ n ≤ 4) (h0 : (f (Int32.toNatClampNeg i)).toInt = 0) (hs : 0 ≤ s ∧ s ≤ 80) : zOp a s := by
  unfold zDg at h
  unfold zOp
  rcases z_s3 i with q | rfl | rfl | rfl | rfl | q
  · omega
  · have e : (0 : Int32).toInt = 0 := by decide
    have h0 : (f 0).toInt = 0 := h0
    omega
  · have e : (1 : Int32).toInt = 1 := by decide
    have h0 : (f 1).toInt = 0 := h0
    omega
  · have e : (2 : Int32).toInt = 2 := by decide
    have h0 : (f 2).toInt = 0 := h0
    omega
  · have e : (3 : Int32).toInt = 3 := by decide
    have h0 : (f 3).toInt = 0 := h0
    omega
  · omega
theorem zOp.go {i s : Int} (h : zOp i s) : (i = 0 → s ≤ 78) ∧ (i = 1 → s ≤ 74) ∧ (i = 2 → s ≤ 62) ∧ (i = 3 → s ≤ 26) := h
/-- seats below n, of the people below k -/
def zSt (f : Nat → Int32) (n k : Int) : Prop := ∀ j : Nat, (j : Int) < k → (f j).toInt < n
theorem zSt.zero {f : Nat → Int32} {n k : Int} (h : k = 0) : zSt f n k := fun j hj => by omega
theorem zSt.put {f g : Nat → Int32} {p v : Int32} {n m k k' : Int} (h : zSt f n k) (eg : g = upd f (Int32.toNatClampNeg p) v) (hp : p.toInt = k) (hk : 0 ≤ k) (hk' : k' = k + 1) (hv : v.toInt < m) (hnm : n ≤ m) : zSt g m k' := by
  intro j hj
  rw [eg]
  obtain ⟨q, hq, e, eq⟩ := zi_nat hp hk
  have e2 : Int32.toNatClampNeg p = q := by rw [e]; exact nI_clamp hq
  rw [e2]
  by_cases c : j = q
  · rw [c, pk_us]; exact hv
  · rw [pk_un c]
    have := h j (by omega)
    omega
theorem zSt.put2 {f g : Nat → Int32} {p v : Int32} {n m k a : Int} (h : zSt f n k) (eg : g = upd f (Int32.toNatClampNeg p) v) (hp : p.toInt = a) (hk : 0 ≤ a) (hv : v.toInt < m) (hnm : n ≤ m) : zSt g m k := by
  intro j hj
  rw [eg]
  obtain ⟨q, hq, e, eq⟩ := zi_nat hp hk
  have e2 : Int32.toNatClampNeg p = q := by rw [e]; exact nI_clamp hq
  rw [e2]
  by_cases c : j = q
  · rw [c, pk_us]; exact hv
  · rw [pk_un c]
    have := h j (by omega)
    omega
theorem zSt.at {f : Nat → Int32} {n k a : Int} {p : Int32} (h : zSt f n k) (hp : p.toInt = a) (ha : 0 ≤ a ∧ a < k) : (f (Int32.toNatClampNeg p)).toInt < n := by
  obtain ⟨q, hq, e, eq⟩ := zi_nat hp ha.1
  have e2 : Int32.toNatClampNeg p = q := by rw [e]; exact nI_clamp hq
  rw [e2]
  exact h q (by omega)
/-- does the gate a touch the court c -/
def zJ (f g : Nat → Int32) (a c : Int) : Int := if (f a.toNat).toInt = c ∨ (g a.toNat).toInt = c then 1 else 0
theorem zJ_yes {f g : Nat → Int32} {x : Int32} {a c : Int} (hx : x.toInt = a) (h0 : 0 ≤ a) (h : (f (Int32.toNatClampNeg x)).toInt = c ∨ (g (Int32.toNatClampNeg x)).toInt = c) : zJ f g a c = 1 := by
  obtain ⟨q, hq, e, eq⟩ := zi_nat hx h0
  have e2 : Int32.toNatClampNeg x = q := by rw [e]; exact nI_clamp hq
  rw [e2] at h
  have e3 : a.toNat = q := by omega
  unfold zJ
  rw [e3, if_pos h]
theorem zJ_no {f g : Nat → Int32} {x : Int32} {a c : Int} (hx : x.toInt = a) (h0 : 0 ≤ a) (h : ¬ (f (Int32.toNatClampNeg x)).toInt = c ∧ ¬ (g (Int32.toNatClampNeg x)).toInt = c) : zJ f g a c = 0 := by
  obtain ⟨q, hq, e, eq⟩ := zi_nat hx h0
  have e2 : Int32.toNatClampNeg x = q := by rw [e]; exact nI_clamp hq
  rw [e2] at h
  have e3 : a.toNat = q := by omega
  unfold zJ
  rw [e3, if_neg (by omega)]
/-! bits -/
def zbt (x : Int32) (k : Nat) : Int := if x.toBitVec.getLsbD k = true then 1 else 0
def zPc (x : Int32) : Int := zbt x 0 + zbt x 1 + zbt x 2 + zbt x 3 + zbt x 4 + zbt x 5 + zbt x 6 + zbt x 7 + zbt x 8 + zbt x 9
theorem zbt_01 (x : Int32) (k : Nat) : 0 ≤ zbt x k ∧ zbt x k ≤ 1 := by unfold zbt; split <;> omega
theorem zPc_b (x : Int32) : 0 ≤ zPc x ∧ zPc x ≤ 10 := by
  have h0 := zbt_01 x 0
  have h1 := zbt_01 x 1
  have h2 := zbt_01 x 2
  have h3 := zbt_01 x 3
  have h4 := zbt_01 x 4
  have h5 := zbt_01 x 5
  have h6 := zbt_01 x 6
  have h7 := zbt_01 x 7
  have h8 := zbt_01 x 8
  have h9 := zbt_01 x 9
  unfold zPc
  omega
theorem zbv_one (b : BitVec 32) : (b &&& 1#32 = 0#32) ↔ b.getLsbD 0 = false := by
  rw [BitVec.and_one_eq_setWidth_ofBool_getLsbD]
  cases b.getLsbD 0 <;> decide
theorem zbv_shr (b : BitVec 32) (k : Nat) (hk : k < 32) : (b.sshiftRight k).getLsbD 0 = b.getLsbD k := by
  rw [BitVec.getLsbD_sshiftRight]
  simp [hk]
theorem zbt_and {x a : Int32} {k : Nat} (hk : k < 32) (e : a.toBitVec = x.toBitVec.sshiftRight k) : ((a &&& 1).toInt = 0 → zbt x k = 0) ∧ (¬ (a &&& 1).toInt = 0 → zbt x k = 1) := by
  have h1 : (a &&& 1).toInt = 0 ↔ x.toBitVec.getLsbD k = false := by
    rw [← zbv_shr _ _ hk, ← e, ← zbv_one]
    constructor
    · intro h
      have h2 : a &&& 1 = 0 := z_of 0 (by decide) h
      exact congrArg Int32.toBitVec h2
    · intro h
      have h2 : a &&& 1 = 0 := Int32.toBitVec_inj.mp h
      rw [h2]; decide
  unfold zbt
  cases hb : x.toBitVec.getLsbD k
  · exact ⟨fun _ => rfl, fun q => absurd (h1.mpr hb) q⟩
  · refine ⟨fun q => ?_, fun _ => rfl⟩
    have := h1.mp q
    rw [hb] at this
    cases this
/-- what has() says of a member below ten -/
theorem zbt_has {x y a b : Int32} (e1 : a = x >>> (y &&& 31)) (e2 : b = a &&& 1) (hy : 0 ≤ y.toInt ∧ y.toInt ≤ 9) : (b.toInt = 0 → zbt x (Int32.toNatClampNeg y) = 0) ∧ (¬ b.toInt = 0 → zbt x (Int32.toNatClampNeg y) = 1) := by
  rw [e2, e1]
  rcases z_s9 y with q | rfl | rfl | rfl | rfl | rfl | rfl | rfl | rfl | rfl | rfl | q
  · omega
  · exact zbt_and (k := 0) (by decide) rfl
  · exact zbt_and (k := 1) (by decide) rfl
  · exact zbt_and (k := 2) (by decide) rfl
  · exact zbt_and (k := 3) (by decide) rfl
  · exact zbt_and (k := 4) (by decide) rfl
  · exact zbt_and (k := 5) (by decide) rfl
  · exact zbt_and (k := 6) (by decide) rfl
  · exact zbt_and (k := 7) (by decide) rfl
  · exact zbt_and (k := 8) (by decide) rfl
  · exact zbt_and (k := 9) (by decide) rfl
  · omega
theorem zbt_or (x c : Int32) (k : Nat) : zbt (x ||| c) k = if c.toBitVec.getLsbD k = true then 1 else zbt x k := by
  unfold zbt
  rw [show (x ||| c).toBitVec = x.toBitVec ||| c.toBitVec from rfl, BitVec.getLsbD_or]
  cases c.toBitVec.getLsbD k <;> cases x.toBitVec.getLsbD k <;> rfl
theorem zPc_or {d y : Int32} (hy : 0 ≤ y.toInt ∧ y.toInt ≤ 9) (h : zbt d (Int32.toNatClampNeg y) = 0) : zPc (d ||| ((1 : Int32) <<< (y &&& 31))) = zPc d + 1 := by
  unfold zPc
  simp only [zbt_or]
  rcases z_s9 y with q | rfl | rfl | rfl | rfl | rfl | rfl | rfl | rfl | rfl | rfl | q
  · omega
  · have h : zbt d 0 = 0 := h
    rw [if_pos (by decide), if_neg (by decide), if_neg (by decide), if_neg (by decide), if_neg (by decide), if_neg (by decide), if_neg (by decide), if_neg (by decide), if_neg (by decide), if_neg (by decide)]; omega
  · have h : zbt d 1 = 0 := h
    rw [if_neg (by decide), if_pos (by decide), if_neg (by decide), if_neg (by decide), if_neg (by decide), if_neg (by decide), if_neg (by decide), if_neg (by decide), if_neg (by decide), if_neg (by decide)]; omega
  · have h : zbt d 2 = 0 := h
    rw [if_neg (by decide), if_neg (by decide), if_pos (by decide), if_neg (by decide), if_neg (by decide), if_neg (by decide), if_neg (by decide), if_neg (by decide), if_neg (by decide), if_neg (by decide)]; omega
  · have h : zbt d 3 = 0 := h
    rw [if_neg (by decide), if_neg (by decide), if_neg (by decide), if_pos (by decide), if_neg (by decide), if_neg (by decide), if_neg (by decide), if_neg (by decide), if_neg (by decide), if_neg (by decide)]; omega
  · have h : zbt d 4 = 0 := h
    rw [if_neg (by decide), if_neg (by decide), if_neg (by decide), if_neg (by decide), if_pos (by decide), if_neg (by decide), if_neg (by decide), if_neg (by decide), if_neg (by decide), if_neg (by decide)]; omega
  · have h : zbt d 5 = 0 := h
    rw [if_neg (by decide), if_neg (by decide), if_neg (by decide), if_neg (by decide), if_neg (by decide), if_pos (by decide), if_neg (by decide), if_neg (by decide), if_neg (by decide), if_neg (by decide)]; omega
  · have h : zbt d 6 = 0 := h
    rw [if_neg (by decide), if_neg (by decide), if_neg (by decide), if_neg (by decide), if_neg (by decide), if_neg (by decide), if_pos (by decide), if_neg (by decide), if_neg (by decide), if_neg (by decide)]; omega
  · have h : zbt d 7 = 0 := h
    rw [if_neg (by decide), if_neg (by decide), if_neg (by decide), if_neg (by decide), if_neg (by decide), if_neg (by decide), if_neg (by decide), if_pos (by decide), if_neg (by decide), if_neg (by decide)]; omega
  · have h : zbt d 8 = 0 := h
    rw [if_neg (by decide), if_neg (by decide), if_neg (by decide), if_neg (by decide), if_neg (by decide), if_neg (by decide), if_neg (by decide), if_neg (by decide), if_pos (by decide), if_neg (by decide)]; omega
  · have h : zbt d 9 = 0 := h
    rw [if_neg (by decide), if_neg (by decide), if_neg (by decide), if_neg (by decide), if_neg (by decide), if_neg (by decide), if_neg (by decide), if_neg (by decide), if_neg (by decide), if_pos (by decide)]; omega
  · omega
/-- degrees are the numbers of doors -/
def zDeg (f g : Nat → Int32) : Prop := ∀ j : Nat, (g j).toInt = zPc (f j)
theorem zDeg.add {f g f' g' : Nat → Int32} {c o d n v : Int32} (h : zDeg f g) (ed : d = f (Int32.toNatClampNeg c)) (ef : f' = upd f (Int32.toNatClampNeg c) v) (ev : v = d ||| ((1 : Int32) <<< (o &&& 31))) (eg : g' = upd g (Int32.toNatClampNeg c) n) (ho : 0 ≤ o.toInt ∧ o.toInt ≤ 9) (hb : zbt d (Int32.toNatClampNeg o) = 0) (hn : n.toInt = (g (Int32.toNatClampNeg c)).toInt + 1) : zDeg f' g' := by
  intro j
  rw [ef, eg]
  by_cases q : j = Int32.toNatClampNeg c
  · rw [q, pk_us, pk_us, ev, zPc_or ho hb, hn, h, ← ed]
  · rw [pk_un q, pk_un q]; exact h j
theorem zDeg.le {f g : Nat → Int32} {c o d : Int32} (h : zDeg f g) (ed : d = f (Int32.toNatClampNeg c)) (ho : 0 ≤ o.toInt ∧ o.toInt ≤ 9) (hb : zbt d (Int32.toNatClampNeg o) = 0) : (g (Int32.toNatClampNeg c)).toInt ≤ 9 := by
  have h1 := zPc_or ho hb
  have h2 := (zPc_b (d ||| ((1 : Int32) <<< (o &&& 31)))).2
  have h3 := h (Int32.toNatClampNeg c)
  rw [← ed] at h3
  omega
theorem zDeg.zero : zDeg (fun _ => 0) (fun _ => 0) := fun j => (by decide : Int32.toInt 0 = zPc 0)
/-- a door that is there behind was there ahead, or is the new one -/
def zAd (f f' : Nat → Int32) (c o : Nat) : Prop := ∀ j x : Nat, x < 10 → zbt (f' j) x = 1 → zbt (f j) x = 1 ∨ (j = c ∧ x = o)
theorem zAd.refl {f : Nat → Int32} {c o : Nat} : zAd f f c o := fun _ _ _ h => Or.inl h
theorem zbt_one {y : Int32} (hy : 0 ≤ y.toInt ∧ y.toInt ≤ 9) : ∀ x : Nat, x < 10 → ((1 : Int32) <<< (y &&& 31)).toBitVec.getLsbD x = true → x = Int32.toNatClampNeg y := by
  rcases z_s9 y with q | rfl | rfl | rfl | rfl | rfl | rfl | rfl | rfl | rfl | rfl | q
  · omega
  · decide
  · decide
  · decide
  · decide
  · decide
  · decide
  · decide
  · decide
  · decide
  · decide
  · omega
theorem zAd.put {f f' : Nat → Int32} {c o d v : Int32} (ed : d = f (Int32.toNatClampNeg c)) (ef : f' = upd f (Int32.toNatClampNeg c) v) (ev : v = d ||| ((1 : Int32) <<< (o &&& 31))) (ho : 0 ≤ o.toInt ∧ o.toInt ≤ 9) : zAd f f' (Int32.toNatClampNeg c) (Int32.toNatClampNeg o) := by
  intro j x hx h
  rw [ef] at h
  by_cases q : j = Int32.toNatClampNeg c
  · rw [q, pk_us, ev, zbt_or] at h
    split at h
    · rename_i g
      exact Or.inr ⟨q, zbt_one ho x hx g⟩
    · rw [q, ← ed]; exact Or.inl h
  · rw [pk_un q] at h; exact Or.inl h
/-- every door is a gate's -/
def zGd (f g d : Nat → Int32) (n : Int) : Prop := ∀ c x : Nat, x < 10 → zbt (d c) x = 1 → ∃ k : Nat, (k : Int) < n ∧ (((f k).toInt = c ∧ (g k).toInt = x) ∨ ((f k).toInt = x ∧ (g k).toInt = c))
def zTw (f g d e : Nat → Int32) (n : Int) : Prop := zDeg d e ∧ zGd f g d n
theorem zTw.zero {f : Nat → Int32} {n : Int} (e : f = fun _ => 0) : zTw f f f f n := by
  rw [e]
  refine ⟨zDeg.zero, fun c x hx h => ?_⟩
  exfalso
  have h : zbt 0 x = 1 := h
  unfold zbt at h
  rw [show (0 : Int32).toBitVec = 0#32 from rfl, BitVec.getLsbD_zero] at h
  exact absurd h (by decide)
theorem zTw.add {f g d e f' g' d1 d2 e2 : Nat → Int32} {k a b : Int32} {n n' : Int} (h : zTw f g d e n) (ef : f' = upd f (Int32.toNatClampNeg k) a) (eg : g' = upd g (Int32.toNatClampNeg k) b) (hk : k.toInt = n) (h0 : 0 ≤ n) (hn : n' = n + 1) (ha : 0 ≤ a.toInt) (hb : 0 ≤ b.toInt) (h1 : zAd d d1 (Int32.toNatClampNeg a) (Int32.toNatClampNeg b)) (h2 : zAd d1 d2 (Int32.toNatClampNeg b) (Int32.toNatClampNeg a)) (hz : zDeg d2 e2) : zTw f' g' d2 e2 n' := by
  obtain ⟨q, hq, eq, hqn⟩ := zi_nat hk h0
  have e1 : Int32.toNatClampNeg k = q := by rw [eq]; exact nI_clamp hq
  obtain ⟨i, hi, ei, hia⟩ := zi_nat (x := a) rfl ha
  have e2' : Int32.toNatClampNeg a = i := by rw [ei]; exact nI_clamp hi
  obtain ⟨j, hj, ej, hjb⟩ := zi_nat (x := b) rfl hb
  have e3 : Int32.toNatClampNeg b = j := by rw [ej]; exact nI_clamp hj
  rw [e1] at ef eg
  rw [e2', e3] at h1 h2
  refine ⟨hz, fun c x hx hb2 => ?_⟩
  have hnew : ∀ c x : Nat, (c = i ∧ x = j) ∨ (c = j ∧ x = i) → ∃ k : Nat, (k : Int) < n' ∧ (((f' k).toInt = c ∧ (g' k).toInt = x) ∨ ((f' k).toInt = x ∧ (g' k).toInt = c)) := by
    intro c x hc
    refine ⟨q, by omega, ?_⟩
    rw [ef, eg, pk_us, pk_us]
    omega
  rcases h2 c x hx hb2 with w | w
  · rcases h1 c x hx w with w | w
    · obtain ⟨t, ht, hh⟩ := h.2 c x hx w
      refine ⟨t, by omega, ?_⟩
      rw [ef, eg, pk_un (by omega), pk_un (by omega)]
      exact hh
    · exact hnew c x (Or.inl w)
  · exact hnew c x (Or.inr w)
theorem zl_nb (x : Int64) : -9223372036854775808 ≤ x.toInt ∧ x.toInt ≤ 9223372036854775807 := by
  have h1 := Int64.le_toInt x
  have h2 := Int64.toInt_lt x
  omega
/-! the reference's contents -/
theorem zi_updK {f : Nat → Int32} {a : Int} {k : Nat} {v : Int32} (hf : ∀ j : Nat, ¬ j % 10 = 0 → (-1) ≤ (f j).toInt ∧ (f j).toInt < ((j % 10 : Nat) : Int)) (hv : v.toInt = a) (h : ¬ k % 10 = 0 → (-1) ≤ a ∧ a < ((k % 10 : Nat) : Int)) : ∀ j : Nat, ¬ j % 10 = 0 → (-1) ≤ (upd f k v j).toInt ∧ (upd f k v j).toInt < ((j % 10 : Nat) : Int) := by
  intro j hj
  by_cases q : j = k
  · rw [q, pk_us, hv]; exact h (by omega)
  · rw [pk_un q]; exact hf j hj
/-- the town is not told, or its first court lies in none -/
def zIc (f : Nat → Int32) (c : Int) : Prop := c = 0 ∨ (f 0).toInt = -1
theorem zIc.go {f : Nat → Int32} {c : Int} (h : zIc f c) (hc : ¬ c = 0) (hb : ∀ j : Nat, ¬ j % 10 = 0 → (-1) ≤ (f j).toInt ∧ (f j).toInt < ((j % 10 : Nat) : Int)) : ∀ j : Nat, j < 10 → (-1) ≤ (f j).toInt ∧ (f j).toInt < (j : Int) := by
  intro j hj
  rcases h with h | h
  · exact absurd h hc
  · by_cases q : j = 0
    · rw [q, h]; decide
    · have := hb j (by omega)
      omega
/-- m elements of block a went to block b, of them the first k -/
def zCq (f g : Nat → Int32) (m : Int) (a b k : Int) : Prop := ∀ j : Nat, g j = if m * b ≤ (j : Int) ∧ (j : Int) < m * b + k then f ((j : Int) - m * b + m * a).toNat else f j
theorem zCq.zero {f : Nat → Int32} {m a b k : Int} (hk : k = 0) : zCq f f m a b k := fun j => by rw [if_neg (by omega)]
theorem zCq.step {f g g' : Nat → Int32} {i i2 x : Int32} {m a b k k' u u2 : Int} (h : zCq f g m a b k) (eg : g' = upd g (Int32.toNatClampNeg i) x) (ex : x = g (Int32.toNatClampNeg i2)) (hi : i.toInt = u) (hi2 : i2.toInt = u2) (hu : u = m * b + k) (hu2 : u2 = m * a + k) (h0 : 0 ≤ u ∧ 0 ≤ u2) (hm : 0 < m ∧ k < m ∧ 0 ≤ k) (hk : k' = k + 1) : zCq f g' m a b k' := by
  obtain ⟨p, hp, e1, ep⟩ := zi_nat hi h0.1
  obtain ⟨q, hq, e2, eq⟩ := zi_nat hi2 h0.2
  have c1 : Int32.toNatClampNeg i = p := by rw [e1]; exact nI_clamp hp
  have c2 : Int32.toNatClampNeg i2 = q := by rw [e2]; exact nI_clamp hq
  intro j
  rw [eg, c1]
  by_cases c : j = p
  · rw [c, pk_us, ex, c2, h q, if_pos (show m * b ≤ (p : Int) ∧ (p : Int) < m * b + k' by omega)]
    rw [if_neg]
    · congr 1; omega
    · rintro ⟨w1, w2⟩
      rcases Int.lt_or_le a b with w | w
      · have w3 : m * (a + 1) ≤ m * b := Int.mul_le_mul_of_nonneg_left (by omega) (by omega)
        have w4 : m * (a + 1) = m * a + m := by rw [Int.mul_add, Int.mul_one]
        omega
      · have w3 : m * b ≤ m * a := Int.mul_le_mul_of_nonneg_left w (by omega)
        omega
  · rw [pk_un c, h j]
    by_cases w : m * b ≤ (j : Int) ∧ (j : Int) < m * b + k
    · rw [if_pos w, if_pos (by omega)]
    · rw [if_neg w, if_neg (by omega)]
/-- how many of the first n have a chance to stray -/
def zCn (f : Nat → Int32) (base : Nat) : Nat → Int
  | 0 => 0
  | n + 1 => zCn f base n + (if 0 < (f (base + 2 * n)).toInt then 1 else 0)
def zCt (f : Nat → Int32) (base : Nat) (n : Int) : Int := zCn f base n.toNat
theorem zCn_le (f : Nat → Int32) (base m : Nat) : ∀ k : Nat, zCn f base m ≤ zCn f base (m + k) := by
  intro k
  induction k with
  | zero => exact Int.le_refl _
  | succ k ih =>
    show zCn f base m ≤ zCn f base (m + k) + (if 0 < (f (base + 2 * (m + k))).toInt then 1 else 0)
    split <;> omega
theorem zCt_mono {f : Nat → Int32} {base : Nat} {m n : Int} (h : m ≤ n) : zCt f base m ≤ zCt f base n := by
  have := zCn_le f base m.toNat (n.toNat - m.toNat)
  rw [show m.toNat + (n.toNat - m.toNat) = n.toNat by omega] at this
  exact this
theorem zCn_nn (f : Nat → Int32) (base : Nat) (n : Nat) : 0 ≤ zCn f base n := by
  have := zCn_le f base 0 n
  rw [Nat.zero_add] at this
  exact this
theorem zCt_zero {f : Nat → Int32} {base : Nat} {n : Int} (h : n ≤ 0) : zCt f base n = 0 := by
  unfold zCt
  rw [show n.toNat = 0 by omega]
  rfl
theorem zCt_succ {f : Nat → Int32} {base : Nat} {n : Int} (h : 0 ≤ n) : zCt f base (n + 1) = zCt f base n + (if 0 < (f (base + 2 * n.toNat)).toInt then 1 else 0) := by
  unfold zCt
  rw [show (n + 1).toNat = n.toNat + 1 by omega]
  rfl
theorem zCn_upd {f : Nat → Int32} {base k : Nat} {v : Int32} : ∀ n : Nat, base + 2 * n ≤ k + 1 → zCn (upd f k v) base n = zCn f base n := by
  intro n
  induction n with
  | zero => intro _; rfl
  | succ n ih =>
    intro h
    show zCn (upd f k v) base n + (if 0 < (upd f k v (base + 2 * n)).toInt then 1 else 0) = zCn f base n + (if 0 < (f (base + 2 * n)).toInt then 1 else 0)
    rw [ih (by omega), pk_un (by omega)]
theorem zCn_copy {f g : Nat → Int32} {b1 b2 : Nat} : ∀ n : Nat, (∀ p : Nat, p < n → g (b2 + 2 * p) = f (b1 + 2 * p)) → zCn g b2 n = zCn f b1 n := by
  intro n
  induction n with
  | zero => intro _; rfl
  | succ n ih =>
    intro h
    show zCn g b2 n + (if 0 < (g (b2 + 2 * n)).toInt then 1 else 0) = zCn f b1 n + (if 0 < (f (b1 + 2 * n)).toInt then 1 else 0)
    rw [ih (fun p hp => h p (by omega)), h n (by omega)]
/-- what the reference's towns keep: a told one's first court lies in none, and at most four may stray -/
def zMb (fi fc fh fp fs : Nat → Int32) (b : Nat) : Prop := ((fi (10 * b)).toInt = -1 ∨ ((fc b).toInt = 0 ∧ (fh b).toInt = 0)) ∧ zCt fs (20 * b) (fp b).toInt ≤ 4
def zMd (fi fc fh fp fs : Nat → Int32) : Prop := zMb fi fc fh fp fs 0 ∧ zMb fi fc fh fp fs 1 ∧ zMb fi fc fh fp fs 2 ∧ zMb fi fc fh fp fs 3
theorem zMb.copy {fi fc fh fp fs gi gc gh gp gs : Nat → Int32} {a b c : Nat} (hpb : ∀ j : Nat, (fp j).toInt ≤ 10) (h : zMb fi fc fh fp fs a) (h0 : zMb fi fc fh fp fs c ∨ c = b) (hi : zCq fi gi 10 a b 10) (hc : zCq fc gc 1 a b 1) (hh : zCq fh gh 1 a b 1) (hp : zCq fp gp 1 a b 1) (hs : zCq fs gs 20 a b 20) : zMb gi gc gh gp gs c := by
  by_cases q : c = b
  · have e1 : gi (10 * c) = fi (10 * a) := by rw [hi (10 * c), if_pos (by omega)]; congr 1; omega
    have e2 : gc c = fc a := by rw [hc c, if_pos (by omega)]; congr 1; omega
    have e3 : gh c = fh a := by rw [hh c, if_pos (by omega)]; congr 1; omega
    have e4 : gp c = fp a := by rw [hp c, if_pos (by omega)]; congr 1; omega
    unfold zMb
    rw [e1, e2, e3, e4]
    refine ⟨h.1, ?_⟩
    have e5 : zCt gs (20 * c) (fp a).toInt = zCt fs (20 * a) (fp a).toInt := by
      unfold zCt
      apply zCn_copy
      intro p hp1
      have := hpb a
      rw [hs (20 * c + 2 * p), if_pos (by omega)]; congr 1; omega
    rw [e5]
    exact h.2
  · have e1 : gi (10 * c) = fi (10 * c) := by rw [hi (10 * c), if_neg (by omega)]
    have e2 : gc c = fc c := by rw [hc c, if_neg (by omega)]
    have e3 : gh c = fh c := by rw [hh c, if_neg (by omega)]
    have e4 : gp c = fp c := by rw [hp c, if_neg (by omega)]
    rcases h0 with h0 | h0
    · unfold zMb
      rw [e1, e2, e3, e4]
      refine ⟨h0.1, ?_⟩
      have e5 : zCt gs (20 * c) (fp c).toInt = zCt fs (20 * c) (fp c).toInt := by
        unfold zCt
        apply zCn_copy
        intro p hp1
        have := hpb c
        rw [hs (20 * c + 2 * p), if_neg (by omega)]
      rw [e5]
      exact h0.2
    · exact absurd h0 q
theorem zMd.at {fi fc fh fp fs : Nat → Int32} (h : zMd fi fc fh fp fs) {a : Nat} (ha : a < 4) : zMb fi fc fh fp fs a := by
  match a, ha with
  | 0, _ => exact h.1
  | 1, _ => exact h.2.1
  | 2, _ => exact h.2.2.1
  | 3, _ => exact h.2.2.2
theorem zMd.copy {fi fc fh fp fs gi gc gh gp gs : Nat → Int32} {a b : Int} (ha : 0 ≤ a) (hb : 0 ≤ b) (hpb : ∀ j : Nat, (fp j).toInt ≤ 10) (h : zMb fi fc fh fp fs a.toNat) (h0 : zMd fi fc fh fp fs) (hi : zCq fi gi 10 a b 10) (hc : zCq fc gc 1 a b 1) (hh : zCq fh gh 1 a b 1) (hp : zCq fp gp 1 a b 1) (hs : zCq fs gs 20 a b 20) : zMd gi gc gh gp gs := by
  obtain ⟨n, rfl⟩ : ∃ n : Nat, a = n := ⟨a.toNat, by omega⟩
  obtain ⟨k, rfl⟩ : ∃ n : Nat, b = n := ⟨b.toNat, by omega⟩
  have h : zMb fi fc fh fp fs n := h
  exact ⟨h.copy hpb (Or.inl h0.1) hi hc hh hp hs, h.copy hpb (Or.inl h0.2.1) hi hc hh hp hs, h.copy hpb (Or.inl h0.2.2.1) hi hc hh hp hs, h.copy hpb (Or.inl h0.2.2.2) hi hc hh hp hs⟩
/-- the weights of those who may stray -/
def zSn (f : Nat → Int32) : Nat → Int
  | 0 => 0
  | n + 1 => zSn f n + (f n).toInt
def zDv (f : Nat → Int32) (n : Int) : Prop := ∀ j : Nat, (j : Int) < n → (f j).toInt = 0 ∨ (f j).toInt = 1 ∨ (f j).toInt = 3 ∨ (f j).toInt = 9 ∨ (f j).toInt = 27
def zLd (f : Nat → Int32) (n c : Int) : Prop := zDv f n ∧ c = 1 + 2 * zSn f n.toNat
def zPk (c k : Int) : Prop := (c = 1 ∧ k = 0) ∨ (c = 3 ∧ k = 1) ∨ (c = 9 ∧ k = 2) ∨ (c = 27 ∧ k = 3) ∨ (c = 81 ∧ k = 4)
theorem zSn_upd {f : Nat → Int32} {k : Nat} {v : Int32} : ∀ n : Nat, n ≤ k → zSn (upd f k v) n = zSn f n := by
  intro n
  induction n with
  | zero => intro _; rfl
  | succ n ih =>
    intro h
    show zSn (upd f k v) n + (upd f k v n).toInt = zSn f n + (f n).toInt
    rw [ih (by omega), pk_un (by omega)]
theorem zLd.zero {f : Nat → Int32} {n c : Int} (hn : n = 0) (hc : c = 1) : zLd f n c := ⟨fun j hj => by omega, by rw [hn, hc]; exact (by decide : (1 : Int) = 1 + 2 * 0)⟩
theorem zLd.step {f g : Nat → Int32} {i v : Int32} {n n' c c' : Int} (h : zLd f n c) (eg : g = upd f (Int32.toNatClampNeg i) v) (hi : i.toInt = n) (h0 : 0 ≤ n) (hn : n' = n + 1) (hv : v.toInt = 0 ∨ v.toInt = 1 ∨ v.toInt = 3 ∨ v.toInt = 9 ∨ v.toInt = 27) (hc : c' = c + 2 * v.toInt) : zLd g n' c' := by
  obtain ⟨p, hp, e1, ep⟩ := zi_nat hi h0
  have c1 : Int32.toNatClampNeg i = p := by rw [e1]; exact nI_clamp hp
  rw [c1] at eg
  refine ⟨fun j hj => ?_, ?_⟩
  · rw [eg]
    by_cases q : j = p
    · rw [q, pk_us]; exact hv
    · rw [pk_un q]; exact h.1 j (by omega)
  · rw [show n'.toNat = p + 1 by omega]
    have e2 : zSn g (p + 1) = zSn g p + (g p).toInt := rfl
    have h2 := h.2
    rw [show n.toNat = p by omega] at h2
    rw [e2, eg, zSn_upd p (Nat.le_refl _), pk_us]
    omega
theorem zDv.at {f : Nat → Int32} {n a : Int} {p : Int32} (h : zDv f n) (hp : p.toInt = a) (ha : 0 ≤ a ∧ a < n) : (f (Int32.toNatClampNeg p)).toInt = 0 ∨ (f (Int32.toNatClampNeg p)).toInt = 1 ∨ (f (Int32.toNatClampNeg p)).toInt = 3 ∨ (f (Int32.toNatClampNeg p)).toInt = 9 ∨ (f (Int32.toNatClampNeg p)).toInt = 27 := by
  obtain ⟨q, hq, e, eq⟩ := zi_nat hp ha.1
  have e2 : Int32.toNatClampNeg p = q := by rw [e]; exact nI_clamp hq
  rw [e2]
  exact h q (by omega)
theorem zSn_le {f : Nat → Int32} {n : Int} (h : zDv f n) (m : Nat) : ∀ k : Nat, ((m + k : Nat) : Int) ≤ n → zSn f m ≤ zSn f (m + k) := by
  intro k
  induction k with
  | zero => intro _; exact Int.le_refl _
  | succ k ih =>
    intro hk
    show zSn f m ≤ zSn f (m + k) + (f (m + k)).toInt
    have h1 := ih (by omega)
    have h2 := h (m + k) (by omega)
    omega
/-- the sum so far -/
def zSo (f : Nat → Int32) (p code : Int) : Prop := 0 ≤ code ∧ code ≤ 2 * zSn f p.toNat
theorem zSo.zero {f : Nat → Int32} {p c : Int} (hp : p = 0) (hc : c = 0) : zSo f p c := by
  rw [hp, hc]
  exact ⟨by decide, (by decide : (0 : Int) ≤ 2 * 0)⟩
theorem zSo.step {f : Nat → Int32} {i d : Int32} {p p' c c' : Int} (h : zSo f p c) (ed : d = f (Int32.toNatClampNeg i)) (hi : i.toInt = p) (h0 : 0 ≤ p) (hp : p' = p + 1) (hc : c ≤ c' ∧ c' ≤ c + 2 * d.toInt) : zSo f p' c' := by
  obtain ⟨q, hq, e1, eq⟩ := zi_nat hi h0
  have c1 : Int32.toNatClampNeg i = q := by rw [e1]; exact nI_clamp hq
  rw [c1] at ed
  have e2 : zSn f (q + 1) = zSn f q + (f q).toInt := rfl
  have h1 := h.1
  have h2 := h.2
  rw [show p.toNat = q by omega] at h2
  refine ⟨by omega, ?_⟩
  rw [show p'.toNat = q + 1 by omega, e2, ← ed]
  omega
theorem zSo.done {f : Nat → Int32} {p n c k : Int} (h : zSo f p k) (hl : zLd f n c) (hp : 0 ≤ p ∧ p ≤ n) (hc : c ≤ 81) : 0 ≤ k ∧ k ≤ 80 := by
  have h1 := h.1
  have h2 := h.2
  have h3 := hl.2
  have h4 := zSn_le hl.1 p.toNat (n.toNat - p.toNat) (by omega)
  rw [show p.toNat + (n.toNat - p.toNat) = n.toNat by omega] at h4
  omega
def zK (f : Nat → Int32) (a c : Int) : Int := if (f (2 * a).toNat).toInt = c ∨ (f (2 * a + 1).toNat).toInt = c then 1 else 0
theorem zK_1 {f : Nat → Int32} {x : Int32} {a c : Int} (hx : x.toInt = 2 * a) (h0 : 0 ≤ a) (h : (f (Int32.toNatClampNeg x)).toInt = c) : zK f a c = 1 := by
  obtain ⟨q, hq, e, eq⟩ := zi_nat hx (by omega)
  have e2 : Int32.toNatClampNeg x = q := by rw [e]; exact nI_clamp hq
  rw [e2] at h
  unfold zK
  rw [show (2 * a).toNat = q by omega, if_pos (Or.inl h)]
theorem zK_2 {f : Nat → Int32} {x : Int32} {a c : Int} (hx : x.toInt = 2 * a + 1) (h0 : 0 ≤ a) (h : (f (Int32.toNatClampNeg x)).toInt = c) : zK f a c = 1 := by
  obtain ⟨q, hq, e, eq⟩ := zi_nat hx (by omega)
  have e2 : Int32.toNatClampNeg x = q := by rw [e]; exact nI_clamp hq
  rw [e2] at h
  unfold zK
  rw [show (2 * a + 1).toNat = q by omega, if_pos (Or.inr h)]
theorem zK_0 {f : Nat → Int32} {x y : Int32} {a c : Int} (hx : x.toInt = 2 * a) (hy : y.toInt = 2 * a + 1) (h0 : 0 ≤ a) (h : ¬ (f (Int32.toNatClampNeg x)).toInt = c) (h2 : ¬ (f (Int32.toNatClampNeg y)).toInt = c) : zK f a c = 0 := by
  obtain ⟨q, hq, e, eq⟩ := zi_nat hx (by omega)
  have e2 : Int32.toNatClampNeg x = q := by rw [e]; exact nI_clamp hq
  obtain ⟨r, hr, e3, er⟩ := zi_nat hy (by omega)
  have e4 : Int32.toNatClampNeg y = r := by rw [e3]; exact nI_clamp hr
  rw [e2] at h
  rw [e4] at h2
  unfold zK
  rw [show (2 * a).toNat = q by omega, show (2 * a + 1).toNat = r by omega, if_neg (by omega)]
/-- what the best try may be -/
def zBt (f : Nat → Int32) (n c b : Int) : Prop := b = -1 ∨ (0 ≤ b ∧ b ≤ 1599 ∧ (b % 100 = 99 ∨ b % 100 < n) ∧ zK f (b / 100) c = 1)
theorem zBt.none {f : Nat → Int32} {n c b : Int} (h : b = -1) : zBt f n c b := Or.inl h
theorem zBt.put {f : Nat → Int32} {n c b g q : Int} (hb : b = 100 * g + q) (hg : 0 ≤ g ∧ g ≤ 15) (hq : q = 99 ∨ (0 ≤ q ∧ q < n ∧ n ≤ 10)) (hk : zK f g c = 1) : zBt f n c b := by
  refine Or.inr ⟨by omega, by omega, by omega, ?_⟩
  rw [show b / 100 = g by omega]
  exact hk
theorem zBt.pick {f : Nat → Int32} {n c b w b' : Int} (h : zBt f n c b) (h2 : zBt f n c w) (hb : b' = b ∨ b' = w) : zBt f n c b' := by
  rcases hb with q | q
  · rw [q]; exact h
  · rw [q]; exact h2
theorem zBt.go {f : Nat → Int32} {n c b : Int} (h : zBt f n c b) : b = -1 ∨ (0 ≤ b ∧ b ≤ 1599 ∧ (b % 100 = 99 ∨ b % 100 < n) ∧ zK f (b / 100) c = 1) := h
def zD5 (d : Int) : Prop := d = 0 ∨ d = 1 ∨ d = 3 ∨ d = 9 ∨ d = 27
theorem zD5.go {d : Int} {x : Int32} (h : zD5 d) (t : x.toInt = d) : x.toInt = 0 ∨ x.toInt = 1 ∨ x.toInt = 3 ∨ x.toInt = 9 ∨ x.toInt = 27 := by rw [t]; exact h
theorem zDv.at5 {f : Nat → Int32} {n a : Int} {p : Int32} (h : zDv f n) (hp : p.toInt = a) (ha : 0 ≤ a ∧ a < n) : zD5 (f (Int32.toNatClampNeg p)).toInt := zDv.at h hp ha
theorem zCt_at {f : Nat → Int32} {base : Nat} {i x : Int32} {p : Int} (ex : x = f (Int32.toNatClampNeg i)) (hi : i.toInt = base + 2 * p) (h0 : 0 ≤ p) : (0 < x.toInt → zCt f base (p + 1) = zCt f base p + 1) ∧ (x.toInt ≤ 0 → zCt f base (p + 1) = zCt f base p) := by
  obtain ⟨q, hq, e, eq⟩ := zi_nat hi (by omega)
  have e2 : Int32.toNatClampNeg i = q := by rw [e]; exact nI_clamp hq
  rw [e2] at ex
  rw [zCt_succ h0, show base + 2 * p.toNat = q by omega, ← ex]
  refine ⟨fun h => by rw [if_pos h], fun h => ?_⟩
  rw [if_neg (by omega)]; omega
theorem zPk.go {c k : Int} (h : zPk c k) : (c = 1 ∧ k = 0) ∨ (c = 3 ∧ k = 1) ∨ (c = 9 ∧ k = 2) ∨ (c = 27 ∧ k = 3) ∨ (c = 81 ∧ k = 4) := h
/-! stores beyond the towns that are kept -/
theorem zu_ge {f g : Nat → Int32} {i v : Int32} {n : Nat} (eg : g = upd f (Int32.toNatClampNeg i) v) (hi : (n : Int) ≤ i.toInt) : ∀ j : Nat, j < n → g j = f j := by
  obtain ⟨q, hq, e, eq⟩ := zi_nat (x := i) rfl (by omega)
  have e2 : Int32.toNatClampNeg i = q := by rw [e]; exact nI_clamp hq
  intro j hj
  rw [eg, e2, pk_un (by omega)]
theorem zMb.same {fi fc fh fp fs gi gc gh gp gs : Nat → Int32} {b : Nat} (h : zMb fi fc fh fp fs b) (h1 : gi (10 * b) = fi (10 * b)) (h2 : gc b = fc b) (h3 : gh b = fh b) (h4 : gp b = fp b) (h5 : ∀ p : Nat, (p : Int) < (fp b).toInt → gs (20 * b + 2 * p) = fs (20 * b + 2 * p)) : zMb gi gc gh gp gs b := by
  unfold zMb
  rw [h1, h2, h3, h4]
  refine ⟨h.1, ?_⟩
  have e5 : zCt gs (20 * b) (fp b).toInt = zCt fs (20 * b) (fp b).toInt := by
    unfold zCt
    apply zCn_copy
    intro p hp
    exact h5 p (by omega)
  rw [e5]
  exact h.2
theorem zMd.setI {fi gi fc fh fp fs : Nat → Int32} {i v : Int32} (h : zMd fi fc fh fp fs) (eg : gi = upd fi (Int32.toNatClampNeg i) v) (hi : 31 ≤ i.toInt) : zMd gi fc fh fp fs := by
  have u := zu_ge (n := 31) eg hi
  exact ⟨h.1.same (u _ (by decide)) rfl rfl rfl (fun _ _ => rfl), h.2.1.same (u _ (by decide)) rfl rfl rfl (fun _ _ => rfl), h.2.2.1.same (u _ (by decide)) rfl rfl rfl (fun _ _ => rfl), h.2.2.2.same (u _ (by decide)) rfl rfl rfl (fun _ _ => rfl)⟩
theorem zMd.setC {fi fc gc fh fp fs : Nat → Int32} {i v : Int32} (h : zMd fi fc fh fp fs) (eg : gc = upd fc (Int32.toNatClampNeg i) v) (hi : 4 ≤ i.toInt) : zMd fi gc fh fp fs := by
  have u := zu_ge (n := 4) eg hi
  exact ⟨h.1.same rfl (u _ (by decide)) rfl rfl (fun _ _ => rfl), h.2.1.same rfl (u _ (by decide)) rfl rfl (fun _ _ => rfl), h.2.2.1.same rfl (u _ (by decide)) rfl rfl (fun _ _ => rfl), h.2.2.2.same rfl (u _ (by decide)) rfl rfl (fun _ _ => rfl)⟩
theorem zMd.setH {fi fc fh gh fp fs : Nat → Int32} {i v : Int32} (h : zMd fi fc fh fp fs) (eg : gh = upd fh (Int32.toNatClampNeg i) v) (hi : 4 ≤ i.toInt) : zMd fi fc gh fp fs := by
  have u := zu_ge (n := 4) eg hi
  exact ⟨h.1.same rfl rfl (u _ (by decide)) rfl (fun _ _ => rfl), h.2.1.same rfl rfl (u _ (by decide)) rfl (fun _ _ => rfl), h.2.2.1.same rfl rfl (u _ (by decide)) rfl (fun _ _ => rfl), h.2.2.2.same rfl rfl (u _ (by decide)) rfl (fun _ _ => rfl)⟩
theorem zMd.setP {fi fc fh fp gp fs : Nat → Int32} {i v : Int32} (h : zMd fi fc fh fp fs) (eg : gp = upd fp (Int32.toNatClampNeg i) v) (hi : 4 ≤ i.toInt) : zMd fi fc fh gp fs := by
  have u := zu_ge (n := 4) eg hi
  exact ⟨h.1.same rfl rfl rfl (u _ (by decide)) (fun _ _ => rfl), h.2.1.same rfl rfl rfl (u _ (by decide)) (fun _ _ => rfl), h.2.2.1.same rfl rfl rfl (u _ (by decide)) (fun _ _ => rfl), h.2.2.2.same rfl rfl rfl (u _ (by decide)) (fun _ _ => rfl)⟩
theorem zMd.setS {fi fc fh fp fs gs : Nat → Int32} {i v : Int32} (h : zMd fi fc fh fp fs) (eg : gs = upd fs (Int32.toNatClampNeg i) v) (hi : 80 ≤ i.toInt) (hp : ∀ j : Nat, 0 ≤ (fp j).toInt ∧ (fp j).toInt ≤ 10) : zMd fi fc fh fp gs := by
  have u := zu_ge (n := 80) eg hi
  have p0 := hp 0
  have p1 := hp 1
  have p2 := hp 2
  have p3 := hp 3
  exact ⟨h.1.same rfl rfl rfl rfl (fun p q => u _ (by omega)), h.2.1.same rfl rfl rfl rfl (fun p q => u _ (by omega)), h.2.2.1.same rfl rfl rfl rfl (fun p q => u _ (by omega)), h.2.2.2.same rfl rfl rfl rfl (fun p q => u _ (by omega))⟩
theorem zCt_ge {f g : Nat → Int32} {base : Nat} {i v : Int32} {n : Int} (eg : g = upd f (Int32.toNatClampNeg i) v) (hi : (base : Int) + 2 * n ≤ i.toInt) (hn : 0 ≤ n) : zCt g base n = zCt f base n := by
  obtain ⟨q, hq, e, eq⟩ := zi_nat (x := i) rfl (by omega)
  have e2 : Int32.toNatClampNeg i = q := by rw [e]; exact nI_clamp hq
  unfold zCt
  rw [eg, e2]
  exact zCn_upd _ (by omega)
theorem zu_is {f g : Nat → Int32} {i v : Int32} (eg : g = upd f (Int32.toNatClampNeg i) v) : v = g (Int32.toNatClampNeg i) := by rw [eg, pk_us]
theorem zu_no {f g : Nat → Int32} {i j v : Int32} (eg : g = upd f (Int32.toNatClampNeg i) v) (hi : 0 ≤ i.toInt) (hj : 0 ≤ j.toInt) (h : ¬ i.toInt = j.toInt) : g (Int32.toNatClampNeg j) = f (Int32.toNatClampNeg j) := by
  have a := zi_clamp (x := i) rfl hi
  have b := zi_clamp (x := j) rfl hj
  rw [eg, pk_un (by omega)]
/-! ways forward and backward -/
def zPs (fd fa fo : Nat → Int32) (c h : Nat) : Int32 := fd c &&& (fa c ||| fo h ||| 0)
def zRp (P : Nat → Nat → Int32) (n : Int) (c h : Nat) : Nat → Nat → Prop
  | 0, x => x = c
  | k + 1, x => ∃ y : Nat, zRp P n c h k y ∧ (x = y ∨ ((y : Int) < n ∧ zbt (P y (h + k)) x = 1))
def zRb (P : Nat → Nat → Int32) (n : Int) (d T : Nat) : Nat → Nat → Prop
  | 0, x => x = d
  | k + 1, x => ∃ y : Nat, zRb P n d T k y ∧ (y = x ∨ ((x : Int) < n ∧ zbt (P x (T - (k + 1))) y = 1))
theorem zRp.back {P : Nat → Nat → Int32} {n : Int} {c h d T : Nat} : ∀ m j x : Nat, zRp P n c h m x → zRb P n d T j x → h + m + j = T → zRb P n d T (j + m) c := by
  intro m
  induction m with
  | zero => intro j x h1 h2 _; obtain rfl : x = c := h1; exact h2
  | succ m ih =>
    intro j x h1 h2 e
    obtain ⟨y, hy, hs⟩ := h1
    have h3 : zRb P n d T (j + 1) y := by
      refine ⟨x, h2, ?_⟩
      rcases hs with q | q
      · exact Or.inl q
      · rw [show T - (j + 1) = h + m by omega]
        exact Or.inr q
    have := ih (j + 1) y hy h3 (by omega)
    rw [show j + (m + 1) = j + 1 + m by omega]
    exact this
theorem zRb.lt {P : Nat → Nat → Int32} {n : Int} {d T : Nat} (hd : (d : Int) < n) : ∀ k x : Nat, zRb P n d T k x → (x : Int) < n := by
  intro k
  induction k with
  | zero => intro x h; obtain rfl : x = d := h; exact hd
  | succ k ih =>
    intro x h
    obtain ⟨y, hy, hs⟩ := h
    rcases hs with q | q
    · rw [← q]; exact ih y hy
    · exact q.1
theorem zbt_or1 {a r : Int32} {x : Nat} (h : zbt (a ||| r) x = 1) : zbt a x = 1 ∨ zbt r x = 1 := by
  rw [zbt_or] at h
  split at h
  · rename_i g; unfold zbt; rw [if_pos g]; exact Or.inr rfl
  · exact Or.inl h
theorem zbt_and1 {a r : Int32} {x : Nat} (h : zbt (a &&& r) x = 1) : zbt a x = 1 := by
  unfold zbt at h ⊢
  rw [show (a &&& r).toBitVec = a.toBitVec &&& r.toBitVec from rfl, BitVec.getLsbD_and] at h
  cases q : a.toBitVec.getLsbD x
  · rw [q, Bool.false_and] at h; exact absurd h (by decide)
  · rfl
/-- the courts behind an hour -/
def zSpr (s s' : Int32) (fd fa fo : Nat → Int32) (t n : Int) : Prop := ∀ x : Nat, x < 10 → zbt s' x = 1 → zbt s x = 1 ∨ ∃ y : Nat, (y : Int) < n ∧ zbt s y = 1 ∧ zbt (zPs fd fa fo y t.toNat) x = 1
theorem zSpr.refl {s : Int32} {fd fa fo : Nat → Int32} {t n : Int} : zSpr s s fd fa fo t n := fun _ _ h => Or.inl h
theorem zSpr.add {s a b r c t : Int32} {fd fa fo : Nat → Int32} {n : Int} (h : zSpr s a fd fa fo t.toInt n) (eb : b = a ||| r) (er : r = fd (Int32.toNatClampNeg c) &&& (fa (Int32.toNatClampNeg c) ||| fo (Int32.toNatClampNeg t) ||| 0)) (hc : 0 ≤ c.toInt ∧ c.toInt < n) (ht : 0 ≤ t.toInt) (hb : zbt s (Int32.toNatClampNeg c) = 1) : zSpr s b fd fa fo t.toInt n := by
  intro x hx hbx
  rw [eb] at hbx
  rcases zbt_or1 hbx with q | q
  · exact h x hx q
  · have k1 := zi_clamp (x := c) rfl hc.1
    have k2 := zi_clamp (x := t) rfl ht
    refine Or.inr ⟨Int32.toNatClampNeg c, by omega, hb, ?_⟩
    rw [show t.toInt.toNat = Int32.toNatClampNeg t by omega]
    unfold zPs
    rw [← er]
    exact q
def zFs (fd fa fo : Nat → Int32) (n c h : Int) (s : Int32) (t : Int) : Prop := h ≤ t ∧ ∀ x : Nat, x < 10 → zbt s x = 1 → zRp (zPs fd fa fo) n c.toNat h.toNat (t - h).toNat x
theorem zFs.zero {fd fa fo : Nat → Int32} {n h t : Int} {p s : Int32} (es : s = (1 : Int32) <<< (p &&& 31)) (hp : 0 ≤ p.toInt ∧ p.toInt ≤ 9) (ht : t = h) : zFs fd fa fo n p.toInt h s t := by
  refine ⟨by omega, fun x hx hb => ?_⟩
  have k := zi_clamp (x := p) rfl hp.1
  rw [show (t - h).toNat = 0 by omega]
  show x = p.toInt.toNat
  have h1 : s.toBitVec.getLsbD x = true := by
    unfold zbt at hb
    split at hb
    · assumption
    · exact absurd hb (by decide)
  rw [es] at h1
  have := zbt_one hp x hx h1
  omega
theorem zFs.step {fd fa fo : Nat → Int32} {n c h t t' : Int} {s s' : Int32} (hf : zFs fd fa fo n c h s t) (hs : zSpr s s' fd fa fo t n) (h0 : 0 ≤ h) (hn : n ≤ 10) (ht : t' = t + 1) : zFs fd fa fo n c h s' t' := by
  have hle := hf.1
  refine ⟨by omega, fun x hx hb => ?_⟩
  rw [show (t' - h).toNat = (t - h).toNat + 1 by omega]
  rcases hs x hx hb with q | ⟨y, hy, q1, q2⟩
  · exact ⟨x, hf.2 x hx q, Or.inl rfl⟩
  · refine ⟨y, hf.2 y (by omega) q1, Or.inr ⟨hy, ?_⟩⟩
    rw [show h.toNat + (t - h).toNat = t.toNat by omega]
    exact q2
def zF (fd fa fo : Nat → Int32) (n c h x t : Int) : Prop := h ≤ t ∧ zRp (zPs fd fa fo) n c.toNat h.toNat (t - h).toNat x.toNat
theorem zFs.at {fd fa fo : Nat → Int32} {n c h t : Int} {s p : Int32} (hf : zFs fd fa fo n c h s t) (hp : 0 ≤ p.toInt ∧ p.toInt ≤ 9) (hb : zbt s (Int32.toNatClampNeg p) = 1) : zF fd fa fo n c h p.toInt t := by
  have k := zi_clamp (x := p) rfl hp.1
  refine ⟨hf.1, ?_⟩
  rw [show p.toInt.toNat = Int32.toNatClampNeg p by omega]
  exact hf.2 _ (by omega) hb
/-- the least cost of the courts of a set below k -/
def zLc (s : Int32) (fc : Nat → Int32) (k r : Int) : Prop := (r = 1000 ∨ ∃ x : Nat, (x : Int) < k ∧ zbt s x = 1 ∧ (fc x).toInt = r) ∧ ∀ x : Nat, (x : Int) < k → zbt s x = 1 → r ≤ (fc x).toInt
theorem zLc.zero {s : Int32} {fc : Nat → Int32} {k r : Int} (hk : k = 0) (hr : r = 1000) : zLc s fc k r := ⟨Or.inl hr, fun x hx => by omega⟩
theorem zLc.skip {s c : Int32} {fc : Nat → Int32} {k k' r : Int} (h : zLc s fc k r) (hc : c.toInt = k) (h0 : 0 ≤ k) (hk : k' = k + 1) (hb : zbt s (Int32.toNatClampNeg c) = 0) : zLc s fc k' r := by
  have e := zi_clamp hc h0
  refine ⟨?_, fun x hx hx1 => ?_⟩
  · rcases h.1 with q | ⟨x, q1, q2⟩
    · exact Or.inl q
    · exact Or.inr ⟨x, by omega, q2⟩
  · by_cases q : x = Int32.toNatClampNeg c
    · rw [q, hb] at hx1; exact absurd hx1 (by decide)
    · exact h.2 x (by omega) hx1
theorem zLc.take {s c v : Int32} {fc : Nat → Int32} {k k' r r' : Int} (h : zLc s fc k r) (hc : c.toInt = k) (h0 : 0 ≤ k) (hk : k' = k + 1) (hb : zbt s (Int32.toNatClampNeg c) = 1) (ev : v = fc (Int32.toNatClampNeg c)) (hr : r' = min r v.toInt) : zLc s fc k' r' := by
  have e := zi_clamp hc h0
  refine ⟨?_, fun x hx hx1 => ?_⟩
  · by_cases q : r ≤ v.toInt
    · rcases h.1 with w | ⟨x, w1, w2, w3⟩
      · exact Or.inl (by omega)
      · exact Or.inr ⟨x, by omega, w2, by omega⟩
    · refine Or.inr ⟨Int32.toNatClampNeg c, by omega, hb, ?_⟩
      rw [← ev]; omega
  · by_cases q : x = Int32.toNatClampNeg c
    · rw [q, ← ev]; omega
    · have := h.2 x (by omega) hx1; omega
/-- what a gate leads to -/
def zBf (f g : Nat → Int32) (a c : Int) : Int := if (f a.toNat).toInt = c then (g a.toNat).toInt else if (g a.toNat).toInt = c then (f a.toNat).toInt else -1
theorem zBf_1 {f g : Nat → Int32} {x : Int32} {a c : Int} (hx : x.toInt = a) (h0 : 0 ≤ a) (h : (f (Int32.toNatClampNeg x)).toInt = c) : zBf f g a c = (g (Int32.toNatClampNeg x)).toInt := by
  have k := zi_clamp hx h0
  unfold zBf
  rw [show a.toNat = Int32.toNatClampNeg x by omega, if_pos h]
theorem zBf_2 {f g : Nat → Int32} {x : Int32} {a c : Int} (hx : x.toInt = a) (h0 : 0 ≤ a) (h : ¬ (f (Int32.toNatClampNeg x)).toInt = c) (h2 : (g (Int32.toNatClampNeg x)).toInt = c) : zBf f g a c = (f (Int32.toNatClampNeg x)).toInt := by
  have k := zi_clamp hx h0
  unfold zBf
  rw [show a.toNat = Int32.toNatClampNeg x by omega, if_neg h, if_pos h2]
theorem zBf_3 {f g : Nat → Int32} {x : Int32} {a c : Int} (hx : x.toInt = a) (h0 : 0 ≤ a) (h : ¬ (f (Int32.toNatClampNeg x)).toInt = c) (h2 : ¬ (g (Int32.toNatClampNeg x)).toInt = c) : zBf f g a c = -1 := by
  have k := zi_clamp hx h0
  unfold zBf
  rw [show a.toNat = Int32.toNatClampNeg x by omega, if_neg h, if_neg h2]
/-- no gate below k leads to a court of the set with that cost -/
def zNg (s : Int32) (fc f g : Nat → Int32) (c cost k : Int) : Prop := ∀ q : Nat, (q : Int) < k → ¬ (¬ zBf f g q c = -1 ∧ zbt s (zBf f g q c).toNat = 1 ∧ (fc (zBf f g q c).toNat).toInt = cost)
theorem zNg.zero {s : Int32} {fc f g : Nat → Int32} {c cost k : Int} (hk : k = 0) : zNg s fc f g c cost k := fun q hq => by omega
theorem zNg.none {s x : Int32} {fc f g : Nat → Int32} {c cost k k' : Int} (h : zNg s fc f g c cost k) (hx : x.toInt = k) (h0 : 0 ≤ k) (hk : k' = k + 1) (hb : zBf f g k c = -1) : zNg s fc f g c cost k' := by
  intro q hq
  by_cases w : (q : Int) = k
  · rw [w]; exact fun z => z.1 hb
  · exact h q (by omega)
theorem zNg.shut {s x y : Int32} {fc f g : Nat → Int32} {c cost k k' : Int} (h : zNg s fc f g c cost k) (hx : x.toInt = k) (h0 : 0 ≤ k) (hk : k' = k + 1) (hy : y.toInt = zBf f g k c) (hy0 : 0 ≤ y.toInt) (hb : zbt s (Int32.toNatClampNeg y) = 0) : zNg s fc f g c cost k' := by
  have e := zi_clamp (x := y) rfl hy0
  intro q hq
  by_cases w : (q : Int) = k
  · rw [w, ← hy, show y.toInt.toNat = Int32.toNatClampNeg y by omega, hb]; exact fun z => absurd z.2.1 (by decide)
  · exact h q (by omega)
theorem zNg.dear {s x y v : Int32} {fc f g : Nat → Int32} {c cost k k' : Int} (h : zNg s fc f g c cost k) (hx : x.toInt = k) (h0 : 0 ≤ k) (hk : k' = k + 1) (hy : y.toInt = zBf f g k c) (hy0 : 0 ≤ y.toInt) (ev : v = fc (Int32.toNatClampNeg y)) (hv : ¬ v.toInt = cost) : zNg s fc f g c cost k' := by
  have e := zi_clamp (x := y) rfl hy0
  intro q hq
  by_cases w : (q : Int) = k
  · rw [w, ← hy, show y.toInt.toNat = Int32.toNatClampNeg y by omega, ← ev]; exact fun z => hv z.2.2
  · exact h q (by omega)
/-- the same of ten courts -/
def zGe (f g d : Nat → Int32) (n : Int) : Prop := ∀ c x : Nat, c < 10 → x < 10 → zbt (d c) x = 1 → ∃ k : Nat, (k : Int) < n ∧ (((f k).toInt = c ∧ (g k).toInt = x) ∨ ((f k).toInt = x ∧ (g k).toInt = c))
theorem zGe.of {f g d e d' : Nat → Int32} {n : Int} (h : zTw f g d e n) (hd : ∀ j : Nat, j < 10 → d' j = d j) : zGe f g d' n := fun c x hc hx hb => h.2 c x hx (by rw [← hd c hc]; exact hb)
theorem zNg.false {fd fa fo fc f g : Nat → Int32} {c cost k : Int} {h x : Nat} (hn : zNg (zPs fd fa fo c.toNat h) fc f g c cost k) (hg : zGe f g fd k) (hc : 0 ≤ c ∧ c < 10) (hx : x < 10) (hb : zbt (zPs fd fa fo c.toNat h) x = 1) (he : (fc x).toInt = cost) : False := by
  obtain ⟨q, hq, hh⟩ := hg c.toNat x (by omega) hx (zbt_and1 hb)
  have e : zBf f g q c = x := by
    unfold zBf
    rw [show ((q : Int)).toNat = q by omega]
    rcases hh with ⟨h1, h2⟩ | ⟨h1, h2⟩
    · rw [if_pos (by omega)]; exact h2
    · by_cases w : (f q).toInt = c
      · rw [if_pos w]; omega
      · rw [if_neg w, if_pos (by omega)]; exact h1
  refine hn q hq ⟨by omega, ?_, ?_⟩
  · rw [e]; exact hb
  · rw [e]; exact he
/-- costs backward -/
def zCo (fd fa fo : Nat → Int32) (n d T : Int) (fc : Nat → Int32) (k : Int) : Prop := ∀ x : Nat, (x : Int) < n → zRb (zPs fd fa fo) n d.toNat T.toNat k.toNat x → (fc x).toInt ≤ k
def zLw (fd fa fo fc fl : Nat → Int32) (n h k : Int) : Prop := ∀ x : Nat, (x : Int) < k → ∃ l : Int, zLc (zPs fd fa fo x h.toNat) fc n l ∧ (fl x).toInt = min (fc x).toInt (1 + l)
theorem zLw.zero {fd fa fo fc fl : Nat → Int32} {n h k : Int} (hk : k = 0) : zLw fd fa fo fc fl n h k := fun x hx => by omega
theorem zLw.step {fd fa fo fc fl gl : Nat → Int32} {c v r : Int32} {n h k k' l : Int} (hw : zLw fd fa fo fc fl n h k) (eg : gl = upd fl (Int32.toNatClampNeg c) v) (hc : c.toInt = k) (h0 : 0 ≤ k) (hk : k' = k + 1) (hl : zLc r fc n l) (er : r = zPs fd fa fo (Int32.toNatClampNeg c) h.toNat) (hv : v.toInt = min (fc (Int32.toNatClampNeg c)).toInt (1 + l)) : zLw fd fa fo fc gl n h k' := by
  have e := zi_clamp hc h0
  intro x hx
  rw [eg]
  by_cases q : x = Int32.toNatClampNeg c
  · refine ⟨l, ?_, ?_⟩
    · rw [q, ← er]; exact hl
    · rw [q, pk_us]; exact hv
  · obtain ⟨l2, w1, w2⟩ := hw x (by omega)
    exact ⟨l2, w1, by rw [pk_un q]; exact w2⟩
theorem zCo.step {fd fa fo fc fl gc : Nat → Int32} {n d T h k k' : Int} (hc : zCo fd fa fo n d T fc k) (hw : zLw fd fa fo fc fl n h n) (hg : ∀ x : Nat, x < 10 → gc x = fl x) (hn : n ≤ 10) (hd : 0 ≤ d ∧ d < n) (hk : 0 ≤ k) (hk' : k' = k + 1) (hh : h = T - 1 - k) (h0 : 0 ≤ h) : zCo fd fa fo n d T gc k' := by
  intro x hx hb
  rw [hg x (by omega)]
  obtain ⟨l, hl, hv⟩ := hw x hx
  rw [show k'.toNat = k.toNat + 1 by omega] at hb
  obtain ⟨y, hy, hs⟩ := hb
  have hyn := zRb.lt (show ((d.toNat : Nat) : Int) < n by omega) _ y hy
  have hcy := hc y hyn hy
  rcases hs with q | q
  · rw [q] at hcy; omega
  · have := hl.2 y hyn (by rw [show h.toNat = T.toNat - (k.toNat + 1) by omega]; exact q.2)
    omega
def zC1 (fc : Nat → Int32) (n : Int) : Prop := ∀ x : Nat, (x : Int) < n → (fc x).toInt ≤ 1000
theorem zC1.step {fd fa fo fc fl gc : Nat → Int32} {n h : Int} (hc : zC1 fc n) (hw : zLw fd fa fo fc fl n h n) (hg : ∀ x : Nat, x < 10 → gc x = fl x) (hn : n ≤ 10) : zC1 gc n := by
  intro x hx
  rw [hg x (by omega)]
  obtain ⟨l, hl, hv⟩ := hw x hx
  have := hc x hx
  omega
/-- a lower cost comes by a gate -/
theorem zGate {fd fa fo fc fl f g : Nat → Int32} {n c h cost gc : Int} (hc1 : zC1 fc n) (hw : zLw fd fa fo fc fl n h n) (hn : n ≤ 10) (hc : 0 ≤ c ∧ c < n) (hlt : (fl c.toNat).toInt < (fc c.toNat).toInt) (hcost : cost = (fl c.toNat).toInt - 1) (hg : zGe f g fd gc) (hng : zNg (zPs fd fa fo c.toNat h.toNat) fc f g c cost gc) : False := by
  obtain ⟨l, hl, hv⟩ := hw c.toNat (by omega)
  have h1 := hc1 c.toNat (by omega)
  rcases hl.1 with q | ⟨x, q1, q2, q3⟩
  · omega
  · exact hng.false hg (by omega) (by omega) q2 (by omega)
theorem zF.cost {fd fa fo fc : Nat → Int32} {n c h d t k : Int} (hf : zF fd fa fo n c h d t) (hc : zCo fd fa fo n d t fc k) (hk : k = t - h) (hcn : 0 ≤ c ∧ c < n) (h0 : 0 ≤ h ∧ 0 ≤ d) : (fc c.toNat).toInt ≤ k := by
  refine hc c.toNat (by omega) ?_
  have h1 := hf.1
  have := zRp.back (d := d.toNat) (T := t.toNat) (t - h).toNat 0 d.toNat hf.2 rfl (by omega)
  rw [Nat.zero_add] at this
  rw [hk]
  exact this
theorem zCo.zero {fd fa fo fc : Nat → Int32} {n d T k : Int} (hk : k = 0) (h : (fc d.toNat).toInt = 0) : zCo fd fa fo n d T fc k := by
  intro x hx hb
  rw [hk] at hb
  have : x = d.toNat := hb
  rw [this]; omega
