set_option linter.all false
/-! where, within, keys, empty, hollow, keeper: in the law's world -/
theorem zq_bey {co ga t : Int32} {oe ot rgt : Nat → Int32} (h : zCg 0 co ga oe ot rgt) {g : Nat} (hg : (g : Int) < ga.toInt) (hg16 : g < 16) {c : Int32} (e : F_X7_beyond (nI g) c oe ot = t) (ht : ¬ t = -1) : 0 ≤ t.toInt ∧ t.toInt < co.toInt := by
  obtain ⟨-, -, -, h4, h5⟩ := h g hg
  unfold F_X7_beyond at e
  simp only [↓zL_p, nI_clamp (show g < 2 ^ 31 by omega)] at e
  by_cases q : oe g = c
  · rw [if_pos q] at e; rw [← e]; exact h5
  · rw [if_neg q] at e
    by_cases w : ot g = c
    · rw [if_pos w] at e; rw [← e]; exact h4
    · rw [if_neg w] at e; exact absurd e.symm ht
theorem zr_where {iv : Nat → Int32} {fi : Nat → Nat → Int32} {p k hp hc r9 r10 : Int32} (z : zRtA 0 0 iv fi) (y : zyN iv fi) (b1 : 0 ≤ (iv 76).toInt ∧ (iv 76).toInt ≤ 48) (b4 : 0 ≤ (iv 79).toInt ∧ (iv 79).toInt ≤ 10) (hh : hp.toInt = -1) (h1 : r9 = F_X9_where p k (iv 49) (iv 76) (iv 79) (fi 85) (fi 87)) (k1 : r10 = (F_X10_where p k hp hc (fi 8) (fi 13) (fi 14) (fi 15) (fi 18)).1) : r9.toInt = r10.toInt := by
  have eh : hp = -1 := Int32.toInt_inj.mp (hh.trans (by decide))
  subst eh
  obtain ⟨-, -, -, -, g5, g6, -, g8, g9, -, -, -, -⟩ := zRt.go z
  rw [h1, k1]
  exact congrArg Int32.toInt (zq_where g5 g6 g8 g9 b4 b1 y.1)
theorem zr_within {iv : Nat → Int32} {fi : Nat → Nat → Int32} {p k hp hc ou r9 r10 : Int32} (z : zRtA 0 0 iv fi) (y : zyN iv fi) (b1 : 0 ≤ (iv 76).toInt ∧ (iv 76).toInt ≤ 48) (b2 : 0 ≤ (iv 77).toInt ∧ (iv 77).toInt ≤ 10) (b4 : 0 ≤ (iv 79).toInt ∧ (iv 79).toInt ≤ 10) (hh : hp.toInt = -1) (ho : ou.toInt = 0) (h1 : r9 = F_X9_within p k (iv 49) (iv 76) (iv 77) (iv 79) (fi 82) (fi 85) (fi 87)) (k1 : r10 = (F_X10_within p k hp hc ou (fi 8) (fi 9) (fi 10) (fi 13) (fi 14) (fi 15) (fi 16) (fi 18)).1) : r9.toInt = r10.toInt := by
  have eh : hp = -1 := Int32.toInt_inj.mp (hh.trans (by decide))
  have eo : ou = 0 := Int32.toInt_inj.mp (ho.trans zN_0.symm)
  subst eh eo
  obtain ⟨g1, g2, g3, g4, g5, g6, -, g8, g9, g10, -, -, -⟩ := zRt.go z
  rw [h1, k1]
  exact congrArg Int32.toInt (zq_withinA g1 g10 b2 g2 g3 g4 g5 g6 g8 g9 b4 b1 y.1)
/-- within a court, both sides, in the law's world -/
theorem zr_in {iv : Nat → Int32} {fi : Nat → Nat → Int32} (z : zRtA 0 0 iv fi) (y : zyN iv fi) (b2 : 0 ≤ (iv 77).toInt ∧ (iv 77).toInt ≤ 10) (b4 : 0 ≤ (iv 79).toInt ∧ (iv 79).toInt ≤ 10) (hc : Int32) {d k : Nat} (hd : d < 32) (hk : (k : Int) < (iv 76).toInt) (hk48 : k < 48) : F_X7_inside (nI d) (nI k) (iv 49) (iv 79) (fi 82) (fi 85) (fi 87) = F_X10_withinOf (nI d) (nI k) (-1) hc 0 (fi 10) (fi 13) (fi 14) (fi 15) (fi 16) (fi 18) := by
  obtain ⟨g1, g2, g3, g4, g5, g6, -, g8, -, -, -, -, -⟩ := zRt.go z
  exact zq_withinF g1 b2.2 g2 g3 g4 g5 g6 g8 b4 y.1 hd hk hk48
theorem zr_keys {iv : Nat → Int32} {fi : Nat → Nat → Int32} {g f k hp hc ou r9 r10 : Int32} (z : zRtA 0 0 iv fi) (y : zyN iv fi) (b1 : 0 ≤ (iv 76).toInt ∧ (iv 76).toInt ≤ 48) (b2 : 0 ≤ (iv 77).toInt ∧ (iv 77).toInt ≤ 10) (b3 : 0 ≤ (iv 78).toInt ∧ (iv 78).toInt ≤ 16) (b4 : 0 ≤ (iv 79).toInt ∧ (iv 79).toInt ≤ 10) (hh : hp.toInt = -1) (ho : ou.toInt = 0) (h1 : r9 = F_X9_keys g f k (iv 49) (iv 50) (iv 76) (iv 77) (iv 78) (iv 79) (fi 78) (fi 82) (fi 83) (fi 84) (fi 85) (fi 87)) (k1 : r10 = (F_X10_keys g f k hp hc ou (fi 8) (fi 9) (fi 10) (fi 11) (fi 12) (fi 13) (fi 14) (fi 15) (fi 16) (fi 18)).1) : r9.toInt = r10.toInt := by
  have eh : hp = -1 := Int32.toInt_inj.mp (hh.trans (by decide))
  have eo : ou = 0 := Int32.toInt_inj.mp (ho.trans zN_0.symm)
  subst eh eo
  obtain ⟨g1, g2, g3, g4, g5, g6, g7, g8, g9, g10, g11, -, -⟩ := zRt.go z
  have hin := fun (d j : Nat) => zr_in z y b2 b4 hc (d := d) (k := j)
  have hnm : iv 50 = fi 18 1 := y.2.1
  unfold F_X9_keys F_X7_hasPassage at h1
  unfold F_X10_keys F_X10_isGate F_X10_isCourt F_X10_isHour at k1
  simp only [↓zL_p] at h1 k1
  try simp only [show Int32.toNatClampNeg 0 = 0 from by decide, show Int32.toNatClampNeg 1 = 1 from by decide, ← g9, ← g10, ← g11, zq_in (show 0 ≤ (iv 78).toInt ∧ (iv 78).toInt ≤ 1600 by omega), zq_in (show 0 ≤ (iv 76).toInt ∧ (iv 76).toInt ≤ 1600 by omega), zq_in (show 0 ≤ (iv 77).toInt ∧ (iv 77).toInt ≤ 1600 by omega)] at k1
  rw [show F_X7_hasGate g (iv 78) = F_X7_hasCourt g (iv 78) from rfl, show F_X7_hasHour k (iv 76) = F_X7_hasCourt k (iv 76) from rfl] at h1
  rcases zq_has g (iv 78) with e | ⟨e, e0, e1⟩
  · simp only [e, if_true] at h1 k1
    rw [h1, k1]
  rcases zq_has f (iv 77) with w | ⟨w, f0, f1⟩
  · simp only [e, w, z10, if_false, if_true] at h1 k1
    rw [h1, k1]
  rcases zq_has k (iv 76) with v | ⟨v, i0, i1⟩
  · simp only [e, w, v, z10, if_false, if_true] at h1 k1
    rw [h1, k1]
  simp only [e, w, v, z10, if_false] at h1 k1
  obtain ⟨a, ha, ea, ia⟩ := zc_nat (x := g) (m := 15) e0 (by omega) (by decide)
  obtain ⟨d, hd, ed, id'⟩ := zc_nat (x := f) (m := 9) f0 (by omega) (by decide)
  obtain ⟨b, hb, eb, ib⟩ := zc_nat (x := k) (m := 47) i0 (by omega) (by decide)
  subst ea eb ed
  rw [← zq_leadsTo g7 (g := a) (by omega) (by omega) (nI d)] at k1
  generalize eB : F_X7_beyond (nI a) (nI d) (fi 83) (fi 84) = t at h1 k1
  by_cases q : t = -1
  · rw [if_pos q] at h1 k1
    rw [h1, k1]
  · obtain ⟨t0, t1⟩ := zq_bey g7 (g := a) (by omega) (by omega) eB q
    obtain ⟨x, hx, ex, ix⟩ := zc_nat (x := t) (m := 9) t0 (by omega) (by decide)
    subst ex
    rw [if_neg q] at h1 k1
    rw [zq_free (by omega) (show x < 32 by omega)] at h1
    rw [zq_isIn g1 b2.2 (show x < 32 by omega) (show d < 10 by omega) (by omega)] at k1
    rw [hin x b (by omega) (by omega) (by omega), hnm] at h1
    rw [h1, k1]
    cases bt (fi 78 d) x
    · simp only [Bool.false_eq_true, if_false, if_true]
      exact congrArg Int32.toInt (Int32.and_comm _ _)
    · simp only [if_true, z10, if_false]
theorem zn_m1 (j : Nat) (h : j < 2 ^ 31) : nI j + Int32.ofInt (-1) = nI j - 1 := by
  apply Int32.toInt_inj.mp
  rw [zi_add (nI_toInt h) (show (Int32.ofInt (-1)).toInt = -1 from by decide) (by omega), zi_sub (nI_toInt h) zN_1 (by omega)]
  omega
theorem zn_s1 (j : Nat) (h : j + 1 < 2 ^ 31) : nI (j + 1) - 1 = nI j := by
  apply Int32.toInt_inj.mp
  rw [zi_sub (nI_toInt h) zN_1 (by omega), nI_toInt (show j < 2 ^ 31 by omega)]
  omega
theorem zr_empty {iv : Nat → Int32} {fi : Nat → Nat → Int32} {p hp hc ou r9 r10 : Int32} (z : zRtA 0 0 iv fi) (y : zyN iv fi) (b1 : 0 ≤ (iv 76).toInt ∧ (iv 76).toInt ≤ 48) (b2 : 0 ≤ (iv 77).toInt ∧ (iv 77).toInt ≤ 10) (b4 : 0 ≤ (iv 79).toInt ∧ (iv 79).toInt ≤ 10) (hh : hp.toInt = -1) (ho : ou.toInt = 0) (h1 : r9 = F_X9_empty p (iv 49) (iv 76) (iv 77) (iv 79) (fi 82) (fi 85) (fi 87)) (k1 : r10 = (F_X10_empty p hp hc ou (fi 8) (fi 9) (fi 10) (fi 13) (fi 14) (fi 15) (fi 16) (fi 18)).1) : r9.toInt = r10.toInt := by
  have eh : hp = -1 := Int32.toInt_inj.mp (hh.trans (by decide))
  have eo : ou = 0 := Int32.toInt_inj.mp (ho.trans zN_0.symm)
  subst eh eo
  obtain ⟨g1, g2, g3, g4, g5, g6, g7, g8, g9, g10, -, -, -⟩ := zRt.go z
  unfold F_X9_empty at h1
  unfold F_X10_empty F_X10_isCourt at k1
  simp only [↓zL_p] at h1 k1
  try simp only [show Int32.toNatClampNeg 0 = 0 from by decide, ← g9, ← g10, zq_in (show 0 ≤ (iv 77).toInt ∧ (iv 77).toInt ≤ 1600 by omega)] at k1
  rcases zq_has p (iv 77) with w | ⟨w, f0, f1⟩
  · simp only [w, if_true] at h1 k1
    rw [h1, k1]
  simp only [w, z10, if_false] at h1 k1
  obtain ⟨d, hd, ed, id'⟩ := zc_nat (x := p) (m := 9) f0 (by omega) (by decide)
  subst ed
  have hin := fun (j : Nat) => zr_in z y b2 b4 hc (d := d) (k := j) (by omega)
  have go : ∀ f m : Nat, m < f → (m : Int) ≤ (iv 76).toInt → L_X9_empty_1 (nI d) (iv 49) (iv 79) (fi 82) (fi 85) (fi 87) K_X9_empty_1_0 K_X9_empty_1_1 f (nI m) (nI m - 1) = (L_X10_empty_1 (nI d) (-1) hc 0 (fi 10) (fi 13) (fi 14) (fi 15) (fi 16) (fi 18) K_X10_empty_1_0 K_X10_empty_1_1 f (nI m)).1 := by
    intro f
    induction f with
    | zero => intro m h; omega
    | succ f ih =>
      intro m hf hm
      rw [L_X9_empty_1_s, L_X10_empty_1_s]
      unfold B_X9_empty_1 B_X10_empty_1
      simp only [↓zL_p]
      cases m with
      | zero =>
        rw [nI_0, if_pos (show (0 : Int32) - 1 < 0 by decide), if_pos (show (0 : Int32) ≤ 0 by decide)]
        rfl
      | succ j =>
        rw [zn_s1 j (by omega)]
        have e1 : ¬ nI j < 0 := fun q => by
          have := Int32.lt_iff_toInt_lt.mp q
          rw [zN_0, nI_toInt (show j < 2 ^ 31 by omega)] at this; omega
        have e2 : ¬ nI (j + 1) ≤ 0 := fun q => by
          have := Int32.le_iff_toInt_le.mp q
          rw [zN_0, nI_toInt (show j + 1 < 2 ^ 31 by omega)] at this; omega
        rw [if_neg e1, if_neg e2, hin j (by omega) (by omega)]
        by_cases q : F_X10_withinOf (nI d) (nI j) (-1) hc 0 (fi 10) (fi 13) (fi 14) (fi 15) (fi 16) (fi 18) = 0
        · rw [if_pos q, if_pos q, zn_m1 j (by omega), zn_m1 (j + 1) (by omega), zn_s1 j (by omega)]
          exact ih j (by omega) (by omega)
        · rw [if_neg q, if_neg q]
          rfl
  obtain ⟨n, hn, en, i9⟩ := zc_nat (x := iv 76) (m := 48) b1.1 b1.2 (by decide)
  rw [h1, k1]
  have := go 50 n (by omega) (by omega)
  rw [← en] at this
  exact congrArg Int32.toInt this
theorem zr_hollow {iv : Nat → Int32} {fi : Nat → Nat → Int32} {p hp hc ou r9 r10 : Int32} (z : zRtA 0 0 iv fi) (y : zyN iv fi) (b1 : 0 ≤ (iv 76).toInt ∧ (iv 76).toInt ≤ 48) (b2 : 0 ≤ (iv 77).toInt ∧ (iv 77).toInt ≤ 10) (b4 : 0 ≤ (iv 79).toInt ∧ (iv 79).toInt ≤ 10) (hh : hp.toInt = -1) (ho : ou.toInt = 0) (h1 : r9 = F_X9_hollow p (iv 49) (iv 76) (iv 77) (iv 79) (fi 82) (fi 85) (fi 87)) (k1 : r10 = (F_X10_hollow p hp hc ou (fi 8) (fi 9) (fi 10) (fi 13) (fi 14) (fi 15) (fi 16) (fi 18)).1) : r9.toInt = r10.toInt := by
  have eh : hp = -1 := Int32.toInt_inj.mp (hh.trans (by decide))
  have eo : ou = 0 := Int32.toInt_inj.mp (ho.trans zN_0.symm)
  subst eh eo
  obtain ⟨g1, g2, g3, g4, g5, g6, g7, g8, g9, g10, -, -, -⟩ := zRt.go z
  unfold F_X9_hollow at h1
  unfold F_X10_hollow F_X10_isCourt at k1
  simp only [↓zL_p] at h1 k1
  try simp only [show Int32.toNatClampNeg 0 = 0 from by decide, ← g10, zq_in (show 0 ≤ (iv 77).toInt ∧ (iv 77).toInt ≤ 1600 by omega)] at k1
  rcases zq_has p (iv 77) with w | ⟨w, f0, f1⟩
  · simp only [w, if_true] at h1 k1
    rw [h1, k1]
  simp only [w, z10, if_false] at h1 k1
  obtain ⟨d, hd, ed, id'⟩ := zc_nat (x := p) (m := 9) f0 (by omega) (by decide)
  subst ed
  have hin := fun (j : Nat) => zr_in z y b2 b4 hc (d := d) (k := j) (by omega)
  have go : ∀ (f m : Nat) (v : Int32), 48 - m < f → m ≤ 48 → L_X9_hollow_1 (iv 76) (nI d) (iv 49) (iv 79) (fi 82) (fi 85) (fi 87) K_X9_hollow_1_0 f v (nI m) = (L_X10_hollow_1 (fi 8) (nI d) (-1) hc 0 (fi 10) (fi 13) (fi 14) (fi 15) (fi 16) (fi 18) K_X10_hollow_1_0 f v (nI m)).1 := by
    intro f
    induction f with
    | zero => intro m v h; omega
    | succ f ih =>
      intro m v hf hm
      rw [L_X9_hollow_1_s, L_X10_hollow_1_s]
      unfold B_X9_hollow_1 B_X10_hollow_1
      simp only [↓zL_p]
      try simp only [show Int32.toNatClampNeg 0 = 0 from by decide, ← g9, zn_inc, show Int32.ofInt 1 = 1 from by decide]
      by_cases q : iv 76 ≤ nI m
      · rw [if_pos q, if_pos q]
        rfl
      · have hq : (m : Int) < (iv 76).toInt := by
          have := mt Int32.le_iff_toInt_le.mpr q
          rw [nI_toInt (show m < 2 ^ 31 by omega)] at this
          omega
        rw [if_neg q, if_neg q, hin m (by omega) (by omega)]
        by_cases q2 : F_X10_withinOf (nI d) (nI m) (-1) hc 0 (fi 10) (fi 13) (fi 14) (fi 15) (fi 16) (fi 18) = 0
        · rw [if_pos q2, if_pos q2]
          rw [nI_1]; exact ih (m + 1) _ (by omega) (by omega)
        · rw [if_neg q2, if_neg q2, Int32.add_zero]
          rw [nI_1]; exact ih (m + 1) _ (by omega) (by omega)
  rw [h1, k1]
  have := go 50 0 0 (by omega) (by omega)
  rw [nI_0] at this
  exact congrArg Int32.toInt this
theorem zr_keeper {iv : Nat → Int32} {fi : Nat → Nat → Int32} {p hp hc ou r9 r10 : Int32} (z : zRtA 0 0 iv fi) (y : zyN iv fi) (b1 : 0 ≤ (iv 76).toInt ∧ (iv 76).toInt ≤ 48) (b2 : 0 ≤ (iv 77).toInt ∧ (iv 77).toInt ≤ 10) (b4 : 0 ≤ (iv 79).toInt ∧ (iv 79).toInt ≤ 10) (hh : hp.toInt = -1) (ho : ou.toInt = 0) (h1 : r9 = F_X9_keeper p (iv 49) (iv 76) (iv 77) (iv 79) (fi 82) (fi 85) (fi 87)) (k1 : r10 = (F_X10_keeper p hp hc ou (fi 8) (fi 9) (fi 10) (fi 13) (fi 14) (fi 15) (fi 16) (fi 18)).1) : r9.toInt = r10.toInt := by
  have eh : hp = -1 := Int32.toInt_inj.mp (hh.trans (by decide))
  have eo : ou = 0 := Int32.toInt_inj.mp (ho.trans zN_0.symm)
  subst eh eo
  obtain ⟨g1, g2, g3, g4, g5, g6, g7, g8, g9, g10, -, -, -⟩ := zRt.go z
  unfold F_X9_keeper at h1
  unfold F_X10_keeper F_X10_isCourt at k1
  simp only [↓zL_p] at h1 k1
  try simp only [show Int32.toNatClampNeg 0 = 0 from by decide, ← g10, zq_in (show 0 ≤ (iv 77).toInt ∧ (iv 77).toInt ≤ 1600 by omega)] at k1
  rcases zq_has p (iv 77) with w | ⟨w, f0, f1⟩
  · simp only [w, if_true] at h1 k1
    rw [h1, k1]
  simp only [w, z10, if_false] at h1 k1
  obtain ⟨d, hd, ed, id'⟩ := zc_nat (x := p) (m := 9) f0 (by omega) (by decide)
  subst ed
  have hin := fun (j : Nat) => zr_in z y b2 b4 hc (d := d) (k := j) (by omega)
  have go2 : ∀ (x : Int32) (k9 : Int32 → Int32) (k10 : Int32 → Int32 × Int32) (f m : Nat) (v : Int32), 48 - m < f → m ≤ 48 → ∃ u : Int32, L_X9_keeper_2 (iv 76) (nI d) (iv 49) (iv 79) (fi 82) (fi 85) (fi 87) x k9 f v (nI m) = k9 u ∧ L_X10_keeper_2 (fi 8) (nI d) (-1) hc 0 (fi 10) (fi 13) (fi 14) (fi 15) (fi 16) (fi 18) x k10 f v (nI m) = k10 u := by
    intro x k9 k10 f
    induction f with
    | zero => intro m v h; omega
    | succ f ih =>
      intro m v hf hm
      rw [L_X9_keeper_2_s, L_X10_keeper_2_s]
      unfold B_X9_keeper_2 B_X10_keeper_2
      simp only [↓zL_p]
      try simp only [show Int32.toNatClampNeg 0 = 0 from by decide, ← g9, zn_inc, show Int32.ofInt 1 = 1 from by decide]
      by_cases q : iv 76 ≤ nI m
      · rw [if_pos q, if_pos q]
        exact ⟨v, rfl, rfl⟩
      · have hq : (m : Int) < (iv 76).toInt := by
          have := mt Int32.le_iff_toInt_le.mpr q
          rw [nI_toInt (show m < 2 ^ 31 by omega)] at this
          omega
        rw [if_neg q, if_neg q, hin m (by omega) (by omega)]
        by_cases q2 : F_X10_withinOf (nI d) (nI m) (-1) hc 0 (fi 10) (fi 13) (fi 14) (fi 15) (fi 16) (fi 18) = (1 : Int32) <<< (x &&& 31)
        · rw [if_pos q2, if_pos q2]
          rw [nI_1]; exact ih (m + 1) _ (by omega) (by omega)
        · rw [if_neg q2, if_neg q2, Int32.add_zero]
          rw [nI_1]; exact ih (m + 1) _ (by omega) (by omega)
  have go1 : ∀ (f m : Nat) (v w : Int32), 10 - m < f → m ≤ 10 → L_X9_keeper_1 (iv 79) (iv 76) (nI d) (iv 49) (fi 82) (fi 85) (fi 87) K_X9_keeper_1_0 f v w (nI m) = (L_X10_keeper_1 (fi 13) (fi 8) (nI d) (-1) hc 0 (fi 10) (fi 14) (fi 15) (fi 16) (fi 18) K_X10_keeper_1_0 f w v (nI m)).1 := by
    intro f
    induction f with
    | zero => intro m v w h; omega
    | succ f ih =>
      intro m v w hf hm
      rw [L_X9_keeper_1_s, L_X10_keeper_1_s]
      unfold B_X9_keeper_1 B_X10_keeper_1
      simp only [↓zL_p]
      try simp only [show Int32.toNatClampNeg 0 = 0 from by decide, ← g8]
      by_cases q : iv 79 ≤ nI m
      · rw [if_pos q, if_pos q]
        rfl
      · have hq : (m : Int) < (iv 79).toInt := by
          have := mt Int32.le_iff_toInt_le.mpr q
          rw [nI_toInt (show m < 2 ^ 31 by omega)] at this
          omega
        rw [if_neg q, if_neg q]
        obtain ⟨u, e1, e2⟩ := go2 (nI m) (K_X9_keeper_2_0 v (nI m) (L_X9_keeper_1 (iv 79) (iv 76) (nI d) (iv 49) (fi 82) (fi 85) (fi 87) K_X9_keeper_1_0 f) w) (K_X10_keeper_2_0 v (nI m) (L_X10_keeper_1 (fi 13) (fi 8) (nI d) (-1) hc 0 (fi 10) (fi 14) (fi 15) (fi 16) (fi 18) K_X10_keeper_1_0 f) w) 50 0 0 (by omega) (by omega)
        rw [nI_0] at e1 e2
        rw [e1, e2]
        unfold K_X9_keeper_2_0 K_X10_keeper_2_0
        simp only [↓zL_p, zn_inc]
        by_cases q2 : u ≤ v
        · have q3 : ¬ v < u := fun h => by
            have h1 := Int32.lt_iff_toInt_lt.mp h
            have h2 := Int32.le_iff_toInt_le.mp q2
            omega
          rw [if_pos q2, if_neg q3]
          exact ih (m + 1) _ _ (by omega) (by omega)
        · have q3 : v < u := Int32.lt_iff_toInt_lt.mpr (by
            have h2 := mt Int32.le_iff_toInt_le.mpr q2
            omega)
          rw [if_neg q2, if_pos q3]
          exact ih (m + 1) _ _ (by omega) (by omega)
  rw [h1, k1]
  have := go1 12 0 0 (-1) (by omega) (by omega)
  rw [nI_0] at this
  exact congrArg Int32.toInt this
