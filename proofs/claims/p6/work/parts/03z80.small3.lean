set_option linter.all false
/-! think, likely, draw -/
theorem zq_think {iv : Nat → Int32} {fi : Nat → Nat → Int32} (z : zRtA 0 0 iv fi) (y : zyN iv fi) (b2 : 0 ≤ (iv 77).toInt ∧ (iv 77).toInt ≤ 10) (b4 : 0 ≤ (iv 79).toInt ∧ (iv 79).toInt ≤ 10) (hr0 : ∀ j : Nat, 0 ≤ (fi 15 j).toInt ∧ (fi 15 j).toInt ≤ 99 ∧ (j % 2 = 1 → (fi 15 j).toInt ≤ 9)) (hc : Int32) {a d b : Nat} (ha : (a : Int) < (iv 79).toInt) (hd : d < 32) (hb : (b : Int) < (iv 76).toInt) (hb48 : b < 48) : F_X3_thought (nI a) (nI d) (nI b) (iv 51) (iv 52) (iv 82) (fi 82) (fi 85) (fi 86) (fi 87) = F_X10_thinkBy (nI a) (fi 19 a) (nI d) (nI b) (-1) hc (fi 10) (fi 14) (fi 15) (fi 16) ∧ 0 ≤ (F_X3_thought (nI a) (nI d) (nI b) (iv 51) (iv 52) (iv 82) (fi 82) (fi 85) (fi 86) (fi 87)).toInt := by
  obtain ⟨g1, g2, g3, g4, g5, g6, -, g8, g9, g10, -, -, -⟩ := zRt.go z
  have y0 : zyP 0 (iv 49) (iv 50) (iv 51) (iv 52) (fi 13) (fi 18) (fi 19) := y
  have a32 : a < 32 := by omega
  have eT := zq_isW (hc := hc) g1 b2.2 g2 g3 g4 g5 g6 hd ha (by omega) hb hb48 0
  have eG := zq_isW (hc := hc) g1 b2.2 g2 g3 g4 g5 g6 hd ha (by omega) hb hb48 ((1 : Int32) <<< (nI a &&& 31))
  have eN := zq_isW (hc := hc) g1 b2.2 g2 g3 g4 g5 g6 hd ha (by omega) hb hb48 (iv 52)
  rw [b_0, if_neg (show ¬ false = true by decide)] at eT
  rw [zb_sh a32 a32, decide_eq_true (show a = a from rfl), if_pos (show true = true from rfl)] at eG
  have hA := (g6.1 a ha).2.2.1
  have hS := (g6.1 a ha).1
  rw [show 20 * 0 + 2 * a = 2 * a by omega] at hA hS
  have hK := y0.2.2.1 a (by omega)
  rw [show 10 * 0 + a = a by omega] at hK
  have e2 : (2 : Int32) * nI a = nI (2 * a) := by rw [show (2 : Int32) = nI 2 from by decide, pk_mul]
  have r0 := hr0 (2 * a)
  have hU : F_X9_has ((iv 82) &&& ((iv 51) ^^^ (-1))) (nI a) = if (bt (iv 82) a && !bt (iv 51) a) then 1 else 0 := by
    rw [zb_has _ a32, b_and, b_xor, b_m1 a a32, Bool.xor_true]
  unfold F_X3_thought F_X3_unsure F_X10_thinkBy F_X10_straysBy
  simp only [↓zL_p, hU, e2, nI_clamp (show a < 2 ^ 31 by omega), nI_clamp (show 2 * a < 2 ^ 31 by omega), eT, eG, hS]
  obtain ⟨T, hT⟩ : ∃ T, T = F_X9_has (F_X7_showsOf (nI a) (nI b) 0 (fi 82) (fi 85) (fi 87)) (nI d) := ⟨_, rfl⟩
  obtain ⟨G, hG⟩ : ∃ G, G = F_X9_has (F_X7_showsOf (nI a) (nI b) ((1 : Int32) <<< (nI a &&& 31)) (fi 82) (fi 85) (fi 87)) (nI d) := ⟨_, rfl⟩
  have hN : F_X9_has (F_X7_showsOf (nI a) (nI b) (iv 52) (fi 82) (fi 85) (fi 87)) (nI d) = if bt (iv 52) a then G else T := by
    rw [← eN]
    cases bt (iv 52) a
    · simp only [Bool.false_eq_true, if_false, eT, hT]
    · simp only [if_true, eG, hG]
  simp only [hN, ← hT, ← hG]
  clear hN hT hG eN eT eG
  obtain ⟨n, hn⟩ : ∃ n, n = fi 15 (2 * a) := ⟨_, rfl⟩
  rw [← hn] at hA hS r0 ⊢
  have m1 : (100 - n).toInt = 100 - n.toInt := zi_sub (show Int32.toInt 100 = 100 from by decide) rfl (by omega)
  rcases hK with ⟨q1, q2, q3⟩ | ⟨q1, q2, q3⟩ | ⟨q1, q2, q3⟩
  · rw [q1, q2, q3]
    by_cases w : n = 0
    · have hA' : bt (iv 82) a = false := by rw [hA, w, zN_0]; rfl
      simp only [hA', w, Bool.false_and, Bool.false_eq_true, if_false, if_true, zn01, zn02, show (0 : Int32) ≤ 0 from by decide, show (0 : Int32) + (100 - 0) = 100 from by decide]
      by_cases tT : T = 0 <;> by_cases tG : G = 0 <;> simp only [tT, tG, if_true, if_false] <;> decide
    · have w' : ¬ n.toInt = 0 := fun q => w (Int32.toInt_inj.mp (q.trans zN_0.symm))
      have hA' : bt (iv 82) a = true := by rw [hA, decide_eq_true (by omega)]
      have wl : ¬ n ≤ 0 := fun q => by
        have := Int32.le_iff_toInt_le.mp q
        rw [zN_0] at this; omega
      simp only [hA', Bool.not_false, Bool.and_true, if_true, z10, if_false, zn01, zn02, wl]
      by_cases tT : T = 0 <;> by_cases tG : G = 0 <;> simp only [tT, tG, if_true, if_false, Int32.add_zero, Int32.zero_add]
      · exact ⟨trivial, by decide⟩
      · exact ⟨trivial, by omega⟩
      · exact ⟨trivial, by omega⟩
      · exact ⟨Int32.add_comm _ _, by rw [zi_add m1 rfl (by omega)]; omega⟩
  · rw [q1, q2, q3]
    simp only [Bool.not_true, Bool.and_false, Bool.false_eq_true, if_false, if_true, show (0 : Int32) ≤ 0 from by decide, show (0 : Int32) + (100 - 0) = 100 from by decide]
    by_cases tT : T = 0 <;> by_cases tG : G = 0 <;> simp only [tT, tG, if_true, if_false] <;> decide
  · rw [q1, q2, q3]
    simp only [Bool.not_true, Bool.and_false, Bool.false_eq_true, if_false, if_true, zn21, show ¬ (100 : Int32) ≤ 0 from by decide, show (100 : Int32) - 100 = 0 from by decide, Int32.add_zero]
    by_cases tT : T = 0 <;> by_cases tG : G = 0 <;> simp only [tT, tG, if_true, if_false] <;> decide
theorem zr_think {iv : Nat → Int32} {fi : Nat → Nat → Int32} {p c k hp hc r9 r10 : Int32} (z : zRtA 0 0 iv fi) (y : zyN iv fi) (b1 : 0 ≤ (iv 76).toInt ∧ (iv 76).toInt ≤ 48) (b2 : 0 ≤ (iv 77).toInt ∧ (iv 77).toInt ≤ 10) (b4 : 0 ≤ (iv 79).toInt ∧ (iv 79).toInt ≤ 10) (hh : hp.toInt = -1) (hr0 : ∀ j : Nat, 0 ≤ (fi 15 j).toInt ∧ (fi 15 j).toInt ≤ 99 ∧ (j % 2 = 1 → (fi 15 j).toInt ≤ 9)) (h1 : r9 = F_X9_think p c k (iv 51) (iv 52) (iv 76) (iv 77) (iv 79) (iv 82) (fi 82) (fi 85) (fi 86) (fi 87)) (k1 : r10 = (F_X10_think p c k hp hc (fi 8) (fi 9) (fi 10) (fi 13) (fi 14) (fi 15) (fi 16) (fi 19)).1) : r9.toInt = r10.toInt := by
  have eh : hp = -1 := Int32.toInt_inj.mp (hh.trans (by decide))
  subst eh
  obtain ⟨-, -, -, -, -, -, -, g8, g9, g10, -, -, -⟩ := zRt.go z
  unfold F_X9_think at h1
  unfold F_X10_think F_X10_isPerson F_X10_isCourt F_X10_isHour at k1
  simp only [↓zL_p] at h1 k1
  try simp only [show Int32.toNatClampNeg 0 = 0 from by decide, ← g8, ← g9, ← g10, zq_in (show 0 ≤ (iv 79).toInt ∧ (iv 79).toInt ≤ 1600 by omega), zq_in (show 0 ≤ (iv 76).toInt ∧ (iv 76).toInt ≤ 1600 by omega), zq_in (show 0 ≤ (iv 77).toInt ∧ (iv 77).toInt ≤ 1600 by omega)] at k1
  rw [show F_X7_hasPerson p (iv 79) = F_X7_hasCourt p (iv 79) from rfl, show F_X7_hasHour k (iv 76) = F_X7_hasCourt k (iv 76) from rfl] at h1
  rcases zq_has p (iv 79) with e | ⟨e, e0, e1⟩
  · simp only [e, if_true] at h1 k1
    rw [h1, k1]
  rcases zq_has c (iv 77) with f | ⟨f, f0, f1⟩
  · simp only [e, f, z10, if_false, if_true] at h1 k1
    rw [h1, k1]
  rcases zq_has k (iv 76) with g | ⟨g, i0, i1⟩
  · simp only [e, f, g, z10, if_false, if_true] at h1 k1
    rw [h1, k1]
  simp only [e, f, g, z10, if_false] at h1 k1
  obtain ⟨a, ha, ea, ia⟩ := zc_nat (x := p) (m := 9) e0 (by omega) (by decide)
  obtain ⟨d, hd, ed, id'⟩ := zc_nat (x := c) (m := 9) f0 (by omega) (by decide)
  obtain ⟨b, hb, eb, ib⟩ := zc_nat (x := k) (m := 47) i0 (by omega) (by decide)
  subst ea eb ed
  rw [h1, k1, nI_clamp (show a < 2 ^ 31 by omega)]
  exact congrArg Int32.toInt (zq_think z y b2 b4 hr0 hc (by omega) (by omega) (by omega) (by omega)).1
theorem zr_likely {iv : Nat → Int32} {fi : Nat → Nat → Int32} {g f k w hp hc r9 r10 : Int32} (z : zRtA 0 0 iv fi) (y : zyN iv fi) (b1 : 0 ≤ (iv 76).toInt ∧ (iv 76).toInt ≤ 48) (b2 : 0 ≤ (iv 77).toInt ∧ (iv 77).toInt ≤ 10) (b3 : 0 ≤ (iv 78).toInt ∧ (iv 78).toInt ≤ 16) (b4 : 0 ≤ (iv 79).toInt ∧ (iv 79).toInt ≤ 10) (hh : hp.toInt = -1) (hr0 : ∀ j : Nat, 0 ≤ (fi 15 j).toInt ∧ (fi 15 j).toInt ≤ 99 ∧ (j % 2 = 1 → (fi 15 j).toInt ≤ 9)) (h1 : r9 = F_X9_likely g f k w (iv 50) (iv 51) (iv 52) (iv 76) (iv 77) (iv 78) (iv 79) (iv 82) (fi 78) (fi 82) (fi 83) (fi 84) (fi 85) (fi 86) (fi 87)) (k1 : r10 = (F_X10_likely g f k w hp hc (fi 8) (fi 9) (fi 10) (fi 11) (fi 12) (fi 13) (fi 14) (fi 15) (fi 16) (fi 18) (fi 19)).1) : r9.toInt = r10.toInt := by
  have eh : hp = -1 := Int32.toInt_inj.mp (hh.trans (by decide))
  subst eh
  obtain ⟨g1, g2, g3, g4, g5, g6, g7, g8, g9, g10, g11, -, -⟩ := zRt.go z
  have hnm : iv 50 = fi 18 1 := y.2.1
  have hj := zJin (x := w) (lo := 0) (hi := 1)
  rw [show (0 : Int32).toInt64 = 0 from by decide, show (1 : Int32).toInt64 = 1 from by decide, zN_0, zN_1] at hj
  unfold F_X9_likely F_X7_hasPassage at h1
  unfold F_X10_likely F_X10_isGate F_X10_isCourt F_X10_isHour at k1
  simp only [↓zL_p] at h1 k1
  try simp only [show Int32.toNatClampNeg 0 = 0 from by decide, ← g9, ← g10, ← g11, hj, zq_in (show 0 ≤ (iv 78).toInt ∧ (iv 78).toInt ≤ 1600 by omega), zq_in (show 0 ≤ (iv 76).toInt ∧ (iv 76).toInt ≤ 1600 by omega), zq_in (show 0 ≤ (iv 77).toInt ∧ (iv 77).toInt ≤ 1600 by omega)] at k1
  rw [show F_X7_hasGate g (iv 78) = F_X7_hasCourt g (iv 78) from rfl, show F_X7_hasHour k (iv 76) = F_X7_hasCourt k (iv 76) from rfl] at h1
  rcases zq_has g (iv 78) with e | ⟨e, e0, e1⟩
  · simp only [e, if_true] at h1 k1
    rw [h1, k1]
  rcases zq_has f (iv 77) with v | ⟨v, f0, f1⟩
  · simp only [e, v, z10, if_false, if_true] at h1 k1
    rw [h1, k1]
  rcases zq_has k (iv 76) with u | ⟨u, i0, i1⟩
  · simp only [e, v, u, z10, if_false, if_true] at h1 k1
    rw [h1, k1]
  simp only [e, v, u, z10, if_false] at h1 k1
  by_cases q0 : w < 0
  · have q := Int32.lt_iff_toInt_lt.mp q0
    rw [zN_0] at q
    rw [if_pos q0] at h1
    rw [if_neg (show ¬ (0 ≤ w.toInt ∧ w.toInt ≤ 1) by omega), if_pos (show (0 : Int32) = 0 from rfl)] at k1
    rw [h1, k1]
  have q := mt Int32.lt_iff_toInt_lt.mpr q0
  rw [zN_0] at q
  rw [if_neg q0] at h1
  by_cases q1n : ¬ w ≤ 1
  · have q' := mt Int32.le_iff_toInt_le.mpr q1n
    rw [zN_1] at q'
    rw [if_neg q1n] at h1
    rw [if_neg (show ¬ (0 ≤ w.toInt ∧ w.toInt ≤ 1) by omega), if_pos (show (0 : Int32) = 0 from rfl)] at k1
    rw [h1, k1]
  have q1 := Decidable.not_not.mp q1n
  have q' := Int32.le_iff_toInt_le.mp q1
  rw [zN_1] at q'
  rw [if_pos q1] at h1
  rw [if_pos (show 0 ≤ w.toInt ∧ w.toInt ≤ 1 by omega), if_neg z10] at k1
  obtain ⟨a, ha, ea, ia⟩ := zc_nat (x := g) (m := 15) e0 (by omega) (by decide)
  obtain ⟨d, hd, ed, id'⟩ := zc_nat (x := f) (m := 9) f0 (by omega) (by decide)
  obtain ⟨b, hb, eb, ib⟩ := zc_nat (x := k) (m := 47) i0 (by omega) (by decide)
  subst ea eb ed
  rw [← zq_leadsTo g7 (g := a) (by omega) (by omega) (nI d)] at k1
  generalize eB : F_X7_beyond (nI a) (nI d) (fi 83) (fi 84) = t at h1 k1
  by_cases q9 : t = -1
  · rw [if_pos q9] at h1 k1
    rw [h1, k1]
  obtain ⟨t0, t1⟩ := zq_bey g7 (g := a) (by omega) (by omega) eB q9
  obtain ⟨x, hx, ex, ix⟩ := zc_nat (x := t) (m := 9) t0 (by omega) (by decide)
  subst ex
  rw [if_neg q9] at h1 k1
  rw [zq_free (by omega) (show x < 32 by omega)] at h1
  rw [zq_isIn g1 b2.2 (show x < 32 by omega) (show d < 10 by omega) (by omega)] at k1
  by_cases hf : bt (fi 78 d) x = true
  · rw [if_pos hf, if_neg z10] at h1 k1
    rw [h1, k1]
  rw [if_neg hf, if_pos (show (0 : Int32) = 0 from rfl)] at h1 k1
  have go : ∀ (fu m : Nat) (v6 v7 o7 : Int32), 10 - m < fu → m ≤ 10 → ((v6 = -1 ∧ v7 = -1) ∨ (¬ v6 = -1 ∧ o7 = v7)) → L_X9_likely_1 (iv 79) (iv 50) (nI x) (nI b) (iv 51) (iv 52) (iv 82) (fi 82) (fi 85) (fi 86) (fi 87) (K_X9_likely_1_0 w) fu v7 v6 (nI m) = (L_X10_likely_1 (fi 13) (fi 18) (fi 19) (nI x) (nI b) (-1) hc (fi 10) (fi 14) (fi 15) (fi 16) (K_X10_likely_1_0 w) fu v6 o7 (nI m)).1 := by
    intro fu
    induction fu with
    | zero => intro m v6 v7 o7 h; omega
    | succ fu ih =>
      intro m v6 v7 o7 hf hm hv
      rw [L_X9_likely_1_s, L_X10_likely_1_s]
      unfold B_X9_likely_1 B_X10_likely_1
      simp only [↓zL_p]
      try simp only [show Int32.toNatClampNeg 0 = 0 from by decide, show Int32.toNatClampNeg 1 = 1 from by decide, ← g8, ← hnm, zn_inc]
      by_cases q : iv 79 ≤ nI m
      · rw [if_pos q, if_pos q]
        unfold K_X9_likely_1_0 K_X10_likely_1_0
        rcases hv with ⟨r1, r2⟩ | ⟨r1, r2⟩
        · rw [r1, r2, if_pos (show (-1 : Int32) = -1 from rfl)]
          split <;> rfl
        · rw [if_neg r1, r2]
          split <;> rfl
      · have hq : (m : Int) < (iv 79).toInt := by
          have := mt Int32.le_iff_toInt_le.mpr q
          rw [nI_toInt (show m < 2 ^ 31 by omega)] at this
          omega
        have m32 : m < 32 := by omega
        obtain ⟨t1, t2⟩ := zq_think z y b2 b4 hr0 hc hq (show x < 32 by omega) (show (b : Int) < (iv 76).toInt by omega) (by omega)
        rw [if_neg q, if_neg q, zb_has _ m32, zb_get _ m32, nI_clamp (show m < 2 ^ 31 by omega), ← t1]
        generalize F_X3_thought (nI m) (nI x) (nI b) (iv 51) (iv 52) (iv 82) (fi 82) (fi 85) (fi 86) (fi 87) = th at t2 ⊢
        cases bt (iv 50) m
        · simp only [Bool.false_eq_true, if_false, if_true]
          exact ih (m + 1) _ _ _ (by omega) (by omega) hv
        · simp only [if_true, z10, if_false]
          have nm : ¬ nI m = -1 := zq_n1 (by omega)
          rcases hv with ⟨r1, r2⟩ | ⟨r1, r2⟩
          · have c1 : ¬ th ≤ v7 := fun h => by
              have := Int32.le_iff_toInt_le.mp h
              rw [r2, show Int32.toInt (-1) = -1 from by decide] at this; omega
            rw [if_neg c1, if_pos r1]
            exact ih (m + 1) _ _ _ (by omega) (by omega) (Or.inr ⟨nm, rfl⟩)
          · rw [if_neg r1, r2]
            by_cases c1 : th ≤ v7
            · have c2 : ¬ v7 < th := fun h => by
                have h1 := Int32.lt_iff_toInt_lt.mp h
                have h2 := Int32.le_iff_toInt_le.mp c1
                omega
              rw [if_pos c1, if_neg c2]
              exact ih (m + 1) _ _ _ (by omega) (by omega) (Or.inr ⟨r1, rfl⟩)
            · have c2 : v7 < th := Int32.lt_iff_toInt_lt.mpr (by
                have h2 := mt Int32.le_iff_toInt_le.mpr c1
                omega)
              rw [if_neg c1, if_pos c2]
              exact ih (m + 1) _ _ _ (by omega) (by omega) (Or.inr ⟨nm, rfl⟩)
  rw [h1, k1]
  have := go 12 0 (-1) (-1) 0 (by omega) (by omega) (Or.inl ⟨rfl, rfl⟩)
  rw [nI_0] at this
  exact congrArg Int32.toInt this
theorem zq_rem (x : Int64) : -100 < (x - x / 100 * 100).toInt ∧ (x - x / 100 * 100).toInt < 100 := by
  have h100 : (100 : Int64).toInt = 100 := by decide
  have lo : -9223372036854775808 ≤ x.toInt := Int64.le_toInt x
  have hi : x.toInt ≤ 9223372036854775807 := by have := Int64.toInt_lt x; omega
  have a1 := Int.mul_tdiv_add_tmod x.toInt 100
  have a2 := Int.tmod_lt_of_pos x.toInt (show (0 : Int) < 100 by decide)
  have a3 := Int.lt_tmod_of_pos x.toInt (show (0 : Int) < 100 by decide)
  have a4 : 0 ≤ x.toInt → 0 ≤ x.toInt.tdiv 100 := fun h => Int.tdiv_nonneg h (by decide)
  have a5 : x.toInt ≤ 0 → x.toInt.tdiv 100 ≤ 0 := fun h => by
    have w := Int.tdiv_nonneg (a := -x.toInt) (b := 100) (by omega) (by decide)
    rw [Int.neg_tdiv] at w; omega
  have a6 : 0 ≤ x.toInt → 0 ≤ x.toInt.tmod 100 := fun h => Int.tmod_nonneg 100 h
  have a7 : x.toInt ≤ 0 → x.toInt.tmod 100 ≤ 0 := fun h => by
    have w := Int.tmod_nonneg (a := -x.toInt) 100 (by omega)
    rw [Int.neg_tmod] at w; omega
  have d1 : (x / 100).toInt = x.toInt.tdiv 100 := by
    rw [Int64.toInt_div, h100]
    exact zi_bmL (by omega)
  generalize x.toInt.tdiv 100 = t at a1 a4 a5 d1
  generalize x.toInt.tmod 100 = m at a1 a2 a3 a6 a7
  have d2 : (x / 100 * 100).toInt = t * 100 := zi_mulL d1 h100 (by omega)
  have d3 : (x - x / 100 * 100).toInt = x.toInt - t * 100 := zi_subL rfl d2 (by omega)
  rw [d3]
  omega
theorem zr_draw {iv : Nat → Int32} {fi : Nat → Nat → Int32} {p r9 r10 : Int32} {x0 : Int64} (z : zRtA 0 0 iv fi) (b1 : 0 ≤ (iv 76).toInt ∧ (iv 76).toInt ≤ 48) (b4 : 0 ≤ (iv 79).toInt ∧ (iv 79).toInt ≤ 10) (hr0 : ∀ j : Nat, 0 ≤ (fi 15 j).toInt ∧ (fi 15 j).toInt ≤ 99 ∧ (j % 2 = 1 → (fi 15 j).toInt ≤ 9)) (h1 : r9 = F_X9_draw p (iv 76) (iv 79) (iv 82) (fi 86)) (k1 : r10 = (F_X10_draw p x0 (fi 8) (fi 13) (fi 15)).1) : r9.toInt = r10.toInt := by
  obtain ⟨-, -, -, -, -, g6, -, g8, g9, -, -, -, -⟩ := zRt.go z
  have hj := zJin (x := p) (lo := 0) (hi := 2000000000)
  have t9 : Int32.toInt 2000000000 = 2000000000 := by decide
  rw [show (0 : Int32).toInt64 = 0 from by decide, show (2000000000 : Int32).toInt64 = 2000000000 from by decide, zN_0, t9] at hj
  unfold F_X9_draw at h1
  unfold F_X10_draw F_X10_isSeed at k1
  simp only [↓zL_p] at h1 k1
  try simp only [show Int32.toNatClampNeg 0 = 0 from by decide, ← g9, hj] at k1
  by_cases q0 : p < 0
  · have q := Int32.lt_iff_toInt_lt.mp q0
    rw [zN_0] at q
    rw [if_pos q0] at h1
    rw [if_neg (show ¬ (0 ≤ p.toInt ∧ p.toInt ≤ 2000000000) by omega), if_pos (show (0 : Int32) = 0 from rfl)] at k1
    rw [h1, k1]
  have q := mt Int32.lt_iff_toInt_lt.mpr q0
  rw [zN_0] at q
  rw [if_neg q0] at h1
  by_cases q1 : 2000000000 < p
  · have q' := Int32.lt_iff_toInt_lt.mp q1
    rw [t9] at q'
    rw [if_pos q1] at h1
    rw [if_neg (show ¬ (0 ≤ p.toInt ∧ p.toInt ≤ 2000000000) by omega), if_pos (show (0 : Int32) = 0 from rfl)] at k1
    rw [h1, k1]
  have q' := mt Int32.lt_iff_toInt_lt.mpr q1
  rw [t9] at q'
  rw [if_neg q1] at h1
  rw [if_pos (show 0 ≤ p.toInt ∧ p.toInt ≤ 2000000000 by omega), if_neg z10] at k1
  by_cases q2 : iv 76 = 0
  · rw [if_pos q2] at h1
    rw [if_pos (show iv 76 ≤ 0 by rw [q2]; decide)] at k1
    rw [h1, k1]
  have n2 : ¬ iv 76 ≤ 0 := fun h => by
    have := Int32.le_iff_toInt_le.mp h
    rw [zN_0] at this
    exact q2 (Int32.toInt_inj.mp ((show (iv 76).toInt = 0 by omega).trans zN_0.symm))
  rw [if_neg q2] at h1
  rw [if_neg n2] at k1
  have go : ∀ (f m : Nat) (x : Int64) (v : Int32), 10 - m < f → m ≤ 10 → L_X7_drawn_1 (iv 79) (iv 82) (fi 86) K_X7_drawn_1_0 f x v (nI m) = (L_X10_draws_1 (fi 13) (fi 15) K_X10_draws_1_0 f v (nI m) x).1 := by
    intro f
    induction f with
    | zero => intro m x v h; omega
    | succ f ih =>
      intro m x v hf hm
      rw [L_X7_drawn_1_s, L_X10_draws_1_s]
      unfold B_X7_drawn_1 B_X10_draws_1 F_X10_drawn
      simp only [↓zL_p]
      try simp only [show Int32.toNatClampNeg 0 = 0 from by decide, ← g8, zn_inc]
      by_cases w : iv 79 ≤ nI m
      · rw [if_pos w, if_pos w]
        rfl
      · have hq : (m : Int) < (iv 79).toInt := by
          have := mt Int32.le_iff_toInt_le.mpr w
          rw [nI_toInt (show m < 2 ^ 31 by omega)] at this
          omega
        have m32 : m < 32 := by omega
        obtain ⟨s1, -, s3, -, -⟩ := g6.1 m hq
        rw [show 20 * 0 + 2 * m = 2 * m by omega] at s1 s3
        have e2 : (2 : Int32) * nI m = nI (2 * m) := by rw [show (2 : Int32) = nI 2 from by decide, pk_mul]
        have r0 := hr0 (2 * m)
        rw [if_neg w, if_neg w, zb_has _ m32, e2, nI_clamp (show m < 2 ^ 31 by omega), nI_clamp (show 2 * m < 2 ^ 31 by omega), s1]
        generalize fi 15 (2 * m) = n at s1 s3 r0 ⊢
        by_cases c : n = 0
        · rw [c, zN_0] at s3
          rw [show bt (iv 82) m = false from s3.trans rfl, if_pos c]
          simp only [Bool.false_eq_true, if_false, if_true]
          exact ih (m + 1) _ _ (by omega) (by omega)
        · have c' : ¬ n.toInt = 0 := fun h => c (Int32.toInt_inj.mp (h.trans zN_0.symm))
          rw [decide_eq_true (by omega)] at s3
          rw [s3, if_neg c]
          simp only [if_true, z10, if_false]
          generalize (1103515245 * x + 12345 - (1103515245 * x + 12345) / 2147483648 * 2147483648) = x1
          have rm := zq_rem (x1 / 65536)
          generalize (x1 / 65536 - x1 / 65536 / 100 * 100) = x2 at rm ⊢
          have t2 : x2.toInt32.toInt = x2.toInt := zi_l2i rfl (by omega)
          by_cases d : 0 ≤ lg_cmp x2 n.toInt64
          · have d1 := zl_ge rfl (z_l64 n) d
            have d2 : n ≤ x2.toInt32 := Int32.le_iff_toInt_le.mpr (by omega)
            rw [if_pos d, if_pos d2, show v ||| 0 = v from by apply b_ext; intro i hi; rw [b_or, b_0, Bool.or_false]]
            exact ih (m + 1) _ _ (by omega) (by omega)
          · have d1 := zl_nge rfl (z_l64 n) d
            have d2 : ¬ n ≤ x2.toInt32 := fun h => by
              have := Int32.le_iff_toInt_le.mp h
              omega
            rw [if_neg d, if_neg d2]
            exact ih (m + 1) _ _ (by omega) (by omega)
  rw [h1, k1]
  have := go 12 0 p.toInt64 0 (by omega) (by omega)
  rw [nI_0] at this
  exact congrArg Int32.toInt this
