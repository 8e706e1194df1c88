set_option linter.all false
/-! what the readers' small steps are -/
theorem zJin {x lo hi : Int32} : F_X10_in x.toInt64 lo.toInt64 hi.toInt64 = if lo.toInt ≤ x.toInt ∧ x.toInt ≤ hi.toInt then 1 else 0 := by
  unfold F_X10_in
  by_cases e1 : lg_cmp x.toInt64 lo.toInt64 < 0
  · have h := zl_lt (z_l64 x) (z_l64 lo) e1
    rw [if_pos e1, if_neg (by omega)]
  · have h := zl_nlt (z_l64 x) (z_l64 lo) e1
    rw [if_neg e1]
    by_cases e2 : 0 < lg_cmp x.toInt64 hi.toInt64
    · have h2 := zl_gt (z_l64 x) (z_l64 hi) e2
      rw [if_pos e2, if_neg (by omega)]
    · have h2 := zl_ngt (z_l64 x) (z_l64 hi) e2
      rw [if_neg e2, if_pos (by omega)]
/-- one step on -/
def zAd9 (t a : Int32) : Int32 := if t ≤ a then a else a + 1
theorem cEW {fa pl t a : Int32} {K S E tx : Nat → Int32} {wi : Nat} : F_X5_expectWord fa pl t a K S E tx wi = if fa = 0 then (if F_X5_isWord a K S E tx wi = 0 then (1, S a.toNatClampNeg, a) else (0, pl, zAd9 t a)) else (fa, pl, a) := by
  unfold F_X5_expectWord F_X5_blame F_X5_advance zAd9
  simp only [zL]
  by_cases e1 : fa = 0
  · subst e1
    by_cases e2 : F_X5_isWord a K S E tx wi = 0
    · simp only [if_pos e2, if_true, if_false]; rfl
    · simp only [if_neg e2, if_true, if_false]
  · by_cases e2 : F_X5_isWord a K S E tx wi = 0
    · simp only [if_pos e2, if_neg e1]
    · simp only [if_neg e2, if_neg e1]
theorem cEN {lo hi fa pl t a : Int32} {K S V : Nat → Int32} : F_X5_expectNumber lo hi fa pl t a K S V = if fa = 0 then (if K a.toNatClampNeg = 2 then (if V a.toNatClampNeg < lo then (0, 2, S a.toNatClampNeg, a) else if V a.toNatClampNeg ≤ hi then (V a.toNatClampNeg, 0, pl, zAd9 t a) else (0, 2, S a.toNatClampNeg, a)) else (0, 1, S a.toNatClampNeg, a)) else (0, fa, pl, a) := by
  unfold F_X5_expectNumber F_X5_blame F_X5_advance zAd9
  simp only [zL]
  by_cases e1 : fa = 0
  · subst e1
    by_cases e2 : K a.toNatClampNeg = 2
    · simp only [if_pos e2]
      by_cases e3 : V a.toNatClampNeg < lo
      · simp only [if_pos e3]; rfl
      · simp only [if_neg e3]
        by_cases e4 : V a.toNatClampNeg ≤ hi
        · simp only [if_pos e4]; rfl
        · simp only [if_neg e4]; rfl
    · simp only [if_neg e2]; rfl
  · by_cases e2 : K a.toNatClampNeg = 2
    · simp only [if_pos e2, if_neg e1]
      by_cases e3 : V a.toNatClampNeg < lo
      · simp only [if_pos e3]
      · simp only [if_neg e3]
        by_cases e4 : V a.toNatClampNeg ≤ hi
        · simp only [if_pos e4]
        · simp only [if_neg e4]
    · simp only [if_neg e2, if_neg e1]
theorem rAs {c wd : Int64} {n at_ tk rp vl bad bp : Int32} {tx : Nat → Int32} : F_X10_asks c n at_ tk rp vl wd bad bp tx = if bad = 0 then (if tk = 1 ∧ wd = c then ((F_X10_next n at_ tx).1, (F_X10_next n at_ tx).2.1, (F_X10_next n at_ tx).2.2.1, (F_X10_next n at_ tx).2.2.2.1, (F_X10_next n at_ tx).2.2.2.2, bad, bp) else (at_, tk, rp, vl, wd, 1, rp)) else (at_, tk, rp, vl, wd, bad, bp) := by
  unfold F_X10_asks F_X10_takes F_X10_fails_v1
  simp only [zL]
  rcases zJis (c := c) (wd := wd) (tk := tk) (bad := bad) with ⟨j, h1, h2, h3⟩ | ⟨j, h⟩
  · simp only [j, if_pos h1, if_pos (And.intro h2 h3), if_neg (show ¬ (1 : Int32) = 0 by decide), if_true, if_false]
  · simp only [j, if_pos (show (0 : Int32) = 0 from rfl), if_true, if_false]
    by_cases e : bad = 0
    · have h' : ¬ (tk = 1 ∧ wd = c) := h.resolve_left (fun y => y e)
      simp only [if_pos e, if_neg h']
    · simp only [if_neg e]
theorem rNu {lo hi n at_ tk rp vl bad bp : Int32} {wd : Int64} {tx : Nat → Int32} : F_X10_number lo hi n at_ tk rp vl wd bad bp tx = if bad = 0 then (if tk = 2 then (if lo.toInt ≤ vl.toInt ∧ vl.toInt ≤ hi.toInt then (vl, (F_X10_next n at_ tx).1, (F_X10_next n at_ tx).2.1, (F_X10_next n at_ tx).2.2.1, (F_X10_next n at_ tx).2.2.2.1, (F_X10_next n at_ tx).2.2.2.2, bad, bp) else (lo, at_, tk, rp, vl, wd, 2, rp)) else (lo, at_, tk, rp, vl, wd, 1, rp)) else (lo, at_, tk, rp, vl, wd, bad, bp) := by
  unfold F_X10_number F_X10_fails_v1
  simp only [zL, zJin]
  by_cases e : bad = 0
  · simp only [if_pos e]
    by_cases e2 : tk = 2
    · simp only [if_pos e2]
      by_cases e3 : lo.toInt ≤ vl.toInt ∧ vl.toInt ≤ hi.toInt
      · simp only [if_pos e3, if_neg (show ¬ (1 : Int32) = 0 by decide), if_true, if_false]
      · simp only [if_neg e3, if_pos (show (0 : Int32) = 0 from rfl), if_true, if_false]
    · simp only [if_neg e2]
  · simp only [if_neg e]
/-! both readers -/
def zSim (tx : Nat → Int32) (n t : Nat) (K S E V : Nat → Int32) (m9 : Nat) (fa pl a : Int32) (at_ tk rp vl : Int32) (wd : Int64) (bad bp : Int32) : Prop :=
  (fa = 0 ∧ bad = 0 ∧ pl = -1 ∧ ∃ k : Nat, m9 ≤ k ∧ a = nI k ∧ zSy tx n t K S E V k at_ tk rp vl wd) ∨ (¬ fa = 0 ∧ bad = fa ∧ bp = pl)
theorem zSy.place {tx : Nat → Int32} {n t : Nat} {K S E V : Nat → Int32} (h : zTx9 tx n t K S E V) {k : Nat} {at_ tk pl vl : Int32} {wd : Int64} (hs : zSy tx n t K S E V k at_ tk pl vl wd) : pl = S (nI k).toNatClampNeg := by
  rw [nI_clamp (by have := hs.1; have := h.2.1; have := h.1; omega)]; exact hs.2.1
theorem zSy.kind {tx : Nat → Int32} {n t : Nat} {K S E V : Nat → Int32} (h : zTx9 tx n t K S E V) {k : Nat} {at_ tk pl vl : Int32} {wd : Int64} (hs : zSy tx n t K S E V k at_ tk pl vl wd) : (K (nI k).toNatClampNeg = tk ∧ ¬ tk = 0) ∨ (K (nI k).toNatClampNeg = 5 ∧ tk = 0) := by
  rw [nI_clamp (by have := hs.1; have := h.2.1; have := h.1; omega)]
  rcases hs.2.2 with ⟨h3, h4, h5, h6, h7⟩ | ⟨h3, h4, h5⟩
  · exact Or.inl ⟨h5.symm, by rw [h5]; exact (h.2.2.1.1 k h3).1.2.2.2.2.2.1⟩
  · exact Or.inr ⟨by rw [h3]; exact h.2.2.2.2.2.1, h5⟩
theorem zSy.adv {tx : Nat → Int32} {n t : Nat} {K S E V : Nat → Int32} (h : zTx9 tx n t K S E V) {k : Nat} {at_ tk pl vl : Int32} {wd : Int64} (hs : zSy tx n t K S E V k at_ tk pl vl wd) (h0 : ¬ tk = 0) : zAd9 (nI t) (nI k) = nI (k + 1) := by
  unfold zAd9
  rcases hs.2.2 with ⟨h3, h4, h5, h6, h7⟩ | ⟨h3, h4, h5⟩
  · rw [if_neg (nI_ge h3 (by have := h.2.1; have := h.1; omega)), nI_1]
  · exact absurd h5 h0
theorem zSim.word {tx : Nat → Int32} {n t m9 : Nat} {K S E V : Nat → Int32} (h : zTx9 tx n t K S E V) {fa pl a at_ tk rp vl bad bp : Int32} {wd : Int64} (hs : zSim tx n t K S E V m9 fa pl a at_ tk rp vl wd bad bp) {wi : Nat} (hw : wi < 14) {c : Int64} (hc : c.toInt = zWn wi (zLen.getD wi 0)) : zSim tx n t K S E V m9 (F_X5_expectWord fa pl (nI t) a K S E tx wi).1 (F_X5_expectWord fa pl (nI t) a K S E tx wi).2.1 (F_X5_expectWord fa pl (nI t) a K S E tx wi).2.2 (F_X10_asks c (nI n) at_ tk rp vl wd bad bp tx).1 (F_X10_asks c (nI n) at_ tk rp vl wd bad bp tx).2.1 (F_X10_asks c (nI n) at_ tk rp vl wd bad bp tx).2.2.1 (F_X10_asks c (nI n) at_ tk rp vl wd bad bp tx).2.2.2.1 (F_X10_asks c (nI n) at_ tk rp vl wd bad bp tx).2.2.2.2.1 (F_X10_asks c (nI n) at_ tk rp vl wd bad bp tx).2.2.2.2.2.1 (F_X10_asks c (nI n) at_ tk rp vl wd bad bp tx).2.2.2.2.2.2 ∧ ((F_X5_expectWord fa pl (nI t) a K S E tx wi).1 = 0 → fa = 0) := by
  rw [cEW, rAs]
  rcases hs with ⟨rfl, rfl, hpl, k, hm9, rfl, hy⟩ | ⟨h1, h2, h3⟩
  · rw [if_pos rfl, if_pos rfl]
    rcases hy.word h hw hc with ⟨w1, w2, w3⟩ | ⟨w1, w2⟩
    · rw [w1, if_neg (by decide), if_pos ⟨w2, w3⟩]
      have h0 : ¬ tk = 0 := by rw [w2]; decide
      exact ⟨Or.inl ⟨rfl, rfl, hpl, k + 1, by omega, hy.adv h h0, hy.next h h0⟩, fun _ => rfl⟩
    · rw [w1, if_pos rfl, if_neg w2]
      exact ⟨Or.inr ⟨by first | decide | exact z10 | exact z20 | exact z30, rfl, hy.place h⟩, fun z => absurd z (by first | decide | exact z10 | exact z20 | exact z30)⟩
  · subst h2
    rw [if_neg h1, if_neg h1]
    exact ⟨Or.inr ⟨h1, rfl, h3⟩, fun z => absurd z h1⟩
theorem zSim.num {tx : Nat → Int32} {n t m9 : Nat} {K S E V : Nat → Int32} (h : zTx9 tx n t K S E V) {fa pl a at_ tk rp vl bad bp : Int32} {wd : Int64} (hs : zSim tx n t K S E V m9 fa pl a at_ tk rp vl wd bad bp) {lo hi : Int32} (hh : hi.toInt ≤ 99 ∧ 0 ≤ lo.toInt ∧ lo.toInt ≤ 99) : zSim tx n t K S E V m9 (F_X5_expectNumber lo hi fa pl (nI t) a K S V).2.1 (F_X5_expectNumber lo hi fa pl (nI t) a K S V).2.2.1 (F_X5_expectNumber lo hi fa pl (nI t) a K S V).2.2.2 (F_X10_number lo hi (nI n) at_ tk rp vl wd bad bp tx).2.1 (F_X10_number lo hi (nI n) at_ tk rp vl wd bad bp tx).2.2.1 (F_X10_number lo hi (nI n) at_ tk rp vl wd bad bp tx).2.2.2.1 (F_X10_number lo hi (nI n) at_ tk rp vl wd bad bp tx).2.2.2.2.1 (F_X10_number lo hi (nI n) at_ tk rp vl wd bad bp tx).2.2.2.2.2.1 (F_X10_number lo hi (nI n) at_ tk rp vl wd bad bp tx).2.2.2.2.2.2.1 (F_X10_number lo hi (nI n) at_ tk rp vl wd bad bp tx).2.2.2.2.2.2.2 ∧ ((F_X5_expectNumber lo hi fa pl (nI t) a K S V).2.1 = 0 → fa = 0 ∧ (F_X5_expectNumber lo hi fa pl (nI t) a K S V).1 = (F_X10_number lo hi (nI n) at_ tk rp vl wd bad bp tx).1 ∧ lo.toInt ≤ (F_X5_expectNumber lo hi fa pl (nI t) a K S V).1.toInt ∧ (F_X5_expectNumber lo hi fa pl (nI t) a K S V).1.toInt ≤ hi.toInt) := by
  rw [cEN, rNu]
  rcases hs with ⟨rfl, rfl, hpl, k, hm9, rfl, hy⟩ | ⟨h1, h2, h3⟩
  · rw [if_pos rfl, if_pos rfl]
    rcases hy.kind h with ⟨k1, k2⟩ | ⟨k1, k2⟩
    · rw [k1]
      by_cases e2 : tk = 2
      · rw [if_pos e2, if_pos e2]
        have hk : k < 2 ^ 31 := by have := hy.1; have := h.2.1; have := h.1; omega
        have hv : zVR (V (nI k).toNatClampNeg).toInt vl.toInt := by
          rw [nI_clamp hk]
          rcases hy.2.2 with ⟨y3, y4, y5, y6, y7⟩ | ⟨y3, y4, y5⟩
          · exact y6 e2
          · exact absurd y5 k2
        unfold zVR at hv
        by_cases e3 : V (nI k).toNatClampNeg < lo
        · have e3' := Int32.lt_iff_toInt_lt.mp e3
          rw [if_pos e3, if_neg (by omega)]
          exact ⟨Or.inr ⟨by first | decide | exact z10 | exact z20 | exact z30, rfl, hy.place h⟩, fun z => absurd z (by first | decide | exact z10 | exact z20 | exact z30)⟩
        · have e3' := mt Int32.lt_iff_toInt_lt.mpr e3
          rw [if_neg e3]
          by_cases e4 : V (nI k).toNatClampNeg ≤ hi
          · have e4' := Int32.le_iff_toInt_le.mp e4
            rw [if_pos e4, if_pos (by omega)]
            exact ⟨Or.inl ⟨rfl, rfl, hpl, k + 1, by omega, hy.adv h k2, hy.next h k2⟩, fun _ => ⟨rfl, Int32.toInt_inj.mp (by show (V (nI k).toNatClampNeg).toInt = vl.toInt; omega), by show lo.toInt ≤ (V (nI k).toNatClampNeg).toInt; omega, e4'⟩⟩
          · have e4' := mt Int32.le_iff_toInt_le.mpr e4
            rw [if_neg e4, if_neg (by omega)]
            exact ⟨Or.inr ⟨by first | decide | exact z10 | exact z20 | exact z30, rfl, hy.place h⟩, fun z => absurd z (by first | decide | exact z10 | exact z20 | exact z30)⟩
      · rw [if_neg e2, if_neg e2]
        exact ⟨Or.inr ⟨by first | decide | exact z10 | exact z20 | exact z30, rfl, hy.place h⟩, fun z => absurd z (by first | decide | exact z10 | exact z20 | exact z30)⟩
    · rw [k1, k2, if_neg (by decide), if_neg (by decide)]
      exact ⟨Or.inr ⟨by first | decide | exact z10 | exact z20 | exact z30, rfl, hy.place h⟩, fun z => absurd z (by first | decide | exact z10 | exact z20 | exact z30)⟩
  · subst h2
    rw [if_neg h1, if_neg h1]
    exact ⟨Or.inr ⟨h1, rfl, h3⟩, fun z => absurd z h1⟩
/-- a fault, told by both -/
theorem zSim.fail {tx : Nat → Int32} {n t m9 : Nat} {K S E V : Nat → Int32} (h : zTx9 tx n t K S E V) {fa pl a at_ tk rp vl bad bp : Int32} {wd : Int64} (hs : zSim tx n t K S E V m9 fa pl a at_ tk rp vl wd bad bp) {x : Int32} (hx : ¬ x = 0) : zSim tx n t K S E V m9 (F_X5_blame x fa pl a S).1 (F_X5_blame x fa pl a S).2 a at_ tk rp vl wd (F_X10_fails_v1 x rp bad bp).1 (F_X10_fails_v1 x rp bad bp).2 ∧ ¬ (F_X5_blame x fa pl a S).1 = 0 := by
  unfold F_X5_blame F_X10_fails_v1
  simp only [zL]
  rcases hs with ⟨rfl, rfl, hpl, k, hm9, rfl, hy⟩ | ⟨h1, h2, h3⟩
  · rw [if_pos rfl, if_pos rfl]
    exact ⟨Or.inr ⟨hx, rfl, hy.place h⟩, hx⟩
  · subst h2
    rw [if_neg h1, if_neg h1]
    exact ⟨Or.inr ⟨h1, rfl, h3⟩, h1⟩
