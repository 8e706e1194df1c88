set_option linter.all false
/-! the kinds of lines -/
theorem cAd {t a : Int32} : F_X5_advance 0 t a = zAd9 t a := by
  unfold F_X5_advance zAd9
  simp only [zL, if_pos (show (0 : Int32) = 0 from rfl), if_true, if_false]
theorem cAdN {fa t a : Int32} (h : ¬ fa = 0) : F_X5_advance fa t a = a := by
  unfold F_X5_advance
  rw [if_neg h]
theorem zJgood {bad : Int32} : F_X10_isGood_v1 bad = if bad = 0 then 1 else 0 := by
  unfold F_X10_isGood_v1
  by_cases e : bad = 0
  · simp only [if_pos e]
  · simp only [if_neg e]
/-- both go on by one token -/
theorem zSim.step {tx : Nat → Int32} {n t m9 : Nat} {K S E V : Nat → Int32} (h : zTx9 tx n t K S E V) {k : Nat} {at_ tk rp vl bp pl : Int32} {wd : Int64} (hy : zSy tx n t K S E V k at_ tk rp vl wd) (hm9 : m9 ≤ k) (hpl : pl = -1) (h0 : ¬ tk = 0) : zSim tx n t K S E V m9 0 pl (F_X5_advance 0 (nI t) (nI k)) (F_X10_next (nI n) at_ tx).1 (F_X10_next (nI n) at_ tx).2.1 (F_X10_next (nI n) at_ tx).2.2.1 (F_X10_next (nI n) at_ tx).2.2.2.1 (F_X10_next (nI n) at_ tx).2.2.2.2 0 bp := by
  rw [cAd]
  exact Or.inl ⟨rfl, rfl, hpl, k + 1, by omega, hy.adv h h0, hy.next h h0⟩
theorem zSim.step2 {tx : Nat → Int32} {n t m9 : Nat} {K S E V : Nat → Int32} (h : zTx9 tx n t K S E V) {k : Nat} {at_ tk rp vl bp pl : Int32} {wd : Int64} (hy : zSy tx n t K S E V k at_ tk rp vl wd) (hm9 : m9 ≤ k) (hpl : pl = -1) (h0 : ¬ tk = 0) : zSim tx n t K S E V (m9 + 1) 0 pl (F_X5_advance 0 (nI t) (nI k)) (F_X10_next (nI n) at_ tx).1 (F_X10_next (nI n) at_ tx).2.1 (F_X10_next (nI n) at_ tx).2.2.1 (F_X10_next (nI n) at_ tx).2.2.2.1 (F_X10_next (nI n) at_ tx).2.2.2.2 0 bp := by
  rw [cAd]
  exact Or.inl ⟨rfl, rfl, hpl, k + 1, by omega, hy.adv h h0, hy.next h h0⟩
/-- a line's end -/
noncomputable def zCe (fa pl a t : Int32) (K S : Nat → Int32) : Int32 × Int32 × Int32 := if K a.toNatClampNeg = 3 then (fa, pl, F_X5_advance fa t a) else ((F_X5_blame 1 fa pl a S).1, (F_X5_blame 1 fa pl a S).2, F_X5_advance (F_X5_blame 1 fa pl a S).1 t a)
noncomputable def zRe (n at_ tk rp vl : Int32) (wd : Int64) (bad bp : Int32) (tx : Nat → Int32) : Int32 × Int32 × Int32 × Int32 × Int64 × Int32 × Int32 := if F_X10_isGood_v1 bad = 0 then (at_, tk, rp, vl, wd, bad, bp) else F_X10_ends n at_ tk rp vl wd bad bp tx
theorem zSim.tail {tx : Nat → Int32} {n t m9 : Nat} {K S E V : Nat → Int32} (h : zTx9 tx n t K S E V) {fa pl a at_ tk rp vl bad bp : Int32} {wd : Int64} (hs : zSim tx n t K S E V m9 fa pl a at_ tk rp vl wd bad bp) : zSim tx n t K S E V (m9 + 1) (zCe fa pl a (nI t) K S).1 (zCe fa pl a (nI t) K S).2.1 (zCe fa pl a (nI t) K S).2.2 (zRe (nI n) at_ tk rp vl wd bad bp tx).1 (zRe (nI n) at_ tk rp vl wd bad bp tx).2.1 (zRe (nI n) at_ tk rp vl wd bad bp tx).2.2.1 (zRe (nI n) at_ tk rp vl wd bad bp tx).2.2.2.1 (zRe (nI n) at_ tk rp vl wd bad bp tx).2.2.2.2.1 (zRe (nI n) at_ tk rp vl wd bad bp tx).2.2.2.2.2.1 (zRe (nI n) at_ tk rp vl wd bad bp tx).2.2.2.2.2.2 ∧ ((zCe fa pl a (nI t) K S).1 = 0 → fa = 0) := by
  unfold zCe zRe
  rw [zJgood]
  rcases hs with ⟨rfl, rfl, hpl, k, hm9, rfl, hy⟩ | ⟨h1, h2, h3⟩
  · rw [if_pos (show (0 : Int32) = 0 from rfl), if_neg (show ¬ (1 : Int32) = 0 by decide)]
    unfold F_X10_ends F_X10_fails_v1 F_X5_blame
    simp only [zL, if_pos (show (0 : Int32) = 0 from rfl), if_true, if_false]
    rcases hy.kind h with ⟨k1, k2⟩ | ⟨k1, k2⟩
    · rw [k1]
      by_cases e : tk = 3
      · rw [if_pos e, if_pos e]
        exact ⟨zSim.step2 h hy hm9 hpl k2, fun _ => (by first | rfl | trivial)⟩
      · rw [if_neg e, if_neg e, if_neg (show ¬ (1 : Int32) = 0 by decide)]
        exact ⟨Or.inr ⟨by first | decide | exact z10 | exact z20 | exact z30, rfl, hy.place h⟩, fun z => absurd z (by first | decide | exact z10 | exact z20 | exact z30)⟩
    · rw [k1, k2, if_neg (show ¬ (5 : Int32) = 3 by decide), if_neg (show ¬ (0 : Int32) = 3 by decide), if_neg (show ¬ (1 : Int32) = 0 by decide)]
      exact ⟨Or.inr ⟨by first | decide | exact z10 | exact z20 | exact z30, rfl, hy.place h⟩, fun z => absurd z (by first | decide | exact z10 | exact z20 | exact z30)⟩
  · subst h2
    rw [if_neg h1, if_pos (show (0 : Int32) = 0 from rfl)]
    unfold F_X5_blame
    simp only [zL, if_neg h1]
    by_cases e : K a.toNatClampNeg = 3
    · rw [if_pos e]; exact ⟨Or.inr ⟨h1, rfl, h3⟩, fun z => absurd z h1⟩
    · rw [if_neg e]; exact ⟨Or.inr ⟨h1, rfl, h3⟩, fun z => absurd z h1⟩
theorem zc_sub1 {co : Int32} (h : 0 ≤ co.toInt ∧ co.toInt ≤ 48) : (co - 1).toInt = co.toInt - 1 := zi_sub rfl zN_1 (by omega)
theorem zc_add1 {co : Int32} (h : 0 ≤ co.toInt ∧ co.toInt ≤ 1600) : (co + 1).toInt = co.toInt + 1 := zi_add rfl zN_1 (by omega)
/-- a word, then a court -/
theorem zSim.court {tx : Nat → Int32} {n t m9 : Nat} {K S E V : Nat → Int32} (h : zTx9 tx n t K S E V) {fa pl a at_ tk rp vl bad bp co : Int32} {wd : Int64} (hs : zSim tx n t K S E V m9 fa pl a at_ tk rp vl wd bad bp) (hco : 0 ≤ co.toInt ∧ co.toInt ≤ 10) : zSim tx n t K S E V m9 (F_X5_expectCourt fa pl (nI t) a K S V co).2.1 (F_X5_expectCourt fa pl (nI t) a K S V co).2.2.1 (F_X5_expectCourt fa pl (nI t) a K S V co).2.2.2 (F_X10_number 0 (co - 1) (nI n) at_ tk rp vl wd bad bp tx).2.1 (F_X10_number 0 (co - 1) (nI n) at_ tk rp vl wd bad bp tx).2.2.1 (F_X10_number 0 (co - 1) (nI n) at_ tk rp vl wd bad bp tx).2.2.2.1 (F_X10_number 0 (co - 1) (nI n) at_ tk rp vl wd bad bp tx).2.2.2.2.1 (F_X10_number 0 (co - 1) (nI n) at_ tk rp vl wd bad bp tx).2.2.2.2.2.1 (F_X10_number 0 (co - 1) (nI n) at_ tk rp vl wd bad bp tx).2.2.2.2.2.2.1 (F_X10_number 0 (co - 1) (nI n) at_ tk rp vl wd bad bp tx).2.2.2.2.2.2.2 ∧ ((F_X5_expectCourt fa pl (nI t) a K S V co).2.1 = 0 → fa = 0 ∧ (F_X5_expectCourt fa pl (nI t) a K S V co).1 = (F_X10_number 0 (co - 1) (nI n) at_ tk rp vl wd bad bp tx).1 ∧ 0 ≤ (F_X5_expectCourt fa pl (nI t) a K S V co).1.toInt ∧ (F_X5_expectCourt fa pl (nI t) a K S V co).1.toInt < co.toInt) := by
  have hc := zc_sub1 (co := co) (by omega)
  have z := hs.num h (lo := 0) (hi := co - 1) (by rw [hc, zN_0]; omega)
  refine ⟨z.1, fun e => ?_⟩
  obtain ⟨z1, z2, z3, z4⟩ := z.2 e
  rw [hc] at z4
  rw [zN_0] at z3
  exact ⟨z1, z2, z3, Int.lt_of_le_sub_one z4⟩
theorem zWq : Int64.toInt 405230 = zWn 5 (zLen.getD 5 0) ∧ Int64.toInt 4562587 = zWn 6 (zLen.getD 6 0) ∧ Int64.toInt 257 = zWn 7 (zLen.getD 7 0) ∧ Int64.toInt 555 = zWn 8 (zLen.getD 8 0) ∧ Int64.toInt 47 = zWn 9 (zLen.getD 9 0) ∧ Int64.toInt 131638 = zWn 10 (zLen.getD 10 0) ∧ Int64.toInt 283613770 = zWn 11 (zLen.getD 11 0) ∧ Int64.toInt 82528 = zWn 12 (zLen.getD 12 0) ∧ Int64.toInt 161600 = zWn 13 (zLen.getD 13 0) ∧ Int64.toInt 1905383 = zWn 0 (zLen.getD 0 0) ∧ Int64.toInt 139055 = zWn 1 (zLen.getD 1 0) ∧ Int64.toInt 232608281 = zWn 2 (zLen.getD 2 0) ∧ Int64.toInt 8798 = zWn 3 (zLen.getD 3 0) ∧ Int64.toInt 3217595 = zWn 4 (zLen.getD 4 0) := by decide +kernel
