set_option linter.all false
/-! line by line -/
theorem zc_nat9 {x : Int32} {m : Nat} (h0 : 0 ≤ x.toInt) (hm : x.toInt ≤ (m : Int)) (h : m < 2 ^ 31) : ∃ k : Nat, k ≤ m ∧ x = nI k ∧ x.toInt = (k : Int) := ⟨x.toInt.toNat, by omega, Int32.toInt_inj.mp ((show x.toInt = (x.toInt.toNat : Int) by omega).trans (nI_toInt (show x.toInt.toNat < 2 ^ 31 by omega)).symm), by omega⟩
theorem zSim.bad {tx : Nat → Int32} {n t m9 : Nat} {K S E V : Nat → Int32} {fa pl a at_ tk rp vl bad bp : Int32} {wd : Int64} (hs : zSim tx n t K S E V m9 fa pl a at_ tk rp vl wd bad bp) (h0 : fa = 0) : bad = 0 := by
  rcases hs with ⟨h1, h2, h3⟩ | ⟨h1, h2, h3⟩
  · exact h2
  · exact absurd h0 h1
theorem rNuV {lo hi n at_ tk rp vl bp : Int32} {wd : Int64} {tx : Nat → Int32} (h : (F_X10_number lo hi n at_ tk rp vl wd 0 bp tx).2.2.2.2.2.2.1 = 0) : (F_X10_number lo hi n at_ tk rp vl wd 0 bp tx).1 = vl ∧ tk = 2 := by
  rw [rNu, if_pos (show (0 : Int32) = 0 from rfl)] at h ⊢
  by_cases e : tk = 2
  · rw [if_pos e] at h ⊢
    by_cases e2 : lo.toInt ≤ vl.toInt ∧ vl.toInt ≤ hi.toInt
    · rw [if_pos e2]; exact ⟨rfl, e⟩
    · rw [if_neg e2] at h; exact absurd h (show ¬ (2 : Int32) = 0 by decide)
  · rw [if_neg e] at h; exact absurd h (show ¬ (1 : Int32) = 0 by decide)
theorem zLn_court {tx : Nat → Int32} {n t m9 : Nat} {K S E V ab : Nat → Int32} (h : zTx9 tx n t K S E V) {k : Nat} {at_ tk rp vl bp pl co : Int32} {wd : Int64} (hy : zSy tx n t K S E V k at_ tk rp vl wd) (hm9 : m9 ≤ k) (hpl : pl = -1) (h0 : ¬ tk = 0) (hco : 0 ≤ co.toInt ∧ co.toInt ≤ 9) {A : Int32 × Int32 × Int32 × Int32 × (Nat → Int32)} (eA : A = F_X5_readCourt 0 pl (nI t) (nI k) K S E V tx co ab) {N : Int32 × Int32 × Int32 × Int32 × Int64} (eN : N = F_X10_next (nI n) at_ tx) {Q : Int32 × Int32 × Int32 × Int32 × Int32 × Int64 × Int32 × Int32} (eQ : Q = F_X10_number_ 257 0 (co - 1) (nI n) N.1 N.2.1 N.2.2.1 N.2.2.2.1 N.2.2.2.2 0 bp tx) : zSim tx n t K S E V m9 A.1 A.2.1 A.2.2.1 Q.2.1 Q.2.2.1 Q.2.2.2.1 Q.2.2.2.2.1 Q.2.2.2.2.2.1 Q.2.2.2.2.2.2.1 Q.2.2.2.2.2.2.2 ∧ (A.1 = 0 → A.2.2.2.1 = co + 1 ∧ A.2.2.2.2 = upd ab co.toNatClampNeg (ab Q.1.toNatClampNeg ||| (1 : Int32) <<< (Q.1 &&& 31)) ∧ 0 ≤ Q.1.toInt ∧ Q.1.toInt < co.toInt) := by
  rw [eA, eQ, eN]
  have s0 := zSim.step (bp := bp) (pl := pl) h hy hm9 hpl h0
  have s1 := (s0.word h (wi := 7) (by decide) zWq.2.2.1).1
  have s2 := s1.court h (co := co) (by omega)
  unfold F_X5_readCourt F_X10_number_
  simp only [zL]
  rw [if_pos (show co < 10 from Int32.lt_iff_toInt_lt.mpr (by rw [zN_10]; omega))]
  split
  · rename_i e
    have z2 := s2.2 e
    refine ⟨s2.1, fun _ => ⟨rfl, ?_, ?_, ?_⟩⟩
    · rw [z2.2.1]
    · rw [← z2.2.1]; exact z2.2.2.1
    · rw [← z2.2.1]; exact z2.2.2.2
  · rename_i e
    exact ⟨s2.1, fun z => absurd z e⟩
theorem zLn_full {tx : Nat → Int32} {n t m9 : Nat} {K S E V ab : Nat → Int32} (h : zTx9 tx n t K S E V) {k : Nat} {at_ tk rp vl bp pl : Int32} {wd : Int64} (hy : zSy tx n t K S E V k at_ tk rp vl wd) (hm9 : m9 ≤ k) (hpl : pl = -1) (x : Int32) (hx : ¬ x = 0) : zSim tx n t K S E V m9 (F_X5_blame x 0 pl (nI k) S).1 (F_X5_blame x 0 pl (nI k) S).2 (nI k) at_ tk rp vl wd (F_X10_fails_v1 x rp 0 bp).1 (F_X10_fails_v1 x rp 0 bp).2 ∧ ¬ (F_X5_blame x 0 pl (nI k) S).1 = 0 :=
  zSim.fail h (Or.inl ⟨rfl, rfl, hpl, k, hm9, rfl, hy⟩) hx
theorem zLn_false {tx : Nat → Int32} {n t m9 : Nat} {K S E V : Nat → Int32} (h : zTx9 tx n t K S E V) {k : Nat} {at_ tk rp vl bp pl fh : Int32} {wd : Int64} (hy : zSy tx n t K S E V k at_ tk rp vl wd) (hm9 : m9 ≤ k) (hpl : pl = -1) (h0 : ¬ tk = 0) {A : Int32 × Int32 × Int32 × Int32 × Int32} (eA : A = F_X5_readFalse 0 pl (nI t) (nI k) 0 K S V fh) {N : Int32 × Int32 × Int32 × Int32 × Int64} (eN : N = F_X10_next (nI n) at_ tx) {Q : Int32 × Int32 × Int32 × Int32 × Int32 × Int64 × Int32 × Int32} (eQ : Q = F_X10_number 0 9 (nI n) N.1 N.2.1 N.2.2.1 N.2.2.2.1 N.2.2.2.2 0 bp tx) : zSim tx n t K S E V m9 A.1 A.2.1 A.2.2.1 Q.2.1 Q.2.2.1 Q.2.2.2.1 Q.2.2.2.2.1 Q.2.2.2.2.2.1 Q.2.2.2.2.2.2.1 Q.2.2.2.2.2.2.2 ∧ A.2.2.2.1 = 1 ∧ (A.1 = 0 → A.2.2.2.2 = Q.1) := by
  rw [eA, eQ, eN]
  have s0 := zSim.step (bp := bp) (pl := pl) h hy hm9 hpl h0
  have s1 := s0.num h (lo := 0) (hi := 9) (by decide)
  unfold F_X5_readFalse
  simp only [zL, if_pos (show (0 : Int32) = 0 from rfl), if_true, if_false]
  exact ⟨s1.1, (by first | rfl | trivial), fun z => (s1.2 z).2.1⟩
theorem zLn_gate {tx : Nat → Int32} {n t m9 : Nat} {K S E V d1 d2 d3 d4 d5 : Nat → Int32} (h : zTx9 tx n t K S E V) {k : Nat} {at_ tk rp vl bp pl co ga : Int32} {wd : Int64} {rc rg rt : Nat → Int32} (hy : zSy tx n t K S E V k at_ tk rp vl wd) (hm9 : m9 ≤ k) (hpl : pl = -1) (h0 : ¬ tk = 0) (hco : 0 ≤ co.toInt ∧ co.toInt ≤ 10) (hga : 0 ≤ ga.toInt ∧ ga.toInt ≤ 15) (erc : rc 4 = co) (erg : rg 4 = ga) {A : Int32 × Int32 × Int32 × Int32 × (Nat → Int32) × (Nat → Int32) × (Nat → Int32) × (Nat → Int32) × (Nat → Int32)} (eA : A = F_X5_readGate 0 pl (nI t) (nI k) K S E V tx co ga d1 d2 d3 d4 d5) {N : Int32 × Int32 × Int32 × Int32 × Int64} (eN : N = F_X10_next (nI n) at_ tx) {Q : Int32 × Int32 × Int32 × Int32 × Int64 × Int32 × Int32 × (Nat → Int32) × (Nat → Int32)} (eQ : Q = F_X10_gateLine (nI n) N.1 N.2.1 N.2.2.1 N.2.2.2.1 N.2.2.2.2 0 bp tx rc rg rt) : zSim tx n t K S E V m9 A.1 A.2.1 A.2.2.1 Q.1 Q.2.1 Q.2.2.1 Q.2.2.2.1 Q.2.2.2.2.1 Q.2.2.2.2.2.1 Q.2.2.2.2.2.2.1 ∧ (A.1 = 0 → A.2.2.2.1 = ga + 1) ∧ Q.2.2.2.2.2.2.2.1 = upd rg 4 (ga + 1) ∧ (A.1 = 0 → ∃ a b : Int32, ¬ a = b ∧ (0 ≤ a.toInt ∧ a.toInt < co.toInt) ∧ (0 ≤ b.toInt ∧ b.toInt < co.toInt) ∧ A.2.2.2.2.2.2.2.1 = upd d4 ga.toNatClampNeg a ∧ A.2.2.2.2.2.2.2.2 = upd d5 ga.toNatClampNeg b ∧ Q.2.2.2.2.2.2.2.2 = upd (upd rt ((2 : Int32) * ((64 : Int32) + ga)).toNatClampNeg a) ((2 : Int32) * ((64 : Int32) + ga) + 1).toNatClampNeg b) ∧ zAl 128 rt Q.2.2.2.2.2.2.2.2 := by
  rw [eA, eQ, eN]
  have c4 : Int32.toNatClampNeg 4 = 4 := by decide
  obtain ⟨kg, hkg, ekg, ikg⟩ := zc_nat9 (x := ga) (m := 15) (by omega) (by omega) (by decide)
  have eg0 : (2 : Int32) * ((64 : Int32) + ga) = nI (128 + 2 * kg) := by rw [ekg, show (64 : Int32) = nI 64 from by decide, show (2 : Int32) = nI 2 from by decide, nI_add, pk_mul]; exact congrArg nI (by omega)
  have eg1 : ((2 : Int32) * ((64 : Int32) + ga)).toNatClampNeg = 128 + 2 * kg := by rw [eg0, nI_clamp (by omega)]
  have eg2 : ((2 : Int32) * ((64 : Int32) + ga) + 1).toNatClampNeg = 129 + 2 * kg := by rw [eg0, nI_1, nI_clamp (by omega)]; omega
  have hal : ∀ v w : Int32, zAl 128 rt (upd (upd rt ((2 : Int32) * ((64 : Int32) + ga)).toNatClampNeg v) ((2 : Int32) * ((64 : Int32) + ga) + 1).toNatClampNeg w) := fun v w => (zAl.rf.u (by rw [eg1]; omega)).u (by rw [eg2]; omega)
  have s0 := zSim.step (bp := bp) (pl := pl) h hy hm9 hpl h0
  have s1 := s0.court h (co := co) hco
  have s2 := s1.1.word h (wi := 8) (by decide) zWq.2.2.2.1
  unfold F_X5_readGate F_X10_gateLine
  simp only [zL]
  simp only [c4, erc, erg]
  rw [if_pos (show ga < 16 from Int32.lt_iff_toInt_lt.mpr (by rw [show Int32.toInt 16 = 16 from by decide]; omega))]
  generalize eB : F_X5_expectCourt 0 pl (nI t) (F_X5_advance 0 (nI t) (nI k)) K S V co = B at s1 s2 ⊢
  generalize eR : F_X10_number 0 (co - 1) (nI n) (F_X10_next (nI n) at_ tx).1 (F_X10_next (nI n) at_ tx).2.1 (F_X10_next (nI n) at_ tx).2.2.1 (F_X10_next (nI n) at_ tx).2.2.2.1 (F_X10_next (nI n) at_ tx).2.2.2.2 0 bp tx = R at s1 s2 ⊢
  generalize eC : F_X5_expectWord B.2.1 B.2.2.1 (nI t) B.2.2.2 K S E tx 8 = C at s2 ⊢
  generalize eT : F_X10_asks 555 (nI n) R.2.1 R.2.2.1 R.2.2.2.1 R.2.2.2.2.1 R.2.2.2.2.2.1 R.2.2.2.2.2.2.1 R.2.2.2.2.2.2.2 tx = T at s2 ⊢
  obtain ⟨fa, pl2, a2⟩ := C
  obtain ⟨ta, tt, tp, tv, tw, tb, tq⟩ := T
  obtain ⟨s2a, s2b⟩ := s2
  simp only at s2a s2b ⊢
  rcases id s2a with ⟨rfl, rfl, hpl, m, hm9, rfl, hm⟩ | ⟨g1, g2, g3⟩
  · rw [if_pos (show (0 : Int32) = 0 from rfl)]
    have hone := s1.2 (s2b rfl)
    have hml : m < 2 ^ 31 := by have := hm.1; have := h.2.1; have := h.1; omega
    rcases hm.kind h with ⟨k1, k2⟩ | ⟨k1, k2⟩
    · rw [k1]
      by_cases e2 : tt = 2
      · rw [if_pos e2, if_pos e2]
        have hv : zVR (V (nI m).toNatClampNeg).toInt tv.toInt := by
          rw [nI_clamp hml]
          rcases hm.2.2 with ⟨y3, y4, y5, y6, y7⟩ | ⟨y3, y4, y5⟩
          · exact y6 e2
          · exact absurd y5 k2
        have hiff : V (nI m).toNatClampNeg = B.1 ↔ tv = R.1 := by
          rw [← hone.2.1, ← Int32.toInt_inj, ← Int32.toInt_inj]
          unfold zVR at hv
          have := hone.2.2
          omega
        by_cases e3 : tv = R.1
        · rw [if_pos (hiff.mpr e3), if_pos e3]
          have s3 := s2a.fail h (x := 2) (by decide)
          have s4 := s3.1.court h (co := co) hco
          split
          · rename_i e
            exact absurd (s4.2 e).1 s3.2
          · rename_i e
            exact ⟨s4.1, fun z => absurd z e, (by first | rfl | trivial), fun z => absurd z e, hal _ _⟩
        · rw [if_neg (fun z => e3 (hiff.mp z)), if_neg e3]
          have s4 := s2a.court h (co := co) hco
          split
          · rename_i e
            have z4 := s4.2 e
            have zb := zSim.bad s4.1 e
            have zv := rNuV zb
            refine ⟨s4.1, fun _ => rfl, rfl, fun _ => ⟨_, _, fun y => e3 ?_, ⟨hone.2.2.1, hone.2.2.2⟩, ⟨z4.2.2.1, z4.2.2.2⟩, rfl, rfl, ?_⟩, hal _ _⟩
            · exact zv.1.symm.trans (z4.2.1.symm.trans (y.symm.trans hone.2.1))
            · rw [hone.2.1, z4.2.1]
          · rename_i e
            exact ⟨s4.1, fun z => absurd z e, (by first | rfl | trivial), fun z => absurd z e, hal _ _⟩
      · rw [if_neg e2, if_neg e2]
        have s4 := s2a.court h (co := co) hco
        split
        · rename_i e
          exact absurd (rNuV (zSim.bad s4.1 e)).2 e2
        · rename_i e
          exact ⟨s4.1, fun z => absurd z e, (by first | rfl | trivial), fun z => absurd z e, hal _ _⟩
    · rw [k1, k2, if_neg (show ¬ (5 : Int32) = 2 by decide), if_neg (show ¬ (0 : Int32) = 2 by decide)]
      have s4 := s2a.court h (co := co) hco
      rw [k2] at s4
      split
      · rename_i e
        exact absurd (rNuV (zSim.bad s4.1 e)).2 (by decide)
      · rename_i e
        exact ⟨s4.1, fun z => absurd z e, (by first | rfl | trivial), fun z => absurd z e, hal _ _⟩
  · have s4 := s2a.court h (co := co) hco
    have hb : F_X5_blame 2 fa pl2 a2 S = (fa, pl2) := by unfold F_X5_blame; rw [if_neg g1]
    rw [if_neg (show ¬ tb = 0 by rw [g2]; exact g1)]
    simp only [hb]
    split
    · split
      · split
        · (rename_i e; exact absurd (s4.2 e).1 g1)
        · rename_i e
          exact ⟨s4.1, fun z => absurd z e, (by first | rfl | trivial), fun z => absurd z e, hal _ _⟩
      · split
        · (rename_i e; exact absurd (s4.2 e).1 g1)
        · rename_i e
          exact ⟨s4.1, fun z => absurd z e, (by first | rfl | trivial), fun z => absurd z e, hal _ _⟩
    · split
      · (rename_i e; exact absurd (s4.2 e).1 g1)
      · rename_i e
        exact ⟨s4.1, fun z => absurd z e, (by first | rfl | trivial), fun z => absurd z e, hal _ _⟩
theorem zJis0 {c wd : Int64} {tk : Int32} : F_X10_is_v1 c tk wd 0 = if tk = 1 ∧ wd = c then 1 else 0 := by
  rcases zJis (c := c) (wd := wd) (tk := tk) (bad := 0) with ⟨j, h1, h2, h3⟩ | ⟨j, h⟩
  · rw [j, if_pos ⟨h2, h3⟩]
  · rw [j, if_neg (h.resolve_left (fun y => y rfl))]
theorem rFa1 {rp bp : Int32} : F_X10_fails_v1 1 rp 0 bp = (1, rp) := by unfold F_X10_fails_v1; rw [if_pos rfl]
theorem rOL {n at_ tk rp vl bp : Int32} {wd : Int64} {tx rs ro : Nat → Int32} (hro : ro 8 = 0) : F_X10_onceLine 0 n at_ tk rp vl wd 0 bp tx rs ro = if (F_X10_next n at_ tx).2.1 = 1 ∧ (F_X10_next n at_ tx).2.2.2.2 = 161600 then ((F_X10_next n (F_X10_next n at_ tx).1 tx).1, (F_X10_next n (F_X10_next n at_ tx).1 tx).2.1, (F_X10_next n (F_X10_next n at_ tx).1 tx).2.2.1, (F_X10_next n (F_X10_next n at_ tx).1 tx).2.2.2.1, (F_X10_next n (F_X10_next n at_ tx).1 tx).2.2.2.2, 0, bp, upd rs 8 0, upd ro 8 1) else if (F_X10_next n at_ tx).2.1 = 1 ∧ (F_X10_next n at_ tx).2.2.2.2 = 82528 then ((F_X10_next n (F_X10_next n at_ tx).1 tx).1, (F_X10_next n (F_X10_next n at_ tx).1 tx).2.1, (F_X10_next n (F_X10_next n at_ tx).1 tx).2.2.1, (F_X10_next n (F_X10_next n at_ tx).1 tx).2.2.2.1, (F_X10_next n (F_X10_next n at_ tx).1 tx).2.2.2.2, 0, bp, upd rs 8 1, upd ro 8 1) else ((F_X10_next n at_ tx).1, (F_X10_next n at_ tx).2.1, (F_X10_next n at_ tx).2.2.1, (F_X10_next n at_ tx).2.2.2.1, (F_X10_next n at_ tx).2.2.2.2, 1, (F_X10_next n at_ tx).2.2.1, upd rs 8 1, upd ro 8 1) := by
  have c8 : Int32.toNatClampNeg (8 + 0) = 8 := by decide
  have c8' : Int32.toNatClampNeg 8 = 8 := by decide
  have n1 : vp_nar .boolean 1 = 1 := by decide
  unfold F_X10_onceLine
  generalize F_X10_next n at_ tx = N
  simp only [zL]
  simp only [c8, c8', hro, n1, if_true, if_neg (show ¬ (0 : Int32) = 1 by decide), zJgood, zJis0, if_neg z10, rFa1]
  by_cases e1 : N.2.1 = 1 ∧ N.2.2.2.2 = 161600
  · simp only [if_pos e1, if_neg z10, if_true, if_false]
  · by_cases e2 : N.2.1 = 1 ∧ N.2.2.2.2 = 82528
    · simp only [if_neg e1, if_pos e2, if_neg z10, if_true, if_false]
    · simp only [if_neg e1, if_neg e2, if_neg z10, if_true, if_false]
theorem cRL {pl t a de : Int32} {K S E tx : Nat → Int32} : F_X5_readLaw 0 pl t a 0 K S E tx de = if F_X5_isWord (F_X5_advance 0 t a) K S E tx 12 = 0 then (if F_X5_isWord (F_X5_advance 0 t a) K S E tx 13 = 0 then ((F_X5_blame 1 0 pl (F_X5_advance 0 t a) S).1, (F_X5_blame 1 0 pl (F_X5_advance 0 t a) S).2, F_X5_advance 0 t a, 1, F_X5_isWord (F_X5_advance 0 t a) K S E tx 12) else (0, pl, F_X5_advance 0 t (F_X5_advance 0 t a), 1, F_X5_isWord (F_X5_advance 0 t a) K S E tx 12)) else (0, pl, F_X5_advance 0 t (F_X5_advance 0 t a), 1, F_X5_isWord (F_X5_advance 0 t a) K S E tx 12) := by
  unfold F_X5_readLaw
  generalize F_X5_advance 0 t a = a1
  simp only [zL, if_true]
theorem zLn_law {tx : Nat → Int32} {n t m9 : Nat} {K S E V rs ro : Nat → Int32} (h : zTx9 tx n t K S E V) {k : Nat} {at_ tk rp vl bp pl de : Int32} {wd : Int64} (hy : zSy tx n t K S E V k at_ tk rp vl wd) (hm9 : m9 ≤ k) (hpl : pl = -1) (h0 : ¬ tk = 0) (hro : ro 8 = 0) {A : Int32 × Int32 × Int32 × Int32 × Int32} (eA : A = F_X5_readLaw 0 pl (nI t) (nI k) 0 K S E tx de) {Q : Int32 × Int32 × Int32 × Int32 × Int64 × Int32 × Int32 × (Nat → Int32) × (Nat → Int32)} (eQ : Q = F_X10_onceLine 0 (nI n) at_ tk rp vl wd 0 bp tx rs ro) : zSim tx n t K S E V m9 A.1 A.2.1 A.2.2.1 Q.1 Q.2.1 Q.2.2.1 Q.2.2.2.1 Q.2.2.2.2.1 Q.2.2.2.2.2.1 Q.2.2.2.2.2.2.1 ∧ A.2.2.2.1 = 1 ∧ Q.2.2.2.2.2.2.2.2 = upd ro 8 1 ∧ (A.1 = 0 → ∃ x : Int32, Q.2.2.2.2.2.2.2.1 = upd rs 8 x ∧ A.2.2.2.2 = x ∧ (x = 0 ∨ x = 1)) ∧ zAl 8 rs Q.2.2.2.2.2.2.2.1 := by
  have y1 := hy.next h h0
  have a1 : F_X5_advance 0 (nI t) (nI k) = nI (k + 1) := by rw [cAd]; exact hy.adv h h0
  have g1 : zSim tx n t K S E V m9 0 pl (nI (k + 1)) (F_X10_next (nI n) at_ tx).1 (F_X10_next (nI n) at_ tx).2.1 (F_X10_next (nI n) at_ tx).2.2.1 (F_X10_next (nI n) at_ tx).2.2.2.1 (F_X10_next (nI n) at_ tx).2.2.2.2 0 bp := Or.inl ⟨rfl, rfl, hpl, k + 1, by omega, rfl, y1⟩
  rw [cRL, a1] at eA
  rw [rOL hro] at eQ
  generalize F_X10_next (nI n) at_ tx = N at eQ y1 g1
  rcases y1.word h (wi := 12) (by decide) zWq.2.2.2.2.2.2.2.1 with ⟨w1, w2, w3⟩ | ⟨w1, w2⟩
  · have hn : ¬ N.2.1 = 0 := by rw [w2]; decide
    rw [w1, if_neg z10] at eA
    rw [if_neg (show ¬ (N.2.1 = 1 ∧ N.2.2.2.2 = 161600) from fun z => absurd (w3.symm.trans z.2) (by decide)), if_pos (And.intro w2 w3)] at eQ
    rw [eA, eQ]
    exact ⟨zSim.step h y1 (show m9 ≤ k + 1 by omega) hpl hn, rfl, rfl, fun _ => ⟨1, rfl, rfl, Or.inr rfl⟩, zAl.rf.u (Nat.le_refl 8)⟩
  · rw [w1, if_pos (show (0 : Int32) = 0 from rfl)] at eA
    rcases y1.word h (wi := 13) (by decide) zWq.2.2.2.2.2.2.2.2.1 with ⟨v1, v2, v3⟩ | ⟨v1, v2⟩
    · have hn : ¬ N.2.1 = 0 := by rw [v2]; decide
      rw [v1, if_neg z10] at eA
      rw [if_pos (And.intro v2 v3)] at eQ
      rw [eA, eQ]
      exact ⟨zSim.step h y1 (show m9 ≤ k + 1 by omega) hpl hn, rfl, rfl, fun _ => ⟨0, rfl, rfl, Or.inl rfl⟩, zAl.rf.u (Nat.le_refl 8)⟩
    · rw [v1, if_pos (show (0 : Int32) = 0 from rfl)] at eA
      rw [if_neg v2, if_neg w2] at eQ
      have f1 := g1.fail h (x := 1) (by decide)
      rw [rFa1] at f1
      rw [eA, eQ]
      exact ⟨f1.1, rfl, rfl, fun z => absurd z f1.2, zAl.rf.u (Nat.le_refl 8)⟩
theorem zLn_hours {tx : Nat → Int32} {n t m9 : Nat} {K S E V : Nat → Int32} (h : zTx9 tx n t K S E V) {fa pl a at_ tk rp vl bad bp : Int32} {wd : Int64} (hs : zSim tx n t K S E V m9 fa pl a at_ tk rp vl wd bad bp) {A : Int32 × Int32 × Int32 × Int32 × Int32 × Int32} (eA : A = F_X5_readHours fa pl (nI t) a K S E V tx) {N : Int32 × Int32 × Int32 × Int32 × Int64 × Int32 × Int32} (eN : N = F_X10_asks 405230 (nI n) at_ tk rp vl wd bad bp tx) {Q : Int32 × Int32 × Int32 × Int32 × Int32 × Int64 × Int32 × Int32} (eQ : Q = F_X10_number_ 4562587 1 48 (nI n) N.1 N.2.1 N.2.2.1 N.2.2.2.1 N.2.2.2.2.1 N.2.2.2.2.2.1 N.2.2.2.2.2.2 tx) : zSim tx n t K S E V m9 A.1 A.2.1 A.2.2.1 Q.2.1 Q.2.2.1 Q.2.2.2.1 Q.2.2.2.2.1 Q.2.2.2.2.2.1 Q.2.2.2.2.2.2.1 Q.2.2.2.2.2.2.2 ∧ A.2.2.2.2.1 = 1 ∧ A.2.2.2.2.2 = 1 ∧ (A.1 = 0 → A.2.2.2.1 = Q.1 ∧ 1 ≤ A.2.2.2.1.toInt ∧ A.2.2.2.1.toInt ≤ 48) := by
  rw [eA, eQ, eN]
  have s1 := (hs.word h (wi := 5) (by decide) zWq.1).1
  have s2 := (s1.word h (wi := 6) (by decide) zWq.2.1).1
  have s3 := s2.num h (lo := 1) (hi := 48) (by decide)
  unfold F_X5_readHours F_X10_number_
  simp only [zL]
  exact ⟨s3.1, (by first | rfl | trivial), (by first | rfl | trivial), fun z => ⟨(s3.2 z).2.1, (s3.2 z).2.2.1, (s3.2 z).2.2.2⟩⟩
