set_option linter.all false
/-! any line behind the first -/
theorem cLn {α : Type} {c : Prop} [Decidable c] {x1 x2 x3 y1 y2 y3 : Int32} {r : α} : (if c then (x1, x2, x3, r) else (y1, y2, y3, r)) = ((if c then (x1, x2, x3) else (y1, y2, y3)).1, (if c then (x1, x2, x3) else (y1, y2, y3)).2.1, (if c then (x1, x2, x3) else (y1, y2, y3)).2.2, r) := by
  split <;> rfl
theorem zJis2 {c wd : Int64} {tk : Int32} : F_X10_is_v2 c tk wd 0 = if tk = 1 ∧ wd = c then 1 else 0 := zJis0
/-- what both hold of a town while they read it, numbers alone -/
def zSc (fa sc lt ft ho co ga pe : Int32) (rsy : Int32) (rh rc rg rpe ro : Nat → Int32) : Prop := fa = 0 → ho = rh 4 ∧ co = rc 4 ∧ ga = rg 4 ∧ pe = rpe 4 ∧ sc = rsy ∧ lt = ro 8 ∧ ft = ro 9 ∧ (0 ≤ ho.toInt ∧ ho.toInt ≤ 48) ∧ (1 ≤ co.toInt ∧ co.toInt ≤ 10) ∧ (0 ≤ ga.toInt ∧ ga.toInt ≤ 16) ∧ (0 ≤ pe.toInt ∧ pe.toInt ≤ 10) ∧ (0 ≤ sc.toInt ∧ sc.toInt ≤ 4) ∧ (lt = 0 ∨ lt = 1) ∧ (ft = 0 ∨ ft = 1)
theorem zLine {tx : Nat → Int32} {n t m9 : Nat} {K S E V ab dr dg nb oe ot td sp sx rh rc rin rg rgt rpe ra0 rst rs ro : Nat → Int32} (h : zTx9 tx n t K S E V) {k : Nat} {at_ tk rp vl bp pl sc lt ft ho co ga pe li fh st de : Int32} {wd : Int64} (hy : zSy tx n t K S E V k at_ tk rp vl wd) (hm9 : m9 ≤ k) (hpl : pl = -1) (h0 : ¬ tk = 0) (hli : ¬ li = 0) (hS : zSc 0 sc lt ft ho co ga pe sc rh rc rg rpe ro) (hC : zTct 4 ho co ga pe fh st de ab oe ot td sp sx rin rgt ra0 rst rs) {R : Int32 × Int32 × Int32 × Int32 × Int32 × Int32 × Int32 × Int32 × Int32 × Int32 × Int32 × Int32 × Int32 × Int32 × (Nat → Int32) × (Nat → Int32) × (Nat → Int32) × (Nat → Int32) × (Nat → Int32) × (Nat → Int32) × (Nat → Int32) × (Nat → Int32) × (Nat → Int32)} (eR : R = F_X5_readLine 0 pl (nI t) (nI k) sc lt ft K S E V tx ho co ga pe li fh st de ab dr dg nb oe ot td sp sx) {Q : Int32 × Int32 × Int32 × Int32 × Int64 × Int32 × Int32 × Int32 × (Nat → Int32) × (Nat → Int32) × (Nat → Int32) × (Nat → Int32) × (Nat → Int32) × (Nat → Int32) × (Nat → Int32) × (Nat → Int32) × (Nat → Int32)} (eQ : Q = F_X10_line (nI n) at_ tk rp vl wd 0 bp sc tx rh rc rin rg rgt rpe ra0 rst rs ro) {T : Int32 × Int32 × Int32 × Int32 × Int64 × Int32 × Int32} (eT : T = zRe (nI n) Q.1 Q.2.1 Q.2.2.1 Q.2.2.2.1 Q.2.2.2.2.1 Q.2.2.2.2.2.1 Q.2.2.2.2.2.2.1 tx) : zSim tx n t K S E V (m9 + 1) R.1 R.2.1 R.2.2.1 T.1 T.2.1 T.2.2.1 T.2.2.2.1 T.2.2.2.2.1 T.2.2.2.2.2.1 T.2.2.2.2.2.2 ∧ R.2.2.2.2.2.2.2.2.2.2.1 = li + 1 ∧ zSc R.1 R.2.2.2.1 R.2.2.2.2.1 R.2.2.2.2.2.1 R.2.2.2.2.2.2.1 R.2.2.2.2.2.2.2.1 R.2.2.2.2.2.2.2.2.1 R.2.2.2.2.2.2.2.2.2.1 Q.2.2.2.2.2.2.2.1 rh Q.2.2.2.2.2.2.2.2.1 Q.2.2.2.2.2.2.2.2.2.2.1 Q.2.2.2.2.2.2.2.2.2.2.2.2.1 Q.2.2.2.2.2.2.2.2.2.2.2.2.2.2.2.2 ∧ (R.1 = 0 → zTct 4 R.2.2.2.2.2.2.1 R.2.2.2.2.2.2.2.1 R.2.2.2.2.2.2.2.2.1 R.2.2.2.2.2.2.2.2.2.1 R.2.2.2.2.2.2.2.2.2.2.2.1 R.2.2.2.2.2.2.2.2.2.2.2.2.1 R.2.2.2.2.2.2.2.2.2.2.2.2.2.1 R.2.2.2.2.2.2.2.2.2.2.2.2.2.2.1 R.2.2.2.2.2.2.2.2.2.2.2.2.2.2.2.2.2.2.1 R.2.2.2.2.2.2.2.2.2.2.2.2.2.2.2.2.2.2.2.1 R.2.2.2.2.2.2.2.2.2.2.2.2.2.2.2.2.2.2.2.2.1 R.2.2.2.2.2.2.2.2.2.2.2.2.2.2.2.2.2.2.2.2.2.1 R.2.2.2.2.2.2.2.2.2.2.2.2.2.2.2.2.2.2.2.2.2.2 Q.2.2.2.2.2.2.2.2.2.1 Q.2.2.2.2.2.2.2.2.2.2.2.1 Q.2.2.2.2.2.2.2.2.2.2.2.2.2.1 Q.2.2.2.2.2.2.2.2.2.2.2.2.2.2.1 Q.2.2.2.2.2.2.2.2.2.2.2.2.2.2.2.1) ∧ zLo8 rc rin rg rgt rpe ra0 rst rs Q.2.2.2.2.2.2.2.2.1 Q.2.2.2.2.2.2.2.2.2.1 Q.2.2.2.2.2.2.2.2.2.2.1 Q.2.2.2.2.2.2.2.2.2.2.2.1 Q.2.2.2.2.2.2.2.2.2.2.2.2.1 Q.2.2.2.2.2.2.2.2.2.2.2.2.2.1 Q.2.2.2.2.2.2.2.2.2.2.2.2.2.2.1 Q.2.2.2.2.2.2.2.2.2.2.2.2.2.2.2.1 := by
  have c4 : Int32.toNatClampNeg 4 = 4 := by decide
  obtain ⟨q1, q2, q3, q4, -, q6, q7, b1, b2, b3, b4, b5, b6, b7⟩ := hS rfl
  have g0 : zSim tx n t K S E V m9 0 pl (nI k) at_ tk rp vl wd 0 bp := Or.inl ⟨rfl, rfl, hpl, k, hm9, rfl, hy⟩
  unfold F_X5_readLine at eR
  unfold F_X10_line at eQ
  simp only [↓zL_p] at eR
  simp only [↓zL_p] at eQ
  try simp only [c4, zJis2, ← q2, ← q3, ← q4, if_pos (show (0 : Int32) = 0 from rfl), if_true, if_false] at eQ
  rw [if_neg hli] at eR
  have hcourt := hy.word h (wi := 0) (by decide) zWq.2.2.2.2.2.2.2.2.2.1
  have hgate := hy.word h (wi := 1) (by decide) zWq.2.2.2.2.2.2.2.2.2.2.1
  have hperson := hy.word h (wi := 2) (by decide) zWq.2.2.2.2.2.2.2.2.2.2.2.1
  have hlaw := hy.word h (wi := 3) (by decide) zWq.2.2.2.2.2.2.2.2.2.2.2.2.1
  have hfalse := hy.word h (wi := 4) (by decide) zWq.2.2.2.2.2.2.2.2.2.2.2.2.2
  rcases hcourt with ⟨w1, w2, w3⟩ | ⟨w1, wc⟩
  · subst w2 w3
    rw [w1, if_neg (show ¬ (1 : Int32) = 0 by decide), cLn] at eR
    simp only [eq_false (show ¬ (1905383 : Int64) = 8798 by decide), eq_false (show ¬ (1905383 : Int64) = 3217595 by decide), eq_false (show ¬ (1905383 : Int64) = 139055 by decide), true_and, and_self, if_pos (show (0 : Int32) = 0 from rfl), if_neg (show ¬ (1 : Int32) = 0 by decide), if_true, if_false] at eQ
    by_cases e10 : co = 10
    · rw [if_pos e10] at eQ
      have f1 := g0.fail h (x := 3) (by decide)
      have hb : F_X10_fails_v1 3 rp 0 bp = (3, rp) := by unfold F_X10_fails_v1; rw [if_pos rfl]
      have hA : F_X5_readCourt 0 pl (nI t) (nI k) K S E V tx co ab = ((F_X5_blame 3 0 pl (nI k) S).1, (F_X5_blame 3 0 pl (nI k) S).2, nI k, co, ab) := by
        unfold F_X5_readCourt; simp only [↓zL_p]; rw [if_neg (show ¬ co < 10 by rw [e10]; decide)]
      rw [hA] at eR
      rw [hb] at eQ f1
      simp only [if_neg (show ¬ (3 : Int32) = 0 by decide), if_true, if_false] at eQ
      subst eQ
      have z := f1.1.tail h
      rw [eR, eT]
      exact ⟨z.1, rfl, fun y => absurd (z.2 y) f1.2, fun y => absurd (z.2 y) f1.2, zLo8.rf⟩
    · rw [if_neg e10] at eQ
      have hlt : co.toInt ≤ 9 := by have := mt Int32.toInt_inj.mp e10; rw [zN_10] at this; omega
      obtain ⟨A9, eA9⟩ : ∃ A9, A9 = F_X5_readCourt 0 pl (nI t) (nI k) K S E V tx co ab := ⟨_, rfl⟩
      obtain ⟨N9, eN9⟩ : ∃ N9, N9 = F_X10_next (nI n) at_ tx := ⟨_, rfl⟩
      obtain ⟨Q9, eQ9⟩ : ∃ Q9, Q9 = F_X10_number_ 257 0 (co - 1) (nI n) N9.1 N9.2.1 N9.2.2.1 N9.2.2.2.1 N9.2.2.2.2 0 bp tx := ⟨_, rfl⟩
      have z1 := zLn_court (ab := ab) (bp := bp) (pl := pl) (co := co) h hy hm9 hpl h0 (by omega) eA9 eN9 eQ9
      rw [← eA9] at eR
      rw [← eN9, ← eQ9] at eQ
      have ha : (co + 1).toInt = co.toInt + 1 := zc_add1 (by omega)
      have hk40 : 40 ≤ ((40 : Int32) + co).toNatClampNeg := by
        obtain ⟨kc, hkc, ekc, ikc⟩ := zc_nat (x := co) (m := 9) (by omega) (by omega) (by decide)
        rw [ekc, show (40 : Int32) = nI 40 from by decide, nI_add, nI_clamp (by omega)]; omega
      subst eQ
      have z := z1.1.tail h
      rw [eR, eT]
      refine ⟨z.1, rfl, fun y => ?_, fun y => ?_, ⟨zAl.rf.u (Nat.le_refl 4), zAl.rf.u hk40, zAl.rf, zAl.rf, zAl.rf, zAl.rf, zAl.rf, zAl.rf⟩⟩
      · have y1 := z.2 y
        have y2 := (z1.2 y1).1
        have y2' : A9.2.2.2.1 = upd rc 4 (co + 1) 4 := by rw [pk_us]; exact y2
        refine ⟨q1, y2', q3, q4, rfl, q6, q7, b1, ?_, b3, b4, b5, b6, b7⟩
        rw [y2, ha]; omega
      · exact zTct.court hC ⟨b2.1, hlt⟩ (z1.2 (z.2 y)).1 (z1.2 (z.2 y)).2.1 rfl (z1.2 (z.2 y)).2.2
  · rw [w1, if_pos (show (0 : Int32) = 0 from rfl)] at eR
    rcases hgate with ⟨w1, w2, w3⟩ | ⟨w1, wg⟩
    · subst w2 w3
      rw [w1, if_neg (show ¬ (1 : Int32) = 0 by decide), cLn] at eR
      simp only [eq_false (show ¬ (139055 : Int64) = 8798 by decide), eq_false (show ¬ (139055 : Int64) = 3217595 by decide), eq_false (show ¬ (139055 : Int64) = 1905383 by decide), true_and, and_self, if_pos (show (0 : Int32) = 0 from rfl), if_neg (show ¬ (1 : Int32) = 0 by decide), if_true, if_false] at eQ
      by_cases e16 : ga = 16
      · rw [if_pos e16] at eQ
        have f1 := g0.fail h (x := 3) (by decide)
        have hb : F_X10_fails_v1 3 rp 0 bp = (3, rp) := by unfold F_X10_fails_v1; rw [if_pos rfl]
        have hA : F_X5_readGate 0 pl (nI t) (nI k) K S E V tx co ga dr dg nb oe ot = ((F_X5_blame 3 0 pl (nI k) S).1, (F_X5_blame 3 0 pl (nI k) S).2, nI k, ga, dr, dg, nb, oe, ot) := by
          unfold F_X5_readGate; simp only [↓zL_p]; rw [if_neg (show ¬ ga < 16 by rw [e16]; decide)]
        rw [hA] at eR
        rw [hb] at eQ f1
        simp only [if_neg (show ¬ (3 : Int32) = 0 by decide), if_true, if_false] at eQ
        subst eQ
        have z := f1.1.tail h
        rw [eR, eT]
        exact ⟨z.1, rfl, fun y => absurd (z.2 y) f1.2, fun y => absurd (z.2 y) f1.2, zLo8.rf⟩
      · rw [if_neg e16] at eQ
        have hlt : ga.toInt ≤ 15 := by have := mt Int32.toInt_inj.mp e16; rw [show Int32.toInt 16 = 16 from by decide] at this; omega
        obtain ⟨A9, eA9⟩ : ∃ A9, A9 = F_X5_readGate 0 pl (nI t) (nI k) K S E V tx co ga dr dg nb oe ot := ⟨_, rfl⟩
        obtain ⟨N9, eN9⟩ : ∃ N9, N9 = F_X10_next (nI n) at_ tx := ⟨_, rfl⟩
        obtain ⟨Q9, eQ9⟩ : ∃ Q9, Q9 = F_X10_gateLine (nI n) N9.1 N9.2.1 N9.2.2.1 N9.2.2.2.1 N9.2.2.2.2 0 bp tx rc rg rgt := ⟨_, rfl⟩
        have z1 := zLn_gate (d1 := dr) (d2 := dg) (d3 := nb) (d4 := oe) (d5 := ot) (rt := rgt) (bp := bp) (pl := pl) h hy hm9 hpl h0 (co := co) (ga := ga) (by omega) (by omega) q2.symm q3.symm eA9 eN9 eQ9
        rw [← eA9] at eR
        rw [← eN9, ← eQ9] at eQ
        have ha : (ga + 1).toInt = ga.toInt + 1 := zc_add1 (by omega)
        subst eQ
        have z := z1.1.tail h
        rw [eR, eT]
        refine ⟨z.1, rfl, fun y => ?_, fun y => ?_, ⟨zAl.rf, zAl.rf, zAl.eq z1.2.2.1 (Nat.le_refl 4), z1.2.2.2.2, zAl.rf, zAl.rf, zAl.rf, zAl.rf⟩⟩
        · have y1 := z.2 y
          have y2 := z1.2.1 y1
          refine ⟨q1, q2, ?_, q4, rfl, q6, q7, b1, b2, ?_, b4, b5, b6, b7⟩
          · rw [y2, z1.2.2.1, pk_us]
          · rw [y2, ha]; omega
        · obtain ⟨a, b, w1, w2, w3, w4, w5, w6⟩ := z1.2.2.2.1 (z.2 y)
          exact zTct.gate hC ⟨b3.1, hlt⟩ (z1.2.1 (z.2 y)) w4 w5 w6 w1 w2 w3
    · rw [w1, if_pos (show (0 : Int32) = 0 from rfl)] at eR
      rcases hperson with ⟨w1, w2, w3⟩ | ⟨w1, wp⟩
      · subst w2 w3
        rw [w1, if_neg (show ¬ (1 : Int32) = 0 by decide), cLn] at eR
        simp only [eq_false (show ¬ (232608281 : Int64) = 8798 by decide), eq_false (show ¬ (232608281 : Int64) = 3217595 by decide), eq_false (show ¬ (232608281 : Int64) = 1905383 by decide), eq_false (show ¬ (232608281 : Int64) = 139055 by decide), true_and, and_self, if_pos (show (0 : Int32) = 0 from rfl), if_neg (show ¬ (1 : Int32) = 0 by decide), if_true, if_false] at eQ
        by_cases e10 : pe = 10
        · rw [if_pos e10] at eQ
          have f1 := g0.fail h (x := 3) (by decide)
          have hb : F_X10_fails_v1 3 rp 0 bp = (3, rp) := by unfold F_X10_fails_v1; rw [if_pos rfl]
          have hA : F_X5_readPerson 0 pl (nI t) (nI k) sc K S E V tx ho co pe st td sp sx = ((F_X5_blame 3 0 pl (nI k) S).1, (F_X5_blame 3 0 pl (nI k) S).2, nI k, sc, pe, st, td, sp, sx) := by
            unfold F_X5_readPerson; simp only [↓zL_p]; rw [if_neg (show ¬ pe < 10 by rw [e10]; decide)]
          rw [hA] at eR
          rw [hb] at eQ f1
          simp only [if_neg (show ¬ (3 : Int32) = 0 by decide), if_true, if_false] at eQ
          subst eQ
          have z := f1.1.tail h
          rw [eR, eT]
          exact ⟨z.1, rfl, fun y => absurd (z.2 y) f1.2, fun y => absurd (z.2 y) f1.2, zLo8.rf⟩
        · rw [if_neg e10] at eQ
          have hlt : pe.toInt ≤ 9 := by have := mt Int32.toInt_inj.mp e10; rw [zN_10] at this; omega
          obtain ⟨A9, eA9⟩ : ∃ A9, A9 = F_X5_readPerson 0 pl (nI t) (nI k) sc K S E V tx ho co pe st td sp sx := ⟨_, rfl⟩
          obtain ⟨N9, eN9⟩ : ∃ N9, N9 = F_X10_next (nI n) at_ tx := ⟨_, rfl⟩
          obtain ⟨Q9, eQ9⟩ : ∃ Q9, Q9 = F_X10_personLine (nI n) N9.1 N9.2.1 N9.2.2.1 N9.2.2.2.1 N9.2.2.2.2 0 bp sc tx rh rc rpe ra0 rst := ⟨_, rfl⟩
          have z1 := zLn_person (sp9 := sp) (sc9 := sx) (told := td) (rst := rst) (at0 := ra0) (st := st) (bp := bp) (pl := pl) h hy hm9 hpl h0 (ho := ho) (co := co) (pe := pe) (sc := sc) b1 b2 (by omega) hC.2.2.1 hC.2.2.2.1 b5 q1.symm q2.symm q4.symm eA9 eN9 eQ9
          rw [← eA9] at eR
          rw [← eN9, ← eQ9] at eQ
          have ha : (pe + 1).toInt = pe.toInt + 1 := zc_add1 (by omega)
          subst eQ
          have z := z1.1.tail h
          rw [eR, eT]
          refine ⟨z.1, rfl, fun y => ?_, fun y => ?_, ⟨zAl.rf, zAl.rf, zAl.rf, zAl.rf, zAl.eq z1.2.2.1 (Nat.le_refl 4), z1.2.2.2.2.2.1, z1.2.2.2.2.2.2, zAl.rf⟩⟩
          · have y1 := z.2 y
            have y2 := z1.2.2.2.1 y1
            refine ⟨q1, q2, q3, ?_, y2.1, q6, q7, b1, b2, b3, ?_, y2.2, b6, b7⟩
            · rw [z1.2.1, z1.2.2.1, pk_us]
            · rw [z1.2.1, ha]; omega
          · exact zTct.person hC z1.2.1 (z1.2.2.2.2.1 (z.2 y)).1 (z1.2.2.2.2.1 (z.2 y)).2
      · rw [w1, if_pos (show (0 : Int32) = 0 from rfl)] at eR
        rcases hlaw with ⟨w1, w2, w3⟩ | ⟨w1, wl⟩
        · subst w2 w3
          rw [w1, if_neg (show ¬ (1 : Int32) = 0 by decide), cLn] at eR
          simp only [true_and, and_self, if_neg (show ¬ (1 : Int32) = 0 by decide), if_true, if_false] at eQ
          rcases b6 with b6 | b6
          · subst b6
            obtain ⟨A9, eA9⟩ : ∃ A9, A9 = F_X5_readLaw 0 pl (nI t) (nI k) 0 K S E tx de := ⟨_, rfl⟩
            obtain ⟨Q9, eQ9⟩ : ∃ Q9, Q9 = F_X10_onceLine 0 (nI n) at_ 1 rp vl 8798 0 bp tx rs ro := ⟨_, rfl⟩
            have z1 := zLn_law (rs := rs) (bp := bp) (pl := pl) (de := de) h hy hm9 hpl h0 q6.symm eA9 eQ9
            rw [← eA9] at eR
            rw [← eQ9] at eQ
            subst eQ
            have z := z1.1.tail h
            rw [eR, eT]
            refine ⟨z.1, rfl, fun y => ?_, fun y => ?_, ⟨zAl.rf, zAl.rf, zAl.rf, zAl.rf, zAl.rf, zAl.rf, zAl.rf, z1.2.2.2.2⟩⟩
            · refine ⟨q1, q2, q3, q4, rfl, ?_, ?_, b1, b2, b3, b4, b5, Or.inr z1.2.1, b7⟩
              · rw [z1.2.1, z1.2.2.1, pk_us]
              · rw [z1.2.2.1, pk_un (show (9 : Nat) ≠ 8 by decide)]; exact q7
            · obtain ⟨x, w1, w2, w3⟩ := z1.2.2.2.1 (z.2 y)
              exact zTct.law hC w1 w2 w3
          · subst b6
            have f1 := g0.fail h (x := 2) (by decide)
            have hb : F_X10_fails_v1 2 rp 0 bp = (2, rp) := by unfold F_X10_fails_v1; rw [if_pos rfl]
            have hA : F_X5_readLaw 0 pl (nI t) (nI k) 1 K S E tx de = ((F_X5_blame 2 0 pl (nI k) S).1, (F_X5_blame 2 0 pl (nI k) S).2, nI k, 1, de) := rfl
            have hQ : F_X10_onceLine 0 (nI n) at_ 1 rp vl 8798 0 bp tx rs ro = (at_, 1, rp, vl, 8798, 2, rp, rs, ro) := by
              unfold F_X10_onceLine
              simp only [↓zL_p]
              try simp only [show Int32.toNatClampNeg (8 + 0) = 8 from by decide, ← q6, hb, if_neg (show ¬ (1 : Int32) = 0 by decide), if_neg (show ¬ (2 : Int32) = 0 by decide), if_true, if_false]
            rw [hA] at eR
            rw [hQ] at eQ
            rw [hb] at f1
            subst eQ
            have z := f1.1.tail h
            rw [eR, eT]
            exact ⟨z.1, rfl, fun y => absurd (z.2 y) f1.2, fun y => absurd (z.2 y) f1.2, zLo8.rf⟩
        · rw [w1, if_pos (show (0 : Int32) = 0 from rfl)] at eR
          rcases hfalse with ⟨w1, w2, w3⟩ | ⟨w1, wf⟩
          · subst w2 w3
            rw [w1, if_neg (show ¬ (1 : Int32) = 0 by decide), cLn] at eR
            simp only [eq_false (show ¬ (3217595 : Int64) = 8798 by decide), true_and, and_self, if_pos (show (0 : Int32) = 0 from rfl), if_neg (show ¬ (1 : Int32) = 0 by decide), if_true, if_false] at eQ
            have c9 : Int32.toNatClampNeg (8 + 1) = 9 := by decide
            have c9' : Int32.toNatClampNeg 9 = 9 := by decide
            have n1 : vp_nar .boolean 1 = 1 := by decide
            have hb : F_X10_fails_v1 2 rp 0 bp = (2, rp) := by unfold F_X10_fails_v1; rw [if_pos rfl]
            rcases b7 with b7 | b7
            · subst b7
              obtain ⟨A9, eA9⟩ : ∃ A9, A9 = F_X5_readFalse 0 pl (nI t) (nI k) 0 K S V fh := ⟨_, rfl⟩
              obtain ⟨N9, eN9⟩ : ∃ N9, N9 = F_X10_next (nI n) at_ tx := ⟨_, rfl⟩
              obtain ⟨Q9, eQ9⟩ : ∃ Q9, Q9 = F_X10_number 0 9 (nI n) N9.1 N9.2.1 N9.2.2.1 N9.2.2.2.1 N9.2.2.2.2 0 bp tx := ⟨_, rfl⟩
              have z1 := zLn_false (fh := fh) (bp := bp) (pl := pl) h hy hm9 hpl h0 eA9 eN9 eQ9
              rw [← eA9] at eR
              unfold F_X10_onceLine at eQ
              simp only [↓zL_p] at eQ
              try simp only [c9, c9', n1, ← q7, if_pos (show (0 : Int32) = 0 from rfl), if_pos (show (1 : Int32) = 1 from rfl), if_true, if_false] at eQ
              rw [← eN9, ← eQ9] at eQ
              subst eQ
              have z := z1.1.tail h
              rw [eR, eT]
              refine ⟨z.1, rfl, fun y => ?_, fun y => ?_, ⟨zAl.rf, zAl.rf, zAl.rf, zAl.rf, zAl.rf, zAl.rf, zAl.rf, zAl.rf.u (by decide)⟩⟩
              · refine ⟨q1, q2, q3, q4, rfl, ?_, ?_, b1, b2, b3, b4, b5, b6, Or.inr z1.2.1⟩
                · show lt = upd ro 9 1 8
                  rw [pk_un (show (8 : Nat) ≠ 9 by decide)]; exact q6
                · rw [z1.2.1]
                  show (1 : Int32) = upd ro 9 1 9
                  rw [pk_us]
              · exact zTct.fals hC rfl (z1.2.2 (z.2 y))
            · subst b7
              have f1 := g0.fail h (x := 2) (by decide)
              have hA : F_X5_readFalse 0 pl (nI t) (nI k) 1 K S V fh = ((F_X5_blame 2 0 pl (nI k) S).1, (F_X5_blame 2 0 pl (nI k) S).2, nI k, 1, fh) := rfl
              have hQ : F_X10_onceLine 1 (nI n) at_ 1 rp vl 3217595 0 bp tx rs ro = (at_, 1, rp, vl, 3217595, 2, rp, rs, ro) := by
                unfold F_X10_onceLine
                simp only [↓zL_p]
                try simp only [c9, ← q7, hb, if_neg (show ¬ (1 : Int32) = 0 by decide), if_neg (show ¬ (2 : Int32) = 0 by decide), if_true, if_false]
              rw [hA] at eR
              rw [hQ] at eQ
              rw [hb] at f1
              subst eQ
              have z := f1.1.tail h
              rw [eR, eT]
              exact ⟨z.1, rfl, fun y => absurd (z.2 y) f1.2, fun y => absurd (z.2 y) f1.2, zLo8.rf⟩
          · rw [w1, if_pos (show (0 : Int32) = 0 from rfl), cLn] at eR
            have f1 := g0.fail h (x := 1) (by decide)
            have hb : F_X10_fails_v1 1 rp 0 bp = (1, rp) := by unfold F_X10_fails_v1; rw [if_pos rfl]
            have hb3 : F_X10_fails_v1 3 rp 1 rp = (1, rp) := by unfold F_X10_fails_v1; rw [if_neg (by decide)]
            simp only [if_neg wl, if_neg wf, if_neg wc, if_neg wg, if_neg wp, if_pos (show (0 : Int32) = 0 from rfl), hb, hb3, if_neg (show ¬ (1 : Int32) = 0 by decide), if_true, if_false] at eQ
            have hQ : Q = (at_, tk, rp, vl, wd, 1, rp, sc, rc, rin, rg, rgt, rpe, ra0, rst, rs, ro) := by
              rw [eQ]; split <;> rfl
            subst hQ
            rw [hb] at f1
            have z := f1.1.tail h
            rw [eR, eT]
            exact ⟨z.1, rfl, fun y => absurd (z.2 y) f1.2, fun y => absurd (z.2 y) f1.2, zLo8.rf⟩
