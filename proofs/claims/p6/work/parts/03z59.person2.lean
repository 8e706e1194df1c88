set_option linter.all false
/-! the end of a person's line, and the whole of it -/
theorem zStr {tx : Nat → Int32} {n t m9 : Nat} {K S E V sp9 sc9 told rst rpe rc at0 : Nat → Int32} (h : zTx9 tx n t K S E V) {fa pl a at_ tk rp vl bad bp co pe sc st x2 : Int32} {wd : Int64} (ex2 : x2 = (40 : Int32) + pe) (hpe : 0 ≤ pe.toInt ∧ pe.toInt ≤ 9) (hcs : zCs 4 co pe st sp9 sc9 rst) (hco : 1 ≤ co.toInt ∧ co.toInt ≤ 10) (hsc : 0 ≤ sc.toInt ∧ sc.toInt ≤ 4) (hs : zSim tx n t K S E V m9 fa pl a at_ tk rp vl wd bad bp) {A : Int32 × Int32 × Int32 × Int32 × Int32 × Int32 × (Nat → Int32) × (Nat → Int32) × (Nat → Int32)} (eA : A = K_X5_readPerson_1_1 K S E tx pe sc st sp9 sc9 (nI t) V co fa a pl told) {Q : Int32 × Int32 × Int32 × Int32 × Int64 × Int32 × Int32 × Int32 × (Nat → Int32) × (Nat → Int32) × (Nat → Int32)} (eQ : Q = K_X10_personLine_2_0 x2 rst rpe pe sc (nI n) tx rc co tk wd bad at_ rp vl bp at0) : zSim tx n t K S E V m9 A.1 A.2.1 A.2.2.1 Q.1 Q.2.1 Q.2.2.1 Q.2.2.2.1 Q.2.2.2.2.1 Q.2.2.2.2.2.1 Q.2.2.2.2.2.2.1 ∧ A.2.2.2.2.1 = pe + 1 ∧ Q.2.2.2.2.2.2.2.2.1 = upd rpe 4 (pe + 1) ∧ (A.1 = 0 → A.2.2.2.1 = Q.2.2.2.2.2.2.2.1 ∧ 0 ≤ A.2.2.2.1.toInt ∧ A.2.2.2.1.toInt ≤ 4) ∧ A.2.2.2.2.2.2.1 = told ∧ Q.2.2.2.2.2.2.2.2.2.1 = at0 ∧ (A.1 = 0 → zCs 4 co (pe + 1) A.2.2.2.2.2.1 A.2.2.2.2.2.2.2.1 A.2.2.2.2.2.2.2.2 Q.2.2.2.2.2.2.2.2.2.2) ∧ zAl 80 rst Q.2.2.2.2.2.2.2.2.2.2 := by
  subst ex2
  have c4 : Int32.toNatClampNeg 4 = 4 := by decide
  obtain ⟨kp, hkp, ekp, ikp⟩ := zc_nat (x := pe) (m := 9) hpe.1 hpe.2 (by decide)
  have ep0 : (2 : Int32) * ((40 : Int32) + pe) = nI (80 + 2 * kp) := by rw [ekp, show (40 : Int32) = nI 40 from by decide, show (2 : Int32) = nI 2 from by decide, nI_add, pk_mul]; exact congrArg nI (by omega)
  have ep1 : ((2 : Int32) * ((40 : Int32) + pe)).toNatClampNeg = 80 + 2 * kp := by rw [ep0, nI_clamp (by omega)]
  have ep2 : ((2 : Int32) * ((40 : Int32) + pe) + 1).toNatClampNeg = 81 + 2 * kp := by rw [ep0, nI_1, nI_clamp (by omega)]; omega
  have hal2 : zAl 80 rst (upd (upd rst ((2 : Int32) * ((40 : Int32) + pe)).toNatClampNeg 0) ((2 : Int32) * ((40 : Int32) + pe) + 1).toNatClampNeg 0) := (zAl.rf.u (by rw [ep1]; omega)).u (by rw [ep2]; omega)
  have hal4 : ∀ v w : Int32, zAl 80 rst (upd (upd (upd (upd rst ((2 : Int32) * ((40 : Int32) + pe)).toNatClampNeg 0) ((2 : Int32) * ((40 : Int32) + pe) + 1).toNatClampNeg 0) ((2 : Int32) * ((40 : Int32) + pe)).toNatClampNeg v) ((2 : Int32) * ((40 : Int32) + pe) + 1).toNatClampNeg w) := fun v w => (hal2.u (by rw [ep1]; omega)).u (by rw [ep2]; omega)
  unfold K_X5_readPerson_1_1 at eA
  unfold K_X10_personLine_2_0 at eQ
  simp only [zL] at eA eQ
  simp only [c4] at eQ
  rcases id hs with ⟨rfl, rfl, hpl, k, hm9, rfl, hy⟩ | ⟨g1, g2, g3⟩
  · rw [if_pos (show (0 : Int32) = 0 from rfl)] at eA
    rcases hy.word h (wi := 11) (by decide) zWq.2.2.2.2.2.2.1 with ⟨w1, w2, w3⟩ | ⟨w1, w2⟩
    · have h0 : ¬ tk = 0 := by rw [w2]; decide
      rw [w1, if_neg z10] at eA
      rw [show F_X10_is_v1 283613770 tk wd 0 = 1 from by rw [zJis0, if_pos (And.intro w2 w3)], if_neg z10] at eQ
      unfold F_X5_readStrays at eA
      simp only [zL] at eA
      by_cases e4 : sc = 4
      · subst e4
        have f1 := hs.fail h (x := 2) (by decide)
        have hb : F_X10_fails_v1 2 rp 0 bp = (2, rp) := by unfold F_X10_fails_v1; rw [if_pos rfl]
        have hbl : F_X5_blame 2 0 pl (nI k) S = (2, S (nI k).toNatClampNeg) := rfl
        rw [hb, hbl] at f1
        rw [if_neg (show ¬ (4 : Int32) < 4 by decide), hbl] at eA
        rw [if_pos (show (4 : Int32) = 4 from rfl), hb, show F_X10_isGood_v1 ((2 : Int32), rp).1 = 0 from by rw [zJgood, if_neg z20], if_pos (show (0 : Int32) = 0 from rfl)] at eQ
        unfold F_X10_number_ at eQ
        simp only [zL] at eQ
        simp only [rNu, rAs, if_neg z20] at eQ
        rw [eA, eQ]
        exact ⟨f1.1, rfl, rfl, fun z => absurd z (by first | decide | exact z10 | exact z20 | exact z30), rfl, rfl, fun z => absurd z (by first | decide | exact z10 | exact z20 | exact z30), (by first | exact hal4 _ _ | exact hal2)⟩
      · have hlt : sc.toInt < 4 := by
          have := mt Int32.toInt_inj.mp e4
          rw [zN_4] at this
          omega
        rw [if_pos (show sc < 4 from Int32.lt_iff_toInt_lt.mpr (by rw [zN_4]; exact hlt))] at eA
        rw [if_neg e4, show F_X10_isGood_v1 0 = 1 from by rw [zJgood, if_pos rfl], if_neg z10] at eQ
        unfold F_X10_number_ at eQ
        simp only [zL] at eQ
        have s0 := zSim.step (bp := bp) (pl := pl) h hy hm9 hpl h0
        have s1 := s0.num h (lo := 1) (hi := 99) (by decide)
        have s2 := s1.1.word h (wi := 8) (by decide) zWq.2.2.2.1
        have s3 := s2.1.court h (co := co) (by omega)
        generalize eR1 : F_X10_number 1 99 (nI n) (F_X10_next (nI n) at_ tx).1 (F_X10_next (nI n) at_ tx).2.1 (F_X10_next (nI n) at_ tx).2.2.1 (F_X10_next (nI n) at_ tx).2.2.2.1 (F_X10_next (nI n) at_ tx).2.2.2.2 0 bp tx = R1 at s1 s2 s3 eQ
        generalize eC1 : F_X5_expectNumber 1 99 0 pl (nI t) (F_X5_advance 0 (nI t) (nI k)) K S V = C1 at s1 s2 s3 eA
        generalize eR2 : F_X10_asks 555 (nI n) R1.2.1 R1.2.2.1 R1.2.2.2.1 R1.2.2.2.2.1 R1.2.2.2.2.2.1 R1.2.2.2.2.2.2.1 R1.2.2.2.2.2.2.2 tx = R2 at s2 s3 eQ
        generalize eC2 : F_X5_expectWord C1.2.1 C1.2.2.1 (nI t) C1.2.2.2 K S E tx 8 = C2 at s2 s3 eA
        generalize eR3 : F_X10_number 0 (co - 1) (nI n) R2.1 R2.2.1 R2.2.2.1 R2.2.2.2.1 R2.2.2.2.2.1 R2.2.2.2.2.2.1 R2.2.2.2.2.2.2 tx = R3 at s3 eQ
        generalize eC3 : F_X5_expectCourt C2.1 C2.2.1 (nI t) C2.2.2 K S V co = C3 at s3 eA
        have ha : (sc + 1).toInt = sc.toInt + 1 := zc_add1 (by omega)
        rw [eA, eQ]
        refine ⟨s3.1, rfl, rfl, fun _ => ⟨rfl, by show 0 ≤ (sc + 1).toInt; omega, by show (sc + 1).toInt ≤ 4; omega⟩, rfl, rfl, fun z => ?_, (by first | exact hal4 _ _ | exact hal2)⟩
        have z3 := s3.2 z
        have z1 := s1.2 (s2.2 z3.1)
        rw [← z1.2.1, ← z3.2.1]
        exact zCs.some hcs hpe (by have := z1.2.2.1; rw [zN_1] at this; exact this) z3.2.2
    · rw [w1, if_pos (show (0 : Int32) = 0 from rfl)] at eA
      rw [show F_X10_is_v1 283613770 tk wd 0 = 0 from by rw [zJis0, if_neg w2], if_pos (show (0 : Int32) = 0 from rfl)] at eQ
      rw [eA, eQ]
      exact ⟨hs, rfl, rfl, fun _ => ⟨rfl, hsc.1, hsc.2⟩, rfl, rfl, fun _ => zCs.none hcs (by omega) hpe, hal2⟩
  · have hb : ¬ bad = 0 := by rw [g2]; exact g1
    have hj : F_X10_is_v1 283613770 tk wd bad = 0 := by unfold F_X10_is_v1; rw [if_neg hb]
    rw [if_neg g1] at eA
    rw [hj, if_pos (show (0 : Int32) = 0 from rfl)] at eQ
    rw [eA, eQ]
    exact ⟨hs, rfl, rfl, fun z => absurd z g1, rfl, rfl, fun z => absurd z g1, hal2⟩
theorem kNum_ {c wd : Int64} {lo hi n at_ tk rp vl bad bp : Int32} {tx : Nat → Int32} : F_X10_number_ c lo hi n at_ tk rp vl wd bad bp tx = F_X10_number lo hi n (F_X10_asks c n at_ tk rp vl wd bad bp tx).1 (F_X10_asks c n at_ tk rp vl wd bad bp tx).2.1 (F_X10_asks c n at_ tk rp vl wd bad bp tx).2.2.1 (F_X10_asks c n at_ tk rp vl wd bad bp tx).2.2.2.1 (F_X10_asks c n at_ tk rp vl wd bad bp tx).2.2.2.2.1 (F_X10_asks c n at_ tk rp vl wd bad bp tx).2.2.2.2.2.1 (F_X10_asks c n at_ tk rp vl wd bad bp tx).2.2.2.2.2.2 tx := by
  unfold F_X10_number_
  generalize F_X10_asks c n at_ tk rp vl wd bad bp tx = T
  simp only [↓zL_p]
theorem kPL {n at_ tk rp vl bp co pe sc : Int32} {wd : Int64} {tx rh rc rpe ra0 rst : Nat → Int32} (erc : rc 4 = co) (erp : rpe 4 = pe) {R : Int32 × Int32 × Int32 × Int32 × Int32 × Int64 × Int32 × Int32} (eR : F_X10_number_ 47 0 (co - 1) n at_ tk rp vl wd 0 bp tx = R) : F_X10_personLine n at_ tk rp vl wd 0 bp sc tx rh rc rpe ra0 rst = L_X10_personLine_1 (40 + pe) R.1 (K_X10_personLine_1_0 n tx rh rc co (40 + pe) rst rpe pe sc R.1 R.2.1 R.2.2.1 R.2.2.2.1 R.2.2.2.2.1 R.2.2.2.2.2.1 R.2.2.2.2.2.2.1 R.2.2.2.2.2.2.2) 50 0 ra0 := by
  have c4 : Int32.toNatClampNeg 4 = 4 := by decide
  subst eR erc erp
  unfold F_X10_personLine
  simp only [↓zL_p]
  simp only [c4]
theorem cPL {pl t a sc ho co pe st : Int32} {K S E V tx told sp9 sc9 : Nat → Int32} (hpe : pe < 10) {C : Int32 × Int32 × Int32 × Int32} (eC : F_X5_expectCourt (F_X5_expectWord 0 pl t (F_X5_advance 0 t a) K S E tx 9).1 (F_X5_expectWord 0 pl t (F_X5_advance 0 t a) K S E tx 9).2.1 t (F_X5_expectWord 0 pl t (F_X5_advance 0 t a) K S E tx 9).2.2 K S V co = C) : F_X5_readPerson 0 pl t a sc K S E V tx ho co pe st told sp9 sc9 = L_X5_readPerson_1 K S E tx t ho V co pe (K_X5_readPerson_1_0 K S E tx pe sc st sp9 sc9 t V co) (K_X5_readPerson_1_1 K S E tx pe sc st sp9 sc9 t V co) (K_X5_readPerson_1_2 K S E tx pe sc st sp9 sc9 t V co) 50 0 0 C.2.1 C.2.2.1 C.2.2.2 (F_X5_placeFrom 0 C.1 ho pe told) := by
  subst eC
  unfold F_X5_readPerson
  rw [if_pos hpe]
  simp only [↓zL_p]
theorem zLn_person {tx : Nat → Int32} {n t m9 : Nat} {K S E V sp9 sc9 told rst rpe rh rc at0 : Nat → Int32} (h : zTx9 tx n t K S E V) {k : Nat} {at_ tk rp vl bp pl ho co pe sc st : Int32} {wd : Int64} (hy : zSy tx n t K S E V k at_ tk rp vl wd) (hm9 : m9 ≤ k) (hpl : pl = -1) (h0 : ¬ tk = 0) (hho : 0 ≤ ho.toInt ∧ ho.toInt ≤ 48) (hco : 1 ≤ co.toInt ∧ co.toInt ≤ 10) (hpe : 0 ≤ pe.toInt ∧ pe.toInt ≤ 9) (hcp : zCp 4 ho co pe told at0) (hcs : zCs 4 co pe st sp9 sc9 rst) (hsc : 0 ≤ sc.toInt ∧ sc.toInt ≤ 4) (erh : rh 4 = ho) (erc : rc 4 = co) (erp : rpe 4 = pe) {A : Int32 × Int32 × Int32 × Int32 × Int32 × Int32 × (Nat → Int32) × (Nat → Int32) × (Nat → Int32)} (eA : A = F_X5_readPerson 0 pl (nI t) (nI k) sc K S E V tx ho co pe st told sp9 sc9) {N : Int32 × Int32 × Int32 × Int32 × Int64} (eN : N = F_X10_next (nI n) at_ tx) {Q : Int32 × Int32 × Int32 × Int32 × Int64 × Int32 × Int32 × Int32 × (Nat → Int32) × (Nat → Int32) × (Nat → Int32)} (eQ : Q = F_X10_personLine (nI n) N.1 N.2.1 N.2.2.1 N.2.2.2.1 N.2.2.2.2 0 bp sc tx rh rc rpe at0 rst) : zSim tx n t K S E V m9 A.1 A.2.1 A.2.2.1 Q.1 Q.2.1 Q.2.2.1 Q.2.2.2.1 Q.2.2.2.2.1 Q.2.2.2.2.2.1 Q.2.2.2.2.2.2.1 ∧ A.2.2.2.2.1 = pe + 1 ∧ Q.2.2.2.2.2.2.2.2.1 = upd rpe 4 (pe + 1) ∧ (A.1 = 0 → A.2.2.2.1 = Q.2.2.2.2.2.2.2.1 ∧ 0 ≤ A.2.2.2.1.toInt ∧ A.2.2.2.1.toInt ≤ 4) ∧ (A.1 = 0 → zCp 4 ho co (pe + 1) A.2.2.2.2.2.2.1 Q.2.2.2.2.2.2.2.2.2.1 ∧ zCs 4 co (pe + 1) A.2.2.2.2.2.1 A.2.2.2.2.2.2.2.1 A.2.2.2.2.2.2.2.2 Q.2.2.2.2.2.2.2.2.2.2) ∧ zAl 1920 at0 Q.2.2.2.2.2.2.2.2.2.1 ∧ zAl 80 rst Q.2.2.2.2.2.2.2.2.2.2 := by
  obtain ⟨k9, hk9, epe, ipe⟩ := zc_nat (x := pe) (m := 9) hpe.1 hpe.2 (by decide)
  have ex2 : (40 : Int32) + pe = nI (40 + k9) := by rw [epe, show (40 : Int32) = nI 40 from by decide, nI_add]
  have s0 := zSim.step (bp := bp) (pl := pl) h hy hm9 hpl h0
  rw [← eN] at s0
  have s1 := s0.word h (wi := 9) (by decide) zWq.2.2.2.2.1
  have s2 := s1.1.court h (co := co) (by omega)
  generalize eR : F_X10_number 0 (co - 1) (nI n) (F_X10_asks 47 (nI n) N.1 N.2.1 N.2.2.1 N.2.2.2.1 N.2.2.2.2 0 bp tx).1 (F_X10_asks 47 (nI n) N.1 N.2.1 N.2.2.1 N.2.2.2.1 N.2.2.2.2 0 bp tx).2.1 (F_X10_asks 47 (nI n) N.1 N.2.1 N.2.2.1 N.2.2.2.1 N.2.2.2.2 0 bp tx).2.2.1 (F_X10_asks 47 (nI n) N.1 N.2.1 N.2.2.1 N.2.2.2.1 N.2.2.2.2 0 bp tx).2.2.2.1 (F_X10_asks 47 (nI n) N.1 N.2.1 N.2.2.1 N.2.2.2.1 N.2.2.2.2 0 bp tx).2.2.2.2.1 (F_X10_asks 47 (nI n) N.1 N.2.1 N.2.2.1 N.2.2.2.1 N.2.2.2.2 0 bp tx).2.2.2.2.2.1 (F_X10_asks 47 (nI n) N.1 N.2.1 N.2.2.1 N.2.2.2.1 N.2.2.2.2 0 bp tx).2.2.2.2.2.2 tx = R at s2
  generalize eC : F_X5_expectCourt (F_X5_expectWord 0 pl (nI t) (F_X5_advance 0 (nI t) (nI k)) K S E tx 9).1 (F_X5_expectWord 0 pl (nI t) (F_X5_advance 0 (nI t) (nI k)) K S E tx 9).2.1 (nI t) (F_X5_expectWord 0 pl (nI t) (F_X5_advance 0 (nI t) (nI k)) K S E tx 9).2.2 K S V co = C at s2
  rw [kPL erc erp (kNum_.trans eR)] at eQ
  rw [cPL (Int32.lt_iff_toInt_lt.mpr (by rw [zN_10]; omega)) eC] at eA
  obtain ⟨v, g', hg, hf1, hf2⟩ := zFill1 (x2 := 40 + pe) ex2 (by omega) (r := R.1) (kc := K_X10_personLine_1_0 (nI n) tx rh rc co (40 + pe) rst rpe pe sc R.1 R.2.1 R.2.2.1 R.2.2.2.1 R.2.2.2.2.1 R.2.2.2.2.2.1 R.2.2.2.2.2.2.1 R.2.2.2.2.2.2.2) 50 0 at0 (by omega) (by omega)
  rw [show (nI 0 : Int32) = 0 from nI_0] at hg
  rw [hg] at eQ
  have hPT : C.2.1 = 0 → zPT k9 ho co told at0 (F_X5_placeFrom 0 C.1 ho pe told) g' := fun z => by
    have z2 := s2.2 z
    obtain ⟨nh, hnh, enh, inh⟩ := zc_nat (x := ho) (m := 48) hho.1 hho.2 (by decide)
    obtain ⟨q1, q2⟩ := zPlaceF (c := C.1) (x := 0) (m := 0) enh hnh epe hk9 nI_0.symm (by omega) told
    refine ⟨fun j hj => q1 j (by omega), fun j hj => hf1 j (by omega), fun j hj => ?_⟩
    rw [q2 j (by omega) (by omega), show 480 * 4 + 48 * k9 + j = 48 * (40 + k9) + j by omega, hf2 j (by omega) (by omega)]
    exact ⟨z2.2.1, z2.2.2⟩
  have hl := zPer (x2 := 40 + pe) (pe := pe) (rc := rc) h epe hk9 ex2 (T0 := told) (A0 := at0) hho (by omega) erh (kcR := K_X10_personLine_2_0 (40 + pe) rst rpe pe sc (nI n) tx rc co) (k0 := K_X5_readPerson_1_0 K S E tx pe sc st sp9 sc9 (nI t) V co) (k1 := K_X5_readPerson_1_1 K S E tx pe sc st sp9 sc9 (nI t) V co) (k2 := K_X5_readPerson_1_2 K S E tx pe sc st sp9 sc9 (nI t) V co) (fun _ _ _ _ => rfl) (fun _ _ _ => rfl) 50 0 116005 0 0 C.2.1 C.2.2.1 C.2.2.2 (F_X5_placeFrom 0 C.1 ho pe told) g' R.1 v R.2.1 R.2.2.1 R.2.2.2.1 R.2.2.2.2.1 R.2.2.2.2.2.1 R.2.2.2.2.2.2.1 R.2.2.2.2.2.2.2 (by omega) (by omega) (by omega) s2.1 (fun _ => ⟨rfl, by rw [zN_0]; omega, by rw [zN_0]; omega⟩) hPT
  obtain ⟨fa', pl', a', told', at0', at', tk', rp', vl', wd', bad', bp', q1, q2, q3, q5, q6⟩ := hl
  rw [show (nI 0 : Int32) = 0 from nI_0] at q2
  rw [q2] at eA
  have q4 : K_X10_personLine_1_0 (nI n) tx rh rc co (40 + pe) rst rpe pe sc R.1 R.2.1 R.2.2.1 R.2.2.2.1 R.2.2.2.2.1 R.2.2.2.2.2.1 R.2.2.2.2.2.2.1 R.2.2.2.2.2.2.2 v g' = K_X10_personLine_2_0 (40 + pe) rst rpe pe sc (nI n) tx rc co tk' wd' bad' at' rp' vl' bp' at0' := by
    unfold K_X10_personLine_1_0
    exact q3
  rw [q4] at eQ
  obtain ⟨r1, r2, r3, r4, r5, r6, r7, r8⟩ := zStr h rfl hpe hcs hco hsc q1 eA eQ
  refine ⟨r1, r2, r3, r4, fun z => ⟨?_, r7 z⟩, fun j hj => by rw [r6]; exact (q6 j (by omega)).trans (hf1 j (by omega)), r8⟩
  rw [r5, r6]
  have hz : fa' = 0 := by
    rcases id q1 with ⟨w, -⟩ | ⟨w, -⟩
    · exact w
    · exact absurd z (by rw [eA]; unfold K_X5_readPerson_1_1; rw [if_neg w]; exact w)
  obtain ⟨p1, p2, p3⟩ := q5 hz
  exact zCp.new hcp ipe hk9 hho.2 p1 p2 p3
