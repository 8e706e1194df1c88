set_option linter.all false
/-! a person's line -/
theorem rTk {c wd : Int64} {n at_ tk rp vl bad : Int32} {tx : Nat → Int32} : F_X10_takes c n at_ tk rp vl wd bad tx = if bad = 0 ∧ tk = 1 ∧ wd = c then (1, (F_X10_next n at_ tx).1, (F_X10_next n at_ tx).2.1, (F_X10_next n at_ tx).2.2.1, (F_X10_next n at_ tx).2.2.2.1, (F_X10_next n at_ tx).2.2.2.2) else (0, at_, tk, rp, vl, wd) := by
  unfold F_X10_takes
  simp only [zL]
  rcases zJis (c := c) (wd := wd) (tk := tk) (bad := bad) with ⟨j, h1, h2, h3⟩ | ⟨j, h⟩
  · rw [j, if_neg (show ¬ (1 : Int32) = 0 by decide), if_pos ⟨h1, h2, h3⟩]
  · rw [j, if_pos (show (0 : Int32) = 0 from rfl), if_neg (fun z => h.elim (fun y => y z.1) (fun y => y z.2))]
theorem zFill1 {x2 r : Int32} {q : Nat} (ex : x2 = nI q) (hq : q ≤ 49) {kc : Int32 → (Nat → Int32) → Int32 × Int32 × Int32 × Int32 × Int64 × Int32 × Int32 × Int32 × (Nat → Int32) × (Nat → Int32) × (Nat → Int32)} : ∀ (f m : Nat) (g : Nat → Int32), 48 - m < f → m ≤ 48 → ∃ (v : Int32) (g' : Nat → Int32), L_X10_personLine_1 x2 r kc f (nI m) g = kc v g' ∧ (∀ j : Nat, (j < 48 * q + m ∨ 48 * q + 48 ≤ j) → g' j = g j) ∧ ∀ j : Nat, m ≤ j → j < 48 → g' (48 * q + j) = r := by
  intro f
  induction f with
  | zero => intro m g h; omega
  | succ f ih =>
    intro m g hf hm
    rw [L_X10_personLine_1_s]
    unfold B_X10_personLine_1
    simp only [zL]
    try simp only [zn_inc]
    rw [show (48 : Int32) = nI 48 from by decide]
    have ei : (nI 48 * x2 + nI m).toNatClampNeg = 48 * q + m := by rw [ex, pk_mul, nI_add, nI_clamp (by omega)]
    rcases Nat.lt_or_ge m 48 with w | w
    · rw [if_neg (nI_ge w (by omega)), ei]
      obtain ⟨v, g', h1, h2, h3⟩ := ih (m + 1) (upd g (48 * q + m) r) (by omega) (by omega)
      refine ⟨v, g', h1, fun j hj => ?_, fun j a b => ?_⟩
      · rw [h2 j (by omega), pk_un (show j ≠ 48 * q + m by omega)]
      · rcases Nat.lt_or_ge m j with y | y
        · exact h3 j y b
        · rw [show j = m by omega, h2 (48 * q + m) (by omega), pk_us]
    · rw [if_pos (nI_le w (by omega))]
      exact ⟨_, g, rfl, fun j _ => rfl, fun j a b => absurd b (by omega)⟩
theorem zFill3 {x2 r b : Int32} {q : Nat} (ex : x2 = nI q) (hq : q ≤ 49) {kc0 kc1 : (Nat → Int32) → Int32 × Int32 × Int32 × Int32 × Int64 × Int32 × Int32 × Int32 × (Nat → Int32) × (Nat → Int32) × (Nat → Int32)} (hkk : ∀ g, kc1 g = kc0 g) : ∀ (f : Nat) (v : Int32) (g : Nat → Int32), 0 < f → 0 ≤ v.toInt → 48 - v.toInt < (f : Int) → ∃ g' : Nat → Int32, L_X10_personLine_3 b x2 r kc0 kc1 f v g = kc0 g' ∧ (∀ j : Nat, j < 48 * q → g' j = g j) ∧ (b = 0 → (∀ j : Nat, ((j : Int) < 48 * q + v.toInt ∨ 48 * q + 48 ≤ j) → g' j = g j) ∧ ∀ j : Nat, v.toInt ≤ (j : Int) → j < 48 → g' (48 * q + j) = r) := by
  intro f
  induction f with
  | zero =>
    intro v g hp
    exact absurd hp (by omega)
  | succ f ih =>
    intro v g hp h0 hf
    rw [L_X10_personLine_3_s]
    unfold B_X10_personLine_3
    simp only [zL]
    by_cases w : (48 : Int32) ≤ v
    · have w' := Int32.le_iff_toInt_le.mp w
      rw [show Int32.toInt 48 = 48 from by decide] at w'
      rw [if_pos w]
      exact ⟨g, rfl, fun _ _ => rfl, fun _ => ⟨fun j _ => rfl, fun j a b => absurd a (by omega)⟩⟩
    · rw [if_neg w]
      have w' := mt Int32.le_iff_toInt_le.mpr w
      rw [show Int32.toInt 48 = 48 from by decide] at w'
      have hv : (v + Int32.ofInt 1).toInt = v.toInt + 1 := zi_add rfl (show (Int32.ofInt 1).toInt = 1 from by decide) (by omega)
      obtain ⟨m, hm, em, im⟩ := zc_nat (x := v) (m := 47) h0 (by omega) (by decide)
      have ei : ((48 : Int32) * x2 + v).toNatClampNeg = 48 * q + m := by rw [ex, em, show (48 : Int32) = nI 48 from by decide, pk_mul, nI_add, nI_clamp (by omega)]
      rw [ei]
      by_cases hb : b = 0
      · rw [if_neg (show ¬ F_X10_isGood_v1 b = 0 by rw [zJgood, if_pos hb]; decide)]
        obtain ⟨g', h1, h9, h2⟩ := ih (v + Int32.ofInt 1) (upd g (48 * q + m) r) (by omega) (by omega) (by omega)
        refine ⟨g', h1, fun j hj => by rw [h9 j hj, pk_un (show j ≠ 48 * q + m by omega)], fun _ => ⟨fun j hj => ?_, fun j a c => ?_⟩⟩
        · rw [(h2 hb).1 j (by omega), pk_un (show j ≠ 48 * q + m by omega)]
        · rcases Nat.lt_or_ge m j with y | y
          · exact (h2 hb).2 j (by omega) c
          · rw [show j = m by omega, (h2 hb).1 (48 * q + m) (by omega), pk_us]
      · rw [if_pos (show F_X10_isGood_v1 b = 0 by rw [zJgood, if_neg hb])]
        exact ⟨g, hkk _, fun _ _ => rfl, fun z => absurd z hb⟩
/-- a person's hours while they are read -/
def zPT (k9 : Nat) (ho co : Int32) (T0 A0 told at0 : Nat → Int32) : Prop := (∀ j : Nat, j < 48 * k9 → told j = T0 j) ∧ (∀ j : Nat, j < 480 * 4 + 48 * k9 → at0 j = A0 j) ∧ ∀ j : Nat, (j : Int) < ho.toInt → told (48 * k9 + j) = at0 (480 * 4 + 48 * k9 + j) ∧ 0 ≤ (told (48 * k9 + j)).toInt ∧ (told (48 * k9 + j)).toInt < co.toInt
theorem zPer {tx : Nat → Int32} {n t m9 : Nat} {K S E V : Nat → Int32} (h : zTx9 tx n t K S E V) {ho co pe x2 : Int32} {k9 : Nat} (epe : pe = nI k9) (hk9 : k9 ≤ 9) (ex2 : x2 = nI (40 + k9)) {T0 A0 : Nat → Int32} {rh rc : Nat → Int32} (hho : 0 ≤ ho.toInt ∧ ho.toInt ≤ 48) (hco : 0 ≤ co.toInt ∧ co.toInt ≤ 10) (erh : rh 4 = ho) {kcR : Int32 → Int64 → Int32 → Int32 → Int32 → Int32 → Int32 → (Nat → Int32) → Int32 × Int32 × Int32 × Int32 × Int64 × Int32 × Int32 × Int32 × (Nat → Int32) × (Nat → Int32) × (Nat → Int32)} {k0 k1 k2 : Int32 → Int32 → Int32 → (Nat → Int32) → Int32 × Int32 × Int32 × Int32 × Int32 × Int32 × (Nat → Int32) × (Nat → Int32) × (Nat → Int32)} (hk : ∀ fa a pl told, k0 fa a pl told = k1 fa a pl told) (hk2 : ∀ a pl told, k2 a 0 pl told = k1 0 a pl told) : ∀ (f turn fR : Nat) (fr lr fa pl a : Int32) (told at0 : Nat → Int32) (v2 v4 at_ tk rp vl : Int32) (wd : Int64) (bad bp : Int32), 48 - turn < f → turn ≤ 48 → 49 - turn < fR → zSim tx n t K S E V m9 fa pl a at_ tk rp vl wd bad bp → (fa = 0 → fr = lr ∧ (turn : Int) ≤ fr.toInt ∧ fr.toInt ≤ 47) → (fa = 0 → zPT k9 ho co T0 A0 told at0) → ∃ (fa' pl' a' : Int32) (told' at0' : Nat → Int32) (at' tk' rp' vl' : Int32) (wd' : Int64) (bad' bp' : Int32), zSim tx n t K S E V m9 fa' pl' a' at' tk' rp' vl' wd' bad' bp' ∧ L_X5_readPerson_1 K S E tx (nI t) ho V co pe k0 k1 k2 f fr (nI turn) fa pl a told = k1 fa' a' pl' told' ∧ L_X10_personLine_2 (nI n) tx rh rc co x2 kcR fR v2 lr v4 at0 at_ tk rp vl wd bad bp = kcR tk' wd' bad' at' rp' vl' bp' at0' ∧ (fa' = 0 → zPT k9 ho co T0 A0 told' at0') ∧ (∀ j : Nat, j < 48 * (40 + k9) → at0' j = at0 j) := by
  intro f
  induction f with
  | zero => intro turn fR fr lr fa pl a told at0 v2 v4 at_ tk rp vl wd bad bp h1; omega
  | succ f ih =>
    intro turn fR fr lr fa pl a told at0 v2 v4 at_ tk rp vl wd bad bp hf ht hR hs hfr hPT
    obtain ⟨fR, rfl⟩ : ∃ m : Nat, fR = m + 1 := ⟨fR - 1, by omega⟩
    have c4 : Int32.toNatClampNeg 4 = 4 := by decide
    rw [L_X5_readPerson_1_s, L_X10_personLine_2_s]
    unfold B_X5_readPerson_1 B_X10_personLine_2
    simp only [zL]
    try simp only [rTk, c4, erh, zn_inc]
    rcases id hs with ⟨rfl, rfl, hpl, k, hm9, rfl, hy⟩ | ⟨g1, g2, g3⟩
    · obtain ⟨rfl, hf1, hf2⟩ := hfr rfl
      rw [if_neg (show ¬ (48 : Int32) ≤ nI turn from by rw [show (48 : Int32) = nI 48 from by decide]; exact nI_ge (by omega) (by omega)), if_pos (show (0 : Int32) = 0 from rfl)]
      rcases hy.word h (wi := 10) (by decide) zWq.2.2.2.2.2.1 with ⟨w1, w2, w3⟩ | ⟨w1, w2⟩
      · have h0 : ¬ tk = 0 := by rw [w2]; decide
        rw [w1, if_neg (show ¬ (1 : Int32) = 0 by decide)]
        simp only [true_and, if_pos (And.intro w2 w3), if_neg (show ¬ (1 : Int32) = 0 by decide), if_true, if_false]
        have s0 := zSim.step (bp := bp) (pl := pl) h hy hm9 hpl h0
        have b1 : (fr + 1).toInt = fr.toInt + 1 := zc_add1 (by omega)
        have b2 : (ho - 1).toInt = ho.toInt - 1 := zc_sub1 (by omega)
        have s1 := s0.num h (lo := fr + 1) (hi := ho - 1) (by omega)
        have s2 := s1.1.word h (wi := 9) (by decide) zWq.2.2.2.2.1
        have s3 := s2.1.court h (co := co) hco
        unfold F_X10_number_
        simp only [zL]
        have hlo : 0 ≤ (F_X10_number (fr + 1) (ho - 1) (nI n) (F_X10_next (nI n) at_ tx).1 (F_X10_next (nI n) at_ tx).2.1 (F_X10_next (nI n) at_ tx).2.2.1 (F_X10_next (nI n) at_ tx).2.2.2.1 (F_X10_next (nI n) at_ tx).2.2.2.2 0 bp tx).1.toInt := by
          rw [rNu]
          split
          · split
            · split
              · rename_i z; show 0 ≤ (F_X10_next (nI n) at_ tx).2.2.2.1.toInt; omega
              · show 0 ≤ (fr + 1).toInt; omega
            · show 0 ≤ (fr + 1).toInt; omega
          · show 0 ≤ (fr + 1).toInt; omega
        generalize eR1 : F_X10_number (fr + 1) (ho - 1) (nI n) (F_X10_next (nI n) at_ tx).1 (F_X10_next (nI n) at_ tx).2.1 (F_X10_next (nI n) at_ tx).2.2.1 (F_X10_next (nI n) at_ tx).2.2.2.1 (F_X10_next (nI n) at_ tx).2.2.2.2 0 bp tx = R1 at s1 s2 s3 hlo ⊢
        generalize eC1 : F_X5_expectNumber (fr + 1) (ho - 1) 0 pl (nI t) (F_X5_advance 0 (nI t) (nI k)) K S V = C1 at s1 s2 s3 ⊢
        generalize eR2 : F_X10_asks 47 (nI n) R1.2.1 R1.2.2.1 R1.2.2.2.1 R1.2.2.2.2.1 R1.2.2.2.2.2.1 R1.2.2.2.2.2.2.1 R1.2.2.2.2.2.2.2 tx = R2 at s2 s3 ⊢
        generalize eC2 : F_X5_expectWord C1.2.1 C1.2.2.1 (nI t) C1.2.2.2 K S E tx 9 = C2 at s2 s3 ⊢
        generalize eR3 : F_X10_number 0 (co - 1) (nI n) R2.1 R2.2.1 R2.2.2.1 R2.2.2.2.1 R2.2.2.2.2.1 R2.2.2.2.2.2.1 R2.2.2.2.2.2.2 tx = R3 at s3 ⊢
        generalize eC3 : F_X5_expectCourt C2.1 C2.2.1 (nI t) C2.2.2 K S V co = C3 at s3 ⊢
        have hz : C3.2.1 = 0 → C1.1 = R1.1 ∧ ((turn + 1 : Nat) : Int) ≤ C1.1.toInt ∧ C1.1.toInt ≤ 47 := fun z => by
          have z2 := (s3.2 z).1
          have z1 := s1.2 (s2.2 z2)
          refine ⟨z1.2.1, ?_, ?_⟩
          · have := z1.2.2.1; omega
          · have := z1.2.2.2; omega
        obtain ⟨g', hg, hal, hfill⟩ := zFill3 ex2 (by omega) (x2 := x2) (r := R3.1) (b := R3.2.2.2.2.2.2.1) (kc0 := K_X10_personLine_3_0 (L_X10_personLine_2 (nI n) tx rh rc co x2 kcR fR) R3.1 R1.1 R3.2.1 R3.2.2.1 R3.2.2.2.1 R3.2.2.2.2.1 R3.2.2.2.2.2.1 R3.2.2.2.2.2.2.1 R3.2.2.2.2.2.2.2) (kc1 := K_X10_personLine_3_1 (L_X10_personLine_2 (nI n) tx rh rc co x2 kcR fR) R3.1 R1.1 R3.2.1 R3.2.2.1 R3.2.2.2.1 R3.2.2.2.2.1 R3.2.2.2.2.2.1 R3.2.2.2.2.2.2.1 R3.2.2.2.2.2.2.2) (fun _ => rfl) 49 R1.1 at0 (by omega) hlo (by omega)
        rw [hg]
        obtain ⟨nh, hnh, enh, inh⟩ := zc_nat (x := ho) (m := 48) hho.1 hho.2 (by decide)
        have hPT' : C3.2.1 = 0 → zPT k9 ho co T0 A0 (F_X5_placeFrom C1.1 C3.1 ho pe told) g' := fun z => by
          have z3 := s3.2 z
          have z1 := s1.2 (s2.2 z3.1)
          obtain ⟨p1, p2, p3⟩ := hPT rfl
          obtain ⟨mm, hmm, emm, imm⟩ := zc_nat (x := C1.1) (m := 47) (by have := z1.2.2.1; omega) (by have := z1.2.2.2; omega) (by decide)
          obtain ⟨q1, q2⟩ := zPlaceF (c := C3.1) enh hnh epe hk9 emm (by omega) told
          obtain ⟨w1, w2⟩ := hfill (zSim.bad s3.1 z)
          have er : R1.1.toInt = (mm : Int) := by rw [← z1.2.1]; exact imm
          refine ⟨fun j hj => by rw [q1 j (by omega)]; exact p1 j hj, fun j hj => by rw [w1 j (by omega)]; exact p2 j hj, fun j hj => ?_⟩
          rcases Nat.lt_or_ge j mm with y | y
          · rw [q1 (48 * k9 + j) (by omega), w1 (480 * 4 + 48 * k9 + j) (by omega)]
            exact p3 j hj
          · rw [q2 j y (by omega), show 480 * 4 + 48 * k9 + j = 48 * (40 + k9) + j by omega, w2 j (by omega) (by omega)]
            exact ⟨z3.2.1, z3.2.2⟩
        obtain ⟨w1, w2, w3, w4, w5, w6, w7, w8, w9, w10, w11, w12, y1, y2, y3, y4, y5⟩ := ih (turn + 1) fR C1.1 R1.1 C3.2.1 C3.2.2.1 C3.2.2.2 _ g' R3.1 R1.1 R3.2.1 R3.2.2.1 R3.2.2.2.1 R3.2.2.2.2.1 R3.2.2.2.2.2.1 R3.2.2.2.2.2.2.1 R3.2.2.2.2.2.2.2 (by omega) (by omega) (by omega) s3.1 hz hPT'
        exact ⟨w1, w2, w3, w4, w5, w6, w7, w8, w9, w10, w11, w12, y1, y2, y3, y4, fun j hj => (y5 j hj).trans (hal j hj)⟩
      · rw [w1, if_pos (show (0 : Int32) = 0 from rfl)]
        simp only [true_and, if_neg w2, if_pos (show (0 : Int32) = 0 from rfl), if_true, if_false]
        exact ⟨0, pl, nI k, told, at0, at_, tk, rp, vl, wd, 0, bp, hs, hk2 _ _ _, rfl, hPT, fun _ _ => rfl⟩
    · have hb : ¬ bad = 0 := by rw [g2]; exact g1
      simp only [if_neg g1, if_neg (show ¬ (bad = 0 ∧ tk = 1 ∧ wd = 131638) from fun z => hb z.1), if_pos (show (0 : Int32) = 0 from rfl), if_true, if_false]
      refine ⟨fa, pl, a, told, at0, at_, tk, rp, vl, wd, bad, bp, hs, ?_, rfl, hPT, fun _ _ => rfl⟩
      split
      · exact hk _ _ _ _
      · rfl
