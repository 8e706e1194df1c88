set_option linter.all false
/-! both readers, line by line -/
theorem zLoop {tx : Nat → Int32} {n t : Nat} {K S E V : Nat → Int32} (h : zTx9 tx n t K S E V) {k0 k1 k2 : Int32 → Int32 → (Nat → Int32) → Int32 → Int32 → Int32 → Int32 → Int32 → Int32 → Int32 → Int32 → Int32 → Int32 → Int32 → Int32 → (Nat → Int32) → (Nat → Int32) → (Nat → Int32) → (Nat → Int32) → (Nat → Int32) → (Nat → Int32) → (Nat → Int32) → (Nat → Int32) → Int32 × Int32 × Int32 × Int32 × Int32 × Int32 × Int32 × (Nat → Int32) × (Nat → Int32) × (Nat → Int32) × (Nat → Int32) × Int32 × Int32 × Int32 × Int32 × Int32 × Int32 × Int32 × Int32 × (Nat → Int32) × (Nat → Int32) × (Nat → Int32) × (Nat → Int32) × (Nat → Int32) × (Nat → Int32) × (Nat → Int32) × (Nat → Int32) × (Nat → Int32) × (Nat → Int32)} (hk0 : k0 = k1) (hk2 : k2 = k1) {r0 r1 : Int32 → Int32 → (Nat → Int32) → (Nat → Int32) → (Nat → Int32) → (Nat → Int32) → (Nat → Int32) → (Nat → Int32) → (Nat → Int32) → (Nat → Int32) → (Nat → Int32) → (Nat → Int32) → Int32 → Int32 → Int32 → Int32 → Int64 → Int32 → (Nat → Int32) → Int32 × Int32 × Int32 × Int32 × Int32 × Int32 × Int32 × Int64 × Int32 × Int32 × Int32 × Int32 × Int32 × (Nat → Int32) × (Nat → Int32) × (Nat → Int32) × (Nat → Int32) × (Nat → Int32) × (Nat → Int32) × (Nat → Int32) × (Nat → Int32) × (Nat → Int32) × (Nat → Int32) × (Nat → Int32) × (Nat → Int32) × (Nat → Int32)} (hr : r0 = r1) {bl bh bc bg bp9 bi bt9 ba bs b9 : Nat → Int32} : ∀ (f turn fR : Nat) (fa pl a sc lt ft ho co ga pe li fh st de : Int32) (ab dr dg nb oe ot td sp sx : Nat → Int32) (rgt ra0 rl rh rc rin rg rpe rst rs ro : Nat → Int32) (at_ tk rp vl : Int32) (wd : Int64) (bad bp rsy : Int32), 1600 - turn < f → turn ≤ 1600 → t + 1 - turn < fR → zSim tx n t K S E V turn fa pl a at_ tk rp vl wd bad bp → li = nI turn → rl 4 = nI turn → (¬ turn = 0 → zSc fa sc lt ft ho co ga pe rsy rh rc rg rpe ro) → (¬ turn = 0 → (fa = 0 → zTct 4 ho co ga pe fh st de ab oe ot td sp sx rin rgt ra0 rst rs)) → (fa = 0 → turn = 0 → ga = rg 4 ∧ pe = rpe 4 ∧ sc = rsy ∧ lt = ro 8 ∧ ft = ro 9 ∧ rc 4 = 1 ∧ ga = 0 ∧ pe = 0 ∧ sc = 0 ∧ lt = 0 ∧ ft = 0) → (fa = 0 → turn = 0 → ab 0 = 0 ∧ rin 40 = -1 ∧ (∀ p : Nat, p < 32 → sp p = 0 ∧ sx p = 0 ∧ bt st p = false) ∧ rs 8 = 1 ∧ fh = rs 9 ∧ ho = 0 ∧ co = 0 ∧ de = 0 ∧ rh 4 = 0) → zLo bl bh bc bg bp9 bi bt9 ba bs b9 rl rh rc rg rpe rin rgt ra0 rst rs → ∃ (tn : Nat) (fa' pl' a' sc' lt' ft' ho' co' ga' pe' li' fh' st' de' : Int32) (ab' dr' dg' nb' oe' ot' td' sp' sx' : Nat → Int32) (rgt' ra0' rl' rh' rc' rin' rg' rpe' rst' rs' ro' : Nat → Int32) (at_' tk' rp' vl' : Int32) (wd' : Int64) (bad' bp' rsy' : Int32), tn ≤ 1600 ∧ zSim tx n t K S E V tn fa' pl' a' at_' tk' rp' vl' wd' bad' bp' ∧ li' = nI tn ∧ rl' 4 = nI tn ∧ (¬ tn = 0 → zSc fa' sc' lt' ft' ho' co' ga' pe' rsy' rh' rc' rg' rpe' ro') ∧ (¬ tn = 0 → (fa' = 0 → zTct 4 ho' co' ga' pe' fh' st' de' ab' oe' ot' td' sp' sx' rin' rgt' ra0' rst' rs')) ∧ (fa' = 0 → tn = 0 → ga' = rg' 4 ∧ pe' = rpe' 4 ∧ sc' = rsy' ∧ lt' = ro' 8 ∧ ft' = ro' 9 ∧ rc' 4 = 1 ∧ ga' = 0 ∧ pe' = 0 ∧ sc' = 0 ∧ lt' = 0 ∧ ft' = 0) ∧ (fa' = 0 → tn = 0 → ab' 0 = 0 ∧ rin' 40 = -1 ∧ (∀ p : Nat, p < 32 → sp' p = 0 ∧ sx' p = 0 ∧ bt st' p = false) ∧ rs' 8 = 1 ∧ fh' = rs' 9 ∧ ho' = 0 ∧ co' = 0 ∧ de' = 0 ∧ rh' 4 = 0) ∧ (fa' = 0 → tk' = 0) ∧ L_X5_read_1 K (nI t) S E V tx k0 k1 k2 f (nI turn) fa pl a sc lt ft ho co ga pe li fh st de ab dr dg nb oe ot td sp sx = k1 co' de' ab' fa' pl' a' sc' lt' ft' ho' ga' pe' li' fh' st' dr' dg' nb' oe' ot' td' sp' sx' ∧ L_X10_town_1 (nI n) tx r0 r1 fR rgt ra0 rl rh rc rin rg rpe rst rs ro at_ tk rp vl wd bad bp rsy = r1 bad' bp' rl' rc' rs' rh' rin' rg' rgt' rpe' ra0' rst' at_' tk' rp' vl' wd' rsy' ro' ∧ zLo bl bh bc bg bp9 bi bt9 ba bs b9 rl' rh' rc' rg' rpe' rin' rgt' ra0' rst' rs' := by
  intro f
  induction f with
  | zero => intro turn fR fa pl a sc lt ft ho co ga pe li fh st de ab dr dg nb oe ot td sp sx rgt ra0 rl rh rc rin rg rpe rst rs ro at_ tk rp vl wd bad bp rsy h1; omega
  | succ f ih =>
    intro turn fR fa pl a sc lt ft ho co ga pe li fh st de ab dr dg nb oe ot td sp sx rgt ra0 rl rh rc rin rg rpe rst rs ro at_ tk rp vl wd bad bp rsy hf ht hR hs hli hrl hS hC hS0 hS1 hLo
    obtain ⟨fR, rfl⟩ : ∃ m : Nat, fR = m + 1 := ⟨fR - 1, by omega⟩
    have c4 : Int32.toNatClampNeg 4 = 4 := by decide
    subst hk0 hk2 hr
    rw [L_X5_read_1_s, L_X10_town_1_s]
    unfold B_X5_read_1 B_X10_town_1
    simp only [↓zL_p]
    try simp only [zJgood, c4, hrl, zn_inc, nI_1]
    rcases id hs with ⟨rfl, rfl, hpl, k, hk, rfl, hy⟩ | ⟨g1, g2, g3⟩
    · simp only [if_true, if_neg z10]
      rcases hy.kind h with ⟨k1', k2'⟩ | ⟨k1', k2'⟩
      · -- a line
        have hkt : k < t := by
          rcases hy.2.2 with ⟨y3, y4⟩ | ⟨y3, y4, y5⟩
          · exact y3
          · exact absurd y5 k2'
        have htn := h.2.1
        have hn := h.1
        have h5 : ¬ tk = 5 := by
          rcases hy.2.2 with ⟨y3, y4, y5, y6⟩ | ⟨y3, y4, y5⟩
          · rw [y5, ← (h.2.2.1.1 k y3).1.2.2.2.2.1]
            rcases zkd_r (tx (S k).toNatClampNeg) with z | z | z | z | z <;> rw [z] <;> decide
          · exact absurd y5 k2'
        rw [k1', if_neg (show ¬ (1600 : Int32) ≤ nI turn by rw [show (1600 : Int32) = nI 1600 from by decide]; exact nI_ge (by omega) (by omega)), if_neg h5, if_neg k2']
        rcases Nat.eq_zero_or_pos turn with e0 | e0
        · -- the first
          subst e0
          rw [show (nI 0 : Int32) = 0 from nI_0] at hli hrl ⊢
          subst hli
          rw [if_pos (show (0 : Int32) = 0 from rfl)]
          obtain ⟨u1, u2, u3, u4, u5, u6, u7, u8, u9, u10, u11⟩ := hS0 rfl rfl
          have z1 := zLn_hours h hs rfl rfl rfl
          have z := z1.1.tail h
          have hR : F_X5_readLine 0 pl (nI t) (nI k) sc lt ft K S E V tx ho co ga pe 0 fh st de ab dr dg nb oe ot td sp sx = ((zCe (F_X5_readHours 0 pl (nI t) (nI k) K S E V tx).1 (F_X5_readHours 0 pl (nI t) (nI k) K S E V tx).2.1 (F_X5_readHours 0 pl (nI t) (nI k) K S E V tx).2.2.1 (nI t) K S).1, (zCe (F_X5_readHours 0 pl (nI t) (nI k) K S E V tx).1 (F_X5_readHours 0 pl (nI t) (nI k) K S E V tx).2.1 (F_X5_readHours 0 pl (nI t) (nI k) K S E V tx).2.2.1 (nI t) K S).2.1, (zCe (F_X5_readHours 0 pl (nI t) (nI k) K S E V tx).1 (F_X5_readHours 0 pl (nI t) (nI k) K S E V tx).2.1 (F_X5_readHours 0 pl (nI t) (nI k) K S E V tx).2.2.1 (nI t) K S).2.2, sc, lt, ft, (F_X5_readHours 0 pl (nI t) (nI k) K S E V tx).2.2.2.1, (F_X5_readHours 0 pl (nI t) (nI k) K S E V tx).2.2.2.2.1, ga, pe, 0 + 1, fh, st, (F_X5_readHours 0 pl (nI t) (nI k) K S E V tx).2.2.2.2.2, ab, dr, dg, nb, oe, ot, td, sp, sx) := by
            unfold F_X5_readLine
            simp only [↓zL_p]
            rw [if_true, cLn]
            rfl
          rw [hR]
          generalize eN : F_X10_asks 405230 (nI n) at_ tk rp vl wd 0 bp tx = N at z1 z ⊢
          generalize eQ : F_X10_number_ 4562587 1 48 (nI n) N.1 N.2.1 N.2.2.1 N.2.2.2.1 N.2.2.2.2.1 N.2.2.2.2.2.1 N.2.2.2.2.2.2 tx = Q at z1 z ⊢
          generalize eA : F_X5_readHours 0 pl (nI t) (nI k) K S E V tx = A9 at z1 z ⊢
          generalize eT : zRe (nI n) Q.2.1 Q.2.2.1 Q.2.2.2.1 Q.2.2.2.2.1 Q.2.2.2.2.2.1 Q.2.2.2.2.2.2.1 Q.2.2.2.2.2.2.2 tx = T at z
          generalize eZ : zCe A9.1 A9.2.1 A9.2.2.1 (nI t) K S = Z at z ⊢
          have hx : (if (if Q.2.2.2.2.2.2.1 = 0 then (1 : Int32) else 0) = 0 then L_X10_town_1 (nI n) tx r0 r0 fR rgt ra0 (upd rl 4 (nI (0 + 1))) (upd rh 4 Q.1) rc rin rg rpe rst rs ro Q.2.1 Q.2.2.1 Q.2.2.2.1 Q.2.2.2.2.1 Q.2.2.2.2.2.1 Q.2.2.2.2.2.2.1 Q.2.2.2.2.2.2.2 rsy else L_X10_town_1 (nI n) tx r0 r0 fR rgt ra0 (upd rl 4 (nI (0 + 1))) (upd rh 4 Q.1) rc rin rg rpe rst rs ro (F_X10_ends (nI n) Q.2.1 Q.2.2.1 Q.2.2.2.1 Q.2.2.2.2.1 Q.2.2.2.2.2.1 Q.2.2.2.2.2.2.1 Q.2.2.2.2.2.2.2 tx).1 (F_X10_ends (nI n) Q.2.1 Q.2.2.1 Q.2.2.2.1 Q.2.2.2.2.1 Q.2.2.2.2.2.1 Q.2.2.2.2.2.2.1 Q.2.2.2.2.2.2.2 tx).2.1 (F_X10_ends (nI n) Q.2.1 Q.2.2.1 Q.2.2.2.1 Q.2.2.2.2.1 Q.2.2.2.2.2.1 Q.2.2.2.2.2.2.1 Q.2.2.2.2.2.2.2 tx).2.2.1 (F_X10_ends (nI n) Q.2.1 Q.2.2.1 Q.2.2.2.1 Q.2.2.2.2.1 Q.2.2.2.2.2.1 Q.2.2.2.2.2.2.1 Q.2.2.2.2.2.2.2 tx).2.2.2.1 (F_X10_ends (nI n) Q.2.1 Q.2.2.1 Q.2.2.2.1 Q.2.2.2.2.1 Q.2.2.2.2.2.1 Q.2.2.2.2.2.2.1 Q.2.2.2.2.2.2.2 tx).2.2.2.2.1 (F_X10_ends (nI n) Q.2.1 Q.2.2.1 Q.2.2.2.1 Q.2.2.2.2.1 Q.2.2.2.2.2.1 Q.2.2.2.2.2.2.1 Q.2.2.2.2.2.2.2 tx).2.2.2.2.2.1 (F_X10_ends (nI n) Q.2.1 Q.2.2.1 Q.2.2.2.1 Q.2.2.2.2.1 Q.2.2.2.2.2.1 Q.2.2.2.2.2.2.1 Q.2.2.2.2.2.2.2 tx).2.2.2.2.2.2 rsy) = L_X10_town_1 (nI n) tx r0 r0 fR rgt ra0 (upd rl 4 (nI (0 + 1))) (upd rh 4 Q.1) rc rin rg rpe rst rs ro T.1 T.2.1 T.2.2.1 T.2.2.2.1 T.2.2.2.2.1 T.2.2.2.2.2.1 T.2.2.2.2.2.2 rsy := by
            rw [← eT]; unfold zRe; rw [zJgood]
            split <;> rfl
          rw [hx]
          refine ih 1 fR Z.1 Z.2.1 Z.2.2 sc lt ft A9.2.2.2.1 A9.2.2.2.2.1 ga pe (0 + 1) fh st A9.2.2.2.2.2 ab dr dg nb oe ot td sp sx rgt ra0 (upd rl 4 (nI (0 + 1))) (upd rh 4 Q.1) rc rin rg rpe rst rs ro T.1 T.2.1 T.2.2.1 T.2.2.2.1 T.2.2.2.2.1 T.2.2.2.2.2.1 T.2.2.2.2.2.2 rsy (by omega) (by omega) (by omega) z.1 (by decide) (by rw [pk_us]) (fun _ y => ?_) (fun _ y => ?_) (fun _ y => absurd y (by omega)) (fun _ y => absurd y (by omega)) hLo.hours
          · have y1 := z1.2.2.2 (z.2 y)
            refine ⟨?_, ?_, u1, u2, u3, u4, u5, ⟨Int.le_trans (by decide) y1.2.1, y1.2.2⟩, ?_, ?_, ?_, ?_, Or.inl u10, Or.inl u11⟩
            · rw [pk_us]; exact y1.1
            · rw [z1.2.1, u6]
            · rw [z1.2.1, zN_1]; omega
            · rw [u7, zN_0]; omega
            · rw [u8, zN_0]; omega
            · rw [u9, zN_0]; omega
          · obtain ⟨x1, x2, x3, x4, x5, -⟩ := hS1 rfl rfl
            refine ⟨⟨x1, fun _ => x2, fun c a b => ?_⟩, fun g hg => ?_, fun p j hp _ => ?_, ⟨fun p hp => ?_, fun p hp _ => x3 p hp⟩, ?_, x5, Or.inr z1.2.2.1⟩
            · rw [z1.2.1, zN_1] at b; omega
            · rw [u7, zN_0] at hg; omega
            · rw [u8, zN_0] at hp; omega
            · rw [u8, zN_0] at hp; omega
            · rw [z1.2.2.1]; exact x4.symm

        · -- another
          have hne : ¬ nI turn = 0 := nI_ne0 e0 (by omega)
          have hSS := hS (by omega)
          obtain ⟨v1, v2, v3, v4, v5, v6⟩ := hSS rfl
          subst v5
          subst hli
          rw [if_neg hne]
          have z := zLine (ab := ab) (dr := dr) (dg := dg) (nb := nb) (oe := oe) (ot := ot) (td := td) (sp := sp) (sx := sx) (rin := rin) (rgt := rgt) (ra0 := ra0) (rst := rst) (rs := rs) (fh := fh) (st := st) (de := de) (bp := bp) (pl := pl) h hy hk hpl k2' hne hSS (hC (by omega) rfl) rfl rfl rfl
          generalize eR : F_X5_readLine 0 pl (nI t) (nI k) sc lt ft K S E V tx ho co ga pe (nI turn) fh st de ab dr dg nb oe ot td sp sx = R at z ⊢
          generalize eQ : F_X10_line (nI n) at_ tk rp vl wd 0 bp sc tx rh rc rin rg rgt rpe ra0 rst rs ro = Q at z ⊢
          generalize eT : zRe (nI n) Q.1 Q.2.1 Q.2.2.1 Q.2.2.2.1 Q.2.2.2.2.1 Q.2.2.2.2.2.1 Q.2.2.2.2.2.2.1 tx = T at z
          have hx : (if (if Q.2.2.2.2.2.1 = 0 then (1 : Int32) else 0) = 0 then L_X10_town_1 (nI n) tx r0 r0 fR Q.2.2.2.2.2.2.2.2.2.2.2.1 Q.2.2.2.2.2.2.2.2.2.2.2.2.2.1 (upd rl 4 (nI (turn + 1))) rh Q.2.2.2.2.2.2.2.2.1 Q.2.2.2.2.2.2.2.2.2.1 Q.2.2.2.2.2.2.2.2.2.2.1 Q.2.2.2.2.2.2.2.2.2.2.2.2.1 Q.2.2.2.2.2.2.2.2.2.2.2.2.2.2.1 Q.2.2.2.2.2.2.2.2.2.2.2.2.2.2.2.1 Q.2.2.2.2.2.2.2.2.2.2.2.2.2.2.2.2 Q.1 Q.2.1 Q.2.2.1 Q.2.2.2.1 Q.2.2.2.2.1 Q.2.2.2.2.2.1 Q.2.2.2.2.2.2.1 Q.2.2.2.2.2.2.2.1 else L_X10_town_1 (nI n) tx r0 r0 fR Q.2.2.2.2.2.2.2.2.2.2.2.1 Q.2.2.2.2.2.2.2.2.2.2.2.2.2.1 (upd rl 4 (nI (turn + 1))) rh Q.2.2.2.2.2.2.2.2.1 Q.2.2.2.2.2.2.2.2.2.1 Q.2.2.2.2.2.2.2.2.2.2.1 Q.2.2.2.2.2.2.2.2.2.2.2.2.1 Q.2.2.2.2.2.2.2.2.2.2.2.2.2.2.1 Q.2.2.2.2.2.2.2.2.2.2.2.2.2.2.2.1 Q.2.2.2.2.2.2.2.2.2.2.2.2.2.2.2.2 (F_X10_ends (nI n) Q.1 Q.2.1 Q.2.2.1 Q.2.2.2.1 Q.2.2.2.2.1 Q.2.2.2.2.2.1 Q.2.2.2.2.2.2.1 tx).1 (F_X10_ends (nI n) Q.1 Q.2.1 Q.2.2.1 Q.2.2.2.1 Q.2.2.2.2.1 Q.2.2.2.2.2.1 Q.2.2.2.2.2.2.1 tx).2.1 (F_X10_ends (nI n) Q.1 Q.2.1 Q.2.2.1 Q.2.2.2.1 Q.2.2.2.2.1 Q.2.2.2.2.2.1 Q.2.2.2.2.2.2.1 tx).2.2.1 (F_X10_ends (nI n) Q.1 Q.2.1 Q.2.2.1 Q.2.2.2.1 Q.2.2.2.2.1 Q.2.2.2.2.2.1 Q.2.2.2.2.2.2.1 tx).2.2.2.1 (F_X10_ends (nI n) Q.1 Q.2.1 Q.2.2.1 Q.2.2.2.1 Q.2.2.2.2.1 Q.2.2.2.2.2.1 Q.2.2.2.2.2.2.1 tx).2.2.2.2.1 (F_X10_ends (nI n) Q.1 Q.2.1 Q.2.2.1 Q.2.2.2.1 Q.2.2.2.2.1 Q.2.2.2.2.2.1 Q.2.2.2.2.2.2.1 tx).2.2.2.2.2.1 (F_X10_ends (nI n) Q.1 Q.2.1 Q.2.2.1 Q.2.2.2.1 Q.2.2.2.2.1 Q.2.2.2.2.2.1 Q.2.2.2.2.2.2.1 tx).2.2.2.2.2.2 Q.2.2.2.2.2.2.2.1) = L_X10_town_1 (nI n) tx r0 r0 fR Q.2.2.2.2.2.2.2.2.2.2.2.1 Q.2.2.2.2.2.2.2.2.2.2.2.2.2.1 (upd rl 4 (nI (turn + 1))) rh Q.2.2.2.2.2.2.2.2.1 Q.2.2.2.2.2.2.2.2.2.1 Q.2.2.2.2.2.2.2.2.2.2.1 Q.2.2.2.2.2.2.2.2.2.2.2.2.1 Q.2.2.2.2.2.2.2.2.2.2.2.2.2.2.1 Q.2.2.2.2.2.2.2.2.2.2.2.2.2.2.2.1 Q.2.2.2.2.2.2.2.2.2.2.2.2.2.2.2.2 T.1 T.2.1 T.2.2.1 T.2.2.2.1 T.2.2.2.2.1 T.2.2.2.2.2.1 T.2.2.2.2.2.2 Q.2.2.2.2.2.2.2.1 := by
            rw [← eT]; unfold zRe; rw [zJgood]
            split <;> rfl
          rw [hx]
          exact ih (turn + 1) fR R.1 R.2.1 R.2.2.1 R.2.2.2.1 R.2.2.2.2.1 R.2.2.2.2.2.1 R.2.2.2.2.2.2.1 R.2.2.2.2.2.2.2.1 R.2.2.2.2.2.2.2.2.1 R.2.2.2.2.2.2.2.2.2.1 R.2.2.2.2.2.2.2.2.2.2.1 R.2.2.2.2.2.2.2.2.2.2.2.1 R.2.2.2.2.2.2.2.2.2.2.2.2.1 R.2.2.2.2.2.2.2.2.2.2.2.2.2.1 R.2.2.2.2.2.2.2.2.2.2.2.2.2.2.1 R.2.2.2.2.2.2.2.2.2.2.2.2.2.2.2.1 R.2.2.2.2.2.2.2.2.2.2.2.2.2.2.2.2.1 R.2.2.2.2.2.2.2.2.2.2.2.2.2.2.2.2.2.1 R.2.2.2.2.2.2.2.2.2.2.2.2.2.2.2.2.2.2.1 R.2.2.2.2.2.2.2.2.2.2.2.2.2.2.2.2.2.2.2.1 R.2.2.2.2.2.2.2.2.2.2.2.2.2.2.2.2.2.2.2.2.1 R.2.2.2.2.2.2.2.2.2.2.2.2.2.2.2.2.2.2.2.2.2.1 R.2.2.2.2.2.2.2.2.2.2.2.2.2.2.2.2.2.2.2.2.2.2 Q.2.2.2.2.2.2.2.2.2.2.2.1 Q.2.2.2.2.2.2.2.2.2.2.2.2.2.1 (upd rl 4 (nI (turn + 1))) rh Q.2.2.2.2.2.2.2.2.1 Q.2.2.2.2.2.2.2.2.2.1 Q.2.2.2.2.2.2.2.2.2.2.1 Q.2.2.2.2.2.2.2.2.2.2.2.2.1 Q.2.2.2.2.2.2.2.2.2.2.2.2.2.2.1 Q.2.2.2.2.2.2.2.2.2.2.2.2.2.2.2.1 Q.2.2.2.2.2.2.2.2.2.2.2.2.2.2.2.2 T.1 T.2.1 T.2.2.1 T.2.2.2.1 T.2.2.2.2.1 T.2.2.2.2.2.1 T.2.2.2.2.2.2 Q.2.2.2.2.2.2.2.1 (by omega) (by omega) (by omega) z.1 (by rw [z.2.1, nI_1]) (by rw [pk_us]) (fun _ => z.2.2.1) (fun _ => z.2.2.2.1) (fun _ y => absurd y (by omega)) (fun _ y => absurd y (by omega)) (hLo.line z.2.2.2.2)
      · rw [k1', k2', if_pos (show (5 : Int32) = 5 from rfl), if_pos (show (0 : Int32) = 0 from rfl)]
        refine ⟨turn, 0, pl, nI k, sc, lt, ft, ho, co, ga, pe, li, fh, st, de, ab, dr, dg, nb, oe, ot, td, sp, sx, rgt, ra0, rl, rh, rc, rin, rg, rpe, rst, rs, ro, at_, tk, rp, vl, wd, 0, bp, rsy, ht, hs, hli, hrl, hS, hC, hS0, hS1, fun _ => k2', ?_, by rw [k2'], hLo⟩
        split <;> rfl
    · have hb : ¬ bad = 0 := by rw [g2]; exact g1
      rw [if_neg hb, if_pos (show (0 : Int32) = 0 from rfl)]
      refine ⟨turn, fa, pl, a, sc, lt, ft, ho, co, ga, pe, li, fh, st, de, ab, dr, dg, nb, oe, ot, td, sp, sx, rgt, ra0, rl, rh, rc, rin, rg, rpe, rst, rs, ro, at_, tk, rp, vl, wd, bad, bp, rsy, ht, hs, hli, hrl, hS, hC, hS0, hS1, fun y => absurd y g1, ?_, rfl, hLo⟩
      rw [if_neg g1]
      split
      · rfl
      · split <;> rfl
