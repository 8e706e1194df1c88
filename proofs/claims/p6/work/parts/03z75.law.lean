set_option linter.all false
/-! for the law: the towns' relation kept by its calls, and used -/
theorem zr_townN {tl ta f9 s1 s2 s3 s4 ho co ga pe li fh st de : Int32} {tp tt K S E V rl rh rc rin rg rgt rpe ra0 rst rs ro rt rk ab oe ot td sp sx sh rl' rh' rc' rg' rpe' rin' rgt' ra0' rst' rs' : Nat → Int32} (e1 : tl.toInt = ta.toInt) (e2 : tp = tt) (hb : 0 ≤ tl.toInt ∧ tl.toInt ≤ 1600) (hS : ∀ j : Nat, 0 ≤ (S j).toInt ∧ (S j).toInt ≤ 1600) (hE : ∀ j : Nat, 0 ≤ (E j).toInt ∧ (E j).toInt ≤ 1600) (hV : ∀ j : Nat, 0 ≤ (V j).toInt ∧ (V j).toInt ≤ 100000) (hf : f9 = (F_X9_town tl tp s1 s2 s3 s4 K S E V).2.2.1) (c0 : ho = (F_X9_town tl tp s1 s2 s3 s4 K S E V).2.2.2.2.2.2.2.2.2.2.2.2.2.2.2.2.2.2.2.1) (c1 : co = (F_X9_town tl tp s1 s2 s3 s4 K S E V).2.2.2.2.2.2.2.2.2.2.2.2.2.2.2.2.2.2.2.2.1) (c2 : ga = (F_X9_town tl tp s1 s2 s3 s4 K S E V).2.2.2.2.2.2.2.2.2.2.2.2.2.2.2.2.2.2.2.2.2.1) (c3 : pe = (F_X9_town tl tp s1 s2 s3 s4 K S E V).2.2.2.2.2.2.2.2.2.2.2.2.2.2.2.2.2.2.2.2.2.2.1) (c4 : li = (F_X9_town tl tp s1 s2 s3 s4 K S E V).2.2.2.2.2.2.2.2.2.2.2.2.2.2.2.2.2.2.2.2.2.2.2.1) (c5 : fh = (F_X9_town tl tp s1 s2 s3 s4 K S E V).2.2.2.2.2.2.2.2.2.2.2.2.2.2.2.2.2.2.2.2.2.2.2.2.1) (c6 : st = (F_X9_town tl tp s1 s2 s3 s4 K S E V).2.2.2.2.2.2.2.2.2.2.2.2.2.2.2.2.2.2.2.2.2.2.2.2.2.1) (c7 : de = (F_X9_town tl tp s1 s2 s3 s4 K S E V).2.2.2.2.2.2.2.2.2.2.2.2.2.2.2.2.2.2.2.2.2.2.2.2.2.2.1) (c8 : ab = (F_X9_town tl tp s1 s2 s3 s4 K S E V).2.2.2.2.2.2.2.2.2.2.2.2.2.2.2.2.2.2.2.2.2.2.2.2.2.2.2.1) (c9 : oe = (F_X9_town tl tp s1 s2 s3 s4 K S E V).2.2.2.2.2.2.2.2.2.2.2.2.2.2.2.2.2.2.2.2.2.2.2.2.2.2.2.2.2.2.2.2.1) (c10 : ot = (F_X9_town tl tp s1 s2 s3 s4 K S E V).2.2.2.2.2.2.2.2.2.2.2.2.2.2.2.2.2.2.2.2.2.2.2.2.2.2.2.2.2.2.2.2.2.1) (c11 : td = (F_X9_town tl tp s1 s2 s3 s4 K S E V).2.2.2.2.2.2.2.2.2.2.2.2.2.2.2.2.2.2.2.2.2.2.2.2.2.2.2.2.2.2.2.2.2.2.1) (c12 : sp = (F_X9_town tl tp s1 s2 s3 s4 K S E V).2.2.2.2.2.2.2.2.2.2.2.2.2.2.2.2.2.2.2.2.2.2.2.2.2.2.2.2.2.2.2.2.2.2.2.1) (c13 : sx = (F_X9_town tl tp s1 s2 s3 s4 K S E V).2.2.2.2.2.2.2.2.2.2.2.2.2.2.2.2.2.2.2.2.2.2.2.2.2.2.2.2.2.2.2.2.2.2.2.2) (c14 : sh = (F_X9_town tl tp s1 s2 s3 s4 K S E V).2.2.2.2.2.2.2.2.2.2.2.2.2.2.2.2.2.2.2.2.2.2.2.2.2.2.2.2.2.2.2.1) (d0 : rl' = (F_X10_town ta tt rl rh rc rin rg rgt rpe ra0 rst rs ro rt rk).2.2.2.2.2.2.2.2.2.2.2.2.2.1) (d1 : rh' = (F_X10_town ta tt rl rh rc rin rg rgt rpe ra0 rst rs ro rt rk).2.2.2.2.2.2.2.2.2.2.2.2.2.2.1) (d2 : rc' = (F_X10_town ta tt rl rh rc rin rg rgt rpe ra0 rst rs ro rt rk).2.2.2.2.2.2.2.2.2.2.2.2.2.2.2.1) (d3 : rg' = (F_X10_town ta tt rl rh rc rin rg rgt rpe ra0 rst rs ro rt rk).2.2.2.2.2.2.2.2.2.2.2.2.2.2.2.2.2.1) (d4 : rpe' = (F_X10_town ta tt rl rh rc rin rg rgt rpe ra0 rst rs ro rt rk).2.2.2.2.2.2.2.2.2.2.2.2.2.2.2.2.2.2.2.1) (d5 : rin' = (F_X10_town ta tt rl rh rc rin rg rgt rpe ra0 rst rs ro rt rk).2.2.2.2.2.2.2.2.2.2.2.2.2.2.2.2.1) (d6 : rgt' = (F_X10_town ta tt rl rh rc rin rg rgt rpe ra0 rst rs ro rt rk).2.2.2.2.2.2.2.2.2.2.2.2.2.2.2.2.2.2.1) (d7 : ra0' = (F_X10_town ta tt rl rh rc rin rg rgt rpe ra0 rst rs ro rt rk).2.2.2.2.2.2.2.2.2.2.2.2.2.2.2.2.2.2.2.2.1) (d8 : rst' = (F_X10_town ta tt rl rh rc rin rg rgt rpe ra0 rst rs ro rt rk).2.2.2.2.2.2.2.2.2.2.2.2.2.2.2.2.2.2.2.2.2.1) (d9 : rs' = (F_X10_town ta tt rl rh rc rin rg rgt rpe ra0 rst rs ro rt rk).2.2.2.2.2.2.2.2.2.2.2.2.2.2.2.2.2.2.2.2.2.2.1) : (f9.toInt = 0 → zTn 0 ho co ga pe li fh st de ab oe ot td sp sx sh rl' rh' rc' rg' rpe' rin' rgt' ra0' rst' rs' ∧ ∀ i : Nat, 0 < i → i < 4 → zSame i rl rh rc rg rpe rin rgt ra0 rst rs rl' rh' rc' rg' rpe' rin' rgt' ra0' rst' rs') ∧ (¬ f9.toInt = 0 → ∀ i : Nat, i < 4 → zSame i rl rh rc rg rpe rin rgt ra0 rst rs rl' rh' rc' rg' rpe' rin' rgt' ra0' rst' rs') := by
  have e := Int32.toInt_inj.mp e1
  subst e e2
  have el := zn_of hb.1
  have hl : tl.toNatClampNeg ≤ 1600 := by have := zi_clamp (x := tl) rfl hb.1; omega
  have z := zTown (tp := tp) (K := K) (s1 := s1) (s2 := s2) (s3 := s3) (s4 := s4) (rl := rl) (rh := rh) (rc := rc) (rin := rin) (rg := rg) (rgt := rgt) (rpe := rpe) (ra0 := ra0) (rst := rst) (rs := rs) (ro := ro) (rt := rt) (rk := rk) hl hS hE hV
  rw [← el] at z
  obtain ⟨-, -, -, -, -, z6, z7, z8, -⟩ := z
  have h0 : f9.toInt = 0 ↔ (F_X9_town tl tp s1 s2 s3 s4 K S E V).2.2.1 = 0 := by
    rw [hf, ← zN_0]; exact Int32.toInt_inj
  subst c0 c1 c2 c3 c4 c5 c6 c7 c8 c9 c10 c11 c12 c13 c14 d0 d1 d2 d3 d4 d5 d6 d7 d8 d9
  exact ⟨fun q => ⟨z6 (h0.mp q), z7 (h0.mp q)⟩, fun q => z8 (fun y => q (h0.mpr y))⟩
/-- what keep of the class says of image k -/
theorem z_kp9 {p kk y y' : Int} {n t i : Nat} {F G : Prop} (hA : (p = kk ∧ y' = 1) ∨ (¬ p = kk ∧ y' = y)) (hB : (p = kk ∧ n = t ∧ F) ∨ (¬ p = kk ∧ n = i ∧ G)) : (p = kk ∧ n = t) ∨ (¬ p = kk ∧ y' = y ∧ n = i) := by
  rcases hA with ⟨a, b⟩ | ⟨a, b⟩
  · rcases hB with ⟨c, d, -⟩ | ⟨c, d, -⟩
    · exact Or.inl ⟨a, d⟩
    · exact absurd a c
  · rcases hB with ⟨c, d, -⟩ | ⟨c, d, -⟩
    · exact absurd c a
    · exact Or.inr ⟨a, b, d⟩
theorem z_bk9 {P r y0 y1 y2 : Int} {n t i0 i1 i2 : Nat} {F G0 G1 G2 : Prop} (h : (¬ r = 0 ∧ n = t ∧ F) ∨ (P = 0 ∧ r = 0 ∧ y0 = 1 ∧ n = i0 ∧ G0) ∨ (P = 1 ∧ r = 0 ∧ y1 = 1 ∧ n = i1 ∧ G1) ∨ (P = 2 ∧ r = 0 ∧ y2 = 1 ∧ n = i2 ∧ G2)) : (¬ r = 0 ∧ n = t) ∨ (P = 0 ∧ r = 0 ∧ y0 = 1 ∧ n = i0) ∨ (P = 1 ∧ r = 0 ∧ y1 = 1 ∧ n = i1) ∨ (P = 2 ∧ r = 0 ∧ y2 = 1 ∧ n = i2) := by
  rcases h with ⟨a, b, -⟩ | ⟨a, b, c, d, -⟩ | ⟨a, b, c, d, -⟩ | ⟨a, b, c, d, -⟩
  · exact Or.inl ⟨a, b⟩
  · exact Or.inr (Or.inl ⟨a, b, c, d⟩)
  · exact Or.inr (Or.inr (Or.inl ⟨a, b, c, d⟩))
  · exact Or.inr (Or.inr (Or.inr ⟨a, b, c, d⟩))
/-- is image k kept: the reference's row behind its own keep -/
theorem zkeepK {p1 r : Int32} {a0 a1 a2 a3 a4 a5 a6 a7 a8 a9 a10 a11 k k' : Nat → Int32} (hr : r = (F_X10_keep p1 a0 a1 a2 a3 a4 a5 a6 a7 a8 a9 a10 a11 k).1) (hk : k' = (F_X10_keep p1 a0 a1 a2 a3 a4 a5 a6 a7 a8 a9 a10 a11 k).2.2.2.2.2.2.2.2.2.2.2.2.2.2) {j : Nat} (hj : j < 3) : (p1.toInt = (j : Int) ∧ (k' j).toInt = 1) ∨ (¬ p1.toInt = (j : Int) ∧ k' j = k j) := by
  have h9 := zJin (x := p1) (lo := 0) (hi := 2)
  rw [show (0 : Int32).toInt64 = 0 from by decide, show (2 : Int32).toInt64 = 2 from by decide, zN_0, zN_2] at h9
  unfold F_X10_keep at hk
  simp only [↓zL_p] at hk
  try simp only [h9] at hk
  by_cases q : 0 ≤ p1.toInt ∧ p1.toInt ≤ 2
  · rw [if_pos q, if_neg (show ¬ (1 : Int32) = 0 by decide)] at hk
    obtain ⟨m, hm, em, im⟩ := zc_nat (x := p1) (m := 2) q.1 q.2 (by decide)
    have e9 : p1.toNatClampNeg = m := by rw [em, nI_clamp (by omega)]
    have n1 : vp_nar .boolean 1 = 1 := by decide
    by_cases w : m = j
    · subst w
      refine Or.inl ⟨im, ?_⟩
      rw [hk]
      show (upd k p1.toNatClampNeg (vp_nar .boolean 1) m).toInt = 1
      rw [e9, pk_us, n1]; decide
    · refine Or.inr ⟨by omega, ?_⟩
      rw [hk]
      show upd k p1.toNatClampNeg (vp_nar .boolean 1) j = k j
      rw [e9, pk_un (show j ≠ m from fun z => w z.symm)]
  · rw [if_neg q, if_pos (show (0 : Int32) = 0 from rfl)] at hk
    exact Or.inr ⟨by omega, by rw [hk]⟩
theorem zr_kp {p kk y y' : Int} {b b' : Int32} (hA : (p = kk ∧ y' = 1) ∨ (¬ p = kk ∧ y' = y)) (hB : (p = kk ∧ b'.toInt = 1) ∨ (¬ p = kk ∧ b' = b)) (e : y = b.toInt) : y' = b'.toInt := by
  rcases hA with ⟨a, q⟩ | ⟨a, q⟩
  · rcases hB with ⟨c, d⟩ | ⟨c, d⟩
    · rw [q, d]
    · exact absurd a c
  · rcases hB with ⟨c, d⟩ | ⟨c, d⟩
    · exact absurd c a
    · rw [q, d, e]
/-- both refuse back alike -/
theorem zr_bk {p1 r : Int32} {u y0 y1 y2 : Int} {n t i0 i1 i2 : Nat} {a0 a1 a2 a3 a4 a5 a6 a7 a8 a9 a10 a11 k : Nat → Int32} (hr : r = (F_X10_back p1 a0 a1 a2 a3 a4 a5 a6 a7 a8 a9 a10 a11 k).1) (hs : (u = -2 ∧ (p1.toInt < 0 ∨ 2 < p1.toInt)) ∨ (u = -6 ∧ ((p1.toInt = 0 ∧ y0 = 0) ∨ (p1.toInt = 1 ∧ y1 = 0) ∨ (p1.toInt = 2 ∧ y2 = 0))) ∨ (u = 0 ∧ ((p1.toInt = 0 ∧ y0 = 1) ∨ (p1.toInt = 1 ∧ y1 = 1) ∨ (p1.toInt = 2 ∧ y2 = 1)))) (e0 : y0 = (k 0).toInt) (e1 : y1 = (k 1).toInt) (e2 : y2 = (k 2).toInt) : u = r.toInt := by
  have h9 := zJin (x := p1) (lo := 0) (hi := 2)
  rw [show (0 : Int32).toInt64 = 0 from by decide, show (2 : Int32).toInt64 = 2 from by decide, zN_0, zN_2] at h9
  unfold F_X10_back at hr
  simp only [↓zL_p] at hr
  try simp only [h9] at hr
  by_cases q : 0 ≤ p1.toInt ∧ p1.toInt ≤ 2
  · rw [if_pos q, if_neg (show ¬ (1 : Int32) = 0 by decide)] at hr
    obtain ⟨m, hm, em, im⟩ := zc_nat (x := p1) (m := 2) q.1 q.2 (by decide)
    have e9 : p1.toNatClampNeg = m := by rw [em, nI_clamp (by omega)]
    rw [e9] at hr
    have hk : ∀ v : Int, v = (k m).toInt → (v = 0 → r.toInt = -6) ∧ (v = 1 → r.toInt = 0) := by
      intro v hv
      by_cases w : k m = 0
      · rw [if_pos w] at hr
        have : (k m).toInt = 0 := by rw [w]; decide
        exact ⟨fun _ => by rw [hr]; exact (by decide : Int32.toInt (-6) = -6), fun z => by omega⟩
      · rw [if_neg w] at hr
        have : ¬ (k m).toInt = 0 := fun z => w (Int32.toInt_inj.mp (z.trans (by decide : (0 : Int) = Int32.toInt 0)))
        exact ⟨fun z => by omega, fun _ => by rw [hr]; show Int32.toInt 0 = 0; decide⟩
    rcases (show m = 0 ∨ m = 1 ∨ m = 2 by omega) with w | w | w
    · subst w; have := hk y0 e0; omega
    · subst w; have := hk y1 e1; omega
    · subst w; have := hk y2 e2; omega
  · rw [if_neg q, if_pos (show (0 : Int32) = 0 from rfl)] at hr
    have : r.toInt = -2 := by rw [hr]; exact (by decide : Int32.toInt (-2) = -2)
    omega
/-! the answers -/
theorem zr_lies {iv : Nat → Int32} {fi : Nat → Nat → Int32} {p k r9 r10 : Int32} (z : zRtA 0 0 iv fi) (b : 0 ≤ (iv 77).toInt ∧ (iv 77).toInt ≤ 10) (h1 : r9 = F_X9_lies p k (iv 77) (fi 78)) (h2 : r10 = (F_X10_lies p k (fi 9) (fi 10)).1) : r9.toInt = r10.toInt := by
  rw [h1, h2]
  exact congrArg Int32.toInt (zq_lies z.1.2.2.2.2.2.1.1 z.1.2.1 b)
theorem zr_leads {iv : Nat → Int32} {fi : Nat → Nat → Int32} {p k r9 r10 : Int32} (z : zRtA 0 0 iv fi) (b : 0 ≤ (iv 77).toInt ∧ (iv 77).toInt ≤ 10) (b2 : 0 ≤ (iv 78).toInt ∧ (iv 78).toInt ≤ 16) (h1 : r9 = F_X9_leads p k (iv 77) (iv 78) (fi 83) (fi 84)) (h2 : r10 = (F_X10_leads p k (fi 9) (fi 11) (fi 12)).1) : r9.toInt = r10.toInt := by
  rw [h1, h2]
  exact congrArg Int32.toInt (zq_leads z.1.2.2.2.2.2.1.2.1 z.1.2.1 b z.1.2.2.1 b2)
theorem zBr.of {P u : Int} {r : Int32} {fi fi' : Nat → Nat → Int32} (eu : u = r.toInt) (h : (¬ r.toInt = 0 ∧ ∀ i : Nat, i < 4 → zSm i fi fi') ∨ ∃ p : Nat, p < 3 ∧ P = (p : Int) ∧ r.toInt = 0 ∧ zCy (1 + p) 0 fi fi') : zBr P u fi fi' := by
  rw [eu]; exact h
/-- the start: no town, no image -/
theorem zRelA.zero {ad : Nat → Nat} {iv : Nat → Int32} {fi : Nat → Nat → Int32} (k0 : iv 53 = 0) (k1 : iv 58 = 0) (k2 : iv 63 = 0) (i76 : iv 76 = 0) (i77 : iv 77 = 0) (i78 : iv 78 = 0) (i79 : iv 79 = 0) (i80 : iv 80 = 0) (i81 : iv 81 = 0) (i82 : iv 82 = 0) (i83 : iv 83 = 0) (f7 : fi 7 = fun _ => 0) (f8 : fi 8 = fun _ => 0) (f9 : fi 9 = fun _ => 0) (f10 : fi 10 = fun _ => 0) (f11 : fi 11 = fun _ => 0) (f12 : fi 12 = fun _ => 0) (f13 : fi 13 = fun _ => 0) (f14 : fi 14 = fun _ => 0) (f15 : fi 15 = fun _ => 0) (f16 : fi 16 = fun _ => 0) (f78 : fi 78 = fun _ => 0) (f82 : fi 82 = fun _ => 0) (f83 : fi 83 = fun _ => 0) (f84 : fi 84 = fun _ => 0) (f85 : fi 85 = fun _ => 0) (f86 : fi 86 = fun _ => 0) (f87 : fi 87 = fun _ => 0) : zRelA ad iv fi := by
  refine ⟨?_, Or.inl (by show (iv 53).toInt = 0; rw [k0, zN_0]), Or.inl (by show (iv 58).toInt = 0; rw [k1, zN_0]), Or.inl (by show (iv 63).toInt = 0; rw [k2, zN_0])⟩
  show zTn 0 (iv 76) (iv 77) (iv 78) (iv 79) (iv 80) (iv 81) (iv 82) (iv 83) (fi 78) (fi 83) (fi 84) (fi 85) (fi 86) (fi 87) (fi 82) (fi 7) (fi 8) (fi 9) (fi 11) (fi 13) (fi 10) (fi 12) (fi 14) (fi 15) (fi 16) ∧ (iv 76).toInt ≤ 48 ∧ (iv 77).toInt ≤ 10 ∧ (iv 78).toInt ≤ 16 ∧ (iv 79).toInt ≤ 10
  rw [i76, i77, i78, i79, i80, i81, i82, i83, f7, f8, f9, f10, f11, f12, f13, f14, f15, f16, f78, f82, f83, f84, f85, f86, f87]
  refine ⟨⟨rfl, rfl, rfl, rfl, rfl, ⟨⟨rfl, fun z => absurd z (by first | decide | exact z10 | exact z20 | exact z30), fun c _ z => ?_⟩, fun g z => ?_, fun p h z _ => ?_, ⟨fun p z => ?_, fun p _ _ => ⟨rfl, rfl, b_0 p⟩⟩, rfl, rfl, Or.inl rfl⟩, fun c z => ?_, Or.inl rfl⟩, by decide, by decide, by decide, by decide⟩
  all_goals (rw [zN_0] at z; omega)
