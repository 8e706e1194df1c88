set_option linter.all false
/-! what the law needs of the tape, of faults and of towns -/
theorem zFd {p1 p2 p3 p4 p5 t : Int32} {f : Nat → Int32} : F_X10_feed p1 p2 p3 p4 p5 t f = ((F_X9_feed p1 p2 p3 p4 p5 t f).1, 0, (F_X9_feed p1 p2 p3 p4 p5 t f).2.1, (F_X9_feed p1 p2 p3 p4 p5 t f).2.2) := by
  have e : F_X10_four = F_X9_putFour := rfl
  unfold F_X10_feed F_X9_feed
  rw [e]
  simp only [↓zL_p]
  split <;> rfl
theorem zr_feed {p1 p2 p3 p4 p5 tl ta r9 n9 r10 n10 : Int32} {tp tt t9 t10 : Nat → Int32} (e1 : tl.toInt = ta.toInt) (e2 : tp = tt) (h1 : r9 = (F_X9_feed p1 p2 p3 p4 p5 tl tp).1) (h2 : n9 = (F_X9_feed p1 p2 p3 p4 p5 tl tp).2.1) (h3 : t9 = (F_X9_feed p1 p2 p3 p4 p5 tl tp).2.2) (k1 : r10 = (F_X10_feed p1 p2 p3 p4 p5 ta tt).1) (k2 : n10 = (F_X10_feed p1 p2 p3 p4 p5 ta tt).2.2.1) (k3 : t10 = (F_X10_feed p1 p2 p3 p4 p5 ta tt).2.2.2) : r9.toInt = r10.toInt ∧ n9.toInt = n10.toInt ∧ t9 = t10 := by
  have e := Int32.toInt_inj.mp e1
  subst e e2
  rw [zFd] at k1 k2 k3
  subst h1 h2 h3 k1 k2 k3
  exact ⟨rfl, rfl, rfl⟩
theorem zr_end {p1 tl ta r9 n9 r10 n10 : Int32} (e1 : tl.toInt = ta.toInt) (h1 : r9 = (F_X9_end p1 tl).1) (h2 : n9 = (F_X9_end p1 tl).2) (k1 : r10 = (F_X10_end p1 ta).1) (k2 : n10 = (F_X10_end p1 ta).2.2) : r9.toInt = r10.toInt ∧ n9.toInt = n10.toInt := by
  have e := Int32.toInt_inj.mp e1
  subst e
  have hj := zJin (x := p1) (lo := 0) (hi := tl)
  rw [show (0 : Int32).toInt64 = 0 from by decide, zN_0] at hj
  unfold F_X10_end at k1 k2
  unfold F_X9_end at h1 h2
  simp only [↓zL_p] at k1 k2
  try simp only [hj] at k1 k2
  by_cases q1 : p1 < 0
  · have q1' := Int32.lt_iff_toInt_lt.mp q1
    rw [zN_0] at q1'
    rw [if_pos q1] at h1 h2
    rw [if_neg (show ¬ (0 ≤ p1.toInt ∧ p1.toInt ≤ tl.toInt) by omega), if_pos (show (0 : Int32) = 0 from rfl)] at k1 k2
    subst h1 h2 k1 k2
    exact ⟨rfl, rfl⟩
  · have q1' := mt Int32.lt_iff_toInt_lt.mpr q1
    rw [zN_0] at q1'
    rw [if_neg q1] at h1 h2
    by_cases q2 : p1 ≤ tl
    · have q2' := Int32.le_iff_toInt_le.mp q2
      rw [if_pos q2] at h1 h2
      rw [if_pos (show 0 ≤ p1.toInt ∧ p1.toInt ≤ tl.toInt by omega), if_neg (show ¬ (1 : Int32) = 0 by decide)] at k1 k2
      subst h1 h2 k1 k2
      exact ⟨rfl, rfl⟩
    · have q2' := mt Int32.le_iff_toInt_le.mpr q2
      rw [if_neg q2] at h1 h2
      rw [if_neg (show ¬ (0 ≤ p1.toInt ∧ p1.toInt ≤ tl.toInt) by omega), if_pos (show (0 : Int32) = 0 from rfl)] at k1 k2
      subst h1 h2 k1 k2
      exact ⟨rfl, rfl⟩
theorem zr_fault {p1 fk fp f q r9 r10 : Int32} (e1 : fk.toInt = f.toInt) (e2 : fp.toInt = q.toInt) (h1 : r9 = F_X9_fault p1 fk fp) (k1 : r10 = (F_X10_fault p1 f q).1) : r9.toInt = r10.toInt := by
  have a1 := Int32.toInt_inj.mp e1
  have a2 := Int32.toInt_inj.mp e2
  subst a1 a2 h1 k1
  unfold F_X9_fault F_X10_fault
  split
  · rfl
  · split <;> rfl
theorem zr_town {tl ta r9 n9 f9 p9 r10 n10 f10 p10 s1 s2 s3 s4 : Int32} {tp tt K S E V rl rh rc rin rg rgt rpe ra0 rst rs ro rt rk : Nat → Int32} (e1 : tl.toInt = ta.toInt) (e2 : tp = tt) (hb : 0 ≤ tl.toInt ∧ tl.toInt ≤ 1600) (hS : ∀ j : Nat, 0 ≤ (S j).toInt ∧ (S j).toInt ≤ 1600) (hE : ∀ j : Nat, 0 ≤ (E j).toInt ∧ (E j).toInt ≤ 1600) (hV : ∀ j : Nat, 0 ≤ (V j).toInt ∧ (V j).toInt ≤ 100000) (h1 : r9 = (F_X9_town tl tp s1 s2 s3 s4 K S E V).1) (h2 : n9 = (F_X9_town tl tp s1 s2 s3 s4 K S E V).2.1) (h3 : f9 = (F_X9_town tl tp s1 s2 s3 s4 K S E V).2.2.1) (h4 : p9 = (F_X9_town tl tp s1 s2 s3 s4 K S E V).2.2.2.1) (k1 : r10 = (F_X10_town ta tt rl rh rc rin rg rgt rpe ra0 rst rs ro rt rk).1) (k2 : n10 = (F_X10_town ta tt rl rh rc rin rg rgt rpe ra0 rst rs ro rt rk).2.2.1) (k3 : f10 = (F_X10_town ta tt rl rh rc rin rg rgt rpe ra0 rst rs ro rt rk).2.2.2.2.2.2.2.2.2.2.1) (k4 : p10 = (F_X10_town ta tt rl rh rc rin rg rgt rpe ra0 rst rs ro rt rk).2.2.2.2.2.2.2.2.2.2.2.1) : r9.toInt = r10.toInt ∧ n9.toInt = n10.toInt ∧ f9.toInt = f10.toInt ∧ p9.toInt = p10.toInt := by
  have e := Int32.toInt_inj.mp e1
  subst e e2
  have el := zn_of hb.1
  have hl : tl.toNatClampNeg ≤ 1600 := by have := zi_clamp (x := tl) rfl hb.1; omega
  have z := zTown (tp := tp) (K := K) (s1 := s1) (s2 := s2) (s3 := s3) (s4 := s4) (rl := rl) (rh := rh) (rc := rc) (rin := rin) (rg := rg) (rgt := rgt) (rpe := rpe) (ra0 := ra0) (rst := rst) (rs := rs) (ro := ro) (rt := rt) (rk := rk) hl hS hE hV
  rw [← el] at z
  obtain ⟨z1, z2, z3, z4, z5, -⟩ := z
  subst h1 h2 h3 h4 k1 k2 k3 k4
  rw [z1, z2, z3, z4, z5]
  exact ⟨rfl, rfl, rfl, rfl⟩
