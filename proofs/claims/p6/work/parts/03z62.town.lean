set_option linter.all false
/-! a town, read by both -/
theorem zClr1 {kc : (Nat → Int32) → Int32 × (Nat → Int32) × (Nat → Int32) × (Nat → Int32) × (Nat → Int32) × (Nat → Int32) × (Nat → Int32) × (Nat → Int32) × (Nat → Int32) × (Nat → Int32) × (Nat → Int32)} : ∀ (f m : Nat) (g : Nat → Int32), 10 - m < f → m ≤ 10 → ∃ g' : Nat → Int32, L_X10_clears_1 kc f (nI m) g = kc g' ∧ (∀ p : Nat, m ≤ p → p < 10 → g' (40 + p) = 0) ∧ ∀ j : Nat, j < 40 + m → g' j = g j := by
  intro f
  induction f with
  | zero => intro m g h; omega
  | succ f ih =>
    intro m g hf hm
    rw [L_X10_clears_1_s]
    unfold B_X10_clears_1
    simp only [↓zL_p]
    try simp only [zn_inc]
    rw [show (10 : Int32) = nI 10 from by decide, show (40 : Int32) = nI 40 from by decide, nI_add, nI_clamp (show 40 + m < 2 ^ 31 by omega)]
    rcases Nat.lt_or_ge m 10 with q | q
    · rw [if_neg (nI_ge q (by omega))]
      obtain ⟨g', e1, e2, e3⟩ := ih (m + 1) (upd g (40 + m) 0) (by omega) (by omega)
      refine ⟨g', e1, fun p h1 h2 => ?_, fun j h => ?_⟩
      · rcases Nat.eq_or_lt_of_le h1 with w | w
        · subst w; rw [e3 _ (by omega), pk_us]
        · exact e2 p w h2
      · rw [e3 j (by omega), pk_un (show j ≠ 40 + m by omega)]
    · rw [if_pos (nI_le q (by omega))]
      exact ⟨_, rfl, fun p h1 h2 => by omega, fun _ _ => rfl⟩
theorem zClr2 {kc : (Nat → Int32) → Int32 × (Nat → Int32) × (Nat → Int32) × (Nat → Int32) × (Nat → Int32) × (Nat → Int32) × (Nat → Int32) × (Nat → Int32) × (Nat → Int32) × (Nat → Int32) × (Nat → Int32)} {g : Nat → Int32} : L_X10_clears_2 kc 4 0 g = kc (upd (upd g 8 0) 9 0) := by
  have n0 : vp_nar .boolean 0 = 0 := by decide
  rw [show (4 : Nat) = 3 + 1 from rfl, L_X10_clears_2_s]
  unfold B_X10_clears_2
  simp only [↓zL_p]
  rw [if_neg (show ¬ (2 : Int32) ≤ 0 by decide), show Int32.toNatClampNeg (8 + 0) = 8 from by decide, show (0 + Int32.ofInt 1 : Int32) = 1 from by decide, n0, show (3 : Nat) = 2 + 1 from rfl, L_X10_clears_2_s]
  unfold B_X10_clears_2
  simp only [↓zL_p]
  rw [if_neg (show ¬ (2 : Int32) ≤ 1 by decide), show Int32.toNatClampNeg (8 + 1) = 9 from by decide, show (1 + Int32.ofInt 1 : Int32) = 2 from by decide, n0, show (2 : Nat) = 1 + 1 from rfl, L_X10_clears_2_s]
  unfold B_X10_clears_2
  simp only [↓zL_p]
  rw [if_pos (show (2 : Int32) ≤ 2 by decide)]
theorem zClr (rl rh rc rin rg rpe rs ro rt rk : Nat → Int32) : ∃ rk' : Nat → Int32, F_X10_clears rl rh rc rin rg rpe rs ro rt rk = (0, upd rl 4 0, upd rh 4 0, upd rc 4 1, upd rin 40 (-1), upd rg 4 0, upd rpe 4 0, upd (upd rs 8 1) 9 0, upd (upd ro 8 0) 9 0, upd (upd rt 8 0) 9 0, rk') ∧ (∀ p : Nat, p < 10 → rk' (40 + p) = 0) ∧ ∀ j : Nat, j < 40 → rk' j = rk j := by
  have c4 : Int32.toNatClampNeg 4 = 4 := by decide
  have c40 : Int32.toNatClampNeg 40 = 40 := by decide
  have c8 : Int32.toNatClampNeg 8 = 8 := by decide
  have c9 : Int32.toNatClampNeg 9 = 9 := by decide
  unfold F_X10_clears
  simp only [↓zL_p]
  try simp only [c4, c40, c8, c9]
  obtain ⟨g', hg, h9a, h9b⟩ := zClr1 (kc := K_X10_clears_1_0 (upd rl 4 0) (upd rh 4 0) (upd rc 4 1) (upd rin 40 (-1)) (upd rg 4 0) (upd rpe 4 0) (upd (upd rs 8 1) 9 0) (upd (upd rt 8 0) 9 0) ro) 12 0 rk (by omega) (by omega)
  rw [show (nI 0 : Int32) = 0 from nI_0] at hg
  rw [hg]
  unfold K_X10_clears_1_0
  rw [zClr2]
  exact ⟨g', rfl, fun p h => h9a p (by omega) h, fun j h => h9b j (by omega)⟩
theorem zCp1 {g : Nat → Int32} : F_X10_copyRow 4 0 g = upd g 0 (g 4) := by
  unfold F_X10_copyRow
  rw [show (3 : Nat) = 2 + 1 from rfl, L_X10_copyRow_1_s]
  unfold B_X10_copyRow_1
  simp only [↓zL_p]
  rw [if_neg (show ¬ (1 : Int32) ≤ 0 by decide), show Int32.toNatClampNeg (1 * 0 + 0) = 0 from by decide, show Int32.toNatClampNeg (1 * 4 + 0) = 4 from by decide, show (0 + Int32.ofInt 1 : Int32) = 1 from by decide, show (2 : Nat) = 1 + 1 from rfl, L_X10_copyRow_1_s]
  unfold B_X10_copyRow_1
  simp only [↓zL_p]
  rw [if_pos (show (1 : Int32) ≤ 1 by decide)]
  rfl
/-- truth and known of the reference behind a town: at the index 0 nothing, or all as they were -/
def zTp (fa : Int32) (rt rk rt' rk' : Nat → Int32) : Prop := (∀ i : Nat, (0 < i ∨ ¬ fa = 0) → i < 4 → rt' (2 * i) = rt (2 * i) ∧ rt' (2 * i + 1) = rt (2 * i + 1) ∧ ∀ p : Nat, p < 10 → rk' (10 * i + p) = rk (10 * i + p)) ∧ (fa = 0 → rt' 0 = 0 ∧ rt' 1 = 0 ∧ ∀ p : Nat, p < 10 → rk' p = 0)
theorem zTp.ok {rt rk rk' : Nat → Int32} (h1 : ∀ p : Nat, p < 10 → rk' (40 + p) = 0) (h2 : ∀ j : Nat, j < 40 → rk' j = rk j) : zTp 0 rt rk (F_X10_copyRow_v9 4 0 (upd (upd rt 8 0) 9 0)) (F_X10_copyRow_v10 4 0 rk') := by
  have c9 := zCop9 (a := 4) (b := 0) (by omega) (by omega) (by omega) (upd (upd rt 8 0) 9 0)
  have c10 := zCop10 (a := 4) (b := 0) (by omega) (by omega) (by omega) rk'
  rw [show nI 4 = 4 from by decide, show nI 0 = 0 from by decide] at c9 c10
  refine ⟨fun i h i4 => ?_, fun _ => ⟨?_, ?_, fun p hp => ?_⟩⟩
  · have i0 : 0 < i := h.elim (fun q => q) (fun q => absurd rfl q)
    refine ⟨?_, ?_, fun p hp => ?_⟩
    · rw [c9.2 (2 * i) (by omega), pk_un (show 2 * i ≠ 9 by omega), pk_un (show 2 * i ≠ 8 by omega)]
    · rw [c9.2 (2 * i + 1) (by omega), pk_un (show 2 * i + 1 ≠ 9 by omega), pk_un (show 2 * i + 1 ≠ 8 by omega)]
    · rw [c10.2 (10 * i + p) (by omega), h2 _ (by omega)]
  · have := c9.1 0 (by omega)
    rw [show 2 * 0 + 0 = 0 by omega, show 2 * 4 + 0 = 8 by omega, pk_un (show (8 : Nat) ≠ 9 by decide), pk_us] at this
    exact this
  · have := c9.1 1 (by omega)
    rw [show 2 * 0 + 1 = 1 by omega, show 2 * 4 + 1 = 9 by omega, pk_us] at this
    exact this
  · have := c10.1 p hp
    rw [show 10 * 0 + p = p by omega, show 10 * 4 + p = 40 + p by omega, h1 p hp] at this
    exact this
theorem zTp.no {fa : Int32} {rt rk rk' : Nat → Int32} (hf : ¬ fa = 0) (h2 : ∀ j : Nat, j < 40 → rk' j = rk j) : zTp fa rt rk (upd (upd rt 8 0) 9 0) rk' :=
  ⟨fun i _ i4 => ⟨by rw [pk_un (show 2 * i ≠ 9 by omega), pk_un (show 2 * i ≠ 8 by omega)], by rw [pk_un (show 2 * i + 1 ≠ 9 by omega), pk_un (show 2 * i + 1 ≠ 8 by omega)], fun p hp => h2 _ (by omega)⟩, fun z => absurd z hf⟩
theorem zTown {n : Nat} (hn : n ≤ 1600) {tp K S E V rl rh rc rin rg rgt rpe ra0 rst rs ro rt rk : Nat → Int32} {s1 s2 s3 s4 : Int32} (hS : zR 1600 S) (hE : zR 1600 E) (hV : zR 100000 V) : (F_X9_town (nI n) tp s1 s2 s3 s4 K S E V).1 = (F_X10_town (nI n) tp rl rh rc rin rg rgt rpe ra0 rst rs ro rt rk).1 ∧ (F_X9_town (nI n) tp s1 s2 s3 s4 K S E V).2.2.1 = (F_X10_town (nI n) tp rl rh rc rin rg rgt rpe ra0 rst rs ro rt rk).2.2.2.2.2.2.2.2.2.2.1 ∧ (F_X9_town (nI n) tp s1 s2 s3 s4 K S E V).2.2.2.1 = (F_X10_town (nI n) tp rl rh rc rin rg rgt rpe ra0 rst rs ro rt rk).2.2.2.2.2.2.2.2.2.2.2.1 ∧ (F_X9_town (nI n) tp s1 s2 s3 s4 K S E V).2.1 = 0 ∧ (F_X10_town (nI n) tp rl rh rc rin rg rgt rpe ra0 rst rs ro rt rk).2.2.1 = 0 ∧ ((F_X9_town (nI n) tp s1 s2 s3 s4 K S E V).2.2.1 = 0 → zTn 0 (F_X9_town (nI n) tp s1 s2 s3 s4 K S E V).2.2.2.2.2.2.2.2.2.2.2.2.2.2.2.2.2.2.2.1 (F_X9_town (nI n) tp s1 s2 s3 s4 K S E V).2.2.2.2.2.2.2.2.2.2.2.2.2.2.2.2.2.2.2.2.1 (F_X9_town (nI n) tp s1 s2 s3 s4 K S E V).2.2.2.2.2.2.2.2.2.2.2.2.2.2.2.2.2.2.2.2.2.1 (F_X9_town (nI n) tp s1 s2 s3 s4 K S E V).2.2.2.2.2.2.2.2.2.2.2.2.2.2.2.2.2.2.2.2.2.2.1 (F_X9_town (nI n) tp s1 s2 s3 s4 K S E V).2.2.2.2.2.2.2.2.2.2.2.2.2.2.2.2.2.2.2.2.2.2.2.1 (F_X9_town (nI n) tp s1 s2 s3 s4 K S E V).2.2.2.2.2.2.2.2.2.2.2.2.2.2.2.2.2.2.2.2.2.2.2.2.1 (F_X9_town (nI n) tp s1 s2 s3 s4 K S E V).2.2.2.2.2.2.2.2.2.2.2.2.2.2.2.2.2.2.2.2.2.2.2.2.2.1 (F_X9_town (nI n) tp s1 s2 s3 s4 K S E V).2.2.2.2.2.2.2.2.2.2.2.2.2.2.2.2.2.2.2.2.2.2.2.2.2.2.1 (F_X9_town (nI n) tp s1 s2 s3 s4 K S E V).2.2.2.2.2.2.2.2.2.2.2.2.2.2.2.2.2.2.2.2.2.2.2.2.2.2.2.1 (F_X9_town (nI n) tp s1 s2 s3 s4 K S E V).2.2.2.2.2.2.2.2.2.2.2.2.2.2.2.2.2.2.2.2.2.2.2.2.2.2.2.2.2.2.2.2.1 (F_X9_town (nI n) tp s1 s2 s3 s4 K S E V).2.2.2.2.2.2.2.2.2.2.2.2.2.2.2.2.2.2.2.2.2.2.2.2.2.2.2.2.2.2.2.2.2.1 (F_X9_town (nI n) tp s1 s2 s3 s4 K S E V).2.2.2.2.2.2.2.2.2.2.2.2.2.2.2.2.2.2.2.2.2.2.2.2.2.2.2.2.2.2.2.2.2.2.1 (F_X9_town (nI n) tp s1 s2 s3 s4 K S E V).2.2.2.2.2.2.2.2.2.2.2.2.2.2.2.2.2.2.2.2.2.2.2.2.2.2.2.2.2.2.2.2.2.2.2.1 (F_X9_town (nI n) tp s1 s2 s3 s4 K S E V).2.2.2.2.2.2.2.2.2.2.2.2.2.2.2.2.2.2.2.2.2.2.2.2.2.2.2.2.2.2.2.2.2.2.2.2 (F_X9_town (nI n) tp s1 s2 s3 s4 K S E V).2.2.2.2.2.2.2.2.2.2.2.2.2.2.2.2.2.2.2.2.2.2.2.2.2.2.2.2.2.2.2.1 (F_X10_town (nI n) tp rl rh rc rin rg rgt rpe ra0 rst rs ro rt rk).2.2.2.2.2.2.2.2.2.2.2.2.2.1 (F_X10_town (nI n) tp rl rh rc rin rg rgt rpe ra0 rst rs ro rt rk).2.2.2.2.2.2.2.2.2.2.2.2.2.2.1 (F_X10_town (nI n) tp rl rh rc rin rg rgt rpe ra0 rst rs ro rt rk).2.2.2.2.2.2.2.2.2.2.2.2.2.2.2.1 (F_X10_town (nI n) tp rl rh rc rin rg rgt rpe ra0 rst rs ro rt rk).2.2.2.2.2.2.2.2.2.2.2.2.2.2.2.2.2.1 (F_X10_town (nI n) tp rl rh rc rin rg rgt rpe ra0 rst rs ro rt rk).2.2.2.2.2.2.2.2.2.2.2.2.2.2.2.2.2.2.2.1 (F_X10_town (nI n) tp rl rh rc rin rg rgt rpe ra0 rst rs ro rt rk).2.2.2.2.2.2.2.2.2.2.2.2.2.2.2.2.1 (F_X10_town (nI n) tp rl rh rc rin rg rgt rpe ra0 rst rs ro rt rk).2.2.2.2.2.2.2.2.2.2.2.2.2.2.2.2.2.2.1 (F_X10_town (nI n) tp rl rh rc rin rg rgt rpe ra0 rst rs ro rt rk).2.2.2.2.2.2.2.2.2.2.2.2.2.2.2.2.2.2.2.2.1 (F_X10_town (nI n) tp rl rh rc rin rg rgt rpe ra0 rst rs ro rt rk).2.2.2.2.2.2.2.2.2.2.2.2.2.2.2.2.2.2.2.2.2.1 (F_X10_town (nI n) tp rl rh rc rin rg rgt rpe ra0 rst rs ro rt rk).2.2.2.2.2.2.2.2.2.2.2.2.2.2.2.2.2.2.2.2.2.2.1) ∧ ((F_X9_town (nI n) tp s1 s2 s3 s4 K S E V).2.2.1 = 0 → ∀ i : Nat, 0 < i → i < 4 → zSame i rl rh rc rg rpe rin rgt ra0 rst rs (F_X10_town (nI n) tp rl rh rc rin rg rgt rpe ra0 rst rs ro rt rk).2.2.2.2.2.2.2.2.2.2.2.2.2.1 (F_X10_town (nI n) tp rl rh rc rin rg rgt rpe ra0 rst rs ro rt rk).2.2.2.2.2.2.2.2.2.2.2.2.2.2.1 (F_X10_town (nI n) tp rl rh rc rin rg rgt rpe ra0 rst rs ro rt rk).2.2.2.2.2.2.2.2.2.2.2.2.2.2.2.1 (F_X10_town (nI n) tp rl rh rc rin rg rgt rpe ra0 rst rs ro rt rk).2.2.2.2.2.2.2.2.2.2.2.2.2.2.2.2.2.1 (F_X10_town (nI n) tp rl rh rc rin rg rgt rpe ra0 rst rs ro rt rk).2.2.2.2.2.2.2.2.2.2.2.2.2.2.2.2.2.2.2.1 (F_X10_town (nI n) tp rl rh rc rin rg rgt rpe ra0 rst rs ro rt rk).2.2.2.2.2.2.2.2.2.2.2.2.2.2.2.2.1 (F_X10_town (nI n) tp rl rh rc rin rg rgt rpe ra0 rst rs ro rt rk).2.2.2.2.2.2.2.2.2.2.2.2.2.2.2.2.2.2.1 (F_X10_town (nI n) tp rl rh rc rin rg rgt rpe ra0 rst rs ro rt rk).2.2.2.2.2.2.2.2.2.2.2.2.2.2.2.2.2.2.2.2.1 (F_X10_town (nI n) tp rl rh rc rin rg rgt rpe ra0 rst rs ro rt rk).2.2.2.2.2.2.2.2.2.2.2.2.2.2.2.2.2.2.2.2.2.1 (F_X10_town (nI n) tp rl rh rc rin rg rgt rpe ra0 rst rs ro rt rk).2.2.2.2.2.2.2.2.2.2.2.2.2.2.2.2.2.2.2.2.2.2.1) ∧ (¬ (F_X9_town (nI n) tp s1 s2 s3 s4 K S E V).2.2.1 = 0 → ∀ i : Nat, i < 4 → zSame i rl rh rc rg rpe rin rgt ra0 rst rs (F_X10_town (nI n) tp rl rh rc rin rg rgt rpe ra0 rst rs ro rt rk).2.2.2.2.2.2.2.2.2.2.2.2.2.1 (F_X10_town (nI n) tp rl rh rc rin rg rgt rpe ra0 rst rs ro rt rk).2.2.2.2.2.2.2.2.2.2.2.2.2.2.1 (F_X10_town (nI n) tp rl rh rc rin rg rgt rpe ra0 rst rs ro rt rk).2.2.2.2.2.2.2.2.2.2.2.2.2.2.2.1 (F_X10_town (nI n) tp rl rh rc rin rg rgt rpe ra0 rst rs ro rt rk).2.2.2.2.2.2.2.2.2.2.2.2.2.2.2.2.2.1 (F_X10_town (nI n) tp rl rh rc rin rg rgt rpe ra0 rst rs ro rt rk).2.2.2.2.2.2.2.2.2.2.2.2.2.2.2.2.2.2.2.1 (F_X10_town (nI n) tp rl rh rc rin rg rgt rpe ra0 rst rs ro rt rk).2.2.2.2.2.2.2.2.2.2.2.2.2.2.2.2.1 (F_X10_town (nI n) tp rl rh rc rin rg rgt rpe ra0 rst rs ro rt rk).2.2.2.2.2.2.2.2.2.2.2.2.2.2.2.2.2.2.1 (F_X10_town (nI n) tp rl rh rc rin rg rgt rpe ra0 rst rs ro rt rk).2.2.2.2.2.2.2.2.2.2.2.2.2.2.2.2.2.2.2.2.1 (F_X10_town (nI n) tp rl rh rc rin rg rgt rpe ra0 rst rs ro rt rk).2.2.2.2.2.2.2.2.2.2.2.2.2.2.2.2.2.2.2.2.2.1 (F_X10_town (nI n) tp rl rh rc rin rg rgt rpe ra0 rst rs ro rt rk).2.2.2.2.2.2.2.2.2.2.2.2.2.2.2.2.2.2.2.2.2.2.1) ∧ zTp (F_X9_town (nI n) tp s1 s2 s3 s4 K S E V).2.2.1 rt rk (F_X10_town (nI n) tp rl rh rc rin rg rgt rpe ra0 rst rs ro rt rk).2.2.2.2.2.2.2.2.2.2.2.2.2.2.2.2.2.2.2.2.2.2.2.2.1 (F_X10_town (nI n) tp rl rh rc rin rg rgt rpe ra0 rst rs ro rt rk).2.2.2.2.2.2.2.2.2.2.2.2.2.2.2.2.2.2.2.2.2.2.2.2.2 := by
  obtain ⟨t, K', S', E', V', h1, h2, h3, h4, h5, h6, h7⟩ := zSplit_all (tx := tp) (K := K) hn hS hE hV
  have h : zTx9 tp n t K' S' E' V' := ⟨hn, h1, h2, h3, h4, h5, h6⟩
  have y0 := h.go (k := 0) (a := 0) (by omega) rfl
  rw [show (nI 0 : Int32) = 0 from nI_0] at y0
  obtain ⟨rk', hc, h9a, h9b⟩ := zClr rl rh rc rin rg rpe rs ro rt rk
  have s0 : zSim tp n t K' S' E' V' 0 0 (-1) 0 (F_X10_next (nI n) 0 tp).1 (F_X10_next (nI n) 0 tp).2.1 (F_X10_next (nI n) 0 tp).2.2.1 (F_X10_next (nI n) 0 tp).2.2.2.1 (F_X10_next (nI n) 0 tp).2.2.2.2 0 (-1) := Or.inl ⟨rfl, rfl, rfl, 0, Nat.le_refl _, nI_0.symm, y0⟩
  have hl := zLoop h (k0 := K_X5_read_1_0 (fun _ => 0) (nI t) K' S' E' V') (k1 := K_X5_read_1_1 (fun _ => 0) (nI t) K' S' E' V') (k2 := K_X5_read_1_2 (fun _ => 0) (nI t) K' S' E' V') rfl rfl (r0 := K_X10_town_1_0 (upd (upd rt 8 0) 9 0) rk') (r1 := K_X10_town_1_1 (upd (upd rt 8 0) 9 0) rk') rfl 1602 0 116005 0 (-1) 0 0 0 0 0 0 0 0 0 0 0 0 (fun _ => 0) (fun _ => 0) (fun _ => 0) (fun _ => 0) (fun _ => 0) (fun _ => 0) (fun _ => 0) (fun _ => 0) (fun _ => 0) rgt ra0 (upd rl 4 0) (upd rh 4 0) (upd rc 4 1) (upd rin 40 (-1)) (upd rg 4 0) (upd rpe 4 0) rst (upd (upd rs 8 1) 9 0) (upd (upd ro 8 0) 9 0) (F_X10_next (nI n) 0 tp).1 (F_X10_next (nI n) 0 tp).2.1 (F_X10_next (nI n) 0 tp).2.2.1 (F_X10_next (nI n) 0 tp).2.2.2.1 (F_X10_next (nI n) 0 tp).2.2.2.2 0 (-1) 0 (by omega) (by omega) (by omega) s0 nI_0.symm (by rw [pk_us]; exact nI_0.symm) (fun z => absurd rfl z) (fun z => absurd rfl z) (fun _ _ => ⟨pk_us.symm, pk_us.symm, rfl, by rw [pk_un (show (8 : Nat) ≠ 9 by decide), pk_us], pk_us.symm, pk_us, rfl, rfl, rfl, rfl, rfl⟩) (fun _ _ => ⟨rfl, pk_us, fun p _ => ⟨rfl, rfl, b_0 p⟩, by rw [pk_un (show (8 : Nat) ≠ 9 by decide), pk_us], pk_us.symm, rfl, rfl, rfl, pk_us⟩) ⟨zAl.rf.u (Nat.le_refl 4), zAl.rf.u (Nat.le_refl 4), zAl.rf.u (Nat.le_refl 4), zAl.rf.u (Nat.le_refl 4), zAl.rf.u (Nat.le_refl 4), zAl.rf.u (Nat.le_refl 40), zAl.rf, zAl.rf, zAl.rf, (zAl.rf.u (Nat.le_refl 8)).u (by decide)⟩
  obtain ⟨tn, fa', pl', a', sc', lt', ft', ho', co', ga', pe', li', fh', st', de', ab', dr', dg', nb', oe', ot', td', sp', sx', rgt', ra0', rl', rh', rc', rin', rg', rpe', rst', rs', ro', at_', tk', rp', vl', wd', bad', bp', rsy', q1, q2, q3, q4, q5, qc, qd, qe, q6, q7, q8, q9⟩ := hl
  rw [show (nI 0 : Int32) = 0 from nI_0] at q7
  have hR : F_X5_read (nI n) K S E V tp = K_X5_read_1_1 (fun _ => 0) (nI t) K' S' E' V' co' de' ab' fa' pl' a' sc' lt' ft' ho' ga' pe' li' fh' st' dr' dg' nb' oe' ot' td' sp' sx' := by
    unfold F_X5_read
    simp only [↓zL_p]
    rw [if_neg (show ¬ (1600 : Int32) < nI n by rw [show (1600 : Int32) = nI 1600 from by decide]; exact nI_nlt hn (by omega)), h7]
    exact q7
  have hQ : F_X10_town (nI n) tp rl rh rc rin rg rgt rpe ra0 rst rs ro rt rk = K_X10_town_1_1 (upd (upd rt 8 0) 9 0) rk' bad' bp' rl' rc' rs' rh' rin' rg' rgt' rpe' ra0' rst' at_' tk' rp' vl' wd' rsy' ro' := by
    unfold F_X10_town F_X10_begins
    simp only [↓zL_p]
    try simp only [hc]
    exact q8
  have c4 : Int32.toNatClampNeg 4 = 4 := by decide
  have c0 : Int32.toNatClampNeg 0 = 0 := by decide
  have hX : ∀ b1 b2 b3 b4 b5 b6 b7 b8 b9 b10 b11 b12 : Nat → Int32, (F_X10_copyTown 4 0 b1 b2 b3 b4 b5 b6 b7 b8 b9 b10 b11 b12).1 0 = b1 4 := fun b1 b2 b3 b4 b5 b6 b7 b8 b9 b10 b11 b12 => by
    show F_X10_copyRow 4 0 b1 0 = b1 4
    rw [zCp1, pk_us]
  generalize eQ : F_X10_town (nI n) tp rl rh rc rin rg rgt rpe ra0 rst rs ro rt rk = Q at hQ ⊢
  generalize eA : F_X9_town (nI n) tp s1 s2 s3 s4 K S E V = A
  clear eQ
  unfold F_X9_town at eA
  simp only [↓zL_p] at eA
  simp only [hR] at eA
  unfold K_X5_read_1_1 at eA
  simp only [↓zL_p] at eA
  unfold K_X10_town_1_1 F_X10_isOver at hQ
  simp only [↓zL_p] at hQ
  have c8 : Int32.toNatClampNeg 8 = 8 := by decide
  simp only [c4, c0, c8] at hQ
  rcases q2 with ⟨rfl, rfl, rfl, k, -, -, -⟩ | ⟨g1, g2, g3⟩
  · rw [if_pos (show (0 : Int32) = 0 from rfl)] at eA hQ
    by_cases e : rl' 4 = 0
    · rw [if_pos e] at hQ
      have etn : tn = 0 := by
        rcases Nat.eq_zero_or_pos tn with w | w
        · exact w
        · exact absurd (q4.symm.trans e) (nI_ne0 w (by omega))
      obtain ⟨u1, u2, u3, u4, u5, u6, u7, u8, u9, u10, u11⟩ := qd rfl etn
      obtain ⟨x1, x2, x3, x4, x5, x6, x7, x8, x9⟩ := qe rfl etn
      have q99 := zLo.over (v := 0) (w := 0) q9
      rw [hX] at hQ
      unfold F_X10_copyTown at hQ
      simp only [↓zL_p] at hQ
      subst hQ
      subst eA
      dsimp only
      refine ⟨q3.trans q4.symm, (by first | rfl | trivial), (by first | rfl | trivial), (by first | rfl | trivial), (by first | rfl | trivial), ?_, ?_, fun z => absurd (by first | rfl | trivial) z, zTp.ok h9a h9b⟩
      · intro _
        exact zTn.copy4 (x6.trans x9.symm) (x7.trans pk_us.symm) u1 u2 (q3.trans q4.symm) ⟨⟨x1, fun _ => x2, fun c a b => by rw [x7, zN_0] at b; omega⟩, fun g hg => by rw [u7, zN_0] at hg; omega, fun p j hp _ => by rw [u8, zN_0] at hp; omega, ⟨fun p hp => by rw [u8, zN_0] at hp; omega, fun p hp _ => x3 p hp⟩, x8.trans pk_us.symm, by rw [pk_un (show 2 * 4 + 1 ≠ 8 by decide)]; exact x5, Or.inl x8⟩ (Or.inl x8) (by rw [x6, zN_0]; omega) (by rw [x7, zN_0]; omega) (by rw [u7, zN_0]; omega) (by rw [u8, zN_0]; omega)
      · intro _ i i0 i4
        have w1 := q99.same i4
        refine w1.tr ?_
        exact zSame.copy4 (by omega) ..
    · rw [if_neg e] at hQ
      have etn : ¬ tn = 0 := fun w => e (q4.trans (by rw [w]; exact nI_0))
      obtain ⟨u1, u2, u3, u4, -, -, -, b1, b2, b3, b4, -⟩ := q5 etn rfl
      have hz := qc etn rfl
      rw [hX] at hQ
      unfold F_X10_copyTown at hQ
      simp only [↓zL_p] at hQ
      subst hQ
      subst eA
      dsimp only
      refine ⟨q3.trans q4.symm, (by first | rfl | trivial), (by first | rfl | trivial), (by first | rfl | trivial), (by first | rfl | trivial), ?_, ?_, fun z => absurd (by first | rfl | trivial) z, zTp.ok h9a h9b⟩
      · intro _
        exact zTn.copy4 u1 u2 u3 u4 (q3.trans q4.symm) hz hz.2.2.2.2.2.2 b1 (by omega) b3 b4
      · intro _ i i0 i4
        have w1 := q9.same i4
        refine w1.tr ?_
        exact zSame.copy4 (by omega) ..
  · have hb : ¬ bad' = 0 := by rw [g2]; exact g1
    simp only [if_neg g1] at eA
    simp only [if_neg hb] at hQ
    subst hQ
    subst eA
    exact ⟨rfl, g2.symm, g3.symm, rfl, rfl, fun z => absurd z g1, fun z => absurd z g1, fun _ i i4 => q9.same i4, zTp.no g1 h9b⟩
