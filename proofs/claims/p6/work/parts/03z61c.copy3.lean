set_option linter.all false
/-! a town at an index: what it needs of the reference's rows -/
/-- the rows alike at index c -/
def zSame (c : Nat) (rl rh rc rg rpe rin rgt ra0 rst rs rl' rh' rc' rg' rpe' rin' rgt' ra0' rst' rs' : Nat → Int32) : Prop := (rl' c = rl c ∧ rh' c = rh c ∧ rc' c = rc c ∧ rg' c = rg c ∧ rpe' c = rpe c) ∧ (∀ j : Nat, j < 10 → rin' (10 * c + j) = rin (10 * c + j)) ∧ (∀ j : Nat, j < 32 → rgt' (32 * c + j) = rgt (32 * c + j)) ∧ (∀ j : Nat, j < 480 → ra0' (480 * c + j) = ra0 (480 * c + j)) ∧ (∀ j : Nat, j < 20 → rst' (20 * c + j) = rst (20 * c + j)) ∧ ∀ j : Nat, j < 2 → rs' (2 * c + j) = rs (2 * c + j)
theorem zTn.same {c : Nat} {ho co ga pe li fh st de : Int32} {ab oe ot td sp sx sh rl rh rc rg rpe rin rgt ra0 rst rs rl' rh' rc' rg' rpe' rin' rgt' ra0' rst' rs' : Nat → Int32} (h : zTn c ho co ga pe li fh st de ab oe ot td sp sx sh rl rh rc rg rpe rin rgt ra0 rst rs) (e : zSame c rl rh rc rg rpe rin rgt ra0 rst rs rl' rh' rc' rg' rpe' rin' rgt' ra0' rst' rs') (hho : ho.toInt ≤ 48) (hco : co.toInt ≤ 10) (hga : ga.toInt ≤ 16) (hpe : pe.toInt ≤ 10) : zTn c ho co ga pe li fh st de ab oe ot td sp sx sh rl' rh' rc' rg' rpe' rin' rgt' ra0' rst' rs' := by
  obtain ⟨h1, h2, h3, h4, h5, ⟨c1, c2, c3, c4, c5, c6, c7⟩, h7, h8⟩ := h
  obtain ⟨⟨q1, q2, q3, q4, q5⟩, e3, e5, e6, e7, e8⟩ := e
  refine ⟨h1.trans q2.symm, h2.trans q3.symm, h3.trans q4.symm, h4.trans q5.symm, h5.trans q1.symm, ⟨⟨c1.1, fun hz => ?_, fun k h0 hc => ?_⟩, fun g hg => ?_, fun p j hp hj => ?_, ⟨fun p hp => ?_, c4.2⟩, ?_, ?_, c7⟩, h7, h8⟩
  · have z := e3 0 (by omega)
    rw [show 10 * c + 0 = 10 * c by omega] at z
    rw [z]; exact c1.2.1 hz
  · obtain ⟨q, z1, z2, z3⟩ := c1.2.2 k h0 hc
    exact ⟨q, z1, by rw [e3 k (by omega)]; exact z2, z3⟩
  · obtain ⟨z1, z2, z3⟩ := c2 g hg
    have a1 := e5 (2 * g) (by omega)
    have a2 := e5 (2 * g + 1) (by omega)
    rw [show 32 * c + (2 * g + 1) = 32 * c + 2 * g + 1 by omega] at a2
    rw [a1, a2]
    exact ⟨z1, z2, z3⟩
  · obtain ⟨z1, z2⟩ := c3 p j hp hj
    have a1 := e6 (48 * p + j) (by omega)
    rw [show 480 * c + (48 * p + j) = 480 * c + 48 * p + j by omega] at a1
    rw [a1]
    exact ⟨z1, z2⟩
  · have z := c4.1 p hp
    have a1 := e7 (2 * p) (by omega)
    have a2 := e7 (2 * p + 1) (by omega)
    rw [show 20 * c + (2 * p + 1) = 20 * c + 2 * p + 1 by omega] at a2
    rw [a1, a2]
    exact z
  · have z := e8 0 (by omega)
    rw [show 2 * c + 0 = 2 * c by omega] at z
    exact c5.trans z.symm
  · exact c6.trans (e8 1 (by omega)).symm
theorem zSame.other {a b c : Nat} (ha : a ≤ 4) (hb : b ≤ 4) (hab : ¬ a = b) (hcb : ¬ c = b) (rl rh rc rg rpe rin rgt ra0 rst rs : Nat → Int32) : zSame c rl rh rc rg rpe rin rgt ra0 rst rs (F_X10_copyRow (nI a) (nI b) rl) (F_X10_copyRow_v1 (nI a) (nI b) rh) (F_X10_copyRow_v2 (nI a) (nI b) rc) (F_X10_copyRow_v4 (nI a) (nI b) rg) (F_X10_copyRow_v2 (nI a) (nI b) rpe) (F_X10_copyRow_v3 (nI a) (nI b) rin) (F_X10_copyRow_v5 (nI a) (nI b) rgt) (F_X10_copyRow_v6 (nI a) (nI b) ra0) (F_X10_copyRow_v7 (nI a) (nI b) rst) (F_X10_copyRow_v8 (nI a) (nI b) rs) :=
  ⟨⟨(zCop0 ha hb hab rl).2 c (by omega), (zCop1 ha hb hab rh).2 c (by omega), (zCop2 ha hb hab rc).2 c (by omega), (zCop4 ha hb hab rg).2 c (by omega), (zCop2 ha hb hab rpe).2 c (by omega)⟩, fun j hj => (zCop3 ha hb hab rin).2 _ (by omega), fun j hj => (zCop5 ha hb hab rgt).2 _ (by omega), fun j hj => (zCop6 ha hb hab ra0).2 _ (by omega), fun j hj => (zCop7 ha hb hab rst).2 _ (by omega), fun j hj => (zCop8 ha hb hab rs).2 _ (by omega)⟩
theorem zSame.tr {c : Nat} {rl rh rc rg rpe rin rgt ra0 rst rs rl' rh' rc' rg' rpe' rin' rgt' ra0' rst' rs' rl'' rh'' rc'' rg'' rpe'' rin'' rgt'' ra0'' rst'' rs'' : Nat → Int32} (h1 : zSame c rl rh rc rg rpe rin rgt ra0 rst rs rl' rh' rc' rg' rpe' rin' rgt' ra0' rst' rs') (h2 : zSame c rl' rh' rc' rg' rpe' rin' rgt' ra0' rst' rs' rl'' rh'' rc'' rg'' rpe'' rin'' rgt'' ra0'' rst'' rs'') : zSame c rl rh rc rg rpe rin rgt ra0 rst rs rl'' rh'' rc'' rg'' rpe'' rin'' rgt'' ra0'' rst'' rs'' :=
  ⟨⟨h2.1.1.trans h1.1.1, h2.1.2.1.trans h1.1.2.1, h2.1.2.2.1.trans h1.1.2.2.1, h2.1.2.2.2.1.trans h1.1.2.2.2.1, h2.1.2.2.2.2.trans h1.1.2.2.2.2⟩, fun j hj => (h2.2.1 j hj).trans (h1.2.1 j hj), fun j hj => (h2.2.2.1 j hj).trans (h1.2.2.1 j hj), fun j hj => (h2.2.2.2.1 j hj).trans (h1.2.2.2.1 j hj), fun j hj => (h2.2.2.2.2.1 j hj).trans (h1.2.2.2.2.1 j hj), fun j hj => (h2.2.2.2.2.2 j hj).trans (h1.2.2.2.2.2 j hj)⟩
theorem zLo.same {c : Nat} (hc : c < 4) {rl rh rc rg rpe rin rgt ra0 rst rs rl' rh' rc' rg' rpe' rin' rgt' ra0' rst' rs' : Nat → Int32} (h : zLo rl rh rc rg rpe rin rgt ra0 rst rs rl' rh' rc' rg' rpe' rin' rgt' ra0' rst' rs') : zSame c rl rh rc rg rpe rin rgt ra0 rst rs rl' rh' rc' rg' rpe' rin' rgt' ra0' rst' rs' := by
  obtain ⟨h1, h2, h3, h4, h5, h6, h7, h8, h9, h10⟩ := h
  exact ⟨⟨h1 c hc, h2 c hc, h3 c hc, h4 c hc, h5 c hc⟩, fun j hj => h6 _ (by omega), fun j hj => h7 _ (by omega), fun j hj => h8 _ (by omega), fun j hj => h9 _ (by omega), fun j hj => h10 _ (by omega)⟩
theorem zSame.copy4 {c : Nat} (hc : ¬ c = 0) (rl rh rc rg rpe rin rgt ra0 rst rs : Nat → Int32) : zSame c rl rh rc rg rpe rin rgt ra0 rst rs (F_X10_copyRow 4 0 rl) (F_X10_copyRow_v1 4 0 rh) (F_X10_copyRow_v2 4 0 rc) (F_X10_copyRow_v4 4 0 rg) (F_X10_copyRow_v2 4 0 rpe) (F_X10_copyRow_v3 4 0 rin) (F_X10_copyRow_v5 4 0 rgt) (F_X10_copyRow_v6 4 0 ra0) (F_X10_copyRow_v7 4 0 rst) (F_X10_copyRow_v8 4 0 rs) := by
  have e := zSame.other (a := 4) (b := 0) (c := c) (Nat.le_refl 4) (Nat.zero_le 4) (by decide) hc rl rh rc rg rpe rin rgt ra0 rst rs
  rw [show (nI 4 : Int32) = 4 from by decide, show (nI 0 : Int32) = 0 from nI_0] at e
  exact e
