set_option linter.all false
/-! rows alike below an index -/
def zAl (B : Nat) (f g : Nat → Int32) : Prop := ∀ j : Nat, j < B → g j = f j
theorem zAl.rf {B : Nat} {f : Nat → Int32} : zAl B f f := fun _ _ => rfl
theorem zAl.u {B k : Nat} {f g : Nat → Int32} {v : Int32} (h : zAl B f g) (hk : B ≤ k) : zAl B f (upd g k v) := fun j hj => by
  rw [pk_un (show j ≠ k by omega)]; exact h j hj
theorem zAl.tr {B : Nat} {f g k : Nat → Int32} (h1 : zAl B f g) (h2 : zAl B g k) : zAl B f k := fun j hj => (h2 j hj).trans (h1 j hj)
theorem zAl.eq {B k : Nat} {f g : Nat → Int32} {v : Int32} (e : g = upd f k v) (hk : B ≤ k) : zAl B f g := by
  rw [e]; exact zAl.rf.u hk
def zLo8 (rc rin rg rgt rpe ra0 rst rs rc' rin' rg' rgt' rpe' ra0' rst' rs' : Nat → Int32) : Prop := zAl 4 rc rc' ∧ zAl 40 rin rin' ∧ zAl 4 rg rg' ∧ zAl 128 rgt rgt' ∧ zAl 4 rpe rpe' ∧ zAl 1920 ra0 ra0' ∧ zAl 80 rst rst' ∧ zAl 8 rs rs'
theorem zLo8.rf {rc rin rg rgt rpe ra0 rst rs : Nat → Int32} : zLo8 rc rin rg rgt rpe ra0 rst rs rc rin rg rgt rpe ra0 rst rs := ⟨zAl.rf, zAl.rf, zAl.rf, zAl.rf, zAl.rf, zAl.rf, zAl.rf, zAl.rf⟩
def zLo (bl bh bc bg bp bi bt9 ba bs b9 rl rh rc rg rpe rin rgt ra0 rst rs : Nat → Int32) : Prop := zAl 4 bl rl ∧ zAl 4 bh rh ∧ zAl 4 bc rc ∧ zAl 4 bg rg ∧ zAl 4 bp rpe ∧ zAl 40 bi rin ∧ zAl 128 bt9 rgt ∧ zAl 1920 ba ra0 ∧ zAl 80 bs rst ∧ zAl 8 b9 rs
theorem zLo.hours {bl bh bc bg bp bi bt9 ba bs b9 rl rh rc rg rpe rin rgt ra0 rst rs : Nat → Int32} {v w : Int32} (h : zLo bl bh bc bg bp bi bt9 ba bs b9 rl rh rc rg rpe rin rgt ra0 rst rs) : zLo bl bh bc bg bp bi bt9 ba bs b9 (upd rl 4 v) (upd rh 4 w) rc rg rpe rin rgt ra0 rst rs := ⟨h.1.u (Nat.le_refl 4), h.2.1.u (Nat.le_refl 4), h.2.2⟩
theorem zLo.line {bl bh bc bg bp bi bt9 ba bs b9 rl rh rc rg rpe rin rgt ra0 rst rs rc' rin' rg' rgt' rpe' ra0' rst' rs' : Nat → Int32} {v : Int32} (h : zLo bl bh bc bg bp bi bt9 ba bs b9 rl rh rc rg rpe rin rgt ra0 rst rs) (z : zLo8 rc rin rg rgt rpe ra0 rst rs rc' rin' rg' rgt' rpe' ra0' rst' rs') : zLo bl bh bc bg bp bi bt9 ba bs b9 (upd rl 4 v) rh rc' rg' rpe' rin' rgt' ra0' rst' rs' := by
  obtain ⟨h1, h2, h3, h4, h5, h6, h7, h8, h9, h10⟩ := h
  obtain ⟨z1, z2, z3, z4, z5, z6, z7, z8⟩ := z
  exact ⟨h1.u (Nat.le_refl 4), h2, h3.tr z1, h4.tr z3, h5.tr z5, h6.tr z2, h7.tr z4, h8.tr z6, h9.tr z7, h10.tr z8⟩
theorem zLo.over {bl bh bc bg bp bi bt9 ba bs b9 rl rh rc rg rpe rin rgt ra0 rst rs : Nat → Int32} {v w : Int32} (h : zLo bl bh bc bg bp bi bt9 ba bs b9 rl rh rc rg rpe rin rgt ra0 rst rs) : zLo bl bh bc bg bp bi bt9 ba bs b9 rl rh (upd rc 4 v) rg rpe rin rgt ra0 rst (upd rs 8 w) := by
  obtain ⟨h1, h2, h3, h4, h5, h6, h7, h8, h9, h10⟩ := h
  exact ⟨h1, h2, h3.u (Nat.le_refl 4), h4, h5, h6, h7, h8, h9, h10.u (Nat.le_refl 8)⟩
