set_option linter.all false
/-! binds and loops of the methods' functions -/
def zL {α β : Type} (a : α) (f : α → β) : β := f a
theorem zL_eq {α β : Type} {a x : α} {f : α → β} (h : x = a) : zL a f = f x := by rw [h]; rfl
def zLp {α : Type} (d : α) (B : α → α) : Nat → α
  | 0 => d
  | t + 1 => B (zLp d B t)
theorem z10 : ¬ (1 : Int32) = 0 := by decide
theorem z20 : ¬ (2 : Int32) = 0 := by decide
theorem z30 : ¬ (3 : Int32) = 0 := by decide
/-- not by rfl: so that the kernel never weighs zL against what stands behind it (it would unfold loops first) -/
theorem zL_p {α β : Type} {a : α} {f : α → β} : zL a f = f a := zL_eq (Eq.refl a)
