set_option linter.all false
/-! ranges at hand, instead of omega -/
theorem z_rin {x lo hi : Int} {n : Nat} (h : lo ≤ x ∧ x ≤ hi) (d : 0 ≤ lo ∧ hi < (n : Int)) : 0 ≤ x ∧ x < (n : Int) := ⟨Int.le_trans d.1 h.1, Int.lt_of_le_of_lt h.2 d.2⟩
theorem z_rle {x lo hi lo' hi' : Int} (h : lo ≤ x ∧ x ≤ hi) (d : lo' ≤ lo ∧ hi ≤ hi') : lo' ≤ x ∧ x ≤ hi' := ⟨Int.le_trans d.1 h.1, Int.le_trans h.2 d.2⟩
theorem z_ead {x a b la ha lb hb : Int} (e : x = a + b) (h : la ≤ a ∧ a ≤ ha) (h' : lb ≤ b ∧ b ≤ hb) : la + lb ≤ x ∧ x ≤ ha + hb := by rw [e]; exact ⟨Int.add_le_add h.1 h'.1, Int.add_le_add h.2 h'.2⟩
theorem z_eac {x a la ha c : Int} (e : x = a + c) (h : la ≤ a ∧ a ≤ ha) : la + c ≤ x ∧ x ≤ ha + c := by rw [e]; exact ⟨Int.add_le_add_right h.1 c, Int.add_le_add_right h.2 c⟩
theorem z_eca {x a la ha c : Int} (e : x = c + a) (h : la ≤ a ∧ a ≤ ha) : c + la ≤ x ∧ x ≤ c + ha := by rw [e]; exact ⟨Int.add_le_add_left h.1 c, Int.add_le_add_left h.2 c⟩
theorem z_esc {x a la ha c : Int} (e : x = a - c) (h : la ≤ a ∧ a ≤ ha) : la - c ≤ x ∧ x ≤ ha - c := by rw [e]; exact ⟨Int.sub_le_sub_right h.1 c, Int.sub_le_sub_right h.2 c⟩
theorem z_emc {x a la ha : Int} {c : Nat} (e : x = (c : Int) * a) (h : la ≤ a ∧ a ≤ ha) : (c : Int) * la ≤ x ∧ x ≤ (c : Int) * ha := by rw [e]; exact ⟨Int.mul_le_mul_of_nonneg_left h.1 (Int.natCast_nonneg c), Int.mul_le_mul_of_nonneg_left h.2 (Int.natCast_nonneg c)⟩
theorem z_ecm {x a la ha : Int} {c : Nat} (e : x = a * (c : Int)) (h : la ≤ a ∧ a ≤ ha) : la * (c : Int) ≤ x ∧ x ≤ ha * (c : Int) := by rw [e]; exact ⟨Int.mul_le_mul_of_nonneg_right h.1 (Int.natCast_nonneg c), Int.mul_le_mul_of_nonneg_right h.2 (Int.natCast_nonneg c)⟩
theorem z_r0 {x lo hi : Int} (h : lo ≤ x ∧ x ≤ hi) (d : 0 ≤ lo) : 0 ≤ x := Int.le_trans d h.1
theorem z_rac {x lo hi c : Int} (h : lo ≤ x ∧ x ≤ hi) (d : -2147483648 ≤ lo + c ∧ hi + c ≤ 2147483647) : -2147483648 ≤ x + c ∧ x + c ≤ 2147483647 := ⟨Int.le_trans d.1 (Int.add_le_add_right h.1 c), Int.le_trans (Int.add_le_add_right h.2 c) d.2⟩
theorem z_rsc {x lo hi c : Int} (h : lo ≤ x ∧ x ≤ hi) (d : -2147483648 ≤ lo - c ∧ hi - c ≤ 2147483647) : -2147483648 ≤ x - c ∧ x - c ≤ 2147483647 := ⟨Int.le_trans d.1 (Int.sub_le_sub_right h.1 c), Int.le_trans (Int.sub_le_sub_right h.2 c) d.2⟩
theorem z_raa {x y lo hi lo' hi' : Int} (h : lo ≤ x ∧ x ≤ hi) (h' : lo' ≤ y ∧ y ≤ hi') (d : -2147483648 ≤ lo + lo' ∧ hi + hi' ≤ 2147483647) : -2147483648 ≤ x + y ∧ x + y ≤ 2147483647 := ⟨Int.le_trans d.1 (Int.add_le_add h.1 h'.1), Int.le_trans (Int.add_le_add h.2 h'.2) d.2⟩
theorem z_rmc {x lo hi c : Int} (h : lo ≤ x ∧ x ≤ hi) (d : 0 ≤ c ∧ -2147483648 ≤ c * lo ∧ c * hi ≤ 2147483647) : -2147483648 ≤ c * x ∧ c * x ≤ 2147483647 := ⟨Int.le_trans d.2.1 (Int.mul_le_mul_of_nonneg_left h.1 d.1), Int.le_trans (Int.mul_le_mul_of_nonneg_left h.2 d.1) d.2.2⟩
theorem z_rcm {x lo hi c : Int} (h : lo ≤ x ∧ x ≤ hi) (d : 0 ≤ c ∧ -2147483648 ≤ lo * c ∧ hi * c ≤ 2147483647) : -2147483648 ≤ x * c ∧ x * c ≤ 2147483647 := ⟨Int.le_trans d.2.1 (Int.mul_le_mul_of_nonneg_right h.1 d.1), Int.le_trans (Int.mul_le_mul_of_nonneg_right h.2 d.1) d.2.2⟩
