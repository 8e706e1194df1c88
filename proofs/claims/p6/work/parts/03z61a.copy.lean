set_option linter.all false
/-! rows copied -/
theorem zCo0 {a b : Nat} (ha : a ≤ 4) (hb : b ≤ 4) (hab : ¬ a = b) (g0 : Nat → Int32) : ∀ (f m : Nat) (g : Nat → Int32), 1 - m < f → m ≤ 1 → (∀ j : Nat, j < 1 → g (1 * a + j) = g0 (1 * a + j)) → ∃ g' : Nat → Int32, L_X10_copyRow_1 (nI b) (nI a) K_X10_copyRow_1_0 f (nI m) g = g' ∧ (∀ j : Nat, m ≤ j → j < 1 → g' (1 * b + j) = g0 (1 * a + j)) ∧ ∀ j : Nat, (j < 1 * b + m ∨ 1 * b + 1 ≤ j) → g' j = g j := by
  intro f
  induction f with
  | zero => intro m g h; omega
  | succ f ih =>
    intro m g hf hm hg
    rw [L_X10_copyRow_1_s]
    unfold B_X10_copyRow_1
    simp only [↓zL_p]
    try simp only [zn_inc]
    rw [show (1 : Int32) = nI 1 from by decide]
    rcases Nat.lt_or_ge m 1 with q | q
    · rw [if_neg (nI_ge q (by omega)), pk_mul, pk_mul, nI_add, nI_add, nI_clamp (show 1 * b + m < 2 ^ 31 by omega), nI_clamp (show 1 * a + m < 2 ^ 31 by omega), hg m q]
      obtain ⟨g', h1, h2, h3⟩ := ih (m + 1) (upd g (1 * b + m) (g0 (1 * a + m))) (by omega) (by omega) (fun j hj => by rw [pk_un (show 1 * a + j ≠ 1 * b + m by omega)]; exact hg j hj)
      refine ⟨g', h1, fun j u w => ?_, fun j hj => ?_⟩
      · rcases Nat.lt_or_ge m j with z | z
        · exact h2 j z w
        · rw [show j = m by omega, h3 (1 * b + m) (by omega), pk_us]
      · rw [h3 j (by omega), pk_un (show j ≠ 1 * b + m by omega)]
    · rw [if_pos (nI_le q (by omega))]
      exact ⟨g, rfl, fun j u w => absurd w (by omega), fun j _ => rfl⟩
theorem zCop0 {a b : Nat} (ha : a ≤ 4) (hb : b ≤ 4) (hab : ¬ a = b) (g : Nat → Int32) : (∀ j : Nat, j < 1 → F_X10_copyRow (nI a) (nI b) g (1 * b + j) = g (1 * a + j)) ∧ ∀ j : Nat, (j < 1 * b ∨ 1 * b + 1 ≤ j) → F_X10_copyRow (nI a) (nI b) g j = g j := by
  obtain ⟨g', h1, h2, h3⟩ := zCo0 ha hb hab g 3 0 g (by omega) (by omega) (fun _ _ => rfl)
  have e : F_X10_copyRow (nI a) (nI b) g = g' := by rw [← h1, nI_0]; rfl
  rw [e]
  exact ⟨fun j hj => h2 j (Nat.zero_le _) hj, fun j hj => h3 j (by omega)⟩
theorem zCo1 {a b : Nat} (ha : a ≤ 4) (hb : b ≤ 4) (hab : ¬ a = b) (g0 : Nat → Int32) : ∀ (f m : Nat) (g : Nat → Int32), 1 - m < f → m ≤ 1 → (∀ j : Nat, j < 1 → g (1 * a + j) = g0 (1 * a + j)) → ∃ g' : Nat → Int32, L_X10_copyRow_1_v1 (nI b) (nI a) K_X10_copyRow_1_0_v1 f (nI m) g = g' ∧ (∀ j : Nat, m ≤ j → j < 1 → g' (1 * b + j) = g0 (1 * a + j)) ∧ ∀ j : Nat, (j < 1 * b + m ∨ 1 * b + 1 ≤ j) → g' j = g j := by
  intro f
  induction f with
  | zero => intro m g h; omega
  | succ f ih =>
    intro m g hf hm hg
    rw [L_X10_copyRow_1_v1_s]
    unfold B_X10_copyRow_1_v1
    simp only [↓zL_p]
    try simp only [zn_inc]
    rw [show (1 : Int32) = nI 1 from by decide]
    rcases Nat.lt_or_ge m 1 with q | q
    · rw [if_neg (nI_ge q (by omega)), pk_mul, pk_mul, nI_add, nI_add, nI_clamp (show 1 * b + m < 2 ^ 31 by omega), nI_clamp (show 1 * a + m < 2 ^ 31 by omega), hg m q]
      obtain ⟨g', h1, h2, h3⟩ := ih (m + 1) (upd g (1 * b + m) (g0 (1 * a + m))) (by omega) (by omega) (fun j hj => by rw [pk_un (show 1 * a + j ≠ 1 * b + m by omega)]; exact hg j hj)
      refine ⟨g', h1, fun j u w => ?_, fun j hj => ?_⟩
      · rcases Nat.lt_or_ge m j with z | z
        · exact h2 j z w
        · rw [show j = m by omega, h3 (1 * b + m) (by omega), pk_us]
      · rw [h3 j (by omega), pk_un (show j ≠ 1 * b + m by omega)]
    · rw [if_pos (nI_le q (by omega))]
      exact ⟨g, rfl, fun j u w => absurd w (by omega), fun j _ => rfl⟩
theorem zCop1 {a b : Nat} (ha : a ≤ 4) (hb : b ≤ 4) (hab : ¬ a = b) (g : Nat → Int32) : (∀ j : Nat, j < 1 → F_X10_copyRow_v1 (nI a) (nI b) g (1 * b + j) = g (1 * a + j)) ∧ ∀ j : Nat, (j < 1 * b ∨ 1 * b + 1 ≤ j) → F_X10_copyRow_v1 (nI a) (nI b) g j = g j := by
  obtain ⟨g', h1, h2, h3⟩ := zCo1 ha hb hab g 3 0 g (by omega) (by omega) (fun _ _ => rfl)
  have e : F_X10_copyRow_v1 (nI a) (nI b) g = g' := by rw [← h1, nI_0]; rfl
  rw [e]
  exact ⟨fun j hj => h2 j (Nat.zero_le _) hj, fun j hj => h3 j (by omega)⟩
theorem zCo2 {a b : Nat} (ha : a ≤ 4) (hb : b ≤ 4) (hab : ¬ a = b) (g0 : Nat → Int32) : ∀ (f m : Nat) (g : Nat → Int32), 1 - m < f → m ≤ 1 → (∀ j : Nat, j < 1 → g (1 * a + j) = g0 (1 * a + j)) → ∃ g' : Nat → Int32, L_X10_copyRow_1_v2 (nI b) (nI a) K_X10_copyRow_1_0_v2 f (nI m) g = g' ∧ (∀ j : Nat, m ≤ j → j < 1 → g' (1 * b + j) = g0 (1 * a + j)) ∧ ∀ j : Nat, (j < 1 * b + m ∨ 1 * b + 1 ≤ j) → g' j = g j := by
  intro f
  induction f with
  | zero => intro m g h; omega
  | succ f ih =>
    intro m g hf hm hg
    rw [L_X10_copyRow_1_v2_s]
    unfold B_X10_copyRow_1_v2
    simp only [↓zL_p]
    try simp only [zn_inc]
    rw [show (1 : Int32) = nI 1 from by decide]
    rcases Nat.lt_or_ge m 1 with q | q
    · rw [if_neg (nI_ge q (by omega)), pk_mul, pk_mul, nI_add, nI_add, nI_clamp (show 1 * b + m < 2 ^ 31 by omega), nI_clamp (show 1 * a + m < 2 ^ 31 by omega), hg m q]
      obtain ⟨g', h1, h2, h3⟩ := ih (m + 1) (upd g (1 * b + m) (g0 (1 * a + m))) (by omega) (by omega) (fun j hj => by rw [pk_un (show 1 * a + j ≠ 1 * b + m by omega)]; exact hg j hj)
      refine ⟨g', h1, fun j u w => ?_, fun j hj => ?_⟩
      · rcases Nat.lt_or_ge m j with z | z
        · exact h2 j z w
        · rw [show j = m by omega, h3 (1 * b + m) (by omega), pk_us]
      · rw [h3 j (by omega), pk_un (show j ≠ 1 * b + m by omega)]
    · rw [if_pos (nI_le q (by omega))]
      exact ⟨g, rfl, fun j u w => absurd w (by omega), fun j _ => rfl⟩
theorem zCop2 {a b : Nat} (ha : a ≤ 4) (hb : b ≤ 4) (hab : ¬ a = b) (g : Nat → Int32) : (∀ j : Nat, j < 1 → F_X10_copyRow_v2 (nI a) (nI b) g (1 * b + j) = g (1 * a + j)) ∧ ∀ j : Nat, (j < 1 * b ∨ 1 * b + 1 ≤ j) → F_X10_copyRow_v2 (nI a) (nI b) g j = g j := by
  obtain ⟨g', h1, h2, h3⟩ := zCo2 ha hb hab g 3 0 g (by omega) (by omega) (fun _ _ => rfl)
  have e : F_X10_copyRow_v2 (nI a) (nI b) g = g' := by rw [← h1, nI_0]; rfl
  rw [e]
  exact ⟨fun j hj => h2 j (Nat.zero_le _) hj, fun j hj => h3 j (by omega)⟩
theorem zCo3 {a b : Nat} (ha : a ≤ 4) (hb : b ≤ 4) (hab : ¬ a = b) (g0 : Nat → Int32) : ∀ (f m : Nat) (g : Nat → Int32), 10 - m < f → m ≤ 10 → (∀ j : Nat, j < 10 → g (10 * a + j) = g0 (10 * a + j)) → ∃ g' : Nat → Int32, L_X10_copyRow_1_v3 (nI b) (nI a) K_X10_copyRow_1_0_v3 f (nI m) g = g' ∧ (∀ j : Nat, m ≤ j → j < 10 → g' (10 * b + j) = g0 (10 * a + j)) ∧ ∀ j : Nat, (j < 10 * b + m ∨ 10 * b + 10 ≤ j) → g' j = g j := by
  intro f
  induction f with
  | zero => intro m g h; omega
  | succ f ih =>
    intro m g hf hm hg
    rw [L_X10_copyRow_1_v3_s]
    unfold B_X10_copyRow_1_v3
    simp only [↓zL_p]
    try simp only [zn_inc]
    rw [show (10 : Int32) = nI 10 from by decide]
    rcases Nat.lt_or_ge m 10 with q | q
    · rw [if_neg (nI_ge q (by omega)), pk_mul, pk_mul, nI_add, nI_add, nI_clamp (show 10 * b + m < 2 ^ 31 by omega), nI_clamp (show 10 * a + m < 2 ^ 31 by omega), hg m q]
      obtain ⟨g', h1, h2, h3⟩ := ih (m + 1) (upd g (10 * b + m) (g0 (10 * a + m))) (by omega) (by omega) (fun j hj => by rw [pk_un (show 10 * a + j ≠ 10 * b + m by omega)]; exact hg j hj)
      refine ⟨g', h1, fun j u w => ?_, fun j hj => ?_⟩
      · rcases Nat.lt_or_ge m j with z | z
        · exact h2 j z w
        · rw [show j = m by omega, h3 (10 * b + m) (by omega), pk_us]
      · rw [h3 j (by omega), pk_un (show j ≠ 10 * b + m by omega)]
    · rw [if_pos (nI_le q (by omega))]
      exact ⟨g, rfl, fun j u w => absurd w (by omega), fun j _ => rfl⟩
theorem zCop3 {a b : Nat} (ha : a ≤ 4) (hb : b ≤ 4) (hab : ¬ a = b) (g : Nat → Int32) : (∀ j : Nat, j < 10 → F_X10_copyRow_v3 (nI a) (nI b) g (10 * b + j) = g (10 * a + j)) ∧ ∀ j : Nat, (j < 10 * b ∨ 10 * b + 10 ≤ j) → F_X10_copyRow_v3 (nI a) (nI b) g j = g j := by
  obtain ⟨g', h1, h2, h3⟩ := zCo3 ha hb hab g 12 0 g (by omega) (by omega) (fun _ _ => rfl)
  have e : F_X10_copyRow_v3 (nI a) (nI b) g = g' := by rw [← h1, nI_0]; rfl
  rw [e]
  exact ⟨fun j hj => h2 j (Nat.zero_le _) hj, fun j hj => h3 j (by omega)⟩
theorem zCo4 {a b : Nat} (ha : a ≤ 4) (hb : b ≤ 4) (hab : ¬ a = b) (g0 : Nat → Int32) : ∀ (f m : Nat) (g : Nat → Int32), 1 - m < f → m ≤ 1 → (∀ j : Nat, j < 1 → g (1 * a + j) = g0 (1 * a + j)) → ∃ g' : Nat → Int32, L_X10_copyRow_1_v4 (nI b) (nI a) K_X10_copyRow_1_0_v4 f (nI m) g = g' ∧ (∀ j : Nat, m ≤ j → j < 1 → g' (1 * b + j) = g0 (1 * a + j)) ∧ ∀ j : Nat, (j < 1 * b + m ∨ 1 * b + 1 ≤ j) → g' j = g j := by
  intro f
  induction f with
  | zero => intro m g h; omega
  | succ f ih =>
    intro m g hf hm hg
    rw [L_X10_copyRow_1_v4_s]
    unfold B_X10_copyRow_1_v4
    simp only [↓zL_p]
    try simp only [zn_inc]
    rw [show (1 : Int32) = nI 1 from by decide]
    rcases Nat.lt_or_ge m 1 with q | q
    · rw [if_neg (nI_ge q (by omega)), pk_mul, pk_mul, nI_add, nI_add, nI_clamp (show 1 * b + m < 2 ^ 31 by omega), nI_clamp (show 1 * a + m < 2 ^ 31 by omega), hg m q]
      obtain ⟨g', h1, h2, h3⟩ := ih (m + 1) (upd g (1 * b + m) (g0 (1 * a + m))) (by omega) (by omega) (fun j hj => by rw [pk_un (show 1 * a + j ≠ 1 * b + m by omega)]; exact hg j hj)
      refine ⟨g', h1, fun j u w => ?_, fun j hj => ?_⟩
      · rcases Nat.lt_or_ge m j with z | z
        · exact h2 j z w
        · rw [show j = m by omega, h3 (1 * b + m) (by omega), pk_us]
      · rw [h3 j (by omega), pk_un (show j ≠ 1 * b + m by omega)]
    · rw [if_pos (nI_le q (by omega))]
      exact ⟨g, rfl, fun j u w => absurd w (by omega), fun j _ => rfl⟩
theorem zCop4 {a b : Nat} (ha : a ≤ 4) (hb : b ≤ 4) (hab : ¬ a = b) (g : Nat → Int32) : (∀ j : Nat, j < 1 → F_X10_copyRow_v4 (nI a) (nI b) g (1 * b + j) = g (1 * a + j)) ∧ ∀ j : Nat, (j < 1 * b ∨ 1 * b + 1 ≤ j) → F_X10_copyRow_v4 (nI a) (nI b) g j = g j := by
  obtain ⟨g', h1, h2, h3⟩ := zCo4 ha hb hab g 3 0 g (by omega) (by omega) (fun _ _ => rfl)
  have e : F_X10_copyRow_v4 (nI a) (nI b) g = g' := by rw [← h1, nI_0]; rfl
  rw [e]
  exact ⟨fun j hj => h2 j (Nat.zero_le _) hj, fun j hj => h3 j (by omega)⟩
theorem zCo5 {a b : Nat} (ha : a ≤ 4) (hb : b ≤ 4) (hab : ¬ a = b) (g0 : Nat → Int32) : ∀ (f m : Nat) (g : Nat → Int32), 32 - m < f → m ≤ 32 → (∀ j : Nat, j < 32 → g (32 * a + j) = g0 (32 * a + j)) → ∃ g' : Nat → Int32, L_X10_copyRow_1_v5 (nI b) (nI a) K_X10_copyRow_1_0_v5 f (nI m) g = g' ∧ (∀ j : Nat, m ≤ j → j < 32 → g' (32 * b + j) = g0 (32 * a + j)) ∧ ∀ j : Nat, (j < 32 * b + m ∨ 32 * b + 32 ≤ j) → g' j = g j := by
  intro f
  induction f with
  | zero => intro m g h; omega
  | succ f ih =>
    intro m g hf hm hg
    rw [L_X10_copyRow_1_v5_s]
    unfold B_X10_copyRow_1_v5
    simp only [↓zL_p]
    try simp only [zn_inc]
    rw [show (32 : Int32) = nI 32 from by decide]
    rcases Nat.lt_or_ge m 32 with q | q
    · rw [if_neg (nI_ge q (by omega)), pk_mul, pk_mul, nI_add, nI_add, nI_clamp (show 32 * b + m < 2 ^ 31 by omega), nI_clamp (show 32 * a + m < 2 ^ 31 by omega), hg m q]
      obtain ⟨g', h1, h2, h3⟩ := ih (m + 1) (upd g (32 * b + m) (g0 (32 * a + m))) (by omega) (by omega) (fun j hj => by rw [pk_un (show 32 * a + j ≠ 32 * b + m by omega)]; exact hg j hj)
      refine ⟨g', h1, fun j u w => ?_, fun j hj => ?_⟩
      · rcases Nat.lt_or_ge m j with z | z
        · exact h2 j z w
        · rw [show j = m by omega, h3 (32 * b + m) (by omega), pk_us]
      · rw [h3 j (by omega), pk_un (show j ≠ 32 * b + m by omega)]
    · rw [if_pos (nI_le q (by omega))]
      exact ⟨g, rfl, fun j u w => absurd w (by omega), fun j _ => rfl⟩
theorem zCop5 {a b : Nat} (ha : a ≤ 4) (hb : b ≤ 4) (hab : ¬ a = b) (g : Nat → Int32) : (∀ j : Nat, j < 32 → F_X10_copyRow_v5 (nI a) (nI b) g (32 * b + j) = g (32 * a + j)) ∧ ∀ j : Nat, (j < 32 * b ∨ 32 * b + 32 ≤ j) → F_X10_copyRow_v5 (nI a) (nI b) g j = g j := by
  obtain ⟨g', h1, h2, h3⟩ := zCo5 ha hb hab g 34 0 g (by omega) (by omega) (fun _ _ => rfl)
  have e : F_X10_copyRow_v5 (nI a) (nI b) g = g' := by rw [← h1, nI_0]; rfl
  rw [e]
  exact ⟨fun j hj => h2 j (Nat.zero_le _) hj, fun j hj => h3 j (by omega)⟩
theorem zCo6 {a b : Nat} (ha : a ≤ 4) (hb : b ≤ 4) (hab : ¬ a = b) (g0 : Nat → Int32) : ∀ (f m : Nat) (g : Nat → Int32), 480 - m < f → m ≤ 480 → (∀ j : Nat, j < 480 → g (480 * a + j) = g0 (480 * a + j)) → ∃ g' : Nat → Int32, L_X10_copyRow_1_v6 (nI b) (nI a) K_X10_copyRow_1_0_v6 f (nI m) g = g' ∧ (∀ j : Nat, m ≤ j → j < 480 → g' (480 * b + j) = g0 (480 * a + j)) ∧ ∀ j : Nat, (j < 480 * b + m ∨ 480 * b + 480 ≤ j) → g' j = g j := by
  intro f
  induction f with
  | zero => intro m g h; omega
  | succ f ih =>
    intro m g hf hm hg
    rw [L_X10_copyRow_1_v6_s]
    unfold B_X10_copyRow_1_v6
    simp only [↓zL_p]
    try simp only [zn_inc]
    rw [show (480 : Int32) = nI 480 from by decide]
    rcases Nat.lt_or_ge m 480 with q | q
    · rw [if_neg (nI_ge q (by omega)), pk_mul, pk_mul, nI_add, nI_add, nI_clamp (show 480 * b + m < 2 ^ 31 by omega), nI_clamp (show 480 * a + m < 2 ^ 31 by omega), hg m q]
      obtain ⟨g', h1, h2, h3⟩ := ih (m + 1) (upd g (480 * b + m) (g0 (480 * a + m))) (by omega) (by omega) (fun j hj => by rw [pk_un (show 480 * a + j ≠ 480 * b + m by omega)]; exact hg j hj)
      refine ⟨g', h1, fun j u w => ?_, fun j hj => ?_⟩
      · rcases Nat.lt_or_ge m j with z | z
        · exact h2 j z w
        · rw [show j = m by omega, h3 (480 * b + m) (by omega), pk_us]
      · rw [h3 j (by omega), pk_un (show j ≠ 480 * b + m by omega)]
    · rw [if_pos (nI_le q (by omega))]
      exact ⟨g, rfl, fun j u w => absurd w (by omega), fun j _ => rfl⟩
theorem zCop6 {a b : Nat} (ha : a ≤ 4) (hb : b ≤ 4) (hab : ¬ a = b) (g : Nat → Int32) : (∀ j : Nat, j < 480 → F_X10_copyRow_v6 (nI a) (nI b) g (480 * b + j) = g (480 * a + j)) ∧ ∀ j : Nat, (j < 480 * b ∨ 480 * b + 480 ≤ j) → F_X10_copyRow_v6 (nI a) (nI b) g j = g j := by
  obtain ⟨g', h1, h2, h3⟩ := zCo6 ha hb hab g 482 0 g (by omega) (by omega) (fun _ _ => rfl)
  have e : F_X10_copyRow_v6 (nI a) (nI b) g = g' := by rw [← h1, nI_0]; rfl
  rw [e]
  exact ⟨fun j hj => h2 j (Nat.zero_le _) hj, fun j hj => h3 j (by omega)⟩
theorem zCo7 {a b : Nat} (ha : a ≤ 4) (hb : b ≤ 4) (hab : ¬ a = b) (g0 : Nat → Int32) : ∀ (f m : Nat) (g : Nat → Int32), 20 - m < f → m ≤ 20 → (∀ j : Nat, j < 20 → g (20 * a + j) = g0 (20 * a + j)) → ∃ g' : Nat → Int32, L_X10_copyRow_1_v7 (nI b) (nI a) K_X10_copyRow_1_0_v7 f (nI m) g = g' ∧ (∀ j : Nat, m ≤ j → j < 20 → g' (20 * b + j) = g0 (20 * a + j)) ∧ ∀ j : Nat, (j < 20 * b + m ∨ 20 * b + 20 ≤ j) → g' j = g j := by
  intro f
  induction f with
  | zero => intro m g h; omega
  | succ f ih =>
    intro m g hf hm hg
    rw [L_X10_copyRow_1_v7_s]
    unfold B_X10_copyRow_1_v7
    simp only [↓zL_p]
    try simp only [zn_inc]
    rw [show (20 : Int32) = nI 20 from by decide]
    rcases Nat.lt_or_ge m 20 with q | q
    · rw [if_neg (nI_ge q (by omega)), pk_mul, pk_mul, nI_add, nI_add, nI_clamp (show 20 * b + m < 2 ^ 31 by omega), nI_clamp (show 20 * a + m < 2 ^ 31 by omega), hg m q]
      obtain ⟨g', h1, h2, h3⟩ := ih (m + 1) (upd g (20 * b + m) (g0 (20 * a + m))) (by omega) (by omega) (fun j hj => by rw [pk_un (show 20 * a + j ≠ 20 * b + m by omega)]; exact hg j hj)
      refine ⟨g', h1, fun j u w => ?_, fun j hj => ?_⟩
      · rcases Nat.lt_or_ge m j with z | z
        · exact h2 j z w
        · rw [show j = m by omega, h3 (20 * b + m) (by omega), pk_us]
      · rw [h3 j (by omega), pk_un (show j ≠ 20 * b + m by omega)]
    · rw [if_pos (nI_le q (by omega))]
      exact ⟨g, rfl, fun j u w => absurd w (by omega), fun j _ => rfl⟩
theorem zCop7 {a b : Nat} (ha : a ≤ 4) (hb : b ≤ 4) (hab : ¬ a = b) (g : Nat → Int32) : (∀ j : Nat, j < 20 → F_X10_copyRow_v7 (nI a) (nI b) g (20 * b + j) = g (20 * a + j)) ∧ ∀ j : Nat, (j < 20 * b ∨ 20 * b + 20 ≤ j) → F_X10_copyRow_v7 (nI a) (nI b) g j = g j := by
  obtain ⟨g', h1, h2, h3⟩ := zCo7 ha hb hab g 22 0 g (by omega) (by omega) (fun _ _ => rfl)
  have e : F_X10_copyRow_v7 (nI a) (nI b) g = g' := by rw [← h1, nI_0]; rfl
  rw [e]
  exact ⟨fun j hj => h2 j (Nat.zero_le _) hj, fun j hj => h3 j (by omega)⟩
theorem zCo8 {a b : Nat} (ha : a ≤ 4) (hb : b ≤ 4) (hab : ¬ a = b) (g0 : Nat → Int32) : ∀ (f m : Nat) (g : Nat → Int32), 2 - m < f → m ≤ 2 → (∀ j : Nat, j < 2 → g (2 * a + j) = g0 (2 * a + j)) → ∃ g' : Nat → Int32, L_X10_copyRow_1_v8 (nI b) (nI a) K_X10_copyRow_1_0_v8 f (nI m) g = g' ∧ (∀ j : Nat, m ≤ j → j < 2 → g' (2 * b + j) = g0 (2 * a + j)) ∧ ∀ j : Nat, (j < 2 * b + m ∨ 2 * b + 2 ≤ j) → g' j = g j := by
  intro f
  induction f with
  | zero => intro m g h; omega
  | succ f ih =>
    intro m g hf hm hg
    rw [L_X10_copyRow_1_v8_s]
    unfold B_X10_copyRow_1_v8
    simp only [↓zL_p]
    try simp only [zn_inc]
    rw [show (2 : Int32) = nI 2 from by decide]
    rcases Nat.lt_or_ge m 2 with q | q
    · rw [if_neg (nI_ge q (by omega)), pk_mul, pk_mul, nI_add, nI_add, nI_clamp (show 2 * b + m < 2 ^ 31 by omega), nI_clamp (show 2 * a + m < 2 ^ 31 by omega), hg m q]
      obtain ⟨g', h1, h2, h3⟩ := ih (m + 1) (upd g (2 * b + m) (g0 (2 * a + m))) (by omega) (by omega) (fun j hj => by rw [pk_un (show 2 * a + j ≠ 2 * b + m by omega)]; exact hg j hj)
      refine ⟨g', h1, fun j u w => ?_, fun j hj => ?_⟩
      · rcases Nat.lt_or_ge m j with z | z
        · exact h2 j z w
        · rw [show j = m by omega, h3 (2 * b + m) (by omega), pk_us]
      · rw [h3 j (by omega), pk_un (show j ≠ 2 * b + m by omega)]
    · rw [if_pos (nI_le q (by omega))]
      exact ⟨g, rfl, fun j u w => absurd w (by omega), fun j _ => rfl⟩
theorem zCop8 {a b : Nat} (ha : a ≤ 4) (hb : b ≤ 4) (hab : ¬ a = b) (g : Nat → Int32) : (∀ j : Nat, j < 2 → F_X10_copyRow_v8 (nI a) (nI b) g (2 * b + j) = g (2 * a + j)) ∧ ∀ j : Nat, (j < 2 * b ∨ 2 * b + 2 ≤ j) → F_X10_copyRow_v8 (nI a) (nI b) g j = g j := by
  obtain ⟨g', h1, h2, h3⟩ := zCo8 ha hb hab g 4 0 g (by omega) (by omega) (fun _ _ => rfl)
  have e : F_X10_copyRow_v8 (nI a) (nI b) g = g' := by rw [← h1, nI_0]; rfl
  rw [e]
  exact ⟨fun j hj => h2 j (Nat.zero_le _) hj, fun j hj => h3 j (by omega)⟩
theorem zCo9 {a b : Nat} (ha : a ≤ 4) (hb : b ≤ 4) (hab : ¬ a = b) (g0 : Nat → Int32) : ∀ (f m : Nat) (g : Nat → Int32), 2 - m < f → m ≤ 2 → (∀ j : Nat, j < 2 → g (2 * a + j) = g0 (2 * a + j)) → ∃ g' : Nat → Int32, L_X10_copyRow_1_v9 (nI b) (nI a) K_X10_copyRow_1_0_v9 f (nI m) g = g' ∧ (∀ j : Nat, m ≤ j → j < 2 → g' (2 * b + j) = g0 (2 * a + j)) ∧ ∀ j : Nat, (j < 2 * b + m ∨ 2 * b + 2 ≤ j) → g' j = g j := by
  intro f
  induction f with
  | zero => intro m g h; omega
  | succ f ih =>
    intro m g hf hm hg
    rw [L_X10_copyRow_1_v9_s]
    unfold B_X10_copyRow_1_v9
    simp only [↓zL_p]
    try simp only [zn_inc]
    rw [show (2 : Int32) = nI 2 from by decide]
    rcases Nat.lt_or_ge m 2 with q | q
    · rw [if_neg (nI_ge q (by omega)), pk_mul, pk_mul, nI_add, nI_add, nI_clamp (show 2 * b + m < 2 ^ 31 by omega), nI_clamp (show 2 * a + m < 2 ^ 31 by omega), hg m q]
      obtain ⟨g', h1, h2, h3⟩ := ih (m + 1) (upd g (2 * b + m) (g0 (2 * a + m))) (by omega) (by omega) (fun j hj => by rw [pk_un (show 2 * a + j ≠ 2 * b + m by omega)]; exact hg j hj)
      refine ⟨g', h1, fun j u w => ?_, fun j hj => ?_⟩
      · rcases Nat.lt_or_ge m j with z | z
        · exact h2 j z w
        · rw [show j = m by omega, h3 (2 * b + m) (by omega), pk_us]
      · rw [h3 j (by omega), pk_un (show j ≠ 2 * b + m by omega)]
    · rw [if_pos (nI_le q (by omega))]
      exact ⟨g, rfl, fun j u w => absurd w (by omega), fun j _ => rfl⟩
theorem zCop9 {a b : Nat} (ha : a ≤ 4) (hb : b ≤ 4) (hab : ¬ a = b) (g : Nat → Int32) : (∀ j : Nat, j < 2 → F_X10_copyRow_v9 (nI a) (nI b) g (2 * b + j) = g (2 * a + j)) ∧ ∀ j : Nat, (j < 2 * b ∨ 2 * b + 2 ≤ j) → F_X10_copyRow_v9 (nI a) (nI b) g j = g j := by
  obtain ⟨g', h1, h2, h3⟩ := zCo9 ha hb hab g 4 0 g (by omega) (by omega) (fun _ _ => rfl)
  have e : F_X10_copyRow_v9 (nI a) (nI b) g = g' := by rw [← h1, nI_0]; rfl
  rw [e]
  exact ⟨fun j hj => h2 j (Nat.zero_le _) hj, fun j hj => h3 j (by omega)⟩
theorem zCo10 {a b : Nat} (ha : a ≤ 4) (hb : b ≤ 4) (hab : ¬ a = b) (g0 : Nat → Int32) : ∀ (f m : Nat) (g : Nat → Int32), 10 - m < f → m ≤ 10 → (∀ j : Nat, j < 10 → g (10 * a + j) = g0 (10 * a + j)) → ∃ g' : Nat → Int32, L_X10_copyRow_1_v10 (nI b) (nI a) K_X10_copyRow_1_0_v10 f (nI m) g = g' ∧ (∀ j : Nat, m ≤ j → j < 10 → g' (10 * b + j) = g0 (10 * a + j)) ∧ ∀ j : Nat, (j < 10 * b + m ∨ 10 * b + 10 ≤ j) → g' j = g j := by
  intro f
  induction f with
  | zero => intro m g h; omega
  | succ f ih =>
    intro m g hf hm hg
    rw [L_X10_copyRow_1_v10_s]
    unfold B_X10_copyRow_1_v10
    simp only [↓zL_p]
    try simp only [zn_inc]
    rw [show (10 : Int32) = nI 10 from by decide]
    rcases Nat.lt_or_ge m 10 with q | q
    · rw [if_neg (nI_ge q (by omega)), pk_mul, pk_mul, nI_add, nI_add, nI_clamp (show 10 * b + m < 2 ^ 31 by omega), nI_clamp (show 10 * a + m < 2 ^ 31 by omega), hg m q]
      obtain ⟨g', h1, h2, h3⟩ := ih (m + 1) (upd g (10 * b + m) (g0 (10 * a + m))) (by omega) (by omega) (fun j hj => by rw [pk_un (show 10 * a + j ≠ 10 * b + m by omega)]; exact hg j hj)
      refine ⟨g', h1, fun j u w => ?_, fun j hj => ?_⟩
      · rcases Nat.lt_or_ge m j with z | z
        · exact h2 j z w
        · rw [show j = m by omega, h3 (10 * b + m) (by omega), pk_us]
      · rw [h3 j (by omega), pk_un (show j ≠ 10 * b + m by omega)]
    · rw [if_pos (nI_le q (by omega))]
      exact ⟨g, rfl, fun j u w => absurd w (by omega), fun j _ => rfl⟩
theorem zCop10 {a b : Nat} (ha : a ≤ 4) (hb : b ≤ 4) (hab : ¬ a = b) (g : Nat → Int32) : (∀ j : Nat, j < 10 → F_X10_copyRow_v10 (nI a) (nI b) g (10 * b + j) = g (10 * a + j)) ∧ ∀ j : Nat, (j < 10 * b ∨ 10 * b + 10 ≤ j) → F_X10_copyRow_v10 (nI a) (nI b) g j = g j := by
  obtain ⟨g', h1, h2, h3⟩ := zCo10 ha hb hab g 12 0 g (by omega) (by omega) (fun _ _ => rfl)
  have e : F_X10_copyRow_v10 (nI a) (nI b) g = g' := by rw [← h1, nI_0]; rfl
  rw [e]
  exact ⟨fun j hj => h2 j (Nat.zero_le _) hj, fun j hj => h3 j (by omega)⟩
