set_option linter.all false
/-! the reference's keep and back: rows copied -/
theorem zkeepF {p1 r : Int32} {fi fi' : Nat → Nat → Int32} (hr : r = (F_X10_keep p1 (fi 7) (fi 8) (fi 9) (fi 10) (fi 11) (fi 12) (fi 13) (fi 14) (fi 15) (fi 16) (fi 18) (fi 19) (fi 20)).1) (h7 : fi' 7 = (F_X10_keep p1 (fi 7) (fi 8) (fi 9) (fi 10) (fi 11) (fi 12) (fi 13) (fi 14) (fi 15) (fi 16) (fi 18) (fi 19) (fi 20)).2.2.1) (h8 : fi' 8 = (F_X10_keep p1 (fi 7) (fi 8) (fi 9) (fi 10) (fi 11) (fi 12) (fi 13) (fi 14) (fi 15) (fi 16) (fi 18) (fi 19) (fi 20)).2.2.2.1) (h9 : fi' 9 = (F_X10_keep p1 (fi 7) (fi 8) (fi 9) (fi 10) (fi 11) (fi 12) (fi 13) (fi 14) (fi 15) (fi 16) (fi 18) (fi 19) (fi 20)).2.2.2.2.1) (h10 : fi' 10 = (F_X10_keep p1 (fi 7) (fi 8) (fi 9) (fi 10) (fi 11) (fi 12) (fi 13) (fi 14) (fi 15) (fi 16) (fi 18) (fi 19) (fi 20)).2.2.2.2.2.1) (h11 : fi' 11 = (F_X10_keep p1 (fi 7) (fi 8) (fi 9) (fi 10) (fi 11) (fi 12) (fi 13) (fi 14) (fi 15) (fi 16) (fi 18) (fi 19) (fi 20)).2.2.2.2.2.2.1) (h12 : fi' 12 = (F_X10_keep p1 (fi 7) (fi 8) (fi 9) (fi 10) (fi 11) (fi 12) (fi 13) (fi 14) (fi 15) (fi 16) (fi 18) (fi 19) (fi 20)).2.2.2.2.2.2.2.1) (h13 : fi' 13 = (F_X10_keep p1 (fi 7) (fi 8) (fi 9) (fi 10) (fi 11) (fi 12) (fi 13) (fi 14) (fi 15) (fi 16) (fi 18) (fi 19) (fi 20)).2.2.2.2.2.2.2.2.1) (h14 : fi' 14 = (F_X10_keep p1 (fi 7) (fi 8) (fi 9) (fi 10) (fi 11) (fi 12) (fi 13) (fi 14) (fi 15) (fi 16) (fi 18) (fi 19) (fi 20)).2.2.2.2.2.2.2.2.2.1) (h15 : fi' 15 = (F_X10_keep p1 (fi 7) (fi 8) (fi 9) (fi 10) (fi 11) (fi 12) (fi 13) (fi 14) (fi 15) (fi 16) (fi 18) (fi 19) (fi 20)).2.2.2.2.2.2.2.2.2.2.1) (h16 : fi' 16 = (F_X10_keep p1 (fi 7) (fi 8) (fi 9) (fi 10) (fi 11) (fi 12) (fi 13) (fi 14) (fi 15) (fi 16) (fi 18) (fi 19) (fi 20)).2.2.2.2.2.2.2.2.2.2.2.1) : (¬ r.toInt = 0 ∧ (p1.toInt < 0 ∨ 2 < p1.toInt) ∧ ∀ i : Nat, i < 4 → zSm i fi fi') ∨ ∃ p : Nat, p < 3 ∧ p1.toInt = (p : Int) ∧ r.toInt = 0 ∧ zCy 0 (1 + p) fi fi' := by
  have hj := zJin (x := p1) (lo := 0) (hi := 2)
  rw [show (0 : Int32).toInt64 = 0 from by decide, show (2 : Int32).toInt64 = 2 from by decide, zN_0, zN_2] at hj
  unfold F_X10_keep F_X10_copyTown at hr h7 h8 h9 h10 h11 h12 h13 h14 h15 h16
  simp only [↓zL_p] at hr h7 h8 h9 h10 h11 h12 h13 h14 h15 h16
  try simp only [hj] at hr h7 h8 h9 h10 h11 h12 h13 h14 h15 h16
  by_cases q : 0 ≤ p1.toInt ∧ p1.toInt ≤ 2
  · rw [if_pos q, if_neg (show ¬ (1 : Int32) = 0 by decide)] at hr h7 h8 h9 h10 h11 h12 h13 h14 h15 h16
    obtain ⟨p, hp, ep, e9⟩ := zc_nat (x := p1) (m := 2) q.1 q.2 (by decide)
    have e1 : (1 : Int32) + p1 = nI (1 + p) := by rw [ep, show (1 : Int32) = nI 1 from by decide, nI_add]
    rw [e1, show (0 : Int32) = nI 0 from by decide] at h7 h8 h9 h10 h11 h12 h13 h14 h15 h16
    dsimp only at h7 h8 h9 h10 h11 h12 h13 h14 h15 h16
    exact Or.inr ⟨p, by omega, e9, by rw [hr]; exact (by decide : Int32.toInt 0 = 0), ⟨h7, h8, h9, h11, h13, h10, h12, h14, h15, h16⟩⟩
  · rw [if_neg q, if_pos (show (0 : Int32) = 0 from rfl)] at hr h7 h8 h9 h10 h11 h12 h13 h14 h15 h16
    exact Or.inl ⟨by rw [hr]; exact (by decide : ¬ Int32.toInt (-2) = 0), by omega, fun i _ => (show zSm i fi fi' from by unfold zSm; rw [h7, h8, h9, h10, h11, h12, h13, h14, h15, h16]; exact ⟨⟨rfl, rfl, rfl, rfl, rfl⟩, fun _ _ => rfl, fun _ _ => rfl, fun _ _ => rfl, fun _ _ => rfl, fun _ _ => rfl⟩)⟩
theorem zbackF {p1 r : Int32} {fi fi' : Nat → Nat → Int32} (hr : r = (F_X10_back p1 (fi 7) (fi 8) (fi 9) (fi 10) (fi 11) (fi 12) (fi 13) (fi 14) (fi 15) (fi 16) (fi 18) (fi 19) (fi 20)).1) (h7 : fi' 7 = (F_X10_back p1 (fi 7) (fi 8) (fi 9) (fi 10) (fi 11) (fi 12) (fi 13) (fi 14) (fi 15) (fi 16) (fi 18) (fi 19) (fi 20)).2.2.1) (h8 : fi' 8 = (F_X10_back p1 (fi 7) (fi 8) (fi 9) (fi 10) (fi 11) (fi 12) (fi 13) (fi 14) (fi 15) (fi 16) (fi 18) (fi 19) (fi 20)).2.2.2.1) (h9 : fi' 9 = (F_X10_back p1 (fi 7) (fi 8) (fi 9) (fi 10) (fi 11) (fi 12) (fi 13) (fi 14) (fi 15) (fi 16) (fi 18) (fi 19) (fi 20)).2.2.2.2.1) (h10 : fi' 10 = (F_X10_back p1 (fi 7) (fi 8) (fi 9) (fi 10) (fi 11) (fi 12) (fi 13) (fi 14) (fi 15) (fi 16) (fi 18) (fi 19) (fi 20)).2.2.2.2.2.1) (h11 : fi' 11 = (F_X10_back p1 (fi 7) (fi 8) (fi 9) (fi 10) (fi 11) (fi 12) (fi 13) (fi 14) (fi 15) (fi 16) (fi 18) (fi 19) (fi 20)).2.2.2.2.2.2.1) (h12 : fi' 12 = (F_X10_back p1 (fi 7) (fi 8) (fi 9) (fi 10) (fi 11) (fi 12) (fi 13) (fi 14) (fi 15) (fi 16) (fi 18) (fi 19) (fi 20)).2.2.2.2.2.2.2.1) (h13 : fi' 13 = (F_X10_back p1 (fi 7) (fi 8) (fi 9) (fi 10) (fi 11) (fi 12) (fi 13) (fi 14) (fi 15) (fi 16) (fi 18) (fi 19) (fi 20)).2.2.2.2.2.2.2.2.1) (h14 : fi' 14 = (F_X10_back p1 (fi 7) (fi 8) (fi 9) (fi 10) (fi 11) (fi 12) (fi 13) (fi 14) (fi 15) (fi 16) (fi 18) (fi 19) (fi 20)).2.2.2.2.2.2.2.2.2.1) (h15 : fi' 15 = (F_X10_back p1 (fi 7) (fi 8) (fi 9) (fi 10) (fi 11) (fi 12) (fi 13) (fi 14) (fi 15) (fi 16) (fi 18) (fi 19) (fi 20)).2.2.2.2.2.2.2.2.2.2.1) (h16 : fi' 16 = (F_X10_back p1 (fi 7) (fi 8) (fi 9) (fi 10) (fi 11) (fi 12) (fi 13) (fi 14) (fi 15) (fi 16) (fi 18) (fi 19) (fi 20)).2.2.2.2.2.2.2.2.2.2.2.1) : (¬ r.toInt = 0 ∧ ∀ i : Nat, i < 4 → zSm i fi fi') ∨ ∃ p : Nat, p < 3 ∧ p1.toInt = (p : Int) ∧ r.toInt = 0 ∧ zCy (1 + p) 0 fi fi' := by
  have hj := zJin (x := p1) (lo := 0) (hi := 2)
  rw [show (0 : Int32).toInt64 = 0 from by decide, show (2 : Int32).toInt64 = 2 from by decide, zN_0, zN_2] at hj
  unfold F_X10_back F_X10_copyTown at hr h7 h8 h9 h10 h11 h12 h13 h14 h15 h16
  simp only [↓zL_p] at hr h7 h8 h9 h10 h11 h12 h13 h14 h15 h16
  try simp only [hj] at hr h7 h8 h9 h10 h11 h12 h13 h14 h15 h16
  by_cases q : 0 ≤ p1.toInt ∧ p1.toInt ≤ 2
  · rw [if_pos q, if_neg (show ¬ (1 : Int32) = 0 by decide)] at hr h7 h8 h9 h10 h11 h12 h13 h14 h15 h16
    by_cases w : fi 20 (Int32.toNatClampNeg p1) = 0
    · rw [if_pos w] at hr h7 h8 h9 h10 h11 h12 h13 h14 h15 h16
      exact Or.inl ⟨by rw [hr]; exact (by decide : ¬ Int32.toInt (-6) = 0), fun i _ => (show zSm i fi fi' from by unfold zSm; rw [h7, h8, h9, h10, h11, h12, h13, h14, h15, h16]; exact ⟨⟨rfl, rfl, rfl, rfl, rfl⟩, fun _ _ => rfl, fun _ _ => rfl, fun _ _ => rfl, fun _ _ => rfl, fun _ _ => rfl⟩)⟩
    · rw [if_neg w] at hr h7 h8 h9 h10 h11 h12 h13 h14 h15 h16
      obtain ⟨p, hp, ep, e9⟩ := zc_nat (x := p1) (m := 2) q.1 q.2 (by decide)
      have e1 : (1 : Int32) + p1 = nI (1 + p) := by rw [ep, show (1 : Int32) = nI 1 from by decide, nI_add]
      rw [e1, show (0 : Int32) = nI 0 from by decide] at h7 h8 h9 h10 h11 h12 h13 h14 h15 h16
      dsimp only at h7 h8 h9 h10 h11 h12 h13 h14 h15 h16
      exact Or.inr ⟨p, by omega, e9, by rw [hr]; exact (by decide : Int32.toInt 0 = 0), ⟨h7, h8, h9, h11, h13, h10, h12, h14, h15, h16⟩⟩
  · rw [if_neg q, if_pos (show (0 : Int32) = 0 from rfl)] at hr h7 h8 h9 h10 h11 h12 h13 h14 h15 h16
    exact Or.inl ⟨by rw [hr]; exact (by decide : ¬ Int32.toInt (-2) = 0), fun i _ => (show zSm i fi fi' from by unfold zSm; rw [h7, h8, h9, h10, h11, h12, h13, h14, h15, h16]; exact ⟨⟨rfl, rfl, rfl, rfl, rfl⟩, fun _ _ => rfl, fun _ _ => rfl, fun _ _ => rfl, fun _ _ => rfl, fun _ _ => rfl⟩)⟩
/-- keep in the law: c0 to c2 of the class, d of the reference (zkeepF) -/
theorem zRelA.keepL {ad ad' : Nat → Nat} {iv iv' : Nat → Int32} {fi fi' : Nat → Nat → Int32} {P r : Int} (h : zRelA ad iv fi) (c0 : zKp P 0 ad ad' iv iv') (c1 : zKp P 1 ad ad' iv iv') (c2 : zKp P 2 ad ad' iv iv') (d : (¬ r = 0 ∧ (P < 0 ∨ 2 < P) ∧ ∀ i : Nat, i < 4 → zSm i fi fi') ∨ ∃ p : Nat, p < 3 ∧ P = (p : Int) ∧ r = 0 ∧ zCy 0 (1 + p) fi fi') (a0 : ad' 77 = ad 77) (a1 : ad' 88 = ad 88) (a2 : ad' 99 = ad 99) (a3 : ad' 110 = ad 110) (u0 : zTj 0 iv' fi' = zTj 0 iv fi) (u1 : zTj 1 iv' fi' = zTj 1 iv fi) (u2 : zTj 2 iv' fi' = zTj 2 iv fi) (u3 : zTj 3 iv' fi' = zTj 3 iv fi) : zRelA ad' iv' fi' := by
  rcases d with ⟨d1, d2, d3⟩ | ⟨p, hp, eP, er, d2⟩
  · have no : ∀ k : Nat, k < 3 → zKp P k ad ad' iv iv' → (iv' (53 + 5 * k)).toInt = (iv (53 + 5 * k)).toInt ∧ ad' (126 + k) = ad (126 + k) := by
      intro k hk hK
      rcases hK with ⟨q, w⟩ | ⟨q, w⟩
      · exfalso; omega
      · exact w
    exact h.frame (no 0 (by omega) c0).1 (no 1 (by omega) c1).1 (no 2 (by omega) c2).1 (no 0 (by omega) c0).2 (no 1 (by omega) c1).2 (no 2 (by omega) c2).2 a0 a1 a2 a3 u0 u1 u2 u3 d3
  · rw [eP] at c0 c1 c2
    exact h.keep hp c0 c1 c2 a0 a1 a2 a3 u0 u1 u2 u3 d2
