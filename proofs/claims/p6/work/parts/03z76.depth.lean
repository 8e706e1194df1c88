set_option linter.all false
/-! how deep a court lies -/
def zpc (m : Nat) : Nat := m % 2 + m / 2 % 2 + m / 4 % 2 + m / 8 % 2 + m / 16 % 2 + m / 32 % 2 + m / 64 % 2 + m / 128 % 2 + m / 256 % 2 + m / 512 % 2
theorem zpc_or : ∀ q, q < 10 → ∀ m, m < 2 ^ q → nI m ||| (1 : Int32) <<< (nI q &&& 31) = nI (m + 2 ^ q) := by decide +kernel
theorem zpc_add : ∀ q, q < 10 → ∀ m, m < 2 ^ q → zpc (m + 2 ^ q) = zpc m + 1 := by decide +kernel
theorem zpc_bit : ∀ m, m < 1024 → F_J6_bitCount_0f7a4 (nI m) = nI (zpc m) := by decide +kernel
theorem zq_depth_go {co : Int32} {ab rin : Nat → Int32} (h : zCc 0 co ab rin) : ∀ f c : Nat, c < f → c < 10 → (c : Int) < co.toInt → ∃ m : Nat, m < 2 ^ c ∧ ab c = nI m ∧ ∀ v : Nat, L_X10_depth_1 rin K_X10_depth_1_0 f (nI v) (rin c) = (nI (v + zpc m), 0) := by
  intro f
  induction f with
  | zero => intro c h1; omega
  | succ f ih =>
    intro c hf hc hcc
    rcases Nat.eq_zero_or_pos c with e | e
    · subst e
      refine ⟨0, by decide, h.1.trans nI_0.symm, fun v => ?_⟩
      rw [L_X10_depth_1_s]
      unfold B_X10_depth_1
      rw [if_pos (show rin 0 = -1 from h.2.1 (by omega))]
      rfl
    · obtain ⟨q, hq, e1, e2⟩ := h.2.2 c e hcc
      rw [show 10 * 0 + c = c by omega] at e1
      obtain ⟨m, hm, em, hl⟩ := ih q (by omega) (by omega) (by omega)
      have hp : 2 ^ (q + 1) ≤ 2 ^ c := Nat.pow_le_pow_right (by decide) hq
      rw [Nat.pow_succ] at hp
      refine ⟨m + 2 ^ q, by omega, by rw [e2, em]; exact zpc_or q (by omega) m hm, fun v => ?_⟩
      rw [L_X10_depth_1_s]
      unfold B_X10_depth_1
      rw [e1, if_neg (zq_n1 (show q < 2 ^ 31 by omega))]
      simp only [↓zL_p, zn_inc, nI_clamp (show q < 2 ^ 31 by omega)]
      rw [hl (v + 1), zpc_add q (by omega) m hm]
      rw [show v + 1 + zpc m = v + (zpc m + 1) by omega]
theorem zq_depth {p co : Int32} {ab rc rin : Nat → Int32} (h : zCc 0 co ab rin) (hcr : co = rc 0) (hcb : 0 ≤ co.toInt ∧ co.toInt ≤ 10) : F_X9_depth p co ab = (F_X10_depth p rc rin).1 := by
  have c0 : Int32.toNatClampNeg 0 = 0 := by decide
  unfold F_X9_depth F_X10_depth F_X10_isCourt
  simp only [↓zL_p, c0, ← hcr]
  rw [zq_in (p := p) (x := co) (by omega)]
  rcases zq_has p co with e | ⟨e, b1, b2⟩
  · rw [e, if_pos rfl, if_pos rfl]
  · rw [e, if_neg (show ¬ (1 : Int32) = 0 by decide), if_neg (show ¬ (1 : Int32) = 0 by decide)]
    obtain ⟨k, hk, ek, ik⟩ := zc_nat (x := p) (m := 9) b1 (by omega) (by decide)
    have e9 : p.toNatClampNeg = k := by rw [ek, nI_clamp (by omega)]
    rw [e9]
    obtain ⟨m, hm, em, hl⟩ := zq_depth_go h 12 k (by omega) (by omega) (by omega)
    have hp : 2 ^ k ≤ 2 ^ 10 := Nat.pow_le_pow_right (by decide) (by omega)
    have h0 := hl 0
    rw [nI_0, Nat.zero_add] at h0
    rw [h0, em]
    exact zpc_bit m (by omega)
theorem zr_depth {iv : Nat → Int32} {fi : Nat → Nat → Int32} {p r9 r10 : Int32} (z : zRtA 0 0 iv fi) (b : 0 ≤ (iv 77).toInt ∧ (iv 77).toInt ≤ 10) (h1 : r9 = F_X9_depth p (iv 77) (fi 78)) (h2 : r10 = (F_X10_depth p (fi 9) (fi 10)).1) : r9.toInt = r10.toInt := by
  rw [h1, h2]
  exact congrArg Int32.toInt (zq_depth z.1.2.2.2.2.2.1.1 z.1.2.1 b)
