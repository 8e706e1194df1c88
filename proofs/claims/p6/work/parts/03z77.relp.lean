set_option linter.all false
/-! who has strayed, the names one knows, what is heard: zyRel, beside the towns' relation. iv: 48 on now (is kept, strayed, names, known, gone), 53 + 5 k on image k; fi: 13 people, 18 truth, 19 known -/
/-- what is heard of one: nothing, told, strayed -/
def zyK (kn go : Bool) (k : Int32) : Prop := (k = 0 ∧ kn = false ∧ go = false) ∨ (k = 1 ∧ kn = true ∧ go = false) ∨ (k = 2 ∧ kn = true ∧ go = true)
def zyP (i : Nat) (st nm kn go : Int32) (rpe rt rk : Nat → Int32) : Prop := st = rt (2 * i) ∧ nm = rt (2 * i + 1) ∧ (∀ p : Nat, p < 10 → zyK (bt kn p) (bt go p) (rk (10 * i + p))) ∧ ∀ p : Nat, p < 32 → (rpe i).toInt ≤ (p : Int) → bt kn p = false ∧ bt go p = false
/-- rows alike at index i -/
def zyR (i : Nat) (rpe rt rk rpe' rt' rk' : Nat → Int32) : Prop := rpe' i = rpe i ∧ rt' (2 * i) = rt (2 * i) ∧ rt' (2 * i + 1) = rt (2 * i + 1) ∧ ∀ p : Nat, p < 10 → rk' (10 * i + p) = rk (10 * i + p)
theorem zyR.rf {i : Nat} {rpe rt rk : Nat → Int32} : zyR i rpe rt rk rpe rt rk := ⟨rfl, rfl, rfl, fun _ _ => rfl⟩
theorem zyP.to {i : Nat} {st nm kn go : Int32} {rpe rt rk rpe' rt' rk' : Nat → Int32} (h : zyP i st nm kn go rpe rt rk) (e : zyR i rpe rt rk rpe' rt' rk') : zyP i st nm kn go rpe' rt' rk' := by
  obtain ⟨h1, h2, h3, h4⟩ := h
  obtain ⟨e1, e2, e3, e4⟩ := e
  exact ⟨h1.trans e2.symm, h2.trans e3.symm, fun p hp => by rw [e4 p hp]; exact h3 p hp, fun p hp hq => h4 p hp (by rw [e1] at hq; exact hq)⟩
/-- rows copied from a to b -/
def zyC (a b : Nat) (rpe rt rk rpe' rt' rk' : Nat → Int32) : Prop := rpe' = F_X10_copyRow_v2 (nI a) (nI b) rpe ∧ rt' = F_X10_copyRow_v9 (nI a) (nI b) rt ∧ rk' = F_X10_copyRow_v10 (nI a) (nI b) rk
theorem zyC.other {a b c : Nat} {rpe rt rk rpe' rt' rk' : Nat → Int32} (h : zyC a b rpe rt rk rpe' rt' rk') (ha : a ≤ 4) (hb : b ≤ 4) (hab : ¬ a = b) (hcb : ¬ c = b) : zyR c rpe rt rk rpe' rt' rk' := by
  obtain ⟨e1, e2, e3⟩ := h
  unfold zyR
  rw [e1, e2, e3]
  exact ⟨(zCop2 ha hb hab rpe).2 c (by omega), (zCop9 ha hb hab rt).2 (2 * c) (by omega), (zCop9 ha hb hab rt).2 (2 * c + 1) (by omega), fun p hp => (zCop10 ha hb hab rk).2 (10 * c + p) (by omega)⟩
theorem zyC.cp {a b : Nat} {st nm kn go : Int32} {rpe rt rk rpe' rt' rk' : Nat → Int32} (h : zyC a b rpe rt rk rpe' rt' rk') (ha : a ≤ 4) (hb : b ≤ 4) (hab : ¬ a = b) (z : zyP a st nm kn go rpe rt rk) : zyP b st nm kn go rpe' rt' rk' := by
  obtain ⟨e1, e2, e3⟩ := h
  rw [e1, e2, e3]
  have c2 := (zCop2 ha hb hab rpe).1 0 (by omega)
  have c9 := (zCop9 ha hb hab rt).1
  have c10 := (zCop10 ha hb hab rk).1
  obtain ⟨h1, h2, h3, h4⟩ := z
  refine ⟨h1.trans (c9 0 (by omega)).symm, h2.trans (c9 1 (by omega)).symm, fun p hp => ?_, fun p hp hq => h4 p hp ?_⟩
  · rw [c10 p hp]; exact h3 p hp
  · rw [show 1 * b + 0 = b by omega, show 1 * a + 0 = a by omega] at c2
    rw [c2] at hq; exact hq
def zyN (iv : Nat → Int32) (fi : Nat → Nat → Int32) : Prop := zyP 0 (iv 49) (iv 50) (iv 51) (iv 52) (fi 13) (fi 18) (fi 19)
def zyI (k : Nat) (iv : Nat → Int32) (fi : Nat → Nat → Int32) : Prop := (iv (53 + 5 * k)).toInt = 0 ∨ zyP (1 + k) (iv (54 + 5 * k)) (iv (55 + 5 * k)) (iv (56 + 5 * k)) (iv (57 + 5 * k)) (fi 13) (fi 18) (fi 19)
def zyRel (iv : Nat → Int32) (fi : Nat → Nat → Int32) : Prop := zyN iv fi ∧ zyI 0 iv fi ∧ zyI 1 iv fi ∧ zyI 2 iv fi
def zyE (i : Nat) (fi fi' : Nat → Nat → Int32) : Prop := zyR i (fi 13) (fi 18) (fi 19) (fi' 13) (fi' 18) (fi' 19)
/-- now's fields alike; image k's -/
def zyF (iv iv' : Nat → Int32) : Prop := iv' 49 = iv 49 ∧ iv' 50 = iv 50 ∧ iv' 51 = iv 51 ∧ iv' 52 = iv 52
def zyG (k : Nat) (iv iv' : Nat → Int32) : Prop := (iv' (53 + 5 * k)).toInt = (iv (53 + 5 * k)).toInt ∧ iv' (54 + 5 * k) = iv (54 + 5 * k) ∧ iv' (55 + 5 * k) = iv (55 + 5 * k) ∧ iv' (56 + 5 * k) = iv (56 + 5 * k) ∧ iv' (57 + 5 * k) = iv (57 + 5 * k)
theorem zyI.to {k : Nat} {iv iv' : Nat → Int32} {fi fi' : Nat → Nat → Int32} (h : zyI k iv fi) (s : zyG k iv iv') (e : zyE (1 + k) fi fi') : zyI k iv' fi' := by
  obtain ⟨s0, s1, s2, s3, s4⟩ := s
  unfold zyI
  rw [s0, s1, s2, s3, s4]
  exact h.imp id (fun z => z.to e)
/-- a call that changes what is now alone -/
theorem zyRel.now {iv iv' : Nat → Int32} {fi fi' : Nat → Nat → Int32} (h : zyRel iv fi) (N : zyN iv' fi') (s0 : zyG 0 iv iv') (s1 : zyG 1 iv iv') (s2 : zyG 2 iv iv') (e : ∀ i : Nat, 0 < i → i < 4 → zyE i fi fi') : zyRel iv' fi' := ⟨N, h.2.1.to s0 (e 1 (by omega) (by omega)), h.2.2.1.to s1 (e 2 (by omega) (by omega)), h.2.2.2.to s2 (e 3 (by omega) (by omega))⟩
theorem zyRel.frame {iv iv' : Nat → Int32} {fi fi' : Nat → Nat → Int32} (h : zyRel iv fi) (n : zyF iv iv') (s0 : zyG 0 iv iv') (s1 : zyG 1 iv iv') (s2 : zyG 2 iv iv') (e : ∀ i : Nat, i < 4 → zyE i fi fi') : zyRel iv' fi' := by
  obtain ⟨n1, n2, n3, n4⟩ := n
  refine h.now ?_ s0 s1 s2 (fun i _ i4 => e i i4)
  unfold zyN
  rw [n1, n2, n3, n4]
  exact zyP.to h.1 (e 0 (by omega))
/-- what was changed is put back -/
theorem zyRel.tr {iv iv' : Nat → Int32} {fi fi' : Nat → Nat → Int32} (h : zyRel iv fi) (n : zyF iv iv') (s0 : zyG 0 iv iv') (s1 : zyG 1 iv iv') (s2 : zyG 2 iv iv') (e13 : fi' 13 = fi 13) (e18 : ∀ j : Nat, fi' 18 j = fi 18 j) (e19 : ∀ j : Nat, fi' 19 j = fi 19 j) : zyRel iv' fi' := h.frame n s0 s1 s2 (fun i _ => (show zyR i (fi 13) (fi 18) (fi 19) (fi' 13) (fi' 18) (fi' 19) from ⟨by rw [e13], e18 _, e18 _, fun p _ => e19 _⟩))
/-- what keep does to image k -/
def zyKp (P : Int) (k : Nat) (iv iv' : Nat → Int32) : Prop := (P = (k : Int) ∧ iv' (54 + 5 * k) = iv 49 ∧ iv' (55 + 5 * k) = iv 50 ∧ iv' (56 + 5 * k) = iv 51 ∧ iv' (57 + 5 * k) = iv 52) ∨ (¬ P = (k : Int) ∧ zyG k iv iv')
theorem zyRel.keep {iv iv' : Nat → Int32} {fi fi' : Nat → Nat → Int32} {P r : Int} (h : zyRel iv fi) (c0 : zyKp P 0 iv iv') (c1 : zyKp P 1 iv iv') (c2 : zyKp P 2 iv iv') (d : (¬ r = 0 ∧ (P < 0 ∨ 2 < P) ∧ ∀ i : Nat, i < 4 → zyE i fi fi') ∨ ∃ p : Nat, p < 3 ∧ P = (p : Int) ∧ r = 0 ∧ zyC 0 (1 + p) (fi 13) (fi 18) (fi 19) (fi' 13) (fi' 18) (fi' 19)) (n : zyF iv iv') : zyRel iv' fi' := by
  rcases d with ⟨d1, d2, d3⟩ | ⟨p, hp, eP, er, d2⟩
  · have no : ∀ k : Nat, k < 3 → zyKp P k iv iv' → zyG k iv iv' := fun k hk hK => hK.elim (fun q => absurd q.1 (by omega)) (fun q => q.2)
    exact h.frame n (no 0 (by omega) c0) (no 1 (by omega) c1) (no 2 (by omega) c2) d3
  · have hi : ∀ k : Nat, k < 3 → zyKp P k iv iv' → zyI k iv fi → zyI k iv' fi' := by
      intro k hk hK hI
      rcases hK with ⟨q, w1, w2, w3, w4⟩ | ⟨q, w⟩
      · have ek : k = p := by omega
        subst ek
        refine Or.inr ?_
        rw [w1, w2, w3, w4]
        exact d2.cp (by omega) (by omega) (by omega) h.1
      · exact hI.to w (zyC.other d2 (by omega) (by omega) (by omega) (by omega))
    obtain ⟨n1, n2, n3, n4⟩ := n
    refine ⟨?_, hi 0 (by omega) c0 h.2.1, hi 1 (by omega) c1 h.2.2.1, hi 2 (by omega) c2 h.2.2.2⟩
    unfold zyN
    rw [n1, n2, n3, n4]
    exact zyP.to h.1 (zyC.other d2 (by omega) (by omega) (by omega) (by omega))
def zyBk (P r : Int) (iv iv' : Nat → Int32) : Prop := (¬ r = 0 ∧ zyF iv iv') ∨ ∃ p : Nat, p < 3 ∧ P = (p : Int) ∧ r = 0 ∧ ¬ (iv (53 + 5 * p)).toInt = 0 ∧ iv' 49 = iv (54 + 5 * p) ∧ iv' 50 = iv (55 + 5 * p) ∧ iv' 51 = iv (56 + 5 * p) ∧ iv' 52 = iv (57 + 5 * p)
def zyBs (P r : Int) (fi fi' : Nat → Nat → Int32) : Prop := (¬ r = 0 ∧ ∀ i : Nat, i < 4 → zyE i fi fi') ∨ ∃ p : Nat, p < 3 ∧ P = (p : Int) ∧ r = 0 ∧ zyC (1 + p) 0 (fi 13) (fi 18) (fi 19) (fi' 13) (fi' 18) (fi' 19)
theorem zyRel.back {iv iv' : Nat → Int32} {fi fi' : Nat → Nat → Int32} {P r : Int} (h : zyRel iv fi) (c : zyBk P r iv iv') (d : zyBs P r fi fi') (s0 : zyG 0 iv iv') (s1 : zyG 1 iv iv') (s2 : zyG 2 iv iv') : zyRel iv' fi' := by
  rcases c with ⟨c1, c2⟩ | ⟨p, hp, eP, er, hn, n1, n2, n3, n4⟩
  · rcases d with ⟨d1, d2⟩ | ⟨p', hp', eP', er', d2⟩
    · exact h.frame c2 s0 s1 s2 d2
    · exact absurd er' c1
  · rcases d with ⟨d1, d2⟩ | ⟨p', hp', eP', er', d2⟩
    · exact absurd er d1
    · have ep : p' = p := by omega
      subst ep
      have hI : ∀ k : Nat, k < 3 → zyI k iv fi := by
        intro k hk
        rcases (show k = 0 ∨ k = 1 ∨ k = 2 by omega) with w | w | w
        · subst w; exact h.2.1
        · subst w; exact h.2.2.1
        · subst w; exact h.2.2.2
      have z := (hI p' hp').resolve_left hn
      refine h.now ?_ s0 s1 s2 (fun i i0 i4 => zyC.other d2 (by omega) (by omega) (by omega) (by omega))
      unfold zyN
      rw [n1, n2, n3, n4]
      exact d2.cp (by omega) (by omega) (by omega) z
theorem zyRel.zero {iv : Nat → Int32} {fi : Nat → Nat → Int32} (n1 : iv 49 = 0) (n2 : iv 50 = 0) (n3 : iv 51 = 0) (n4 : iv 52 = 0) (k0 : iv 53 = 0) (k1 : iv 58 = 0) (k2 : iv 63 = 0) (f13 : fi 13 = fun _ => 0) (f18 : fi 18 = fun _ => 0) (f19 : fi 19 = fun _ => 0) : zyRel iv fi := by
  refine ⟨?_, Or.inl (by show (iv 53).toInt = 0; rw [k0, zN_0]), Or.inl (by show (iv 58).toInt = 0; rw [k1, zN_0]), Or.inl (by show (iv 63).toInt = 0; rw [k2, zN_0])⟩
  unfold zyN
  rw [n1, n2, n3, n4, f13, f18, f19]
  exact ⟨rfl, rfl, fun p _ => Or.inl ⟨rfl, b_0 p, b_0 p⟩, fun p _ _ => ⟨b_0 p, b_0 p⟩⟩
/-! keep and back, as their contracts say it -/
theorem zy_kq {p kk y y' : Int} {n t i : Nat} {a b c d a' b' c' d' x1 x2 x3 x4 : Int32} (hA : (p = kk ∧ y' = 1) ∨ (¬ p = kk ∧ y' = y)) (hB : (p = kk ∧ n = t ∧ a'.toInt = x1.toInt ∧ b'.toInt = x2.toInt ∧ c'.toInt = x3.toInt ∧ d'.toInt = x4.toInt) ∨ (¬ p = kk ∧ n = i ∧ a'.toInt = a.toInt ∧ b'.toInt = b.toInt ∧ c'.toInt = c.toInt ∧ d'.toInt = d.toInt)) : (p = kk ∧ a' = x1 ∧ b' = x2 ∧ c' = x3 ∧ d' = x4) ∨ (¬ p = kk ∧ y' = y ∧ a' = a ∧ b' = b ∧ c' = c ∧ d' = d) := by
  rcases hB with ⟨q, -, h1, h2, h3, h4⟩ | ⟨q, -, h1, h2, h3, h4⟩
  · exact Or.inl ⟨q, Int32.toInt_inj.mp h1, Int32.toInt_inj.mp h2, Int32.toInt_inj.mp h3, Int32.toInt_inj.mp h4⟩
  · refine Or.inr ⟨q, ?_, Int32.toInt_inj.mp h1, Int32.toInt_inj.mp h2, Int32.toInt_inj.mp h3, Int32.toInt_inj.mp h4⟩
    rcases hA with ⟨w, -⟩ | ⟨-, w⟩
    · exact absurd w q
    · exact w
theorem zyBk.of {P r : Int} {iv iv' : Nat → Int32} {n t i0 i1 i2 : Nat} (h : (¬ r = 0 ∧ n = t ∧ (iv' 49).toInt = (iv 49).toInt ∧ (iv' 50).toInt = (iv 50).toInt ∧ (iv' 51).toInt = (iv 51).toInt ∧ (iv' 52).toInt = (iv 52).toInt) ∨ (P = 0 ∧ r = 0 ∧ (iv 53).toInt = 1 ∧ n = i0 ∧ (iv' 49).toInt = (iv 54).toInt ∧ (iv' 50).toInt = (iv 55).toInt ∧ (iv' 51).toInt = (iv 56).toInt ∧ (iv' 52).toInt = (iv 57).toInt) ∨ (P = 1 ∧ r = 0 ∧ (iv 58).toInt = 1 ∧ n = i1 ∧ (iv' 49).toInt = (iv 59).toInt ∧ (iv' 50).toInt = (iv 60).toInt ∧ (iv' 51).toInt = (iv 61).toInt ∧ (iv' 52).toInt = (iv 62).toInt) ∨ (P = 2 ∧ r = 0 ∧ (iv 63).toInt = 1 ∧ n = i2 ∧ (iv' 49).toInt = (iv 64).toInt ∧ (iv' 50).toInt = (iv 65).toInt ∧ (iv' 51).toInt = (iv 66).toInt ∧ (iv' 52).toInt = (iv 67).toInt)) : zyBk P r iv iv' := by
  rcases h with ⟨h1, -, q1, q2, q3, q4⟩ | ⟨h1, h2, h3, -, q1, q2, q3, q4⟩ | ⟨h1, h2, h3, -, q1, q2, q3, q4⟩ | ⟨h1, h2, h3, -, q1, q2, q3, q4⟩
  · exact Or.inl ⟨h1, Int32.toInt_inj.mp q1, Int32.toInt_inj.mp q2, Int32.toInt_inj.mp q3, Int32.toInt_inj.mp q4⟩
  · exact Or.inr ⟨0, by omega, h1, h2, fun q => by have q' : (iv 53).toInt = 0 := q; omega, Int32.toInt_inj.mp q1, Int32.toInt_inj.mp q2, Int32.toInt_inj.mp q3, Int32.toInt_inj.mp q4⟩
  · exact Or.inr ⟨1, by omega, h1, h2, fun q => by have q' : (iv 58).toInt = 0 := q; omega, Int32.toInt_inj.mp q1, Int32.toInt_inj.mp q2, Int32.toInt_inj.mp q3, Int32.toInt_inj.mp q4⟩
  · exact Or.inr ⟨2, by omega, h1, h2, fun q => by have q' : (iv 63).toInt = 0 := q; omega, Int32.toInt_inj.mp q1, Int32.toInt_inj.mp q2, Int32.toInt_inj.mp q3, Int32.toInt_inj.mp q4⟩
theorem zkeepG {p1 r : Int32} {fi fi' : Nat → Nat → Int32} (hr : r = (F_X10_keep p1 (fi 7) (fi 8) (fi 9) (fi 10) (fi 11) (fi 12) (fi 13) (fi 14) (fi 15) (fi 16) (fi 18) (fi 19) (fi 20)).1) (h13 : fi' 13 = (F_X10_keep p1 (fi 7) (fi 8) (fi 9) (fi 10) (fi 11) (fi 12) (fi 13) (fi 14) (fi 15) (fi 16) (fi 18) (fi 19) (fi 20)).2.2.2.2.2.2.2.2.1) (h18 : fi' 18 = (F_X10_keep p1 (fi 7) (fi 8) (fi 9) (fi 10) (fi 11) (fi 12) (fi 13) (fi 14) (fi 15) (fi 16) (fi 18) (fi 19) (fi 20)).2.2.2.2.2.2.2.2.2.2.2.2.1) (h19 : fi' 19 = (F_X10_keep p1 (fi 7) (fi 8) (fi 9) (fi 10) (fi 11) (fi 12) (fi 13) (fi 14) (fi 15) (fi 16) (fi 18) (fi 19) (fi 20)).2.2.2.2.2.2.2.2.2.2.2.2.2.1) : (¬ r.toInt = 0 ∧ (p1.toInt < 0 ∨ 2 < p1.toInt) ∧ ∀ i : Nat, i < 4 → zyE i fi fi') ∨ ∃ p : Nat, p < 3 ∧ p1.toInt = (p : Int) ∧ r.toInt = 0 ∧ zyC 0 (1 + p) (fi 13) (fi 18) (fi 19) (fi' 13) (fi' 18) (fi' 19) := by
  have hj := zJin (x := p1) (lo := 0) (hi := 2)
  rw [show (0 : Int32).toInt64 = 0 from by decide, show (2 : Int32).toInt64 = 2 from by decide, zN_0, zN_2] at hj
  unfold F_X10_keep F_X10_copyTown at hr h13 h18 h19
  simp only [↓zL_p] at hr h13 h18 h19
  try simp only [hj] at hr h13 h18 h19
  by_cases q : 0 ≤ p1.toInt ∧ p1.toInt ≤ 2
  · rw [if_pos q, if_neg (show ¬ (1 : Int32) = 0 by decide)] at hr h13 h18 h19
    obtain ⟨p, hp, ep, e9⟩ := zc_nat (x := p1) (m := 2) q.1 q.2 (by decide)
    have e1 : (1 : Int32) + p1 = nI (1 + p) := by rw [ep, show (1 : Int32) = nI 1 from by decide, nI_add]
    rw [e1, show (0 : Int32) = nI 0 from by decide] at h13 h18 h19
    dsimp only at h13 h18 h19
    exact Or.inr ⟨p, by omega, e9, by rw [hr]; exact (by decide : Int32.toInt 0 = 0), ⟨h13, h18, h19⟩⟩
  · rw [if_neg q, if_pos (show (0 : Int32) = 0 from rfl)] at hr h13 h18 h19
    exact Or.inl ⟨by rw [hr]; exact (by decide : ¬ Int32.toInt (-2) = 0), by omega, fun i _ => (show zyR i (fi 13) (fi 18) (fi 19) (fi' 13) (fi' 18) (fi' 19) from by rw [h13, h18, h19]; exact zyR.rf)⟩
theorem zbackG {p1 r : Int32} {fi fi' : Nat → Nat → Int32} (hr : r = (F_X10_back p1 (fi 7) (fi 8) (fi 9) (fi 10) (fi 11) (fi 12) (fi 13) (fi 14) (fi 15) (fi 16) (fi 18) (fi 19) (fi 20)).1) (h13 : fi' 13 = (F_X10_back p1 (fi 7) (fi 8) (fi 9) (fi 10) (fi 11) (fi 12) (fi 13) (fi 14) (fi 15) (fi 16) (fi 18) (fi 19) (fi 20)).2.2.2.2.2.2.2.2.1) (h18 : fi' 18 = (F_X10_back p1 (fi 7) (fi 8) (fi 9) (fi 10) (fi 11) (fi 12) (fi 13) (fi 14) (fi 15) (fi 16) (fi 18) (fi 19) (fi 20)).2.2.2.2.2.2.2.2.2.2.2.2.1) (h19 : fi' 19 = (F_X10_back p1 (fi 7) (fi 8) (fi 9) (fi 10) (fi 11) (fi 12) (fi 13) (fi 14) (fi 15) (fi 16) (fi 18) (fi 19) (fi 20)).2.2.2.2.2.2.2.2.2.2.2.2.2) : (¬ r.toInt = 0 ∧ ∀ i : Nat, i < 4 → zyE i fi fi') ∨ ∃ p : Nat, p < 3 ∧ p1.toInt = (p : Int) ∧ r.toInt = 0 ∧ zyC (1 + p) 0 (fi 13) (fi 18) (fi 19) (fi' 13) (fi' 18) (fi' 19) := by
  have hj := zJin (x := p1) (lo := 0) (hi := 2)
  rw [show (0 : Int32).toInt64 = 0 from by decide, show (2 : Int32).toInt64 = 2 from by decide, zN_0, zN_2] at hj
  unfold F_X10_back F_X10_copyTown at hr h13 h18 h19
  simp only [↓zL_p] at hr h13 h18 h19
  try simp only [hj] at hr h13 h18 h19
  by_cases q : 0 ≤ p1.toInt ∧ p1.toInt ≤ 2
  · rw [if_pos q, if_neg (show ¬ (1 : Int32) = 0 by decide)] at hr h13 h18 h19
    by_cases w : fi 20 (Int32.toNatClampNeg p1) = 0
    · rw [if_pos w] at hr h13 h18 h19
      exact Or.inl ⟨by rw [hr]; exact (by decide : ¬ Int32.toInt (-6) = 0), fun i _ => (show zyR i (fi 13) (fi 18) (fi 19) (fi' 13) (fi' 18) (fi' 19) from by rw [h13, h18, h19]; exact zyR.rf)⟩
    · rw [if_neg w] at hr h13 h18 h19
      obtain ⟨p, hp, ep, e9⟩ := zc_nat (x := p1) (m := 2) q.1 q.2 (by decide)
      have e1 : (1 : Int32) + p1 = nI (1 + p) := by rw [ep, show (1 : Int32) = nI 1 from by decide, nI_add]
      rw [e1, show (0 : Int32) = nI 0 from by decide] at h13 h18 h19
      dsimp only at h13 h18 h19
      exact Or.inr ⟨p, by omega, e9, by rw [hr]; exact (by decide : Int32.toInt 0 = 0), ⟨h13, h18, h19⟩⟩
  · rw [if_neg q, if_pos (show (0 : Int32) = 0 from rfl)] at hr h13 h18 h19
    exact Or.inl ⟨by rw [hr]; exact (by decide : ¬ Int32.toInt (-2) = 0), fun i _ => (show zyR i (fi 13) (fi 18) (fi 19) (fi' 13) (fi' 18) (fi' 19) from by rw [h13, h18, h19]; exact zyR.rf)⟩
theorem zyBs.of {P u : Int} {r : Int32} {fi fi' : Nat → Nat → Int32} (eu : u = r.toInt) (h : (¬ r.toInt = 0 ∧ ∀ i : Nat, i < 4 → zyE i fi fi') ∨ ∃ p : Nat, p < 3 ∧ P = (p : Int) ∧ r.toInt = 0 ∧ zyC (1 + p) 0 (fi 13) (fi 18) (fi 19) (fi' 13) (fi' 18) (fi' 19)) : zyBs P u fi fi' := by
  rw [eu]; exact h
/-! town -/
theorem zTown9 {tl s1 s2 s3 s4 : Int32} {tp K S E V : Nat → Int32} : ((F_X9_town tl tp s1 s2 s3 s4 K S E V).2.2.1 = 0 → (F_X9_town tl tp s1 s2 s3 s4 K S E V).2.2.2.2.1 = 0 ∧ (F_X9_town tl tp s1 s2 s3 s4 K S E V).2.2.2.2.2.1 = 0 ∧ (F_X9_town tl tp s1 s2 s3 s4 K S E V).2.2.2.2.2.2.1 = 0 ∧ (F_X9_town tl tp s1 s2 s3 s4 K S E V).2.2.2.2.2.2.2.1 = 0) ∧ (¬ (F_X9_town tl tp s1 s2 s3 s4 K S E V).2.2.1 = 0 → (F_X9_town tl tp s1 s2 s3 s4 K S E V).2.2.2.2.1 = s1 ∧ (F_X9_town tl tp s1 s2 s3 s4 K S E V).2.2.2.2.2.1 = s2 ∧ (F_X9_town tl tp s1 s2 s3 s4 K S E V).2.2.2.2.2.2.1 = s3 ∧ (F_X9_town tl tp s1 s2 s3 s4 K S E V).2.2.2.2.2.2.2.1 = s4) := by
  unfold F_X9_town
  simp only [↓zL_p]
  generalize F_X5_read tl K S E V tp = Z
  by_cases q : Z.1 = 0
  · rw [if_pos q]
    exact ⟨fun _ => ⟨rfl, rfl, rfl, rfl⟩, fun w => absurd q w⟩
  · rw [if_neg q]
    exact ⟨fun w => absurd w q, fun _ => ⟨rfl, rfl, rfl, rfl⟩⟩
theorem zr_townP {tl ta f9 s1 s2 s3 s4 m1 m2 m3 m4 : Int32} {tp tt K S E V rl rh rc rin rg rgt rpe ra0 rst rs ro rt rk rpe' rt' rk' : Nat → Int32} (e1 : tl.toInt = ta.toInt) (e2 : tp = tt) (hb : 0 ≤ tl.toInt ∧ tl.toInt ≤ 1600) (hS : ∀ j : Nat, 0 ≤ (S j).toInt ∧ (S j).toInt ≤ 1600) (hE : ∀ j : Nat, 0 ≤ (E j).toInt ∧ (E j).toInt ≤ 1600) (hV : ∀ j : Nat, 0 ≤ (V j).toInt ∧ (V j).toInt ≤ 100000) (hf : f9 = (F_X9_town tl tp s1 s2 s3 s4 K S E V).2.2.1) (c1 : m1 = (F_X9_town tl tp s1 s2 s3 s4 K S E V).2.2.2.2.1) (c2 : m2 = (F_X9_town tl tp s1 s2 s3 s4 K S E V).2.2.2.2.2.1) (c3 : m3 = (F_X9_town tl tp s1 s2 s3 s4 K S E V).2.2.2.2.2.2.1) (c4 : m4 = (F_X9_town tl tp s1 s2 s3 s4 K S E V).2.2.2.2.2.2.2.1) (d13 : rpe' = (F_X10_town ta tt rl rh rc rin rg rgt rpe ra0 rst rs ro rt rk).2.2.2.2.2.2.2.2.2.2.2.2.2.2.2.2.2.2.2.1) (d18 : rt' = (F_X10_town ta tt rl rh rc rin rg rgt rpe ra0 rst rs ro rt rk).2.2.2.2.2.2.2.2.2.2.2.2.2.2.2.2.2.2.2.2.2.2.2.2.1) (d19 : rk' = (F_X10_town ta tt rl rh rc rin rg rgt rpe ra0 rst rs ro rt rk).2.2.2.2.2.2.2.2.2.2.2.2.2.2.2.2.2.2.2.2.2.2.2.2.2) : (f9.toInt = 0 → zyP 0 m1 m2 m3 m4 rpe' rt' rk' ∧ ∀ i : Nat, 0 < i → i < 4 → zyR i rpe rt rk rpe' rt' rk') ∧ (¬ f9.toInt = 0 → (m1 = s1 ∧ m2 = s2 ∧ m3 = s3 ∧ m4 = s4) ∧ ∀ i : Nat, i < 4 → zyR i rpe rt rk rpe' rt' rk') := by
  have e := Int32.toInt_inj.mp e1
  subst e e2
  have el := zn_of hb.1
  have hl : tl.toNatClampNeg ≤ 1600 := by have := zi_clamp (x := tl) rfl hb.1; omega
  have z := zTown (tp := tp) (K := K) (s1 := s1) (s2 := s2) (s3 := s3) (s4 := s4) (rl := rl) (rh := rh) (rc := rc) (rin := rin) (rg := rg) (rgt := rgt) (rpe := rpe) (ra0 := ra0) (rst := rst) (rs := rs) (ro := ro) (rt := rt) (rk := rk) hl hS hE hV
  rw [← el] at z
  obtain ⟨-, -, -, -, -, -, z7, z8, z9⟩ := z
  have n9 := zTown9 (tl := tl) (tp := tp) (s1 := s1) (s2 := s2) (s3 := s3) (s4 := s4) (K := K) (S := S) (E := E) (V := V)
  have h0 : f9.toInt = 0 ↔ (F_X9_town tl tp s1 s2 s3 s4 K S E V).2.2.1 = 0 := by
    rw [hf, ← zN_0]; exact Int32.toInt_inj
  subst c1 c2 c3 c4 d13 d18 d19
  refine ⟨fun q => ?_, fun q => ?_⟩
  · obtain ⟨n1, n2, n3, n4⟩ := n9.1 (h0.mp q)
    obtain ⟨t1, t2, t3⟩ := z9.2 (h0.mp q)
    rw [n1, n2, n3, n4]
    refine ⟨⟨t1.symm, t2.symm, fun p hp => Or.inl ⟨?_, b_0 p, b_0 p⟩, fun p _ _ => ⟨b_0 p, b_0 p⟩⟩, fun i i0 i4 => ?_⟩
    · have := t3 p hp
      rw [show 10 * 0 + p = p by omega]; exact this
    · obtain ⟨u1, u2, u3⟩ := z9.1 i (Or.inl i0) i4
      exact ⟨(z7 (h0.mp q) i i0 i4).1.2.2.2.2, u1, u2, u3⟩
  · have q' := fun y => q (h0.mpr y)
    refine ⟨n9.2 q', fun i i4 => ?_⟩
    obtain ⟨u1, u2, u3⟩ := z9.1 i (Or.inr q') i4
    exact ⟨(z8 q' i i4).1.2.2.2.2, u1, u2, u3⟩
