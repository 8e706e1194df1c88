set_option linter.all false
/-! the towns' relation of the law (without names and strayers): zRelA. ad, iv, fi: the law's world (24.world) -/
/-- town block j of the class's, over rows of the reference's, at index i -/
def zTj (j : Nat) (iv : Nat → Int32) (fi : Nat → Nat → Int32) (rl rh rc rg rpe rin rgt ra0 rst rs : Nat → Int32) (i : Nat) : Prop := zTn i (iv (76 + 8 * j)) (iv (77 + 8 * j)) (iv (78 + 8 * j)) (iv (79 + 8 * j)) (iv (80 + 8 * j)) (iv (81 + 8 * j)) (iv (82 + 8 * j)) (iv (83 + 8 * j)) (fi (78 + 11 * j)) (fi (83 + 11 * j)) (fi (84 + 11 * j)) (fi (85 + 11 * j)) (fi (86 + 11 * j)) (fi (87 + 11 * j)) (fi (82 + 11 * j)) rl rh rc rg rpe rin rgt ra0 rst rs ∧ (iv (76 + 8 * j)).toInt ≤ 48 ∧ (iv (77 + 8 * j)).toInt ≤ 10 ∧ (iv (78 + 8 * j)).toInt ≤ 16 ∧ (iv (79 + 8 * j)).toInt ≤ 10
theorem zTj.same {j c : Nat} {iv : Nat → Int32} {fi : Nat → Nat → Int32} {rl rh rc rg rpe rin rgt ra0 rst rs rl' rh' rc' rg' rpe' rin' rgt' ra0' rst' rs' : Nat → Int32} (h : zTj j iv fi rl rh rc rg rpe rin rgt ra0 rst rs c) (e : zSame c rl rh rc rg rpe rin rgt ra0 rst rs rl' rh' rc' rg' rpe' rin' rgt' ra0' rst' rs') : zTj j iv fi rl' rh' rc' rg' rpe' rin' rgt' ra0' rst' rs' c :=
  ⟨h.1.same e h.2.1 h.2.2.1 h.2.2.2.1 h.2.2.2.2, h.2⟩
theorem zTj.copy {j a b : Nat} (ha : a ≤ 4) (hb : b ≤ 4) (hab : ¬ a = b) {iv : Nat → Int32} {fi : Nat → Nat → Int32} {rl rh rc rg rpe rin rgt ra0 rst rs : Nat → Int32} (h : zTj j iv fi rl rh rc rg rpe rin rgt ra0 rst rs a) : zTj j iv fi (F_X10_copyRow (nI a) (nI b) rl) (F_X10_copyRow_v1 (nI a) (nI b) rh) (F_X10_copyRow_v2 (nI a) (nI b) rc) (F_X10_copyRow_v4 (nI a) (nI b) rg) (F_X10_copyRow_v2 (nI a) (nI b) rpe) (F_X10_copyRow_v3 (nI a) (nI b) rin) (F_X10_copyRow_v5 (nI a) (nI b) rgt) (F_X10_copyRow_v6 (nI a) (nI b) ra0) (F_X10_copyRow_v7 (nI a) (nI b) rst) (F_X10_copyRow_v8 (nI a) (nI b) rs) b :=
  ⟨h.1.copy ha hb hab h.2.1 h.2.2.1 h.2.2.2.1 h.2.2.2.2, h.2⟩
def zRtA (j i : Nat) (iv : Nat → Int32) (fi : Nat → Nat → Int32) : Prop := zTj j iv fi (fi 7) (fi 8) (fi 9) (fi 11) (fi 13) (fi 10) (fi 12) (fi 14) (fi 15) (fi 16) i
def zImA (k : Nat) (ad : Nat → Nat) (iv : Nat → Int32) (fi : Nat → Nat → Int32) : Prop := (iv (53 + 5 * k)).toInt = 0 ∨ (ad (126 + k) = ad 77 ∧ zRtA 0 (1 + k) iv fi) ∨ (ad (126 + k) = ad 88 ∧ zRtA 1 (1 + k) iv fi) ∨ (ad (126 + k) = ad 99 ∧ zRtA 2 (1 + k) iv fi) ∨ (ad (126 + k) = ad 110 ∧ zRtA 3 (1 + k) iv fi)
def zRelA (ad : Nat → Nat) (iv : Nat → Int32) (fi : Nat → Nat → Int32) : Prop := zRtA 0 0 iv fi ∧ zImA 0 ad iv fi ∧ zImA 1 ad iv fi ∧ zImA 2 ad iv fi
/-- the reference's rows alike at index i -/
def zSm (i : Nat) (fi fi' : Nat → Nat → Int32) : Prop := zSame i (fi 7) (fi 8) (fi 9) (fi 11) (fi 13) (fi 10) (fi 12) (fi 14) (fi 15) (fi 16) (fi' 7) (fi' 8) (fi' 9) (fi' 11) (fi' 13) (fi' 10) (fi' 12) (fi' 14) (fi' 15) (fi' 16)
/-- the rows copied from a to b -/
def zCy (a b : Nat) (fi fi' : Nat → Nat → Int32) : Prop := fi' 7 = F_X10_copyRow (nI a) (nI b) (fi 7) ∧ fi' 8 = F_X10_copyRow_v1 (nI a) (nI b) (fi 8) ∧ fi' 9 = F_X10_copyRow_v2 (nI a) (nI b) (fi 9) ∧ fi' 11 = F_X10_copyRow_v4 (nI a) (nI b) (fi 11) ∧ fi' 13 = F_X10_copyRow_v2 (nI a) (nI b) (fi 13) ∧ fi' 10 = F_X10_copyRow_v3 (nI a) (nI b) (fi 10) ∧ fi' 12 = F_X10_copyRow_v5 (nI a) (nI b) (fi 12) ∧ fi' 14 = F_X10_copyRow_v6 (nI a) (nI b) (fi 14) ∧ fi' 15 = F_X10_copyRow_v7 (nI a) (nI b) (fi 15) ∧ fi' 16 = F_X10_copyRow_v8 (nI a) (nI b) (fi 16)
theorem zCy.other {a b c : Nat} {fi fi' : Nat → Nat → Int32} (h : zCy a b fi fi') (ha : a ≤ 4) (hb : b ≤ 4) (hab : ¬ a = b) (hcb : ¬ c = b) : zSm c fi fi' := by
  obtain ⟨e1, e2, e3, e4, e5, e6, e7, e8, e9, e10⟩ := h
  unfold zSm
  rw [e1, e2, e3, e4, e5, e6, e7, e8, e9, e10]
  exact zSame.other ha hb hab hcb ..
theorem zRtA.to {j j' i : Nat} {iv iv' : Nat → Int32} {fi fi' : Nat → Nat → Int32} (h : zRtA j i iv fi) (u : zTj j' iv' fi' = zTj j iv fi) (e : zSm i fi fi') : zRtA j' i iv' fi' := by
  unfold zRtA
  rw [u]
  exact zTj.same h e
theorem zRtA.cp {j j' a b : Nat} {iv iv' : Nat → Int32} {fi fi' : Nat → Nat → Int32} (h : zRtA j a iv fi) (u : zTj j' iv' fi' = zTj j iv fi) (e : zCy a b fi fi') (ha : a ≤ 4) (hb : b ≤ 4) (hab : ¬ a = b) : zRtA j' b iv' fi' := by
  obtain ⟨e1, e2, e3, e4, e5, e6, e7, e8, e9, e10⟩ := e
  unfold zRtA
  rw [u, e1, e2, e3, e4, e5, e6, e7, e8, e9, e10]
  exact zTj.copy ha hb hab h
/-- an image that stays -/
theorem zImA.to {k : Nat} {ad ad' : Nat → Nat} {iv iv' : Nat → Int32} {fi fi' : Nat → Nat → Int32} (h : zImA k ad iv fi) (hk : (iv' (53 + 5 * k)).toInt = (iv (53 + 5 * k)).toInt) (ha : ad' (126 + k) = ad (126 + k)) (a0 : ad' 77 = ad 77) (a1 : ad' 88 = ad 88) (a2 : ad' 99 = ad 99) (a3 : ad' 110 = ad 110) (u0 : zTj 0 iv' fi' = zTj 0 iv fi) (u1 : zTj 1 iv' fi' = zTj 1 iv fi) (u2 : zTj 2 iv' fi' = zTj 2 iv fi) (u3 : zTj 3 iv' fi' = zTj 3 iv fi) (e : zSm (1 + k) fi fi') : zImA k ad' iv' fi' := by
  unfold zImA
  rw [hk, ha, a0, a1, a2, a3]
  rcases h with q | ⟨q, z⟩ | ⟨q, z⟩ | ⟨q, z⟩ | ⟨q, z⟩
  · exact Or.inl q
  · exact Or.inr (Or.inl ⟨q, z.to u0 e⟩)
  · exact Or.inr (Or.inr (Or.inl ⟨q, z.to u1 e⟩))
  · exact Or.inr (Or.inr (Or.inr (Or.inl ⟨q, z.to u2 e⟩)))
  · exact Or.inr (Or.inr (Or.inr (Or.inr ⟨q, z.to u3 e⟩)))
/-- what keep does to image k: (p = k: the town of now), or it stays -/
def zKp (p : Int) (k : Nat) (ad ad' : Nat → Nat) (iv iv' : Nat → Int32) : Prop := (p = (k : Int) ∧ ad' (126 + k) = ad 77) ∨ (¬ p = (k : Int) ∧ (iv' (53 + 5 * k)).toInt = (iv (53 + 5 * k)).toInt ∧ ad' (126 + k) = ad (126 + k))
theorem zRelA.keep {ad ad' : Nat → Nat} {iv iv' : Nat → Int32} {fi fi' : Nat → Nat → Int32} {p : Nat} (hp : p < 3) (h : zRelA ad iv fi) (h0 : zKp p 0 ad ad' iv iv') (h1 : zKp p 1 ad ad' iv iv') (h2 : zKp p 2 ad ad' iv iv') (a0 : ad' 77 = ad 77) (a1 : ad' 88 = ad 88) (a2 : ad' 99 = ad 99) (a3 : ad' 110 = ad 110) (u0 : zTj 0 iv' fi' = zTj 0 iv fi) (u1 : zTj 1 iv' fi' = zTj 1 iv fi) (u2 : zTj 2 iv' fi' = zTj 2 iv fi) (u3 : zTj 3 iv' fi' = zTj 3 iv fi) (e : zCy 0 (1 + p) fi fi') : zRelA ad' iv' fi' := by
  have hi : ∀ k : Nat, k < 3 → zKp p k ad ad' iv iv' → zImA k ad iv fi → zImA k ad' iv' fi' := by
    intro k hk hK hI
    rcases hK with ⟨q, w⟩ | ⟨q, w1, w2⟩
    · have ek : k = p := by omega
      subst ek
      exact Or.inr (Or.inl ⟨w.trans a0.symm, h.1.cp u0 e (by omega) (by omega) (by omega)⟩)
    · exact hI.to w1 w2 a0 a1 a2 a3 u0 u1 u2 u3 (e.other (by omega) (by omega) (by omega) (by omega))
  exact ⟨h.1.to u0 (e.other (by omega) (by omega) (by omega) (by omega)), hi 0 (by omega) h0 h.2.1, hi 1 (by omega) h1 h.2.2.1, hi 2 (by omega) h2 h.2.2.2⟩
/-- a call that leaves all towns and images -/
theorem zRelA.frame {ad ad' : Nat → Nat} {iv iv' : Nat → Int32} {fi fi' : Nat → Nat → Int32} (h : zRelA ad iv fi) (k0 : (iv' 53).toInt = (iv 53).toInt) (k1 : (iv' 58).toInt = (iv 58).toInt) (k2 : (iv' 63).toInt = (iv 63).toInt) (t0 : ad' 126 = ad 126) (t1 : ad' 127 = ad 127) (t2 : ad' 128 = ad 128) (a0 : ad' 77 = ad 77) (a1 : ad' 88 = ad 88) (a2 : ad' 99 = ad 99) (a3 : ad' 110 = ad 110) (u0 : zTj 0 iv' fi' = zTj 0 iv fi) (u1 : zTj 1 iv' fi' = zTj 1 iv fi) (u2 : zTj 2 iv' fi' = zTj 2 iv fi) (u3 : zTj 3 iv' fi' = zTj 3 iv fi) (e : ∀ i : Nat, i < 4 → zSm i fi fi') : zRelA ad' iv' fi' :=
  ⟨h.1.to u0 (e 0 (by omega)), h.2.1.to k0 t0 a0 a1 a2 a3 u0 u1 u2 u3 (e 1 (by omega)), h.2.2.1.to k1 t1 a0 a1 a2 a3 u0 u1 u2 u3 (e 2 (by omega)), h.2.2.2.to k2 t2 a0 a1 a2 a3 u0 u1 u2 u3 (e 3 (by omega))⟩
