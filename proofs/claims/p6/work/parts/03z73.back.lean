set_option linter.all false
/-! the towns' relation through back -/
/-- what back says of the class: refused, or the town of image p -/
def zBk (P r : Int) (tn : Nat) (ad : Nat → Nat) (iv : Nat → Int32) : Prop := (¬ r = 0 ∧ tn = ad 77) ∨ ∃ p : Nat, p < 3 ∧ P = (p : Int) ∧ r = 0 ∧ ¬ (iv (53 + 5 * p)).toInt = 0 ∧ tn = ad (126 + p)
/-- .. and of the reference: refused, or rows copied from 1 + p -/
def zBr (P r : Int) (fi fi' : Nat → Nat → Int32) : Prop := (¬ r = 0 ∧ ∀ i : Nat, i < 4 → zSm i fi fi') ∨ ∃ p : Nat, p < 3 ∧ P = (p : Int) ∧ r = 0 ∧ zCy (1 + p) 0 fi fi'
/-- the four towns stand apart -/
def zAp (ad : Nat → Nat) : Prop := ¬ ad 77 = ad 88 ∧ ¬ ad 77 = ad 99 ∧ ¬ ad 77 = ad 110 ∧ ¬ ad 88 = ad 99 ∧ ¬ ad 88 = ad 110 ∧ ¬ ad 99 = ad 110
theorem zImA.is0 {k : Nat} {ad : Nat → Nat} {iv : Nat → Int32} {fi : Nat → Nat → Int32} (h : zImA k ad iv fi) (hn : ¬ (iv (53 + 5 * k)).toInt = 0) (ht : ad (126 + k) = ad 77) (d : zAp ad) : zRtA 0 (1 + k) iv fi := by
  obtain ⟨d1, d2, d3, d4, d5, d6⟩ := d
  rcases h with q | ⟨q, z⟩ | ⟨q, z⟩ | ⟨q, z⟩ | ⟨q, z⟩
  · exact absurd q hn
  · exact z
  · exact absurd (ht.symm.trans q) d1
  · exact absurd (ht.symm.trans q) d2
  · exact absurd (ht.symm.trans q) d3
theorem zImA.is1 {k : Nat} {ad : Nat → Nat} {iv : Nat → Int32} {fi : Nat → Nat → Int32} (h : zImA k ad iv fi) (hn : ¬ (iv (53 + 5 * k)).toInt = 0) (ht : ad (126 + k) = ad 88) (d : zAp ad) : zRtA 1 (1 + k) iv fi := by
  obtain ⟨d1, d2, d3, d4, d5, d6⟩ := d
  rcases h with q | ⟨q, z⟩ | ⟨q, z⟩ | ⟨q, z⟩ | ⟨q, z⟩
  · exact absurd q hn
  · exact absurd (q.symm.trans ht) d1
  · exact z
  · exact absurd (ht.symm.trans q) d4
  · exact absurd (ht.symm.trans q) d5
theorem zImA.is2 {k : Nat} {ad : Nat → Nat} {iv : Nat → Int32} {fi : Nat → Nat → Int32} (h : zImA k ad iv fi) (hn : ¬ (iv (53 + 5 * k)).toInt = 0) (ht : ad (126 + k) = ad 99) (d : zAp ad) : zRtA 2 (1 + k) iv fi := by
  obtain ⟨d1, d2, d3, d4, d5, d6⟩ := d
  rcases h with q | ⟨q, z⟩ | ⟨q, z⟩ | ⟨q, z⟩ | ⟨q, z⟩
  · exact absurd q hn
  · exact absurd (q.symm.trans ht) d2
  · exact absurd (q.symm.trans ht) d4
  · exact z
  · exact absurd (ht.symm.trans q) d6
theorem zImA.is3 {k : Nat} {ad : Nat → Nat} {iv : Nat → Int32} {fi : Nat → Nat → Int32} (h : zImA k ad iv fi) (hn : ¬ (iv (53 + 5 * k)).toInt = 0) (ht : ad (126 + k) = ad 110) (d : zAp ad) : zRtA 3 (1 + k) iv fi := by
  obtain ⟨d1, d2, d3, d4, d5, d6⟩ := d
  rcases h with q | ⟨q, z⟩ | ⟨q, z⟩ | ⟨q, z⟩ | ⟨q, z⟩
  · exact absurd q hn
  · exact absurd (q.symm.trans ht) d3
  · exact absurd (q.symm.trans ht) d5
  · exact absurd (q.symm.trans ht) d6
  · exact z
theorem zImA.sw0 {k : Nat} {ad ad' : Nat → Nat} {iv iv' : Nat → Int32} {fi fi' : Nat → Nat → Int32} (h : zImA k ad iv fi) (hk : (iv' (53 + 5 * k)).toInt = (iv (53 + 5 * k)).toInt) (ha : ad' (126 + k) = ad (126 + k)) (a0 : ad' 77 = ad 77) (a1 : ad' 88 = ad 88) (a2 : ad' 99 = ad 99) (a3 : ad' 110 = ad 110) (u0 : zTj 0 iv' fi' = zTj 0 iv fi) (u1 : zTj 1 iv' fi' = zTj 1 iv fi) (u2 : zTj 2 iv' fi' = zTj 2 iv fi) (u3 : zTj 3 iv' fi' = zTj 3 iv fi) (e : zSm (1 + k) fi fi') : zImA k ad' iv' fi' := by
  unfold zImA
  rw [hk, ha, a0, a1, a2, a3]
  rcases h with q | ⟨q, z⟩ | ⟨q, z⟩ | ⟨q, z⟩ | ⟨q, z⟩
  · exact Or.inl q
  · exact Or.inr (Or.inl ⟨q, z.to u0 e⟩)
  · exact Or.inr (Or.inr (Or.inl ⟨q, z.to u1 e⟩))
  · exact Or.inr (Or.inr (Or.inr (Or.inl ⟨q, z.to u2 e⟩)))
  · exact Or.inr (Or.inr (Or.inr (Or.inr ⟨q, z.to u3 e⟩)))
theorem zRelA.back0 {ad ad' : Nat → Nat} {iv iv' : Nat → Int32} {fi fi' : Nat → Nat → Int32} {P r : Int} {tn : Nat} (h : zRelA ad iv fi) (c : zBk P r tn ad iv) (d : zBr P r fi fi') (ht : tn = ad 77) (ap : zAp ad) (k0 : (iv' 53).toInt = (iv 53).toInt) (k1 : (iv' 58).toInt = (iv 58).toInt) (k2 : (iv' 63).toInt = (iv 63).toInt) (t0 : ad' 126 = ad 126) (t1 : ad' 127 = ad 127) (t2 : ad' 128 = ad 128) (a0 : ad' 77 = ad 77) (a1 : ad' 88 = ad 88) (a2 : ad' 99 = ad 99) (a3 : ad' 110 = ad 110) (u0 : zTj 0 iv' fi' = zTj 0 iv fi) (u1 : zTj 1 iv' fi' = zTj 1 iv fi) (u2 : zTj 2 iv' fi' = zTj 2 iv fi) (u3 : zTj 3 iv' fi' = zTj 3 iv fi) : zRelA ad' iv' fi' := by
  rcases c with ⟨c1, c2⟩ | ⟨p, hp, eP, er, hn, c2⟩
  · rcases d with ⟨d1, d2⟩ | ⟨p, hp, eP, er, d2⟩
    · exact h.frame k0 k1 k2 t0 t1 t2 a0 a1 a2 a3 u0 u1 u2 u3 d2
    · exact absurd er c1
  · rcases d with ⟨d1, d2⟩ | ⟨p', hp', eP', er', d2⟩
    · exact absurd er d1
    · have ep : p' = p := by omega
      subst ep
      have hI : ∀ k : Nat, k < 3 → zImA k ad iv fi := by
        intro k hk
        rcases (show k = 0 ∨ k = 1 ∨ k = 2 by omega) with w | w | w
        · subst w; exact h.2.1
        · subst w; exact h.2.2.1
        · subst w; exact h.2.2.2
      have z := (hI p' hp).is0 hn (c2.symm.trans ht) ap
      have e : ∀ i : Nat, 0 < i → i < 4 → zSm i fi fi' := fun i h1 h2 => d2.other (by omega) (by omega) (by omega) (by omega)
      exact ⟨z.cp u0 d2 (by omega) (by omega) (by omega), h.2.1.sw0 k0 t0 a0 a1 a2 a3 u0 u1 u2 u3 (e 1 (by omega) (by omega)), h.2.2.1.sw0 k1 t1 a0 a1 a2 a3 u0 u1 u2 u3 (e 2 (by omega) (by omega)), h.2.2.2.sw0 k2 t2 a0 a1 a2 a3 u0 u1 u2 u3 (e 3 (by omega) (by omega))⟩
theorem zImA.sw1 {k : Nat} {ad ad' : Nat → Nat} {iv iv' : Nat → Int32} {fi fi' : Nat → Nat → Int32} (h : zImA k ad iv fi) (hk : (iv' (53 + 5 * k)).toInt = (iv (53 + 5 * k)).toInt) (ha : ad' (126 + k) = ad (126 + k)) (a0 : ad' 77 = ad 88) (a1 : ad' 88 = ad 77) (a2 : ad' 99 = ad 99) (a3 : ad' 110 = ad 110) (u0 : zTj 0 iv' fi' = zTj 1 iv fi) (u1 : zTj 1 iv' fi' = zTj 0 iv fi) (u2 : zTj 2 iv' fi' = zTj 2 iv fi) (u3 : zTj 3 iv' fi' = zTj 3 iv fi) (e : zSm (1 + k) fi fi') : zImA k ad' iv' fi' := by
  unfold zImA
  rw [hk, ha, a0, a1, a2, a3]
  rcases h with q | ⟨q, z⟩ | ⟨q, z⟩ | ⟨q, z⟩ | ⟨q, z⟩
  · exact Or.inl q
  · exact Or.inr (Or.inr (Or.inl ⟨q, z.to u1 e⟩))
  · exact Or.inr (Or.inl ⟨q, z.to u0 e⟩)
  · exact Or.inr (Or.inr (Or.inr (Or.inl ⟨q, z.to u2 e⟩)))
  · exact Or.inr (Or.inr (Or.inr (Or.inr ⟨q, z.to u3 e⟩)))
theorem zRelA.back1 {ad ad' : Nat → Nat} {iv iv' : Nat → Int32} {fi fi' : Nat → Nat → Int32} {P r : Int} {tn : Nat} (h : zRelA ad iv fi) (c : zBk P r tn ad iv) (d : zBr P r fi fi') (ht : tn = ad 88) (ap : zAp ad) (k0 : (iv' 53).toInt = (iv 53).toInt) (k1 : (iv' 58).toInt = (iv 58).toInt) (k2 : (iv' 63).toInt = (iv 63).toInt) (t0 : ad' 126 = ad 126) (t1 : ad' 127 = ad 127) (t2 : ad' 128 = ad 128) (a0 : ad' 77 = ad 88) (a1 : ad' 88 = ad 77) (a2 : ad' 99 = ad 99) (a3 : ad' 110 = ad 110) (u0 : zTj 0 iv' fi' = zTj 1 iv fi) (u1 : zTj 1 iv' fi' = zTj 0 iv fi) (u2 : zTj 2 iv' fi' = zTj 2 iv fi) (u3 : zTj 3 iv' fi' = zTj 3 iv fi) : zRelA ad' iv' fi' := by
  rcases c with ⟨c1, c2⟩ | ⟨p, hp, eP, er, hn, c2⟩
  · exact absurd (c2.symm.trans ht) ap.1
  · rcases d with ⟨d1, d2⟩ | ⟨p', hp', eP', er', d2⟩
    · exact absurd er d1
    · have ep : p' = p := by omega
      subst ep
      have hI : ∀ k : Nat, k < 3 → zImA k ad iv fi := by
        intro k hk
        rcases (show k = 0 ∨ k = 1 ∨ k = 2 by omega) with w | w | w
        · subst w; exact h.2.1
        · subst w; exact h.2.2.1
        · subst w; exact h.2.2.2
      have z := (hI p' hp).is1 hn (c2.symm.trans ht) ap
      have e : ∀ i : Nat, 0 < i → i < 4 → zSm i fi fi' := fun i h1 h2 => d2.other (by omega) (by omega) (by omega) (by omega)
      exact ⟨z.cp u0 d2 (by omega) (by omega) (by omega), h.2.1.sw1 k0 t0 a0 a1 a2 a3 u0 u1 u2 u3 (e 1 (by omega) (by omega)), h.2.2.1.sw1 k1 t1 a0 a1 a2 a3 u0 u1 u2 u3 (e 2 (by omega) (by omega)), h.2.2.2.sw1 k2 t2 a0 a1 a2 a3 u0 u1 u2 u3 (e 3 (by omega) (by omega))⟩
theorem zImA.sw2 {k : Nat} {ad ad' : Nat → Nat} {iv iv' : Nat → Int32} {fi fi' : Nat → Nat → Int32} (h : zImA k ad iv fi) (hk : (iv' (53 + 5 * k)).toInt = (iv (53 + 5 * k)).toInt) (ha : ad' (126 + k) = ad (126 + k)) (a0 : ad' 77 = ad 99) (a1 : ad' 88 = ad 88) (a2 : ad' 99 = ad 77) (a3 : ad' 110 = ad 110) (u0 : zTj 0 iv' fi' = zTj 2 iv fi) (u1 : zTj 1 iv' fi' = zTj 1 iv fi) (u2 : zTj 2 iv' fi' = zTj 0 iv fi) (u3 : zTj 3 iv' fi' = zTj 3 iv fi) (e : zSm (1 + k) fi fi') : zImA k ad' iv' fi' := by
  unfold zImA
  rw [hk, ha, a0, a1, a2, a3]
  rcases h with q | ⟨q, z⟩ | ⟨q, z⟩ | ⟨q, z⟩ | ⟨q, z⟩
  · exact Or.inl q
  · exact Or.inr (Or.inr (Or.inr (Or.inl ⟨q, z.to u2 e⟩)))
  · exact Or.inr (Or.inr (Or.inl ⟨q, z.to u1 e⟩))
  · exact Or.inr (Or.inl ⟨q, z.to u0 e⟩)
  · exact Or.inr (Or.inr (Or.inr (Or.inr ⟨q, z.to u3 e⟩)))
theorem zRelA.back2 {ad ad' : Nat → Nat} {iv iv' : Nat → Int32} {fi fi' : Nat → Nat → Int32} {P r : Int} {tn : Nat} (h : zRelA ad iv fi) (c : zBk P r tn ad iv) (d : zBr P r fi fi') (ht : tn = ad 99) (ap : zAp ad) (k0 : (iv' 53).toInt = (iv 53).toInt) (k1 : (iv' 58).toInt = (iv 58).toInt) (k2 : (iv' 63).toInt = (iv 63).toInt) (t0 : ad' 126 = ad 126) (t1 : ad' 127 = ad 127) (t2 : ad' 128 = ad 128) (a0 : ad' 77 = ad 99) (a1 : ad' 88 = ad 88) (a2 : ad' 99 = ad 77) (a3 : ad' 110 = ad 110) (u0 : zTj 0 iv' fi' = zTj 2 iv fi) (u1 : zTj 1 iv' fi' = zTj 1 iv fi) (u2 : zTj 2 iv' fi' = zTj 0 iv fi) (u3 : zTj 3 iv' fi' = zTj 3 iv fi) : zRelA ad' iv' fi' := by
  rcases c with ⟨c1, c2⟩ | ⟨p, hp, eP, er, hn, c2⟩
  · exact absurd (c2.symm.trans ht) ap.2.1
  · rcases d with ⟨d1, d2⟩ | ⟨p', hp', eP', er', d2⟩
    · exact absurd er d1
    · have ep : p' = p := by omega
      subst ep
      have hI : ∀ k : Nat, k < 3 → zImA k ad iv fi := by
        intro k hk
        rcases (show k = 0 ∨ k = 1 ∨ k = 2 by omega) with w | w | w
        · subst w; exact h.2.1
        · subst w; exact h.2.2.1
        · subst w; exact h.2.2.2
      have z := (hI p' hp).is2 hn (c2.symm.trans ht) ap
      have e : ∀ i : Nat, 0 < i → i < 4 → zSm i fi fi' := fun i h1 h2 => d2.other (by omega) (by omega) (by omega) (by omega)
      exact ⟨z.cp u0 d2 (by omega) (by omega) (by omega), h.2.1.sw2 k0 t0 a0 a1 a2 a3 u0 u1 u2 u3 (e 1 (by omega) (by omega)), h.2.2.1.sw2 k1 t1 a0 a1 a2 a3 u0 u1 u2 u3 (e 2 (by omega) (by omega)), h.2.2.2.sw2 k2 t2 a0 a1 a2 a3 u0 u1 u2 u3 (e 3 (by omega) (by omega))⟩
theorem zImA.sw3 {k : Nat} {ad ad' : Nat → Nat} {iv iv' : Nat → Int32} {fi fi' : Nat → Nat → Int32} (h : zImA k ad iv fi) (hk : (iv' (53 + 5 * k)).toInt = (iv (53 + 5 * k)).toInt) (ha : ad' (126 + k) = ad (126 + k)) (a0 : ad' 77 = ad 110) (a1 : ad' 88 = ad 88) (a2 : ad' 99 = ad 99) (a3 : ad' 110 = ad 77) (u0 : zTj 0 iv' fi' = zTj 3 iv fi) (u1 : zTj 1 iv' fi' = zTj 1 iv fi) (u2 : zTj 2 iv' fi' = zTj 2 iv fi) (u3 : zTj 3 iv' fi' = zTj 0 iv fi) (e : zSm (1 + k) fi fi') : zImA k ad' iv' fi' := by
  unfold zImA
  rw [hk, ha, a0, a1, a2, a3]
  rcases h with q | ⟨q, z⟩ | ⟨q, z⟩ | ⟨q, z⟩ | ⟨q, z⟩
  · exact Or.inl q
  · exact Or.inr (Or.inr (Or.inr (Or.inr ⟨q, z.to u3 e⟩)))
  · exact Or.inr (Or.inr (Or.inl ⟨q, z.to u1 e⟩))
  · exact Or.inr (Or.inr (Or.inr (Or.inl ⟨q, z.to u2 e⟩)))
  · exact Or.inr (Or.inl ⟨q, z.to u0 e⟩)
theorem zRelA.back3 {ad ad' : Nat → Nat} {iv iv' : Nat → Int32} {fi fi' : Nat → Nat → Int32} {P r : Int} {tn : Nat} (h : zRelA ad iv fi) (c : zBk P r tn ad iv) (d : zBr P r fi fi') (ht : tn = ad 110) (ap : zAp ad) (k0 : (iv' 53).toInt = (iv 53).toInt) (k1 : (iv' 58).toInt = (iv 58).toInt) (k2 : (iv' 63).toInt = (iv 63).toInt) (t0 : ad' 126 = ad 126) (t1 : ad' 127 = ad 127) (t2 : ad' 128 = ad 128) (a0 : ad' 77 = ad 110) (a1 : ad' 88 = ad 88) (a2 : ad' 99 = ad 99) (a3 : ad' 110 = ad 77) (u0 : zTj 0 iv' fi' = zTj 3 iv fi) (u1 : zTj 1 iv' fi' = zTj 1 iv fi) (u2 : zTj 2 iv' fi' = zTj 2 iv fi) (u3 : zTj 3 iv' fi' = zTj 0 iv fi) : zRelA ad' iv' fi' := by
  rcases c with ⟨c1, c2⟩ | ⟨p, hp, eP, er, hn, c2⟩
  · exact absurd (c2.symm.trans ht) ap.2.2.1
  · rcases d with ⟨d1, d2⟩ | ⟨p', hp', eP', er', d2⟩
    · exact absurd er d1
    · have ep : p' = p := by omega
      subst ep
      have hI : ∀ k : Nat, k < 3 → zImA k ad iv fi := by
        intro k hk
        rcases (show k = 0 ∨ k = 1 ∨ k = 2 by omega) with w | w | w
        · subst w; exact h.2.1
        · subst w; exact h.2.2.1
        · subst w; exact h.2.2.2
      have z := (hI p' hp).is3 hn (c2.symm.trans ht) ap
      have e : ∀ i : Nat, 0 < i → i < 4 → zSm i fi fi' := fun i h1 h2 => d2.other (by omega) (by omega) (by omega) (by omega)
      exact ⟨z.cp u0 d2 (by omega) (by omega) (by omega), h.2.1.sw3 k0 t0 a0 a1 a2 a3 u0 u1 u2 u3 (e 1 (by omega) (by omega)), h.2.2.1.sw3 k1 t1 a0 a1 a2 a3 u0 u1 u2 u3 (e 2 (by omega) (by omega)), h.2.2.2.sw3 k2 t2 a0 a1 a2 a3 u0 u1 u2 u3 (e 3 (by omega) (by omega))⟩
/-- the class's back, as its contract says it -/
theorem zBk.of {P r : Int} {tn : Nat} {ad : Nat → Nat} {iv : Nat → Int32} (h : (¬ r = 0 ∧ tn = ad 77) ∨ (P = 0 ∧ r = 0 ∧ (iv 53).toInt = 1 ∧ tn = ad 126) ∨ (P = 1 ∧ r = 0 ∧ (iv 58).toInt = 1 ∧ tn = ad 127) ∨ (P = 2 ∧ r = 0 ∧ (iv 63).toInt = 1 ∧ tn = ad 128)) : zBk P r tn ad iv := by
  rcases h with h | ⟨h1, h2, h3, h4⟩ | ⟨h1, h2, h3, h4⟩ | ⟨h1, h2, h3, h4⟩
  · exact Or.inl h
  · exact Or.inr ⟨0, by omega, h1, h2, fun q => by have q' : (iv 53).toInt = 0 := q; omega, h4⟩
  · exact Or.inr ⟨1, by omega, h1, h2, fun q => by have q' : (iv 58).toInt = 0 := q; omega, h4⟩
  · exact Or.inr ⟨2, by omega, h1, h2, fun q => by have q' : (iv 63).toInt = 0 := q; omega, h4⟩
theorem zImA.mv0 {k : Nat} {ad ad' : Nat → Nat} {iv iv' : Nat → Int32} {fi fi' : Nat → Nat → Int32} (h : zImA k ad iv fi) (hz : ¬ ad (126 + k) = ad 77) (hk : (iv' (53 + 5 * k)).toInt = (iv (53 + 5 * k)).toInt) (ha : ad' (126 + k) = ad (126 + k)) (a1 : ad' 88 = ad 88) (a2 : ad' 99 = ad 99) (a3 : ad' 110 = ad 110) (u1 : zTj 1 iv' fi' = zTj 1 iv fi) (u2 : zTj 2 iv' fi' = zTj 2 iv fi) (u3 : zTj 3 iv' fi' = zTj 3 iv fi) (e : zSm (1 + k) fi fi') : zImA k ad' iv' fi' := by
  unfold zImA
  rw [hk, ha, a1, a2, a3]
  rcases h with q | ⟨q, z⟩ | ⟨q, z⟩ | ⟨q, z⟩ | ⟨q, z⟩
  · exact Or.inl q
  · exact absurd q hz
  · exact Or.inr (Or.inr (Or.inl ⟨q, z.to u1 e⟩))
  · exact Or.inr (Or.inr (Or.inr (Or.inl ⟨q, z.to u2 e⟩)))
  · exact Or.inr (Or.inr (Or.inr (Or.inr ⟨q, z.to u3 e⟩)))
theorem zRelA.town0 {ad ad' : Nat → Nat} {iv iv' : Nat → Int32} {fi fi' : Nat → Nat → Int32} (h : zRelA ad iv fi) (N : zRtA 0 0 iv' fi') (z0 : ¬ ad 126 = ad 77) (z1 : ¬ ad 127 = ad 77) (z2 : ¬ ad 128 = ad 77) (k0 : (iv' 53).toInt = (iv 53).toInt) (k1 : (iv' 58).toInt = (iv 58).toInt) (k2 : (iv' 63).toInt = (iv 63).toInt) (t0 : ad' 126 = ad 126) (t1 : ad' 127 = ad 127) (t2 : ad' 128 = ad 128) (a1 : ad' 88 = ad 88) (a2 : ad' 99 = ad 99) (a3 : ad' 110 = ad 110) (u1 : zTj 1 iv' fi' = zTj 1 iv fi) (u2 : zTj 2 iv' fi' = zTj 2 iv fi) (u3 : zTj 3 iv' fi' = zTj 3 iv fi) (e : ∀ i : Nat, 0 < i → i < 4 → zSm i fi fi') : zRelA ad' iv' fi' :=
  ⟨N, h.2.1.mv0 z0 k0 t0 a1 a2 a3 u1 u2 u3 (e 1 (by omega) (by omega)), h.2.2.1.mv0 z1 k1 t1 a1 a2 a3 u1 u2 u3 (e 2 (by omega) (by omega)), h.2.2.2.mv0 z2 k2 t2 a1 a2 a3 u1 u2 u3 (e 3 (by omega) (by omega))⟩
theorem zImA.mv1 {k : Nat} {ad ad' : Nat → Nat} {iv iv' : Nat → Int32} {fi fi' : Nat → Nat → Int32} (h : zImA k ad iv fi) (hz : ¬ ad (126 + k) = ad 88) (hk : (iv' (53 + 5 * k)).toInt = (iv (53 + 5 * k)).toInt) (ha : ad' (126 + k) = ad (126 + k)) (a1 : ad' 88 = ad 77) (a2 : ad' 99 = ad 99) (a3 : ad' 110 = ad 110) (u1 : zTj 1 iv' fi' = zTj 0 iv fi) (u2 : zTj 2 iv' fi' = zTj 2 iv fi) (u3 : zTj 3 iv' fi' = zTj 3 iv fi) (e : zSm (1 + k) fi fi') : zImA k ad' iv' fi' := by
  unfold zImA
  rw [hk, ha, a1, a2, a3]
  rcases h with q | ⟨q, z⟩ | ⟨q, z⟩ | ⟨q, z⟩ | ⟨q, z⟩
  · exact Or.inl q
  · exact Or.inr (Or.inr (Or.inl ⟨q, z.to u1 e⟩))
  · exact absurd q hz
  · exact Or.inr (Or.inr (Or.inr (Or.inl ⟨q, z.to u2 e⟩)))
  · exact Or.inr (Or.inr (Or.inr (Or.inr ⟨q, z.to u3 e⟩)))
theorem zRelA.town1 {ad ad' : Nat → Nat} {iv iv' : Nat → Int32} {fi fi' : Nat → Nat → Int32} (h : zRelA ad iv fi) (N : zRtA 0 0 iv' fi') (z0 : ¬ ad 126 = ad 88) (z1 : ¬ ad 127 = ad 88) (z2 : ¬ ad 128 = ad 88) (k0 : (iv' 53).toInt = (iv 53).toInt) (k1 : (iv' 58).toInt = (iv 58).toInt) (k2 : (iv' 63).toInt = (iv 63).toInt) (t0 : ad' 126 = ad 126) (t1 : ad' 127 = ad 127) (t2 : ad' 128 = ad 128) (a1 : ad' 88 = ad 77) (a2 : ad' 99 = ad 99) (a3 : ad' 110 = ad 110) (u1 : zTj 1 iv' fi' = zTj 0 iv fi) (u2 : zTj 2 iv' fi' = zTj 2 iv fi) (u3 : zTj 3 iv' fi' = zTj 3 iv fi) (e : ∀ i : Nat, 0 < i → i < 4 → zSm i fi fi') : zRelA ad' iv' fi' :=
  ⟨N, h.2.1.mv1 z0 k0 t0 a1 a2 a3 u1 u2 u3 (e 1 (by omega) (by omega)), h.2.2.1.mv1 z1 k1 t1 a1 a2 a3 u1 u2 u3 (e 2 (by omega) (by omega)), h.2.2.2.mv1 z2 k2 t2 a1 a2 a3 u1 u2 u3 (e 3 (by omega) (by omega))⟩
theorem zImA.mv2 {k : Nat} {ad ad' : Nat → Nat} {iv iv' : Nat → Int32} {fi fi' : Nat → Nat → Int32} (h : zImA k ad iv fi) (hz : ¬ ad (126 + k) = ad 99) (hk : (iv' (53 + 5 * k)).toInt = (iv (53 + 5 * k)).toInt) (ha : ad' (126 + k) = ad (126 + k)) (a1 : ad' 88 = ad 88) (a2 : ad' 99 = ad 77) (a3 : ad' 110 = ad 110) (u1 : zTj 1 iv' fi' = zTj 1 iv fi) (u2 : zTj 2 iv' fi' = zTj 0 iv fi) (u3 : zTj 3 iv' fi' = zTj 3 iv fi) (e : zSm (1 + k) fi fi') : zImA k ad' iv' fi' := by
  unfold zImA
  rw [hk, ha, a1, a2, a3]
  rcases h with q | ⟨q, z⟩ | ⟨q, z⟩ | ⟨q, z⟩ | ⟨q, z⟩
  · exact Or.inl q
  · exact Or.inr (Or.inr (Or.inr (Or.inl ⟨q, z.to u2 e⟩)))
  · exact Or.inr (Or.inr (Or.inl ⟨q, z.to u1 e⟩))
  · exact absurd q hz
  · exact Or.inr (Or.inr (Or.inr (Or.inr ⟨q, z.to u3 e⟩)))
theorem zRelA.town2 {ad ad' : Nat → Nat} {iv iv' : Nat → Int32} {fi fi' : Nat → Nat → Int32} (h : zRelA ad iv fi) (N : zRtA 0 0 iv' fi') (z0 : ¬ ad 126 = ad 99) (z1 : ¬ ad 127 = ad 99) (z2 : ¬ ad 128 = ad 99) (k0 : (iv' 53).toInt = (iv 53).toInt) (k1 : (iv' 58).toInt = (iv 58).toInt) (k2 : (iv' 63).toInt = (iv 63).toInt) (t0 : ad' 126 = ad 126) (t1 : ad' 127 = ad 127) (t2 : ad' 128 = ad 128) (a1 : ad' 88 = ad 88) (a2 : ad' 99 = ad 77) (a3 : ad' 110 = ad 110) (u1 : zTj 1 iv' fi' = zTj 1 iv fi) (u2 : zTj 2 iv' fi' = zTj 0 iv fi) (u3 : zTj 3 iv' fi' = zTj 3 iv fi) (e : ∀ i : Nat, 0 < i → i < 4 → zSm i fi fi') : zRelA ad' iv' fi' :=
  ⟨N, h.2.1.mv2 z0 k0 t0 a1 a2 a3 u1 u2 u3 (e 1 (by omega) (by omega)), h.2.2.1.mv2 z1 k1 t1 a1 a2 a3 u1 u2 u3 (e 2 (by omega) (by omega)), h.2.2.2.mv2 z2 k2 t2 a1 a2 a3 u1 u2 u3 (e 3 (by omega) (by omega))⟩
theorem zImA.mv3 {k : Nat} {ad ad' : Nat → Nat} {iv iv' : Nat → Int32} {fi fi' : Nat → Nat → Int32} (h : zImA k ad iv fi) (hz : ¬ ad (126 + k) = ad 110) (hk : (iv' (53 + 5 * k)).toInt = (iv (53 + 5 * k)).toInt) (ha : ad' (126 + k) = ad (126 + k)) (a1 : ad' 88 = ad 88) (a2 : ad' 99 = ad 99) (a3 : ad' 110 = ad 77) (u1 : zTj 1 iv' fi' = zTj 1 iv fi) (u2 : zTj 2 iv' fi' = zTj 2 iv fi) (u3 : zTj 3 iv' fi' = zTj 0 iv fi) (e : zSm (1 + k) fi fi') : zImA k ad' iv' fi' := by
  unfold zImA
  rw [hk, ha, a1, a2, a3]
  rcases h with q | ⟨q, z⟩ | ⟨q, z⟩ | ⟨q, z⟩ | ⟨q, z⟩
  · exact Or.inl q
  · exact Or.inr (Or.inr (Or.inr (Or.inr ⟨q, z.to u3 e⟩)))
  · exact Or.inr (Or.inr (Or.inl ⟨q, z.to u1 e⟩))
  · exact Or.inr (Or.inr (Or.inr (Or.inl ⟨q, z.to u2 e⟩)))
  · exact absurd q hz
theorem zRelA.town3 {ad ad' : Nat → Nat} {iv iv' : Nat → Int32} {fi fi' : Nat → Nat → Int32} (h : zRelA ad iv fi) (N : zRtA 0 0 iv' fi') (z0 : ¬ ad 126 = ad 110) (z1 : ¬ ad 127 = ad 110) (z2 : ¬ ad 128 = ad 110) (k0 : (iv' 53).toInt = (iv 53).toInt) (k1 : (iv' 58).toInt = (iv 58).toInt) (k2 : (iv' 63).toInt = (iv 63).toInt) (t0 : ad' 126 = ad 126) (t1 : ad' 127 = ad 127) (t2 : ad' 128 = ad 128) (a1 : ad' 88 = ad 88) (a2 : ad' 99 = ad 99) (a3 : ad' 110 = ad 77) (u1 : zTj 1 iv' fi' = zTj 1 iv fi) (u2 : zTj 2 iv' fi' = zTj 2 iv fi) (u3 : zTj 3 iv' fi' = zTj 0 iv fi) (e : ∀ i : Nat, 0 < i → i < 4 → zSm i fi fi') : zRelA ad' iv' fi' :=
  ⟨N, h.2.1.mv3 z0 k0 t0 a1 a2 a3 u1 u2 u3 (e 1 (by omega) (by omega)), h.2.2.1.mv3 z1 k1 t1 a1 a2 a3 u1 u2 u3 (e 2 (by omega) (by omega)), h.2.2.2.mv3 z2 k2 t2 a1 a2 a3 u1 u2 u3 (e 3 (by omega) (by omega))⟩
