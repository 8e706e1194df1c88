set_option linter.all false
/-! words -/
theorem zJlen (wi : Nat) : F_J0_length_8abf5 wi = nI (zLen.getD wi 0) := by
  show Int32.ofNat (zLen.getD wi 0) >>> ((0 : Int32) &&& 31) = nI (zLen.getD wi 0)
  rw [sb_shr0]; rfl
theorem zJch : ∀ wi : Nat, wi < 14 → ∀ i : Nat, i < zLen.getD wi 0 → F_J0_charAt_5068e (nI i) wi = (zByt.getD wi []).getD i 0 := by decide +kernel
/-- the text has the word from s on -/
def zMt (tx : Nat → Int32) (s wi m : Nat) : Prop := ∀ i : Nat, i < m → tx (s + i) = (zByt.getD wi []).getD i 0
theorem zIsW_go {tx S : Nat → Int32} {at_ x : Int32} {s wi : Nat} (hw : wi < 14) (hx : x = nI s) (hs : s ≤ 1600) {k0 k1 : Int32} : ∀ f m : Nat, zLen.getD wi 0 - m < f → m ≤ zLen.getD wi 0 → zMt tx s wi m → (zMt tx s wi (zLen.getD wi 0) ∧ L_X5_isWord_1 wi S at_ x tx k0 k1 f (nI m) = k0) ∨ (¬ zMt tx s wi (zLen.getD wi 0) ∧ L_X5_isWord_1 wi S at_ x tx k0 k1 f (nI m) = k1) := by
  have hl := zLen_n wi hw
  intro f
  induction f with
  | zero => intro m h; omega
  | succ f ih =>
    intro m hf hm hM
    rw [L_X5_isWord_1_s]
    unfold B_X5_isWord_1
    simp only [zL, zJlen, zn_inc]
    rcases Nat.lt_or_ge m (zLen.getD wi 0) with q | q
    · rw [if_neg (nI_ge q (by omega)), hx, nI_add, nI_clamp (show s + m < 2 ^ 31 by omega), zJch wi hw m q]
      by_cases e : tx (s + m) = (zByt.getD wi []).getD m 0
      · rw [if_pos e]
        have hM' : zMt tx s wi (m + 1) := fun i hi => by
          rcases Nat.lt_or_ge i m with z | z
          · exact hM i z
          · rw [show i = m by omega]; exact e
        rw [← hx]
        exact ih (m + 1) (by omega) (by omega) hM'
      · rw [if_neg e]
        exact Or.inr ⟨fun z => e (z m q), rfl⟩
    · obtain rfl : m = zLen.getD wi 0 := by omega
      rw [if_pos (nI_le (Nat.le_refl _) (by omega))]
      exact Or.inl ⟨hM, rfl⟩
/-- the number of a word -/
def zWn (wi : Nat) : Nat → Int
  | 0 => 0
  | m + 1 => 27 * zWn wi m + ((zByt.getD wi []).getD m 0).toInt - 96
theorem zByt_b : ∀ wi : Nat, wi < 14 → ∀ i : Nat, i < zLen.getD wi 0 → 97 ≤ ((zByt.getD wi []).getD i 0).toInt ∧ ((zByt.getD wi []).getD i 0).toInt ≤ 122 := by decide +kernel
theorem zWn_p {wi : Nat} (hw : wi < 14) : ∀ m : Nat, m ≤ zLen.getD wi 0 → 0 ≤ zWn wi m ∧ (0 < m → 0 < zWn wi m) := by
  intro m
  induction m with
  | zero => intro _; exact ⟨Int.le_refl _, fun z => absurd z (by omega)⟩
  | succ m ih =>
    intro h
    have a := ih (by omega)
    have b := zByt_b wi hw m (by omega)
    show 0 ≤ 27 * zWn wi m + ((zByt.getD wi []).getD m 0).toInt - 96 ∧ (0 < m + 1 → 0 < 27 * zWn wi m + ((zByt.getD wi []).getD m 0).toInt - 96)
    omega
/-- two words have one number only if they are the same -/
theorem zWn_i {tx : Nat → Int32} {s wi : Nat} (hw : wi < 14) : ∀ m j : Nat, j ≤ zLen.getD wi 0 → zRu tx 1 s (s + m) → (zWv tx s m = zWn wi j ↔ m = j ∧ zMt tx s wi m) := by
  intro m
  induction m with
  | zero =>
    intro j hj hr
    have a := zWn_p hw j hj
    constructor
    · intro h
      have h' : (0 : Int) = zWn wi j := h
      refine ⟨?_, fun i hi => absurd hi (by omega)⟩
      rcases Nat.lt_or_ge 0 j with q | q
      · have := a.2 q; omega
      · omega
    · rintro ⟨rfl, -⟩
      rfl
  | succ m ih =>
    intro j hj hr
    have hk := (zkd_1 _).mp (hr (s + m) (by omega) (by omega))
    have e : zWv tx s (m + 1) = if 11 < m then (-1 : Int) else 27 * zWv tx s m + (tx (s + m)).toInt - 96 := rfl
    have hl := zLen_n wi hw
    rw [e]
    cases j with
    | zero =>
      have h0 : zWn wi 0 = 0 := rfl
      rw [h0]
      constructor
      · intro h
        by_cases z : 11 < m
        · rw [if_pos z] at h; omega
        · rw [if_neg z] at h
          have := zWv_b m (by omega) (fun i a b => hr i a (by omega))
          omega
      · rintro ⟨h, -⟩
        omega
    | succ j =>
      have h1 := ih j (by omega) (fun i a b => hr i a (by omega))
      have hb := zByt_b wi hw j (by omega)
      have e2 : zWn wi (j + 1) = 27 * zWn wi j + ((zByt.getD wi []).getD j 0).toInt - 96 := rfl
      have hp := zWn_p hw j (by omega)
      rw [e2]
      by_cases z : 11 < m
      · rw [if_pos z]
        constructor
        · intro h; omega
        · rintro ⟨h, -⟩; omega
      · rw [if_neg z]
        constructor
        · intro h
          have hA : zWv tx s m = zWn wi j := by omega
          have hB : (tx (s + m)).toInt = ((zByt.getD wi []).getD j 0).toInt := by omega
          obtain ⟨rfl, hM⟩ := h1.mp hA
          refine ⟨rfl, fun i hi => ?_⟩
          rcases Nat.lt_or_ge i m with y | y
          · exact hM i y
          · rw [show i = m by omega]; exact Int32.toInt_inj.mp hB
        · rintro ⟨h, hM⟩
          obtain rfl : m = j := by omega
          rw [h1.mpr ⟨rfl, fun i hi => hM i (by omega)⟩, hM m (by omega)]
/-! one token of both -/
def zSy (tx : Nat → Int32) (n t : Nat) (K S E V : Nat → Int32) (k : Nat) (at_ tk pl vl : Int32) (wd : Int64) : Prop :=
  k ≤ t ∧ pl = S k ∧ ((k < t ∧ at_ = E k ∧ tk = K k ∧ (tk = 2 → zVR (V k).toInt vl.toInt) ∧ (tk = 1 → wd.toInt = zWv tx (S k).toNatClampNeg ((E k).toNatClampNeg - (S k).toNatClampNeg))) ∨ (k = t ∧ at_ = nI n ∧ tk = 0))
/-- what stands fast while a text is read -/
def zTx9 (tx : Nat → Int32) (n t : Nat) (K S E V : Nat → Int32) : Prop := n ≤ 1600 ∧ t ≤ n ∧ zTks tx n t K S E V ∧ zR 1600 S ∧ zR 1600 E ∧ K t = 5 ∧ S t = nI n
theorem zTx9.go {tx : Nat → Int32} {n t : Nat} {K S E V : Nat → Int32} (h : zTx9 tx n t K S E V) {k a : Nat} (hk : k ≤ t) (ha : a = zPv E k) : zSy tx n t K S E V k (F_X10_next (nI n) (nI a) tx).1 (F_X10_next (nI n) (nI a) tx).2.1 (F_X10_next (nI n) (nI a) tx).2.2.1 (F_X10_next (nI n) (nI a) tx).2.2.2.1 (F_X10_next (nI n) (nI a) tx).2.2.2.2 := by
  obtain ⟨hn, ht, hT, hS, hE, hK5, hSt⟩ := h
  have han : a ≤ n := by
    rcases Nat.lt_or_ge k t with q | q
    · have z := (hT.1 k q).1
      have := z.1; have := z.2.2.1; have := z.2.2.2.1
      omega
    · rw [ha, show k = t by omega]; exact hT.2.2
  rcases zNext hn han tx with ⟨h1, h2⟩ | ⟨kd, st, sp, v, w, h1, h2, h3, h4⟩
  · rw [h2]
    rcases Nat.lt_or_ge k t with q | q
    · exact absurd h1 (fun z => zTok.notEnd (hT.1 k q).1 (by rw [← ha]; exact z))
    · obtain rfl : k = t := by omega
      exact ⟨Nat.le_refl _, hSt.symm, Or.inr ⟨rfl, rfl, rfl⟩⟩
  · rw [h4]
    rcases Nat.lt_or_ge k t with q | q
    · have z := hT.1 k q
      rw [← ha] at z
      obtain ⟨rfl, rfl, rfl⟩ := zTok.uniq h1 z.1
      refine ⟨hk, (zn_of (hS k).1).symm, Or.inl ⟨q, (zn_of (hE k).1).symm, rfl, fun k2 => ?_, h3⟩⟩
      rw [z.2 k2]; exact h2 k2
    · obtain rfl : k = t := by omega
      exact absurd hT.2.1 (fun z => zTok.notEnd h1 (by rw [ha]; exact z))
theorem zSy.next {tx : Nat → Int32} {n t : Nat} {K S E V : Nat → Int32} (h : zTx9 tx n t K S E V) {k : Nat} {at_ tk pl vl : Int32} {wd : Int64} (hs : zSy tx n t K S E V k at_ tk pl vl wd) (h0 : ¬ tk = 0) : zSy tx n t K S E V (k + 1) (F_X10_next (nI n) at_ tx).1 (F_X10_next (nI n) at_ tx).2.1 (F_X10_next (nI n) at_ tx).2.2.1 (F_X10_next (nI n) at_ tx).2.2.2.1 (F_X10_next (nI n) at_ tx).2.2.2.2 := by
  obtain ⟨h1, h2, ⟨h3, h4, h5⟩ | ⟨h3, h4, h5⟩⟩ := hs
  · rw [h4, zn_of (h.2.2.2.2.1 k).1]
    exact h.go (k := k + 1) (by omega) rfl
  · exact absurd h5 h0
/-- which word it is, in both -/
theorem zSy.word {tx : Nat → Int32} {n t : Nat} {K S E V : Nat → Int32} (h : zTx9 tx n t K S E V) {k : Nat} {at_ tk pl vl : Int32} {wd : Int64} (hs : zSy tx n t K S E V k at_ tk pl vl wd) {wi : Nat} (hw : wi < 14) {c : Int64} (hc : c.toInt = zWn wi (zLen.getD wi 0)) : (F_X5_isWord (nI k) K S E tx wi = 1 ∧ tk = 1 ∧ wd = c) ∨ (F_X5_isWord (nI k) K S E tx wi = 0 ∧ ¬ (tk = 1 ∧ wd = c)) := by
  obtain ⟨hn, ht, hT, hS, hE, hK5, hSt⟩ := h
  obtain ⟨h1, h2, hs⟩ := hs
  unfold F_X5_isWord
  simp only [zL, zJlen, nI_clamp (show k < 2 ^ 31 by omega)]
  rcases hs with ⟨h3, h4, h5, h6, h7⟩ | ⟨h3, h4, h5⟩
  · rw [← h5]
    by_cases e1 : tk = 1
    · rw [if_pos e1]
      have z := (hT.1 k h3).1
      have zs := zn_of (hS k).1
      have ze := zn_of (hE k).1
      have z3 := z.2.2.1
      have z4 := z.2.2.2.1
      have hr : zRu tx 1 (S k).toNatClampNeg ((S k).toNatClampNeg + ((E k).toNatClampNeg - (S k).toNatClampNeg)) := fun j a b => by
        have := z.2.2.2.2.2.2.1 j a (by omega)
        rw [this, ← h5, e1]
      have hd : E k - S k = nI ((E k).toNatClampNeg - (S k).toNatClampNeg) := by
        apply Int32.toInt_inj.mp
        have a1 : (E k).toInt = ((E k).toNatClampNeg : Int) := by rw [ze, nI_toInt (by omega), nI_clamp (by omega)]
        have a2 : (S k).toInt = ((S k).toNatClampNeg : Int) := by rw [zs, nI_toInt (by omega), nI_clamp (by omega)]
        rw [zi_sub a1 a2 (by omega), nI_toInt (by omega)]
        omega
      rw [hd]
      have hl := zLen_n wi hw
      have hi := zWn_i (tx := tx) (s := (S k).toNatClampNeg) hw ((E k).toNatClampNeg - (S k).toNatClampNeg) (zLen.getD wi 0) (Nat.le_refl _) hr
      have hwd : wd = c ↔ zWv tx (S k).toNatClampNeg ((E k).toNatClampNeg - (S k).toNatClampNeg) = zWn wi (zLen.getD wi 0) := by
        rw [← h7 e1, ← hc]; exact Int64.toInt_inj.symm
      by_cases e2 : (E k).toNatClampNeg - (S k).toNatClampNeg = zLen.getD wi 0
      · rw [if_pos (by rw [e2])]
        have hz := zIsW_go (tx := tx) (S := S) (at_ := nI k) (k0 := K_X5_isWord_1_0) (k1 := K_X5_isWord_1_1) hw zs (by omega) 8 0 (by omega) (by omega) (fun i a => absurd a (by omega))
        rw [show nI 0 = (0 : Int32) from nI_0] at hz
        rcases hz with ⟨z1, z2⟩ | ⟨z1, z2⟩
        · exact Or.inl ⟨z2, e1, hwd.mpr (hi.mpr ⟨e2, by rw [e2]; exact z1⟩)⟩
        · refine Or.inr ⟨z2, fun y => z1 ?_⟩
          have := (hi.mp (hwd.mp y.2)).2
          rw [e2] at this; exact this
      · rw [if_neg (fun y => e2 ((nI_eq (by omega) (by omega)).mp y))]
        exact Or.inr ⟨rfl, fun y => e2 (hi.mp (hwd.mp y.2)).1⟩
    · rw [if_neg e1]
      exact Or.inr ⟨rfl, fun y => e1 y.1⟩
  · rw [h3, hK5, if_neg (by decide)]
    exact Or.inr ⟨rfl, fun y => absurd (h5.symm.trans y.1) (by decide)⟩
theorem zJis {c wd : Int64} {tk bad : Int32} : (F_X10_is_v1 c tk wd bad = 1 ∧ bad = 0 ∧ tk = 1 ∧ wd = c) ∨ (F_X10_is_v1 c tk wd bad = 0 ∧ (¬ bad = 0 ∨ ¬ (tk = 1 ∧ wd = c))) := by
  unfold F_X10_is_v1
  by_cases e1 : bad = 0
  · rw [if_pos e1]
    by_cases e2 : tk = 1
    · rw [if_pos e2]
      by_cases e3 : lg_cmp wd c = 0
      · rw [if_pos e3]; exact Or.inl ⟨rfl, e1, e2, (lg_cmp_eq _ _).mp e3⟩
      · rw [if_neg e3]; exact Or.inr ⟨rfl, Or.inr (fun y => e3 ((lg_cmp_eq _ _).mpr y.2))⟩
    · rw [if_neg e2]; exact Or.inr ⟨rfl, Or.inr (fun y => e2 y.1)⟩
  · rw [if_neg e1]; exact Or.inr ⟨rfl, Or.inl e1⟩
