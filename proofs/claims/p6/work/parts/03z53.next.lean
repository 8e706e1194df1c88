set_option linter.all false
/-! the other reader's next token -/
theorem zIsB {i n : Nat} {a b : Int32} {tp : Nat → Int32} (hi : i ≤ n) (hn : n ≤ 1600) : F_X10_isByte (nI i) a b (nI n) tp = if i < n ∧ a.toInt ≤ (tp i).toInt ∧ (tp i).toInt ≤ b.toInt then 1 else 0 := by
  unfold F_X10_isByte
  simp only [zL, nI_clamp (show i < 2 ^ 31 by omega)]
  rcases Nat.lt_or_ge i n with q | q
  · rw [if_neg (nI_ge q (by omega))]
    by_cases h1 : tp i < a
    · have h1' := Int32.lt_iff_toInt_lt.mp h1
      rw [if_pos h1, if_neg (by omega)]
    · have h1' := mt Int32.lt_iff_toInt_lt.mpr h1
      rw [if_neg h1]
      by_cases h2 : b < tp i
      · have h2' := Int32.lt_iff_toInt_lt.mp h2
        rw [if_pos h2, if_neg (by omega)]
      · have h2' := mt Int32.lt_iff_toInt_lt.mpr h2
        rw [if_neg h2, if_pos (by omega)]
  · rw [if_pos (nI_le q (by omega)), if_neg (by omega)]
theorem zNx1 {n : Nat} (hn : n ≤ 1600) {tp : Nat → Int32} {kc : Int32 → Int32 × Int32 × Int32 × Int32 × Int64} : ∀ f i : Nat, n - i < f → i ≤ n → ∃ j : Nat, i ≤ j ∧ j ≤ n ∧ zBl tp i j ∧ (j < n → ¬ F_X5_kindOf (tp j) = 0) ∧ L_X10_next_1 (nI n) tp kc f (nI i) = kc (nI j) := by
  intro f
  induction f with
  | zero => intro i h; omega
  | succ f ih =>
    intro i hf hi
    rw [L_X10_next_1_s]
    unfold B_X10_next_1
    simp only [zL, zIsB hi hn, zN_32, zN_10, nI_1]
    by_cases q : i < n ∧ F_X5_kindOf (tp i) = 0
    · have hk := (zkd_0 (tp i)).mp q.2
      obtain ⟨j, h1, h2, h3, h4, h5⟩ := ih (i + 1) (by omega) (by omega)
      refine ⟨j, by omega, h2, fun m a b => ?_, h4, ?_⟩
      · rcases Nat.lt_or_ge i m with z | z
        · exact h3 m (by omega) b
        · rw [show m = i by omega]; exact q.2
      · rw [← h5]
        have q1 := q.1
        rcases hk with w | w
        · rw [if_pos (show i < n ∧ 32 ≤ (tp i).toInt ∧ (tp i).toInt ≤ 32 by omega), if_neg (by decide)]
        · rw [if_neg (show ¬ (i < n ∧ 32 ≤ (tp i).toInt ∧ (tp i).toInt ≤ 32) by omega), if_pos rfl, if_pos (show i < n ∧ 10 ≤ (tp i).toInt ∧ (tp i).toInt ≤ 10 by omega), if_neg (by decide)]
    · have hk : i < n → ¬ ((tp i).toInt = 32 ∨ (tp i).toInt = 10) := fun z w => q ⟨z, (zkd_0 _).mpr w⟩
      refine ⟨i, Nat.le_refl _, hi, fun m a b => absurd b (by omega), fun z w => q ⟨z, w⟩, ?_⟩
      rw [if_neg (show ¬ (i < n ∧ 32 ≤ (tp i).toInt ∧ (tp i).toInt ≤ 32) by omega), if_pos rfl, if_neg (show ¬ (i < n ∧ 10 ≤ (tp i).toInt ∧ (tp i).toInt ≤ 10) by omega), if_pos rfl]
/-- a value as one and as the other holds it -/
def zVR (c r : Int) : Prop := (c = r ∧ 0 ≤ r ∧ r < 100000) ∨ (c = 100000 ∧ 100000 ≤ r ∧ r ≤ 1000009)
theorem zNx2 {n s : Nat} (hn : n ≤ 1600) {tp : Nat → Int32} {kc : Int32 → Int32 → Int32 × Int32 × Int32 × Int32 × Int64} : ∀ (f m : Nat) (v : Int32), n - (s + m) < f → s + m ≤ n → zRu tp 2 s (s + m) → zVR (zVc tp s m) v.toInt → ∃ (j : Nat) (v' : Int32), s + m ≤ j ∧ j ≤ n ∧ zRu tp 2 s j ∧ (j < n → ¬ F_X5_kindOf (tp j) = 2) ∧ zVR (zVc tp s (j - s)) v'.toInt ∧ L_X10_next_2 (nI n) tp kc f (nI (s + m)) v = kc (nI j) v' := by
  intro f
  induction f with
  | zero => intro m v h; omega
  | succ f ih =>
    intro m v hf hi hr hv
    rw [L_X10_next_2_s]
    unfold B_X10_next_2
    simp only [zL, zIsB hi hn, zN_48, zN_57, nI_1, nI_clamp (show s + m < 2 ^ 31 by omega)]
    by_cases q : s + m < n ∧ F_X5_kindOf (tp (s + m)) = 2
    · have hk := (zkd_2 (tp (s + m))).mp q.2
      have q1 := q.1
      have hr' : zRu tp 2 s (s + (m + 1)) := fun j a b => by
        rcases Nat.lt_or_ge j (s + m) with z | z
        · exact hr j a z
        · rw [show j = s + m by omega]; exact q.2
      rw [if_pos (show s + m < n ∧ 48 ≤ (tp (s + m)).toInt ∧ (tp (s + m)).toInt ≤ 57 by omega), if_neg (by decide)]
      have hvb : 0 ≤ v.toInt ∧ v.toInt ≤ 1000009 := by unfold zVR at hv; omega
      have hstep : ∀ v1 : Int32, (v1.toInt = if v.toInt ≤ 100000 then 10 * v.toInt + (tp (s + m)).toInt - 48 else 1000000) → zVR (zVc tp s (m + 1)) v1.toInt := by
        intro v1 e
        show zVR (min (zVc tp s m * 10 + (tp (s + m)).toInt - 48) 100000) v1.toInt
        unfold zVR at hv ⊢
        rw [e]
        split <;> omega
      by_cases w : v ≤ 100000
      · have w' := Int32.le_iff_toInt_le.mp w
        rw [zN_100000] at w'
        have h1 : (10 * v).toInt = 10 * v.toInt := zi_mul zN_10 rfl (by omega)
        have h2 : (10 * v + tp (s + m)).toInt = 10 * v.toInt + (tp (s + m)).toInt := zi_add h1 rfl (by omega)
        have h3 : (10 * v + tp (s + m) - 48).toInt = 10 * v.toInt + (tp (s + m)).toInt - 48 := zi_sub h2 zN_48 (by omega)
        obtain ⟨j, v', g1, g2, g3, g4, g5, g6⟩ := ih (m + 1) (10 * v + tp (s + m) - 48) (by omega) (by omega) hr' (hstep _ (by rw [h3, if_pos w']))
        rw [if_pos w]
        exact ⟨j, v', by omega, g2, g3, g4, g5, g6⟩
      · have w' := mt Int32.le_iff_toInt_le.mpr w
        rw [zN_100000] at w'
        obtain ⟨j, v', g1, g2, g3, g4, g5, g6⟩ := ih (m + 1) 1000000 (by omega) (by omega) hr' (hstep _ (by rw [if_neg w']; decide))
        rw [if_neg w]
        exact ⟨j, v', by omega, g2, g3, g4, g5, g6⟩
    · have hk : s + m < n → ¬ (48 ≤ (tp (s + m)).toInt ∧ (tp (s + m)).toInt ≤ 57) := fun z w => q ⟨z, (zkd_2 _).mpr w⟩
      refine ⟨s + m, v, Nat.le_refl _, hi, hr, fun z w => q ⟨z, w⟩, by rw [show s + m - s = m by omega]; exact hv, ?_⟩
      rw [if_neg (show ¬ (s + m < n ∧ 48 ≤ (tp (s + m)).toInt ∧ (tp (s + m)).toInt ≤ 57) by omega), if_pos rfl]
/-- a word as a number -/
def zWv (tx : Nat → Int32) (s : Nat) : Nat → Int
  | 0 => 0
  | m + 1 => if 11 < m then -1 else 27 * zWv tx s m + (tx (s + m)).toInt - 96
theorem zWv_b {tx : Nat → Int32} {s : Nat} : ∀ m : Nat, m ≤ 12 → zRu tx 1 s (s + m) → 0 ≤ zWv tx s m ∧ zWv tx s m < ((27 ^ m : Nat) : Int) := by
  intro m
  induction m with
  | zero => intro _ _; exact ⟨Int.le_refl _, by show (0 : Int) < ((27 ^ 0 : Nat) : Int); decide⟩
  | succ m ih =>
    intro hm hr
    have h := ih (by omega) (fun j a b => hr j a (by omega))
    have hk := (zkd_1 _).mp (hr (s + m) (by omega) (by omega))
    show 0 ≤ (if 11 < m then (-1 : Int) else 27 * zWv tx s m + (tx (s + m)).toInt - 96) ∧ (if 11 < m then (-1 : Int) else 27 * zWv tx s m + (tx (s + m)).toInt - 96) < ((27 ^ (m + 1) : Nat) : Int)
    rw [if_neg (by omega), Nat.pow_succ]
    omega
theorem zNx3 {n s : Nat} (hn : n ≤ 1600) {tp : Nat → Int32} {kc : Int32 → Int64 → Int32 × Int32 × Int32 × Int32 × Int64} : ∀ (f m : Nat) (w : Int64), n - (s + m) < f → s + m ≤ n → zRu tp 1 s (s + m) → w.toInt = zWv tp s m → ∃ (j : Nat) (w' : Int64), s + m ≤ j ∧ j ≤ n ∧ zRu tp 1 s j ∧ (j < n → ¬ F_X5_kindOf (tp j) = 1) ∧ w'.toInt = zWv tp s (j - s) ∧ L_X10_next_3 (nI n) tp kc f (nI m) (nI (s + m)) w = kc (nI j) w' := by
  intro f
  induction f with
  | zero => intro m w h; omega
  | succ f ih =>
    intro m w hf hi hr hw
    rw [L_X10_next_3_s]
    unfold B_X10_next_3
    simp only [zL, zIsB hi hn, zN_97, zN_122, nI_1, zn_inc, nI_clamp (show s + m < 2 ^ 31 by omega)]
    by_cases q : s + m < n ∧ F_X5_kindOf (tp (s + m)) = 1
    · have hk := (zkd_1 (tp (s + m))).mp q.2
      have q1 := q.1
      have hr' : zRu tp 1 s (s + (m + 1)) := fun j a b => by
        rcases Nat.lt_or_ge j (s + m) with z | z
        · exact hr j a z
        · rw [show j = s + m by omega]; exact q.2
      rw [if_pos (show s + m < n ∧ 97 ≤ (tp (s + m)).toInt ∧ (tp (s + m)).toInt ≤ 122 by omega), if_neg (by decide)]
      have e11 : (nI m ≤ 11) ↔ m ≤ 11 := by
        rw [show (11 : Int32) = nI 11 from by decide]; exact nI_leI (by omega) (by omega)
      by_cases z : m ≤ 11
      · have hb := zWv_b m (by omega) hr
        have hp : (27 ^ m : Nat) ≤ 27 ^ 11 := Nat.pow_le_pow_right (by decide) z
        have hp2 : (27 ^ 11 : Nat) = 5559060566555523 := by decide
        have h0 : (tp (s + m)).toInt64.toInt = (tp (s + m)).toInt := z_l64 _
        have h1 : (27 * w).toInt = 27 * zWv tp s m := zi_mulL (show Int64.toInt 27 = 27 from by decide) hw (by omega)
        have h2 : (27 * w + (tp (s + m)).toInt64).toInt = 27 * zWv tp s m + (tp (s + m)).toInt := zi_addL h1 h0 (by omega)
        have h3 : (27 * w + (tp (s + m)).toInt64 - 96).toInt = 27 * zWv tp s m + (tp (s + m)).toInt - 96 := zi_subL h2 (show Int64.toInt 96 = 96 from by decide) (by omega)
        obtain ⟨j, w', g1, g2, g3, g4, g5, g6⟩ := ih (m + 1) (27 * w + (tp (s + m)).toInt64 - 96) (by omega) (by omega) hr' (by rw [h3]; show _ = if 11 < m then (-1 : Int) else 27 * zWv tp s m + (tp (s + m)).toInt - 96; rw [if_neg (by omega)])
        rw [if_pos (e11.mpr z)]
        exact ⟨j, w', by omega, g2, g3, g4, g5, g6⟩
      · obtain ⟨j, w', g1, g2, g3, g4, g5, g6⟩ := ih (m + 1) (-1) (by omega) (by omega) hr' (by show Int64.toInt (-1) = if 11 < m then (-1 : Int) else 27 * zWv tp s m + (tp (s + m)).toInt - 96; rw [if_pos (by omega)]; decide)
        rw [if_neg (fun y => z (e11.mp y))]
        exact ⟨j, w', by omega, g2, g3, g4, g5, g6⟩
    · have hk : s + m < n → ¬ (97 ≤ (tp (s + m)).toInt ∧ (tp (s + m)).toInt ≤ 122) := fun z w => q ⟨z, (zkd_1 _).mpr w⟩
      refine ⟨s + m, w, Nat.le_refl _, hi, hr, fun z w => q ⟨z, w⟩, by rw [show s + m - s = m by omega]; exact hw, ?_⟩
      rw [if_neg (show ¬ (s + m < n ∧ 97 ≤ (tp (s + m)).toInt ∧ (tp (s + m)).toInt ≤ 122) by omega), if_pos rfl]
theorem zNext {n a : Nat} (hn : n ≤ 1600) (ha : a ≤ n) (tp : Nat → Int32) : (zBl tp a n ∧ F_X10_next (nI n) (nI a) tp = (nI n, 0, nI n, 0, 0)) ∨ ∃ (kd : Int32) (st sp : Nat) (v : Int32) (w : Int64), zTok tp n a kd st sp ∧ (kd = 2 → zVR (zVc tp st (sp - st)) v.toInt) ∧ (kd = 1 → w.toInt = zWv tp st (sp - st)) ∧ F_X10_next (nI n) (nI a) tp = (nI sp, kd, nI st, v, w) := by
  obtain ⟨j, h1, h2, h3, h4, h5⟩ := zNx1 (tp := tp) (kc := K_X10_next_1_0 (nI n) tp) hn 1602 a (by omega) ha
  have h6 : F_X10_next (nI n) (nI a) tp = K_X10_next_1_0 (nI n) tp (nI j) := h5
  rw [h6]
  unfold K_X10_next_1_0
  simp only [zL, zIsB h2 hn, zN_97, zN_122, zN_48, zN_57, nI_1, nI_clamp (show j < 2 ^ 31 by omega)]
  rcases Nat.lt_or_ge j n with q | q
  · rw [if_neg (show ¬ nI j = nI n from fun z => absurd ((nI_eq (by omega) (by omega)).mp z) (by omega))]
    have h0 := h4 q
    by_cases e1 : F_X5_kindOf (tp j) = 1
    · have k1 := (zkd_1 _).mp e1
      rw [if_pos (show j < n ∧ 97 ≤ (tp j).toInt ∧ (tp j).toInt ≤ 122 by omega), if_neg (by decide)]
      obtain ⟨m, w', g1, g2, g3, g4, g5, g6⟩ := zNx3 (s := j) (tp := tp) (kc := K_X10_next_3_0 (nI j)) hn 1602 0 0 (by omega) (by omega) (fun i a b => absurd b (by omega)) (by show Int64.toInt 0 = 0; decide)
      have g7 : L_X10_next_3 (nI n) tp (K_X10_next_3_0 (nI j)) 1602 0 (nI j) 0 = K_X10_next_3_0 (nI j) (nI m) w' := g6
      have hm : j < m := by
        rcases Nat.lt_or_ge j m with z | z
        · exact z
        · exact absurd e1 (by have := g4 (by omega); rw [show m = j by omega] at this; exact this)
      rw [g7]
      refine Or.inr ⟨1, j, m, 0, w', ⟨h1, h3, hm, g2, e1, by decide, g3, fun _ z => g4 z, fun z => absurd rfl z⟩, fun z => absurd z (by decide), fun _ => g5, rfl⟩
    · have k1 : ¬ (97 ≤ (tp j).toInt ∧ (tp j).toInt ≤ 122) := fun z => e1 ((zkd_1 _).mpr z)
      rw [if_neg (show ¬ (j < n ∧ 97 ≤ (tp j).toInt ∧ (tp j).toInt ≤ 122) by omega), if_pos rfl]
      by_cases e2 : F_X5_kindOf (tp j) = 2
      · have k2 := (zkd_2 _).mp e2
        rw [if_pos (show j < n ∧ 48 ≤ (tp j).toInt ∧ (tp j).toInt ≤ 57 by omega), if_neg (by decide)]
        obtain ⟨m, v', g1, g2, g3, g4, g5, g6⟩ := zNx2 (s := j) (tp := tp) (kc := K_X10_next_2_0 (nI j)) hn 1602 0 0 (by omega) (by omega) (fun i a b => absurd b (by omega)) (by rw [zN_0]; exact Or.inl ⟨rfl, by omega, by omega⟩)
        have g7 : L_X10_next_2 (nI n) tp (K_X10_next_2_0 (nI j)) 1602 (nI j) 0 = K_X10_next_2_0 (nI j) (nI m) v' := g6
        have hm : j < m := by
          rcases Nat.lt_or_ge j m with z | z
          · exact z
          · exact absurd e2 (by have := g4 (by omega); rw [show m = j by omega] at this; exact this)
        rw [g7]
        refine Or.inr ⟨2, j, m, v', 0, ⟨h1, h3, hm, g2, e2, by decide, g3, fun _ z => g4 z, fun _ z => absurd rfl z⟩, fun _ => g5, fun z => absurd z (by decide), rfl⟩
      · have k2 : ¬ (48 ≤ (tp j).toInt ∧ (tp j).toInt ≤ 57) := fun z => e2 ((zkd_2 _).mpr z)
        rw [if_neg (show ¬ (j < n ∧ 48 ≤ (tp j).toInt ∧ (tp j).toInt ≤ 57) by omega), if_pos rfl]
        have hT : ∀ kd : Int32, F_X5_kindOf (tp j) = kd → ¬ kd = 0 → ¬ kd = 1 → ¬ kd = 2 → zTok tp n a kd j (j + 1) := fun kd z z0 z1 z2 => ⟨h1, h3, by omega, by omega, z, z0, fun i a b => by rw [show i = j by omega]; exact z, fun y => False.elim (y.elim z1 z2), fun _ _ => rfl⟩
        by_cases e3 : F_X5_kindOf (tp j) = 3
        · have k3 := (zkd_3 _).mp e3
          rw [if_pos (show tp j = 59 from Int32.toInt_inj.mp (k3.trans zN_59.symm))]
          exact Or.inr ⟨3, j, j + 1, 0, 0, hT 3 e3 (by decide) (by decide) (by decide), fun z => absurd z (by decide), fun z => absurd z (by decide), rfl⟩
        · have e4 : F_X5_kindOf (tp j) = 4 := by
            rcases zkd_r (tp j) with z | z | z | z | z
            · exact absurd z h0
            · exact absurd z e1
            · exact absurd z e2
            · exact absurd z e3
            · exact z
          rw [if_neg (show ¬ tp j = 59 from fun z => e3 ((zkd_3 _).mpr (by rw [z]; exact zN_59)))]
          exact Or.inr ⟨4, j, j + 1, 0, 0, hT 4 e4 (by decide) (by decide) (by decide), fun z => absurd z (by decide), fun z => absurd z (by decide), rfl⟩
  · obtain rfl : j = n := by omega
    rw [if_pos rfl]
    exact Or.inl ⟨h3, rfl⟩
