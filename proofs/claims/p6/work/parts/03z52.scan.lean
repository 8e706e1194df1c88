set_option linter.all false
/-! kinds of signs -/
theorem zN_0 : Int32.toInt 0 = 0 := by decide
theorem zN_1 : Int32.toInt 1 = 1 := by decide
theorem zN_2 : Int32.toInt 2 = 2 := by decide
theorem zN_3 : Int32.toInt 3 = 3 := by decide
theorem zN_4 : Int32.toInt 4 = 4 := by decide
theorem zN_5 : Int32.toInt 5 = 5 := by decide
theorem zN_10 : Int32.toInt 10 = 10 := by decide
theorem zN_32 : Int32.toInt 32 = 32 := by decide
theorem zN_48 : Int32.toInt 48 = 48 := by decide
theorem zN_57 : Int32.toInt 57 = 57 := by decide
theorem zN_59 : Int32.toInt 59 = 59 := by decide
theorem zN_97 : Int32.toInt 97 = 97 := by decide
theorem zN_122 : Int32.toInt 122 = 122 := by decide
theorem zN_100000 : Int32.toInt 100000 = 100000 := by decide
theorem zkd_r (v : Int32) : F_X5_kindOf v = 0 ∨ F_X5_kindOf v = 1 ∨ F_X5_kindOf v = 2 ∨ F_X5_kindOf v = 3 ∨ F_X5_kindOf v = 4 := by
  unfold F_X5_kindOf
  repeat' split
  all_goals first | exact Or.inl rfl | exact Or.inr (Or.inl rfl) | exact Or.inr (Or.inr (Or.inl rfl)) | exact Or.inr (Or.inr (Or.inr (Or.inl rfl))) | exact Or.inr (Or.inr (Or.inr (Or.inr rfl)))
theorem zkd_0 (v : Int32) : F_X5_kindOf v = 0 ↔ v.toInt = 32 ∨ v.toInt = 10 := by
  constructor
  · intro h
    unfold F_X5_kindOf at h
    repeat' split at h
    all_goals simp only [← Int32.toInt_inj, Int32.lt_iff_toInt_lt, zN_0, zN_1, zN_2, zN_3, zN_4, zN_10, zN_32, zN_48, zN_57, zN_59, zN_97, zN_122] at *
    all_goals omega
  · intro h
    unfold F_X5_kindOf
    repeat' split
    all_goals simp only [← Int32.toInt_inj, Int32.lt_iff_toInt_lt, zN_0, zN_1, zN_2, zN_3, zN_4, zN_10, zN_32, zN_48, zN_57, zN_59, zN_97, zN_122] at *
    all_goals omega
theorem zkd_1 (v : Int32) : F_X5_kindOf v = 1 ↔ 97 ≤ v.toInt ∧ v.toInt ≤ 122 := by
  constructor
  · intro h
    unfold F_X5_kindOf at h
    repeat' split at h
    all_goals simp only [← Int32.toInt_inj, Int32.lt_iff_toInt_lt, zN_0, zN_1, zN_2, zN_3, zN_4, zN_10, zN_32, zN_48, zN_57, zN_59, zN_97, zN_122] at *
    all_goals omega
  · intro h
    unfold F_X5_kindOf
    repeat' split
    all_goals simp only [← Int32.toInt_inj, Int32.lt_iff_toInt_lt, zN_0, zN_1, zN_2, zN_3, zN_4, zN_10, zN_32, zN_48, zN_57, zN_59, zN_97, zN_122] at *
    all_goals omega
theorem zkd_2 (v : Int32) : F_X5_kindOf v = 2 ↔ 48 ≤ v.toInt ∧ v.toInt ≤ 57 := by
  constructor
  · intro h
    unfold F_X5_kindOf at h
    repeat' split at h
    all_goals simp only [← Int32.toInt_inj, Int32.lt_iff_toInt_lt, zN_0, zN_1, zN_2, zN_3, zN_4, zN_10, zN_32, zN_48, zN_57, zN_59, zN_97, zN_122] at *
    all_goals omega
  · intro h
    unfold F_X5_kindOf
    repeat' split
    all_goals simp only [← Int32.toInt_inj, Int32.lt_iff_toInt_lt, zN_0, zN_1, zN_2, zN_3, zN_4, zN_10, zN_32, zN_48, zN_57, zN_59, zN_97, zN_122] at *
    all_goals omega
theorem zkd_3 (v : Int32) : F_X5_kindOf v = 3 ↔ v.toInt = 59 := by
  constructor
  · intro h
    unfold F_X5_kindOf at h
    repeat' split at h
    all_goals simp only [← Int32.toInt_inj, Int32.lt_iff_toInt_lt, zN_0, zN_1, zN_2, zN_3, zN_4, zN_10, zN_32, zN_48, zN_57, zN_59, zN_97, zN_122] at *
    all_goals omega
  · intro h
    unfold F_X5_kindOf
    repeat' split
    all_goals simp only [← Int32.toInt_inj, Int32.lt_iff_toInt_lt, zN_0, zN_1, zN_2, zN_3, zN_4, zN_10, zN_32, zN_48, zN_57, zN_59, zN_97, zN_122] at *
    all_goals omega
/-! a token from a place on -/
def zBl (tx : Nat → Int32) (a b : Nat) : Prop := ∀ j : Nat, a ≤ j → j < b → F_X5_kindOf (tx j) = 0
def zRu (tx : Nat → Int32) (kd : Int32) (a b : Nat) : Prop := ∀ j : Nat, a ≤ j → j < b → F_X5_kindOf (tx j) = kd
def zTok (tx : Nat → Int32) (n a : Nat) (kd : Int32) (st sp : Nat) : Prop :=
  a ≤ st ∧ zBl tx a st ∧ st < sp ∧ sp ≤ n ∧ F_X5_kindOf (tx st) = kd ∧ ¬ kd = 0 ∧ zRu tx kd st sp ∧ (kd = 1 ∨ kd = 2 → sp < n → ¬ F_X5_kindOf (tx sp) = kd) ∧ (¬ kd = 1 → ¬ kd = 2 → sp = st + 1)
theorem zTok.uniq {tx : Nat → Int32} {n a : Nat} {kd kd' : Int32} {st st' sp sp' : Nat} (h : zTok tx n a kd st sp) (h' : zTok tx n a kd' st' sp') : kd = kd' ∧ st = st' ∧ sp = sp' := by
  obtain ⟨h1, h2, h3, h4, h5, h6, h7, h8, h9⟩ := h
  obtain ⟨g1, g2, g3, g4, g5, g6, g7, g8, g9⟩ := h'
  have e : st = st' := by
    rcases Nat.lt_trichotomy st st' with q | q | q
    · exact absurd (h5.symm.trans (g2 st h1 q)) h6
    · exact q
    · exact absurd (g5.symm.trans (h2 st' g1 q)) g6
  subst e
  have ek : kd = kd' := h5.symm.trans g5
  subst ek
  refine ⟨rfl, rfl, ?_⟩
  by_cases q1 : kd = 1
  · rcases Nat.lt_trichotomy sp sp' with q | q | q
    · exact absurd (g7 sp (by omega) q) (h8 (Or.inl q1) (by omega))
    · exact q
    · exact absurd (h7 sp' (by omega) q) (g8 (Or.inl q1) (by omega))
  · by_cases q2 : kd = 2
    · rcases Nat.lt_trichotomy sp sp' with q | q | q
      · exact absurd (g7 sp (by omega) q) (h8 (Or.inr q2) (by omega))
      · exact q
      · exact absurd (h7 sp' (by omega) q) (g8 (Or.inr q2) (by omega))
    · rw [h9 q1 q2, g9 q1 q2]
theorem zTok.notEnd {tx : Nat → Int32} {n a : Nat} {kd : Int32} {st sp : Nat} (h : zTok tx n a kd st sp) (q : zBl tx a n) : False := by
  obtain ⟨h1, h2, h3, h4, h5, h6, h7, h8, h9⟩ := h
  exact h6 (h5.symm.trans (q st h1 (by omega)))
/-- what is the same of a token when the text grows -/
theorem zTok.grow {tx : Nat → Int32} {n a : Nat} {kd : Int32} {st sp : Nat} (h : zTok tx n a kd st sp) (q : sp < n ∨ ¬ F_X5_kindOf (tx n) = kd ∨ (¬ kd = 1 ∧ ¬ kd = 2)) : zTok tx (n + 1) a kd st sp := by
  obtain ⟨h1, h2, h3, h4, h5, h6, h7, h8, h9⟩ := h
  refine ⟨h1, h2, h3, by omega, h5, h6, h7, fun k hk => ?_, h9⟩
  rcases q with q | q | q
  · exact h8 k q
  · rcases Nat.lt_or_ge sp n with z | z
    · exact h8 k z
    · rw [show sp = n by omega]; exact q
  · rcases k with k | k
    · exact absurd k q.1
    · exact absurd k q.2
/-- the value of some digits, as NameGate holds it -/
def zVc (tx : Nat → Int32) (s : Nat) : Nat → Int
  | 0 => 0
  | m + 1 => min (zVc tx s m * 10 + (tx (s + m)).toInt - 48) 100000
def zPv (E : Nat → Int32) : Nat → Nat
  | 0 => 0
  | k + 1 => (E k).toNatClampNeg
/-- the tokens of a text of n signs -/
def zTks (tx : Nat → Int32) (n t : Nat) (K S E V : Nat → Int32) : Prop :=
  (∀ k : Nat, k < t → zTok tx n (zPv E k) (K k) (S k).toNatClampNeg (E k).toNatClampNeg ∧ (K k = 2 → (V k).toInt = zVc tx (S k).toNatClampNeg ((E k).toNatClampNeg - (S k).toNatClampNeg))) ∧ zBl tx (zPv E t) n ∧ zPv E t ≤ n
theorem zPv_u {E : Nat → Int32} {t k : Nat} {v : Int32} (h : k ≤ t) : zPv (upd E t v) k = zPv E k := by
  cases k with
  | zero => rfl
  | succ k => show (upd E t v k).toNatClampNeg = (E k).toNatClampNeg; rw [pk_un (show k ≠ t by omega)]
theorem zTks.blank {tx : Nat → Int32} {n t : Nat} {K S E V : Nat → Int32} (h : zTks tx n t K S E V) (hb : F_X5_kindOf (tx n) = 0) : zTks tx (n + 1) t K S E V := by
  obtain ⟨h1, h2, h3⟩ := h
  refine ⟨fun k hk => ⟨(h1 k hk).1.grow (Or.inr (Or.inl (fun q => (h1 k hk).1.2.2.2.2.2.1 (q.symm.trans hb)))), (h1 k hk).2⟩, fun j a b => ?_, by omega⟩
  rcases Nat.lt_or_ge j n with q | q
  · exact h2 j a q
  · rw [show j = n by omega]; exact hb
/-- tokens end before the next begin -/
theorem zTks.inner {tx : Nat → Int32} {n t : Nat} {K S E V : Nat → Int32} (h : zTks tx n t K S E V) {k : Nat} (hk : k + 1 < t) : (E k).toNatClampNeg < n := by
  have a := (h.1 (k + 1) hk).1
  have b : (E k).toNatClampNeg ≤ (S (k + 1)).toNatClampNeg := a.1
  have c := a.2.2.1
  have d := a.2.2.2.1
  omega
/-- the last token, if the last sign is none of the blank ones -/
theorem zTks.last {tx : Nat → Int32} {n t : Nat} {K S E V : Nat → Int32} (h : zTks tx (n + 1) t K S E V) (hb : ¬ F_X5_kindOf (tx n) = 0) : 0 < t ∧ (E (t - 1)).toNatClampNeg = n + 1 ∧ K (t - 1) = F_X5_kindOf (tx n) := by
  obtain ⟨h1, h2, h3⟩ := h
  have hz : zPv E t = n + 1 := by
    rcases Nat.lt_or_ge (zPv E t) (n + 1) with q | q
    · exact absurd (h2 n (by omega) (by omega)) hb
    · omega
  cases t with
  | zero => exact absurd hz (by show ¬ (0 : Nat) = n + 1; omega)
  | succ t =>
    have a := (h1 t (by omega)).1
    have e : (E t).toNatClampNeg = n + 1 := hz
    refine ⟨by omega, e, ?_⟩
    have b := a.2.2.2.2.2.2.1 n (by have := a.2.2.1; omega) (by omega)
    exact b.symm
/-- a token goes on -/
theorem zTks.on {tx : Nat → Int32} {n t : Nat} {K S E V V' : Nat → Int32} {kd x : Int32} (h : zTks tx n (t + 1) K S E V) (he : (E t).toNatClampNeg = n) (hk : K t = kd) (hn : F_X5_kindOf (tx n) = kd) (h12 : kd = 1 ∨ kd = 2) (hx : x.toNatClampNeg = n + 1) (hV : ∀ k, k < t → V' k = V k) (hv : kd = 2 → (V' t).toInt = min ((V t).toInt * 10 + (tx n).toInt - 48) 100000) : zTks tx (n + 1) (t + 1) K S (upd E t x) V' := by
  obtain ⟨h1, h2, h3⟩ := h
  have ht := (h1 t (by omega)).1
  refine ⟨fun k hk' => ?_, fun j a b => ?_, ?_⟩
  · rw [zPv_u (by omega)]
    rcases Nat.lt_or_ge k t with q | q
    · rw [pk_un (show k ≠ t by omega), hV k q]
      exact ⟨(h1 k (by omega)).1.grow (Or.inl (by have := zTks.inner (t := t + 1) ⟨h1, h2, h3⟩ (k := k) (by omega); exact this)), (h1 k (by omega)).2⟩
    · obtain rfl : k = t := by omega
      rw [pk_us, hx]
      obtain ⟨g1, g2, g3, g4, g5, g6, g7, g8, g9⟩ := ht
      refine ⟨⟨g1, g2, by omega, by omega, g5, g6, fun j a b => ?_, fun _ q => absurd q (by omega), fun a b => ?_⟩, fun k2 => ?_⟩
      · rcases Nat.lt_or_ge j n with q | q
        · exact g7 j a (by omega)
        · rw [show j = n by omega, hn, hk]
      · rw [hk] at a b
        rcases h12 with q | q
        · exact absurd q a
        · exact absurd q b
      · rw [hv (hk.symm.trans k2), (h1 k (by omega)).2 k2, he, show n + 1 - (S k).toNatClampNeg = (n - (S k).toNatClampNeg) + 1 by omega]
        show _ = min (zVc tx (S k).toNatClampNeg (n - (S k).toNatClampNeg) * 10 + (tx ((S k).toNatClampNeg + (n - (S k).toNatClampNeg))).toInt - 48) 100000
        rw [show (S k).toNatClampNeg + (n - (S k).toNatClampNeg) = n by omega]
  · have : zPv (upd E t x) (t + 1) = n + 1 := by show (upd E t x t).toNatClampNeg = n + 1; rw [pk_us, hx]
    omega
  · show (upd E t x t).toNatClampNeg ≤ n + 1
    rw [pk_us, hx]; omega
/-- a token begins -/
theorem zTks.new {tx : Nat → Int32} {n t : Nat} {K S E V V' : Nat → Int32} {kd s x : Int32} (h : zTks tx n t K S E V) (hn : F_X5_kindOf (tx n) = kd) (h0 : ¬ kd = 0) (hl : ∀ k, t = k + 1 → (E k).toNatClampNeg = n → ¬ K k = kd ∨ (¬ kd = 1 ∧ ¬ kd = 2)) (hs : s.toNatClampNeg = n) (hx : x.toNatClampNeg = n + 1) (hV : ∀ k, k < t → V' k = V k) (hv : kd = 2 → (V' t).toInt = min (0 * 10 + (tx n).toInt - 48) 100000) : zTks tx (n + 1) (t + 1) (upd K t kd) (upd S t s) (upd E t x) V' := by
  obtain ⟨h1, h2, h3⟩ := h
  refine ⟨fun k hk => ?_, fun j a b => ?_, ?_⟩
  · rw [zPv_u (by omega)]
    rcases Nat.lt_or_ge k t with q | q
    · rw [pk_un (show k ≠ t by omega), pk_un (show k ≠ t by omega), pk_un (show k ≠ t by omega), hV k q]
      refine ⟨(h1 k q).1.grow ?_, (h1 k q).2⟩
      rcases Nat.lt_or_ge (k + 1) t with z | z
      · exact Or.inl (zTks.inner ⟨h1, h2, h3⟩ z)
      · rcases Nat.lt_or_ge (E k).toNatClampNeg n with w | w
        · exact Or.inl w
        · have e : (E k).toNatClampNeg = n := by have := (h1 k q).1.2.2.2.1; omega
          rcases hl k (by omega) e with p | p
          · exact Or.inr (Or.inl (fun z => p (z.symm.trans hn)))
          · by_cases z : K k = kd
            · exact Or.inr (Or.inr (by rw [z]; exact p))
            · exact Or.inr (Or.inl (fun y => z (y.symm.trans hn)))
    · obtain rfl : k = t := by omega
      rw [pk_us, pk_us, pk_us, hs, hx]
      refine ⟨⟨h3, h2, by omega, by omega, hn, h0, fun j a b => ?_, fun _ z => absurd z (by omega), fun _ _ => rfl⟩, fun k2 => ?_⟩
      · rw [show j = n by omega]; exact hn
      · rw [hv k2, show n + 1 - n = 0 + 1 by omega]
        rfl
  · have : zPv (upd E t x) (t + 1) = n + 1 := by show (upd E t x t).toNatClampNeg = n + 1; rw [pk_us, hx]
    omega
  · show (upd E t x t).toNatClampNeg ≤ n + 1
    rw [pk_us, hx]; omega
/-! a text is split -/
def zR (h : Int) (A : Nat → Int32) : Prop := ∀ k : Nat, 0 ≤ (A k).toInt ∧ (A k).toInt ≤ h
theorem zR.upd {h : Int} {A : Nat → Int32} {t : Nat} {x : Int32} (hA : zR h A) (hx : 0 ≤ x.toInt ∧ x.toInt ≤ h) : zR h (upd A t x) := zi_upd hA rfl hx
theorem zn_of {x : Int32} (h : 0 ≤ x.toInt) : x = nI x.toNatClampNeg := by
  obtain ⟨j, hj, e, ej⟩ := zi_nat rfl h
  rw [e, nI_clamp hj]
theorem zn_inc (i : Nat) : nI i + Int32.ofInt 1 = nI (i + 1) := by rw [show Int32.ofInt 1 = 1 from by decide]; exact nI_1 i
theorem zn_b {m : Nat} (h : m ≤ 1600) : 0 ≤ (nI m).toInt ∧ (nI m).toInt ≤ 1600 := by rw [nI_toInt (by omega)]; omega
theorem zVst {v c : Int32} (hv : 0 ≤ v.toInt ∧ v.toInt ≤ 100000) (hc : 48 ≤ c.toInt ∧ c.toInt ≤ 57) : (if (100000 : Int32) < v * 10 + c - 48 then (100000 : Int32) else v * 10 + c - 48).toInt = min (v.toInt * 10 + c.toInt - 48) 100000 := by
  have h1 : (v * 10).toInt = v.toInt * 10 := zi_mul rfl zN_10 (by omega)
  have h2 : (v * 10 + c).toInt = v.toInt * 10 + c.toInt := zi_add h1 rfl (by omega)
  have h3 : (v * 10 + c - 48).toInt = v.toInt * 10 + c.toInt - 48 := zi_sub h2 zN_48 (by omega)
  rw [zi_min h3 zN_100000]
theorem zSplit {n : Nat} (hn : n ≤ 1600) {tx : Nat → Int32} {kc : (Nat → Int32) → Int32 → (Nat → Int32) → (Nat → Int32) → (Nat → Int32) → Int32 × (Nat → Int32) × (Nat → Int32) × (Nat → Int32) × (Nat → Int32)} : ∀ (f i t : Nat) (b : Int32) (K S E V : Nat → Int32), n - i < f → i ≤ n → t ≤ i → (i = 0 → b = 0) → (∀ j : Nat, i = j + 1 → b = F_X5_kindOf (tx j)) → zTks tx i t K S E V → zR 1600 S → zR 1600 E → zR 100000 V → ∃ (t' : Nat) (K' S' E' V' : Nat → Int32), t' ≤ n ∧ zTks tx n t' K' S' E' V' ∧ zR 1600 S' ∧ zR 1600 E' ∧ L_X5_split_1 (nI n) tx kc f b (nI i) (nI t) K S E V = kc K' (nI t') S' E' V' := by
  intro f
  induction f with
  | zero => intro i t b K S E V h1; omega
  | succ f ih =>
    intro i t b K S E V hf hi ht hb0 hb hT hS hE hV
    rw [L_X5_split_1_s]
    unfold B_X5_split_1
    rcases Nat.lt_or_ge i n with q | q
    · rw [if_neg (nI_ge q (by omega))]
      simp only [zL, nI_clamp (show i < 2 ^ 31 by omega), zn_inc, nI_1]
      have hnext : ∀ m : Nat, i + 1 = m + 1 → F_X5_kindOf (tx i) = F_X5_kindOf (tx m) := fun m hm => by rw [show m = i by omega]
      have hno : i + 1 = 0 → F_X5_kindOf (tx i) = 0 := fun z => absurd z (by omega)
      have hEu : ∀ t0 : Nat, zR 1600 (upd E t0 (nI (i + 1))) := fun t0 => hE.upd (zn_b (by omega))
      have hSu : zR 1600 (upd S t (nI i)) := hS.upd (zn_b (by omega))
      -- a token goes on
      have hon : ∀ V', F_X5_kindOf (tx i) = b → (F_X5_kindOf (tx i) = 1 ∨ F_X5_kindOf (tx i) = 2) → ∃ t0 : Nat, t = t0 + 1 ∧ ((∀ k : Nat, k < t0 → V' k = V k) → (F_X5_kindOf (tx i) = 2 → (V' t0).toInt = min ((V t0).toInt * 10 + (tx i).toInt - 48) 100000) → zTks tx (i + 1) t K S (upd E t0 (nI (i + 1))) V') := by
        intro V' e1 e2
        have hne : ¬ F_X5_kindOf (tx i) = 0 := by
          rcases e2 with e2 | e2
          · rw [e2]; decide
          · rw [e2]; decide
        cases i with
        | zero => exact absurd (e1.trans (hb0 rfl)) hne
        | succ j =>
          have eb := hb j rfl
          obtain ⟨l1, l2, l3⟩ := zTks.last hT (by rw [← eb, ← e1]; exact hne)
          cases t with
          | zero => exact absurd l1 (by omega)
          | succ t =>
            refine ⟨t, rfl, fun w1 w2 => ?_⟩
            exact zTks.on hT l2 (kd := F_X5_kindOf (tx (j + 1))) (by rw [e1, eb]; exact l3) rfl e2 (nI_clamp (by omega)) w1 w2
      -- a token begins
      have hnew : ∀ V', (¬ F_X5_kindOf (tx i) = b ∨ (¬ F_X5_kindOf (tx i) = 1 ∧ ¬ F_X5_kindOf (tx i) = 2)) → ¬ F_X5_kindOf (tx i) = 0 → (∀ k : Nat, k < t → V' k = V k) → (F_X5_kindOf (tx i) = 2 → (V' t).toInt = min (0 * 10 + (tx i).toInt - 48) 100000) → zTks tx (i + 1) (t + 1) (upd K t (F_X5_kindOf (tx i))) (upd S t (nI i)) (upd E t (nI (i + 1))) V' := by
        intro V' e1 e2 w1 w2
        refine zTks.new hT rfl e2 (fun k hk he => ?_) (nI_clamp (by omega)) (nI_clamp (by omega)) w1 w2
        rcases e1 with e1 | e1
        · refine Or.inl (fun z => e1 ?_)
          have hk' := (hT.1 k (by omega)).1
          cases i with
          | zero => exact absurd hk'.2.2.1 (by omega)
          | succ j =>
            rw [hb j rfl, ← z]
            have h7 := hk'.2.2.2.2.2.2.1 j (by have := hk'.2.2.1; omega) (by omega)
            exact h7.symm
        · exact Or.inr e1
      -- numbers
      have hd2 : F_X5_kindOf (tx i) = 2 → 48 ≤ (tx i).toInt ∧ (tx i).toInt ≤ 57 := (zkd_2 (tx i)).mp
      have hV0 : zR 100000 (upd V t 0) := hV.upd (by rw [zN_0]; omega)
      unfold F_X5_addToken
      simp only [zL, nI_1, nI_pred]
      by_cases e1 : F_X5_kindOf (tx i) = b
      · rw [if_pos e1]
        by_cases e2 : F_X5_kindOf (tx i) = 1
        · rw [if_pos e2]
          obtain ⟨t0, rfl, z⟩ := hon V e1 (Or.inl e2)
          rw [nI_pred, nI_clamp (show t0 < 2 ^ 31 by omega)]
          exact ih (i + 1) (t0 + 1) _ K S _ V (by omega) (by omega) (by omega) hno hnext (z (fun _ _ => rfl) (fun w => absurd (e2.symm.trans w) (by decide))) hS (hEu t0) hV
        · rw [if_neg e2]
          by_cases e3 : F_X5_kindOf (tx i) = 2
          · rw [if_pos e3]
            obtain ⟨t0, rfl, -⟩ := hon V e1 (Or.inr e3)
            rw [nI_pred, nI_clamp (show t0 < 2 ^ 31 by omega)]
            have hst := zVst (hV t0) (hd2 e3)
            obtain ⟨t1, e4, z⟩ := hon (upd V t0 (if (100000 : Int32) < V t0 * 10 + tx i - 48 then (100000 : Int32) else V t0 * 10 + tx i - 48)) e1 (Or.inr e3)
            obtain rfl : t0 = t1 := by omega
            exact ih (i + 1) (t0 + 1) _ K S _ _ (by omega) (by omega) (by omega) hno hnext (z (fun k hk => pk_un (show k ≠ t0 by omega)) (fun _ => by rw [pk_us]; exact hst)) hS (hEu t0) (hV.upd (by rw [hst]; have := hV t0; have := hd2 e3; omega))
          · rw [if_neg e3]
            by_cases e4 : F_X5_kindOf (tx i) = 0
            · rw [if_pos e4]
              exact ih (i + 1) t _ K S E V (by omega) (by omega) (by omega) hno hnext (hT.blank e4) hS hE hV
            · rw [if_neg e4, if_neg e3, nI_clamp (show t < 2 ^ 31 by omega)]
              exact ih (i + 1) (t + 1) _ _ _ _ _ (by omega) (by omega) (by omega) hno hnext (hnew _ (Or.inr ⟨e2, e3⟩) e4 (fun k hk => pk_un (show k ≠ t by omega)) (fun w => absurd w e3)) hSu (hEu t) hV0
      · rw [if_neg e1]
        by_cases e4 : F_X5_kindOf (tx i) = 0
        · rw [if_pos e4]
          exact ih (i + 1) t _ K S E V (by omega) (by omega) (by omega) hno hnext (hT.blank e4) hS hE hV
        · rw [if_neg e4, nI_clamp (show t < 2 ^ 31 by omega)]
          by_cases e3 : F_X5_kindOf (tx i) = 2
          · rw [if_pos e3, pk_us]
            have hst := zVst (v := 0) (by rw [zN_0]; omega) (hd2 e3)
            rw [zN_0] at hst
            exact ih (i + 1) (t + 1) _ _ _ _ _ (by omega) (by omega) (by omega) hno hnext (hnew _ (Or.inl e1) e4 (fun k hk => by rw [pk_un (show k ≠ t by omega), pk_un (show k ≠ t by omega)]) (fun _ => by rw [pk_us]; exact hst)) hSu (hEu t) (hV0.upd (by rw [hst]; have := hd2 e3; omega))
          · rw [if_neg e3]
            exact ih (i + 1) (t + 1) _ _ _ _ _ (by omega) (by omega) (by omega) hno hnext (hnew _ (Or.inl e1) e4 (fun k hk => pk_un (show k ≠ t by omega)) (fun w => absurd w e3)) hSu (hEu t) hV0
    · obtain rfl : i = n := by omega
      rw [if_pos (nI_le (Nat.le_refl i) (by omega))]
      exact ⟨t, K, S, E, V, ht, hT, hS, hE, rfl⟩
/-- what the reader has split -/
theorem zSplit_all {n : Nat} (hn : n ≤ 1600) {tx K S E V : Nat → Int32} (hS : zR 1600 S) (hE : zR 1600 E) (hV : zR 100000 V) : ∃ (t : Nat) (K' S' E' V' : Nat → Int32), t ≤ n ∧ zTks tx n t K' S' E' V' ∧ zR 1600 S' ∧ zR 1600 E' ∧ K' t = 5 ∧ S' t = nI n ∧ F_X5_split (nI n) K S E V tx = (nI t, K', S', E', V') := by
  obtain ⟨t, K', S', E', V', h1, h2, h3, h4, h5⟩ := zSplit (tx := tx) (kc := K_X5_split_1_0 (nI n)) hn 1602 0 0 0 K S E V (by omega) (by omega) (by omega) (fun _ => rfl) (fun j hj => absurd hj (by omega)) ⟨fun k hk => absurd hk (by omega), fun j a b => absurd b (by omega), Nat.le_refl _⟩ hS hE hV
  refine ⟨t, upd K' t 5, upd S' t (nI n), E', V', h1, ⟨fun k hk => ?_, h2.2.1, h2.2.2⟩, h3.upd (zn_b hn), h4, pk_us, pk_us, ?_⟩
  · rw [pk_un (show k ≠ t by omega), pk_un (show k ≠ t by omega)]
    exact h2.1 k hk
  · show L_X5_split_1 (nI n) tx (K_X5_split_1_0 (nI n)) 1602 0 0 0 K S E V = _
    rw [show (0 : Int32) = nI 0 from nI_0.symm] at h5 ⊢
    rw [h5]
    unfold K_X5_split_1_0
    simp only [zL, nI_clamp (show t < 2 ^ 31 by omega)]
