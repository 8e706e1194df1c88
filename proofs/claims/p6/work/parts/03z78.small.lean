set_option linter.all false
/-! names, strayed, keys, empty, hollow, keeper, hear, forget: class and reference alike -/
theorem zq_p2 : ∀ k, k < 11 → (1 : Int32) <<< (nI k &&& 31) = nI (2 ^ k) := by decide +kernel
theorem zq_all {p pe : Int32} {rpe : Nat → Int32} (hpe : pe = rpe 0) (hpb : 0 ≤ pe.toInt ∧ pe.toInt ≤ 10) : F_X10_isPeople p rpe = F_X7_hasAll p pe := by
  obtain ⟨k, hk, ek, ik⟩ := zc_nat (m := 10) hpb.1 hpb.2 (by decide)
  have hp : 2 ^ k ≤ 2 ^ 10 := Nat.pow_le_pow_right (by decide) (by omega)
  have h0 : 0 < 2 ^ k := Nat.two_pow_pos k
  unfold F_X10_isPeople F_X7_hasAll
  simp only [↓zL_p]
  try simp only [show Int32.toNatClampNeg 0 = 0 from by decide, ← hpe]
  rw [ek, zq_p2 k (by omega)]
  generalize 2 ^ k = m at hp h0 ⊢
  have t1 : (nI m).toInt = (m : Int) := nI_toInt (by omega)
  have h1 : (nI m - 1).toInt = (m : Int) - 1 := zi_sub t1 zN_1 (by omega)
  rw [show (0 : Int64) = (0 : Int32).toInt64 from by decide, zJin, zN_0, h1]
  by_cases e1 : p < 0
  · have e := Int32.lt_iff_toInt_lt.mp e1
    rw [zN_0] at e
    rw [if_pos e1, if_neg (by omega)]
  · have e := mt Int32.lt_iff_toInt_lt.mpr e1
    rw [zN_0] at e
    rw [if_neg e1]
    by_cases e2 : nI m ≤ p
    · have e' := Int32.le_iff_toInt_le.mp e2
      rw [t1] at e'
      rw [if_pos e2, if_neg (by omega)]
    · have e' := mt Int32.le_iff_toInt_le.mpr e2
      rw [t1] at e'
      rw [if_neg e2, if_pos (by omega)]
/-- bits alone below k: a number below 2 ^ k -/
theorem zb_lt {x : Int32} {k : Nat} (h : ∀ i : Nat, k ≤ i → i < 32 → bt x i = false) : ∃ n : Nat, n < 2 ^ k ∧ x = nI n := by
  refine ⟨x.toBitVec.toNat, Nat.lt_pow_two_of_testBit _ (fun i hi => ?_), ?_⟩
  · rcases Nat.lt_or_ge i 32 with q | q
    · exact h i hi q
    · exact Nat.testBit_lt_two_pow (Nat.lt_of_lt_of_le x.toBitVec.isLt (Nat.pow_le_pow_right (by decide) q))
  · apply Int32.toBitVec_inj.mp
    show x.toBitVec = BitVec.ofNat 32 x.toBitVec.toNat
    apply BitVec.eq_of_toNat_eq
    rw [BitVec.toNat_ofNat, Nat.mod_eq_of_lt x.toBitVec.isLt]
theorem zq_bitn {st : Int32} {i k : Nat} (z : bt st k = false) : (decide (i < k) && bt st i) = (decide (i < k + 1) && bt st i) := by
  by_cases w : i < k
  · rw [decide_eq_true w, decide_eq_true (show i < k + 1 by omega)]
  · by_cases e : i = k
    · subst e; rw [z, Bool.and_false, Bool.and_false]
    · rw [decide_eq_false w, decide_eq_false (show ¬ i < k + 1 by omega)]
theorem zq_bity {st : Int32} {i k : Nat} (z : bt st k = true) : ((decide (i < k) && bt st i) || decide (i = k)) = (decide (i < k + 1) && bt st i) := by
  by_cases w : i < k
  · rw [decide_eq_true w, decide_eq_true (show i < k + 1 by omega), decide_eq_false (show ¬ i = k by omega), Bool.or_false]
  · by_cases e : i = k
    · subst e; rw [z, decide_eq_true (show i = i from rfl), Bool.or_true, decide_eq_true (show i < i + 1 by omega)]; rfl
    · rw [decide_eq_false w, decide_eq_false (show ¬ i < k + 1 by omega), decide_eq_false e]; rfl
theorem zq_may_go {pe st co : Int32} {rpe sp sx rst : Nat → Int32} (hS : zCs 0 co pe st sp sx rst) (hpe : pe = rpe 0) (hpb : 0 ≤ pe.toInt ∧ pe.toInt ≤ 10) : ∀ (f k : Nat) (v : Int32), 10 - k < f → k ≤ 10 → (∀ i : Nat, i < 32 → bt v i = (decide (i < k) && bt st i)) → L_X10_may_1 rpe rst K_X10_may_1_0 f v (nI k) = st := by
  intro f
  induction f with
  | zero => intro k v h; omega
  | succ f ih =>
    intro k v hf hk hv
    rw [L_X10_may_1_s]
    unfold B_X10_may_1
    simp only [↓zL_p]
    try simp only [show Int32.toNatClampNeg 0 = 0 from by decide, ← hpe, zn_inc]
    by_cases q : pe ≤ nI k
    · have hq := Int32.le_iff_toInt_le.mp q
      rw [nI_toInt (show k < 2 ^ 31 by omega)] at hq
      rw [if_pos q]
      show v = st
      apply b_ext
      intro i hi
      rw [hv i hi]
      by_cases w : i < k
      · rw [decide_eq_true w, Bool.true_and]
      · rw [decide_eq_false w, Bool.false_and, (hS.2 i hi (by omega)).2.2]
    · have hq : (k : Int) < pe.toInt := by
        have := mt Int32.le_iff_toInt_le.mpr q
        rw [nI_toInt (show k < 2 ^ 31 by omega)] at this
        omega
      have z := (hS.1 k hq).2.2.1
      rw [show 20 * 0 + 2 * k = 2 * k by omega] at z
      rw [if_neg q, show (2 : Int32) * nI k = nI (2 * k) from by rw [show (2 : Int32) = nI 2 from by decide, pk_mul], nI_clamp (show 2 * k < 2 ^ 31 by omega)]
      by_cases w : rst (2 * k) ≤ 0
      · have w' := Int32.le_iff_toInt_le.mp w
        rw [zN_0] at w'
        rw [decide_eq_false (by omega)] at z
        rw [if_pos w]
        refine ih (k + 1) _ (by omega) (by omega) (fun i hi => ?_)
        rw [b_or, b_0, Bool.or_false, hv i hi]
        exact zq_bitn z
      · have w' := mt Int32.le_iff_toInt_le.mpr w
        rw [zN_0] at w'
        rw [decide_eq_true (by omega)] at z
        rw [if_neg w]
        refine ih (k + 1) _ (by omega) (by omega) (fun i hi => ?_)
        rw [zb_or1 _ (show k < 32 by omega) hi, hv i hi]
        exact zq_bity z
theorem zq_may {pe st co : Int32} {rpe sp sx rst : Nat → Int32} (hS : zCs 0 co pe st sp sx rst) (hpe : pe = rpe 0) (hpb : 0 ≤ pe.toInt ∧ pe.toInt ≤ 10) : F_X10_may rpe rst = st := by
  have z := zq_may_go hS hpe hpb 12 0 0 (by omega) (by omega) (fun i hi => by rw [b_0, decide_eq_false (Nat.not_lt_zero i), Bool.false_and])
  rw [nI_0] at z
  exact z
theorem zr_names {p nm pe r9 m9 r10 : Int32} {rpe rt rt' : Nat → Int32} (hpe : pe = rpe 0) (hpb : 0 ≤ pe.toInt ∧ pe.toInt ≤ 10) (hnm : nm = rt 1) (h1 : r9 = (F_X9_names p nm pe).1) (h2 : m9 = (F_X9_names p nm pe).2) (k1 : r10 = (F_X10_names p rpe rt).1) (k2 : rt' = (F_X10_names p rpe rt).2.2) : r9.toInt = r10.toInt ∧ m9 = rt' 1 ∧ ∀ j : Nat, ¬ j = 1 → rt' j = rt j := by
  unfold F_X9_names at h1 h2
  unfold F_X10_names at k1 k2
  simp only [↓zL_p] at h1 h2 k1 k2
  try simp only [zq_all hpe hpb, show Int32.toNatClampNeg 1 = 1 from by decide] at k1 k2
  by_cases w : F_X7_hasAll p pe = 0
  · rw [if_pos w] at h1 h2 k1 k2
    subst h1 h2 k1 k2
    exact ⟨rfl, hnm, fun j _ => rfl⟩
  · rw [if_neg w] at h1 h2 k1 k2
    subst h1 h2 k1 k2
    dsimp only
    exact ⟨congrArg Int32.toInt hnm, pk_us.symm, fun j hj => pk_un hj⟩
theorem zq_sub {p sr : Int32} (h : p &&& (sr ^^^ (-1)) = 0) {i : Nat} (hi : i < 32) (hs : bt sr i = false) : bt p i = false := by
  have e : bt (p &&& (sr ^^^ (-1))) i = false := by rw [h, b_0]
  rw [b_and, b_xor, b_m1 i hi, hs] at e
  cases hb : bt p i
  · rfl
  · rw [hb] at e; exact absurd e (by decide)
theorem zq_hasAll {p pe : Int32} {k : Nat} (hk : k ≤ 10) (ek : pe = nI k) (h : ∀ i : Nat, k ≤ i → i < 32 → bt p i = false) : F_X7_hasAll p pe = 1 := by
  obtain ⟨n, hn, e⟩ := zb_lt h
  have hp : 2 ^ k ≤ 2 ^ 10 := Nat.pow_le_pow_right (by decide) hk
  unfold F_X7_hasAll
  simp only [↓zL_p]
  rw [ek, zq_p2 k (by omega), e]
  generalize 2 ^ k = m at hp hn ⊢
  have t1 : (nI m).toInt = (m : Int) := nI_toInt (by omega)
  have t2 : (nI n).toInt = (n : Int) := nI_toInt (by omega)
  have e1 : ¬ nI n < 0 := fun q => by
    have := Int32.lt_iff_toInt_lt.mp q
    rw [zN_0, t2] at this; omega
  have e2 : ¬ nI m ≤ nI n := fun q => by
    have := Int32.le_iff_toInt_le.mp q
    rw [t1, t2] at this; omega
  rw [if_neg e1, if_neg e2]
theorem zr_strayed {p st sr pe co r9 m9 r10 : Int32} {rpe sp sx rst rt rt' : Nat → Int32} (hS : zCs 0 co pe sr sp sx rst) (hpe : pe = rpe 0) (hpb : 0 ≤ pe.toInt ∧ pe.toInt ≤ 10) (hst : st = rt 0) (h1 : r9 = (F_X9_strayed p st sr).1) (h2 : m9 = (F_X9_strayed p st sr).2) (k1 : r10 = (F_X10_strayed p rpe rst rt).1) (k2 : rt' = (F_X10_strayed p rpe rst rt).2.2) : r9.toInt = r10.toInt ∧ m9 = rt' 0 ∧ ∀ j : Nat, ¬ j = 0 → rt' j = rt j := by
  unfold F_X9_strayed at h1 h2
  unfold F_X10_strayed at k1 k2
  simp only [↓zL_p] at h1 h2 k1 k2
  try simp only [zq_may hS hpe hpb, zq_all hpe hpb, show Int32.toNatClampNeg 0 = 0 from by decide] at k1 k2
  by_cases q : p &&& (sr ^^^ (-1)) = 0
  · obtain ⟨k, hk, ek, ik⟩ := zc_nat (m := 10) hpb.1 hpb.2 (by decide)
    have ha : F_X7_hasAll p pe = 1 := zq_hasAll hk ek (fun i h1 h2 => zq_sub q h2 (hS.2 i h2 (by omega)).2.2)
    rw [if_pos q] at h1 h2
    rw [ha, if_neg z10, if_pos q] at k1 k2
    subst h1 h2 k1 k2
    dsimp only
    exact ⟨congrArg Int32.toInt hst, pk_us.symm, fun j hj => pk_un hj⟩
  · rw [if_neg q] at h1 h2
    have : r10 = -2 ∧ rt' = rt := by
      by_cases w : F_X7_hasAll p pe = 0
      · rw [if_pos w] at k1 k2; exact ⟨k1, k2⟩
      · rw [if_neg w, if_neg q] at k1 k2; exact ⟨k1, k2⟩
    obtain ⟨a, b⟩ := this
    subst h1 h2 a b
    exact ⟨rfl, hst, fun j _ => rfl⟩
/-! the relation behind names, strayed -/
theorem zyRel.names {iv iv' : Nat → Int32} {fi fi' : Nat → Nat → Int32} (h : zyRel iv fi) (e : iv' 50 = fi' 18 1 ∧ ∀ j : Nat, ¬ j = 1 → fi' 18 j = fi 18 j) (n49 : iv' 49 = iv 49) (n51 : iv' 51 = iv 51) (n52 : iv' 52 = iv 52) (s0 : zyG 0 iv iv') (s1 : zyG 1 iv iv') (s2 : zyG 2 iv iv') (e13 : fi' 13 = fi 13) (e19 : fi' 19 = fi 19) : zyRel iv' fi' := by
  refine h.now ?_ s0 s1 s2 (fun i i0 i4 => (show zyR i (fi 13) (fi 18) (fi 19) (fi' 13) (fi' 18) (fi' 19) from ⟨by rw [e13], e.2 _ (by omega), e.2 _ (by omega), fun p _ => by rw [e19]⟩))
  obtain ⟨h1, h2, h3, h4⟩ := h.1
  unfold zyN
  rw [n49, n51, n52, e13, e19]
  exact ⟨h1.trans (e.2 0 (by decide)).symm, e.1, h3, h4⟩
theorem zyRel.strayed {iv iv' : Nat → Int32} {fi fi' : Nat → Nat → Int32} (h : zyRel iv fi) (e : iv' 49 = fi' 18 0 ∧ ∀ j : Nat, ¬ j = 0 → fi' 18 j = fi 18 j) (n50 : iv' 50 = iv 50) (n51 : iv' 51 = iv 51) (n52 : iv' 52 = iv 52) (s0 : zyG 0 iv iv') (s1 : zyG 1 iv iv') (s2 : zyG 2 iv iv') (e13 : fi' 13 = fi 13) (e19 : fi' 19 = fi 19) : zyRel iv' fi' := by
  refine h.now ?_ s0 s1 s2 (fun i i0 i4 => (show zyR i (fi 13) (fi 18) (fi 19) (fi' 13) (fi' 18) (fi' 19) from ⟨by rw [e13], e.2 _ (by omega), e.2 _ (by omega), fun p _ => by rw [e19]⟩))
  obtain ⟨h1, h2, h3, h4⟩ := h.1
  unfold zyN
  rw [n50, n51, n52, e13, e19]
  exact ⟨e.1, h2.trans (e.2 1 (by decide)).symm, h3, h4⟩
/-! hear, forget -/
theorem zq_isW {ho co pe de s0 hc : Int32} {ab sh td sp sx rin ra0 rst rs : Nat → Int32} (h : zCc 0 co ab rin) (hco : co.toInt ≤ 10) (hsh : zShows co de ab sh) (hde : de = rs 0) (hd01 : de = 0 ∨ de = 1) (hP : zCp 0 ho co pe td ra0) (hS : zCs 0 co pe s0 sp sx rst) {p k d : Nat} (hd : d < 32) (hp : (p : Int) < pe.toInt) (hp10 : p < 10) (hk : (k : Int) < ho.toInt) (hk48 : k < 48) (st : Int32) : F_X10_isWithin (nI p) (if bt st p then 1 else 0) (nI d) (nI k) (-1) hc rin ra0 rst rs = F_X9_has (F_X7_showsOf (nI p) (nI k) st sh td sx) (nI d) := by
  unfold F_X10_isWithin F_X7_showsOf
  simp only [↓zL_p]
  obtain ⟨hpl, hcr⟩ := zq_place (st := st) (hc := hc) (sp := sp) (s0 := s0) hP hS hp hp10 hk hk48
  rw [hpl]
  obtain ⟨c, hcc, ec, ic⟩ := zc_nat (m := 9) hcr.1 (by omega) (by decide)
  rw [ec, nI_clamp (show c < 2 ^ 31 by omega), zq_counts h hco hsh hde hd01 hd (by omega)]
theorem zyP.put {a : Nat} {st nm kn go kn' go' : Int32} {rpe rt rk rk' : Nat → Int32} (h : zyP 0 st nm kn go rpe rt rk) (ha : a < 10) (hap : (a : Int) < (rpe 0).toInt) (b1 : ∀ i : Nat, i < 32 → ¬ i = a → bt kn' i = bt kn i) (b2 : ∀ i : Nat, i < 32 → ¬ i = a → bt go' i = bt go i) (b3 : ∀ j : Nat, ¬ j = a → rk' j = rk j) (z : zyK (bt kn' a) (bt go' a) (rk' a)) : zyP 0 st nm kn' go' rpe rt rk' := by
  obtain ⟨h1, h2, h3, h4⟩ := h
  refine ⟨h1, h2, fun p hp => ?_, fun p hp hq => ?_⟩
  · rw [show 10 * 0 + p = p by omega]
    by_cases e : p = a
    · subst e; exact z
    · rw [b1 p (by omega) e, b2 p (by omega) e, b3 p e]
      have := h3 p hp
      rw [show 10 * 0 + p = p by omega] at this; exact this
  · have e : ¬ p = a := fun e => by subst e; omega
    rw [b1 p hp e, b2 p hp e]; exact h4 p hp hq
theorem zy_f2 {a : Nat} {st nm kn go sr : Int32} {rpe rt rk : Nat → Int32} (h : zyP 0 st nm kn go rpe rt rk) (ha : a < 10) (hA : bt sr a = false) : zyP 0 st nm (kn ||| ((1 : Int32) <<< (nI a &&& 31) &&& sr)) go rpe rt rk := by
  have e : kn ||| ((1 : Int32) <<< (nI a &&& 31) &&& sr) = kn := by
    apply b_ext
    intro i hi
    rw [b_or, b_and, zb_sh (show a < 32 by omega) hi]
    by_cases q : i = a
    · subst q; rw [hA, Bool.and_false, Bool.or_false]
    · rw [decide_eq_false q, Bool.false_and, Bool.or_false]
  rw [e]; exact h
theorem zy_b1 {a i : Nat} {kn sr : Int32} (ha : a < 10) (hi : i < 32) (q : ¬ i = a) : bt (kn ||| ((1 : Int32) <<< (nI a &&& 31) &&& sr)) i = bt kn i := by
  rw [b_or, b_and, zb_sh (show a < 32 by omega) hi, decide_eq_false q, Bool.false_and, Bool.or_false]
theorem zy_b2 {a : Nat} {kn sr : Int32} (ha : a < 10) (hA : bt sr a = true) : bt (kn ||| ((1 : Int32) <<< (nI a &&& 31) &&& sr)) a = true := by
  rw [b_or, b_and, zb_sh (show a < 32 by omega) (show a < 32 by omega), decide_eq_true (show a = a from rfl), hA]
  exact Bool.or_true _
theorem zy_f3 {a : Nat} {st nm kn go sr : Int32} {rpe rt rk : Nat → Int32} (h : zyP 0 st nm kn go rpe rt rk) (ha : a < 10) (hap : (a : Int) < (rpe 0).toInt) (hA : bt sr a = true) (hG : bt go a = false) : zyP 0 st nm (kn ||| ((1 : Int32) <<< (nI a &&& 31) &&& sr)) go rpe rt (upd rk a 1) :=
  h.put ha hap (fun i hi q => zy_b1 ha hi q) (fun _ _ _ => rfl) (fun j q => pk_un q) (Or.inr (Or.inl ⟨pk_us, zy_b2 ha hA, hG⟩))
theorem zy_f4 {a : Nat} {st nm kn go sr : Int32} {rpe rt rk : Nat → Int32} (h : zyP 0 st nm kn go rpe rt rk) (ha : a < 10) (hap : (a : Int) < (rpe 0).toInt) (hA : bt sr a = true) : zyP 0 st nm (kn ||| ((1 : Int32) <<< (nI a &&& 31) &&& sr)) (go ||| (1 : Int32) <<< (nI a &&& 31)) rpe rt (upd rk a 2) :=
  h.put ha hap (fun i hi q => zy_b1 ha hi q) (fun i hi q => by rw [zb_or1 _ (show a < 32 by omega) hi, decide_eq_false q, Bool.or_false]) (fun j q => pk_un q) (Or.inr (Or.inr ⟨pk_us, zy_b2 ha hA, by rw [zb_or1 _ (show a < 32 by omega) (show a < 32 by omega), decide_eq_true (show a = a from rfl), Bool.or_true]⟩))
theorem zy_f5 {a : Nat} {st nm kn go : Int32} {rpe rt rk : Nat → Int32} (h : zyP 0 st nm kn go rpe rt rk) (ha : a < 10) (hap : (a : Int) < (rpe 0).toInt) (hK : bt kn a = false) (hG : bt go a = false) : zyP 0 st nm kn go rpe rt (upd rk a 0) :=
  h.put ha hap (fun _ _ _ => rfl) (fun _ _ _ => rfl) (fun j q => pk_un q) (Or.inl ⟨pk_us, hK, hG⟩)
theorem zn02 : ¬ (0 : Int32) = 2 := by decide
theorem zn01 : ¬ (0 : Int32) = 1 := by decide
theorem zn12 : ¬ (1 : Int32) = 2 := by decide
theorem zn21 : ¬ (2 : Int32) = 1 := by decide
/-- what the towns' relation says of the town of now -/
theorem zRt.go {iv : Nat → Int32} {fi : Nat → Nat → Int32} (z : zRtA 0 0 iv fi) : zCc 0 (iv 77) (fi 78) (fi 10) ∧ zShows (iv 77) (iv 83) (fi 78) (fi 82) ∧ iv 83 = fi 16 0 ∧ (iv 83 = 0 ∨ iv 83 = 1) ∧ zCp 0 (iv 76) (iv 77) (iv 79) (fi 85) (fi 14) ∧ zCs 0 (iv 77) (iv 79) (iv 82) (fi 86) (fi 87) (fi 15) ∧ zCg 0 (iv 77) (iv 78) (fi 83) (fi 84) (fi 12) ∧ iv 79 = fi 13 0 ∧ iv 76 = fi 8 0 ∧ iv 77 = fi 9 0 ∧ iv 78 = fi 11 0 ∧ iv 80 = fi 7 0 ∧ iv 81 = fi 16 1 := by
  obtain ⟨⟨a1, a2, a3, a4, a5, ⟨c1, c2, c3, c4, c5, c6, c7⟩, s1, s2⟩, -⟩ := z
  exact ⟨c1, s1, c5, s2, c3, c4, c2, a4, a1, a2, a3, a5, c6⟩
theorem zr_hear {iv : Nat → Int32} {fi : Nat → Nat → Int32} {p c k is hp hc r9 r10 kn' go' : Int32} {rk' : Nat → Int32} (z : zRtA 0 0 iv fi) (y : zyN iv fi) (b1 : 0 ≤ (iv 76).toInt ∧ (iv 76).toInt ≤ 48) (b2 : 0 ≤ (iv 77).toInt ∧ (iv 77).toInt ≤ 10) (b4 : 0 ≤ (iv 79).toInt ∧ (iv 79).toInt ≤ 10) (hh : hp.toInt = -1) (hr0 : ∀ j : Nat, 0 ≤ (fi 15 j).toInt ∧ (fi 15 j).toInt ≤ 99 ∧ (j % 2 = 1 → (fi 15 j).toInt ≤ 9)) (h1 : r9 = (F_X9_hear p c k is (iv 51) (iv 52) (iv 76) (iv 77) (iv 79) (iv 82) (fi 82) (fi 85) (fi 87)).1) (h2 : kn' = (F_X9_hear p c k is (iv 51) (iv 52) (iv 76) (iv 77) (iv 79) (iv 82) (fi 82) (fi 85) (fi 87)).2.1) (h3 : go' = (F_X9_hear p c k is (iv 51) (iv 52) (iv 76) (iv 77) (iv 79) (iv 82) (fi 82) (fi 85) (fi 87)).2.2) (k1 : r10 = (F_X10_hear p c k is hp hc (fi 8) (fi 9) (fi 10) (fi 13) (fi 14) (fi 15) (fi 16) (fi 19)).1) (k2 : rk' = (F_X10_hear p c k is hp hc (fi 8) (fi 9) (fi 10) (fi 13) (fi 14) (fi 15) (fi 16) (fi 19)).2.2) : r9.toInt = r10.toInt ∧ zyP 0 (iv 49) (iv 50) kn' go' (fi 13) (fi 18) rk' ∧ ∀ j : Nat, 10 ≤ j → rk' j = fi 19 j := by
  have eh : hp = -1 := Int32.toInt_inj.mp (hh.trans (by decide))
  subst eh
  obtain ⟨g1, g2, g3, g4, g5, g6, -, g8, g9, g10, -, -, -⟩ := zRt.go z
  have y0 : zyP 0 (iv 49) (iv 50) (iv 51) (iv 52) (fi 13) (fi 18) (fi 19) := y
  have c0 : Int32.toNatClampNeg 0 = 0 := by decide
  unfold F_X9_hear at h1 h2 h3
  unfold F_X10_hear F_X10_isPerson F_X10_isCourt F_X10_isHour at k1 k2
  simp only [↓zL_p] at h1 h2 h3 k1 k2
  try simp only [c0, ← g8, ← g9, ← g10, zq_in (show 0 ≤ (iv 79).toInt ∧ (iv 79).toInt ≤ 1600 by omega), zq_in (show 0 ≤ (iv 76).toInt ∧ (iv 76).toInt ≤ 1600 by omega), zq_in (show 0 ≤ (iv 77).toInt ∧ (iv 77).toInt ≤ 1600 by omega)] at k1 k2
  rw [show F_X7_hasPerson p (iv 79) = F_X7_hasCourt p (iv 79) from rfl, show F_X7_hasHour k (iv 76) = F_X7_hasCourt k (iv 76) from rfl] at h1 h2 h3
  rcases zq_has p (iv 79) with e | ⟨e, e0, e1⟩
  · simp only [e, if_true] at h1 h2 h3 k1 k2
    subst h1 h2 h3 k1 k2
    exact ⟨rfl, y0, fun _ _ => rfl⟩
  rcases zq_has c (iv 77) with f | ⟨f, f0, f1⟩
  · simp only [e, f, z10, if_false, if_true] at h1 h2 h3 k1 k2
    subst h1 h2 h3 k1 k2
    exact ⟨rfl, y0, fun _ _ => rfl⟩
  rcases zq_has k (iv 76) with g | ⟨g, i0, i1⟩
  · simp only [e, f, g, z10, if_false, if_true] at h1 h2 h3 k1 k2
    subst h1 h2 h3 k1 k2
    exact ⟨rfl, y0, fun _ _ => rfl⟩
  simp only [e, f, g, z10, if_false] at h1 h2 h3 k1 k2
  obtain ⟨a, ha, ea, ia⟩ := zc_nat (x := p) (m := 9) e0 (by omega) (by decide)
  obtain ⟨d, hd, ed, id'⟩ := zc_nat (x := c) (m := 9) f0 (by omega) (by decide)
  obtain ⟨b, hb, eb, ib⟩ := zc_nat (x := k) (m := 47) i0 (by omega) (by decide)
  subst ea eb ed
  have a32 : a < 32 := by omega
  have eT := zq_isW (hc := hc) g1 b2.2 g2 g3 g4 g5 g6 (show d < 32 by omega) (show (a : Int) < (iv 79).toInt by omega) (by omega) (show (b : Int) < (iv 76).toInt by omega) (by omega) 0
  have eG := zq_isW (hc := hc) g1 b2.2 g2 g3 g4 g5 g6 (show d < 32 by omega) (show (a : Int) < (iv 79).toInt by omega) (by omega) (show (b : Int) < (iv 76).toInt by omega) (by omega) ((1 : Int32) <<< (nI a &&& 31))
  rw [b_0, if_neg (show ¬ false = true by decide)] at eT
  rw [zb_sh a32 a32, decide_eq_true (show a = a from rfl), if_pos (show true = true from rfl)] at eG
  have hA := (g6.1 a (by omega)).2.2.1
  rw [show 20 * 0 + 2 * a = 2 * a by omega] at hA
  have hK := y0.2.2.1 a (by omega)
  rw [show 10 * 0 + a = a by omega] at hK
  have hap : (a : Int) < (fi 13 0).toInt := by rw [← g8]; omega
  have hW : (fi 15 (2 * a) = 0 ∧ bt (iv 82) a = false) ∨ (¬ fi 15 (2 * a) = 0 ∧ bt (iv 82) a = true) := by
    have r0 := (hr0 (2 * a)).1
    by_cases w : fi 15 (2 * a) = 0
    · refine Or.inl ⟨w, ?_⟩
      rw [hA, w, zN_0]; rfl
    · refine Or.inr ⟨w, ?_⟩
      have : ¬ (fi 15 (2 * a)).toInt = 0 := fun q => w (Int32.toInt_inj.mp (q.trans zN_0.symm))
      rw [hA, decide_eq_true (by omega)]
  have e2 : (2 : Int32) * nI a = nI (2 * a) := by rw [show (2 : Int32) = nI 2 from by decide, pk_mul]
  simp only [e2, nI_clamp (show a < 2 ^ 31 by omega), nI_clamp (show 2 * a < 2 ^ 31 by omega), eT, eG] at k1 k2
  simp only [zb_has (iv 82) a32, zb_has (iv 51) a32, zb_has (iv 52) a32] at h1 h2 h3
  clear hA eT eG z y g1 g2 g3 g4 g5 g6
  generalize F_X9_has (F_X7_showsOf (nI a) (nI b) 0 (fi 82) (fi 85) (fi 87)) (nI d) = T at h1 h2 h3 k1 k2
  generalize F_X9_has (F_X7_showsOf (nI a) (nI b) ((1 : Int32) <<< (nI a &&& 31)) (fi 82) (fi 85) (fi 87)) (nI d) = G at h1 h2 h3 k1 k2
  rcases hK with ⟨q1, q2, q3⟩ | ⟨q1, q2, q3⟩ | ⟨q1, q2, q3⟩ <;> rcases hW with ⟨w, hA⟩ | ⟨w, hA⟩ <;> by_cases tT : T = is <;> by_cases tG : G = is <;> simp only [q1, q2, q3, w, hA, tT, tG, Bool.false_eq_true, if_true, if_false, z10, z20, zn02, zn01, zn12, zn21, pk_us] at h1 h2 h3 k1 k2 <;> subst h1 h2 h3 k1 k2 <;> first
    | exact ⟨rfl, y0, fun _ _ => rfl⟩
    | exact ⟨rfl, zy_f2 y0 (by omega) hA, fun _ _ => rfl⟩
    | exact ⟨rfl, zy_f3 y0 (by omega) hap hA q3, fun j hj => pk_un (by omega)⟩
    | exact ⟨rfl, zy_f4 y0 (by omega) hap hA, fun j hj => pk_un (by omega)⟩
    | exact ⟨rfl, zy_f5 y0 (by omega) hap q2 q3, fun j hj => pk_un (by omega)⟩
theorem zq_sure_go {st nm kn go pe : Int32} {rpe rt rk : Nat → Int32} (y : zyP 0 st nm kn go rpe rt rk) (hpe : pe = rpe 0) (hpb : 0 ≤ pe.toInt ∧ pe.toInt ≤ 10) : ∀ (f k : Nat) (v : Int32), 10 - k < f → k ≤ 10 → (∀ i : Nat, i < 32 → bt v i = (decide (i < k) && bt kn i)) → L_X10_surely_1 rpe rk K_X10_surely_1_0 f v (nI k) = kn := by
  intro f
  induction f with
  | zero => intro k v h; omega
  | succ f ih =>
    intro k v hf hk hv
    rw [L_X10_surely_1_s]
    unfold B_X10_surely_1
    simp only [↓zL_p]
    try simp only [show Int32.toNatClampNeg 0 = 0 from by decide, ← hpe, zn_inc]
    by_cases q : pe ≤ nI k
    · have hq := Int32.le_iff_toInt_le.mp q
      rw [nI_toInt (show k < 2 ^ 31 by omega)] at hq
      rw [if_pos q]
      show v = kn
      apply b_ext
      intro i hi
      rw [hv i hi]
      by_cases w : i < k
      · rw [decide_eq_true w, Bool.true_and]
      · rw [decide_eq_false w, Bool.false_and, (y.2.2.2 i hi (by rw [← hpe]; omega)).1]
    · have hq : (k : Int) < pe.toInt := by
        have := mt Int32.le_iff_toInt_le.mpr q
        rw [nI_toInt (show k < 2 ^ 31 by omega)] at this
        omega
      have z := y.2.2.1 k (by omega)
      rw [show 10 * 0 + k = k by omega] at z
      rw [if_neg q, nI_clamp (show k < 2 ^ 31 by omega)]
      rcases z with ⟨q1, q2, q3⟩ | ⟨q1, q2, q3⟩ | ⟨q1, q2, q3⟩
      · rw [if_pos q1]
        refine ih (k + 1) _ (by omega) (by omega) (fun i hi => ?_)
        rw [b_or, b_0, Bool.or_false, hv i hi]
        exact zq_bitn q2
      · rw [if_neg (show ¬ rk k = 0 by rw [q1]; exact z10)]
        refine ih (k + 1) _ (by omega) (by omega) (fun i hi => ?_)
        rw [zb_or1 _ (show k < 32 by omega) hi, hv i hi]
        exact zq_bity q2
      · rw [if_neg (show ¬ rk k = 0 by rw [q1]; exact z20)]
        refine ih (k + 1) _ (by omega) (by omega) (fun i hi => ?_)
        rw [zb_or1 _ (show k < 32 by omega) hi, hv i hi]
        exact zq_bity q2
theorem zq_sure {st nm kn go pe : Int32} {rpe rt rk : Nat → Int32} (y : zyP 0 st nm kn go rpe rt rk) (hpe : pe = rpe 0) (hpb : 0 ≤ pe.toInt ∧ pe.toInt ≤ 10) : F_X10_surely rpe rk = kn := by
  have z := zq_sure_go y hpe hpb 12 0 0 (by omega) (by omega) (fun i hi => by rw [b_0, decide_eq_false (Nat.not_lt_zero i), Bool.false_and])
  rw [nI_0] at z
  exact z
theorem zpc_size : ∀ m, m < 1024 → F_X10_sizeOf (nI m) = nI (zpc m) := by decide +kernel
theorem zq_fgt {r : Int32} : ∀ (f m : Nat) (g : Nat → Int32), 10 - m < f → m ≤ 10 → ∃ g' : Nat → Int32, L_X10_forget_1 (K_X10_forget_1_0 r) f (nI m) g = (r, 0, g') ∧ (∀ p : Nat, m ≤ p → p < 10 → g' p = 0) ∧ ∀ j : Nat, (j < m ∨ 10 ≤ j) → g' j = g j := by
  intro f
  induction f with
  | zero => intro m g h; omega
  | succ f ih =>
    intro m g hf hm
    rw [L_X10_forget_1_s]
    unfold B_X10_forget_1
    simp only [↓zL_p]
    try simp only [zn_inc]
    rw [show (10 : Int32) = nI 10 from by decide, nI_clamp (show m < 2 ^ 31 by omega)]
    rcases Nat.lt_or_ge m 10 with q | q
    · rw [if_neg (nI_ge q (by omega))]
      obtain ⟨g', e1, e2, e3⟩ := ih (m + 1) (upd g m 0) (by omega) (by omega)
      refine ⟨g', e1, fun p h1 h2 => ?_, fun j h => ?_⟩
      · rcases Nat.eq_or_lt_of_le h1 with w | w
        · subst w; rw [e3 _ (by omega), pk_us]
        · exact e2 p w h2
      · rw [e3 j (by omega), pk_un (show j ≠ m by omega)]
    · rw [if_pos (nI_le q (by omega))]
      exact ⟨g, rfl, fun p h1 h2 => by omega, fun _ _ => rfl⟩
theorem zr_forget {iv : Nat → Int32} {fi : Nat → Nat → Int32} {r9 r10 kn' go' : Int32} {rk' : Nat → Int32} (z : zRtA 0 0 iv fi) (y : zyN iv fi) (b4 : 0 ≤ (iv 79).toInt ∧ (iv 79).toInt ≤ 10) (h1 : r9 = (F_X9_forget (iv 51)).1) (h2 : kn' = (F_X9_forget (iv 51)).2.1) (h3 : go' = (F_X9_forget (iv 51)).2.2) (k1 : r10 = (F_X10_forget (fi 13) (fi 19)).1) (k2 : rk' = (F_X10_forget (fi 13) (fi 19)).2.2) : r9.toInt = r10.toInt ∧ zyP 0 (iv 49) (iv 50) kn' go' (fi 13) (fi 18) rk' ∧ ∀ j : Nat, 10 ≤ j → rk' j = fi 19 j := by
  obtain ⟨-, -, -, -, -, -, -, g8, -, -, -, -, -⟩ := zRt.go z
  have y0 : zyP 0 (iv 49) (iv 50) (iv 51) (iv 52) (fi 13) (fi 18) (fi 19) := y
  obtain ⟨n, hn, en⟩ := zb_lt (x := iv 51) (k := 10) (fun i h1 h2 => (y0.2.2.2 i h2 (by rw [← g8]; omega)).1)
  unfold F_X9_forget at h1 h2 h3
  unfold F_X10_forget at k1 k2
  simp only [↓zL_p] at h1 h2 h3 k1 k2
  rw [zq_sure y0 g8 b4] at k1 k2
  obtain ⟨g', e1, e2, e3⟩ := zq_fgt (r := F_X10_sizeOf (iv 51)) 12 0 (fi 19) (by omega) (by omega)
  rw [nI_0] at e1
  rw [e1] at k1 k2
  subst h2 h3 k2
  refine ⟨?_, ⟨y0.1, y0.2.1, fun p hp => Or.inl ⟨?_, b_0 p, b_0 p⟩, fun p _ _ => ⟨b_0 p, b_0 p⟩⟩, fun j hj => e3 j (Or.inr hj)⟩
  · rw [h1, k1]
    show (F_J6_bitCount_0f7a4 (iv 51)).toInt = (F_X10_sizeOf (iv 51)).toInt
    rw [en, zpc_bit n hn, zpc_size n hn]
  · rw [show 10 * 0 + p = p by omega]; exact e2 p (by omega) hp
theorem zyRel.heard {iv iv' : Nat → Int32} {fi fi' : Nat → Nat → Int32} (h : zyRel iv fi) (e : zyP 0 (iv 49) (iv 50) (iv' 51) (iv' 52) (fi 13) (fi 18) (fi' 19) ∧ ∀ j : Nat, 10 ≤ j → fi' 19 j = fi 19 j) (n49 : iv' 49 = iv 49) (n50 : iv' 50 = iv 50) (s0 : zyG 0 iv iv') (s1 : zyG 1 iv iv') (s2 : zyG 2 iv iv') (e13 : fi' 13 = fi 13) (e18 : fi' 18 = fi 18) : zyRel iv' fi' := by
  refine h.now ?_ s0 s1 s2 (fun i i0 i4 => (show zyR i (fi 13) (fi 18) (fi 19) (fi' 13) (fi' 18) (fi' 19) from ⟨by rw [e13], by rw [e18], by rw [e18], fun p _ => e.2 _ (by omega)⟩))
  unfold zyN
  rw [n49, n50, e13, e18]
  exact e.1
theorem zr_namesL {iv : Nat → Int32} {fi : Nat → Nat → Int32} {p r9 m9 r10 : Int32} {rt' : Nat → Int32} (z : zRtA 0 0 iv fi) (y : zyN iv fi) (b4 : 0 ≤ (iv 79).toInt ∧ (iv 79).toInt ≤ 10) (h1 : r9 = (F_X9_names p (iv 50) (iv 79)).1) (h2 : m9 = (F_X9_names p (iv 50) (iv 79)).2) (k1 : r10 = (F_X10_names p (fi 13) (fi 18)).1) (k2 : rt' = (F_X10_names p (fi 13) (fi 18)).2.2) : r9.toInt = r10.toInt ∧ m9 = rt' 1 ∧ ∀ j : Nat, ¬ j = 1 → rt' j = fi 18 j := by
  obtain ⟨-, -, -, -, -, -, -, g8, -, -, -, -, -⟩ := zRt.go z
  exact zr_names g8 b4 y.2.1 h1 h2 k1 k2
theorem zr_strayedL {iv : Nat → Int32} {fi : Nat → Nat → Int32} {p r9 m9 r10 : Int32} {rt' : Nat → Int32} (z : zRtA 0 0 iv fi) (y : zyN iv fi) (b4 : 0 ≤ (iv 79).toInt ∧ (iv 79).toInt ≤ 10) (h1 : r9 = (F_X9_strayed p (iv 49) (iv 82)).1) (h2 : m9 = (F_X9_strayed p (iv 49) (iv 82)).2) (k1 : r10 = (F_X10_strayed p (fi 13) (fi 15) (fi 18)).1) (k2 : rt' = (F_X10_strayed p (fi 13) (fi 15) (fi 18)).2.2) : r9.toInt = r10.toInt ∧ m9 = rt' 0 ∧ ∀ j : Nat, ¬ j = 0 → rt' j = fi 18 j := by
  obtain ⟨-, -, -, -, -, g6, -, g8, -, -, -, -, -⟩ := zRt.go z
  exact zr_strayed g6 g8 b4 y.1 h1 h2 k1 k2
