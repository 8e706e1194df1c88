set_option linter.all false
/-! small questions: class and reference over one town -/
theorem zq_in {p x : Int32} (hx : 0 ≤ x.toInt ∧ x.toInt ≤ 1600) : F_X10_in p.toInt64 0 (x - 1).toInt64 = F_X7_hasCourt p x := by
  have h1 : (x - 1).toInt = x.toInt - 1 := zi_sub rfl zN_1 (by omega)
  rw [show (0 : Int64) = (0 : Int32).toInt64 from by decide, zJin, zN_0, h1]
  unfold F_X7_hasCourt
  by_cases e1 : p < 0
  · have e := Int32.lt_iff_toInt_lt.mp e1
    rw [zN_0] at e
    rw [if_pos e1, if_neg (by omega)]
  · have e := mt Int32.lt_iff_toInt_lt.mpr e1
    rw [zN_0] at e
    rw [if_neg e1]
    by_cases e2 : x ≤ p
    · have e' := Int32.le_iff_toInt_le.mp e2
      rw [if_pos e2, if_neg (by omega)]
    · have e' := mt Int32.le_iff_toInt_le.mpr e2
      rw [if_neg e2, if_pos (by omega)]
theorem zq_has (p x : Int32) : F_X7_hasCourt p x = 0 ∨ (F_X7_hasCourt p x = 1 ∧ 0 ≤ p.toInt ∧ p.toInt < x.toInt) := by
  unfold F_X7_hasCourt
  by_cases e1 : p < 0
  · exact Or.inl (if_pos e1)
  · have e := mt Int32.lt_iff_toInt_lt.mpr e1
    rw [zN_0] at e
    rw [if_neg e1]
    by_cases e2 : x ≤ p
    · exact Or.inl (if_pos e2)
    · have e' := mt Int32.le_iff_toInt_le.mpr e2
      exact Or.inr ⟨if_neg e2, by omega, by omega⟩
theorem zq_n1 {k : Nat} (hk : k < 2 ^ 31) : ¬ nI k = -1 := fun z => by
  have := congrArg Int32.toInt z
  rw [nI_toInt hk, show Int32.toInt (-1) = -1 from by decide] at this
  omega
/-- a court in another -/
theorem zq_isIn_go {co : Int32} {ab rin : Nat → Int32} (h : zCc 0 co ab rin) (hco : co.toInt ≤ 10) {d : Nat} (hd : d < 32) : ∀ f c : Nat, c < f → c < 10 → (c : Int) < co.toInt → L_X10_isIn_1 (nI d) rin (K_X10_isIn_1_0 (nI d)) (K_X10_isIn_1_1 (nI d)) f (rin c) = if bt (ab c) d then 1 else 0 := by
  intro f
  induction f with
  | zero => intro c h; omega
  | succ f ih =>
    intro c hf hc hcc
    rw [L_X10_isIn_1_s]
    unfold B_X10_isIn_1
    cases c with
    | zero =>
      have e : rin 0 = -1 := h.2.1 (by omega)
      rw [e, if_pos rfl, h.1, b_0]
      show (if (-1 : Int32) = nI d then (1 : Int32) else 0) = 0
      rw [if_neg (fun z => zq_n1 (by omega) z.symm)]
    | succ c =>
      obtain ⟨q, h1, h2, h3⟩ := h.2.2 (c + 1) (by omega) (by omega)
      rw [show 10 * 0 + (c + 1) = c + 1 by omega] at h2
      rw [h2, if_neg (zq_n1 (by omega)), h3, zb_or1 _ (show q < 32 by omega) hd]
      by_cases e : q = d
      · subst e
        rw [if_pos rfl, decide_eq_true rfl, Bool.or_true]
        show (if nI q = nI q then (1 : Int32) else 0) = 1
        rw [if_pos rfl]
      · rw [if_neg (fun z => e ((nI_eq (by omega) (by omega)).mp z)), decide_eq_false (fun z => e z.symm), Bool.or_false]
        simp only [↓zL_p]
        try simp only [nI_clamp (show q < 2 ^ 31 by omega)]
        exact ih q (by omega) (by omega) (by omega)
theorem zq_isIn {co : Int32} {ab rin : Nat → Int32} (h : zCc 0 co ab rin) (hco : co.toInt ≤ 10) {c d : Nat} (hd : d < 32) (hc : c < 10) (hcc : (c : Int) < co.toInt) : F_X10_isIn (nI c) (nI d) rin = if bt (ab c) d then 1 else 0 := by
  unfold F_X10_isIn
  simp only [↓zL_p]
  try simp only [nI_clamp (show c < 2 ^ 31 by omega)]
  exact zq_isIn_go h hco hd 12 c (by omega) hc hcc
theorem zq_free {ab : Nat → Int32} {c d : Nat} (hc : c < 10) (hd : d < 32) : F_X7_isFree (nI c) (nI d) ab = if bt (ab c) d then 1 else 0 := by
  unfold F_X7_isFree
  simp only [↓zL_p]
  try simp only [nI_clamp (show c < 2 ^ 31 by omega)]
  exact zb_has _ hd
theorem zq_counts {co de : Int32} {ab sh rin rs : Nat → Int32} (h : zCc 0 co ab rin) (hco : co.toInt ≤ 10) (hsh : zShows co de ab sh) (hde : de = rs 0) (hd01 : de = 0 ∨ de = 1) {c d : Nat} (hd : d < 32) (hc : (c : Int) < co.toInt) : F_X10_counts (nI c) (nI d) rin rs = F_X9_has (sh c) (nI d) := by
  rw [zb_has _ hd, hsh c hc]
  unfold F_X10_counts
  simp only [↓zL_p]
  try simp only [show Int32.toNatClampNeg 0 = 0 from by decide, ← hde, zq_isIn h hco hd (show c < 10 by omega) hc]
  by_cases e : c = d
  · subst e
    rw [if_pos rfl]
    rcases hd01 with z | z
    · rw [if_pos z, zb_sh hd hd, decide_eq_true rfl]; rfl
    · rw [if_neg (show ¬ de = 0 by rw [z]; decide), zb_or1 _ hd hd, decide_eq_true rfl, Bool.or_true]; rfl
  · rw [if_neg (fun z => e ((nI_eq (by omega) (by omega)).mp z))]
    rcases hd01 with z | z
    · rw [if_neg (show ¬ de = 1 by rw [z]; decide), if_pos z, zb_sh (show c < 32 by omega) hd, decide_eq_false (fun y => e y.symm)]; rfl
    · rw [if_pos z, if_neg (show ¬ de = 0 by rw [z]; decide), zb_or1 _ (show c < 32 by omega) hd, decide_eq_false (fun y => e y.symm), Bool.or_false]
      cases bt (ab c) d
      · rfl
      · rfl
/-- where one is -/
theorem zq_strayed {st : Int32} {rt : Nat → Int32} (hst : st = rt 0) {p : Nat} (hp : p < 32) : F_X10_isStrayed (nI p) rt = if bt st p then 1 else 0 := by
  unfold F_X10_isStrayed
  simp only [↓zL_p]
  try simp only [show Int32.toNatClampNeg 0 = 0 from by decide, ← hst, zb_get st hp]
  cases bt st p
  · rfl
  · rfl
theorem zq_place {ho co pe st s0 hc : Int32} {td sp sx ra0 rst : Nat → Int32} (hP : zCp 0 ho co pe td ra0) (hS : zCs 0 co pe s0 sp sx rst) {p k : Nat} (hp : (p : Int) < pe.toInt) (hp10 : p < 10) (hk : (k : Int) < ho.toInt) (hk48 : k < 48) : F_X10_placeOf (nI p) (if bt st p then 1 else 0) (nI k) (-1) hc ra0 rst = F_X7_courtOf (nI p) (nI k) st td sx ∧ 0 ≤ (F_X7_courtOf (nI p) (nI k) st td sx).toInt ∧ (F_X7_courtOf (nI p) (nI k) st td sx).toInt < co.toInt := by
  unfold F_X10_placeOf F_X7_courtOf
  simp only [↓zL_p]
  try simp only [zb_get st (show p < 32 by omega)]
  rw [if_neg (zq_n1 (by omega)), show (48 : Int32) = nI 48 from by decide, show (2 : Int32) = nI 2 from by decide, pk_mul, pk_mul, pk_mul, nI_add, nI_add, nI_1, nI_clamp (show 48 * p + k < 2 ^ 31 by omega), nI_clamp (show p * 48 + k < 2 ^ 31 by omega), nI_clamp (show 2 * p + 1 < 2 ^ 31 by omega), nI_clamp (show p < 2 ^ 31 by omega)]
  have a := hP p k hp hk
  have b := (hS.1 p hp).2
  rw [show 480 * 0 + 48 * p + k = 48 * p + k by omega] at a
  rw [show 20 * 0 + 2 * p + 1 = 2 * p + 1 by omega] at b
  rw [show p * 48 + k = 48 * p + k by omega]
  cases bt st p
  · simp only [Bool.false_eq_true, if_false, if_pos (show (0 : Int32) = 0 from rfl), if_true, if_false]
    exact ⟨a.1.symm, a.2⟩
  · simp only [if_true, if_neg (show ¬ (1 : Int32) = 0 by decide)]
    exact ⟨b.1.symm, b.2.2⟩
/-- who is within a court -/
theorem zq_within {ho co pe de st s0 hc : Int32} {ab sh td sp sx rin rpe ra0 rst rs rt : Nat → Int32} (h : zCc 0 co ab rin) (hco : co.toInt ≤ 10) (hsh : zShows co de ab sh) (hde : de = rs 0) (hd01 : de = 0 ∨ de = 1) (hP : zCp 0 ho co pe td ra0) (hS : zCs 0 co pe s0 sp sx rst) (hpe : pe = rpe 0) (hpb : 0 ≤ pe.toInt ∧ pe.toInt ≤ 10) (hst : st = rt 0) {d k : Nat} (hd : d < 32) (hk : (k : Int) < ho.toInt) (hk48 : k < 48) : ∀ (f p : Nat) (v : Int32), 10 - p < f → p ≤ 10 → L_X7_inside_1 pe (nI k) st sh td sx (nI d) K_X7_inside_1_0 f v (nI p) = L_X10_withinOf_1 rpe 0 (nI d) rin rs rt (nI k) (-1) hc ra0 rst K_X10_withinOf_1_0 f v (nI p) := by
  intro f
  induction f with
  | zero => intro p v h; omega
  | succ f ih =>
    intro p v hf hp
    rw [L_X7_inside_1_s, L_X10_withinOf_1_s]
    unfold B_X7_inside_1 B_X10_withinOf_1
    simp only [↓zL_p]
    try simp only [show Int32.toNatClampNeg 0 = 0 from by decide, ← hpe, zn_inc]
    obtain ⟨m, hm, em, im⟩ := zc_nat hpb.1 hpb.2 (by decide)
    by_cases q : pe ≤ nI p
    · rw [if_pos q, if_pos q]
      rfl
    · have hq : (p : Int) < pe.toInt := by
        have := mt Int32.le_iff_toInt_le.mpr q
        rw [nI_toInt (by omega)] at this
        omega
      have ho1 : ((0 : Int32) >>> (nI p &&& 31)) &&& 1 = 0 := by rw [zb_get 0 (show p < 32 by omega), b_0]; rfl
      have hv0 : v ||| 0 = v := by
        apply b_ext
        intro i hi
        rw [b_or, b_0, Bool.or_false]
      rw [if_neg q, if_neg q, ho1, if_neg (show ¬ (0 : Int32) = 1 by decide), zq_strayed hst (show p < 32 by omega)]
      unfold F_X10_isWithin F_X7_showsOf
      simp only [↓zL_p]
      obtain ⟨hpl, hcr⟩ := zq_place (st := st) (hc := hc) (sp := sp) (s0 := s0) hP hS hq (by omega) hk hk48
      rw [hpl]
      obtain ⟨c, hcc, ec, ic⟩ := zc_nat (m := 9) hcr.1 (by omega) (by decide)
      rw [ec, nI_clamp (show c < 2 ^ 31 by omega), zq_counts h hco hsh hde hd01 hd (by omega), hv0]
      split
      · exact ih (p + 1) v (by omega) (by omega)
      · exact ih (p + 1) _ (by omega) (by omega)
theorem zq_withinF {ho co pe de st s0 hc : Int32} {ab sh td sp sx rin rpe ra0 rst rs rt : Nat → Int32} (h : zCc 0 co ab rin) (hco : co.toInt ≤ 10) (hsh : zShows co de ab sh) (hde : de = rs 0) (hd01 : de = 0 ∨ de = 1) (hP : zCp 0 ho co pe td ra0) (hS : zCs 0 co pe s0 sp sx rst) (hpe : pe = rpe 0) (hpb : 0 ≤ pe.toInt ∧ pe.toInt ≤ 10) (hst : st = rt 0) {d k : Nat} (hd : d < 32) (hk : (k : Int) < ho.toInt) (hk48 : k < 48) : F_X7_inside (nI d) (nI k) st pe sh td sx = F_X10_withinOf (nI d) (nI k) (-1) hc 0 rin rpe ra0 rst rs rt := by
  have z := zq_within (hc := hc) h hco hsh hde hd01 hP hS hpe hpb hst hd hk hk48 12 0 0 (by omega) (by omega)
  rw [nI_0] at z
  exact z
/-! the answers -/
theorem zq_where {p k ho co pe st s0 hc : Int32} {td sp sx rh rpe ra0 rst rt : Nat → Int32} (hP : zCp 0 ho co pe td ra0) (hS : zCs 0 co pe s0 sp sx rst) (hpe : pe = rpe 0) (hho : ho = rh 0) (hpb : 0 ≤ pe.toInt ∧ pe.toInt ≤ 10) (hhb : 0 ≤ ho.toInt ∧ ho.toInt ≤ 48) (hst : st = rt 0) : F_X9_where p k st ho pe td sx = (F_X10_where p k (-1) hc rh rpe ra0 rst rt).1 := by
  unfold F_X9_where F_X10_where F_X10_isPerson F_X10_isHour
  simp only [↓zL_p]
  try simp only [show Int32.toNatClampNeg 0 = 0 from by decide, ← hpe, ← hho, zq_in (show 0 ≤ pe.toInt ∧ pe.toInt ≤ 1600 by omega), zq_in (show 0 ≤ ho.toInt ∧ ho.toInt ≤ 1600 by omega)]
  rw [show F_X7_hasPerson p pe = F_X7_hasCourt p pe from rfl, show F_X7_hasHour k ho = F_X7_hasCourt k ho from rfl]
  rcases zq_has p pe with e | ⟨e, e0, e1⟩
  · simp only [e, if_true, ite_self]
  · simp only [e, if_neg z10]
    rcases zq_has k ho with g | ⟨g, g0, g1⟩
    · simp only [g, if_true, ite_self]
    · simp only [g, if_neg z10]
      obtain ⟨a, ha, ea, ia⟩ := zc_nat (x := p) (m := 9) e0 (by omega) (by decide)
      obtain ⟨b, hb, eb, ib⟩ := zc_nat (x := k) (m := 47) g0 (by omega) (by decide)
      subst ea eb
      rw [zq_strayed hst (show a < 32 by omega), (zq_place (st := st) (hc := hc) hP hS (by omega) (by omega) (by omega) (by omega)).1]
theorem zq_withinA {p k ho co pe de st s0 hc : Int32} {ab sh td sp sx rh rc rin rpe ra0 rst rs rt : Nat → Int32} (h : zCc 0 co ab rin) (hcr : co = rc 0) (hcb : 0 ≤ co.toInt ∧ co.toInt ≤ 10) (hsh : zShows co de ab sh) (hde : de = rs 0) (hd01 : de = 0 ∨ de = 1) (hP : zCp 0 ho co pe td ra0) (hS : zCs 0 co pe s0 sp sx rst) (hpe : pe = rpe 0) (hho : ho = rh 0) (hpb : 0 ≤ pe.toInt ∧ pe.toInt ≤ 10) (hhb : 0 ≤ ho.toInt ∧ ho.toInt ≤ 48) (hst : st = rt 0) : F_X9_within p k st ho co pe sh td sx = (F_X10_within p k (-1) hc 0 rh rc rin rpe ra0 rst rs rt).1 := by
  unfold F_X9_within F_X10_within F_X10_isCourt F_X10_isHour
  simp only [↓zL_p]
  try simp only [show Int32.toNatClampNeg 0 = 0 from by decide, ← hcr, ← hho, zq_in (show 0 ≤ co.toInt ∧ co.toInt ≤ 1600 by omega), zq_in (show 0 ≤ ho.toInt ∧ ho.toInt ≤ 1600 by omega)]
  rw [show F_X7_hasHour k ho = F_X7_hasCourt k ho from rfl]
  rcases zq_has p co with e | ⟨e, e0, e1⟩
  · simp only [e, if_true, ite_self]
  · simp only [e, if_neg z10]
    rcases zq_has k ho with g | ⟨g, g0, g1⟩
    · simp only [g, if_true, ite_self]
    · simp only [g, if_neg z10]
      obtain ⟨a, ha, ea, ia⟩ := zc_nat (x := p) (m := 9) e0 (by omega) (by decide)
      obtain ⟨b, hb, eb, ib⟩ := zc_nat (x := k) (m := 47) g0 (by omega) (by decide)
      subst ea eb
      exact zq_withinF h hcb.2 hsh hde hd01 hP hS hpe hpb hst (by omega) (by omega) (by omega)
theorem zq_lies {p k co : Int32} {ab rc rin : Nat → Int32} (h : zCc 0 co ab rin) (hcr : co = rc 0) (hcb : 0 ≤ co.toInt ∧ co.toInt ≤ 10) : F_X9_lies p k co ab = (F_X10_lies p k rc rin).1 := by
  unfold F_X9_lies F_X10_lies F_X10_isCourt
  simp only [↓zL_p]
  try simp only [show Int32.toNatClampNeg 0 = 0 from by decide, ← hcr, zq_in (show 0 ≤ co.toInt ∧ co.toInt ≤ 1600 by omega)]
  rcases zq_has p co with e | ⟨e, e0, e1⟩
  · simp only [e, if_true, ite_self]
  · simp only [e, if_neg z10]
    rcases zq_has k co with g | ⟨g, g0, g1⟩
    · simp only [g, if_true, ite_self]
    · simp only [g, if_neg z10]
      obtain ⟨a, ha, ea, ia⟩ := zc_nat (x := p) (m := 9) e0 (by omega) (by decide)
      obtain ⟨b, hb, eb, ib⟩ := zc_nat (x := k) (m := 9) g0 (by omega) (by decide)
      subst ea eb
      rw [zq_isIn h hcb.2 (show b < 32 by omega) (by omega) (by omega), zq_free (by omega) (show b < 32 by omega)]
      cases bt (ab a) b
      · rfl
      · rfl
theorem zq_leadsTo {co ga : Int32} {oe ot rgt : Nat → Int32} (h : zCg 0 co ga oe ot rgt) {g : Nat} (hg : (g : Int) < ga.toInt) (hg16 : g < 16) (k : Int32) : F_X7_beyond (nI g) k oe ot = F_X10_leadsTo (nI g) k rgt := by
  unfold F_X7_beyond F_X10_leadsTo
  have z := h g hg
  rw [show 32 * 0 + 2 * g = 2 * g by omega] at z
  simp only [↓zL_p]
  try simp only [show (2 : Int32) * nI g = nI (2 * g) from by rw [show (2 : Int32) = nI 2 from by decide, pk_mul], nI_1, nI_clamp (show 2 * g < 2 ^ 31 by omega), nI_clamp (show 2 * g + 1 < 2 ^ 31 by omega), nI_clamp (show g < 2 ^ 31 by omega), ← z.1, ← z.2.1]
theorem zq_leads {p k co ga : Int32} {oe ot rc rg rgt : Nat → Int32} (h : zCg 0 co ga oe ot rgt) (hcr : co = rc 0) (hcb : 0 ≤ co.toInt ∧ co.toInt ≤ 10) (hgr : ga = rg 0) (hgb : 0 ≤ ga.toInt ∧ ga.toInt ≤ 16) : F_X9_leads p k co ga oe ot = (F_X10_leads p k rc rg rgt).1 := by
  unfold F_X9_leads F_X10_leads F_X10_isGate F_X10_isCourt
  simp only [↓zL_p]
  try simp only [show Int32.toNatClampNeg 0 = 0 from by decide, ← hcr, ← hgr, zq_in (show 0 ≤ co.toInt ∧ co.toInt ≤ 1600 by omega), zq_in (show 0 ≤ ga.toInt ∧ ga.toInt ≤ 1600 by omega)]
  rw [show F_X7_hasGate p ga = F_X7_hasCourt p ga from rfl]
  rcases zq_has p ga with e | ⟨e, e0, e1⟩
  · simp only [e, if_true, ite_self]
  · simp only [e, if_neg z10]
    rcases zq_has k co with g | ⟨g, g0, g1⟩
    · simp only [g, if_true, ite_self]
    · simp only [g, if_neg z10]
      obtain ⟨a, ha, ea, ia⟩ := zc_nat (x := p) (m := 15) e0 (by omega) (by decide)
      subst ea
      exact zq_leadsTo h (by omega) (by omega) k
