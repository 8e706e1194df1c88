set_option linter.all false
/-! what both hold of a town's contents -/
def zCc (i : Nat) (co : Int32) (ab rin : Nat → Int32) : Prop := ab 0 = 0 ∧ (0 < co.toInt → rin (10 * i) = -1) ∧ ∀ c : Nat, 0 < c → (c : Int) < co.toInt → ∃ q : Nat, q < c ∧ rin (10 * i + c) = nI q ∧ ab c = ab q ||| (1 : Int32) <<< (nI q &&& 31)
def zCg (i : Nat) (co ga : Int32) (oe ot rgt : Nat → Int32) : Prop := ∀ g : Nat, (g : Int) < ga.toInt → oe g = rgt (32 * i + 2 * g) ∧ ot g = rgt (32 * i + 2 * g + 1) ∧ ¬ oe g = ot g ∧ (0 ≤ (oe g).toInt ∧ (oe g).toInt < co.toInt) ∧ 0 ≤ (ot g).toInt ∧ (ot g).toInt < co.toInt
def zCp (i : Nat) (ho co pe : Int32) (td ra0 : Nat → Int32) : Prop := ∀ p h : Nat, (p : Int) < pe.toInt → (h : Int) < ho.toInt → td (48 * p + h) = ra0 (480 * i + 48 * p + h) ∧ 0 ≤ (td (48 * p + h)).toInt ∧ (td (48 * p + h)).toInt < co.toInt
def zCs (i : Nat) (co pe st : Int32) (sp sx rst : Nat → Int32) : Prop := (∀ p : Nat, (p : Int) < pe.toInt → sp p = rst (20 * i + 2 * p) ∧ sx p = rst (20 * i + 2 * p + 1) ∧ bt st p = decide (0 < (rst (20 * i + 2 * p)).toInt) ∧ 0 ≤ (sx p).toInt ∧ (sx p).toInt < co.toInt) ∧ ∀ p : Nat, p < 32 → pe.toInt ≤ (p : Int) → sp p = 0 ∧ sx p = 0 ∧ bt st p = false
def zTct (i : Nat) (ho co ga pe fh st de : Int32) (ab oe ot td sp sx rin rgt ra0 rst rs : Nat → Int32) : Prop := zCc i co ab rin ∧ zCg i co ga oe ot rgt ∧ zCp i ho co pe td ra0 ∧ zCs i co pe st sp sx rst ∧ de = rs (2 * i) ∧ fh = rs (2 * i + 1) ∧ (de = 0 ∨ de = 1)
theorem zi_of {x : Int32} {k : Nat} (h : x.toInt = (k : Int)) (hk : k < 2 ^ 31) : x = nI k := Int32.toInt_inj.mp (h.trans (nI_toInt hk).symm)
theorem zc_nat {x : Int32} {m : Nat} (h0 : 0 ≤ x.toInt) (hm : x.toInt ≤ (m : Int)) (h : m < 2 ^ 31) : ∃ k : Nat, k ≤ m ∧ x = nI k ∧ x.toInt = (k : Int) := ⟨x.toInt.toNat, by omega, zi_of (by omega) (by omega), by omega⟩
theorem zc_add (a k : Nat) : nI a + nI k = nI (a + k) := nI_add a k
/-- a court -/
theorem zCc.new {co v : Int32} {ab rin : Nat → Int32} (h : zCc 4 co ab rin) (hco : 1 ≤ co.toInt ∧ co.toInt ≤ 9) (hv : 0 ≤ v.toInt ∧ v.toInt < co.toInt) : zCc 4 (co + 1) (upd ab co.toNatClampNeg (ab v.toNatClampNeg ||| (1 : Int32) <<< (v &&& 31))) (upd rin ((40 : Int32) + co).toNatClampNeg v) := by
  obtain ⟨k, hk, ek, ik⟩ := zc_nat (x := co) (m := 9) (by omega) (by omega) (by decide)
  obtain ⟨q, hq, eq, iq⟩ := zc_nat (x := v) (m := 9) (by omega) (by omega) (by decide)
  have h1 : (co + 1).toInt = (k : Int) + 1 := by rw [zc_add1 (co := co) (by omega), ik]
  have e40 : ((40 : Int32) + co).toNatClampNeg = 40 + k := by rw [ek, show (40 : Int32) = nI 40 from by decide, nI_add, nI_clamp (by omega)]
  have ec : co.toNatClampNeg = k := by rw [ek, nI_clamp (by omega)]
  have ev : v.toNatClampNeg = q := by rw [eq, nI_clamp (by omega)]
  rw [e40, ec, ev]
  refine ⟨by rw [pk_un (show (0 : Nat) ≠ k by omega)]; exact h.1, fun _ => by rw [pk_un (show 10 * 4 ≠ 40 + k by omega)]; exact h.2.1 (by omega), fun c h0 hc => ?_⟩
  by_cases e : c = k
  · subst e
    exact ⟨q, by omega, by rw [show 10 * 4 + c = 40 + c by omega, pk_us]; exact eq, by rw [pk_us, pk_un (show q ≠ c by omega), eq]⟩
  · obtain ⟨q', z1, z2, z3⟩ := h.2.2 c h0 (by omega)
    exact ⟨q', z1, by rw [pk_un (show 10 * 4 + c ≠ 40 + k by omega)]; exact z2, by rw [pk_un (show c ≠ k from e), pk_un (show q' ≠ k by omega)]; exact z3⟩
theorem zCg.more {i : Nat} {co co' ga : Int32} {oe ot rgt : Nat → Int32} (h : zCg i co ga oe ot rgt) (hc : co.toInt ≤ co'.toInt) : zCg i co' ga oe ot rgt := fun g hg => by
  obtain ⟨a, b, c, d, e⟩ := h g hg
  exact ⟨a, b, c, ⟨d.1, by omega⟩, e.1, by omega⟩
/-- a gate -/
theorem zCg.new {co ga a b : Int32} {oe ot rgt : Nat → Int32} (h : zCg 4 co ga oe ot rgt) (hga : 0 ≤ ga.toInt ∧ ga.toInt ≤ 15) (hab : ¬ a = b) (ha : 0 ≤ a.toInt ∧ a.toInt < co.toInt) (hb : 0 ≤ b.toInt ∧ b.toInt < co.toInt) : zCg 4 co (ga + 1) (upd oe ga.toNatClampNeg a) (upd ot ga.toNatClampNeg b) (upd (upd rgt ((2 : Int32) * ((64 : Int32) + ga)).toNatClampNeg a) ((2 : Int32) * ((64 : Int32) + ga) + 1).toNatClampNeg b) := by
  obtain ⟨k, hk, ek, ik⟩ := zc_nat (x := ga) (m := 15) (by omega) (by omega) (by decide)
  have h1 : (ga + 1).toInt = (k : Int) + 1 := by rw [zc_add1 (co := ga) (by omega), ik]
  have e0 : (2 : Int32) * ((64 : Int32) + ga) = nI (128 + 2 * k) := by rw [ek, show (64 : Int32) = nI 64 from by decide, show (2 : Int32) = nI 2 from by decide, nI_add, pk_mul]; exact congrArg nI (by omega)
  have e1 : ((2 : Int32) * ((64 : Int32) + ga)).toNatClampNeg = 128 + 2 * k := by rw [e0, nI_clamp (by omega)]
  have e2 : ((2 : Int32) * ((64 : Int32) + ga) + 1).toNatClampNeg = 129 + 2 * k := by rw [e0, nI_1, nI_clamp (by omega)]; omega
  have ec : ga.toNatClampNeg = k := by rw [ek, nI_clamp (by omega)]
  rw [e1, e2, ec]
  intro g hg
  by_cases e : g = k
  · subst e
    exact ⟨by rw [show 32 * 4 + 2 * g = 128 + 2 * g by omega, pk_us, pk_un (show 128 + 2 * g ≠ 129 + 2 * g by omega), pk_us], by rw [show 32 * 4 + 2 * g + 1 = 129 + 2 * g by omega, pk_us, pk_us], by rw [pk_us, pk_us]; exact hab, by rw [pk_us]; exact ha, by rw [pk_us]; exact hb⟩
  · have z := h g (by omega)
    rw [pk_un (show g ≠ k from e), pk_un (show g ≠ k from e), pk_un (show 32 * 4 + 2 * g ≠ 129 + 2 * k by omega), pk_un (show 32 * 4 + 2 * g ≠ 128 + 2 * k by omega), pk_un (show 32 * 4 + 2 * g + 1 ≠ 129 + 2 * k by omega), pk_un (show 32 * 4 + 2 * g + 1 ≠ 128 + 2 * k by omega)]
    exact z
/-- a person's hours -/
theorem zCp.new {ho co pe : Int32} {td ra0 td' ra0' : Nat → Int32} {k : Nat} (h : zCp 4 ho co pe td ra0) (ek : pe.toInt = (k : Int)) (hk : k ≤ 9) (hho : ho.toInt ≤ 48) (h1 : ∀ j : Nat, j < 48 * k → td' j = td j) (h2 : ∀ j : Nat, j < 480 * 4 + 48 * k → ra0' j = ra0 j) (h3 : ∀ j : Nat, (j : Int) < ho.toInt → td' (48 * k + j) = ra0' (480 * 4 + 48 * k + j) ∧ 0 ≤ (td' (48 * k + j)).toInt ∧ (td' (48 * k + j)).toInt < co.toInt) : zCp 4 ho co (pe + 1) td' ra0' := by
  have e1 : (pe + 1).toInt = (k : Int) + 1 := by rw [zc_add1 (co := pe) (by omega), ek]
  intro p j hp hj
  by_cases e : p = k
  · subst e; exact h3 j hj
  · rw [h1 (48 * p + j) (by omega), h2 (480 * 4 + 48 * p + j) (by omega)]
    exact h p j (by omega) hj
theorem zCp.more {i : Nat} {ho co co' pe : Int32} {td ra0 : Nat → Int32} (h : zCp i ho co pe td ra0) (hc : co.toInt ≤ co'.toInt) : zCp i ho co' pe td ra0 := fun p j hp hj => by
  obtain ⟨a, b, c⟩ := h p j hp hj
  exact ⟨a, b, by omega⟩
theorem zCs.more {i : Nat} {co co' pe st : Int32} {sp sx rst : Nat → Int32} (h : zCs i co pe st sp sx rst) (hc : co.toInt ≤ co'.toInt) : zCs i co' pe st sp sx rst := ⟨fun p hp => by
  obtain ⟨a, b, c, d, e⟩ := h.1 p hp
  exact ⟨a, b, c, d, by omega⟩, h.2⟩
/-- one who doesn't stray -/
theorem zCs.none {co pe st : Int32} {sp sx rst : Nat → Int32} (h : zCs 4 co pe st sp sx rst) (hco : 1 ≤ co.toInt) (hpe : 0 ≤ pe.toInt ∧ pe.toInt ≤ 9) : zCs 4 co (pe + 1) st sp sx (upd (upd rst ((2 : Int32) * ((40 : Int32) + pe)).toNatClampNeg 0) ((2 : Int32) * ((40 : Int32) + pe) + 1).toNatClampNeg 0) := by
  obtain ⟨k, hk, ek, ik⟩ := zc_nat (x := pe) (m := 9) (by omega) (by omega) (by decide)
  have h1 : (pe + 1).toInt = (k : Int) + 1 := by rw [zc_add1 (co := pe) (by omega), ik]
  have e0 : (2 : Int32) * ((40 : Int32) + pe) = nI (80 + 2 * k) := by rw [ek, show (40 : Int32) = nI 40 from by decide, show (2 : Int32) = nI 2 from by decide, nI_add, pk_mul]; exact congrArg nI (by omega)
  have e1 : ((2 : Int32) * ((40 : Int32) + pe)).toNatClampNeg = 80 + 2 * k := by rw [e0, nI_clamp (by omega)]
  have e2 : ((2 : Int32) * ((40 : Int32) + pe) + 1).toNatClampNeg = 81 + 2 * k := by rw [e0, nI_1, nI_clamp (by omega)]; omega
  rw [e1, e2]
  refine ⟨fun p hp => ?_, fun p hp hq => h.2 p hp (by omega)⟩
  by_cases e : p = k
  · subst e
    have z := h.2 p (by omega) (by omega)
    rw [show 20 * 4 + 2 * p = 80 + 2 * p by omega, show 80 + 2 * p + 1 = 81 + 2 * p by omega, pk_un (show 80 + 2 * p ≠ 81 + 2 * p by omega), pk_us, pk_us]
    exact ⟨z.1, z.2.1, by rw [z.2.2, zN_0]; rfl, by rw [z.2.1, zN_0]; omega, by rw [z.2.1, zN_0]; omega⟩
  · have z := h.1 p (by omega)
    rw [pk_un (show 20 * 4 + 2 * p ≠ 81 + 2 * k by omega), pk_un (show 20 * 4 + 2 * p ≠ 80 + 2 * k by omega), pk_un (show 20 * 4 + 2 * p + 1 ≠ 81 + 2 * k by omega), pk_un (show 20 * 4 + 2 * p + 1 ≠ 80 + 2 * k by omega)]
    exact z
/-- one who strays -/
theorem zCs.some {co pe st v w : Int32} {sp sx rst : Nat → Int32} (h : zCs 4 co pe st sp sx rst) (hpe : 0 ≤ pe.toInt ∧ pe.toInt ≤ 9) (hv : 1 ≤ v.toInt) (hw : 0 ≤ w.toInt ∧ w.toInt < co.toInt) : zCs 4 co (pe + 1) (st ||| (1 : Int32) <<< (pe &&& 31)) (upd sp pe.toNatClampNeg v) (upd sx pe.toNatClampNeg w) (upd (upd (upd (upd rst ((2 : Int32) * ((40 : Int32) + pe)).toNatClampNeg 0) ((2 : Int32) * ((40 : Int32) + pe) + 1).toNatClampNeg 0) ((2 : Int32) * ((40 : Int32) + pe)).toNatClampNeg v) ((2 : Int32) * ((40 : Int32) + pe) + 1).toNatClampNeg w) := by
  obtain ⟨k, hk, ek, ik⟩ := zc_nat (x := pe) (m := 9) (by omega) (by omega) (by decide)
  have h1 : (pe + 1).toInt = (k : Int) + 1 := by rw [zc_add1 (co := pe) (by omega), ik]
  have e0 : (2 : Int32) * ((40 : Int32) + pe) = nI (80 + 2 * k) := by rw [ek, show (40 : Int32) = nI 40 from by decide, show (2 : Int32) = nI 2 from by decide, nI_add, pk_mul]; exact congrArg nI (by omega)
  have e1 : ((2 : Int32) * ((40 : Int32) + pe)).toNatClampNeg = 80 + 2 * k := by rw [e0, nI_clamp (by omega)]
  have e2 : ((2 : Int32) * ((40 : Int32) + pe) + 1).toNatClampNeg = 81 + 2 * k := by rw [e0, nI_1, nI_clamp (by omega)]; omega
  have ec : pe.toNatClampNeg = k := by rw [ek, nI_clamp (by omega)]
  rw [ek] at h1
  rw [e1, e2, ec, ek]
  refine ⟨fun p hp => ?_, fun p hp hq => ?_⟩
  · by_cases e : p = k
    · subst e
      rw [show 20 * 4 + 2 * p = 80 + 2 * p by omega, show 80 + 2 * p + 1 = 81 + 2 * p by omega, pk_un (show 80 + 2 * p ≠ 81 + 2 * p by omega), pk_us, pk_us, pk_us, pk_us]
      exact ⟨rfl, rfl, by rw [zb_or1 st (show p < 32 by omega) (show p < 32 by omega), decide_eq_true rfl, Bool.or_true, decide_eq_true (by omega)], hw.1, hw.2⟩
    · have z := h.1 p (by omega)
      rw [pk_un (show p ≠ k from e), pk_un (show p ≠ k from e), pk_un (show 20 * 4 + 2 * p ≠ 81 + 2 * k by omega), pk_un (show 20 * 4 + 2 * p ≠ 80 + 2 * k by omega), pk_un (show 20 * 4 + 2 * p ≠ 81 + 2 * k by omega), pk_un (show 20 * 4 + 2 * p ≠ 80 + 2 * k by omega), pk_un (show 20 * 4 + 2 * p + 1 ≠ 81 + 2 * k by omega), pk_un (show 20 * 4 + 2 * p + 1 ≠ 80 + 2 * k by omega), pk_un (show 20 * 4 + 2 * p + 1 ≠ 81 + 2 * k by omega), pk_un (show 20 * 4 + 2 * p + 1 ≠ 80 + 2 * k by omega)]
      exact ⟨z.1, z.2.1, by rw [zb_or1 st (show k < 32 by omega) (show p < 32 by omega), decide_eq_false e, Bool.or_false]; exact z.2.2.1, z.2.2.2⟩
  · have z := h.2 p hp (by omega)
    rw [pk_un (show p ≠ k by omega), pk_un (show p ≠ k by omega)]
    exact ⟨z.1, z.2.1, by rw [zb_or1 st (show k < 32 by omega) hp, decide_eq_false (show ¬ p = k by omega), Bool.or_false]; exact z.2.2⟩
/-! rows filled -/
theorem zPlace {ho pe c : Int32} {k n : Nat} (eh : ho = nI n) (hn : n ≤ 48) (ek : pe = nI k) (hk : k ≤ 9) : ∀ (f m : Nat) (g : Nat → Int32), 48 - m < f → m ≤ 48 → ∃ g' : Nat → Int32, L_X5_placeFrom_1 ho pe c K_X5_placeFrom_1_0 f (nI m) g = g' ∧ (∀ j : Nat, (j < 48 * k + m ∨ 48 * k + n ≤ j) → g' j = g j) ∧ ∀ j : Nat, m ≤ j → j < n → g' (48 * k + j) = c := by
  intro f
  induction f with
  | zero => intro m g h; omega
  | succ f ih =>
    intro m g hf hm
    rw [L_X5_placeFrom_1_s]
    unfold B_X5_placeFrom_1
    simp only [zL, zn_inc]
    rw [eh]
    rcases Nat.lt_or_ge m n with q | q
    · rw [if_neg (nI_ge q (by omega)), ← eh]
      have ei : (pe * (48 : Int32) + nI m).toNatClampNeg = 48 * k + m := by
        rw [ek, show (48 : Int32) = nI 48 from by decide, pk_mul, nI_add, nI_clamp (by omega)]; omega
      rw [ei]
      obtain ⟨g', h1, h2, h3⟩ := ih (m + 1) (upd g (48 * k + m) c) (by omega) (by omega)
      refine ⟨g', h1, fun j hj => ?_, fun j a b => ?_⟩
      · rw [h2 j (by omega), pk_un (show j ≠ 48 * k + m by omega)]
      · rcases Nat.lt_or_ge m j with w | w
        · exact h3 j w b
        · rw [show j = m by omega, h2 (48 * k + m) (by omega), pk_us]
    · rw [if_pos (nI_le q (by omega))]
      exact ⟨g, rfl, fun j _ => rfl, fun j a b => absurd b (by omega)⟩
/-- from an hour on -/
theorem zPlaceF {ho pe c x : Int32} {k n m : Nat} (eh : ho = nI n) (hn : n ≤ 48) (ek : pe = nI k) (hk : k ≤ 9) (ex : x = nI m) (hm : m ≤ 48) (g : Nat → Int32) : (∀ j : Nat, (j < 48 * k + m ∨ 48 * k + n ≤ j) → F_X5_placeFrom x c ho pe g j = g j) ∧ ∀ j : Nat, m ≤ j → j < n → F_X5_placeFrom x c ho pe g (48 * k + j) = c := by
  obtain ⟨g', h1, h2, h3⟩ := zPlace (c := c) eh hn ek hk 50 m g (by omega) hm
  have e : F_X5_placeFrom x c ho pe g = g' := by rw [ex]; exact h1
  rw [e]
  exact ⟨h2, h3⟩
/-! a town's contents, line by line -/
theorem zTct.court {ho co ga pe fh st de : Int32} {ab oe ot td sp sx rin rgt ra0 rst rs : Nat → Int32} (h : zTct 4 ho co ga pe fh st de ab oe ot td sp sx rin rgt ra0 rst rs) (hco : 1 ≤ co.toInt ∧ co.toInt ≤ 9) {v co' : Int32} {ab' rin' : Nat → Int32} (e1 : co' = co + 1) (e2 : ab' = upd ab co.toNatClampNeg (ab v.toNatClampNeg ||| (1 : Int32) <<< (v &&& 31))) (e3 : rin' = upd rin ((40 : Int32) + co).toNatClampNeg v) (hv : 0 ≤ v.toInt ∧ v.toInt < co.toInt) : zTct 4 ho co' ga pe fh st de ab' oe ot td sp sx rin' rgt ra0 rst rs := by
  subst e1 e2 e3
  obtain ⟨c1, c2, c3, c4, c5, c6⟩ := h
  have e : (co + 1).toInt = co.toInt + 1 := zc_add1 (by omega)
  exact ⟨c1.new hco hv, c2.more (by omega), c3.more (by omega), c4.more (by omega), c5, c6⟩
theorem zTct.gate {ho co ga pe fh st de : Int32} {ab oe ot td sp sx rin rgt ra0 rst rs : Nat → Int32} (h : zTct 4 ho co ga pe fh st de ab oe ot td sp sx rin rgt ra0 rst rs) (hga : 0 ≤ ga.toInt ∧ ga.toInt ≤ 15) {a b ga' : Int32} {oe' ot' rgt' : Nat → Int32} (e1 : ga' = ga + 1) (e2 : oe' = upd oe ga.toNatClampNeg a) (e3 : ot' = upd ot ga.toNatClampNeg b) (e4 : rgt' = upd (upd rgt ((2 : Int32) * ((64 : Int32) + ga)).toNatClampNeg a) ((2 : Int32) * ((64 : Int32) + ga) + 1).toNatClampNeg b) (hab : ¬ a = b) (ha : 0 ≤ a.toInt ∧ a.toInt < co.toInt) (hb : 0 ≤ b.toInt ∧ b.toInt < co.toInt) : zTct 4 ho co ga' pe fh st de ab oe' ot' td sp sx rin rgt' ra0 rst rs := by
  subst e1 e2 e3 e4
  obtain ⟨c1, c2, c3, c4, c5, c6⟩ := h
  exact ⟨c1, c2.new hga hab ha hb, c3, c4, c5, c6⟩
theorem zTct.person {ho co ga pe fh st de : Int32} {ab oe ot td sp sx rin rgt ra0 rst rs : Nat → Int32} (h : zTct 4 ho co ga pe fh st de ab oe ot td sp sx rin rgt ra0 rst rs) {pe' st' : Int32} {td' sp' sx' ra0' rst' : Nat → Int32} (e1 : pe' = pe + 1) (hp : zCp 4 ho co (pe + 1) td' ra0') (hs : zCs 4 co (pe + 1) st' sp' sx' rst') : zTct 4 ho co ga pe' fh st' de ab oe ot td' sp' sx' rin rgt ra0' rst' rs := by
  subst e1
  obtain ⟨c1, c2, c3, c4, c5, c6⟩ := h
  exact ⟨c1, c2, hp, hs, c5, c6⟩
theorem zTct.law {ho co ga pe fh st de : Int32} {ab oe ot td sp sx rin rgt ra0 rst rs : Nat → Int32} (h : zTct 4 ho co ga pe fh st de ab oe ot td sp sx rin rgt ra0 rst rs) {x de' : Int32} {rs' : Nat → Int32} (e1 : rs' = upd rs 8 x) (e2 : de' = x) (e3 : x = 0 ∨ x = 1) : zTct 4 ho co ga pe fh st de' ab oe ot td sp sx rin rgt ra0 rst rs' := by
  subst e1 e2
  obtain ⟨c1, c2, c3, c4, c5, c6⟩ := h
  exact ⟨c1, c2, c3, c4, by rw [show 2 * 4 = 8 from rfl, pk_us], by rw [pk_un (show 2 * 4 + 1 ≠ 8 by decide)]; exact c6.1, e3⟩
theorem zTct.fals {ho co ga pe fh st de : Int32} {ab oe ot td sp sx rin rgt ra0 rst rs : Nat → Int32} (h : zTct 4 ho co ga pe fh st de ab oe ot td sp sx rin rgt ra0 rst rs) {x fh' : Int32} {rs' : Nat → Int32} (e1 : rs' = upd rs 9 x) (e2 : fh' = x) : zTct 4 ho co ga pe fh' st de ab oe ot td sp sx rin rgt ra0 rst rs' := by
  subst e1 e2
  obtain ⟨c1, c2, c3, c4, c5, c6⟩ := h
  exact ⟨c1, c2, c3, c4, by rw [pk_un (show 2 * 4 ≠ 9 by decide)]; exact c5, by rw [show 2 * 4 + 1 = 9 from rfl, pk_us], c6.2⟩
