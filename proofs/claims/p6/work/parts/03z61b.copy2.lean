set_option linter.all false
/-! a town copied from index to index -/
theorem zCc.copy {a b : Nat} (ha : a ≤ 4) (hb : b ≤ 4) (hab : ¬ a = b) {co : Int32} {ab rin : Nat → Int32} (h : zCc a co ab rin) (hco : co.toInt ≤ 10) : zCc b co ab (F_X10_copyRow_v3 (nI a) (nI b) rin) := by
  obtain ⟨e, -⟩ := zCop3 ha hb hab rin
  refine ⟨h.1, ?_, fun c h0 hc => ?_⟩
  · intro hz
    rw [show 10 * b = 10 * b + 0 by omega, e 0 (by omega)]; exact h.2.1 hz
  · obtain ⟨q, z1, z2, z3⟩ := h.2.2 c h0 hc
    exact ⟨q, z1, by rw [e c (by omega)]; exact z2, z3⟩
theorem zCg.copy {a b : Nat} (ha : a ≤ 4) (hb : b ≤ 4) (hab : ¬ a = b) {co ga : Int32} {oe ot rgt : Nat → Int32} (h : zCg a co ga oe ot rgt) (hga : ga.toInt ≤ 16) : zCg b co ga oe ot (F_X10_copyRow_v5 (nI a) (nI b) rgt) := by
  obtain ⟨e, -⟩ := zCop5 ha hb hab rgt
  intro g hg
  obtain ⟨z1, z2, z3⟩ := h g hg
  rw [e (2 * g) (by omega), show 32 * b + 2 * g + 1 = 32 * b + (2 * g + 1) by omega, e (2 * g + 1) (by omega)]
  exact ⟨z1, z2, z3⟩
theorem zCp.copy {a b : Nat} (ha : a ≤ 4) (hb : b ≤ 4) (hab : ¬ a = b) {ho co pe : Int32} {td ra0 : Nat → Int32} (h : zCp a ho co pe td ra0) (hho : ho.toInt ≤ 48) (hpe : pe.toInt ≤ 10) : zCp b ho co pe td (F_X10_copyRow_v6 (nI a) (nI b) ra0) := by
  obtain ⟨e, -⟩ := zCop6 ha hb hab ra0
  intro p j hp hj
  obtain ⟨z1, z2⟩ := h p j hp hj
  rw [show 480 * b + 48 * p + j = 480 * b + (48 * p + j) by omega, e (48 * p + j) (by omega), ← Nat.add_assoc]
  exact ⟨z1, z2⟩
theorem zCs.copy {a b : Nat} (ha : a ≤ 4) (hb : b ≤ 4) (hab : ¬ a = b) {co pe st : Int32} {sp sx rst : Nat → Int32} (h : zCs a co pe st sp sx rst) (hpe : pe.toInt ≤ 10) : zCs b co pe st sp sx (F_X10_copyRow_v7 (nI a) (nI b) rst) := by
  obtain ⟨e, -⟩ := zCop7 ha hb hab rst
  refine ⟨fun p hp => ?_, h.2⟩
  have z := h.1 p hp
  rw [e (2 * p) (by omega), show 20 * b + 2 * p + 1 = 20 * b + (2 * p + 1) by omega, e (2 * p + 1) (by omega)]
  exact z
theorem zTct.copy {a b : Nat} (ha : a ≤ 4) (hb : b ≤ 4) (hab : ¬ a = b) {ho co ga pe fh st de : Int32} {ab oe ot td sp sx rin rgt ra0 rst rs : Nat → Int32} (h : zTct a ho co ga pe fh st de ab oe ot td sp sx rin rgt ra0 rst rs) (hho : ho.toInt ≤ 48) (hco : co.toInt ≤ 10) (hga : ga.toInt ≤ 16) (hpe : pe.toInt ≤ 10) : zTct b ho co ga pe fh st de ab oe ot td sp sx (F_X10_copyRow_v3 (nI a) (nI b) rin) (F_X10_copyRow_v5 (nI a) (nI b) rgt) (F_X10_copyRow_v6 (nI a) (nI b) ra0) (F_X10_copyRow_v7 (nI a) (nI b) rst) (F_X10_copyRow_v8 (nI a) (nI b) rs) := by
  obtain ⟨c1, c2, c3, c4, c5, c6⟩ := h
  obtain ⟨e, -⟩ := zCop8 ha hb hab rs
  refine ⟨c1.copy ha hb hab hco, c2.copy ha hb hab hga, c3.copy ha hb hab hho hpe, c4.copy ha hb hab hpe, ?_, ?_, c6.2⟩
  · rw [show 2 * b = 2 * b + 0 by omega, e 0 (by omega)]; exact c5
  · rw [e 1 (by omega)]; exact c6.1
/-- which courts one in a court is counted in -/
def zShows (co de : Int32) (ab sh : Nat → Int32) : Prop := ∀ c : Nat, (c : Int) < co.toInt → sh c = if de = 0 then (1 : Int32) <<< (nI c &&& 31) else ab c ||| (1 : Int32) <<< (nI c &&& 31)
theorem zShow_go {co de : Int32} {ab : Nat → Int32} {n : Nat} (en : co = nI n) (hn : n ≤ 10) : ∀ (f m : Nat) (g : Nat → Int32), 10 - m < f → m ≤ 10 → (∀ c : Nat, c < m → c < n → g c = if de = 0 then (1 : Int32) <<< (nI c &&& 31) else ab c ||| (1 : Int32) <<< (nI c &&& 31)) → ∀ c : Nat, c < n → L_X5_showPlaces_1 co de ab K_X5_showPlaces_1_0 f (nI m) g c = if de = 0 then (1 : Int32) <<< (nI c &&& 31) else ab c ||| (1 : Int32) <<< (nI c &&& 31) := by
  intro f
  induction f with
  | zero => intro m g h; omega
  | succ f ih =>
    intro m g hf hm hg c hc
    rw [L_X5_showPlaces_1_s]
    unfold B_X5_showPlaces_1
    simp only [↓zL_p]
    try simp only [zn_inc, nI_clamp (show m < 2 ^ 31 by omega)]
    rw [en]
    rcases Nat.lt_or_ge m n with q | q
    · rw [if_neg (nI_ge q (by omega)), ← en]
      by_cases e : de = 0
      · rw [if_pos e]
        refine ih (m + 1) _ (by omega) (by omega) (fun c' h1 h2 => ?_) c hc
        by_cases w : c' = m
        · rw [w, pk_us, if_pos e]
        · rw [pk_un (show c' ≠ m from w)]; exact hg c' (by omega) h2
      · rw [if_neg e]
        refine ih (m + 1) _ (by omega) (by omega) (fun c' h1 h2 => ?_) c hc
        by_cases w : c' = m
        · rw [w, pk_us, if_neg e]
        · rw [pk_un (show c' ≠ m from w)]; exact hg c' (by omega) h2
    · rw [if_pos (nI_le q (by omega))]
      exact hg c (by omega) hc
theorem zShow {co de : Int32} {ab g : Nat → Int32} (hco : 0 ≤ co.toInt ∧ co.toInt ≤ 10) : zShows co de ab (F_X5_showPlaces co de ab g) := by
  obtain ⟨n, hn, en, i9⟩ := zc_nat (x := co) (m := 10) hco.1 hco.2 (by decide)
  intro c hc
  have z := zShow_go (de := de) (ab := ab) en hn 12 0 g (by omega) (by omega) (fun c h => absurd h (by omega)) c (by omega)
  rw [nI_0] at z
  exact z
/-- a town of the class, and the reference's at an index -/
def zTn (i : Nat) (ho co ga pe li fh st de : Int32) (ab oe ot td sp sx sh rl rh rc rg rpe rin rgt ra0 rst rs : Nat → Int32) : Prop := ho = rh i ∧ co = rc i ∧ ga = rg i ∧ pe = rpe i ∧ li = rl i ∧ zTct i ho co ga pe fh st de ab oe ot td sp sx rin rgt ra0 rst rs ∧ zShows co de ab sh ∧ (de = 0 ∨ de = 1)
theorem zTn.copy {a b : Nat} (ha : a ≤ 4) (hb : b ≤ 4) (hab : ¬ a = b) {ho co ga pe li fh st de : Int32} {ab oe ot td sp sx sh rl rh rc rg rpe rin rgt ra0 rst rs : Nat → Int32} (h : zTn a ho co ga pe li fh st de ab oe ot td sp sx sh rl rh rc rg rpe rin rgt ra0 rst rs) (hho : ho.toInt ≤ 48) (hco : co.toInt ≤ 10) (hga : ga.toInt ≤ 16) (hpe : pe.toInt ≤ 10) : zTn b ho co ga pe li fh st de ab oe ot td sp sx sh (F_X10_copyRow (nI a) (nI b) rl) (F_X10_copyRow_v1 (nI a) (nI b) rh) (F_X10_copyRow_v2 (nI a) (nI b) rc) (F_X10_copyRow_v4 (nI a) (nI b) rg) (F_X10_copyRow_v2 (nI a) (nI b) rpe) (F_X10_copyRow_v3 (nI a) (nI b) rin) (F_X10_copyRow_v5 (nI a) (nI b) rgt) (F_X10_copyRow_v6 (nI a) (nI b) ra0) (F_X10_copyRow_v7 (nI a) (nI b) rst) (F_X10_copyRow_v8 (nI a) (nI b) rs) := by
  obtain ⟨h1, h2, h3, h4, h5, h6, h7, h8⟩ := h
  have e0 := (zCop0 ha hb hab rl).1 0 (by omega)
  have e1 := (zCop1 ha hb hab rh).1 0 (by omega)
  have e2 := (zCop2 ha hb hab rc).1 0 (by omega)
  have e3 := (zCop4 ha hb hab rg).1 0 (by omega)
  have e4 := (zCop2 ha hb hab rpe).1 0 (by omega)
  rw [show 1 * b + 0 = b by omega, show 1 * a + 0 = a by omega] at e0 e1 e2 e3 e4
  exact ⟨h1.trans e1.symm, h2.trans e2.symm, h3.trans e3.symm, h4.trans e4.symm, h5.trans e0.symm, h6.copy ha hb hab hho hco hga hpe, h7, h8⟩
theorem zTn.copy4 {ho co ga pe li fh st de : Int32} {ab oe ot td sp sx g rl rh rc rg rpe rin rgt ra0 rst rs : Nat → Int32} (h1 : ho = rh 4) (h2 : co = rc 4) (h3 : ga = rg 4) (h4 : pe = rpe 4) (h5 : li = rl 4) (h6 : zTct 4 ho co ga pe fh st de ab oe ot td sp sx rin rgt ra0 rst rs) (h8 : de = 0 ∨ de = 1) (b1 : 0 ≤ ho.toInt ∧ ho.toInt ≤ 48) (b2 : 0 ≤ co.toInt ∧ co.toInt ≤ 10) (b3 : 0 ≤ ga.toInt ∧ ga.toInt ≤ 16) (b4 : 0 ≤ pe.toInt ∧ pe.toInt ≤ 10) : zTn 0 ho co ga pe li fh st de ab oe ot td sp sx (F_X5_showPlaces co de ab g) (F_X10_copyRow 4 0 rl) (F_X10_copyRow_v1 4 0 rh) (F_X10_copyRow_v2 4 0 rc) (F_X10_copyRow_v4 4 0 rg) (F_X10_copyRow_v2 4 0 rpe) (F_X10_copyRow_v3 4 0 rin) (F_X10_copyRow_v5 4 0 rgt) (F_X10_copyRow_v6 4 0 ra0) (F_X10_copyRow_v7 4 0 rst) (F_X10_copyRow_v8 4 0 rs) := by
  have z := zTn.copy (a := 4) (b := 0) (by omega) (by omega) (by omega) (sh := F_X5_showPlaces co de ab g) ⟨h1, h2, h3, h4, h5, h6, zShow b2, h8⟩ b1.2 b2.2 b3.2 b4.2
  rw [show nI 4 = (4 : Int32) from by decide, nI_0] at z
  exact z
