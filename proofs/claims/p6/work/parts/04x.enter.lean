set_option linter.all false
/-! a table of decoded instructions -/
def z_d1 (c : ByteArray) (q : Nat × Instr × Nat) : Bool := decide (decode c q.1 = .ok (q.2.1, q.2.2))
def z_dall (c : ByteArray) (t : List (Nat × Instr × Nat)) : Bool := t.all (z_d1 c)
theorem z_d1_ok {c : ByteArray} {pc n : Nat} {i : Instr} (h : z_d1 c (pc, i, n) = true) : decode c pc = .ok (i, n) := by
  unfold z_d1 at h
  exact of_decide_eq_true h
theorem z_dec {c : ByteArray} {t : List (Nat × Instr × Nat)} (h : z_dall c t = true) (k : Nat) {pc n : Nat} {i : Instr} (e : t[k]? = some (pc, i, n)) : decode c pc = .ok (i, n) := z_d1_ok (List.all_eq_true.mp h _ (List.mem_of_getElem? e))
/-! a contract's start -/
theorem z_enter {l : Launch} {y : MethodName} {cc : ByteArray} {maxL : Nat} {ret : Option FieldType} {rm : Room} {Q : Array Value → State → Outcome → State → Prop} {mc ms : Nat} {As : List Value} {sa : Nat → Nat} {dC : Nat → ClassId} {dI : Nat → Nat → Nat} {ws : va_W} {tys : List (ClassId × FieldType)} {sz : Nat} (hpl : plainName y.cls = true) (hle : (lg_sl As).length ≤ maxL)
    (body : ∀ (p : Program) (e : Env) (s : State) (m : MethodId) (args : Array Value) (below : List Frame) (meth : Method) (c : Code) (ls : Array Slot) (A : Nat → Prop) (R : Room) (Qc : Array Value → State → Outcome → State → Prop), args = As.toArray → s.heap.size = sz → Q = Qc → va_A ws sz = A → (headSpec (.code y cc maxL ret :: zT) rm).room = R → p.tables.exec = Jvm.exec → c.code = cc → c.maxLocals = maxL → meth.sig.returnType = ret → (∀ w ∈ zT, w.before args s = true) → s.vm.findClass y.cls = some m.cls → meth.locks = false → meth.name = y.name → lv_has ls maxL (lv_args 0 As) → va_P (dC, dI) vwCl ws s.heap → va_K (dC, dI) vwCl tys s → va_D A ws → zN s → zX sa A s s.heap → (∀ q : Nat, s.heap.size ≤ q → A q) → va_S A s.heap s.heap [] → W p l e R s m args below meth c s.heap [] 0 0 (MQ below Qc args s mc ms A) (F0 m 0 ls [])) :
    Met l y (.code y cc maxL ret :: zT) rm (va_Pc As (zB sa dC dI ws tys sz)) Q mc ms (va_A ws sz) := by
  refine Met.ofW (cc := cc) (maxL := maxL) (ret := ret) hpl rfl ?_
  intro p e s m args below meth c s₁ B hml hv
  obtain ⟨hargs, hsz, hP, hK, hD0, hN, hXs⟩ := hv
  subst hsz
  have hl := lv_entry As (n := maxL) hle
  rw [show entryFrame m args maxL = F0 m 0 ((lg_sl As ++ List.replicate (maxL - (lg_sl As).length) Slot.unset).toArray) [] from by rw [hargs]; exact lg_entry_eq ..]
  exact body p e s m args below meth c _ _ _ _ hargs rfl rfl rfl rfl B.exec B.bytes hml B.returns (z_hts (atoms_spec (ws := .code y cc maxL ret :: zT) B.pre)) (findClass_of_methodNamed B.named) B.notSynchronized (name_of_methodNamed B.named B.method).1 hl hP hK (hD0.self (sz := s.heap.size)) hN hXs (fun q h => Or.inr h) va_S.rf
/-! a call's cells cut out, and put back -/
theorem z_mapf {ws : va_W} : ∀ (is : List Nat) (wc : va_W), is.map (fun i => ws[i]?) = wc.map some → is.filterMap (fun i => ws[i]?) = wc := by
  intro is
  induction is with
  | nil => intro wc h; cases wc with | nil => rfl | cons b l => cases h
  | cons a l ih =>
    intro wc h
    cases wc with
    | nil => cases h
    | cons b w =>
      rw [List.map_cons, List.map_cons, List.cons.injEq] at h
      rw [List.filterMap_cons, h.1, ih w h.2]
theorem z_cut {D : va_G} {cl : List vw_C} {ws wc : va_W} {A : Nat → Prop} {H0 H : Heap} {locs : List Loc} (hP : va_P D cl ws H) (hD : va_D A ws) (hS : va_S A H0 H locs) (hA : ∀ q : Nat, H0.size ≤ q → A q) (is : List Nat) (h : is.map (fun i => ws[i]?) = wc.map some) (hn : va_nd is = true) : va_P D cl wc H ∧ va_D A wc ∧ (∀ q : Nat, va_A wc H.size q → A q) := ⟨hP.sub is (z_mapf is wc h), hD.sub is hn h, va_free hD hS hA is h⟩
theorem z_fmap {ws : va_W} : ∀ is : List Nat, (is.all fun i => Nat.blt i ws.length) = true → is.map (fun i => ws[i]?) = (is.filterMap fun i => ws[i]?).map some := by
  intro is
  induction is with
  | nil => intro _; rfl
  | cons a l ih =>
    intro h
    rw [List.all_cons, Bool.and_eq_true] at h
    have ha : a < ws.length := Nat.le_of_ble_eq_true h.1
    rw [List.map_cons, List.filterMap_cons, List.getElem?_eq_getElem ha, ih h.2]
    rfl
theorem z_after3 {s t : State} {A0 : Nat → Prop} {dC : Nat → ClassId} {dI : Nat → Nat → Nat} {ws wc w1 wn : va_W} {t1 tys : List (ClassId × FieldType)} {H H1 : Heap} (hB : zW dC dI w1 t1 (va_A wc H.size) t) (ht : t.heap = H1) (hvm : s.vm.Alike t.vm) (hP : va_P (dC, dI) vwCl ws H) (hD : va_D A0 ws) (hK : va_K (dC, dI) vwCl tys s) (isC isR : List Nat) (hC : isC.map (fun i => ws[i]?) = wc.map some) (L : Nat) (hL : ws.length = L) (hlen : (isR.all fun i => Nat.blt i L) = true) (hwn : (isR.filterMap fun i => ws[i]?) ++ w1 = wn) (hn : (va_nd isR && isR.all fun i => !(isC.contains i)) = true)
    (hk : ∀ q : Nat, q < H.size → ¬ va_A wc H.size q → H1[q]? = H[q]?) (hF : ∀ q, va_A wc H.size q → A0 q) : va_P (dC, dI) vwCl wn H1 ∧ va_D A0 wn ∧ va_K (dC, dI) vwCl (tys ++ t1) s := by
  subst hwn hL
  rw [Bool.and_eq_true] at hn
  refine z_after _ hB ht hvm hP hD hK isC isR hC (z_fmap isR hlen) hn.1 (fun i h q => ?_) hk hF
  have z := List.all_eq_true.mp hn.2 i h
  exact absurd q (by simpa using z)
