theorem z_after3 {s t : State} {A0 : Nat → Prop} {dC : Nat → ClassId} {dI : Nat → Nat → Nat} {ws wc w1 wn : va_W} {t1 tys : List (ClassId × FieldType)} {H H1 : Heap} (hB : zW dC dI w1 t1 (va_A wc H.size) t) (ht : t.heap = H1) (hvm : s.vm.Alike t.vm) (hP : va_P (dC, dI) vwCl ws H) (hD : va_D A0 ws) (hK : va_K (dC, dI) vwCl tys s) (isC isR : List Nat) (hC : isC.map (fun i => ws[i]?) = wc.map some) (L : Nat) (hL : ws.length = L) (hlen : (isR.all fun i => Nat.blt i L) = true) (hwn : (isR.filterMap fun i => ws[i]?) ++ w1 = wn) (hn : (va_nd isR && isR.all fun i => !(isC.contains i)) = true)
    (hk : ∀ q : Nat, q < H.size → ¬ va_A wc H.size q → H1[q]? = H[q]?) (hF : ∀ q, va_A wc H.size q → A0 q) : va_P (dC, dI) vwCl wn H1 ∧ va_D A0 wn ∧ va_K (dC, dI) vwCl (tys ++ t1) s := by
  subst hwn hL
  rw [Bool.and_eq_true] at hn
  refine z_after _ hB ht hvm hP hD hK isC isR hC (z_fmap isR hlen) hn.1 (fun i h q => ?_) hk hF
  have z := List.all_eq_true.mp hn.2 i h
  exact absurd q (by simpa using z)
