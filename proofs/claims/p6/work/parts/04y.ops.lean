set_option linter.all false
/-! decoding by opcode -/
def z_by (c : ByteArray) (pc : Nat) : Option Nat := if h : pc < c.size then some c[pc].toNat else none
theorem z_u1 {c : ByteArray} {pc b : Nat} (h : z_by c pc = some b) : (Reader.u1 : Decoder Nat) c pc = .ok (b, pc + 1) := by
  unfold z_by at h
  by_cases q : pc < c.size
  · rw [dif_pos q] at h
    show (dite (pc < c.size) (fun h => (do set (pc + 1); pure c[pc].toNat : Decoder Nat)) (fun _ => throw (HasTruncated.truncated pc))) c pc = _
    rw [dif_pos q]
    show Except.ok (c[pc].toNat, pc + 1) = _
    rw [Option.some.inj h]
  · rw [dif_neg q] at h
    cases h
theorem z_u2 {c : ByteArray} {pc a b : Nat} (h1 : z_by c pc = some a) (h2 : z_by c (pc + 1) = some b) : (Reader.u2 : Decoder Nat) c pc = .ok (a * 256 + b, pc + 1 + 1) := by
  show Except.bind ((Reader.u1 : Decoder Nat) c pc) _ = _
  rw [z_u1 h1]
  show Except.bind ((Reader.u1 : Decoder Nat) c (pc + 1)) _ = _
  rw [z_u1 h2]
  rfl
theorem z_sg1 {c : ByteArray} {pc b : Nat} {v : Int} (h : z_by c pc = some b) (hv : Reader.signed 8 b = v) : (Reader.s1 : Decoder Int) c pc = .ok (v, pc + 1) := by
  show Except.bind ((Reader.u1 : Decoder Nat) c pc) _ = _
  rw [z_u1 h, ← hv]
  rfl
theorem z_sg2 {c : ByteArray} {pc a b : Nat} {v : Int} (h1 : z_by c pc = some a) (h2 : z_by c (pc + 1) = some b) (hv : Reader.signed 16 (a * 256 + b) = v) : (Reader.s2 : Decoder Int) c pc = .ok (v, pc + 1 + 1) := by
  show Except.bind ((Reader.u2 : Decoder Nat) c pc) _ = _
  rw [z_u2 h1 h2, ← hv]
  rfl
/-- the bytes of a method -/
def z_bys (c : ByteArray) : Nat → List Nat → Bool
  | _, [] => true
  | k, b :: l => decide (z_by c k = some b) && z_bys c (k + 1) l
theorem z_byk {c : ByteArray} : ∀ (l : List Nat) (s k b : Nat), z_bys c s l = true → l[k]? = some b → z_by c (s + k) = some b := by
  intro l
  induction l with
  | nil => intro s k b _ h; simp at h
  | cons a l ih =>
    intro s k b h hk
    rw [z_bys, Bool.and_eq_true] at h
    cases k with
    | zero => rw [List.getElem?_cons_zero] at hk; rw [Nat.add_zero, ← hk]; exact of_decide_eq_true h.1
    | succ k => rw [List.getElem?_cons_succ] at hk; rw [show s + (k + 1) = s + 1 + k by omega]; exact ih (s + 1) k b h.2 hk
theorem z_b {c : ByteArray} {l : List Nat} (h : z_bys c 0 l = true) (k : Nat) {b : Nat} (hk : l[k]? = some b) : z_by c k = some b := by
  have := z_byk l 0 k b h hk
  rwa [Nat.zero_add] at this
theorem zo_46 {c : ByteArray} {pc : Nat} (h : z_by c pc = some 46) : decode c pc = .ok (.iaload, 1) := by
  show Except.bind (Except.bind ((Reader.u1 : Decoder Nat) c pc) _) _ = _
  rw [z_u1 h]
  show Except.ok (Instr.iaload, pc + 1 - pc) = _
  rw [Nat.add_sub_cancel_left]
theorem zo_96 {c : ByteArray} {pc : Nat} (h : z_by c pc = some 96) : decode c pc = .ok (.iadd, 1) := by
  show Except.bind (Except.bind ((Reader.u1 : Decoder Nat) c pc) _) _ = _
  rw [z_u1 h]
  show Except.ok (Instr.iadd, pc + 1 - pc) = _
  rw [Nat.add_sub_cancel_left]
theorem zo_172 {c : ByteArray} {pc : Nat} (h : z_by c pc = some 172) : decode c pc = .ok (.ireturn, 1) := by
  show Except.bind (Except.bind ((Reader.u1 : Decoder Nat) c pc) _) _ = _
  rw [z_u1 h]
  show Except.ok (Instr.ireturn, pc + 1 - pc) = _
  rw [Nat.add_sub_cancel_left]
theorem zo_87 {c : ByteArray} {pc : Nat} (h : z_by c pc = some 87) : decode c pc = .ok (.pop, 1) := by
  show Except.bind (Except.bind ((Reader.u1 : Decoder Nat) c pc) _) _ = _
  rw [z_u1 h]
  show Except.ok (Instr.pop, pc + 1 - pc) = _
  rw [Nat.add_sub_cancel_left]
theorem zo_177 {c : ByteArray} {pc : Nat} (h : z_by c pc = some 177) : decode c pc = .ok (.return_, 1) := by
  show Except.bind (Except.bind ((Reader.u1 : Decoder Nat) c pc) _) _ = _
  rw [z_u1 h]
  show Except.ok (Instr.return_, pc + 1 - pc) = _
  rw [Nat.add_sub_cancel_left]
theorem zo_79 {c : ByteArray} {pc : Nat} (h : z_by c pc = some 79) : decode c pc = .ok (.iastore, 1) := by
  show Except.bind (Except.bind ((Reader.u1 : Decoder Nat) c pc) _) _ = _
  rw [z_u1 h]
  show Except.ok (Instr.iastore, pc + 1 - pc) = _
  rw [Nat.add_sub_cancel_left]
theorem zo_133 {c : ByteArray} {pc : Nat} (h : z_by c pc = some 133) : decode c pc = .ok (.i2l, 1) := by
  show Except.bind (Except.bind ((Reader.u1 : Decoder Nat) c pc) _) _ = _
  rw [z_u1 h]
  show Except.ok (Instr.i2l, pc + 1 - pc) = _
  rw [Nat.add_sub_cancel_left]
theorem zo_104 {c : ByteArray} {pc : Nat} (h : z_by c pc = some 104) : decode c pc = .ok (.imul, 1) := by
  show Except.bind (Except.bind ((Reader.u1 : Decoder Nat) c pc) _) _ = _
  rw [z_u1 h]
  show Except.ok (Instr.imul, pc + 1 - pc) = _
  rw [Nat.add_sub_cancel_left]
theorem zo_126 {c : ByteArray} {pc : Nat} (h : z_by c pc = some 126) : decode c pc = .ok (.iand, 1) := by
  show Except.bind (Except.bind ((Reader.u1 : Decoder Nat) c pc) _) _ = _
  rw [z_u1 h]
  show Except.ok (Instr.iand, pc + 1 - pc) = _
  rw [Nat.add_sub_cancel_left]
theorem zo_120 {c : ByteArray} {pc : Nat} (h : z_by c pc = some 120) : decode c pc = .ok (.ishl, 1) := by
  show Except.bind (Except.bind ((Reader.u1 : Decoder Nat) c pc) _) _ = _
  rw [z_u1 h]
  show Except.ok (Instr.ishl, pc + 1 - pc) = _
  rw [Nat.add_sub_cancel_left]
theorem zo_100 {c : ByteArray} {pc : Nat} (h : z_by c pc = some 100) : decode c pc = .ok (.isub, 1) := by
  show Except.bind (Except.bind ((Reader.u1 : Decoder Nat) c pc) _) _ = _
  rw [z_u1 h]
  show Except.ok (Instr.isub, pc + 1 - pc) = _
  rw [Nat.add_sub_cancel_left]
theorem zo_128 {c : ByteArray} {pc : Nat} (h : z_by c pc = some 128) : decode c pc = .ok (.ior, 1) := by
  show Except.bind (Except.bind ((Reader.u1 : Decoder Nat) c pc) _) _ = _
  rw [z_u1 h]
  show Except.ok (Instr.ior, pc + 1 - pc) = _
  rw [Nat.add_sub_cancel_left]
theorem zo_89 {c : ByteArray} {pc : Nat} (h : z_by c pc = some 89) : decode c pc = .ok (.dup, 1) := by
  show Except.bind (Except.bind ((Reader.u1 : Decoder Nat) c pc) _) _ = _
  rw [z_u1 h]
  show Except.ok (Instr.dup, pc + 1 - pc) = _
  rw [Nat.add_sub_cancel_left]
theorem zo_173 {c : ByteArray} {pc : Nat} (h : z_by c pc = some 173) : decode c pc = .ok (.lreturn, 1) := by
  show Except.bind (Except.bind ((Reader.u1 : Decoder Nat) c pc) _) _ = _
  rw [z_u1 h]
  show Except.ok (Instr.lreturn, pc + 1 - pc) = _
  rw [Nat.add_sub_cancel_left]
theorem zo_122 {c : ByteArray} {pc : Nat} (h : z_by c pc = some 122) : decode c pc = .ok (.ishr, 1) := by
  show Except.bind (Except.bind ((Reader.u1 : Decoder Nat) c pc) _) _ = _
  rw [z_u1 h]
  show Except.ok (Instr.ishr, pc + 1 - pc) = _
  rw [Nat.add_sub_cancel_left]
theorem zo_47 {c : ByteArray} {pc : Nat} (h : z_by c pc = some 47) : decode c pc = .ok (.laload, 1) := by
  show Except.bind (Except.bind ((Reader.u1 : Decoder Nat) c pc) _) _ = _
  rw [z_u1 h]
  show Except.ok (Instr.laload, pc + 1 - pc) = _
  rw [Nat.add_sub_cancel_left]
theorem zo_148 {c : ByteArray} {pc : Nat} (h : z_by c pc = some 148) : decode c pc = .ok (.lcmp, 1) := by
  show Except.bind (Except.bind ((Reader.u1 : Decoder Nat) c pc) _) _ = _
  rw [z_u1 h]
  show Except.ok (Instr.lcmp, pc + 1 - pc) = _
  rw [Nat.add_sub_cancel_left]
theorem zo_130 {c : ByteArray} {pc : Nat} (h : z_by c pc = some 130) : decode c pc = .ok (.ixor, 1) := by
  show Except.bind (Except.bind ((Reader.u1 : Decoder Nat) c pc) _) _ = _
  rw [z_u1 h]
  show Except.ok (Instr.ixor, pc + 1 - pc) = _
  rw [Nat.add_sub_cancel_left]
theorem zo_80 {c : ByteArray} {pc : Nat} (h : z_by c pc = some 80) : decode c pc = .ok (.lastore, 1) := by
  show Except.bind (Except.bind ((Reader.u1 : Decoder Nat) c pc) _) _ = _
  rw [z_u1 h]
  show Except.ok (Instr.lastore, pc + 1 - pc) = _
  rw [Nat.add_sub_cancel_left]
theorem zo_51 {c : ByteArray} {pc : Nat} (h : z_by c pc = some 51) : decode c pc = .ok (.baload, 1) := by
  show Except.bind (Except.bind ((Reader.u1 : Decoder Nat) c pc) _) _ = _
  rw [z_u1 h]
  show Except.ok (Instr.baload, pc + 1 - pc) = _
  rw [Nat.add_sub_cancel_left]
theorem zo_105 {c : ByteArray} {pc : Nat} (h : z_by c pc = some 105) : decode c pc = .ok (.lmul, 1) := by
  show Except.bind (Except.bind ((Reader.u1 : Decoder Nat) c pc) _) _ = _
  rw [z_u1 h]
  show Except.ok (Instr.lmul, pc + 1 - pc) = _
  rw [Nat.add_sub_cancel_left]
theorem zo_97 {c : ByteArray} {pc : Nat} (h : z_by c pc = some 97) : decode c pc = .ok (.ladd, 1) := by
  show Except.bind (Except.bind ((Reader.u1 : Decoder Nat) c pc) _) _ = _
  rw [z_u1 h]
  show Except.ok (Instr.ladd, pc + 1 - pc) = _
  rw [Nat.add_sub_cancel_left]
theorem zo_108 {c : ByteArray} {pc : Nat} (h : z_by c pc = some 108) : decode c pc = .ok (.idiv, 1) := by
  show Except.bind (Except.bind ((Reader.u1 : Decoder Nat) c pc) _) _ = _
  rw [z_u1 h]
  show Except.ok (Instr.idiv, pc + 1 - pc) = _
  rw [Nat.add_sub_cancel_left]
theorem zo_136 {c : ByteArray} {pc : Nat} (h : z_by c pc = some 136) : decode c pc = .ok (.l2i, 1) := by
  show Except.bind (Except.bind ((Reader.u1 : Decoder Nat) c pc) _) _ = _
  rw [z_u1 h]
  show Except.ok (Instr.l2i, pc + 1 - pc) = _
  rw [Nat.add_sub_cancel_left]
theorem zo_92 {c : ByteArray} {pc : Nat} (h : z_by c pc = some 92) : decode c pc = .ok (.dup2, 1) := by
  show Except.bind (Except.bind ((Reader.u1 : Decoder Nat) c pc) _) _ = _
  rw [z_u1 h]
  show Except.ok (Instr.dup2, pc + 1 - pc) = _
  rw [Nat.add_sub_cancel_left]
theorem zo_88 {c : ByteArray} {pc : Nat} (h : z_by c pc = some 88) : decode c pc = .ok (.pop2, 1) := by
  show Except.bind (Except.bind ((Reader.u1 : Decoder Nat) c pc) _) _ = _
  rw [z_u1 h]
  show Except.ok (Instr.pop2, pc + 1 - pc) = _
  rw [Nat.add_sub_cancel_left]
theorem zo_112 {c : ByteArray} {pc : Nat} (h : z_by c pc = some 112) : decode c pc = .ok (.irem, 1) := by
  show Except.bind (Except.bind ((Reader.u1 : Decoder Nat) c pc) _) _ = _
  rw [z_u1 h]
  show Except.ok (Instr.irem, pc + 1 - pc) = _
  rw [Nat.add_sub_cancel_left]
theorem zo_84 {c : ByteArray} {pc : Nat} (h : z_by c pc = some 84) : decode c pc = .ok (.bastore, 1) := by
  show Except.bind (Except.bind ((Reader.u1 : Decoder Nat) c pc) _) _ = _
  rw [z_u1 h]
  show Except.ok (Instr.bastore, pc + 1 - pc) = _
  rw [Nat.add_sub_cancel_left]
theorem zo_50 {c : ByteArray} {pc : Nat} (h : z_by c pc = some 50) : decode c pc = .ok (.aaload, 1) := by
  show Except.bind (Except.bind ((Reader.u1 : Decoder Nat) c pc) _) _ = _
  rw [z_u1 h]
  show Except.ok (Instr.aaload, pc + 1 - pc) = _
  rw [Nat.add_sub_cancel_left]
theorem zo_124 {c : ByteArray} {pc : Nat} (h : z_by c pc = some 124) : decode c pc = .ok (.iushr, 1) := by
  show Except.bind (Except.bind ((Reader.u1 : Decoder Nat) c pc) _) _ = _
  rw [z_u1 h]
  show Except.ok (Instr.iushr, pc + 1 - pc) = _
  rw [Nat.add_sub_cancel_left]
theorem zo_109 {c : ByteArray} {pc : Nat} (h : z_by c pc = some 109) : decode c pc = .ok (.ldiv, 1) := by
  show Except.bind (Except.bind ((Reader.u1 : Decoder Nat) c pc) _) _ = _
  rw [z_u1 h]
  show Except.ok (Instr.ldiv, pc + 1 - pc) = _
  rw [Nat.add_sub_cancel_left]
theorem zo_101 {c : ByteArray} {pc : Nat} (h : z_by c pc = some 101) : decode c pc = .ok (.lsub, 1) := by
  show Except.bind (Except.bind ((Reader.u1 : Decoder Nat) c pc) _) _ = _
  rw [z_u1 h]
  show Except.ok (Instr.lsub, pc + 1 - pc) = _
  rw [Nat.add_sub_cancel_left]
theorem zo_113 {c : ByteArray} {pc : Nat} (h : z_by c pc = some 113) : decode c pc = .ok (.lrem, 1) := by
  show Except.bind (Except.bind ((Reader.u1 : Decoder Nat) c pc) _) _ = _
  rw [z_u1 h]
  show Except.ok (Instr.lrem, pc + 1 - pc) = _
  rw [Nat.add_sub_cancel_left]
theorem zo_190 {c : ByteArray} {pc : Nat} (h : z_by c pc = some 190) : decode c pc = .ok (.arraylength, 1) := by
  show Except.bind (Except.bind ((Reader.u1 : Decoder Nat) c pc) _) _ = _
  rw [z_u1 h]
  show Except.ok (Instr.arraylength, pc + 1 - pc) = _
  rw [Nat.add_sub_cancel_left]
theorem zo_129 {c : ByteArray} {pc : Nat} (h : z_by c pc = some 129) : decode c pc = .ok (.lor, 1) := by
  show Except.bind (Except.bind ((Reader.u1 : Decoder Nat) c pc) _) _ = _
  rw [z_u1 h]
  show Except.ok (Instr.lor, pc + 1 - pc) = _
  rw [Nat.add_sub_cancel_left]
theorem zo_127 {c : ByteArray} {pc : Nat} (h : z_by c pc = some 127) : decode c pc = .ok (.land, 1) := by
  show Except.bind (Except.bind ((Reader.u1 : Decoder Nat) c pc) _) _ = _
  rw [z_u1 h]
  show Except.ok (Instr.land, pc + 1 - pc) = _
  rw [Nat.add_sub_cancel_left]
theorem zo_145 {c : ByteArray} {pc : Nat} (h : z_by c pc = some 145) : decode c pc = .ok (.i2b, 1) := by
  show Except.bind (Except.bind ((Reader.u1 : Decoder Nat) c pc) _) _ = _
  rw [z_u1 h]
  show Except.ok (Instr.i2b, pc + 1 - pc) = _
  rw [Nat.add_sub_cancel_left]
theorem zo_121 {c : ByteArray} {pc : Nat} (h : z_by c pc = some 121) : decode c pc = .ok (.lshl, 1) := by
  show Except.bind (Except.bind ((Reader.u1 : Decoder Nat) c pc) _) _ = _
  rw [z_u1 h]
  show Except.ok (Instr.lshl, pc + 1 - pc) = _
  rw [Nat.add_sub_cancel_left]
theorem zo_147 {c : ByteArray} {pc : Nat} (h : z_by c pc = some 147) : decode c pc = .ok (.i2s, 1) := by
  show Except.bind (Except.bind ((Reader.u1 : Decoder Nat) c pc) _) _ = _
  rw [z_u1 h]
  show Except.ok (Instr.i2s, pc + 1 - pc) = _
  rw [Nat.add_sub_cancel_left]
theorem zo_83 {c : ByteArray} {pc : Nat} (h : z_by c pc = some 83) : decode c pc = .ok (.aastore, 1) := by
  show Except.bind (Except.bind ((Reader.u1 : Decoder Nat) c pc) _) _ = _
  rw [z_u1 h]
  show Except.ok (Instr.aastore, pc + 1 - pc) = _
  rw [Nat.add_sub_cancel_left]
theorem zo_125 {c : ByteArray} {pc : Nat} (h : z_by c pc = some 125) : decode c pc = .ok (.lushr, 1) := by
  show Except.bind (Except.bind ((Reader.u1 : Decoder Nat) c pc) _) _ = _
  rw [z_u1 h]
  show Except.ok (Instr.lushr, pc + 1 - pc) = _
  rw [Nat.add_sub_cancel_left]
theorem zo_146 {c : ByteArray} {pc : Nat} (h : z_by c pc = some 146) : decode c pc = .ok (.i2c, 1) := by
  show Except.bind (Except.bind ((Reader.u1 : Decoder Nat) c pc) _) _ = _
  rw [z_u1 h]
  show Except.ok (Instr.i2c, pc + 1 - pc) = _
  rw [Nat.add_sub_cancel_left]
theorem zo_176 {c : ByteArray} {pc : Nat} (h : z_by c pc = some 176) : decode c pc = .ok (.areturn, 1) := by
  show Except.bind (Except.bind ((Reader.u1 : Decoder Nat) c pc) _) _ = _
  rw [z_u1 h]
  show Except.ok (Instr.areturn, pc + 1 - pc) = _
  rw [Nat.add_sub_cancel_left]
theorem zo_1 {c : ByteArray} {pc : Nat} (h : z_by c pc = some 1) : decode c pc = .ok (.aconst_null, 1) := by
  show Except.bind (Except.bind ((Reader.u1 : Decoder Nat) c pc) _) _ = _
  rw [z_u1 h]
  show Except.ok (Instr.aconst_null, pc + 1 - pc) = _
  rw [Nat.add_sub_cancel_left]
theorem zo_42 {c : ByteArray} {pc : Nat} (h : z_by c pc = some 42) : decode c pc = .ok (.aload_n 0, 1) := by
  show Except.bind (Except.bind ((Reader.u1 : Decoder Nat) c pc) _) _ = _
  rw [z_u1 h]
  show Except.ok (Instr.aload_n 0, pc + 1 - pc) = _
  rw [Nat.add_sub_cancel_left]
theorem zo_43 {c : ByteArray} {pc : Nat} (h : z_by c pc = some 43) : decode c pc = .ok (.aload_n 1, 1) := by
  show Except.bind (Except.bind ((Reader.u1 : Decoder Nat) c pc) _) _ = _
  rw [z_u1 h]
  show Except.ok (Instr.aload_n 1, pc + 1 - pc) = _
  rw [Nat.add_sub_cancel_left]
theorem zo_44 {c : ByteArray} {pc : Nat} (h : z_by c pc = some 44) : decode c pc = .ok (.aload_n 2, 1) := by
  show Except.bind (Except.bind ((Reader.u1 : Decoder Nat) c pc) _) _ = _
  rw [z_u1 h]
  show Except.ok (Instr.aload_n 2, pc + 1 - pc) = _
  rw [Nat.add_sub_cancel_left]
theorem zo_45 {c : ByteArray} {pc : Nat} (h : z_by c pc = some 45) : decode c pc = .ok (.aload_n 3, 1) := by
  show Except.bind (Except.bind ((Reader.u1 : Decoder Nat) c pc) _) _ = _
  rw [z_u1 h]
  show Except.ok (Instr.aload_n 3, pc + 1 - pc) = _
  rw [Nat.add_sub_cancel_left]
theorem zo_26 {c : ByteArray} {pc : Nat} (h : z_by c pc = some 26) : decode c pc = .ok (.iload_n 0, 1) := by
  show Except.bind (Except.bind ((Reader.u1 : Decoder Nat) c pc) _) _ = _
  rw [z_u1 h]
  show Except.ok (Instr.iload_n 0, pc + 1 - pc) = _
  rw [Nat.add_sub_cancel_left]
theorem zo_27 {c : ByteArray} {pc : Nat} (h : z_by c pc = some 27) : decode c pc = .ok (.iload_n 1, 1) := by
  show Except.bind (Except.bind ((Reader.u1 : Decoder Nat) c pc) _) _ = _
  rw [z_u1 h]
  show Except.ok (Instr.iload_n 1, pc + 1 - pc) = _
  rw [Nat.add_sub_cancel_left]
theorem zo_28 {c : ByteArray} {pc : Nat} (h : z_by c pc = some 28) : decode c pc = .ok (.iload_n 2, 1) := by
  show Except.bind (Except.bind ((Reader.u1 : Decoder Nat) c pc) _) _ = _
  rw [z_u1 h]
  show Except.ok (Instr.iload_n 2, pc + 1 - pc) = _
  rw [Nat.add_sub_cancel_left]
theorem zo_29 {c : ByteArray} {pc : Nat} (h : z_by c pc = some 29) : decode c pc = .ok (.iload_n 3, 1) := by
  show Except.bind (Except.bind ((Reader.u1 : Decoder Nat) c pc) _) _ = _
  rw [z_u1 h]
  show Except.ok (Instr.iload_n 3, pc + 1 - pc) = _
  rw [Nat.add_sub_cancel_left]
theorem zo_59 {c : ByteArray} {pc : Nat} (h : z_by c pc = some 59) : decode c pc = .ok (.istore_n 0, 1) := by
  show Except.bind (Except.bind ((Reader.u1 : Decoder Nat) c pc) _) _ = _
  rw [z_u1 h]
  show Except.ok (Instr.istore_n 0, pc + 1 - pc) = _
  rw [Nat.add_sub_cancel_left]
theorem zo_60 {c : ByteArray} {pc : Nat} (h : z_by c pc = some 60) : decode c pc = .ok (.istore_n 1, 1) := by
  show Except.bind (Except.bind ((Reader.u1 : Decoder Nat) c pc) _) _ = _
  rw [z_u1 h]
  show Except.ok (Instr.istore_n 1, pc + 1 - pc) = _
  rw [Nat.add_sub_cancel_left]
theorem zo_61 {c : ByteArray} {pc : Nat} (h : z_by c pc = some 61) : decode c pc = .ok (.istore_n 2, 1) := by
  show Except.bind (Except.bind ((Reader.u1 : Decoder Nat) c pc) _) _ = _
  rw [z_u1 h]
  show Except.ok (Instr.istore_n 2, pc + 1 - pc) = _
  rw [Nat.add_sub_cancel_left]
theorem zo_62 {c : ByteArray} {pc : Nat} (h : z_by c pc = some 62) : decode c pc = .ok (.istore_n 3, 1) := by
  show Except.bind (Except.bind ((Reader.u1 : Decoder Nat) c pc) _) _ = _
  rw [z_u1 h]
  show Except.ok (Instr.istore_n 3, pc + 1 - pc) = _
  rw [Nat.add_sub_cancel_left]
theorem zo_30 {c : ByteArray} {pc : Nat} (h : z_by c pc = some 30) : decode c pc = .ok (.lload_n 0, 1) := by
  show Except.bind (Except.bind ((Reader.u1 : Decoder Nat) c pc) _) _ = _
  rw [z_u1 h]
  show Except.ok (Instr.lload_n 0, pc + 1 - pc) = _
  rw [Nat.add_sub_cancel_left]
theorem zo_31 {c : ByteArray} {pc : Nat} (h : z_by c pc = some 31) : decode c pc = .ok (.lload_n 1, 1) := by
  show Except.bind (Except.bind ((Reader.u1 : Decoder Nat) c pc) _) _ = _
  rw [z_u1 h]
  show Except.ok (Instr.lload_n 1, pc + 1 - pc) = _
  rw [Nat.add_sub_cancel_left]
theorem zo_32 {c : ByteArray} {pc : Nat} (h : z_by c pc = some 32) : decode c pc = .ok (.lload_n 2, 1) := by
  show Except.bind (Except.bind ((Reader.u1 : Decoder Nat) c pc) _) _ = _
  rw [z_u1 h]
  show Except.ok (Instr.lload_n 2, pc + 1 - pc) = _
  rw [Nat.add_sub_cancel_left]
theorem zo_33 {c : ByteArray} {pc : Nat} (h : z_by c pc = some 33) : decode c pc = .ok (.lload_n 3, 1) := by
  show Except.bind (Except.bind ((Reader.u1 : Decoder Nat) c pc) _) _ = _
  rw [z_u1 h]
  show Except.ok (Instr.lload_n 3, pc + 1 - pc) = _
  rw [Nat.add_sub_cancel_left]
theorem zo_75 {c : ByteArray} {pc : Nat} (h : z_by c pc = some 75) : decode c pc = .ok (.astore_n 0, 1) := by
  show Except.bind (Except.bind ((Reader.u1 : Decoder Nat) c pc) _) _ = _
  rw [z_u1 h]
  show Except.ok (Instr.astore_n 0, pc + 1 - pc) = _
  rw [Nat.add_sub_cancel_left]
theorem zo_76 {c : ByteArray} {pc : Nat} (h : z_by c pc = some 76) : decode c pc = .ok (.astore_n 1, 1) := by
  show Except.bind (Except.bind ((Reader.u1 : Decoder Nat) c pc) _) _ = _
  rw [z_u1 h]
  show Except.ok (Instr.astore_n 1, pc + 1 - pc) = _
  rw [Nat.add_sub_cancel_left]
theorem zo_77 {c : ByteArray} {pc : Nat} (h : z_by c pc = some 77) : decode c pc = .ok (.astore_n 2, 1) := by
  show Except.bind (Except.bind ((Reader.u1 : Decoder Nat) c pc) _) _ = _
  rw [z_u1 h]
  show Except.ok (Instr.astore_n 2, pc + 1 - pc) = _
  rw [Nat.add_sub_cancel_left]
theorem zo_78 {c : ByteArray} {pc : Nat} (h : z_by c pc = some 78) : decode c pc = .ok (.astore_n 3, 1) := by
  show Except.bind (Except.bind ((Reader.u1 : Decoder Nat) c pc) _) _ = _
  rw [z_u1 h]
  show Except.ok (Instr.astore_n 3, pc + 1 - pc) = _
  rw [Nat.add_sub_cancel_left]
theorem zo_63 {c : ByteArray} {pc : Nat} (h : z_by c pc = some 63) : decode c pc = .ok (.lstore_n 0, 1) := by
  show Except.bind (Except.bind ((Reader.u1 : Decoder Nat) c pc) _) _ = _
  rw [z_u1 h]
  show Except.ok (Instr.lstore_n 0, pc + 1 - pc) = _
  rw [Nat.add_sub_cancel_left]
theorem zo_64 {c : ByteArray} {pc : Nat} (h : z_by c pc = some 64) : decode c pc = .ok (.lstore_n 1, 1) := by
  show Except.bind (Except.bind ((Reader.u1 : Decoder Nat) c pc) _) _ = _
  rw [z_u1 h]
  show Except.ok (Instr.lstore_n 1, pc + 1 - pc) = _
  rw [Nat.add_sub_cancel_left]
theorem zo_65 {c : ByteArray} {pc : Nat} (h : z_by c pc = some 65) : decode c pc = .ok (.lstore_n 2, 1) := by
  show Except.bind (Except.bind ((Reader.u1 : Decoder Nat) c pc) _) _ = _
  rw [z_u1 h]
  show Except.ok (Instr.lstore_n 2, pc + 1 - pc) = _
  rw [Nat.add_sub_cancel_left]
theorem zo_66 {c : ByteArray} {pc : Nat} (h : z_by c pc = some 66) : decode c pc = .ok (.lstore_n 3, 1) := by
  show Except.bind (Except.bind ((Reader.u1 : Decoder Nat) c pc) _) _ = _
  rw [z_u1 h]
  show Except.ok (Instr.lstore_n 3, pc + 1 - pc) = _
  rw [Nat.add_sub_cancel_left]
theorem zo_9 {c : ByteArray} {pc : Nat} (h : z_by c pc = some 9) : decode c pc = .ok (.lconst 0, 1) := by
  show Except.bind (Except.bind ((Reader.u1 : Decoder Nat) c pc) _) _ = _
  rw [z_u1 h]
  show Except.ok (Instr.lconst 0, pc + 1 - pc) = _
  rw [Nat.add_sub_cancel_left]
theorem zo_10 {c : ByteArray} {pc : Nat} (h : z_by c pc = some 10) : decode c pc = .ok (.lconst 1, 1) := by
  show Except.bind (Except.bind ((Reader.u1 : Decoder Nat) c pc) _) _ = _
  rw [z_u1 h]
  show Except.ok (Instr.lconst 1, pc + 1 - pc) = _
  rw [Nat.add_sub_cancel_left]
theorem zo_2 {c : ByteArray} {pc : Nat} (h : z_by c pc = some 2) : decode c pc = .ok (.iconst (-1), 1) := by
  show Except.bind (Except.bind ((Reader.u1 : Decoder Nat) c pc) _) _ = _
  rw [z_u1 h]
  show Except.ok (Instr.iconst (-1), pc + 1 - pc) = _
  rw [Nat.add_sub_cancel_left]
theorem zo_3 {c : ByteArray} {pc : Nat} (h : z_by c pc = some 3) : decode c pc = .ok (.iconst (0), 1) := by
  show Except.bind (Except.bind ((Reader.u1 : Decoder Nat) c pc) _) _ = _
  rw [z_u1 h]
  show Except.ok (Instr.iconst (0), pc + 1 - pc) = _
  rw [Nat.add_sub_cancel_left]
theorem zo_4 {c : ByteArray} {pc : Nat} (h : z_by c pc = some 4) : decode c pc = .ok (.iconst (1), 1) := by
  show Except.bind (Except.bind ((Reader.u1 : Decoder Nat) c pc) _) _ = _
  rw [z_u1 h]
  show Except.ok (Instr.iconst (1), pc + 1 - pc) = _
  rw [Nat.add_sub_cancel_left]
theorem zo_5 {c : ByteArray} {pc : Nat} (h : z_by c pc = some 5) : decode c pc = .ok (.iconst (2), 1) := by
  show Except.bind (Except.bind ((Reader.u1 : Decoder Nat) c pc) _) _ = _
  rw [z_u1 h]
  show Except.ok (Instr.iconst (2), pc + 1 - pc) = _
  rw [Nat.add_sub_cancel_left]
theorem zo_6 {c : ByteArray} {pc : Nat} (h : z_by c pc = some 6) : decode c pc = .ok (.iconst (3), 1) := by
  show Except.bind (Except.bind ((Reader.u1 : Decoder Nat) c pc) _) _ = _
  rw [z_u1 h]
  show Except.ok (Instr.iconst (3), pc + 1 - pc) = _
  rw [Nat.add_sub_cancel_left]
theorem zo_7 {c : ByteArray} {pc : Nat} (h : z_by c pc = some 7) : decode c pc = .ok (.iconst (4), 1) := by
  show Except.bind (Except.bind ((Reader.u1 : Decoder Nat) c pc) _) _ = _
  rw [z_u1 h]
  show Except.ok (Instr.iconst (4), pc + 1 - pc) = _
  rw [Nat.add_sub_cancel_left]
theorem zo_8 {c : ByteArray} {pc : Nat} (h : z_by c pc = some 8) : decode c pc = .ok (.iconst (5), 1) := by
  show Except.bind (Except.bind ((Reader.u1 : Decoder Nat) c pc) _) _ = _
  rw [z_u1 h]
  show Except.ok (Instr.iconst (5), pc + 1 - pc) = _
  rw [Nat.add_sub_cancel_left]
theorem zo_21 {c : ByteArray} {pc x : Nat} (h : z_by c pc = some 21) (h1 : z_by c (pc + 1) = some x) : decode c pc = .ok (.iload x, 2) := by
  show Except.bind (Except.bind ((Reader.u1 : Decoder Nat) c pc) _) _ = _
  rw [z_u1 h]
  show Except.bind (Except.bind ((Reader.u1 : Decoder Nat) c (pc + 1)) _) _ = _
  rw [z_u1 h1]
  show Except.ok (Instr.iload x, pc + 1 + 1 - pc) = _
  rw [Nat.add_assoc, Nat.add_sub_cancel_left]
theorem zo_25 {c : ByteArray} {pc x : Nat} (h : z_by c pc = some 25) (h1 : z_by c (pc + 1) = some x) : decode c pc = .ok (.aload x, 2) := by
  show Except.bind (Except.bind ((Reader.u1 : Decoder Nat) c pc) _) _ = _
  rw [z_u1 h]
  show Except.bind (Except.bind ((Reader.u1 : Decoder Nat) c (pc + 1)) _) _ = _
  rw [z_u1 h1]
  show Except.ok (Instr.aload x, pc + 1 + 1 - pc) = _
  rw [Nat.add_assoc, Nat.add_sub_cancel_left]
theorem zo_54 {c : ByteArray} {pc x : Nat} (h : z_by c pc = some 54) (h1 : z_by c (pc + 1) = some x) : decode c pc = .ok (.istore x, 2) := by
  show Except.bind (Except.bind ((Reader.u1 : Decoder Nat) c pc) _) _ = _
  rw [z_u1 h]
  show Except.bind (Except.bind ((Reader.u1 : Decoder Nat) c (pc + 1)) _) _ = _
  rw [z_u1 h1]
  show Except.ok (Instr.istore x, pc + 1 + 1 - pc) = _
  rw [Nat.add_assoc, Nat.add_sub_cancel_left]
theorem zo_58 {c : ByteArray} {pc x : Nat} (h : z_by c pc = some 58) (h1 : z_by c (pc + 1) = some x) : decode c pc = .ok (.astore x, 2) := by
  show Except.bind (Except.bind ((Reader.u1 : Decoder Nat) c pc) _) _ = _
  rw [z_u1 h]
  show Except.bind (Except.bind ((Reader.u1 : Decoder Nat) c (pc + 1)) _) _ = _
  rw [z_u1 h1]
  show Except.ok (Instr.astore x, pc + 1 + 1 - pc) = _
  rw [Nat.add_assoc, Nat.add_sub_cancel_left]
theorem zo_22 {c : ByteArray} {pc x : Nat} (h : z_by c pc = some 22) (h1 : z_by c (pc + 1) = some x) : decode c pc = .ok (.lload x, 2) := by
  show Except.bind (Except.bind ((Reader.u1 : Decoder Nat) c pc) _) _ = _
  rw [z_u1 h]
  show Except.bind (Except.bind ((Reader.u1 : Decoder Nat) c (pc + 1)) _) _ = _
  rw [z_u1 h1]
  show Except.ok (Instr.lload x, pc + 1 + 1 - pc) = _
  rw [Nat.add_assoc, Nat.add_sub_cancel_left]
theorem zo_55 {c : ByteArray} {pc x : Nat} (h : z_by c pc = some 55) (h1 : z_by c (pc + 1) = some x) : decode c pc = .ok (.lstore x, 2) := by
  show Except.bind (Except.bind ((Reader.u1 : Decoder Nat) c pc) _) _ = _
  rw [z_u1 h]
  show Except.bind (Except.bind ((Reader.u1 : Decoder Nat) c (pc + 1)) _) _ = _
  rw [z_u1 h1]
  show Except.ok (Instr.lstore x, pc + 1 + 1 - pc) = _
  rw [Nat.add_assoc, Nat.add_sub_cancel_left]
theorem zo_18 {c : ByteArray} {pc x : Nat} (h : z_by c pc = some 18) (h1 : z_by c (pc + 1) = some x) : decode c pc = .ok (.ldc x, 2) := by
  show Except.bind (Except.bind ((Reader.u1 : Decoder Nat) c pc) _) _ = _
  rw [z_u1 h]
  show Except.bind (Except.bind ((Reader.u1 : Decoder Nat) c (pc + 1)) _) _ = _
  rw [z_u1 h1]
  show Except.ok (Instr.ldc x, pc + 1 + 1 - pc) = _
  rw [Nat.add_assoc, Nat.add_sub_cancel_left]
theorem zo_180 {c : ByteArray} {pc x y v : Nat} (h : z_by c pc = some 180) (h1 : z_by c (pc + 1) = some x) (h2 : z_by c (pc + 1 + 1) = some y) (hv : x * 256 + y = v) : decode c pc = .ok (.getfield v, 3) := by
  subst hv
  show Except.bind (Except.bind ((Reader.u1 : Decoder Nat) c pc) _) _ = _
  rw [z_u1 h]
  show Except.bind (Except.bind ((Reader.u2 : Decoder Nat) c (pc + 1)) _) _ = _
  rw [z_u2 h1 h2]
  show Except.ok (Instr.getfield (x * 256 + y), pc + 1 + 1 + 1 - pc) = _
  rw [Nat.add_assoc, Nat.add_assoc, Nat.add_sub_cancel_left]
theorem zo_181 {c : ByteArray} {pc x y v : Nat} (h : z_by c pc = some 181) (h1 : z_by c (pc + 1) = some x) (h2 : z_by c (pc + 1 + 1) = some y) (hv : x * 256 + y = v) : decode c pc = .ok (.putfield v, 3) := by
  subst hv
  show Except.bind (Except.bind ((Reader.u1 : Decoder Nat) c pc) _) _ = _
  rw [z_u1 h]
  show Except.bind (Except.bind ((Reader.u2 : Decoder Nat) c (pc + 1)) _) _ = _
  rw [z_u2 h1 h2]
  show Except.ok (Instr.putfield (x * 256 + y), pc + 1 + 1 + 1 - pc) = _
  rw [Nat.add_assoc, Nat.add_assoc, Nat.add_sub_cancel_left]
theorem zo_182 {c : ByteArray} {pc x y v : Nat} (h : z_by c pc = some 182) (h1 : z_by c (pc + 1) = some x) (h2 : z_by c (pc + 1 + 1) = some y) (hv : x * 256 + y = v) : decode c pc = .ok (.invokevirtual v, 3) := by
  subst hv
  show Except.bind (Except.bind ((Reader.u1 : Decoder Nat) c pc) _) _ = _
  rw [z_u1 h]
  show Except.bind (Except.bind ((Reader.u2 : Decoder Nat) c (pc + 1)) _) _ = _
  rw [z_u2 h1 h2]
  show Except.ok (Instr.invokevirtual (x * 256 + y), pc + 1 + 1 + 1 - pc) = _
  rw [Nat.add_assoc, Nat.add_assoc, Nat.add_sub_cancel_left]
theorem zo_183 {c : ByteArray} {pc x y v : Nat} (h : z_by c pc = some 183) (h1 : z_by c (pc + 1) = some x) (h2 : z_by c (pc + 1 + 1) = some y) (hv : x * 256 + y = v) : decode c pc = .ok (.invokespecial v, 3) := by
  subst hv
  show Except.bind (Except.bind ((Reader.u1 : Decoder Nat) c pc) _) _ = _
  rw [z_u1 h]
  show Except.bind (Except.bind ((Reader.u2 : Decoder Nat) c (pc + 1)) _) _ = _
  rw [z_u2 h1 h2]
  show Except.ok (Instr.invokespecial (x * 256 + y), pc + 1 + 1 + 1 - pc) = _
  rw [Nat.add_assoc, Nat.add_assoc, Nat.add_sub_cancel_left]
theorem zo_184 {c : ByteArray} {pc x y v : Nat} (h : z_by c pc = some 184) (h1 : z_by c (pc + 1) = some x) (h2 : z_by c (pc + 1 + 1) = some y) (hv : x * 256 + y = v) : decode c pc = .ok (.invokestatic v, 3) := by
  subst hv
  show Except.bind (Except.bind ((Reader.u1 : Decoder Nat) c pc) _) _ = _
  rw [z_u1 h]
  show Except.bind (Except.bind ((Reader.u2 : Decoder Nat) c (pc + 1)) _) _ = _
  rw [z_u2 h1 h2]
  show Except.ok (Instr.invokestatic (x * 256 + y), pc + 1 + 1 + 1 - pc) = _
  rw [Nat.add_assoc, Nat.add_assoc, Nat.add_sub_cancel_left]
theorem zo_20 {c : ByteArray} {pc x y v : Nat} (h : z_by c pc = some 20) (h1 : z_by c (pc + 1) = some x) (h2 : z_by c (pc + 1 + 1) = some y) (hv : x * 256 + y = v) : decode c pc = .ok (.ldc2_w v, 3) := by
  subst hv
  show Except.bind (Except.bind ((Reader.u1 : Decoder Nat) c pc) _) _ = _
  rw [z_u1 h]
  show Except.bind (Except.bind ((Reader.u2 : Decoder Nat) c (pc + 1)) _) _ = _
  rw [z_u2 h1 h2]
  show Except.ok (Instr.ldc2_w (x * 256 + y), pc + 1 + 1 + 1 - pc) = _
  rw [Nat.add_assoc, Nat.add_assoc, Nat.add_sub_cancel_left]
theorem zo_19 {c : ByteArray} {pc x y v : Nat} (h : z_by c pc = some 19) (h1 : z_by c (pc + 1) = some x) (h2 : z_by c (pc + 1 + 1) = some y) (hv : x * 256 + y = v) : decode c pc = .ok (.ldc_w v, 3) := by
  subst hv
  show Except.bind (Except.bind ((Reader.u1 : Decoder Nat) c pc) _) _ = _
  rw [z_u1 h]
  show Except.bind (Except.bind ((Reader.u2 : Decoder Nat) c (pc + 1)) _) _ = _
  rw [z_u2 h1 h2]
  show Except.ok (Instr.ldc_w (x * 256 + y), pc + 1 + 1 + 1 - pc) = _
  rw [Nat.add_assoc, Nat.add_assoc, Nat.add_sub_cancel_left]
theorem zo_187 {c : ByteArray} {pc x y v : Nat} (h : z_by c pc = some 187) (h1 : z_by c (pc + 1) = some x) (h2 : z_by c (pc + 1 + 1) = some y) (hv : x * 256 + y = v) : decode c pc = .ok (.new v, 3) := by
  subst hv
  show Except.bind (Except.bind ((Reader.u1 : Decoder Nat) c pc) _) _ = _
  rw [z_u1 h]
  show Except.bind (Except.bind ((Reader.u2 : Decoder Nat) c (pc + 1)) _) _ = _
  rw [z_u2 h1 h2]
  show Except.ok (Instr.new (x * 256 + y), pc + 1 + 1 + 1 - pc) = _
  rw [Nat.add_assoc, Nat.add_assoc, Nat.add_sub_cancel_left]
theorem zo_178 {c : ByteArray} {pc x y v : Nat} (h : z_by c pc = some 178) (h1 : z_by c (pc + 1) = some x) (h2 : z_by c (pc + 1 + 1) = some y) (hv : x * 256 + y = v) : decode c pc = .ok (.getstatic v, 3) := by
  subst hv
  show Except.bind (Except.bind ((Reader.u1 : Decoder Nat) c pc) _) _ = _
  rw [z_u1 h]
  show Except.bind (Except.bind ((Reader.u2 : Decoder Nat) c (pc + 1)) _) _ = _
  rw [z_u2 h1 h2]
  show Except.ok (Instr.getstatic (x * 256 + y), pc + 1 + 1 + 1 - pc) = _
  rw [Nat.add_assoc, Nat.add_assoc, Nat.add_sub_cancel_left]
theorem zo_189 {c : ByteArray} {pc x y v : Nat} (h : z_by c pc = some 189) (h1 : z_by c (pc + 1) = some x) (h2 : z_by c (pc + 1 + 1) = some y) (hv : x * 256 + y = v) : decode c pc = .ok (.anewarray v, 3) := by
  subst hv
  show Except.bind (Except.bind ((Reader.u1 : Decoder Nat) c pc) _) _ = _
  rw [z_u1 h]
  show Except.bind (Except.bind ((Reader.u2 : Decoder Nat) c (pc + 1)) _) _ = _
  rw [z_u2 h1 h2]
  show Except.ok (Instr.anewarray (x * 256 + y), pc + 1 + 1 + 1 - pc) = _
  rw [Nat.add_assoc, Nat.add_assoc, Nat.add_sub_cancel_left]
theorem zo_167 {c : ByteArray} {pc x y : Nat} {v : Int} (h : z_by c pc = some 167) (h1 : z_by c (pc + 1) = some x) (h2 : z_by c (pc + 1 + 1) = some y) (hv : Reader.signed 16 (x * 256 + y) = v) : decode c pc = .ok (.goto v, 3) := by
  show Except.bind (Except.bind ((Reader.u1 : Decoder Nat) c pc) _) _ = _
  rw [z_u1 h]
  show Except.bind (Except.bind ((Reader.s2 : Decoder Int) c (pc + 1)) _) _ = _
  rw [z_sg2 h1 h2 hv]
  show Except.ok (Instr.goto v, pc + 1 + 1 + 1 - pc) = _
  rw [Nat.add_assoc, Nat.add_assoc, Nat.add_sub_cancel_left]
theorem zo_17 {c : ByteArray} {pc x y : Nat} {v : Int} (h : z_by c pc = some 17) (h1 : z_by c (pc + 1) = some x) (h2 : z_by c (pc + 1 + 1) = some y) (hv : Reader.signed 16 (x * 256 + y) = v) : decode c pc = .ok (.sipush v, 3) := by
  show Except.bind (Except.bind ((Reader.u1 : Decoder Nat) c pc) _) _ = _
  rw [z_u1 h]
  show Except.bind (Except.bind ((Reader.s2 : Decoder Int) c (pc + 1)) _) _ = _
  rw [z_sg2 h1 h2 hv]
  show Except.ok (Instr.sipush v, pc + 1 + 1 + 1 - pc) = _
  rw [Nat.add_assoc, Nat.add_assoc, Nat.add_sub_cancel_left]
theorem zo_153 {c : ByteArray} {pc x y : Nat} {v : Int} (h : z_by c pc = some 153) (h1 : z_by c (pc + 1) = some x) (h2 : z_by c (pc + 1 + 1) = some y) (hv : Reader.signed 16 (x * 256 + y) = v) : decode c pc = .ok (.ifCond .eq v, 3) := by
  show Except.bind (Except.bind ((Reader.u1 : Decoder Nat) c pc) _) _ = _
  rw [z_u1 h]
  show Except.bind (Except.bind ((Reader.s2 : Decoder Int) c (pc + 1)) _) _ = _
  rw [z_sg2 h1 h2 hv]
  show Except.ok (Instr.ifCond .eq v, pc + 1 + 1 + 1 - pc) = _
  rw [Nat.add_assoc, Nat.add_assoc, Nat.add_sub_cancel_left]
theorem zo_159 {c : ByteArray} {pc x y : Nat} {v : Int} (h : z_by c pc = some 159) (h1 : z_by c (pc + 1) = some x) (h2 : z_by c (pc + 1 + 1) = some y) (hv : Reader.signed 16 (x * 256 + y) = v) : decode c pc = .ok (.if_icmp .eq v, 3) := by
  show Except.bind (Except.bind ((Reader.u1 : Decoder Nat) c pc) _) _ = _
  rw [z_u1 h]
  show Except.bind (Except.bind ((Reader.s2 : Decoder Int) c (pc + 1)) _) _ = _
  rw [z_sg2 h1 h2 hv]
  show Except.ok (Instr.if_icmp .eq v, pc + 1 + 1 + 1 - pc) = _
  rw [Nat.add_assoc, Nat.add_assoc, Nat.add_sub_cancel_left]
theorem zo_154 {c : ByteArray} {pc x y : Nat} {v : Int} (h : z_by c pc = some 154) (h1 : z_by c (pc + 1) = some x) (h2 : z_by c (pc + 1 + 1) = some y) (hv : Reader.signed 16 (x * 256 + y) = v) : decode c pc = .ok (.ifCond .ne v, 3) := by
  show Except.bind (Except.bind ((Reader.u1 : Decoder Nat) c pc) _) _ = _
  rw [z_u1 h]
  show Except.bind (Except.bind ((Reader.s2 : Decoder Int) c (pc + 1)) _) _ = _
  rw [z_sg2 h1 h2 hv]
  show Except.ok (Instr.ifCond .ne v, pc + 1 + 1 + 1 - pc) = _
  rw [Nat.add_assoc, Nat.add_assoc, Nat.add_sub_cancel_left]
theorem zo_160 {c : ByteArray} {pc x y : Nat} {v : Int} (h : z_by c pc = some 160) (h1 : z_by c (pc + 1) = some x) (h2 : z_by c (pc + 1 + 1) = some y) (hv : Reader.signed 16 (x * 256 + y) = v) : decode c pc = .ok (.if_icmp .ne v, 3) := by
  show Except.bind (Except.bind ((Reader.u1 : Decoder Nat) c pc) _) _ = _
  rw [z_u1 h]
  show Except.bind (Except.bind ((Reader.s2 : Decoder Int) c (pc + 1)) _) _ = _
  rw [z_sg2 h1 h2 hv]
  show Except.ok (Instr.if_icmp .ne v, pc + 1 + 1 + 1 - pc) = _
  rw [Nat.add_assoc, Nat.add_assoc, Nat.add_sub_cancel_left]
theorem zo_155 {c : ByteArray} {pc x y : Nat} {v : Int} (h : z_by c pc = some 155) (h1 : z_by c (pc + 1) = some x) (h2 : z_by c (pc + 1 + 1) = some y) (hv : Reader.signed 16 (x * 256 + y) = v) : decode c pc = .ok (.ifCond .lt v, 3) := by
  show Except.bind (Except.bind ((Reader.u1 : Decoder Nat) c pc) _) _ = _
  rw [z_u1 h]
  show Except.bind (Except.bind ((Reader.s2 : Decoder Int) c (pc + 1)) _) _ = _
  rw [z_sg2 h1 h2 hv]
  show Except.ok (Instr.ifCond .lt v, pc + 1 + 1 + 1 - pc) = _
  rw [Nat.add_assoc, Nat.add_assoc, Nat.add_sub_cancel_left]
theorem zo_161 {c : ByteArray} {pc x y : Nat} {v : Int} (h : z_by c pc = some 161) (h1 : z_by c (pc + 1) = some x) (h2 : z_by c (pc + 1 + 1) = some y) (hv : Reader.signed 16 (x * 256 + y) = v) : decode c pc = .ok (.if_icmp .lt v, 3) := by
  show Except.bind (Except.bind ((Reader.u1 : Decoder Nat) c pc) _) _ = _
  rw [z_u1 h]
  show Except.bind (Except.bind ((Reader.s2 : Decoder Int) c (pc + 1)) _) _ = _
  rw [z_sg2 h1 h2 hv]
  show Except.ok (Instr.if_icmp .lt v, pc + 1 + 1 + 1 - pc) = _
  rw [Nat.add_assoc, Nat.add_assoc, Nat.add_sub_cancel_left]
theorem zo_156 {c : ByteArray} {pc x y : Nat} {v : Int} (h : z_by c pc = some 156) (h1 : z_by c (pc + 1) = some x) (h2 : z_by c (pc + 1 + 1) = some y) (hv : Reader.signed 16 (x * 256 + y) = v) : decode c pc = .ok (.ifCond .ge v, 3) := by
  show Except.bind (Except.bind ((Reader.u1 : Decoder Nat) c pc) _) _ = _
  rw [z_u1 h]
  show Except.bind (Except.bind ((Reader.s2 : Decoder Int) c (pc + 1)) _) _ = _
  rw [z_sg2 h1 h2 hv]
  show Except.ok (Instr.ifCond .ge v, pc + 1 + 1 + 1 - pc) = _
  rw [Nat.add_assoc, Nat.add_assoc, Nat.add_sub_cancel_left]
theorem zo_162 {c : ByteArray} {pc x y : Nat} {v : Int} (h : z_by c pc = some 162) (h1 : z_by c (pc + 1) = some x) (h2 : z_by c (pc + 1 + 1) = some y) (hv : Reader.signed 16 (x * 256 + y) = v) : decode c pc = .ok (.if_icmp .ge v, 3) := by
  show Except.bind (Except.bind ((Reader.u1 : Decoder Nat) c pc) _) _ = _
  rw [z_u1 h]
  show Except.bind (Except.bind ((Reader.s2 : Decoder Int) c (pc + 1)) _) _ = _
  rw [z_sg2 h1 h2 hv]
  show Except.ok (Instr.if_icmp .ge v, pc + 1 + 1 + 1 - pc) = _
  rw [Nat.add_assoc, Nat.add_assoc, Nat.add_sub_cancel_left]
theorem zo_157 {c : ByteArray} {pc x y : Nat} {v : Int} (h : z_by c pc = some 157) (h1 : z_by c (pc + 1) = some x) (h2 : z_by c (pc + 1 + 1) = some y) (hv : Reader.signed 16 (x * 256 + y) = v) : decode c pc = .ok (.ifCond .gt v, 3) := by
  show Except.bind (Except.bind ((Reader.u1 : Decoder Nat) c pc) _) _ = _
  rw [z_u1 h]
  show Except.bind (Except.bind ((Reader.s2 : Decoder Int) c (pc + 1)) _) _ = _
  rw [z_sg2 h1 h2 hv]
  show Except.ok (Instr.ifCond .gt v, pc + 1 + 1 + 1 - pc) = _
  rw [Nat.add_assoc, Nat.add_assoc, Nat.add_sub_cancel_left]
theorem zo_163 {c : ByteArray} {pc x y : Nat} {v : Int} (h : z_by c pc = some 163) (h1 : z_by c (pc + 1) = some x) (h2 : z_by c (pc + 1 + 1) = some y) (hv : Reader.signed 16 (x * 256 + y) = v) : decode c pc = .ok (.if_icmp .gt v, 3) := by
  show Except.bind (Except.bind ((Reader.u1 : Decoder Nat) c pc) _) _ = _
  rw [z_u1 h]
  show Except.bind (Except.bind ((Reader.s2 : Decoder Int) c (pc + 1)) _) _ = _
  rw [z_sg2 h1 h2 hv]
  show Except.ok (Instr.if_icmp .gt v, pc + 1 + 1 + 1 - pc) = _
  rw [Nat.add_assoc, Nat.add_assoc, Nat.add_sub_cancel_left]
theorem zo_158 {c : ByteArray} {pc x y : Nat} {v : Int} (h : z_by c pc = some 158) (h1 : z_by c (pc + 1) = some x) (h2 : z_by c (pc + 1 + 1) = some y) (hv : Reader.signed 16 (x * 256 + y) = v) : decode c pc = .ok (.ifCond .le v, 3) := by
  show Except.bind (Except.bind ((Reader.u1 : Decoder Nat) c pc) _) _ = _
  rw [z_u1 h]
  show Except.bind (Except.bind ((Reader.s2 : Decoder Int) c (pc + 1)) _) _ = _
  rw [z_sg2 h1 h2 hv]
  show Except.ok (Instr.ifCond .le v, pc + 1 + 1 + 1 - pc) = _
  rw [Nat.add_assoc, Nat.add_assoc, Nat.add_sub_cancel_left]
theorem zo_164 {c : ByteArray} {pc x y : Nat} {v : Int} (h : z_by c pc = some 164) (h1 : z_by c (pc + 1) = some x) (h2 : z_by c (pc + 1 + 1) = some y) (hv : Reader.signed 16 (x * 256 + y) = v) : decode c pc = .ok (.if_icmp .le v, 3) := by
  show Except.bind (Except.bind ((Reader.u1 : Decoder Nat) c pc) _) _ = _
  rw [z_u1 h]
  show Except.bind (Except.bind ((Reader.s2 : Decoder Int) c (pc + 1)) _) _ = _
  rw [z_sg2 h1 h2 hv]
  show Except.ok (Instr.if_icmp .le v, pc + 1 + 1 + 1 - pc) = _
  rw [Nat.add_assoc, Nat.add_assoc, Nat.add_sub_cancel_left]
theorem zo_16 {c : ByteArray} {pc x : Nat} {v : Int} (h : z_by c pc = some 16) (h1 : z_by c (pc + 1) = some x) (hv : Reader.signed 8 x = v) : decode c pc = .ok (.bipush v, 2) := by
  show Except.bind (Except.bind ((Reader.u1 : Decoder Nat) c pc) _) _ = _
  rw [z_u1 h]
  show Except.bind (Except.bind ((Reader.s1 : Decoder Int) c (pc + 1)) _) _ = _
  rw [z_sg1 h1 hv]
  show Except.ok (Instr.bipush v, pc + 1 + 1 - pc) = _
  rw [Nat.add_assoc, Nat.add_sub_cancel_left]
theorem zo_132 {c : ByteArray} {pc x y : Nat} {v : Int} (h : z_by c pc = some 132) (h1 : z_by c (pc + 1) = some x) (h2 : z_by c (pc + 1 + 1) = some y) (hv : Reader.signed 8 y = v) : decode c pc = .ok (.iinc x v, 3) := by
  show Except.bind (Except.bind ((Reader.u1 : Decoder Nat) c pc) _) _ = _
  rw [z_u1 h]
  show Except.bind (Except.bind ((Reader.u1 : Decoder Nat) c (pc + 1)) _) _ = _
  rw [z_u1 h1]
  show Except.bind (Except.bind ((Reader.s1 : Decoder Int) c (pc + 1 + 1)) _) _ = _
  rw [z_sg1 h2 hv]
  show Except.ok (Instr.iinc x v, pc + 1 + 1 + 1 - pc) = _
  rw [Nat.add_assoc, Nat.add_assoc, Nat.add_sub_cancel_left]
