section
/-! the code tables are what decode gives: opcode by opcode -/
set_option maxRecDepth 100000
/-- a byte of a code -/
def pe_at (C : ByteArray) (p n : Nat) : Prop := ∃ h : p < C.size, (C[p]'h).toNat = n
theorem pe_at_of {C : ByteArray} {p : Nat} {x : UInt8} (h : C.data.toList[p]? = some x) : pe_at C p x.toNat := by
  obtain ⟨⟨L⟩⟩ := C
  obtain ⟨h1, h2⟩ := List.getElem?_eq_some_iff.mp h
  exact ⟨h1, congrArg UInt8.toNat h2⟩
theorem pe_u1 {C : ByteArray} {p n : Nat} (h : pe_at C p n) : (Reader.u1 : Decoder Nat) C p = .ok (n, p + 1) := by
  obtain ⟨h1, h2⟩ := h
  show (if h : p < C.size then (do set (p + 1); pure (C[p]'h).toNat) else throw (HasTruncated.truncated p) : Decoder Nat) C p = _
  rw [dif_pos h1, ← h2]
  rfl
theorem pe_bd {α β : Type} {r : Decoder α} {f : α → Decoder β} {C : ByteArray} {p q : Nat} {a : α} {z : Except DecodeError (β × Nat)} (h : r C p = .ok (a, q)) (k : f a C q = z) : (r >>= f) C p = z := by
  have e : (r >>= f) C p = (match r C p with | .error e => Except.error e | .ok (a, s) => f a C s) := by
    show (do let (a, s) ← r C p; f a C s : Except DecodeError (β × Nat)) = _
    cases r C p <;> rfl
  rw [h] at e
  exact e.trans k
theorem pe_mp {α β : Type} {r : Decoder α} {g : α → β} {C : ByteArray} {p q : Nat} {a : α} (h : r C p = .ok (a, q)) : (g <$> r) C p = .ok (g a, q) := by
  have e : (g <$> r) C p = (match r C p with | .error e => Except.error e | .ok (a, s) => .ok (g a, s)) := by
    show (do let (a, s) ← r C p; .ok (g a, s) : Except DecodeError (β × Nat)) = _
    cases r C p <;> rfl
  rw [h] at e
  exact e
theorem pe_u2 {C : ByteArray} {p a b : Nat} (h1 : pe_at C p a) (h2 : pe_at C (p + 1) b) : (Reader.u2 : Decoder Nat) C p = .ok (a * 256 + b, p + 2) := by
  show ((Reader.u1 : Decoder Nat) >>= fun hi => (Reader.u1 : Decoder Nat) >>= fun lo => pure (hi * 256 + lo)) C p = _
  exact pe_bd (pe_u1 h1) (pe_bd (pe_u1 h2) rfl)
theorem pe_s1 {C : ByteArray} {p a : Nat} (h : pe_at C p a) : (Reader.s1 : Decoder Int) C p = .ok (Reader.signed 8 a, p + 1) := by
  show (Reader.signed 8 <$> (Reader.u1 : Decoder Nat)) C p = _
  exact pe_mp (pe_u1 h)
theorem pe_s2 {C : ByteArray} {p a b : Nat} (h1 : pe_at C p a) (h2 : pe_at C (p + 1) b) : (Reader.s2 : Decoder Int) C p = .ok (Reader.signed 16 (a * 256 + b), p + 2) := by
  show (Reader.signed 16 <$> (Reader.u2 : Decoder Nat)) C p = _
  exact pe_mp (pe_u2 h1 h2)
theorem pe_dc {C : ByteArray} {p q : Nat} {i : Instr} (h : Decoder.instr p C p = .ok (i, q)) : decode C p = .ok (i, q - p) := by
  have e : decode C p = (match Decoder.instr p C p with | .error e => Except.error e | .ok (j, s) => .ok (j, s - p)) := by
    show (do let (j, s) ← Decoder.instr p C p; pure (j, s - p) : Except DecodeError (Instr × Nat)) = _
    cases Decoder.instr p C p <;> rfl
  rw [h] at e
  exact e
theorem pe_N : ∃ N : Nat → Nat → Decoder Instr, (∀ p, Decoder.newarray p = ((Reader.u1 : Decoder Nat) >>= N p)) ∧ (∀ p, N p 4 = (pure (Instr.newarray .boolean) : Decoder Instr)) ∧ (∀ p, N p 5 = (pure (Instr.newarray .char) : Decoder Instr)) ∧ (∀ p, N p 6 = (pure (Instr.newarray .float) : Decoder Instr)) ∧ (∀ p, N p 7 = (pure (Instr.newarray .double) : Decoder Instr)) ∧ (∀ p, N p 8 = (pure (Instr.newarray .byte) : Decoder Instr)) ∧ (∀ p, N p 9 = (pure (Instr.newarray .short) : Decoder Instr)) ∧ (∀ p, N p 10 = (pure (Instr.newarray .int) : Decoder Instr)) ∧ (∀ p, N p 11 = (pure (Instr.newarray .long) : Decoder Instr)) := ⟨_, fun _ => rfl, fun _ => rfl, fun _ => rfl, fun _ => rfl, fun _ => rfl, fun _ => rfl, fun _ => rfl, fun _ => rfl, fun _ => rfl⟩
theorem pe_K : ∃ K : Nat → Nat → Decoder Instr, (∀ p, Decoder.instr p = ((Reader.u1 : Decoder Nat) >>= K p)) ∧ (∀ p, K p 1 = (pure Instr.aconst_null : Decoder Instr)) ∧ (∀ p, K p 46 = (pure Instr.iaload : Decoder Instr)) ∧ (∀ p, K p 47 = (pure Instr.laload : Decoder Instr)) ∧ (∀ p, K p 50 = (pure Instr.aaload : Decoder Instr)) ∧ (∀ p, K p 51 = (pure Instr.baload : Decoder Instr)) ∧ (∀ p, K p 79 = (pure Instr.iastore : Decoder Instr)) ∧ (∀ p, K p 80 = (pure Instr.lastore : Decoder Instr)) ∧ (∀ p, K p 83 = (pure Instr.aastore : Decoder Instr)) ∧ (∀ p, K p 84 = (pure Instr.bastore : Decoder Instr)) ∧ (∀ p, K p 87 = (pure Instr.pop : Decoder Instr)) ∧ (∀ p, K p 88 = (pure Instr.pop2 : Decoder Instr)) ∧ (∀ p, K p 89 = (pure Instr.dup : Decoder Instr)) ∧ (∀ p, K p 92 = (pure Instr.dup2 : Decoder Instr)) ∧ (∀ p, K p 96 = (pure Instr.iadd : Decoder Instr)) ∧ (∀ p, K p 97 = (pure Instr.ladd : Decoder Instr)) ∧ (∀ p, K p 100 = (pure Instr.isub : Decoder Instr)) ∧ (∀ p, K p 101 = (pure Instr.lsub : Decoder Instr)) ∧ (∀ p, K p 104 = (pure Instr.imul : Decoder Instr)) ∧ (∀ p, K p 105 = (pure Instr.lmul : Decoder Instr)) ∧ (∀ p, K p 108 = (pure Instr.idiv : Decoder Instr)) ∧ (∀ p, K p 109 = (pure Instr.ldiv : Decoder Instr)) ∧ (∀ p, K p 112 = (pure Instr.irem : Decoder Instr)) ∧ (∀ p, K p 113 = (pure Instr.lrem : Decoder Instr)) ∧ (∀ p, K p 116 = (pure Instr.ineg : Decoder Instr)) ∧ (∀ p, K p 117 = (pure Instr.lneg : Decoder Instr)) ∧ (∀ p, K p 120 = (pure Instr.ishl : Decoder Instr)) ∧ (∀ p, K p 121 = (pure Instr.lshl : Decoder Instr)) ∧ (∀ p, K p 122 = (pure Instr.ishr : Decoder Instr)) ∧ (∀ p, K p 123 = (pure Instr.lshr : Decoder Instr)) ∧ (∀ p, K p 124 = (pure Instr.iushr : Decoder Instr)) ∧ (∀ p, K p 125 = (pure Instr.lushr : Decoder Instr)) ∧ (∀ p, K p 126 = (pure Instr.iand : Decoder Instr)) ∧ (∀ p, K p 127 = (pure Instr.land : Decoder Instr)) ∧ (∀ p, K p 128 = (pure Instr.ior : Decoder Instr)) ∧ (∀ p, K p 129 = (pure Instr.lor : Decoder Instr)) ∧ (∀ p, K p 130 = (pure Instr.ixor : Decoder Instr)) ∧ (∀ p, K p 131 = (pure Instr.lxor : Decoder Instr)) ∧ (∀ p, K p 133 = (pure Instr.i2l : Decoder Instr)) ∧ (∀ p, K p 136 = (pure Instr.l2i : Decoder Instr)) ∧ (∀ p, K p 145 = (pure Instr.i2b : Decoder Instr)) ∧ (∀ p, K p 148 = (pure Instr.lcmp : Decoder Instr)) ∧ (∀ p, K p 172 = (pure Instr.ireturn : Decoder Instr)) ∧ (∀ p, K p 173 = (pure Instr.lreturn : Decoder Instr)) ∧ (∀ p, K p 176 = (pure Instr.areturn : Decoder Instr)) ∧ (∀ p, K p 177 = (pure Instr.return_ : Decoder Instr)) ∧ (∀ p, K p 190 = (pure Instr.arraylength : Decoder Instr)) ∧ (∀ p, K p 42 = (pure (Instr.aload_n 0) : Decoder Instr)) ∧ (∀ p, K p 43 = (pure (Instr.aload_n 1) : Decoder Instr)) ∧ (∀ p, K p 44 = (pure (Instr.aload_n 2) : Decoder Instr)) ∧ (∀ p, K p 45 = (pure (Instr.aload_n 3) : Decoder Instr)) ∧ (∀ p, K p 26 = (pure (Instr.iload_n 0) : Decoder Instr)) ∧ (∀ p, K p 27 = (pure (Instr.iload_n 1) : Decoder Instr)) ∧ (∀ p, K p 28 = (pure (Instr.iload_n 2) : Decoder Instr)) ∧ (∀ p, K p 29 = (pure (Instr.iload_n 3) : Decoder Instr)) ∧ (∀ p, K p 30 = (pure (Instr.lload_n 0) : Decoder Instr)) ∧ (∀ p, K p 31 = (pure (Instr.lload_n 1) : Decoder Instr)) ∧ (∀ p, K p 32 = (pure (Instr.lload_n 2) : Decoder Instr)) ∧ (∀ p, K p 33 = (pure (Instr.lload_n 3) : Decoder Instr)) ∧ (∀ p, K p 75 = (pure (Instr.astore_n 0) : Decoder Instr)) ∧ (∀ p, K p 76 = (pure (Instr.astore_n 1) : Decoder Instr)) ∧ (∀ p, K p 77 = (pure (Instr.astore_n 2) : Decoder Instr)) ∧ (∀ p, K p 78 = (pure (Instr.astore_n 3) : Decoder Instr)) ∧ (∀ p, K p 59 = (pure (Instr.istore_n 0) : Decoder Instr)) ∧ (∀ p, K p 60 = (pure (Instr.istore_n 1) : Decoder Instr)) ∧ (∀ p, K p 61 = (pure (Instr.istore_n 2) : Decoder Instr)) ∧ (∀ p, K p 62 = (pure (Instr.istore_n 3) : Decoder Instr)) ∧ (∀ p, K p 63 = (pure (Instr.lstore_n 0) : Decoder Instr)) ∧ (∀ p, K p 64 = (pure (Instr.lstore_n 1) : Decoder Instr)) ∧ (∀ p, K p 65 = (pure (Instr.lstore_n 2) : Decoder Instr)) ∧ (∀ p, K p 66 = (pure (Instr.lstore_n 3) : Decoder Instr)) ∧ (∀ p, K p 2 = (pure (Instr.iconst (-1)) : Decoder Instr)) ∧ (∀ p, K p 3 = (pure (Instr.iconst 0) : Decoder Instr)) ∧ (∀ p, K p 4 = (pure (Instr.iconst 1) : Decoder Instr)) ∧ (∀ p, K p 5 = (pure (Instr.iconst 2) : Decoder Instr)) ∧ (∀ p, K p 6 = (pure (Instr.iconst 3) : Decoder Instr)) ∧ (∀ p, K p 7 = (pure (Instr.iconst 4) : Decoder Instr)) ∧ (∀ p, K p 8 = (pure (Instr.iconst 5) : Decoder Instr)) ∧ (∀ p, K p 9 = (pure (Instr.lconst 0) : Decoder Instr)) ∧ (∀ p, K p 10 = (pure (Instr.lconst 1) : Decoder Instr)) ∧ (∀ p, K p 16 = (Reader.s1 >>= fun a => pure (Instr.bipush a) : Decoder Instr)) ∧ (∀ p, K p 18 = (Reader.u1 >>= fun a => pure (Instr.ldc a) : Decoder Instr)) ∧ (∀ p, K p 21 = (Reader.u1 >>= fun a => pure (Instr.iload a) : Decoder Instr)) ∧ (∀ p, K p 22 = (Reader.u1 >>= fun a => pure (Instr.lload a) : Decoder Instr)) ∧ (∀ p, K p 25 = (Reader.u1 >>= fun a => pure (Instr.aload a) : Decoder Instr)) ∧ (∀ p, K p 54 = (Reader.u1 >>= fun a => pure (Instr.istore a) : Decoder Instr)) ∧ (∀ p, K p 55 = (Reader.u1 >>= fun a => pure (Instr.lstore a) : Decoder Instr)) ∧ (∀ p, K p 58 = (Reader.u1 >>= fun a => pure (Instr.astore a) : Decoder Instr)) ∧ (∀ p, K p 20 = (Reader.u2 >>= fun a => pure (Instr.ldc2_w a) : Decoder Instr)) ∧ (∀ p, K p 180 = (Reader.u2 >>= fun a => pure (Instr.getfield a) : Decoder Instr)) ∧ (∀ p, K p 181 = (Reader.u2 >>= fun a => pure (Instr.putfield a) : Decoder Instr)) ∧ (∀ p, K p 182 = (Reader.u2 >>= fun a => pure (Instr.invokevirtual a) : Decoder Instr)) ∧ (∀ p, K p 183 = (Reader.u2 >>= fun a => pure (Instr.invokespecial a) : Decoder Instr)) ∧ (∀ p, K p 184 = (Reader.u2 >>= fun a => pure (Instr.invokestatic a) : Decoder Instr)) ∧ (∀ p, K p 187 = (Reader.u2 >>= fun a => pure (Instr.new a) : Decoder Instr)) ∧ (∀ p, K p 189 = (Reader.u2 >>= fun a => pure (Instr.anewarray a) : Decoder Instr)) ∧ (∀ p, K p 17 = (Reader.s2 >>= fun a => pure (Instr.sipush a) : Decoder Instr)) ∧ (∀ p, K p 167 = (Reader.s2 >>= fun a => pure (Instr.goto a) : Decoder Instr)) ∧ (∀ p, K p 153 = (Reader.s2 >>= fun a => pure (Instr.ifCond .eq a) : Decoder Instr)) ∧ (∀ p, K p 159 = (Reader.s2 >>= fun a => pure (Instr.if_icmp .eq a) : Decoder Instr)) ∧ (∀ p, K p 154 = (Reader.s2 >>= fun a => pure (Instr.ifCond .ne a) : Decoder Instr)) ∧ (∀ p, K p 160 = (Reader.s2 >>= fun a => pure (Instr.if_icmp .ne a) : Decoder Instr)) ∧ (∀ p, K p 155 = (Reader.s2 >>= fun a => pure (Instr.ifCond .lt a) : Decoder Instr)) ∧ (∀ p, K p 161 = (Reader.s2 >>= fun a => pure (Instr.if_icmp .lt a) : Decoder Instr)) ∧ (∀ p, K p 156 = (Reader.s2 >>= fun a => pure (Instr.ifCond .ge a) : Decoder Instr)) ∧ (∀ p, K p 162 = (Reader.s2 >>= fun a => pure (Instr.if_icmp .ge a) : Decoder Instr)) ∧ (∀ p, K p 157 = (Reader.s2 >>= fun a => pure (Instr.ifCond .gt a) : Decoder Instr)) ∧ (∀ p, K p 163 = (Reader.s2 >>= fun a => pure (Instr.if_icmp .gt a) : Decoder Instr)) ∧ (∀ p, K p 158 = (Reader.s2 >>= fun a => pure (Instr.ifCond .le a) : Decoder Instr)) ∧ (∀ p, K p 164 = (Reader.s2 >>= fun a => pure (Instr.if_icmp .le a) : Decoder Instr)) ∧ (∀ p, K p 132 = (Reader.u1 >>= fun a => Reader.s1 >>= fun c => pure (Instr.iinc a c) : Decoder Instr)) ∧ (∀ p, K p 188 = Decoder.newarray p) := ⟨_, fun _ => rfl, fun _ => rfl, fun _ => rfl, fun _ => rfl, fun _ => rfl, fun _ => rfl, fun _ => rfl, fun _ => rfl, fun _ => rfl, fun _ => rfl, fun _ => rfl, fun _ => rfl, fun _ => rfl, fun _ => rfl, fun _ => rfl, fun _ => rfl, fun _ => rfl, fun _ => rfl, fun _ => rfl, fun _ => rfl, fun _ => rfl, fun _ => rfl, fun _ => rfl, fun _ => rfl, fun _ => rfl, fun _ => rfl, fun _ => rfl, fun _ => rfl, fun _ => rfl, fun _ => rfl, fun _ => rfl, fun _ => rfl, fun _ => rfl, fun _ => rfl, fun _ => rfl, fun _ => rfl, fun _ => rfl, fun _ => rfl, fun _ => rfl, fun _ => rfl, fun _ => rfl, fun _ => rfl, fun _ => rfl, fun _ => rfl, fun _ => rfl, fun _ => rfl, fun _ => rfl, fun _ => rfl, fun _ => rfl, fun _ => rfl, fun _ => rfl, fun _ => rfl, fun _ => rfl, fun _ => rfl, fun _ => rfl, fun _ => rfl, fun _ => rfl, fun _ => rfl, fun _ => rfl, fun _ => rfl, fun _ => rfl, fun _ => rfl, fun _ => rfl, fun _ => rfl, fun _ => rfl, fun _ => rfl, fun _ => rfl, fun _ => rfl, fun _ => rfl, fun _ => rfl, fun _ => rfl, fun _ => rfl, fun _ => rfl, fun _ => rfl, fun _ => rfl, fun _ => rfl, fun _ => rfl, fun _ => rfl, fun _ => rfl, fun _ => rfl, fun _ => rfl, fun _ => rfl, fun _ => rfl, fun _ => rfl, fun _ => rfl, fun _ => rfl, fun _ => rfl, fun _ => rfl, fun _ => rfl, fun _ => rfl, fun _ => rfl, fun _ => rfl, fun _ => rfl, fun _ => rfl, fun _ => rfl, fun _ => rfl, fun _ => rfl, fun _ => rfl, fun _ => rfl, fun _ => rfl, fun _ => rfl, fun _ => rfl, fun _ => rfl, fun _ => rfl, fun _ => rfl, fun _ => rfl, fun _ => rfl, fun _ => rfl, fun _ => rfl, fun _ => rfl, fun _ => rfl, fun _ => rfl⟩
def pe_f0 (b k op : Nat) : Bool := Nat.beq b op && Nat.beq k 1
def pe_f1 (b a1 k op : Nat) : Bool := Nat.beq b op && (Nat.beq k 2 && Nat.blt a1 256)
def pe_f2 (b a1 a2 k op : Nat) : Bool := Nat.beq b op && (Nat.beq k 3 && (Nat.blt a1 256 && Nat.blt a2 256))
def pe_cn : Jvm.ClassFile.Cond → Nat
  | .eq => 0
  | .ne => 1
  | .lt => 2
  | .ge => 3
  | .gt => 4
  | .le => 5
def pe_tn : ArrayType → Nat
  | .boolean => 4
  | .char => 5
  | .float => 6
  | .double => 7
  | .byte => 8
  | .short => 9
  | .int => 10
  | .long => 11
/-- are these the bytes of this instruction? -/
def pe_q (b a1 a2 k : Nat) (i : Instr) : Bool := match i with
  | .aload_n n => pe_f0 b k (42 + n.val)
  | .iload_n n => pe_f0 b k (26 + n.val)
  | .lload_n n => pe_f0 b k (30 + n.val)
  | .astore_n n => pe_f0 b k (75 + n.val)
  | .istore_n n => pe_f0 b k (59 + n.val)
  | .lstore_n n => pe_f0 b k (63 + n.val)
  | .iconst v => Nat.beq k 1 && (Nat.ble 2 b && (Nat.ble b 8 && decide (v = (b : Int) - 3)))
  | .lconst n => pe_f0 b k (9 + n.val)
  | .bipush v => pe_f1 b a1 k 16 && decide (Reader.signed 8 a1 = v)
  | .ldc x => pe_f1 b a1 k 18 && Nat.beq a1 x
  | .iload x => pe_f1 b a1 k 21 && Nat.beq a1 x
  | .lload x => pe_f1 b a1 k 22 && Nat.beq a1 x
  | .aload x => pe_f1 b a1 k 25 && Nat.beq a1 x
  | .istore x => pe_f1 b a1 k 54 && Nat.beq a1 x
  | .lstore x => pe_f1 b a1 k 55 && Nat.beq a1 x
  | .astore x => pe_f1 b a1 k 58 && Nat.beq a1 x
  | .ldc2_w x => pe_f2 b a1 a2 k 20 && Nat.beq (a1 * 256 + a2) x
  | .getfield x => pe_f2 b a1 a2 k 180 && Nat.beq (a1 * 256 + a2) x
  | .putfield x => pe_f2 b a1 a2 k 181 && Nat.beq (a1 * 256 + a2) x
  | .invokevirtual x => pe_f2 b a1 a2 k 182 && Nat.beq (a1 * 256 + a2) x
  | .invokespecial x => pe_f2 b a1 a2 k 183 && Nat.beq (a1 * 256 + a2) x
  | .invokestatic x => pe_f2 b a1 a2 k 184 && Nat.beq (a1 * 256 + a2) x
  | .new x => pe_f2 b a1 a2 k 187 && Nat.beq (a1 * 256 + a2) x
  | .anewarray x => pe_f2 b a1 a2 k 189 && Nat.beq (a1 * 256 + a2) x
  | .sipush v => pe_f2 b a1 a2 k 17 && decide (Reader.signed 16 (a1 * 256 + a2) = v)
  | .goto v => pe_f2 b a1 a2 k 167 && decide (Reader.signed 16 (a1 * 256 + a2) = v)
  | .ifCond c v => pe_f2 b a1 a2 k (153 + pe_cn c) && decide (Reader.signed 16 (a1 * 256 + a2) = v)
  | .if_icmp c v => pe_f2 b a1 a2 k (159 + pe_cn c) && decide (Reader.signed 16 (a1 * 256 + a2) = v)
  | .iinc x v => pe_f2 b a1 a2 k 132 && (Nat.beq a1 x && decide (Reader.signed 8 a2 = v))
  | .newarray t => pe_f1 b a1 k 188 && Nat.beq a1 (pe_tn t)
  | .aconst_null => pe_f0 b k 1
  | .iaload => pe_f0 b k 46
  | .laload => pe_f0 b k 47
  | .aaload => pe_f0 b k 50
  | .baload => pe_f0 b k 51
  | .iastore => pe_f0 b k 79
  | .lastore => pe_f0 b k 80
  | .aastore => pe_f0 b k 83
  | .bastore => pe_f0 b k 84
  | .pop => pe_f0 b k 87
  | .pop2 => pe_f0 b k 88
  | .dup => pe_f0 b k 89
  | .dup2 => pe_f0 b k 92
  | .iadd => pe_f0 b k 96
  | .ladd => pe_f0 b k 97
  | .isub => pe_f0 b k 100
  | .lsub => pe_f0 b k 101
  | .imul => pe_f0 b k 104
  | .lmul => pe_f0 b k 105
  | .idiv => pe_f0 b k 108
  | .ldiv => pe_f0 b k 109
  | .irem => pe_f0 b k 112
  | .lrem => pe_f0 b k 113
  | .ineg => pe_f0 b k 116
  | .lneg => pe_f0 b k 117
  | .ishl => pe_f0 b k 120
  | .lshl => pe_f0 b k 121
  | .ishr => pe_f0 b k 122
  | .lshr => pe_f0 b k 123
  | .iushr => pe_f0 b k 124
  | .lushr => pe_f0 b k 125
  | .iand => pe_f0 b k 126
  | .land => pe_f0 b k 127
  | .ior => pe_f0 b k 128
  | .lor => pe_f0 b k 129
  | .ixor => pe_f0 b k 130
  | .lxor => pe_f0 b k 131
  | .i2l => pe_f0 b k 133
  | .l2i => pe_f0 b k 136
  | .i2b => pe_f0 b k 145
  | .lcmp => pe_f0 b k 148
  | .ireturn => pe_f0 b k 172
  | .lreturn => pe_f0 b k 173
  | .areturn => pe_f0 b k 176
  | .return_ => pe_f0 b k 177
  | .arraylength => pe_f0 b k 190
  | _ => false
set_option maxHeartbeats 4000000 in
theorem pe_q_ok {C : ByteArray} {p b a1 a2 k : Nat} {i : Instr} (h0 : pe_at C p b) (h1 : a1 < 256 → pe_at C (p + 1) a1) (h2 : a2 < 256 → pe_at C (p + 2) a2) (q : pe_q b a1 a2 k i = true) : decode C p = .ok (i, k) := by
  obtain ⟨K, e, k1, k46, k47, k50, k51, k79, k80, k83, k84, k87, k88, k89, k92, k96, k97, k100, k101, k104, k105, k108, k109, k112, k113, k116, k117, k120, k121, k122, k123, k124, k125, k126, k127, k128, k129, k130, k131, k133, k136, k145, k148, k172, k173, k176, k177, k190, k42, k43, k44, k45, k26, k27, k28, k29, k30, k31, k32, k33, k75, k76, k77, k78, k59, k60, k61, k62, k63, k64, k65, k66, k2, k3, k4, k5, k6, k7, k8, k9, k10, k16, k18, k21, k22, k25, k54, k55, k58, k20, k180, k181, k182, k183, k184, k187, k189, k17, k167, k153, k159, k154, k160, k155, k161, k156, k162, k157, k163, k158, k164, k132, k188⟩ := pe_K
  obtain ⟨N, eN, n4, n5, n6, n7, n8, n9, n10, n11⟩ := pe_N
  have key : ∀ {z : Instr} {w : Nat}, K p b C (p + 1) = .ok (z, p + w) → decode C p = .ok (z, w) := fun {z w} g => by
    have d := pe_dc (C := C) (p := p) (q := p + w) (i := z) (by rw [e]; exact pe_bd (pe_u1 h0) g)
    rw [Nat.add_sub_cancel_left] at d
    exact d
  have z0 : ∀ {op : Nat} {i : Instr}, pe_f0 b k op = true → K p op = (Pure.pure i : Decoder Instr) → decode C p = .ok (i, k) := fun {op i} f g => by
    unfold pe_f0 at f
    rw [Bool.and_eq_true] at f
    rw [Nat.eq_of_beq_eq_true f.2]
    refine key ?_
    rw [Nat.eq_of_beq_eq_true f.1, g]
    try rfl
  have d1 : ∀ {op : Nat}, pe_f1 b a1 k op = true → b = op ∧ k = 2 ∧ pe_at C (p + 1) a1 := fun {op} f => by
    unfold pe_f1 at f
    simp only [Bool.and_eq_true] at f
    exact ⟨Nat.eq_of_beq_eq_true f.1, Nat.eq_of_beq_eq_true f.2.1, h1 (Nat.le_of_ble_eq_true f.2.2)⟩
  have d2 : ∀ {op : Nat}, pe_f2 b a1 a2 k op = true → b = op ∧ k = 3 ∧ pe_at C (p + 1) a1 ∧ pe_at C (p + 1 + 1) a2 := fun {op} f => by
    unfold pe_f2 at f
    simp only [Bool.and_eq_true] at f
    exact ⟨Nat.eq_of_beq_eq_true f.1, Nat.eq_of_beq_eq_true f.2.1, h1 (Nat.le_of_ble_eq_true f.2.2.1), h2 (Nat.le_of_ble_eq_true f.2.2.2)⟩
  have z1 : ∀ {op : Nat} {f : Nat → Instr}, pe_f1 b a1 k op = true → K p op = (Reader.u1 >>= fun a => pure (f a) : Decoder Instr) → decode C p = .ok (f a1, k) := fun {op f} q g => by
    obtain ⟨q1, q2, q3⟩ := d1 q
    rw [q2]
    refine key ?_
    rw [q1, g]
    exact pe_bd (pe_u1 q3) rfl
  have z1s : ∀ {op : Nat} {f : Int → Instr}, pe_f1 b a1 k op = true → K p op = (Reader.s1 >>= fun a => pure (f a) : Decoder Instr) → decode C p = .ok (f (Reader.signed 8 a1), k) := fun {op f} q g => by
    obtain ⟨q1, q2, q3⟩ := d1 q
    rw [q2]
    refine key ?_
    rw [q1, g]
    exact pe_bd (pe_s1 q3) rfl
  have z2 : ∀ {op : Nat} {f : Nat → Instr}, pe_f2 b a1 a2 k op = true → K p op = (Reader.u2 >>= fun a => pure (f a) : Decoder Instr) → decode C p = .ok (f (a1 * 256 + a2), k) := fun {op f} q g => by
    obtain ⟨q1, q2, q3, q4⟩ := d2 q
    rw [q2]
    refine key ?_
    rw [q1, g]
    exact pe_bd (pe_u2 q3 q4) rfl
  have z2s : ∀ {op : Nat} {f : Int → Instr}, pe_f2 b a1 a2 k op = true → K p op = (Reader.s2 >>= fun a => pure (f a) : Decoder Instr) → decode C p = .ok (f (Reader.signed 16 (a1 * 256 + a2)), k) := fun {op f} q g => by
    obtain ⟨q1, q2, q3, q4⟩ := d2 q
    rw [q2]
    refine key ?_
    rw [q1, g]
    exact pe_bd (pe_s2 q3 q4) rfl
  cases i with
  | aload_n n =>
    obtain ⟨n, hn⟩ := n
    have q : pe_f0 b k (42 + n) = true := q
    rcases (show n = 0 ∨ n = 1 ∨ n = 2 ∨ n = 3 by omega) with rfl | rfl | rfl | rfl
    · exact z0 q (k42 p)
    · exact z0 q (k43 p)
    · exact z0 q (k44 p)
    · exact z0 q (k45 p)
  | iload_n n =>
    obtain ⟨n, hn⟩ := n
    have q : pe_f0 b k (26 + n) = true := q
    rcases (show n = 0 ∨ n = 1 ∨ n = 2 ∨ n = 3 by omega) with rfl | rfl | rfl | rfl
    · exact z0 q (k26 p)
    · exact z0 q (k27 p)
    · exact z0 q (k28 p)
    · exact z0 q (k29 p)
  | lload_n n =>
    obtain ⟨n, hn⟩ := n
    have q : pe_f0 b k (30 + n) = true := q
    rcases (show n = 0 ∨ n = 1 ∨ n = 2 ∨ n = 3 by omega) with rfl | rfl | rfl | rfl
    · exact z0 q (k30 p)
    · exact z0 q (k31 p)
    · exact z0 q (k32 p)
    · exact z0 q (k33 p)
  | astore_n n =>
    obtain ⟨n, hn⟩ := n
    have q : pe_f0 b k (75 + n) = true := q
    rcases (show n = 0 ∨ n = 1 ∨ n = 2 ∨ n = 3 by omega) with rfl | rfl | rfl | rfl
    · exact z0 q (k75 p)
    · exact z0 q (k76 p)
    · exact z0 q (k77 p)
    · exact z0 q (k78 p)
  | istore_n n =>
    obtain ⟨n, hn⟩ := n
    have q : pe_f0 b k (59 + n) = true := q
    rcases (show n = 0 ∨ n = 1 ∨ n = 2 ∨ n = 3 by omega) with rfl | rfl | rfl | rfl
    · exact z0 q (k59 p)
    · exact z0 q (k60 p)
    · exact z0 q (k61 p)
    · exact z0 q (k62 p)
  | lstore_n n =>
    obtain ⟨n, hn⟩ := n
    have q : pe_f0 b k (63 + n) = true := q
    rcases (show n = 0 ∨ n = 1 ∨ n = 2 ∨ n = 3 by omega) with rfl | rfl | rfl | rfl
    · exact z0 q (k63 p)
    · exact z0 q (k64 p)
    · exact z0 q (k65 p)
    · exact z0 q (k66 p)
  | lconst n =>
    obtain ⟨n, hn⟩ := n
    have q : pe_f0 b k (9 + n) = true := q
    rcases (show n = 0 ∨ n = 1 by omega) with rfl | rfl
    · exact z0 q (k9 p)
    · exact z0 q (k10 p)
  | iconst v =>
    have q : (Nat.beq k 1 && (Nat.ble 2 b && (Nat.ble b 8 && decide (v = (b : Int) - 3)))) = true := q
    simp only [Bool.and_eq_true, decide_eq_true_eq] at q
    obtain ⟨q1, q2, q3, rfl⟩ := q
    have q1 := Nat.eq_of_beq_eq_true q1
    have q2 := Nat.le_of_ble_eq_true q2
    have q3 := Nat.le_of_ble_eq_true q3
    subst q1
    rcases (show b = 2 ∨ b = 3 ∨ b = 4 ∨ b = 5 ∨ b = 6 ∨ b = 7 ∨ b = 8 by omega) with rfl | rfl | rfl | rfl | rfl | rfl | rfl
    · exact z0 (op := 2) rfl (k2 p)
    · exact z0 (op := 3) rfl (k3 p)
    · exact z0 (op := 4) rfl (k4 p)
    · exact z0 (op := 5) rfl (k5 p)
    · exact z0 (op := 6) rfl (k6 p)
    · exact z0 (op := 7) rfl (k7 p)
    · exact z0 (op := 8) rfl (k8 p)
  | bipush v =>
    have q : (pe_f1 b a1 k 16 && decide (Reader.signed 8 a1 = v)) = true := q
    rw [Bool.and_eq_true] at q
    rw [← of_decide_eq_true q.2]
    exact z1s q.1 (k16 p)
  | ldc x =>
    have q : (pe_f1 b a1 k 18 && Nat.beq a1 x) = true := q
    rw [Bool.and_eq_true] at q
    rw [← Nat.eq_of_beq_eq_true q.2]
    exact z1 (f := Instr.ldc) q.1 (k18 p)
  | iload x =>
    have q : (pe_f1 b a1 k 21 && Nat.beq a1 x) = true := q
    rw [Bool.and_eq_true] at q
    rw [← Nat.eq_of_beq_eq_true q.2]
    exact z1 (f := Instr.iload) q.1 (k21 p)
  | lload x =>
    have q : (pe_f1 b a1 k 22 && Nat.beq a1 x) = true := q
    rw [Bool.and_eq_true] at q
    rw [← Nat.eq_of_beq_eq_true q.2]
    exact z1 (f := Instr.lload) q.1 (k22 p)
  | aload x =>
    have q : (pe_f1 b a1 k 25 && Nat.beq a1 x) = true := q
    rw [Bool.and_eq_true] at q
    rw [← Nat.eq_of_beq_eq_true q.2]
    exact z1 (f := Instr.aload) q.1 (k25 p)
  | istore x =>
    have q : (pe_f1 b a1 k 54 && Nat.beq a1 x) = true := q
    rw [Bool.and_eq_true] at q
    rw [← Nat.eq_of_beq_eq_true q.2]
    exact z1 (f := Instr.istore) q.1 (k54 p)
  | lstore x =>
    have q : (pe_f1 b a1 k 55 && Nat.beq a1 x) = true := q
    rw [Bool.and_eq_true] at q
    rw [← Nat.eq_of_beq_eq_true q.2]
    exact z1 (f := Instr.lstore) q.1 (k55 p)
  | astore x =>
    have q : (pe_f1 b a1 k 58 && Nat.beq a1 x) = true := q
    rw [Bool.and_eq_true] at q
    rw [← Nat.eq_of_beq_eq_true q.2]
    exact z1 (f := Instr.astore) q.1 (k58 p)
  | ldc2_w x =>
    have q : (pe_f2 b a1 a2 k 20 && Nat.beq (a1 * 256 + a2) x) = true := q
    rw [Bool.and_eq_true] at q
    rw [← Nat.eq_of_beq_eq_true q.2]
    exact z2 (f := Instr.ldc2_w) q.1 (k20 p)
  | getfield x =>
    have q : (pe_f2 b a1 a2 k 180 && Nat.beq (a1 * 256 + a2) x) = true := q
    rw [Bool.and_eq_true] at q
    rw [← Nat.eq_of_beq_eq_true q.2]
    exact z2 (f := Instr.getfield) q.1 (k180 p)
  | putfield x =>
    have q : (pe_f2 b a1 a2 k 181 && Nat.beq (a1 * 256 + a2) x) = true := q
    rw [Bool.and_eq_true] at q
    rw [← Nat.eq_of_beq_eq_true q.2]
    exact z2 (f := Instr.putfield) q.1 (k181 p)
  | invokevirtual x =>
    have q : (pe_f2 b a1 a2 k 182 && Nat.beq (a1 * 256 + a2) x) = true := q
    rw [Bool.and_eq_true] at q
    rw [← Nat.eq_of_beq_eq_true q.2]
    exact z2 (f := Instr.invokevirtual) q.1 (k182 p)
  | invokespecial x =>
    have q : (pe_f2 b a1 a2 k 183 && Nat.beq (a1 * 256 + a2) x) = true := q
    rw [Bool.and_eq_true] at q
    rw [← Nat.eq_of_beq_eq_true q.2]
    exact z2 (f := Instr.invokespecial) q.1 (k183 p)
  | invokestatic x =>
    have q : (pe_f2 b a1 a2 k 184 && Nat.beq (a1 * 256 + a2) x) = true := q
    rw [Bool.and_eq_true] at q
    rw [← Nat.eq_of_beq_eq_true q.2]
    exact z2 (f := Instr.invokestatic) q.1 (k184 p)
  | new x =>
    have q : (pe_f2 b a1 a2 k 187 && Nat.beq (a1 * 256 + a2) x) = true := q
    rw [Bool.and_eq_true] at q
    rw [← Nat.eq_of_beq_eq_true q.2]
    exact z2 (f := Instr.new) q.1 (k187 p)
  | anewarray x =>
    have q : (pe_f2 b a1 a2 k 189 && Nat.beq (a1 * 256 + a2) x) = true := q
    rw [Bool.and_eq_true] at q
    rw [← Nat.eq_of_beq_eq_true q.2]
    exact z2 (f := Instr.anewarray) q.1 (k189 p)
  | sipush v =>
    have q : (pe_f2 b a1 a2 k 17 && decide (Reader.signed 16 (a1 * 256 + a2) = v)) = true := q
    rw [Bool.and_eq_true] at q
    rw [← of_decide_eq_true q.2]
    exact z2s (f := Instr.sipush) q.1 (k17 p)
  | goto v =>
    have q : (pe_f2 b a1 a2 k 167 && decide (Reader.signed 16 (a1 * 256 + a2) = v)) = true := q
    rw [Bool.and_eq_true] at q
    rw [← of_decide_eq_true q.2]
    exact z2s (f := Instr.goto) q.1 (k167 p)
  | ifCond c v =>
    have q : (pe_f2 b a1 a2 k (153 + pe_cn c) && decide (Reader.signed 16 (a1 * 256 + a2) = v)) = true := q
    rw [Bool.and_eq_true] at q
    rw [← of_decide_eq_true q.2]
    cases c with
    | eq => exact z2s (f := Instr.ifCond .eq) q.1 (k153 p)
    | ne => exact z2s (f := Instr.ifCond .ne) q.1 (k154 p)
    | lt => exact z2s (f := Instr.ifCond .lt) q.1 (k155 p)
    | ge => exact z2s (f := Instr.ifCond .ge) q.1 (k156 p)
    | gt => exact z2s (f := Instr.ifCond .gt) q.1 (k157 p)
    | le => exact z2s (f := Instr.ifCond .le) q.1 (k158 p)
  | if_icmp c v =>
    have q : (pe_f2 b a1 a2 k (159 + pe_cn c) && decide (Reader.signed 16 (a1 * 256 + a2) = v)) = true := q
    rw [Bool.and_eq_true] at q
    rw [← of_decide_eq_true q.2]
    cases c with
    | eq => exact z2s (f := Instr.if_icmp .eq) q.1 (k159 p)
    | ne => exact z2s (f := Instr.if_icmp .ne) q.1 (k160 p)
    | lt => exact z2s (f := Instr.if_icmp .lt) q.1 (k161 p)
    | ge => exact z2s (f := Instr.if_icmp .ge) q.1 (k162 p)
    | gt => exact z2s (f := Instr.if_icmp .gt) q.1 (k163 p)
    | le => exact z2s (f := Instr.if_icmp .le) q.1 (k164 p)
  | iinc x v =>
    have q : (pe_f2 b a1 a2 k 132 && (Nat.beq a1 x && decide (Reader.signed 8 a2 = v))) = true := q
    simp only [Bool.and_eq_true] at q
    rw [← of_decide_eq_true q.2.2, ← Nat.eq_of_beq_eq_true q.2.1]
    obtain ⟨q1, q2, q3, q4⟩ := d2 q.1
    rw [q2]
    refine key ?_
    rw [q1, k132]
    exact pe_bd (pe_u1 q3) (pe_bd (pe_s1 q4) rfl)
  | newarray t =>
    have q : (pe_f1 b a1 k 188 && Nat.beq a1 (pe_tn t)) = true := q
    rw [Bool.and_eq_true] at q
    obtain ⟨q1, q2, q3⟩ := d1 q.1
    have e3 := Nat.eq_of_beq_eq_true q.2
    rw [q2]
    refine key ?_
    rw [q1, k188, eN]
    refine pe_bd (pe_u1 q3) ?_
    rw [e3]
    cases t with
    | boolean => exact congrFun (congrFun (n4 p) C) (p + 1 + 1)
    | char => exact congrFun (congrFun (n5 p) C) (p + 1 + 1)
    | float => exact congrFun (congrFun (n6 p) C) (p + 1 + 1)
    | double => exact congrFun (congrFun (n7 p) C) (p + 1 + 1)
    | byte => exact congrFun (congrFun (n8 p) C) (p + 1 + 1)
    | short => exact congrFun (congrFun (n9 p) C) (p + 1 + 1)
    | int => exact congrFun (congrFun (n10 p) C) (p + 1 + 1)
    | long => exact congrFun (congrFun (n11 p) C) (p + 1 + 1)
  | aconst_null => exact z0 q (k1 p)
  | iaload => exact z0 q (k46 p)
  | laload => exact z0 q (k47 p)
  | aaload => exact z0 q (k50 p)
  | baload => exact z0 q (k51 p)
  | iastore => exact z0 q (k79 p)
  | lastore => exact z0 q (k80 p)
  | aastore => exact z0 q (k83 p)
  | bastore => exact z0 q (k84 p)
  | pop => exact z0 q (k87 p)
  | pop2 => exact z0 q (k88 p)
  | dup => exact z0 q (k89 p)
  | dup2 => exact z0 q (k92 p)
  | iadd => exact z0 q (k96 p)
  | ladd => exact z0 q (k97 p)
  | isub => exact z0 q (k100 p)
  | lsub => exact z0 q (k101 p)
  | imul => exact z0 q (k104 p)
  | lmul => exact z0 q (k105 p)
  | idiv => exact z0 q (k108 p)
  | ldiv => exact z0 q (k109 p)
  | irem => exact z0 q (k112 p)
  | lrem => exact z0 q (k113 p)
  | ineg => exact z0 q (k116 p)
  | lneg => exact z0 q (k117 p)
  | ishl => exact z0 q (k120 p)
  | lshl => exact z0 q (k121 p)
  | ishr => exact z0 q (k122 p)
  | lshr => exact z0 q (k123 p)
  | iushr => exact z0 q (k124 p)
  | lushr => exact z0 q (k125 p)
  | iand => exact z0 q (k126 p)
  | land => exact z0 q (k127 p)
  | ior => exact z0 q (k128 p)
  | lor => exact z0 q (k129 p)
  | ixor => exact z0 q (k130 p)
  | lxor => exact z0 q (k131 p)
  | i2l => exact z0 q (k133 p)
  | l2i => exact z0 q (k136 p)
  | i2b => exact z0 q (k145 p)
  | lcmp => exact z0 q (k148 p)
  | ireturn => exact z0 q (k172 p)
  | lreturn => exact z0 q (k173 p)
  | areturn => exact z0 q (k176 p)
  | return_ => exact z0 q (k177 p)
  | arraylength => exact z0 q (k190 p)
  | _ =>
    have h : false = true := q
    cases h
def pe_hd : List UInt8 → Nat
  | [] => 256
  | c :: _ => c.toNat
def pe_wk (y : Nat) : List UInt8 → Nat → Bool
  | [], _ => true
  | b :: t, pc => (match pm_codeT y pc with
    | none => true
    | some x => pe_q b.toNat (pe_hd t) (pe_hd t.tail) x.2 x.1 || decide (decode (pm_bytes y) pc = .ok x)) && pe_wk y t (pc + 1)
theorem pe_hd_at {C : ByteArray} {p : Nat} {l : List UInt8} (hl : ∀ j : Nat, l[j]? = C.data.toList[p + j]?) (h : pe_hd l < 256) : pe_at C p (pe_hd l) := by
  cases l with
  | nil => exact absurd h (Nat.lt_irrefl _)
  | cons c t =>
    have g := hl 0
    rw [Nat.add_zero] at g
    show pe_at C p c.toNat
    exact pe_at_of g.symm
theorem pe_wk_ok {y : Nat} : ∀ (l : List UInt8) (pc : Nat), pe_wk y l pc = true → (∀ j : Nat, l[j]? = (pm_bytes y).data.toList[pc + j]?) → ∀ (j : Nat) (x : pm_X), j < l.length → pm_codeT y (pc + j) = some x → decode (pm_bytes y) (pc + j) = .ok x
  | [], _, _, _, _, _, hj, _ => absurd hj (Nat.not_lt_zero _)
  | b :: t, pc, h, hl, j, x, hj, hc => by
    have h' : ((match pm_codeT y pc with
      | none => true
      | some x => pe_q b.toNat (pe_hd t) (pe_hd t.tail) x.2 x.1 || decide (decode (pm_bytes y) pc = .ok x)) && pe_wk y t (pc + 1)) = true := h
    rw [Bool.and_eq_true] at h'
    obtain ⟨g1, g2⟩ := h'
    have hl1 : ∀ j : Nat, t[j]? = (pm_bytes y).data.toList[pc + 1 + j]? := fun j => by
      have := hl (j + 1)
      rw [List.getElem?_cons_succ] at this
      rw [this, show pc + (j + 1) = pc + 1 + j by omega]
    cases j with
    | succ j =>
      rw [show pc + (j + 1) = pc + 1 + j by omega] at hc ⊢
      exact pe_wk_ok t (pc + 1) g2 hl1 j x (by rw [List.length_cons] at hj; omega) hc
    | zero =>
      rw [Nat.add_zero] at hc ⊢
      rw [hc] at g1
      have g1 : (pe_q b.toNat (pe_hd t) (pe_hd t.tail) x.2 x.1 || decide (decode (pm_bytes y) pc = .ok x)) = true := g1
      rcases (Bool.or_eq_true _ _).mp g1 with q | q
      · have hl2 : ∀ j : Nat, t.tail[j]? = (pm_bytes y).data.toList[pc + 2 + j]? := fun j => by
          cases t with
          | nil =>
            have := hl1 (j + 1)
            rw [show pc + 1 + (j + 1) = pc + 2 + j by omega] at this
            rw [← this]
            rfl
          | cons c r =>
            have := hl1 (j + 1)
            rw [show pc + 1 + (j + 1) = pc + 2 + j by omega] at this
            rw [← this]
            rfl
        have g := hl 0
        rw [Nat.add_zero] at g
        exact pe_q_ok (pe_at_of g.symm) (fun h => pe_hd_at hl1 h) (fun h => pe_hd_at hl2 h) q
      · exact of_decide_eq_true q
def pm_ckC (y : Nat) : Bool := Nat.ble (pm_lens.getD y 0) (pm_bytes y).data.toList.length && pe_wk y (pm_bytes y).data.toList 0
theorem pe_ckC_ok {y pc : Nat} {x : pm_X} (q : pm_ckC y = true) (h : pc < pm_lens.getD y 0) (hc : pm_codeT y pc = some x) : decode (pm_bytes y) pc = .ok x := by
  unfold pm_ckC at q
  rw [Bool.and_eq_true] at q
  have h1 := Nat.le_of_ble_eq_true q.1
  have r := pe_wk_ok _ 0 q.2 (fun j => by rw [Nat.zero_add]) pc x (by omega) (by rw [Nat.zero_add]; exact hc)
  rw [Nat.zero_add] at r
  exact r
end
section
set_option maxRecDepth 100000
theorem pm_cc0 : pm_rng 0 40 pm_ckC = true := by decide +kernel
theorem pm_cc40 : pm_rng 40 40 pm_ckC = true := by decide +kernel
theorem pm_cc80 : pm_rng 80 40 pm_ckC = true := by decide +kernel
theorem pm_cc120 : pm_rng 120 67 pm_ckC = true := by decide +kernel
end
section
set_option maxRecDepth 100000
theorem pm_cc187 : pm_rng 187 30 pm_ckC = true := by decide +kernel
theorem pm_cc217 : pm_rng 217 30 pm_ckC = true := by decide +kernel
theorem pm_cc247 : pm_rng 247 30 pm_ckC = true := by decide +kernel
theorem pm_cc277 : pm_rng 277 33 pm_ckC = true := by decide +kernel
theorem pm_cc310 : pm_rng 310 1 pm_ckC = true := by decide +kernel
end
section
def pm_AP : List Nat := [1060, 1058, 7142, 1059, 1034, 2217, 2031, 1104]
def pm_OI : List Nat := [1025, 1026]
def pm_MW : List (Nat × Nat × Nat) := [(4213, 1018, 4214), (5171, 1018, 5172), (6041, 1018, 6042)]
/-! what the tables say is so: decided once -/
def pm_blk (b : Nat) : List Jvm.Cond := cond (Nat.blt b 5) (cond (Nat.blt b 2) (cond (Nat.blt b 1) (k2_sels lw_privs) tables_1_1) (cond (Nat.blt b 3) tables_1_2 (cond (Nat.blt b 4) tables_1_3 tables_1_4))) (cond (Nat.blt b 7) (cond (Nat.blt b 6) tables_1_5 tables_1_6) (cond (Nat.blt b 8) tables_1_7 (cond (Nat.blt b 9) tables_1_8 tables_1_9)))
theorem pm_blk_in {b : Nat} {w : Jvm.Cond} (h : w ∈ pm_blk b) : w ∈ lw_tbl := by
  unfold pm_blk at h
  unfold lw_tbl tables_1
  simp only [List.mem_append]
  rcases Nat.lt_or_ge b 9 with hb | hb
  · rcases (show b = 0 ∨ b = 1 ∨ b = 2 ∨ b = 3 ∨ b = 4 ∨ b = 5 ∨ b = 6 ∨ b = 7 ∨ b = 8 by omega) with rfl | rfl | rfl | rfl | rfl | rfl | rfl | rfl | rfl <;> simp only [Nat.blt, Nat.ble, cond] at h <;> simp only [h, true_or, or_true]
  · have e5 : Nat.blt b 5 = false := by rw [Bool.eq_false_iff]; intro q; have := Nat.le_of_ble_eq_true q; omega
    have e7 : Nat.blt b 7 = false := by rw [Bool.eq_false_iff]; intro q; have := Nat.le_of_ble_eq_true q; omega
    have e8 : Nat.blt b 8 = false := by rw [Bool.eq_false_iff]; intro q; have := Nat.le_of_ble_eq_true q; omega
    have e9 : Nat.blt b 9 = false := by rw [Bool.eq_false_iff]; intro q; have := Nat.le_of_ble_eq_true q; omega
    rw [e5, e7, e8, e9] at h
    simp only [cond] at h
    simp only [h, true_or, or_true]
def pm_eqM (a b : MethodName) : Bool := decide (a.name = b.name) && (decide (a.desc = b.desc) && decide (a.cls = b.cls))
theorem pm_eqM_ok {a b : MethodName} (h : pm_eqM a b = true) : a = b := by
  obtain ⟨a1, a2, a3⟩ := a
  obtain ⟨b1, b2, b3⟩ := b
  unfold pm_eqM at h
  simp only [Bool.and_eq_true, decide_eq_true_eq] at h
  obtain ⟨rfl, rfl, rfl⟩ := h
  rfl
/-- codes compared byte by byte -/
def pe_eqL : List UInt8 → List UInt8 → Bool
  | [], [] => true
  | a :: s, b :: t => Nat.beq a.toNat b.toNat && pe_eqL s t
  | _, _ => false
theorem pe_eqL_ok : ∀ {s t : List UInt8}, pe_eqL s t = true → s = t
  | [], [], _ => rfl
  | [], _ :: _, h => by
    have h' : false = true := h
    cases h'
  | _ :: _, [], h => by
    have h' : false = true := h
    cases h'
  | a :: s, b :: t, h => by
    have h' : (Nat.beq a.toNat b.toNat && pe_eqL s t) = true := h
    rw [Bool.and_eq_true] at h'
    rw [UInt8.toNat_inj.mp (Nat.eq_of_beq_eq_true h'.1), pe_eqL_ok h'.2]
def pe_eqB (a b : ByteArray) : Bool := pe_eqL a.data.toList b.data.toList
theorem pe_eqB_ok {a b : ByteArray} (h : pe_eqB a b = true) : a = b := by
  obtain ⟨⟨x⟩⟩ := a
  obtain ⟨⟨y⟩⟩ := b
  have h' : x = y := pe_eqL_ok h
  rw [h']
/-- two words are one, compared part by part -/
def pm_eqW (a b : Jvm.Cond) : Bool := match a, b with
  | .code n x k r, .code n' x' k' r' => pm_eqM n n' && (Nat.beq k k' && (decide (r = r') && pe_eqB x x'))
  | .static n, .static n' => pm_eqM n n'
  | .instanceMethod n, .instanceMethod n' => pm_eqM n n'
  | .initialized c, .initialized c' => decide (c = c')
  | .selects c n o, .selects c' n' o' => decide (c = c') && (pm_eqM n n' && pm_eqM o o')
  | .fieldLink c i r n d, .fieldLink c' i' r' n' d' => Nat.beq i i' && (decide (n = n') && (decide (d = d') && (decide (c = c') && decide (r = r'))))
  | .methodLink c i n, .methodLink c' i' n' => Nat.beq i i' && (decide (c = c') && pm_eqM n n')
  | .methodLinkNest c i n h, .methodLinkNest c' i' n' h' => Nat.beq i i' && (decide (c = c') && (pm_eqM n n' && decide (h = h')))
  | .classLink c i n, .classLink c' i' n' => Nat.beq i i' && (decide (c = c') && decide (n = n'))
  | .constantLong c i x, .constantLong c' i' x' => Nat.beq i i' && (decide (c = c') && decide (x = x'))
  | .lays c o n d, .lays c' o' n' d' => decide (n = n') && (decide (c = c') && (decide (o = o') && decide (d = d')))
  | .laysFinal c o n d, .laysFinal c' o' n' d' => decide (n = n') && (decide (c = c') && (decide (o = o') && decide (d = d')))
  | .instantiable c n, .instantiable c' n' => Nat.beq n n' && decide (c = c')
  | .arrayClass t, .arrayClass t' => decide (t = t')
  | .arrayOver t, .arrayOver t' => decide (t = t')
  | _, _ => false
theorem pm_eqW_ok {a b : Jvm.Cond} (h : pm_eqW a b = true) : a = b := by
  unfold pm_eqW at h
  split at h <;> first | (cases h; done) | skip
  all_goals (try simp only [Bool.and_eq_true, decide_eq_true_eq] at h)
  · obtain ⟨h1, h2, rfl, h4⟩ := h
    rw [pm_eqM_ok h1, Nat.eq_of_beq_eq_true h2, pe_eqB_ok h4]
  · rw [pm_eqM_ok h]
  · rw [pm_eqM_ok h]
  · rw [h]
  · obtain ⟨rfl, h1, h2⟩ := h
    rw [pm_eqM_ok h1, pm_eqM_ok h2]
  · obtain ⟨h1, rfl, rfl, rfl, rfl⟩ := h
    rw [Nat.eq_of_beq_eq_true h1]
  · obtain ⟨h1, rfl, h2⟩ := h
    rw [Nat.eq_of_beq_eq_true h1, pm_eqM_ok h2]
  · obtain ⟨h1, rfl, h2, rfl⟩ := h
    rw [Nat.eq_of_beq_eq_true h1, pm_eqM_ok h2]
  · obtain ⟨h1, rfl, rfl⟩ := h
    rw [Nat.eq_of_beq_eq_true h1]
  · obtain ⟨h1, rfl, rfl⟩ := h
    rw [Nat.eq_of_beq_eq_true h1]
  · obtain ⟨rfl, rfl, rfl, rfl⟩ := h
    rfl
  · obtain ⟨rfl, rfl, rfl, rfl⟩ := h
    rfl
  · obtain ⟨h1, rfl⟩ := h
    rw [Nat.eq_of_beq_eq_true h1]
  · rw [h]
  · rw [h]
def pm_isAt (p : Nat) (w : Jvm.Cond) : Bool := match (pm_blk (p / 1000))[p % 1000]? with
  | some v => pm_eqW v w
  | none => false
theorem pm_isAt_in {p : Nat} {w : Jvm.Cond} (h : pm_isAt p w = true) : w ∈ lw_tbl := by
  unfold pm_isAt at h
  split at h
  · next v hv =>
    rw [← pm_eqW_ok h]
    exact pm_blk_in (List.mem_of_getElem? hv)
  · cases h
def pm_ckM (y : Nat) : Bool :=
  pm_isAt (pm_p y).1 (.code (pm_name y) (pm_bytes y) (pm_ml y) (pm_ret y)) && (pm_isAt (pm_p y).2.1 (cond (pm_st y) (.static (pm_name y)) (.instanceMethod (pm_name y)))
  && (pm_isAt (pm_p y).2.2.1 (.initialized (pm_name y).cls) && ((pm_st y || ((pm_name y).name == "<init>") || pm_isAt (pm_p y).2.2.2 (.selects (pm_name y).cls (pm_name y) (pm_name y)))
  && (decide (plainName (pm_name y).cls = true) && (decide ((pm_name y).cls ≠ "java/lang/invoke/MethodHandle" ∧ (pm_name y).cls ≠ "java/lang/invoke/VarHandle" ∧ (parseMethodDescriptor (pm_name y).desc).map (fun d => d.parameters.length) = some (pm_np y))
  && (Nat.ble (pm_ml y) 10 && (decide ((pm_name y).cls = pm_on (pm_own y)) && (((pm_name y).name == "<init>") == false || decide (pm_ret y = none))))))))) 
def pm_ckF (c : Nat) : Bool := (pm_FL c).all (fun q => Nat.blt q.2.1 13 && (Nat.blt q.2.2.1 (pm_Fs q.2.1).length && pm_isAt q.2.2.2 (.fieldLink (pm_on c) q.1 (pm_nm q.2.1) ((pm_Fs q.2.1).getD q.2.2.1 ("", "", "", false)).2.1 ((pm_Fs q.2.1).getD q.2.2.1 ("", "", "", false)).2.2.1)))
def pm_mnm (m : Nat) : MethodName := cond (Nat.beq m 0) objectInit (cond (Nat.beq m 1) ⟨"java/lang/String", "length", "()I"⟩ (cond (Nat.beq m 2) ⟨"java/lang/String", "charAt", "(I)C"⟩ (cond (Nat.beq m 3) ⟨"java/lang/Math", "max", "(II)I"⟩ (cond (Nat.beq m 4) ⟨"java/lang/Math", "min", "(II)I"⟩ (cond (Nat.beq m 5) ⟨"java/lang/Math", "min", "(JJ)J"⟩ (pm_name (m - 6)))))))
def pm_ckL (c : Nat) : Bool := (pm_ML c).all (fun q => pm_isAt q.2.2.1 (cond (Nat.beq q.2.2.2 0) (.methodLink (pm_on c) q.1 (pm_mnm q.2.1)) (.methodLinkNest (pm_on c) q.1 (pm_mnm q.2.1) "ProofBench")) && (Nat.ble q.2.1 5 || Nat.blt (q.2.1 - 6) pm_nM))
def pm_ckK (c : Nat) : Bool := (pm_CL c).all (fun q => Nat.blt q.2.1 13 && pm_isAt q.2.2 (.classLink (pm_on c) q.1 (pm_nm q.2.1))) && (pm_LL c).all (fun q => pm_isAt q.2.2 (.constantLong (pm_on c) q.1 q.2.1))
def pm_ckO (c : Nat) : Bool := Nat.beq (pm_Fs c).length (pm_Ts c).length && (Nat.beq (pm_Fs c).length (pm_cl.getD c ("", (fun _ => ("", "", "", false)), 0)).2.2
  && ((List.range (pm_Fs c).length).all (fun k => pm_isAt ((pm_Gs c).getD k 0) (u_lay (pm_nm c) (pm_cl.getD c ("", (fun _ => ("", "", "", false)), 0)).2.1 k) && (decide ((pm_cl.getD c ("", (fun _ => ("", "", "", false)), 0)).2.1 k = (pm_Fs c).getD k ("", "", "", false)) && (decide (parseFieldDescriptor ((pm_Fs c).getD k ("", "", "", false)).2.2.1 = some ((pm_Ts c).getD k .int)) && decide (((pm_Fs c).getD k ("", "", "", false)).1 = pm_nm c))))
  && (decide (∀ a, a < (pm_Fs c).length → ∀ b, b < (pm_Fs c).length → a ≠ b → ((pm_Fs c).getD a ("", "", "", false)).2.1 ≠ ((pm_Fs c).getD b ("", "", "", false)).2.1)
  && (pm_isAt (pm_I.getD c (0, 0)).1 (.instantiable (pm_nm c) (pm_Fs c).length) && (pm_isAt (pm_I.getD c (0, 0)).2 (.initialized (pm_nm c)) && decide ((pm_cl.getD c ("", (fun _ => ("", "", "", false)), 0)).1 = pm_nm c))))))
set_option maxRecDepth 100000
theorem pm_d0 : pm_rng 0 20 pm_ckM = true := by decide +kernel
theorem pm_d20 : pm_rng 20 20 pm_ckM = true := by decide +kernel
theorem pm_d40 : pm_rng 40 20 pm_ckM = true := by decide +kernel
theorem pm_d60 : pm_rng 60 20 pm_ckM = true := by decide +kernel
theorem pm_d80 : pm_rng 80 20 pm_ckM = true := by decide +kernel
theorem pm_d100 : pm_rng 100 20 pm_ckM = true := by decide +kernel
theorem pm_d120 : pm_rng 120 20 pm_ckM = true := by decide +kernel
theorem pm_d140 : pm_rng 140 20 pm_ckM = true := by decide +kernel
end
section
set_option maxRecDepth 100000
theorem pm_d160 : pm_rng 160 10 pm_ckM = true := by decide +kernel
theorem pm_d170 : pm_rng 170 10 pm_ckM = true := by decide +kernel
theorem pm_d180 : pm_rng 180 10 pm_ckM = true := by decide +kernel
theorem pm_d190 : pm_rng 190 10 pm_ckM = true := by decide +kernel
theorem pm_d200 : pm_rng 200 10 pm_ckM = true := by decide +kernel
theorem pm_d210 : pm_rng 210 10 pm_ckM = true := by decide +kernel
theorem pm_d220 : pm_rng 220 10 pm_ckM = true := by decide +kernel
end
section
set_option maxRecDepth 100000
theorem pm_d230 : pm_rng 230 10 pm_ckM = true := by decide +kernel
theorem pm_d240 : pm_rng 240 5 pm_ckM = true := by decide +kernel
theorem pm_d245 : pm_rng 245 5 pm_ckM = true := by decide +kernel
theorem pm_d250 : pm_rng 250 5 pm_ckM = true := by decide +kernel
end
section
set_option maxRecDepth 100000
theorem pm_d255 : pm_rng 255 5 pm_ckM = true := by decide +kernel
theorem pm_d260 : pm_rng 260 5 pm_ckM = true := by decide +kernel
theorem pm_d265 : pm_rng 265 5 pm_ckM = true := by decide +kernel
theorem pm_d270 : pm_rng 270 5 pm_ckM = true := by decide +kernel
theorem pm_d275 : pm_rng 275 5 pm_ckM = true := by decide +kernel
end
section
set_option maxRecDepth 100000
theorem pm_d280 : pm_rng 280 5 pm_ckM = true := by decide +kernel
theorem pm_d285 : pm_rng 285 5 pm_ckM = true := by decide +kernel
theorem pm_d290 : pm_rng 290 5 pm_ckM = true := by decide +kernel
theorem pm_d295 : pm_rng 295 5 pm_ckM = true := by decide +kernel
theorem pm_d300 : pm_rng 300 5 pm_ckM = true := by decide +kernel
theorem pm_d305 : pm_rng 305 5 pm_ckM = true := by decide +kernel
end
