/-! THE PURE MACHINE: a method's run on a world of cells by number (0, 1, .. in the order in which they are made); it answers none where the Java machine would throw, or where it isn't made for what stands there -/
/-- a row's places: what was written, the last first -/
abbrev pm_C : Type := List (Nat × Int32) ⊕ (List (Nat × Int64) ⊕ List (Nat × Option Nat))
def pm_rd {α : Type} (d : α) : List (Nat × α) → Nat → α
  | [], _ => d
  | q :: l, j => cond (Nat.beq j q.1) q.2 (pm_rd d l j)
abbrev pm_E : Type := (Nat × Nat × pm_C) ⊕ (Nat × List Value)
/-- the cells by number, how many there are, how many fields and elements they have -/
abbrev pm_W : Type := (Nat → pm_E) × (Nat × Nat)
abbrev pm_L : Type := List (Nat × Value)
/-- where the numbers of the text constants begin -/
def pm_S0 : Nat := 1000000
def pm_txt (i : Nat) : List Nat := cond (Nat.beq i 0) [102, 97, 108, 115, 101, 32, 97, 110, 100, 32, 111, 114, 32, 105, 109, 112, 32, 97, 108, 108, 32, 115, 111, 109, 101, 32, 115, 97, 109, 101, 32, 110, 111, 116, 32, 114, 101, 108, 32, 102, 117, 110, 32, 97, 120, 105, 111, 109, 32]
  (cond (Nat.beq i 1) [97, 115, 115, 117, 109, 101, 32, 116, 104, 101, 111, 114, 101, 109, 32, 98, 111, 116, 104, 32, 108, 101, 102, 116, 32, 114, 105, 103, 104, 116, 32, 111, 114, 108, 101, 102, 116, 32, 111, 114, 114, 105, 103, 104, 116, 32, 99, 97, 115, 101, 32, 97, 112, 112, 108, 121, 32, 100, 101, 100, 117, 99, 101, 32]
  [103, 101, 110, 101, 114, 97, 108, 32, 115, 112, 101, 99, 105, 97, 108, 32, 101, 120, 105, 115, 116, 32, 111, 112, 101, 110, 32, 114, 101, 112, 108, 97, 99, 101, 32, 97, 98, 115, 117, 114, 100, 32, 99, 108, 97, 115, 115, 105, 99, 32])
/-- the script's number: the law reads it, nobody writes it -/
def pm_SC : Nat := 1000100
def pm_get (w : pm_W) (r : Nat) : Option pm_E := cond (Nat.blt r w.2.1) (some (w.1 r)) none
def pm_up (f : Nat → pm_E) (k : Nat) (v : pm_E) (j : Nat) : pm_E := cond (Nat.beq j k) v (f j)
theorem pm_up_eq (f : Nat → pm_E) (k : Nat) (v : pm_E) (j : Nat) : pm_up f k v j = if j = k then v else f j := by
  unfold pm_up
  by_cases h : j = k
  · rw [if_pos h, show Nat.beq j k = true from by rw [h]; exact Nat.beq_refl k]; rfl
  · rw [if_neg h, show Nat.beq j k = false from by rw [Bool.eq_false_iff]; exact fun q => h (Nat.eq_of_beq_eq_true q)]; rfl
def pm_set (w : pm_W) (r : Nat) (e : pm_E) : pm_W := (pm_up w.1 r e, w.2)
def pm_new (w : pm_W) (e : pm_E) (k : Nat) : pm_W := (pm_up w.1 w.2.1 e, (w.2.1 + 1, w.2.2 + k))
def pm_lk : pm_L → Nat → Option Value
  | [], _ => none
  | q :: L, i => cond (Nat.beq q.1 i) (some q.2) (pm_lk L i)
def pm_st1 (L : pm_L) (i : Nat) (v : Value) : pm_L := (i, v) :: L.filter (fun q => !(q.1 == i) && !(q.1 + 1 == i && q.2.category == 2))
def pm_st2 (L : pm_L) (i : Nat) (v : Value) : pm_L := (i, v) :: L.filter (fun q => !(q.1 == i) && (!(q.1 == i + 1) && !(q.1 + 1 == i && q.2.category == 2)))
def pm_in (i : Int32) (n : Nat) : Bool := decide (0 ≤ i) && Nat.blt i.toNatClampNeg n
def pm_cnd (c : ClassFile.Cond) (x y : Int32) : Bool := match c with
  | .eq => decide (x = y)
  | .ne => !decide (x = y)
  | .lt => decide (x < y)
  | .ge => decide (y ≤ x)
  | .gt => decide (y < x)
  | .le => decide (x ≤ y)
def pm_tgt (pc : Nat) (off : Int) : Nat := ((pc : Int) + off).toNat
def pm_l4 (l : List (Nat × Nat × Nat × Nat)) (i : Nat) : Option (Nat × Nat × Nat × Nat) := l.find? (fun q => Nat.beq q.1 i)
def pm_l3 (l : List (Nat × Nat × Nat)) (i : Nat) : Option (Nat × Nat × Nat) := l.find? (fun q => Nat.beq q.1 i)
def pm_lj (l : List (Nat × Int64 × Nat)) (i : Nat) : Option (Nat × Int64 × Nat) := l.find? (fun q => Nat.beq q.1 i)
/-- the element types of the rows, by number -/
def pm_ty (t : Nat) : FieldType := cond (Nat.beq t 0) .int (cond (Nat.beq t 1) .byte (cond (Nat.beq t 2) .boolean (cond (Nat.beq t 3) .long (.object (pm_nm (t + 1))))))
def pm_at : ArrayType → Option Nat
  | .int => some 0
  | .byte => some 1
  | .boolean => some 2
  | .long => some 3
  | _ => none
def pm_zero (t n : Nat) : Nat × pm_C := cond (Nat.beq t 3) (n, .inr (.inl [])) (n, .inl [])
def pm_rf (r : Option Nat) : Value := va_rf r
def pm_okv (ty : FieldType) (v : Value) : Bool := match ty, v with
  | .int, .int _ => true
  | .long, .long _ => true
  | .boolean, .int x => decide (x &&& 1 = x)
  | .byte, .int x => decide (x.toInt8.toInt32 = x)
  | .object _, .ref _ => true
  | .array _, .ref _ => true
  | _, _ => false
abbrev pm_R : Type := Option (Nat × pm_L × List Value × pm_W)
def pm_load (L : pm_L) (i pc : Nat) (st : List Value) (w : pm_W) (k : Nat) (is : Value → Bool) : pm_R :=
  match pm_lk L i with
  | some v => cond (is v) (some (pc + k, L, v :: st, w)) none
  | none => none
def pm_isI : Value → Bool
  | .int _ => true
  | _ => false
def pm_isJ : Value → Bool
  | .long _ => true
  | _ => false
def pm_isA : Value → Bool
  | .ref _ => true
  | _ => false
def pm_sto (nL : Nat) (L : pm_L) (i pc : Nat) (st : List Value) (w : pm_W) (k : Nat) (is : Value → Bool) : pm_R :=
  match st with
  | v :: rest => cond (is v && Nat.blt i nL) (some (pc + k, pm_st1 L i v, rest, w)) none
  | _ => none
def pm_stoJ (nL : Nat) (L : pm_L) (i pc : Nat) (st : List Value) (w : pm_W) (k : Nat) : pm_R :=
  match st with
  | .long x :: rest => cond (Nat.blt (i + 1) nL) (some (pc + k, pm_st2 L i (.long x), rest, w)) none
  | _ => none
def pm_bin (f : Int32 → Int32 → Int32) (L : pm_L) (pc : Nat) (st : List Value) (w : pm_W) : pm_R :=
  match st with
  | .int y :: .int x :: rest => some (pc + 1, L, .int (f x y) :: rest, w)
  | _ => none
def pm_binJ (f : Int64 → Int64 → Int64) (L : pm_L) (pc : Nat) (st : List Value) (w : pm_W) : pm_R :=
  match st with
  | .long y :: .long x :: rest => some (pc + 1, L, .long (f x y) :: rest, w)
  | _ => none
/-- one instruction, but calls and returns -/
def pm_op (X : Option (Nat × (Nat → Int32))) (own nL : Nat) (init : Bool) (i : Instr) (pc : Nat) (L : pm_L) (st : List Value) (w : pm_W) : pm_R :=
  match i with
  | .aload_n j => pm_load L j.val pc st w 1 pm_isA
  | .aload j => pm_load L j pc st w 2 pm_isA
  | .iload_n j => pm_load L j.val pc st w 1 pm_isI
  | .iload j => pm_load L j pc st w 2 pm_isI
  | .lload_n j => pm_load L j.val pc st w 1 pm_isJ
  | .lload j => pm_load L j pc st w 2 pm_isJ
  | .astore_n j => pm_sto nL L j.val pc st w 1 pm_isA
  | .astore j => pm_sto nL L j pc st w 2 pm_isA
  | .istore_n j => pm_sto nL L j.val pc st w 1 pm_isI
  | .istore j => pm_sto nL L j pc st w 2 pm_isI
  | .lstore_n j => pm_stoJ nL L j.val pc st w 1
  | .lstore j => pm_stoJ nL L j pc st w 2
  | .iinc j n => match pm_lk L j with
    | some (.int x) => cond (Nat.blt j nL) (some (pc + 3, pm_st1 L j (.int (x + Int32.ofInt n)), st, w)) none
    | _ => none
  | .iconst n => some (pc + 1, L, .int (Int32.ofInt n) :: st, w)
  | .bipush n => some (pc + 2, L, .int (Int8.ofInt n).toInt32 :: st, w)
  | .sipush n => some (pc + 3, L, .int (Int16.ofInt n).toInt32 :: st, w)
  | .lconst j => some (pc + 1, L, .long (Int64.ofNat j.val) :: st, w)
  | .ldc2_w j => match pm_lj (pm_LL own) j with
    | some (_, x, _) => some (pc + 3, L, .long x :: st, w)
    | none => none
  | .ldc j => cond (Nat.beq own 10) (cond (Nat.beq j 19) (some (pc + 2, L, .ref pm_S0 :: st, w)) (cond (Nat.beq j 25) (some (pc + 2, L, .ref (pm_S0 + 1) :: st, w)) (cond (Nat.beq j 27) (some (pc + 2, L, .ref (pm_S0 + 2) :: st, w)) none))) none
  | .iadd => pm_bin (fun x y => x + y) L pc st w
  | .isub => pm_bin (fun x y => x - y) L pc st w
  | .imul => pm_bin (fun x y => x * y) L pc st w
  | .iand => pm_bin (fun x y => x &&& y) L pc st w
  | .ior => pm_bin (fun x y => x ||| y) L pc st w
  | .ishl => pm_bin (fun x y => x <<< (y &&& 31)) L pc st w
  | .ishr => pm_bin (fun x y => x >>> (y &&& 31)) L pc st w
  | .idiv => match st with
    | .int y :: .int x :: rest => cond (decide (y = 0)) none (some (pc + 1, L, .int (x / y) :: rest, w))
    | _ => none
  | .irem => match st with
    | .int y :: .int x :: rest => cond (decide (y = 0)) none (some (pc + 1, L, .int (x - (x / y) * y) :: rest, w))
    | _ => none
  | .ladd => pm_binJ (fun x y => x + y) L pc st w
  | .lsub => pm_binJ (fun x y => x - y) L pc st w
  | .lmul => pm_binJ (fun x y => x * y) L pc st w
  | .land => pm_binJ (fun x y => x &&& y) L pc st w
  | .lor => pm_binJ (fun x y => x ||| y) L pc st w
  | .lxor => pm_binJ (fun x y => x ^^^ y) L pc st w
  | .lshl => match st with
    | .int y :: .long x :: rest => some (pc + 1, L, .long (x <<< (y.toInt64 &&& 63)) :: rest, w)
    | _ => none
  | .lcmp => match st with
    | .long y :: .long x :: rest => some (pc + 1, L, .int (lg_cmp x y) :: rest, w)
    | _ => none
  | .i2l => match st with
    | .int x :: rest => some (pc + 1, L, .long x.toInt64 :: rest, w)
    | _ => none
  | .l2i => match st with
    | .long x :: rest => some (pc + 1, L, .int x.toInt32 :: rest, w)
    | _ => none
  | .i2b => match st with
    | .int x :: rest => some (pc + 1, L, .int x.toInt8.toInt32 :: rest, w)
    | _ => none
  | .dup => match st with
    | .int x :: rest => some (pc + 1, L, .int x :: .int x :: rest, w)
    | .ref x :: rest => some (pc + 1, L, .ref x :: .ref x :: rest, w)
    | _ => none
  | .pop => match st with
    | .int _ :: rest => some (pc + 1, L, rest, w)
    | _ => none
  | .pop2 => match st with
    | .long _ :: rest => some (pc + 1, L, rest, w)
    | _ => none
  | .dup2 => match st with
    | .int y :: .ref x :: rest => some (pc + 1, L, .int y :: .ref x :: .int y :: .ref x :: rest, w)
    | _ => none
  | .ifCond c off => match st with
    | .int x :: rest => cond (decide ((pc : Int) + off = (pm_tgt pc off : Int))) (some (cond (pm_cnd c x 0) (pm_tgt pc off) (pc + 3), L, rest, w)) none
    | _ => none
  | .if_icmp c off => match st with
    | .int y :: .int x :: rest => cond (decide ((pc : Int) + off = (pm_tgt pc off : Int))) (some (cond (pm_cnd c x y) (pm_tgt pc off) (pc + 3), L, rest, w)) none
    | _ => none
  | .goto off => cond (decide ((pc : Int) + off = (pm_tgt pc off : Int))) (some (pm_tgt pc off, L, st, w)) none
  | .tableswitch dflt lo hi offs => match st with
    | .int x :: rest => cond (decide (x.toInt < lo ∨ hi < x.toInt)) (cond (decide ((pc : Int) + dflt = (pm_tgt pc dflt : Int))) (some (pm_tgt pc dflt, L, rest, w)) none)
      (match offs.toList[(x.toInt - lo).toNat]? with
       | some off => cond (decide ((pc : Int) + off = (pm_tgt pc off : Int))) (some (pm_tgt pc off, L, rest, w)) none
       | none => none)
    | _ => none
  | .lookupswitch dflt ps => match st with
    | .int x :: rest => cond ((ps.toList.zip (ps.toList.drop 1)).all (fun q => decide (q.1.1 < q.2.1))) (cond (decide ((pc : Int) + Op.lookupswitch.offset ps.toList dflt x.toInt = (pm_tgt pc (Op.lookupswitch.offset ps.toList dflt x.toInt) : Int))) (some (pm_tgt pc (Op.lookupswitch.offset ps.toList dflt x.toInt), L, rest, w)) none) none
    | _ => none
  | .getfield j => match st with
    | .ref r :: rest => match pm_l4 (pm_FL own) j with
      | some (_, c, k, _) => match pm_get w r with
        | some (.inr (c', fs)) => cond (Nat.beq c c') (match fs[k]? with
          | some v => some (pc + 3, L, v :: rest, w)
          | none => none) none
        | _ => none
      | none => none
    | _ => none
  | .putfield j => match st with
    | v :: .ref r :: rest => match pm_l4 (pm_FL own) j with
      | some (_, c, k, _) => match pm_get w r with
        | some (.inr (c', fs)) => cond (Nat.beq c c' && Nat.blt k fs.length && pm_okv ((pm_Ts c).getD k .int) v && (!((pm_Fs c).getD k ("", "", "", false)).2.2.2 || (init && Nat.beq c own)))
          (some (pc + 3, L, rest, pm_set w r (.inr (c', fs.set k v)))) none
        | _ => none
      | none => none
    | _ => none
  | .iaload => match st with
    | .int i :: .ref r :: rest => cond (Nat.beq r pm_SC) (match X with
      | some x => cond (pm_in i x.1) (some (pc + 1, L, .int (x.2 i.toNatClampNeg) :: rest, w)) none
      | none => none) (match pm_get w r with
      | some (.inl (t, n, .inl f)) => cond (Nat.beq t 0 && pm_in i n) (some (pc + 1, L, .int (pm_rd 0 f i.toNatClampNeg) :: rest, w)) none
      | _ => none)
    | _ => none
  | .baload => match st with
    | .int i :: .ref r :: rest => match pm_get w r with
      | some (.inl (t, n, .inl f)) => cond ((Nat.beq t 1 || Nat.beq t 2) && pm_in i n) (some (pc + 1, L, .int (pm_rd 0 f i.toNatClampNeg) :: rest, w)) none
      | _ => none
    | _ => none
  | .laload => match st with
    | .int i :: .ref r :: rest => match pm_get w r with
      | some (.inl (t, n, .inr (.inl f))) => cond (Nat.beq t 3 && pm_in i n) (some (pc + 1, L, .long (pm_rd 0 f i.toNatClampNeg) :: rest, w)) none
      | _ => none
    | _ => none
  | .aaload => match st with
    | .int i :: .ref r :: rest => match pm_get w r with
      | some (.inl (t, n, .inr (.inr f))) => cond (Nat.blt 3 t && Nat.blt t 8 && pm_in i n) (some (pc + 1, L, va_rf (pm_rd none f i.toNatClampNeg) :: rest, w)) none
      | _ => none
    | _ => none
  | .iastore => match st with
    | .int x :: .int i :: .ref r :: rest => match pm_get w r with
      | some (.inl (t, n, .inl f)) => cond (Nat.beq t 0 && pm_in i n) (some (pc + 1, L, rest, pm_set w r (.inl (t, n, .inl ((i.toNatClampNeg, x) :: f))))) none
      | _ => none
    | _ => none
  | .bastore => match st with
    | .int x :: .int i :: .ref r :: rest => match pm_get w r with
      | some (.inl (t, n, .inl f)) => cond ((Nat.beq t 1 || Nat.beq t 2) && pm_in i n) (some (pc + 1, L, rest, pm_set w r (.inl (t, n, .inl ((i.toNatClampNeg, vp_nar (pm_ty t) x) :: f))))) none
      | _ => none
    | _ => none
  | .lastore => match st with
    | .long x :: .int i :: .ref r :: rest => match pm_get w r with
      | some (.inl (t, n, .inr (.inl f))) => cond (Nat.beq t 3 && pm_in i n) (some (pc + 1, L, rest, pm_set w r (.inl (t, n, .inr (.inl ((i.toNatClampNeg, x) :: f)))))) none
      | _ => none
    | _ => none
  | .aastore => match st with
    | .ref v :: .int i :: .ref r :: rest => match pm_get w r with
      | some (.inl (t, n, .inr (.inr f))) => match pm_get w v with
        | some (.inr (c, _)) => cond (Nat.blt 3 t && Nat.blt t 8 && Nat.beq c (t + 1) && pm_in i n) (some (pc + 1, L, rest, pm_set w r (.inl (t, n, .inr (.inr ((i.toNatClampNeg, some v) :: f)))))) none
        | _ => none
      | _ => none
    | _ => none
  | .arraylength => match st with
    | .ref r :: rest => cond (Nat.beq r pm_SC) (match X with
      | some x => some (pc + 1, L, .int (Int32.ofNat x.1) :: rest, w)
      | none => none) (match pm_get w r with
      | some (.inl (t, a)) => cond (Nat.blt t 8) (some (pc + 1, L, .int (Int32.ofNat a.1) :: rest, w)) none
      | _ => none)
    | _ => none
  | .newarray ty => match st with
    | .int n :: rest => match pm_at ty with
      | some t => cond (decide (0 ≤ n) && Nat.blt n.toNatClampNeg 100000 && Nat.blt w.2.1 pm_S0) (some (pc + 2, L, .ref w.2.1 :: rest, pm_new w (.inl (t, pm_zero t n.toNatClampNeg)) n.toNatClampNeg)) none
      | none => none
    | _ => none
  | .anewarray j => match st with
    | .int n :: rest => match pm_l3 (pm_CL own) j with
      | some (_, c, _) => cond (decide (0 ≤ n) && Nat.blt n.toNatClampNeg 100000 && Nat.blt w.2.1 pm_S0 && Nat.blt 4 c && Nat.blt c 9) (some (pc + 3, L, .ref w.2.1 :: rest, pm_new w (.inl (c - 1, n.toNatClampNeg, .inr (.inr []))) n.toNatClampNeg)) none
      | none => none
    | _ => none
  | .new j => match pm_l3 (pm_CL own) j with
    | some (_, c, _) => cond (Nat.blt w.2.1 pm_S0) (some (pc + 3, L, .ref w.2.1 :: st, pm_new w (.inr (c, (pm_Ts c).map defaultValue)) (pm_Ts c).length)) none
    | none => none
  | _ => none
/-- which call it is: 0 none, 1 virtual, 2 special, 3 static; and its link -/
def pm_cal : Instr → Nat × Nat
  | .invokevirtual j => (1, j)
  | .invokespecial j => (2, j)
  | .invokestatic j => (3, j)
  | _ => (0, 0)
/-- a return's answer -/
def pm_rtn (ret : Option FieldType) : Instr → List Value → Option (Option Value)
  | .ireturn, [.int x] => match ret with
    | some .int => some (some (.int x))
    | some .boolean => cond (decide (x &&& 1 = x)) (some (some (.int x))) none
    | _ => none
  | .lreturn, [.long x] => match ret with
    | some .long => some (some (.long x))
    | _ => none
  | .areturn, [.ref x] => match ret with
    | some (.object _) => some (some (.ref x))
    | _ => none
  | .return_, [] => match ret with
    | none => some none
    | _ => none
  | _, _ => none
def pm_isR : Instr → Bool
  | .ireturn => true
  | .lreturn => true
  | .areturn => true
  | .return_ => true
  | _ => false
def pm_cats (st : List Value) : Nat := (st.map fun v => v.category).sum
/-- whose class is the receiver's -/
def pm_cls (w : pm_W) (v : Option Value) : Option Nat := match v with
  | some (.ref r) => match pm_get w r with
    | some (.inr (c, _)) => some c
    | _ => none
  | _ => none
abbrev pm_O : Type := Option (Option Value × pm_W)
/-- length and charAt of a text constant -/
def pm_txtOp (b : Nat) (st : List Value) : Option (Value × List Value) :=
  match st with
  | .ref r :: rest => cond (Nat.beq b 1 && (Nat.blt r (pm_S0 + 3) && !Nat.blt r pm_S0) && Nat.ble (pm_cats rest) 8) (some (.int (nI (pm_txt (r - pm_S0)).length), rest)) none
  | .int i :: .ref r :: rest => cond (Nat.beq b 2 && (Nat.blt r (pm_S0 + 3) && !Nat.blt r pm_S0) && pm_in i (pm_txt (r - pm_S0)).length && Nat.ble (pm_cats rest) 8) (some (.int (nI ((pm_txt (r - pm_S0)).getD i.toNatClampNeg 0)), rest)) none
  | _ => none
/-- max and min -/
def pm_mathOp (b : Nat) (st : List Value) : Option (Value × List Value) :=
  match st with
  | .int y :: .int x :: rest => cond (Nat.beq b 3) (some (.int (if x < y then y else x), rest)) (cond (Nat.beq b 4) (some (.int (if y < x then y else x), rest)) none)
  | .long y :: .long x :: rest => cond (Nat.beq b 5) (some (.long (if y < x then y else x), rest)) none
  | _ => none
def pm_body (X : Option (Nat × (Nat → Int32))) (ih : Nat → Nat → Nat → pm_L → List Value → pm_W → pm_O) (d y pc : Nat) (L : pm_L) (st : List Value) (w : pm_W) : pm_O :=
  match pm_code y pc with
  | none => none
  | some (i, _) =>
    cond (pm_isR i) (match pm_rtn (pm_ret y) i st with
      | some o => some (o, w)
      | none => none)
    (match pm_cal i with
    | (0, _) => match pm_op X (pm_own y) (pm_ml y) (pm_ini y) i pc L st w with
      | some (pc', L', st', (c, (n, k))) => ih d y pc' L' st' (c, (n, k))
      | none => none
    | (kd, j) => match pm_l4 (pm_ML (pm_own y)) j with
      | none => none
      | some (_, m, _, nest) =>
        cond (Nat.beq m 0) (match st with
          | .ref _ :: rest => cond (Nat.beq kd 2 && Nat.ble (pm_cats rest) 8 && Nat.beq nest 0) (ih d y (pc + 3) L rest w) none
          | _ => none)
        (cond (Nat.blt m 3) (match pm_txtOp m st with
          | some (v, rest) => cond (Nat.beq kd 1 && Nat.blt 9 d && Nat.beq nest 0) (ih d y (pc + 3) L (v :: rest) w) none
          | none => none)
        (cond (Nat.blt m 6) (match pm_mathOp m st with
          | some (v, rest) => cond (Nat.beq kd 3 && Nat.ble (pm_cats rest) 8 && Nat.beq nest 0) (ih d y (pc + 3) L (v :: rest) w) none
          | none => none)
        (match d with
        | 0 => none
        | d' + 1 =>
          let t := m - 6
          let a := cond (Nat.beq kd 3) (pm_np t) (pm_np t + 1)
          let ar := (st.take a).reverse
          let rest := st.drop a
          cond (Nat.ble a st.length && Nat.ble (pm_cats rest) 8 && Nat.ble (lg_sl ar).length (pm_ml t) && (cond (Nat.beq kd 3) (pm_st t) (!pm_st t && (match pm_cls w ar.head? with
            | some c => Nat.beq c (pm_own t)
            | none => false) && (cond (Nat.beq kd 2) (pm_ini t) (Nat.beq nest 0 && !pm_ini t)))))
          (match ih d' t 0 (lv_args 0 ar) [] w with
          | some (o, (c, (n, k))) => ih d y (pc + 3) L (o.toList ++ rest) (c, (n, k))
          | none => none) none))))
noncomputable def pm_run (X : Option (Nat × (Nat → Int32))) (n : Nat) : Nat → Nat → Nat → pm_L → List Value → pm_W → pm_O :=
  Nat.rec (fun _ _ _ _ _ _ => none) (fun _ ih => pm_body X ih) n
theorem pm_run_succ (X : Option (Nat × (Nat → Int32))) (n : Nat) : pm_run X (n + 1) = pm_body X (pm_run X n) := rfl
