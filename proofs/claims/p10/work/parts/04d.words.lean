set_option maxRecDepth 100000
/-- how long an instruction is; 0: it says so itself -/
def pm_il : Instr → Nat
  | .tableswitch _ _ _ _ => 0
  | .lookupswitch _ _ => 0
  | .aload _ => 2
  | .iload _ => 2
  | .lload _ => 2
  | .astore _ => 2
  | .istore _ => 2
  | .lstore _ => 2
  | .bipush _ => 2
  | .ldc _ => 2
  | .newarray _ => 2
  | .iinc _ _ => 3
  | .sipush _ => 3
  | .ldc2_w _ => 3
  | .ifCond _ _ => 3
  | .if_icmp _ _ => 3
  | .goto _ => 3
  | .getfield _ => 3
  | .putfield _ => 3
  | .anewarray _ => 3
  | .new _ => 3
  | .invokevirtual _ => 3
  | .invokespecial _ => 3
  | .invokestatic _ => 3
  | _ => 1
def pm_ckI (y : Nat) : Bool := (List.range (pm_lens.getD y 0)).all (fun pc => match pm_codeT y pc with
  | some (i, k) => Nat.beq (pm_il i) 0 || Nat.beq k (pm_il i)
  | none => true)
theorem pm_f0 : pm_rng 0 100 pm_ckI = true := by decide +kernel
theorem pm_f1 : pm_rng 100 87 pm_ckI = true := by decide +kernel
theorem pm_f2 : pm_rng 187 63 pm_ckI = true := by decide +kernel
theorem pm_f3 : pm_rng 250 61 pm_ckI = true := by decide +kernel
/-- constructors -/
def pm_ini (y : Nat) : Bool := Nat.beq y 0 || Nat.beq y 20 || Nat.beq y 30 || Nat.beq y 57 || Nat.beq y 80 || Nat.beq y 90 || Nat.beq y 102 || Nat.beq y 107 || Nat.beq y 113 || Nat.beq y 125 || Nat.beq y 137 || Nat.beq y 148 || Nat.beq y 187
theorem pm_in0 : pm_rng 0 80 (fun y => pm_ini y == decide ((pm_name y).name = "<init>")) = true := by decide +kernel
theorem pm_in1 : pm_rng 80 80 (fun y => pm_ini y == decide ((pm_name y).name = "<init>")) = true := by decide +kernel
theorem pm_in2 : pm_rng 160 80 (fun y => pm_ini y == decide ((pm_name y).name = "<init>")) = true := by decide +kernel
theorem pm_in3 : pm_rng 240 70 (fun y => pm_ini y == decide ((pm_name y).name = "<init>")) = true := by decide +kernel
