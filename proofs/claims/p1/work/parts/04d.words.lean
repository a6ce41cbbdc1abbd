set_option maxRecDepth 100000
/-- how long an instruction is; 0: it says so itself -/
def pm_il : Instr → Nat
  | .tableswitch _ _ _ _ => 0
  | .lookupswitch _ _ => 0
  | .aload _ => 2
  | .iload _ => 2
  | .lload _ => 2
  | .astore _ => 2
  | .istore _ => 2
  | .lstore _ => 2
  | .bipush _ => 2
  | .ldc _ => 2
  | .newarray _ => 2
  | .iinc _ _ => 3
  | .sipush _ => 3
  | .ldc2_w _ => 3
  | .ifCond _ _ => 3
  | .if_icmp _ _ => 3
  | .goto _ => 3
  | .getfield _ => 3
  | .putfield _ => 3
  | .anewarray _ => 3
  | .new _ => 3
  | .invokevirtual _ => 3
  | .invokespecial _ => 3
  | .invokestatic _ => 3
  | _ => 1
def pm_ckI (y : Nat) : Bool := (List.range (pm_lens.getD y 0)).all (fun pc => match pm_codeT y pc with
  | some (i, k) => Nat.beq (pm_il i) 0 || Nat.beq k (pm_il i)
  | none => true)
theorem pm_f0 : pm_rng 0 100 pm_ckI = true := by decide +kernel
theorem pm_f1 : pm_rng 100 87 pm_ckI = true := by decide +kernel
theorem pm_f2 : pm_rng 187 63 pm_ckI = true := by decide +kernel
theorem pm_f3 : pm_rng 250 60 pm_ckI = true := by decide +kernel
