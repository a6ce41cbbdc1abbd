set_option maxRecDepth 100000
theorem fs_194 {n : Nat} {T : Nat → Nat} {N p : Nat} {s : ps_S} {R : ps_S → Prop} (H : mv_T s T N) (hp : (ps_i s 1131 8).toInt = p) (hpN : p ≤ N) (k : ∀ s', mv_A T N p s s' → R s') : pl_Cl n 194 [.ref 1131] s (ps_rV R) := by
  cases n with
  | zero => exact pl_At_0
  | succ n =>
  show pl_At (n + 1) 194 0 [(0, .ref 1131)] [] s (ps_rV R)
  refine pl_194_0 ?_
  exact fs_194_8 H k n (kqi kq_refl rfl) hp (Nat.le_refl _) hpN (fun j h1 h2 => by omega)

