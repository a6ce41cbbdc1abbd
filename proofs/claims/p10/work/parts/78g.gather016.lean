set_option maxRecDepth 100000
section
variable {p i : Nat} {D : List tq_R} {A : List (List Nat)} {s : ps_S}
theorem fs_40 {n r2 : Nat} {y : List Nat} {R : Int32 → ps_S → Prop} (hp : p = 50 ∨ p = 460) (hi : i < 40) (hD : cpD s p D) (hDi : D.length ≤ i) (hA : PA s (stc p i) D A) (h5 : ps_is r2 5 = true) (W : cv_W s r2 y) (k1 : y ∈ A → R 1 s) (k0 : ¬ y ∈ A.take 12 → R 0 s) : pl_Cl n 40 [.ref p, .ref (stc p i), .ref r2] s (ps_rI R) := by
  cases n with
  | zero => exact pl_At_0
  | succ n =>
  show pl_At (n + 1) 40 0 [(0, .ref p), (1, .ref (stc p i)), (2, .ref r2)] [] s (ps_rI R)
  exact pl_40_0 (fs_40_2 hp hi hD hDi hA h5 W k1 k0 n (m := 0) rfl (fun j hj => absurd hj (Nat.not_lt_zero _)))

end
