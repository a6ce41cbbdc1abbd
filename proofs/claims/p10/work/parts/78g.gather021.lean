set_option maxRecDepth 100000
section
variable {p i j r3 : Nat} {D : List tq_R} {Rj : tq_R} {oo : List Nat} {s0 : ps_S}
theorem fs_39 {n : Nat} {A : List (List Nat)} {R : ps_S → Prop} (hp : p = 50 ∨ p = 460) (hi : i < 40) (hD0 : cpD s0 p D) (hDi : D.length ≤ i) (hj : D[j]? = some Rj) (h5 : ps_is r3 5 = true) (W0 : CW s0 r3 oo) (hr3 : r3 ≠ stc p i ∧ r3 ≠ stc p i + 8 ∧ r3 + 1 ≠ stc p i ∧ r3 + 1 ≠ stc p i + 8) (hA : PA s0 (stc p i) D A) (k : ∀ s', PA s' (stc p i) D (tq_ga oo A Rj.2.1) → GQ p i s0 s' → R s') : pl_Cl n 39 [.ref p, .ref (stc p i), .ref (stc p j), .ref r3] s0 (ps_rV R) := by
  cases n with
  | zero => exact pl_At_0
  | succ n =>
  show pl_At (n + 1) 39 0 [(0, .ref p), (1, .ref (stc p i)), (2, .ref (stc p j)), (3, .ref r3)] [] s0 (ps_rV R)
  exact pl_39_0 (fs_39_3 hp hi hD0 hDi hj h5 W0 hr3 k n (m := 0) rfl (Nat.zero_le _) hA rfl GQ_refl)

end
