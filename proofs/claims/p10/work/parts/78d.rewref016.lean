set_option maxRecDepth 100000
section
variable {g : tx_g} {L : List Nat} {b : Nat} {s0 : ps_S} {R : Int32 → ps_S → Prop}
theorem fm_228 {n : Nat} {s : ps_S} {bb : Bool} (hb : b < 2) (h21 : (ps_i s 1131 21).toInt = b) (H : mv_E s b g) (M : mk_M s L) (hw : ws (sg g) L [bb]) (hl : L.length < 100000) (k1 : ∀ s', (L.length ≤ 40 ∧ dp (arh g) L) ∧ KL s s' → R 1 s') (k0 : ∀ s', (¬ (L.length ≤ 40 ∧ dp (arh g) L)) ∧ KL s s' → R 0 s') : pl_Cl n 228 [.ref 1131] s (ps_rI R) := by
  cases n with
  | zero => exact pl_At_0
  | succ n =>
  show pl_At (n + 1) 228 0 [(0, .ref 1131)] [] s (ps_rI R)
  have c40 : (40 : Int32).toInt = 40 := by decide
  have m1 := M.1
  refine pl_228_0 ⟨fun z => ?_, fun z => ?_⟩
  · have z := xle z
    have h40 : L.length ≤ 40 := by omega
    exact fm_228_17 hb h21 H M h40 (arh_k H.2.2.1 H.2.2.2.1) (fun s' a c => k1 s' ⟨⟨h40, a⟩, c⟩) (fun s' a c => k0 s' ⟨fun y => a y.2, c⟩) n (j := 0) (F := []) (D := []) (P := [(0, 0)]) rfl (Nat.zero_le _) rfl (Nat.zero_le _) rfl (Nat.zero_le _) trivial (Or.inl rfl) hw rfl rfl rfl (fun i d x hi => by cases hi) kq_refl
  · have z := xlt z
    exact k0 s ⟨fun y => by omega, kq_refl⟩

end
