set_option maxRecDepth 100000
/-! piece() of the reference -/
-- ProofBenchModel.isIn(III)Z
theorem pl_200_0 {n : Nat} {x0 : Int32} {x1 : Int32} {x2 : Int32} {s : ps_S} {Q : Option Value → ps_S → Prop} (h :
  (x0 < x1 →
    Q (some (.int 0)) s) ∧
  (x1 ≤ x0 →
    (x2 < x0 →
      Q (some (.int 0)) s) ∧
    (x0 ≤ x2 →
      Q (some (.int 1)) s))) : pl_At (n + 1) 200 0 [(0, .int x0), (1, .int x1), (2, .int x2)] [] s Q :=
  pl_wp_at (stops := []) (f := 15) h rfl

-- ProofBenchModel.pieceAt(II)I
theorem pl_220_0 {n : Nat} {x1 : Int32} {x2 : Int32} {s : ps_S} {Q : Option Value → ps_S → Prop} (h :
  (pm_in ((x1 + 1) + x2) 27400 = true →
    Q (some (.int (ps_a s 1134 (Int32.toNatClampNeg ((x1 + 1) + x2))))) s)) : pl_At (n + 1) 220 0 [(0, .ref 1131), (1, .int x1), (2, .int x2)] [] s Q :=
  pl_wp_at (stops := []) (f := 11) h rfl

theorem fm_200 {n : Nat} {x0 x1 x2 : Int32} {s : ps_S} {R : Int32 → ps_S → Prop} (k1 : x1.toInt ≤ x0.toInt → x0.toInt ≤ x2.toInt → R 1 s) (k0 : ¬ (x1.toInt ≤ x0.toInt ∧ x0.toInt ≤ x2.toInt) → R 0 s) : pl_Cl n 200 [.int x0, .int x1, .int x2] s (ps_rI R) := by
  cases n with
  | zero => exact pl_At_0
  | succ n =>
  show pl_At (n + 1) 200 0 [(0, .int x0), (1, .int x1), (2, .int x2)] [] s (ps_rI R)
  refine pl_200_0 ?_
  refine ⟨fun h2 => ?_, fun h2 => ?_⟩
  · have h2 : x0.toInt < x1.toInt := xlt h2
    exact k0 (by omega)
  · have h2 : x1.toInt ≤ x0.toInt := xle h2
    refine ⟨fun h7 => ?_, fun h7 => ?_⟩
    · have h7 : x2.toInt < x0.toInt := xlt h7
      exact k0 (by omega)
    · have h7 : x0.toInt ≤ x2.toInt := xle h7
      exact k1 (by omega) (by omega)
theorem fm_220 {n j : Nat} {x1 x2 : Int32} {s : ps_S} {R : Int32 → ps_S → Prop} (hj : ((x1 + 1) + x2).toInt = j) (k : R (ps_a s 1134 j) s) : pl_Cl n 220 [.ref 1131, .int x1, .int x2] s (ps_rI R) := by
  cases n with
  | zero => exact pl_At_0
  | succ n =>
  show pl_At (n + 1) 220 0 [(0, .ref 1131), (1, .int x1), (2, .int x2)] [] s (ps_rI R)
  refine pl_220_0 ?_
  intro b9
  obtain ⟨b9, c9⟩ := pl_in b9
  rw [xtn hj]
  exact k
theorem fm_264 {n to : Nat} {x1 x2 : Int32} {s : ps_S} {l : List Nat} {R : Int32 → ps_S → Prop} (hx : x1.toInt = to) (ht : to < 27400) (hW : mv_W s to l) (k : ∀ v : Int32, pc_is l x2 v → R v s) : pl_Cl n 264 [.ref 1131, .int x1, .int x2] s (ps_rI R) := by
  cases n with
  | zero => exact pl_At_0
  | succ n =>
  show pl_At (n + 1) 264 0 [(0, .ref 1131), (1, .int x1), (2, .int x2)] [] s (ps_rI R)
  obtain ⟨w1, w2, w3⟩ := hW
  have c1 : (1 : Int32).toInt = 1 := by decide
  have c0 : (0 : Int32).toInt = 0 := by decide
  have e1 : ((ps_a s 1134 to) - 1).toInt = (l.length : Int) - 1 := by rw [xIs (by omega) (by omega)]; omega
  refine pl_264_0 ?_
  refine fm_219 hx ?_
  refine fm_200 (fun h1 h2 => ⟨fun z => absurd z (by decide), fun _ => ?_⟩) (fun h => ⟨fun _ => k _ ⟨fun c a b => ?_, fun _ => by decide⟩, fun z => absurd rfl z⟩)
  · have hj : ((x1 + 1) + x2).toInt = (to + 1 + x2.toInt.toNat : Nat) := by
      have a1 : (x1 + 1).toInt = to + 1 := by rw [xIa (by omega) (by omega)]; omega
      rw [xIa (by omega) (by omega)]
      omega
    refine fm_220 hj ?_
    exact k _ ⟨fun c _ hc => w3 _ c hc, fun z => by omega⟩
  · have hl := (List.getElem?_eq_some_iff.mp b).1
    omega
theorem fm_275 {n : Nat} {x1 : Int32} {s : ps_S} {l : List Nat} {R : Int32 → ps_S → Prop} (hW : mv_W s 25748 l) (k : ∀ v : Int32, pc_is l x1 v → R v s) : pl_Cl n 275 [.ref 1131, .int x1] s (ps_rI R) := by
  cases n with
  | zero => exact pl_At_0
  | succ n =>
  show pl_At (n + 1) 275 0 [(0, .ref 1131), (1, .int x1)] [] s (ps_rI R)
  refine pl_275_0 ?_
  exact fm_264 (to := 25748) (by decide) (by decide) hW (fun v z => k v z)

