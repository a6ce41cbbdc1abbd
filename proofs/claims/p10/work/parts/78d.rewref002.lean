set_option maxRecDepth 100000
theorem pl_228_128 {n : Nat} {x1 : Int32} {x2 : Int32} {x3 : Int32} {s : ps_S} {Q : Option Value → ps_S → Prop} (h :
  (pm_in x1 260 = true →
    ((ps_a s 1151 (Int32.toNatClampNeg x1)) = 0 →
      pl_At n 228 110 [(0, .ref 1131), (1, .int x1), (2, .int (x2 - 0)), (3, .int x3)] [] s Q) ∧
    ((ps_a s 1151 (Int32.toNatClampNeg x1)) ≠ 0 →
      pl_At n 228 110 [(0, .ref 1131), (1, .int x1), (2, .int (x2 - 1)), (3, .int x3)] [] s Q))) : pl_At (n + 1) 228 128 [(0, .ref 1131), (1, .int x1), (2, .int x2), (3, .int x3)] [] s Q :=
  pl_wp_at (stops := [(17, [0, 1, 2, 3]), (45, [0, 1, 2, 3]), (70, [0, 1, 2, 3, 4]), (110, [0, 1, 2, 3]), (128, [0, 1, 2, 3]), (148, [0, 1, 2, 3])]) (f := 17) h rfl


theorem pl_228_148 {n : Nat} {x1 : Int32} {x2 : Int32} {x3 : Int32} {s : ps_S} {Q : Option Value → ps_S → Prop} (h :
  (x1 ≤ 0 →
    pl_At n 228 17 [(0, .ref 1131), (1, .int x1), (2, .int x2), (3, .int (x3 + 1))] [] s Q) ∧
  (0 < x1 →
    (pm_in (x1 - 1) 260 = true →
      (pm_in (x1 - 1) 260 = true →
        pl_At n 228 17 [(0, .ref 1131), (1, .int x1), (2, .int x2), (3, .int (x3 + 1))] [] (ps_ua s 1150 (Int32.toNatClampNeg (x1 - 1)) ((ps_a s 1150 (Int32.toNatClampNeg (x1 - 1))) - 1)) Q)))) : pl_At (n + 1) 228 148 [(0, .ref 1131), (1, .int x1), (2, .int x2), (3, .int x3)] [] s Q :=
  pl_wp_at (stops := [(17, [0, 1, 2, 3]), (45, [0, 1, 2, 3]), (70, [0, 1, 2, 3, 4]), (110, [0, 1, 2, 3]), (128, [0, 1, 2, 3]), (148, [0, 1, 2, 3])]) (f := 18) h rfl


-- ProofBenchModel.standsAt(II)Z
theorem pl_286_0 {n : Nat} {x1 : Int32} {x2 : Int32} {s : ps_S} {Q : Option Value → ps_S → Prop} (h :
  pl_Cl n 283 [.int (ps_i s 1131 21), .int x1] s (ps_rI (fun v1 s1 =>
    pl_At n 286 12 [(0, .ref 1131), (2, .int x2), (3, .int v1), (4, .int 0)] [] s1 Q))) : pl_At (n + 1) 286 0 [(0, .ref 1131), (1, .int x1), (2, .int x2)] [] s Q :=
  pl_wp_at (stops := [(12, [0, 2, 3, 4]), (42, [0, 3, 4, 5])]) (f := 9) h rfl


theorem pl_286_12 {n : Nat} {x2 : Int32} {x3 : Int32} {x4 : Int32} {s : ps_S} {Q : Option Value → ps_S → Prop} (h :
  (20 ≤ x4 →
    pl_At n 286 42 [(0, .ref 1131), (3, .int x3), (4, .int x2), (5, .int (ps_i s 1131 63))] [] s Q) ∧
  (x4 < 20 →
    (pm_in x4 20 = true →
      pl_At n 286 12 [(0, .ref 1131), (2, .int x2), (3, .int x3), (4, .int (x4 + 1))] [] (ps_ua s 1167 (Int32.toNatClampNeg x4) (-1)) Q))) : pl_At (n + 1) 286 12 [(0, .ref 1131), (2, .int x2), (3, .int x3), (4, .int x4)] [] s Q :=
  pl_wp_at (stops := [(12, [0, 2, 3, 4]), (42, [0, 3, 4, 5])]) (f := 17) h rfl

