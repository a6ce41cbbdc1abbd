set_option maxRecDepth 100000
-- ProofBenchModel.isRow()Z
theorem pl_228_0 {n : Nat} {s : ps_S} {Q : Option Value → ps_S → Prop} (h :
  ((ps_i s 1131 34) ≤ 40 →
    pl_At n 228 17 [(0, .ref 1131), (1, .int 0), (2, .int 0), (3, .int 0)] [] s Q) ∧
  (40 < (ps_i s 1131 34) →
    Q (some (.int 0)) s)) : pl_At (n + 1) 228 0 [(0, .ref 1131)] [] s Q :=
  pl_wp_at (stops := [(17, [0, 1, 2, 3]), (45, [0, 1, 2, 3]), (70, [0, 1, 2, 3, 4]), (110, [0, 1, 2, 3]), (128, [0, 1, 2, 3]), (148, [0, 1, 2, 3])]) (f := 14) h rfl


theorem pl_228_17 {n : Nat} {x1 : Int32} {x2 : Int32} {x3 : Int32} {s : ps_S} {Q : Option Value → ps_S → Prop} (h :
  ((ps_i s 1131 34) ≤ x3 →
    Q (some (.int 1)) s) ∧
  (x3 < (ps_i s 1131 34) →
    (pm_in x3 260 = true →
      ((ps_a s 1149 (Int32.toNatClampNeg x3)) = 4 →
        pl_At n 228 45 [(0, .ref 1131), (1, .int x1), (2, .int x2), (3, .int x3)] [] s Q) ∧
      ((ps_a s 1149 (Int32.toNatClampNeg x3)) ≠ 4 →
        (pm_in x3 260 = true →
          ((ps_a s 1149 (Int32.toNatClampNeg x3)) ≠ 5 →
            (12 < x1 →
              Q (some (.int 0)) s) ∧
            (x1 ≤ 12 →
              ((0 : Int32) = 0 →
                pl_At n 228 70 [(0, .ref 1131), (1, .int x1), (2, .int x2), (3, .int x3), (4, .int 0)] [] s Q) ∧
              ((0 : Int32) ≠ 0 →
                (x2 ≤ 4 →
                  pl_At n 228 70 [(0, .ref 1131), (1, .int x1), (2, .int x2), (3, .int x3), (4, .int 0)] [] s Q) ∧
                (4 < x2 →
                  Q (some (.int 0)) s)))) ∧
          ((ps_a s 1149 (Int32.toNatClampNeg x3)) = 5 →
            pl_At n 228 45 [(0, .ref 1131), (1, .int x1), (2, .int x2), (3, .int x3)] [] s Q)))))) : pl_At (n + 1) 228 17 [(0, .ref 1131), (1, .int x1), (2, .int x2), (3, .int x3)] [] s Q :=
  pl_wp_at (stops := [(17, [0, 1, 2, 3]), (45, [0, 1, 2, 3]), (70, [0, 1, 2, 3, 4]), (110, [0, 1, 2, 3]), (128, [0, 1, 2, 3]), (148, [0, 1, 2, 3])]) (f := 34) h rfl


theorem pl_228_45 {n : Nat} {x1 : Int32} {x2 : Int32} {x3 : Int32} {s : ps_S} {Q : Option Value → ps_S → Prop} (h :
  (12 < x1 →
    Q (some (.int 0)) s) ∧
  (x1 ≤ 12 →
    ((1 : Int32) = 0 →
      pl_At n 228 70 [(0, .ref 1131), (1, .int x1), (2, .int x2), (3, .int x3), (4, .int 1)] [] s Q) ∧
    ((1 : Int32) ≠ 0 →
      (x2 ≤ 4 →
        pl_At n 228 70 [(0, .ref 1131), (1, .int x1), (2, .int x2), (3, .int x3), (4, .int 1)] [] s Q) ∧
      (4 < x2 →
        Q (some (.int 0)) s)))) : pl_At (n + 1) 228 45 [(0, .ref 1131), (1, .int x1), (2, .int x2), (3, .int x3)] [] s Q :=
  pl_wp_at (stops := [(17, [0, 1, 2, 3]), (45, [0, 1, 2, 3]), (70, [0, 1, 2, 3, 4]), (110, [0, 1, 2, 3]), (128, [0, 1, 2, 3]), (148, [0, 1, 2, 3])]) (f := 17) h rfl


theorem pl_228_70 {n : Nat} {x1 : Int32} {x2 : Int32} {x3 : Int32} {x4 : Int32} {s : ps_S} {Q : Option Value → ps_S → Prop} (h :
  (pm_in x3 260 = true →
    pl_Cl n 218 [.ref 1131, .int (ps_a s 1149 (Int32.toNatClampNeg x3))] s (ps_rI (fun v1 s1 =>
      (pm_in x1 260 = true →
        (pm_in x1 260 = true →
          (x4 = 0 →
            pl_At n 228 110 [(0, .ref 1131), (1, .int (x1 + 1)), (2, .int (x2 + 0)), (3, .int x3)] [] (ps_ua (ps_ua s1 1150 (Int32.toNatClampNeg x1) v1) 1151 (Int32.toNatClampNeg x1) (x4 &&& 1)) Q) ∧
          (x4 ≠ 0 →
            pl_At n 228 110 [(0, .ref 1131), (1, .int (x1 + 1)), (2, .int (x2 + 1)), (3, .int x3)] [] (ps_ua (ps_ua s1 1150 (Int32.toNatClampNeg x1) v1) 1151 (Int32.toNatClampNeg x1) (x4 &&& 1)) Q))))))) : pl_At (n + 1) 228 70 [(0, .ref 1131), (1, .int x1), (2, .int x2), (3, .int x3), (4, .int x4)] [] s Q :=
  pl_wp_at (stops := [(17, [0, 1, 2, 3]), (45, [0, 1, 2, 3]), (70, [0, 1, 2, 3, 4]), (110, [0, 1, 2, 3]), (128, [0, 1, 2, 3]), (148, [0, 1, 2, 3])]) (f := 29) h rfl


theorem pl_228_110 {n : Nat} {x1 : Int32} {x2 : Int32} {x3 : Int32} {s : ps_S} {Q : Option Value → ps_S → Prop} (h :
  (x1 ≤ 0 →
    pl_At n 228 148 [(0, .ref 1131), (1, .int x1), (2, .int x2), (3, .int x3)] [] s Q) ∧
  (0 < x1 →
    (pm_in (x1 - 1) 260 = true →
      ((ps_a s 1150 (Int32.toNatClampNeg (x1 - 1))) ≠ 0 →
        pl_At n 228 148 [(0, .ref 1131), (1, .int x1), (2, .int x2), (3, .int x3)] [] s Q) ∧
      ((ps_a s 1150 (Int32.toNatClampNeg (x1 - 1))) = 0 →
        pl_At n 228 128 [(0, .ref 1131), (1, .int (x1 + (Int32.ofInt (-1)))), (2, .int x2), (3, .int x3)] [] s Q)))) : pl_At (n + 1) 228 110 [(0, .ref 1131), (1, .int x1), (2, .int x2), (3, .int x3)] [] s Q :=
  pl_wp_at (stops := [(17, [0, 1, 2, 3]), (45, [0, 1, 2, 3]), (70, [0, 1, 2, 3, 4]), (110, [0, 1, 2, 3]), (128, [0, 1, 2, 3]), (148, [0, 1, 2, 3])]) (f := 12) h rfl

