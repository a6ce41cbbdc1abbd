set_option maxRecDepth 100000
/-! the reference: a row that is made, whether it is one, kept; a term rewritten, again and again -/
-- ProofBenchModel.make(I)V
theorem pl_225_0 {n : Nat} {x1 : Int32} {s : ps_S} {Q : Option Value → ps_S → Prop} (h :
  (260 ≤ (ps_i s 1131 34) →
    Q none (ps_ui s 1131 34 ((ps_i s 1131 34) + 1))) ∧
  ((ps_i s 1131 34) < 260 →
    (pm_in (ps_i s 1131 34) 260 = true →
      Q none (ps_ui (ps_ua s 1149 (Int32.toNatClampNeg (ps_i s 1131 34)) x1) 1131 34 ((ps_i (ps_ua s 1149 (Int32.toNatClampNeg (ps_i s 1131 34)) x1) 1131 34) + 1))))) : pl_At (n + 1) 225 0 [(0, .ref 1131), (1, .int x1)] [] s Q :=
  pl_wp_at (stops := []) (f := 26) h rfl

-- ProofBenchModel.makeFrom(III)V
theorem pl_226_0 {n : Nat} {x1 : Int32} {x2 : Int32} {x3 : Int32} {s : ps_S} {Q : Option Value → ps_S → Prop} (h :
  pl_At n 226 3 [(0, .ref 1131), (1, .int x1), (3, .int x3), (4, .int x2)] [] s Q) : pl_At (n + 1) 226 0 [(0, .ref 1131), (1, .int x1), (2, .int x2), (3, .int x3)] [] s Q :=
  pl_wp_at (stops := [(3, [0, 1, 3, 4])]) (f := 4) h rfl

theorem pl_226_3 {n : Nat} {x1 : Int32} {x3 : Int32} {x4 : Int32} {s : ps_S} {Q : Option Value → ps_S → Prop} (h :
  (x3 ≤ x4 →
    Q none s) ∧
  (x4 < x3 →
    pl_Cl n 220 [.ref 1131, .int x1, .int x4] s (ps_rI (fun v1 s1 =>
      pl_Cl n 225 [.ref 1131, .int v1] s1 (ps_rV (fun s2 =>
        pl_At n 226 3 [(0, .ref 1131), (1, .int x1), (3, .int x3), (4, .int (x4 + 1))] [] s2 Q)))))) : pl_At (n + 1) 226 3 [(0, .ref 1131), (1, .int x1), (3, .int x3), (4, .int x4)] [] s Q :=
  pl_wp_at (stops := [(3, [0, 1, 3, 4])]) (f := 14) h rfl

-- ProofBenchModel.keepMade(I)V
theorem pl_229_0 {n : Nat} {x1 : Int32} {s : ps_S} {Q : Option Value → ps_S → Prop} (h :
  (pm_in x1 27400 = true →
    pl_At n 229 12 [(0, .ref 1131), (1, .int x1), (2, .int 0)] [] (ps_ua s 1134 (Int32.toNatClampNeg x1) (ps_i s 1131 34)) Q)) : pl_At (n + 1) 229 0 [(0, .ref 1131), (1, .int x1)] [] s Q :=
  pl_wp_at (stops := [(12, [0, 1, 2])]) (f := 10) h rfl

theorem pl_229_12 {n : Nat} {x1 : Int32} {x2 : Int32} {s : ps_S} {Q : Option Value → ps_S → Prop} (h :
  ((ps_i s 1131 34) ≤ x2 →
    Q none s) ∧
  (x2 < (ps_i s 1131 34) →
    (pm_in x2 260 = true →
      (pm_in ((x1 + 1) + x2) 27400 = true →
        pl_At n 229 12 [(0, .ref 1131), (1, .int x1), (2, .int (x2 + 1))] [] (ps_ua s 1134 (Int32.toNatClampNeg ((x1 + 1) + x2)) (ps_a s 1149 (Int32.toNatClampNeg x2))) Q)))) : pl_At (n + 1) 229 12 [(0, .ref 1131), (1, .int x1), (2, .int x2)] [] s Q :=
  pl_wp_at (stops := [(12, [0, 1, 2])]) (f := 21) h rfl

-- ProofBenchModel.isRow()Z
theorem pl_228_0 {n : Nat} {s : ps_S} {Q : Option Value → ps_S → Prop} (h :
  ((ps_i s 1131 34) ≤ 40 →
    pl_At n 228 17 [(0, .ref 1131), (1, .int 0), (2, .int 0), (3, .int 0)] [] s Q) ∧
  (40 < (ps_i s 1131 34) →
    Q (some (.int 0)) s)) : pl_At (n + 1) 228 0 [(0, .ref 1131)] [] s Q :=
  pl_wp_at (stops := [(17, [0, 1, 2, 3]), (45, [0, 1, 2, 3]), (70, [0, 1, 2, 3, 4]), (110, [0, 1, 2, 3]), (128, [0, 1, 2, 3]), (148, [0, 1, 2, 3])]) (f := 14) h rfl

theorem pl_228_17 {n : Nat} {x1 : Int32} {x2 : Int32} {x3 : Int32} {s : ps_S} {Q : Option Value → ps_S → Prop} (h :
  ((ps_i s 1131 34) ≤ x3 →
    Q (some (.int 1)) s) ∧
  (x3 < (ps_i s 1131 34) →
    (pm_in x3 260 = true →
      ((ps_a s 1149 (Int32.toNatClampNeg x3)) = 4 →
        pl_At n 228 45 [(0, .ref 1131), (1, .int x1), (2, .int x2), (3, .int x3)] [] s Q) ∧
      ((ps_a s 1149 (Int32.toNatClampNeg x3)) ≠ 4 →
        (pm_in x3 260 = true →
          ((ps_a s 1149 (Int32.toNatClampNeg x3)) ≠ 5 →
            (12 < x1 →
              Q (some (.int 0)) s) ∧
            (x1 ≤ 12 →
              ((0 : Int32) = 0 →
                pl_At n 228 70 [(0, .ref 1131), (1, .int x1), (2, .int x2), (3, .int x3), (4, .int 0)] [] s Q) ∧
              ((0 : Int32) ≠ 0 →
                (x2 ≤ 4 →
                  pl_At n 228 70 [(0, .ref 1131), (1, .int x1), (2, .int x2), (3, .int x3), (4, .int 0)] [] s Q) ∧
                (4 < x2 →
                  Q (some (.int 0)) s)))) ∧
          ((ps_a s 1149 (Int32.toNatClampNeg x3)) = 5 →
            pl_At n 228 45 [(0, .ref 1131), (1, .int x1), (2, .int x2), (3, .int x3)] [] s Q)))))) : pl_At (n + 1) 228 17 [(0, .ref 1131), (1, .int x1), (2, .int x2), (3, .int x3)] [] s Q :=
  pl_wp_at (stops := [(17, [0, 1, 2, 3]), (45, [0, 1, 2, 3]), (70, [0, 1, 2, 3, 4]), (110, [0, 1, 2, 3]), (128, [0, 1, 2, 3]), (148, [0, 1, 2, 3])]) (f := 34) h rfl

theorem pl_228_45 {n : Nat} {x1 : Int32} {x2 : Int32} {x3 : Int32} {s : ps_S} {Q : Option Value → ps_S → Prop} (h :
  (12 < x1 →
    Q (some (.int 0)) s) ∧
  (x1 ≤ 12 →
    ((1 : Int32) = 0 →
      pl_At n 228 70 [(0, .ref 1131), (1, .int x1), (2, .int x2), (3, .int x3), (4, .int 1)] [] s Q) ∧
    ((1 : Int32) ≠ 0 →
      (x2 ≤ 4 →
        pl_At n 228 70 [(0, .ref 1131), (1, .int x1), (2, .int x2), (3, .int x3), (4, .int 1)] [] s Q) ∧
      (4 < x2 →
        Q (some (.int 0)) s)))) : pl_At (n + 1) 228 45 [(0, .ref 1131), (1, .int x1), (2, .int x2), (3, .int x3)] [] s Q :=
  pl_wp_at (stops := [(17, [0, 1, 2, 3]), (45, [0, 1, 2, 3]), (70, [0, 1, 2, 3, 4]), (110, [0, 1, 2, 3]), (128, [0, 1, 2, 3]), (148, [0, 1, 2, 3])]) (f := 17) h rfl

theorem pl_228_70 {n : Nat} {x1 : Int32} {x2 : Int32} {x3 : Int32} {x4 : Int32} {s : ps_S} {Q : Option Value → ps_S → Prop} (h :
  (pm_in x3 260 = true →
    pl_Cl n 218 [.ref 1131, .int (ps_a s 1149 (Int32.toNatClampNeg x3))] s (ps_rI (fun v1 s1 =>
      (pm_in x1 260 = true →
        (pm_in x1 260 = true →
          (x4 = 0 →
            pl_At n 228 110 [(0, .ref 1131), (1, .int (x1 + 1)), (2, .int (x2 + 0)), (3, .int x3)] [] (ps_ua (ps_ua s1 1150 (Int32.toNatClampNeg x1) v1) 1151 (Int32.toNatClampNeg x1) (x4 &&& 1)) Q) ∧
          (x4 ≠ 0 →
            pl_At n 228 110 [(0, .ref 1131), (1, .int (x1 + 1)), (2, .int (x2 + 1)), (3, .int x3)] [] (ps_ua (ps_ua s1 1150 (Int32.toNatClampNeg x1) v1) 1151 (Int32.toNatClampNeg x1) (x4 &&& 1)) Q))))))) : pl_At (n + 1) 228 70 [(0, .ref 1131), (1, .int x1), (2, .int x2), (3, .int x3), (4, .int x4)] [] s Q :=
  pl_wp_at (stops := [(17, [0, 1, 2, 3]), (45, [0, 1, 2, 3]), (70, [0, 1, 2, 3, 4]), (110, [0, 1, 2, 3]), (128, [0, 1, 2, 3]), (148, [0, 1, 2, 3])]) (f := 29) h rfl

theorem pl_228_110 {n : Nat} {x1 : Int32} {x2 : Int32} {x3 : Int32} {s : ps_S} {Q : Option Value → ps_S → Prop} (h :
  (x1 ≤ 0 →
    pl_At n 228 148 [(0, .ref 1131), (1, .int x1), (2, .int x2), (3, .int x3)] [] s Q) ∧
  (0 < x1 →
    (pm_in (x1 - 1) 260 = true →
      ((ps_a s 1150 (Int32.toNatClampNeg (x1 - 1))) ≠ 0 →
        pl_At n 228 148 [(0, .ref 1131), (1, .int x1), (2, .int x2), (3, .int x3)] [] s Q) ∧
      ((ps_a s 1150 (Int32.toNatClampNeg (x1 - 1))) = 0 →
        pl_At n 228 128 [(0, .ref 1131), (1, .int (x1 + (Int32.ofInt (-1)))), (2, .int x2), (3, .int x3)] [] s Q)))) : pl_At (n + 1) 228 110 [(0, .ref 1131), (1, .int x1), (2, .int x2), (3, .int x3)] [] s Q :=
  pl_wp_at (stops := [(17, [0, 1, 2, 3]), (45, [0, 1, 2, 3]), (70, [0, 1, 2, 3, 4]), (110, [0, 1, 2, 3]), (128, [0, 1, 2, 3]), (148, [0, 1, 2, 3])]) (f := 12) h rfl

theorem pl_228_128 {n : Nat} {x1 : Int32} {x2 : Int32} {x3 : Int32} {s : ps_S} {Q : Option Value → ps_S → Prop} (h :
  (pm_in x1 260 = true →
    ((ps_a s 1151 (Int32.toNatClampNeg x1)) = 0 →
      pl_At n 228 110 [(0, .ref 1131), (1, .int x1), (2, .int (x2 - 0)), (3, .int x3)] [] s Q) ∧
    ((ps_a s 1151 (Int32.toNatClampNeg x1)) ≠ 0 →
      pl_At n 228 110 [(0, .ref 1131), (1, .int x1), (2, .int (x2 - 1)), (3, .int x3)] [] s Q))) : pl_At (n + 1) 228 128 [(0, .ref 1131), (1, .int x1), (2, .int x2), (3, .int x3)] [] s Q :=
  pl_wp_at (stops := [(17, [0, 1, 2, 3]), (45, [0, 1, 2, 3]), (70, [0, 1, 2, 3, 4]), (110, [0, 1, 2, 3]), (128, [0, 1, 2, 3]), (148, [0, 1, 2, 3])]) (f := 17) h rfl

theorem pl_228_148 {n : Nat} {x1 : Int32} {x2 : Int32} {x3 : Int32} {s : ps_S} {Q : Option Value → ps_S → Prop} (h :
  (x1 ≤ 0 →
    pl_At n 228 17 [(0, .ref 1131), (1, .int x1), (2, .int x2), (3, .int (x3 + 1))] [] s Q) ∧
  (0 < x1 →
    (pm_in (x1 - 1) 260 = true →
      (pm_in (x1 - 1) 260 = true →
        pl_At n 228 17 [(0, .ref 1131), (1, .int x1), (2, .int x2), (3, .int (x3 + 1))] [] (ps_ua s 1150 (Int32.toNatClampNeg (x1 - 1)) ((ps_a s 1150 (Int32.toNatClampNeg (x1 - 1))) - 1)) Q)))) : pl_At (n + 1) 228 148 [(0, .ref 1131), (1, .int x1), (2, .int x2), (3, .int x3)] [] s Q :=
  pl_wp_at (stops := [(17, [0, 1, 2, 3]), (45, [0, 1, 2, 3]), (70, [0, 1, 2, 3, 4]), (110, [0, 1, 2, 3]), (128, [0, 1, 2, 3]), (148, [0, 1, 2, 3])]) (f := 18) h rfl

-- ProofBenchModel.standsAt(II)Z
theorem pl_286_0 {n : Nat} {x1 : Int32} {x2 : Int32} {s : ps_S} {Q : Option Value → ps_S → Prop} (h :
  pl_Cl n 283 [.int (ps_i s 1131 21), .int x1] s (ps_rI (fun v1 s1 =>
    pl_At n 286 12 [(0, .ref 1131), (2, .int x2), (3, .int v1), (4, .int 0)] [] s1 Q))) : pl_At (n + 1) 286 0 [(0, .ref 1131), (1, .int x1), (2, .int x2)] [] s Q :=
  pl_wp_at (stops := [(12, [0, 2, 3, 4]), (42, [0, 3, 4, 5])]) (f := 9) h rfl

theorem pl_286_12 {n : Nat} {x2 : Int32} {x3 : Int32} {x4 : Int32} {s : ps_S} {Q : Option Value → ps_S → Prop} (h :
  (20 ≤ x4 →
    pl_At n 286 42 [(0, .ref 1131), (3, .int x3), (4, .int x2), (5, .int (ps_i s 1131 63))] [] s Q) ∧
  (x4 < 20 →
    (pm_in x4 20 = true →
      pl_At n 286 12 [(0, .ref 1131), (2, .int x2), (3, .int x3), (4, .int (x4 + 1))] [] (ps_ua s 1167 (Int32.toNatClampNeg x4) (-1)) Q))) : pl_At (n + 1) 286 12 [(0, .ref 1131), (2, .int x2), (3, .int x3), (4, .int x4)] [] s Q :=
  pl_wp_at (stops := [(12, [0, 2, 3, 4]), (42, [0, 3, 4, 5])]) (f := 17) h rfl

theorem pl_286_42 {n : Nat} {x3 : Int32} {x4 : Int32} {x5 : Int32} {s : ps_S} {Q : Option Value → ps_S → Prop} (h :
  ((ps_i s 1131 64) ≤ x5 →
    Q (some (.int 1)) (ps_ui s 1131 65 x4)) ∧
  (x5 < (ps_i s 1131 64) →
    pl_Cl n 220 [.ref 1131, .int x3, .int x5] s (ps_rI (fun v1 s1 =>
      (40 ≤ v1 →
        pl_Cl n 221 [.ref 1131, .int 25789, .int x4] s1 (ps_rI (fun v2 s2 =>
          (pm_in (v1 - 40) 20 = true →
            ((ps_a s2 1167 (Int32.toNatClampNeg (v1 - 40))) < 0 →
              (pm_in (v1 - 40) 20 = true →
                (pm_in (v1 - 40) 20 = true →
                  pl_At n 286 42 [(0, .ref 1131), (3, .int x3), (4, .int v2), (5, .int (x5 + 1))] [] (ps_ua (ps_ua s2 1167 (Int32.toNatClampNeg (v1 - 40)) x4) 1168 (Int32.toNatClampNeg (v1 - 40)) v2) Q))) ∧
            (0 ≤ (ps_a s2 1167 (Int32.toNatClampNeg (v1 - 40))) →
              (pm_in (v1 - 40) 20 = true →
                (pm_in (v1 - 40) 20 = true →
                  (((ps_a s2 1168 (Int32.toNatClampNeg (v1 - 40))) - (ps_a s2 1167 (Int32.toNatClampNeg (v1 - 40)))) ≠ (v2 - x4) →
                    Q (some (.int 0)) s2) ∧
                  (((ps_a s2 1168 (Int32.toNatClampNeg (v1 - 40))) - (ps_a s2 1167 (Int32.toNatClampNeg (v1 - 40)))) = (v2 - x4) →
                    (pm_in (v1 - 40) 20 = true →
                      pl_Cl n 259 [.ref 1131, .int 25789, .int x4, .int (v2 - x4), .int 25789, .int (ps_a s2 1167 (Int32.toNatClampNeg (v1 - 40)))] s2 (ps_rI (fun v3 s3 =>
                        (v3 ≠ 0 →
                          (pm_in (v1 - 40) 20 = true →
                            (pm_in (v1 - 40) 20 = true →
                              pl_At n 286 42 [(0, .ref 1131), (3, .int x3), (4, .int v2), (5, .int (x5 + 1))] [] (ps_ua (ps_ua s3 1167 (Int32.toNatClampNeg (v1 - 40)) x4) 1168 (Int32.toNatClampNeg (v1 - 40)) v2) Q))) ∧
                        (v3 = 0 →
                          Q (some (.int 0)) s3)))))))))))) ∧
      (v1 < 40 →
        pl_Cl n 220 [.ref 1131, .int 25789, .int x4] s1 (ps_rI (fun v4 s4 =>
          (v4 = v1 →
            pl_At n 286 42 [(0, .ref 1131), (3, .int x3), (4, .int (x4 + 1)), (5, .int (x5 + 1))] [] s4 Q) ∧
          (v4 ≠ v1 →
            Q (some (.int 0)) s4)))))))) : pl_At (n + 1) 286 42 [(0, .ref 1131), (3, .int x3), (4, .int x4), (5, .int x5)] [] s Q :=
  pl_wp_at (stops := [(12, [0, 2, 3, 4]), (42, [0, 3, 4, 5])]) (f := 103) h rfl

-- ProofBenchModel.rewrites()Z
theorem pl_287_0 {n : Nat} {s : ps_S} {Q : Option Value → ps_S → Prop} (h :
  pl_At n 287 2 [(0, .ref 1131), (1, .int 0)] [] s Q) : pl_At (n + 1) 287 0 [(0, .ref 1131)] [] s Q :=
  pl_wp_at (stops := [(2, [0, 1]), (15, [0, 1, 2]), (77, [0, 3, 4])]) (f := 4) h rfl

theorem pl_287_2 {n : Nat} {x1 : Int32} {s : ps_S} {Q : Option Value → ps_S → Prop} (h :
  pl_Cl n 219 [.ref 1131, .int 25789] s (ps_rI (fun v1 s1 =>
    (v1 ≤ x1 →
      Q (some (.int 0)) s1) ∧
    (x1 < v1 →
      pl_At n 287 15 [(0, .ref 1131), (1, .int x1), (2, .int 0)] [] s1 Q)))) : pl_At (n + 1) 287 2 [(0, .ref 1131), (1, .int x1)] [] s Q :=
  pl_wp_at (stops := [(2, [0, 1]), (15, [0, 1, 2]), (77, [0, 3, 4])]) (f := 11) h rfl

theorem pl_287_15 {n : Nat} {x1 : Int32} {x2 : Int32} {s : ps_S} {Q : Option Value → ps_S → Prop} (h :
  (pm_in (ps_i s 1131 21) 2 = true →
    ((ps_a s 1137 (Int32.toNatClampNeg (ps_i s 1131 21))) ≤ x2 →
      pl_At n 287 2 [(0, .ref 1131), (1, .int (x1 + 1))] [] s Q) ∧
    (x2 < (ps_a s 1137 (Int32.toNatClampNeg (ps_i s 1131 21))) →
      pl_Cl n 284 [.ref 1131, .int x2] s (ps_rI (fun v1 s1 =>
        (v1 = 0 →
          pl_At n 287 15 [(0, .ref 1131), (1, .int x1), (2, .int (x2 + 1))] [] s1 Q) ∧
        (v1 ≠ 0 →
          pl_Cl n 286 [.ref 1131, .int x2, .int x1] s1 (ps_rI (fun v2 s2 =>
            (v2 ≠ 0 →
              pl_Cl n 283 [.int (ps_i s2 1131 21), .int x2] s2 (ps_rI (fun v3 s3 =>
                pl_Cl n 226 [.ref 1131, .int 25789, .int 0, .int x1] (ps_ui s3 1131 34 0) (ps_rV (fun s4 =>
                  pl_At n 287 77 [(0, .ref 1131), (3, .int v3), (4, .int (ps_i s4 1131 64))] [] s4 Q))))) ∧
            (v2 = 0 →
              pl_At n 287 15 [(0, .ref 1131), (1, .int x1), (2, .int (x2 + 1))] [] s2 Q))))))))) : pl_At (n + 1) 287 15 [(0, .ref 1131), (1, .int x1), (2, .int x2)] [] s Q :=
  pl_wp_at (stops := [(2, [0, 1]), (15, [0, 1, 2]), (77, [0, 3, 4])]) (f := 41) h rfl

theorem pl_287_77 {n : Nat} {x3 : Int32} {x4 : Int32} {s : ps_S} {Q : Option Value → ps_S → Prop} (h :
  pl_Cl n 219 [.ref 1131, .int x3] s (ps_rI (fun v1 s1 =>
    (v1 ≤ x4 →
      pl_Cl n 219 [.ref 1131, .int 25789] s1 (ps_rI (fun v2 s2 =>
        pl_Cl n 226 [.ref 1131, .int 25789, .int (ps_i s1 1131 65), .int v2] s2 (ps_rV (fun s3 =>
          Q (some (.int 1)) s3))))) ∧
    (x4 < v1 →
      pl_Cl n 220 [.ref 1131, .int x3, .int x4] s1 (ps_rI (fun v4 s4 =>
        (40 ≤ v4 →
          (pm_in (v4 - 40) 20 = true →
            (pm_in (v4 - 40) 20 = true →
              pl_Cl n 226 [.ref 1131, .int 25789, .int (ps_a s4 1167 (Int32.toNatClampNeg (v4 - 40))), .int (ps_a s4 1168 (Int32.toNatClampNeg (v4 - 40)))] s4 (ps_rV (fun s5 =>
                pl_At n 287 77 [(0, .ref 1131), (3, .int x3), (4, .int (x4 + 1))] [] s5 Q))))) ∧
        (v4 < 40 →
          pl_Cl n 225 [.ref 1131, .int v4] s4 (ps_rV (fun s6 =>
            pl_At n 287 77 [(0, .ref 1131), (3, .int x3), (4, .int (x4 + 1))] [] s6 Q))))))))) : pl_At (n + 1) 287 77 [(0, .ref 1131), (3, .int x3), (4, .int x4)] [] s Q :=
  pl_wp_at (stops := [(2, [0, 1]), (15, [0, 1, 2]), (77, [0, 3, 4])]) (f := 48) h rfl

-- ProofBenchModel.rewrite()I
theorem pl_288_0 {n : Nat} {s : ps_S} {Q : Option Value → ps_S → Prop} (h :
  pl_Cl n 198 [.ref 1131] s (ps_rV (fun s1 =>
    pl_Cl n 209 [.ref 1131, .int 25789, .int 0, .int 0] s1 (ps_rV (fun s2 =>
      pl_Cl n 192 [.ref 1131] s2 (ps_rI (fun v3 s3 =>
        (v3 = 0 →
          pl_At n 288 31 [(0, .ref 1131)] [] s3 Q) ∧
        (v3 ≠ 0 →
          ((ps_i s3 1131 9) = 0 →
            pl_At n 288 31 [(0, .ref 1131)] [] s3 Q) ∧
          ((ps_i s3 1131 9) ≠ 0 →
            pl_Cl n 196 [.ref 1131] s3 (ps_rV (fun s4 =>
              pl_At n 288 31 [(0, .ref 1131)] [] s4 Q))))))))))) : pl_At (n + 1) 288 0 [(0, .ref 1131)] [] s Q :=
  pl_wp_at (stops := [(31, [0]), (51, [0, 1])]) (f := 17) h rfl

theorem pl_288_31 {n : Nat} {s : ps_S} {Q : Option Value → ps_S → Prop} (h :
  pl_Cl n 192 [.ref 1131] s (ps_rI (fun v1 s1 =>
    (v1 ≠ 0 →
      pl_At n 288 51 [(0, .ref 1131), (1, .int 0)] [] s1 Q) ∧
    (v1 = 0 →
      (pm_in (25789 : Int32) 27400 = true →
        Q (some (.int (-1))) (ps_ua s1 1134 (Int32.toNatClampNeg (25789 : Int32)) 0)))))) : pl_At (n + 1) 288 31 [(0, .ref 1131)] [] s Q :=
  pl_wp_at (stops := [(31, [0]), (51, [0, 1])]) (f := 14) h rfl

theorem pl_288_51 {n : Nat} {x1 : Int32} {s : ps_S} {Q : Option Value → ps_S → Prop} (h :
  pl_Cl n 287 [.ref 1131] s (ps_rI (fun v1 s1 =>
    (v1 = 0 →
      Q (some (.int x1)) s1) ∧
    (v1 ≠ 0 →
      (x1 = 60 →
        (pm_in (25789 : Int32) 27400 = true →
          Q (some (.int (-2))) (ps_ua s1 1134 (Int32.toNatClampNeg (25789 : Int32)) 0))) ∧
      (x1 ≠ 60 →
        pl_Cl n 228 [.ref 1131] s1 (ps_rI (fun v2 s2 =>
          (v2 ≠ 0 →
            pl_Cl n 229 [.ref 1131, .int 25789] s2 (ps_rV (fun s3 =>
              pl_At n 288 51 [(0, .ref 1131), (1, .int (x1 + 1))] [] s3 Q))) ∧
          (v2 = 0 →
            (pm_in (25789 : Int32) 27400 = true →
              Q (some (.int (-2))) (ps_ua s2 1134 (Int32.toNatClampNeg (25789 : Int32)) 0)))))))))) : pl_At (n + 1) 288 51 [(0, .ref 1131), (1, .int x1)] [] s Q :=
  pl_wp_at (stops := [(31, [0]), (51, [0, 1])]) (f := 32) h rfl

-- ProofBenchModel.normal(I)I
theorem pl_289_0 {n : Nat} {x1 : Int32} {s : ps_S} {Q : Option Value → ps_S → Prop} (h :
  pl_Cl n 264 [.ref 1131, .int 25789, .int x1] s (ps_rI (fun v1 s1 =>
    Q (some (.int v1)) s1))) : pl_At (n + 1) 289 0 [(0, .ref 1131), (1, .int x1)] [] s Q :=
  pl_wp_at (stops := []) (f := 7) h rfl

/-- the row that is being made -/
def mk_M (s : ps_S) (L : List Nat) : Prop := (ps_i s 1131 34).toInt = L.length ∧ ∀ (k c : Nat), k < 260 → L[k]? = some c → (ps_a s 1149 k).toInt = c
theorem mk_M_kq {A F : List Nat} {s s' : ps_S} {L : List Nat} (h : mk_M s L) (K : kq A F s s') (hA : A.contains 1149 = false) (hF : F.contains 34 = false) : mk_M s' L := ⟨by rw [kq_i K 34 hF]; exact h.1, fun k c a b => by rw [kq_a K 1149 hA]; exact h.2 k c a b⟩
theorem mk_M_0 {s : ps_S} : mk_M (ps_ui s 1131 34 0) [] := ⟨by rw [ps_i_ui, if_pos ⟨rfl, rfl⟩]; rfl, fun k c _ hc => by cases hc⟩
theorem fm_225 {n c : Nat} {L : List Nat} {x1 : Int32} {s : ps_S} {R : ps_S → Prop} (M : mk_M s L) (hx : x1.toInt = c) (hl : L.length < 100000) (k : ∀ s', mk_M s' (L ++ [c]) → kq [1149] [34] s s' → R s') : pl_Cl n 225 [.ref 1131, .int x1] s (ps_rV R) := by
  cases n with
  | zero => exact pl_At_0
  | succ n =>
  show pl_At (n + 1) 225 0 [(0, .ref 1131), (1, .int x1)] [] s (ps_rV R)
  have c260 : (260 : Int32).toInt = 260 := by decide
  have hlen : (L ++ [c]).length = L.length + 1 := List.length_append
  have m1 := M.1
  refine pl_225_0 ⟨fun z => ?_, fun z => ?_⟩
  · have z := xle z
    refine k _ ⟨?_, fun q d hq hd => ?_⟩ (kqi kq_refl rfl)
    · rw [hlen, ps_i_ui, if_pos ⟨rfl, rfl⟩]
      exact xj1 M.1 (by omega)
    · show (ps_a s 1149 q).toInt = d
      refine M.2 q d hq ?_
      rw [List.getElem?_append_left (by omega)] at hd
      exact hd
  · have z := xlt z
    intro b
    rw [xtn M.1]
    refine k _ ⟨?_, fun q d hq hd => ?_⟩ (kqi (kqa kq_refl rfl) rfl)
    · rw [hlen, ps_i_ui, if_pos ⟨rfl, rfl⟩]
      exact xj1 M.1 (by omega)
    · show (ps_a (ps_ua s 1149 L.length x1) 1149 q).toInt = d
      rw [ps_a_ua]
      rcases Nat.lt_or_ge q L.length with y | y
      · rw [if_neg (by omega)]
        rw [List.getElem?_append_left y] at hd
        exact M.2 q d hq hd
      · have := (List.getElem?_eq_some_iff.mp hd).1
        have e : q = L.length := by omega
        rw [if_pos ⟨rfl, e⟩]
        rw [e, List.getElem?_append_right (Nat.le_refl _), Nat.sub_self] at hd
        cases hd
        exact hx
theorem fm_226_3 {to a b : Nat} {l L : List Nat} {x1 x3 : Int32} {s0 : ps_S} {R : ps_S → Prop} (h1 : x1.toInt = to) (ht : to < 27400) (W0 : mv_W s0 to l) (h3 : x3.toInt = b) (hb : b ≤ l.length) (hL : L.length < 50000) (k : ∀ s', mk_M s' (L ++ (l.drop a).take (b - a)) → kq [1149] [34] s0 s' → R s') : ∀ (n : Nat) {s : ps_S} {x4 : Int32} {i : Nat}, x4.toInt = i → a ≤ i → (i ≤ b ∨ i = a) → mk_M s (L ++ (l.drop a).take (i - a)) → kq [1149] [34] s0 s → pl_At n 226 3 [(0, .ref 1131), (1, .int x1), (3, .int x3), (4, .int x4)] [] s (ps_rV R)
  | 0, _, _, _, _, _, _, _, _ => pl_At_0
  | n + 1, s, x4, i, h4, hi, hib, M, K => by
    have h40 := W0.2.1
    refine pl_226_3 ⟨fun z => ?_, fun z => ?_⟩
    · have z := xle z
      have e : (l.drop a).take (b - a) = (l.drop a).take (i - a) := by
        rcases hib with y | y
        · rw [show i = b from by omega]
        · rw [show b - a = 0 from by omega, show i - a = 0 from by omega]
      exact k s (by rw [e]; exact M) K
    · have z := xlt z
      obtain ⟨c, hc⟩ : ∃ c, l[i]? = some c := ⟨_, List.getElem?_eq_getElem (by omega)⟩
      have W := mv_W_kq W0 K (by decide)
      have hlen : (L ++ (l.drop a).take (i - a)).length < 100000 := by
        rw [List.length_append, List.length_take, List.length_drop]
        omega
      refine fm_220c h1 ht W h4 hc (fun v q => ?_)
      refine fm_225 M q hlen (fun s2 M2 K2 => ?_)
      refine fm_226_3 h1 ht W0 h3 hb hL k n (xj1 h4 (by omega)) (by omega) (Or.inl (by omega)) ?_ (kqt K K2 (by decide) (by decide))
      have e : (l.drop a).take (i + 1 - a) = (l.drop a).take (i - a) ++ [c] := by
        rw [show i + 1 - a = (i - a) + 1 from by omega, List.take_succ, List.getElem?_drop, show a + (i - a) = i from by omega, hc]
        rfl
      rw [e, ← List.append_assoc]
      exact M2
theorem fm_226 {n to a b : Nat} {l L : List Nat} {x1 x2 x3 : Int32} {s : ps_S} {R : ps_S → Prop} (h1 : x1.toInt = to) (ht : to < 27400) (W : mv_W s to l) (M : mk_M s L) (h2 : x2.toInt = a) (h3 : x3.toInt = b) (hb : b ≤ l.length) (hL : L.length < 50000) (k : ∀ s', mk_M s' (L ++ (l.drop a).take (b - a)) → kq [1149] [34] s s' → R s') : pl_Cl n 226 [.ref 1131, .int x1, .int x2, .int x3] s (ps_rV R) := by
  cases n with
  | zero => exact pl_At_0
  | succ n =>
  show pl_At (n + 1) 226 0 [(0, .ref 1131), (1, .int x1), (2, .int x2), (3, .int x3)] [] s (ps_rV R)
  refine pl_226_0 (fm_226_3 h1 ht W h3 hb hL k n h2 (Nat.le_refl _) (Or.inr rfl) ?_ kq_refl)
  rw [Nat.sub_self, List.take_zero, List.append_nil]
  exact M
/-- the row made is kept -/
theorem fm_229_12 {to : Nat} {L : List Nat} {x1 : Int32} {s0 : ps_S} {R : ps_S → Prop} (M0 : mk_M s0 L) (h40 : L.length ≤ 40) (h1 : x1.toInt = to) (ht : to + 41 ≤ 27400) (k : ∀ s', mv_W s' to L → kq [1134] [] s0 s' → mv_po to s0 s' → R s') : ∀ (n : Nat) {s : ps_S} {x2 : Int32} {i : Nat}, x2.toInt = i → i ≤ L.length → (ps_a s 1134 to).toInt = L.length → (∀ j c, j < i → L[j]? = some c → (ps_a s 1134 (to + 1 + j)).toInt = c) → kq [1134] [] s0 s → mv_po to s0 s → pl_At n 229 12 [(0, .ref 1131), (1, .int x1), (2, .int x2)] [] s (ps_rV R)
  | 0, _, _, _, _, _, _, _, _, _ => pl_At_0
  | n + 1, s, x2, i, h2, hi, hsz, hj, K, P => by
    have M := mk_M_kq M0 K (by decide) (by decide)
    have m1 := M.1
    refine pl_229_12 ⟨fun z => ?_, fun z => ?_⟩
    · have z := xle z
      exact k s ⟨hsz, h40, fun j c hc => hj j c (by have := (List.getElem?_eq_some_iff.mp hc).1; omega) hc⟩ K P
    · have z := xlt z
      obtain ⟨c, hc⟩ : ∃ c, L[i]? = some c := ⟨_, List.getElem?_eq_getElem (by omega)⟩
      have e1 : (x1 + 1).toInt = (to + 1 : Nat) := xj1 h1 (by omega)
      have e2 : (x1 + 1 + x2).toInt = (to + 1 + i : Nat) := by
        rw [xIa (by omega) (by omega), e1, h2]
        omega
      intro b1 b2
      rw [xtn e2, xtn h2]
      refine fm_229_12 M0 h40 h1 ht k n (xj1 h2 (by omega)) (by omega) ?_ (fun j c2 hj2 hc2 => ?_) (kqa K rfl) (fun q hq => ?_)
      · rw [ps_a_ua, if_neg (by omega)]
        exact hsz
      · rw [ps_a_ua]
        by_cases e : j = i
        · subst e
          rw [if_pos ⟨rfl, rfl⟩]
          exact M.2 j c2 (by omega) hc2
        · rw [if_neg (by omega)]
          exact hj j c2 (by omega) hc2
      · rw [ps_a_ua, if_neg (by omega)]
        exact P q hq
theorem fm_229 {n to : Nat} {L : List Nat} {x1 : Int32} {s : ps_S} {R : ps_S → Prop} (M : mk_M s L) (h40 : L.length ≤ 40) (h1 : x1.toInt = to) (ht : to + 41 ≤ 27400) (k : ∀ s', mv_W s' to L → kq [1134] [] s s' → mv_po to s s' → R s') : pl_Cl n 229 [.ref 1131, .int x1] s (ps_rV R) := by
  cases n with
  | zero => exact pl_At_0
  | succ n =>
  show pl_At (n + 1) 229 0 [(0, .ref 1131), (1, .int x1)] [] s (ps_rV R)
  refine pl_229_0 ?_
  intro b
  rw [xtn h1]
  refine fm_229_12 M h40 h1 ht k n (i := 0) rfl (Nat.zero_le _) ?_ (fun j c hj => absurd hj (Nat.not_lt_zero _)) (kqa kq_refl rfl) (fun q hq => ?_)
  · rw [ps_a_ua, if_pos ⟨rfl, rfl⟩]
    exact M.1
  · rw [ps_a_ua, if_neg (by omega)]
/-! isRow: the stack of parts that are still to come -/
def bnF : List (Nat × Bool) → Nat
  | [] => 0
  | (_, b) :: F => (if b = true then 1 else 0) + bnF F
def fSF : List (Nat × Bool) → List (Nat × Nat)
  | [] => []
  | (k, b) :: F => List.replicate k (F.length + 1, (if b = true then 1 else 0) + bnF F) ++ fSF F
def skR (s : ps_S) : List (Nat × Bool) → Prop
  | [] => True
  | (k, b) :: F => ((ps_a s 1150 F.length).toInt = k ∧ (b = true → ps_a s 1151 F.length ≠ 0) ∧ (b = false → ps_a s 1151 F.length = 0)) ∧ skR s F
theorem skR_ext {s s' : ps_S} : ∀ {F : List (Nat × Bool)}, skR s F → (∀ i, i < F.length → ps_a s' 1150 i = ps_a s 1150 i ∧ ps_a s' 1151 i = ps_a s 1151 i) → skR s' F
  | [], _, _ => trivial
  | (k, b) :: F, h, e => by
    have e0 := e F.length (by rw [List.length_cons]; omega)
    refine ⟨?_, skR_ext h.2 (fun i hi => e i (by rw [List.length_cons]; omega))⟩
    rw [e0.1, e0.2]
    exact h.1
theorem bnF_le : ∀ {F : List (Nat × Bool)}, bnF F ≤ F.length
  | [] => Nat.le_refl _
  | (k, b) :: F => by
    have := bnF_le (F := F)
    show (if b = true then 1 else 0) + bnF F ≤ F.length + 1
    cases b
    · rw [if_neg (by decide)]; omega
    · rw [if_pos rfl]; omega
def KL (s0 s : ps_S) : Prop := kq [1150, 1151] [] s0 s
theorem of_m1 : (Int32.ofInt (-1)).toInt = -1 := by decide
theorem fm_228_110 {n0 : Nat} {P : List (Nat × Nat)} {x3 : Int32} {s0 : ps_S} {R : Int32 → ps_S → Prop} (kk : ∀ {s : ps_S} {x1 x2 : Int32} {F : List (Nat × Bool)}, x1.toInt = F.length → F.length ≤ 13 → x2.toInt = bnF F → bnF F ≤ 5 → skR s F → (F = [] ∨ ∃ k b G, F = (k + 1, b) :: G) → fSF F = P → KL s0 s → pl_At n0 228 148 [(0, .ref 1131), (1, .int x1), (2, .int x2), (3, .int x3)] [] s (ps_rI R)) : ∀ (n : Nat) {s : ps_S} {x1 x2 : Int32} {F : List (Nat × Bool)}, n ≤ n0 → x1.toInt = F.length → F.length ≤ 13 → x2.toInt = bnF F → bnF F ≤ 5 → skR s F → fSF F = P → KL s0 s → pl_At n 228 110 [(0, .ref 1131), (1, .int x1), (2, .int x2), (3, .int x3)] [] s (ps_rI R)
  | 0, _, _, _, _, _, _, _, _, _, _, _, _ => pl_At_0
  | n + 1, s, x1, x2, F, hn, h1, hF, h2, hb5, hS, hP, K => by
    have c0 : (0 : Int32).toInt = 0 := Int32.toInt_zero
    have c1 : (1 : Int32).toInt = 1 := by decide
    refine pl_228_110 ⟨fun z => ?_, fun z => ?_⟩
    · have z := xle z
      have e : F = [] := by
        cases F with
        | nil => rfl
        | cons a G => rw [List.length_cons] at h1; omega
      exact (kk h1 hF h2 hb5 hS (Or.inl e) hP K).le (by omega)
    · have z := xlt z
      cases F with
      | nil =>
        rw [List.length_nil] at h1
        omega
      | cons a G =>
        obtain ⟨k, b⟩ := a
        rw [List.length_cons] at h1 hF
        have e1 : (x1 - 1).toInt = (G.length : Nat) := by rw [xIs (by omega) (by omega), h1, c1]; omega
        obtain ⟨⟨s1, s2, s3⟩, hS2⟩ := id hS
        intro b1
        rw [xtn e1]
        refine ⟨fun y => ?_, fun y => ?_⟩
        · have y := xne y
          refine (kk (F := (k, b) :: G) (by rw [List.length_cons]; exact h1) (by rw [List.length_cons]; exact hF) h2 hb5 hS (Or.inr ?_) hP K).le (by omega)
          cases k with
          | zero => exact absurd s1 y
          | succ k => exact ⟨k, b, G, rfl⟩
        · have y := xeq y
          have hk : k = 0 := by omega
          subst hk
          cases n with
          | zero => exact pl_At_0
          | succ n =>
          clear e1 b1
          have e2 : (x1 + Int32.ofInt (-1)).toInt = (G.length : Nat) := by
            rw [xof1 (b := G.length + 1) h1 (by omega)]
            omega
          generalize x1 + Int32.ofInt (-1) = x9 at e2 ⊢
          have hP2 : fSF G = P := hP
          have h2 : x2.toInt = ((if b = true then 1 else 0) + bnF G : Nat) := h2
          have hbn := bnF_le (F := G)
          have hb5 : (if b = true then 1 else 0) + bnF G ≤ 5 := hb5
          refine pl_228_128 ?_
          intro b2
          rw [xtn e2]
          refine ⟨fun w => ?_, fun w => ?_⟩
          · have hb : b = false := by
              cases b
              · rfl
              · exact absurd w (s2 rfl)
            rw [hb, if_neg (by decide), Nat.zero_add] at h2
            exact fm_228_110 kk n (F := G) (by omega) e2 (by omega) (by rw [xIs (by rw [Int32.toInt_zero]; omega) (by rw [Int32.toInt_zero]; omega), Int32.toInt_zero, h2]; omega) (by omega) hS2 hP2 K
          · have hb : b = true := by
              cases b
              · exact absurd (s3 rfl) w
              · rfl
            rw [hb, if_pos rfl] at h2
            exact fm_228_110 kk n (F := G) (by omega) e2 (by omega) (by rw [xIs (by omega) (by omega), c1, h2]; omega) (by omega) hS2 hP2 K
section R228
variable {g : tx_g} {L : List Nat} {b : Nat} {s0 : ps_S} {R : Int32 → ps_S → Prop}
theorem fm_228_70 {n0 c j : Nat} {bb : Bool} {ks : List Bool} {F : List (Nat × Bool)} {x1 x2 x3 x4 : Int32} {s : ps_S} {isq : Bool} (hb : b < 2) (h21 : (ps_i s0 1131 21).toInt = b) (H0 : mv_E s0 b g) (M0 : mk_M s0 L) (h40 : L.length ≤ 40) (hc : L[j]? = some c) (hk : kS (sg g) bb c = some ks) (h3 : x3.toInt = j) (h1 : x1.toInt = F.length) (hF : F.length ≤ 12) (h2 : x2.toInt = bnF F) (h4 : x4 = (if isq = true then 1 else 0)) (hq : qb c = (if isq = true then 1 else 0)) (h5 : bnF F + qb c ≤ 5) (hS : skR s F) (K : KL s0 s) (kk : ∀ {s : ps_S} {x1 x2 : Int32} {G : List (Nat × Bool)}, x1.toInt = G.length → G.length ≤ 13 → x2.toInt = bnF G → bnF G ≤ 5 → skR s G → (G = [] ∨ ∃ k b G', G = (k + 1, b) :: G') → fSF G = List.replicate (arh g c) (F.length + 1, bnF F + qb c) ++ fSF F → KL s0 s → pl_At n0 228 148 [(0, .ref 1131), (1, .int x1), (2, .int x2), (3, .int x3)] [] s (ps_rI R)) {n : Nat} (hn : n ≤ n0) : pl_At n 228 70 [(0, .ref 1131), (1, .int x1), (2, .int x2), (3, .int x3), (4, .int x4)] [] s (ps_rI R) := by
  cases n with
  | zero => exact pl_At_0
  | succ n =>
  have hjl := (List.getElem?_eq_some_iff.mp hc).1
  have hbn := bnF_le (F := F)
  have c1 : (1 : Int32).toInt = 1 := by decide
  have h21' : (ps_i s 1131 21).toInt = b := by rw [kq_i K 21 rfl]; exact h21
  have H := mv_E_kq H0 K (by decide)
  refine pl_228_70 ?_
  intro b1
  rw [xtn h3]
  have ec : (ps_a s 1149 j).toInt = c := by
    rw [kq_a K 1149 (by decide)]
    exact M0.2 j c (by omega) hc
  refine fm_218 hb h21' H hk ec (fun v1 q1 => ?_)
  intro b2 b3
  rw [xtn h1]
  have e1 : (x1 + 1).toInt = (F.length + 1 : Nat) := xj1 h1 (by omega)
  have K2 : KL s0 (ps_ua (ps_ua s 1150 F.length v1) 1151 F.length (x4 &&& 1)) := kqa (kqa K rfl) rfl
  have hS2 : skR (ps_ua (ps_ua s 1150 F.length v1) 1151 F.length (x4 &&& 1)) ((arh g c, isq) :: F) := by
    refine ⟨⟨?_, fun z => ?_, fun z => ?_⟩, skR_ext hS (fun i hi => ⟨?_, ?_⟩)⟩
    · rw [ps_a_ua, if_neg (by omega), ps_a_ua, if_pos ⟨rfl, rfl⟩]
      exact q1
    · rw [ps_a_ua, if_pos ⟨rfl, rfl⟩, h4, z, if_pos rfl]
      decide
    · rw [ps_a_ua, if_pos ⟨rfl, rfl⟩, h4, z, if_neg (by decide)]
      decide
    · rw [ps_a_ua, if_neg (by omega), ps_a_ua, if_neg (by omega)]
    · rw [ps_a_ua, if_neg (by omega), ps_a_ua, if_neg (by omega)]
  have hP : fSF ((arh g c, isq) :: F) = List.replicate (arh g c) (F.length + 1, bnF F + qb c) ++ fSF F := by
    show List.replicate (arh g c) (F.length + 1, (if isq = true then 1 else 0) + bnF F) ++ fSF F = _
    rw [hq, Nat.add_comm (bnF F)]
  refine ⟨fun z => ?_, fun z => ?_⟩
  · have hi : isq = false := by
      cases isq
      · rfl
      · rw [z, if_pos rfl] at h4
        exact absurd h4 (by decide)
    subst hi
    exact fm_228_110 kk n (F := (arh g c, false) :: F) (by omega) e1 (by rw [List.length_cons]; omega) (by rw [xIa (by rw [Int32.toInt_zero]; omega) (by rw [Int32.toInt_zero]; omega), Int32.toInt_zero, h2]; show _ = ((0 + bnF F : Nat) : Int); omega) (by show 0 + bnF F ≤ 5; omega) hS2 hP K2
  · have hi : isq = true := by
      cases isq
      · rw [if_neg (by decide)] at h4
        exact absurd h4 z
      · rfl
    subst hi
    exact fm_228_110 kk n (F := (arh g c, true) :: F) (by omega) e1 (by rw [List.length_cons]; omega) (by rw [xj1 h2 (by omega)]; show _ = ((1 + bnF F : Nat) : Int); omega) (by rw [if_pos rfl] at hq; show 1 + bnF F ≤ 5; omega) hS2 hP K2
theorem fm_228_17 (hb : b < 2) (h21 : (ps_i s0 1131 21).toInt = b) (H0 : mv_E s0 b g) (M0 : mk_M s0 L) (h40 : L.length ≤ 40) (hA : ArW (sg g) (arh g)) (k1 : ∀ s', dp (arh g) L → KL s0 s' → R 1 s') (k0 : ∀ s', ¬ dp (arh g) L → KL s0 s' → R 0 s') : ∀ (n : Nat) {s : ps_S} {x1 x2 x3 : Int32} {j : Nat} {F : List (Nat × Bool)} {D P : List (Nat × Nat)} {W : List Bool}, x3.toInt = j → j ≤ L.length → x1.toInt = F.length → F.length ≤ 13 → x2.toInt = bnF F → bnF F ≤ 5 → skR s F → (P = (F.length, bnF F) :: fSF F ∨ P = []) → ws (sg g) (L.drop j) W → P.length = W.length → ly (arh g) [(0, 0)] L = D ++ ly (arh g) P (L.drop j) → D.length = j → (∀ (i : Nat) (d : Nat × Nat) (x : Nat), D[i]? = some d → L[i]? = some x → d.1 ≤ 12 ∧ d.2 + qb x ≤ 5) → KL s0 s → pl_At n 228 17 [(0, .ref 1131), (1, .int x1), (2, .int x2), (3, .int x3)] [] s (ps_rI R)
  | 0, _, _, _, _, _, _, _, _, _, _, _, _, _, _, _, _, _, _, _, _, _, _, _ => pl_At_0
  | n + 1, s, x1, x2, x3, j, F, D, P, W, h3, hj, h1, hF, h2, hbn, hS, hP, hw, hPW, hD, hDj, hd, K => by
    have M := mk_M_kq M0 K (by decide) (by decide)
    have m1 := M.1
    have c0 : (0 : Int32).toInt = 0 := Int32.toInt_zero
    have c12 : (12 : Int32).toInt = 12 := by decide
    have c4 : (4 : Int32).toInt = 4 := by decide
    have c5 : (5 : Int32).toInt = 5 := by decide
    have c1 : (1 : Int32).toInt = 1 := by decide
    refine pl_228_17 ⟨fun z => ?_, fun z => ?_⟩
    · have z := xle z
      have e : j = L.length := by omega
      refine k1 s (fun i d x hx1 hx2 => hd i d x ?_ hx2) K
      rw [e, List.drop_length] at hD
      rw [hD] at hx1
      have hil := (List.getElem?_eq_some_iff.mp hx2).1
      rw [List.getElem?_append_left (by omega)] at hx1
      exact hx1
    · have z := xlt z
      obtain ⟨c, hc⟩ : ∃ c, L[j]? = some c := ⟨_, List.getElem?_eq_getElem (by omega)⟩
      have ec : (ps_a s 1149 j).toInt = c := M.2 j c (by omega) hc
      rw [drop_c hc] at hw hD
      obtain ⟨bb, W', ks, rfl, hk, hw'⟩ := ws_cons.mp hw
      have ha := hA bb c ks hk
      have hPc : P = (F.length, bnF F) :: fSF F := by
        rcases hP with y | y
        · exact y
        · rw [y] at hPW; cases hPW
      subst hPc
      have hly : ly (arh g) ((F.length, bnF F) :: fSF F) (c :: L.drop (j + 1)) = (F.length, bnF F) :: ly (arh g) (List.replicate (arh g c) (F.length + 1, bnF F + qb c) ++ fSF F) (L.drop (j + 1)) := rfl
      rw [hly] at hD
      have hDj2 : (ly (arh g) [(0, 0)] L)[j]? = some (F.length, bnF F) := by
        rw [hD, List.getElem?_append_right (by omega), hDj, Nat.sub_self]
        rfl
      have bad : (¬ (F.length ≤ 12 ∧ bnF F + qb c ≤ 5)) → R 0 s := fun y => k0 s (fun w => y (w j _ c hDj2 hc)) K
      have fin : ∀ {x4 : Int32} {isq : Bool}, x4 = (if isq = true then 1 else 0) → qb c = (if isq = true then 1 else 0) → F.length ≤ 12 → bnF F + qb c ≤ 5 → ∀ {n' : Nat}, n' ≤ n → pl_At n' 228 70 [(0, .ref 1131), (1, .int x1), (2, .int x2), (3, .int x3), (4, .int x4)] [] s (ps_rI R) := fun {x4 isq} h4 hq hF12 hb5 {n'} hn' => by
        refine fm_228_70 (n0 := n) (j := j) (isq := isq) hb h21 H0 M0 h40 hc hk h3 h1 hF12 h2 h4 hq hb5 hS K (fun {s2 y1 y2 G} g1 g2 g3 hGb g4 g5 g6 K2 => ?_) hn'
        cases n with
        | zero => exact pl_At_0
        | succ n =>
        have e3 : (x3 + 1).toInt = (j + 1 : Nat) := xj1 h3 (by omega)
        have hlen : ∀ {P' : List (Nat × Nat)}, P' = List.replicate (arh g c) (F.length + 1, bnF F + qb c) ++ fSF F → P'.length = (ks ++ W').length := fun {P'} e => by
          rw [e, List.length_append, List.length_append, List.length_replicate, ha]
          rw [List.length_cons, List.length_cons] at hPW
          omega
        have hD2 : (D ++ [(F.length, bnF F)]).length = j + 1 := by rw [List.length_append, hDj]; rfl
        have hd2 : ∀ (i : Nat) (d : Nat × Nat) (x : Nat), (D ++ [(F.length, bnF F)])[i]? = some d → L[i]? = some x → d.1 ≤ 12 ∧ d.2 + qb x ≤ 5 := fun i d x hi hx => by
          rcases Nat.lt_or_ge i j with y | y
          · rw [List.getElem?_append_left (by omega)] at hi
            exact hd i d x hi hx
          · have := (List.getElem?_eq_some_iff.mp hi).1
            have ei : i = j := by omega
            rw [ei, List.getElem?_append_right (by omega), hDj, Nat.sub_self] at hi
            cases hi
            rw [ei, hc] at hx
            cases hx
            exact ⟨hF12, hb5⟩
        have hD3 : ∀ {P' : List (Nat × Nat)}, P' = List.replicate (arh g c) (F.length + 1, bnF F + qb c) ++ fSF F → ly (arh g) [(0, 0)] L = (D ++ [(F.length, bnF F)]) ++ ly (arh g) P' (L.drop (j + 1)) := fun {P'} e => by
          rw [e, hD, List.append_assoc]
          rfl
        refine pl_228_148 ⟨fun y => ?_, fun y => ?_⟩
        · have y := xle y
          have eG : G = [] := by
            cases G with
            | nil => rfl
            | cons a G => rw [List.length_cons] at g1; omega
          subst eG
          exact fm_228_17 hb h21 H0 M0 h40 hA k1 k0 n (F := []) (P := []) e3 (by omega) g1 g2 g3 (Nat.zero_le _) trivial (Or.inr rfl) hw' (hlen g6) (hD3 g6) hD2 hd2 K2
        · have y := xlt y
          rcases g5 with rfl | ⟨k, bG, G', rfl⟩
          · rw [g1] at y
            exact absurd y (by decide)
          · have g1' : y1.toInt = (G'.length + 1 : Nat) := g1
            have e1 : (y1 - 1).toInt = (G'.length : Nat) := by rw [xIs (by omega) (by omega), g1', c1]; omega
            obtain ⟨⟨t1, t2, t3⟩, t4⟩ := g4
            intro b1 b2
            rw [xtn e1]
            have hv : (ps_a s2 1150 G'.length - 1).toInt = (k : Nat) := by
              have hk99 := xR (ps_a s2 1150 G'.length)
              rw [xIs (by omega) (by omega), t1, c1]
              omega
            have eP : fSF ((k + 1, bG) :: G') = (G'.length + 1, (if bG = true then 1 else 0) + bnF G') :: fSF ((k, bG) :: G') := by
              show List.replicate (k + 1) _ ++ _ = _ :: (List.replicate k _ ++ _)
              rw [List.replicate_succ]
              rfl
            refine fm_228_17 hb h21 H0 M0 h40 hA k1 k0 n (F := (k, bG) :: G') (P := fSF ((k + 1, bG) :: G')) e3 (by omega) g1 g2 g3 hGb ⟨⟨?_, fun w => ?_, fun w => ?_⟩, skR_ext t4 (fun i hi => ⟨?_, ?_⟩)⟩ (Or.inl eP) hw' (hlen g6) (hD3 g6) hD2 hd2 (kqa K2 rfl)
            · rw [ps_a_ua, if_pos ⟨rfl, rfl⟩]
              exact hv
            · rw [ps_a_ua, if_neg (by omega)]
              exact t2 w
            · rw [ps_a_ua, if_neg (by omega)]
              exact t3 w
            · rw [ps_a_ua, if_neg (by omega)]
            · rw [ps_a_ua, if_neg (by omega)]
      intro b1
      rw [xtn h3]
      have quant : c = 4 ∨ c = 5 → pl_At n 228 45 [(0, .ref 1131), (1, .int x1), (2, .int x2), (3, .int x3)] [] s (ps_rI R) := fun h45 => by
        cases n with
        | zero => exact pl_At_0
        | succ n =>
        have q1 := qb_1 h45
        refine pl_228_45 ⟨fun y => ?_, fun y => ⟨fun w => absurd w (by decide), fun _ => ⟨fun w => ?_, fun w => ?_⟩⟩⟩
        · have y := xlt y
          exact bad (fun w => by omega)
        · have y := xle y
          have w := xle w
          exact fin (isq := true) rfl q1 (by omega) (by omega) (Nat.le_succ _)
        · have w := xlt w
          exact bad (fun v => by omega)
      refine ⟨fun y => ?_, fun y => ?_⟩
      · have y := xeq y
        exact quant (Or.inl (by omega))
      · have y := xne y
        intro b2
        refine ⟨fun y2 => ?_, fun y2 => ?_⟩
        · have y2 := xne y2
          have q0 := qb_0 (c := c) (by omega)
          refine ⟨fun w => ?_, fun w => ⟨fun _ => ?_, fun v => absurd rfl v⟩⟩
          · have w := xlt w
            exact bad (fun v => by omega)
          · have w := xle w
            exact fin (isq := false) rfl q0 (by omega) (by omega) (Nat.le_refl _)
        · have y2 := xeq y2
          exact quant (Or.inr (by omega))
theorem fm_228 {n : Nat} {s : ps_S} {bb : Bool} (hb : b < 2) (h21 : (ps_i s 1131 21).toInt = b) (H : mv_E s b g) (M : mk_M s L) (hw : ws (sg g) L [bb]) (hl : L.length < 100000) (k1 : ∀ s', (L.length ≤ 40 ∧ dp (arh g) L) ∧ KL s s' → R 1 s') (k0 : ∀ s', (¬ (L.length ≤ 40 ∧ dp (arh g) L)) ∧ KL s s' → R 0 s') : pl_Cl n 228 [.ref 1131] s (ps_rI R) := by
  cases n with
  | zero => exact pl_At_0
  | succ n =>
  show pl_At (n + 1) 228 0 [(0, .ref 1131)] [] s (ps_rI R)
  have c40 : (40 : Int32).toInt = 40 := by decide
  have m1 := M.1
  refine pl_228_0 ⟨fun z => ?_, fun z => ?_⟩
  · have z := xle z
    have h40 : L.length ≤ 40 := by omega
    exact fm_228_17 hb h21 H M h40 (arh_k H.2.2.1 H.2.2.2.1) (fun s' a c => k1 s' ⟨⟨h40, a⟩, c⟩) (fun s' a c => k0 s' ⟨fun y => a y.2, c⟩) n (j := 0) (F := []) (D := []) (P := [(0, 0)]) rfl (Nat.zero_le _) rfl (Nat.zero_le _) rfl (Nat.zero_le _) trivial (Or.inl rfl) hw rfl rfl rfl (fun i d x hi => by cases hi) kq_refl
  · have z := xlt z
    exact k0 s ⟨fun y => by omega, kq_refl⟩
end R228
/-- what is bound, by places: the reference's -/
def BNm (s : ps_S) (l : List Nat) (B : Nat → Option (List Nat)) : Prop := ∀ k, k < 20 → (B k = none ∧ (ps_a s 1167 k).toInt = -1) ∨ ∃ a b : Nat, (ps_a s 1167 k).toInt = a ∧ (ps_a s 1168 k).toInt = b ∧ a ≤ b ∧ b ≤ l.length ∧ B k = some ((l.drop a).take (b - a))
theorem BNm_put {s : ps_S} {l T : List Nat} {B : Nat → Option (List Nat)} {k p e : Nat} {x v : Int32} (b : BNm s l B) (hx : x.toInt = p) (hv : v.toInt = e) (hpe : p ≤ e) (he : e ≤ l.length) (hT : T = (l.drop p).take (e - p)) : BNm (ps_ua (ps_ua s 1167 k x) 1168 k v) l (rw_u B k T) := fun j hj => by
  unfold rw_u
  by_cases ej : j = k
  · right
    refine ⟨p, e, ?_, ?_, hpe, he, ?_⟩
    · rw [ps_a_ua, if_neg (by omega), ps_a_ua, if_pos ⟨rfl, ej⟩]
      exact hx
    · rw [ps_a_ua, if_pos ⟨rfl, ej⟩]
      exact hv
    · rw [if_pos ej, hT]
  · rw [if_neg ej, ps_a_ua, if_neg (by omega), ps_a_ua, if_neg (by omega), ps_a_ua, if_neg (by omega), ps_a_ua, if_neg (by omega)]
    exact b j hj
theorem rw_u_id {B : Nat → Option (List Nat)} {k : Nat} {U : List Nat} (h : B k = some U) : rw_u B k U = B := by
  funext q
  unfold rw_u
  by_cases e : q = k
  · rw [if_pos e, e, h]
  · rw [if_neg e]
def KBm (s0 s : ps_S) : Prop := kq [1167, 1168] [65] s0 s
section R286
variable {b : Nat} {h : tx_H} {l r : List Nat} {i : Nat} {s0 : ps_S} {R : Int32 → ps_S → Prop} {x3 : Int32} {lf rt : Nat}
theorem fm_286_42 (hb : b < 2) (h21 : (ps_i s0 1131 21).toInt = b) (H0 : mv_E s0 b h.1) (hi8 : i < 8) (W0 : mv_W s0 25789 l) (Wr0 : mv_W s0 (21812 + 41 * (8 * b + i)) r) (h3 : x3.toInt = (21812 + 41 * (8 * b + i) : Nat)) (hv : ∀ c, c ∈ r → c < 60) (h64 : (ps_i s0 1131 64).toInt = rt) (hrt : rt ≤ r.length) {M : Option (Nat × (Nat → Option (List Nat)))} (k1 : ∀ s' e B, M = some (e, B) → BNm s' l B → (ps_i s' 1131 65).toInt = (e : Nat) → KBm s0 s' → R 1 s') (k0 : ∀ s', M = none → KBm s0 s' → R 0 s') : ∀ (n : Nat) {s : ps_S} {x4 x5 : Int32} {p j : Nat} {B : Nat → Option (List Nat)} {W W1 : List Bool}, x4.toInt = p → x5.toInt = j → j ≤ rt → BNm s l B → KBm s0 s → ws (sg h.1) ((r.drop j).take (rt - j)) W → ws (sg h.1) (l.drop p) W1 → W.length ≤ W1.length → p ≤ l.length → M = rw_m (arh h.1) l ((r.drop j).take (rt - j)) p B → pl_At n 286 42 [(0, .ref 1131), (3, .int x3), (4, .int x4), (5, .int x5)] [] s (ps_rI R)
  | 0, _, _, _, _, _, _, _, _, _, _, _, _, _, _, _, _, _, _ => pl_At_0
  | n + 1, s, x4, x5, p, j, B, W, W1, h4, h5, hj, bn, K, hw, hw1, hle, hpl, hM => by
    have hA := arh_k H0.2.2.1 H0.2.2.2.1
    have hl40 := W0.2.1
    have hr40 := Wr0.2.1
    have c0 : (0 : Int32).toInt = 0 := Int32.toInt_zero
    have c40 : (40 : Int32).toInt = 40 := by decide
    have Wl := mv_W_kq W0 K (by decide)
    have Wr := mv_W_kq Wr0 K (by decide)
    have H := mv_E_kq H0 K (by decide)
    have h21' : (ps_i s 1131 21).toInt = b := by rw [kq_i K 21 rfl]; exact h21
    have e64 : (ps_i s 1131 64).toInt = rt := by rw [kq_i K 64 rfl]; exact h64
    refine pl_286_42 ⟨fun z => ?_, fun z => ?_⟩
    · have z := xle z
      rw [show rt - j = 0 from by omega, List.take_zero] at hM
      refine k1 _ p B hM bn ?_ (kqi K rfl)
      rw [ps_i_ui, if_pos ⟨rfl, rfl⟩]
      exact h4
    · have z := xlt z
      obtain ⟨c, hc⟩ : ∃ c, r[j]? = some c := ⟨_, List.getElem?_eq_getElem (by omega)⟩
      have c60 := hv c (List.mem_of_getElem? hc)
      rw [dt_c hc (by omega)] at hw hM
      obtain ⟨bb, W', ks, rfl, hk, hw'⟩ := ws_cons.mp hw
      have ha := hA bb c ks hk
      have hpos : 1 ≤ W1.length := by rw [List.length_cons] at hle; omega
      have hlt : p < l.length := by
        have := en_lt hA hw1 (show 0 < W1.length by omega)
        rw [List.length_drop] at this
        omega
      refine fm_220c h3 (by omega) Wr h5 hc (fun v1 q1 => ⟨fun y => ?_, fun y => ?_⟩)
      · have y := xle y
        have h40 : 40 ≤ c := by omega
        have hks : ks = [] := by
          have := (arh_lo (g := h.1) (c := c)).2.2.2.2 h40
          exact List.eq_nil_of_length_eq_zero (by omega)
        rw [hks, List.nil_append] at hw'
        have hen := en_le hA hw1 (k := 1) hpos
        rw [List.length_drop] at hen
        have hrest := (en_rest hA hw1 (k := 1) hpos).1
        rw [List.drop_drop] at hrest
        have hcons : ∃ b0 Wi, W1 = b0 :: Wi := by
          cases W1 with
          | nil => exact absurd hpos (by decide)
          | cons b0 Wi => exact ⟨b0, Wi, rfl⟩
        obtain ⟨b0, Wi, hW1⟩ := hcons
        have ek : (v1 - 40).toInt = (c - 40 : Nat) := by rw [xIs (by omega) (by omega), q1, c40]; omega
        have hk20 : c - 40 < 20 := by omega
        refine fm_221 hb h21' H (to := 25789) (i := p) (l := l) (by decide) (by decide) Wl h4 (by rw [← hW1]; exact hw1) (fun v2 q2 => ?_)
        have go : ∀ {B2 : Nat → Option (List Nat)}, rw_u B (c - 40) ((l.drop p).take (en (arh h.1) (l.drop p) 1)) = B2 → M = rw_m (arh h.1) l ((r.drop (j + 1)).take (rt - (j + 1))) (p + en (arh h.1) (l.drop p) 1) B2 → pl_At n 286 42 [(0, .ref 1131), (3, .int x3), (4, .int v2), (5, .int (x5 + 1))] [] (ps_ua (ps_ua s 1167 (c - 40) x4) 1168 (c - 40) v2) (ps_rI R) := fun {B2} eB hM2 => by
          refine fm_286_42 hb h21 H0 hi8 W0 Wr0 h3 hv h64 hrt k1 k0 n q2 (xj1 h5 (by omega)) (by omega) ?_ (kqa (kqa K rfl) rfl) hw' hrest (by rw [List.length_drop]; rw [List.length_cons] at hle; omega) (by omega) hM2
          rw [← eB]
          exact BNm_put bn h4 q2 (by omega) (by omega) (by rw [Nat.add_sub_cancel_left])
        intro b1
        rw [xtn ek]
        rcases bn (c - 40) hk20 with ⟨t1, t2⟩ | ⟨a, e, t1, t2, t3, t4, t5⟩
        · refine ⟨fun w => ?_, fun w => ?_⟩
          · intro b2 b3
            exact go rfl (by rw [hM, rw_m_n h40 t1])
          · have w := xle w
            omega
        · refine ⟨fun w => ?_, fun w => ?_⟩
          · have w := xlt w
            omega
          · intro b2 b3
            have d2 : (v2 - x4).toInt = (en (arh h.1) (l.drop p) 1 : Nat) := by rw [xIs (by omega) (by omega), q2, h4]; omega
            have d1 : ((ps_a s 1168 (c - 40)) - (ps_a s 1167 (c - 40))).toInt = (e - a : Nat) := by rw [xIs (by omega) (by omega), t1, t2]; omega
            have l1 : ((l.drop a).take (e - a)).length = e - a := by rw [List.length_take, List.length_drop]; omega
            have l2 : ((l.drop p).take (en (arh h.1) (l.drop p) 1)).length = en (arh h.1) (l.drop p) 1 := by rw [List.length_take, List.length_drop]; omega
            refine ⟨fun u => ?_, fun u => ?_⟩
            · have u := xne u
              refine k0 s ?_ K
              rw [hM, rw_m_s h40 t5, if_neg (fun v => by rw [v] at l1; omega)]
            · have u := xeq u
              have ez : en (arh h.1) (l.drop p) 1 = e - a := by omega
              intro b4
              refine fm_259 (ta := 25789) (tb := 25789) (f := p) (m := en (arh h.1) (l.drop p) 1) (p := a) (la := l) (lb := l) (by decide) (by decide) Wl (by decide) (by decide) Wl h4 d2 t1 (by omega) (by omega) (fun u2 => ⟨fun _ => ?_, fun w2 => absurd w2 (by decide)⟩) (fun u2 => ⟨fun w2 => absurd rfl w2, fun _ => ?_⟩)
              · intro b5 b6
                have eU : (l.drop a).take (e - a) = (l.drop p).take (en (arh h.1) (l.drop p) 1) := by rw [u2, ez]
                refine go (B2 := B) ?_ (by rw [hM, rw_m_s h40 t5, if_pos eU])
                rw [← eU]
                exact rw_u_id t5
              · refine k0 s ?_ K
                rw [hM, rw_m_s h40 t5, if_neg (fun v => u2 (by rw [← v, ez]))]
      · have y := xlt y
        have h40 : ¬ 40 ≤ c := by omega
        obtain ⟨c2, hc2⟩ : ∃ c2, l[p]? = some c2 := ⟨_, List.getElem?_eq_getElem hlt⟩
        refine fm_220c (to := 25789) (by decide) (by decide) Wl h4 hc2 (fun v4 q4 => ⟨fun w => ?_, fun w => ?_⟩)
        · have w := xeq w
          have e2 : c2 = c := by omega
          subst e2
          rw [drop_c hc2] at hw1
          obtain ⟨bb2, W1', ks2, rfl, hk2, hw1'⟩ := ws_cons.mp hw1
          have ha2 := hA bb2 c2 ks2 hk2
          refine fm_286_42 hb h21 H0 hi8 W0 Wr0 h3 hv h64 hrt k1 k0 n (xj1 h4 (by omega)) (xj1 h5 (by omega)) (by omega) bn K hw' hw1' ?_ (by omega) (by rw [hM, rw_m_c h40, if_pos hc2])
          rw [List.length_append, List.length_append]
          rw [List.length_cons, List.length_cons] at hle
          omega
        · have w := xne w
          refine k0 s ?_ K
          rw [hM, rw_m_c h40, if_neg (fun v => by rw [hc2] at v; cases v; exact w (by rw [q1, q4]))]
theorem fm_286_12 {x2 : Int32} (k : ∀ n s', BNm s' l (fun _ => none) → KBm s0 s' → pl_At n 286 42 [(0, .ref 1131), (3, .int x3), (4, .int x2), (5, .int (ps_i s0 1131 63))] [] s' (ps_rI R)) : ∀ (n : Nat) {s : ps_S} {x4 : Int32} {j : Nat}, x4.toInt = j → j ≤ 20 → (∀ q, q < j → (ps_a s 1167 q).toInt = -1) → KBm s0 s → pl_At n 286 12 [(0, .ref 1131), (2, .int x2), (3, .int x3), (4, .int x4)] [] s (ps_rI R)
  | 0, _, _, _, _, _, _, _ => pl_At_0
  | n + 1, s, x4, j, h4, hj, hq, K => by
    have c20 : (20 : Int32).toInt = 20 := by decide
    refine pl_286_12 ⟨fun z => ?_, fun z => ?_⟩
    · have z := xle z
      rw [show ps_i s 1131 63 = ps_i s0 1131 63 from kq_i K 63 rfl]
      exact k n s (fun q hq20 => Or.inl ⟨rfl, hq q (by omega)⟩) K
    · have z := xlt z
      intro b1
      rw [xtn h4]
      refine fm_286_12 k n (xj1 h4 (by omega)) (by omega) (fun q hq2 => ?_) (kqa K rfl)
      rw [ps_a_ua]
      by_cases e : q = j
      · rw [if_pos ⟨rfl, e⟩]
        decide
      · rw [if_neg (fun w => e w.2)]
        exact hq q (by omega)
theorem fm_286 {n : Nat} {x1 x2 : Int32} {p : Nat} {W W1 : List Bool} (hb : b < 2) (h21 : (ps_i s0 1131 21).toInt = b) (H0 : mv_E s0 b h.1) (hi8 : i < 8) (W0 : mv_W s0 25789 l) (Wr0 : mv_W s0 (21812 + 41 * (8 * b + i)) r) (h1 : x1.toInt = i) (h2 : x2.toInt = p) (hv : ∀ c, c ∈ r → c < 60) (h63 : (ps_i s0 1131 63).toInt = lf) (h64 : (ps_i s0 1131 64).toInt = rt) (hlr : lf ≤ rt) (hrt : rt ≤ r.length) (hp : p ≤ l.length) (hw : ws (sg h.1) ((r.drop lf).take (rt - lf)) W) (hw1 : ws (sg h.1) (l.drop p) W1) (hle : W.length ≤ W1.length) (k1 : ∀ s', (∃ e B, rw_m (arh h.1) l ((r.drop lf).take (rt - lf)) p (fun _ => none) = some (e, B) ∧ BNm s' l B ∧ (ps_i s' 1131 65).toInt = (e : Nat) ∧ KBm s0 s') → R 1 s') (k0 : ∀ s', (rw_m (arh h.1) l ((r.drop lf).take (rt - lf)) p (fun _ => none) = none ∧ KBm s0 s') → R 0 s') : pl_Cl n 286 [.ref 1131, .int x1, .int x2] s0 (ps_rI R) := by
  cases n with
  | zero => exact pl_At_0
  | succ n =>
  show pl_At (n + 1) 286 0 [(0, .ref 1131), (1, .int x1), (2, .int x2)] [] s0 (ps_rI R)
  refine pl_286_0 ?_
  refine fm_283 h21 hb h1 hi8 (fun v1 q1 => ?_)
  exact fm_286_12 (l := l) (s0 := s0) (fun n s1 bn K => fm_286_42 hb h21 H0 hi8 W0 Wr0 q1 hv h64 hrt (fun s' e B a c d f => k1 s' ⟨e, B, a, c, d, f⟩) (fun s' a c => k0 s' ⟨a, c⟩) n h2 h63 hlr bn K hw hw1 hle hp rfl) n (j := 0) rfl (Nat.zero_le _) (fun q hq => absurd hq (Nat.not_lt_zero _)) kq_refl
end R286
def KR (s0 s : ps_S) : Prop := kq [1149, 1167, 1168] [34, 63, 64, 65] s0 s
section R287
variable {b : Nat} {h : tx_H} {l : List Nat} {s0 : ps_S} {R : Int32 → ps_S → Prop}
theorem fm_287_77 {r : List Nat} {i p e rt : Nat} {B : Nat → Option (List Nat)} {x3 : Int32} (hb : b < 2) (hi8 : i < 8) (W0 : mv_W s0 25789 l) (Wr0 : mv_W s0 (21812 + 41 * (8 * b + i)) r) (h3 : x3.toInt = (21812 + 41 * (8 * b + i) : Nat)) (hv : ∀ c, c ∈ r → c < 60) (hB : ∀ c, c ∈ r.drop rt → 40 ≤ c → ∃ U, B (c - 40) = some U) (h65 : (ps_i s0 1131 65).toInt = e) (b0 : BNm s0 l B) (hel : e ≤ l.length) (k : ∀ s', mk_M s' (l.take p ++ rw_r B (r.drop rt) ++ l.drop e) → kq [1149] [34] s0 s' → R 1 s') : ∀ (n : Nat) {s : ps_S} {x4 : Int32} {j : Nat} {L : List Nat}, x4.toInt = j → rt ≤ j → j ≤ r.length → mk_M s (l.take p ++ L) → L.length ≤ 40 * j → rw_r B (r.drop rt) = L ++ rw_r B (r.drop j) → kq [1149] [34] s0 s → pl_At n 287 77 [(0, .ref 1131), (3, .int x3), (4, .int x4)] [] s (ps_rI R)
  | 0, _, _, _, _, _, _, _, _, _, _, _ => pl_At_0
  | n + 1, s, x4, j, L, h4, hj, hjr, M, hL40, hL, K => by
    have hl40 := W0.2.1
    have hr40 := Wr0.2.1
    have c40 : (40 : Int32).toInt = 40 := by decide
    have Wl := mv_W_kq W0 K (by decide)
    have Wr := mv_W_kq Wr0 K (by decide)
    have hlen : (l.take p ++ L).length < 50000 := by
      rw [List.length_append, List.length_take]
      omega
    refine pl_287_77 ?_
    refine fm_219c h3 Wr (fun v1 q1 => ⟨fun z => ?_, fun z => ?_⟩)
    · have z := xle z
      have ej : j = r.length := by omega
      rw [ej, List.drop_length] at hL
      have hL : rw_r B (r.drop rt) = L := by rw [hL]; exact List.append_nil _
      refine fm_219c (to := 25789) (by decide) Wl (fun v2 q2 => ?_)
      have e65 : (ps_i s 1131 65).toInt = e := by rw [kq_i K 65 rfl]; exact h65
      refine fm_226 (to := 25789) (a := e) (b := l.length) (by decide) (by decide) Wl M e65 q2 (Nat.le_refl _) hlen (fun s3 M3 K3 => k s3 ?_ (kqt K K3 (by decide) (by decide)))
      rw [hL]
      have ee : (l.drop e).take (l.length - e) = l.drop e := List.take_of_length_le (by rw [List.length_drop]; omega)
      rw [ee] at M3
      exact M3
    · have z := xlt z
      obtain ⟨c, hc⟩ : ∃ c, r[j]? = some c := ⟨_, List.getElem?_eq_getElem (by omega)⟩
      have hcm := List.mem_of_getElem? hc
      have hcd : c ∈ r.drop rt := List.mem_iff_getElem?.mpr ⟨j - rt, by rw [List.getElem?_drop, show rt + (j - rt) = j from by omega]; exact hc⟩
      have c60 := hv c hcm
      rw [drop_c hc] at hL
      refine fm_220c h3 (by omega) Wr h4 hc (fun v4 q4 => ⟨fun y => ?_, fun y => ?_⟩)
      · have y := xle y
        have h40 : 40 ≤ c := by omega
        have ex : (v4 - 40).toInt = (c - 40 : Nat) := by rw [xIs (by omega) (by omega), q4, c40]; omega
        obtain ⟨U, hU⟩ := hB c hcd h40
        rw [rw_r_v h40 hU] at hL
        intro b1 b2
        rw [xtn ex]
        rcases b0 (c - 40) (by omega) with ⟨y1, -⟩ | ⟨a, bb, y1, y2, y3, y4, y5⟩
        · rw [hU] at y1; cases y1
        · rw [hU] at y5
          have eU := Option.some.inj y5
          refine fm_226 (to := 25789) (a := a) (b := bb) (by decide) (by decide) Wl M (by rw [kq_a K 1167 (by decide)]; exact y1) (by rw [kq_a K 1168 (by decide)]; exact y2) y4 hlen (fun s2 M2 K2 => ?_)
          rw [← eU, List.append_assoc] at M2
          have hUl : U.length ≤ 40 := by
            rw [eU, List.length_take, List.length_drop]
            omega
          exact fm_287_77 hb hi8 W0 Wr0 h3 hv hB h65 b0 hel k n (L := L ++ U) (xj1 h4 (by omega)) (by omega) (by omega) M2 (by rw [List.length_append]; omega) (by rw [hL, List.append_assoc]) (kqt K K2 (by decide) (by decide))
      · have y := xlt y
        have h40 : ¬ 40 ≤ c := by omega
        rw [rw_r_c h40] at hL
        refine fm_225 M q4 (by omega) (fun s2 M2 K2 => ?_)
        rw [List.append_assoc] at M2
        exact fm_287_77 hb hi8 W0 Wr0 h3 hv hB h65 b0 hel k n (L := L ++ [c]) (xj1 h4 (by omega)) (by omega) (by omega) M2 (by rw [List.length_append, List.length_singleton]; omega) (by rw [hL, List.append_assoc]; rfl) (kqt K K2 (by decide) (by decide))
theorem fm_287_all (hb : b < 2) (h21 : (ps_i s0 1131 21).toInt = b) (H0 : mv_H s0 b h) (hw : WFt h) (hwl : ws (sg h.1) l [false]) (W0 : mv_W s0 25789 l) (k1 : ∀ s' l', rw_s h l l' → mk_M s' l' → KR s0 s' → R 1 s') (k0 : ∀ s', rw_e h l → KR s0 s' → R 0 s') : ∀ n : Nat, (∀ {s : ps_S} {x1 : Int32} {p : Nat}, x1.toInt = p → p ≤ l.length → KR s0 s → (∀ p', p' < p → ∀ k', rw_z h l p' k') → pl_At n 287 2 [(0, .ref 1131), (1, .int x1)] [] s (ps_rI R)) ∧ (∀ {s : ps_S} {x1 x2 : Int32} {p i : Nat}, x1.toInt = p → p < l.length → x2.toInt = i → i ≤ h.2.length → KR s0 s → (∀ p', p' < p → ∀ k', rw_z h l p' k') → (∀ k', k' < i → rw_z h l p k') → pl_At n 287 15 [(0, .ref 1131), (1, .int x1), (2, .int x2)] [] s (ps_rI R)) := by
  have hA := arh_k H0.1.2.2.1 H0.1.2.2.2.1
  have hl40 := W0.2.1
  intro n
  induction n with
  | zero => exact ⟨fun _ _ _ _ => pl_At_0, fun _ _ _ _ _ _ _ => pl_At_0⟩
  | succ n ih =>
    obtain ⟨i2, i15⟩ := ih
    refine ⟨fun {s x1 p} h1 hp K hz => ?_, fun {s x1 x2 p i} h1 hp h2 hi K hz hk => ?_⟩
    · have W := mv_W_kq W0 K (by decide)
      refine pl_287_2 ?_
      refine fm_219c (to := 25789) (by decide) W (fun v1 q1 => ⟨fun z => ?_, fun z => ?_⟩)
      · have z := xle z
        exact k0 s (fun p' hp' k' => hz p' (by omega) k') K
      · have z := xlt z
        exact i15 h1 (by omega) rfl (Nat.zero_le _) K hz (fun k' hk' => absurd hk' (Nat.not_lt_zero _))
    · have W := mv_W_kq W0 K (by decide)
      have h8 := H0.2.2.1
      have H := mv_H_kq H0 K (by decide)
      have h21' : (ps_i s 1131 21).toInt = b := by rw [kq_i K 21 rfl]; exact h21
      refine pl_287_15 ?_
      rw [xtn h21']
      intro b1
      refine ⟨fun z => ?_, fun z => ?_⟩
      · have z := xle z
        rw [H.2.1] at z
        refine i2 (xj1 h1 (by omega)) (by omega) K (fun p' hp' k' => ?_)
        rcases Nat.lt_or_ge p' p with u | u
        · exact hz p' u k'
        · rw [show p' = p from by omega]
          rcases Nat.lt_or_ge k' i with u2 | u2
          · exact hk k' u2
          · rintro l' ⟨w, r, e, B, a1, -⟩
            have := (List.getElem?_eq_some_iff.mp a1).1
            omega
      · have z := xlt z
        rw [H.2.1] at z
        obtain ⟨⟨w, r⟩, hkr⟩ : ∃ q, h.2[i]? = some q := ⟨_, List.getElem?_eq_getElem (by omega)⟩
        obtain ⟨hf, hr40, h60⟩ := hw.2.2 i w r hkr
        obtain ⟨y1, y2, Wr⟩ := H.2.2.2 i w r hkr
        obtain ⟨W1, hw1⟩ := ws_drop p hwl
        have hne : ∃ b0 Wi, W1 = b0 :: Wi := by
          cases W1 with
          | nil =>
            have := ws_nil hw1
            have hl := congrArg List.length this
            rw [List.length_drop, List.length_nil] at hl
            omega
          | cons b0 Wi => exact ⟨b0, Wi, rfl⟩
        obtain ⟨b0, Wi, rfl⟩ := hne
        have hlen : 1 ≤ (b0 :: Wi).length := by rw [List.length_cons]; omega
        have next : ∀ {s' : ps_S}, KR s0 s' → rw_z h l p i → pl_At n 287 15 [(0, .ref 1131), (1, .int x1), (2, .int (x2 + 1))] [] s' (ps_rI R) := fun K' y => i15 h1 hp (xj1 h2 (by omega)) (by omega) K' hz (fun k' hk' => by
          rcases Nat.lt_or_ge k' i with u | u
          · exact hk k' u
          · rw [show k' = i from by omega]
            exact y)
        refine fm_284 hb h21' H hw hkr h2 (fun s1 q => ⟨fun y => absurd y (by decide), fun _ => ?_⟩) (fun s1 q => ⟨fun _ => ?_, fun y => absurd rfl y⟩)
        · obtain ⟨his, e63, e64, K1⟩ := q
          obtain ⟨p1, p2, p3, p4, -, p6⟩ := rl_parts hA (wf_ws hf) his
          have K1' : KR s0 s1 := kqt K K1 (by decide) (by decide)
          have W1' := mv_W_kq W0 K1' (by decide)
          have H1 := mv_H_kq H0 K1' (by decide)
          have h211 : (ps_i s1 1131 21).toInt = b := by rw [kq_i K1' 21 rfl]; exact h21
          refine fm_286 (i := i) (p := p) (l := l) (r := r) (h := h) (W := [false]) (lf := rl_l r) (rt := rl_r (arh h.1) r) hb h211 H1.1 (by omega) W1' (H1.2.2.2 i w r hkr).2.2 h2 h1 h60 e63 e64 p1 p2 (by omega) p3 hw1 hlen (fun s2 q2 => ⟨fun _ => ?_, fun y => absurd y (by decide)⟩) (fun s2 q2 => ⟨fun y => absurd rfl y, fun _ => ?_⟩)
          · obtain ⟨e, B, hm, bn, e65, K2⟩ := q2
            have hm : rw_m (arh h.1) l (rw_L (arh h.1) r) p (fun _ => none) = some (e, B) := hm
            have K2' : KR s0 s2 := kqt K1' K2 (by decide) (by decide)
            have W2 := mv_W_kq W0 K2' (by decide)
            have H2 := mv_H_kq H0 K2' (by decide)
            have h212 : (ps_i s2 1131 21).toInt = b := by rw [kq_i K2' 21 rfl]; exact h21
            have hve : e = p + en (arh h.1) (l.drop p) 1 := rw_m_en hA p3 (fun x _ hx => (arh_lo (g := h.1) (c := x)).2.2.2.2 hx) hm
            have hle := en_le hA (k := 1) hw1 hlen
            rw [List.length_drop] at hle
            refine fm_283 h212 hb h2 (by omega) (fun v3 q3 => ?_)
            have K3 : KR s0 (ps_ui s2 1131 34 0) := kqi K2' rfl
            have e64' : (ps_i s2 1131 64).toInt = (rl_r (arh h.1) r : Nat) := by rw [kq_i K2 64 rfl]; exact e64
            refine fm_226 (to := 25789) (a := 0) (b := p) (L := []) (by decide) (by decide) (mv_W_kq W0 K3 (by decide)) mk_M_0 rfl h1 (by omega) (by decide) (fun s4 M4 K4 => ?_)
            rw [List.drop_zero, Nat.sub_zero, List.nil_append] at M4
            have K4' : KR s0 s4 := kqt K3 K4 (by decide) (by decide)
            have hr8 : (ps_i s4 1131 64).toInt = (rl_r (arh h.1) r : Nat) := by rw [kq_i K4 64 rfl]; exact e64'
            refine fm_287_77 (r := r) (i := i) (p := p) (e := e) (rt := rl_r (arh h.1) r) (B := B) (s0 := s4) hb (by omega) (mv_W_kq W0 K4' (by decide)) (mv_H_kq H0 K4' (by decide) |>.2.2.2 i w r hkr).2.2 q3 h60 (fun c2 hc2 h40 => (rw_m_B hm).2 c2 (p6 c2 hc2 h40) h40) (by rw [kq_i K4 65 rfl]; exact e65) (fun k2 hk2 => ?_) (by omega) (fun s5 M5 K5 => ?_) n (L := []) hr8 (Nat.le_refl _) p2 (by rw [List.append_nil]; exact M4) (Nat.zero_le _) rfl kq_refl
            · rw [kq_a K4 1167 (by decide), kq_a K4 1168 (by decide)]
              exact bn k2 hk2
            · exact k1 s5 _ ⟨p, i, hp, ⟨w, r, e, B, hkr, his, hm, rfl⟩, hk, hz⟩ M5 (kqt K4' K5 (by decide) (by decide))
          · obtain ⟨hm, K2⟩ := q2
            have hm : rw_m (arh h.1) l (rw_L (arh h.1) r) p (fun _ => none) = none := hm
            refine next (kqt K1' K2 (by decide) (by decide)) (fun l' a => ?_)
            obtain ⟨w2, r2, e, B, a1, a2, a3, -⟩ := a
            rw [hkr] at a1
            cases a1
            rw [hm] at a3
            cases a3
        · refine next (kqt K q.2 (by decide) (by decide)) (fun l' a => ?_)
          obtain ⟨w2, r2, e, B, a1, a2, -⟩ := a
          rw [hkr] at a1
          cases a1
          exact q.1 a2
theorem fm_287 {n : Nat} (hb : b < 2) (h21 : (ps_i s0 1131 21).toInt = b) (H0 : mv_H s0 b h) (hw : WFt h) (hwl : ws (sg h.1) l [false]) (W0 : mv_W s0 25789 l) (k1 : ∀ s', (∃ l', rw_s h l l' ∧ mk_M s' l' ∧ KR s0 s') → R 1 s') (k0 : ∀ s', (rw_e h l ∧ KR s0 s') → R 0 s') : pl_Cl n 287 [.ref 1131] s0 (ps_rI R) := by
  cases n with
  | zero => exact pl_At_0
  | succ n =>
  show pl_At (n + 1) 287 0 [(0, .ref 1131)] [] s0 (ps_rI R)
  exact pl_287_0 ((fm_287_all hb h21 H0 hw hwl W0 (fun s' l' a c d => k1 s' ⟨l', a, c, d⟩) (fun s' a c => k0 s' ⟨a, c⟩) n).1 (p := 0) rfl (Nat.zero_le _) kq_refl (fun p' hp' => absurd hp' (Nat.not_lt_zero _)))
end R287
/-- how long a row that is made can be -/
theorem rw_r_len {B : Nat → Option (List Nat)} (hB : ∀ k U, B k = some U → U.length ≤ 40) : ∀ {t : List Nat}, (rw_r B t).length ≤ 40 * t.length
  | [] => Nat.zero_le _
  | c :: t => by
    have ih := rw_r_len hB (t := t)
    show ((if 40 ≤ c then (B (c - 40)).getD [] else [c]) ++ rw_r B t).length ≤ _
    rw [List.length_append, List.length_cons]
    have : (if 40 ≤ c then (B (c - 40)).getD [] else [c]).length ≤ 40 := by
      split
      · cases e : B (c - 40) with
        | none => exact Nat.zero_le _
        | some U => exact hB _ U e
      · exact (by decide : 1 ≤ 40)
    omega
def KW8 (s0 s : ps_S) : Prop := kq [1134, 1149, 1150, 1151, 1167, 1168] [34, 63, 64, 65] s0 s ∧ mv_po 25789 s0 s
section R288
variable {b : Nat} {h : tx_H} {l0 : List Nat} {s0 : ps_S} {R : Int32 → ps_S → Prop}
theorem mv_H_po {s s' : ps_S} (hb : b < 2) (H : mv_H s b h) (K : KW8 s s') : mv_H s' b h := by
  have h8 := H.2.2.1
  refine mv_H_V hb H (fun r hr => kq_a K.1 r ?_) (fun r hr => kq_b K.1 r ?_) (fun k h1 h2 => K.2 k (by omega))
  · exact (show ∀ r, r ∈ [1135, 1136, 1137, 1138, 1139] → [1134, 1149, 1150, 1151, 1167, 1168].contains r = false by decide) r hr
  · exact (show ∀ r, r ∈ [1140, 1141, 1142] → [1134, 1149, 1150, 1151, 1167, 1168].contains r = false by decide) r hr
theorem KW8_q {A F : List Nat} {s s' : ps_S} (K : KW8 s0 s) (K' : kq A F s s') (hA : A.all (fun a => [1149, 1150, 1151, 1167, 1168].contains a) = true) (hF : F.all (fun a => [34, 63, 64, 65].contains a) = true) : KW8 s0 s' := by
  have hA2 : A.all (fun a => [1134, 1149, 1150, 1151, 1167, 1168].contains a) = true := by
    rw [List.all_eq_true] at hA ⊢
    intro x hx
    have := hA x hx
    rw [List.contains_iff_mem] at this ⊢
    exact List.mem_cons_of_mem _ this
  have h34 : A.contains 1134 = false := by
    cases e : A.contains 1134 with
    | false => rfl
    | true =>
      rw [List.all_eq_true] at hA
      exact absurd (hA 1134 (List.contains_iff_mem.mp e)) (by decide)
  exact ⟨kqt K.1 K' hA2 hF, fun q hq => by rw [kq_a K' 1134 h34]; exact K.2 q hq⟩
theorem fm_288_51 (hb : b < 2) (h21 : (ps_i s0 1131 21).toInt = b) (H0 : mv_H s0 b h) (hw : WFt h) (k : ∀ (v : Int32) s' nl, rw_A h l0 v.toInt nl → mv_W s' 25789 nl → KW8 s0 s' → R v s') : ∀ (n : Nat) {s : ps_S} {x1 : Int32} {m : Nat} {l : List Nat}, x1.toInt = m → m ≤ 60 → rw_go h m l0 l → ws (sg h.1) l [false] → mv_W s 25789 l → KW8 s0 s → pl_At n 288 51 [(0, .ref 1131), (1, .int x1)] [] s (ps_rI R)
  | 0, _, _, _, _, _, _, _, _, _, _ => pl_At_0
  | n + 1, s, x1, m, l, hx, hm, hg, hl, W, K => by
    have c60 : (60 : Int32).toInt = 60 := by decide
    have hl40 := W.2.1
    have H := mv_H_po hb H0 K
    have h21' : (ps_i s 1131 21).toInt = b := by rw [kq_i K.1 21 rfl]; exact h21
    have spent : ∀ {s' : ps_S} {b' : List Nat}, KW8 s0 s' → rw_s h l b' → (¬ rw_g h b' ∨ m = 60) → R (-2) (ps_ua s' 1134 25789 0) := fun {s' b'} K' hs hbad => by
      refine k _ _ [] (Or.inr ⟨by decide, rfl, m, l, b', hm, hg, hs, hbad⟩) ⟨?_, Nat.zero_le _, fun k c hk => by cases hk⟩ ⟨kqa K'.1 rfl, fun q hq => ?_⟩
      · rw [ps_a_ua, if_pos ⟨rfl, rfl⟩]
        rfl
      · rw [ps_a_ua, if_neg (by omega)]
        exact K'.2 q hq
    refine pl_288_51 ?_
    refine fm_287 hb h21' H hw hl W (fun s1 q => ⟨fun y => absurd y (by decide), fun _ => ?_⟩) (fun s1 q => ⟨fun _ => ?_, fun y => absurd rfl y⟩)
    · obtain ⟨l', hs, M, K1⟩ := q
      have K1' : KW8 s0 s1 := KW8_q K K1 (by decide) (by decide)
      have hl' := rw_s_ws hw hl hs
      refine ⟨fun z => ?_, fun z => ?_⟩
      · have z := xeq z
        intro b1
        rw [xtn (a := 25789) (by decide)]
        exact spent K1' hs (Or.inr (by omega))
      · have z := xne z
        have h211 : (ps_i s1 1131 21).toInt = b := by rw [kq_i K1'.1 21 rfl]; exact h21
        have H1 := mv_H_po hb H0 K1'
        have hlen : l'.length < 100000 := by
          obtain ⟨p, kk, hp, ⟨w, r, e, B, a1, a2, a3, rfl⟩, -, -⟩ := hs
          have hr40 := (hw.2.2 kk w r a1).2.1
          have hBl : ∀ k U, B k = some U → U.length ≤ 40 := by
            have aux : ∀ {t : List Nat} {p e : Nat} {B B' : Nat → Option (List Nat)}, (∀ k U, B k = some U → U.length ≤ 40) → rw_m (arh h.1) l t p B = some (e, B') → ∀ k U, B' k = some U → U.length ≤ 40 := by
              intro t
              induction t with
              | nil =>
                intro p e B B' hB hm
                cases hm
                exact hB
              | cons c t ih =>
                intro p e B B' hB hm
                by_cases h40 : 40 ≤ c
                · cases hBk : B (c - 40) with
                  | none =>
                    rw [rw_m_n h40 hBk] at hm
                    refine ih (fun k U hk => ?_) hm
                    unfold rw_u at hk
                    split at hk
                    · cases hk
                      rw [List.length_take, List.length_drop]
                      omega
                    · exact hB k U hk
                  | some U =>
                    rw [rw_m_s h40 hBk] at hm
                    split at hm
                    · exact ih hB hm
                    · cases hm
                · rw [rw_m_c h40] at hm
                  split at hm
                  · exact ih hB hm
                  · cases hm
            exact aux (fun k U z => by cases z) a3
          have := rw_r_len hBl (t := r.drop (rl_r (arh h.1) r))
          rw [List.length_drop] at this
          unfold rw_n
          rw [List.length_append, List.length_append, List.length_take, List.length_drop]
          omega
        refine fm_228 hb h211 H1.1 M hl' hlen (fun s2 q2 => ⟨fun _ => ?_, fun y => absurd y (by decide)⟩) (fun s2 q2 => ⟨fun y => absurd rfl y, fun _ => ?_⟩)
        · obtain ⟨⟨g1, g2⟩, K2⟩ := q2
          have K2' : KW8 s0 s2 := KW8_q K1' K2 (by decide) (by decide)
          refine fm_229 (to := 25789) (mk_M_kq M K2 (by decide) (by decide)) g1 (by decide) (by decide) (fun s3 W3 K3 P3 => ?_)
          exact fm_288_51 hb h21 H0 hw k n (xj1 hx (by omega)) (by omega) ⟨l, hg, hs, g1, g2⟩ hl' W3 ⟨kqt K2'.1 K3 (by decide) (by decide), fun q hq => (P3 q (by omega)).trans (K2'.2 q hq)⟩
        · intro b1
          rw [xtn (a := 25789) (by decide)]
          exact spent (KW8_q K1' q2.2 (by decide) (by decide)) hs (Or.inl (fun y => q2.1 y))
    · exact k _ s1 l (Or.inl ⟨m, hm, hg, q.1, hx⟩) (mv_W_kq W q.2 (by decide)) (KW8_q K q.2 (by decide) (by decide))
end R288
/-- what rewrite() leaves -/
def mr_p (s s' : ps_S) : Prop := kq [1133, 1134, 1143, 1144, 1145, 1146, 1147, 1148, 1149, 1150, 1151, 1167, 1168] [3, 4, 5, 6, 7, 8, 9, 10, 11, 22, 23, 29, 30, 31, 32, 34, 63, 64, 65] s s' ∧ mv_po 25789 s s'
theorem fm_288_31 {n b : Nat} {s0 s : ps_S} {T : Nat → Nat} {N : Nat} {h : tx_H} {R : Int32 → ps_S → Prop} (hb : b < 2) (h21 : (ps_i s 1131 21).toInt = b) (H : mv_H s b h) (hw : WFt h) (m : mq_ok 25789 0 b h.1 T N s0 s ∨ mq_bad 25789 0 b h.1 T N s0 s) (k : ∀ (v : Int32) s' nl, RWA h T N v nl → mv_W s' 25789 nl → mr_p s0 s' → R v s') : pl_At n 288 31 [(0, .ref 1131)] [] s (ps_rI R) := by
  cases n with
  | zero => exact pl_At_0
  | succ n =>
  refine pl_288_31 ?_
  rcases m with ⟨⟨l, z, W, G⟩, K, P, h3⟩ | ⟨⟨kk, pl, z, hk, e5, e6⟩, K, P, h3⟩
  · refine fm_192 (fun _ => ⟨fun _ => ?_, fun z => absurd z (by decide)⟩) (fun z => absurd G.1 z)
    have hl : ws (sg h.1) l [false] := by
      obtain ⟨p, fr, g, -⟩ := z
      exact (tx_WQ_end hw.2.1 (Or.inl rfl) (Nat.zero_le _) g).1
    refine fm_288_51 (l0 := l) hb h21 H hw (fun v s' nl hA W' K' => ?_) n (m := 0) rfl (Nat.zero_le _) rfl hl W ⟨kq_refl, fun q hq => rfl⟩
    exact k v s' nl (Or.inl ⟨l, z, hA⟩) W' ⟨kqt (kqt kq_refl K (by decide) (by decide)) K'.1 (by decide) (by decide), fun q hq => (K'.2 q hq).trans (P q hq)⟩
  · refine fm_192 (fun z => absurd (z.symm.trans e5) (by omega)) (fun _ => ⟨fun z => absurd rfl z, fun _ => ?_⟩)
    intro b1
    rw [xtn (a := 25789) (by decide)]
    refine k _ _ [] (Or.inr ⟨⟨kk, pl, z⟩, by decide, rfl⟩) ⟨?_, Nat.zero_le _, fun k c hk => by cases hk⟩ ⟨kqa (kqt kq_refl K (by decide) (by decide)) rfl, fun q hq => ?_⟩
    · rw [ps_a_ua, if_pos ⟨rfl, rfl⟩]
      rfl
    · rw [ps_a_ua, if_neg (by omega)]
      exact P q hq
theorem fm_288 {n b : Nat} {s : ps_S} {T : Nat → Nat} {N : Nat} {h : tx_H} {R : Int32 → ps_S → Prop} (hb : b < 2) (h21 : (ps_i s 1131 21).toInt = b) (H : mv_H s b h) (hw : WFt h) (h3 : (ps_i s 1131 3).toInt = N) (hN : N ≤ 1600) (hT : ∀ k, k < N → (ps_a s 1132 k &&& 255).toInt = T k) (k : ∀ (v : Int32) s' nl, RWA h T N v nl → mv_W s' 25789 nl → mr_p s s' → R v s') : pl_Cl n 288 [.ref 1131] s (ps_rI R) := by
  cases n with
  | zero => exact pl_At_0
  | succ n =>
  show pl_At (n + 1) 288 0 [(0, .ref 1131)] [] s (ps_rI R)
  refine pl_288_0 ?_
  refine fm_198 h21 h3 hN hT (fun s1 q1 => ?_)
  obtain ⟨K1, t1, t2, t3, t4, t5, t6⟩ := q1
  have Hk : ∀ {A F : List Nat} {s' : ps_S}, kq A F s s' → mv_po 25789 s s' → A.all (fun a => ![1135, 1136, 1137, 1138, 1139, 1140, 1141, 1142].contains a) = true → mv_H s' b h := fun {A F s'} K P hA => by
    rw [List.all_eq_true] at hA
    have hn : ∀ r, r ∈ [1135, 1136, 1137, 1138, 1139, 1140, 1141, 1142] → A.contains r = false := fun r hr => by
      cases e : A.contains r with
      | false => rfl
      | true =>
        have z := hA r (List.contains_iff_mem.mp e)
        rw [List.contains_iff_mem.mpr hr] at z
        exact absurd z (by decide)
    refine mv_H_V hb H (fun r hr => kq_a K r (hn r ?_)) (fun r hr => kq_b K r (hn r ?_)) (fun q h1 h2 => P q (by omega))
    · exact (show ∀ r, r ∈ [1135, 1136, 1137, 1138, 1139] → r ∈ [1135, 1136, 1137, 1138, 1139, 1140, 1141, 1142] by decide) r hr
    · exact (show ∀ r, r ∈ [1140, 1141, 1142] → r ∈ [1135, 1136, 1137, 1138, 1139, 1140, 1141, 1142] by decide) r hr
  refine fm_209u (to := 25789) (rb := b) (ph := 0) (E := (h.1, false)) (p := 0) (fr := []) (by decide) (Or.inl ⟨by decide, rfl⟩) rfl hb t5 t1 (mv_E_kq H.1 K1 (by decide)) (Nat.zero_le _) t2 ⟨t4, Nat.zero_le _, fun k w z => by cases z⟩ t3 (fun s10 q10 => ?_)
  have fin : ∀ {s' : ps_S}, (mq_ok 25789 0 b h.1 T N s s' ∨ mq_bad 25789 0 b h.1 T N s s') → pl_At n 288 31 [(0, .ref 1131)] [] s' (ps_rI R) := fun {s'} m => by
    have hK : kq [1133, 1134, 1143, 1144, 1145, 1146, 1147, 1148] [3, 4, 5, 6, 7, 8, 9, 10, 11, 22, 23, 29, 30, 31, 32] s s' ∧ mv_po 25789 s s' := by
      rcases m with ⟨-, K, P, -⟩ | ⟨-, K, P, -⟩
      · exact ⟨K, P⟩
      · exact ⟨K, P⟩
    exact fm_288_31 hb (by rw [kq_i hK.1 21 rfl]; exact h21) (Hk hK.1 hK.2 (by decide)) hw m k
  refine fm_192 (fun q14 => ?_) (fun q14 => ?_)
  · refine ⟨fun h17 => absurd h17 (by decide), fun h17 => ⟨fun h24 => ?_, fun h24 => ?_⟩⟩
    · have h24 : (ps_i s10 1131 9).toInt = (0 : Int) := xeq h24
      rcases q10 with ⟨p', l', fr', g1, g2, g3, g4⟩ | ⟨S', pl, l', fr', k, g1, g2, g3, g4, g5⟩
      · have h0 : (tx_tok T N p').1 = 0 := by have := g3.2.2.1.1; omega
        exact fin (Or.inl ⟨⟨l', ⟨p', fr', g1, h0⟩, g3.2.2.2.2.2.2.1, g3.2.2.2.2.2.2.2.2⟩, kqt (kqt kq_refl K1 (by decide) (by decide)) g4.1 (by decide) (by decide), fun i hi => (g4.2 i hi).trans (by rw [kq_a K1 1134 (by decide)]), by rw [kq_i g4.1 3 (by decide)]; exact t6⟩)
      · exfalso; omega
    · have h24 : (ps_i s10 1131 9).toInt ≠ (0 : Int) := xne h24
      refine fm_196v q14 (fun s28 q28 => ?_)
      rcases q10 with ⟨p', l', fr', g1, g2, g3, g4⟩ | ⟨S', pl, l', fr', k, g1, g2, g3, g4, g5⟩
      · have h0 : (tx_tok T N p').1 ≠ 0 := by have := g3.2.2.1.1; omega
        have J := q28 _ g3.2.2.1
        exact fin (Or.inr ⟨⟨_, _, Or.inr ⟨p', l', fr', g1, h0, rfl, rfl⟩, (by unfold tx_bk; split <;> decide), J.1, J.2.1⟩, kqt (kqt (kqt kq_refl K1 (by decide) (by decide)) g4.1 (by decide) (by decide)) J.2.2 (by decide) (by decide), fun i hi => (by rw [kq_a J.2.2 1134 (by decide), g4.2 i hi, kq_a K1 1134 (by decide)]), by rw [kq_i J.2.2 3 (by decide), kq_i g4.1 3 (by decide)]; exact t6⟩)
      · exfalso; omega
  · refine ⟨fun h17 => ?_, fun h17 => absurd h17 (by decide)⟩
    rcases q10 with ⟨p', l', fr', g1, g2, g3, g4⟩ | ⟨S', pl, l', fr', k, g1, g2, g3, g4, g5⟩
    · exact absurd g3.2.2.2.2.2.2.2.2.1 q14
    · exact fin (Or.inr ⟨⟨k, pl, Or.inl ⟨S', l', fr', g1⟩, g2, g3, g4⟩, kqt (kqt kq_refl K1 (by decide) (by decide)) g5.1 (by decide) (by decide), fun i hi => (g5.2 i hi).trans (by rw [kq_a K1 1134 (by decide)]), by rw [kq_i g5.1 3 (by decide)]; exact t6⟩)
theorem fm_289 {n : Nat} {x1 : Int32} {s : ps_S} {l : List Nat} {R : Int32 → ps_S → Prop} (hW : mv_W s 25789 l) (k : ∀ v : Int32, pc_is l x1 v → R v s) : pl_Cl n 289 [.ref 1131, .int x1] s (ps_rI R) := by
  cases n with
  | zero => exact pl_At_0
  | succ n =>
  show pl_At (n + 1) 289 0 [(0, .ref 1131), (1, .int x1)] [] s (ps_rI R)
  refine pl_289_0 ?_
  exact fm_264 (to := 25789) (by decide) (by decide) hW k

