set_option maxRecDepth 100000
/-! the reference: small methods of proofs; a term put into a row; what is assumed, as it is gathered -/
-- ProofBenchModel.areAlike(II)Z
theorem pl_222_0 {n : Nat} {x1 : Int32} {x2 : Int32} {s : ps_S} {Q : Option Value → ps_S → Prop} (h :
  pl_Cl n 219 [.ref 1131, .int x1] s (ps_rI (fun v1 s1 =>
    pl_Cl n 219 [.ref 1131, .int x2] s1 (ps_rI (fun v2 s2 =>
      (v1 = v2 →
        pl_At n 222 17 [(0, .ref 1131), (1, .int x1), (2, .int x2), (3, .int 0)] [] s2 Q) ∧
      (v1 ≠ v2 →
        Q (some (.int 0)) s2)))))) : pl_At (n + 1) 222 0 [(0, .ref 1131), (1, .int x1), (2, .int x2)] [] s Q :=
  pl_wp_at (stops := [(17, [0, 1, 2, 3])]) (f := 13) h rfl

theorem pl_222_17 {n : Nat} {x1 : Int32} {x2 : Int32} {x3 : Int32} {s : ps_S} {Q : Option Value → ps_S → Prop} (h :
  pl_Cl n 219 [.ref 1131, .int x1] s (ps_rI (fun v1 s1 =>
    (v1 ≤ x3 →
      Q (some (.int 1)) s1) ∧
    (x3 < v1 →
      pl_Cl n 220 [.ref 1131, .int x1, .int x3] s1 (ps_rI (fun v2 s2 =>
        pl_Cl n 220 [.ref 1131, .int x2, .int x3] s2 (ps_rI (fun v3 s3 =>
          (v2 = v3 →
            pl_At n 222 17 [(0, .ref 1131), (1, .int x1), (2, .int x2), (3, .int (x3 + 1))] [] s3 Q) ∧
          (v2 ≠ v3 →
            Q (some (.int 0)) s3))))))))) : pl_At (n + 1) 222 17 [(0, .ref 1131), (1, .int x1), (2, .int x2), (3, .int x3)] [] s Q :=
  pl_wp_at (stops := [(17, [0, 1, 2, 3])]) (f := 22) h rfl

-- ProofBenchModel.isFree(II)Z
theorem pl_223_0 {n : Nat} {x1 : Int32} {x2 : Int32} {s : ps_S} {Q : Option Value → ps_S → Prop} (h :
  pl_At n 223 2 [(0, .ref 1131), (1, .int x1), (2, .int x2), (3, .int 0)] [] s Q) : pl_At (n + 1) 223 0 [(0, .ref 1131), (1, .int x1), (2, .int x2)] [] s Q :=
  pl_wp_at (stops := [(2, [0, 1, 2, 3])]) (f := 4) h rfl

theorem pl_223_2 {n : Nat} {x1 : Int32} {x2 : Int32} {x3 : Int32} {s : ps_S} {Q : Option Value → ps_S → Prop} (h :
  pl_Cl n 219 [.ref 1131, .int x1] s (ps_rI (fun v1 s1 =>
    (v1 ≤ x3 →
      Q (some (.int 0)) s1) ∧
    (x3 < v1 →
      pl_Cl n 220 [.ref 1131, .int x1, .int x3] s1 (ps_rI (fun v2 s2 =>
        (v2 ≠ ((60 : Int32) + x2) →
          pl_At n 223 2 [(0, .ref 1131), (1, .int x1), (2, .int x2), (3, .int (x3 + 1))] [] s2 Q) ∧
        (v2 = ((60 : Int32) + x2) →
          Q (some (.int 1)) s2))))))) : pl_At (n + 1) 223 2 [(0, .ref 1131), (1, .int x1), (2, .int x2), (3, .int x3)] [] s Q :=
  pl_wp_at (stops := [(2, [0, 1, 2, 3])]) (f := 21) h rfl

-- ProofBenchModel.copyRow(II)V
theorem pl_224_0 {n : Nat} {x1 : Int32} {x2 : Int32} {s : ps_S} {Q : Option Value → ps_S → Prop} (h :
  pl_At n 224 2 [(0, .ref 1131), (1, .int x1), (2, .int x2), (3, .int 0)] [] s Q) : pl_At (n + 1) 224 0 [(0, .ref 1131), (1, .int x1), (2, .int x2)] [] s Q :=
  pl_wp_at (stops := [(2, [0, 1, 2, 3])]) (f := 4) h rfl

theorem pl_224_2 {n : Nat} {x1 : Int32} {x2 : Int32} {x3 : Int32} {s : ps_S} {Q : Option Value → ps_S → Prop} (h :
  (pm_in x1 27400 = true →
    ((ps_a s 1134 (Int32.toNatClampNeg x1)) < x3 →
      Q none s) ∧
    (x3 ≤ (ps_a s 1134 (Int32.toNatClampNeg x1)) →
      (pm_in (x1 + x3) 27400 = true →
        (pm_in (x2 + x3) 27400 = true →
          pl_At n 224 2 [(0, .ref 1131), (1, .int x1), (2, .int x2), (3, .int (x3 + 1))] [] (ps_ua s 1134 (Int32.toNatClampNeg (x2 + x3)) (ps_a s 1134 (Int32.toNatClampNeg (x1 + x3)))) Q))))) : pl_At (n + 1) 224 2 [(0, .ref 1131), (1, .int x1), (2, .int x2), (3, .int x3)] [] s Q :=
  pl_wp_at (stops := [(2, [0, 1, 2, 3])]) (f := 23) h rfl

-- ProofBenchModel.makeRow(I)V
theorem pl_227_0 {n : Nat} {x1 : Int32} {s : ps_S} {Q : Option Value → ps_S → Prop} (h :
  pl_Cl n 219 [.ref 1131, .int x1] s (ps_rI (fun v1 s1 =>
    pl_Cl n 226 [.ref 1131, .int x1, .int 0, .int v1] s1 (ps_rV (fun s2 =>
      Q none s2))))) : pl_At (n + 1) 227 0 [(0, .ref 1131), (1, .int x1)] [] s Q :=
  pl_wp_at (stops := []) (f := 10) h rfl

-- ProofBenchModel.isMade(I)Z
theorem pl_230_0 {n : Nat} {x1 : Int32} {s : ps_S} {Q : Option Value → ps_S → Prop} (h :
  pl_Cl n 219 [.ref 1131, .int x1] s (ps_rI (fun v1 s1 =>
    (v1 = (ps_i s1 1131 34) →
      pl_At n 230 16 [(0, .ref 1131), (1, .int x1), (2, .int 0)] [] s1 Q) ∧
    (v1 ≠ (ps_i s1 1131 34) →
      Q (some (.int 0)) s1)))) : pl_At (n + 1) 230 0 [(0, .ref 1131), (1, .int x1)] [] s Q :=
  pl_wp_at (stops := [(16, [0, 1, 2])]) (f := 12) h rfl

theorem pl_230_16 {n : Nat} {x1 : Int32} {x2 : Int32} {s : ps_S} {Q : Option Value → ps_S → Prop} (h :
  ((ps_i s 1131 34) ≤ x2 →
    Q (some (.int 1)) s) ∧
  (x2 < (ps_i s 1131 34) →
    pl_Cl n 220 [.ref 1131, .int x1, .int x2] s (ps_rI (fun v1 s1 =>
      (pm_in x2 260 = true →
        (v1 = (ps_a s1 1149 (Int32.toNatClampNeg x2)) →
          pl_At n 230 16 [(0, .ref 1131), (1, .int x1), (2, .int (x2 + 1))] [] s1 Q) ∧
        (v1 ≠ (ps_a s1 1149 (Int32.toNatClampNeg x2)) →
          Q (some (.int 0)) s1)))))) : pl_At (n + 1) 230 16 [(0, .ref 1131), (1, .int x1), (2, .int x2)] [] s Q :=
  pl_wp_at (stops := [(16, [0, 1, 2])]) (f := 21) h rfl

-- ProofBenchModel.putIn(III)V
theorem pl_231_0 {n : Nat} {x1 : Int32} {x2 : Int32} {x3 : Int32} {s : ps_S} {Q : Option Value → ps_S → Prop} (h :
  pl_At n 231 6 [(0, .ref 1131), (1, .int x1), (2, .int x2), (3, .int x3), (4, .int 0), (5, .int 1)] [] s Q) : pl_At (n + 1) 231 0 [(0, .ref 1131), (1, .int x1), (2, .int x2), (3, .int x3)] [] s Q :=
  pl_wp_at (stops := [(6, [0, 1, 2, 3, 4, 5]), (16, [0, 1, 2, 3, 4, 5]), (41, [0, 1, 2, 3, 4, 5]), (89, [0, 1, 2, 3, 4, 5, 6]), (101, [0, 1, 2, 3, 4, 5])]) (f := 6) h rfl

theorem pl_231_6 {n : Nat} {x1 : Int32} {x2 : Int32} {x3 : Int32} {x4 : Int32} {x5 : Int32} {s : ps_S} {Q : Option Value → ps_S → Prop} (h :
  pl_Cl n 219 [.ref 1131, .int x1] s (ps_rI (fun v1 s1 =>
    (v1 ≤ x5 →
      Q none s1) ∧
    (x5 < v1 →
      pl_At n 231 16 [(0, .ref 1131), (1, .int x1), (2, .int x2), (3, .int x3), (4, .int x4), (5, .int x5)] [] s1 Q)))) : pl_At (n + 1) 231 6 [(0, .ref 1131), (1, .int x1), (2, .int x2), (3, .int x3), (4, .int x4), (5, .int x5)] [] s Q :=
  pl_wp_at (stops := [(6, [0, 1, 2, 3, 4, 5]), (16, [0, 1, 2, 3, 4, 5]), (41, [0, 1, 2, 3, 4, 5]), (89, [0, 1, 2, 3, 4, 5, 6]), (101, [0, 1, 2, 3, 4, 5])]) (f := 8) h rfl

theorem pl_231_16 {n : Nat} {x1 : Int32} {x2 : Int32} {x3 : Int32} {x4 : Int32} {x5 : Int32} {s : ps_S} {Q : Option Value → ps_S → Prop} (h :
  (x4 ≤ 0 →
    pl_At n 231 41 [(0, .ref 1131), (1, .int x1), (2, .int x2), (3, .int x3), (4, .int x4), (5, .int x5)] [] s Q) ∧
  (0 < x4 →
    (pm_in (x4 - 1) 260 = true →
      (x5 < (ps_a s 1150 (Int32.toNatClampNeg (x4 - 1))) →
        pl_At n 231 41 [(0, .ref 1131), (1, .int x1), (2, .int x2), (3, .int x3), (4, .int x4), (5, .int x5)] [] s Q) ∧
      ((ps_a s 1150 (Int32.toNatClampNeg (x4 - 1))) ≤ x5 →
        pl_At n 231 16 [(0, .ref 1131), (1, .int x1), (2, .int x2), (3, .int x3), (4, .int (x4 + (Int32.ofInt (-1)))), (5, .int x5)] [] s Q)))) : pl_At (n + 1) 231 16 [(0, .ref 1131), (1, .int x1), (2, .int x2), (3, .int x3), (4, .int x4), (5, .int x5)] [] s Q :=
  pl_wp_at (stops := [(6, [0, 1, 2, 3, 4, 5]), (16, [0, 1, 2, 3, 4, 5]), (41, [0, 1, 2, 3, 4, 5]), (89, [0, 1, 2, 3, 4, 5, 6]), (101, [0, 1, 2, 3, 4, 5])]) (f := 14) h rfl

theorem pl_231_41 {n : Nat} {x1 : Int32} {x2 : Int32} {x3 : Int32} {x4 : Int32} {x5 : Int32} {s : ps_S} {Q : Option Value → ps_S → Prop} (h :
  pl_Cl n 220 [.ref 1131, .int x1, .int x5] s (ps_rI (fun v1 s1 =>
    (v1 ≠ ((40 : Int32) + x4) →
      pl_Cl n 225 [.ref 1131, .int v1] s1 (ps_rV (fun s2 =>
        pl_At n 231 89 [(0, .ref 1131), (1, .int x1), (2, .int x2), (3, .int x3), (4, .int x4), (5, .int x5), (6, .int v1)] [] s2 Q))) ∧
    (v1 = ((40 : Int32) + x4) →
      (x2 < 0 →
        pl_Cl n 225 [.ref 1131, .int ((60 : Int32) + x3)] s1 (ps_rV (fun s3 =>
          pl_At n 231 89 [(0, .ref 1131), (1, .int x1), (2, .int x2), (3, .int x3), (4, .int x4), (5, .int x5), (6, .int v1)] [] s3 Q))) ∧
      (0 ≤ x2 →
        pl_Cl n 227 [.ref 1131, .int x2] s1 (ps_rV (fun s4 =>
          pl_At n 231 89 [(0, .ref 1131), (1, .int x1), (2, .int x2), (3, .int x3), (4, .int x4), (5, .int x5), (6, .int v1)] [] s4 Q))))))) : pl_At (n + 1) 231 41 [(0, .ref 1131), (1, .int x1), (2, .int x2), (3, .int x3), (4, .int x4), (5, .int x5)] [] s Q :=
  pl_wp_at (stops := [(6, [0, 1, 2, 3, 4, 5]), (16, [0, 1, 2, 3, 4, 5]), (41, [0, 1, 2, 3, 4, 5]), (89, [0, 1, 2, 3, 4, 5, 6]), (101, [0, 1, 2, 3, 4, 5])]) (f := 27) h rfl

theorem pl_231_89 {n : Nat} {x1 : Int32} {x2 : Int32} {x3 : Int32} {x4 : Int32} {x5 : Int32} {x6 : Int32} {s : ps_S} {Q : Option Value → ps_S → Prop} (h :
  (x6 = 4 →
    pl_At n 231 101 [(0, .ref 1131), (1, .int x1), (2, .int x2), (3, .int x3), (4, .int x4), (5, .int x5)] [] s Q) ∧
  (x6 ≠ 4 →
    (x6 ≠ 5 →
      pl_At n 231 6 [(0, .ref 1131), (1, .int x1), (2, .int x2), (3, .int x3), (4, .int x4), (5, .int (x5 + 1))] [] s Q) ∧
    (x6 = 5 →
      pl_At n 231 101 [(0, .ref 1131), (1, .int x1), (2, .int x2), (3, .int x3), (4, .int x4), (5, .int x5)] [] s Q))) : pl_At (n + 1) 231 89 [(0, .ref 1131), (1, .int x1), (2, .int x2), (3, .int x3), (4, .int x4), (5, .int x5), (6, .int x6)] [] s Q :=
  pl_wp_at (stops := [(6, [0, 1, 2, 3, 4, 5]), (16, [0, 1, 2, 3, 4, 5]), (41, [0, 1, 2, 3, 4, 5]), (89, [0, 1, 2, 3, 4, 5, 6]), (101, [0, 1, 2, 3, 4, 5])]) (f := 10) h rfl

theorem pl_231_101 {n : Nat} {x1 : Int32} {x2 : Int32} {x3 : Int32} {x4 : Int32} {x5 : Int32} {s : ps_S} {Q : Option Value → ps_S → Prop} (h :
  pl_Cl n 221 [.ref 1131, .int x1, .int x5] s (ps_rI (fun v1 s1 =>
    (pm_in x4 260 = true →
      pl_At n 231 6 [(0, .ref 1131), (1, .int x1), (2, .int x2), (3, .int x3), (4, .int (x4 + 1)), (5, .int (x5 + 1))] [] (ps_ua s1 1150 (Int32.toNatClampNeg x4) v1) Q)))) : pl_At (n + 1) 231 101 [(0, .ref 1131), (1, .int x1), (2, .int x2), (3, .int x3), (4, .int x4), (5, .int x5)] [] s Q :=
  pl_wp_at (stops := [(6, [0, 1, 2, 3, 4, 5]), (16, [0, 1, 2, 3, 4, 5]), (41, [0, 1, 2, 3, 4, 5]), (89, [0, 1, 2, 3, 4, 5, 6]), (101, [0, 1, 2, 3, 4, 5])]) (f := 13) h rfl

-- ProofBenchModel.makeGeneral(II)V
theorem pl_232_0 {n : Nat} {x1 : Int32} {x2 : Int32} {s : ps_S} {Q : Option Value → ps_S → Prop} (h :
  pl_Cl n 225 [.ref 1131, .int 4] s (ps_rV (fun s1 =>
    pl_At n 232 10 [(0, .ref 1131), (1, .int x1), (2, .int x2), (3, .int 0), (4, .int 0)] [] s1 Q))) : pl_At (n + 1) 232 0 [(0, .ref 1131), (1, .int x1), (2, .int x2)] [] s Q :=
  pl_wp_at (stops := [(10, [0, 1, 2, 3, 4]), (20, [0, 1, 2, 3, 4]), (43, [0, 1, 2, 3, 4]), (86, [0, 1, 2, 3, 4])]) (f := 9) h rfl

theorem pl_232_10 {n : Nat} {x1 : Int32} {x2 : Int32} {x3 : Int32} {x4 : Int32} {s : ps_S} {Q : Option Value → ps_S → Prop} (h :
  pl_Cl n 219 [.ref 1131, .int x1] s (ps_rI (fun v1 s1 =>
    (v1 ≤ x4 →
      Q none s1) ∧
    (x4 < v1 →
      pl_At n 232 20 [(0, .ref 1131), (1, .int x1), (2, .int x2), (3, .int x3), (4, .int x4)] [] s1 Q)))) : pl_At (n + 1) 232 10 [(0, .ref 1131), (1, .int x1), (2, .int x2), (3, .int x3), (4, .int x4)] [] s Q :=
  pl_wp_at (stops := [(10, [0, 1, 2, 3, 4]), (20, [0, 1, 2, 3, 4]), (43, [0, 1, 2, 3, 4]), (86, [0, 1, 2, 3, 4])]) (f := 8) h rfl

theorem pl_232_20 {n : Nat} {x1 : Int32} {x2 : Int32} {x3 : Int32} {x4 : Int32} {s : ps_S} {Q : Option Value → ps_S → Prop} (h :
  (x3 ≤ 0 →
    pl_At n 232 43 [(0, .ref 1131), (1, .int x1), (2, .int x2), (3, .int x3), (4, .int x4)] [] s Q) ∧
  (0 < x3 →
    (pm_in (x3 - 1) 260 = true →
      (x4 < (ps_a s 1150 (Int32.toNatClampNeg (x3 - 1))) →
        pl_At n 232 43 [(0, .ref 1131), (1, .int x1), (2, .int x2), (3, .int x3), (4, .int x4)] [] s Q) ∧
      ((ps_a s 1150 (Int32.toNatClampNeg (x3 - 1))) ≤ x4 →
        pl_At n 232 20 [(0, .ref 1131), (1, .int x1), (2, .int x2), (3, .int (x3 + (Int32.ofInt (-1)))), (4, .int x4)] [] s Q)))) : pl_At (n + 1) 232 20 [(0, .ref 1131), (1, .int x1), (2, .int x2), (3, .int x3), (4, .int x4)] [] s Q :=
  pl_wp_at (stops := [(10, [0, 1, 2, 3, 4]), (20, [0, 1, 2, 3, 4]), (43, [0, 1, 2, 3, 4]), (86, [0, 1, 2, 3, 4])]) (f := 14) h rfl

theorem pl_232_43 {n : Nat} {x1 : Int32} {x2 : Int32} {x3 : Int32} {x4 : Int32} {s : ps_S} {Q : Option Value → ps_S → Prop} (h :
  pl_Cl n 220 [.ref 1131, .int x1, .int x4] s (ps_rI (fun v1 s1 =>
    (v1 ≠ ((60 : Int32) + x2) →
      pl_Cl n 225 [.ref 1131, .int v1] s1 (ps_rV (fun s2 =>
        (v1 = 4 →
          pl_At n 232 86 [(0, .ref 1131), (1, .int x1), (2, .int x2), (3, .int x3), (4, .int x4)] [] s2 Q) ∧
        (v1 ≠ 4 →
          (v1 ≠ 5 →
            pl_At n 232 10 [(0, .ref 1131), (1, .int x1), (2, .int x2), (3, .int x3), (4, .int (x4 + 1))] [] s2 Q) ∧
          (v1 = 5 →
            pl_At n 232 86 [(0, .ref 1131), (1, .int x1), (2, .int x2), (3, .int x3), (4, .int x4)] [] s2 Q))))) ∧
    (v1 = ((60 : Int32) + x2) →
      pl_Cl n 225 [.ref 1131, .int ((40 : Int32) + x3)] s1 (ps_rV (fun s3 =>
        (v1 = 4 →
          pl_At n 232 86 [(0, .ref 1131), (1, .int x1), (2, .int x2), (3, .int x3), (4, .int x4)] [] s3 Q) ∧
        (v1 ≠ 4 →
          (v1 ≠ 5 →
            pl_At n 232 10 [(0, .ref 1131), (1, .int x1), (2, .int x2), (3, .int x3), (4, .int (x4 + 1))] [] s3 Q) ∧
          (v1 = 5 →
            pl_At n 232 86 [(0, .ref 1131), (1, .int x1), (2, .int x2), (3, .int x3), (4, .int x4)] [] s3 Q)))))))) : pl_At (n + 1) 232 43 [(0, .ref 1131), (1, .int x1), (2, .int x2), (3, .int x3), (4, .int x4)] [] s Q :=
  pl_wp_at (stops := [(10, [0, 1, 2, 3, 4]), (20, [0, 1, 2, 3, 4]), (43, [0, 1, 2, 3, 4]), (86, [0, 1, 2, 3, 4])]) (f := 36) h rfl

theorem pl_232_86 {n : Nat} {x1 : Int32} {x2 : Int32} {x3 : Int32} {x4 : Int32} {s : ps_S} {Q : Option Value → ps_S → Prop} (h :
  pl_Cl n 221 [.ref 1131, .int x1, .int x4] s (ps_rI (fun v1 s1 =>
    (pm_in x3 260 = true →
      pl_At n 232 10 [(0, .ref 1131), (1, .int x1), (2, .int x2), (3, .int (x3 + 1)), (4, .int (x4 + 1))] [] (ps_ua s1 1150 (Int32.toNatClampNeg x3) v1) Q)))) : pl_At (n + 1) 232 86 [(0, .ref 1131), (1, .int x1), (2, .int x2), (3, .int x3), (4, .int x4)] [] s Q :=
  pl_wp_at (stops := [(10, [0, 1, 2, 3, 4]), (20, [0, 1, 2, 3, 4]), (43, [0, 1, 2, 3, 4]), (86, [0, 1, 2, 3, 4])]) (f := 13) h rfl

-- ProofBenchModel.because(I)V
theorem pl_241_0 {n : Nat} {x1 : Int32} {s : ps_S} {Q : Option Value → ps_S → Prop} (h :
  ((ps_i s 1131 50) = 0 →
    Q none (ps_ui s 1131 50 x1)) ∧
  ((ps_i s 1131 50) ≠ 0 →
    ((ps_i s 1131 50) ≤ x1 →
      Q none s) ∧
    (x1 < (ps_i s 1131 50) →
      Q none (ps_ui s 1131 50 x1)))) : pl_At (n + 1) 241 0 [(0, .ref 1131), (1, .int x1)] [] s Q :=
  pl_wp_at (stops := []) (f := 18) h rfl

-- ProofBenchModel.stepRow(I)I
theorem pl_242_0 {n : Nat} {x0 : Int32} {s : ps_S} {Q : Option Value → ps_S → Prop} (h :
  Q (some (.int ((0 : Int32) + ((41 : Int32) * x0)))) s) : pl_At (n + 1) 242 0 [(0, .int x0)] [] s Q :=
  pl_wp_at (stops := []) (f := 8) h rfl

-- ProofBenchModel.assumedRow(II)I
theorem pl_243_0 {n : Nat} {x0 : Int32} {x1 : Int32} {s : ps_S} {Q : Option Value → ps_S → Prop} (h :
  Q (some (.int ((1640 : Int32) + ((41 : Int32) * (((12 : Int32) * x0) + x1))))) s) : pl_At (n + 1) 243 0 [(0, .int x0), (1, .int x1)] [] s Q :=
  pl_wp_at (stops := []) (f := 12) h rfl

-- ProofBenchModel.first(I)I
theorem pl_244_0 {n : Nat} {x1 : Int32} {s : ps_S} {Q : Option Value → ps_S → Prop} (h :
  (pm_in x1 40 = true →
    pl_Cl n 242 [.int (ps_a s 1153 (Int32.toNatClampNeg x1))] s (ps_rI (fun v1 s1 =>
      Q (some (.int v1)) s1)))) : pl_At (n + 1) 244 0 [(0, .ref 1131), (1, .int x1)] [] s Q :=
  pl_wp_at (stops := []) (f := 8) h rfl

-- ProofBenchModel.second(I)I
theorem pl_245_0 {n : Nat} {x1 : Int32} {s : ps_S} {Q : Option Value → ps_S → Prop} (h :
  (pm_in x1 40 = true →
    pl_Cl n 242 [.int (ps_a s 1154 (Int32.toNatClampNeg x1))] s (ps_rI (fun v1 s1 =>
      Q (some (.int v1)) s1)))) : pl_At (n + 1) 245 0 [(0, .ref 1131), (1, .int x1)] [] s Q :=
  pl_wp_at (stops := []) (f := 8) h rfl

-- ProofBenchModel.third(I)I
theorem pl_246_0 {n : Nat} {x1 : Int32} {s : ps_S} {Q : Option Value → ps_S → Prop} (h :
  (pm_in x1 40 = true →
    pl_Cl n 242 [.int (ps_a s 1155 (Int32.toNatClampNeg x1))] s (ps_rI (fun v1 s1 =>
      Q (some (.int v1)) s1)))) : pl_At (n + 1) 246 0 [(0, .ref 1131), (1, .int x1)] [] s Q :=
  pl_wp_at (stops := []) (f := 8) h rfl

-- ProofBenchModel.headOf(I)I
theorem pl_247_0 {n : Nat} {x1 : Int32} {s : ps_S} {Q : Option Value → ps_S → Prop} (h :
  pl_Cl n 220 [.ref 1131, .int x1, .int 0] s (ps_rI (fun v1 s1 =>
    Q (some (.int v1)) s1))) : pl_At (n + 1) 247 0 [(0, .ref 1131), (1, .int x1)] [] s Q :=
  pl_wp_at (stops := []) (f := 7) h rfl

-- ProofBenchModel.assumeRow(II)V
theorem pl_248_0 {n : Nat} {x1 : Int32} {x2 : Int32} {s : ps_S} {Q : Option Value → ps_S → Prop} (h :
  pl_At n 248 2 [(0, .ref 1131), (1, .int x1), (2, .int x2), (3, .int 0)] [] s Q) : pl_At (n + 1) 248 0 [(0, .ref 1131), (1, .int x1), (2, .int x2)] [] s Q :=
  pl_wp_at (stops := [(2, [0, 1, 2, 3]), (36, [0, 1, 2])]) (f := 4) h rfl

theorem pl_248_2 {n : Nat} {x1 : Int32} {x2 : Int32} {x3 : Int32} {s : ps_S} {Q : Option Value → ps_S → Prop} (h :
  ((ps_i s 1131 51) ≤ x3 →
    pl_At n 248 36 [(0, .ref 1131), (1, .int x1), (2, .int x2)] [] s Q) ∧
  (x3 < (ps_i s 1131 51) →
    (12 ≤ x3 →
      pl_At n 248 36 [(0, .ref 1131), (1, .int x1), (2, .int x2)] [] s Q) ∧
    (x3 < 12 →
      pl_Cl n 243 [.int x1, .int x3] s (ps_rI (fun v1 s1 =>
        pl_Cl n 222 [.ref 1131, .int v1, .int x2] s1 (ps_rI (fun v2 s2 =>
          (v2 = 0 →
            pl_At n 248 2 [(0, .ref 1131), (1, .int x1), (2, .int x2), (3, .int (x3 + 1))] [] s2 Q) ∧
          (v2 ≠ 0 →
            Q none s2)))))))) : pl_At (n + 1) 248 2 [(0, .ref 1131), (1, .int x1), (2, .int x2), (3, .int x3)] [] s Q :=
  pl_wp_at (stops := [(2, [0, 1, 2, 3]), (36, [0, 1, 2])]) (f := 19) h rfl

theorem pl_248_36 {n : Nat} {x1 : Int32} {x2 : Int32} {s : ps_S} {Q : Option Value → ps_S → Prop} (h :
  (12 ≤ (ps_i s 1131 51) →
    Q none (ps_ui s 1131 51 ((ps_i s 1131 51) + 1))) ∧
  ((ps_i s 1131 51) < 12 →
    pl_Cl n 243 [.int x1, .int (ps_i s 1131 51)] s (ps_rI (fun v1 s1 =>
      pl_Cl n 224 [.ref 1131, .int x2, .int v1] s1 (ps_rV (fun s2 =>
        Q none (ps_ui s2 1131 51 ((ps_i s2 1131 51) + 1)))))))) : pl_At (n + 1) 248 36 [(0, .ref 1131), (1, .int x1), (2, .int x2)] [] s Q :=
  pl_wp_at (stops := [(2, [0, 1, 2, 3]), (36, [0, 1, 2])]) (f := 27) h rfl

-- ProofBenchModel.assumeFrom(IIZ)V
theorem pl_249_0 {n : Nat} {x1 : Int32} {x2 : Int32} {x3 : Int32} {s : ps_S} {Q : Option Value → ps_S → Prop} (h :
  pl_At n 249 3 [(0, .ref 1131), (1, .int x1), (2, .int x2), (3, .int x3), (4, .int 0)] [] s Q) : pl_At (n + 1) 249 0 [(0, .ref 1131), (1, .int x1), (2, .int x2), (3, .int x3)] [] s Q :=
  pl_wp_at (stops := [(3, [0, 1, 2, 3, 4]), (31, [0, 1, 2, 3, 4])]) (f := 4) h rfl

theorem pl_249_3 {n : Nat} {x1 : Int32} {x2 : Int32} {x3 : Int32} {x4 : Int32} {s : ps_S} {Q : Option Value → ps_S → Prop} (h :
  (pm_in x2 41 = true →
    ((ps_a s 1157 (Int32.toNatClampNeg x2)) ≤ x4 →
      Q none s) ∧
    (x4 < (ps_a s 1157 (Int32.toNatClampNeg x2)) →
      (x3 = 0 →
        pl_At n 249 31 [(0, .ref 1131), (1, .int x1), (2, .int x2), (3, .int x3), (4, .int x4)] [] s Q) ∧
      (x3 ≠ 0 →
        pl_Cl n 243 [.int x2, .int x4] s (ps_rI (fun v1 s1 =>
          pl_Cl n 230 [.ref 1131, .int v1] s1 (ps_rI (fun v2 s2 =>
            (v2 ≠ 0 →
              pl_At n 249 3 [(0, .ref 1131), (1, .int x1), (2, .int x2), (3, .int x3), (4, .int (x4 + 1))] [] s2 Q) ∧
            (v2 = 0 →
              pl_At n 249 31 [(0, .ref 1131), (1, .int x1), (2, .int x2), (3, .int x3), (4, .int x4)] [] s2 Q))))))))) : pl_At (n + 1) 249 3 [(0, .ref 1131), (1, .int x1), (2, .int x2), (3, .int x3), (4, .int x4)] [] s Q :=
  pl_wp_at (stops := [(3, [0, 1, 2, 3, 4]), (31, [0, 1, 2, 3, 4])]) (f := 19) h rfl

theorem pl_249_31 {n : Nat} {x1 : Int32} {x2 : Int32} {x3 : Int32} {x4 : Int32} {s : ps_S} {Q : Option Value → ps_S → Prop} (h :
  pl_Cl n 243 [.int x2, .int x4] s (ps_rI (fun v1 s1 =>
    pl_Cl n 248 [.ref 1131, .int x1, .int v1] s1 (ps_rV (fun s2 =>
      pl_At n 249 3 [(0, .ref 1131), (1, .int x1), (2, .int x2), (3, .int x3), (4, .int (x4 + 1))] [] s2 Q))))) : pl_At (n + 1) 249 31 [(0, .ref 1131), (1, .int x1), (2, .int x2), (3, .int x3), (4, .int x4)] [] s Q :=
  pl_wp_at (stops := [(3, [0, 1, 2, 3, 4]), (31, [0, 1, 2, 3, 4])]) (f := 10) h rfl

theorem fm_222_17 {ta tb : Nat} {la lb : List Nat} {x1 x2 : Int32} {s : ps_S} {R : Int32 → ps_S → Prop} (h1 : x1.toInt = ta) (hta : ta < 27400) (Wa : mv_W s ta la) (h2 : x2.toInt = tb) (htb : tb < 27400) (Wb : mv_W s tb lb) (hl : la.length = lb.length) (k1 : la = lb → R 1 s) (k0 : ¬ la = lb → R 0 s) : ∀ (n : Nat) {x3 : Int32} {i : Nat}, x3.toInt = i → i ≤ la.length → (∀ j, j < i → la[j]? = lb[j]?) → pl_At n 222 17 [(0, .ref 1131), (1, .int x1), (2, .int x2), (3, .int x3)] [] s (ps_rI R)
  | 0, _, _, _, _, _ => pl_At_0
  | n + 1, x3, i, hx, hi, hj => by
    have h40 := Wa.2.1
    refine pl_222_17 (fm_219c h1 Wa (fun v1 q1 => ⟨fun z => k1 ?_, fun z => ?_⟩))
    · have z := xle z
      refine List.ext_getElem? (fun j => ?_)
      rcases Nat.lt_or_ge j i with y | y
      · exact hj j y
      · rw [List.getElem?_eq_none (by omega), List.getElem?_eq_none (by omega)]
    · have z := xlt z
      obtain ⟨c, hc⟩ : ∃ c, la[i]? = some c := ⟨_, List.getElem?_eq_getElem (by omega)⟩
      obtain ⟨d, hd⟩ : ∃ d, lb[i]? = some d := ⟨_, List.getElem?_eq_getElem (by omega)⟩
      refine fm_220c h1 hta Wa hx hc (fun v2 q2 => fm_220c h2 htb Wb hx hd (fun v3 q3 => ⟨fun y => ?_, fun y => k0 (fun e => ?_)⟩))
      · have y := xeq y
        refine fm_222_17 h1 hta Wa h2 htb Wb hl k1 k0 n (xj1 hx (by omega)) (by omega) (fun j hj2 => ?_)
        rcases Nat.lt_or_ge j i with w | w
        · exact hj j w
        · rw [show j = i from by omega, hc, hd, show c = d from by omega]
      · have y := xne y
        rw [e, hd] at hc
        cases hc
        exact y (by rw [q2, q3])
theorem fm_222 {n ta tb : Nat} {la lb : List Nat} {x1 x2 : Int32} {s : ps_S} {R : Int32 → ps_S → Prop} (h1 : x1.toInt = ta) (hta : ta < 27400) (Wa : mv_W s ta la) (h2 : x2.toInt = tb) (htb : tb < 27400) (Wb : mv_W s tb lb) (k1 : la = lb → R 1 s) (k0 : ¬ la = lb → R 0 s) : pl_Cl n 222 [.ref 1131, .int x1, .int x2] s (ps_rI R) := by
  cases n with
  | zero => exact pl_At_0
  | succ n =>
  show pl_At (n + 1) 222 0 [(0, .ref 1131), (1, .int x1), (2, .int x2)] [] s (ps_rI R)
  refine pl_222_0 (fm_219c h1 Wa (fun v1 q1 => fm_219c h2 Wb (fun v2 q2 => ⟨fun z => ?_, fun z => k0 (fun e => ?_)⟩)))
  · have z := xeq z
    exact fm_222_17 h1 hta Wa h2 htb Wb (by omega) k1 k0 n (i := 0) rfl (Nat.zero_le _) (fun j hj => absurd hj (Nat.not_lt_zero _))
  · have z := xne z
    rw [e] at q1
    exact z (q1.trans q2.symm)
theorem fm_223c_2 {to x : Nat} {l : List Nat} {x1 x2 : Int32} {s : ps_S} {R : Int32 → ps_S → Prop} (h1 : x1.toInt = to) (hto : to < 27400) (W : mv_W s to l) (h2 : x2.toInt = x) (hx : x < 1000) (k1 : l.contains (60 + x) = true → R 1 s) (k0 : ¬ l.contains (60 + x) = true → R 0 s) : ∀ (n : Nat) {x3 : Int32} {i : Nat}, x3.toInt = i → (∀ j, j < i → l[j]? ≠ some (60 + x)) → pl_At n 223 2 [(0, .ref 1131), (1, .int x1), (2, .int x2), (3, .int x3)] [] s (ps_rI R)
  | 0, _, _, _, _ => pl_At_0
  | n + 1, x3, i, h3, hj => by
    have h40 := W.2.1
    have c60 : (60 : Int32).toInt = 60 := by decide
    have e60 : ((60 : Int32) + x2).toInt = (60 + x : Nat) := by rw [xIa (by omega) (by omega), c60, h2]; omega
    refine pl_223_2 (fm_219c h1 W (fun v1 q1 => ⟨fun z => k0 (fun y => ?_), fun z => ?_⟩))
    · have z := xle z
      obtain ⟨j, hj2⟩ := List.mem_iff_getElem?.mp (List.contains_iff_mem.mp y)
      have := (List.getElem?_eq_some_iff.mp hj2).1
      exact hj j (by omega) hj2
    · have z := xlt z
      obtain ⟨d, hd⟩ : ∃ d, l[i]? = some d := ⟨_, List.getElem?_eq_getElem (by omega)⟩
      refine fm_220c h1 hto W h3 hd (fun v2 q2 => ⟨fun y => ?_, fun y => k1 ?_⟩)
      · have y := xne y
        refine fm_223c_2 h1 hto W h2 hx k1 k0 n (xj1 h3 (by omega)) (fun j hj2 => ?_)
        rcases Nat.lt_or_ge j i with w | w
        · exact hj j w
        · rw [show j = i from by omega, hd]
          intro e
          cases e
          exact y (by rw [q2, e60])
      · have y := xeq y
        have e : d = 60 + x := by omega
        subst e
        exact List.contains_iff_mem.mpr (List.mem_of_getElem? hd)
theorem fm_223c {n to x : Nat} {l : List Nat} {x1 x2 : Int32} {s : ps_S} {R : Int32 → ps_S → Prop} (h1 : x1.toInt = to) (hto : to < 27400) (W : mv_W s to l) (h2 : x2.toInt = x) (hx : x < 1000) (k1 : l.contains (60 + x) = true → R 1 s) (k0 : ¬ l.contains (60 + x) = true → R 0 s) : pl_Cl n 223 [.ref 1131, .int x1, .int x2] s (ps_rI R) := by
  cases n with
  | zero => exact pl_At_0
  | succ n =>
  show pl_At (n + 1) 223 0 [(0, .ref 1131), (1, .int x1), (2, .int x2)] [] s (ps_rI R)
  exact pl_223_0 (fm_223c_2 h1 hto W h2 hx k1 k0 n (i := 0) rfl (fun j hj => absurd hj (Nat.not_lt_zero _)))
/-- a row copied -/
theorem fm_224_2 {ta tb : Nat} {l : List Nat} {x1 x2 : Int32} {s0 : ps_S} {R : ps_S → Prop} (h1 : x1.toInt = ta) (h2 : x2.toInt = tb) (hta : ta + 41 ≤ 27400) (htb : tb + 41 ≤ 27400) (hd : ta + 41 ≤ tb ∨ tb + 41 ≤ ta) (W0 : mv_W s0 ta l) (k : ∀ s', mv_W s' tb l → kq [1134] [] s0 s' → mv_po tb s0 s' → R s') : ∀ (n : Nat) {s : ps_S} {x3 : Int32} {i : Nat}, x3.toInt = i → i ≤ l.length + 1 → (∀ j, j < i → ps_a s 1134 (tb + j) = ps_a s0 1134 (ta + j)) → kq [1134] [] s0 s → mv_po tb s0 s → pl_At n 224 2 [(0, .ref 1131), (1, .int x1), (2, .int x2), (3, .int x3)] [] s (ps_rV R)
  | 0, _, _, _, _, _, _, _, _ => pl_At_0
  | n + 1, s, x3, i, h3, hi, hj, K, P => by
    have h40 := W0.2.1
    have es : (ps_a s 1134 ta).toInt = l.length := by rw [P ta (by omega)]; exact W0.1
    refine pl_224_2 ?_
    rw [xtn h1]
    intro b1
    refine ⟨fun z => ?_, fun z => ?_⟩
    · have z := xlt z
      have ei : i = l.length + 1 := by omega
      refine k s ⟨?_, h40, fun j c hc => ?_⟩ K P
      · have := hj 0 (by omega)
        rw [Nat.add_zero, Nat.add_zero] at this
        rw [this]
        exact W0.1
      · have hjl := (List.getElem?_eq_some_iff.mp hc).1
        rw [Nat.add_assoc, hj (1 + j) (by omega), ← Nat.add_assoc]
        exact W0.2.2 j c hc
    · have z := xle z
      have e1 : (x1 + x3).toInt = (ta + i : Nat) := by rw [xIa (by omega) (by omega), h1, h3]; omega
      have e2 : (x2 + x3).toInt = (tb + i : Nat) := by rw [xIa (by omega) (by omega), h2, h3]; omega
      intro b2 b3
      rw [xtn e1, xtn e2]
      refine fm_224_2 h1 h2 hta htb hd W0 k n (xj1 h3 (by omega)) (by omega) (fun j hj2 => ?_) (kqa K rfl) (fun q hq => ?_)
      · rw [ps_a_ua]
        by_cases e : j = i
        · rw [e, if_pos ⟨rfl, rfl⟩]
          exact P (ta + i) (by omega)
        · rw [if_neg (by omega)]
          exact hj j (by omega)
      · rw [ps_a_ua, if_neg (by omega)]
        exact P q hq
theorem fm_224 {n ta tb : Nat} {l : List Nat} {x1 x2 : Int32} {s : ps_S} {R : ps_S → Prop} (h1 : x1.toInt = ta) (h2 : x2.toInt = tb) (hta : ta + 41 ≤ 27400) (htb : tb + 41 ≤ 27400) (hd : ta + 41 ≤ tb ∨ tb + 41 ≤ ta) (W : mv_W s ta l) (k : ∀ s', mv_W s' tb l → kq [1134] [] s s' → mv_po tb s s' → R s') : pl_Cl n 224 [.ref 1131, .int x1, .int x2] s (ps_rV R) := by
  cases n with
  | zero => exact pl_At_0
  | succ n =>
  show pl_At (n + 1) 224 0 [(0, .ref 1131), (1, .int x1), (2, .int x2)] [] s (ps_rV R)
  exact pl_224_0 (fm_224_2 h1 h2 hta htb hd W k n (i := 0) rfl (Nat.zero_le _) (fun j hj => absurd hj (Nat.not_lt_zero _)) kq_refl (fun _ _ => rfl))
theorem fm_227 {n to : Nat} {l L : List Nat} {x1 : Int32} {s : ps_S} {R : ps_S → Prop} (h1 : x1.toInt = to) (hto : to < 27400) (W : mv_W s to l) (M : mk_M s L) (hL : L.length < 50000) (k : ∀ s', mk_M s' (L ++ l) → kq [1149] [34] s s' → R s') : pl_Cl n 227 [.ref 1131, .int x1] s (ps_rV R) := by
  cases n with
  | zero => exact pl_At_0
  | succ n =>
  show pl_At (n + 1) 227 0 [(0, .ref 1131), (1, .int x1)] [] s (ps_rV R)
  refine pl_227_0 (fm_219c h1 W (fun v1 q1 => ?_))
  refine fm_226 (a := 0) (b := l.length) h1 hto W M rfl q1 (Nat.le_refl _) hL (fun s2 M2 K2 => k s2 ?_ K2)
  rw [List.drop_zero, Nat.sub_zero, List.take_length] at M2
  exact M2
theorem fm_230_16 {to : Nat} {l L : List Nat} {x1 : Int32} {s : ps_S} {R : Int32 → ps_S → Prop} (h1 : x1.toInt = to) (hto : to < 27400) (W : mv_W s to l) (M : mk_M s L) (hl : l.length = L.length) (k1 : l = L → R 1 s) (k0 : ¬ l = L → R 0 s) : ∀ (n : Nat) {x2 : Int32} {i : Nat}, x2.toInt = i → i ≤ l.length → (∀ j, j < i → l[j]? = L[j]?) → pl_At n 230 16 [(0, .ref 1131), (1, .int x1), (2, .int x2)] [] s (ps_rI R)
  | 0, _, _, _, _, _ => pl_At_0
  | n + 1, x2, i, hx, hi, hj => by
    have h40 := W.2.1
    have m1 := M.1
    refine pl_230_16 ⟨fun z => k1 ?_, fun z => ?_⟩
    · have z := xle z
      refine List.ext_getElem? (fun j => ?_)
      rcases Nat.lt_or_ge j i with y | y
      · exact hj j y
      · rw [List.getElem?_eq_none (by omega), List.getElem?_eq_none (by omega)]
    · have z := xlt z
      obtain ⟨c, hc⟩ : ∃ c, l[i]? = some c := ⟨_, List.getElem?_eq_getElem (by omega)⟩
      obtain ⟨d, hd⟩ : ∃ d, L[i]? = some d := ⟨_, List.getElem?_eq_getElem (by omega)⟩
      refine fm_220c h1 hto W hx hc (fun v1 q1 => ?_)
      intro b1
      rw [xtn hx]
      have q2 := M.2 i d (by omega) hd
      refine ⟨fun y => ?_, fun y => k0 (fun e => ?_)⟩
      · have y := xeq y
        refine fm_230_16 h1 hto W M hl k1 k0 n (xj1 hx (by omega)) (by omega) (fun j hj2 => ?_)
        rcases Nat.lt_or_ge j i with w | w
        · exact hj j w
        · rw [show j = i from by omega, hc, hd, show c = d from by omega]
      · have y := xne y
        rw [e, hd] at hc
        cases hc
        exact y (by rw [q1, q2])
theorem fm_230 {n to : Nat} {l L : List Nat} {x1 : Int32} {s : ps_S} {R : Int32 → ps_S → Prop} (h1 : x1.toInt = to) (hto : to < 27400) (W : mv_W s to l) (M : mk_M s L) (k1 : l = L → R 1 s) (k0 : ¬ l = L → R 0 s) : pl_Cl n 230 [.ref 1131, .int x1] s (ps_rI R) := by
  cases n with
  | zero => exact pl_At_0
  | succ n =>
  show pl_At (n + 1) 230 0 [(0, .ref 1131), (1, .int x1)] [] s (ps_rI R)
  have m1 := M.1
  refine pl_230_0 (fm_219c h1 W (fun v1 q1 => ⟨fun z => ?_, fun z => k0 (fun e => ?_)⟩))
  · have z := xeq z
    exact fm_230_16 h1 hto W M (by omega) k1 k0 n (i := 0) rfl (Nat.zero_le _) (fun j hj => absurd hj (Nat.not_lt_zero _))
  · have z := xne z
    rw [e] at q1
    exact z (q1.trans m1.symm)
/-- causes: the least -/
def bcs (z c : Nat) : Nat := if z = 0 then c else min z c
theorem fm_241 {n z c : Nat} {x1 : Int32} {s : ps_S} {R : ps_S → Prop} (h : (ps_i s 1131 50).toInt = z) (hc : x1.toInt = c) (k : ∀ s', (ps_i s' 1131 50).toInt = (bcs z c : Nat) → kq [] [50] s s' → R s') : pl_Cl n 241 [.ref 1131, .int x1] s (ps_rV R) := by
  cases n with
  | zero => exact pl_At_0
  | succ n =>
  show pl_At (n + 1) 241 0 [(0, .ref 1131), (1, .int x1)] [] s (ps_rV R)
  have c0 : (0 : Int32).toInt = 0 := Int32.toInt_zero
  have e : (ps_i (ps_ui s 1131 50 x1) 1131 50).toInt = (c : Nat) := by rw [ps_i_ui, if_pos ⟨rfl, rfl⟩]; exact hc
  unfold bcs at k
  refine pl_241_0 ⟨fun y => ?_, fun y => ⟨fun w => ?_, fun w => ?_⟩⟩
  · have y := xeq y
    refine k _ ?_ (kqi kq_refl rfl)
    rw [if_pos (by omega)]
    exact e
  · have y := xne y
    have w := xle w
    refine k _ ?_ kq_refl
    rw [if_neg (by omega)]
    omega
  · have y := xne y
    have w := xlt w
    refine k _ ?_ (kqi kq_refl rfl)
    rw [if_neg (by omega)]
    omega
theorem fm_242 {n i : Nat} {x0 : Int32} {s : ps_S} {R : Int32 → ps_S → Prop} (h : x0.toInt = i) (hi : i < 100) (k : ∀ v : Int32, v.toInt = (41 * i : Nat) → R v s) : pl_Cl n 242 [.int x0] s (ps_rI R) := by
  cases n with
  | zero => exact pl_At_0
  | succ n =>
  show pl_At (n + 1) 242 0 [(0, .int x0)] [] s (ps_rI R)
  refine pl_242_0 (k _ ?_)
  have e : ((41 : Int32) * x0).toInt = (41 * i : Nat) := xImN (by decide) h (by omega)
  rw [xIa (by rw [Int32.toInt_zero]; omega) (by rw [Int32.toInt_zero]; omega), Int32.toInt_zero, e]
  omega
theorem fm_243 {n i m : Nat} {x0 x1 : Int32} {s : ps_S} {R : Int32 → ps_S → Prop} (h : x0.toInt = i) (hi : i < 41) (h1 : x1.toInt = m) (hm : m < 41) (k : ∀ v : Int32, v.toInt = (1640 + 41 * (12 * i + m) : Nat) → R v s) : pl_Cl n 243 [.int x0, .int x1] s (ps_rI R) := by
  cases n with
  | zero => exact pl_At_0
  | succ n =>
  show pl_At (n + 1) 243 0 [(0, .int x0), (1, .int x1)] [] s (ps_rI R)
  refine pl_243_0 (k _ ?_)
  have e1 : ((12 : Int32) * x0).toInt = (12 * i : Nat) := xImN (by decide) h (by omega)
  have e2 : (((12 : Int32) * x0) + x1).toInt = (12 * i + m : Nat) := by rw [xIa (by omega) (by omega), e1, h1]; omega
  have e3 : ((41 : Int32) * (((12 : Int32) * x0) + x1)).toInt = (41 * (12 * i + m) : Nat) := xImN (by decide) e2 (by omega)
  have e4 : (1640 : Int32).toInt = 1640 := by decide
  rw [xIa (by omega) (by omega), e3, e4]
  omega

theorem fm_244 {n i m : Nat} {x1 : Int32} {s : ps_S} {R : Int32 → ps_S → Prop} (h : x1.toInt = i) (hm : (ps_a s 1153 i).toInt = m) (hm1 : m < 100) (k : ∀ v : Int32, v.toInt = (41 * m : Nat) → R v s) : pl_Cl n 244 [.ref 1131, .int x1] s (ps_rI R) := by
  cases n with
  | zero => exact pl_At_0
  | succ n =>
  show pl_At (n + 1) 244 0 [(0, .ref 1131), (1, .int x1)] [] s (ps_rI R)
  refine pl_244_0 ?_
  intro b
  rw [xtn h]
  exact fm_242 hm hm1 k
/-- any number -/
theorem fm_244o {n i : Nat} {x1 : Int32} {s : ps_S} {R : Int32 → ps_S → Prop} (k : ∀ v : Int32, R v s) : pl_Cl n 244 [.ref 1131, .int x1] s (ps_rI R) := by
  cases n with
  | zero => exact pl_At_0
  | succ n =>
  show pl_At (n + 1) 244 0 [(0, .ref 1131), (1, .int x1)] [] s (ps_rI R)
  refine pl_244_0 ?_
  intro b
  cases n with
  | zero => exact pl_At_0
  | succ n =>
  show pl_At (n + 1) 242 0 _ [] s _
  exact pl_242_0 (k _)

theorem fm_245 {n i m : Nat} {x1 : Int32} {s : ps_S} {R : Int32 → ps_S → Prop} (h : x1.toInt = i) (hm : (ps_a s 1154 i).toInt = m) (hm1 : m < 100) (k : ∀ v : Int32, v.toInt = (41 * m : Nat) → R v s) : pl_Cl n 245 [.ref 1131, .int x1] s (ps_rI R) := by
  cases n with
  | zero => exact pl_At_0
  | succ n =>
  show pl_At (n + 1) 245 0 [(0, .ref 1131), (1, .int x1)] [] s (ps_rI R)
  refine pl_245_0 ?_
  intro b
  rw [xtn h]
  exact fm_242 hm hm1 k
/-- any number -/
theorem fm_245o {n i : Nat} {x1 : Int32} {s : ps_S} {R : Int32 → ps_S → Prop} (k : ∀ v : Int32, R v s) : pl_Cl n 245 [.ref 1131, .int x1] s (ps_rI R) := by
  cases n with
  | zero => exact pl_At_0
  | succ n =>
  show pl_At (n + 1) 245 0 [(0, .ref 1131), (1, .int x1)] [] s (ps_rI R)
  refine pl_245_0 ?_
  intro b
  cases n with
  | zero => exact pl_At_0
  | succ n =>
  show pl_At (n + 1) 242 0 _ [] s _
  exact pl_242_0 (k _)

theorem fm_246 {n i m : Nat} {x1 : Int32} {s : ps_S} {R : Int32 → ps_S → Prop} (h : x1.toInt = i) (hm : (ps_a s 1155 i).toInt = m) (hm1 : m < 100) (k : ∀ v : Int32, v.toInt = (41 * m : Nat) → R v s) : pl_Cl n 246 [.ref 1131, .int x1] s (ps_rI R) := by
  cases n with
  | zero => exact pl_At_0
  | succ n =>
  show pl_At (n + 1) 246 0 [(0, .ref 1131), (1, .int x1)] [] s (ps_rI R)
  refine pl_246_0 ?_
  intro b
  rw [xtn h]
  exact fm_242 hm hm1 k
/-- any number -/
theorem fm_246o {n i : Nat} {x1 : Int32} {s : ps_S} {R : Int32 → ps_S → Prop} (k : ∀ v : Int32, R v s) : pl_Cl n 246 [.ref 1131, .int x1] s (ps_rI R) := by
  cases n with
  | zero => exact pl_At_0
  | succ n =>
  show pl_At (n + 1) 246 0 [(0, .ref 1131), (1, .int x1)] [] s (ps_rI R)
  refine pl_246_0 ?_
  intro b
  cases n with
  | zero => exact pl_At_0
  | succ n =>
  show pl_At (n + 1) 242 0 _ [] s _
  exact pl_242_0 (k _)

theorem fm_247 {n to : Nat} {l : List Nat} {x1 : Int32} {s : ps_S} {R : Int32 → ps_S → Prop} (h1 : x1.toInt = to) (hto : to < 27400) (W : mv_W s to l) (hne : l ≠ []) (k : ∀ (v : Int32) (c : Nat), l.head? = some c → v.toInt = c → R v s) : pl_Cl n 247 [.ref 1131, .int x1] s (ps_rI R) := by
  cases n with
  | zero => exact pl_At_0
  | succ n =>
  show pl_At (n + 1) 247 0 [(0, .ref 1131), (1, .int x1)] [] s (ps_rI R)
  have hl : 0 < l.length := by
    cases l with
    | nil => exact absurd rfl hne
    | cons c t => exact Nat.succ_pos _
  obtain ⟨c, hc⟩ : ∃ c, l[0]? = some c := ⟨_, List.getElem?_eq_getElem hl⟩
  exact pl_247_0 (fm_220c h1 hto W rfl hc (fun v q => k v c (by rw [head_at]; exact hc) q))
/-! a stack of ends -/
def ctE (E : List Nat) (b : Nat) : Nat := (E.filter (fun e => decide (b < e))).length
theorem ctE_all {E : List Nat} {b : Nat} (h : ∀ e, e ∈ E → b < e) : ctE E b = E.length := by
  unfold ctE
  rw [List.filter_eq_self.mpr (fun e he => decide_eq_true (h e he))]
theorem ctE_c {E : List Nat} {b e : Nat} : ctE (e :: E) b = (if b < e then 1 else 0) + ctE E b := by
  unfold ctE
  rw [List.filter_cons]
  by_cases h : b < e
  · rw [if_pos (decide_eq_true h), if_pos h, List.length_cons, Nat.add_comm]
  · rw [if_neg (by rw [decide_eq_false h]; decide), if_neg h, Nat.zero_add]
/-- ends of the alls and somes round a place i of l: S what is wanted there -/
def enI (ar : Nat → Nat) (l : List Nat) (z : Nat) (E : List Nat) (i : Nat) (S : List (Nat × Nat)) : Prop := (∀ (j : Nat) (d : Nat × Nat), S[j]? = some d → d.2 = z + ctE E (i + en ar (l.drop i) j)) ∧ (∀ e, e ∈ E → e ≤ i ∨ ∃ j, 1 ≤ j ∧ e = i + en ar (l.drop i) j) ∧ E.Pairwise (fun a b => a ≤ b)
theorem enI_pop {ar : Nat → Nat} {l : List Nat} {z i e : Nat} {E : List Nat} {S : List (Nat × Nat)} (h : enI ar l z (e :: E) i S) (he : e ≤ i) : enI ar l z E i S := by
  obtain ⟨h1, h2, h3⟩ := h
  refine ⟨fun j d hd => ?_, fun x hx => h2 x (List.mem_cons_of_mem _ hx), (List.pairwise_cons.mp h3).2⟩
  have := h1 j d hd
  rw [ctE_c, if_neg (by omega), Nat.zero_add] at this
  exact this
/-- at a piece, when what has ended is taken off -/
theorem enI_at {ar : Nat → Nat} {l : List Nat} {z i : Nat} {E : List Nat} {d : Nat × Nat} {S : List (Nat × Nat)} (h : enI ar l z E i (d :: S)) (ht : E = [] ∨ ∃ e E', E = e :: E' ∧ i < e) : d.2 = z + E.length ∧ ∀ e, e ∈ E → i + en ar (l.drop i) 1 ≤ e := by
  obtain ⟨h1, h2, h3⟩ := h
  have hall : ∀ e, e ∈ E → i < e := fun e he => by
    rcases ht with rfl | ⟨e0, E', rfl, h0⟩
    · cases he
    · rcases List.mem_cons.mp he with he | he
      · omega
      · have := (List.pairwise_cons.mp h3).1 e he
        omega
  constructor
  · have := h1 0 d rfl
    rw [en_0, Nat.add_zero, ctE_all hall] at this
    exact this
  · intro e he
    have hi := hall e he
    rcases h2 e he with y | ⟨j, j1, j2⟩
    · omega
    · obtain ⟨q, rfl⟩ : ∃ q, j = 1 + q := ⟨j - 1, by omega⟩
      rw [en_add] at j2
      omega
theorem enI_step {ar : Nat → Nat} {l : List Nat} {z i c : Nat} {E : List Nat} {d : Nat × Nat} {S : List (Nat × Nat)} (h : enI ar l z E i (d :: S)) (ht : E = [] ∨ ∃ e E', E = e :: E' ∧ i < e) (hc : l[i]? = some c) (hq : qb c = 1 → ar c = 1) (hlt : ∀ j, j < ar c → en ar (l.drop (i + 1)) j < en ar (l.drop (i + 1)) (ar c)) : enI ar l z (if qb c = 1 then (i + en ar (l.drop i) 1) :: E else E) (i + 1) (List.replicate (ar c) (d.1 + 1, d.2 + qb c) ++ S) := by
  obtain ⟨g1, g2⟩ := enI_at h ht
  obtain ⟨h1, h2, h3⟩ := h
  have e1 : i + en ar (l.drop i) 1 = i + 1 + en ar (l.drop (i + 1)) (ar c) := by
    have := en_1c (ar := ar) (k := 0) hc
    rw [Nat.zero_add, Nat.zero_add] at this
    omega
  have ej : ∀ j, i + en ar (l.drop i) (j + 1) = i + 1 + en ar (l.drop (i + 1)) (j + ar c) := fun j => by
    have := en_1c (ar := ar) (k := j) hc
    omega
  have cE : ∀ b, b < i + en ar (l.drop i) 1 → ctE E b = E.length := fun b hb => ctE_all (fun e he => by have := g2 e he; omega)
  have hq01 : qb c = 0 ∨ qb c = 1 := by
    unfold qb
    split
    · exact Or.inr rfl
    · exact Or.inl rfl
  refine ⟨fun j dd hd => ?_, fun e he => ?_, ?_⟩
  · rcases Nat.lt_or_ge j (ar c) with y | y
    · rw [List.getElem?_append_left (by rw [List.length_replicate]; exact y)] at hd
      have edd := List.eq_of_mem_replicate (List.mem_of_getElem? hd)
      have hl := hlt j y
      rw [edd]
      show d.2 + qb c = _
      rcases hq01 with q0 | q1
      · rw [if_neg (by omega), cE _ (by omega), q0]
        omega
      · rw [if_pos q1, ctE_c, if_pos (by omega), cE _ (by omega), q1]
        omega
    · rw [List.getElem?_append_right (by rw [List.length_replicate]; exact y), List.length_replicate] at hd
      have := h1 (j - ar c + 1) dd (by rw [List.getElem?_cons_succ]; exact hd)
      rw [ej, show j - ar c + ar c = j from by omega] at this
      rcases hq01 with q0 | q1
      · rw [if_neg (by omega)]
        exact this
      · have hmono : en ar (l.drop (i + 1)) (ar c) ≤ en ar (l.drop (i + 1)) j := by
          rw [show j = ar c + (j - ar c) from by omega, en_add]
          omega
        rw [if_pos q1, ctE_c, if_neg (by omega), Nat.zero_add]
        exact this
  · have old : e ∈ E → e ≤ i + 1 ∨ ∃ j, 1 ≤ j ∧ e = i + 1 + en ar (l.drop (i + 1)) j := fun he => by
      rcases h2 e he with y | ⟨j, j1, j2⟩
      · exact Or.inl (by omega)
      · obtain ⟨q, rfl⟩ : ∃ q, j = q + 1 := ⟨j - 1, by omega⟩
        rw [ej] at j2
        by_cases z0 : q + ar c = 0
        · rw [z0, en_0] at j2
          exact Or.inl (by omega)
        · exact Or.inr ⟨q + ar c, by omega, j2⟩
    split at he
    · next q1 =>
      rcases List.mem_cons.mp he with he | he
      · exact Or.inr ⟨ar c, by rw [hq q1]; exact Nat.le_refl _, by rw [he]; exact e1⟩
      · exact old he
    · exact old he
  · split
    · exact List.pairwise_cons.mpr ⟨fun e he => g2 e he, h3⟩
    · exact h3

