set_option maxRecDepth 100000
/-! the reference: levels of pieces by a stack of ends; what a formula is worth, for all bound things at once -/
-- ProofBenchModel.layModel(I)V
theorem pl_293_0 {n : Nat} {x1 : Int32} {s : ps_S} {Q : Option Value → ps_S → Prop} (h :
  pl_At n 293 9 [(0, .ref 1131), (2, .int x1), (3, .int ((ps_i s 1131 73) - 1))] [] s Q) : pl_At (n + 1) 293 0 [(0, .ref 1131), (1, .int x1)] [] s Q :=
  pl_wp_at (stops := [(9, [0, 2, 3])]) (f := 9) h rfl

theorem pl_293_9 {n : Nat} {x2 : Int32} {x3 : Int32} {s : ps_S} {Q : Option Value → ps_S → Prop} (h :
  (x3 < 0 →
    Q none s) ∧
  (0 ≤ x3 →
    (pm_in x3 96 = true →
      pl_nk (!decide ((ps_a s 1170 (Int32.toNatClampNeg x3)) = 0)) ((pm_in x3 96 = true →
        (pm_in x3 96 = true →
          pl_nk (!decide ((ps_a (ps_ua s 1169 (Int32.toNatClampNeg x3) (x2 - (x2 / (ps_a s 1170 (Int32.toNatClampNeg x3))) * (ps_a s 1170 (Int32.toNatClampNeg x3)))) 1170 (Int32.toNatClampNeg x3)) = 0)) (pl_At n 293 9 [(0, .ref 1131), (2, .int (x2 / (ps_a (ps_ua s 1169 (Int32.toNatClampNeg x3) (x2 - (x2 / (ps_a s 1170 (Int32.toNatClampNeg x3))) * (ps_a s 1170 (Int32.toNatClampNeg x3)))) 1170 (Int32.toNatClampNeg x3)))), (3, .int (x3 + (Int32.ofInt (-1))))] [] (ps_ua s 1169 (Int32.toNatClampNeg x3) (x2 - (x2 / (ps_a s 1170 (Int32.toNatClampNeg x3))) * (ps_a s 1170 (Int32.toNatClampNeg x3)))) Q))))))) : pl_At (n + 1) 293 9 [(0, .ref 1131), (2, .int x2), (3, .int x3)] [] s Q :=
  pl_wp_at (stops := [(9, [0, 2, 3])]) (f := 24) h rfl

-- ProofBenchModel.layDepths(I)V
theorem pl_294_0 {n : Nat} {x1 : Int32} {s : ps_S} {Q : Option Value → ps_S → Prop} (h :
  pl_At n 294 4 [(0, .ref 1131), (1, .int x1), (2, .int 0), (3, .int 0)] [] s Q) : pl_At (n + 1) 294 0 [(0, .ref 1131), (1, .int x1)] [] s Q :=
  pl_wp_at (stops := [(4, [0, 1, 2, 3]), (13, [0, 1, 2, 3]), (29, [0, 1, 2, 3]), (35, [0, 1, 2, 3]), (62, [0, 1, 2, 3])]) (f := 6) h rfl

theorem pl_294_4 {n : Nat} {x1 : Int32} {x2 : Int32} {x3 : Int32} {s : ps_S} {Q : Option Value → ps_S → Prop} (h :
  pl_Cl n 219 [.ref 1131, .int x1] s (ps_rI (fun v1 s1 =>
    (v1 ≤ x3 →
      Q none s1) ∧
    (x3 < v1 →
      pl_At n 294 13 [(0, .ref 1131), (1, .int x1), (2, .int x2), (3, .int x3)] [] s1 Q)))) : pl_At (n + 1) 294 4 [(0, .ref 1131), (1, .int x1), (2, .int x2), (3, .int x3)] [] s Q :=
  pl_wp_at (stops := [(4, [0, 1, 2, 3]), (13, [0, 1, 2, 3]), (29, [0, 1, 2, 3]), (35, [0, 1, 2, 3]), (62, [0, 1, 2, 3])]) (f := 8) h rfl

theorem pl_294_13 {n : Nat} {x1 : Int32} {x2 : Int32} {x3 : Int32} {s : ps_S} {Q : Option Value → ps_S → Prop} (h :
  (x2 ≤ 0 →
    pl_At n 294 35 [(0, .ref 1131), (1, .int x1), (2, .int x2), (3, .int x3)] [] s Q) ∧
  (0 < x2 →
    (pm_in (x2 - 1) 260 = true →
      (x3 < (ps_a s 1150 (Int32.toNatClampNeg (x2 - 1))) →
        pl_At n 294 35 [(0, .ref 1131), (1, .int x1), (2, .int x2), (3, .int x3)] [] s Q) ∧
      ((ps_a s 1150 (Int32.toNatClampNeg (x2 - 1))) ≤ x3 →
        pl_At n 294 29 [(0, .ref 1131), (1, .int x1), (2, .int x2), (3, .int x3)] [] s Q)))) : pl_At (n + 1) 294 13 [(0, .ref 1131), (1, .int x1), (2, .int x2), (3, .int x3)] [] s Q :=
  pl_wp_at (stops := [(4, [0, 1, 2, 3]), (13, [0, 1, 2, 3]), (29, [0, 1, 2, 3]), (35, [0, 1, 2, 3]), (62, [0, 1, 2, 3])]) (f := 12) h rfl

theorem pl_294_29 {n : Nat} {x1 : Int32} {x2 : Int32} {x3 : Int32} {s : ps_S} {Q : Option Value → ps_S → Prop} (h :
  pl_At n 294 13 [(0, .ref 1131), (1, .int x1), (2, .int (x2 + (Int32.ofInt (-1)))), (3, .int x3)] [] s Q) : pl_At (n + 1) 294 29 [(0, .ref 1131), (1, .int x1), (2, .int x2), (3, .int x3)] [] s Q :=
  pl_wp_at (stops := [(4, [0, 1, 2, 3]), (13, [0, 1, 2, 3]), (29, [0, 1, 2, 3]), (35, [0, 1, 2, 3]), (62, [0, 1, 2, 3])]) (f := 4) h rfl

theorem pl_294_35 {n : Nat} {x1 : Int32} {x2 : Int32} {x3 : Int32} {s : ps_S} {Q : Option Value → ps_S → Prop} (h :
  (pm_in x3 41 = true →
    pl_Cl n 220 [.ref 1131, .int x1, .int x3] (ps_ua s 1173 (Int32.toNatClampNeg x3) x2) (ps_rI (fun v1 s1 =>
      (v1 = 4 →
        pl_At n 294 62 [(0, .ref 1131), (1, .int x1), (2, .int x2), (3, .int x3)] [] s1 Q) ∧
      (v1 ≠ 4 →
        pl_Cl n 220 [.ref 1131, .int x1, .int x3] s1 (ps_rI (fun v2 s2 =>
          (v2 ≠ 5 →
            pl_At n 294 4 [(0, .ref 1131), (1, .int x1), (2, .int x2), (3, .int (x3 + 1))] [] s2 Q) ∧
          (v2 = 5 →
            pl_At n 294 62 [(0, .ref 1131), (1, .int x1), (2, .int x2), (3, .int x3)] [] s2 Q)))))))) : pl_At (n + 1) 294 35 [(0, .ref 1131), (1, .int x1), (2, .int x2), (3, .int x3)] [] s Q :=
  pl_wp_at (stops := [(4, [0, 1, 2, 3]), (13, [0, 1, 2, 3]), (29, [0, 1, 2, 3]), (35, [0, 1, 2, 3]), (62, [0, 1, 2, 3])]) (f := 21) h rfl

theorem pl_294_62 {n : Nat} {x1 : Int32} {x2 : Int32} {x3 : Int32} {s : ps_S} {Q : Option Value → ps_S → Prop} (h :
  pl_Cl n 221 [.ref 1131, .int x1, .int x3] s (ps_rI (fun v1 s1 =>
    (pm_in x2 260 = true →
      pl_At n 294 4 [(0, .ref 1131), (1, .int x1), (2, .int (x2 + 1)), (3, .int (x3 + 1))] [] (ps_ua s1 1150 (Int32.toNatClampNeg x2) v1) Q)))) : pl_At (n + 1) 294 62 [(0, .ref 1131), (1, .int x1), (2, .int x2), (3, .int x3)] [] s Q :=
  pl_wp_at (stops := [(4, [0, 1, 2, 3]), (13, [0, 1, 2, 3]), (29, [0, 1, 2, 3]), (35, [0, 1, 2, 3]), (62, [0, 1, 2, 3])]) (f := 13) h rfl

-- ProofBenchModel.isSo(II)Z
theorem pl_295_0 {n : Nat} {x1 : Int32} {x2 : Int32} {s : ps_S} {Q : Option Value → ps_S → Prop} (h :
  pl_Cl n 294 [.ref 1131, .int x1] s (ps_rV (fun s1 =>
    pl_Cl n 219 [.ref 1131, .int x1] s1 (ps_rI (fun v2 s2 =>
      pl_At n 295 16 [(0, .ref 1131), (1, .int x1), (2, .int x2), (3, .int 0), (4, .int (v2 - 1))] [] s2 Q))))) : pl_At (n + 1) 295 0 [(0, .ref 1131), (1, .int x1), (2, .int x2)] [] s Q :=
  pl_wp_at (stops := [(16, [0, 1, 2, 3, 4]), (70, [0, 1, 2, 3, 4, 5, 6, 7, 8, 9])]) (f := 13) h rfl

theorem pl_295_16 {n : Nat} {x1 : Int32} {x2 : Int32} {x3 : Int32} {x4 : Int32} {s : ps_S} {Q : Option Value → ps_S → Prop} (h :
  (x4 < 0 →
    (pm_in (0 : Int32) 10206 = true →
      ((ps_a s 1174 (Int32.toNatClampNeg (0 : Int32))) ≠ 1 →
        Q (some (.int 0)) s) ∧
      ((ps_a s 1174 (Int32.toNatClampNeg (0 : Int32))) = 1 →
        Q (some (.int 1)) s))) ∧
  (0 ≤ x4 →
    pl_Cl n 220 [.ref 1131, .int x1, .int x4] s (ps_rI (fun v1 s1 =>
      pl_Cl n 218 [.ref 1131, .int v1] s1 (ps_rI (fun v2 s2 =>
        (pm_in x4 41 = true →
          pl_Cl n 290 [.int x2, .int (ps_a s2 1173 (Int32.toNatClampNeg x4))] s2 (ps_rI (fun v3 s3 =>
            pl_At n 295 70 [(0, .ref 1131), (1, .int x1), (2, .int x2), (3, .int (x3 + ((1 : Int32) - v2))), (4, .int x4), (5, .int v1), (6, .int v2), (7, .int ((243 : Int32) * ((x3 + ((1 : Int32) - v2)) - 1))), (8, .int v3), (9, .int 0)] [] s3 Q))))))))) : pl_At (n + 1) 295 16 [(0, .ref 1131), (1, .int x1), (2, .int x2), (3, .int x3), (4, .int x4)] [] s Q :=
  pl_wp_at (stops := [(16, [0, 1, 2, 3, 4]), (70, [0, 1, 2, 3, 4, 5, 6, 7, 8, 9])]) (f := 45) h rfl

theorem pl_295_70 {n : Nat} {x1 : Int32} {x2 : Int32} {x3 : Int32} {x4 : Int32} {x5 : Int32} {x6 : Int32} {x7 : Int32} {x8 : Int32} {x9 : Int32} {s : ps_S} {Q : Option Value → ps_S → Prop} (h :
  (x8 ≤ x9 →
    pl_At n 295 16 [(0, .ref 1131), (1, .int x1), (2, .int x2), (3, .int x3), (4, .int (x4 + (Int32.ofInt (-1))))] [] s Q) ∧
  (x9 < x8 →
    pl_Cl n 296 [.ref 1131, .int x5, .int x6, .int x3, .int x9, .int x2] s (ps_rI (fun v1 s1 =>
      (pm_in (x7 + x9) 10206 = true →
        pl_At n 295 70 [(0, .ref 1131), (1, .int x1), (2, .int x2), (3, .int x3), (4, .int x4), (5, .int x5), (6, .int x6), (7, .int x7), (8, .int x8), (9, .int (x9 + 1))] [] (ps_ua s1 1174 (Int32.toNatClampNeg (x7 + x9)) v1) Q))))) : pl_At (n + 1) 295 70 [(0, .ref 1131), (1, .int x1), (2, .int x2), (3, .int x3), (4, .int x4), (5, .int x5), (6, .int x6), (7, .int x7), (8, .int x8), (9, .int x9)] [] s Q :=
  pl_wp_at (stops := [(16, [0, 1, 2, 3, 4]), (70, [0, 1, 2, 3, 4, 5, 6, 7, 8, 9])]) (f := 22) h rfl

-- ProofBenchModel.valueOf(IIIII)I
theorem pl_296_0 {n : Nat} {x1 : Int32} {x2 : Int32} {x3 : Int32} {x4 : Int32} {x5 : Int32} {s : ps_S} {Q : Option Value → ps_S → Prop} (h :
  (x2 ≠ 0 →
    pl_At n 296 28 [(0, .ref 1131), (1, .int x1), (2, .int x2), (4, .int x4), (5, .int x5), (6, .int ((243 : Int32) * ((x3 + x2) - 2))), (7, .int ((243 : Int32) * (x3 - 1)))] [] s Q) ∧
  (x2 = 0 →
    pl_At n 296 28 [(0, .ref 1131), (1, .int x1), (2, .int x2), (4, .int x4), (5, .int x5), (6, .int 0), (7, .int ((243 : Int32) * (x3 - 1)))] [] s Q)) : pl_At (n + 1) 296 0 [(0, .ref 1131), (1, .int x1), (2, .int x2), (3, .int x3), (4, .int x4), (5, .int x5)] [] s Q :=
  pl_wp_at (stops := [(28, [0, 1, 2, 4, 5, 6, 7]), (88, [0, 1, 2, 4, 5, 6, 7]), (127, [0, 1, 4, 5, 6]), (143, [0, 1, 2, 4, 5, 6, 7]), (178, [0, 1, 2, 4, 5, 6, 7]), (216, [0, 1, 2, 4, 5, 6, 7])]) (f := 27) h rfl

theorem pl_296_28 {n : Nat} {x1 : Int32} {x2 : Int32} {x4 : Int32} {x5 : Int32} {x6 : Int32} {x7 : Int32} {s : ps_S} {Q : Option Value → ps_S → Prop} (h :
  (x1 ≠ 0 →
    (x1 ≠ 1 →
      (x1 ≠ 2 →
        pl_At n 296 88 [(0, .ref 1131), (1, .int x1), (2, .int x2), (4, .int x4), (5, .int x5), (6, .int x6), (7, .int x7)] [] s Q) ∧
      (x1 = 2 →
        (pm_in (x6 + x4) 10206 = true →
          (pm_in (x7 + x4) 10206 = true →
            Q (some (.int ((ps_a s 1174 (Int32.toNatClampNeg (x6 + x4))) ||| (ps_a s 1174 (Int32.toNatClampNeg (x7 + x4)))))) s)))) ∧
    (x1 = 1 →
      (pm_in (x6 + x4) 10206 = true →
        (pm_in (x7 + x4) 10206 = true →
          Q (some (.int ((ps_a s 1174 (Int32.toNatClampNeg (x6 + x4))) &&& (ps_a s 1174 (Int32.toNatClampNeg (x7 + x4)))))) s)))) ∧
  (x1 = 0 →
    Q (some (.int 0)) s)) : pl_At (n + 1) 296 28 [(0, .ref 1131), (1, .int x1), (2, .int x2), (4, .int x4), (5, .int x5), (6, .int x6), (7, .int x7)] [] s Q :=
  pl_wp_at (stops := [(28, [0, 1, 2, 4, 5, 6, 7]), (88, [0, 1, 2, 4, 5, 6, 7]), (127, [0, 1, 4, 5, 6]), (143, [0, 1, 2, 4, 5, 6, 7]), (178, [0, 1, 2, 4, 5, 6, 7]), (216, [0, 1, 2, 4, 5, 6, 7])]) (f := 40) h rfl

theorem pl_296_88 {n : Nat} {x1 : Int32} {x2 : Int32} {x4 : Int32} {x5 : Int32} {x6 : Int32} {x7 : Int32} {s : ps_S} {Q : Option Value → ps_S → Prop} (h :
  (x1 ≠ 3 →
    (x1 = 4 →
      pl_At n 296 127 [(0, .ref 1131), (1, .int x1), (4, .int x4), (5, .int x5), (6, .int x6)] [] s Q) ∧
    (x1 ≠ 4 →
      (x1 ≠ 5 →
        pl_At n 296 143 [(0, .ref 1131), (1, .int x1), (2, .int x2), (4, .int x4), (5, .int x5), (6, .int x6), (7, .int x7)] [] s Q) ∧
      (x1 = 5 →
        pl_At n 296 127 [(0, .ref 1131), (1, .int x1), (4, .int x4), (5, .int x5), (6, .int x6)] [] s Q))) ∧
  (x1 = 3 →
    (pm_in (x6 + x4) 10206 = true →
      (pm_in (x7 + x4) 10206 = true →
        Q (some (.int (((1 : Int32) - (ps_a s 1174 (Int32.toNatClampNeg (x6 + x4)))) ||| (ps_a s 1174 (Int32.toNatClampNeg (x7 + x4)))))) s)))) : pl_At (n + 1) 296 88 [(0, .ref 1131), (1, .int x1), (2, .int x2), (4, .int x4), (5, .int x5), (6, .int x6), (7, .int x7)] [] s Q :=
  pl_wp_at (stops := [(28, [0, 1, 2, 4, 5, 6, 7]), (88, [0, 1, 2, 4, 5, 6, 7]), (127, [0, 1, 4, 5, 6]), (143, [0, 1, 2, 4, 5, 6, 7]), (178, [0, 1, 2, 4, 5, 6, 7]), (216, [0, 1, 2, 4, 5, 6, 7])]) (f := 27) h rfl

theorem pl_296_127 {n : Nat} {x1 : Int32} {x4 : Int32} {x5 : Int32} {x6 : Int32} {s : ps_S} {Q : Option Value → ps_S → Prop} (h :
  pl_Cl n 297 [.ref 1131, .int x1, .int (x6 + (x4 * x5)), .int x5] s (ps_rI (fun v1 s1 =>
    Q (some (.int v1)) s1))) : pl_At (n + 1) 296 127 [(0, .ref 1131), (1, .int x1), (4, .int x4), (5, .int x5), (6, .int x6)] [] s Q :=
  pl_wp_at (stops := [(28, [0, 1, 2, 4, 5, 6, 7]), (88, [0, 1, 2, 4, 5, 6, 7]), (127, [0, 1, 4, 5, 6]), (143, [0, 1, 2, 4, 5, 6, 7]), (178, [0, 1, 2, 4, 5, 6, 7]), (216, [0, 1, 2, 4, 5, 6, 7])]) (f := 12) h rfl

theorem pl_296_143 {n : Nat} {x1 : Int32} {x2 : Int32} {x4 : Int32} {x5 : Int32} {x6 : Int32} {x7 : Int32} {s : ps_S} {Q : Option Value → ps_S → Prop} (h :
  (x1 ≠ 6 →
    pl_At n 296 178 [(0, .ref 1131), (1, .int x1), (2, .int x2), (4, .int x4), (5, .int x5), (6, .int x6), (7, .int x7)] [] s Q) ∧
  (x1 = 6 →
    (pm_in (x6 + x4) 10206 = true →
      (pm_in (x7 + x4) 10206 = true →
        ((ps_a s 1174 (Int32.toNatClampNeg (x6 + x4))) ≠ (ps_a s 1174 (Int32.toNatClampNeg (x7 + x4))) →
          Q (some (.int 0)) s) ∧
        ((ps_a s 1174 (Int32.toNatClampNeg (x6 + x4))) = (ps_a s 1174 (Int32.toNatClampNeg (x7 + x4))) →
          Q (some (.int 1)) s))))) : pl_At (n + 1) 296 143 [(0, .ref 1131), (1, .int x1), (2, .int x2), (4, .int x4), (5, .int x5), (6, .int x6), (7, .int x7)] [] s Q :=
  pl_wp_at (stops := [(28, [0, 1, 2, 4, 5, 6, 7]), (88, [0, 1, 2, 4, 5, 6, 7]), (127, [0, 1, 4, 5, 6]), (143, [0, 1, 2, 4, 5, 6, 7]), (178, [0, 1, 2, 4, 5, 6, 7]), (216, [0, 1, 2, 4, 5, 6, 7])]) (f := 23) h rfl

theorem pl_296_178 {n : Nat} {x1 : Int32} {x2 : Int32} {x4 : Int32} {x5 : Int32} {x6 : Int32} {x7 : Int32} {s : ps_S} {Q : Option Value → ps_S → Prop} (h :
  (x1 < 60 →
    (x1 < 40 →
      pl_At n 296 216 [(0, .ref 1131), (1, .int x1), (2, .int x2), (4, .int x4), (5, .int x5), (6, .int x6), (7, .int x7)] [] s Q) ∧
    (40 ≤ x1 →
      pl_Cl n 290 [.int x5, .int (x1 - 40)] s (ps_rI (fun v1 s1 =>
        pl_nk (!decide (v1 = 0)) (pl_nk (!decide (x5 = 0)) (Q (some (.int ((x4 / v1) - ((x4 / v1) / x5) * x5))) s1)))))) ∧
  (60 ≤ x1 →
    (pm_in (x1 - 60) 12 = true →
      Q (some (.int (ps_a s 1175 (Int32.toNatClampNeg (x1 - 60))))) s))) : pl_At (n + 1) 296 178 [(0, .ref 1131), (1, .int x1), (2, .int x2), (4, .int x4), (5, .int x5), (6, .int x6), (7, .int x7)] [] s Q :=
  pl_wp_at (stops := [(28, [0, 1, 2, 4, 5, 6, 7]), (88, [0, 1, 2, 4, 5, 6, 7]), (127, [0, 1, 4, 5, 6]), (143, [0, 1, 2, 4, 5, 6, 7]), (178, [0, 1, 2, 4, 5, 6, 7]), (216, [0, 1, 2, 4, 5, 6, 7])]) (f := 25) h rfl

theorem pl_296_216 {n : Nat} {x1 : Int32} {x2 : Int32} {x4 : Int32} {x5 : Int32} {x6 : Int32} {x7 : Int32} {s : ps_S} {Q : Option Value → ps_S → Prop} (h :
  (x2 ≠ 0 →
    (x2 ≠ 1 →
      (pm_in (x6 + x4) 10206 = true →
        (pm_in (x7 + x4) 10206 = true →
          (20 ≤ x1 →
            (pm_in (x1 - 20) 4 = true →
              (pm_in ((ps_a s 1172 (Int32.toNatClampNeg (x1 - 20))) + (((ps_a s 1174 (Int32.toNatClampNeg (x6 + x4))) * x5) + (ps_a s 1174 (Int32.toNatClampNeg (x7 + x4))))) 96 = true →
                Q (some (.int (ps_a s 1169 (Int32.toNatClampNeg ((ps_a s 1172 (Int32.toNatClampNeg (x1 - 20))) + (((ps_a s 1174 (Int32.toNatClampNeg (x6 + x4))) * x5) + (ps_a s 1174 (Int32.toNatClampNeg (x7 + x4))))))))) s))) ∧
          (x1 < 20 →
            (pm_in (x1 - 10) 6 = true →
              (pm_in ((ps_a s 1171 (Int32.toNatClampNeg (x1 - 10))) + (((ps_a s 1174 (Int32.toNatClampNeg (x6 + x4))) * x5) + (ps_a s 1174 (Int32.toNatClampNeg (x7 + x4))))) 96 = true →
                Q (some (.int (ps_a s 1169 (Int32.toNatClampNeg ((ps_a s 1171 (Int32.toNatClampNeg (x1 - 10))) + (((ps_a s 1174 (Int32.toNatClampNeg (x6 + x4))) * x5) + (ps_a s 1174 (Int32.toNatClampNeg (x7 + x4))))))))) s)))))) ∧
    (x2 = 1 →
      (pm_in (x6 + x4) 10206 = true →
        (20 ≤ x1 →
          (pm_in (x1 - 20) 4 = true →
            (pm_in ((ps_a s 1172 (Int32.toNatClampNeg (x1 - 20))) + (ps_a s 1174 (Int32.toNatClampNeg (x6 + x4)))) 96 = true →
              Q (some (.int (ps_a s 1169 (Int32.toNatClampNeg ((ps_a s 1172 (Int32.toNatClampNeg (x1 - 20))) + (ps_a s 1174 (Int32.toNatClampNeg (x6 + x4)))))))) s))) ∧
        (x1 < 20 →
          (pm_in (x1 - 10) 6 = true →
            (pm_in ((ps_a s 1171 (Int32.toNatClampNeg (x1 - 10))) + (ps_a s 1174 (Int32.toNatClampNeg (x6 + x4)))) 96 = true →
              Q (some (.int (ps_a s 1169 (Int32.toNatClampNeg ((ps_a s 1171 (Int32.toNatClampNeg (x1 - 10))) + (ps_a s 1174 (Int32.toNatClampNeg (x6 + x4)))))))) s)))))) ∧
  (x2 = 0 →
    (20 ≤ x1 →
      (pm_in (x1 - 20) 4 = true →
        (pm_in ((ps_a s 1172 (Int32.toNatClampNeg (x1 - 20))) + 0) 96 = true →
          Q (some (.int (ps_a s 1169 (Int32.toNatClampNeg ((ps_a s 1172 (Int32.toNatClampNeg (x1 - 20))) + 0))))) s))) ∧
    (x1 < 20 →
      (pm_in (x1 - 10) 6 = true →
        (pm_in ((ps_a s 1171 (Int32.toNatClampNeg (x1 - 10))) + 0) 96 = true →
          Q (some (.int (ps_a s 1169 (Int32.toNatClampNeg ((ps_a s 1171 (Int32.toNatClampNeg (x1 - 10))) + 0))))) s))))) : pl_At (n + 1) 296 216 [(0, .ref 1131), (1, .int x1), (2, .int x2), (4, .int x4), (5, .int x5), (6, .int x6), (7, .int x7)] [] s Q :=
  pl_wp_at (stops := [(28, [0, 1, 2, 4, 5, 6, 7]), (88, [0, 1, 2, 4, 5, 6, 7]), (127, [0, 1, 4, 5, 6]), (143, [0, 1, 2, 4, 5, 6, 7]), (178, [0, 1, 2, 4, 5, 6, 7]), (216, [0, 1, 2, 4, 5, 6, 7])]) (f := 112) h rfl

-- ProofBenchModel.quantified(III)I
theorem pl_297_0 {n : Nat} {x1 : Int32} {x2 : Int32} {x3 : Int32} {s : ps_S} {Q : Option Value → ps_S → Prop} (h :
  pl_At n 297 3 [(0, .ref 1131), (1, .int x1), (2, .int x2), (3, .int x3), (4, .int 0)] [] s Q) : pl_At (n + 1) 297 0 [(0, .ref 1131), (1, .int x1), (2, .int x2), (3, .int x3)] [] s Q :=
  pl_wp_at (stops := [(3, [0, 1, 2, 3, 4])]) (f := 4) h rfl

theorem pl_297_3 {n : Nat} {x1 : Int32} {x2 : Int32} {x3 : Int32} {x4 : Int32} {s : ps_S} {Q : Option Value → ps_S → Prop} (h :
  (x3 ≤ x4 →
    (x1 ≠ 4 →
      Q (some (.int 0)) s) ∧
    (x1 = 4 →
      Q (some (.int 1)) s)) ∧
  (x4 < x3 →
    (pm_in (x2 + x4) 10206 = true →
      (x1 ≠ 4 →
        ((ps_a s 1174 (Int32.toNatClampNeg (x2 + x4))) ≠ 1 →
          pl_At n 297 3 [(0, .ref 1131), (1, .int x1), (2, .int x2), (3, .int x3), (4, .int (x4 + 1))] [] s Q) ∧
        ((ps_a s 1174 (Int32.toNatClampNeg (x2 + x4))) = 1 →
          (x1 ≠ 4 →
            Q (some (.int 1)) s) ∧
          (x1 = 4 →
            Q (some (.int 0)) s))) ∧
      (x1 = 4 →
        ((ps_a s 1174 (Int32.toNatClampNeg (x2 + x4))) ≠ 0 →
          pl_At n 297 3 [(0, .ref 1131), (1, .int x1), (2, .int x2), (3, .int x3), (4, .int (x4 + 1))] [] s Q) ∧
        ((ps_a s 1174 (Int32.toNatClampNeg (x2 + x4))) = 0 →
          (x1 ≠ 4 →
            Q (some (.int 1)) s) ∧
          (x1 = 4 →
            Q (some (.int 0)) s)))))) : pl_At (n + 1) 297 3 [(0, .ref 1131), (1, .int x1), (2, .int x2), (3, .int x3), (4, .int x4)] [] s Q :=
  pl_wp_at (stops := [(3, [0, 1, 2, 3, 4])]) (f := 47) h rfl

/-- the parts that are wanted at a place -/
def sk (ar : Nat → Nat) (l : List Nat) : Nat → List (Nat × Nat)
  | 0 => [(0, 0)]
  | i + 1 => match sk ar l i with
    | [] => []
    | d :: S => List.replicate (ar (l.getD i 0)) (d.1 + 1, d.2 + qb (l.getD i 0)) ++ S
theorem sk_c {ar : Nat → Nat} {l : List Nat} {i c : Nat} {d : Nat × Nat} {S : List (Nat × Nat)} (h : sk ar l i = d :: S) (hc : l[i]? = some c) : sk ar l (i + 1) = List.replicate (ar c) (d.1 + 1, d.2 + qb c) ++ S := by
  show (match sk ar l i with
    | [] => []
    | d :: S => List.replicate (ar (l.getD i 0)) (d.1 + 1, d.2 + qb (l.getD i 0)) ++ S) = _
  rw [h, List.getD_eq_getElem?_getD, hc]
  rfl
/-- what is known there -/
def SKI (g : tx_g) (l : List Nat) (i : Nat) : Prop := bc (arh g) (sk (arh g) l i) (l.drop i) ∧ ∃ W : List (Bool × Nat), wf (sg g) 5 (l.drop i) W ∧ W.map Prod.snd = (sk (arh g) l i).map Prod.snd
theorem SKI_0 {g : tx_g} {l : List Nat} {b : Bool} (h1 : bc (arh g) [(0, 0)] l) (h2 : wf (sg g) 5 l [(b, 0)]) : SKI g l 0 := ⟨by rw [List.drop_zero]; exact h1, [(b, 0)], by rw [List.drop_zero]; exact h2, rfl⟩
theorem SKI_d {g : tx_g} {l : List Nat} {i : Nat} (h : SKI g l i) (hi : i < l.length) : ∃ d S, sk (arh g) l i = d :: S := by
  obtain ⟨h1, -⟩ := h
  match e : sk (arh g) l i with
  | d :: S => exact ⟨d, S, rfl⟩
  | [] =>
    rw [e] at h1
    match hl : l.drop i with
    | [] =>
      have := congrArg List.length hl
      rw [List.length_drop, List.length_nil] at this
      omega
    | c :: t =>
      rw [hl] at h1
      cases h1
theorem SKI_s {g : tx_g} {l : List Nat} {i : Nat} (hA : ArW (sg g) (arh g)) (h : SKI g l i) (hi : i < l.length) : SKI g l (i + 1) := by
  obtain ⟨d, S, e⟩ := SKI_d h hi
  obtain ⟨h1, W, h2, h3⟩ := h
  obtain ⟨c, hc⟩ : ∃ c, l[i]? = some c := ⟨_, List.getElem?_eq_getElem hi⟩
  rw [drop_c hc] at h1 h2
  rw [e] at h1 h3
  obtain ⟨bb, k, W', ks, rfl, hk, hks, h4⟩ := wf_cons.mp h2
  have hkd : k = d.2 := (List.cons.inj h3).1
  have hS : W'.map Prod.snd = S.map Prod.snd := (List.cons.inj h3).2
  unfold SKI
  rw [sk_c e hc]
  refine ⟨h1.2, _, h4, ?_⟩
  rw [List.map_append, List.map_append, hS, hA bb c ks hks]
  congr 1
  unfold kL qb
  rw [List.map_map, List.map_replicate]
  have : (Prod.snd ∘ fun b : Bool => (b, if c = 4 ∨ c = 5 then k + 1 else k)) = fun _ => (d.2 + if c = 4 ∨ c = 5 then 1 else 0) := by
    funext b
    show (if c = 4 ∨ c = 5 then k + 1 else k) = _
    rw [hkd]
    split <;> rfl
  rw [this, List.map_const']
theorem SKI_all {g : tx_g} {l : List Nat} (hA : ArW (sg g) (arh g)) (h : SKI g l 0) : ∀ i, i ≤ l.length → SKI g l i
  | 0, _ => h
  | i + 1, hi => SKI_s hA (SKI_all hA h i (by omega)) (by omega)
theorem SKI_pt {g : tx_g} {l : List Nat} {i : Nat} {d : Nat × Nat} {S : List (Nat × Nat)} (h : SKI g l i) (e : sk (arh g) l i = d :: S) : ∃ b, pt g b d.1 d.2 (l.drop i) := by
  obtain ⟨h1, W, h2, h3⟩ := h
  rw [e] at h1 h3
  match W, h2, h3 with
  | (b, q) :: W', h2, h3 =>
    have hq : q = d.2 := (List.cons.inj h3).1
    subst hq
    exact ⟨b, S, W', h1, h2⟩
/-- levels don't rise -/
def dsc : List (Nat × Nat) → Prop
  | [] => True
  | d :: S => (∀ x, x ∈ S → x.2 ≤ d.2) ∧ dsc S
theorem dsc_rep {x : Nat × Nat} {S : List (Nat × Nat)} (hS : dsc S) (hx : ∀ y, y ∈ S → y.2 ≤ x.2) : ∀ a, dsc (List.replicate a x ++ S)
  | 0 => hS
  | a + 1 => by
    rw [List.replicate_succ]
    refine ⟨fun y hy => ?_, dsc_rep hS hx a⟩
    rcases List.mem_append.mp hy with hy | hy
    · rw [(List.mem_replicate.mp hy).2]
      exact Nat.le_refl _
    · exact hx y hy
theorem sk_dsc {ar : Nat → Nat} {l : List Nat} : ∀ i, dsc (sk ar l i)
  | 0 => ⟨(fun x hx => by cases hx), trivial⟩
  | i + 1 => by
    have ih := sk_dsc (ar := ar) (l := l) i
    show dsc (match sk ar l i with
      | [] => []
      | d :: S => List.replicate (ar (l.getD i 0)) (d.1 + 1, d.2 + qb (l.getD i 0)) ++ S)
    match e : sk ar l i with
    | [] => trivial
    | d :: S =>
      rw [e] at ih
      exact dsc_rep ih.2 (fun y hy => by have := ih.1 y hy; show y.2 ≤ d.2 + _; omega) _
/-- where the first part of level q at most begins -/
def qe (ar : Nat → Nat) : Nat → List (Nat × Nat) → List Nat → Nat → Nat
  | i, [], _, _ => i
  | i, d :: S, t, q => if d.2 ≤ q then i else qe ar (i + en ar t 1) S (t.drop (en ar t 1)) q
theorem qe_ge {ar : Nat → Nat} : ∀ {S : List (Nat × Nat)} {i : Nat} {t : List Nat} {q : Nat}, i ≤ qe ar i S t q
  | [], _, _, _ => Nat.le_refl _
  | d :: S, i, t, q => by
    show i ≤ if d.2 ≤ q then i else _
    split
    · exact Nat.le_refl _
    · exact Nat.le_trans (Nat.le_add_right _ _) qe_ge
theorem qe_rep {ar : Nat → Nat} {x : Nat × Nat} {S : List (Nat × Nat)} {q : Nat} (hq : ¬ x.2 ≤ q) : ∀ {a i : Nat} {t : List Nat}, qe ar i (List.replicate a x ++ S) t q = qe ar (i + en ar t a) S (t.drop (en ar t a)) q
  | 0, i, t => by
    rw [en_0, Nat.add_zero, List.drop_zero]
    rfl
  | a + 1, i, t => by
    rw [List.replicate_succ]
    show (if x.2 ≤ q then i else qe ar (i + en ar t 1) (List.replicate a x ++ S) (t.drop (en ar t 1)) q) = _
    rw [if_neg hq, qe_rep hq, Nat.add_comm a 1, en_add, List.drop_drop, Nat.add_assoc]
theorem qe_le {ar : Nat → Nat} {S : List (Nat × Nat)} {i q : Nat} {t : List Nat} (h : ∀ x, x ∈ S → x.2 ≤ q) : qe ar i S t q = i := by
  cases S with
  | nil => rfl
  | cons d S =>
    show (if d.2 ≤ q then i else _) = i
    rw [if_pos (h d List.mem_cons_self)]
/-- the ends that are kept: one a level -/
def QL (s : ps_S) (ar : Nat → Nat) (l : List Nat) (i L : Nat) : Prop := ∀ q, q < L → (ps_a s 1150 q).toInt = (qe ar i (sk ar l i) (l.drop i) q : Nat)
section M294
variable {b to : Nat} {g : tx_g} {l : List Nat} {x1 : Int32} {s0 : ps_S} {R : ps_S → Prop}
theorem fm_294_4 (hb : b < 2) (h21 : (ps_i s0 1131 21).toInt = b) (H0 : mv_E s0 b g) (hx : x1.toInt = to) (hto : to < 27400) (W0 : mv_W s0 to l) (hS : ∀ i, i ≤ l.length → SKI g l i) (k : ∀ s', kq [1150, 1173] [] s0 s' → (∀ (j : Nat) d S, j < l.length → sk (arh g) l j = d :: S → (ps_a s' 1173 j).toInt = d.2) → R s') : ∀ (n : Nat) {s : ps_S} {x2 x3 : Int32} {i L : Nat}, x3.toInt = i → i ≤ l.length → x2.toInt = L → L ≤ 200 → (∀ d S, sk (arh g) l i = d :: S → d.2 ≤ L) → QL s (arh g) l i L → kq [1150, 1173] [] s0 s → (∀ (j : Nat) d S, j < i → sk (arh g) l j = d :: S → (ps_a s 1173 j).toInt = d.2) → pl_At n 294 4 [(0, .ref 1131), (1, .int x1), (2, .int x2), (3, .int x3)] [] s (ps_rV R)
  | 0, _, _, _, _, _, _, _, _, _, _, _, _, _ => pl_At_0
  | n + 1, s, x2, x3, i, L, h3, hi, h2, hL2, hd, hQ, K, hj => by
    have W : mv_W s to l := by unfold mv_W at *; rw [kq_a K 1134 (by decide)]; exact W0
    have h21' : (ps_i s 1131 21).toInt = b := by rw [kq_i K 21 rfl]; exact h21
    have H := mv_E_kq H0 K (by decide)
    have h40 := W.2.1
    have hA := arh_k H.2.2.1 H.2.2.2.1
    have c0 : (0 : Int32).toInt = 0 := by decide
    have c1 : (1 : Int32).toInt = 1 := by decide
    have c4 : (4 : Int32).toInt = 4 := by decide
    have c5 : (5 : Int32).toInt = 5 := by decide
    have cm : (Int32.ofInt (-1)).toInt = -1 := by decide
    refine pl_294_4 ?_
    refine fm_219c hx W (fun v1 q1 => ⟨fun z => ?_, fun z => ?_⟩)
    · have z := xle z
      have e : i = l.length := by omega
      subst e
      exact k s K hj
    · have z := xlt z
      obtain ⟨d, S, e⟩ := SKI_d (hS i hi) (by omega)
      obtain ⟨c, hc⟩ : ∃ c, l[i]? = some c := ⟨_, List.getElem?_eq_getElem (by omega)⟩
      have hS1 := hS (i + 1) (by omega)
      obtain ⟨bb, hpt⟩ := SKI_pt (hS i hi) e
      rw [drop_c hc] at hpt
      obtain ⟨hp, hq5, -, ks, hk⟩ := pt_c hpt
      have hdsc : dsc (d :: S) := by rw [← e]; exact sk_dsc i
      obtain ⟨b0, W', hws⟩ : ∃ b0 W', ws (sg g) (l.drop i) (b0 :: W') := by
        obtain ⟨S', W', -, w2⟩ := hpt
        have := wf_ws w2
        rw [List.map_cons, ← drop_c hc] at this
        exact ⟨_, _, this⟩
      have hpos := en_pos (ar := arh g) (t := l.drop i) (p := 1) (by rw [List.length_drop]; omega) (by decide)
      have qgt : ∀ q, q < d.2 → i < qe (arh g) i (d :: S) (l.drop i) q := fun q hq => by
        show i < if d.2 ≤ q then i else _
        rw [if_neg (by omega)]
        exact Nat.lt_of_lt_of_le (by omega) qe_ge
      have qeq : ∀ q, d.2 ≤ q → qe (arh g) i (d :: S) (l.drop i) q = i := fun q hq => by
        show (if d.2 ≤ q then i else _) = i
        rw [if_pos hq]
      -- behind the pops
      have at35 : ∀ (n' : Nat) {y2 : Int32}, n' ≤ n → y2.toInt = d.2 → pl_At n' 294 35 [(0, .ref 1131), (1, .int x1), (2, .int y2), (3, .int x3)] [] s (ps_rV R) := fun n' y2 hn hy => by
        cases n' with
        | zero => exact pl_At_0
        | succ n' =>
        refine pl_294_35 ?_
        intro b35
        rw [xtn h3]
        have K1 : kq [1150, 1173] [] s0 (ps_ua s 1173 i y2) := kqa K rfl
        have Ws : mv_W (ps_ua s 1173 i y2) to l := by unfold mv_W at *; rw [kq_a K1 1134 (by decide)]; exact W0
        have hj1 : ∀ (j : Nat) d' S', j < i + 1 → sk (arh g) l j = d' :: S' → (ps_a (ps_ua s 1173 i y2) 1173 j).toInt = d'.2 := fun j d' S' hji he => by
          rw [ps_a_ua]
          by_cases ej : j = i
          · rw [if_pos ⟨rfl, ej⟩]
            rw [ej, e] at he
            cases he
            exact hy
          · rw [if_neg (fun w => ej w.2)]
            exact hj j d' S' (by omega) he
        have sk1 := sk_c e hc
        have en1 : en (arh g) (l.drop i) 1 = 1 + en (arh g) (l.drop (i + 1)) (arh g c) := by rw [drop_c hc, en_c, Nat.zero_add]
        have dr1 : (l.drop (i + 1)).drop (en (arh g) (l.drop (i + 1)) (arh g c)) = (l.drop i).drop (en (arh g) (l.drop i) 1) := by
          rw [en1, List.drop_drop, List.drop_drop, Nat.add_assoc]
        have q1 : ∀ q, q < d.2 → qe (arh g) (i + 1) (sk (arh g) l (i + 1)) (l.drop (i + 1)) q = qe (arh g) i (sk (arh g) l i) (l.drop i) q := fun q hq => by
          rw [sk1, qe_rep (by show ¬ d.2 + qb c ≤ q; omega), dr1, e]
          show _ = if d.2 ≤ q then i else qe (arh g) (i + en (arh g) (l.drop i) 1) S ((l.drop i).drop (en (arh g) (l.drop i) 1)) q
          rw [if_neg (by omega), en1]
          congr 1
          omega
        have quant : (c = 4 ∨ c = 5) → pl_At n' 294 62 [(0, .ref 1131), (1, .int x1), (2, .int y2), (3, .int x3)] [] (ps_ua s 1173 i y2) (ps_rV R) := fun h45 => by
          cases n' with
          | zero => exact pl_At_0
          | succ n' =>
          refine pl_294_62 ?_
          refine fm_221 hb (by rw [kq_i K1 21 rfl]; exact h21) (mv_E_kq H0 K1 (by decide)) hx hto Ws h3 hws (fun v q => ?_)
          intro _
          rw [xtn hy]
          refine (fm_294_4 hb h21 H0 hx hto W0 hS k n (L := d.2 + 1) (xj1 h3 (by omega)) (by omega) (xj1 hy (by omega)) (by omega) (fun d' S' he => ?_) (fun q2 hq2 => ?_) (kqa K1 rfl) (fun j d' S' hji he => ?_)).le (by omega)
          · rw [sk1, qb_1 h45] at he
            have hm : d' ∈ List.replicate (arh g c) (d.1 + 1, d.2 + 1) ++ S := by rw [he]; exact List.mem_cons_self
            rcases List.mem_append.mp hm with hm | hm
            · rw [(List.mem_replicate.mp hm).2]
              exact Nat.le_refl _
            · have := hdsc.1 _ hm
              omega
          · rw [ps_a_ua]
            by_cases eq : q2 = d.2
            · rw [if_pos ⟨rfl, eq⟩, q, eq, sk1, qb_1 h45, qe_rep (by show ¬ d.2 + 1 ≤ d.2; omega), qe_le hdsc.1, en1]
              omega
            · rw [if_neg (fun w => eq w.2), ps_a_ua, if_neg (fun w => absurd w.1 (by decide)), q1 q2 (by omega)]
              exact hQ q2 (by have := hd d S e; omega)
          · rw [ps_a_ua, if_neg (fun w => absurd w.1 (by decide))]
            exact hj1 j d' S' hji he
        refine fm_220c hx hto Ws h3 hc (fun v q => ⟨fun y => ?_, fun y => ?_⟩)
        · have y := xeq y
          exact quant (by omega)
        · have y := xne y
          refine fm_220c hx hto Ws h3 hc (fun v' q' => ⟨fun y2 => ?_, fun y2 => ?_⟩)
          · have y2 := xne y2
            have hn45 : ¬ (c = 4 ∨ c = 5) := by omega
            refine (fm_294_4 hb h21 H0 hx hto W0 hS k n (L := d.2) (xj1 h3 (by omega)) (by omega) hy (by omega) (fun d' S' he => ?_) (fun q2 hq2 => ?_) K1 hj1).le (by omega)
            · rw [sk1, qb_0 hn45] at he
              have hm : d' ∈ List.replicate (arh g c) (d.1 + 1, d.2 + 0) ++ S := by rw [he]; exact List.mem_cons_self
              rcases List.mem_append.mp hm with hm | hm
              · rw [(List.mem_replicate.mp hm).2]
                exact Nat.le_refl _
              · exact hdsc.1 _ hm
            · rw [ps_a_ua, if_neg (fun w => absurd w.1 (by decide)), q1 q2 hq2]
              exact hQ q2 (by have := hd d S e; omega)
          · have y2 := xeq y2
            exact quant (by omega)
      -- the pops
      have key : ∀ (n' : Nat) {y2 : Int32} {L' : Nat}, n' ≤ n → y2.toInt = L' → d.2 ≤ L' → L' ≤ L → pl_At n' 294 13 [(0, .ref 1131), (1, .int x1), (2, .int y2), (3, .int x3)] [] s (ps_rV R) := by
        intro n'
        induction n' with
        | zero => exact fun _ _ _ _ => pl_At_0
        | succ n' ih =>
          intro y2 L' hn hy hdL hLL
          refine pl_294_13 ⟨fun w => ?_, fun w => ?_⟩
          · have w := xle w
            exact at35 n' (by omega) (by omega)
          · have w := xlt w
            intro bi
            have ei : (y2 - 1).toInt = (L' - 1 : Nat) := by rw [xIs (by omega) (by omega), hy, c1]; omega
            rw [xtn ei]
            have eQ := hQ (L' - 1) (by omega)
            rw [e] at eQ
            refine ⟨fun w2 => ?_, fun w2 => ?_⟩
            · have w2 := xlt w2
              rcases Nat.lt_or_ge (L' - 1) d.2 with a | a
              · exact at35 n' (by omega) (by omega)
              · rw [qeq _ a] at eQ
                omega
            · have w2 := xle w2
              rcases Nat.lt_or_ge (L' - 1) d.2 with a | a
              · have := qgt _ a
                omega
              · cases n' with
                | zero => exact pl_At_0
                | succ n' =>
                refine pl_294_29 ?_
                have ey : (y2 + Int32.ofInt (-1)).toInt = (L' - 1 : Nat) := by rw [xIa (by omega) (by omega), hy, cm]; omega
                generalize y2 + Int32.ofInt (-1) = yy at ey ⊢
                clear ei
                exact (ih (by omega) ey (by omega) (by omega)).le (Nat.le_succ _)
      exact key n (Nat.le_refl _) h2 (hd d S e) (Nat.le_refl _)
theorem fm_294 {n : Nat} (hb : b < 2) (h21 : (ps_i s0 1131 21).toInt = b) (H0 : mv_E s0 b g) (hx : x1.toInt = to) (hto : to < 27400) (W0 : mv_W s0 to l) (hS : ∀ i, i ≤ l.length → SKI g l i) (k : ∀ s', kq [1150, 1173] [] s0 s' → (∀ (j : Nat) d S, j < l.length → sk (arh g) l j = d :: S → (ps_a s' 1173 j).toInt = d.2) → R s') : pl_Cl n 294 [.ref 1131, .int x1] s0 (ps_rV R) := by
  cases n with
  | zero => exact pl_At_0
  | succ n =>
  show pl_At (n + 1) 294 0 [(0, .ref 1131), (1, .int x1)] [] s0 (ps_rV R)
  refine pl_294_0 ?_
  refine fm_294_4 hb h21 H0 hx hto W0 hS k n (i := 0) (L := 0) rfl (Nat.zero_le _) rfl (Nat.zero_le _) (fun d S he => ?_) (fun q hq => absurd hq (Nat.not_lt_zero _)) kq_refl (fun j d S hj => absurd hj (Nat.not_lt_zero _))
  cases he
  exact Nat.le_refl _
end M294
/-- bound things of a number, the nearest first -/
def evl (m : Nat) : Nat → Nat → List Nat
  | 0, _ => []
  | q + 1, e => (e % m) :: evl m q (e / m)
theorem evl_len {m : Nat} : ∀ {q e : Nat}, (evl m q e).length = q
  | 0, _ => rfl
  | q + 1, e => by
    show (evl m q (e / m)).length + 1 = q + 1
    rw [evl_len]
theorem evl_c {m q e x : Nat} (hx : x < m) : evl m (q + 1) (e * m + x) = x :: evl m q e := by
  show ((e * m + x) % m) :: evl m q ((e * m + x) / m) = _
  have h1 : (e * m + x) % m = x := by rw [Nat.add_comm, Nat.add_mul_mod_self_right, Nat.mod_eq_of_lt hx]
  have h2 : (e * m + x) / m = e := by rw [Nat.add_comm, Nat.add_mul_div_right _ _ (by omega), Nat.div_eq_of_lt hx, Nat.zero_add]
  rw [h1, h2]
theorem evl_at {m : Nat} : ∀ {q e k : Nat}, k < q → (evl m q e)[k]? = some (e / m ^ k % m)
  | 0, _, _, h => absurd h (Nat.not_lt_zero _)
  | q + 1, e, 0, _ => by
    rw [Nat.pow_zero, Nat.div_one]
    rfl
  | q + 1, e, k + 1, h => by
    show (evl m q (e / m))[k]? = _
    rw [evl_at (by omega), Nat.div_div_eq_div_mul, Nat.pow_succ, Nat.mul_comm m]
theorem evl_lt {m : Nat} (hm : 0 < m) {q e : Nat} : ∀ x, x ∈ evl m q e → x < m := fun x hx => by
  obtain ⟨k, hk⟩ := List.mem_iff_getElem?.mp hx
  have hl := (List.getElem?_eq_some_iff.mp hk).1
  rw [evl_len] at hl
  rw [evl_at hl] at hk
  cases hk
  exact Nat.mod_lt _ hm
/-- tables of the parts that stand, the first on top -/
def VT (gv : Nat → Int32) (m : Nat) (g : tx_g) (D fr : Nat → Nat) : List (Nat × Nat) → List Nat → Prop
  | [], _ => True
  | d :: S, t => (∀ e, e < m ^ d.2 → (gv (243 * S.length + e)).toInt = (svg m g D fr (13 - d.1) (evl m d.2 e) t : Nat)) ∧ VT gv m g D fr S (t.drop (en (arh g) t 1))
theorem VT_ext {gv gv' : Nat → Int32} {m : Nat} {g : tx_g} {D fr : Nat → Nat} : ∀ {S : List (Nat × Nat)} {t : List Nat}, VT gv m g D fr S t → (∀ j, j < 243 * S.length → gv' j = gv j) → (∀ x, x ∈ S → m ^ x.2 ≤ 243) → VT gv' m g D fr S t
  | [], _, _, _, _ => trivial
  | d :: S, t, h, k, hx => by
    rw [List.length_cons] at k
    refine ⟨fun e he => ?_, VT_ext h.2 (fun j hj => k j (by omega)) (fun x hx2 => hx x (List.mem_cons_of_mem _ hx2))⟩
    have := hx d List.mem_cons_self
    rw [k _ (by omega)]
    exact h.1 e he
theorem VT_rest {gv : Nat → Int32} {m : Nat} {g : tx_g} {D fr : Nat → Nat} : ∀ {S1 S2 : List (Nat × Nat)} {t : List Nat}, VT gv m g D fr (S1 ++ S2) t → VT gv m g D fr S2 (t.drop (en (arh g) t S1.length))
  | [], S2, t, h => by
    rw [List.length_nil, en_0, List.drop_zero]
    exact h
  | d :: S1, S2, t, h => by
    have := VT_rest (S1 := S1) h.2
    rw [List.drop_drop] at this
    rw [List.length_cons, Nat.add_comm S1.length, en_add]
    exact this
theorem md_243 {m q : Nat} (hm : m ≤ 3) (hq : q ≤ 5) : m ^ q ≤ 243 := by
  have h1 : m ^ q ≤ 3 ^ q := Nat.pow_le_pow_left hm q
  have h2 : 3 ^ q ≤ 3 ^ 5 := Nat.pow_le_pow_right (by decide) hq
  have h3 : 3 ^ 5 = 243 := by decide
  omega
theorem bit_and {a b : Int32} {x y : Nat} (ha : a.toInt = x) (hb : b.toInt = y) (hx : x ≤ 1) (hy : y ≤ 1) : (a &&& b).toInt = (sv_b 1 x y : Nat) ∧ (a ||| b).toInt = (sv_b 2 x y : Nat) ∧ (((1 : Int32) - a) ||| b).toInt = (sv_b 3 x y : Nat) := by
  rw [xnI ha, xnI hb]
  rcases (show x = 0 ∨ x = 1 by omega) with rfl | rfl <;> rcases (show y = 0 ∨ y = 1 by omega) with rfl | rfl <;> decide
section M297
variable {s : ps_S} {R : Int32 → ps_S → Prop}
theorem fm_297_3 {c f m : Nat} {fv : Nat → Nat} {x1 x2 x3 : Int32} (h1 : x1.toInt = c) (h2 : x2.toInt = f) (hf : f < 10206) (h3 : x3.toInt = m) (hm : m ≤ 3) (hv : ∀ x, x < m → (ps_a s 1174 (f + x)).toInt = fv x ∧ fv x ≤ 1) (hc : c = 4 ∨ c = 5) (k : ∀ v : Int32, v.toInt = (sv_q c ((List.range m).map fv) : Nat) → R v s) : ∀ (n : Nat) {x4 : Int32} {j : Nat}, x4.toInt = j → (∀ x, x < j → (c = 4 → fv x = 1) ∧ (¬ c = 4 → ¬ fv x = 1)) → pl_At n 297 3 [(0, .ref 1131), (1, .int x1), (2, .int x2), (3, .int x3), (4, .int x4)] [] s (ps_rI R)
  | 0, _, _, _, _ => pl_At_0
  | n + 1, x4, j, h4, hj => by
    have c4 : (4 : Int32).toInt = 4 := by decide
    have c1 : (1 : Int32).toInt = 1 := by decide
    have c0 : (0 : Int32).toInt = 0 := by decide
    obtain ⟨w1, w2⟩ := sv_q1 (m := m) (c := c) (f := fv)
    have hq := sv_q_le (c := c) (vs := (List.range m).map fv)
    refine pl_297_3 ⟨fun z => ⟨fun y => ?_, fun y => ?_⟩, fun z => ?_⟩
    · have z := xle z
      have y := xne y
      refine k _ ?_
      have : ¬ sv_q c ((List.range m).map fv) = 1 := fun a => by
        obtain ⟨x, hx, e⟩ := (w2 (by omega)).mp a
        exact (hj x (by omega)).2 (by omega) e
      show (0 : Int32).toInt = _
      omega
    · have z := xle z
      have y := xeq y
      refine k _ ?_
      have : sv_q c ((List.range m).map fv) = 1 := (w1 (by omega)).mpr (fun x hx => (hj x (by omega)).1 (by omega))
      rw [this]
      rfl
    · have z := xlt z
      obtain ⟨e1, e2⟩ := hv j (by omega)
      have ei : (x2 + x4).toInt = (f + j : Nat) := by rw [xIa (by omega) (by omega), h2, h4]; rfl
      intro _
      rw [xtn ei]
      refine ⟨fun y => ⟨fun y2 => ?_, fun y2 => ⟨fun _ => ?_, fun a => absurd a y⟩⟩, fun y => ⟨fun y2 => ?_, fun y2 => ⟨fun a => absurd y a, fun _ => ?_⟩⟩⟩
      · have y := xne y
        have y2 := xne y2
        refine fm_297_3 h1 h2 hf h3 hm hv hc k n (xj1 h4 (by omega)) (fun x hx => ?_)
        rcases Nat.lt_or_ge x j with a | a
        · exact hj x a
        · rw [show x = j from by omega]
          exact ⟨fun b => by omega, fun _ => by omega⟩
      · have y := xne y
        have y2 := xeq y2
        refine k _ ?_
        rw [(w2 (by omega)).mpr ⟨j, by omega, by omega⟩]
        rfl
      · have y := xeq y
        have y2 := xne y2
        refine fm_297_3 h1 h2 hf h3 hm hv hc k n (xj1 h4 (by omega)) (fun x hx => ?_)
        rcases Nat.lt_or_ge x j with a | a
        · exact hj x a
        · rw [show x = j from by omega]
          exact ⟨fun _ => by omega, fun b => by omega⟩
      · have y := xeq y
        have y2 := xeq y2
        refine k _ ?_
        have : ¬ sv_q c ((List.range m).map fv) = 1 := fun a => by
          have := (w1 (by omega)).mp a j (by omega)
          omega
        show (0 : Int32).toInt = _
        omega
end M297

