set_option maxRecDepth 100000
theorem pl_56_46 {n : Nat} {r1 : Nat} {r2 : Nat} {r3 : Nat} {x4 : Int32} {x5 : Int32} {x6 : Int32} {x7 : Int32} {x8 : Int32} {x9 : Int32} {s : ps_S} {Q : Option Value → ps_S → Prop} (h :
  (40 ≤ x9 →
    pl_At n 56 149 [(1, .ref r1), (3, .ref r3), (7, .int x7), (8, .int x8)] [] s Q) ∧
  (x9 < 40 →
    pl_nk (ps_is r1 5) (((ps_i s r1 1) ≤ x7 →
      pl_At n 56 149 [(1, .ref r1), (3, .ref r3), (7, .int x7), (8, .int x8)] [] s Q) ∧
    (x7 < (ps_i s r1 1) →
      pl_nk (ps_is r3 5) (((ps_i s r3 1) ≤ x8 →
        pl_At n 56 149 [(1, .ref r1), (3, .ref r3), (7, .int x7), (8, .int x8)] [] s Q) ∧
      (x8 < (ps_i s r3 1) →
        pl_Cl n 99 [.ref r2, .int 1, .int x4, .ref r3, .int x8] s (ps_rI (fun v1 s1 =>
          (v1 = 0 →
            pl_At n 56 117 [(1, .ref r1), (2, .ref r2), (3, .ref r3), (4, .int x4), (5, .int x5), (6, .int x6), (7, .int x7), (8, .int x8), (9, .int x9)] [] s1 Q) ∧
          (v1 ≠ 0 →
            pl_nk (ps_is r2 5) (pl_Cl n 99 [.ref r2, .int x4, .int (ps_i s1 r2 1), .ref r1, .int x7] s1 (ps_rI (fun v2 s2 =>
              (v2 = 0 →
                pl_At n 56 117 [(1, .ref r1), (2, .ref r2), (3, .ref r3), (4, .int x4), (5, .int x5), (6, .int x6), (7, .int x7), (8, .int x8), (9, .int x9)] [] s2 Q) ∧
              (v2 ≠ 0 →
                pl_At n 56 46 [(1, .ref r1), (2, .ref r2), (3, .ref r3), (4, .int x4), (5, .int x5), (6, .int x6), (7, .int (x7 + x6)), (8, .int (x8 + x5)), (9, .int (x9 + 1))] [] s2 Q))))))))))))) : pl_At (n + 1) 56 46 [(1, .ref r1), (2, .ref r2), (3, .ref r3), (4, .int x4), (5, .int x5), (6, .int x6), (7, .int x7), (8, .int x8), (9, .int x9)] [] s Q :=
  pl_wp_at (stops := [(46, [1, 2, 3, 4, 5, 6, 7, 8, 9]), (117, [1, 2, 3, 4, 5, 6, 7, 8, 9]), (149, [1, 3, 7, 8])]) (f := 39) h rfl

