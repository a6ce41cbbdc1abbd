set_option maxRecDepth 100000
theorem pl_214_23 {n : Nat} {x1 : Int32} {x2 : Int32} {x3 : Int32} {s : ps_S} {Q : Option Value → ps_S → Prop} (h :
  (x3 = 0 →
    (x2 < 0 →
      pl_At n 214 84 [(0, .ref 1131), (1, .int x1), (2, .int x2), (3, .int x3), (4, .int 1), (5, .int 1)] [] s Q) ∧
    (0 ≤ x2 →
      (40 < ((ps_i s 1131 31) + 1) →
        pl_At n 214 84 [(0, .ref 1131), (1, .int x1), (2, .int x2), (3, .int x3), (4, .int 1), (5, .int 1)] [] s Q) ∧
      (((ps_i s 1131 31) + 1) ≤ 40 →
        (12 < (((ps_i s 1131 29) + 1) - 1) →
          pl_At n 214 84 [(0, .ref 1131), (1, .int x1), (2, .int x2), (3, .int x3), (4, .int 1), (5, .int 1)] [] s Q) ∧
        ((((ps_i s 1131 29) + 1) - 1) ≤ 12 →
          ((1 : Int32) = 0 →
            pl_At n 214 88 [(0, .ref 1131), (1, .int x1), (2, .int x2), (3, .int x3), (4, .int 1), (5, .int 1)] [] s Q) ∧
          ((1 : Int32) ≠ 0 →
            ((ps_i s 1131 30) ≤ 4 →
              pl_At n 214 88 [(0, .ref 1131), (1, .int x1), (2, .int x2), (3, .int x3), (4, .int 1), (5, .int 1)] [] s Q) ∧
            (4 < (ps_i s 1131 30) →
              pl_At n 214 84 [(0, .ref 1131), (1, .int x1), (2, .int x2), (3, .int x3), (4, .int 1), (5, .int 1)] [] s Q)))))) ∧
  (x3 ≠ 0 →
    (x2 < 0 →
      pl_At n 214 84 [(0, .ref 1131), (1, .int x1), (2, .int x2), (3, .int x3), (4, .int 1), (5, .int 2)] [] s Q) ∧
    (0 ≤ x2 →
      (40 < ((ps_i s 1131 31) + 2) →
        pl_At n 214 84 [(0, .ref 1131), (1, .int x1), (2, .int x2), (3, .int x3), (4, .int 1), (5, .int 2)] [] s Q) ∧
      (((ps_i s 1131 31) + 2) ≤ 40 →
        (12 < (((ps_i s 1131 29) + 2) - 1) →
          pl_At n 214 84 [(0, .ref 1131), (1, .int x1), (2, .int x2), (3, .int x3), (4, .int 1), (5, .int 2)] [] s Q) ∧
        ((((ps_i s 1131 29) + 2) - 1) ≤ 12 →
          ((1 : Int32) = 0 →
            pl_At n 214 88 [(0, .ref 1131), (1, .int x1), (2, .int x2), (3, .int x3), (4, .int 1), (5, .int 2)] [] s Q) ∧
          ((1 : Int32) ≠ 0 →
            ((ps_i s 1131 30) ≤ 4 →
              pl_At n 214 88 [(0, .ref 1131), (1, .int x1), (2, .int x2), (3, .int x3), (4, .int 1), (5, .int 2)] [] s Q) ∧
            (4 < (ps_i s 1131 30) →
              pl_At n 214 84 [(0, .ref 1131), (1, .int x1), (2, .int x2), (3, .int x3), (4, .int 1), (5, .int 2)] [] s Q))))))) : pl_At (n + 1) 214 23 [(0, .ref 1131), (1, .int x1), (2, .int x2), (3, .int x3)] [] s Q :=
  pl_wp_at (stops := [(23, [0, 1, 2, 3]), (84, [0, 1, 2, 3, 4, 5]), (88, [0, 1, 2, 3, 4, 5]), (133, [0])]) (f := 56) h rfl

