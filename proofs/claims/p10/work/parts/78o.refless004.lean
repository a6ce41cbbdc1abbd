set_option maxRecDepth 100000
theorem pl_255_207 {n : Nat} {x1 : Int32} {x2 : Int32} {x3 : Int32} {s : ps_S} {Q : Option Value → ps_S → Prop} (h :
  (pm_in x1 40 = true →
    (pm_in x1 40 = true →
      ((ps_a s 1152 (Int32.toNatClampNeg x1)) = 17 →
        pl_Cl n 249 [.ref 1131, .int x1, .int (ps_a s 1153 (Int32.toNatClampNeg x1)), .int 0] s (ps_rV (fun s1 =>
          (pm_in x1 40 = true →
            ((ps_a (ps_ui s1 1131 34 0) 1152 (Int32.toNatClampNeg x1)) ≠ 10 →
              pl_At n 255 255 [(0, .ref 1131), (1, .int x1), (2, .int x2), (3, .int x3)] [] (ps_ui s1 1131 34 0) Q) ∧
            ((ps_a (ps_ui s1 1131 34 0) 1152 (Int32.toNatClampNeg x1)) = 10 →
              pl_Cl n 225 [.ref 1131, .int 3] (ps_ui s1 1131 34 0) (ps_rV (fun s2 =>
                pl_At n 255 255 [(0, .ref 1131), (1, .int x1), (2, .int x2), (3, .int x3)] [] s2 Q))))))) ∧
      ((ps_a s 1152 (Int32.toNatClampNeg x1)) ≠ 17 →
        pl_Cl n 249 [.ref 1131, .int x1, .int (ps_a s 1153 (Int32.toNatClampNeg x1)), .int 1] s (ps_rV (fun s3 =>
          (pm_in x1 40 = true →
            ((ps_a (ps_ui s3 1131 34 0) 1152 (Int32.toNatClampNeg x1)) ≠ 10 →
              pl_At n 255 255 [(0, .ref 1131), (1, .int x1), (2, .int x2), (3, .int x3)] [] (ps_ui s3 1131 34 0) Q) ∧
            ((ps_a (ps_ui s3 1131 34 0) 1152 (Int32.toNatClampNeg x1)) = 10 →
              pl_Cl n 225 [.ref 1131, .int 3] (ps_ui s3 1131 34 0) (ps_rV (fun s4 =>
                pl_At n 255 255 [(0, .ref 1131), (1, .int x1), (2, .int x2), (3, .int x3)] [] s4 Q)))))))))) : pl_At (n + 1) 255 207 [(0, .ref 1131), (1, .int x1), (2, .int x2), (3, .int x3)] [] s Q :=
  pl_wp_at (stops := [(89, [0, 1, 2, 4]), (94, [0, 1, 2, 4]), (116, [0, 1]), (165, [0, 1, 2, 3]), (181, [0, 1, 2, 3]), (207, [0, 1, 2, 3]), (255, [0, 1, 2, 3])]) (f := 43) h rfl

