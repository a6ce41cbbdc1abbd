set_option maxRecDepth 100000
theorem pl_256_42 {n : Nat} {x1 : Int32} {x2 : Int32} {x3 : Int32} {s : ps_S} {Q : Option Value → ps_S → Prop} (h :
  pl_Cl n 241 [.ref 1131, .int 2] s (ps_rV (fun s1 =>
    pl_At n 256 47 [(0, .ref 1131), (1, .int x1), (2, .int x2), (3, .int x3)] [] s1 Q))) : pl_At (n + 1) 256 42 [(0, .ref 1131), (1, .int x1), (2, .int x2), (3, .int x3)] [] s Q :=
  pl_wp_at (stops := [(42, [0, 1, 2, 3]), (47, [0, 1, 2, 3])]) (f := 5) h rfl


theorem pl_256_47 {n : Nat} {x1 : Int32} {x2 : Int32} {x3 : Int32} {s : ps_S} {Q : Option Value → ps_S → Prop} (h :
  (x3 ≠ 0 →
    pl_Cl n 221 [.ref 1131, .int x2, .int 1] s (ps_rI (fun v1 s1 =>
      (pm_in x1 40 = true →
        pl_Cl n 249 [.ref 1131, .int x1, .int (ps_a s1 1153 (Int32.toNatClampNeg x1)), .int 0] s1 (ps_rV (fun s2 =>
          pl_Cl n 226 [.ref 1131, .int x2, .int 1, .int v1] s2 (ps_rV (fun s3 =>
            (pm_in x1 40 = true →
              pl_Cl n 249 [.ref 1131, .int x1, .int (ps_a s3 1154 (Int32.toNatClampNeg x1)), .int 1] s3 (ps_rV (fun s4 =>
                pl_Cl n 219 [.ref 1131, .int x2] (ps_ui s4 1131 34 0) (ps_rI (fun v5 s5 =>
                  pl_Cl n 226 [.ref 1131, .int x2, .int v1, .int v5] s5 (ps_rV (fun s6 =>
                    (pm_in x1 40 = true →
                      pl_Cl n 249 [.ref 1131, .int x1, .int (ps_a s6 1155 (Int32.toNatClampNeg x1)), .int 1] s6 (ps_rV (fun s7 =>
                        pl_Cl n 245 [.ref 1131, .int x1] (ps_ui s7 1131 34 0) (ps_rI (fun v8 s8 =>
                          pl_Cl n 227 [.ref 1131, .int v8] s8 (ps_rV (fun s9 =>
                            Q none s9)))))))))))))))))))))) ∧
  (x3 = 0 →
    Q none s)) : pl_At (n + 1) 256 47 [(0, .ref 1131), (1, .int x1), (2, .int x2), (3, .int x3)] [] s Q :=
  pl_wp_at (stops := [(42, [0, 1, 2, 3]), (47, [0, 1, 2, 3])]) (f := 58) h rfl

