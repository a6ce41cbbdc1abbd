set_option maxRecDepth 100000
theorem pl_258_72 {n : Nat} {x1 : Int32} {x3 : Int32} {s : ps_S} {Q : Option Value → ps_S → Prop} (h :
  (pm_in x1 40 = true →
    (pm_in (ps_a s 1154 (Int32.toNatClampNeg x1)) 41 = true →
      ((ps_a s 1157 (Int32.toNatClampNeg (ps_a s 1154 (Int32.toNatClampNeg x1)))) ≤ x3 →
        (pm_in x1 40 = true →
          pl_Cl n 249 [.ref 1131, .int x1, .int (ps_a s 1153 (Int32.toNatClampNeg x1)), .int 0] s (ps_rV (fun s1 =>
            (pm_in x1 40 = true →
              pl_Cl n 249 [.ref 1131, .int x1, .int (ps_a s1 1154 (Int32.toNatClampNeg x1)), .int 1] s1 (ps_rV (fun s2 =>
                pl_Cl n 245 [.ref 1131, .int x1] (ps_ui s2 1131 34 0) (ps_rI (fun v3 s3 =>
                  pl_Cl n 227 [.ref 1131, .int v3] s3 (ps_rV (fun s4 =>
                    Q none s4))))))))))) ∧
      (x3 < (ps_a s 1157 (Int32.toNatClampNeg (ps_a s 1154 (Int32.toNatClampNeg x1)))) →
        (pm_in x1 40 = true →
          pl_Cl n 243 [.int (ps_a s 1154 (Int32.toNatClampNeg x1)), .int x3] s (ps_rI (fun v5 s5 =>
            pl_Cl n 230 [.ref 1131, .int v5] s5 (ps_rI (fun v6 s6 =>
              (v6 ≠ 0 →
                pl_At n 258 72 [(0, .ref 1131), (1, .int x1), (3, .int (x3 + 1))] [] s6 Q) ∧
              (v6 = 0 →
                (pm_in x1 40 = true →
                  pl_Cl n 223 [.ref 1131, .int v5, .int (ps_a s6 1156 (Int32.toNatClampNeg x1))] s6 (ps_rI (fun v7 s7 =>
                    (v7 = 0 →
                      pl_At n 258 72 [(0, .ref 1131), (1, .int x1), (3, .int (x3 + 1))] [] s7 Q) ∧
                    (v7 ≠ 0 →
                      pl_Cl n 241 [.ref 1131, .int 3] s7 (ps_rV (fun s8 =>
                        pl_At n 258 72 [(0, .ref 1131), (1, .int x1), (3, .int (x3 + 1))] [] s8 Q)))))))))))))))) : pl_At (n + 1) 258 72 [(0, .ref 1131), (1, .int x1), (3, .int x3)] [] s Q :=
  pl_wp_at (stops := [(53, [0, 1, 2]), (58, [0, 1, 2]), (72, [0, 1, 3])]) (f := 64) h rfl

