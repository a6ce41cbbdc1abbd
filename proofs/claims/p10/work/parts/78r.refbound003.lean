set_option maxRecDepth 100000
theorem pl_257_67 {n : Nat} {x1 : Int32} {x2 : Int32} {x5 : Int32} {s : ps_S} {Q : Option Value → ps_S → Prop} (h :
  (pm_in x1 40 = true →
    (pm_in (ps_a s 1153 (Int32.toNatClampNeg x1)) 41 = true →
      ((ps_a s 1157 (Int32.toNatClampNeg (ps_a s 1153 (Int32.toNatClampNeg x1)))) ≤ x5 →
        (pm_in x1 40 = true →
          pl_Cl n 232 [.ref 1131, .int x2, .int (ps_a s 1156 (Int32.toNatClampNeg x1))] s (ps_rV (fun s1 =>
            pl_At n 257 281 [(0, .ref 1131), (1, .int x1)] [] s1 Q)))) ∧
      (x5 < (ps_a s 1157 (Int32.toNatClampNeg (ps_a s 1153 (Int32.toNatClampNeg x1)))) →
        (pm_in x1 40 = true →
          pl_Cl n 243 [.int (ps_a s 1153 (Int32.toNatClampNeg x1)), .int x5] s (ps_rI (fun v2 s2 =>
            (pm_in x1 40 = true →
              pl_Cl n 223 [.ref 1131, .int v2, .int (ps_a s2 1156 (Int32.toNatClampNeg x1))] s2 (ps_rI (fun v3 s3 =>
                (v3 = 0 →
                  pl_At n 257 67 [(0, .ref 1131), (1, .int x1), (2, .int x2), (5, .int (x5 + 1))] [] s3 Q) ∧
                (v3 ≠ 0 →
                  pl_Cl n 241 [.ref 1131, .int 3] s3 (ps_rV (fun s4 =>
                    pl_At n 257 67 [(0, .ref 1131), (1, .int x1), (2, .int x2), (5, .int (x5 + 1))] [] s4 Q))))))))))))) : pl_At (n + 1) 257 67 [(0, .ref 1131), (1, .int x1), (2, .int x2), (5, .int x5)] [] s Q :=
  pl_wp_at (stops := [(67, [0, 1, 2, 5]), (177, [0, 1, 2, 4]), (195, [0, 1, 4]), (200, [0, 1, 4]), (275, [0, 1, 4]), (281, [0, 1])]) (f := 39) h rfl


theorem pl_257_177 {n : Nat} {x1 : Int32} {x2 : Int32} {x4 : Int32} {s : ps_S} {Q : Option Value → ps_S → Prop} (h :
  pl_Cl n 247 [.ref 1131, .int x4] s (ps_rI (fun v1 s1 =>
    (v1 ≠ 5 →
      pl_At n 257 195 [(0, .ref 1131), (1, .int x1), (4, .int x4)] [] s1 Q) ∧
    (v1 = 5 →
      pl_Cl n 230 [.ref 1131, .int x2] s1 (ps_rI (fun v2 s2 =>
        (v2 ≠ 0 →
          pl_At n 257 200 [(0, .ref 1131), (1, .int x1), (4, .int x4)] [] s2 Q) ∧
        (v2 = 0 →
          pl_At n 257 195 [(0, .ref 1131), (1, .int x1), (4, .int x4)] [] s2 Q))))))) : pl_At (n + 1) 257 177 [(0, .ref 1131), (1, .int x1), (2, .int x2), (4, .int x4)] [] s Q :=
  pl_wp_at (stops := [(67, [0, 1, 2, 5]), (177, [0, 1, 2, 4]), (195, [0, 1, 4]), (200, [0, 1, 4]), (275, [0, 1, 4]), (281, [0, 1])]) (f := 11) h rfl


theorem pl_257_195 {n : Nat} {x1 : Int32} {x4 : Int32} {s : ps_S} {Q : Option Value → ps_S → Prop} (h :
  pl_Cl n 241 [.ref 1131, .int 4] s (ps_rV (fun s1 =>
    pl_At n 257 200 [(0, .ref 1131), (1, .int x1), (4, .int x4)] [] s1 Q))) : pl_At (n + 1) 257 195 [(0, .ref 1131), (1, .int x1), (4, .int x4)] [] s Q :=
  pl_wp_at (stops := [(67, [0, 1, 2, 5]), (177, [0, 1, 2, 4]), (195, [0, 1, 4]), (200, [0, 1, 4]), (275, [0, 1, 4]), (281, [0, 1])]) (f := 5) h rfl


theorem pl_257_200 {n : Nat} {x1 : Int32} {x4 : Int32} {s : ps_S} {Q : Option Value → ps_S → Prop} (h :
  pl_Cl n 227 [.ref 1131, .int x4] (ps_ui s 1131 34 0) (ps_rV (fun s1 =>
    pl_At n 257 281 [(0, .ref 1131), (1, .int x1)] [] s1 Q))) : pl_At (n + 1) 257 200 [(0, .ref 1131), (1, .int x1), (4, .int x4)] [] s Q :=
  pl_wp_at (stops := [(67, [0, 1, 2, 5]), (177, [0, 1, 2, 4]), (195, [0, 1, 4]), (200, [0, 1, 4]), (275, [0, 1, 4]), (281, [0, 1])]) (f := 9) h rfl


theorem pl_257_275 {n : Nat} {x1 : Int32} {x4 : Int32} {s : ps_S} {Q : Option Value → ps_S → Prop} (h :
  pl_Cl n 227 [.ref 1131, .int x4] s (ps_rV (fun s1 =>
    pl_At n 257 281 [(0, .ref 1131), (1, .int x1)] [] s1 Q))) : pl_At (n + 1) 257 275 [(0, .ref 1131), (1, .int x1), (4, .int x4)] [] s Q :=
  pl_wp_at (stops := [(67, [0, 1, 2, 5]), (177, [0, 1, 2, 4]), (195, [0, 1, 4]), (200, [0, 1, 4]), (275, [0, 1, 4]), (281, [0, 1])]) (f := 5) h rfl

