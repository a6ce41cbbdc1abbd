set_option maxRecDepth 100000
-- ProofBenchModel.rewrites()Z
theorem pl_287_0 {n : Nat} {s : ps_S} {Q : Option Value → ps_S → Prop} (h :
  pl_At n 287 2 [(0, .ref 1131), (1, .int 0)] [] s Q) : pl_At (n + 1) 287 0 [(0, .ref 1131)] [] s Q :=
  pl_wp_at (stops := [(2, [0, 1]), (15, [0, 1, 2]), (77, [0, 3, 4])]) (f := 4) h rfl


theorem pl_287_2 {n : Nat} {x1 : Int32} {s : ps_S} {Q : Option Value → ps_S → Prop} (h :
  pl_Cl n 219 [.ref 1131, .int 25789] s (ps_rI (fun v1 s1 =>
    (v1 ≤ x1 →
      Q (some (.int 0)) s1) ∧
    (x1 < v1 →
      pl_At n 287 15 [(0, .ref 1131), (1, .int x1), (2, .int 0)] [] s1 Q)))) : pl_At (n + 1) 287 2 [(0, .ref 1131), (1, .int x1)] [] s Q :=
  pl_wp_at (stops := [(2, [0, 1]), (15, [0, 1, 2]), (77, [0, 3, 4])]) (f := 11) h rfl


theorem pl_287_15 {n : Nat} {x1 : Int32} {x2 : Int32} {s : ps_S} {Q : Option Value → ps_S → Prop} (h :
  (pm_in (ps_i s 1131 21) 2 = true →
    ((ps_a s 1137 (Int32.toNatClampNeg (ps_i s 1131 21))) ≤ x2 →
      pl_At n 287 2 [(0, .ref 1131), (1, .int (x1 + 1))] [] s Q) ∧
    (x2 < (ps_a s 1137 (Int32.toNatClampNeg (ps_i s 1131 21))) →
      pl_Cl n 284 [.ref 1131, .int x2] s (ps_rI (fun v1 s1 =>
        (v1 = 0 →
          pl_At n 287 15 [(0, .ref 1131), (1, .int x1), (2, .int (x2 + 1))] [] s1 Q) ∧
        (v1 ≠ 0 →
          pl_Cl n 286 [.ref 1131, .int x2, .int x1] s1 (ps_rI (fun v2 s2 =>
            (v2 ≠ 0 →
              pl_Cl n 283 [.int (ps_i s2 1131 21), .int x2] s2 (ps_rI (fun v3 s3 =>
                pl_Cl n 226 [.ref 1131, .int 25789, .int 0, .int x1] (ps_ui s3 1131 34 0) (ps_rV (fun s4 =>
                  pl_At n 287 77 [(0, .ref 1131), (3, .int v3), (4, .int (ps_i s4 1131 64))] [] s4 Q))))) ∧
            (v2 = 0 →
              pl_At n 287 15 [(0, .ref 1131), (1, .int x1), (2, .int (x2 + 1))] [] s2 Q))))))))) : pl_At (n + 1) 287 15 [(0, .ref 1131), (1, .int x1), (2, .int x2)] [] s Q :=
  pl_wp_at (stops := [(2, [0, 1]), (15, [0, 1, 2]), (77, [0, 3, 4])]) (f := 41) h rfl


theorem pl_287_77 {n : Nat} {x3 : Int32} {x4 : Int32} {s : ps_S} {Q : Option Value → ps_S → Prop} (h :
  pl_Cl n 219 [.ref 1131, .int x3] s (ps_rI (fun v1 s1 =>
    (v1 ≤ x4 →
      pl_Cl n 219 [.ref 1131, .int 25789] s1 (ps_rI (fun v2 s2 =>
        pl_Cl n 226 [.ref 1131, .int 25789, .int (ps_i s1 1131 65), .int v2] s2 (ps_rV (fun s3 =>
          Q (some (.int 1)) s3))))) ∧
    (x4 < v1 →
      pl_Cl n 220 [.ref 1131, .int x3, .int x4] s1 (ps_rI (fun v4 s4 =>
        (40 ≤ v4 →
          (pm_in (v4 - 40) 20 = true →
            (pm_in (v4 - 40) 20 = true →
              pl_Cl n 226 [.ref 1131, .int 25789, .int (ps_a s4 1167 (Int32.toNatClampNeg (v4 - 40))), .int (ps_a s4 1168 (Int32.toNatClampNeg (v4 - 40)))] s4 (ps_rV (fun s5 =>
                pl_At n 287 77 [(0, .ref 1131), (3, .int x3), (4, .int (x4 + 1))] [] s5 Q))))) ∧
        (v4 < 40 →
          pl_Cl n 225 [.ref 1131, .int v4] s4 (ps_rV (fun s6 =>
            pl_At n 287 77 [(0, .ref 1131), (3, .int x3), (4, .int (x4 + 1))] [] s6 Q))))))))) : pl_At (n + 1) 287 77 [(0, .ref 1131), (3, .int x3), (4, .int x4)] [] s Q :=
  pl_wp_at (stops := [(2, [0, 1]), (15, [0, 1, 2]), (77, [0, 3, 4])]) (f := 48) h rfl


-- ProofBenchModel.rewrite()I
theorem pl_288_0 {n : Nat} {s : ps_S} {Q : Option Value → ps_S → Prop} (h :
  pl_Cl n 198 [.ref 1131] s (ps_rV (fun s1 =>
    pl_Cl n 209 [.ref 1131, .int 25789, .int 0, .int 0] s1 (ps_rV (fun s2 =>
      pl_Cl n 192 [.ref 1131] s2 (ps_rI (fun v3 s3 =>
        (v3 = 0 →
          pl_At n 288 31 [(0, .ref 1131)] [] s3 Q) ∧
        (v3 ≠ 0 →
          ((ps_i s3 1131 9) = 0 →
            pl_At n 288 31 [(0, .ref 1131)] [] s3 Q) ∧
          ((ps_i s3 1131 9) ≠ 0 →
            pl_Cl n 196 [.ref 1131] s3 (ps_rV (fun s4 =>
              pl_At n 288 31 [(0, .ref 1131)] [] s4 Q))))))))))) : pl_At (n + 1) 288 0 [(0, .ref 1131)] [] s Q :=
  pl_wp_at (stops := [(31, [0]), (51, [0, 1])]) (f := 17) h rfl

