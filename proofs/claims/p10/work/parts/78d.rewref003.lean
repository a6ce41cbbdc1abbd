set_option maxRecDepth 100000
theorem pl_286_42 {n : Nat} {x3 : Int32} {x4 : Int32} {x5 : Int32} {s : ps_S} {Q : Option Value → ps_S → Prop} (h :
  ((ps_i s 1131 64) ≤ x5 →
    Q (some (.int 1)) (ps_ui s 1131 65 x4)) ∧
  (x5 < (ps_i s 1131 64) →
    pl_Cl n 220 [.ref 1131, .int x3, .int x5] s (ps_rI (fun v1 s1 =>
      (40 ≤ v1 →
        pl_Cl n 221 [.ref 1131, .int 25789, .int x4] s1 (ps_rI (fun v2 s2 =>
          (pm_in (v1 - 40) 20 = true →
            ((ps_a s2 1167 (Int32.toNatClampNeg (v1 - 40))) < 0 →
              (pm_in (v1 - 40) 20 = true →
                (pm_in (v1 - 40) 20 = true →
                  pl_At n 286 42 [(0, .ref 1131), (3, .int x3), (4, .int v2), (5, .int (x5 + 1))] [] (ps_ua (ps_ua s2 1167 (Int32.toNatClampNeg (v1 - 40)) x4) 1168 (Int32.toNatClampNeg (v1 - 40)) v2) Q))) ∧
            (0 ≤ (ps_a s2 1167 (Int32.toNatClampNeg (v1 - 40))) →
              (pm_in (v1 - 40) 20 = true →
                (pm_in (v1 - 40) 20 = true →
                  (((ps_a s2 1168 (Int32.toNatClampNeg (v1 - 40))) - (ps_a s2 1167 (Int32.toNatClampNeg (v1 - 40)))) ≠ (v2 - x4) →
                    Q (some (.int 0)) s2) ∧
                  (((ps_a s2 1168 (Int32.toNatClampNeg (v1 - 40))) - (ps_a s2 1167 (Int32.toNatClampNeg (v1 - 40)))) = (v2 - x4) →
                    (pm_in (v1 - 40) 20 = true →
                      pl_Cl n 259 [.ref 1131, .int 25789, .int x4, .int (v2 - x4), .int 25789, .int (ps_a s2 1167 (Int32.toNatClampNeg (v1 - 40)))] s2 (ps_rI (fun v3 s3 =>
                        (v3 ≠ 0 →
                          (pm_in (v1 - 40) 20 = true →
                            (pm_in (v1 - 40) 20 = true →
                              pl_At n 286 42 [(0, .ref 1131), (3, .int x3), (4, .int v2), (5, .int (x5 + 1))] [] (ps_ua (ps_ua s3 1167 (Int32.toNatClampNeg (v1 - 40)) x4) 1168 (Int32.toNatClampNeg (v1 - 40)) v2) Q))) ∧
                        (v3 = 0 →
                          Q (some (.int 0)) s3)))))))))))) ∧
      (v1 < 40 →
        pl_Cl n 220 [.ref 1131, .int 25789, .int x4] s1 (ps_rI (fun v4 s4 =>
          (v4 = v1 →
            pl_At n 286 42 [(0, .ref 1131), (3, .int x3), (4, .int (x4 + 1)), (5, .int (x5 + 1))] [] s4 Q) ∧
          (v4 ≠ v1 →
            Q (some (.int 0)) s4)))))))) : pl_At (n + 1) 286 42 [(0, .ref 1131), (3, .int x3), (4, .int x4), (5, .int x5)] [] s Q :=
  pl_wp_at (stops := [(12, [0, 2, 3, 4]), (42, [0, 3, 4, 5])]) (f := 103) h rfl

