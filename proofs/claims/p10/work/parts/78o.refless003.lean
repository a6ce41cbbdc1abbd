set_option maxRecDepth 100000
theorem pl_255_89 {n : Nat} {x1 : Int32} {x2 : Int32} {x4 : Int32} {s : ps_S} {Q : Option Value → ps_S → Prop} (h :
  pl_Cl n 241 [.ref 1131, .int 2] s (ps_rV (fun s1 =>
    pl_At n 255 94 [(0, .ref 1131), (1, .int x1), (2, .int x2), (4, .int x4)] [] s1 Q))) : pl_At (n + 1) 255 89 [(0, .ref 1131), (1, .int x1), (2, .int x2), (4, .int x4)] [] s Q :=
  pl_wp_at (stops := [(89, [0, 1, 2, 4]), (94, [0, 1, 2, 4]), (116, [0, 1]), (165, [0, 1, 2, 3]), (181, [0, 1, 2, 3]), (207, [0, 1, 2, 3]), (255, [0, 1, 2, 3])]) (f := 5) h rfl


theorem pl_255_94 {n : Nat} {x1 : Int32} {x2 : Int32} {x4 : Int32} {s : ps_S} {Q : Option Value → ps_S → Prop} (h :
  (x4 ≤ 0 →
    pl_At n 255 116 [(0, .ref 1131), (1, .int x1)] [] (ps_ui s 1131 34 0) Q) ∧
  (0 < x4 →
    pl_Cl n 219 [.ref 1131, .int x2] (ps_ui s 1131 34 0) (ps_rI (fun v1 s1 =>
      pl_Cl n 226 [.ref 1131, .int x2, .int x4, .int v1] s1 (ps_rV (fun s2 =>
        pl_At n 255 116 [(0, .ref 1131), (1, .int x1)] [] s2 Q)))))) : pl_At (n + 1) 255 94 [(0, .ref 1131), (1, .int x1), (2, .int x2), (4, .int x4)] [] s Q :=
  pl_wp_at (stops := [(89, [0, 1, 2, 4]), (94, [0, 1, 2, 4]), (116, [0, 1]), (165, [0, 1, 2, 3]), (181, [0, 1, 2, 3]), (207, [0, 1, 2, 3]), (255, [0, 1, 2, 3])]) (f := 14) h rfl


theorem pl_255_116 {n : Nat} {x1 : Int32} {s : ps_S} {Q : Option Value → ps_S → Prop} (h :
  (pm_in x1 40 = true →
    pl_Cl n 249 [.ref 1131, .int x1, .int (ps_a s 1153 (Int32.toNatClampNeg x1)), .int 0] s (ps_rV (fun s1 =>
      (pm_in x1 40 = true →
        pl_Cl n 249 [.ref 1131, .int x1, .int (ps_a s1 1154 (Int32.toNatClampNeg x1)), .int 0] s1 (ps_rV (fun s2 =>
          Q none s2))))))) : pl_At (n + 1) 255 116 [(0, .ref 1131), (1, .int x1)] [] s Q :=
  pl_wp_at (stops := [(89, [0, 1, 2, 4]), (94, [0, 1, 2, 4]), (116, [0, 1]), (165, [0, 1, 2, 3]), (181, [0, 1, 2, 3]), (207, [0, 1, 2, 3]), (255, [0, 1, 2, 3])]) (f := 19) h rfl


theorem pl_255_165 {n : Nat} {x1 : Int32} {x2 : Int32} {x3 : Int32} {s : ps_S} {Q : Option Value → ps_S → Prop} (h :
  (pm_in x1 40 = true →
    ((ps_a s 1152 (Int32.toNatClampNeg x1)) ≠ 10 →
      pl_At n 255 181 [(0, .ref 1131), (1, .int x1), (2, .int x2), (3, .int x3)] [] s Q) ∧
    ((ps_a s 1152 (Int32.toNatClampNeg x1)) = 10 →
      pl_Cl n 227 [.ref 1131, .int x3] s (ps_rV (fun s1 =>
        pl_At n 255 181 [(0, .ref 1131), (1, .int x1), (2, .int x2), (3, .int x3)] [] s1 Q))))) : pl_At (n + 1) 255 165 [(0, .ref 1131), (1, .int x1), (2, .int x2), (3, .int x3)] [] s Q :=
  pl_wp_at (stops := [(89, [0, 1, 2, 4]), (94, [0, 1, 2, 4]), (116, [0, 1]), (165, [0, 1, 2, 3]), (181, [0, 1, 2, 3]), (207, [0, 1, 2, 3]), (255, [0, 1, 2, 3])]) (f := 11) h rfl


theorem pl_255_181 {n : Nat} {x1 : Int32} {x2 : Int32} {x3 : Int32} {s : ps_S} {Q : Option Value → ps_S → Prop} (h :
  (pm_in x1 40 = true →
    ((ps_a s 1152 (Int32.toNatClampNeg x1)) ≠ 18 →
      pl_At n 255 207 [(0, .ref 1131), (1, .int x1), (2, .int x2), (3, .int x3)] [] s Q) ∧
    ((ps_a s 1152 (Int32.toNatClampNeg x1)) = 18 →
      pl_Cl n 225 [.ref 1131, .int 3] s (ps_rV (fun s1 =>
        pl_Cl n 227 [.ref 1131, .int x3] s1 (ps_rV (fun s2 =>
          pl_Cl n 225 [.ref 1131, .int 0] s2 (ps_rV (fun s3 =>
            pl_At n 255 207 [(0, .ref 1131), (1, .int x1), (2, .int x2), (3, .int x3)] [] s3 Q))))))))) : pl_At (n + 1) 255 181 [(0, .ref 1131), (1, .int x1), (2, .int x2), (3, .int x3)] [] s Q :=
  pl_wp_at (stops := [(89, [0, 1, 2, 4]), (94, [0, 1, 2, 4]), (116, [0, 1]), (165, [0, 1, 2, 3]), (181, [0, 1, 2, 3]), (207, [0, 1, 2, 3]), (255, [0, 1, 2, 3])]) (f := 17) h rfl

