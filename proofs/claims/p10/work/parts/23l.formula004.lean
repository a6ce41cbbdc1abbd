set_option maxRecDepth 100000
theorem pg_214_133 {d : Nat} {s : ps_S} {Q : Option Value → ps_S → Prop} (h :
  ps_Cl d 192 [.ref 1131] s (ps_rI (fun v1 s1 =>
    (v1 ≠ 0 →
      ps_Cl d 211 [.ref 1131, .int 1, .int 0] s1 (ps_rV (fun s2 =>
        ps_nd (pm_in ((ps_i s2 1131 29) - 1) 16) (ps_nd (pm_in ((ps_i (ps_ua s2 1147 (Int32.toNatClampNeg ((ps_i s2 1131 29) - 1)) ((1 : Int32) &&& 1)) 1131 29) - 1) 16) (ps_Cl d 194 [.ref 1131] (ps_ui (ps_ub (ps_ua s2 1147 (Int32.toNatClampNeg ((ps_i s2 1131 29) - 1)) ((1 : Int32) &&& 1)) 1148 (Int32.toNatClampNeg ((ps_i (ps_ua s2 1147 (Int32.toNatClampNeg ((ps_i s2 1131 29) - 1)) ((1 : Int32) &&& 1)) 1131 29) - 1)) (ps_j (ps_ua s2 1147 (Int32.toNatClampNeg ((ps_i s2 1131 29) - 1)) ((1 : Int32) &&& 1)) 1131 11)) 1131 30 ((ps_i (ps_ub (ps_ua s2 1147 (Int32.toNatClampNeg ((ps_i s2 1131 29) - 1)) ((1 : Int32) &&& 1)) 1148 (Int32.toNatClampNeg ((ps_i (ps_ua s2 1147 (Int32.toNatClampNeg ((ps_i s2 1131 29) - 1)) ((1 : Int32) &&& 1)) 1131 29) - 1)) (ps_j (ps_ua s2 1147 (Int32.toNatClampNeg ((ps_i s2 1131 29) - 1)) ((1 : Int32) &&& 1)) 1131 11)) 1131 30) + 1)) (ps_rV (fun s3 =>
          Q none s3))))))) ∧
    (v1 = 0 →
      Q none s1)))) : ps_At (d + 1) 214 133 [(0, .ref 1131)] [] s Q :=
  ps_wp_at (stops := [(23, [0, 1, 2, 3]), (84, [0, 1, 2, 3, 4, 5]), (88, [0, 1, 2, 3, 4, 5]), (133, [0])]) (n := 37) h rfl

