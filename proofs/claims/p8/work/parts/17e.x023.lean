set_option maxRecDepth 100000
theorem pg_58_0 {d : Nat} {r0 : Nat} {r1 : Nat} {x2 : Int32} {r3 : Nat} {s : ps_S} {Q : Option Value → ps_S → Prop} (h :
  ps_nk (ps_is r3 9) (ps_Cl d 126 [.ref r3] s (ps_rV (fun s1 =>
    ps_nk (ps_is r0 3) (ps_Cl d 61 [.ref r0, .ref r1, .int x2, .ref r3] s1 (ps_rV (fun s2 =>
      ps_At (d + 1) 58 18 [(0, .ref r0), (4, .int 19), (5, .int 0)] [] s2 Q))))))) : ps_At (d + 1) 58 0 [(0, .ref r0), (1, .ref r1), (2, .int x2), (3, .ref r3)] [] s Q :=
  ps_wp_at (stops := [(18, [0, 4, 5]), (65, [0, 4, 5, 6]), (77, [0])]) (n := 13) h rfl

theorem pg_58_18 {d : Nat} {r0 : Nat} {x4 : Int32} {x5 : Int32} {s : ps_S} {Q : Option Value → ps_S → Prop} (h :
  (x4 ≤ x5 →
    Q (some (.int 1)) s) ∧
  (x5 < x4 →
    ps_nk (ps_is r0 3) (ps_nk (ps_is (ps_c0 r0 0) 10) (((ps_i s (ps_c0 r0 0) 4) = 0 →
      Q (some (.int 1)) s) ∧
    ((ps_i s (ps_c0 r0 0) 4) ≠ 0 →
      ps_nk (ps_is r0 3) (ps_nk (ps_is (ps_c0 r0 0) 10) (((ps_i s (ps_c0 r0 0) 6) = 8 →
        ps_At (d + 1) 58 65 [(0, .ref r0), (4, .int x4), (5, .int x5), (6, .int (ps_i s (ps_c0 r0 0) 6))] [] s Q) ∧
      ((ps_i s (ps_c0 r0 0) 6) ≠ 8 →
        ((ps_i s (ps_c0 r0 0) 6) = 9 →
          ps_At (d + 1) 58 65 [(0, .ref r0), (4, .int x4), (5, .int x5), (6, .int (ps_i s (ps_c0 r0 0) 6))] [] s Q) ∧
        ((ps_i s (ps_c0 r0 0) 6) ≠ 9 →
          ((ps_i s (ps_c0 r0 0) 6) ≠ 10 →
            ps_At (d + 1) 58 77 [(0, .ref r0)] [] s Q) ∧
          ((ps_i s (ps_c0 r0 0) 6) = 10 →
            ps_At (d + 1) 58 65 [(0, .ref r0), (4, .int x4), (5, .int x5), (6, .int (ps_i s (ps_c0 r0 0) 6))] [] s Q)))))))))) : ps_At (d + 1) 58 18 [(0, .ref r0), (4, .int x4), (5, .int x5)] [] s Q :=
  ps_wp_at (stops := [(18, [0, 4, 5]), (65, [0, 4, 5, 6]), (77, [0])]) (n := 26) h rfl

theorem pg_58_65 {d : Nat} {r0 : Nat} {x4 : Int32} {x5 : Int32} {x6 : Int32} {s : ps_S} {Q : Option Value → ps_S → Prop} (h :
  ps_nk (ps_is r0 3) (ps_nk (ps_is (ps_r s r0 5) 9) (ps_Cl d 132 [.ref (ps_r s r0 5), .int x6] s (ps_rI (fun v1 s1 =>
    (v1 = 0 →
      ps_nk (ps_is r0 3) (ps_nk (ps_is (ps_c0 r0 0) 10) (ps_Cl d 140 [.ref (ps_c0 r0 0)] s1 (ps_rV (fun s2 =>
        (x6 ≠ 10 →
          ps_nk (ps_is r0 3) (ps_Cl d 63 [.ref r0, .int x6] s2 (ps_rI (fun v3 s3 =>
            (v3 ≠ 0 →
              ps_At (d + 1) 58 18 [(0, .ref r0), (4, .int x4), (5, .int (x5 + 1))] [] s3 Q) ∧
            (v3 = 0 →
              Q (some (.int 0)) s3))))) ∧
        (x6 = 10 →
          ps_nk (ps_is r0 3) (ps_Cl d 64 [.ref r0] s2 (ps_rI (fun v4 s4 =>
            (v4 = 0 →
              Q (some (.int 0)) s4) ∧
            (v4 ≠ 0 →
              ps_At (d + 1) 58 18 [(0, .ref r0), (4, .int x4), (5, .int (x5 + 1))] [] s4 Q)))))))))) ∧
    (v1 ≠ 0 →
      ps_At (d + 1) 58 77 [(0, .ref r0)] [] s1 Q)))))) : ps_At (d + 1) 58 65 [(0, .ref r0), (4, .int x4), (5, .int x5), (6, .int x6)] [] s Q :=
  ps_wp_at (stops := [(18, [0, 4, 5]), (65, [0, 4, 5, 6]), (77, [0])]) (n := 29) h rfl

theorem pg_58_77 {d : Nat} {r0 : Nat} {s : ps_S} {Q : Option Value → ps_S → Prop} (h :
  ps_nk (ps_is r0 3) (ps_Cl d 62 [.ref r0, .int 2] s (ps_rI (fun v1 s1 =>
    ps_nd (decide (v1 &&& 1 = v1)) (Q (some (.int v1)) s1))))) : ps_At (d + 1) 58 77 [(0, .ref r0)] [] s Q :=
  ps_wp_at (stops := [(18, [0, 4, 5]), (65, [0, 4, 5, 6]), (77, [0])]) (n := 6) h rfl

theorem xs_58_77 {m s : ps_S} {t : Int32} {d : Nat} {r0 : Nat} {Q : Option Value → ps_S → Prop} (h0 : ps_is r0 3 = true) (J : xJ m t s) (k : ∀ (v : Int32) (s' : ps_S), v &&& 1 = v → xJ m t s' → Q (some (.int v)) s') : ps_At (d + 39) 58 77 [(0, .ref r0)] [] s Q :=
  pg_58_77 (d := d + 38) (ps_nk_i h0 (xs_62 h0 J (fun v1 s1 b1 J1 => (ps_nd_i (decide_eq_true b1) ((k v1 s1 (of_decide_eq_true (decide_eq_true b1)) J1))))))

