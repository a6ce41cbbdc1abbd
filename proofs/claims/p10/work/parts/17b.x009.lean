set_option maxRecDepth 100000
-- ProofBench$Judge.isGood(I)Z
theorem pg_11_0 {d : Nat} {r0 : Nat} {x1 : Int32} {s : ps_S} {Q : Option Value → ps_S → Prop} (h :
  ps_nk (ps_is r0 0) ((((((ps_i s r0 11) - 1) * 64) + (x1 / 64)) < 0 →
    Q (some (.int 0)) s) ∧
  (0 ≤ ((((ps_i s r0 11) - 1) * 64) + (x1 / 64)) →
    ps_nk (ps_is r0 0) (ps_nk (Nat.beq (ps_K (ps_c0 r0 12)).1 0) (((nI (ps_ln (ps_c0 r0 12))) ≤ ((((ps_i s r0 11) - 1) * 64) + (x1 / 64)) →
      Q (some (.int 0)) s) ∧
    (((((ps_i s r0 11) - 1) * 64) + (x1 / 64)) < (nI (ps_ln (ps_c0 r0 12))) →
      ps_nk (ps_is r0 0) (ps_nk (Nat.beq (ps_K (ps_c0 r0 13)).1 0) ((((((ps_i s r0 11) - 1) * 64) + (x1 / 64)) < (nI (ps_ln (ps_c0 r0 13))) →
        ps_nk (ps_is r0 0) (ps_nk (ps_ar (ps_c0 r0 12) 3) (ps_nd (pm_in ((((ps_i s r0 11) - 1) * 64) + (x1 / 64)) (ps_ln (ps_c0 r0 12))) (((lg_cmp ((ps_b s (ps_c0 r0 12) (Int32.toNatClampNeg ((((ps_i s r0 11) - 1) * 64) + (x1 / 64)))) &&& ((1 : Int64) <<< (Int32.toInt64 (x1 - (x1 / 64) * 64) &&& 63))) 0) ≠ 0 →
          ps_At (d + 1) 11 106 [(0, .ref r0), (2, .int ((((ps_i s r0 11) - 1) * 64) + (x1 / 64))), (3, .long ((1 : Int64) <<< (Int32.toInt64 (x1 - (x1 / 64) * 64) &&& 63)))] [] s Q) ∧
        ((lg_cmp ((ps_b s (ps_c0 r0 12) (Int32.toNatClampNeg ((((ps_i s r0 11) - 1) * 64) + (x1 / 64)))) &&& ((1 : Int64) <<< (Int32.toInt64 (x1 - (x1 / 64) * 64) &&& 63))) 0) = 0 →
          ps_nk (ps_is r0 0) (ps_nk (ps_ar (ps_c0 r0 12) 3) (ps_nd (pm_in ((((ps_i s r0 11) - 1) * 64) + (x1 / 64)) (ps_ln (ps_c0 r0 12))) (ps_nk (ps_ar (ps_c0 r0 12) 3) (ps_nd (pm_in ((((ps_i s r0 11) - 1) * 64) + (x1 / 64)) (ps_ln (ps_c0 r0 12))) (ps_nk (ps_is r0 0) (ps_nk (ps_is r0 0) (ps_Cl d 12 [.ref r0, .int x1] (ps_ub s (ps_c0 r0 12) (Int32.toNatClampNeg ((((ps_i s r0 11) - 1) * 64) + (x1 / 64))) ((ps_b s (ps_c0 r0 12) (Int32.toNatClampNeg ((((ps_i s r0 11) - 1) * 64) + (x1 / 64)))) ||| ((1 : Int64) <<< (Int32.toInt64 (x1 - (x1 / 64) * 64) &&& 63)))) (ps_rI (fun v1 s1 =>
            (v1 = 0 →
              ps_nk (ps_is r0 0) (ps_nk (ps_ar (ps_c0 r0 13) 3) (ps_nd (pm_in ((((ps_i s r0 11) - 1) * 64) + (x1 / 64)) (ps_ln (ps_c0 r0 13))) (ps_nk (ps_ar (ps_c0 r0 13) 3) (ps_nd (pm_in ((((ps_i s r0 11) - 1) * 64) + (x1 / 64)) (ps_ln (ps_c0 r0 13))) (ps_At (d + 1) 11 106 [(0, .ref r0), (2, .int ((((ps_i s r0 11) - 1) * 64) + (x1 / 64))), (3, .long ((1 : Int64) <<< (Int32.toInt64 (x1 - (x1 / 64) * 64) &&& 63)))] [] (ps_ub s1 (ps_c0 r0 13) (Int32.toNatClampNeg ((((ps_i s r0 11) - 1) * 64) + (x1 / 64))) ((ps_b s1 (ps_c0 r0 13) (Int32.toNatClampNeg ((((ps_i s r0 11) - 1) * 64) + (x1 / 64)))) &&& (((1 : Int64) <<< (Int32.toInt64 (x1 - (x1 / 64) * 64) &&& 63)) ^^^ (-1 : Int64)))) Q)))))) ∧
            (v1 ≠ 0 →
              ps_nk (ps_is r0 0) (ps_nk (ps_ar (ps_c0 r0 13) 3) (ps_nd (pm_in ((((ps_i s r0 11) - 1) * 64) + (x1 / 64)) (ps_ln (ps_c0 r0 13))) (ps_nk (ps_ar (ps_c0 r0 13) 3) (ps_nd (pm_in ((((ps_i s r0 11) - 1) * 64) + (x1 / 64)) (ps_ln (ps_c0 r0 13))) (ps_At (d + 1) 11 106 [(0, .ref r0), (2, .int ((((ps_i s r0 11) - 1) * 64) + (x1 / 64))), (3, .long ((1 : Int64) <<< (Int32.toInt64 (x1 - (x1 / 64) * 64) &&& 63)))] [] (ps_ub s1 (ps_c0 r0 13) (Int32.toNatClampNeg ((((ps_i s r0 11) - 1) * 64) + (x1 / 64))) ((ps_b s1 (ps_c0 r0 13) (Int32.toNatClampNeg ((((ps_i s r0 11) - 1) * 64) + (x1 / 64)))) ||| ((1 : Int64) <<< (Int32.toInt64 (x1 - (x1 / 64) * 64) &&& 63)))) Q)))))))))))))))))))) ∧
      ((nI (ps_ln (ps_c0 r0 13))) ≤ ((((ps_i s r0 11) - 1) * 64) + (x1 / 64)) →
        Q (some (.int 0)) s))))))))) : ps_At (d + 1) 11 0 [(0, .ref r0), (1, .int x1)] [] s Q :=
  ps_wp_at (stops := [(106, [0, 2, 3])]) (n := 78) h rfl

