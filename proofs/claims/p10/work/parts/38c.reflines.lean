set_option maxRecDepth 100000
/-! the reference: lines -/
-- ProofBenchModel.axiomHere()I
theorem pl_205_0 {n : Nat} {s : ps_S} {Q : Option Value → ps_S → Prop} (h :
  pl_At n 205 2 [(0, .ref 1131), (1, .int 0)] [] s Q) : pl_At (n + 1) 205 0 [(0, .ref 1131)] [] s Q :=
  pl_wp_at (stops := [(2, [0, 1])]) (f := 4) h rfl

theorem pl_205_2 {n : Nat} {x1 : Int32} {s : ps_S} {Q : Option Value → ps_S → Prop} (h :
  (pm_in (ps_i s 1131 22) 2 = true →
    ((ps_a s 1137 (Int32.toNatClampNeg (ps_i s 1131 22))) ≤ x1 →
      Q (some (.int (-1))) s) ∧
    (x1 < (ps_a s 1137 (Int32.toNatClampNeg (ps_i s 1131 22))) →
      ((ps_i s 1131 9) ≠ 2 →
        pl_At n 205 2 [(0, .ref 1131), (1, .int (x1 + 1))] [] s Q) ∧
      ((ps_i s 1131 9) = 2 →
        (pm_in (((8 : Int32) * (ps_i s 1131 22)) + x1) 16 = true →
          ((lg_cmp (ps_b s 1142 (Int32.toNatClampNeg (((8 : Int32) * (ps_i s 1131 22)) + x1))) (ps_j s 1131 11)) ≠ 0 →
            pl_At n 205 2 [(0, .ref 1131), (1, .int (x1 + 1))] [] s Q) ∧
          ((lg_cmp (ps_b s 1142 (Int32.toNatClampNeg (((8 : Int32) * (ps_i s 1131 22)) + x1))) (ps_j s 1131 11)) = 0 →
            Q (some (.int x1)) s)))))) : pl_At (n + 1) 205 2 [(0, .ref 1131), (1, .int x1)] [] s Q :=
  pl_wp_at (stops := [(2, [0, 1])]) (f := 34) h rfl

-- ProofBenchModel.isFull()Z
theorem pl_203_0 {n : Nat} {s : ps_S} {Q : Option Value → ps_S → Prop} (h :
  pl_Cl n 195 [.ref 1131, .long (7497068 : Int64)] s (ps_rI (fun v1 s1 =>
    (v1 = 0 →
      pl_Cl n 195 [.ref 1131, .long (6714734 : Int64)] s1 (ps_rI (fun v2 s2 =>
        (v2 = 0 →
          pl_Cl n 195 [.ref 1131, .long (418632003437 : Int64)] s2 (ps_rI (fun v3 s3 =>
            (v3 = 0 →
              Q (some (.int 1)) s3) ∧
            (v3 ≠ 0 →
              (pm_in (ps_i s3 1131 22) 2 = true →
                ((ps_a s3 1137 (Int32.toNatClampNeg (ps_i s3 1131 22))) ≠ 8 →
                  Q (some (.int 0)) s3) ∧
                ((ps_a s3 1137 (Int32.toNatClampNeg (ps_i s3 1131 22))) = 8 →
                  Q (some (.int 1)) s3)))))) ∧
        (v2 ≠ 0 →
          (pm_in (ps_i s2 1131 22) 2 = true →
            ((ps_a s2 1136 (Int32.toNatClampNeg (ps_i s2 1131 22))) ≠ 4 →
              Q (some (.int 0)) s2) ∧
            ((ps_a s2 1136 (Int32.toNatClampNeg (ps_i s2 1131 22))) = 4 →
              Q (some (.int 1)) s2)))))) ∧
    (v1 ≠ 0 →
      (pm_in (ps_i s1 1131 22) 2 = true →
        ((ps_a s1 1135 (Int32.toNatClampNeg (ps_i s1 1131 22))) ≠ 6 →
          Q (some (.int 0)) s1) ∧
        ((ps_a s1 1135 (Int32.toNatClampNeg (ps_i s1 1131 22))) = 6 →
          Q (some (.int 1)) s1)))))) : pl_At (n + 1) 203 0 [(0, .ref 1131)] [] s Q :=
  pl_wp_at (stops := []) (f := 53) h rfl

-- ProofBenchModel.must(Z)V
theorem pl_197_0 {n : Nat} {x1 : Int32} {s : ps_S} {Q : Option Value → ps_S → Prop} (h :
  pl_Cl n 192 [.ref 1131] s (ps_rI (fun v1 s1 =>
    (v1 ≠ 0 →
      (x1 = 0 →
        pl_Cl n 196 [.ref 1131] s1 (ps_rV (fun s2 =>
          Q none s2))) ∧
      (x1 ≠ 0 →
        pl_Cl n 194 [.ref 1131] s1 (ps_rV (fun s3 =>
          Q none s3)))) ∧
    (v1 = 0 →
      Q none s1)))) : pl_At (n + 1) 197 0 [(0, .ref 1131), (1, .int x1)] [] s Q :=
  pl_wp_at (stops := []) (f := 15) h rfl

-- ProofBenchModel.readLine()V
theorem pl_204_0 {n : Nat} {s : ps_S} {Q : Option Value → ps_S → Prop} (h :
  pl_Cl n 195 [.ref 1131, .long (7497068 : Int64)] s (ps_rI (fun v1 s1 =>
    pl_Cl n 195 [.ref 1131, .long (418632003437 : Int64)] s1 (ps_rI (fun v2 s2 =>
      pl_Cl n 203 [.ref 1131] s2 (ps_rI (fun v3 s3 =>
        (v3 = 0 →
          pl_At n 204 27 [(0, .ref 1131), (1, .int v1), (2, .int v2)] [] s3 Q) ∧
        (v3 ≠ 0 →
          pl_Cl n 196 [.ref 1131] s3 (ps_rV (fun s4 =>
            pl_At n 204 27 [(0, .ref 1131), (1, .int v1), (2, .int v2)] [] s4 Q)))))))))) : pl_At (n + 1) 204 0 [(0, .ref 1131)] [] s Q :=
  pl_wp_at (stops := [(27, [0, 1, 2]), (82, [0, 1, 2]), (91, [0, 1, 2]), (213, [0, 1, 3]), (271, [0, 1, 3]), (282, [0, 1, 3]), (360, [0])]) (f := 15) h rfl

theorem pl_204_27 {n : Nat} {x1 : Int32} {x2 : Int32} {s : ps_S} {Q : Option Value → ps_S → Prop} (h :
  pl_Cl n 192 [.ref 1131] s (ps_rI (fun v1 s1 =>
    (v1 ≠ 0 →
      pl_Cl n 194 [.ref 1131] s1 (ps_rV (fun s2 =>
        ((ps_i s2 1131 9) = 2 →
          (x2 = 0 →
            pl_Cl n 206 [.ref 1131] s2 (ps_rI (fun v3 s3 =>
              (0 ≤ v3 →
                pl_At n 204 82 [(0, .ref 1131), (1, .int x1), (2, .int x2)] [] s3 Q) ∧
              (v3 < 0 →
                pl_Cl n 207 [.ref 1131] s3 (ps_rI (fun v4 s4 =>
                  (v4 < 0 →
                    pl_At n 204 91 [(0, .ref 1131), (1, .int x1), (2, .int x2)] [] s4 Q) ∧
                  (0 ≤ v4 →
                    pl_At n 204 82 [(0, .ref 1131), (1, .int x1), (2, .int x2)] [] s4 Q))))))) ∧
          (x2 ≠ 0 →
            pl_Cl n 205 [.ref 1131] s2 (ps_rI (fun v5 s5 =>
              (v5 < 0 →
                pl_At n 204 91 [(0, .ref 1131), (1, .int x1), (2, .int x2)] [] s5 Q) ∧
              (0 ≤ v5 →
                pl_At n 204 82 [(0, .ref 1131), (1, .int x1), (2, .int x2)] [] s5 Q))))) ∧
        ((ps_i s2 1131 9) ≠ 2 →
          pl_Cl n 196 [.ref 1131] s2 (ps_rV (fun s6 =>
            pl_At n 204 91 [(0, .ref 1131), (1, .int x1), (2, .int x2)] [] s6 Q)))))) ∧
    (v1 = 0 →
      Q none s1)))) : pl_At (n + 1) 204 27 [(0, .ref 1131), (1, .int x1), (2, .int x2)] [] s Q :=
  pl_wp_at (stops := [(27, [0, 1, 2]), (82, [0, 1, 2]), (91, [0, 1, 2]), (213, [0, 1, 3]), (271, [0, 1, 3]), (282, [0, 1, 3]), (360, [0])]) (f := 27) h rfl

theorem pl_204_82 {n : Nat} {x1 : Int32} {x2 : Int32} {s : ps_S} {Q : Option Value → ps_S → Prop} (h :
  pl_Cl n 191 [.ref 1131, .int 3, .int (ps_i s 1131 7)] s (ps_rV (fun s1 =>
    pl_At n 204 91 [(0, .ref 1131), (1, .int x1), (2, .int x2)] [] s1 Q))) : pl_At (n + 1) 204 82 [(0, .ref 1131), (1, .int x1), (2, .int x2)] [] s Q :=
  pl_wp_at (stops := [(27, [0, 1, 2]), (82, [0, 1, 2]), (91, [0, 1, 2]), (213, [0, 1, 3]), (271, [0, 1, 3]), (282, [0, 1, 3]), (360, [0])]) (f := 7) h rfl

theorem pl_204_91 {n : Nat} {x1 : Int32} {x2 : Int32} {s : ps_S} {Q : Option Value → ps_S → Prop} (h :
  pl_Cl n 192 [.ref 1131] s (ps_rI (fun v1 s1 =>
    (v1 ≠ 0 →
      pl_Cl n 194 [.ref 1131] s1 (ps_rV (fun s2 =>
        (x2 = 0 →
          ((ps_i s2 1131 9) = 4 →
            ((ps_i s2 1131 10) ≤ 2 →
              pl_At n 204 213 [(0, .ref 1131), (1, .int x1), (3, .long (ps_j s1 1131 11))] [] s2 Q) ∧
            (2 < (ps_i s2 1131 10) →
              pl_Cl n 191 [.ref 1131, .int 4, .int (ps_i s2 1131 7)] s2 (ps_rV (fun s3 =>
                pl_At n 204 213 [(0, .ref 1131), (1, .int x1), (3, .long (ps_j s1 1131 11))] [] s3 Q)))) ∧
          ((ps_i s2 1131 9) ≠ 4 →
            pl_Cl n 196 [.ref 1131] s2 (ps_rV (fun s4 =>
              pl_At n 204 213 [(0, .ref 1131), (1, .int x1), (3, .long (ps_j s1 1131 11))] [] s4 Q)))) ∧
        (x2 ≠ 0 →
          (pm_in (ps_i s2 1131 22) 2 = true →
            (pm_in (((8 : Int32) * (ps_i s2 1131 22)) + (ps_a s2 1137 (Int32.toNatClampNeg (ps_i s2 1131 22)))) 16 = true →
              (pm_in (ps_i (ps_ub s2 1142 (Int32.toNatClampNeg (((8 : Int32) * (ps_i s2 1131 22)) + (ps_a s2 1137 (Int32.toNatClampNeg (ps_i s2 1131 22))))) (ps_j s1 1131 11)) 1131 22) 2 = true →
                pl_Cl n 209 [.ref 1131, .int ((21812 : Int32) + ((41 : Int32) * (((8 : Int32) * (ps_i (ps_ub s2 1142 (Int32.toNatClampNeg (((8 : Int32) * (ps_i s2 1131 22)) + (ps_a s2 1137 (Int32.toNatClampNeg (ps_i s2 1131 22))))) (ps_j s1 1131 11)) 1131 22)) + (ps_a (ps_ub s2 1142 (Int32.toNatClampNeg (((8 : Int32) * (ps_i s2 1131 22)) + (ps_a s2 1137 (Int32.toNatClampNeg (ps_i s2 1131 22))))) (ps_j s1 1131 11)) 1137 (Int32.toNatClampNeg (ps_i (ps_ub s2 1142 (Int32.toNatClampNeg (((8 : Int32) * (ps_i s2 1131 22)) + (ps_a s2 1137 (Int32.toNatClampNeg (ps_i s2 1131 22))))) (ps_j s1 1131 11)) 1131 22)))))), .int 1, .int 1] (ps_ub s2 1142 (Int32.toNatClampNeg (((8 : Int32) * (ps_i s2 1131 22)) + (ps_a s2 1137 (Int32.toNatClampNeg (ps_i s2 1131 22))))) (ps_j s1 1131 11)) (ps_rV (fun s5 =>
                  (pm_in (ps_i s5 1131 22) 2 = true →
                    (pm_in (ps_i s5 1131 22) 2 = true →
                      pl_At n 204 360 [(0, .ref 1131)] [] (ps_ua s5 1137 (Int32.toNatClampNeg (ps_i s5 1131 22)) ((ps_a s5 1137 (Int32.toNatClampNeg (ps_i s5 1131 22))) + 1)) Q))))))))))) ∧
    (v1 = 0 →
      Q none s1)))) : pl_At (n + 1) 204 91 [(0, .ref 1131), (1, .int x1), (2, .int x2)] [] s Q :=
  pl_wp_at (stops := [(27, [0, 1, 2]), (82, [0, 1, 2]), (91, [0, 1, 2]), (213, [0, 1, 3]), (271, [0, 1, 3]), (282, [0, 1, 3]), (360, [0])]) (f := 71) h rfl

theorem pl_204_213 {n : Nat} {x1 : Int32} {l3 : Int64} {s : ps_S} {Q : Option Value → ps_S → Prop} (h :
  (x1 = 0 →
    (pm_in (ps_i s 1131 22) 2 = true →
      (pm_in (((4 : Int32) * (ps_i s 1131 22)) + (ps_a s 1136 (Int32.toNatClampNeg (ps_i s 1131 22)))) 8 = true →
        pl_At n 204 271 [(0, .ref 1131), (1, .int x1), (3, .long l3)] [] (ps_ua s 1139 (Int32.toNatClampNeg (((4 : Int32) * (ps_i s 1131 22)) + (ps_a s 1136 (Int32.toNatClampNeg (ps_i s 1131 22))))) (ps_i s 1131 10)) Q))) ∧
  (x1 ≠ 0 →
    (pm_in (ps_i s 1131 22) 2 = true →
      (pm_in (((6 : Int32) * (ps_i s 1131 22)) + (ps_a s 1135 (Int32.toNatClampNeg (ps_i s 1131 22)))) 12 = true →
        pl_At n 204 271 [(0, .ref 1131), (1, .int x1), (3, .long l3)] [] (ps_ua s 1138 (Int32.toNatClampNeg (((6 : Int32) * (ps_i s 1131 22)) + (ps_a s 1135 (Int32.toNatClampNeg (ps_i s 1131 22))))) (ps_i s 1131 10)) Q)))) : pl_At (n + 1) 204 213 [(0, .ref 1131), (1, .int x1), (3, .long l3)] [] s Q :=
  pl_wp_at (stops := [(27, [0, 1, 2]), (82, [0, 1, 2]), (91, [0, 1, 2]), (213, [0, 1, 3]), (271, [0, 1, 3]), (282, [0, 1, 3]), (360, [0])]) (f := 35) h rfl

theorem pl_204_271 {n : Nat} {x1 : Int32} {l3 : Int64} {s : ps_S} {Q : Option Value → ps_S → Prop} (h :
  pl_Cl n 192 [.ref 1131] s (ps_rI (fun v1 s1 =>
    (v1 = 0 →
      pl_At n 204 282 [(0, .ref 1131), (1, .int x1), (3, .long l3)] [] s1 Q) ∧
    (v1 ≠ 0 →
      pl_Cl n 194 [.ref 1131] s1 (ps_rV (fun s2 =>
        pl_At n 204 282 [(0, .ref 1131), (1, .int x1), (3, .long l3)] [] s2 Q)))))) : pl_At (n + 1) 204 271 [(0, .ref 1131), (1, .int x1), (3, .long l3)] [] s Q :=
  pl_wp_at (stops := [(27, [0, 1, 2]), (82, [0, 1, 2]), (91, [0, 1, 2]), (213, [0, 1, 3]), (271, [0, 1, 3]), (282, [0, 1, 3]), (360, [0])]) (f := 7) h rfl

theorem pl_204_282 {n : Nat} {x1 : Int32} {l3 : Int64} {s : ps_S} {Q : Option Value → ps_S → Prop} (h :
  (x1 = 0 →
    (pm_in (ps_i s 1131 22) 2 = true →
      (pm_in (((4 : Int32) * (ps_i s 1131 22)) + (ps_a s 1136 (Int32.toNatClampNeg (ps_i s 1131 22)))) 8 = true →
        (pm_in (ps_i (ps_ub s 1141 (Int32.toNatClampNeg (((4 : Int32) * (ps_i s 1131 22)) + (ps_a s 1136 (Int32.toNatClampNeg (ps_i s 1131 22))))) l3) 1131 22) 2 = true →
          (pm_in (ps_i (ps_ub s 1141 (Int32.toNatClampNeg (((4 : Int32) * (ps_i s 1131 22)) + (ps_a s 1136 (Int32.toNatClampNeg (ps_i s 1131 22))))) l3) 1131 22) 2 = true →
            pl_At n 204 360 [(0, .ref 1131)] [] (ps_ua (ps_ub s 1141 (Int32.toNatClampNeg (((4 : Int32) * (ps_i s 1131 22)) + (ps_a s 1136 (Int32.toNatClampNeg (ps_i s 1131 22))))) l3) 1136 (Int32.toNatClampNeg (ps_i (ps_ub s 1141 (Int32.toNatClampNeg (((4 : Int32) * (ps_i s 1131 22)) + (ps_a s 1136 (Int32.toNatClampNeg (ps_i s 1131 22))))) l3) 1131 22)) ((ps_a (ps_ub s 1141 (Int32.toNatClampNeg (((4 : Int32) * (ps_i s 1131 22)) + (ps_a s 1136 (Int32.toNatClampNeg (ps_i s 1131 22))))) l3) 1136 (Int32.toNatClampNeg (ps_i (ps_ub s 1141 (Int32.toNatClampNeg (((4 : Int32) * (ps_i s 1131 22)) + (ps_a s 1136 (Int32.toNatClampNeg (ps_i s 1131 22))))) l3) 1131 22))) + 1)) Q))))) ∧
  (x1 ≠ 0 →
    (pm_in (ps_i s 1131 22) 2 = true →
      (pm_in (((6 : Int32) * (ps_i s 1131 22)) + (ps_a s 1135 (Int32.toNatClampNeg (ps_i s 1131 22)))) 12 = true →
        (pm_in (ps_i (ps_ub s 1140 (Int32.toNatClampNeg (((6 : Int32) * (ps_i s 1131 22)) + (ps_a s 1135 (Int32.toNatClampNeg (ps_i s 1131 22))))) l3) 1131 22) 2 = true →
          (pm_in (ps_i (ps_ub s 1140 (Int32.toNatClampNeg (((6 : Int32) * (ps_i s 1131 22)) + (ps_a s 1135 (Int32.toNatClampNeg (ps_i s 1131 22))))) l3) 1131 22) 2 = true →
            pl_At n 204 360 [(0, .ref 1131)] [] (ps_ua (ps_ub s 1140 (Int32.toNatClampNeg (((6 : Int32) * (ps_i s 1131 22)) + (ps_a s 1135 (Int32.toNatClampNeg (ps_i s 1131 22))))) l3) 1135 (Int32.toNatClampNeg (ps_i (ps_ub s 1140 (Int32.toNatClampNeg (((6 : Int32) * (ps_i s 1131 22)) + (ps_a s 1135 (Int32.toNatClampNeg (ps_i s 1131 22))))) l3) 1131 22)) ((ps_a (ps_ub s 1140 (Int32.toNatClampNeg (((6 : Int32) * (ps_i s 1131 22)) + (ps_a s 1135 (Int32.toNatClampNeg (ps_i s 1131 22))))) l3) 1135 (Int32.toNatClampNeg (ps_i (ps_ub s 1140 (Int32.toNatClampNeg (((6 : Int32) * (ps_i s 1131 22)) + (ps_a s 1135 (Int32.toNatClampNeg (ps_i s 1131 22))))) l3) 1131 22))) + 1)) Q)))))) : pl_At (n + 1) 204 282 [(0, .ref 1131), (1, .int x1), (3, .long l3)] [] s Q :=
  pl_wp_at (stops := [(27, [0, 1, 2]), (82, [0, 1, 2]), (91, [0, 1, 2]), (213, [0, 1, 3]), (271, [0, 1, 3]), (282, [0, 1, 3]), (360, [0])]) (f := 51) h rfl

theorem pl_204_360 {n : Nat} {s : ps_S} {Q : Option Value → ps_S → Prop} (h :
  ((ps_i s 1131 9) ≠ 5 →
    pl_Cl n 197 [.ref 1131, .int 0] s (ps_rV (fun s1 =>
      Q none s1))) ∧
  ((ps_i s 1131 9) = 5 →
    pl_Cl n 197 [.ref 1131, .int 1] s (ps_rV (fun s2 =>
      Q none s2)))) : pl_At (n + 1) 204 360 [(0, .ref 1131)] [] s Q :=
  pl_wp_at (stops := [(27, [0, 1, 2]), (82, [0, 1, 2]), (91, [0, 1, 2]), (213, [0, 1, 3]), (271, [0, 1, 3]), (282, [0, 1, 3]), (360, [0])]) (f := 14) h rfl

theorem fm_205_2 {rb : Nat} {s : ps_S} {T : Nat → Nat} {N : Nat} {h : tx_H} {p : Nat} {R : Int32 → ps_S → Prop} (L : mv_L s rb T N h p) (k : ∀ v : Int32, tx_opt (if (tx_tok T N p).1 = 2 then tx_at (tx_A h) (tx_tok T N p).2.2.2.1 else none) v → R v s) : ∀ (n : Nat) {x1 : Int32} {i : Nat}, x1.toInt = i → i ≤ (tx_A h).length → ((tx_tok T N p).1 = 2 → ∀ j, j < i → (tx_A h)[j]? ≠ some (tx_tok T N p).2.2.2.1) → pl_At n 205 2 [(0, .ref 1131), (1, .int x1)] [] s (ps_rI R)
  | 0, _, _, _, _, _ => pl_At_0
  | n + 1, x1, i, hx, hi, hj => by
    obtain ⟨hrb, h22, -, hH, hp, hK, -, -⟩ := id L
    have h9 := hK.1
    have hwv := (tx_tok_ok (T := T) hp).2.2.2.1
    have hlen : (tx_A h).length = h.2.length := List.length_map ..
    have hcnt := hH.2.1
    have hmx := hH.2.2.1
    have c0 : (8 : Int32).toInt = 8 := by decide
    have e0 : (((8 : Int32) * (ps_i s 1131 22))).toInt = 8 * rb := by rw [xm01 h22 hrb, c0]
    have e1 : (((8 : Int32) * (ps_i s 1131 22)) + x1).toInt = (8 * rb + i : Nat) := by rw [xIa (by omega) (by omega)]; omega
    refine pl_205_2 ?_
    intro b11
    obtain ⟨b11, c11⟩ := pl_in b11
    rw [xtn h22]
    refine ⟨fun h12 => ?_, fun h12 => ?_⟩
    · have h12 : (ps_a s 1137 rb).toInt ≤ x1.toInt := xle h12
      refine k _ ⟨fun c hc => ?_, fun _ => rfl⟩
      split at hc
      · next z =>
        rw [tx_at_no (fun j hjl => hj z j (by omega))] at hc
        cases hc
      · cases hc
    · have h12 : x1.toInt < (ps_a s 1137 rb).toInt := xlt h12
      refine ⟨fun h20 => ?_, fun h20 => ?_⟩
      · have h20 : (ps_i s 1131 9).toInt ≠ (2 : Int) := xne h20
        exact fm_205_2 L k n (xj1 hx (by omega)) (by omega) (fun z => by omega)
      · have h20 : (ps_i s 1131 9).toInt = (2 : Int) := xeq h20
        intro b36
        obtain ⟨b36, c36⟩ := pl_in b36
        have h2 : (tx_tok T N p).1 = 2 := by omega
        obtain ⟨w0, hg1⟩ : ∃ w0, (tx_A h)[i]? = some w0 := ⟨(tx_A h)[i]'(by omega), List.getElem?_eq_getElem _⟩
        obtain ⟨hg2, hg3⟩ : tx_w w0 ∧ ps_b s 1142 (8 * rb + i) = tx_m w0 := by
          unfold tx_A at hg1
          rw [List.getElem?_map] at hg1
          obtain ⟨q, q1, rfl⟩ := Option.map_eq_some_iff.mp hg1
          obtain ⟨z1, z2, z3⟩ := hH.2.2.2 i q.1 q.2 q1
          exact ⟨z1, z2⟩
        refine ⟨fun h42 => ?_, fun h42 => ?_⟩
        · have h42 := lg_nz h42
          refine fm_205_2 L k n (xj1 hx (by omega)) (by omega) (fun _ j hjl => ?_)
          by_cases ej : j = i
          · rw [ej, hg1]
            intro z
            cases z
            exact h42 (by rw [xtn e1, hg3, hK.2.2.2.1 (Or.inl h2)])
          · exact hj h2 j (by omega)
        · have h42 := lg_z h42
          rw [xtn e1, hg3, hK.2.2.2.1 (Or.inl h2)] at h42
          have e := tx_at_is (by rw [hg1, tx_m_inj hg2 (hwv h2) h42]) (hj h2)
          refine k _ ⟨fun c hc => ?_, fun hc => ?_⟩
          · rw [if_pos h2, e] at hc
            cases hc
            exact hx
          · rw [if_pos h2, e] at hc
            cases hc
theorem fm_205 {n : Nat} {rb : Nat} {s : ps_S} {T : Nat → Nat} {N : Nat} {h : tx_H} {p : Nat} {R : Int32 → ps_S → Prop} (L : mv_L s rb T N h p) (k : ∀ v : Int32, tx_opt (if (tx_tok T N p).1 = 2 then tx_at (tx_A h) (tx_tok T N p).2.2.2.1 else none) v → R v s) : pl_Cl n 205 [.ref 1131] s (ps_rI R) := by
  cases n with
  | zero => exact pl_At_0
  | succ n =>
  show pl_At (n + 1) 205 0 [(0, .ref 1131)] [] s (ps_rI R)
  refine pl_205_0 ?_
  exact fm_205_2 L k n (i := 0) rfl (Nat.zero_le _) (fun _ j hj => by omega)

theorem fm_203 {n : Nat} {rb : Nat} {s : ps_S} {T : Nat → Nat} {N : Nat} {h : tx_H} {p : Nat} {R : Int32 → ps_S → Prop} (L : mv_L s rb T N h p) (k1 : ¬ ((tx_tok T N p).1 = 3 ∧ (((tx_tok T N p).2.2.2.2 = 8 ∧ h.1.1.length < 6) ∨ ((tx_tok T N p).2.2.2.2 = 9 ∧ h.1.2.length < 4) ∨ ((tx_tok T N p).2.2.2.2 = 10 ∧ h.2.length < 8))) → R 1 s) (k0 : ((tx_tok T N p).1 = 3 ∧ (((tx_tok T N p).2.2.2.2 = 8 ∧ h.1.1.length < 6) ∨ ((tx_tok T N p).2.2.2.2 = 9 ∧ h.1.2.length < 4) ∨ ((tx_tok T N p).2.2.2.2 = 10 ∧ h.2.length < 8))) → R 0 s) : pl_Cl n 203 [.ref 1131] s (ps_rI R) := by
  cases n with
  | zero => exact pl_At_0
  | succ n =>
  show pl_At (n + 1) 203 0 [(0, .ref 1131)] [] s (ps_rI R)
  obtain ⟨hrb, h22, -, hH, hp, hK, -, -⟩ := id L
  have a1 := hH.1.1
  have a2 := hH.1.2.1
  have a3 := hH.2.1
  have a4 := hH.1.2.2.1
  have a5 := hH.1.2.2.2.1
  have a6 := hH.2.2.1
  refine pl_203_0 ?_
  refine fm_195 (w := [114, 101, 108]) (q := 8) hK (by decide) (by decide +kernel) (fun q4 => ?_) (fun q4 => ?_)
  · refine ⟨fun h7 => ?_, fun h7 => ?_⟩
    · exact absurd h7 (by decide)
    · intro b18
      obtain ⟨b18, c18⟩ := pl_in b18
      refine ⟨fun h21 => ?_, fun h21 => ?_⟩
      · have h21 : (ps_a s 1135 (Int32.toNatClampNeg (ps_i s 1131 22))).toInt ≠ (6 : Int) := xne h21
        exact k0 (by rw [xtn h22] at h21; omega)
      · have h21 : (ps_a s 1135 (Int32.toNatClampNeg (ps_i s 1131 22))).toInt = (6 : Int) := xeq h21
        exact k1 (by rw [xtn h22] at h21; omega)
  · refine ⟨fun h7 => ?_, fun h7 => ?_⟩
    · refine fm_195 (w := [102, 117, 110]) (q := 9) hK (by decide) (by decide +kernel) (fun q34 => ?_) (fun q34 => ?_)
      · refine ⟨fun h37 => ?_, fun h37 => ?_⟩
        · exact absurd h37 (by decide)
        · intro b48
          obtain ⟨b48, c48⟩ := pl_in b48
          refine ⟨fun h50 => ?_, fun h50 => ?_⟩
          · have h50 : (ps_a s 1136 (Int32.toNatClampNeg (ps_i s 1131 22))).toInt ≠ (4 : Int) := xne h50
            exact k0 (by rw [xtn h22] at h50; omega)
          · have h50 : (ps_a s 1136 (Int32.toNatClampNeg (ps_i s 1131 22))).toInt = (4 : Int) := xeq h50
            exact k1 (by rw [xtn h22] at h50; omega)
      · refine ⟨fun h37 => ?_, fun h37 => ?_⟩
        · refine fm_195 (w := [97, 120, 105, 111, 109]) (q := 10) hK (by decide) (by decide +kernel) (fun q63 => ?_) (fun q63 => ?_)
          · refine ⟨fun h66 => ?_, fun h66 => ?_⟩
            · exact absurd h66 (by decide)
            · intro b77
              obtain ⟨b77, c77⟩ := pl_in b77
              refine ⟨fun h80 => ?_, fun h80 => ?_⟩
              · have h80 : (ps_a s 1137 (Int32.toNatClampNeg (ps_i s 1131 22))).toInt ≠ (8 : Int) := xne h80
                exact k0 (by rw [xtn h22] at h80; omega)
              · have h80 : (ps_a s 1137 (Int32.toNatClampNeg (ps_i s 1131 22))).toInt = (8 : Int) := xeq h80
                exact k1 (by rw [xtn h22] at h80; omega)
          · refine ⟨fun h66 => ?_, fun h66 => ?_⟩
            · exact k1 (by omega)
            · exact absurd h66 (by decide)
        · exact absurd h37 (by decide)
    · exact absurd h7 (by decide)

theorem fm_197g {n rb : Nat} {s : ps_S} {T : Nat → Nat} {N p : Nat} {x1 : Int32} {R : ps_S → Prop} (hG : mv_G s) (hT : mv_T s T N) (hp : p ≤ N) (hK : mv_K s (tx_tok T N p)) (k1 : x1.toInt ≠ 0 → ∀ s', mv_A T N (tx_tok T N p).2.2.1 s s' → R s') (k0 : x1.toInt = 0 → ∀ s', (ps_i s' 1131 5).toInt = (tx_bk (tx_tok T N p) : Nat) ∧ (ps_i s' 1131 6).toInt = (tx_tok T N p).2.1 ∧ kq [] [5, 6] s s' → R s') : pl_Cl n 197 [.ref 1131, .int x1] s (ps_rV R) := by
  cases n with
  | zero => exact pl_At_0
  | succ n =>
  show pl_At (n + 1) 197 0 [(0, .ref 1131), (1, .int x1)] [] s (ps_rV R)
  refine pl_197_0 ?_
  refine fm_192 (fun q1 => ?_) (fun q1 => ?_)
  · refine ⟨fun h4 => ?_, fun h4 => ?_⟩
    · refine ⟨fun h9 => ?_, fun h9 => ?_⟩
      · have h9 : x1.toInt = (0 : Int) := xeq h9
        refine fm_196 hG.1 hK (fun s20 q20 => ?_)
        exact k0 (by omega) _ q20
      · have h9 : x1.toInt ≠ (0 : Int) := xne h9
        refine fs_194 hT hK.2.2.1 (tx_tok_ok (T := T) hp).2.1 (fun s13 q13 => ?_)
        exact k1 (by omega) _ q13
    · exact absurd h4 (by decide)
  · refine ⟨fun h4 => ?_, fun h4 => ?_⟩
    · exact absurd h4 (by decide)
    · exact absurd hG.1 q1
theorem fm_197b {n : Nat} {s : ps_S} {x1 : Int32} {R : ps_S → Prop} (hb : (ps_i s 1131 5).toInt ≠ 0) (k : R s) : pl_Cl n 197 [.ref 1131, .int x1] s (ps_rV R) := by
  cases n with
  | zero => exact pl_At_0
  | succ n =>
  show pl_At (n + 1) 197 0 [(0, .ref 1131), (1, .int x1)] [] s (ps_rV R)
  refine pl_197_0 ?_
  exact fm_192 (fun z => absurd z hb) (fun _ => ⟨fun h => absurd rfl h, fun _ => k⟩)

