set_option maxRecDepth 100000
/-! the class: rewriting; the row that is made, whether it fits -/
-- ProofBench$Rewriter.makeNormal(LProofBench$Theory;)I
theorem pl_85_0 {n : Nat} {r1 : Nat} {s : ps_S} {Q : Option Value → ps_S → Prop} (h :
  pl_Cl n 83 [.ref 1021, .ref r1] s (ps_rV (fun s1 =>
    pl_Cl n 103 [.ref 1026, .ref 1022, .ref r1] s1 (ps_rV (fun s2 =>
      pl_At n 85 19 [(0, .ref 1021), (1, .ref r1), (2, .int 0)] [] s2 Q))))) : pl_At (n + 1) 85 0 [(0, .ref 1021), (1, .ref r1)] [] s Q :=
  pl_wp_at (stops := [(19, [0, 1, 2]), (87, [0])]) (f := 13) h rfl

theorem pl_85_19 {n : Nat} {r1 : Nat} {x2 : Int32} {s : ps_S} {Q : Option Value → ps_S → Prop} (h :
  (60 < x2 →
    pl_At n 85 87 [(0, .ref 1021)] [] s Q) ∧
  (x2 ≤ 60 →
    pl_Cl n 86 [.ref 1021, .ref r1] s (ps_rI (fun v1 s1 =>
      (v1 ≠ 0 →
        pl_Cl n 95 [.ref 1022, .ref 1024] s1 (ps_rV (fun s2 =>
          pl_Cl n 103 [.ref 1026, .ref 1022, .ref r1] s2 (ps_rV (fun s3 =>
            ((ps_i s3 1024 2) ≠ 0 →
              pl_At n 85 87 [(0, .ref 1021)] [] s3 Q) ∧
            ((ps_i s3 1024 2) = 0 →
              pl_Cl n 106 [.ref 1026] s3 (ps_rI (fun v4 s4 =>
                (v4 = 0 →
                  pl_At n 85 19 [(0, .ref 1021), (1, .ref r1), (2, .int (x2 + 1))] [] s4 Q) ∧
                (v4 ≠ 0 →
                  pl_At n 85 87 [(0, .ref 1021)] [] s4 Q))))))))) ∧
      (v1 = 0 →
        Q (some (.int x2)) s1))))) : pl_At (n + 1) 85 19 [(0, .ref 1021), (1, .ref r1), (2, .int x2)] [] s Q :=
  pl_wp_at (stops := [(19, [0, 1, 2]), (87, [0])]) (f := 33) h rfl

theorem pl_85_87 {n : Nat} {s : ps_S} {Q : Option Value → ps_S → Prop} (h :
  pl_Cl n 91 [.ref 1022] s (ps_rV (fun s1 =>
    Q (some (.int (-2))) s1))) : pl_At (n + 1) 85 87 [(0, .ref 1021)] [] s Q :=
  pl_wp_at (stops := [(19, [0, 1, 2]), (87, [0])]) (f := 7) h rfl

-- ProofBench$Rewriter.goOn(LProofBench$Theory;)Z
theorem pl_86_0 {n : Nat} {r1 : Nat} {s : ps_S} {Q : Option Value → ps_S → Prop} (h :
  pl_At n 86 2 [(0, .ref 1021), (1, .ref r1), (2, .int 0)] [] s Q) : pl_At (n + 1) 86 0 [(0, .ref 1021), (1, .ref r1)] [] s Q :=
  pl_wp_at (stops := [(2, [0, 1, 2]), (15, [0, 1, 2, 3])]) (f := 4) h rfl

theorem pl_86_2 {n : Nat} {r1 : Nat} {x2 : Int32} {s : ps_S} {Q : Option Value → ps_S → Prop} (h :
  ((ps_i s 1022 1) ≤ x2 →
    Q (some (.int 0)) s) ∧
  (x2 < (ps_i s 1022 1) →
    pl_At n 86 15 [(0, .ref 1021), (1, .ref r1), (2, .int x2), (3, .int 0)] [] s Q)) : pl_At (n + 1) 86 2 [(0, .ref 1021), (1, .ref r1), (2, .int x2)] [] s Q :=
  pl_wp_at (stops := [(2, [0, 1, 2]), (15, [0, 1, 2, 3])]) (f := 11) h rfl

theorem pl_86_15 {n : Nat} {r1 : Nat} {x2 : Int32} {x3 : Int32} {s : ps_S} {Q : Option Value → ps_S → Prop} (h :
  pl_nk (ps_is r1 9) (((ps_i s r1 8) ≤ x3 →
    pl_At n 86 2 [(0, .ref 1021), (1, .ref r1), (2, .int (x2 + 1))] [] s Q) ∧
  (x3 < (ps_i s r1 8) →
    pl_Cl n 92 [.ref 1022, .int x2] s (ps_rI (fun v1 s1 =>
      pl_Cl n 186 [.int v1] s1 (ps_rI (fun v2 s2 =>
        (v2 = 0 →
          pl_At n 86 2 [(0, .ref 1021), (1, .ref r1), (2, .int (x2 + 1))] [] s2 Q) ∧
        (v2 ≠ 0 →
          pl_Cl n 182 [.ref 1037, .int x3] s2 (ps_rI (fun v3 s3 =>
            (v3 = (-1) →
              pl_At n 86 15 [(0, .ref 1021), (1, .ref r1), (2, .int x2), (3, .int (x3 + 1))] [] s3 Q) ∧
            (v3 ≠ (-1) →
              pl_Cl n 135 [.ref r1, .int x3] s3 (ps_rA (fun v4 s4 =>
                pl_Cl n 182 [.ref 1036, .int x3] s4 (ps_rI (fun v5 s5 =>
                  pl_Cl n 87 [.ref 1021, .ref v4, .int v5, .int v3, .int x2] s5 (ps_rI (fun v6 s6 =>
                    (v6 = 0 →
                      pl_At n 86 15 [(0, .ref 1021), (1, .ref r1), (2, .int x2), (3, .int (x3 + 1))] [] s6 Q) ∧
                    (v6 ≠ 0 →
                      pl_Cl n 135 [.ref r1, .int x3] s6 (ps_rA (fun v7 s7 =>
                        pl_Cl n 89 [.ref 1021, .ref v7, .int v3, .int x2] s7 (ps_rV (fun s8 =>
                          Q (some (.int 1)) s8)))))))))))))))))))))) : pl_At (n + 1) 86 15 [(0, .ref 1021), (1, .ref r1), (2, .int x2), (3, .int x3)] [] s Q :=
  pl_wp_at (stops := [(2, [0, 1, 2]), (15, [0, 1, 2, 3])]) (f := 49) h rfl

-- ProofBench$Rewriter.stands(LProofBench$Row;III)Z
theorem pl_87_0 {n : Nat} {r1 : Nat} {x2 : Int32} {x3 : Int32} {x4 : Int32} {s : ps_S} {Q : Option Value → ps_S → Prop} (h :
  pl_At n 87 3 [(0, .ref 1021), (1, .ref r1), (2, .int x2), (3, .int x3), (4, .int x4), (5, .int 0)] [] s Q) : pl_At (n + 1) 87 0 [(0, .ref 1021), (1, .ref r1), (2, .int x2), (3, .int x3), (4, .int x4)] [] s Q :=
  pl_wp_at (stops := [(3, [0, 1, 2, 3, 4, 5]), (32, [0, 1, 3, 5, 6])]) (f := 4) h rfl

theorem pl_87_3 {n : Nat} {r1 : Nat} {x2 : Int32} {x3 : Int32} {x4 : Int32} {x5 : Int32} {s : ps_S} {Q : Option Value → ps_S → Prop} (h :
  (5 ≤ x5 →
    pl_At n 87 32 [(0, .ref 1021), (1, .ref r1), (3, .int x3), (5, .int x4), (6, .int x2)] [] s Q) ∧
  (x5 < 5 →
    pl_Cl n 183 [.ref 1034, .int x5, .int (-1)] s (ps_rV (fun s1 =>
      pl_At n 87 3 [(0, .ref 1021), (1, .ref r1), (2, .int x2), (3, .int x3), (4, .int x4), (5, .int (x5 + 1))] [] s1 Q)))) : pl_At (n + 1) 87 3 [(0, .ref 1021), (1, .ref r1), (2, .int x2), (3, .int x3), (4, .int x4), (5, .int x5)] [] s Q :=
  pl_wp_at (stops := [(3, [0, 1, 2, 3, 4, 5]), (32, [0, 1, 3, 5, 6])]) (f := 16) h rfl

theorem pl_87_32 {n : Nat} {r1 : Nat} {x3 : Int32} {x5 : Int32} {x6 : Int32} {s : ps_S} {Q : Option Value → ps_S → Prop} (h :
  (x3 ≤ x6 →
    Q (some (.int 1)) s) ∧
  (x6 < x3 →
    pl_Cl n 92 [.ref r1, .int x6] s (ps_rI (fun v1 s1 =>
      pl_Cl n 185 [.int v1] s1 (ps_rI (fun v2 s2 =>
        (v2 = 0 →
          pl_Cl n 92 [.ref 1022, .int x5] s2 (ps_rI (fun v3 s3 =>
            (v1 ≠ v3 →
              Q (some (.int 0)) s3) ∧
            (v1 = v3 →
              pl_At n 87 32 [(0, .ref 1021), (1, .ref r1), (3, .int x3), (5, .int (x5 + 1)), (6, .int (x6 + 1))] [] s3 Q)))) ∧
        (v2 ≠ 0 →
          pl_Cl n 88 [.ref 1021, .int (v1 - 40), .int x5] s2 (ps_rI (fun v4 s4 =>
            (v4 ≠ 0 →
              pl_Cl n 104 [.ref 1026, .int x5] s4 (ps_rI (fun v5 s5 =>
                pl_At n 87 32 [(0, .ref 1021), (1, .ref r1), (3, .int x3), (5, .int v5), (6, .int (x6 + 1))] [] s5 Q))) ∧
            (v4 = 0 →
              Q (some (.int 0)) s4)))))))))) : pl_At (n + 1) 87 32 [(0, .ref 1021), (1, .ref r1), (3, .int x3), (5, .int x5), (6, .int x6)] [] s Q :=
  pl_wp_at (stops := [(3, [0, 1, 2, 3, 4, 5]), (32, [0, 1, 3, 5, 6])]) (f := 43) h rfl

-- ProofBench$Rewriter.binds(II)Z
theorem pl_88_0 {n : Nat} {x1 : Int32} {x2 : Int32} {s : ps_S} {Q : Option Value → ps_S → Prop} (h :
  pl_Cl n 104 [.ref 1026, .int x2] s (ps_rI (fun v1 s1 =>
    pl_Cl n 182 [.ref 1034, .int x1] s1 (ps_rI (fun v2 s2 =>
      (v2 ≠ (-1) →
        pl_Cl n 182 [.ref 1035, .int x1] s2 (ps_rI (fun v3 s3 =>
          ((v1 - x2) ≠ (v3 - v2) →
            Q (some (.int 0)) s3) ∧
          ((v1 - x2) = (v3 - v2) →
            pl_Cl n 99 [.ref 1022, .int x2, .int v1, .ref 1022, .int v2] s3 (ps_rI (fun v4 s4 =>
              (v4 = 0 →
                Q (some (.int 0)) s4) ∧
              (v4 ≠ 0 →
                Q (some (.int 1)) s4))))))) ∧
      (v2 = (-1) →
        pl_Cl n 183 [.ref 1034, .int x1, .int x2] s2 (ps_rV (fun s5 =>
          pl_Cl n 183 [.ref 1035, .int x1, .int v1] s5 (ps_rV (fun s6 =>
            Q (some (.int 1)) s6)))))))))) : pl_At (n + 1) 88 0 [(0, .ref 1021), (1, .int x1), (2, .int x2)] [] s Q :=
  pl_wp_at (stops := []) (f := 53) h rfl

-- ProofBench$Rewriter.putRight(LProofBench$Row;II)V
theorem pl_89_0 {n : Nat} {r1 : Nat} {x2 : Int32} {x3 : Int32} {s : ps_S} {Q : Option Value → ps_S → Prop} (h :
  pl_Cl n 91 [.ref 1024] s (ps_rV (fun s1 =>
    pl_Cl n 94 [.ref 1024, .ref 1022, .int 0, .int x3] s1 (ps_rV (fun s2 =>
      pl_At n 89 23 [(0, .ref 1021), (1, .ref r1), (3, .int x3), (4, .int x2)] [] s2 Q))))) : pl_At (n + 1) 89 0 [(0, .ref 1021), (1, .ref r1), (2, .int x2), (3, .int x3)] [] s Q :=
  pl_wp_at (stops := [(23, [0, 1, 3, 4])]) (f := 14) h rfl

theorem pl_89_23 {n : Nat} {r1 : Nat} {x3 : Int32} {x4 : Int32} {s : ps_S} {Q : Option Value → ps_S → Prop} (h :
  pl_nk (ps_is r1 5) (((ps_i s r1 1) ≤ x4 →
    pl_Cl n 104 [.ref 1026, .int x3] s (ps_rI (fun v1 s1 =>
      pl_Cl n 94 [.ref 1024, .ref 1022, .int v1, .int (ps_i s1 1022 1)] s1 (ps_rV (fun s2 =>
        Q none s2))))) ∧
  (x4 < (ps_i s r1 1) →
    pl_Cl n 92 [.ref r1, .int x4] s (ps_rI (fun v3 s3 =>
      pl_Cl n 185 [.int v3] s3 (ps_rI (fun v4 s4 =>
        (v4 = 0 →
          pl_Cl n 93 [.ref 1024, .int v3] s4 (ps_rV (fun s5 =>
            pl_At n 89 23 [(0, .ref 1021), (1, .ref r1), (3, .int x3), (4, .int (x4 + 1))] [] s5 Q))) ∧
        (v4 ≠ 0 →
          pl_Cl n 182 [.ref 1034, .int (v3 - 40)] s4 (ps_rI (fun v6 s6 =>
            pl_Cl n 182 [.ref 1035, .int (v3 - 40)] s6 (ps_rI (fun v7 s7 =>
              pl_Cl n 94 [.ref 1024, .ref 1022, .int v6, .int v7] s7 (ps_rV (fun s8 =>
                pl_At n 89 23 [(0, .ref 1021), (1, .ref r1), (3, .int x3), (4, .int (x4 + 1))] [] s8 Q)))))))))))))) : pl_At (n + 1) 89 23 [(0, .ref 1021), (1, .ref r1), (3, .int x3), (4, .int x4)] [] s Q :=
  pl_wp_at (stops := [(23, [0, 1, 3, 4])]) (f := 52) h rfl

-- ProofBench$Row.addPart(LProofBench$Row;II)V
theorem pl_94_0 {n : Nat} {r0 : Nat} {r1 : Nat} {x2 : Int32} {x3 : Int32} {s : ps_S} {Q : Option Value → ps_S → Prop} (h :
  pl_At n 94 3 [(0, .ref r0), (1, .ref r1), (3, .int x3), (4, .int x2)] [] s Q) : pl_At (n + 1) 94 0 [(0, .ref r0), (1, .ref r1), (2, .int x2), (3, .int x3)] [] s Q :=
  pl_wp_at (stops := [(3, [0, 1, 3, 4])]) (f := 4) h rfl

theorem pl_94_3 {n : Nat} {r0 : Nat} {r1 : Nat} {x3 : Int32} {x4 : Int32} {s : ps_S} {Q : Option Value → ps_S → Prop} (h :
  (x3 ≤ x4 →
    Q none s) ∧
  (x4 < x3 →
    pl_Cl n 92 [.ref r1, .int x4] s (ps_rI (fun v1 s1 =>
      pl_Cl n 93 [.ref r0, .int v1] s1 (ps_rV (fun s2 =>
        pl_At n 94 3 [(0, .ref r0), (1, .ref r1), (3, .int x3), (4, .int (x4 + 1))] [] s2 Q)))))) : pl_At (n + 1) 94 3 [(0, .ref r0), (1, .ref r1), (3, .int x3), (4, .int x4)] [] s Q :=
  pl_wp_at (stops := [(3, [0, 1, 3, 4])]) (f := 13) h rfl

-- ProofBench$Row.copy(LProofBench$Row;)V
theorem pl_95_0 {n : Nat} {r0 : Nat} {r1 : Nat} {s : ps_S} {Q : Option Value → ps_S → Prop} (h :
  pl_Cl n 91 [.ref r0] s (ps_rV (fun s1 =>
    pl_nk (ps_is r1 5) (pl_Cl n 94 [.ref r0, .ref r1, .int 0, .int (ps_i s1 r1 1)] s1 (ps_rV (fun s2 =>
      Q none s2)))))) : pl_At (n + 1) 95 0 [(0, .ref r0), (1, .ref r1)] [] s Q :=
  pl_wp_at (stops := []) (f := 11) h rfl

-- ProofBench$Shape.isTooDeep()Z
theorem pl_106_0 {n : Nat} {r0 : Nat} {s : ps_S} {Q : Option Value → ps_S → Prop} (h :
  pl_nk (ps_is r0 6) ((12 < (ps_i s r0 3) →
    Q (some (.int 1)) s) ∧
  ((ps_i s r0 3) ≤ 12 →
    pl_nk (ps_is r0 6) (((ps_i s r0 4) ≤ 5 →
      Q (some (.int 0)) s) ∧
    (5 < (ps_i s r0 4) →
      Q (some (.int 1)) s))))) : pl_At (n + 1) 106 0 [(0, .ref r0)] [] s Q :=
  pl_wp_at (stops := []) (f := 18) h rfl

-- ProofBench.rewrite()I
theorem pl_169_0 {n : Nat} {s : ps_S} {Q : Option Value → ps_S → Prop} (h :
  pl_Cl n 60 [.ref 902, .ref 1, .int (ps_i s 0 1), .ref (ps_r s 0 2), .ref 1022, .int 1] s (ps_rI (fun v1 s1 =>
    (v1 ≠ 0 →
      pl_Cl n 85 [.ref 1021, .ref (ps_r (ps_ui s1 0 1 0) 0 2)] (ps_ui s1 0 1 0) (ps_rI (fun v2 s2 =>
        Q (some (.int v2)) s2))) ∧
    (v1 = 0 →
      pl_Cl n 81 [.ref 1021] (ps_ui s1 0 1 0) (ps_rV (fun s3 =>
        Q (some (.int (-1))) s3)))))) : pl_At (n + 1) 169 0 [(0, .ref 0)] [] s Q :=
  pl_wp_at (stops := []) (f := 32) h rfl

-- ProofBench.normal(I)I
theorem pl_170_0 {n : Nat} {x1 : Int32} {s : ps_S} {Q : Option Value → ps_S → Prop} (h :
  pl_Cl n 92 [.ref 1022, .int x1] s (ps_rI (fun v1 s1 =>
    Q (some (.int v1)) s1))) : pl_At (n + 1) 170 0 [(0, .ref 0), (1, .int x1)] [] s Q :=
  pl_wp_at (stops := []) (f := 8) h rfl

theorem fv_92 {n : Nat} {r : Nat} {x1 : Int32} {s : ps_S} {R : Int32 → ps_S → Prop} (k : ∀ v, True → R v s) : pl_Cl n 92 [.ref r, .int x1] s (ps_rI R) := by
  cases n with
  | zero => exact pl_At_0
  | succ n =>
  show pl_At (n + 1) 92 0 [(0, .ref r), (1, .int x1)] [] s (ps_rI R)
  refine pl_92_0 ?_
  refine ⟨fun h1 => ?_, fun h1 => ?_⟩
  · have h1 : x1.toInt < (0 : Int) := xlt h1
    exact k _ trivial
  · have h1 : (0 : Int) ≤ x1.toInt := xle h1
    refine pl_nk_i (fun nk6 => ?_)
    refine ⟨fun h9 => ?_, fun h9 => ?_⟩
    · have h9 : (ps_i s r 1).toInt ≤ x1.toInt := xle h9
      exact k _ trivial
    · have h9 : x1.toInt < (ps_i s r 1).toInt := xlt h9
      refine pl_nk_i (fun nk14 => ?_)
      refine pl_nk_i (fun nk17 => ?_)
      refine ⟨fun h18 => ?_, fun h18 => ?_⟩
      · have h18 : (nI (ps_ln (ps_c0 r 0))).toInt ≤ x1.toInt := xle h18
        exact k _ trivial
      · have h18 : x1.toInt < (nI (ps_ln (ps_c0 r 0))).toInt := xlt h18
        refine pl_nk_i (fun nk22 => ?_)
        refine pl_nk_i (fun nk26 => ?_)
        intro b26
        obtain ⟨b26, c26⟩ := pl_in b26
        exact k _ trivial
theorem fv_136 {n : Nat} {r : Nat} {x1 : Int32} {s : ps_S} {R : Int32 → ps_S → Prop} (k : ∀ v, True → R v s) : pl_Cl n 136 [.ref r, .int x1] s (ps_rI R) := by
  cases n with
  | zero => exact pl_At_0
  | succ n =>
  show pl_At (n + 1) 136 0 [(0, .ref r), (1, .int x1)] [] s (ps_rI R)
  refine pl_136_0 ?_
  refine ⟨fun h1 => ?_, fun h1 => ?_⟩
  · have h1 : x1.toInt < (0 : Int) := xlt h1
    exact k _ trivial
  · have h1 : (0 : Int) ≤ x1.toInt := xle h1
    refine pl_nk_i (fun nk6 => ?_)
    refine pl_nk_i (fun nk9 => ?_)
    refine ⟨fun h10 => ?_, fun h10 => ?_⟩
    · have h10 : (nI (ps_ln (ps_c0 r 3))).toInt ≤ x1.toInt := xle h10
      exact k _ trivial
    · have h10 : x1.toInt < (nI (ps_ln (ps_c0 r 3))).toInt := xlt h10
      refine pl_nk_i (fun nk14 => ?_)
      refine pl_nk_i (fun nk18 => ?_)
      intro b18
      obtain ⟨b18, c18⟩ := pl_in b18
      exact k _ trivial
theorem fv_182 {n : Nat} {r : Nat} {x1 : Int32} {s : ps_S} {R : Int32 → ps_S → Prop} (k : ∀ v, True → R v s) : pl_Cl n 182 [.ref r, .int x1] s (ps_rI R) := by
  cases n with
  | zero => exact pl_At_0
  | succ n =>
  show pl_At (n + 1) 182 0 [(0, .ref r), (1, .int x1)] [] s (ps_rI R)
  refine pl_182_0 ?_
  refine ⟨fun h1 => ?_, fun h1 => ?_⟩
  · have h1 : x1.toInt < (0 : Int) := xlt h1
    exact k _ trivial
  · have h1 : (0 : Int) ≤ x1.toInt := xle h1
    refine pl_nk_i (fun nk6 => ?_)
    refine ⟨fun h7 => ?_, fun h7 => ?_⟩
    · have h7 : (nI (ps_ln r)).toInt ≤ x1.toInt := xle h7
      exact k _ trivial
    · have h7 : x1.toInt < (nI (ps_ln r)).toInt := xlt h7
      refine pl_nk_i (fun nk12 => ?_)
      intro b12
      obtain ⟨b12, c12⟩ := pl_in b12
      exact k _ trivial
theorem fv_104 {n : Nat} {r : Nat} {x1 : Int32} {s : ps_S} {R : Int32 → ps_S → Prop} (k : ∀ v, True → R v s) : pl_Cl n 104 [.ref r, .int x1] s (ps_rI R) := by
  cases n with
  | zero => exact pl_At_0
  | succ n =>
  show pl_At (n + 1) 104 0 [(0, .ref r), (1, .int x1)] [] s (ps_rI R)
  refine pl_104_0 ?_
  refine ⟨fun h1 => ?_, fun h1 => ?_⟩
  · have h1 : x1.toInt < (0 : Int) := xlt h1
    exact k _ trivial
  · have h1 : (0 : Int) ≤ x1.toInt := xle h1
    refine pl_nk_i (fun nk6 => ?_)
    refine pl_nk_i (fun nk9 => ?_)
    refine ⟨fun h10 => ?_, fun h10 => ?_⟩
    · have h10 : (nI (ps_ln (ps_c0 r 0))).toInt ≤ x1.toInt := xle h10
      exact k _ trivial
    · have h10 : x1.toInt < (nI (ps_ln (ps_c0 r 0))).toInt := xlt h10
      refine pl_nk_i (fun nk14 => ?_)
      refine pl_nk_i (fun nk18 => ?_)
      intro b18
      obtain ⟨b18, c18⟩ := pl_in b18
      exact k _ trivial
theorem fv_105 {n : Nat} {r : Nat} {x1 : Int32} {s : ps_S} {R : Int32 → ps_S → Prop} (k : ∀ v, True → R v s) : pl_Cl n 105 [.ref r, .int x1] s (ps_rI R) := by
  cases n with
  | zero => exact pl_At_0
  | succ n =>
  show pl_At (n + 1) 105 0 [(0, .ref r), (1, .int x1)] [] s (ps_rI R)
  refine pl_105_0 ?_
  refine ⟨fun h1 => ?_, fun h1 => ?_⟩
  · have h1 : x1.toInt < (0 : Int) := xlt h1
    exact k _ trivial
  · have h1 : (0 : Int) ≤ x1.toInt := xle h1
    refine pl_nk_i (fun nk6 => ?_)
    refine pl_nk_i (fun nk9 => ?_)
    refine ⟨fun h10 => ?_, fun h10 => ?_⟩
    · have h10 : (nI (ps_ln (ps_c0 r 2))).toInt ≤ x1.toInt := xle h10
      exact k _ trivial
    · have h10 : x1.toInt < (nI (ps_ln (ps_c0 r 2))).toInt := xlt h10
      refine pl_nk_i (fun nk14 => ?_)
      refine pl_nk_i (fun nk18 => ?_)
      intro b18
      obtain ⟨b18, c18⟩ := pl_in b18
      exact k _ trivial
theorem fv_184 {n : Nat} {x0 : Int32} {s : ps_S} {R : Int32 → ps_S → Prop} (k : ∀ v, True → R v s) : pl_Cl n 184 [.int x0] s (ps_rI R) := by
  cases n with
  | zero => exact pl_At_0
  | succ n =>
  show pl_At (n + 1) 184 0 [(0, .int x0)] [] s (ps_rI R)
  refine pl_184_0 ?_
  refine ⟨fun h2 => ?_, fun h2 => ?_⟩
  · have h2 : x0.toInt = (4 : Int) := xeq h2
    exact k _ trivial
  · have h2 : x0.toInt ≠ (4 : Int) := xne h2
    refine ⟨fun h7 => ?_, fun h7 => ?_⟩
    · have h7 : x0.toInt ≠ (5 : Int) := xne h7
      exact k _ trivial
    · have h7 : x0.toInt = (5 : Int) := xeq h7
      exact k _ trivial
theorem fv_183 {n : Nat} {r : Nat} {x1 x2 : Int32} {s : ps_S} {R : ps_S → Prop} (k : ∀ s', cfr (fun q => q = r) s s' → R s') : pl_Cl n 183 [.ref r, .int x1, .int x2] s (ps_rV R) := by
  cases n with
  | zero => exact pl_At_0
  | succ n =>
  show pl_At (n + 1) 183 0 [(0, .ref r), (1, .int x1), (2, .int x2)] [] s (ps_rV R)
  refine pl_183_0 ?_
  refine ⟨fun h1 => ?_, fun h1 => ?_⟩
  · have h1 : x1.toInt < (0 : Int) := xlt h1
    first
    | exact k _ cfr_refl
    | exact k _ (cfr_a cfr_refl rfl)
  · have h1 : (0 : Int) ≤ x1.toInt := xle h1
    refine pl_nk_i (fun nk6 => ?_)
    refine ⟨fun h7 => ?_, fun h7 => ?_⟩
    · have h7 : (nI (ps_ln r)).toInt ≤ x1.toInt := xle h7
      first
      | exact k _ cfr_refl
      | exact k _ (cfr_a cfr_refl rfl)
    · have h7 : x1.toInt < (nI (ps_ln r)).toInt := xlt h7
      refine pl_nk_i (fun nk13 => ?_)
      intro b13
      obtain ⟨b13, c13⟩ := pl_in b13
      first
      | exact k _ cfr_refl
      | exact k _ (cfr_a cfr_refl rfl)
/-- measuring any row changes the shape alone -/
theorem fv_103_all {r r1 th : Nat} {s0 : ps_S} {R : ps_S → Prop} (hr : ps_is r 6 = true) (k : ∀ s', cfr (CSh r) s0 s' → R s') : ∀ n : Nat, (∀ {s : ps_S} {x3 : Int32}, cfr (CSh r) s0 s → pl_At n 103 35 [(0, .ref r), (1, .ref r1), (2, .ref th), (3, .int x3)] [] s (ps_rV R)) ∧ (∀ {s : ps_S} {x3 x4 x5 : Int32}, cfr (CSh r) s0 s → pl_At n 103 55 [(0, .ref r), (1, .ref r1), (2, .ref th), (3, .int x3), (4, .int x4), (5, .int x5)] [] s (ps_rV R)) ∧ (∀ {s : ps_S} {x3 : Int32}, cfr (CSh r) s0 s → pl_At n 103 92 [(0, .ref r), (1, .ref r1), (2, .ref th), (3, .int x3)] [] s (ps_rV R)) ∧ (∀ {s : ps_S} {x3 x4 x5 x6 x7 : Int32}, cfr (CSh r) s0 s → pl_At n 103 176 [(0, .ref r), (1, .ref r1), (2, .ref th), (3, .int x3), (4, .int x4), (5, .int x5), (6, .int x6), (7, .int x7)] [] s (ps_rV R)) := by
  obtain ⟨⟨e0, e1, e2⟩, ⟨l0, l1, l2⟩, h50⟩ := shr hr
  intro n
  induction n with
  | zero => exact ⟨fun _ => pl_At_0, fun _ => pl_At_0, fun _ => pl_At_0, fun _ => pl_At_0⟩
  | succ n ih =>
    obtain ⟨i1, i2, i3, i4⟩ := ih
    refine ⟨fun {s x3} F => ?_, fun {s x3 x4 x5} F => ?_, fun {s x3} F => ?_, fun {s x3 x4 x5 x6 x7} F => ?_⟩
    · refine pl_103_35 ⟨fun _ => i3 F, fun _ => ?_⟩
      exact fv_92 (fun v _ => fv_136 (fun v2 _ => i2 F))
    · refine pl_103_55 ⟨fun _ => ?_, fun _ => ?_⟩
      · refine pl_nk_i (fun _ => ?_)
        rw [e0]
        exact fv_183 (fun s1 q => i1 (cfr_tr F (cfr_mono q (fun q z => by unfold CSh; omega))))
      · exact fv_104 (fun v _ => i2 F)
    · refine pl_103_92 (pl_nk_i (fun _ => ⟨fun _ => k s F, fun _ => ?_⟩))
      refine pl_nk_i (fun _ => ?_)
      refine fv_182 (fun v1 _ => fv_105 (fun v2 _ => fv_92 (fun v3 _ => fv_184 (fun v4 _ => ⟨fun _ => ?_, fun _ => ?_⟩))))
      · refine pl_nk_i (fun _ => pl_nk_i (fun _ => pl_nk_i (fun _ => pl_nk_i (fun _ => ?_))))
        exact fv_92 (fun v5 _ => fv_136 (fun v6 _ => i4 (cfr_i (cfr_i F (by unfold CSh; omega)) (by unfold CSh; omega))))
      · refine pl_nk_i (fun _ => pl_nk_i (fun _ => pl_nk_i (fun _ => pl_nk_i (fun _ => ?_))))
        exact fv_92 (fun v5 _ => fv_136 (fun v6 _ => i4 (cfr_i (cfr_i F (by unfold CSh; omega)) (by unfold CSh; omega))))
    · refine pl_103_176 ⟨fun _ => i3 F, fun _ => ?_⟩
      refine pl_nk_i (fun _ => ?_)
      rw [e1]
      refine fv_183 (fun s1 q1 => ?_)
      refine pl_nk_i (fun _ => ?_)
      rw [e2]
      refine fv_183 (fun s2 q2 => ?_)
      exact fv_104 (fun v _ => i4 (cfr_tr F (cfr_tr (cfr_mono q1 (fun q z => by unfold CSh; omega)) (cfr_mono q2 (fun q z => by unfold CSh; omega)))))
theorem fv_103 {n r r1 th : Nat} {s : ps_S} {R : ps_S → Prop} (hr : ps_is r 6 = true) (k : ∀ s', cfr (CSh r) s s' → R s') : pl_Cl n 103 [.ref r, .ref r1, .ref th] s (ps_rV R) := by
  cases n with
  | zero => exact pl_At_0
  | succ n =>
  show pl_At (n + 1) 103 0 [(0, .ref r), (1, .ref r1), (2, .ref th)] [] s (ps_rV R)
  obtain ⟨⟨e0, e1, e2⟩, ⟨l0, l1, l2⟩, h50⟩ := shr hr
  refine pl_103_0 ?_
  rw [e1, e2]
  refine pl_nk_i (fun _ => pl_nk_i (fun _ => pl_nk_i (fun _ => ?_)))
  refine fv_183 (fun s1 q1 => pl_nk_i (fun _ => fv_183 (fun s2 q2 => pl_nk_i (fun _ => ?_))))
  exact (fv_103_all hr k n).1 (cfr_tr (cfr_i (cfr_i cfr_refl (by unfold CSh; omega)) (by unfold CSh; omega)) (cfr_tr (cfr_mono q1 (fun q z => by unfold CSh; omega)) (cfr_mono q2 (fun q z => by unfold CSh; omega))))
/-- a row with what didn't fit -/
def CW (s : ps_S) (r : Nat) (L : List Nat) : Prop := (ps_i s r 1).toInt = (min L.length 40 : Nat) ∧ (L.length ≤ 40 → cv_W s r L) ∧ (40 < L.length → ps_i s r 2 ≠ 0)
def C2 (r q : Nat) : Prop := q = r ∨ q = r + 1
theorem CW_of {s : ps_S} {r : Nat} {L : List Nat} (W : cv_W s r L) : CW s r L := ⟨by rw [W.1]; have := W.2.2.1; omega, fun _ => W, fun z => by have := W.2.2.1; omega⟩
theorem CW_0 {s : ps_S} {r : Nat} : cv_W (ps_ui (ps_ui s r 1 0) r 2 0) r [] := by
  refine ⟨?_, ?_, Nat.zero_le _, fun k c hk => by cases hk⟩
  · rw [ps_i_ui, if_neg (by omega), ps_i_ui, if_pos ⟨rfl, rfl⟩]
    rfl
  · rw [ps_i_ui, if_pos ⟨rfl, rfl⟩]
theorem fs_93w {n r c : Nat} {L : List Nat} {x1 : Int32} {s : ps_S} {R : ps_S → Prop} (hr : ps_is r 5 = true) (W : CW s r L) (hx : x1.toInt = c) (k : ∀ s', CW s' r (L ++ [c]) → cfr (C2 r) s s' → R s') : pl_Cl n 93 [.ref r, .int x1] s (ps_rV R) := by
  obtain ⟨t1, t2, t3, -⟩ := cv_row hr
  obtain ⟨W1, W2, W3⟩ := W
  rcases Nat.lt_or_ge L.length 40 with z | z
  · have V := W2 (by omega)
    refine fs_93 hr V.1 z (k _ ?_ ?_)
    · obtain ⟨v1, v2, v3, v4⟩ := V
      have hlen : (L ++ [c]).length = L.length + 1 := List.length_append
      have e1 : (ps_i (ps_ui (ps_ua s (r + 1) L.length x1) r 1 (ps_i s r 1 + 1)) r 1).toInt = (L.length + 1 : Nat) := by
        rw [ps_i_ui, if_pos ⟨rfl, rfl⟩]
        exact xj1 v1 (by omega)
      have Vn : cv_W (ps_ui (ps_ua s (r + 1) L.length x1) r 1 (ps_i s r 1 + 1)) r (L ++ [c]) := by
        refine ⟨by rw [hlen]; exact e1, by rw [ps_i_ui, if_neg (by omega)]; exact v2, by omega, fun q d hq => ?_⟩
        show (ps_a (ps_ua s (r + 1) L.length x1) (r + 1) q).toInt = d
        rw [ps_a_ua]
        rcases Nat.lt_or_ge q L.length with y | y
        · rw [if_neg (by omega)]
          rw [List.getElem?_append_left y] at hq
          exact v4 q d hq
        · have := (List.getElem?_eq_some_iff.mp hq).1
          have e : q = L.length := by omega
          rw [if_pos ⟨rfl, e⟩]
          rw [e, List.getElem?_append_right (Nat.le_refl _), Nat.sub_self] at hq
          cases hq
          exact hx
      exact CW_of Vn
    · exact cfr_i (cfr_a cfr_refl (Or.inr rfl)) (Or.inl rfl)
  · have e40 : (ps_i s r 1).toInt = 40 := by omega
    cases n with
    | zero => exact pl_At_0
    | succ n =>
    show pl_At (n + 1) 93 0 [(0, .ref r), (1, .int x1)] [] s (ps_rV R)
    have t40 : (nI (ps_ln (ps_c0 r 0))).toInt = 40 := by
      rw [t1, t2]
      decide
    have hlen : (L ++ [c]).length = L.length + 1 := List.length_append
    have fin : ∀ v : Int32, v = 1 → R (ps_ui s r 2 v) := fun v hv => by
      refine k _ ⟨?_, fun y => ?_, fun _ => ?_⟩ (cfr_i cfr_refl (Or.inl rfl))
      · rw [ps_i_ui, if_neg (by omega), e40, hlen]
        omega
      · omega
      · rw [ps_i_ui, if_pos ⟨rfl, rfl⟩, hv]
        decide
    refine pl_93_0 (pl_nk_i (fun _ => ⟨fun y => absurd (xlt y) (by rw [e40]; decide), fun _ => pl_nk_i (fun _ => pl_nk_i (fun _ => pl_nk_i (fun _ => ⟨fun y => pl_nk_i (fun _ => fin 1 rfl), fun y => ?_⟩)))⟩))
    have y := xlt y
    omega
/-- a part of a row is added to another -/
theorem fs_94w_3 {r r1 a b : Nat} {l L : List Nat} {x3 : Int32} {s0 : ps_S} {R : ps_S → Prop} (hr : ps_is r 5 = true) (hr1 : ps_is r1 5 = true) (hd : r1 ≠ r ∧ r1 ≠ r + 1 ∧ r1 + 1 ≠ r) (W0 : cv_W s0 r1 l) (h3 : x3.toInt = b) (hb : b ≤ l.length) (k : ∀ s', CW s' r (L ++ (l.drop a).take (b - a)) → cfr (C2 r) s0 s' → R s') : ∀ (n : Nat) {s : ps_S} {x4 : Int32} {i : Nat}, x4.toInt = i → a ≤ i → (i ≤ b ∨ i = a) → CW s r (L ++ (l.drop a).take (i - a)) → cfr (C2 r) s0 s → pl_At n 94 3 [(0, .ref r), (1, .ref r1), (3, .int x3), (4, .int x4)] [] s (ps_rV R)
  | 0, _, _, _, _, _, _, _, _ => pl_At_0
  | n + 1, s, x4, i, h4, hi, hib, C, F => by
    have h40 := W0.2.2.1
    refine pl_94_3 ⟨fun z => ?_, fun z => ?_⟩
    · have z := xle z
      have e : (l.drop a).take (b - a) = (l.drop a).take (i - a) := by
        rcases hib with y | y
        · rw [show i = b from by omega]
        · rw [show b - a = 0 from by omega, show i - a = 0 from by omega]
      exact k s (by rw [e]; exact C) F
    · have z := xlt z
      obtain ⟨c, hc⟩ : ∃ c, l[i]? = some c := ⟨_, List.getElem?_eq_getElem (by omega)⟩
      have W := cv_W_cfr W0 F (by unfold C2; omega) (by unfold C2; omega)
      refine fs_92c hr1 W h4 hc (fun v q => ?_)
      refine fs_93w hr C q (fun s2 C2' F2 => ?_)
      refine fs_94w_3 hr hr1 hd W0 h3 hb k n (xj1 h4 (by omega)) (by omega) (Or.inl (by omega)) ?_ (cfr_tr F F2)
      have e : (l.drop a).take (i + 1 - a) = (l.drop a).take (i - a) ++ [c] := by
        rw [show i + 1 - a = (i - a) + 1 from by omega, List.take_succ, List.getElem?_drop, show a + (i - a) = i from by omega, hc]
        rfl
      rw [e, ← List.append_assoc]
      exact C2'
theorem fs_94w {n r r1 a b : Nat} {l L : List Nat} {x2 x3 : Int32} {s : ps_S} {R : ps_S → Prop} (hr : ps_is r 5 = true) (hr1 : ps_is r1 5 = true) (hd : r1 ≠ r ∧ r1 ≠ r + 1 ∧ r1 + 1 ≠ r) (W : cv_W s r1 l) (C : CW s r L) (h2 : x2.toInt = a) (h3 : x3.toInt = b) (hb : b ≤ l.length) (k : ∀ s', CW s' r (L ++ (l.drop a).take (b - a)) → cfr (C2 r) s s' → R s') : pl_Cl n 94 [.ref r, .ref r1, .int x2, .int x3] s (ps_rV R) := by
  cases n with
  | zero => exact pl_At_0
  | succ n =>
  show pl_At (n + 1) 94 0 [(0, .ref r), (1, .ref r1), (2, .int x2), (3, .int x3)] [] s (ps_rV R)
  refine pl_94_0 (fs_94w_3 hr hr1 hd W h3 hb k n h2 (Nat.le_refl _) (Or.inr rfl) ?_ cfr_refl)
  rw [Nat.sub_self, List.take_zero, List.append_nil]
  exact C
/-- any row's part is added: what changes -/
theorem fv_93 {n r : Nat} {x1 : Int32} {s : ps_S} {R : ps_S → Prop} (hr : ps_is r 5 = true) (k : ∀ s', cfr (C2 r) s s' → R s') : pl_Cl n 93 [.ref r, .int x1] s (ps_rV R) := by
  cases n with
  | zero => exact pl_At_0
  | succ n =>
  show pl_At (n + 1) 93 0 [(0, .ref r), (1, .int x1)] [] s (ps_rV R)
  obtain ⟨t1, t2, t3, -⟩ := cv_row hr
  refine pl_93_0 ?_
  refine pl_nk_i (fun nk1 => ?_)
  refine ⟨fun h4 => ?_, fun h4 => ?_⟩
  · have h4 : (ps_i s r 1).toInt < (0 : Int) := xlt h4
    refine pl_nk_i (fun nk44 => ?_)
    first
    | exact k _ (cfr_i cfr_refl (Or.inl rfl))
    | (rw [t1]; exact k _ (cfr_i (cfr_a cfr_refl (Or.inr rfl)) (Or.inl rfl)))
  · have h4 : (0 : Int) ≤ (ps_i s r 1).toInt := xle h4
    refine pl_nk_i (fun nk8 => ?_)
    refine pl_nk_i (fun nk12 => ?_)
    refine pl_nk_i (fun nk15 => ?_)
    refine ⟨fun h16 => ?_, fun h16 => ?_⟩
    · have h16 : (nI (ps_ln (ps_c0 r 0))).toInt ≤ (ps_i s r 1).toInt := xle h16
      refine pl_nk_i (fun nk44 => ?_)
      first
      | exact k _ (cfr_i cfr_refl (Or.inl rfl))
      | (rw [t1]; exact k _ (cfr_i (cfr_a cfr_refl (Or.inr rfl)) (Or.inl rfl)))
    · have h16 : (ps_i s r 1).toInt < (nI (ps_ln (ps_c0 r 0))).toInt := xlt h16
      refine pl_nk_i (fun nk20 => ?_)
      refine pl_nk_i (fun nk24 => ?_)
      refine pl_nk_i (fun nk28 => ?_)
      intro b28
      obtain ⟨b28, c28⟩ := pl_in b28
      refine pl_nk_i (fun nk31 => ?_)
      refine pl_nk_i (fun nk36 => ?_)
      first
      | exact k _ (cfr_i cfr_refl (Or.inl rfl))
      | (rw [t1]; exact k _ (cfr_i (cfr_a cfr_refl (Or.inr rfl)) (Or.inl rfl)))
theorem fv_94_3 {r r1 : Nat} {s0 : ps_S} {R : ps_S → Prop} (hr : ps_is r 5 = true) (k : ∀ s', cfr (C2 r) s0 s' → R s') : ∀ (n : Nat) {s : ps_S} {x3 x4 : Int32}, cfr (C2 r) s0 s → pl_At n 94 3 [(0, .ref r), (1, .ref r1), (3, .int x3), (4, .int x4)] [] s (ps_rV R)
  | 0, _, _, _, _ => pl_At_0
  | n + 1, s, x3, x4, F => by
    refine pl_94_3 ⟨fun _ => k s F, fun _ => ?_⟩
    exact fv_92 (fun v _ => fv_93 hr (fun s2 F2 => fv_94_3 hr k n (cfr_tr F F2)))
theorem fv_95 {n r r1 : Nat} {s : ps_S} {R : ps_S → Prop} (hr : ps_is r 5 = true) (k : ∀ s', cfr (C2 r) s s' → R s') : pl_Cl n 95 [.ref r, .ref r1] s (ps_rV R) := by
  cases n with
  | zero => exact pl_At_0
  | succ n =>
  show pl_At (n + 1) 95 0 [(0, .ref r), (1, .ref r1)] [] s (ps_rV R)
  refine pl_95_0 (fs_91 (pl_nk_i (fun _ => ?_)))
  cases n with
  | zero => exact pl_At_0
  | succ n =>
  exact pl_94_0 (fv_94_3 hr k n (cfr_i (cfr_i cfr_refl (Or.inl rfl)) (Or.inl rfl)))
/-- a row copied -/
theorem fs_95 {n r r1 : Nat} {l : List Nat} {s : ps_S} {R : ps_S → Prop} (hr : ps_is r 5 = true) (hr1 : ps_is r1 5 = true) (hd : r1 ≠ r ∧ r1 ≠ r + 1 ∧ r1 + 1 ≠ r) (W : cv_W s r1 l) (k : ∀ s', cv_W s' r l → cfr (C2 r) s s' → R s') : pl_Cl n 95 [.ref r, .ref r1] s (ps_rV R) := by
  cases n with
  | zero => exact pl_At_0
  | succ n =>
  show pl_At (n + 1) 95 0 [(0, .ref r), (1, .ref r1)] [] s (ps_rV R)
  have h40 := W.2.2.1
  have F1 : cfr (C2 r) s (ps_ui (ps_ui s r 1 0) r 2 0) := cfr_i (cfr_i cfr_refl (Or.inl rfl)) (Or.inl rfl)
  have W1 := cv_W_cfr W F1 (by unfold C2; omega) (by unfold C2; omega)
  refine pl_95_0 (fs_91 (pl_nk_i (fun _ => ?_)))
  have e : (ps_i s r1 1) = (ps_i (ps_ui (ps_ui s r 1 0) r 2 0) r1 1) := by rw [ps_i_ui, if_neg (by omega), ps_i_ui, if_neg (by omega)]
  try rw [e]
  refine fs_94w (a := 0) (b := l.length) hr hr1 hd W1 (CW_of CW_0) rfl W1.1 (Nat.le_refl _) (fun s2 C F2 => k s2 ?_ (cfr_tr F1 F2))
  rw [List.drop_zero, Nat.sub_zero, List.take_length, List.nil_append] at C
  exact C.2.1 h40
/-- what is bound, by places -/
def BNc (s : ps_S) (l : List Nat) (B : Nat → Option (List Nat)) : Prop := ∀ k, k < 5 → (B k = none ∧ (ps_a s 1034 k).toInt = -1) ∨ ∃ a b : Nat, (ps_a s 1034 k).toInt = a ∧ (ps_a s 1035 k).toInt = b ∧ a ≤ b ∧ b ≤ l.length ∧ B k = some ((l.drop a).take (b - a))
def CBn (q : Nat) : Prop := q = 1034 ∨ q = 1035
section R88
variable {ar : Nat → Nat} {l : List Nat}
theorem fs_88 {n k p : Nat} {x1 x2 : Int32} {s : ps_S} {B : Nat → Option (List Nat)} {R : Int32 → ps_S → Prop} (W : cv_W s 1022 l) (E : shE s 1026 ar l 0) (hp : p < l.length) (hen : p + en ar (l.drop p) 1 ≤ l.length) (hk : k < 5) (h1 : x1.toInt = k) (h2 : x2.toInt = p) (b : BNc s l B) (kn : B k = none → ∀ s', BNc s' l (rw_u B k ((l.drop p).take (en ar (l.drop p) 1))) → cfr CBn s s' → R 1 s') (ks : ∀ U, B k = some U → (U = (l.drop p).take (en ar (l.drop p) 1) → R 1 s) ∧ (¬ U = (l.drop p).take (en ar (l.drop p) 1) → R 0 s)) : pl_Cl n 88 [.ref 1021, .int x1, .int x2] s (ps_rI R) := by
  cases n with
  | zero => exact pl_At_0
  | succ n =>
  show pl_At (n + 1) 88 0 [(0, .ref 1021), (1, .int x1), (2, .int x2)] [] s (ps_rI R)
  have h40 := W.2.2.1
  have cm : (-1 : Int32).toInt = -1 := by decide
  refine pl_88_0 ?_
  refine fs_104 rfl h2 (by omega) (fun v1 q1 => ?_)
  have e1 : v1.toInt = (p + en ar (l.drop p) 1 : Nat) := by rw [q1]; exact E p (Nat.zero_le _) hp
  refine fs_182v (a := k) h1 (by rw [show ps_ln 1034 = 5 from rfl]; exact hk) (by decide) (fun v2 q2 => ?_)
  rcases b k hk with ⟨b1, b2⟩ | ⟨a, e, b1, b2, b3, b4, b5⟩
  · refine ⟨fun z => ?_, fun _ => ?_⟩
    · have z := xne z
      rw [q2] at z
      exact absurd b2 z
    · refine fs_183 (a := k) h1 (by rw [show ps_ln 1034 = 5 from rfl]; exact hk) (by decide) ?_
      refine fs_183 (a := k) h1 (by rw [show ps_ln 1035 = 5 from rfl]; exact hk) (by decide) ?_
      refine kn b1 _ (fun j hj => ?_) (cfr_a (cfr_a cfr_refl (Or.inl rfl)) (Or.inr rfl))
      unfold rw_u
      by_cases ej : j = k
      · right
        refine ⟨p, p + en ar (l.drop p) 1, ?_, ?_, by omega, hen, ?_⟩
        · rw [ps_a_ua, if_neg (by omega), ps_a_ua, if_pos ⟨rfl, ej⟩]
          exact h2
        · rw [ps_a_ua, if_pos ⟨rfl, ej⟩]
          exact e1
        · rw [if_pos ej, Nat.add_sub_cancel_left]
      · rw [if_neg ej, ps_a_ua, if_neg (by omega), ps_a_ua, if_neg (by omega), ps_a_ua, if_neg (by omega), ps_a_ua, if_neg (by omega)]
        exact b j hj
  · have v2e : v2.toInt = a := by rw [q2]; exact b1
    refine ⟨fun _ => ?_, fun z => ?_⟩
    · refine fs_182v (a := k) h1 (by rw [show ps_ln 1035 = 5 from rfl]; exact hk) (by decide) (fun v3 q3 => ?_)
      have v3e : v3.toInt = e := by rw [q3]; exact b2
      have ks := ks _ b5
      have d1 : (v1 - x2).toInt = (en ar (l.drop p) 1 : Nat) := by rw [xIs (by omega) (by omega), e1, h2]; omega
      have d2 : (v3 - v2).toInt = (e - a : Nat) := by rw [xIs (by omega) (by omega), v3e, v2e]; omega
      have l1 : ((l.drop a).take (e - a)).length = e - a := by rw [List.length_take, List.length_drop]; omega
      have l2 : ((l.drop p).take (en ar (l.drop p) 1)).length = en ar (l.drop p) 1 := by rw [List.length_take, List.length_drop]; omega
      refine ⟨fun z => ?_, fun z => ?_⟩
      · have z := xne z
        exact ks.2 (fun y => by rw [y] at l1; omega)
      · have z := xeq z
        have ez : en ar (l.drop p) 1 = e - a := by omega
        refine fs_99 (b := p) (e := p + en ar (l.drop p) 1) (p := a) rfl W rfl W h2 e1 hen v2e (by omega) (fun y => ⟨fun w => absurd w (by decide), fun _ => ks.1 ?_⟩) (fun y => ⟨fun _ => ks.2 (fun w => y ?_), fun w => absurd rfl w⟩)
        · rw [Nat.add_sub_cancel_left] at y
          rw [← ez]
          exact y.symm
        · rw [Nat.add_sub_cancel_left, ← w, ez]
    · have z := xeq z
      omega
end R88
theorem dt_c {r : List Nat} {i e c : Nat} (h : r[i]? = some c) (hi : i < e) : (r.drop i).take (e - i) = c :: (r.drop (i + 1)).take (e - (i + 1)) := by
  rw [drop_c h, show e - i = (e - (i + 1)) + 1 from by omega, List.take_succ_cons]
section R87
variable {g : tx_g} {l r : List Nat} {r1 rt : Nat} {s0 : ps_S} {R : Int32 → ps_S → Prop} {x3 : Int32} {p0 lf : Nat}
/-- a rule's left side is held against a place -/
theorem fs_87_32 (hA : ArW (sg g) (arh g)) (W0 : cv_W s0 1022 l) (E0 : shE s0 1026 (arh g) l 0) (hr1 : ps_is r1 5 = true) (hne : r1 < 1021) (Wr0 : cv_W s0 r1 r) (hv : ∀ c, c ∈ r → c < 60) (hv5 : ∀ c, c ∈ r → 40 ≤ c → c < 45) (h3 : x3.toInt = rt) (hrt : rt ≤ r.length) {M : Option (Nat × (Nat → Option (List Nat)))} (k1 : ∀ s' e B, M = some (e, B) → BNc s' l B → cfr CBn s0 s' → R 1 s') (k0 : ∀ s', M = none → cfr CBn s0 s' → R 0 s') : ∀ (n : Nat) {s : ps_S} {x5 x6 : Int32} {p i : Nat} {B : Nat → Option (List Nat)} {W W1 : List Bool}, x5.toInt = p → x6.toInt = i → i ≤ rt → BNc s l B → cfr CBn s0 s → ws (sg g) ((r.drop i).take (rt - i)) W → ws (sg g) (l.drop p) W1 → W.length ≤ W1.length → p ≤ l.length → M = rw_m (arh g) l ((r.drop i).take (rt - i)) p B → pl_At n 87 32 [(0, .ref 1021), (1, .ref r1), (3, .int x3), (5, .int x5), (6, .int x6)] [] s (ps_rI R)
  | 0, _, _, _, _, _, _, _, _, _, _, _, _, _, _, _, _, _, _ => pl_At_0
  | n + 1, s, x5, x6, p, i, B, W, W1, h5, h6, hi, b, F, hw, hw1, hle, hpl, hM => by
    have hl40 := W0.2.2.1
    have hr40 := Wr0.2.2.1
    have Wl := cv_W_cfr W0 F (by unfold CBn; omega) (by unfold CBn; omega)
    have Wr := cv_W_cfr Wr0 F (by unfold CBn; omega) (by unfold CBn; omega)
    have E : shE s 1026 (arh g) l 0 := fun j a c => by
      rw [(F 1027 (by unfold CBn; omega)).2.2.2.1]
      exact E0 j a c
    refine pl_87_32 ⟨fun z => ?_, fun z => ?_⟩
    · have z := xle z
      rw [show rt - i = 0 from by omega, List.take_zero] at hM
      exact k1 s p B hM b F
    · have z := xlt z
      obtain ⟨c, hc⟩ : ∃ c, r[i]? = some c := ⟨_, List.getElem?_eq_getElem (by omega)⟩
      have hcm := List.mem_of_getElem? hc
      have hc60 := hv c hcm
      rw [dt_c hc (by omega)] at hw hM
      obtain ⟨bb, W', ks, rfl, hk, hw'⟩ := ws_cons.mp hw
      have ha := hA bb c ks hk
      have hpos : 1 ≤ W1.length := by rw [List.length_cons] at hle; omega
      have hlt : p < l.length := by
        have := en_lt hA hw1 (show 0 < W1.length by omega)
        rw [List.length_drop] at this
        omega
      refine fs_92c hr1 Wr h6 hc (fun v1 q1 => ?_)
      refine fs_185 (fun h1 => ⟨fun z => absurd z (by decide), fun _ => ?_⟩) (fun h1 => ⟨fun _ => ?_, fun z => absurd rfl z⟩)
      · -- a bound piece of the rule
        have h40 : 40 ≤ c := by omega
        have h45 := hv5 c hcm h40
        have hks : ks = [] := by
          have := (arh_lo (g := g) (c := c)).2.2.2.2 h40
          exact List.eq_nil_of_length_eq_zero (by omega)
        rw [hks, List.nil_append] at hw'
        have c40 : (40 : Int32).toInt = 40 := by decide
        have hen := en_le hA hw1 (k := 1) hpos
        rw [List.length_drop] at hen
        have hrest := (en_rest hA hw1 (k := 1) hpos).1
        rw [List.drop_drop] at hrest
        have go : ∀ {s2 : ps_S} {B2 : Nat → Option (List Nat)}, BNc s2 l B2 → cfr CBn s0 s2 → M = rw_m (arh g) l ((r.drop (i + 1)).take (rt - (i + 1))) (p + en (arh g) (l.drop p) 1) B2 → pl_Cl n 104 [.ref 1026, .int x5] s2 (ps_rI (fun v5 s5 => pl_At n 87 32 [(0, .ref 1021), (1, .ref r1), (3, .int x3), (5, .int v5), (6, .int (x6 + 1))] [] s5 (ps_rI R))) := fun {s2 B2} b2 F2 hM2 => by
          refine fs_104 rfl h5 (by omega) (fun v5 q5 => ?_)
          have e5 : v5.toInt = (p + en (arh g) (l.drop p) 1 : Nat) := by
            rw [q5, (F2 1027 (by unfold CBn; omega)).2.2.2.1]
            exact E0 p (Nat.zero_le _) hlt
          exact fs_87_32 hA W0 E0 hr1 hne Wr0 hv hv5 h3 hrt k1 k0 n e5 (xj1 h6 (by omega)) (by omega) b2 F2 hw' hrest (by rw [List.length_drop]; rw [List.length_cons] at hle; omega) (by omega) hM2
        refine fs_88 (k := c - 40) (p := p) Wl E hlt (by omega) (by omega) (by rw [xIs (by omega) (by omega), q1, c40]; omega) h5 b (fun hB s2 b2 F2 => ⟨fun _ => ?_, fun z => absurd z (by decide)⟩) (fun U hB => ⟨fun y => ⟨fun _ => ?_, fun z => absurd z (by decide)⟩, fun y => ⟨fun z => absurd rfl z, fun _ => ?_⟩⟩)
        · exact go b2 (cfr_tr F F2) (by rw [hM, rw_m_n h40 hB])
        · exact go b F (by rw [hM, rw_m_s h40 hB, if_pos y])
        · exact k0 s (by rw [hM, rw_m_s h40 hB, if_neg y]) F
      · have h40 : ¬ 40 ≤ c := by omega
        obtain ⟨c2, hc2⟩ : ∃ c2, l[p]? = some c2 := ⟨_, List.getElem?_eq_getElem hlt⟩
        refine fs_92c rfl Wl h5 hc2 (fun v3 q3 => ⟨fun y => ?_, fun y => ?_⟩)
        · have y := xne y
          refine k0 s ?_ F
          rw [hM, rw_m_c h40, if_neg (fun w => by rw [hc2] at w; cases w; exact y (by rw [q1, q3]))]
        · have y := xeq y
          have e2 : c2 = c := by omega
          subst e2
          rw [drop_c hc2] at hw1
          obtain ⟨bb2, W1', ks2, rfl, hk2, hw1'⟩ := ws_cons.mp hw1
          have ha2 := hA bb2 c2 ks2 hk2
          refine fs_87_32 hA W0 E0 hr1 hne Wr0 hv hv5 h3 hrt k1 k0 n (xj1 h5 (by omega)) (xj1 h6 (by omega)) (by omega) b F hw' hw1' ?_ (by omega) (by rw [hM, rw_m_c h40, if_pos hc2])
          rw [List.length_append, List.length_append]
          rw [List.length_cons, List.length_cons] at hle
          omega
theorem fs_87_3 {x4 x2 : Int32} (k : ∀ n s', BNc s' l (fun _ => none) → cfr CBn s0 s' → pl_At n 87 32 [(0, .ref 1021), (1, .ref r1), (3, .int x3), (5, .int x4), (6, .int x2)] [] s' (ps_rI R)) : ∀ (n : Nat) {s : ps_S} {x5 : Int32} {i : Nat}, x5.toInt = i → i ≤ 5 → (∀ j, j < i → (ps_a s 1034 j).toInt = -1) → cfr CBn s0 s → pl_At n 87 3 [(0, .ref 1021), (1, .ref r1), (2, .int x2), (3, .int x3), (4, .int x4), (5, .int x5)] [] s (ps_rI R)
  | 0, _, _, _, _, _, _, _ => pl_At_0
  | n + 1, s, x5, i, h5, hi, hj, F => by
    have c5 : (5 : Int32).toInt = 5 := by decide
    refine pl_87_3 ⟨fun z => ?_, fun z => ?_⟩
    · have z := xle z
      exact k n s (fun j hj5 => Or.inl ⟨rfl, hj j (by omega)⟩) F
    · have z := xlt z
      refine fs_183 (a := i) h5 (by rw [show ps_ln 1034 = 5 from rfl]; omega) (by decide) ?_
      refine fs_87_3 k n (xj1 h5 (by omega)) (by omega) (fun j hj2 => ?_) (cfr_a F (Or.inl rfl))
      rw [ps_a_ua]
      by_cases e : j = i
      · rw [if_pos ⟨rfl, e⟩]
        decide
      · rw [if_neg (fun w => e w.2)]
        exact hj j (by omega)
theorem fs_87 {n : Nat} {x2 x4 : Int32} {W W1 : List Bool} (hA : ArW (sg g) (arh g)) (W0 : cv_W s0 1022 l) (E0 : shE s0 1026 (arh g) l 0) (hr1 : ps_is r1 5 = true) (hne : r1 < 1021) (Wr0 : cv_W s0 r1 r) (hv : ∀ c, c ∈ r → c < 60) (hv5 : ∀ c, c ∈ r → 40 ≤ c → c < 45) (h2 : x2.toInt = lf) (h3 : x3.toInt = rt) (hlr : lf ≤ rt) (hrt : rt ≤ r.length) (h4 : x4.toInt = p0) (hp : p0 ≤ l.length) (hw : ws (sg g) ((r.drop lf).take (rt - lf)) W) (hw1 : ws (sg g) (l.drop p0) W1) (hle : W.length ≤ W1.length) (k1 : ∀ s' e B, rw_m (arh g) l ((r.drop lf).take (rt - lf)) p0 (fun _ => none) = some (e, B) → BNc s' l B → cfr CBn s0 s' → R 1 s') (k0 : ∀ s', rw_m (arh g) l ((r.drop lf).take (rt - lf)) p0 (fun _ => none) = none → cfr CBn s0 s' → R 0 s') : pl_Cl n 87 [.ref 1021, .ref r1, .int x2, .int x3, .int x4] s0 (ps_rI R) := by
  cases n with
  | zero => exact pl_At_0
  | succ n =>
  show pl_At (n + 1) 87 0 [(0, .ref 1021), (1, .ref r1), (2, .int x2), (3, .int x3), (4, .int x4)] [] s0 (ps_rI R)
  refine pl_87_0 (fs_87_3 (l := l) (s0 := s0) (fun n s1 b F => ?_) n (i := 0) rfl (Nat.zero_le _) (fun j hj => absurd hj (Nat.not_lt_zero _)) cfr_refl)
  exact fs_87_32 hA W0 E0 hr1 hne Wr0 hv hv5 h3 hrt k1 k0 n h4 h2 hlr b F hw hw1 hle hp rfl
end R87

