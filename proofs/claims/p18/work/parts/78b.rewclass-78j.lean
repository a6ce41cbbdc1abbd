section
set_option maxRecDepth 100000
/-! the class: rewriting; the row that is made, whether it fits -/
-- ProofBench$Rewriter.makeNormal(LProofBench$Theory;)I
theorem pl_85_0 {n : Nat} {r1 : Nat} {s : ps_S} {Q : Option Value → ps_S → Prop} (h :
  pl_Cl n 83 [.ref 1021, .ref r1] s (ps_rV (fun s1 =>
    pl_Cl n 103 [.ref 1026, .ref 1022, .ref r1] s1 (ps_rV (fun s2 =>
      pl_At n 85 19 [(0, .ref 1021), (1, .ref r1), (2, .int 0)] [] s2 Q))))) : pl_At (n + 1) 85 0 [(0, .ref 1021), (1, .ref r1)] [] s Q :=
  pl_wp_at (stops := [(19, [0, 1, 2]), (87, [0])]) (f := 13) h rfl

theorem pl_85_19 {n : Nat} {r1 : Nat} {x2 : Int32} {s : ps_S} {Q : Option Value → ps_S → Prop} (h :
  (60 < x2 →
    pl_At n 85 87 [(0, .ref 1021)] [] s Q) ∧
  (x2 ≤ 60 →
    pl_Cl n 86 [.ref 1021, .ref r1] s (ps_rI (fun v1 s1 =>
      (v1 ≠ 0 →
        pl_Cl n 95 [.ref 1022, .ref 1024] s1 (ps_rV (fun s2 =>
          pl_Cl n 103 [.ref 1026, .ref 1022, .ref r1] s2 (ps_rV (fun s3 =>
            ((ps_i s3 1024 2) ≠ 0 →
              pl_At n 85 87 [(0, .ref 1021)] [] s3 Q) ∧
            ((ps_i s3 1024 2) = 0 →
              pl_Cl n 106 [.ref 1026] s3 (ps_rI (fun v4 s4 =>
                (v4 = 0 →
                  pl_At n 85 19 [(0, .ref 1021), (1, .ref r1), (2, .int (x2 + 1))] [] s4 Q) ∧
                (v4 ≠ 0 →
                  pl_At n 85 87 [(0, .ref 1021)] [] s4 Q))))))))) ∧
      (v1 = 0 →
        Q (some (.int x2)) s1))))) : pl_At (n + 1) 85 19 [(0, .ref 1021), (1, .ref r1), (2, .int x2)] [] s Q :=
  pl_wp_at (stops := [(19, [0, 1, 2]), (87, [0])]) (f := 33) h rfl

theorem pl_85_87 {n : Nat} {s : ps_S} {Q : Option Value → ps_S → Prop} (h :
  pl_Cl n 91 [.ref 1022] s (ps_rV (fun s1 =>
    Q (some (.int (-2))) s1))) : pl_At (n + 1) 85 87 [(0, .ref 1021)] [] s Q :=
  pl_wp_at (stops := [(19, [0, 1, 2]), (87, [0])]) (f := 7) h rfl

-- ProofBench$Rewriter.goOn(LProofBench$Theory;)Z
theorem pl_86_0 {n : Nat} {r1 : Nat} {s : ps_S} {Q : Option Value → ps_S → Prop} (h :
  pl_At n 86 2 [(0, .ref 1021), (1, .ref r1), (2, .int 0)] [] s Q) : pl_At (n + 1) 86 0 [(0, .ref 1021), (1, .ref r1)] [] s Q :=
  pl_wp_at (stops := [(2, [0, 1, 2]), (15, [0, 1, 2, 3])]) (f := 4) h rfl

theorem pl_86_2 {n : Nat} {r1 : Nat} {x2 : Int32} {s : ps_S} {Q : Option Value → ps_S → Prop} (h :
  ((ps_i s 1022 1) ≤ x2 →
    Q (some (.int 0)) s) ∧
  (x2 < (ps_i s 1022 1) →
    pl_At n 86 15 [(0, .ref 1021), (1, .ref r1), (2, .int x2), (3, .int 0)] [] s Q)) : pl_At (n + 1) 86 2 [(0, .ref 1021), (1, .ref r1), (2, .int x2)] [] s Q :=
  pl_wp_at (stops := [(2, [0, 1, 2]), (15, [0, 1, 2, 3])]) (f := 11) h rfl

theorem pl_86_15 {n : Nat} {r1 : Nat} {x2 : Int32} {x3 : Int32} {s : ps_S} {Q : Option Value → ps_S → Prop} (h :
  pl_nk (ps_is r1 9) (((ps_i s r1 8) ≤ x3 →
    pl_At n 86 2 [(0, .ref 1021), (1, .ref r1), (2, .int (x2 + 1))] [] s Q) ∧
  (x3 < (ps_i s r1 8) →
    pl_Cl n 92 [.ref 1022, .int x2] s (ps_rI (fun v1 s1 =>
      pl_Cl n 186 [.int v1] s1 (ps_rI (fun v2 s2 =>
        (v2 = 0 →
          pl_At n 86 2 [(0, .ref 1021), (1, .ref r1), (2, .int (x2 + 1))] [] s2 Q) ∧
        (v2 ≠ 0 →
          pl_Cl n 182 [.ref 1037, .int x3] s2 (ps_rI (fun v3 s3 =>
            (v3 = (-1) →
              pl_At n 86 15 [(0, .ref 1021), (1, .ref r1), (2, .int x2), (3, .int (x3 + 1))] [] s3 Q) ∧
            (v3 ≠ (-1) →
              pl_Cl n 135 [.ref r1, .int x3] s3 (ps_rA (fun v4 s4 =>
                pl_Cl n 182 [.ref 1036, .int x3] s4 (ps_rI (fun v5 s5 =>
                  pl_Cl n 87 [.ref 1021, .ref v4, .int v5, .int v3, .int x2] s5 (ps_rI (fun v6 s6 =>
                    (v6 = 0 →
                      pl_At n 86 15 [(0, .ref 1021), (1, .ref r1), (2, .int x2), (3, .int (x3 + 1))] [] s6 Q) ∧
                    (v6 ≠ 0 →
                      pl_Cl n 135 [.ref r1, .int x3] s6 (ps_rA (fun v7 s7 =>
                        pl_Cl n 89 [.ref 1021, .ref v7, .int v3, .int x2] s7 (ps_rV (fun s8 =>
                          Q (some (.int 1)) s8)))))))))))))))))))))) : pl_At (n + 1) 86 15 [(0, .ref 1021), (1, .ref r1), (2, .int x2), (3, .int x3)] [] s Q :=
  pl_wp_at (stops := [(2, [0, 1, 2]), (15, [0, 1, 2, 3])]) (f := 49) h rfl

-- ProofBench$Rewriter.stands(LProofBench$Row;III)Z
theorem pl_87_0 {n : Nat} {r1 : Nat} {x2 : Int32} {x3 : Int32} {x4 : Int32} {s : ps_S} {Q : Option Value → ps_S → Prop} (h :
  pl_At n 87 3 [(0, .ref 1021), (1, .ref r1), (2, .int x2), (3, .int x3), (4, .int x4), (5, .int 0)] [] s Q) : pl_At (n + 1) 87 0 [(0, .ref 1021), (1, .ref r1), (2, .int x2), (3, .int x3), (4, .int x4)] [] s Q :=
  pl_wp_at (stops := [(3, [0, 1, 2, 3, 4, 5]), (32, [0, 1, 3, 5, 6])]) (f := 4) h rfl

theorem pl_87_3 {n : Nat} {r1 : Nat} {x2 : Int32} {x3 : Int32} {x4 : Int32} {x5 : Int32} {s : ps_S} {Q : Option Value → ps_S → Prop} (h :
  (5 ≤ x5 →
    pl_At n 87 32 [(0, .ref 1021), (1, .ref r1), (3, .int x3), (5, .int x4), (6, .int x2)] [] s Q) ∧
  (x5 < 5 →
    pl_Cl n 183 [.ref 1034, .int x5, .int (-1)] s (ps_rV (fun s1 =>
      pl_At n 87 3 [(0, .ref 1021), (1, .ref r1), (2, .int x2), (3, .int x3), (4, .int x4), (5, .int (x5 + 1))] [] s1 Q)))) : pl_At (n + 1) 87 3 [(0, .ref 1021), (1, .ref r1), (2, .int x2), (3, .int x3), (4, .int x4), (5, .int x5)] [] s Q :=
  pl_wp_at (stops := [(3, [0, 1, 2, 3, 4, 5]), (32, [0, 1, 3, 5, 6])]) (f := 16) h rfl

theorem pl_87_32 {n : Nat} {r1 : Nat} {x3 : Int32} {x5 : Int32} {x6 : Int32} {s : ps_S} {Q : Option Value → ps_S → Prop} (h :
  (x3 ≤ x6 →
    Q (some (.int 1)) s) ∧
  (x6 < x3 →
    pl_Cl n 92 [.ref r1, .int x6] s (ps_rI (fun v1 s1 =>
      pl_Cl n 185 [.int v1] s1 (ps_rI (fun v2 s2 =>
        (v2 = 0 →
          pl_Cl n 92 [.ref 1022, .int x5] s2 (ps_rI (fun v3 s3 =>
            (v1 ≠ v3 →
              Q (some (.int 0)) s3) ∧
            (v1 = v3 →
              pl_At n 87 32 [(0, .ref 1021), (1, .ref r1), (3, .int x3), (5, .int (x5 + 1)), (6, .int (x6 + 1))] [] s3 Q)))) ∧
        (v2 ≠ 0 →
          pl_Cl n 88 [.ref 1021, .int (v1 - 40), .int x5] s2 (ps_rI (fun v4 s4 =>
            (v4 ≠ 0 →
              pl_Cl n 104 [.ref 1026, .int x5] s4 (ps_rI (fun v5 s5 =>
                pl_At n 87 32 [(0, .ref 1021), (1, .ref r1), (3, .int x3), (5, .int v5), (6, .int (x6 + 1))] [] s5 Q))) ∧
            (v4 = 0 →
              Q (some (.int 0)) s4)))))))))) : pl_At (n + 1) 87 32 [(0, .ref 1021), (1, .ref r1), (3, .int x3), (5, .int x5), (6, .int x6)] [] s Q :=
  pl_wp_at (stops := [(3, [0, 1, 2, 3, 4, 5]), (32, [0, 1, 3, 5, 6])]) (f := 43) h rfl

-- ProofBench$Rewriter.binds(II)Z
theorem pl_88_0 {n : Nat} {x1 : Int32} {x2 : Int32} {s : ps_S} {Q : Option Value → ps_S → Prop} (h :
  pl_Cl n 104 [.ref 1026, .int x2] s (ps_rI (fun v1 s1 =>
    pl_Cl n 182 [.ref 1034, .int x1] s1 (ps_rI (fun v2 s2 =>
      (v2 ≠ (-1) →
        pl_Cl n 182 [.ref 1035, .int x1] s2 (ps_rI (fun v3 s3 =>
          ((v1 - x2) ≠ (v3 - v2) →
            Q (some (.int 0)) s3) ∧
          ((v1 - x2) = (v3 - v2) →
            pl_Cl n 99 [.ref 1022, .int x2, .int v1, .ref 1022, .int v2] s3 (ps_rI (fun v4 s4 =>
              (v4 = 0 →
                Q (some (.int 0)) s4) ∧
              (v4 ≠ 0 →
                Q (some (.int 1)) s4))))))) ∧
      (v2 = (-1) →
        pl_Cl n 183 [.ref 1034, .int x1, .int x2] s2 (ps_rV (fun s5 =>
          pl_Cl n 183 [.ref 1035, .int x1, .int v1] s5 (ps_rV (fun s6 =>
            Q (some (.int 1)) s6)))))))))) : pl_At (n + 1) 88 0 [(0, .ref 1021), (1, .int x1), (2, .int x2)] [] s Q :=
  pl_wp_at (stops := []) (f := 53) h rfl

-- ProofBench$Rewriter.putRight(LProofBench$Row;II)V
theorem pl_89_0 {n : Nat} {r1 : Nat} {x2 : Int32} {x3 : Int32} {s : ps_S} {Q : Option Value → ps_S → Prop} (h :
  pl_Cl n 91 [.ref 1024] s (ps_rV (fun s1 =>
    pl_Cl n 94 [.ref 1024, .ref 1022, .int 0, .int x3] s1 (ps_rV (fun s2 =>
      pl_At n 89 23 [(0, .ref 1021), (1, .ref r1), (3, .int x3), (4, .int x2)] [] s2 Q))))) : pl_At (n + 1) 89 0 [(0, .ref 1021), (1, .ref r1), (2, .int x2), (3, .int x3)] [] s Q :=
  pl_wp_at (stops := [(23, [0, 1, 3, 4])]) (f := 14) h rfl

theorem pl_89_23 {n : Nat} {r1 : Nat} {x3 : Int32} {x4 : Int32} {s : ps_S} {Q : Option Value → ps_S → Prop} (h :
  pl_nk (ps_is r1 5) (((ps_i s r1 1) ≤ x4 →
    pl_Cl n 104 [.ref 1026, .int x3] s (ps_rI (fun v1 s1 =>
      pl_Cl n 94 [.ref 1024, .ref 1022, .int v1, .int (ps_i s1 1022 1)] s1 (ps_rV (fun s2 =>
        Q none s2))))) ∧
  (x4 < (ps_i s r1 1) →
    pl_Cl n 92 [.ref r1, .int x4] s (ps_rI (fun v3 s3 =>
      pl_Cl n 185 [.int v3] s3 (ps_rI (fun v4 s4 =>
        (v4 = 0 →
          pl_Cl n 93 [.ref 1024, .int v3] s4 (ps_rV (fun s5 =>
            pl_At n 89 23 [(0, .ref 1021), (1, .ref r1), (3, .int x3), (4, .int (x4 + 1))] [] s5 Q))) ∧
        (v4 ≠ 0 →
          pl_Cl n 182 [.ref 1034, .int (v3 - 40)] s4 (ps_rI (fun v6 s6 =>
            pl_Cl n 182 [.ref 1035, .int (v3 - 40)] s6 (ps_rI (fun v7 s7 =>
              pl_Cl n 94 [.ref 1024, .ref 1022, .int v6, .int v7] s7 (ps_rV (fun s8 =>
                pl_At n 89 23 [(0, .ref 1021), (1, .ref r1), (3, .int x3), (4, .int (x4 + 1))] [] s8 Q)))))))))))))) : pl_At (n + 1) 89 23 [(0, .ref 1021), (1, .ref r1), (3, .int x3), (4, .int x4)] [] s Q :=
  pl_wp_at (stops := [(23, [0, 1, 3, 4])]) (f := 52) h rfl

-- ProofBench$Row.addPart(LProofBench$Row;II)V
theorem pl_94_0 {n : Nat} {r0 : Nat} {r1 : Nat} {x2 : Int32} {x3 : Int32} {s : ps_S} {Q : Option Value → ps_S → Prop} (h :
  pl_At n 94 3 [(0, .ref r0), (1, .ref r1), (3, .int x3), (4, .int x2)] [] s Q) : pl_At (n + 1) 94 0 [(0, .ref r0), (1, .ref r1), (2, .int x2), (3, .int x3)] [] s Q :=
  pl_wp_at (stops := [(3, [0, 1, 3, 4])]) (f := 4) h rfl

theorem pl_94_3 {n : Nat} {r0 : Nat} {r1 : Nat} {x3 : Int32} {x4 : Int32} {s : ps_S} {Q : Option Value → ps_S → Prop} (h :
  (x3 ≤ x4 →
    Q none s) ∧
  (x4 < x3 →
    pl_Cl n 92 [.ref r1, .int x4] s (ps_rI (fun v1 s1 =>
      pl_Cl n 93 [.ref r0, .int v1] s1 (ps_rV (fun s2 =>
        pl_At n 94 3 [(0, .ref r0), (1, .ref r1), (3, .int x3), (4, .int (x4 + 1))] [] s2 Q)))))) : pl_At (n + 1) 94 3 [(0, .ref r0), (1, .ref r1), (3, .int x3), (4, .int x4)] [] s Q :=
  pl_wp_at (stops := [(3, [0, 1, 3, 4])]) (f := 13) h rfl

-- ProofBench$Row.copy(LProofBench$Row;)V
theorem pl_95_0 {n : Nat} {r0 : Nat} {r1 : Nat} {s : ps_S} {Q : Option Value → ps_S → Prop} (h :
  pl_Cl n 91 [.ref r0] s (ps_rV (fun s1 =>
    pl_nk (ps_is r1 5) (pl_Cl n 94 [.ref r0, .ref r1, .int 0, .int (ps_i s1 r1 1)] s1 (ps_rV (fun s2 =>
      Q none s2)))))) : pl_At (n + 1) 95 0 [(0, .ref r0), (1, .ref r1)] [] s Q :=
  pl_wp_at (stops := []) (f := 11) h rfl

-- ProofBench$Shape.isTooDeep()Z
theorem pl_106_0 {n : Nat} {r0 : Nat} {s : ps_S} {Q : Option Value → ps_S → Prop} (h :
  pl_nk (ps_is r0 6) ((12 < (ps_i s r0 3) →
    Q (some (.int 1)) s) ∧
  ((ps_i s r0 3) ≤ 12 →
    pl_nk (ps_is r0 6) (((ps_i s r0 4) ≤ 5 →
      Q (some (.int 0)) s) ∧
    (5 < (ps_i s r0 4) →
      Q (some (.int 1)) s))))) : pl_At (n + 1) 106 0 [(0, .ref r0)] [] s Q :=
  pl_wp_at (stops := []) (f := 18) h rfl

-- ProofBench.rewrite()I
theorem pl_169_0 {n : Nat} {s : ps_S} {Q : Option Value → ps_S → Prop} (h :
  pl_Cl n 60 [.ref 902, .ref 1, .int (ps_i s 0 1), .ref (ps_r s 0 2), .ref 1022, .int 1] s (ps_rI (fun v1 s1 =>
    (v1 ≠ 0 →
      pl_Cl n 85 [.ref 1021, .ref (ps_r (ps_ui s1 0 1 0) 0 2)] (ps_ui s1 0 1 0) (ps_rI (fun v2 s2 =>
        Q (some (.int v2)) s2))) ∧
    (v1 = 0 →
      pl_Cl n 81 [.ref 1021] (ps_ui s1 0 1 0) (ps_rV (fun s3 =>
        Q (some (.int (-1))) s3)))))) : pl_At (n + 1) 169 0 [(0, .ref 0)] [] s Q :=
  pl_wp_at (stops := []) (f := 32) h rfl

-- ProofBench.normal(I)I
theorem pl_170_0 {n : Nat} {x1 : Int32} {s : ps_S} {Q : Option Value → ps_S → Prop} (h :
  pl_Cl n 92 [.ref 1022, .int x1] s (ps_rI (fun v1 s1 =>
    Q (some (.int v1)) s1))) : pl_At (n + 1) 170 0 [(0, .ref 0), (1, .int x1)] [] s Q :=
  pl_wp_at (stops := []) (f := 8) h rfl

theorem fv_92 {n : Nat} {r : Nat} {x1 : Int32} {s : ps_S} {R : Int32 → ps_S → Prop} (k : ∀ v, True → R v s) : pl_Cl n 92 [.ref r, .int x1] s (ps_rI R) := by
  cases n with
  | zero => exact pl_At_0
  | succ n =>
  show pl_At (n + 1) 92 0 [(0, .ref r), (1, .int x1)] [] s (ps_rI R)
  refine pl_92_0 ?_
  refine ⟨fun h1 => ?_, fun h1 => ?_⟩
  · have h1 : x1.toInt < (0 : Int) := xlt h1
    exact k _ trivial
  · have h1 : (0 : Int) ≤ x1.toInt := xle h1
    refine pl_nk_i (fun nk6 => ?_)
    refine ⟨fun h9 => ?_, fun h9 => ?_⟩
    · have h9 : (ps_i s r 1).toInt ≤ x1.toInt := xle h9
      exact k _ trivial
    · have h9 : x1.toInt < (ps_i s r 1).toInt := xlt h9
      refine pl_nk_i (fun nk14 => ?_)
      refine pl_nk_i (fun nk17 => ?_)
      refine ⟨fun h18 => ?_, fun h18 => ?_⟩
      · have h18 : (nI (ps_ln (ps_c0 r 0))).toInt ≤ x1.toInt := xle h18
        exact k _ trivial
      · have h18 : x1.toInt < (nI (ps_ln (ps_c0 r 0))).toInt := xlt h18
        refine pl_nk_i (fun nk22 => ?_)
        refine pl_nk_i (fun nk26 => ?_)
        intro b26
        obtain ⟨b26, c26⟩ := pl_in b26
        exact k _ trivial
theorem fv_136 {n : Nat} {r : Nat} {x1 : Int32} {s : ps_S} {R : Int32 → ps_S → Prop} (k : ∀ v, True → R v s) : pl_Cl n 136 [.ref r, .int x1] s (ps_rI R) := by
  cases n with
  | zero => exact pl_At_0
  | succ n =>
  show pl_At (n + 1) 136 0 [(0, .ref r), (1, .int x1)] [] s (ps_rI R)
  refine pl_136_0 ?_
  refine ⟨fun h1 => ?_, fun h1 => ?_⟩
  · have h1 : x1.toInt < (0 : Int) := xlt h1
    exact k _ trivial
  · have h1 : (0 : Int) ≤ x1.toInt := xle h1
    refine pl_nk_i (fun nk6 => ?_)
    refine pl_nk_i (fun nk9 => ?_)
    refine ⟨fun h10 => ?_, fun h10 => ?_⟩
    · have h10 : (nI (ps_ln (ps_c0 r 3))).toInt ≤ x1.toInt := xle h10
      exact k _ trivial
    · have h10 : x1.toInt < (nI (ps_ln (ps_c0 r 3))).toInt := xlt h10
      refine pl_nk_i (fun nk14 => ?_)
      refine pl_nk_i (fun nk18 => ?_)
      intro b18
      obtain ⟨b18, c18⟩ := pl_in b18
      exact k _ trivial
theorem fv_182 {n : Nat} {r : Nat} {x1 : Int32} {s : ps_S} {R : Int32 → ps_S → Prop} (k : ∀ v, True → R v s) : pl_Cl n 182 [.ref r, .int x1] s (ps_rI R) := by
  cases n with
  | zero => exact pl_At_0
  | succ n =>
  show pl_At (n + 1) 182 0 [(0, .ref r), (1, .int x1)] [] s (ps_rI R)
  refine pl_182_0 ?_
  refine ⟨fun h1 => ?_, fun h1 => ?_⟩
  · have h1 : x1.toInt < (0 : Int) := xlt h1
    exact k _ trivial
  · have h1 : (0 : Int) ≤ x1.toInt := xle h1
    refine pl_nk_i (fun nk6 => ?_)
    refine ⟨fun h7 => ?_, fun h7 => ?_⟩
    · have h7 : (nI (ps_ln r)).toInt ≤ x1.toInt := xle h7
      exact k _ trivial
    · have h7 : x1.toInt < (nI (ps_ln r)).toInt := xlt h7
      refine pl_nk_i (fun nk12 => ?_)
      intro b12
      obtain ⟨b12, c12⟩ := pl_in b12
      exact k _ trivial
theorem fv_104 {n : Nat} {r : Nat} {x1 : Int32} {s : ps_S} {R : Int32 → ps_S → Prop} (k : ∀ v, True → R v s) : pl_Cl n 104 [.ref r, .int x1] s (ps_rI R) := by
  cases n with
  | zero => exact pl_At_0
  | succ n =>
  show pl_At (n + 1) 104 0 [(0, .ref r), (1, .int x1)] [] s (ps_rI R)
  refine pl_104_0 ?_
  refine ⟨fun h1 => ?_, fun h1 => ?_⟩
  · have h1 : x1.toInt < (0 : Int) := xlt h1
    exact k _ trivial
  · have h1 : (0 : Int) ≤ x1.toInt := xle h1
    refine pl_nk_i (fun nk6 => ?_)
    refine pl_nk_i (fun nk9 => ?_)
    refine ⟨fun h10 => ?_, fun h10 => ?_⟩
    · have h10 : (nI (ps_ln (ps_c0 r 0))).toInt ≤ x1.toInt := xle h10
      exact k _ trivial
    · have h10 : x1.toInt < (nI (ps_ln (ps_c0 r 0))).toInt := xlt h10
      refine pl_nk_i (fun nk14 => ?_)
      refine pl_nk_i (fun nk18 => ?_)
      intro b18
      obtain ⟨b18, c18⟩ := pl_in b18
      exact k _ trivial
theorem fv_105 {n : Nat} {r : Nat} {x1 : Int32} {s : ps_S} {R : Int32 → ps_S → Prop} (k : ∀ v, True → R v s) : pl_Cl n 105 [.ref r, .int x1] s (ps_rI R) := by
  cases n with
  | zero => exact pl_At_0
  | succ n =>
  show pl_At (n + 1) 105 0 [(0, .ref r), (1, .int x1)] [] s (ps_rI R)
  refine pl_105_0 ?_
  refine ⟨fun h1 => ?_, fun h1 => ?_⟩
  · have h1 : x1.toInt < (0 : Int) := xlt h1
    exact k _ trivial
  · have h1 : (0 : Int) ≤ x1.toInt := xle h1
    refine pl_nk_i (fun nk6 => ?_)
    refine pl_nk_i (fun nk9 => ?_)
    refine ⟨fun h10 => ?_, fun h10 => ?_⟩
    · have h10 : (nI (ps_ln (ps_c0 r 2))).toInt ≤ x1.toInt := xle h10
      exact k _ trivial
    · have h10 : x1.toInt < (nI (ps_ln (ps_c0 r 2))).toInt := xlt h10
      refine pl_nk_i (fun nk14 => ?_)
      refine pl_nk_i (fun nk18 => ?_)
      intro b18
      obtain ⟨b18, c18⟩ := pl_in b18
      exact k _ trivial
theorem fv_184 {n : Nat} {x0 : Int32} {s : ps_S} {R : Int32 → ps_S → Prop} (k : ∀ v, True → R v s) : pl_Cl n 184 [.int x0] s (ps_rI R) := by
  cases n with
  | zero => exact pl_At_0
  | succ n =>
  show pl_At (n + 1) 184 0 [(0, .int x0)] [] s (ps_rI R)
  refine pl_184_0 ?_
  refine ⟨fun h2 => ?_, fun h2 => ?_⟩
  · have h2 : x0.toInt = (4 : Int) := xeq h2
    exact k _ trivial
  · have h2 : x0.toInt ≠ (4 : Int) := xne h2
    refine ⟨fun h7 => ?_, fun h7 => ?_⟩
    · have h7 : x0.toInt ≠ (5 : Int) := xne h7
      exact k _ trivial
    · have h7 : x0.toInt = (5 : Int) := xeq h7
      exact k _ trivial
theorem fv_183 {n : Nat} {r : Nat} {x1 x2 : Int32} {s : ps_S} {R : ps_S → Prop} (k : ∀ s', cfr (fun q => q = r) s s' → R s') : pl_Cl n 183 [.ref r, .int x1, .int x2] s (ps_rV R) := by
  cases n with
  | zero => exact pl_At_0
  | succ n =>
  show pl_At (n + 1) 183 0 [(0, .ref r), (1, .int x1), (2, .int x2)] [] s (ps_rV R)
  refine pl_183_0 ?_
  refine ⟨fun h1 => ?_, fun h1 => ?_⟩
  · have h1 : x1.toInt < (0 : Int) := xlt h1
    first
    | exact k _ cfr_refl
    | exact k _ (cfr_a cfr_refl rfl)
  · have h1 : (0 : Int) ≤ x1.toInt := xle h1
    refine pl_nk_i (fun nk6 => ?_)
    refine ⟨fun h7 => ?_, fun h7 => ?_⟩
    · have h7 : (nI (ps_ln r)).toInt ≤ x1.toInt := xle h7
      first
      | exact k _ cfr_refl
      | exact k _ (cfr_a cfr_refl rfl)
    · have h7 : x1.toInt < (nI (ps_ln r)).toInt := xlt h7
      refine pl_nk_i (fun nk13 => ?_)
      intro b13
      obtain ⟨b13, c13⟩ := pl_in b13
      first
      | exact k _ cfr_refl
      | exact k _ (cfr_a cfr_refl rfl)
/-- measuring any row changes the shape alone -/
theorem fv_103_all {r r1 th : Nat} {s0 : ps_S} {R : ps_S → Prop} (hr : ps_is r 6 = true) (k : ∀ s', cfr (CSh r) s0 s' → R s') : ∀ n : Nat, (∀ {s : ps_S} {x3 : Int32}, cfr (CSh r) s0 s → pl_At n 103 35 [(0, .ref r), (1, .ref r1), (2, .ref th), (3, .int x3)] [] s (ps_rV R)) ∧ (∀ {s : ps_S} {x3 x4 x5 : Int32}, cfr (CSh r) s0 s → pl_At n 103 55 [(0, .ref r), (1, .ref r1), (2, .ref th), (3, .int x3), (4, .int x4), (5, .int x5)] [] s (ps_rV R)) ∧ (∀ {s : ps_S} {x3 : Int32}, cfr (CSh r) s0 s → pl_At n 103 92 [(0, .ref r), (1, .ref r1), (2, .ref th), (3, .int x3)] [] s (ps_rV R)) ∧ (∀ {s : ps_S} {x3 x4 x5 x6 x7 : Int32}, cfr (CSh r) s0 s → pl_At n 103 176 [(0, .ref r), (1, .ref r1), (2, .ref th), (3, .int x3), (4, .int x4), (5, .int x5), (6, .int x6), (7, .int x7)] [] s (ps_rV R)) := by
  obtain ⟨⟨e0, e1, e2⟩, ⟨l0, l1, l2⟩, h50⟩ := shr hr
  intro n
  induction n with
  | zero => exact ⟨fun _ => pl_At_0, fun _ => pl_At_0, fun _ => pl_At_0, fun _ => pl_At_0⟩
  | succ n ih =>
    obtain ⟨i1, i2, i3, i4⟩ := ih
    refine ⟨fun {s x3} F => ?_, fun {s x3 x4 x5} F => ?_, fun {s x3} F => ?_, fun {s x3 x4 x5 x6 x7} F => ?_⟩
    · refine pl_103_35 ⟨fun _ => i3 F, fun _ => ?_⟩
      exact fv_92 (fun v _ => fv_136 (fun v2 _ => i2 F))
    · refine pl_103_55 ⟨fun _ => ?_, fun _ => ?_⟩
      · refine pl_nk_i (fun _ => ?_)
        rw [e0]
        exact fv_183 (fun s1 q => i1 (cfr_tr F (cfr_mono q (fun q z => by unfold CSh; omega))))
      · exact fv_104 (fun v _ => i2 F)
    · refine pl_103_92 (pl_nk_i (fun _ => ⟨fun _ => k s F, fun _ => ?_⟩))
      refine pl_nk_i (fun _ => ?_)
      refine fv_182 (fun v1 _ => fv_105 (fun v2 _ => fv_92 (fun v3 _ => fv_184 (fun v4 _ => ⟨fun _ => ?_, fun _ => ?_⟩))))
      · refine pl_nk_i (fun _ => pl_nk_i (fun _ => pl_nk_i (fun _ => pl_nk_i (fun _ => ?_))))
        exact fv_92 (fun v5 _ => fv_136 (fun v6 _ => i4 (cfr_i (cfr_i F (by unfold CSh; omega)) (by unfold CSh; omega))))
      · refine pl_nk_i (fun _ => pl_nk_i (fun _ => pl_nk_i (fun _ => pl_nk_i (fun _ => ?_))))
        exact fv_92 (fun v5 _ => fv_136 (fun v6 _ => i4 (cfr_i (cfr_i F (by unfold CSh; omega)) (by unfold CSh; omega))))
    · refine pl_103_176 ⟨fun _ => i3 F, fun _ => ?_⟩
      refine pl_nk_i (fun _ => ?_)
      rw [e1]
      refine fv_183 (fun s1 q1 => ?_)
      refine pl_nk_i (fun _ => ?_)
      rw [e2]
      refine fv_183 (fun s2 q2 => ?_)
      exact fv_104 (fun v _ => i4 (cfr_tr F (cfr_tr (cfr_mono q1 (fun q z => by unfold CSh; omega)) (cfr_mono q2 (fun q z => by unfold CSh; omega)))))
theorem fv_103 {n r r1 th : Nat} {s : ps_S} {R : ps_S → Prop} (hr : ps_is r 6 = true) (k : ∀ s', cfr (CSh r) s s' → R s') : pl_Cl n 103 [.ref r, .ref r1, .ref th] s (ps_rV R) := by
  cases n with
  | zero => exact pl_At_0
  | succ n =>
  show pl_At (n + 1) 103 0 [(0, .ref r), (1, .ref r1), (2, .ref th)] [] s (ps_rV R)
  obtain ⟨⟨e0, e1, e2⟩, ⟨l0, l1, l2⟩, h50⟩ := shr hr
  refine pl_103_0 ?_
  rw [e1, e2]
  refine pl_nk_i (fun _ => pl_nk_i (fun _ => pl_nk_i (fun _ => ?_)))
  refine fv_183 (fun s1 q1 => pl_nk_i (fun _ => fv_183 (fun s2 q2 => pl_nk_i (fun _ => ?_))))
  exact (fv_103_all hr k n).1 (cfr_tr (cfr_i (cfr_i cfr_refl (by unfold CSh; omega)) (by unfold CSh; omega)) (cfr_tr (cfr_mono q1 (fun q z => by unfold CSh; omega)) (cfr_mono q2 (fun q z => by unfold CSh; omega))))
/-- a row with what didn't fit -/
def CW (s : ps_S) (r : Nat) (L : List Nat) : Prop := (ps_i s r 1).toInt = (min L.length 40 : Nat) ∧ (L.length ≤ 40 → cv_W s r L) ∧ (40 < L.length → ps_i s r 2 ≠ 0)
def C2 (r q : Nat) : Prop := q = r ∨ q = r + 1
theorem CW_of {s : ps_S} {r : Nat} {L : List Nat} (W : cv_W s r L) : CW s r L := ⟨by rw [W.1]; have := W.2.2.1; omega, fun _ => W, fun z => by have := W.2.2.1; omega⟩
theorem CW_0 {s : ps_S} {r : Nat} : cv_W (ps_ui (ps_ui s r 1 0) r 2 0) r [] := by
  refine ⟨?_, ?_, Nat.zero_le _, fun k c hk => by cases hk⟩
  · rw [ps_i_ui, if_neg (by omega), ps_i_ui, if_pos ⟨rfl, rfl⟩]
    rfl
  · rw [ps_i_ui, if_pos ⟨rfl, rfl⟩]
theorem fs_93w {n r c : Nat} {L : List Nat} {x1 : Int32} {s : ps_S} {R : ps_S → Prop} (hr : ps_is r 5 = true) (W : CW s r L) (hx : x1.toInt = c) (k : ∀ s', CW s' r (L ++ [c]) → cfr (C2 r) s s' → R s') : pl_Cl n 93 [.ref r, .int x1] s (ps_rV R) := by
  obtain ⟨t1, t2, t3, -⟩ := cv_row hr
  obtain ⟨W1, W2, W3⟩ := W
  rcases Nat.lt_or_ge L.length 40 with z | z
  · have V := W2 (by omega)
    refine fs_93 hr V.1 z (k _ ?_ ?_)
    · obtain ⟨v1, v2, v3, v4⟩ := V
      have hlen : (L ++ [c]).length = L.length + 1 := List.length_append
      have e1 : (ps_i (ps_ui (ps_ua s (r + 1) L.length x1) r 1 (ps_i s r 1 + 1)) r 1).toInt = (L.length + 1 : Nat) := by
        rw [ps_i_ui, if_pos ⟨rfl, rfl⟩]
        exact xj1 v1 (by omega)
      have Vn : cv_W (ps_ui (ps_ua s (r + 1) L.length x1) r 1 (ps_i s r 1 + 1)) r (L ++ [c]) := by
        refine ⟨by rw [hlen]; exact e1, by rw [ps_i_ui, if_neg (by omega)]; exact v2, by omega, fun q d hq => ?_⟩
        show (ps_a (ps_ua s (r + 1) L.length x1) (r + 1) q).toInt = d
        rw [ps_a_ua]
        rcases Nat.lt_or_ge q L.length with y | y
        · rw [if_neg (by omega)]
          rw [List.getElem?_append_left y] at hq
          exact v4 q d hq
        · have := (List.getElem?_eq_some_iff.mp hq).1
          have e : q = L.length := by omega
          rw [if_pos ⟨rfl, e⟩]
          rw [e, List.getElem?_append_right (Nat.le_refl _), Nat.sub_self] at hq
          cases hq
          exact hx
      exact CW_of Vn
    · exact cfr_i (cfr_a cfr_refl (Or.inr rfl)) (Or.inl rfl)
  · have e40 : (ps_i s r 1).toInt = 40 := by omega
    cases n with
    | zero => exact pl_At_0
    | succ n =>
    show pl_At (n + 1) 93 0 [(0, .ref r), (1, .int x1)] [] s (ps_rV R)
    have t40 : (nI (ps_ln (ps_c0 r 0))).toInt = 40 := by
      rw [t1, t2]
      decide
    have hlen : (L ++ [c]).length = L.length + 1 := List.length_append
    have fin : ∀ v : Int32, v = 1 → R (ps_ui s r 2 v) := fun v hv => by
      refine k _ ⟨?_, fun y => ?_, fun _ => ?_⟩ (cfr_i cfr_refl (Or.inl rfl))
      · rw [ps_i_ui, if_neg (by omega), e40, hlen]
        omega
      · omega
      · rw [ps_i_ui, if_pos ⟨rfl, rfl⟩, hv]
        decide
    refine pl_93_0 (pl_nk_i (fun _ => ⟨fun y => absurd (xlt y) (by rw [e40]; decide), fun _ => pl_nk_i (fun _ => pl_nk_i (fun _ => pl_nk_i (fun _ => ⟨fun y => pl_nk_i (fun _ => fin 1 rfl), fun y => ?_⟩)))⟩))
    have y := xlt y
    omega
/-- a part of a row is added to another -/
theorem fs_94w_3 {r r1 a b : Nat} {l L : List Nat} {x3 : Int32} {s0 : ps_S} {R : ps_S → Prop} (hr : ps_is r 5 = true) (hr1 : ps_is r1 5 = true) (hd : r1 ≠ r ∧ r1 ≠ r + 1 ∧ r1 + 1 ≠ r) (W0 : cv_W s0 r1 l) (h3 : x3.toInt = b) (hb : b ≤ l.length) (k : ∀ s', CW s' r (L ++ (l.drop a).take (b - a)) → cfr (C2 r) s0 s' → R s') : ∀ (n : Nat) {s : ps_S} {x4 : Int32} {i : Nat}, x4.toInt = i → a ≤ i → (i ≤ b ∨ i = a) → CW s r (L ++ (l.drop a).take (i - a)) → cfr (C2 r) s0 s → pl_At n 94 3 [(0, .ref r), (1, .ref r1), (3, .int x3), (4, .int x4)] [] s (ps_rV R)
  | 0, _, _, _, _, _, _, _, _ => pl_At_0
  | n + 1, s, x4, i, h4, hi, hib, C, F => by
    have h40 := W0.2.2.1
    refine pl_94_3 ⟨fun z => ?_, fun z => ?_⟩
    · have z := xle z
      have e : (l.drop a).take (b - a) = (l.drop a).take (i - a) := by
        rcases hib with y | y
        · rw [show i = b from by omega]
        · rw [show b - a = 0 from by omega, show i - a = 0 from by omega]
      exact k s (by rw [e]; exact C) F
    · have z := xlt z
      obtain ⟨c, hc⟩ : ∃ c, l[i]? = some c := ⟨_, List.getElem?_eq_getElem (by omega)⟩
      have W := cv_W_cfr W0 F (by unfold C2; omega) (by unfold C2; omega)
      refine fs_92c hr1 W h4 hc (fun v q => ?_)
      refine fs_93w hr C q (fun s2 C2' F2 => ?_)
      refine fs_94w_3 hr hr1 hd W0 h3 hb k n (xj1 h4 (by omega)) (by omega) (Or.inl (by omega)) ?_ (cfr_tr F F2)
      have e : (l.drop a).take (i + 1 - a) = (l.drop a).take (i - a) ++ [c] := by
        rw [show i + 1 - a = (i - a) + 1 from by omega, List.take_succ, List.getElem?_drop, show a + (i - a) = i from by omega, hc]
        rfl
      rw [e, ← List.append_assoc]
      exact C2'
theorem fs_94w {n r r1 a b : Nat} {l L : List Nat} {x2 x3 : Int32} {s : ps_S} {R : ps_S → Prop} (hr : ps_is r 5 = true) (hr1 : ps_is r1 5 = true) (hd : r1 ≠ r ∧ r1 ≠ r + 1 ∧ r1 + 1 ≠ r) (W : cv_W s r1 l) (C : CW s r L) (h2 : x2.toInt = a) (h3 : x3.toInt = b) (hb : b ≤ l.length) (k : ∀ s', CW s' r (L ++ (l.drop a).take (b - a)) → cfr (C2 r) s s' → R s') : pl_Cl n 94 [.ref r, .ref r1, .int x2, .int x3] s (ps_rV R) := by
  cases n with
  | zero => exact pl_At_0
  | succ n =>
  show pl_At (n + 1) 94 0 [(0, .ref r), (1, .ref r1), (2, .int x2), (3, .int x3)] [] s (ps_rV R)
  refine pl_94_0 (fs_94w_3 hr hr1 hd W h3 hb k n h2 (Nat.le_refl _) (Or.inr rfl) ?_ cfr_refl)
  rw [Nat.sub_self, List.take_zero, List.append_nil]
  exact C
/-- any row's part is added: what changes -/
theorem fv_93 {n r : Nat} {x1 : Int32} {s : ps_S} {R : ps_S → Prop} (hr : ps_is r 5 = true) (k : ∀ s', cfr (C2 r) s s' → R s') : pl_Cl n 93 [.ref r, .int x1] s (ps_rV R) := by
  cases n with
  | zero => exact pl_At_0
  | succ n =>
  show pl_At (n + 1) 93 0 [(0, .ref r), (1, .int x1)] [] s (ps_rV R)
  obtain ⟨t1, t2, t3, -⟩ := cv_row hr
  refine pl_93_0 ?_
  refine pl_nk_i (fun nk1 => ?_)
  refine ⟨fun h4 => ?_, fun h4 => ?_⟩
  · have h4 : (ps_i s r 1).toInt < (0 : Int) := xlt h4
    refine pl_nk_i (fun nk44 => ?_)
    first
    | exact k _ (cfr_i cfr_refl (Or.inl rfl))
    | (rw [t1]; exact k _ (cfr_i (cfr_a cfr_refl (Or.inr rfl)) (Or.inl rfl)))
  · have h4 : (0 : Int) ≤ (ps_i s r 1).toInt := xle h4
    refine pl_nk_i (fun nk8 => ?_)
    refine pl_nk_i (fun nk12 => ?_)
    refine pl_nk_i (fun nk15 => ?_)
    refine ⟨fun h16 => ?_, fun h16 => ?_⟩
    · have h16 : (nI (ps_ln (ps_c0 r 0))).toInt ≤ (ps_i s r 1).toInt := xle h16
      refine pl_nk_i (fun nk44 => ?_)
      first
      | exact k _ (cfr_i cfr_refl (Or.inl rfl))
      | (rw [t1]; exact k _ (cfr_i (cfr_a cfr_refl (Or.inr rfl)) (Or.inl rfl)))
    · have h16 : (ps_i s r 1).toInt < (nI (ps_ln (ps_c0 r 0))).toInt := xlt h16
      refine pl_nk_i (fun nk20 => ?_)
      refine pl_nk_i (fun nk24 => ?_)
      refine pl_nk_i (fun nk28 => ?_)
      intro b28
      obtain ⟨b28, c28⟩ := pl_in b28
      refine pl_nk_i (fun nk31 => ?_)
      refine pl_nk_i (fun nk36 => ?_)
      first
      | exact k _ (cfr_i cfr_refl (Or.inl rfl))
      | (rw [t1]; exact k _ (cfr_i (cfr_a cfr_refl (Or.inr rfl)) (Or.inl rfl)))
theorem fv_94_3 {r r1 : Nat} {s0 : ps_S} {R : ps_S → Prop} (hr : ps_is r 5 = true) (k : ∀ s', cfr (C2 r) s0 s' → R s') : ∀ (n : Nat) {s : ps_S} {x3 x4 : Int32}, cfr (C2 r) s0 s → pl_At n 94 3 [(0, .ref r), (1, .ref r1), (3, .int x3), (4, .int x4)] [] s (ps_rV R)
  | 0, _, _, _, _ => pl_At_0
  | n + 1, s, x3, x4, F => by
    refine pl_94_3 ⟨fun _ => k s F, fun _ => ?_⟩
    exact fv_92 (fun v _ => fv_93 hr (fun s2 F2 => fv_94_3 hr k n (cfr_tr F F2)))
theorem fv_95 {n r r1 : Nat} {s : ps_S} {R : ps_S → Prop} (hr : ps_is r 5 = true) (k : ∀ s', cfr (C2 r) s s' → R s') : pl_Cl n 95 [.ref r, .ref r1] s (ps_rV R) := by
  cases n with
  | zero => exact pl_At_0
  | succ n =>
  show pl_At (n + 1) 95 0 [(0, .ref r), (1, .ref r1)] [] s (ps_rV R)
  refine pl_95_0 (fs_91 (pl_nk_i (fun _ => ?_)))
  cases n with
  | zero => exact pl_At_0
  | succ n =>
  exact pl_94_0 (fv_94_3 hr k n (cfr_i (cfr_i cfr_refl (Or.inl rfl)) (Or.inl rfl)))
/-- a row copied -/
theorem fs_95 {n r r1 : Nat} {l : List Nat} {s : ps_S} {R : ps_S → Prop} (hr : ps_is r 5 = true) (hr1 : ps_is r1 5 = true) (hd : r1 ≠ r ∧ r1 ≠ r + 1 ∧ r1 + 1 ≠ r) (W : cv_W s r1 l) (k : ∀ s', cv_W s' r l → cfr (C2 r) s s' → R s') : pl_Cl n 95 [.ref r, .ref r1] s (ps_rV R) := by
  cases n with
  | zero => exact pl_At_0
  | succ n =>
  show pl_At (n + 1) 95 0 [(0, .ref r), (1, .ref r1)] [] s (ps_rV R)
  have h40 := W.2.2.1
  have F1 : cfr (C2 r) s (ps_ui (ps_ui s r 1 0) r 2 0) := cfr_i (cfr_i cfr_refl (Or.inl rfl)) (Or.inl rfl)
  have W1 := cv_W_cfr W F1 (by unfold C2; omega) (by unfold C2; omega)
  refine pl_95_0 (fs_91 (pl_nk_i (fun _ => ?_)))
  have e : (ps_i s r1 1) = (ps_i (ps_ui (ps_ui s r 1 0) r 2 0) r1 1) := by rw [ps_i_ui, if_neg (by omega), ps_i_ui, if_neg (by omega)]
  try rw [e]
  refine fs_94w (a := 0) (b := l.length) hr hr1 hd W1 (CW_of CW_0) rfl W1.1 (Nat.le_refl _) (fun s2 C F2 => k s2 ?_ (cfr_tr F1 F2))
  rw [List.drop_zero, Nat.sub_zero, List.take_length, List.nil_append] at C
  exact C.2.1 h40
/-- what is bound, by places -/
def BNc (s : ps_S) (l : List Nat) (B : Nat → Option (List Nat)) : Prop := ∀ k, k < 5 → (B k = none ∧ (ps_a s 1034 k).toInt = -1) ∨ ∃ a b : Nat, (ps_a s 1034 k).toInt = a ∧ (ps_a s 1035 k).toInt = b ∧ a ≤ b ∧ b ≤ l.length ∧ B k = some ((l.drop a).take (b - a))
def CBn (q : Nat) : Prop := q = 1034 ∨ q = 1035
section R88
variable {ar : Nat → Nat} {l : List Nat}
theorem fs_88 {n k p : Nat} {x1 x2 : Int32} {s : ps_S} {B : Nat → Option (List Nat)} {R : Int32 → ps_S → Prop} (W : cv_W s 1022 l) (E : shE s 1026 ar l 0) (hp : p < l.length) (hen : p + en ar (l.drop p) 1 ≤ l.length) (hk : k < 5) (h1 : x1.toInt = k) (h2 : x2.toInt = p) (b : BNc s l B) (kn : B k = none → ∀ s', BNc s' l (rw_u B k ((l.drop p).take (en ar (l.drop p) 1))) → cfr CBn s s' → R 1 s') (ks : ∀ U, B k = some U → (U = (l.drop p).take (en ar (l.drop p) 1) → R 1 s) ∧ (¬ U = (l.drop p).take (en ar (l.drop p) 1) → R 0 s)) : pl_Cl n 88 [.ref 1021, .int x1, .int x2] s (ps_rI R) := by
  cases n with
  | zero => exact pl_At_0
  | succ n =>
  show pl_At (n + 1) 88 0 [(0, .ref 1021), (1, .int x1), (2, .int x2)] [] s (ps_rI R)
  have h40 := W.2.2.1
  have cm : (-1 : Int32).toInt = -1 := by decide
  refine pl_88_0 ?_
  refine fs_104 rfl h2 (by omega) (fun v1 q1 => ?_)
  have e1 : v1.toInt = (p + en ar (l.drop p) 1 : Nat) := by rw [q1]; exact E p (Nat.zero_le _) hp
  refine fs_182v (a := k) h1 (by rw [show ps_ln 1034 = 5 from rfl]; exact hk) (by decide) (fun v2 q2 => ?_)
  rcases b k hk with ⟨b1, b2⟩ | ⟨a, e, b1, b2, b3, b4, b5⟩
  · refine ⟨fun z => ?_, fun _ => ?_⟩
    · have z := xne z
      rw [q2] at z
      exact absurd b2 z
    · refine fs_183 (a := k) h1 (by rw [show ps_ln 1034 = 5 from rfl]; exact hk) (by decide) ?_
      refine fs_183 (a := k) h1 (by rw [show ps_ln 1035 = 5 from rfl]; exact hk) (by decide) ?_
      refine kn b1 _ (fun j hj => ?_) (cfr_a (cfr_a cfr_refl (Or.inl rfl)) (Or.inr rfl))
      unfold rw_u
      by_cases ej : j = k
      · right
        refine ⟨p, p + en ar (l.drop p) 1, ?_, ?_, by omega, hen, ?_⟩
        · rw [ps_a_ua, if_neg (by omega), ps_a_ua, if_pos ⟨rfl, ej⟩]
          exact h2
        · rw [ps_a_ua, if_pos ⟨rfl, ej⟩]
          exact e1
        · rw [if_pos ej, Nat.add_sub_cancel_left]
      · rw [if_neg ej, ps_a_ua, if_neg (by omega), ps_a_ua, if_neg (by omega), ps_a_ua, if_neg (by omega), ps_a_ua, if_neg (by omega)]
        exact b j hj
  · have v2e : v2.toInt = a := by rw [q2]; exact b1
    refine ⟨fun _ => ?_, fun z => ?_⟩
    · refine fs_182v (a := k) h1 (by rw [show ps_ln 1035 = 5 from rfl]; exact hk) (by decide) (fun v3 q3 => ?_)
      have v3e : v3.toInt = e := by rw [q3]; exact b2
      have ks := ks _ b5
      have d1 : (v1 - x2).toInt = (en ar (l.drop p) 1 : Nat) := by rw [xIs (by omega) (by omega), e1, h2]; omega
      have d2 : (v3 - v2).toInt = (e - a : Nat) := by rw [xIs (by omega) (by omega), v3e, v2e]; omega
      have l1 : ((l.drop a).take (e - a)).length = e - a := by rw [List.length_take, List.length_drop]; omega
      have l2 : ((l.drop p).take (en ar (l.drop p) 1)).length = en ar (l.drop p) 1 := by rw [List.length_take, List.length_drop]; omega
      refine ⟨fun z => ?_, fun z => ?_⟩
      · have z := xne z
        exact ks.2 (fun y => by rw [y] at l1; omega)
      · have z := xeq z
        have ez : en ar (l.drop p) 1 = e - a := by omega
        refine fs_99 (b := p) (e := p + en ar (l.drop p) 1) (p := a) rfl W rfl W h2 e1 hen v2e (by omega) (fun y => ⟨fun w => absurd w (by decide), fun _ => ks.1 ?_⟩) (fun y => ⟨fun _ => ks.2 (fun w => y ?_), fun w => absurd rfl w⟩)
        · rw [Nat.add_sub_cancel_left] at y
          rw [← ez]
          exact y.symm
        · rw [Nat.add_sub_cancel_left, ← w, ez]
    · have z := xeq z
      omega
end R88
theorem dt_c {r : List Nat} {i e c : Nat} (h : r[i]? = some c) (hi : i < e) : (r.drop i).take (e - i) = c :: (r.drop (i + 1)).take (e - (i + 1)) := by
  rw [drop_c h, show e - i = (e - (i + 1)) + 1 from by omega, List.take_succ_cons]
section R87
variable {g : tx_g} {l r : List Nat} {r1 rt : Nat} {s0 : ps_S} {R : Int32 → ps_S → Prop} {x3 : Int32} {p0 lf : Nat}
/-- a rule's left side is held against a place -/
theorem fs_87_32 (hA : ArW (sg g) (arh g)) (W0 : cv_W s0 1022 l) (E0 : shE s0 1026 (arh g) l 0) (hr1 : ps_is r1 5 = true) (hne : r1 < 1021) (Wr0 : cv_W s0 r1 r) (hv : ∀ c, c ∈ r → c < 60) (hv5 : ∀ c, c ∈ r → 40 ≤ c → c < 45) (h3 : x3.toInt = rt) (hrt : rt ≤ r.length) {M : Option (Nat × (Nat → Option (List Nat)))} (k1 : ∀ s' e B, M = some (e, B) → BNc s' l B → cfr CBn s0 s' → R 1 s') (k0 : ∀ s', M = none → cfr CBn s0 s' → R 0 s') : ∀ (n : Nat) {s : ps_S} {x5 x6 : Int32} {p i : Nat} {B : Nat → Option (List Nat)} {W W1 : List Bool}, x5.toInt = p → x6.toInt = i → i ≤ rt → BNc s l B → cfr CBn s0 s → ws (sg g) ((r.drop i).take (rt - i)) W → ws (sg g) (l.drop p) W1 → W.length ≤ W1.length → p ≤ l.length → M = rw_m (arh g) l ((r.drop i).take (rt - i)) p B → pl_At n 87 32 [(0, .ref 1021), (1, .ref r1), (3, .int x3), (5, .int x5), (6, .int x6)] [] s (ps_rI R)
  | 0, _, _, _, _, _, _, _, _, _, _, _, _, _, _, _, _, _, _ => pl_At_0
  | n + 1, s, x5, x6, p, i, B, W, W1, h5, h6, hi, b, F, hw, hw1, hle, hpl, hM => by
    have hl40 := W0.2.2.1
    have hr40 := Wr0.2.2.1
    have Wl := cv_W_cfr W0 F (by unfold CBn; omega) (by unfold CBn; omega)
    have Wr := cv_W_cfr Wr0 F (by unfold CBn; omega) (by unfold CBn; omega)
    have E : shE s 1026 (arh g) l 0 := fun j a c => by
      rw [(F 1027 (by unfold CBn; omega)).2.2.2.1]
      exact E0 j a c
    refine pl_87_32 ⟨fun z => ?_, fun z => ?_⟩
    · have z := xle z
      rw [show rt - i = 0 from by omega, List.take_zero] at hM
      exact k1 s p B hM b F
    · have z := xlt z
      obtain ⟨c, hc⟩ : ∃ c, r[i]? = some c := ⟨_, List.getElem?_eq_getElem (by omega)⟩
      have hcm := List.mem_of_getElem? hc
      have hc60 := hv c hcm
      rw [dt_c hc (by omega)] at hw hM
      obtain ⟨bb, W', ks, rfl, hk, hw'⟩ := ws_cons.mp hw
      have ha := hA bb c ks hk
      have hpos : 1 ≤ W1.length := by rw [List.length_cons] at hle; omega
      have hlt : p < l.length := by
        have := en_lt hA hw1 (show 0 < W1.length by omega)
        rw [List.length_drop] at this
        omega
      refine fs_92c hr1 Wr h6 hc (fun v1 q1 => ?_)
      refine fs_185 (fun h1 => ⟨fun z => absurd z (by decide), fun _ => ?_⟩) (fun h1 => ⟨fun _ => ?_, fun z => absurd rfl z⟩)
      · -- a bound piece of the rule
        have h40 : 40 ≤ c := by omega
        have h45 := hv5 c hcm h40
        have hks : ks = [] := by
          have := (arh_lo (g := g) (c := c)).2.2.2.2 h40
          exact List.eq_nil_of_length_eq_zero (by omega)
        rw [hks, List.nil_append] at hw'
        have c40 : (40 : Int32).toInt = 40 := by decide
        have hen := en_le hA hw1 (k := 1) hpos
        rw [List.length_drop] at hen
        have hrest := (en_rest hA hw1 (k := 1) hpos).1
        rw [List.drop_drop] at hrest
        have go : ∀ {s2 : ps_S} {B2 : Nat → Option (List Nat)}, BNc s2 l B2 → cfr CBn s0 s2 → M = rw_m (arh g) l ((r.drop (i + 1)).take (rt - (i + 1))) (p + en (arh g) (l.drop p) 1) B2 → pl_Cl n 104 [.ref 1026, .int x5] s2 (ps_rI (fun v5 s5 => pl_At n 87 32 [(0, .ref 1021), (1, .ref r1), (3, .int x3), (5, .int v5), (6, .int (x6 + 1))] [] s5 (ps_rI R))) := fun {s2 B2} b2 F2 hM2 => by
          refine fs_104 rfl h5 (by omega) (fun v5 q5 => ?_)
          have e5 : v5.toInt = (p + en (arh g) (l.drop p) 1 : Nat) := by
            rw [q5, (F2 1027 (by unfold CBn; omega)).2.2.2.1]
            exact E0 p (Nat.zero_le _) hlt
          exact fs_87_32 hA W0 E0 hr1 hne Wr0 hv hv5 h3 hrt k1 k0 n e5 (xj1 h6 (by omega)) (by omega) b2 F2 hw' hrest (by rw [List.length_drop]; rw [List.length_cons] at hle; omega) (by omega) hM2
        refine fs_88 (k := c - 40) (p := p) Wl E hlt (by omega) (by omega) (by rw [xIs (by omega) (by omega), q1, c40]; omega) h5 b (fun hB s2 b2 F2 => ⟨fun _ => ?_, fun z => absurd z (by decide)⟩) (fun U hB => ⟨fun y => ⟨fun _ => ?_, fun z => absurd z (by decide)⟩, fun y => ⟨fun z => absurd rfl z, fun _ => ?_⟩⟩)
        · exact go b2 (cfr_tr F F2) (by rw [hM, rw_m_n h40 hB])
        · exact go b F (by rw [hM, rw_m_s h40 hB, if_pos y])
        · exact k0 s (by rw [hM, rw_m_s h40 hB, if_neg y]) F
      · have h40 : ¬ 40 ≤ c := by omega
        obtain ⟨c2, hc2⟩ : ∃ c2, l[p]? = some c2 := ⟨_, List.getElem?_eq_getElem hlt⟩
        refine fs_92c rfl Wl h5 hc2 (fun v3 q3 => ⟨fun y => ?_, fun y => ?_⟩)
        · have y := xne y
          refine k0 s ?_ F
          rw [hM, rw_m_c h40, if_neg (fun w => by rw [hc2] at w; cases w; exact y (by rw [q1, q3]))]
        · have y := xeq y
          have e2 : c2 = c := by omega
          subst e2
          rw [drop_c hc2] at hw1
          obtain ⟨bb2, W1', ks2, rfl, hk2, hw1'⟩ := ws_cons.mp hw1
          have ha2 := hA bb2 c2 ks2 hk2
          refine fs_87_32 hA W0 E0 hr1 hne Wr0 hv hv5 h3 hrt k1 k0 n (xj1 h5 (by omega)) (xj1 h6 (by omega)) (by omega) b F hw' hw1' ?_ (by omega) (by rw [hM, rw_m_c h40, if_pos hc2])
          rw [List.length_append, List.length_append]
          rw [List.length_cons, List.length_cons] at hle
          omega
theorem fs_87_3 {x4 x2 : Int32} (k : ∀ n s', BNc s' l (fun _ => none) → cfr CBn s0 s' → pl_At n 87 32 [(0, .ref 1021), (1, .ref r1), (3, .int x3), (5, .int x4), (6, .int x2)] [] s' (ps_rI R)) : ∀ (n : Nat) {s : ps_S} {x5 : Int32} {i : Nat}, x5.toInt = i → i ≤ 5 → (∀ j, j < i → (ps_a s 1034 j).toInt = -1) → cfr CBn s0 s → pl_At n 87 3 [(0, .ref 1021), (1, .ref r1), (2, .int x2), (3, .int x3), (4, .int x4), (5, .int x5)] [] s (ps_rI R)
  | 0, _, _, _, _, _, _, _ => pl_At_0
  | n + 1, s, x5, i, h5, hi, hj, F => by
    have c5 : (5 : Int32).toInt = 5 := by decide
    refine pl_87_3 ⟨fun z => ?_, fun z => ?_⟩
    · have z := xle z
      exact k n s (fun j hj5 => Or.inl ⟨rfl, hj j (by omega)⟩) F
    · have z := xlt z
      refine fs_183 (a := i) h5 (by rw [show ps_ln 1034 = 5 from rfl]; omega) (by decide) ?_
      refine fs_87_3 k n (xj1 h5 (by omega)) (by omega) (fun j hj2 => ?_) (cfr_a F (Or.inl rfl))
      rw [ps_a_ua]
      by_cases e : j = i
      · rw [if_pos ⟨rfl, e⟩]
        decide
      · rw [if_neg (fun w => e w.2)]
        exact hj j (by omega)
theorem fs_87 {n : Nat} {x2 x4 : Int32} {W W1 : List Bool} (hA : ArW (sg g) (arh g)) (W0 : cv_W s0 1022 l) (E0 : shE s0 1026 (arh g) l 0) (hr1 : ps_is r1 5 = true) (hne : r1 < 1021) (Wr0 : cv_W s0 r1 r) (hv : ∀ c, c ∈ r → c < 60) (hv5 : ∀ c, c ∈ r → 40 ≤ c → c < 45) (h2 : x2.toInt = lf) (h3 : x3.toInt = rt) (hlr : lf ≤ rt) (hrt : rt ≤ r.length) (h4 : x4.toInt = p0) (hp : p0 ≤ l.length) (hw : ws (sg g) ((r.drop lf).take (rt - lf)) W) (hw1 : ws (sg g) (l.drop p0) W1) (hle : W.length ≤ W1.length) (k1 : ∀ s' e B, rw_m (arh g) l ((r.drop lf).take (rt - lf)) p0 (fun _ => none) = some (e, B) → BNc s' l B → cfr CBn s0 s' → R 1 s') (k0 : ∀ s', rw_m (arh g) l ((r.drop lf).take (rt - lf)) p0 (fun _ => none) = none → cfr CBn s0 s' → R 0 s') : pl_Cl n 87 [.ref 1021, .ref r1, .int x2, .int x3, .int x4] s0 (ps_rI R) := by
  cases n with
  | zero => exact pl_At_0
  | succ n =>
  show pl_At (n + 1) 87 0 [(0, .ref 1021), (1, .ref r1), (2, .int x2), (3, .int x3), (4, .int x4)] [] s0 (ps_rI R)
  refine pl_87_0 (fs_87_3 (l := l) (s0 := s0) (fun n s1 b F => ?_) n (i := 0) rfl (Nat.zero_le _) (fun j hj => absurd hj (Nat.not_lt_zero _)) cfr_refl)
  exact fs_87_32 hA W0 E0 hr1 hne Wr0 hv hv5 h3 hrt k1 k0 n h4 h2 hlr b F hw hw1 hle hp rfl
end R87
end
section
set_option maxRecDepth 100000
/-! the class: a term rewritten, again and again -/
theorem rl_n_w1 {σ : mSig} : ∀ {l : List Nat} {b : Bool}, ws σ l [b] → ∃ b', ws σ (l.drop (rl_n l)) [b']
  | [], b, h => by cases h
  | c :: l, b, h => by
    by_cases hc : c = 4
    · subst hc
      obtain ⟨b', W', ks, e, hk, h2⟩ := ws_cons.mp h
      cases e
      rw [List.append_nil] at h2
      have hks : ks = [true] := by
        rcases kS_cases hk with z | z | z | z | z | z | z
        · omega
        · omega
        · exact z.2.2
        · omega
        · omega
        · omega
        · omega
      subst hks
      rw [rl_n_c, List.drop_succ_cons]
      exact rl_n_w1 h2
    · have e : rl_n (c :: l) = 0 := by
        show (if c = 4 then _ else _) = 0
        rw [if_neg hc]
      rw [e, List.drop_zero]
      exact ⟨b, h⟩
/-- the sides of a rule -/
theorem rl_parts {g : tx_g} {r : List Nat} {b : Bool} (hA : ArW (sg g) (arh g)) (hw : ws (sg g) r [b]) (hr : rl_is (arh g) r) : rl_l r ≤ rl_r (arh g) r ∧ rl_r (arh g) r ≤ r.length ∧ ws (sg g) (rw_L (arh g) r) [false] ∧ ws (sg g) (r.drop (rl_r (arh g) r)) [false] ∧ (∃ c t, rw_L (arh g) r = c :: t ∧ 20 ≤ c ∧ c < 40 ∧ ∃ ks, kS (sg g) false c = some ks) ∧ ∀ x, x ∈ r.drop (rl_r (arh g) r) → 40 ≤ x → x ∈ rw_L (arh g) r := by
  obtain ⟨h6, ⟨c, hc, c20, c40⟩, hh⟩ := hr
  obtain ⟨b', n4⟩ := rl_n_w1 hw
  rw [drop_c h6] at n4
  obtain ⟨bb, W', ks, e, hk, h2⟩ := ws_cons.mp n4
  cases e
  rw [List.append_nil] at h2
  have hks : ks = [false, false] := by
    rcases kS_cases hk with z | z | z | z | z | z | z
    · omega
    · omega
    · omega
    · exact z.2.2
    · omega
    · omega
    · omega
  subst hks
  have h2 : ws (sg g) (r.drop (rl_l r)) [false, false] := h2
  have hle := en_le hA (k := 1) h2 (by simp)
  rw [List.length_drop] at hle
  have hll := (List.getElem?_eq_some_iff.mp hc).1
  obtain ⟨g1, g2⟩ := en_rest hA (k := 1) h2 (by simp)
  have eL : rw_L (arh g) r = (r.drop (rl_l r)).take (en (arh g) (r.drop (rl_l r)) 1) := by
    unfold rw_L rl_r
    rw [Nat.add_sub_cancel_left]
  have eR : r.drop (rl_r (arh g) r) = (r.drop (rl_l r)).drop (en (arh g) (r.drop (rl_l r)) 1) := by
    rw [List.drop_drop]
    rfl
  have hpos := en_pos (ar := arh g) (t := r.drop (rl_l r)) (p := 1) (by rw [List.length_drop]; omega) (by decide)
  refine ⟨by unfold rl_r; omega, by unfold rl_r; omega, by rw [eL]; exact g2, by rw [eR]; exact g1, ?_, hh⟩
  rw [eL] at *
  obtain ⟨m, hm⟩ : ∃ m, en (arh g) (r.drop (rl_l r)) 1 = m + 1 := ⟨en (arh g) (r.drop (rl_l r)) 1 - 1, by omega⟩
  rw [hm, drop_c hc, List.take_succ_cons] at g2 ⊢
  obtain ⟨bb2, W2, ks2, e2, hk2, -⟩ := ws_cons.mp g2
  cases e2
  exact ⟨c, _, rfl, c20, c40, ks2, hk2⟩
/-- a place where no FUN stands -/
theorem rw_z_no {h : tx_H} {l : List Nat} {p : Nat} (hA : ArW (sg h.1) (arh h.1)) (hw : ∀ (k : Nat) (w r : List Nat), h.2[k]? = some (w, r) → ws (sg h.1) r [true]) (hp : ∀ c, l[p]? = some c → ¬ (20 ≤ c ∧ c < 40)) (k : Nat) : rw_z h l p k := by
  rintro l' ⟨w, r, e, B, a1, a2, a3, a4⟩
  obtain ⟨-, -, -, -, ⟨c, t, eL, c20, c40, -⟩, -⟩ := rl_parts hA (hw k w r a1) a2
  rw [eL, rw_m_c (by omega)] at a3
  split at a3
  · next hc => exact hp c hc ⟨c20, c40⟩
  · cases a3
theorem BNc_cfr {C : Nat → Prop} {s s' : ps_S} {l : List Nat} {B : Nat → Option (List Nat)} (b : BNc s l B) (F : cfr C s s') (h1 : ¬ C 1034) (h2 : ¬ C 1035) : BNc s' l B := fun k hk => by
  rw [(F 1034 h1).2.2.2.1, (F 1035 h2).2.2.2.1]
  exact b k hk
section R89
variable {g : tx_g} {l r : List Nat} {r1 rt p e : Nat} {s0 : ps_S} {R : ps_S → Prop} {x3 : Int32} {B : Nat → Option (List Nat)}
theorem fs_89_23 (W0 : cv_W s0 1022 l) (E0 : shE s0 1026 (arh g) l 0) (hr1 : ps_is r1 5 = true) (hne : r1 < 1021) (Wr0 : cv_W s0 r1 r) (hv : ∀ c, c ∈ r → c < 60) (hv5 : ∀ c, c ∈ r → 40 ≤ c → c < 45) (hB : ∀ c, c ∈ r.drop rt → 40 ≤ c → ∃ U, B (c - 40) = some U) (b0 : BNc s0 l B) (h3 : x3.toInt = p) (hp : p < l.length) (he : e = p + en (arh g) (l.drop p) 1) (hel : e ≤ l.length) (k : ∀ s', CW s' 1024 (l.take p ++ rw_r B (r.drop rt) ++ l.drop e) → cfr (C2 1024) s0 s' → R s') : ∀ (n : Nat) {s : ps_S} {x4 : Int32} {i : Nat} {L : List Nat}, x4.toInt = i → rt ≤ i → i ≤ r.length → CW s 1024 (l.take p ++ L) → rw_r B (r.drop rt) = L ++ rw_r B (r.drop i) → cfr (C2 1024) s0 s → pl_At n 89 23 [(0, .ref 1021), (1, .ref r1), (3, .int x3), (4, .int x4)] [] s (ps_rV R)
  | 0, _, _, _, _, _, _, _, _, _, _ => pl_At_0
  | n + 1, s, x4, i, L, h4, hi, hir, C, hL, F => by
    have hl40 := W0.2.2.1
    have hr40 := Wr0.2.2.1
    have W := cv_W_cfr W0 F (by unfold C2; omega) (by unfold C2; omega)
    have Wr := cv_W_cfr Wr0 F (by unfold C2; omega) (by unfold C2; omega)
    have b := BNc_cfr b0 F (by unfold C2; omega) (by unfold C2; omega)
    refine pl_89_23 (pl_nk_i (fun _ => ⟨fun z => ?_, fun z => ?_⟩))
    · have z := xle z
      rw [Wr.1] at z
      have ei : i = r.length := by omega
      rw [ei, List.drop_length] at hL
      have hL : rw_r B (r.drop rt) = L := by rw [hL]; exact List.append_nil _
      refine fs_104 rfl h3 (by omega) (fun v1 q1 => ?_)
      have e1 : v1.toInt = e := by
        rw [q1, (F 1027 (by unfold C2; omega)).2.2.2.1, he]
        exact E0 p (Nat.zero_le _) hp
      refine fs_94w (a := e) (b := l.length) rfl rfl (by decide) W C e1 W.1 (Nat.le_refl _) (fun s2 C2' F2 => k s2 ?_ (cfr_tr F F2))
      rw [hL]
      have ee : (l.drop e).take (l.length - e) = l.drop e := List.take_of_length_le (by rw [List.length_drop]; omega)
      rw [ee] at C2'
      exact C2'
    · have z := xlt z
      rw [Wr.1] at z
      obtain ⟨c, hc⟩ : ∃ c, r[i]? = some c := ⟨_, List.getElem?_eq_getElem (by omega)⟩
      have hcm := List.mem_of_getElem? hc
      have hcd : c ∈ r.drop rt := List.mem_iff_getElem?.mpr ⟨i - rt, by rw [List.getElem?_drop, show rt + (i - rt) = i from by omega]; exact hc⟩
      have c60 := hv c hcm
      rw [drop_c hc] at hL
      refine fs_92c hr1 Wr h4 hc (fun v3 q3 => ?_)
      refine fs_185 (fun y => ⟨fun w => absurd w (by decide), fun _ => ?_⟩) (fun y => ⟨fun _ => ?_, fun w => absurd rfl w⟩)
      · have h40 : 40 ≤ c := by omega
        have h45 := hv5 c hcm h40
        have c40 : (40 : Int32).toInt = 40 := by decide
        have ex : (v3 - 40).toInt = (c - 40 : Nat) := by rw [xIs (by omega) (by omega), q3, c40]; omega
        obtain ⟨U, hU⟩ := hB c hcd h40
        rw [rw_r_v h40 hU] at hL
        rcases b (c - 40) (by omega) with ⟨y1, -⟩ | ⟨a, bb, y1, y2, y3, y4, y5⟩
        · rw [hU] at y1; cases y1
        · rw [hU] at y5
          have eU := Option.some.inj y5
          refine fs_182v (a := c - 40) ex (by rw [show ps_ln 1034 = 5 from rfl]; omega) (by decide) (fun v6 q6 => ?_)
          refine fs_182v (a := c - 40) ex (by rw [show ps_ln 1035 = 5 from rfl]; omega) (by decide) (fun v7 q7 => ?_)
          refine fs_94w (a := a) (b := bb) rfl rfl (by decide) W C (by rw [q6]; exact y1) (by rw [q7]; exact y2) y4 (fun s2 C2' F2 => ?_)
          rw [← eU, List.append_assoc] at C2'
          exact fs_89_23 W0 E0 hr1 hne Wr0 hv hv5 hB b0 h3 hp he hel k n (L := L ++ U) (xj1 h4 (by omega)) (by omega) (by omega) C2' (by rw [hL, List.append_assoc]) (cfr_tr F F2)
      · have h40 : ¬ 40 ≤ c := by omega
        rw [rw_r_c h40] at hL
        refine fs_93w rfl C q3 (fun s2 C2' F2 => ?_)
        rw [List.append_assoc] at C2'
        exact fs_89_23 W0 E0 hr1 hne Wr0 hv hv5 hB b0 h3 hp he hel k n (L := L ++ [c]) (xj1 h4 (by omega)) (by omega) (by omega) C2' (by rw [hL, List.append_assoc]; rfl) (cfr_tr F F2)
theorem fs_89 {n : Nat} {x2 : Int32} (W0 : cv_W s0 1022 l) (E0 : shE s0 1026 (arh g) l 0) (hr1 : ps_is r1 5 = true) (hne : r1 < 1021) (Wr0 : cv_W s0 r1 r) (hv : ∀ c, c ∈ r → c < 60) (hv5 : ∀ c, c ∈ r → 40 ≤ c → c < 45) (hB : ∀ c, c ∈ r.drop rt → 40 ≤ c → ∃ U, B (c - 40) = some U) (b0 : BNc s0 l B) (h2 : x2.toInt = rt) (hrt : rt ≤ r.length) (h3 : x3.toInt = p) (hp : p < l.length) (he : e = p + en (arh g) (l.drop p) 1) (hel : e ≤ l.length) (k : ∀ s', CW s' 1024 (l.take p ++ rw_r B (r.drop rt) ++ l.drop e) → cfr (C2 1024) s0 s' → R s') : pl_Cl n 89 [.ref 1021, .ref r1, .int x2, .int x3] s0 (ps_rV R) := by
  cases n with
  | zero => exact pl_At_0
  | succ n =>
  show pl_At (n + 1) 89 0 [(0, .ref 1021), (1, .ref r1), (2, .int x2), (3, .int x3)] [] s0 (ps_rV R)
  have F1 : cfr (C2 1024) s0 (ps_ui (ps_ui s0 1024 1 0) 1024 2 0) := cfr_i (cfr_i cfr_refl (Or.inl rfl)) (Or.inl rfl)
  refine pl_89_0 (fs_91 ?_)
  refine fs_94w (l := l) (a := 0) (b := p) (L := []) rfl rfl (by decide) (cv_W_cfr W0 F1 (by unfold C2; omega) (by unfold C2; omega)) (CW_of CW_0) rfl h3 (by omega) (fun s2 C F2 => ?_)
  rw [List.drop_zero, Nat.sub_zero, List.nil_append] at C
  exact fs_89_23 W0 E0 hr1 hne Wr0 hv hv5 hB b0 h3 hp he hel k n (L := []) h2 (Nat.le_refl _) hrt (by rw [List.append_nil]; exact C) rfl (cfr_tr F1 F2)
end R89
def CGO (q : Nat) : Prop := q = 1024 ∨ q = 1025 ∨ q = 1034 ∨ q = 1035
section R86
variable {th : Nat} {h : tx_H} {l : List Nat} {s0 : ps_S} {R : Int32 → ps_S → Prop}
theorem fs_86_all (hth : th = 2 ∨ th = 26) (H0 : cv_H s0 th h) (hw : WFt h) (hb : ∀ (k : Nat) (w r : List Nat), h.2[k]? = some (w, r) → ∀ c, c ∈ r → 40 ≤ c → c < 45) (hwl : ws (sg h.1) l [false]) (W0 : cv_W s0 1022 l) (E0 : shE s0 1026 (arh h.1) l 0) (hR0 : RLc s0 (arh h.1) h.2 h.2.length) (k1 : ∀ s' l', rw_s h l l' → CW s' 1024 l' → cfr CGO s0 s' → R 1 s') (k0 : ∀ s', rw_e h l → cfr CGO s0 s' → R 0 s') : ∀ n : Nat, (∀ {s : ps_S} {x2 : Int32} {p : Nat}, x2.toInt = p → p ≤ l.length → cfr CBn s0 s → (∀ p', p' < p → ∀ k', rw_z h l p' k') → pl_At n 86 2 [(0, .ref 1021), (1, .ref th), (2, .int x2)] [] s (ps_rI R)) ∧ (∀ {s : ps_S} {x2 x3 : Int32} {p i : Nat}, x2.toInt = p → p < l.length → x3.toInt = i → i ≤ h.2.length → cfr CBn s0 s → (∀ p', p' < p → ∀ k', rw_z h l p' k') → (∀ k', k' < i → rw_z h l p k') → pl_At n 86 15 [(0, .ref 1021), (1, .ref th), (2, .int x2), (3, .int x3)] [] s (ps_rI R)) := by
  have hA := arh_k H0.1.2.2.1 H0.1.2.2.2.1
  have hl40 := W0.2.2.1
  have hws : ∀ (k : Nat) (w r : List Nat), h.2[k]? = some (w, r) → ws (sg h.1) r [true] := fun k w r hk => wf_ws (hw.2.2 k w r hk).1
  have FG : ∀ {s : ps_S}, cfr CBn s0 s → cfr CGO s0 s := fun F => cfr_mono F (fun q z => by unfold CBn at z; unfold CGO; omega)
  intro n
  induction n with
  | zero => exact ⟨fun _ _ _ _ => pl_At_0, fun _ _ _ _ _ _ _ => pl_At_0⟩
  | succ n ih =>
    obtain ⟨i2, i15⟩ := ih
    refine ⟨fun {s x2 p} h2 hp F hz => ?_, fun {s x2 x3 p i} h2 hp h3 hi F hz hk => ?_⟩
    · have W := cv_W_cfr W0 F (by unfold CBn; omega) (by unfold CBn; omega)
      refine pl_86_2 ⟨fun z => ?_, fun z => ?_⟩
      · have z := xle z
        rw [W.1] at z
        exact k0 s (fun p' hp' k' => hz p' (by omega) k') (FG F)
      · have z := xlt z
        rw [W.1] at z
        exact i15 h2 (by omega) rfl (Nat.zero_le _) F hz (fun k' hk' => absurd hk' (Nat.not_lt_zero _))
    · have W := cv_W_cfr W0 F (by unfold CBn; omega) (by unfold CBn; omega)
      have E : shE s 1026 (arh h.1) l 0 := fun j a c => by
        rw [(F 1027 (by unfold CBn; omega)).2.2.2.1]
        exact E0 j a c
      have h8 := H0.2.2.1
      have H := cv_H_cfr H0 F (fun q a c => by unfold CBn; omega)
      have hR : RLc s (arh h.1) h.2 h.2.length := fun k w2 l2 a c => by
        rw [(F 1036 (by unfold CBn; omega)).2.2.2.1, (F 1037 (by unfold CBn; omega)).2.2.2.1]
        exact hR0 k w2 l2 a c
      have go2 : (∀ k', rw_z h l p k') → pl_At n 86 2 [(0, .ref 1021), (1, .ref th), (2, .int (x2 + 1))] [] s (ps_rI R) := fun y => i2 (xj1 h2 (by omega)) (by omega) F (fun p' hp' k' => by
        rcases Nat.lt_or_ge p' p with u | u
        · exact hz p' u k'
        · rw [show p' = p from by omega]
          exact y k')
      refine pl_86_15 (pl_nk_i (fun _ => ⟨fun z => ?_, fun z => ?_⟩))
      · have z := xle z
        rw [H.2.1] at z
        refine go2 (fun k' => ?_)
        rcases Nat.lt_or_ge k' i with u | u
        · exact hk k' u
        · rintro l' ⟨w, r, e, B, a1, -⟩
          have := (List.getElem?_eq_some_iff.mp a1).1
          omega
      · have z := xlt z
        rw [H.2.1] at z
        obtain ⟨c, hc⟩ : ∃ c, l[p]? = some c := ⟨_, List.getElem?_eq_getElem hp⟩
        obtain ⟨W1, hw1⟩ := ws_drop p hwl
        rw [drop_c hc] at hw1
        obtain ⟨bb, W1', ks1, rfl, hk1, -⟩ := ws_cons.mp hw1
        rw [← drop_c hc] at hw1
        refine fs_92c rfl W h2 hc (fun v1 q1 => ?_)
        refine fs_186 (fun y => ⟨fun u => absurd u (by decide), fun _ => ?_⟩) (fun y => ⟨fun _ => ?_, fun u => absurd rfl u⟩)
        · obtain ⟨⟨w, r⟩, hkr⟩ : ∃ q, h.2[i]? = some q := ⟨_, List.getElem?_eq_getElem (by omega)⟩
          obtain ⟨r1, r0⟩ := hR i w r (by omega) hkr
          obtain ⟨y1, y2, Wr⟩ := H.2.2.2 i w r hkr
          obtain ⟨hf, hr40, h60⟩ := hw.2.2 i w r hkr
          have Kk := th_K hth (k := i) (by omega)
          have hr5 : ps_is (th + 8 + 2 * i) 5 = true := ps_is5 Kk.2.2.2.2.2.1
          have cm : (-1 : Int32).toInt = -1 := by decide
          have next : ∀ {s' : ps_S}, cfr CBn s0 s' → rw_z h l p i → pl_At n 86 15 [(0, .ref 1021), (1, .ref th), (2, .int x2), (3, .int (x3 + 1))] [] s' (ps_rI R) := fun F' y => i15 h2 hp (xj1 h3 (by omega)) (by omega) F' hz (fun k' hk' => by
            rcases Nat.lt_or_ge k' i with u | u
            · exact hk k' u
            · rw [show k' = i from by omega]
              exact y)
          refine fs_182v (a := i) h3 (by rw [show ps_ln 1037 = 8 from rfl]; omega) (by decide) (fun v3 q3 => ⟨fun u => ?_, fun u => ?_⟩)
          · have u := xeq u
            refine next F (fun l' a => ?_)
            obtain ⟨w2, r2, e, B, a1, a2, -⟩ := a
            rw [hkr] at a1
            cases a1
            have := (r1 a2).2
            rw [← q3] at this
            omega
          · have u := xne u
            have his : rl_is (arh h.1) r := by
              by_cases y3 : rl_is (arh h.1) r
              · exact y3
              · have := r0 y3
                rw [← q3] at this
                omega
            obtain ⟨e36, e37⟩ := r1 his
            obtain ⟨p1, p2, p3, p4, -, p6⟩ := rl_parts hA (wf_ws hf) his
            refine fs_135 hth h3 (by omega) ?_
            refine fs_182v (a := i) h3 (by rw [show ps_ln 1036 = 8 from rfl]; omega) (by decide) (fun v5 q5 => ?_)
            have hlen : 1 ≤ (bb :: W1').length := by rw [List.length_cons]; omega
            refine fs_87 (l := l) (r := r) (lf := rl_l r) (rt := rl_r (arh h.1) r) (p0 := p) hA W E hr5 (by omega) Wr h60 (hb i w r hkr) (by rw [q5]; exact e36) (by rw [q3]; exact e37) p1 p2 h2 (by omega) p3 hw1 hlen (fun s6 e B hm b F6 => ⟨fun v => absurd v (by decide), fun _ => ?_⟩) (fun s6 hm F6 => ⟨fun _ => ?_, fun v => absurd rfl v⟩)
            · have hm : rw_m (arh h.1) l (rw_L (arh h.1) r) p (fun _ => none) = some (e, B) := hm
              have F6' := cfr_tr F F6
              have hve : e = p + en (arh h.1) (l.drop p) 1 := rw_m_en hA p3 (fun x _ hx => (arh_lo (g := h.1) (c := x)).2.2.2.2 hx) hm
              have hle := en_le hA (k := 1) hw1 hlen
              rw [List.length_drop] at hle
              have H6 := cv_H_cfr H0 F6' (fun q a c => by unfold CBn; omega)
              obtain ⟨-, -, Wr6⟩ := H6.2.2.2 i w r hkr
              refine fs_135 hth h3 (by omega) ?_
              refine fs_89 (l := l) (r := r) (rt := rl_r (arh h.1) r) (p := p) (e := e) (B := B) (cv_W_cfr W0 F6' (by unfold CBn; omega) (by unfold CBn; omega)) (fun j a c => ?_) hr5 (by omega) Wr6 h60 (hb i w r hkr) (fun c2 hc2 h40 => (rw_m_B hm).2 c2 (p6 c2 hc2 h40) h40) b (by rw [q3]; exact e37) p2 h2 hp hve (by omega) (fun s8 C F8 => ?_)
              · rw [(F6' 1027 (by unfold CBn; omega)).2.2.2.1]
                exact E0 j a c
              · exact k1 s8 _ ⟨p, i, hp, ⟨w, r, e, B, hkr, his, hm, rfl⟩, hk, hz⟩ C (cfr_tr (FG F6') (cfr_mono F8 (fun q z => by unfold C2 at z; unfold CGO; omega)))
            · refine next (cfr_tr F F6) (fun l' a => ?_)
              obtain ⟨w2, r2, e, B, a1, a2, a3, -⟩ := a
              rw [hkr] at a1
              cases a1
              have hm : rw_m (arh h.1) l (rw_L (arh h.1) r) p (fun _ => none) = none := hm
              rw [hm] at a3
              cases a3
        · refine go2 (fun k' => rw_z_no hA hws (fun c2 hc2 u => ?_) k')
          rw [hc] at hc2
          cases hc2
          have : c < 24 := by
            have hF := H0.1.2.2.2.1
            rcases kS_cases hk1 with z1 | z1 | z1 | z1 | z1 | z1 | z1
            · omega
            · omega
            · omega
            · omega
            · have e : (sg h.1).1.1 = h.1.1.length := rfl
              have := H0.1.2.2.1
              omega
            · have e : (sg h.1).1.2 = h.1.2.length := rfl
              omega
            · omega
          omega
theorem fs_86 {n : Nat} (hth : th = 2 ∨ th = 26) (H0 : cv_H s0 th h) (hw : WFt h) (hb : ∀ (k : Nat) (w r : List Nat), h.2[k]? = some (w, r) → ∀ c, c ∈ r → 40 ≤ c → c < 45) (hwl : ws (sg h.1) l [false]) (W0 : cv_W s0 1022 l) (E0 : shE s0 1026 (arh h.1) l 0) (hR0 : RLc s0 (arh h.1) h.2 h.2.length) (k1 : ∀ s' l', rw_s h l l' → CW s' 1024 l' → cfr CGO s0 s' → R 1 s') (k0 : ∀ s', rw_e h l → cfr CGO s0 s' → R 0 s') : pl_Cl n 86 [.ref 1021, .ref th] s0 (ps_rI R) := by
  cases n with
  | zero => exact pl_At_0
  | succ n =>
  show pl_At (n + 1) 86 0 [(0, .ref 1021), (1, .ref th)] [] s0 (ps_rI R)
  exact pl_86_0 ((fs_86_all hth H0 hw hb hwl W0 E0 hR0 k1 k0 n).1 (p := 0) rfl (Nat.zero_le _) cfr_refl (fun p' hp' => absurd hp' (Nat.not_lt_zero _)))
end R86
/-! sorts are kept -/
/-- a part replaced by a term -/
theorem ws_put {σ : mSig} {ar : Nat → Nat} (hA : ArW σ ar) {m : List Nat} (hm : ws σ m [false]) : ∀ {l : List Nat} {W : List Bool} {p : Nat}, ws σ l W → (∃ c ks, l[p]? = some c ∧ kS σ false c = some ks ∧ ∀ ks2, kS σ true c ≠ some ks2) → ws σ (l.take p ++ m ++ l.drop (p + en ar (l.drop p) 1)) W
  | [], W, p, h, ⟨c, ks, hc, _, _⟩ => by cases hc
  | x :: l, W, 0, h, ⟨c, ks, hc, hk, hn⟩ => by
    cases hc
    obtain ⟨b, W', ks2, rfl, hk2, h2⟩ := ws_cons.mp h
    have hbf : b = false := by
      cases b
      · rfl
      · exact absurd hk2 (hn ks2)
    subst hbf
    rw [List.take_zero, List.nil_append, Nat.zero_add, List.drop_zero]
    obtain ⟨g1, -⟩ := en_rest hA (k := 1) h (by rw [List.length_cons]; omega)
    exact ws_app hm g1
  | x :: l, W, p + 1, h, ⟨c, ks, hc, hk, hn⟩ => by
    obtain ⟨b, W', ks2, rfl, hk2, h2⟩ := ws_cons.mp h
    rw [List.getElem?_cons_succ] at hc
    have ih := ws_put hA hm (p := p) h2 ⟨c, ks, hc, hk, hn⟩
    rw [List.take_succ_cons, List.drop_succ_cons, show p + 1 + en ar (l.drop p) 1 = (p + en ar (l.drop p) 1) + 1 from by omega, List.drop_succ_cons]
    exact ws_c hk2 ih
theorem rw_r_ws {σ : mSig} (hσ : σ.1.1 ≤ 6 ∧ σ.1.2 ≤ 4) {B : Nat → Option (List Nat)} : ∀ {t : List Nat} {W : List Bool}, ws σ t W → (∀ x, x ∈ t → 40 ≤ x → ∃ U, B (x - 40) = some U ∧ ws σ U [false]) → ws σ (rw_r B t) W
  | [], W, h, _ => h
  | c :: t, W, h, hB => by
    obtain ⟨b, W', ks, rfl, hk, h2⟩ := ws_cons.mp h
    have ih := rw_r_ws hσ h2 (fun x hx => hB x (List.mem_cons_of_mem _ hx))
    by_cases h40 : 40 ≤ c
    · obtain ⟨U, hU, hw⟩ := hB c List.mem_cons_self h40
      rw [rw_r_v h40 hU]
      rcases kS_cases hk with z | z | z | z | z | z | z
      · omega
      · omega
      · omega
      · omega
      · omega
      · omega
      · obtain ⟨rfl, z1, z2, rfl⟩ := z
        exact ws_app hw ih
    · rw [rw_r_c h40]
      exact ws_c hk ih
theorem rw_m_ws {σ : mSig} {ar : Nat → Nat} (hA : ArW σ ar) (hσ : σ.1.1 ≤ 6 ∧ σ.1.2 ≤ 4) {l : List Nat} : ∀ {t : List Nat} {W W2 : List Bool} {p e : Nat} {B B' : Nat → Option (List Nat)}, ws σ t W → ws σ (l.drop p) (W ++ W2) → (∀ k U, B k = some U → ws σ U [false]) → rw_m ar l t p B = some (e, B') → ∀ k U, B' k = some U → ws σ U [false]
  | [], _, _, _, _, _, _, _, _, hB, hm => by
    cases hm
    exact hB
  | c :: t, W, W2, p, e, B, B', h, hl, hB, hm => by
    obtain ⟨b, W', ks, rfl, hk, h2⟩ := ws_cons.mp h
    by_cases h40 : 40 ≤ c
    · have hbk : b = false ∧ ks = [] := by
        rcases kS_cases hk with z | z | z | z | z | z | z
        · omega
        · omega
        · omega
        · omega
        · omega
        · omega
        · exact ⟨z.1, z.2.2.2⟩
      obtain ⟨rfl, rfl⟩ := hbk
      rw [List.nil_append] at h2
      obtain ⟨g1, g2⟩ := en_rest hA (k := 1) hl (by rw [List.length_append, List.length_cons]; omega)
      have g1 : ws σ ((l.drop p).drop (en ar (l.drop p) 1)) (W' ++ W2) := g1
      have g2 : ws σ ((l.drop p).take (en ar (l.drop p) 1)) [false] := g2
      rw [List.drop_drop] at g1
      cases hBk : B (c - 40) with
      | none =>
        rw [rw_m_n h40 hBk] at hm
        refine rw_m_ws hA hσ h2 g1 (fun k U hk2 => ?_) hm
        unfold rw_u at hk2
        split at hk2
        · cases hk2
          exact g2
        · exact hB k U hk2
      | some U =>
        rw [rw_m_s h40 hBk] at hm
        split at hm
        · exact rw_m_ws hA hσ h2 g1 hB hm
        · cases hm
    · rw [rw_m_c h40] at hm
      split at hm
      · next hc =>
        rw [drop_c hc] at hl
        obtain ⟨b2, W3, ks2, e2, hk2, hl2⟩ := ws_cons.mp hl
        have e2 : b :: (W' ++ W2) = b2 :: W3 := e2
        cases e2
        rw [hk] at hk2
        cases hk2
        rw [← List.append_assoc] at hl2
        exact rw_m_ws hA hσ h2 hl2 hB hm
      · cases hm
theorem sg_b {h : tx_H} (hw : WFt h) : (sg h.1).1.1 ≤ 6 ∧ (sg h.1).1.2 ≤ 4 := ⟨hw.1, hw.2.1⟩
/-- a step keeps a TERM a TERM -/
theorem rw_s_ws {h : tx_H} {l l' : List Nat} (hw : WFt h) (hl : ws (sg h.1) l [false]) (hs : rw_s h l l') : ws (sg h.1) l' [false] := by
  have hA := arh_k (g := h.1) hw.1 hw.2.1
  obtain ⟨p, k, hp, ⟨w, r, e, B, a1, a2, a3, rfl⟩, -, -⟩ := hs
  have hr := wf_ws (hw.2.2 k w r a1).1
  obtain ⟨p1, p2, p3, p4, ⟨c, t, eL, c20, c40, ks, hks⟩, p6⟩ := rl_parts hA hr a2
  have he := rw_m_en hA p3 (fun x _ hx => (arh_lo (g := h.1) (c := x)).2.2.2.2 hx) a3
  have he : e = p + en (arh h.1) (l.drop p) 1 := he
  have hc : l[p]? = some c := by
    rw [eL, rw_m_c (by omega)] at a3
    split at a3
    · assumption
    · cases a3
  obtain ⟨W1, hw1⟩ := ws_drop p hl
  rw [drop_c hc] at hw1
  obtain ⟨b1, W1', ks1, rfl, hk1, -⟩ := ws_cons.mp hw1
  have hn : ∀ ks2, kS (sg h.1) true c ≠ some ks2 := fun ks2 z => by
    have hb := sg_b hw
    rcases kS_cases z with z | z | z | z | z | z | z
    · omega
    · omega
    · omega
    · omega
    · omega
    · exact absurd z.1 (by decide)
    · exact absurd z.1 (by decide)
  have hb1 : b1 = false := by
    cases b1
    · rfl
    · exact absurd hk1 (hn ks1)
  subst hb1
  rw [← drop_c hc] at hw1
  have hU := rw_m_ws hA (sg_b hw) (W := [false]) (W2 := W1') p3 hw1 (fun k U z => by cases z) a3
  have hB := (rw_m_B a3).2
  have hm : ws (sg h.1) (rw_r B (r.drop (rl_r (arh h.1) r))) [false] := rw_r_ws (sg_b hw) p4 (fun x hx h40 => by
    obtain ⟨U, z⟩ := hB x (p6 x hx h40) h40
    exact ⟨U, z, hU _ _ z⟩)
  unfold rw_n
  rw [he]
  exact ws_put hA hm hl ⟨c, ks, hc, hks, hn⟩
/-- not too deep -/
def dp (ar : Nat → Nat) (l : List Nat) : Prop := ∀ (i : Nat) (d : Nat × Nat) (x : Nat), (ly ar [(0, 0)] l)[i]? = some d → l[i]? = some x → d.1 ≤ 12 ∧ d.2 + qb x ≤ 5
theorem fs_106 {n r : Nat} {ar : Nat → Nat} {l : List Nat} {s : ps_S} {R : Int32 → ps_S → Prop} (hr : ps_is r 6 = true) (hM : shM s r l (ly ar [(0, 0)] l)) (k1 : ¬ dp ar l → R 1 s) (k0 : dp ar l → R 0 s) : pl_Cl n 106 [.ref r] s (ps_rI R) := by
  cases n with
  | zero => exact pl_At_0
  | succ n =>
  show pl_At (n + 1) 106 0 [(0, .ref r)] [] s (ps_rI R)
  obtain ⟨m0, m1, m2, m3⟩ := hM
  have c12 : (12 : Int32).toInt = 12 := by decide
  have c5 : (5 : Int32).toInt = 5 := by decide
  refine pl_106_0 (pl_nk_i (fun _ => ⟨fun z => ?_, fun z => pl_nk_i (fun _ => ⟨fun z2 => ?_, fun z2 => ?_⟩)⟩))
  · have z := xlt z
    refine k1 (fun y => ?_)
    have q := (m2 12).mpr (fun d hd => ?_)
    · omega
    · obtain ⟨i, hi⟩ := List.mem_iff_getElem?.mp hd
      have hil := (List.getElem?_eq_some_iff.mp hi).1
      exact (y i d _ hi (List.getElem?_eq_getElem (by omega))).1
  · have z := xle z
    have z2 := xle z2
    have q1 := (m2 12).mp (by omega)
    have q2 := (m3 5).mp (by omega)
    exact k0 (fun i d x hd hx => ⟨q1 d (List.mem_of_getElem? hd), q2 i d x hd hx⟩)
  · have z2 := xlt z2
    refine k1 (fun y => ?_)
    have q := (m3 5).mpr (fun i d x hd hx => (y i d x hd hx).2)
    omega
def CMN (q : Nat) : Prop := 1022 ≤ q ∧ q < 1038
section R85
variable {th : Nat} {h : tx_H} {l0 : List Nat} {s0 : ps_S} {R : Int32 → ps_S → Prop}
theorem fs_85_87 {v : Int} {m : Nat} {a b : List Nat} (hm : m ≤ 60) (g : rw_go h m l0 a) (hs : rw_s h a b) (hb : ¬ rw_g h b ∨ m = 60) (k : ∀ (v : Int32) s' nl, rw_A h l0 v.toInt nl → cv_W s' 1022 nl → cfr CMN s0 s' → R v s') {n : Nat} {s : ps_S} (F : cfr CMN s0 s) : pl_At n 85 87 [(0, .ref 1021)] [] s (ps_rI R) := by
  cases n with
  | zero => exact pl_At_0
  | succ n =>
  refine pl_85_87 (fs_91 ?_)
  refine k _ _ [] (Or.inr ⟨by decide, rfl, m, a, b, hm, g, hs, hb⟩) CW_0 (cfr_i (cfr_i F (by unfold CMN; omega)) (by unfold CMN; omega))
theorem fs_85_19 (hth : th = 2 ∨ th = 26) (H0 : cv_H s0 th h) (hw : WFt h) (hb : ∀ (k : Nat) (w r : List Nat), h.2[k]? = some (w, r) → ∀ c, c ∈ r → 40 ≤ c → c < 45) (k : ∀ (v : Int32) s' nl, rw_A h l0 v.toInt nl → cv_W s' 1022 nl → cfr CMN s0 s' → R v s') : ∀ (n : Nat) {s : ps_S} {x2 : Int32} {m : Nat} {l : List Nat}, x2.toInt = m → m ≤ 61 → rw_go h m l0 l → ws (sg h.1) l [false] → cv_W s 1022 l → shE s 1026 (arh h.1) l 0 → RLc s (arh h.1) h.2 h.2.length → cfr CMN s0 s → pl_At n 85 19 [(0, .ref 1021), (1, .ref th), (2, .int x2)] [] s (ps_rI R)
  | 0, _, _, _, _, _, _, _, _, _, _, _, _ => pl_At_0
  | n + 1, s, x2, m, l, hx, hm, hg, hl, W, E, hR, F => by
    have c60 : (60 : Int32).toInt = 60 := by decide
    have H := cv_H_cfr H0 F (fun q a c => by have := H0.2.2.1; unfold CMN; omega)
    refine pl_85_19 ⟨fun z => ?_, fun z => ?_⟩
    · have z := xlt z
      have e : m = 60 + 0 + 1 := by omega
      subst e
      obtain ⟨a, x1, x2', x3⟩ := hg
      exact fs_85_87 (v := 0) (Nat.le_refl _) x1 x2' (Or.inr rfl) k F
    · have z := xle z
      refine fs_86 hth H hw hb hl W E hR (fun s1 l' hs C F1 => ⟨fun _ => ?_, fun y => absurd y (by decide)⟩) (fun s1 he F1 => ⟨fun y => absurd rfl y, fun _ => ?_⟩)
      · have F1' : cfr CMN s0 s1 := cfr_tr F (cfr_mono F1 (fun q z => by unfold CGO at z; unfold CMN; omega))
        have hl' := rw_s_ws hw hl hs
        have H1 := cv_H_cfr H0 F1' (fun q a c => by have := H0.2.2.1; unfold CMN; omega)
        have hR1 : RLc s1 (arh h.1) h.2 h.2.length := fun k w2 l2 a c => by
          rw [(F1 1036 (by unfold CGO; omega)).2.2.2.1, (F1 1037 (by unfold CGO; omega)).2.2.2.1]
          exact hR k w2 l2 a c
        rcases Nat.lt_or_ge 40 l'.length with y | y
        · have ho := C.2.2 y
          refine fv_95 rfl (fun s2 F2 => ?_)
          refine fv_103 rfl (fun s3 F3 => ⟨fun _ => ?_, fun u => ?_⟩)
          · exact fs_85_87 (v := 0) (by omega) hg hs (Or.inl (fun u => by have := u.1; omega)) k (cfr_tr F1' (cfr_tr (cfr_mono F2 (fun q z => by unfold C2 at z; unfold CMN; omega)) (cfr_mono F3 (fun q z => by unfold CSh at z; unfold CMN; omega))))
          · have e3 := (F3 1024 (by unfold CSh; omega)).1 2
            have e2 := (F2 1024 (by unfold C2; omega)).1 2
            rw [e3, e2] at u
            exact absurd u ho
        · have W1 := C.2.1 y
          refine fs_95 (l := l') rfl rfl (by decide) W1 (fun s2 W2 F2 => ?_)
          have F2' : cfr CMN s0 s2 := cfr_tr F1' (cfr_mono F2 (fun q z => by unfold C2 at z; unfold CMN; omega))
          have H2 := cv_H_cfr H0 F2' (fun q a c => by have := H0.2.2.1; unfold CMN; omega)
          refine fs_103 (r := 1026) (r1 := 1022) (l := l') rfl rfl hth (by omega) hl' (Or.inl rfl) W2 H2.1 (fun s3 Z F3 => ?_)
          have F3' : cfr CMN s0 s3 := cfr_tr F2' (cfr_mono F3 (fun q z => by unfold CSh at z; unfold CMN; omega))
          have e3 := (F3 1024 (by unfold CSh; omega)).1 2
          have e2 := (F2 1024 (by unfold C2; omega)).1 2
          refine ⟨fun u => absurd (e3.trans (e2.trans W1.2.1)) u, fun _ => ?_⟩
          refine fs_106 rfl Z.2 (fun u => ⟨fun v => absurd v (by decide), fun _ => ?_⟩) (fun u => ⟨fun _ => ?_, fun v => absurd rfl v⟩)
          · exact fs_85_87 (v := 0) (by omega) hg hs (Or.inl (fun v => u v.2)) k F3'
          · exact fs_85_19 hth H0 hw hb k n (xj1 hx (by omega)) (by omega) ⟨l, hg, hs, y, u⟩ hl' (cv_W_cfr W2 F3 (by unfold CSh; omega) (by unfold CSh; omega)) Z.1 (fun k w2 l2 a c => by
              rw [(F3 1036 (by unfold CSh; omega)).2.2.2.1, (F3 1037 (by unfold CSh; omega)).2.2.2.1, (F2 1036 (by unfold C2; omega)).2.2.2.1, (F2 1037 (by unfold C2; omega)).2.2.2.1]
              exact hR1 k w2 l2 a c) F3'
      · exact k _ s1 l (Or.inl ⟨m, by omega, hg, he, hx⟩) (cv_W_cfr W F1 (by unfold CGO; omega) (by unfold CGO; omega)) (cfr_tr F (cfr_mono F1 (fun q z => by unfold CGO at z; unfold CMN; omega)))
theorem fs_85 {n : Nat} (hth : th = 2 ∨ th = 26) (H0 : cv_H s0 th h) (hw : WFt h) (hb : ∀ (k : Nat) (w r : List Nat), h.2[k]? = some (w, r) → ∀ c, c ∈ r → 40 ≤ c → c < 45) (hl : ws (sg h.1) l0 [false]) (W : cv_W s0 1022 l0) (k : ∀ (v : Int32) s' nl, rw_A h l0 v.toInt nl → cv_W s' 1022 nl → cfr CMN s0 s' → R v s') : pl_Cl n 85 [.ref 1021, .ref th] s0 (ps_rI R) := by
  cases n with
  | zero => exact pl_At_0
  | succ n =>
  show pl_At (n + 1) 85 0 [(0, .ref 1021), (1, .ref th)] [] s0 (ps_rI R)
  refine pl_85_0 ?_
  refine fs_83 hth H0 hw (fun s1 hR F1 => ?_)
  have F1' : cfr CMN s0 s1 := cfr_mono F1 (fun q z => by unfold RLq at z; unfold CMN; omega)
  have H1 := cv_H_cfr H0 F1' (fun q a c => by have := H0.2.2.1; unfold CMN; omega)
  have W1 := cv_W_cfr W F1 (by unfold RLq; omega) (by unfold RLq; omega)
  refine fs_103 (r := 1026) (r1 := 1022) (l := l0) rfl rfl hth (by omega) hl (Or.inl rfl) W1 H1.1 (fun s3 Z F3 => ?_)
  exact fs_85_19 hth H0 hw hb k n (m := 0) rfl (Nat.zero_le _) rfl hl (cv_W_cfr W1 F3 (by unfold CSh; omega) (by unfold CSh; omega)) Z.1 (fun k w2 l2 a c => by
    rw [(F3 1036 (by unfold CSh; omega)).2.2.2.1, (F3 1037 (by unfold CSh; omega)).2.2.2.1]
    exact hR k w2 l2 a c) (cfr_tr F1' (cfr_mono F3 (fun q z => by unfold CSh at z; unfold CMN; omega)))
end R85
/-- rewrite()'s answer and the row behind it -/
def RWA (h : tx_H) (T : Nat → Nat) (N : Nat) (v : Int32) (nl : List Nat) : Prop := (∃ l, rd_ok T N (h.1, false) 0 l ∧ rw_A h l v.toInt nl) ∨ ((∃ k pl, rd_bad T N (h.1, false) 0 k pl) ∧ v.toInt = -1 ∧ nl = [])
theorem RWA_eq {h : tx_H} {T : Nat → Nat} {N : Nat} {v v' : Int32} {nl nl' : List Nat} (a : RWA h T N v nl) (b : RWA h T N v' nl') : v = v' ∧ nl = nl' := by
  rcases a with ⟨l, a1, a2⟩ | ⟨⟨k, pl, a1⟩, a2, a3⟩ <;> rcases b with ⟨l', b1, b2⟩ | ⟨⟨k', pl', b1⟩, b2, b3⟩
  · have e := rd_oo a1 b1
    subst e
    obtain ⟨e1, e2⟩ := rw_A_det a2 b2
    exact ⟨Int32.toInt_inj.mp e1, e2⟩
  · exact (rd_ob a1 b1).elim
  · exact (rd_ob b1 a1).elim
  · exact ⟨Int32.toInt_inj.mp (a2.trans b2.symm), a3.trans b3.symm⟩
theorem fs_169 {n : Nat} {s : ps_S} {T : Nat → Nat} {N : Nat} {h : tx_H} {l0 : List Nat} {R : Int32 → ps_S → Prop} (c : TRc s h l0) (hw : WFt h) (hb : ∀ (k : Nat) (w r : List Nat), h.2[k]? = some (w, r) → ∀ c, c ∈ r → 40 ≤ c → c < 45) (hx : (ps_i s 0 1).toInt = N) (hN : N ≤ 1600) (hT : ∀ k, k < N → (ps_a s 1 k &&& 255).toInt = T k) (hkw : ∀ (k : Nat) (w : List Nat), tx_keys[k]? = some w → ps_b s 904 k = tx_x w) (k : ∀ (v : Int32) s' nl, RWA h T N v nl → cv_W s' 1022 nl → cfr (fun q => q = 0 ∨ cWr 1022 q ∨ CMN q) s s' → R v s') : pl_Cl n 169 [.ref 0] s (ps_rI R) := by
  cases n with
  | zero => exact pl_At_0
  | succ n =>
  show pl_At (n + 1) 169 0 [(0, .ref 0)] [] s (ps_rI R)
  have hth : ps_r s 0 2 = 2 ∨ ps_r s 0 2 = 26 := by have := c.2.1; omega
  refine pl_169_0 ?_
  refine fs_60u (th := ps_r s 0 2) (r := 1022) (ph := 0) (gg := h.1) (T := T) (N := N) (Or.inr ⟨by decide, rfl⟩) hth rfl c.1.1 hx hN hT hkw (fun s1 q => ⟨fun _ => ?_, fun z => absurd z (by decide)⟩) (fun s1 q => ⟨fun z => absurd rfl z, fun _ => ?_⟩)
  · obtain ⟨l, q1, q2, -, F⟩ := q
    have F' : cfr (fun q => q = 0 ∨ cWr 1022 q) s (ps_ui s1 0 1 0) := cfr_i (cfr_mono F (fun q z => Or.inr z)) (Or.inl rfl)
    have hr : ps_r (ps_ui s1 0 1 0) 0 2 = ps_r s 0 2 := (F 0 (by unfold cWr; omega)).2.2.1 2
    rw [hr]
    have hl : ws (sg h.1) l [false] := by
      obtain ⟨p, fr, g, -⟩ := q1
      exact (tx_WQ_end hw.2.1 (Or.inl rfl) (Nat.zero_le _) g).1
    refine fs_85 hth (cv_H_cfr c.1 F' (fun q a b => by have := c.1.2.2.1; unfold cWr; omega)) hw hb hl (cv_W_cfr (cv_W_cfr q2 (cfr_i cfr_refl rfl : cfr (fun q => q = 0) s1 (ps_ui s1 0 1 0)) (by decide) (by decide)) cfr_refl (C := fun _ => False) (fun z => z) (fun z => z)) (fun v s' nl hA W F2 => ?_)
    exact k v s' nl (Or.inl ⟨l, q1, hA⟩) W (cfr_tr (cfr_mono F' (fun q z => z.elim Or.inl (fun y => Or.inr (Or.inl y)))) (cfr_mono F2 (fun q z => Or.inr (Or.inr z))))
  · obtain ⟨kk, pl, q1, -, -, F⟩ := q
    cases n with
    | zero => exact pl_At_0
    | succ n =>
    show pl_At (n + 1) 81 0 [(0, .ref 1021)] [] _ _
    refine pl_81_0 (fs_91 ?_)
    refine k _ _ [] (Or.inr ⟨⟨kk, pl, q1⟩, by decide, rfl⟩) CW_0 (cfr_i (cfr_i (cfr_i (cfr_mono F (fun q z => Or.inr (Or.inl z))) (Or.inl rfl)) (Or.inr (Or.inr (by unfold CMN; omega)))) (Or.inr (Or.inr (by unfold CMN; omega))))
theorem fs_170 {n : Nat} {x1 : Int32} {s : ps_S} {l : List Nat} {R : Int32 → ps_S → Prop} (hW : cv_W s 1022 l) (k : ∀ v : Int32, pc_is l x1 v → R v s) : pl_Cl n 170 [.ref 0, .int x1] s (ps_rI R) := by
  cases n with
  | zero => exact pl_At_0
  | succ n =>
  show pl_At (n + 1) 170 0 [(0, .ref 0), (1, .int x1)] [] s (ps_rI R)
  refine pl_170_0 ?_
  refine fs_92 rfl rfl rfl hW (fun v z => ?_)
  refine k v ⟨fun c h0 hc => ?_, fun h => z.2 (by omega)⟩
  have hl := (List.getElem?_eq_some_iff.mp hc).1
  exact z.1 ⟨h0, by omega⟩ c hc
end
section
set_option maxRecDepth 100000
/-! the reference: a row that is made, whether it is one, kept; a term rewritten, again and again -/
-- ProofBenchModel.make(I)V
theorem pl_225_0 {n : Nat} {x1 : Int32} {s : ps_S} {Q : Option Value → ps_S → Prop} (h :
  (260 ≤ (ps_i s 1131 34) →
    Q none (ps_ui s 1131 34 ((ps_i s 1131 34) + 1))) ∧
  ((ps_i s 1131 34) < 260 →
    (pm_in (ps_i s 1131 34) 260 = true →
      Q none (ps_ui (ps_ua s 1149 (Int32.toNatClampNeg (ps_i s 1131 34)) x1) 1131 34 ((ps_i (ps_ua s 1149 (Int32.toNatClampNeg (ps_i s 1131 34)) x1) 1131 34) + 1))))) : pl_At (n + 1) 225 0 [(0, .ref 1131), (1, .int x1)] [] s Q :=
  pl_wp_at (stops := []) (f := 26) h rfl

-- ProofBenchModel.makeFrom(III)V
theorem pl_226_0 {n : Nat} {x1 : Int32} {x2 : Int32} {x3 : Int32} {s : ps_S} {Q : Option Value → ps_S → Prop} (h :
  pl_At n 226 3 [(0, .ref 1131), (1, .int x1), (3, .int x3), (4, .int x2)] [] s Q) : pl_At (n + 1) 226 0 [(0, .ref 1131), (1, .int x1), (2, .int x2), (3, .int x3)] [] s Q :=
  pl_wp_at (stops := [(3, [0, 1, 3, 4])]) (f := 4) h rfl

theorem pl_226_3 {n : Nat} {x1 : Int32} {x3 : Int32} {x4 : Int32} {s : ps_S} {Q : Option Value → ps_S → Prop} (h :
  (x3 ≤ x4 →
    Q none s) ∧
  (x4 < x3 →
    pl_Cl n 220 [.ref 1131, .int x1, .int x4] s (ps_rI (fun v1 s1 =>
      pl_Cl n 225 [.ref 1131, .int v1] s1 (ps_rV (fun s2 =>
        pl_At n 226 3 [(0, .ref 1131), (1, .int x1), (3, .int x3), (4, .int (x4 + 1))] [] s2 Q)))))) : pl_At (n + 1) 226 3 [(0, .ref 1131), (1, .int x1), (3, .int x3), (4, .int x4)] [] s Q :=
  pl_wp_at (stops := [(3, [0, 1, 3, 4])]) (f := 14) h rfl

-- ProofBenchModel.keepMade(I)V
theorem pl_229_0 {n : Nat} {x1 : Int32} {s : ps_S} {Q : Option Value → ps_S → Prop} (h :
  (pm_in x1 27400 = true →
    pl_At n 229 12 [(0, .ref 1131), (1, .int x1), (2, .int 0)] [] (ps_ua s 1134 (Int32.toNatClampNeg x1) (ps_i s 1131 34)) Q)) : pl_At (n + 1) 229 0 [(0, .ref 1131), (1, .int x1)] [] s Q :=
  pl_wp_at (stops := [(12, [0, 1, 2])]) (f := 10) h rfl

theorem pl_229_12 {n : Nat} {x1 : Int32} {x2 : Int32} {s : ps_S} {Q : Option Value → ps_S → Prop} (h :
  ((ps_i s 1131 34) ≤ x2 →
    Q none s) ∧
  (x2 < (ps_i s 1131 34) →
    (pm_in x2 260 = true →
      (pm_in ((x1 + 1) + x2) 27400 = true →
        pl_At n 229 12 [(0, .ref 1131), (1, .int x1), (2, .int (x2 + 1))] [] (ps_ua s 1134 (Int32.toNatClampNeg ((x1 + 1) + x2)) (ps_a s 1149 (Int32.toNatClampNeg x2))) Q)))) : pl_At (n + 1) 229 12 [(0, .ref 1131), (1, .int x1), (2, .int x2)] [] s Q :=
  pl_wp_at (stops := [(12, [0, 1, 2])]) (f := 21) h rfl

-- ProofBenchModel.isRow()Z
theorem pl_228_0 {n : Nat} {s : ps_S} {Q : Option Value → ps_S → Prop} (h :
  ((ps_i s 1131 34) ≤ 40 →
    pl_At n 228 17 [(0, .ref 1131), (1, .int 0), (2, .int 0), (3, .int 0)] [] s Q) ∧
  (40 < (ps_i s 1131 34) →
    Q (some (.int 0)) s)) : pl_At (n + 1) 228 0 [(0, .ref 1131)] [] s Q :=
  pl_wp_at (stops := [(17, [0, 1, 2, 3]), (45, [0, 1, 2, 3]), (70, [0, 1, 2, 3, 4]), (110, [0, 1, 2, 3]), (128, [0, 1, 2, 3]), (148, [0, 1, 2, 3])]) (f := 14) h rfl

theorem pl_228_17 {n : Nat} {x1 : Int32} {x2 : Int32} {x3 : Int32} {s : ps_S} {Q : Option Value → ps_S → Prop} (h :
  ((ps_i s 1131 34) ≤ x3 →
    Q (some (.int 1)) s) ∧
  (x3 < (ps_i s 1131 34) →
    (pm_in x3 260 = true →
      ((ps_a s 1149 (Int32.toNatClampNeg x3)) = 4 →
        pl_At n 228 45 [(0, .ref 1131), (1, .int x1), (2, .int x2), (3, .int x3)] [] s Q) ∧
      ((ps_a s 1149 (Int32.toNatClampNeg x3)) ≠ 4 →
        (pm_in x3 260 = true →
          ((ps_a s 1149 (Int32.toNatClampNeg x3)) ≠ 5 →
            (12 < x1 →
              Q (some (.int 0)) s) ∧
            (x1 ≤ 12 →
              ((0 : Int32) = 0 →
                pl_At n 228 70 [(0, .ref 1131), (1, .int x1), (2, .int x2), (3, .int x3), (4, .int 0)] [] s Q) ∧
              ((0 : Int32) ≠ 0 →
                (x2 ≤ 4 →
                  pl_At n 228 70 [(0, .ref 1131), (1, .int x1), (2, .int x2), (3, .int x3), (4, .int 0)] [] s Q) ∧
                (4 < x2 →
                  Q (some (.int 0)) s)))) ∧
          ((ps_a s 1149 (Int32.toNatClampNeg x3)) = 5 →
            pl_At n 228 45 [(0, .ref 1131), (1, .int x1), (2, .int x2), (3, .int x3)] [] s Q)))))) : pl_At (n + 1) 228 17 [(0, .ref 1131), (1, .int x1), (2, .int x2), (3, .int x3)] [] s Q :=
  pl_wp_at (stops := [(17, [0, 1, 2, 3]), (45, [0, 1, 2, 3]), (70, [0, 1, 2, 3, 4]), (110, [0, 1, 2, 3]), (128, [0, 1, 2, 3]), (148, [0, 1, 2, 3])]) (f := 34) h rfl

theorem pl_228_45 {n : Nat} {x1 : Int32} {x2 : Int32} {x3 : Int32} {s : ps_S} {Q : Option Value → ps_S → Prop} (h :
  (12 < x1 →
    Q (some (.int 0)) s) ∧
  (x1 ≤ 12 →
    ((1 : Int32) = 0 →
      pl_At n 228 70 [(0, .ref 1131), (1, .int x1), (2, .int x2), (3, .int x3), (4, .int 1)] [] s Q) ∧
    ((1 : Int32) ≠ 0 →
      (x2 ≤ 4 →
        pl_At n 228 70 [(0, .ref 1131), (1, .int x1), (2, .int x2), (3, .int x3), (4, .int 1)] [] s Q) ∧
      (4 < x2 →
        Q (some (.int 0)) s)))) : pl_At (n + 1) 228 45 [(0, .ref 1131), (1, .int x1), (2, .int x2), (3, .int x3)] [] s Q :=
  pl_wp_at (stops := [(17, [0, 1, 2, 3]), (45, [0, 1, 2, 3]), (70, [0, 1, 2, 3, 4]), (110, [0, 1, 2, 3]), (128, [0, 1, 2, 3]), (148, [0, 1, 2, 3])]) (f := 17) h rfl

theorem pl_228_70 {n : Nat} {x1 : Int32} {x2 : Int32} {x3 : Int32} {x4 : Int32} {s : ps_S} {Q : Option Value → ps_S → Prop} (h :
  (pm_in x3 260 = true →
    pl_Cl n 218 [.ref 1131, .int (ps_a s 1149 (Int32.toNatClampNeg x3))] s (ps_rI (fun v1 s1 =>
      (pm_in x1 260 = true →
        (pm_in x1 260 = true →
          (x4 = 0 →
            pl_At n 228 110 [(0, .ref 1131), (1, .int (x1 + 1)), (2, .int (x2 + 0)), (3, .int x3)] [] (ps_ua (ps_ua s1 1150 (Int32.toNatClampNeg x1) v1) 1151 (Int32.toNatClampNeg x1) (x4 &&& 1)) Q) ∧
          (x4 ≠ 0 →
            pl_At n 228 110 [(0, .ref 1131), (1, .int (x1 + 1)), (2, .int (x2 + 1)), (3, .int x3)] [] (ps_ua (ps_ua s1 1150 (Int32.toNatClampNeg x1) v1) 1151 (Int32.toNatClampNeg x1) (x4 &&& 1)) Q))))))) : pl_At (n + 1) 228 70 [(0, .ref 1131), (1, .int x1), (2, .int x2), (3, .int x3), (4, .int x4)] [] s Q :=
  pl_wp_at (stops := [(17, [0, 1, 2, 3]), (45, [0, 1, 2, 3]), (70, [0, 1, 2, 3, 4]), (110, [0, 1, 2, 3]), (128, [0, 1, 2, 3]), (148, [0, 1, 2, 3])]) (f := 29) h rfl

theorem pl_228_110 {n : Nat} {x1 : Int32} {x2 : Int32} {x3 : Int32} {s : ps_S} {Q : Option Value → ps_S → Prop} (h :
  (x1 ≤ 0 →
    pl_At n 228 148 [(0, .ref 1131), (1, .int x1), (2, .int x2), (3, .int x3)] [] s Q) ∧
  (0 < x1 →
    (pm_in (x1 - 1) 260 = true →
      ((ps_a s 1150 (Int32.toNatClampNeg (x1 - 1))) ≠ 0 →
        pl_At n 228 148 [(0, .ref 1131), (1, .int x1), (2, .int x2), (3, .int x3)] [] s Q) ∧
      ((ps_a s 1150 (Int32.toNatClampNeg (x1 - 1))) = 0 →
        pl_At n 228 128 [(0, .ref 1131), (1, .int (x1 + (Int32.ofInt (-1)))), (2, .int x2), (3, .int x3)] [] s Q)))) : pl_At (n + 1) 228 110 [(0, .ref 1131), (1, .int x1), (2, .int x2), (3, .int x3)] [] s Q :=
  pl_wp_at (stops := [(17, [0, 1, 2, 3]), (45, [0, 1, 2, 3]), (70, [0, 1, 2, 3, 4]), (110, [0, 1, 2, 3]), (128, [0, 1, 2, 3]), (148, [0, 1, 2, 3])]) (f := 12) h rfl

theorem pl_228_128 {n : Nat} {x1 : Int32} {x2 : Int32} {x3 : Int32} {s : ps_S} {Q : Option Value → ps_S → Prop} (h :
  (pm_in x1 260 = true →
    ((ps_a s 1151 (Int32.toNatClampNeg x1)) = 0 →
      pl_At n 228 110 [(0, .ref 1131), (1, .int x1), (2, .int (x2 - 0)), (3, .int x3)] [] s Q) ∧
    ((ps_a s 1151 (Int32.toNatClampNeg x1)) ≠ 0 →
      pl_At n 228 110 [(0, .ref 1131), (1, .int x1), (2, .int (x2 - 1)), (3, .int x3)] [] s Q))) : pl_At (n + 1) 228 128 [(0, .ref 1131), (1, .int x1), (2, .int x2), (3, .int x3)] [] s Q :=
  pl_wp_at (stops := [(17, [0, 1, 2, 3]), (45, [0, 1, 2, 3]), (70, [0, 1, 2, 3, 4]), (110, [0, 1, 2, 3]), (128, [0, 1, 2, 3]), (148, [0, 1, 2, 3])]) (f := 17) h rfl

theorem pl_228_148 {n : Nat} {x1 : Int32} {x2 : Int32} {x3 : Int32} {s : ps_S} {Q : Option Value → ps_S → Prop} (h :
  (x1 ≤ 0 →
    pl_At n 228 17 [(0, .ref 1131), (1, .int x1), (2, .int x2), (3, .int (x3 + 1))] [] s Q) ∧
  (0 < x1 →
    (pm_in (x1 - 1) 260 = true →
      (pm_in (x1 - 1) 260 = true →
        pl_At n 228 17 [(0, .ref 1131), (1, .int x1), (2, .int x2), (3, .int (x3 + 1))] [] (ps_ua s 1150 (Int32.toNatClampNeg (x1 - 1)) ((ps_a s 1150 (Int32.toNatClampNeg (x1 - 1))) - 1)) Q)))) : pl_At (n + 1) 228 148 [(0, .ref 1131), (1, .int x1), (2, .int x2), (3, .int x3)] [] s Q :=
  pl_wp_at (stops := [(17, [0, 1, 2, 3]), (45, [0, 1, 2, 3]), (70, [0, 1, 2, 3, 4]), (110, [0, 1, 2, 3]), (128, [0, 1, 2, 3]), (148, [0, 1, 2, 3])]) (f := 18) h rfl

-- ProofBenchModel.standsAt(II)Z
theorem pl_286_0 {n : Nat} {x1 : Int32} {x2 : Int32} {s : ps_S} {Q : Option Value → ps_S → Prop} (h :
  pl_Cl n 283 [.int (ps_i s 1131 21), .int x1] s (ps_rI (fun v1 s1 =>
    pl_At n 286 12 [(0, .ref 1131), (2, .int x2), (3, .int v1), (4, .int 0)] [] s1 Q))) : pl_At (n + 1) 286 0 [(0, .ref 1131), (1, .int x1), (2, .int x2)] [] s Q :=
  pl_wp_at (stops := [(12, [0, 2, 3, 4]), (42, [0, 3, 4, 5])]) (f := 9) h rfl

theorem pl_286_12 {n : Nat} {x2 : Int32} {x3 : Int32} {x4 : Int32} {s : ps_S} {Q : Option Value → ps_S → Prop} (h :
  (20 ≤ x4 →
    pl_At n 286 42 [(0, .ref 1131), (3, .int x3), (4, .int x2), (5, .int (ps_i s 1131 63))] [] s Q) ∧
  (x4 < 20 →
    (pm_in x4 20 = true →
      pl_At n 286 12 [(0, .ref 1131), (2, .int x2), (3, .int x3), (4, .int (x4 + 1))] [] (ps_ua s 1167 (Int32.toNatClampNeg x4) (-1)) Q))) : pl_At (n + 1) 286 12 [(0, .ref 1131), (2, .int x2), (3, .int x3), (4, .int x4)] [] s Q :=
  pl_wp_at (stops := [(12, [0, 2, 3, 4]), (42, [0, 3, 4, 5])]) (f := 17) h rfl

theorem pl_286_42 {n : Nat} {x3 : Int32} {x4 : Int32} {x5 : Int32} {s : ps_S} {Q : Option Value → ps_S → Prop} (h :
  ((ps_i s 1131 64) ≤ x5 →
    Q (some (.int 1)) (ps_ui s 1131 65 x4)) ∧
  (x5 < (ps_i s 1131 64) →
    pl_Cl n 220 [.ref 1131, .int x3, .int x5] s (ps_rI (fun v1 s1 =>
      (40 ≤ v1 →
        pl_Cl n 221 [.ref 1131, .int 25789, .int x4] s1 (ps_rI (fun v2 s2 =>
          (pm_in (v1 - 40) 20 = true →
            ((ps_a s2 1167 (Int32.toNatClampNeg (v1 - 40))) < 0 →
              (pm_in (v1 - 40) 20 = true →
                (pm_in (v1 - 40) 20 = true →
                  pl_At n 286 42 [(0, .ref 1131), (3, .int x3), (4, .int v2), (5, .int (x5 + 1))] [] (ps_ua (ps_ua s2 1167 (Int32.toNatClampNeg (v1 - 40)) x4) 1168 (Int32.toNatClampNeg (v1 - 40)) v2) Q))) ∧
            (0 ≤ (ps_a s2 1167 (Int32.toNatClampNeg (v1 - 40))) →
              (pm_in (v1 - 40) 20 = true →
                (pm_in (v1 - 40) 20 = true →
                  (((ps_a s2 1168 (Int32.toNatClampNeg (v1 - 40))) - (ps_a s2 1167 (Int32.toNatClampNeg (v1 - 40)))) ≠ (v2 - x4) →
                    Q (some (.int 0)) s2) ∧
                  (((ps_a s2 1168 (Int32.toNatClampNeg (v1 - 40))) - (ps_a s2 1167 (Int32.toNatClampNeg (v1 - 40)))) = (v2 - x4) →
                    (pm_in (v1 - 40) 20 = true →
                      pl_Cl n 259 [.ref 1131, .int 25789, .int x4, .int (v2 - x4), .int 25789, .int (ps_a s2 1167 (Int32.toNatClampNeg (v1 - 40)))] s2 (ps_rI (fun v3 s3 =>
                        (v3 ≠ 0 →
                          (pm_in (v1 - 40) 20 = true →
                            (pm_in (v1 - 40) 20 = true →
                              pl_At n 286 42 [(0, .ref 1131), (3, .int x3), (4, .int v2), (5, .int (x5 + 1))] [] (ps_ua (ps_ua s3 1167 (Int32.toNatClampNeg (v1 - 40)) x4) 1168 (Int32.toNatClampNeg (v1 - 40)) v2) Q))) ∧
                        (v3 = 0 →
                          Q (some (.int 0)) s3)))))))))))) ∧
      (v1 < 40 →
        pl_Cl n 220 [.ref 1131, .int 25789, .int x4] s1 (ps_rI (fun v4 s4 =>
          (v4 = v1 →
            pl_At n 286 42 [(0, .ref 1131), (3, .int x3), (4, .int (x4 + 1)), (5, .int (x5 + 1))] [] s4 Q) ∧
          (v4 ≠ v1 →
            Q (some (.int 0)) s4)))))))) : pl_At (n + 1) 286 42 [(0, .ref 1131), (3, .int x3), (4, .int x4), (5, .int x5)] [] s Q :=
  pl_wp_at (stops := [(12, [0, 2, 3, 4]), (42, [0, 3, 4, 5])]) (f := 103) h rfl

-- ProofBenchModel.rewrites()Z
theorem pl_287_0 {n : Nat} {s : ps_S} {Q : Option Value → ps_S → Prop} (h :
  pl_At n 287 2 [(0, .ref 1131), (1, .int 0)] [] s Q) : pl_At (n + 1) 287 0 [(0, .ref 1131)] [] s Q :=
  pl_wp_at (stops := [(2, [0, 1]), (15, [0, 1, 2]), (77, [0, 3, 4])]) (f := 4) h rfl

theorem pl_287_2 {n : Nat} {x1 : Int32} {s : ps_S} {Q : Option Value → ps_S → Prop} (h :
  pl_Cl n 219 [.ref 1131, .int 25789] s (ps_rI (fun v1 s1 =>
    (v1 ≤ x1 →
      Q (some (.int 0)) s1) ∧
    (x1 < v1 →
      pl_At n 287 15 [(0, .ref 1131), (1, .int x1), (2, .int 0)] [] s1 Q)))) : pl_At (n + 1) 287 2 [(0, .ref 1131), (1, .int x1)] [] s Q :=
  pl_wp_at (stops := [(2, [0, 1]), (15, [0, 1, 2]), (77, [0, 3, 4])]) (f := 11) h rfl

theorem pl_287_15 {n : Nat} {x1 : Int32} {x2 : Int32} {s : ps_S} {Q : Option Value → ps_S → Prop} (h :
  (pm_in (ps_i s 1131 21) 2 = true →
    ((ps_a s 1137 (Int32.toNatClampNeg (ps_i s 1131 21))) ≤ x2 →
      pl_At n 287 2 [(0, .ref 1131), (1, .int (x1 + 1))] [] s Q) ∧
    (x2 < (ps_a s 1137 (Int32.toNatClampNeg (ps_i s 1131 21))) →
      pl_Cl n 284 [.ref 1131, .int x2] s (ps_rI (fun v1 s1 =>
        (v1 = 0 →
          pl_At n 287 15 [(0, .ref 1131), (1, .int x1), (2, .int (x2 + 1))] [] s1 Q) ∧
        (v1 ≠ 0 →
          pl_Cl n 286 [.ref 1131, .int x2, .int x1] s1 (ps_rI (fun v2 s2 =>
            (v2 ≠ 0 →
              pl_Cl n 283 [.int (ps_i s2 1131 21), .int x2] s2 (ps_rI (fun v3 s3 =>
                pl_Cl n 226 [.ref 1131, .int 25789, .int 0, .int x1] (ps_ui s3 1131 34 0) (ps_rV (fun s4 =>
                  pl_At n 287 77 [(0, .ref 1131), (3, .int v3), (4, .int (ps_i s4 1131 64))] [] s4 Q))))) ∧
            (v2 = 0 →
              pl_At n 287 15 [(0, .ref 1131), (1, .int x1), (2, .int (x2 + 1))] [] s2 Q))))))))) : pl_At (n + 1) 287 15 [(0, .ref 1131), (1, .int x1), (2, .int x2)] [] s Q :=
  pl_wp_at (stops := [(2, [0, 1]), (15, [0, 1, 2]), (77, [0, 3, 4])]) (f := 41) h rfl

theorem pl_287_77 {n : Nat} {x3 : Int32} {x4 : Int32} {s : ps_S} {Q : Option Value → ps_S → Prop} (h :
  pl_Cl n 219 [.ref 1131, .int x3] s (ps_rI (fun v1 s1 =>
    (v1 ≤ x4 →
      pl_Cl n 219 [.ref 1131, .int 25789] s1 (ps_rI (fun v2 s2 =>
        pl_Cl n 226 [.ref 1131, .int 25789, .int (ps_i s1 1131 65), .int v2] s2 (ps_rV (fun s3 =>
          Q (some (.int 1)) s3))))) ∧
    (x4 < v1 →
      pl_Cl n 220 [.ref 1131, .int x3, .int x4] s1 (ps_rI (fun v4 s4 =>
        (40 ≤ v4 →
          (pm_in (v4 - 40) 20 = true →
            (pm_in (v4 - 40) 20 = true →
              pl_Cl n 226 [.ref 1131, .int 25789, .int (ps_a s4 1167 (Int32.toNatClampNeg (v4 - 40))), .int (ps_a s4 1168 (Int32.toNatClampNeg (v4 - 40)))] s4 (ps_rV (fun s5 =>
                pl_At n 287 77 [(0, .ref 1131), (3, .int x3), (4, .int (x4 + 1))] [] s5 Q))))) ∧
        (v4 < 40 →
          pl_Cl n 225 [.ref 1131, .int v4] s4 (ps_rV (fun s6 =>
            pl_At n 287 77 [(0, .ref 1131), (3, .int x3), (4, .int (x4 + 1))] [] s6 Q))))))))) : pl_At (n + 1) 287 77 [(0, .ref 1131), (3, .int x3), (4, .int x4)] [] s Q :=
  pl_wp_at (stops := [(2, [0, 1]), (15, [0, 1, 2]), (77, [0, 3, 4])]) (f := 48) h rfl

-- ProofBenchModel.rewrite()I
theorem pl_288_0 {n : Nat} {s : ps_S} {Q : Option Value → ps_S → Prop} (h :
  pl_Cl n 198 [.ref 1131] s (ps_rV (fun s1 =>
    pl_Cl n 209 [.ref 1131, .int 25789, .int 0, .int 0] s1 (ps_rV (fun s2 =>
      pl_Cl n 192 [.ref 1131] s2 (ps_rI (fun v3 s3 =>
        (v3 = 0 →
          pl_At n 288 31 [(0, .ref 1131)] [] s3 Q) ∧
        (v3 ≠ 0 →
          ((ps_i s3 1131 9) = 0 →
            pl_At n 288 31 [(0, .ref 1131)] [] s3 Q) ∧
          ((ps_i s3 1131 9) ≠ 0 →
            pl_Cl n 196 [.ref 1131] s3 (ps_rV (fun s4 =>
              pl_At n 288 31 [(0, .ref 1131)] [] s4 Q))))))))))) : pl_At (n + 1) 288 0 [(0, .ref 1131)] [] s Q :=
  pl_wp_at (stops := [(31, [0]), (51, [0, 1])]) (f := 17) h rfl

theorem pl_288_31 {n : Nat} {s : ps_S} {Q : Option Value → ps_S → Prop} (h :
  pl_Cl n 192 [.ref 1131] s (ps_rI (fun v1 s1 =>
    (v1 ≠ 0 →
      pl_At n 288 51 [(0, .ref 1131), (1, .int 0)] [] s1 Q) ∧
    (v1 = 0 →
      (pm_in (25789 : Int32) 27400 = true →
        Q (some (.int (-1))) (ps_ua s1 1134 (Int32.toNatClampNeg (25789 : Int32)) 0)))))) : pl_At (n + 1) 288 31 [(0, .ref 1131)] [] s Q :=
  pl_wp_at (stops := [(31, [0]), (51, [0, 1])]) (f := 14) h rfl

theorem pl_288_51 {n : Nat} {x1 : Int32} {s : ps_S} {Q : Option Value → ps_S → Prop} (h :
  pl_Cl n 287 [.ref 1131] s (ps_rI (fun v1 s1 =>
    (v1 = 0 →
      Q (some (.int x1)) s1) ∧
    (v1 ≠ 0 →
      (x1 = 60 →
        (pm_in (25789 : Int32) 27400 = true →
          Q (some (.int (-2))) (ps_ua s1 1134 (Int32.toNatClampNeg (25789 : Int32)) 0))) ∧
      (x1 ≠ 60 →
        pl_Cl n 228 [.ref 1131] s1 (ps_rI (fun v2 s2 =>
          (v2 ≠ 0 →
            pl_Cl n 229 [.ref 1131, .int 25789] s2 (ps_rV (fun s3 =>
              pl_At n 288 51 [(0, .ref 1131), (1, .int (x1 + 1))] [] s3 Q))) ∧
          (v2 = 0 →
            (pm_in (25789 : Int32) 27400 = true →
              Q (some (.int (-2))) (ps_ua s2 1134 (Int32.toNatClampNeg (25789 : Int32)) 0)))))))))) : pl_At (n + 1) 288 51 [(0, .ref 1131), (1, .int x1)] [] s Q :=
  pl_wp_at (stops := [(31, [0]), (51, [0, 1])]) (f := 32) h rfl

-- ProofBenchModel.normal(I)I
theorem pl_289_0 {n : Nat} {x1 : Int32} {s : ps_S} {Q : Option Value → ps_S → Prop} (h :
  pl_Cl n 264 [.ref 1131, .int 25789, .int x1] s (ps_rI (fun v1 s1 =>
    Q (some (.int v1)) s1))) : pl_At (n + 1) 289 0 [(0, .ref 1131), (1, .int x1)] [] s Q :=
  pl_wp_at (stops := []) (f := 7) h rfl

/-- the row that is being made -/
def mk_M (s : ps_S) (L : List Nat) : Prop := (ps_i s 1131 34).toInt = L.length ∧ ∀ (k c : Nat), k < 260 → L[k]? = some c → (ps_a s 1149 k).toInt = c
theorem mk_M_kq {A F : List Nat} {s s' : ps_S} {L : List Nat} (h : mk_M s L) (K : kq A F s s') (hA : A.contains 1149 = false) (hF : F.contains 34 = false) : mk_M s' L := ⟨by rw [kq_i K 34 hF]; exact h.1, fun k c a b => by rw [kq_a K 1149 hA]; exact h.2 k c a b⟩
theorem mk_M_0 {s : ps_S} : mk_M (ps_ui s 1131 34 0) [] := ⟨by rw [ps_i_ui, if_pos ⟨rfl, rfl⟩]; rfl, fun k c _ hc => by cases hc⟩
theorem fm_225 {n c : Nat} {L : List Nat} {x1 : Int32} {s : ps_S} {R : ps_S → Prop} (M : mk_M s L) (hx : x1.toInt = c) (hl : L.length < 100000) (k : ∀ s', mk_M s' (L ++ [c]) → kq [1149] [34] s s' → R s') : pl_Cl n 225 [.ref 1131, .int x1] s (ps_rV R) := by
  cases n with
  | zero => exact pl_At_0
  | succ n =>
  show pl_At (n + 1) 225 0 [(0, .ref 1131), (1, .int x1)] [] s (ps_rV R)
  have c260 : (260 : Int32).toInt = 260 := by decide
  have hlen : (L ++ [c]).length = L.length + 1 := List.length_append
  have m1 := M.1
  refine pl_225_0 ⟨fun z => ?_, fun z => ?_⟩
  · have z := xle z
    refine k _ ⟨?_, fun q d hq hd => ?_⟩ (kqi kq_refl rfl)
    · rw [hlen, ps_i_ui, if_pos ⟨rfl, rfl⟩]
      exact xj1 M.1 (by omega)
    · show (ps_a s 1149 q).toInt = d
      refine M.2 q d hq ?_
      rw [List.getElem?_append_left (by omega)] at hd
      exact hd
  · have z := xlt z
    intro b
    rw [xtn M.1]
    refine k _ ⟨?_, fun q d hq hd => ?_⟩ (kqi (kqa kq_refl rfl) rfl)
    · rw [hlen, ps_i_ui, if_pos ⟨rfl, rfl⟩]
      exact xj1 M.1 (by omega)
    · show (ps_a (ps_ua s 1149 L.length x1) 1149 q).toInt = d
      rw [ps_a_ua]
      rcases Nat.lt_or_ge q L.length with y | y
      · rw [if_neg (by omega)]
        rw [List.getElem?_append_left y] at hd
        exact M.2 q d hq hd
      · have := (List.getElem?_eq_some_iff.mp hd).1
        have e : q = L.length := by omega
        rw [if_pos ⟨rfl, e⟩]
        rw [e, List.getElem?_append_right (Nat.le_refl _), Nat.sub_self] at hd
        cases hd
        exact hx
theorem fm_226_3 {to a b : Nat} {l L : List Nat} {x1 x3 : Int32} {s0 : ps_S} {R : ps_S → Prop} (h1 : x1.toInt = to) (ht : to < 27400) (W0 : mv_W s0 to l) (h3 : x3.toInt = b) (hb : b ≤ l.length) (hL : L.length < 50000) (k : ∀ s', mk_M s' (L ++ (l.drop a).take (b - a)) → kq [1149] [34] s0 s' → R s') : ∀ (n : Nat) {s : ps_S} {x4 : Int32} {i : Nat}, x4.toInt = i → a ≤ i → (i ≤ b ∨ i = a) → mk_M s (L ++ (l.drop a).take (i - a)) → kq [1149] [34] s0 s → pl_At n 226 3 [(0, .ref 1131), (1, .int x1), (3, .int x3), (4, .int x4)] [] s (ps_rV R)
  | 0, _, _, _, _, _, _, _, _ => pl_At_0
  | n + 1, s, x4, i, h4, hi, hib, M, K => by
    have h40 := W0.2.1
    refine pl_226_3 ⟨fun z => ?_, fun z => ?_⟩
    · have z := xle z
      have e : (l.drop a).take (b - a) = (l.drop a).take (i - a) := by
        rcases hib with y | y
        · rw [show i = b from by omega]
        · rw [show b - a = 0 from by omega, show i - a = 0 from by omega]
      exact k s (by rw [e]; exact M) K
    · have z := xlt z
      obtain ⟨c, hc⟩ : ∃ c, l[i]? = some c := ⟨_, List.getElem?_eq_getElem (by omega)⟩
      have W := mv_W_kq W0 K (by decide)
      have hlen : (L ++ (l.drop a).take (i - a)).length < 100000 := by
        rw [List.length_append, List.length_take, List.length_drop]
        omega
      refine fm_220c h1 ht W h4 hc (fun v q => ?_)
      refine fm_225 M q hlen (fun s2 M2 K2 => ?_)
      refine fm_226_3 h1 ht W0 h3 hb hL k n (xj1 h4 (by omega)) (by omega) (Or.inl (by omega)) ?_ (kqt K K2 (by decide) (by decide))
      have e : (l.drop a).take (i + 1 - a) = (l.drop a).take (i - a) ++ [c] := by
        rw [show i + 1 - a = (i - a) + 1 from by omega, List.take_succ, List.getElem?_drop, show a + (i - a) = i from by omega, hc]
        rfl
      rw [e, ← List.append_assoc]
      exact M2
theorem fm_226 {n to a b : Nat} {l L : List Nat} {x1 x2 x3 : Int32} {s : ps_S} {R : ps_S → Prop} (h1 : x1.toInt = to) (ht : to < 27400) (W : mv_W s to l) (M : mk_M s L) (h2 : x2.toInt = a) (h3 : x3.toInt = b) (hb : b ≤ l.length) (hL : L.length < 50000) (k : ∀ s', mk_M s' (L ++ (l.drop a).take (b - a)) → kq [1149] [34] s s' → R s') : pl_Cl n 226 [.ref 1131, .int x1, .int x2, .int x3] s (ps_rV R) := by
  cases n with
  | zero => exact pl_At_0
  | succ n =>
  show pl_At (n + 1) 226 0 [(0, .ref 1131), (1, .int x1), (2, .int x2), (3, .int x3)] [] s (ps_rV R)
  refine pl_226_0 (fm_226_3 h1 ht W h3 hb hL k n h2 (Nat.le_refl _) (Or.inr rfl) ?_ kq_refl)
  rw [Nat.sub_self, List.take_zero, List.append_nil]
  exact M
/-- the row made is kept -/
theorem fm_229_12 {to : Nat} {L : List Nat} {x1 : Int32} {s0 : ps_S} {R : ps_S → Prop} (M0 : mk_M s0 L) (h40 : L.length ≤ 40) (h1 : x1.toInt = to) (ht : to + 41 ≤ 27400) (k : ∀ s', mv_W s' to L → kq [1134] [] s0 s' → mv_po to s0 s' → R s') : ∀ (n : Nat) {s : ps_S} {x2 : Int32} {i : Nat}, x2.toInt = i → i ≤ L.length → (ps_a s 1134 to).toInt = L.length → (∀ j c, j < i → L[j]? = some c → (ps_a s 1134 (to + 1 + j)).toInt = c) → kq [1134] [] s0 s → mv_po to s0 s → pl_At n 229 12 [(0, .ref 1131), (1, .int x1), (2, .int x2)] [] s (ps_rV R)
  | 0, _, _, _, _, _, _, _, _, _ => pl_At_0
  | n + 1, s, x2, i, h2, hi, hsz, hj, K, P => by
    have M := mk_M_kq M0 K (by decide) (by decide)
    have m1 := M.1
    refine pl_229_12 ⟨fun z => ?_, fun z => ?_⟩
    · have z := xle z
      exact k s ⟨hsz, h40, fun j c hc => hj j c (by have := (List.getElem?_eq_some_iff.mp hc).1; omega) hc⟩ K P
    · have z := xlt z
      obtain ⟨c, hc⟩ : ∃ c, L[i]? = some c := ⟨_, List.getElem?_eq_getElem (by omega)⟩
      have e1 : (x1 + 1).toInt = (to + 1 : Nat) := xj1 h1 (by omega)
      have e2 : (x1 + 1 + x2).toInt = (to + 1 + i : Nat) := by
        rw [xIa (by omega) (by omega), e1, h2]
        omega
      intro b1 b2
      rw [xtn e2, xtn h2]
      refine fm_229_12 M0 h40 h1 ht k n (xj1 h2 (by omega)) (by omega) ?_ (fun j c2 hj2 hc2 => ?_) (kqa K rfl) (fun q hq => ?_)
      · rw [ps_a_ua, if_neg (by omega)]
        exact hsz
      · rw [ps_a_ua]
        by_cases e : j = i
        · subst e
          rw [if_pos ⟨rfl, rfl⟩]
          exact M.2 j c2 (by omega) hc2
        · rw [if_neg (by omega)]
          exact hj j c2 (by omega) hc2
      · rw [ps_a_ua, if_neg (by omega)]
        exact P q hq
theorem fm_229 {n to : Nat} {L : List Nat} {x1 : Int32} {s : ps_S} {R : ps_S → Prop} (M : mk_M s L) (h40 : L.length ≤ 40) (h1 : x1.toInt = to) (ht : to + 41 ≤ 27400) (k : ∀ s', mv_W s' to L → kq [1134] [] s s' → mv_po to s s' → R s') : pl_Cl n 229 [.ref 1131, .int x1] s (ps_rV R) := by
  cases n with
  | zero => exact pl_At_0
  | succ n =>
  show pl_At (n + 1) 229 0 [(0, .ref 1131), (1, .int x1)] [] s (ps_rV R)
  refine pl_229_0 ?_
  intro b
  rw [xtn h1]
  refine fm_229_12 M h40 h1 ht k n (i := 0) rfl (Nat.zero_le _) ?_ (fun j c hj => absurd hj (Nat.not_lt_zero _)) (kqa kq_refl rfl) (fun q hq => ?_)
  · rw [ps_a_ua, if_pos ⟨rfl, rfl⟩]
    exact M.1
  · rw [ps_a_ua, if_neg (by omega)]
/-! isRow: the stack of parts that are still to come -/
def bnF : List (Nat × Bool) → Nat
  | [] => 0
  | (_, b) :: F => (if b = true then 1 else 0) + bnF F
def fSF : List (Nat × Bool) → List (Nat × Nat)
  | [] => []
  | (k, b) :: F => List.replicate k (F.length + 1, (if b = true then 1 else 0) + bnF F) ++ fSF F
def skR (s : ps_S) : List (Nat × Bool) → Prop
  | [] => True
  | (k, b) :: F => ((ps_a s 1150 F.length).toInt = k ∧ (b = true → ps_a s 1151 F.length ≠ 0) ∧ (b = false → ps_a s 1151 F.length = 0)) ∧ skR s F
theorem skR_ext {s s' : ps_S} : ∀ {F : List (Nat × Bool)}, skR s F → (∀ i, i < F.length → ps_a s' 1150 i = ps_a s 1150 i ∧ ps_a s' 1151 i = ps_a s 1151 i) → skR s' F
  | [], _, _ => trivial
  | (k, b) :: F, h, e => by
    have e0 := e F.length (by rw [List.length_cons]; omega)
    refine ⟨?_, skR_ext h.2 (fun i hi => e i (by rw [List.length_cons]; omega))⟩
    rw [e0.1, e0.2]
    exact h.1
theorem bnF_le : ∀ {F : List (Nat × Bool)}, bnF F ≤ F.length
  | [] => Nat.le_refl _
  | (k, b) :: F => by
    have := bnF_le (F := F)
    show (if b = true then 1 else 0) + bnF F ≤ F.length + 1
    cases b
    · rw [if_neg (by decide)]; omega
    · rw [if_pos rfl]; omega
def KL (s0 s : ps_S) : Prop := kq [1150, 1151] [] s0 s
theorem of_m1 : (Int32.ofInt (-1)).toInt = -1 := by decide
theorem fm_228_110 {n0 : Nat} {P : List (Nat × Nat)} {x3 : Int32} {s0 : ps_S} {R : Int32 → ps_S → Prop} (kk : ∀ {s : ps_S} {x1 x2 : Int32} {F : List (Nat × Bool)}, x1.toInt = F.length → F.length ≤ 13 → x2.toInt = bnF F → bnF F ≤ 5 → skR s F → (F = [] ∨ ∃ k b G, F = (k + 1, b) :: G) → fSF F = P → KL s0 s → pl_At n0 228 148 [(0, .ref 1131), (1, .int x1), (2, .int x2), (3, .int x3)] [] s (ps_rI R)) : ∀ (n : Nat) {s : ps_S} {x1 x2 : Int32} {F : List (Nat × Bool)}, n ≤ n0 → x1.toInt = F.length → F.length ≤ 13 → x2.toInt = bnF F → bnF F ≤ 5 → skR s F → fSF F = P → KL s0 s → pl_At n 228 110 [(0, .ref 1131), (1, .int x1), (2, .int x2), (3, .int x3)] [] s (ps_rI R)
  | 0, _, _, _, _, _, _, _, _, _, _, _, _ => pl_At_0
  | n + 1, s, x1, x2, F, hn, h1, hF, h2, hb5, hS, hP, K => by
    have c0 : (0 : Int32).toInt = 0 := Int32.toInt_zero
    have c1 : (1 : Int32).toInt = 1 := by decide
    refine pl_228_110 ⟨fun z => ?_, fun z => ?_⟩
    · have z := xle z
      have e : F = [] := by
        cases F with
        | nil => rfl
        | cons a G => rw [List.length_cons] at h1; omega
      exact (kk h1 hF h2 hb5 hS (Or.inl e) hP K).le (by omega)
    · have z := xlt z
      cases F with
      | nil =>
        rw [List.length_nil] at h1
        omega
      | cons a G =>
        obtain ⟨k, b⟩ := a
        rw [List.length_cons] at h1 hF
        have e1 : (x1 - 1).toInt = (G.length : Nat) := by rw [xIs (by omega) (by omega), h1, c1]; omega
        obtain ⟨⟨s1, s2, s3⟩, hS2⟩ := id hS
        intro b1
        rw [xtn e1]
        refine ⟨fun y => ?_, fun y => ?_⟩
        · have y := xne y
          refine (kk (F := (k, b) :: G) (by rw [List.length_cons]; exact h1) (by rw [List.length_cons]; exact hF) h2 hb5 hS (Or.inr ?_) hP K).le (by omega)
          cases k with
          | zero => exact absurd s1 y
          | succ k => exact ⟨k, b, G, rfl⟩
        · have y := xeq y
          have hk : k = 0 := by omega
          subst hk
          cases n with
          | zero => exact pl_At_0
          | succ n =>
          clear e1 b1
          have e2 : (x1 + Int32.ofInt (-1)).toInt = (G.length : Nat) := by
            rw [xof1 (b := G.length + 1) h1 (by omega)]
            omega
          generalize x1 + Int32.ofInt (-1) = x9 at e2 ⊢
          have hP2 : fSF G = P := hP
          have h2 : x2.toInt = ((if b = true then 1 else 0) + bnF G : Nat) := h2
          have hbn := bnF_le (F := G)
          have hb5 : (if b = true then 1 else 0) + bnF G ≤ 5 := hb5
          refine pl_228_128 ?_
          intro b2
          rw [xtn e2]
          refine ⟨fun w => ?_, fun w => ?_⟩
          · have hb : b = false := by
              cases b
              · rfl
              · exact absurd w (s2 rfl)
            rw [hb, if_neg (by decide), Nat.zero_add] at h2
            exact fm_228_110 kk n (F := G) (by omega) e2 (by omega) (by rw [xIs (by rw [Int32.toInt_zero]; omega) (by rw [Int32.toInt_zero]; omega), Int32.toInt_zero, h2]; omega) (by omega) hS2 hP2 K
          · have hb : b = true := by
              cases b
              · exact absurd (s3 rfl) w
              · rfl
            rw [hb, if_pos rfl] at h2
            exact fm_228_110 kk n (F := G) (by omega) e2 (by omega) (by rw [xIs (by omega) (by omega), c1, h2]; omega) (by omega) hS2 hP2 K
section R228
variable {g : tx_g} {L : List Nat} {b : Nat} {s0 : ps_S} {R : Int32 → ps_S → Prop}
theorem fm_228_70 {n0 c j : Nat} {bb : Bool} {ks : List Bool} {F : List (Nat × Bool)} {x1 x2 x3 x4 : Int32} {s : ps_S} {isq : Bool} (hb : b < 2) (h21 : (ps_i s0 1131 21).toInt = b) (H0 : mv_E s0 b g) (M0 : mk_M s0 L) (h40 : L.length ≤ 40) (hc : L[j]? = some c) (hk : kS (sg g) bb c = some ks) (h3 : x3.toInt = j) (h1 : x1.toInt = F.length) (hF : F.length ≤ 12) (h2 : x2.toInt = bnF F) (h4 : x4 = (if isq = true then 1 else 0)) (hq : qb c = (if isq = true then 1 else 0)) (h5 : bnF F + qb c ≤ 5) (hS : skR s F) (K : KL s0 s) (kk : ∀ {s : ps_S} {x1 x2 : Int32} {G : List (Nat × Bool)}, x1.toInt = G.length → G.length ≤ 13 → x2.toInt = bnF G → bnF G ≤ 5 → skR s G → (G = [] ∨ ∃ k b G', G = (k + 1, b) :: G') → fSF G = List.replicate (arh g c) (F.length + 1, bnF F + qb c) ++ fSF F → KL s0 s → pl_At n0 228 148 [(0, .ref 1131), (1, .int x1), (2, .int x2), (3, .int x3)] [] s (ps_rI R)) {n : Nat} (hn : n ≤ n0) : pl_At n 228 70 [(0, .ref 1131), (1, .int x1), (2, .int x2), (3, .int x3), (4, .int x4)] [] s (ps_rI R) := by
  cases n with
  | zero => exact pl_At_0
  | succ n =>
  have hjl := (List.getElem?_eq_some_iff.mp hc).1
  have hbn := bnF_le (F := F)
  have c1 : (1 : Int32).toInt = 1 := by decide
  have h21' : (ps_i s 1131 21).toInt = b := by rw [kq_i K 21 rfl]; exact h21
  have H := mv_E_kq H0 K (by decide)
  refine pl_228_70 ?_
  intro b1
  rw [xtn h3]
  have ec : (ps_a s 1149 j).toInt = c := by
    rw [kq_a K 1149 (by decide)]
    exact M0.2 j c (by omega) hc
  refine fm_218 hb h21' H hk ec (fun v1 q1 => ?_)
  intro b2 b3
  rw [xtn h1]
  have e1 : (x1 + 1).toInt = (F.length + 1 : Nat) := xj1 h1 (by omega)
  have K2 : KL s0 (ps_ua (ps_ua s 1150 F.length v1) 1151 F.length (x4 &&& 1)) := kqa (kqa K rfl) rfl
  have hS2 : skR (ps_ua (ps_ua s 1150 F.length v1) 1151 F.length (x4 &&& 1)) ((arh g c, isq) :: F) := by
    refine ⟨⟨?_, fun z => ?_, fun z => ?_⟩, skR_ext hS (fun i hi => ⟨?_, ?_⟩)⟩
    · rw [ps_a_ua, if_neg (by omega), ps_a_ua, if_pos ⟨rfl, rfl⟩]
      exact q1
    · rw [ps_a_ua, if_pos ⟨rfl, rfl⟩, h4, z, if_pos rfl]
      decide
    · rw [ps_a_ua, if_pos ⟨rfl, rfl⟩, h4, z, if_neg (by decide)]
      decide
    · rw [ps_a_ua, if_neg (by omega), ps_a_ua, if_neg (by omega)]
    · rw [ps_a_ua, if_neg (by omega), ps_a_ua, if_neg (by omega)]
  have hP : fSF ((arh g c, isq) :: F) = List.replicate (arh g c) (F.length + 1, bnF F + qb c) ++ fSF F := by
    show List.replicate (arh g c) (F.length + 1, (if isq = true then 1 else 0) + bnF F) ++ fSF F = _
    rw [hq, Nat.add_comm (bnF F)]
  refine ⟨fun z => ?_, fun z => ?_⟩
  · have hi : isq = false := by
      cases isq
      · rfl
      · rw [z, if_pos rfl] at h4
        exact absurd h4 (by decide)
    subst hi
    exact fm_228_110 kk n (F := (arh g c, false) :: F) (by omega) e1 (by rw [List.length_cons]; omega) (by rw [xIa (by rw [Int32.toInt_zero]; omega) (by rw [Int32.toInt_zero]; omega), Int32.toInt_zero, h2]; show _ = ((0 + bnF F : Nat) : Int); omega) (by show 0 + bnF F ≤ 5; omega) hS2 hP K2
  · have hi : isq = true := by
      cases isq
      · rw [if_neg (by decide)] at h4
        exact absurd h4 z
      · rfl
    subst hi
    exact fm_228_110 kk n (F := (arh g c, true) :: F) (by omega) e1 (by rw [List.length_cons]; omega) (by rw [xj1 h2 (by omega)]; show _ = ((1 + bnF F : Nat) : Int); omega) (by rw [if_pos rfl] at hq; show 1 + bnF F ≤ 5; omega) hS2 hP K2
theorem fm_228_17 (hb : b < 2) (h21 : (ps_i s0 1131 21).toInt = b) (H0 : mv_E s0 b g) (M0 : mk_M s0 L) (h40 : L.length ≤ 40) (hA : ArW (sg g) (arh g)) (k1 : ∀ s', dp (arh g) L → KL s0 s' → R 1 s') (k0 : ∀ s', ¬ dp (arh g) L → KL s0 s' → R 0 s') : ∀ (n : Nat) {s : ps_S} {x1 x2 x3 : Int32} {j : Nat} {F : List (Nat × Bool)} {D P : List (Nat × Nat)} {W : List Bool}, x3.toInt = j → j ≤ L.length → x1.toInt = F.length → F.length ≤ 13 → x2.toInt = bnF F → bnF F ≤ 5 → skR s F → (P = (F.length, bnF F) :: fSF F ∨ P = []) → ws (sg g) (L.drop j) W → P.length = W.length → ly (arh g) [(0, 0)] L = D ++ ly (arh g) P (L.drop j) → D.length = j → (∀ (i : Nat) (d : Nat × Nat) (x : Nat), D[i]? = some d → L[i]? = some x → d.1 ≤ 12 ∧ d.2 + qb x ≤ 5) → KL s0 s → pl_At n 228 17 [(0, .ref 1131), (1, .int x1), (2, .int x2), (3, .int x3)] [] s (ps_rI R)
  | 0, _, _, _, _, _, _, _, _, _, _, _, _, _, _, _, _, _, _, _, _, _, _, _ => pl_At_0
  | n + 1, s, x1, x2, x3, j, F, D, P, W, h3, hj, h1, hF, h2, hbn, hS, hP, hw, hPW, hD, hDj, hd, K => by
    have M := mk_M_kq M0 K (by decide) (by decide)
    have m1 := M.1
    have c0 : (0 : Int32).toInt = 0 := Int32.toInt_zero
    have c12 : (12 : Int32).toInt = 12 := by decide
    have c4 : (4 : Int32).toInt = 4 := by decide
    have c5 : (5 : Int32).toInt = 5 := by decide
    have c1 : (1 : Int32).toInt = 1 := by decide
    refine pl_228_17 ⟨fun z => ?_, fun z => ?_⟩
    · have z := xle z
      have e : j = L.length := by omega
      refine k1 s (fun i d x hx1 hx2 => hd i d x ?_ hx2) K
      rw [e, List.drop_length] at hD
      rw [hD] at hx1
      have hil := (List.getElem?_eq_some_iff.mp hx2).1
      rw [List.getElem?_append_left (by omega)] at hx1
      exact hx1
    · have z := xlt z
      obtain ⟨c, hc⟩ : ∃ c, L[j]? = some c := ⟨_, List.getElem?_eq_getElem (by omega)⟩
      have ec : (ps_a s 1149 j).toInt = c := M.2 j c (by omega) hc
      rw [drop_c hc] at hw hD
      obtain ⟨bb, W', ks, rfl, hk, hw'⟩ := ws_cons.mp hw
      have ha := hA bb c ks hk
      have hPc : P = (F.length, bnF F) :: fSF F := by
        rcases hP with y | y
        · exact y
        · rw [y] at hPW; cases hPW
      subst hPc
      have hly : ly (arh g) ((F.length, bnF F) :: fSF F) (c :: L.drop (j + 1)) = (F.length, bnF F) :: ly (arh g) (List.replicate (arh g c) (F.length + 1, bnF F + qb c) ++ fSF F) (L.drop (j + 1)) := rfl
      rw [hly] at hD
      have hDj2 : (ly (arh g) [(0, 0)] L)[j]? = some (F.length, bnF F) := by
        rw [hD, List.getElem?_append_right (by omega), hDj, Nat.sub_self]
        rfl
      have bad : (¬ (F.length ≤ 12 ∧ bnF F + qb c ≤ 5)) → R 0 s := fun y => k0 s (fun w => y (w j _ c hDj2 hc)) K
      have fin : ∀ {x4 : Int32} {isq : Bool}, x4 = (if isq = true then 1 else 0) → qb c = (if isq = true then 1 else 0) → F.length ≤ 12 → bnF F + qb c ≤ 5 → ∀ {n' : Nat}, n' ≤ n → pl_At n' 228 70 [(0, .ref 1131), (1, .int x1), (2, .int x2), (3, .int x3), (4, .int x4)] [] s (ps_rI R) := fun {x4 isq} h4 hq hF12 hb5 {n'} hn' => by
        refine fm_228_70 (n0 := n) (j := j) (isq := isq) hb h21 H0 M0 h40 hc hk h3 h1 hF12 h2 h4 hq hb5 hS K (fun {s2 y1 y2 G} g1 g2 g3 hGb g4 g5 g6 K2 => ?_) hn'
        cases n with
        | zero => exact pl_At_0
        | succ n =>
        have e3 : (x3 + 1).toInt = (j + 1 : Nat) := xj1 h3 (by omega)
        have hlen : ∀ {P' : List (Nat × Nat)}, P' = List.replicate (arh g c) (F.length + 1, bnF F + qb c) ++ fSF F → P'.length = (ks ++ W').length := fun {P'} e => by
          rw [e, List.length_append, List.length_append, List.length_replicate, ha]
          rw [List.length_cons, List.length_cons] at hPW
          omega
        have hD2 : (D ++ [(F.length, bnF F)]).length = j + 1 := by rw [List.length_append, hDj]; rfl
        have hd2 : ∀ (i : Nat) (d : Nat × Nat) (x : Nat), (D ++ [(F.length, bnF F)])[i]? = some d → L[i]? = some x → d.1 ≤ 12 ∧ d.2 + qb x ≤ 5 := fun i d x hi hx => by
          rcases Nat.lt_or_ge i j with y | y
          · rw [List.getElem?_append_left (by omega)] at hi
            exact hd i d x hi hx
          · have := (List.getElem?_eq_some_iff.mp hi).1
            have ei : i = j := by omega
            rw [ei, List.getElem?_append_right (by omega), hDj, Nat.sub_self] at hi
            cases hi
            rw [ei, hc] at hx
            cases hx
            exact ⟨hF12, hb5⟩
        have hD3 : ∀ {P' : List (Nat × Nat)}, P' = List.replicate (arh g c) (F.length + 1, bnF F + qb c) ++ fSF F → ly (arh g) [(0, 0)] L = (D ++ [(F.length, bnF F)]) ++ ly (arh g) P' (L.drop (j + 1)) := fun {P'} e => by
          rw [e, hD, List.append_assoc]
          rfl
        refine pl_228_148 ⟨fun y => ?_, fun y => ?_⟩
        · have y := xle y
          have eG : G = [] := by
            cases G with
            | nil => rfl
            | cons a G => rw [List.length_cons] at g1; omega
          subst eG
          exact fm_228_17 hb h21 H0 M0 h40 hA k1 k0 n (F := []) (P := []) e3 (by omega) g1 g2 g3 (Nat.zero_le _) trivial (Or.inr rfl) hw' (hlen g6) (hD3 g6) hD2 hd2 K2
        · have y := xlt y
          rcases g5 with rfl | ⟨k, bG, G', rfl⟩
          · rw [g1] at y
            exact absurd y (by decide)
          · have g1' : y1.toInt = (G'.length + 1 : Nat) := g1
            have e1 : (y1 - 1).toInt = (G'.length : Nat) := by rw [xIs (by omega) (by omega), g1', c1]; omega
            obtain ⟨⟨t1, t2, t3⟩, t4⟩ := g4
            intro b1 b2
            rw [xtn e1]
            have hv : (ps_a s2 1150 G'.length - 1).toInt = (k : Nat) := by
              have hk99 := xR (ps_a s2 1150 G'.length)
              rw [xIs (by omega) (by omega), t1, c1]
              omega
            have eP : fSF ((k + 1, bG) :: G') = (G'.length + 1, (if bG = true then 1 else 0) + bnF G') :: fSF ((k, bG) :: G') := by
              show List.replicate (k + 1) _ ++ _ = _ :: (List.replicate k _ ++ _)
              rw [List.replicate_succ]
              rfl
            refine fm_228_17 hb h21 H0 M0 h40 hA k1 k0 n (F := (k, bG) :: G') (P := fSF ((k + 1, bG) :: G')) e3 (by omega) g1 g2 g3 hGb ⟨⟨?_, fun w => ?_, fun w => ?_⟩, skR_ext t4 (fun i hi => ⟨?_, ?_⟩)⟩ (Or.inl eP) hw' (hlen g6) (hD3 g6) hD2 hd2 (kqa K2 rfl)
            · rw [ps_a_ua, if_pos ⟨rfl, rfl⟩]
              exact hv
            · rw [ps_a_ua, if_neg (by omega)]
              exact t2 w
            · rw [ps_a_ua, if_neg (by omega)]
              exact t3 w
            · rw [ps_a_ua, if_neg (by omega)]
            · rw [ps_a_ua, if_neg (by omega)]
      intro b1
      rw [xtn h3]
      have quant : c = 4 ∨ c = 5 → pl_At n 228 45 [(0, .ref 1131), (1, .int x1), (2, .int x2), (3, .int x3)] [] s (ps_rI R) := fun h45 => by
        cases n with
        | zero => exact pl_At_0
        | succ n =>
        have q1 := qb_1 h45
        refine pl_228_45 ⟨fun y => ?_, fun y => ⟨fun w => absurd w (by decide), fun _ => ⟨fun w => ?_, fun w => ?_⟩⟩⟩
        · have y := xlt y
          exact bad (fun w => by omega)
        · have y := xle y
          have w := xle w
          exact fin (isq := true) rfl q1 (by omega) (by omega) (Nat.le_succ _)
        · have w := xlt w
          exact bad (fun v => by omega)
      refine ⟨fun y => ?_, fun y => ?_⟩
      · have y := xeq y
        exact quant (Or.inl (by omega))
      · have y := xne y
        intro b2
        refine ⟨fun y2 => ?_, fun y2 => ?_⟩
        · have y2 := xne y2
          have q0 := qb_0 (c := c) (by omega)
          refine ⟨fun w => ?_, fun w => ⟨fun _ => ?_, fun v => absurd rfl v⟩⟩
          · have w := xlt w
            exact bad (fun v => by omega)
          · have w := xle w
            exact fin (isq := false) rfl q0 (by omega) (by omega) (Nat.le_refl _)
        · have y2 := xeq y2
          exact quant (Or.inr (by omega))
theorem fm_228 {n : Nat} {s : ps_S} {bb : Bool} (hb : b < 2) (h21 : (ps_i s 1131 21).toInt = b) (H : mv_E s b g) (M : mk_M s L) (hw : ws (sg g) L [bb]) (hl : L.length < 100000) (k1 : ∀ s', (L.length ≤ 40 ∧ dp (arh g) L) ∧ KL s s' → R 1 s') (k0 : ∀ s', (¬ (L.length ≤ 40 ∧ dp (arh g) L)) ∧ KL s s' → R 0 s') : pl_Cl n 228 [.ref 1131] s (ps_rI R) := by
  cases n with
  | zero => exact pl_At_0
  | succ n =>
  show pl_At (n + 1) 228 0 [(0, .ref 1131)] [] s (ps_rI R)
  have c40 : (40 : Int32).toInt = 40 := by decide
  have m1 := M.1
  refine pl_228_0 ⟨fun z => ?_, fun z => ?_⟩
  · have z := xle z
    have h40 : L.length ≤ 40 := by omega
    exact fm_228_17 hb h21 H M h40 (arh_k H.2.2.1 H.2.2.2.1) (fun s' a c => k1 s' ⟨⟨h40, a⟩, c⟩) (fun s' a c => k0 s' ⟨fun y => a y.2, c⟩) n (j := 0) (F := []) (D := []) (P := [(0, 0)]) rfl (Nat.zero_le _) rfl (Nat.zero_le _) rfl (Nat.zero_le _) trivial (Or.inl rfl) hw rfl rfl rfl (fun i d x hi => by cases hi) kq_refl
  · have z := xlt z
    exact k0 s ⟨fun y => by omega, kq_refl⟩
end R228
/-- what is bound, by places: the reference's -/
def BNm (s : ps_S) (l : List Nat) (B : Nat → Option (List Nat)) : Prop := ∀ k, k < 20 → (B k = none ∧ (ps_a s 1167 k).toInt = -1) ∨ ∃ a b : Nat, (ps_a s 1167 k).toInt = a ∧ (ps_a s 1168 k).toInt = b ∧ a ≤ b ∧ b ≤ l.length ∧ B k = some ((l.drop a).take (b - a))
theorem BNm_put {s : ps_S} {l T : List Nat} {B : Nat → Option (List Nat)} {k p e : Nat} {x v : Int32} (b : BNm s l B) (hx : x.toInt = p) (hv : v.toInt = e) (hpe : p ≤ e) (he : e ≤ l.length) (hT : T = (l.drop p).take (e - p)) : BNm (ps_ua (ps_ua s 1167 k x) 1168 k v) l (rw_u B k T) := fun j hj => by
  unfold rw_u
  by_cases ej : j = k
  · right
    refine ⟨p, e, ?_, ?_, hpe, he, ?_⟩
    · rw [ps_a_ua, if_neg (by omega), ps_a_ua, if_pos ⟨rfl, ej⟩]
      exact hx
    · rw [ps_a_ua, if_pos ⟨rfl, ej⟩]
      exact hv
    · rw [if_pos ej, hT]
  · rw [if_neg ej, ps_a_ua, if_neg (by omega), ps_a_ua, if_neg (by omega), ps_a_ua, if_neg (by omega), ps_a_ua, if_neg (by omega)]
    exact b j hj
theorem rw_u_id {B : Nat → Option (List Nat)} {k : Nat} {U : List Nat} (h : B k = some U) : rw_u B k U = B := by
  funext q
  unfold rw_u
  by_cases e : q = k
  · rw [if_pos e, e, h]
  · rw [if_neg e]
def KBm (s0 s : ps_S) : Prop := kq [1167, 1168] [65] s0 s
section R286
variable {b : Nat} {h : tx_H} {l r : List Nat} {i : Nat} {s0 : ps_S} {R : Int32 → ps_S → Prop} {x3 : Int32} {lf rt : Nat}
theorem fm_286_42 (hb : b < 2) (h21 : (ps_i s0 1131 21).toInt = b) (H0 : mv_E s0 b h.1) (hi8 : i < 8) (W0 : mv_W s0 25789 l) (Wr0 : mv_W s0 (21812 + 41 * (8 * b + i)) r) (h3 : x3.toInt = (21812 + 41 * (8 * b + i) : Nat)) (hv : ∀ c, c ∈ r → c < 60) (h64 : (ps_i s0 1131 64).toInt = rt) (hrt : rt ≤ r.length) {M : Option (Nat × (Nat → Option (List Nat)))} (k1 : ∀ s' e B, M = some (e, B) → BNm s' l B → (ps_i s' 1131 65).toInt = (e : Nat) → KBm s0 s' → R 1 s') (k0 : ∀ s', M = none → KBm s0 s' → R 0 s') : ∀ (n : Nat) {s : ps_S} {x4 x5 : Int32} {p j : Nat} {B : Nat → Option (List Nat)} {W W1 : List Bool}, x4.toInt = p → x5.toInt = j → j ≤ rt → BNm s l B → KBm s0 s → ws (sg h.1) ((r.drop j).take (rt - j)) W → ws (sg h.1) (l.drop p) W1 → W.length ≤ W1.length → p ≤ l.length → M = rw_m (arh h.1) l ((r.drop j).take (rt - j)) p B → pl_At n 286 42 [(0, .ref 1131), (3, .int x3), (4, .int x4), (5, .int x5)] [] s (ps_rI R)
  | 0, _, _, _, _, _, _, _, _, _, _, _, _, _, _, _, _, _, _ => pl_At_0
  | n + 1, s, x4, x5, p, j, B, W, W1, h4, h5, hj, bn, K, hw, hw1, hle, hpl, hM => by
    have hA := arh_k H0.2.2.1 H0.2.2.2.1
    have hl40 := W0.2.1
    have hr40 := Wr0.2.1
    have c0 : (0 : Int32).toInt = 0 := Int32.toInt_zero
    have c40 : (40 : Int32).toInt = 40 := by decide
    have Wl := mv_W_kq W0 K (by decide)
    have Wr := mv_W_kq Wr0 K (by decide)
    have H := mv_E_kq H0 K (by decide)
    have h21' : (ps_i s 1131 21).toInt = b := by rw [kq_i K 21 rfl]; exact h21
    have e64 : (ps_i s 1131 64).toInt = rt := by rw [kq_i K 64 rfl]; exact h64
    refine pl_286_42 ⟨fun z => ?_, fun z => ?_⟩
    · have z := xle z
      rw [show rt - j = 0 from by omega, List.take_zero] at hM
      refine k1 _ p B hM bn ?_ (kqi K rfl)
      rw [ps_i_ui, if_pos ⟨rfl, rfl⟩]
      exact h4
    · have z := xlt z
      obtain ⟨c, hc⟩ : ∃ c, r[j]? = some c := ⟨_, List.getElem?_eq_getElem (by omega)⟩
      have c60 := hv c (List.mem_of_getElem? hc)
      rw [dt_c hc (by omega)] at hw hM
      obtain ⟨bb, W', ks, rfl, hk, hw'⟩ := ws_cons.mp hw
      have ha := hA bb c ks hk
      have hpos : 1 ≤ W1.length := by rw [List.length_cons] at hle; omega
      have hlt : p < l.length := by
        have := en_lt hA hw1 (show 0 < W1.length by omega)
        rw [List.length_drop] at this
        omega
      refine fm_220c h3 (by omega) Wr h5 hc (fun v1 q1 => ⟨fun y => ?_, fun y => ?_⟩)
      · have y := xle y
        have h40 : 40 ≤ c := by omega
        have hks : ks = [] := by
          have := (arh_lo (g := h.1) (c := c)).2.2.2.2 h40
          exact List.eq_nil_of_length_eq_zero (by omega)
        rw [hks, List.nil_append] at hw'
        have hen := en_le hA hw1 (k := 1) hpos
        rw [List.length_drop] at hen
        have hrest := (en_rest hA hw1 (k := 1) hpos).1
        rw [List.drop_drop] at hrest
        have hcons : ∃ b0 Wi, W1 = b0 :: Wi := by
          cases W1 with
          | nil => exact absurd hpos (by decide)
          | cons b0 Wi => exact ⟨b0, Wi, rfl⟩
        obtain ⟨b0, Wi, hW1⟩ := hcons
        have ek : (v1 - 40).toInt = (c - 40 : Nat) := by rw [xIs (by omega) (by omega), q1, c40]; omega
        have hk20 : c - 40 < 20 := by omega
        refine fm_221 hb h21' H (to := 25789) (i := p) (l := l) (by decide) (by decide) Wl h4 (by rw [← hW1]; exact hw1) (fun v2 q2 => ?_)
        have go : ∀ {B2 : Nat → Option (List Nat)}, rw_u B (c - 40) ((l.drop p).take (en (arh h.1) (l.drop p) 1)) = B2 → M = rw_m (arh h.1) l ((r.drop (j + 1)).take (rt - (j + 1))) (p + en (arh h.1) (l.drop p) 1) B2 → pl_At n 286 42 [(0, .ref 1131), (3, .int x3), (4, .int v2), (5, .int (x5 + 1))] [] (ps_ua (ps_ua s 1167 (c - 40) x4) 1168 (c - 40) v2) (ps_rI R) := fun {B2} eB hM2 => by
          refine fm_286_42 hb h21 H0 hi8 W0 Wr0 h3 hv h64 hrt k1 k0 n q2 (xj1 h5 (by omega)) (by omega) ?_ (kqa (kqa K rfl) rfl) hw' hrest (by rw [List.length_drop]; rw [List.length_cons] at hle; omega) (by omega) hM2
          rw [← eB]
          exact BNm_put bn h4 q2 (by omega) (by omega) (by rw [Nat.add_sub_cancel_left])
        intro b1
        rw [xtn ek]
        rcases bn (c - 40) hk20 with ⟨t1, t2⟩ | ⟨a, e, t1, t2, t3, t4, t5⟩
        · refine ⟨fun w => ?_, fun w => ?_⟩
          · intro b2 b3
            exact go rfl (by rw [hM, rw_m_n h40 t1])
          · have w := xle w
            omega
        · refine ⟨fun w => ?_, fun w => ?_⟩
          · have w := xlt w
            omega
          · intro b2 b3
            have d2 : (v2 - x4).toInt = (en (arh h.1) (l.drop p) 1 : Nat) := by rw [xIs (by omega) (by omega), q2, h4]; omega
            have d1 : ((ps_a s 1168 (c - 40)) - (ps_a s 1167 (c - 40))).toInt = (e - a : Nat) := by rw [xIs (by omega) (by omega), t1, t2]; omega
            have l1 : ((l.drop a).take (e - a)).length = e - a := by rw [List.length_take, List.length_drop]; omega
            have l2 : ((l.drop p).take (en (arh h.1) (l.drop p) 1)).length = en (arh h.1) (l.drop p) 1 := by rw [List.length_take, List.length_drop]; omega
            refine ⟨fun u => ?_, fun u => ?_⟩
            · have u := xne u
              refine k0 s ?_ K
              rw [hM, rw_m_s h40 t5, if_neg (fun v => by rw [v] at l1; omega)]
            · have u := xeq u
              have ez : en (arh h.1) (l.drop p) 1 = e - a := by omega
              intro b4
              refine fm_259 (ta := 25789) (tb := 25789) (f := p) (m := en (arh h.1) (l.drop p) 1) (p := a) (la := l) (lb := l) (by decide) (by decide) Wl (by decide) (by decide) Wl h4 d2 t1 (by omega) (by omega) (fun u2 => ⟨fun _ => ?_, fun w2 => absurd w2 (by decide)⟩) (fun u2 => ⟨fun w2 => absurd rfl w2, fun _ => ?_⟩)
              · intro b5 b6
                have eU : (l.drop a).take (e - a) = (l.drop p).take (en (arh h.1) (l.drop p) 1) := by rw [u2, ez]
                refine go (B2 := B) ?_ (by rw [hM, rw_m_s h40 t5, if_pos eU])
                rw [← eU]
                exact rw_u_id t5
              · refine k0 s ?_ K
                rw [hM, rw_m_s h40 t5, if_neg (fun v => u2 (by rw [← v, ez]))]
      · have y := xlt y
        have h40 : ¬ 40 ≤ c := by omega
        obtain ⟨c2, hc2⟩ : ∃ c2, l[p]? = some c2 := ⟨_, List.getElem?_eq_getElem hlt⟩
        refine fm_220c (to := 25789) (by decide) (by decide) Wl h4 hc2 (fun v4 q4 => ⟨fun w => ?_, fun w => ?_⟩)
        · have w := xeq w
          have e2 : c2 = c := by omega
          subst e2
          rw [drop_c hc2] at hw1
          obtain ⟨bb2, W1', ks2, rfl, hk2, hw1'⟩ := ws_cons.mp hw1
          have ha2 := hA bb2 c2 ks2 hk2
          refine fm_286_42 hb h21 H0 hi8 W0 Wr0 h3 hv h64 hrt k1 k0 n (xj1 h4 (by omega)) (xj1 h5 (by omega)) (by omega) bn K hw' hw1' ?_ (by omega) (by rw [hM, rw_m_c h40, if_pos hc2])
          rw [List.length_append, List.length_append]
          rw [List.length_cons, List.length_cons] at hle
          omega
        · have w := xne w
          refine k0 s ?_ K
          rw [hM, rw_m_c h40, if_neg (fun v => by rw [hc2] at v; cases v; exact w (by rw [q1, q4]))]
theorem fm_286_12 {x2 : Int32} (k : ∀ n s', BNm s' l (fun _ => none) → KBm s0 s' → pl_At n 286 42 [(0, .ref 1131), (3, .int x3), (4, .int x2), (5, .int (ps_i s0 1131 63))] [] s' (ps_rI R)) : ∀ (n : Nat) {s : ps_S} {x4 : Int32} {j : Nat}, x4.toInt = j → j ≤ 20 → (∀ q, q < j → (ps_a s 1167 q).toInt = -1) → KBm s0 s → pl_At n 286 12 [(0, .ref 1131), (2, .int x2), (3, .int x3), (4, .int x4)] [] s (ps_rI R)
  | 0, _, _, _, _, _, _, _ => pl_At_0
  | n + 1, s, x4, j, h4, hj, hq, K => by
    have c20 : (20 : Int32).toInt = 20 := by decide
    refine pl_286_12 ⟨fun z => ?_, fun z => ?_⟩
    · have z := xle z
      rw [show ps_i s 1131 63 = ps_i s0 1131 63 from kq_i K 63 rfl]
      exact k n s (fun q hq20 => Or.inl ⟨rfl, hq q (by omega)⟩) K
    · have z := xlt z
      intro b1
      rw [xtn h4]
      refine fm_286_12 k n (xj1 h4 (by omega)) (by omega) (fun q hq2 => ?_) (kqa K rfl)
      rw [ps_a_ua]
      by_cases e : q = j
      · rw [if_pos ⟨rfl, e⟩]
        decide
      · rw [if_neg (fun w => e w.2)]
        exact hq q (by omega)
theorem fm_286 {n : Nat} {x1 x2 : Int32} {p : Nat} {W W1 : List Bool} (hb : b < 2) (h21 : (ps_i s0 1131 21).toInt = b) (H0 : mv_E s0 b h.1) (hi8 : i < 8) (W0 : mv_W s0 25789 l) (Wr0 : mv_W s0 (21812 + 41 * (8 * b + i)) r) (h1 : x1.toInt = i) (h2 : x2.toInt = p) (hv : ∀ c, c ∈ r → c < 60) (h63 : (ps_i s0 1131 63).toInt = lf) (h64 : (ps_i s0 1131 64).toInt = rt) (hlr : lf ≤ rt) (hrt : rt ≤ r.length) (hp : p ≤ l.length) (hw : ws (sg h.1) ((r.drop lf).take (rt - lf)) W) (hw1 : ws (sg h.1) (l.drop p) W1) (hle : W.length ≤ W1.length) (k1 : ∀ s', (∃ e B, rw_m (arh h.1) l ((r.drop lf).take (rt - lf)) p (fun _ => none) = some (e, B) ∧ BNm s' l B ∧ (ps_i s' 1131 65).toInt = (e : Nat) ∧ KBm s0 s') → R 1 s') (k0 : ∀ s', (rw_m (arh h.1) l ((r.drop lf).take (rt - lf)) p (fun _ => none) = none ∧ KBm s0 s') → R 0 s') : pl_Cl n 286 [.ref 1131, .int x1, .int x2] s0 (ps_rI R) := by
  cases n with
  | zero => exact pl_At_0
  | succ n =>
  show pl_At (n + 1) 286 0 [(0, .ref 1131), (1, .int x1), (2, .int x2)] [] s0 (ps_rI R)
  refine pl_286_0 ?_
  refine fm_283 h21 hb h1 hi8 (fun v1 q1 => ?_)
  exact fm_286_12 (l := l) (s0 := s0) (fun n s1 bn K => fm_286_42 hb h21 H0 hi8 W0 Wr0 q1 hv h64 hrt (fun s' e B a c d f => k1 s' ⟨e, B, a, c, d, f⟩) (fun s' a c => k0 s' ⟨a, c⟩) n h2 h63 hlr bn K hw hw1 hle hp rfl) n (j := 0) rfl (Nat.zero_le _) (fun q hq => absurd hq (Nat.not_lt_zero _)) kq_refl
end R286
def KR (s0 s : ps_S) : Prop := kq [1149, 1167, 1168] [34, 63, 64, 65] s0 s
section R287
variable {b : Nat} {h : tx_H} {l : List Nat} {s0 : ps_S} {R : Int32 → ps_S → Prop}
theorem fm_287_77 {r : List Nat} {i p e rt : Nat} {B : Nat → Option (List Nat)} {x3 : Int32} (hb : b < 2) (hi8 : i < 8) (W0 : mv_W s0 25789 l) (Wr0 : mv_W s0 (21812 + 41 * (8 * b + i)) r) (h3 : x3.toInt = (21812 + 41 * (8 * b + i) : Nat)) (hv : ∀ c, c ∈ r → c < 60) (hB : ∀ c, c ∈ r.drop rt → 40 ≤ c → ∃ U, B (c - 40) = some U) (h65 : (ps_i s0 1131 65).toInt = e) (b0 : BNm s0 l B) (hel : e ≤ l.length) (k : ∀ s', mk_M s' (l.take p ++ rw_r B (r.drop rt) ++ l.drop e) → kq [1149] [34] s0 s' → R 1 s') : ∀ (n : Nat) {s : ps_S} {x4 : Int32} {j : Nat} {L : List Nat}, x4.toInt = j → rt ≤ j → j ≤ r.length → mk_M s (l.take p ++ L) → L.length ≤ 40 * j → rw_r B (r.drop rt) = L ++ rw_r B (r.drop j) → kq [1149] [34] s0 s → pl_At n 287 77 [(0, .ref 1131), (3, .int x3), (4, .int x4)] [] s (ps_rI R)
  | 0, _, _, _, _, _, _, _, _, _, _, _ => pl_At_0
  | n + 1, s, x4, j, L, h4, hj, hjr, M, hL40, hL, K => by
    have hl40 := W0.2.1
    have hr40 := Wr0.2.1
    have c40 : (40 : Int32).toInt = 40 := by decide
    have Wl := mv_W_kq W0 K (by decide)
    have Wr := mv_W_kq Wr0 K (by decide)
    have hlen : (l.take p ++ L).length < 50000 := by
      rw [List.length_append, List.length_take]
      omega
    refine pl_287_77 ?_
    refine fm_219c h3 Wr (fun v1 q1 => ⟨fun z => ?_, fun z => ?_⟩)
    · have z := xle z
      have ej : j = r.length := by omega
      rw [ej, List.drop_length] at hL
      have hL : rw_r B (r.drop rt) = L := by rw [hL]; exact List.append_nil _
      refine fm_219c (to := 25789) (by decide) Wl (fun v2 q2 => ?_)
      have e65 : (ps_i s 1131 65).toInt = e := by rw [kq_i K 65 rfl]; exact h65
      refine fm_226 (to := 25789) (a := e) (b := l.length) (by decide) (by decide) Wl M e65 q2 (Nat.le_refl _) hlen (fun s3 M3 K3 => k s3 ?_ (kqt K K3 (by decide) (by decide)))
      rw [hL]
      have ee : (l.drop e).take (l.length - e) = l.drop e := List.take_of_length_le (by rw [List.length_drop]; omega)
      rw [ee] at M3
      exact M3
    · have z := xlt z
      obtain ⟨c, hc⟩ : ∃ c, r[j]? = some c := ⟨_, List.getElem?_eq_getElem (by omega)⟩
      have hcm := List.mem_of_getElem? hc
      have hcd : c ∈ r.drop rt := List.mem_iff_getElem?.mpr ⟨j - rt, by rw [List.getElem?_drop, show rt + (j - rt) = j from by omega]; exact hc⟩
      have c60 := hv c hcm
      rw [drop_c hc] at hL
      refine fm_220c h3 (by omega) Wr h4 hc (fun v4 q4 => ⟨fun y => ?_, fun y => ?_⟩)
      · have y := xle y
        have h40 : 40 ≤ c := by omega
        have ex : (v4 - 40).toInt = (c - 40 : Nat) := by rw [xIs (by omega) (by omega), q4, c40]; omega
        obtain ⟨U, hU⟩ := hB c hcd h40
        rw [rw_r_v h40 hU] at hL
        intro b1 b2
        rw [xtn ex]
        rcases b0 (c - 40) (by omega) with ⟨y1, -⟩ | ⟨a, bb, y1, y2, y3, y4, y5⟩
        · rw [hU] at y1; cases y1
        · rw [hU] at y5
          have eU := Option.some.inj y5
          refine fm_226 (to := 25789) (a := a) (b := bb) (by decide) (by decide) Wl M (by rw [kq_a K 1167 (by decide)]; exact y1) (by rw [kq_a K 1168 (by decide)]; exact y2) y4 hlen (fun s2 M2 K2 => ?_)
          rw [← eU, List.append_assoc] at M2
          have hUl : U.length ≤ 40 := by
            rw [eU, List.length_take, List.length_drop]
            omega
          exact fm_287_77 hb hi8 W0 Wr0 h3 hv hB h65 b0 hel k n (L := L ++ U) (xj1 h4 (by omega)) (by omega) (by omega) M2 (by rw [List.length_append]; omega) (by rw [hL, List.append_assoc]) (kqt K K2 (by decide) (by decide))
      · have y := xlt y
        have h40 : ¬ 40 ≤ c := by omega
        rw [rw_r_c h40] at hL
        refine fm_225 M q4 (by omega) (fun s2 M2 K2 => ?_)
        rw [List.append_assoc] at M2
        exact fm_287_77 hb hi8 W0 Wr0 h3 hv hB h65 b0 hel k n (L := L ++ [c]) (xj1 h4 (by omega)) (by omega) (by omega) M2 (by rw [List.length_append, List.length_singleton]; omega) (by rw [hL, List.append_assoc]; rfl) (kqt K K2 (by decide) (by decide))
theorem fm_287_all (hb : b < 2) (h21 : (ps_i s0 1131 21).toInt = b) (H0 : mv_H s0 b h) (hw : WFt h) (hwl : ws (sg h.1) l [false]) (W0 : mv_W s0 25789 l) (k1 : ∀ s' l', rw_s h l l' → mk_M s' l' → KR s0 s' → R 1 s') (k0 : ∀ s', rw_e h l → KR s0 s' → R 0 s') : ∀ n : Nat, (∀ {s : ps_S} {x1 : Int32} {p : Nat}, x1.toInt = p → p ≤ l.length → KR s0 s → (∀ p', p' < p → ∀ k', rw_z h l p' k') → pl_At n 287 2 [(0, .ref 1131), (1, .int x1)] [] s (ps_rI R)) ∧ (∀ {s : ps_S} {x1 x2 : Int32} {p i : Nat}, x1.toInt = p → p < l.length → x2.toInt = i → i ≤ h.2.length → KR s0 s → (∀ p', p' < p → ∀ k', rw_z h l p' k') → (∀ k', k' < i → rw_z h l p k') → pl_At n 287 15 [(0, .ref 1131), (1, .int x1), (2, .int x2)] [] s (ps_rI R)) := by
  have hA := arh_k H0.1.2.2.1 H0.1.2.2.2.1
  have hl40 := W0.2.1
  intro n
  induction n with
  | zero => exact ⟨fun _ _ _ _ => pl_At_0, fun _ _ _ _ _ _ _ => pl_At_0⟩
  | succ n ih =>
    obtain ⟨i2, i15⟩ := ih
    refine ⟨fun {s x1 p} h1 hp K hz => ?_, fun {s x1 x2 p i} h1 hp h2 hi K hz hk => ?_⟩
    · have W := mv_W_kq W0 K (by decide)
      refine pl_287_2 ?_
      refine fm_219c (to := 25789) (by decide) W (fun v1 q1 => ⟨fun z => ?_, fun z => ?_⟩)
      · have z := xle z
        exact k0 s (fun p' hp' k' => hz p' (by omega) k') K
      · have z := xlt z
        exact i15 h1 (by omega) rfl (Nat.zero_le _) K hz (fun k' hk' => absurd hk' (Nat.not_lt_zero _))
    · have W := mv_W_kq W0 K (by decide)
      have h8 := H0.2.2.1
      have H := mv_H_kq H0 K (by decide)
      have h21' : (ps_i s 1131 21).toInt = b := by rw [kq_i K 21 rfl]; exact h21
      refine pl_287_15 ?_
      rw [xtn h21']
      intro b1
      refine ⟨fun z => ?_, fun z => ?_⟩
      · have z := xle z
        rw [H.2.1] at z
        refine i2 (xj1 h1 (by omega)) (by omega) K (fun p' hp' k' => ?_)
        rcases Nat.lt_or_ge p' p with u | u
        · exact hz p' u k'
        · rw [show p' = p from by omega]
          rcases Nat.lt_or_ge k' i with u2 | u2
          · exact hk k' u2
          · rintro l' ⟨w, r, e, B, a1, -⟩
            have := (List.getElem?_eq_some_iff.mp a1).1
            omega
      · have z := xlt z
        rw [H.2.1] at z
        obtain ⟨⟨w, r⟩, hkr⟩ : ∃ q, h.2[i]? = some q := ⟨_, List.getElem?_eq_getElem (by omega)⟩
        obtain ⟨hf, hr40, h60⟩ := hw.2.2 i w r hkr
        obtain ⟨y1, y2, Wr⟩ := H.2.2.2 i w r hkr
        obtain ⟨W1, hw1⟩ := ws_drop p hwl
        have hne : ∃ b0 Wi, W1 = b0 :: Wi := by
          cases W1 with
          | nil =>
            have := ws_nil hw1
            have hl := congrArg List.length this
            rw [List.length_drop, List.length_nil] at hl
            omega
          | cons b0 Wi => exact ⟨b0, Wi, rfl⟩
        obtain ⟨b0, Wi, rfl⟩ := hne
        have hlen : 1 ≤ (b0 :: Wi).length := by rw [List.length_cons]; omega
        have next : ∀ {s' : ps_S}, KR s0 s' → rw_z h l p i → pl_At n 287 15 [(0, .ref 1131), (1, .int x1), (2, .int (x2 + 1))] [] s' (ps_rI R) := fun K' y => i15 h1 hp (xj1 h2 (by omega)) (by omega) K' hz (fun k' hk' => by
          rcases Nat.lt_or_ge k' i with u | u
          · exact hk k' u
          · rw [show k' = i from by omega]
            exact y)
        refine fm_284 hb h21' H hw hkr h2 (fun s1 q => ⟨fun y => absurd y (by decide), fun _ => ?_⟩) (fun s1 q => ⟨fun _ => ?_, fun y => absurd rfl y⟩)
        · obtain ⟨his, e63, e64, K1⟩ := q
          obtain ⟨p1, p2, p3, p4, -, p6⟩ := rl_parts hA (wf_ws hf) his
          have K1' : KR s0 s1 := kqt K K1 (by decide) (by decide)
          have W1' := mv_W_kq W0 K1' (by decide)
          have H1 := mv_H_kq H0 K1' (by decide)
          have h211 : (ps_i s1 1131 21).toInt = b := by rw [kq_i K1' 21 rfl]; exact h21
          refine fm_286 (i := i) (p := p) (l := l) (r := r) (h := h) (W := [false]) (lf := rl_l r) (rt := rl_r (arh h.1) r) hb h211 H1.1 (by omega) W1' (H1.2.2.2 i w r hkr).2.2 h2 h1 h60 e63 e64 p1 p2 (by omega) p3 hw1 hlen (fun s2 q2 => ⟨fun _ => ?_, fun y => absurd y (by decide)⟩) (fun s2 q2 => ⟨fun y => absurd rfl y, fun _ => ?_⟩)
          · obtain ⟨e, B, hm, bn, e65, K2⟩ := q2
            have hm : rw_m (arh h.1) l (rw_L (arh h.1) r) p (fun _ => none) = some (e, B) := hm
            have K2' : KR s0 s2 := kqt K1' K2 (by decide) (by decide)
            have W2 := mv_W_kq W0 K2' (by decide)
            have H2 := mv_H_kq H0 K2' (by decide)
            have h212 : (ps_i s2 1131 21).toInt = b := by rw [kq_i K2' 21 rfl]; exact h21
            have hve : e = p + en (arh h.1) (l.drop p) 1 := rw_m_en hA p3 (fun x _ hx => (arh_lo (g := h.1) (c := x)).2.2.2.2 hx) hm
            have hle := en_le hA (k := 1) hw1 hlen
            rw [List.length_drop] at hle
            refine fm_283 h212 hb h2 (by omega) (fun v3 q3 => ?_)
            have K3 : KR s0 (ps_ui s2 1131 34 0) := kqi K2' rfl
            have e64' : (ps_i s2 1131 64).toInt = (rl_r (arh h.1) r : Nat) := by rw [kq_i K2 64 rfl]; exact e64
            refine fm_226 (to := 25789) (a := 0) (b := p) (L := []) (by decide) (by decide) (mv_W_kq W0 K3 (by decide)) mk_M_0 rfl h1 (by omega) (by decide) (fun s4 M4 K4 => ?_)
            rw [List.drop_zero, Nat.sub_zero, List.nil_append] at M4
            have K4' : KR s0 s4 := kqt K3 K4 (by decide) (by decide)
            have hr8 : (ps_i s4 1131 64).toInt = (rl_r (arh h.1) r : Nat) := by rw [kq_i K4 64 rfl]; exact e64'
            refine fm_287_77 (r := r) (i := i) (p := p) (e := e) (rt := rl_r (arh h.1) r) (B := B) (s0 := s4) hb (by omega) (mv_W_kq W0 K4' (by decide)) (mv_H_kq H0 K4' (by decide) |>.2.2.2 i w r hkr).2.2 q3 h60 (fun c2 hc2 h40 => (rw_m_B hm).2 c2 (p6 c2 hc2 h40) h40) (by rw [kq_i K4 65 rfl]; exact e65) (fun k2 hk2 => ?_) (by omega) (fun s5 M5 K5 => ?_) n (L := []) hr8 (Nat.le_refl _) p2 (by rw [List.append_nil]; exact M4) (Nat.zero_le _) rfl kq_refl
            · rw [kq_a K4 1167 (by decide), kq_a K4 1168 (by decide)]
              exact bn k2 hk2
            · exact k1 s5 _ ⟨p, i, hp, ⟨w, r, e, B, hkr, his, hm, rfl⟩, hk, hz⟩ M5 (kqt K4' K5 (by decide) (by decide))
          · obtain ⟨hm, K2⟩ := q2
            have hm : rw_m (arh h.1) l (rw_L (arh h.1) r) p (fun _ => none) = none := hm
            refine next (kqt K1' K2 (by decide) (by decide)) (fun l' a => ?_)
            obtain ⟨w2, r2, e, B, a1, a2, a3, -⟩ := a
            rw [hkr] at a1
            cases a1
            rw [hm] at a3
            cases a3
        · refine next (kqt K q.2 (by decide) (by decide)) (fun l' a => ?_)
          obtain ⟨w2, r2, e, B, a1, a2, -⟩ := a
          rw [hkr] at a1
          cases a1
          exact q.1 a2
theorem fm_287 {n : Nat} (hb : b < 2) (h21 : (ps_i s0 1131 21).toInt = b) (H0 : mv_H s0 b h) (hw : WFt h) (hwl : ws (sg h.1) l [false]) (W0 : mv_W s0 25789 l) (k1 : ∀ s', (∃ l', rw_s h l l' ∧ mk_M s' l' ∧ KR s0 s') → R 1 s') (k0 : ∀ s', (rw_e h l ∧ KR s0 s') → R 0 s') : pl_Cl n 287 [.ref 1131] s0 (ps_rI R) := by
  cases n with
  | zero => exact pl_At_0
  | succ n =>
  show pl_At (n + 1) 287 0 [(0, .ref 1131)] [] s0 (ps_rI R)
  exact pl_287_0 ((fm_287_all hb h21 H0 hw hwl W0 (fun s' l' a c d => k1 s' ⟨l', a, c, d⟩) (fun s' a c => k0 s' ⟨a, c⟩) n).1 (p := 0) rfl (Nat.zero_le _) kq_refl (fun p' hp' => absurd hp' (Nat.not_lt_zero _)))
end R287
/-- how long a row that is made can be -/
theorem rw_r_len {B : Nat → Option (List Nat)} (hB : ∀ k U, B k = some U → U.length ≤ 40) : ∀ {t : List Nat}, (rw_r B t).length ≤ 40 * t.length
  | [] => Nat.zero_le _
  | c :: t => by
    have ih := rw_r_len hB (t := t)
    show ((if 40 ≤ c then (B (c - 40)).getD [] else [c]) ++ rw_r B t).length ≤ _
    rw [List.length_append, List.length_cons]
    have : (if 40 ≤ c then (B (c - 40)).getD [] else [c]).length ≤ 40 := by
      split
      · cases e : B (c - 40) with
        | none => exact Nat.zero_le _
        | some U => exact hB _ U e
      · exact (by decide : 1 ≤ 40)
    omega
def KW8 (s0 s : ps_S) : Prop := kq [1134, 1149, 1150, 1151, 1167, 1168] [34, 63, 64, 65] s0 s ∧ mv_po 25789 s0 s
section R288
variable {b : Nat} {h : tx_H} {l0 : List Nat} {s0 : ps_S} {R : Int32 → ps_S → Prop}
theorem mv_H_po {s s' : ps_S} (hb : b < 2) (H : mv_H s b h) (K : KW8 s s') : mv_H s' b h := by
  have h8 := H.2.2.1
  refine mv_H_V hb H (fun r hr => kq_a K.1 r ?_) (fun r hr => kq_b K.1 r ?_) (fun k h1 h2 => K.2 k (by omega))
  · exact (show ∀ r, r ∈ [1135, 1136, 1137, 1138, 1139] → [1134, 1149, 1150, 1151, 1167, 1168].contains r = false by decide) r hr
  · exact (show ∀ r, r ∈ [1140, 1141, 1142] → [1134, 1149, 1150, 1151, 1167, 1168].contains r = false by decide) r hr
theorem KW8_q {A F : List Nat} {s s' : ps_S} (K : KW8 s0 s) (K' : kq A F s s') (hA : A.all (fun a => [1149, 1150, 1151, 1167, 1168].contains a) = true) (hF : F.all (fun a => [34, 63, 64, 65].contains a) = true) : KW8 s0 s' := by
  have hA2 : A.all (fun a => [1134, 1149, 1150, 1151, 1167, 1168].contains a) = true := by
    rw [List.all_eq_true] at hA ⊢
    intro x hx
    have := hA x hx
    rw [List.contains_iff_mem] at this ⊢
    exact List.mem_cons_of_mem _ this
  have h34 : A.contains 1134 = false := by
    cases e : A.contains 1134 with
    | false => rfl
    | true =>
      rw [List.all_eq_true] at hA
      exact absurd (hA 1134 (List.contains_iff_mem.mp e)) (by decide)
  exact ⟨kqt K.1 K' hA2 hF, fun q hq => by rw [kq_a K' 1134 h34]; exact K.2 q hq⟩
theorem fm_288_51 (hb : b < 2) (h21 : (ps_i s0 1131 21).toInt = b) (H0 : mv_H s0 b h) (hw : WFt h) (k : ∀ (v : Int32) s' nl, rw_A h l0 v.toInt nl → mv_W s' 25789 nl → KW8 s0 s' → R v s') : ∀ (n : Nat) {s : ps_S} {x1 : Int32} {m : Nat} {l : List Nat}, x1.toInt = m → m ≤ 60 → rw_go h m l0 l → ws (sg h.1) l [false] → mv_W s 25789 l → KW8 s0 s → pl_At n 288 51 [(0, .ref 1131), (1, .int x1)] [] s (ps_rI R)
  | 0, _, _, _, _, _, _, _, _, _, _ => pl_At_0
  | n + 1, s, x1, m, l, hx, hm, hg, hl, W, K => by
    have c60 : (60 : Int32).toInt = 60 := by decide
    have hl40 := W.2.1
    have H := mv_H_po hb H0 K
    have h21' : (ps_i s 1131 21).toInt = b := by rw [kq_i K.1 21 rfl]; exact h21
    have spent : ∀ {s' : ps_S} {b' : List Nat}, KW8 s0 s' → rw_s h l b' → (¬ rw_g h b' ∨ m = 60) → R (-2) (ps_ua s' 1134 25789 0) := fun {s' b'} K' hs hbad => by
      refine k _ _ [] (Or.inr ⟨by decide, rfl, m, l, b', hm, hg, hs, hbad⟩) ⟨?_, Nat.zero_le _, fun k c hk => by cases hk⟩ ⟨kqa K'.1 rfl, fun q hq => ?_⟩
      · rw [ps_a_ua, if_pos ⟨rfl, rfl⟩]
        rfl
      · rw [ps_a_ua, if_neg (by omega)]
        exact K'.2 q hq
    refine pl_288_51 ?_
    refine fm_287 hb h21' H hw hl W (fun s1 q => ⟨fun y => absurd y (by decide), fun _ => ?_⟩) (fun s1 q => ⟨fun _ => ?_, fun y => absurd rfl y⟩)
    · obtain ⟨l', hs, M, K1⟩ := q
      have K1' : KW8 s0 s1 := KW8_q K K1 (by decide) (by decide)
      have hl' := rw_s_ws hw hl hs
      refine ⟨fun z => ?_, fun z => ?_⟩
      · have z := xeq z
        intro b1
        rw [xtn (a := 25789) (by decide)]
        exact spent K1' hs (Or.inr (by omega))
      · have z := xne z
        have h211 : (ps_i s1 1131 21).toInt = b := by rw [kq_i K1'.1 21 rfl]; exact h21
        have H1 := mv_H_po hb H0 K1'
        have hlen : l'.length < 100000 := by
          obtain ⟨p, kk, hp, ⟨w, r, e, B, a1, a2, a3, rfl⟩, -, -⟩ := hs
          have hr40 := (hw.2.2 kk w r a1).2.1
          have hBl : ∀ k U, B k = some U → U.length ≤ 40 := by
            have aux : ∀ {t : List Nat} {p e : Nat} {B B' : Nat → Option (List Nat)}, (∀ k U, B k = some U → U.length ≤ 40) → rw_m (arh h.1) l t p B = some (e, B') → ∀ k U, B' k = some U → U.length ≤ 40 := by
              intro t
              induction t with
              | nil =>
                intro p e B B' hB hm
                cases hm
                exact hB
              | cons c t ih =>
                intro p e B B' hB hm
                by_cases h40 : 40 ≤ c
                · cases hBk : B (c - 40) with
                  | none =>
                    rw [rw_m_n h40 hBk] at hm
                    refine ih (fun k U hk => ?_) hm
                    unfold rw_u at hk
                    split at hk
                    · cases hk
                      rw [List.length_take, List.length_drop]
                      omega
                    · exact hB k U hk
                  | some U =>
                    rw [rw_m_s h40 hBk] at hm
                    split at hm
                    · exact ih hB hm
                    · cases hm
                · rw [rw_m_c h40] at hm
                  split at hm
                  · exact ih hB hm
                  · cases hm
            exact aux (fun k U z => by cases z) a3
          have := rw_r_len hBl (t := r.drop (rl_r (arh h.1) r))
          rw [List.length_drop] at this
          unfold rw_n
          rw [List.length_append, List.length_append, List.length_take, List.length_drop]
          omega
        refine fm_228 hb h211 H1.1 M hl' hlen (fun s2 q2 => ⟨fun _ => ?_, fun y => absurd y (by decide)⟩) (fun s2 q2 => ⟨fun y => absurd rfl y, fun _ => ?_⟩)
        · obtain ⟨⟨g1, g2⟩, K2⟩ := q2
          have K2' : KW8 s0 s2 := KW8_q K1' K2 (by decide) (by decide)
          refine fm_229 (to := 25789) (mk_M_kq M K2 (by decide) (by decide)) g1 (by decide) (by decide) (fun s3 W3 K3 P3 => ?_)
          exact fm_288_51 hb h21 H0 hw k n (xj1 hx (by omega)) (by omega) ⟨l, hg, hs, g1, g2⟩ hl' W3 ⟨kqt K2'.1 K3 (by decide) (by decide), fun q hq => (P3 q (by omega)).trans (K2'.2 q hq)⟩
        · intro b1
          rw [xtn (a := 25789) (by decide)]
          exact spent (KW8_q K1' q2.2 (by decide) (by decide)) hs (Or.inl (fun y => q2.1 y))
    · exact k _ s1 l (Or.inl ⟨m, hm, hg, q.1, hx⟩) (mv_W_kq W q.2 (by decide)) (KW8_q K q.2 (by decide) (by decide))
end R288
/-- what rewrite() leaves -/
def mr_p (s s' : ps_S) : Prop := kq [1133, 1134, 1143, 1144, 1145, 1146, 1147, 1148, 1149, 1150, 1151, 1167, 1168] [3, 4, 5, 6, 7, 8, 9, 10, 11, 22, 23, 29, 30, 31, 32, 34, 63, 64, 65] s s' ∧ mv_po 25789 s s'
theorem fm_288_31 {n b : Nat} {s0 s : ps_S} {T : Nat → Nat} {N : Nat} {h : tx_H} {R : Int32 → ps_S → Prop} (hb : b < 2) (h21 : (ps_i s 1131 21).toInt = b) (H : mv_H s b h) (hw : WFt h) (m : mq_ok 25789 0 b h.1 T N s0 s ∨ mq_bad 25789 0 b h.1 T N s0 s) (k : ∀ (v : Int32) s' nl, RWA h T N v nl → mv_W s' 25789 nl → mr_p s0 s' → R v s') : pl_At n 288 31 [(0, .ref 1131)] [] s (ps_rI R) := by
  cases n with
  | zero => exact pl_At_0
  | succ n =>
  refine pl_288_31 ?_
  rcases m with ⟨⟨l, z, W, G⟩, K, P, h3⟩ | ⟨⟨kk, pl, z, hk, e5, e6⟩, K, P, h3⟩
  · refine fm_192 (fun _ => ⟨fun _ => ?_, fun z => absurd z (by decide)⟩) (fun z => absurd G.1 z)
    have hl : ws (sg h.1) l [false] := by
      obtain ⟨p, fr, g, -⟩ := z
      exact (tx_WQ_end hw.2.1 (Or.inl rfl) (Nat.zero_le _) g).1
    refine fm_288_51 (l0 := l) hb h21 H hw (fun v s' nl hA W' K' => ?_) n (m := 0) rfl (Nat.zero_le _) rfl hl W ⟨kq_refl, fun q hq => rfl⟩
    exact k v s' nl (Or.inl ⟨l, z, hA⟩) W' ⟨kqt (kqt kq_refl K (by decide) (by decide)) K'.1 (by decide) (by decide), fun q hq => (K'.2 q hq).trans (P q hq)⟩
  · refine fm_192 (fun z => absurd (z.symm.trans e5) (by omega)) (fun _ => ⟨fun z => absurd rfl z, fun _ => ?_⟩)
    intro b1
    rw [xtn (a := 25789) (by decide)]
    refine k _ _ [] (Or.inr ⟨⟨kk, pl, z⟩, by decide, rfl⟩) ⟨?_, Nat.zero_le _, fun k c hk => by cases hk⟩ ⟨kqa (kqt kq_refl K (by decide) (by decide)) rfl, fun q hq => ?_⟩
    · rw [ps_a_ua, if_pos ⟨rfl, rfl⟩]
      rfl
    · rw [ps_a_ua, if_neg (by omega)]
      exact P q hq
theorem fm_288 {n b : Nat} {s : ps_S} {T : Nat → Nat} {N : Nat} {h : tx_H} {R : Int32 → ps_S → Prop} (hb : b < 2) (h21 : (ps_i s 1131 21).toInt = b) (H : mv_H s b h) (hw : WFt h) (h3 : (ps_i s 1131 3).toInt = N) (hN : N ≤ 1600) (hT : ∀ k, k < N → (ps_a s 1132 k &&& 255).toInt = T k) (k : ∀ (v : Int32) s' nl, RWA h T N v nl → mv_W s' 25789 nl → mr_p s s' → R v s') : pl_Cl n 288 [.ref 1131] s (ps_rI R) := by
  cases n with
  | zero => exact pl_At_0
  | succ n =>
  show pl_At (n + 1) 288 0 [(0, .ref 1131)] [] s (ps_rI R)
  refine pl_288_0 ?_
  refine fm_198 h21 h3 hN hT (fun s1 q1 => ?_)
  obtain ⟨K1, t1, t2, t3, t4, t5, t6⟩ := q1
  have Hk : ∀ {A F : List Nat} {s' : ps_S}, kq A F s s' → mv_po 25789 s s' → A.all (fun a => ![1135, 1136, 1137, 1138, 1139, 1140, 1141, 1142].contains a) = true → mv_H s' b h := fun {A F s'} K P hA => by
    rw [List.all_eq_true] at hA
    have hn : ∀ r, r ∈ [1135, 1136, 1137, 1138, 1139, 1140, 1141, 1142] → A.contains r = false := fun r hr => by
      cases e : A.contains r with
      | false => rfl
      | true =>
        have z := hA r (List.contains_iff_mem.mp e)
        rw [List.contains_iff_mem.mpr hr] at z
        exact absurd z (by decide)
    refine mv_H_V hb H (fun r hr => kq_a K r (hn r ?_)) (fun r hr => kq_b K r (hn r ?_)) (fun q h1 h2 => P q (by omega))
    · exact (show ∀ r, r ∈ [1135, 1136, 1137, 1138, 1139] → r ∈ [1135, 1136, 1137, 1138, 1139, 1140, 1141, 1142] by decide) r hr
    · exact (show ∀ r, r ∈ [1140, 1141, 1142] → r ∈ [1135, 1136, 1137, 1138, 1139, 1140, 1141, 1142] by decide) r hr
  refine fm_209u (to := 25789) (rb := b) (ph := 0) (E := (h.1, false)) (p := 0) (fr := []) (by decide) (Or.inl ⟨by decide, rfl⟩) rfl hb t5 t1 (mv_E_kq H.1 K1 (by decide)) (Nat.zero_le _) t2 ⟨t4, Nat.zero_le _, fun k w z => by cases z⟩ t3 (fun s10 q10 => ?_)
  have fin : ∀ {s' : ps_S}, (mq_ok 25789 0 b h.1 T N s s' ∨ mq_bad 25789 0 b h.1 T N s s') → pl_At n 288 31 [(0, .ref 1131)] [] s' (ps_rI R) := fun {s'} m => by
    have hK : kq [1133, 1134, 1143, 1144, 1145, 1146, 1147, 1148] [3, 4, 5, 6, 7, 8, 9, 10, 11, 22, 23, 29, 30, 31, 32] s s' ∧ mv_po 25789 s s' := by
      rcases m with ⟨-, K, P, -⟩ | ⟨-, K, P, -⟩
      · exact ⟨K, P⟩
      · exact ⟨K, P⟩
    exact fm_288_31 hb (by rw [kq_i hK.1 21 rfl]; exact h21) (Hk hK.1 hK.2 (by decide)) hw m k
  refine fm_192 (fun q14 => ?_) (fun q14 => ?_)
  · refine ⟨fun h17 => absurd h17 (by decide), fun h17 => ⟨fun h24 => ?_, fun h24 => ?_⟩⟩
    · have h24 : (ps_i s10 1131 9).toInt = (0 : Int) := xeq h24
      rcases q10 with ⟨p', l', fr', g1, g2, g3, g4⟩ | ⟨S', pl, l', fr', k, g1, g2, g3, g4, g5⟩
      · have h0 : (tx_tok T N p').1 = 0 := by have := g3.2.2.1.1; omega
        exact fin (Or.inl ⟨⟨l', ⟨p', fr', g1, h0⟩, g3.2.2.2.2.2.2.1, g3.2.2.2.2.2.2.2.2⟩, kqt (kqt kq_refl K1 (by decide) (by decide)) g4.1 (by decide) (by decide), fun i hi => (g4.2 i hi).trans (by rw [kq_a K1 1134 (by decide)]), by rw [kq_i g4.1 3 (by decide)]; exact t6⟩)
      · exfalso; omega
    · have h24 : (ps_i s10 1131 9).toInt ≠ (0 : Int) := xne h24
      refine fm_196v q14 (fun s28 q28 => ?_)
      rcases q10 with ⟨p', l', fr', g1, g2, g3, g4⟩ | ⟨S', pl, l', fr', k, g1, g2, g3, g4, g5⟩
      · have h0 : (tx_tok T N p').1 ≠ 0 := by have := g3.2.2.1.1; omega
        have J := q28 _ g3.2.2.1
        exact fin (Or.inr ⟨⟨_, _, Or.inr ⟨p', l', fr', g1, h0, rfl, rfl⟩, (by unfold tx_bk; split <;> decide), J.1, J.2.1⟩, kqt (kqt (kqt kq_refl K1 (by decide) (by decide)) g4.1 (by decide) (by decide)) J.2.2 (by decide) (by decide), fun i hi => (by rw [kq_a J.2.2 1134 (by decide), g4.2 i hi, kq_a K1 1134 (by decide)]), by rw [kq_i J.2.2 3 (by decide), kq_i g4.1 3 (by decide)]; exact t6⟩)
      · exfalso; omega
  · refine ⟨fun h17 => ?_, fun h17 => absurd h17 (by decide)⟩
    rcases q10 with ⟨p', l', fr', g1, g2, g3, g4⟩ | ⟨S', pl, l', fr', k, g1, g2, g3, g4, g5⟩
    · exact absurd g3.2.2.2.2.2.2.2.2.1 q14
    · exact fin (Or.inr ⟨⟨k, pl, Or.inl ⟨S', l', fr', g1⟩, g2, g3, g4⟩, kqt (kqt kq_refl K1 (by decide) (by decide)) g5.1 (by decide) (by decide), fun i hi => (g5.2 i hi).trans (by rw [kq_a K1 1134 (by decide)]), by rw [kq_i g5.1 3 (by decide)]; exact t6⟩)
theorem fm_289 {n : Nat} {x1 : Int32} {s : ps_S} {l : List Nat} {R : Int32 → ps_S → Prop} (hW : mv_W s 25789 l) (k : ∀ v : Int32, pc_is l x1 v → R v s) : pl_Cl n 289 [.ref 1131, .int x1] s (ps_rI R) := by
  cases n with
  | zero => exact pl_At_0
  | succ n =>
  show pl_At (n + 1) 289 0 [(0, .ref 1131), (1, .int x1)] [] s (ps_rI R)
  refine pl_289_0 ?_
  exact fm_264 (to := 25789) (by decide) (by decide) hW k
end
section
set_option maxRecDepth 100000
/-! proofs, pure: steps as they are told, what each comes to -/
/-- a step as it is told: its rule's word (6 same, 10 axiom to 27 classic), three numbers; the axiom, the FREE X's number; the term, the formula -/
abbrev tp_P : Type := (Nat × (Nat × (Nat × Nat))) × ((Nat × Nat) × (List Nat × List Nat))
def tp_nn (r : Nat) : Nat := if r = 6 ∨ r = 10 ∨ r = 11 then 0 else if r = 13 ∨ r = 19 ∨ r = 24 ∨ r = 25 then 2 else if r = 18 then 3 else 1
abbrev tp_hx (r : Nat) : Prop := r = 21 ∨ r = 24
abbrev tp_ht (r : Nat) : Prop := r = 6 ∨ r = 22 ∨ r = 23
abbrev tp_hf (r : Nat) : Prop := r = 11 ∨ r = 16 ∨ r = 17 ∨ r = 20 ∨ r = 23 ∨ r = 25 ∨ r = 26 ∨ r = 27
abbrev tp_ok (r : Nat) : Prop := r = 6 ∨ (10 ≤ r ∧ r ≤ 27)
def tq_np (r : Nat) : Nat := if r = 12 then 0 else tp_nn r
/-- what a step comes to: its row, what it assumes, axioms, theorems, needs -/
abbrev tq_R : Type := List Nat × (List (List Nat) × (Int32 × (Int32 × Int64)))
/-- a theorem: its row, axioms, theorems, axioms through all -/
abbrev tq_H : Type := List Nat × (Int32 × (Int32 × Int32))
def tq_r (D : List tq_R) (k : Nat) : List Nat := (D.getD k ([], [], 0, 0, 0)).1
def tq_a (D : List tq_R) (k : Nat) : List (List Nat) := (D.getD k ([], [], 0, 0, 0)).2.1
/-- the two parts of a row under one piece -/
def tq_1 (ar : Nat → Nat) (l : List Nat) : List Nat := (l.drop 1).take (en ar (l.drop 1) 1)
def tq_2 (ar : Nat → Nat) (l : List Nat) : List Nat := (l.drop 1).drop (en ar (l.drop 1) 1)
/-- a term in place of what the first piece binds -/
def tq_pi (t : List Nat) : List (Nat × Nat) → List Nat → List Nat
  | d :: D, c :: l => (if c + 1 = 40 + d.2 then t else [c]) ++ tq_pi t D l
  | _, _ => []
def tq_in (ar : Nat → Nat) (l t : List Nat) : List Nat := tq_pi t ((ly ar [(0, 0)] l).drop 1) (l.drop 1)
/-- all of it for a FREE one -/
def tq_gi (x : Nat) : List (Nat × Nat) → List Nat → List Nat
  | d :: D, c :: l => (if c = 60 + x then 40 + d.2 else c) :: tq_gi x D l
  | _, _ => []
def tq_ge (ar : Nat → Nat) (l : List Nat) (x : Nat) : List Nat := 4 :: tq_gi x (ly ar [(0, 0)] l) l
/-- f is as b, but for places where t stands for s -/
def tq_rp (s t : List Nat) : Nat → List Nat → List Nat → Prop
  | 0, b, f => b = [] ∧ f = []
  | n + 1, b, f => (b = [] ∧ f = []) ∨ (b ≠ [] ∧ f ≠ [] ∧ ((b.take s.length = s ∧ f.take t.length = t ∧ tq_rp s t n (b.drop s.length) (f.drop t.length)) ∨ (¬ (b.take s.length = s ∧ f.take t.length = t) ∧ b.head? = f.head? ∧ tq_rp s t n (b.drop 1) (f.drop 1))))
/-- what is assumed is gathered: less what is left out, no two alike, thirteen are too many -/
def tq_ga (o : List Nat) : List (List Nat) → List (List Nat) → List (List Nat)
  | A, [] => A
  | A, a :: L => tq_ga o (if 12 < A.length ∨ a = o ∨ a ∈ A then A else A ++ [a]) L
theorem tq_ga_len {o : List Nat} : ∀ {L A : List (List Nat)}, A.length ≤ 13 → (tq_ga o A L).length ≤ 13 ∧ A.length ≤ (tq_ga o A L).length
  | [], A, h => ⟨h, Nat.le_refl _⟩
  | a :: L, A, h => by
    show (tq_ga o (if 12 < A.length ∨ a = o ∨ a ∈ A then A else A ++ [a]) L).length ≤ 13 ∧ _ ≤ (tq_ga o (if 12 < A.length ∨ a = o ∨ a ∈ A then A else A ++ [a]) L).length
    split
    · exact tq_ga_len h
    · next z =>
      have h2 : (A ++ [a]).length = A.length + 1 := List.length_append
      obtain ⟨g1, g2⟩ := tq_ga_len (o := o) (L := L) (A := A ++ [a]) (by omega)
      exact ⟨g1, by omega⟩
theorem tq_ga_mem {o : List Nat} : ∀ {L A : List (List Nat)} {y : List Nat}, y ∈ tq_ga o A L → y ∈ A ∨ y ∈ L
  | [], A, y, h => Or.inl h
  | a :: L, A, y, h => by
    have h : y ∈ tq_ga o (if 12 < A.length ∨ a = o ∨ a ∈ A then A else A ++ [a]) L := h
    rcases tq_ga_mem h with h | h
    · split at h
      · exact Or.inl h
      · rcases List.mem_append.mp h with h | h
        · exact Or.inl h
        · rw [List.mem_singleton] at h
          exact Or.inr (by rw [h]; exact List.mem_cons_self)
    · exact Or.inr (List.mem_cons_of_mem _ h)
/-- the cause for which a step can't be taken (0: none), its row, what is left out of its premises' -/
abbrev tq_M : Type := Nat × (List Nat × (List Nat × (List Nat × List Nat)))
section TQM
variable (h : tx_H) (Θ : List tq_H) (D : List tq_R)
noncomputable def tq_mk (st : tp_P) : tq_M :=
  let r := st.1.1
  let a := tq_r D st.1.2.1
  let b := tq_r D st.1.2.2.1
  let c := tq_r D st.1.2.2.2
  let x := st.2.1.2
  let t := st.2.2.1
  let f := st.2.2.2
  let ar := arh h.1
  if r = 11 then (0, f, [], [], [])
  else if r = 10 then (0, (h.2.getD st.2.1.1 ([], [])).2, [], [], [])
  else if r = 12 then (0, (Θ.getD st.1.2.1 ([], 0, 0, 0)).1, [], [], [])
  else if r = 6 then (0, 6 :: (t ++ t), [], [], [])
  else if r = 13 then (0, 1 :: (a ++ b), [], [], [])
  else if r = 16 then (0, 2 :: (a ++ f), [], [], [])
  else if r = 17 then (0, 2 :: (f ++ a), [], [], [])
  else if r = 20 then (0, 3 :: (f ++ a), f, [], [])
  else if r = 14 then (if a.head? = some 1 then (0, tq_1 ar a, [], [], []) else (2, [], [], [], []))
  else if r = 15 then (if a.head? = some 1 then (0, tq_2 ar a, [], [], []) else (2, [], [], [], []))
  else if r = 18 then (if a.head? = some 2 ∧ b = c then (0, b, [], tq_1 ar a, tq_2 ar a) else (2, [], [], [], []))
  else if r = 19 then (if a.head? = some 3 ∧ tq_1 ar a = b then (0, tq_2 ar a, [], [], []) else (2, [], [], [], []))
  else if r = 21 then (if (tq_a D st.1.2.1).any (fun y => y.contains (60 + x)) = true then (3, [], [], [], []) else (0, tq_ge ar a x, [], [], []))
  else if r = 22 then (if a.head? = some 4 then (0, tq_in ar a t, [], [], []) else (2, [], [], [], []))
  else if r = 23 then (if f.head? = some 5 ∧ tq_in ar f t = a then (0, f, [], [], []) else (4, [], [], [], []))
  else if r = 24 then (if a.head? = some 5 then (if a.contains (60 + x) = true ∨ b.contains (60 + x) = true ∨ (tq_a D st.1.2.2.1).any (fun y => !decide (y = tq_in ar a [60 + x]) && y.contains (60 + x)) = true then (3, [], [], [], []) else (0, b, [], tq_in ar a [60 + x], [])) else (2, [], [], [], []))
  else if r = 25 then (if a.head? = some 6 then (@ite _ (tq_rp (tq_1 ar a) (tq_2 ar a) 40 b f) (Classical.propDecidable _) (0, f, [], [], []) (4, [], [], [], [])) else (2, [], [], [], []))
  else (if a.head? = some 0 then (0, f, if r = 27 then 3 :: (f ++ [0]) else [], [], []) else (2, [], [], [], []))
/-- the premises that it names are there -/
def tq_pr (st : tp_P) : Prop := if st.1.1 = 12 then st.1.2.1 < Θ.length else (1 ≤ tp_nn st.1.1 → st.1.2.1 < D.length) ∧ (2 ≤ tp_nn st.1.1 → st.1.2.2.1 < D.length) ∧ (3 ≤ tp_nn st.1.1 → st.1.2.2.2 < D.length)
/-- what it assumes -/
def tq_as (st : tp_P) (o : List Nat × (List Nat × List Nat)) : List (List Nat) :=
  if st.1.1 = 11 then [st.2.2.2] else
  let A1 := if 1 ≤ tq_np st.1.1 then tq_ga o.1 [] (tq_a D st.1.2.1) else []
  let A2 := if 2 ≤ tq_np st.1.1 then tq_ga o.2.1 A1 (tq_a D st.1.2.2.1) else A1
  if 3 ≤ tq_np st.1.1 then tq_ga o.2.2 A2 (tq_a D st.1.2.2.2) else A2
/-- bits: what it has itself, then what its premises have -/
def tq_or (f : tq_R → Int32) (z : Int32) (st : tp_P) : Int32 :=
  let z1 := if 1 ≤ tq_np st.1.1 then z ||| f (D.getD st.1.2.1 ([], [], 0, 0, 0)) else z
  let z2 := if 2 ≤ tq_np st.1.1 then z1 ||| f (D.getD st.1.2.2.1 ([], [], 0, 0, 0)) else z1
  if 3 ≤ tq_np st.1.1 then z2 ||| f (D.getD st.1.2.2.2 ([], [], 0, 0, 0)) else z2
def tq_oj (f : tq_R → Int64) (z : Int64) (st : tp_P) : Int64 :=
  let z1 := if 1 ≤ tq_np st.1.1 then z ||| f (D.getD st.1.2.1 ([], [], 0, 0, 0)) else z
  let z2 := if 2 ≤ tq_np st.1.1 then z1 ||| f (D.getD st.1.2.2.1 ([], [], 0, 0, 0)) else z1
  if 3 ≤ tq_np st.1.1 then z2 ||| f (D.getD st.1.2.2.2 ([], [], 0, 0, 0)) else z2
def tq_b (k : Nat) : Int32 := (1 : Int32) <<< (nI k &&& 31)
noncomputable def tq_res (st : tp_P) : tq_R := ((tq_mk h Θ D st).2.1, tq_as D st (tq_mk h Θ D st).2.2, tq_or D (fun q => q.2.2.1) (if st.1.1 = 10 then tq_b st.2.1.1 else 0) st, tq_or D (fun q => q.2.2.2.1) (if st.1.1 = 12 then tq_b st.1.2.1 else 0) st, tq_oj D (fun q => q.2.2.2.2) ((1 : Int64) <<< (Int32.toInt64 (nI D.length) &&& 63)) st)
def tq_fit (R : tq_R) : Prop := R.1.length ≤ 40 ∧ R.2.1.length ≤ 12 ∧ dp (arh h.1) R.1
/-- a step taken: its cause (0: none) -/
noncomputable def tq_cs (st : tp_P) : Nat := @ite _ (tq_pr Θ D st) (Classical.propDecidable _) (if (tq_mk h Θ D st).1 = 0 then @ite _ (tq_fit h (tq_res h Θ D st)) (Classical.propDecidable _) 0 5 else (tq_mk h Θ D st).1) 1
noncomputable def tq_run : List tp_P → List tq_R → List tq_R × Nat
  | [], D => (D, 0)
  | st :: l, D => if tq_cs h Θ D st = 0 then tq_run l (D ++ [tq_res h Θ D st]) else (D, tq_cs h Θ D st)
end TQM
section TQC
variable {h : tx_H} {Θ : List tq_H} {D : List tq_R} {st : tp_P}
theorem tq_cs_1 (hp : ¬ tq_pr Θ D st) : tq_cs h Θ D st = 1 := by
  unfold tq_cs
  rw [if_neg hp]
theorem tq_cs_m (hp : tq_pr Θ D st) (hm : (tq_mk h Θ D st).1 ≠ 0) : tq_cs h Θ D st = (tq_mk h Θ D st).1 := by
  unfold tq_cs
  rw [if_pos hp, if_neg hm]
theorem tq_cs_5 (hp : tq_pr Θ D st) (hm : (tq_mk h Θ D st).1 = 0) (hf : ¬ tq_fit h (tq_res h Θ D st)) : tq_cs h Θ D st = 5 := by
  unfold tq_cs
  rw [if_pos hp, if_pos hm, if_neg hf]
theorem tq_cs_0 (hp : tq_pr Θ D st) (hm : (tq_mk h Θ D st).1 = 0) (hf : tq_fit h (tq_res h Θ D st)) : tq_cs h Θ D st = 0 := by
  unfold tq_cs
  rw [if_pos hp, if_pos hm, if_pos hf]
theorem tq_run_0 {l : List tp_P} (hc : tq_cs h Θ D st = 0) : tq_run h Θ (st :: l) D = tq_run h Θ l (D ++ [tq_res h Θ D st]) := by
  show (if tq_cs h Θ D st = 0 then _ else _) = _
  rw [if_pos hc]
theorem tq_run_c {l : List tp_P} (hc : tq_cs h Θ D st ≠ 0) : tq_run h Θ (st :: l) D = (D, tq_cs h Θ D st) := by
  show (if tq_cs h Θ D st = 0 then _ else _) = _
  rw [if_neg hc]
end TQC
/-! what a result is: a formula, its premises' assumptions are steps' rows -/
def tq_G (g : tx_g) (R : tq_R) : Prop := (ws (sg g) R.1 [true] ∧ R.1.length ≤ 40 ∧ dp (arh g) R.1) ∧ R.2.1.length ≤ 12 ∧ ∀ y, y ∈ R.2.1 → y ≠ [] ∧ y.length ≤ 40
def tq_GD (g : tx_g) (D : List tq_R) : Prop := ∀ (k : Nat) (R : tq_R), D[k]? = some R → tq_G g R
/-- a step's own rows -/
def tp_G (g : tx_g) (nax : Nat) (st : tp_P) : Prop := tp_ok st.1.1 ∧ (tp_ht st.1.1 → ws (sg g) st.2.2.1 [false] ∧ st.2.2.1.length ≤ 40) ∧ (tp_hf st.1.1 → ws (sg g) st.2.2.2 [true] ∧ st.2.2.2.length ≤ 40) ∧ (tp_hx st.1.1 → st.2.1.2 < 12) ∧ (st.1.1 = 10 → st.2.1.1 < nax) ∧ st.1.2.1 < 10000 ∧ st.1.2.2.1 < 10000 ∧ st.1.2.2.2 < 10000
def tq_GT (g : tx_g) (Θ : List tq_H) : Prop := Θ.length ≤ 12 ∧ ∀ (k : Nat) (q : tq_H), Θ[k]? = some q → ws (sg g) q.1 [true] ∧ q.1.length ≤ 40
theorem tq_r_is {D : List tq_R} {k : Nat} {R : tq_R} (h : D[k]? = some R) : tq_r D k = R.1 ∧ tq_a D k = R.2.1 := by
  unfold tq_r tq_a
  rw [List.getD_eq_getElem?_getD, h]
  exact ⟨rfl, rfl⟩
theorem tq_at {D : List tq_R} {k : Nat} (h : k < D.length) : ∃ R, D[k]? = some R ∧ tq_r D k = R.1 ∧ tq_a D k = R.2.1 ∧ D.getD k ([], [], 0, 0, 0) = R := by
  refine ⟨D[k], List.getElem?_eq_getElem h, (tq_r_is (List.getElem?_eq_getElem h)).1, (tq_r_is (List.getElem?_eq_getElem h)).2, ?_⟩
  rw [List.getD_eq_getElem?_getD, List.getElem?_eq_getElem h]
  rfl
/-- the parts of a formula under one piece of two parts -/
theorem tq_half {g : tx_g} {l : List Nat} {c : Nat} {b0 : Bool} (hA : ArW (sg g) (arh g)) (hw : ws (sg g) l [true]) (hc : l.head? = some c) (hk : kS (sg g) true c = some [b0, b0]) : ws (sg g) (tq_1 (arh g) l) [b0] ∧ ws (sg g) (tq_2 (arh g) l) [b0] ∧ ws (sg g) (l.drop 1) [b0, b0] ∧ l = c :: (tq_1 (arh g) l ++ tq_2 (arh g) l) := by
  cases l with
  | nil => cases hc
  | cons d l =>
    cases hc
    obtain ⟨b, W', ks, e, hk2, h2⟩ := ws_cons.mp hw
    cases e
    rw [hk] at hk2
    cases hk2
    rw [List.append_nil] at h2
    obtain ⟨g1, g2⟩ := en_rest hA (k := 1) h2 (by simp)
    refine ⟨g2, g1, h2, ?_⟩
    unfold tq_1 tq_2
    rw [List.take_append_drop]
    rfl
theorem tq_pi_ws {σ : mSig} (hσ : σ.1.1 ≤ 6 ∧ σ.1.2 ≤ 4) {t : List Nat} (ht : ws σ t [false]) : ∀ {l : List Nat} {D : List (Nat × Nat)} {W : List Bool}, ws σ l W → D.length = l.length → ws σ (tq_pi t D l) W
  | [], [], _, h, _ => h
  | [], _ :: _, _, _, e => by cases e
  | _ :: _, [], _, _, e => by cases e
  | c :: l, d :: D, W, h, e => by
    obtain ⟨b, W', ks, rfl, hk, h2⟩ := ws_cons.mp h
    have ih := tq_pi_ws hσ ht h2 (D := D) (by rw [List.length_cons, List.length_cons] at e; omega)
    show ws σ ((if c + 1 = 40 + d.2 then t else [c]) ++ tq_pi t D l) (b :: W')
    split
    · next z =>
      rcases kS_cases hk with y | y | y | y | y | y | y
      · omega
      · omega
      · omega
      · omega
      · omega
      · omega
      · obtain ⟨rfl, -, -, rfl⟩ := y
        exact ws_app ht ih
    · exact ws_c hk ih
theorem tq_gi_ws {σ : mSig} (hσ : σ.1.1 ≤ 6 ∧ σ.1.2 ≤ 4) {x : Nat} : ∀ {l : List Nat} {D : List (Nat × Nat)} {W : List Bool}, ws σ l W → D.length = l.length → (∀ d, d ∈ D → d.2 < 32) → ws σ (tq_gi x D l) W
  | [], [], _, h, _, _ => h
  | [], _ :: _, _, _, e, _ => by cases e
  | _ :: _, [], _, _, e, _ => by cases e
  | c :: l, d :: D, W, h, e, hd => by
    obtain ⟨b, W', ks, rfl, hk, h2⟩ := ws_cons.mp h
    have ih := tq_gi_ws hσ (x := x) h2 (D := D) (by rw [List.length_cons, List.length_cons] at e; omega) (fun y hy => hd y (List.mem_cons_of_mem _ hy))
    have hd0 := hd d List.mem_cons_self
    show ws σ ((if c = 60 + x then 40 + d.2 else c) :: tq_gi x D l) (b :: W')
    split
    · next z =>
      rcases kS_cases hk with y | y | y | y | y | y | y
      · omega
      · omega
      · omega
      · omega
      · omega
      · omega
      · obtain ⟨rfl, -, -, rfl⟩ := y
        exact ws_c (kS_tx hσ.2 (by omega) (by omega)) ih
    · exact ws_c hk ih
theorem dp_lt {ar : Nat → Nat} {l : List Nat} (h : dp ar l) (hl : (ly ar [(0, 0)] l).length = l.length) : ∀ d, d ∈ ly ar [(0, 0)] l → d.2 < 32 := fun d hd => by
  obtain ⟨i, hi⟩ := List.mem_iff_getElem?.mp hd
  have hil := (List.getElem?_eq_some_iff.mp hi).1
  have := (h i d _ hi (List.getElem?_eq_getElem (by omega))).2
  omega
section TQE
variable {h : tx_H} {Θ : List tq_H} {D : List tq_R} {n1 n2 n3 ax x : Nat} {t f : List Nat}
theorem tq_mk_6 : tq_mk h Θ D ((6, n1, n2, n3), (ax, x), t, f) = (0, 6 :: (t ++ t), [], [], []) := rfl
theorem tq_mk_10 : tq_mk h Θ D ((10, n1, n2, n3), (ax, x), t, f) = (0, (h.2.getD ax ([], [])).2, [], [], []) := rfl
theorem tq_mk_11 : tq_mk h Θ D ((11, n1, n2, n3), (ax, x), t, f) = (0, f, [], [], []) := rfl
theorem tq_mk_12 : tq_mk h Θ D ((12, n1, n2, n3), (ax, x), t, f) = (0, (Θ.getD n1 ([], 0, 0, 0)).1, [], [], []) := rfl
theorem tq_mk_13 : tq_mk h Θ D ((13, n1, n2, n3), (ax, x), t, f) = (0, 1 :: (tq_r D n1 ++ tq_r D n2), [], [], []) := rfl
theorem tq_mk_14 : tq_mk h Θ D ((14, n1, n2, n3), (ax, x), t, f) = (if (tq_r D n1).head? = some 1 then (0, tq_1 (arh h.1) (tq_r D n1), [], [], []) else (2, [], [], [], [])) := rfl
theorem tq_mk_15 : tq_mk h Θ D ((15, n1, n2, n3), (ax, x), t, f) = (if (tq_r D n1).head? = some 1 then (0, tq_2 (arh h.1) (tq_r D n1), [], [], []) else (2, [], [], [], [])) := rfl
theorem tq_mk_16 : tq_mk h Θ D ((16, n1, n2, n3), (ax, x), t, f) = (0, 2 :: (tq_r D n1 ++ f), [], [], []) := rfl
theorem tq_mk_17 : tq_mk h Θ D ((17, n1, n2, n3), (ax, x), t, f) = (0, 2 :: (f ++ tq_r D n1), [], [], []) := rfl
theorem tq_mk_18 : tq_mk h Θ D ((18, n1, n2, n3), (ax, x), t, f) = (if (tq_r D n1).head? = some 2 ∧ tq_r D n2 = tq_r D n3 then (0, tq_r D n2, [], tq_1 (arh h.1) (tq_r D n1), tq_2 (arh h.1) (tq_r D n1)) else (2, [], [], [], [])) := rfl
theorem tq_mk_19 : tq_mk h Θ D ((19, n1, n2, n3), (ax, x), t, f) = (if (tq_r D n1).head? = some 3 ∧ tq_1 (arh h.1) (tq_r D n1) = tq_r D n2 then (0, tq_2 (arh h.1) (tq_r D n1), [], [], []) else (2, [], [], [], [])) := rfl
theorem tq_mk_20 : tq_mk h Θ D ((20, n1, n2, n3), (ax, x), t, f) = (0, 3 :: (f ++ tq_r D n1), f, [], []) := rfl
theorem tq_mk_21 : tq_mk h Θ D ((21, n1, n2, n3), (ax, x), t, f) = (if (tq_a D n1).any (fun y => y.contains (60 + x)) = true then (3, [], [], [], []) else (0, tq_ge (arh h.1) (tq_r D n1) x, [], [], [])) := rfl
theorem tq_mk_22 : tq_mk h Θ D ((22, n1, n2, n3), (ax, x), t, f) = (if (tq_r D n1).head? = some 4 then (0, tq_in (arh h.1) (tq_r D n1) t, [], [], []) else (2, [], [], [], [])) := rfl
theorem tq_mk_23 : tq_mk h Θ D ((23, n1, n2, n3), (ax, x), t, f) = (if f.head? = some 5 ∧ tq_in (arh h.1) f t = tq_r D n1 then (0, f, [], [], []) else (4, [], [], [], [])) := rfl
theorem tq_mk_24 : tq_mk h Θ D ((24, n1, n2, n3), (ax, x), t, f) = (if (tq_r D n1).head? = some 5 then (if (tq_r D n1).contains (60 + x) = true ∨ (tq_r D n2).contains (60 + x) = true ∨ (tq_a D n2).any (fun y => !decide (y = tq_in (arh h.1) (tq_r D n1) [60 + x]) && y.contains (60 + x)) = true then (3, [], [], [], []) else (0, tq_r D n2, [], tq_in (arh h.1) (tq_r D n1) [60 + x], [])) else (2, [], [], [], [])) := rfl
theorem tq_mk_25 : tq_mk h Θ D ((25, n1, n2, n3), (ax, x), t, f) = (if (tq_r D n1).head? = some 6 then (@ite _ (tq_rp (tq_1 (arh h.1) (tq_r D n1)) (tq_2 (arh h.1) (tq_r D n1)) 40 (tq_r D n2) f) (Classical.propDecidable _) (0, f, [], [], []) (4, [], [], [], [])) else (2, [], [], [], [])) := rfl
theorem tq_mk_26 : tq_mk h Θ D ((26, n1, n2, n3), (ax, x), t, f) = (if (tq_r D n1).head? = some 0 then (0, f, [], [], []) else (2, [], [], [], [])) := rfl
theorem tq_mk_27 : tq_mk h Θ D ((27, n1, n2, n3), (ax, x), t, f) = (if (tq_r D n1).head? = some 0 then (0, f, 3 :: (f ++ [0]), [], []) else (2, [], [], [], [])) := rfl
end TQE
theorem tp_ok_c {r : Nat} (h : tp_ok r) : r = 6 ∨ r = 10 ∨ r = 11 ∨ r = 12 ∨ r = 13 ∨ r = 14 ∨ r = 15 ∨ r = 16 ∨ r = 17 ∨ r = 18 ∨ r = 19 ∨ r = 20 ∨ r = 21 ∨ r = 22 ∨ r = 23 ∨ r = 24 ∨ r = 25 ∨ r = 26 ∨ r = 27 := by
  unfold tp_ok at h
  omega
theorem tq_in_ws {g : tx_g} (hσ : (sg g).1.1 ≤ 6 ∧ (sg g).1.2 ≤ 4) (hA : ArW (sg g) (arh g)) {l t : List Nat} (hw : ws (sg g) l [true]) (hc : l.head? = some 4 ∨ l.head? = some 5) (ht : ws (sg g) t [false]) : ws (sg g) (tq_in (arh g) l t) [true] := by
  have hlen := ly_len hA hw (S := [(0, 0)]) rfl
  cases l with
  | nil => rcases hc with hc | hc <;> cases hc
  | cons c l =>
    have hc : c = 4 ∨ c = 5 := by
      rcases hc with hc | hc
      · exact Or.inl (Option.some.inj hc)
      · exact Or.inr (Option.some.inj hc)
    obtain ⟨b, W', ks, e, hk, h2⟩ := ws_cons.mp hw
    cases e
    rw [kS_f1 hc] at hk
    cases hk
    unfold tq_in
    exact tq_pi_ws hσ ht h2 (by rw [List.length_drop, hlen]; show l.length + 1 - 1 = l.length; omega)
theorem kS_2 {σ : mSig} {c : Nat} (h : 1 ≤ c) (h' : c ≤ 3) : kS σ true c = some [true, true] := kS_f2 h h'
/-- a row that is made is a formula -/
theorem tq_mk_ws {h : tx_H} {Θ : List tq_H} {D : List tq_R} {st : tp_P} (hw : WFt h) (hG : tp_G h.1 h.2.length st) (hp : tq_pr Θ D st) (hD : tq_GD h.1 D) (hT : tq_GT h.1 Θ) (hm : (tq_mk h Θ D st).1 = 0) : ws (sg h.1) (tq_mk h Θ D st).2.1 [true] := by
  obtain ⟨⟨r, n1, n2, n3⟩, ⟨ax, x⟩, t, f⟩ := st
  obtain ⟨g0, g1, g2, g3, g4, -⟩ := hG
  have hA := arh_k (g := h.1) hw.1 hw.2.1
  have hσ := sg_b hw
  have P : ∀ {k : Nat}, k < D.length → ws (sg h.1) (tq_r D k) [true] ∧ (tq_r D k).length ≤ 40 ∧ dp (arh h.1) (tq_r D k) := fun {k} hk => by
    obtain ⟨R, e1, e2, -, -⟩ := tq_at hk
    rw [e2]
    exact (hD k R e1).1
  have L : ∀ {l : List Nat}, ws (sg h.1) l [true] → (ly (arh h.1) [(0, 0)] l).length = l.length := fun hl => ly_len hA hl rfl
  rcases tp_ok_c g0 with rfl | rfl | rfl | rfl | rfl | rfl | rfl | rfl | rfl | rfl | rfl | rfl | rfl | rfl | rfl | rfl | rfl | rfl | rfl
  · obtain ⟨w, -⟩ := g1 (Or.inl rfl)
    exact ws_c kS_f6 (ws_app (W1 := [false]) w w)
  · rw [tq_mk_10]
    have hax := g4 rfl
    obtain ⟨⟨w, l⟩, hk⟩ : ∃ q, h.2[ax]? = some q := ⟨_, List.getElem?_eq_getElem hax⟩
    show ws _ (h.2.getD ax ([], [])).2 _
    rw [List.getD_eq_getElem?_getD, hk]
    exact wf_ws (hw.2.2 ax w l hk).1
  · exact (g2 (Or.inl rfl)).1
  · have hn : n1 < Θ.length := hp
    obtain ⟨q, hk⟩ : ∃ q, Θ[n1]? = some q := ⟨_, List.getElem?_eq_getElem hn⟩
    show ws _ (Θ.getD n1 ([], 0, 0, 0)).1 _
    rw [List.getD_eq_getElem?_getD, hk]
    exact (hT.2 n1 q hk).1
  · have p1 := P (hp.1 (of_decide_eq_true rfl))
    have p2 := P (hp.2.1 (of_decide_eq_true rfl))
    exact ws_c (kS_2 (by decide) (by decide)) (ws_app (W1 := [true]) p1.1 p2.1)
  · have p1 := P (hp.1 (of_decide_eq_true rfl))
    rw [tq_mk_14] at hm ⊢
    split at hm
    · next z =>
      rw [if_pos z]
      exact (tq_half hA p1.1 z (kS_2 (by decide) (by decide))).1
    · cases hm
  · have p1 := P (hp.1 (of_decide_eq_true rfl))
    rw [tq_mk_15] at hm ⊢
    split at hm
    · next z =>
      rw [if_pos z]
      exact (tq_half hA p1.1 z (kS_2 (by decide) (by decide))).2.1
    · cases hm
  · have p1 := P (hp.1 (of_decide_eq_true rfl))
    exact ws_c (kS_2 (by decide) (by decide)) (ws_app (W1 := [true]) p1.1 (g2 (of_decide_eq_true rfl)).1)
  · have p1 := P (hp.1 (of_decide_eq_true rfl))
    exact ws_c (kS_2 (by decide) (by decide)) (ws_app (W1 := [true]) (g2 (of_decide_eq_true rfl)).1 p1.1)
  · have p2 := P (hp.2.1 (of_decide_eq_true rfl))
    rw [tq_mk_18] at hm ⊢
    split at hm
    · next z =>
      rw [if_pos z]
      exact p2.1
    · cases hm
  · have p1 := P (hp.1 (of_decide_eq_true rfl))
    rw [tq_mk_19] at hm ⊢
    split at hm
    · next z =>
      rw [if_pos z]
      exact (tq_half hA p1.1 z.1 (kS_2 (by decide) (by decide))).2.1
    · cases hm
  · have p1 := P (hp.1 (of_decide_eq_true rfl))
    exact ws_c (kS_2 (by decide) (by decide)) (ws_app (W1 := [true]) (g2 (of_decide_eq_true rfl)).1 p1.1)
  · have p1 := P (hp.1 (of_decide_eq_true rfl))
    rw [tq_mk_21] at hm ⊢
    split at hm
    · cases hm
    · next z =>
      rw [if_neg z]
      exact ws_c (kS_f1 (Or.inl rfl)) (tq_gi_ws hσ p1.1 (L p1.1) (dp_lt p1.2.2 (L p1.1)))
  · have p1 := P (hp.1 (of_decide_eq_true rfl))
    rw [tq_mk_22] at hm ⊢
    split at hm
    · next z =>
      rw [if_pos z]
      exact tq_in_ws hσ hA p1.1 (Or.inl z) (g1 (of_decide_eq_true rfl)).1
    · cases hm
  · rw [tq_mk_23] at hm ⊢
    split at hm
    · next z =>
      rw [if_pos z]
      exact (g2 (of_decide_eq_true rfl)).1
    · cases hm
  · have p2 := P (hp.2.1 (of_decide_eq_true rfl))
    rw [tq_mk_24] at hm ⊢
    split at hm
    · next z =>
      rw [if_pos z]
      split at hm
      · cases hm
      · next z2 =>
        rw [if_neg z2]
        exact p2.1
    · cases hm
  · rw [tq_mk_25] at hm ⊢
    split at hm
    · next z =>
      rw [if_pos z]
      split at hm
      · next z2 =>
        rw [if_pos z2]
        exact (g2 (of_decide_eq_true rfl)).1
      · cases hm
    · cases hm
  · rw [tq_mk_26] at hm ⊢
    split at hm
    · next z =>
      rw [if_pos z]
      exact (g2 (of_decide_eq_true rfl)).1
    · cases hm
  · rw [tq_mk_27] at hm ⊢
    split at hm
    · next z =>
      rw [if_pos z]
      exact (g2 (of_decide_eq_true rfl)).1
    · cases hm
end
section
set_option maxRecDepth 100000
/-! the class: where the cells of steps and proofs lie; small methods -/
-- ProofBench$Proof.stepAt(I)LProofBench$Step;
theorem pl_33_0 {n : Nat} {r0 : Nat} {x1 : Int32} {s : ps_S} {Q : Option Value → ps_S → Prop} (h :
  (x1 < 0 →
    pl_nk (ps_is r0 2) (Q (some (.ref (ps_c0 r0 1))) s)) ∧
  (0 ≤ x1 →
    pl_nk (ps_is r0 2) (pl_nk (Nat.beq (ps_K (ps_c0 r0 0)).1 0) (((nI (ps_ln (ps_c0 r0 0))) ≤ x1 →
      pl_nk (ps_is r0 2) (Q (some (.ref (ps_c0 r0 1))) s)) ∧
    (x1 < (nI (ps_ln (ps_c0 r0 0))) →
      pl_nk (ps_is r0 2) (pl_nk (ps_ar (ps_c0 r0 0) 4 || ps_ar (ps_c0 r0 0) 5 || ps_ar (ps_c0 r0 0) 6 || ps_ar (ps_c0 r0 0) 7) ((pm_in x1 (ps_ln (ps_c0 r0 0)) = true →
        Q (some (.ref (ps_e0 (ps_c0 r0 0) (Int32.toNatClampNeg x1)))) s)))))))) : pl_At (n + 1) 33 0 [(0, .ref r0), (1, .int x1)] [] s Q :=
  pl_wp_at (stops := []) (f := 21) h rfl

-- ProofBench$Proof.outAt(I)LProofBench$Row;
theorem pl_38_0 {n : Nat} {r0 : Nat} {x1 : Int32} {s : ps_S} {Q : Option Value → ps_S → Prop} (h :
  (x1 < 0 →
    pl_nk (ps_is r0 2) (Q (some (.ref (ps_c0 r0 3))) s)) ∧
  (0 ≤ x1 →
    pl_nk (ps_is r0 2) (pl_nk (Nat.beq (ps_K (ps_c0 r0 2)).1 0) (((nI (ps_ln (ps_c0 r0 2))) ≤ x1 →
      pl_nk (ps_is r0 2) (Q (some (.ref (ps_c0 r0 3))) s)) ∧
    (x1 < (nI (ps_ln (ps_c0 r0 2))) →
      pl_nk (ps_is r0 2) (pl_nk (ps_ar (ps_c0 r0 2) 4 || ps_ar (ps_c0 r0 2) 5 || ps_ar (ps_c0 r0 2) 6 || ps_ar (ps_c0 r0 2) 7) ((pm_in x1 (ps_ln (ps_c0 r0 2)) = true →
        Q (some (.ref (ps_e0 (ps_c0 r0 2) (Int32.toNatClampNeg x1)))) s)))))))) : pl_At (n + 1) 38 0 [(0, .ref r0), (1, .int x1)] [] s Q :=
  pl_wp_at (stops := []) (f := 21) h rfl

-- ProofBench$Proof.premise(LProofBench$Step;I)LProofBench$Step;
theorem pl_37_0 {n : Nat} {r0 : Nat} {r1 : Nat} {x2 : Int32} {s : ps_S} {Q : Option Value → ps_S → Prop} (h :
  pl_Cl n 121 [.ref r1, .int x2] s (ps_rI (fun v1 s1 =>
    pl_Cl n 33 [.ref r0, .int v1] s1 (ps_rA (fun v2 s2 =>
      Q (some (.ref v2)) s2))))) : pl_At (n + 1) 37 0 [(0, .ref r0), (1, .ref r1), (2, .int x2)] [] s Q :=
  pl_wp_at (stops := []) (f := 8) h rfl

-- ProofBench$Proof.hasStep(I)Z
theorem pl_32_0 {n : Nat} {r0 : Nat} {x1 : Int32} {s : ps_S} {Q : Option Value → ps_S → Prop} (h :
  (x1 < 0 →
    Q (some (.int 0)) s) ∧
  (0 ≤ x1 →
    pl_nk (ps_is r0 2) (((ps_i s r0 8) ≤ x1 →
      Q (some (.int 0)) s) ∧
    (x1 < (ps_i s r0 8) →
      Q (some (.int 1)) s)))) : pl_At (n + 1) 32 0 [(0, .ref r0), (1, .int x1)] [] s Q :=
  pl_wp_at (stops := []) (f := 15) h rfl

-- ProofBench$Row.copyPart(LProofBench$Row;II)V
theorem pl_96_0 {n : Nat} {r0 : Nat} {r1 : Nat} {x2 : Int32} {x3 : Int32} {s : ps_S} {Q : Option Value → ps_S → Prop} (h :
  pl_Cl n 91 [.ref r0] s (ps_rV (fun s1 =>
    pl_Cl n 94 [.ref r0, .ref r1, .int x2, .int x3] s1 (ps_rV (fun s2 =>
      Q none s2))))) : pl_At (n + 1) 96 0 [(0, .ref r0), (1, .ref r1), (2, .int x2), (3, .int x3)] [] s Q :=
  pl_wp_at (stops := []) (f := 10) h rfl

-- ProofBench$Row.join(ILProofBench$Row;LProofBench$Row;)V
theorem pl_97_0 {n : Nat} {r0 : Nat} {x1 : Int32} {r2 : Nat} {r3 : Nat} {s : ps_S} {Q : Option Value → ps_S → Prop} (h :
  pl_Cl n 91 [.ref r0] s (ps_rV (fun s1 =>
    pl_Cl n 93 [.ref r0, .int x1] s1 (ps_rV (fun s2 =>
      pl_nk (ps_is r2 5) (pl_Cl n 94 [.ref r0, .ref r2, .int 0, .int (ps_i s2 r2 1)] s2 (ps_rV (fun s3 =>
        pl_nk (ps_is r3 5) (pl_Cl n 94 [.ref r0, .ref r3, .int 0, .int (ps_i s3 r3 1)] s3 (ps_rV (fun s4 =>
          Q none s4))))))))))) : pl_At (n + 1) 97 0 [(0, .ref r0), (1, .int x1), (2, .ref r2), (3, .ref r3)] [] s Q :=
  pl_wp_at (stops := []) (f := 20) h rfl

-- ProofBench$Row.isLike(LProofBench$Row;)Z
theorem pl_98_0 {n : Nat} {r0 : Nat} {r1 : Nat} {s : ps_S} {Q : Option Value → ps_S → Prop} (h :
  pl_nk (ps_is r0 5) (((ps_i s r0 2) ≠ 0 →
    Q (some (.int 0)) s) ∧
  ((ps_i s r0 2) = 0 →
    pl_nk (ps_is r1 5) (((ps_i s r1 2) ≠ 0 →
      Q (some (.int 0)) s) ∧
    ((ps_i s r1 2) = 0 →
      pl_nk (ps_is r0 5) (pl_nk (ps_is r1 5) (((ps_i s r0 1) = (ps_i s r1 1) →
        pl_At n 98 29 [(0, .ref r0), (1, .ref r1), (2, .int 0)] [] s Q) ∧
      ((ps_i s r0 1) ≠ (ps_i s r1 1) →
        Q (some (.int 0)) s)))))))) : pl_At (n + 1) 98 0 [(0, .ref r0), (1, .ref r1)] [] s Q :=
  pl_wp_at (stops := [(29, [0, 1, 2])]) (f := 21) h rfl

theorem pl_98_29 {n : Nat} {r0 : Nat} {r1 : Nat} {x2 : Int32} {s : ps_S} {Q : Option Value → ps_S → Prop} (h :
  pl_nk (ps_is r0 5) (((ps_i s r0 1) ≤ x2 →
    Q (some (.int 1)) s) ∧
  (x2 < (ps_i s r0 1) →
    pl_Cl n 92 [.ref r0, .int x2] s (ps_rI (fun v1 s1 =>
      pl_Cl n 92 [.ref r1, .int x2] s1 (ps_rI (fun v2 s2 =>
        (v1 = v2 →
          pl_At n 98 29 [(0, .ref r0), (1, .ref r1), (2, .int (x2 + 1))] [] s2 Q) ∧
        (v1 ≠ v2 →
          Q (some (.int 0)) s2)))))))) : pl_At (n + 1) 98 29 [(0, .ref r0), (1, .ref r1), (2, .int x2)] [] s Q :=
  pl_wp_at (stops := [(29, [0, 1, 2])]) (f := 19) h rfl

-- ProofBench$Row.contains(I)Z
theorem pl_100_0 {n : Nat} {r0 : Nat} {x1 : Int32} {s : ps_S} {Q : Option Value → ps_S → Prop} (h :
  pl_At n 100 2 [(0, .ref r0), (1, .int x1), (2, .int 0)] [] s Q) : pl_At (n + 1) 100 0 [(0, .ref r0), (1, .int x1)] [] s Q :=
  pl_wp_at (stops := [(2, [0, 1, 2])]) (f := 4) h rfl

theorem pl_100_2 {n : Nat} {r0 : Nat} {x1 : Int32} {x2 : Int32} {s : ps_S} {Q : Option Value → ps_S → Prop} (h :
  pl_nk (ps_is r0 5) (((ps_i s r0 1) ≤ x2 →
    Q (some (.int 0)) s) ∧
  (x2 < (ps_i s r0 1) →
    pl_Cl n 92 [.ref r0, .int x2] s (ps_rI (fun v1 s1 =>
      (v1 ≠ x1 →
        pl_At n 100 2 [(0, .ref r0), (1, .int x1), (2, .int (x2 + 1))] [] s1 Q) ∧
      (v1 = x1 →
        Q (some (.int 1)) s1)))))) : pl_At (n + 1) 100 2 [(0, .ref r0), (1, .int x1), (2, .int x2)] [] s Q :=
  pl_wp_at (stops := [(2, [0, 1, 2])]) (f := 17) h rfl

-- ProofBench$Row.hasFree()Z
theorem pl_101_0 {n : Nat} {r0 : Nat} {s : ps_S} {Q : Option Value → ps_S → Prop} (h :
  pl_At n 101 2 [(0, .ref r0), (1, .int 0)] [] s Q) : pl_At (n + 1) 101 0 [(0, .ref r0)] [] s Q :=
  pl_wp_at (stops := [(2, [0, 1])]) (f := 4) h rfl

theorem pl_101_2 {n : Nat} {r0 : Nat} {x1 : Int32} {s : ps_S} {Q : Option Value → ps_S → Prop} (h :
  pl_nk (ps_is r0 5) (((ps_i s r0 1) ≤ x1 →
    Q (some (.int 0)) s) ∧
  (x1 < (ps_i s r0 1) →
    pl_Cl n 92 [.ref r0, .int x1] s (ps_rI (fun v1 s1 =>
      (v1 < 60 →
        pl_At n 101 2 [(0, .ref r0), (1, .int (x1 + 1))] [] s1 Q) ∧
      (60 ≤ v1 →
        Q (some (.int 1)) s1)))))) : pl_At (n + 1) 101 2 [(0, .ref r0), (1, .int x1)] [] s Q :=
  pl_wp_at (stops := [(2, [0, 1])]) (f := 17) h rfl

-- ProofBench$Step.numbersOf(I)I
theorem pl_115_0 {n : Nat} {x0 : Int32} {s : ps_S} {Q : Option Value → ps_S → Prop} (h :
  (x0 = 6 →
    Q (some (.int 0)) s) ∧
  (x0 ≠ 6 →
    (x0 = 7 →
    Q (some (.int 1)) s) ∧
  (x0 ≠ 7 →
    (x0 = 8 →
    Q (some (.int 1)) s) ∧
  (x0 ≠ 8 →
    (x0 = 9 →
    Q (some (.int 1)) s) ∧
  (x0 ≠ 9 →
    (x0 = 10 →
    Q (some (.int 0)) s) ∧
  (x0 ≠ 10 →
    (x0 = 11 →
    Q (some (.int 0)) s) ∧
  (x0 ≠ 11 →
    (x0 = 12 →
    Q (some (.int 1)) s) ∧
  (x0 ≠ 12 →
    (x0 = 13 →
    Q (some (.int 2)) s) ∧
  (x0 ≠ 13 →
    (x0 = 14 →
    Q (some (.int 1)) s) ∧
  (x0 ≠ 14 →
    (x0 = 15 →
    Q (some (.int 1)) s) ∧
  (x0 ≠ 15 →
    (x0 = 16 →
    Q (some (.int 1)) s) ∧
  (x0 ≠ 16 →
    (x0 = 17 →
    Q (some (.int 1)) s) ∧
  (x0 ≠ 17 →
    (x0 = 18 →
    Q (some (.int 3)) s) ∧
  (x0 ≠ 18 →
    (x0 = 19 →
    Q (some (.int 2)) s) ∧
  (x0 ≠ 19 →
    (x0 = 20 →
    Q (some (.int 1)) s) ∧
  (x0 ≠ 20 →
    (x0 = 21 →
    Q (some (.int 1)) s) ∧
  (x0 ≠ 21 →
    (x0 = 22 →
    Q (some (.int 1)) s) ∧
  (x0 ≠ 22 →
    (x0 = 23 →
    Q (some (.int 1)) s) ∧
  (x0 ≠ 23 →
    (x0 = 24 →
    Q (some (.int 2)) s) ∧
  (x0 ≠ 24 →
    (x0 = 25 →
    Q (some (.int 2)) s) ∧
  (x0 ≠ 25 →
    Q (some (.int 1)) s))))))))))))))))))))) : pl_At (n + 1) 115 0 [(0, .int x0)] [] s Q :=
  pl_wp_at (stops := []) (f := 46) h rfl

-- ProofBench$Step.premisesOf(I)I
theorem pl_116_0 {n : Nat} {x0 : Int32} {s : ps_S} {Q : Option Value → ps_S → Prop} (h :
  (x0 ≠ 12 →
    pl_Cl n 115 [.int x0] s (ps_rI (fun v1 s1 =>
      Q (some (.int v1)) s1))) ∧
  (x0 = 12 →
    Q (some (.int 0)) s)) : pl_At (n + 1) 116 0 [(0, .int x0)] [] s Q :=
  pl_wp_at (stops := []) (f := 11) h rfl

-- ProofBench$Step.number(I)I
theorem pl_121_0 {n : Nat} {r0 : Nat} {x1 : Int32} {s : ps_S} {Q : Option Value → ps_S → Prop} (h :
  pl_nk (ps_is r0 8) (pl_Cl n 182 [.ref (ps_c0 r0 1), .int x1] s (ps_rI (fun v1 s1 =>
    Q (some (.int v1)) s1)))) : pl_At (n + 1) 121 0 [(0, .ref r0), (1, .int x1)] [] s Q :=
  pl_wp_at (stops := []) (f := 7) h rfl

-- ProofBench$Step.assumedAt(I)I
theorem pl_122_0 {n : Nat} {r0 : Nat} {x1 : Int32} {s : ps_S} {Q : Option Value → ps_S → Prop} (h :
  pl_nk (ps_is r0 8) (((ps_i s r0 8) ≤ x1 →
    Q (some (.int (-1))) s) ∧
  (x1 < (ps_i s r0 8) →
    pl_nk (ps_is r0 8) (pl_Cl n 182 [.ref (ps_c0 r0 7), .int x1] s (ps_rI (fun v1 s1 =>
      Q (some (.int v1)) s1)))))) : pl_At (n + 1) 122 0 [(0, .ref r0), (1, .int x1)] [] s Q :=
  pl_wp_at (stops := []) (f := 14) h rfl

-- ProofBench$Step.addAssumed(I)V
theorem pl_123_0 {n : Nat} {r0 : Nat} {x1 : Int32} {s : ps_S} {Q : Option Value → ps_S → Prop} (h :
  pl_nk (ps_is r0 8) (((ps_i s r0 8) < 0 →
    pl_nk (ps_is r0 8) (Q none (ps_ui s r0 9 1))) ∧
  (0 ≤ (ps_i s r0 8) →
    pl_nk (ps_is r0 8) (pl_nk (ps_is r0 8) (pl_nk (Nat.beq (ps_K (ps_c0 r0 7)).1 0) (((nI (ps_ln (ps_c0 r0 7))) ≤ (ps_i s r0 8) →
      pl_nk (ps_is r0 8) (Q none (ps_ui s r0 9 1))) ∧
    ((ps_i s r0 8) < (nI (ps_ln (ps_c0 r0 7))) →
      pl_nk (ps_is r0 8) (pl_nk (ps_is r0 8) (pl_nk (ps_ar (ps_c0 r0 7) 0) ((pm_in (ps_i s r0 8) (ps_ln (ps_c0 r0 7)) = true →
        pl_nk (ps_is r0 8) (pl_nk (ps_is r0 8) (Q none (ps_ui (ps_ua s (ps_c0 r0 7) (Int32.toNatClampNeg (ps_i s r0 8)) x1) r0 8 ((ps_i (ps_ua s (ps_c0 r0 7) (Int32.toNatClampNeg (ps_i s r0 8)) x1) r0 8) + 1))))))))))))))) : pl_At (n + 1) 123 0 [(0, .ref r0), (1, .int x1)] [] s Q :=
  pl_wp_at (stops := []) (f := 33) h rfl

-- ProofBench$Step.leanAs(LProofBench$Step;)V
theorem pl_124_0 {n : Nat} {r0 : Nat} {r1 : Nat} {s : ps_S} {Q : Option Value → ps_S → Prop} (h :
  pl_nk (ps_is r0 8) (pl_nk (ps_is r1 8) (pl_nk (ps_is r0 8) (pl_nk (ps_is r0 8) (pl_nk (ps_is r1 8) (pl_nk (ps_is r0 8) (pl_nk (ps_is r0 8) (pl_nk (ps_is r1 8) (pl_nk (ps_is r0 8) (Q none (ps_uj (ps_ui (ps_ui s r0 10 ((ps_i s r0 10) ||| (ps_i s r1 10))) r0 11 ((ps_i (ps_ui s r0 10 ((ps_i s r0 10) ||| (ps_i s r1 10))) r0 11) ||| (ps_i (ps_ui s r0 10 ((ps_i s r0 10) ||| (ps_i s r1 10))) r1 11))) r0 12 ((ps_j (ps_ui (ps_ui s r0 10 ((ps_i s r0 10) ||| (ps_i s r1 10))) r0 11 ((ps_i (ps_ui s r0 10 ((ps_i s r0 10) ||| (ps_i s r1 10))) r0 11) ||| (ps_i (ps_ui s r0 10 ((ps_i s r0 10) ||| (ps_i s r1 10))) r1 11))) r0 12) ||| (ps_j (ps_ui (ps_ui s r0 10 ((ps_i s r0 10) ||| (ps_i s r1 10))) r0 11 ((ps_i (ps_ui s r0 10 ((ps_i s r0 10) ||| (ps_i s r1 10))) r0 11) ||| (ps_i (ps_ui s r0 10 ((ps_i s r0 10) ||| (ps_i s r1 10))) r1 11))) r1 12))))))))))))) : pl_At (n + 1) 124 0 [(0, .ref r0), (1, .ref r1)] [] s Q :=
  pl_wp_at (stops := []) (f := 24) h rfl

/-! cells -/
def stb (t : Nat) : Bool := !ps_is t 8 || ((Nat.beq (ps_c0 t 1) (t + 1) && Nat.beq (ps_c0 t 4) (t + 2) && Nat.beq (ps_c0 t 5) (t + 4) && Nat.beq (ps_c0 t 6) (t + 6) && Nat.beq (ps_c0 t 7) (t + 8)) && (Nat.beq (ps_ln (t + 1)) 3 && Nat.beq (ps_ln (t + 8)) 12) && (ps_is (t + 2) 5 && ps_is (t + 4) 5 && ps_is (t + 6) 5))
def sta (a : Nat) : Nat → Bool
  | 0 => true
  | n + 1 => stb (a + n) && sta a n
theorem sta_ok {a : Nat} : ∀ {n : Nat}, sta a n = true → ∀ r, a ≤ r → r < a + n → stb r = true
  | 0, _, r, h1, h2 => by omega
  | n + 1, h, r, h1, h2 => by
    unfold sta at h
    rw [Bool.and_eq_true] at h
    by_cases e : r = a + n
    · rw [e]; exact h.1
    · exact sta_ok h.2 r h1 (by omega)
theorem sta_0 : sta 0 200 = true := by decide +kernel
theorem sta_1 : sta 200 200 = true := by decide +kernel
theorem sta_2 : sta 400 200 = true := by decide +kernel
theorem sta_3 : sta 600 200 = true := by decide +kernel
theorem sta_4 : sta 800 100 = true := by decide +kernel
/-- a step's cells -/
theorem str {t : Nat} (h : ps_is t 8 = true) (ht : t < 900) : (ps_c0 t 1 = t + 1 ∧ ps_c0 t 4 = t + 2 ∧ ps_c0 t 5 = t + 4 ∧ ps_c0 t 6 = t + 6 ∧ ps_c0 t 7 = t + 8) ∧ (ps_ln (t + 1) = 3 ∧ ps_ln (t + 8) = 12) ∧ ps_is (t + 2) 5 = true ∧ ps_is (t + 4) 5 = true ∧ ps_is (t + 6) 5 = true := by
  have k : stb t = true := by
    rcases Nat.lt_or_ge t 200 with z | z
    · exact sta_ok sta_0 t (Nat.zero_le _) (by omega)
    rcases Nat.lt_or_ge t 400 with z | z
    · exact sta_ok sta_1 t (by omega) (by omega)
    rcases Nat.lt_or_ge t 600 with z | z
    · exact sta_ok sta_2 t (by omega) (by omega)
    rcases Nat.lt_or_ge t 800 with z | z
    · exact sta_ok sta_3 t (by omega) (by omega)
    · exact sta_ok sta_4 t (by omega) (by omega)
  unfold stb at k
  rw [h] at k
  simp only [Bool.not_true, Bool.false_or, Bool.and_eq_true, Nat.beq_eq] at k
  obtain ⟨⟨⟨⟨⟨⟨k1, k2⟩, k3⟩, k4⟩, k5⟩, k6, k7⟩, ⟨k8, k9⟩, k10⟩ := k
  exact ⟨⟨k1, k2, k3, k4, k5⟩, ⟨k6, k7⟩, k8, k9, k10⟩
def pfb (p : Nat) : Bool := (List.range 40).all (fun i => Nat.beq (ps_e0 (p + 1) i) (p + 44 + 9 * i) && ps_is (p + 44 + 9 * i) 8) && (List.range 3).all (fun k => Nat.beq (ps_e0 (p + 11) k) (p + 404 + 2 * k) && ps_is (p + 404 + 2 * k) 5) && (Nat.beq (ps_c0 p 0) (p + 1) && Nat.beq (ps_c0 p 1) (p + 2) && Nat.beq (ps_c0 p 2) (p + 11) && Nat.beq (ps_c0 p 3) (p + 12) && Nat.beq (ps_c0 p 4) (p + 14) && Nat.beq (ps_c0 p 5) (p + 16)) && (Nat.beq (ps_ln (p + 1)) 40 && Nat.beq (ps_ln (p + 11)) 3) && (ps_is (p + 12) 5 && ps_is (p + 14) 5 && ps_is (p + 16) 6 && ps_is (p + 2) 8)
theorem pfb_50 : pfb 50 = true := by decide +kernel
theorem pfb_460 : pfb 460 = true := by decide +kernel
/-- a proof's cells -/
theorem prf {p : Nat} (hp : p = 50 ∨ p = 460) : (∀ i, i < 40 → ps_e0 (p + 1) i = p + 44 + 9 * i ∧ ps_is (p + 44 + 9 * i) 8 = true) ∧ (∀ k, k < 3 → ps_e0 (p + 11) k = p + 404 + 2 * k ∧ ps_is (p + 404 + 2 * k) 5 = true) ∧ (ps_c0 p 0 = p + 1 ∧ ps_c0 p 1 = p + 2 ∧ ps_c0 p 2 = p + 11 ∧ ps_c0 p 3 = p + 12 ∧ ps_c0 p 4 = p + 14 ∧ ps_c0 p 5 = p + 16) ∧ (ps_ln (p + 1) = 40 ∧ ps_ln (p + 11) = 3) ∧ ps_is (p + 12) 5 = true ∧ ps_is (p + 14) 5 = true ∧ ps_is (p + 16) 6 = true ∧ ps_is (p + 2) 8 = true := by
  have k : pfb p = true := by
    rcases hp with rfl | rfl
    · exact pfb_50
    · exact pfb_460
  unfold pfb at k
  simp only [Bool.and_eq_true, Nat.beq_eq, List.all_eq_true] at k
  obtain ⟨⟨⟨⟨k1, k2⟩, ⟨⟨⟨⟨⟨a0, a1⟩, a2⟩, a3⟩, a4⟩, a5⟩⟩, l0, l1⟩, ⟨⟨i1, i2⟩, i3⟩, i4⟩ := k
  exact ⟨fun i hi => k1 i (List.mem_range.mpr hi), fun j hj => k2 j (List.mem_range.mpr hj), ⟨a0, a1, a2, a3, a4, a5⟩, ⟨l0, l1⟩, i1, i2, i3, i4⟩
/-- the i-th step's cell -/
abbrev stc (p i : Nat) : Nat := p + 44 + 9 * i
abbrev otc (p k : Nat) : Nat := p + 404 + 2 * k
theorem fs_33 {n p i : Nat} {x1 : Int32} {s : ps_S} {R : Nat → ps_S → Prop} (hp : p = 50 ∨ p = 460) (hx : x1.toInt = i) (hi : i < 40) (k : R (stc p i) s) : pl_Cl n 33 [.ref p, .int x1] s (ps_rA R) := by
  cases n with
  | zero => exact pl_At_0
  | succ n =>
  show pl_At (n + 1) 33 0 [(0, .ref p), (1, .int x1)] [] s (ps_rA R)
  obtain ⟨e1, -, ⟨c0, c1, -⟩, ⟨l0, -⟩, -⟩ := prf hp
  have t0 : (0 : Int32).toInt = 0 := Int32.toInt_zero
  have t40 : (nI (ps_ln (ps_c0 p 0))).toInt = 40 := by rw [c0, l0]; decide
  refine pl_33_0 ⟨fun h => ?_, fun h => pl_nk_i (fun _ => pl_nk_i (fun _ => ⟨fun h2 => ?_, fun h2 => pl_nk_i (fun _ => pl_nk_i (fun _ => ?_))⟩))⟩
  · have h := xlt h
    omega
  · have h2 := xle h2
    omega
  · intro b
    rw [xtn hx, c0, (e1 i hi).1]
    exact k
/-- any number -/
theorem fs_33o {n r0 : Nat} {x1 : Int32} {s : ps_S} {R : Nat → ps_S → Prop} (k : ∀ v, R v s) : pl_Cl n 33 [.ref r0, .int x1] s (ps_rA R) := by
  cases n with
  | zero => exact pl_At_0
  | succ n =>
  show pl_At (n + 1) 33 0 [(0, .ref r0), (1, .int x1)] [] s (ps_rA R)
  refine pl_33_0 ?_
  refine ⟨fun h1 => ?_, fun h1 => ?_⟩
  · have h1 : x1.toInt < (0 : Int) := xlt h1
    refine pl_nk_i (fun nk23 => ?_)
    exact k _
  · have h1 : (0 : Int) ≤ x1.toInt := xle h1
    refine pl_nk_i (fun nk6 => ?_)
    refine pl_nk_i (fun nk9 => ?_)
    refine ⟨fun h10 => ?_, fun h10 => ?_⟩
    · have h10 : (nI (ps_ln (ps_c0 r0 0))).toInt ≤ x1.toInt := xle h10
      refine pl_nk_i (fun nk23 => ?_)
      exact k _
    · have h10 : x1.toInt < (nI (ps_ln (ps_c0 r0 0))).toInt := xlt h10
      refine pl_nk_i (fun nk14 => ?_)
      refine pl_nk_i (fun nk18 => ?_)
      intro b18
      obtain ⟨b18, c18⟩ := pl_in b18
      exact k _
theorem fs_38 {n p i : Nat} {x1 : Int32} {s : ps_S} {R : Nat → ps_S → Prop} (hp : p = 50 ∨ p = 460) (hx : x1.toInt = i) (hi : i < 3) (k : R (otc p i) s) : pl_Cl n 38 [.ref p, .int x1] s (ps_rA R) := by
  cases n with
  | zero => exact pl_At_0
  | succ n =>
  show pl_At (n + 1) 38 0 [(0, .ref p), (1, .int x1)] [] s (ps_rA R)
  obtain ⟨-, e1, ⟨-, -, c2, c3, -⟩, ⟨-, l1⟩, -⟩ := prf hp
  have t0 : (0 : Int32).toInt = 0 := Int32.toInt_zero
  have t3 : (nI (ps_ln (ps_c0 p 2))).toInt = 3 := by rw [c2, l1]; decide
  refine pl_38_0 ⟨fun h => ?_, fun h => pl_nk_i (fun _ => pl_nk_i (fun _ => ⟨fun h2 => ?_, fun h2 => pl_nk_i (fun _ => pl_nk_i (fun _ => ?_))⟩))⟩
  · have h := xlt h
    omega
  · have h2 := xle h2
    omega
  · intro b
    rw [xtn hx, c2, (e1 i hi).1]
    exact k
theorem fs_121 {n t j : Nat} {x1 : Int32} {s : ps_S} {R : Int32 → ps_S → Prop} (ht : ps_is t 8 = true) (h9 : t < 900) (hx : x1.toInt = j) (hj : j < 3) (k : R (ps_a s (t + 1) j) s) : pl_Cl n 121 [.ref t, .int x1] s (ps_rI R) := by
  cases n with
  | zero => exact pl_At_0
  | succ n =>
  show pl_At (n + 1) 121 0 [(0, .ref t), (1, .int x1)] [] s (ps_rI R)
  obtain ⟨⟨c1, -⟩, ⟨l1, -⟩, -⟩ := str ht h9
  refine pl_121_0 (pl_nk_i (fun _ => ?_))
  rw [c1]
  exact fs_182 hx (by rw [l1]; exact hj) (by rw [l1]; decide) k
theorem fs_121o {n t : Nat} {x1 : Int32} {s : ps_S} {R : Int32 → ps_S → Prop} (k : ∀ v, R v s) : pl_Cl n 121 [.ref t, .int x1] s (ps_rI R) := by
  cases n with
  | zero => exact pl_At_0
  | succ n =>
  show pl_At (n + 1) 121 0 [(0, .ref t), (1, .int x1)] [] s (ps_rI R)
  refine pl_121_0 (pl_nk_i (fun _ => ?_))
  exact fv_182 (fun v _ => k v)
theorem fs_37 {n p t j i : Nat} {x2 : Int32} {s : ps_S} {R : Nat → ps_S → Prop} (hp : p = 50 ∨ p = 460) (ht : ps_is t 8 = true) (h9 : t < 900) (hx : x2.toInt = j) (hj : j < 3) (hn : (ps_a s (t + 1) j).toInt = i) (hi : i < 40) (k : R (stc p i) s) : pl_Cl n 37 [.ref p, .ref t, .int x2] s (ps_rA R) := by
  cases n with
  | zero => exact pl_At_0
  | succ n =>
  show pl_At (n + 1) 37 0 [(0, .ref p), (1, .ref t), (2, .int x2)] [] s (ps_rA R)
  exact pl_37_0 (fs_121 ht h9 hx hj (fs_33 hp hn hi k))
theorem fs_37o {n p t : Nat} {x2 : Int32} {s : ps_S} {R : Nat → ps_S → Prop} (k : ∀ v, R v s) : pl_Cl n 37 [.ref p, .ref t, .int x2] s (ps_rA R) := by
  cases n with
  | zero => exact pl_At_0
  | succ n =>
  show pl_At (n + 1) 37 0 [(0, .ref p), (1, .ref t), (2, .int x2)] [] s (ps_rA R)
  exact pl_37_0 (fs_121o (fun v => fs_33o k))
theorem fs_122 {n t j : Nat} {x1 : Int32} {s : ps_S} {R : Int32 → ps_S → Prop} (ht : ps_is t 8 = true) (h9 : t < 900) (hx : x1.toInt = j) (hj : j < 12) (hc : (j : Int) < (ps_i s t 8).toInt) (k : R (ps_a s (t + 8) j) s) : pl_Cl n 122 [.ref t, .int x1] s (ps_rI R) := by
  cases n with
  | zero => exact pl_At_0
  | succ n =>
  show pl_At (n + 1) 122 0 [(0, .ref t), (1, .int x1)] [] s (ps_rI R)
  obtain ⟨⟨-, -, -, -, c7⟩, ⟨-, l8⟩, -⟩ := str ht h9
  refine pl_122_0 (pl_nk_i (fun _ => ⟨fun h => ?_, fun h => pl_nk_i (fun _ => ?_)⟩))
  · have h := xle h
    omega
  · rw [c7]
    exact fs_182 hx (by rw [l8]; exact hj) (by rw [l8]; decide) k
/-- one more that is assumed -/
theorem fs_123 {n t m : Nat} {x1 : Int32} {s : ps_S} {R : ps_S → Prop} (ht : ps_is t 8 = true) (h9 : t < 900) (hm : (ps_i s t 8).toInt = m) (k1 : m < 12 → R (ps_ui (ps_ua s (t + 8) m x1) t 8 (ps_i s t 8 + 1))) (k2 : 12 ≤ m → R (ps_ui s t 9 1)) : pl_Cl n 123 [.ref t, .int x1] s (ps_rV R) := by
  cases n with
  | zero => exact pl_At_0
  | succ n =>
  show pl_At (n + 1) 123 0 [(0, .ref t), (1, .int x1)] [] s (ps_rV R)
  obtain ⟨⟨-, -, -, -, c7⟩, ⟨-, l8⟩, -⟩ := str ht h9
  have t0 : (0 : Int32).toInt = 0 := Int32.toInt_zero
  have t12 : (nI (ps_ln (ps_c0 t 7))).toInt = 12 := by rw [c7, l8]; decide
  refine pl_123_0 (pl_nk_i (fun _ => ⟨fun h => ?_, fun h => pl_nk_i (fun _ => pl_nk_i (fun _ => pl_nk_i (fun _ => ⟨fun h2 => pl_nk_i (fun _ => k2 ?_), fun h2 => pl_nk_i (fun _ => pl_nk_i (fun _ => pl_nk_i (fun _ => ?_)))⟩)))⟩))
  · have h := xlt h
    omega
  · have h2 := xle h2
    omega
  · have h2 := xlt h2
    intro b
    refine pl_nk_i (fun _ => pl_nk_i (fun _ => ?_))
    rw [xtn hm, c7]
    exact k1 (by omega)
theorem fs_124 {n t q : Nat} {s : ps_S} {R : ps_S → Prop} (hd : q ≠ t) (k : R (ps_uj (ps_ui (ps_ui s t 10 (ps_i s t 10 ||| ps_i s q 10)) t 11 (ps_i s t 11 ||| ps_i s q 11)) t 12 (ps_j s t 12 ||| ps_j s q 12))) : pl_Cl n 124 [.ref t, .ref q] s (ps_rV R) := by
  cases n with
  | zero => exact pl_At_0
  | succ n =>
  show pl_At (n + 1) 124 0 [(0, .ref t), (1, .ref q)] [] s (ps_rV R)
  refine pl_124_0 (pl_nk_i (fun _ => pl_nk_i (fun _ => pl_nk_i (fun _ => pl_nk_i (fun _ => pl_nk_i (fun _ => pl_nk_i (fun _ => pl_nk_i (fun _ => pl_nk_i (fun _ => pl_nk_i (fun _ => ?_))))))))))
  have e1 : ps_i (ps_ui s t 10 (ps_i s t 10 ||| ps_i s q 10)) t 11 = ps_i s t 11 := by rw [ps_i_ui, if_neg (by omega)]
  have e2 : ps_i (ps_ui s t 10 (ps_i s t 10 ||| ps_i s q 10)) q 11 = ps_i s q 11 := by rw [ps_i_ui, if_neg (by omega)]
  rw [e1, e2]
  exact k
/-! rows -/
/-- like rows -/
theorem fs_98_29 {r q : Nat} {la lb : List Nat} {s : ps_S} {R : Int32 → ps_S → Prop} (hr : ps_is r 5 = true) (hq : ps_is q 5 = true) (Wa : cv_W s r la) (Wb : cv_W s q lb) (hl : la.length = lb.length) (k1 : la = lb → R 1 s) (k0 : ¬ la = lb → R 0 s) : ∀ (n : Nat) {x2 : Int32} {i : Nat}, x2.toInt = i → i ≤ la.length → (∀ j, j < i → la[j]? = lb[j]?) → pl_At n 98 29 [(0, .ref r), (1, .ref q), (2, .int x2)] [] s (ps_rI R)
  | 0, _, _, _, _, _ => pl_At_0
  | n + 1, x2, i, hx, hi, hj => by
    have h40 := Wa.2.2.1
    have hsz := Wa.1
    refine pl_98_29 (pl_nk_i (fun _ => ⟨fun z => k1 ?_, fun z => ?_⟩))
    · have z := xle z
      refine List.ext_getElem? (fun j => ?_)
      rcases Nat.lt_or_ge j i with y | y
      · exact hj j y
      · rw [List.getElem?_eq_none (by omega), List.getElem?_eq_none (by omega)]
    · have z := xlt z
      obtain ⟨c, hc⟩ : ∃ c, la[i]? = some c := ⟨_, List.getElem?_eq_getElem (by omega)⟩
      obtain ⟨d, hd⟩ : ∃ d, lb[i]? = some d := ⟨_, List.getElem?_eq_getElem (by omega)⟩
      refine fs_92c hr Wa hx hc (fun v1 q1 => fs_92c hq Wb hx hd (fun v2 q2 => ⟨fun y => ?_, fun y => k0 (fun e => ?_)⟩))
      · have y := xeq y
        refine fs_98_29 hr hq Wa Wb hl k1 k0 n (xj1 hx (by omega)) (by omega) (fun j hj2 => ?_)
        rcases Nat.lt_or_ge j i with w | w
        · exact hj j w
        · rw [show j = i from by omega, hc, hd, show c = d from by omega]
      · have y := xne y
        rw [e, hd] at hc
        cases hc
        exact y (by rw [q1, q2])
theorem fs_98 {n r q : Nat} {la lb : List Nat} {s : ps_S} {R : Int32 → ps_S → Prop} (hr : ps_is r 5 = true) (hq : ps_is q 5 = true) (Wa : CW s r la) (Wb : CW s q lb) (h : la.length ≤ 40 ∨ lb.length ≤ 40) (k1 : la = lb → R 1 s) (k0 : ¬ la = lb → R 0 s) : pl_Cl n 98 [.ref r, .ref q] s (ps_rI R) := by
  cases n with
  | zero => exact pl_At_0
  | succ n =>
  show pl_At (n + 1) 98 0 [(0, .ref r), (1, .ref q)] [] s (ps_rI R)
  refine pl_98_0 (pl_nk_i (fun _ => ⟨fun z => k0 (fun e => ?_), fun z => pl_nk_i (fun _ => ⟨fun z2 => k0 (fun e => ?_), fun z2 => pl_nk_i (fun _ => pl_nk_i (fun _ => ⟨fun z3 => ?_, fun z3 => k0 (fun e => ?_)⟩))⟩)⟩))
  · rw [e] at h
    exact z (Wa.2.1 (by rw [e]; omega)).2.1
  · rw [e] at h
    exact z2 (Wb.2.1 (by omega)).2.1
  · have a40 : la.length ≤ 40 := by
      rcases Nat.lt_or_ge 40 la.length with y | y
      · exact absurd z (Wa.2.2 y)
      · exact y
    have b40 : lb.length ≤ 40 := by
      rcases Nat.lt_or_ge 40 lb.length with y | y
      · exact absurd z2 (Wb.2.2 y)
      · exact y
    have Va := Wa.2.1 a40
    have Vb := Wb.2.1 b40
    have z3 := xeq z3
    exact fs_98_29 hr hq Va Vb (by have := Va.1; have := Vb.1; omega) k1 k0 n (i := 0) rfl (Nat.zero_le _) (fun j hj => absurd hj (Nat.not_lt_zero _))
  · have z3 := xne z3
    have e1 := Wa.1
    have e2 := Wb.1
    rw [e] at e1
    exact z3 (e1.trans e2.symm)
theorem fs_100_2 {r c : Nat} {l : List Nat} {x1 : Int32} {s : ps_S} {R : Int32 → ps_S → Prop} (hr : ps_is r 5 = true) (W : cv_W s r l) (h1 : x1.toInt = c) (k1 : l.contains c = true → R 1 s) (k0 : ¬ l.contains c = true → R 0 s) : ∀ (n : Nat) {x2 : Int32} {i : Nat}, x2.toInt = i → (∀ j, j < i → l[j]? ≠ some c) → pl_At n 100 2 [(0, .ref r), (1, .int x1), (2, .int x2)] [] s (ps_rI R)
  | 0, _, _, _, _ => pl_At_0
  | n + 1, x2, i, hx, hj => by
    have h40 := W.2.2.1
    have hsz := W.1
    refine pl_100_2 (pl_nk_i (fun _ => ⟨fun z => k0 (fun y => ?_), fun z => ?_⟩))
    · have z := xle z
      obtain ⟨j, hj2⟩ := List.mem_iff_getElem?.mp (List.contains_iff_mem.mp y)
      have := (List.getElem?_eq_some_iff.mp hj2).1
      exact hj j (by omega) hj2
    · have z := xlt z
      obtain ⟨d, hd⟩ : ∃ d, l[i]? = some d := ⟨_, List.getElem?_eq_getElem (by omega)⟩
      refine fs_92c hr W hx hd (fun v1 q1 => ⟨fun y => ?_, fun y => k1 ?_⟩)
      · have y := xne y
        refine fs_100_2 hr W h1 k1 k0 n (xj1 hx (by omega)) (fun j hj2 => ?_)
        rcases Nat.lt_or_ge j i with w | w
        · exact hj j w
        · rw [show j = i from by omega, hd]
          intro e
          cases e
          exact y (by rw [q1, h1])
      · have y := xeq y
        have e : d = c := by omega
        subst e
        exact List.contains_iff_mem.mpr (List.mem_of_getElem? hd)
theorem fs_100 {n r c : Nat} {l : List Nat} {x1 : Int32} {s : ps_S} {R : Int32 → ps_S → Prop} (hr : ps_is r 5 = true) (W : cv_W s r l) (h1 : x1.toInt = c) (k1 : l.contains c = true → R 1 s) (k0 : ¬ l.contains c = true → R 0 s) : pl_Cl n 100 [.ref r, .int x1] s (ps_rI R) := by
  cases n with
  | zero => exact pl_At_0
  | succ n =>
  show pl_At (n + 1) 100 0 [(0, .ref r), (1, .int x1)] [] s (ps_rI R)
  exact pl_100_0 (fs_100_2 hr W h1 k1 k0 n (i := 0) rfl (fun j hj => absurd hj (Nat.not_lt_zero _)))
theorem fs_101_2 {r : Nat} {l : List Nat} {s : ps_S} {R : Int32 → ps_S → Prop} (hr : ps_is r 5 = true) (W : cv_W s r l) (k1 : (∃ c, c ∈ l ∧ 60 ≤ c) → R 1 s) (k0 : (∀ c, c ∈ l → c < 60) → R 0 s) : ∀ (n : Nat) {x1 : Int32} {i : Nat}, x1.toInt = i → (∀ j c, j < i → l[j]? = some c → c < 60) → pl_At n 101 2 [(0, .ref r), (1, .int x1)] [] s (ps_rI R)
  | 0, _, _, _, _ => pl_At_0
  | n + 1, x1, i, hx, hj => by
    have h40 := W.2.2.1
    have hsz := W.1
    have c60 : (60 : Int32).toInt = 60 := by decide
    refine pl_101_2 (pl_nk_i (fun _ => ⟨fun z => k0 (fun c hc => ?_), fun z => ?_⟩))
    · have z := xle z
      obtain ⟨j, hj2⟩ := List.mem_iff_getElem?.mp hc
      have := (List.getElem?_eq_some_iff.mp hj2).1
      exact hj j c (by omega) hj2
    · have z := xlt z
      obtain ⟨d, hd⟩ : ∃ d, l[i]? = some d := ⟨_, List.getElem?_eq_getElem (by omega)⟩
      refine fs_92c hr W hx hd (fun v1 q1 => ⟨fun y => ?_, fun y => k1 ?_⟩)
      · have y := xlt y
        refine fs_101_2 hr W k1 k0 n (xj1 hx (by omega)) (fun j c hj2 hc => ?_)
        rcases Nat.lt_or_ge j i with w | w
        · exact hj j c w hc
        · rw [show j = i from by omega, hd] at hc
          cases hc
          omega
      · have y := xle y
        exact ⟨d, List.mem_of_getElem? hd, by omega⟩
theorem fs_101 {n r : Nat} {l : List Nat} {s : ps_S} {R : Int32 → ps_S → Prop} (hr : ps_is r 5 = true) (W : cv_W s r l) (k1 : (∃ c, c ∈ l ∧ 60 ≤ c) → R 1 s) (k0 : (∀ c, c ∈ l → c < 60) → R 0 s) : pl_Cl n 101 [.ref r] s (ps_rI R) := by
  cases n with
  | zero => exact pl_At_0
  | succ n =>
  show pl_At (n + 1) 101 0 [(0, .ref r)] [] s (ps_rI R)
  exact pl_101_0 (fs_101_2 hr W k1 k0 n (i := 0) rfl (fun j c hj => absurd hj (Nat.not_lt_zero _)))
theorem fs_96 {n r r1 a b : Nat} {l : List Nat} {x2 x3 : Int32} {s : ps_S} {R : ps_S → Prop} (hr : ps_is r 5 = true) (hr1 : ps_is r1 5 = true) (hd : r1 ≠ r ∧ r1 ≠ r + 1 ∧ r1 + 1 ≠ r) (W : cv_W s r1 l) (h2 : x2.toInt = a) (h3 : x3.toInt = b) (hb : b ≤ l.length) (k : ∀ s', cv_W s' r ((l.drop a).take (b - a)) → cfr (C2 r) s s' → R s') : pl_Cl n 96 [.ref r, .ref r1, .int x2, .int x3] s (ps_rV R) := by
  cases n with
  | zero => exact pl_At_0
  | succ n =>
  show pl_At (n + 1) 96 0 [(0, .ref r), (1, .ref r1), (2, .int x2), (3, .int x3)] [] s (ps_rV R)
  have h40 := W.2.2.1
  have F1 : cfr (C2 r) s (ps_ui (ps_ui s r 1 0) r 2 0) := cfr_i (cfr_i cfr_refl (Or.inl rfl)) (Or.inl rfl)
  refine pl_96_0 (fs_91 ?_)
  refine fs_94w (a := a) (b := b) hr hr1 hd (cv_W_cfr W F1 (by unfold C2; omega) (by unfold C2; omega)) (CW_of CW_0) h2 h3 hb (fun s2 C F2 => k s2 ?_ (cfr_tr F1 F2))
  rw [List.nil_append] at C
  exact C.2.1 (by rw [List.length_take, List.length_drop]; omega)
theorem fs_97 {n r r2 r3 c : Nat} {l2 l3 : List Nat} {x1 : Int32} {s : ps_S} {R : ps_S → Prop} (hr : ps_is r 5 = true) (hr2 : ps_is r2 5 = true) (hr3 : ps_is r3 5 = true) (hd2 : r2 ≠ r ∧ r2 ≠ r + 1 ∧ r2 + 1 ≠ r) (hd3 : r3 ≠ r ∧ r3 ≠ r + 1 ∧ r3 + 1 ≠ r) (W2 : cv_W s r2 l2) (W3 : cv_W s r3 l3) (h1 : x1.toInt = c) (k : ∀ s', CW s' r (c :: (l2 ++ l3)) → cfr (C2 r) s s' → R s') : pl_Cl n 97 [.ref r, .int x1, .ref r2, .ref r3] s (ps_rV R) := by
  cases n with
  | zero => exact pl_At_0
  | succ n =>
  show pl_At (n + 1) 97 0 [(0, .ref r), (1, .int x1), (2, .ref r2), (3, .ref r3)] [] s (ps_rV R)
  have F1 : cfr (C2 r) s (ps_ui (ps_ui s r 1 0) r 2 0) := cfr_i (cfr_i cfr_refl (Or.inl rfl)) (Or.inl rfl)
  refine pl_97_0 (fs_91 ?_)
  refine fs_93w hr (CW_of CW_0) h1 (fun s2 C2' F2 => pl_nk_i (fun _ => ?_))
  have F2' := cfr_tr F1 F2
  have Wa := cv_W_cfr W2 F2' (by unfold C2; omega) (by unfold C2; omega)
  refine fs_94w (a := 0) (b := l2.length) hr hr2 hd2 Wa C2' rfl Wa.1 (Nat.le_refl _) (fun s3 C3 F3 => pl_nk_i (fun _ => ?_))
  have F3' := cfr_tr F2' F3
  have Wb := cv_W_cfr W3 F3' (by unfold C2; omega) (by unfold C2; omega)
  refine fs_94w (a := 0) (b := l3.length) hr hr3 hd3 Wb C3 rfl Wb.1 (Nat.le_refl _) (fun s4 C4 F4 => k s4 ?_ (cfr_tr F3' F4))
  rw [List.drop_zero, Nat.sub_zero, List.take_length, List.drop_zero, Nat.sub_zero, List.take_length, List.nil_append, List.append_assoc] at C4
  exact C4
/-! how many numbers, how many premises -/
theorem fs_115 {n r : Nat} {x0 : Int32} {s : ps_S} {R : Int32 → ps_S → Prop} (hx : x0.toInt = r) (ho : tp_ok r) (k : ∀ v : Int32, v.toInt = (tp_nn r : Nat) → R v s) : pl_Cl n 115 [.int x0] s (ps_rI R) := by
  cases n with
  | zero => exact pl_At_0
  | succ n =>
  show pl_At (n + 1) 115 0 [(0, .int x0)] [] s (ps_rI R)
  refine pl_115_0 ?_
  refine ⟨fun h1_6 => ?_, fun h1_6 => ?_⟩
  · have h1_6 : x0.toInt = (6 : Int) := xeq h1_6
    refine k _ ?_
    unfold tp_nn
    rw [if_pos (by omega)]
    rfl
  have h1_6 : x0.toInt ≠ (6 : Int) := xne h1_6
  refine ⟨fun h1_7 => ?_, fun h1_7 => ?_⟩
  · have h1_7 : x0.toInt = (7 : Int) := xeq h1_7
    refine k _ ?_
    unfold tp_ok at ho
    unfold tp_nn
    rw [if_neg (by omega), if_neg (by omega), if_neg (by omega)]
    rfl
  have h1_7 : x0.toInt ≠ (7 : Int) := xne h1_7
  refine ⟨fun h1_8 => ?_, fun h1_8 => ?_⟩
  · have h1_8 : x0.toInt = (8 : Int) := xeq h1_8
    refine k _ ?_
    unfold tp_ok at ho
    unfold tp_nn
    rw [if_neg (by omega), if_neg (by omega), if_neg (by omega)]
    rfl
  have h1_8 : x0.toInt ≠ (8 : Int) := xne h1_8
  refine ⟨fun h1_9 => ?_, fun h1_9 => ?_⟩
  · have h1_9 : x0.toInt = (9 : Int) := xeq h1_9
    refine k _ ?_
    unfold tp_ok at ho
    unfold tp_nn
    rw [if_neg (by omega), if_neg (by omega), if_neg (by omega)]
    rfl
  have h1_9 : x0.toInt ≠ (9 : Int) := xne h1_9
  refine ⟨fun h1_10 => ?_, fun h1_10 => ?_⟩
  · have h1_10 : x0.toInt = (10 : Int) := xeq h1_10
    refine k _ ?_
    unfold tp_nn
    rw [if_pos (by omega)]
    rfl
  have h1_10 : x0.toInt ≠ (10 : Int) := xne h1_10
  refine ⟨fun h1_11 => ?_, fun h1_11 => ?_⟩
  · have h1_11 : x0.toInt = (11 : Int) := xeq h1_11
    refine k _ ?_
    unfold tp_nn
    rw [if_pos (by omega)]
    rfl
  have h1_11 : x0.toInt ≠ (11 : Int) := xne h1_11
  refine ⟨fun h1_12 => ?_, fun h1_12 => ?_⟩
  · have h1_12 : x0.toInt = (12 : Int) := xeq h1_12
    refine k _ ?_
    unfold tp_ok at ho
    unfold tp_nn
    rw [if_neg (by omega), if_neg (by omega), if_neg (by omega)]
    rfl
  have h1_12 : x0.toInt ≠ (12 : Int) := xne h1_12
  refine ⟨fun h1_13 => ?_, fun h1_13 => ?_⟩
  · have h1_13 : x0.toInt = (13 : Int) := xeq h1_13
    refine k _ ?_
    unfold tp_nn
    rw [if_neg (by omega), if_pos (by omega)]
    rfl
  have h1_13 : x0.toInt ≠ (13 : Int) := xne h1_13
  refine ⟨fun h1_14 => ?_, fun h1_14 => ?_⟩
  · have h1_14 : x0.toInt = (14 : Int) := xeq h1_14
    refine k _ ?_
    unfold tp_ok at ho
    unfold tp_nn
    rw [if_neg (by omega), if_neg (by omega), if_neg (by omega)]
    rfl
  have h1_14 : x0.toInt ≠ (14 : Int) := xne h1_14
  refine ⟨fun h1_15 => ?_, fun h1_15 => ?_⟩
  · have h1_15 : x0.toInt = (15 : Int) := xeq h1_15
    refine k _ ?_
    unfold tp_ok at ho
    unfold tp_nn
    rw [if_neg (by omega), if_neg (by omega), if_neg (by omega)]
    rfl
  have h1_15 : x0.toInt ≠ (15 : Int) := xne h1_15
  refine ⟨fun h1_16 => ?_, fun h1_16 => ?_⟩
  · have h1_16 : x0.toInt = (16 : Int) := xeq h1_16
    refine k _ ?_
    unfold tp_ok at ho
    unfold tp_nn
    rw [if_neg (by omega), if_neg (by omega), if_neg (by omega)]
    rfl
  have h1_16 : x0.toInt ≠ (16 : Int) := xne h1_16
  refine ⟨fun h1_17 => ?_, fun h1_17 => ?_⟩
  · have h1_17 : x0.toInt = (17 : Int) := xeq h1_17
    refine k _ ?_
    unfold tp_ok at ho
    unfold tp_nn
    rw [if_neg (by omega), if_neg (by omega), if_neg (by omega)]
    rfl
  have h1_17 : x0.toInt ≠ (17 : Int) := xne h1_17
  refine ⟨fun h1_18 => ?_, fun h1_18 => ?_⟩
  · have h1_18 : x0.toInt = (18 : Int) := xeq h1_18
    refine k _ ?_
    unfold tp_nn
    rw [if_neg (by omega), if_neg (by omega), if_pos (by omega)]
    rfl
  have h1_18 : x0.toInt ≠ (18 : Int) := xne h1_18
  refine ⟨fun h1_19 => ?_, fun h1_19 => ?_⟩
  · have h1_19 : x0.toInt = (19 : Int) := xeq h1_19
    refine k _ ?_
    unfold tp_nn
    rw [if_neg (by omega), if_pos (by omega)]
    rfl
  have h1_19 : x0.toInt ≠ (19 : Int) := xne h1_19
  refine ⟨fun h1_20 => ?_, fun h1_20 => ?_⟩
  · have h1_20 : x0.toInt = (20 : Int) := xeq h1_20
    refine k _ ?_
    unfold tp_ok at ho
    unfold tp_nn
    rw [if_neg (by omega), if_neg (by omega), if_neg (by omega)]
    rfl
  have h1_20 : x0.toInt ≠ (20 : Int) := xne h1_20
  refine ⟨fun h1_21 => ?_, fun h1_21 => ?_⟩
  · have h1_21 : x0.toInt = (21 : Int) := xeq h1_21
    refine k _ ?_
    unfold tp_ok at ho
    unfold tp_nn
    rw [if_neg (by omega), if_neg (by omega), if_neg (by omega)]
    rfl
  have h1_21 : x0.toInt ≠ (21 : Int) := xne h1_21
  refine ⟨fun h1_22 => ?_, fun h1_22 => ?_⟩
  · have h1_22 : x0.toInt = (22 : Int) := xeq h1_22
    refine k _ ?_
    unfold tp_ok at ho
    unfold tp_nn
    rw [if_neg (by omega), if_neg (by omega), if_neg (by omega)]
    rfl
  have h1_22 : x0.toInt ≠ (22 : Int) := xne h1_22
  refine ⟨fun h1_23 => ?_, fun h1_23 => ?_⟩
  · have h1_23 : x0.toInt = (23 : Int) := xeq h1_23
    refine k _ ?_
    unfold tp_ok at ho
    unfold tp_nn
    rw [if_neg (by omega), if_neg (by omega), if_neg (by omega)]
    rfl
  have h1_23 : x0.toInt ≠ (23 : Int) := xne h1_23
  refine ⟨fun h1_24 => ?_, fun h1_24 => ?_⟩
  · have h1_24 : x0.toInt = (24 : Int) := xeq h1_24
    refine k _ ?_
    unfold tp_nn
    rw [if_neg (by omega), if_pos (by omega)]
    rfl
  have h1_24 : x0.toInt ≠ (24 : Int) := xne h1_24
  refine ⟨fun h1_25 => ?_, fun h1_25 => ?_⟩
  · have h1_25 : x0.toInt = (25 : Int) := xeq h1_25
    refine k _ ?_
    unfold tp_nn
    rw [if_neg (by omega), if_pos (by omega)]
    rfl
  have h1_25 : x0.toInt ≠ (25 : Int) := xne h1_25
  refine k _ ?_
  unfold tp_ok at ho
  unfold tp_nn
  rw [if_neg (by omega), if_neg (by omega), if_neg (by omega)]
  rfl
theorem fs_116 {n r : Nat} {x0 : Int32} {s : ps_S} {R : Int32 → ps_S → Prop} (hx : x0.toInt = r) (ho : tp_ok r) (k : ∀ v : Int32, v.toInt = (tq_np r : Nat) → R v s) : pl_Cl n 116 [.int x0] s (ps_rI R) := by
  cases n with
  | zero => exact pl_At_0
  | succ n =>
  show pl_At (n + 1) 116 0 [(0, .int x0)] [] s (ps_rI R)
  have c12 : (12 : Int32).toInt = 12 := by decide
  unfold tq_np at k
  refine pl_116_0 ⟨fun z => ?_, fun z => ?_⟩
  · have z := xne z
    refine fs_115 hx ho (fun v q => k v ?_)
    rw [if_neg (by omega)]
    exact q
  · have z := xeq z
    refine k _ ?_
    rw [if_pos (by omega)]
    rfl
theorem fs_32 {n p : Nat} {x1 : Int32} {s : ps_S} {R : Int32 → ps_S → Prop} (k1 : 0 ≤ x1.toInt → x1.toInt < (ps_i s p 8).toInt → R 1 s) (k0 : ¬ (0 ≤ x1.toInt ∧ x1.toInt < (ps_i s p 8).toInt) → R 0 s) : pl_Cl n 32 [.ref p, .int x1] s (ps_rI R) := by
  cases n with
  | zero => exact pl_At_0
  | succ n =>
  show pl_At (n + 1) 32 0 [(0, .ref p), (1, .int x1)] [] s (ps_rI R)
  have t0 : (0 : Int32).toInt = 0 := Int32.toInt_zero
  refine pl_32_0 ⟨fun z => ?_, fun z => pl_nk_i (fun _ => ⟨fun z2 => ?_, fun z2 => ?_⟩)⟩
  · have z := xlt z
    exact k0 (fun y => by omega)
  · have z2 := xle z2
    exact k0 (fun y => by omega)
  · have z := xle z
    have z2 := xlt z2
    exact k1 (by omega) z2
end
section
set_option maxRecDepth 100000
/-! the class: a step is made, less its premises' assumptions -/
-- ProofBench$Shelf.has(I)Z
theorem pl_109_0 {n : Nat} {r0 : Nat} {x1 : Int32} {s : ps_S} {Q : Option Value → ps_S → Prop} (h :
  (x1 < 0 →
    Q (some (.int 0)) s) ∧
  (0 ≤ x1 →
    pl_nk (ps_is r0 7) (((ps_i s r0 5) ≤ x1 →
      Q (some (.int 0)) s) ∧
    (x1 < (ps_i s r0 5) →
      Q (some (.int 1)) s)))) : pl_At (n + 1) 109 0 [(0, .ref r0), (1, .int x1)] [] s Q :=
  pl_wp_at (stops := []) (f := 15) h rfl

-- ProofBench$Shelf.rowAt(I)LProofBench$Row;
theorem pl_110_0 {n : Nat} {r0 : Nat} {x1 : Int32} {s : ps_S} {Q : Option Value → ps_S → Prop} (h :
  (x1 < 0 →
    pl_nk (ps_is r0 7) (Q (some (.ref (ps_c0 r0 1))) s)) ∧
  (0 ≤ x1 →
    pl_nk (ps_is r0 7) (pl_nk (Nat.beq (ps_K (ps_c0 r0 0)).1 0) (((nI (ps_ln (ps_c0 r0 0))) ≤ x1 →
      pl_nk (ps_is r0 7) (Q (some (.ref (ps_c0 r0 1))) s)) ∧
    (x1 < (nI (ps_ln (ps_c0 r0 0))) →
      pl_nk (ps_is r0 7) (pl_nk (ps_ar (ps_c0 r0 0) 4 || ps_ar (ps_c0 r0 0) 5 || ps_ar (ps_c0 r0 0) 6 || ps_ar (ps_c0 r0 0) 7) ((pm_in x1 (ps_ln (ps_c0 r0 0)) = true →
        Q (some (.ref (ps_e0 (ps_c0 r0 0) (Int32.toNatClampNeg x1)))) s)))))))) : pl_At (n + 1) 110 0 [(0, .ref r0), (1, .int x1)] [] s Q :=
  pl_wp_at (stops := []) (f := 21) h rfl

-- ProofBench$Proof.assumes(LProofBench$Step;LProofBench$Row;)Z
theorem pl_40_0 {n : Nat} {r0 : Nat} {r1 : Nat} {r2 : Nat} {s : ps_S} {Q : Option Value → ps_S → Prop} (h :
  pl_At n 40 2 [(0, .ref r0), (1, .ref r1), (2, .ref r2), (3, .int 0)] [] s Q) : pl_At (n + 1) 40 0 [(0, .ref r0), (1, .ref r1), (2, .ref r2)] [] s Q :=
  pl_wp_at (stops := [(2, [0, 1, 2, 3])]) (f := 4) h rfl

theorem pl_40_2 {n : Nat} {r0 : Nat} {r1 : Nat} {r2 : Nat} {x3 : Int32} {s : ps_S} {Q : Option Value → ps_S → Prop} (h :
  pl_nk (ps_is r1 8) (((ps_i s r1 8) ≤ x3 →
    Q (some (.int 0)) s) ∧
  (x3 < (ps_i s r1 8) →
    pl_Cl n 122 [.ref r1, .int x3] s (ps_rI (fun v1 s1 =>
      pl_Cl n 33 [.ref r0, .int v1] s1 (ps_rA (fun v2 s2 =>
        pl_nk (ps_is v2 8) (pl_Cl n 98 [.ref (ps_c0 v2 6), .ref r2] s2 (ps_rI (fun v3 s3 =>
          (v3 = 0 →
            pl_At n 40 2 [(0, .ref r0), (1, .ref r1), (2, .ref r2), (3, .int (x3 + 1))] [] s3 Q) ∧
          (v3 ≠ 0 →
            Q (some (.int 1)) s3))))))))))) : pl_At (n + 1) 40 2 [(0, .ref r0), (1, .ref r1), (2, .ref r2), (3, .int x3)] [] s Q :=
  pl_wp_at (stops := [(2, [0, 1, 2, 3])]) (f := 21) h rfl

-- ProofBench$Proof.gather(LProofBench$Step;LProofBench$Step;LProofBench$Row;)V
theorem pl_39_0 {n : Nat} {r0 : Nat} {r1 : Nat} {r2 : Nat} {r3 : Nat} {s : ps_S} {Q : Option Value → ps_S → Prop} (h :
  pl_At n 39 3 [(0, .ref r0), (1, .ref r1), (2, .ref r2), (3, .ref r3), (4, .int 0)] [] s Q) : pl_At (n + 1) 39 0 [(0, .ref r0), (1, .ref r1), (2, .ref r2), (3, .ref r3)] [] s Q :=
  pl_wp_at (stops := [(3, [0, 1, 2, 3, 4])]) (f := 4) h rfl

theorem pl_39_3 {n : Nat} {r0 : Nat} {r1 : Nat} {r2 : Nat} {r3 : Nat} {x4 : Int32} {s : ps_S} {Q : Option Value → ps_S → Prop} (h :
  pl_nk (ps_is r2 8) (((ps_i s r2 8) ≤ x4 →
    Q none s) ∧
  (x4 < (ps_i s r2 8) →
    pl_Cl n 122 [.ref r2, .int x4] s (ps_rI (fun v1 s1 =>
      pl_Cl n 33 [.ref r0, .int v1] s1 (ps_rA (fun v2 s2 =>
        pl_nk (ps_is v2 8) (pl_Cl n 98 [.ref (ps_c0 v2 6), .ref r3] s2 (ps_rI (fun v3 s3 =>
          (v3 ≠ 0 →
            pl_At n 39 3 [(0, .ref r0), (1, .ref r1), (2, .ref r2), (3, .ref r3), (4, .int (x4 + 1))] [] s3 Q) ∧
          (v3 = 0 →
            pl_Cl n 40 [.ref r0, .ref r1, .ref (ps_c0 v2 6)] s3 (ps_rI (fun v4 s4 =>
              (v4 ≠ 0 →
                pl_At n 39 3 [(0, .ref r0), (1, .ref r1), (2, .ref r2), (3, .ref r3), (4, .int (x4 + 1))] [] s4 Q) ∧
              (v4 = 0 →
                pl_Cl n 123 [.ref r1, .int v1] s4 (ps_rV (fun s5 =>
                  pl_At n 39 3 [(0, .ref r0), (1, .ref r1), (2, .ref r2), (3, .ref r3), (4, .int (x4 + 1))] [] s5 Q)))))))))))))))) : pl_At (n + 1) 39 3 [(0, .ref r0), (1, .ref r1), (2, .ref r2), (3, .ref r3), (4, .int x4)] [] s Q :=
  pl_wp_at (stops := [(3, [0, 1, 2, 3, 4])]) (f := 34) h rfl

-- ProofBench$Proof.hasPremises(LProofBench$Step;ILProofBench$Shelf;)Z
theorem pl_36_0 {n : Nat} {r0 : Nat} {r1 : Nat} {x2 : Int32} {r3 : Nat} {s : ps_S} {Q : Option Value → ps_S → Prop} (h :
  pl_nk (ps_is r1 8) (((ps_i s r1 0) ≠ 12 →
    pl_At n 36 22 [(1, .ref r1), (2, .int x2), (4, .int 0)] [] s Q) ∧
  ((ps_i s r1 0) = 12 →
    pl_Cl n 121 [.ref r1, .int 0] s (ps_rI (fun v1 s1 =>
      pl_Cl n 109 [.ref r3, .int v1] s1 (ps_rI (fun v2 s2 =>
        pl_nk (decide (v2 &&& 1 = v2)) (Q (some (.int v2)) s2)))))))) : pl_At (n + 1) 36 0 [(0, .ref r0), (1, .ref r1), (2, .int x2), (3, .ref r3)] [] s Q :=
  pl_wp_at (stops := [(22, [1, 2, 4])]) (f := 14) h rfl

theorem pl_36_22 {n : Nat} {r1 : Nat} {x2 : Int32} {x4 : Int32} {s : ps_S} {Q : Option Value → ps_S → Prop} (h :
  pl_nk (ps_is r1 8) (pl_Cl n 116 [.int (ps_i s r1 0)] s (ps_rI (fun v1 s1 =>
    (v1 ≤ x4 →
      Q (some (.int 1)) s1) ∧
    (x4 < v1 →
      pl_Cl n 121 [.ref r1, .int x4] s1 (ps_rI (fun v2 s2 =>
        (v2 < x2 →
          pl_At n 36 22 [(1, .ref r1), (2, .int x2), (4, .int (x4 + 1))] [] s2 Q) ∧
        (x2 ≤ v2 →
          Q (some (.int 0)) s2)))))))) : pl_At (n + 1) 36 22 [(1, .ref r1), (2, .int x2), (4, .int x4)] [] s Q :=
  pl_wp_at (stops := [(22, [1, 2, 4])]) (f := 18) h rfl

-- ProofBench$Proof.isFreeInAssumed(LProofBench$Step;ILProofBench$Row;)Z
theorem pl_51_0 {n : Nat} {r0 : Nat} {r1 : Nat} {x2 : Int32} {r3 : Nat} {s : ps_S} {Q : Option Value → ps_S → Prop} (h :
  pl_At n 51 3 [(0, .ref r0), (1, .ref r1), (2, .int x2), (3, .ref r3), (4, .int 0)] [] s Q) : pl_At (n + 1) 51 0 [(0, .ref r0), (1, .ref r1), (2, .int x2), (3, .ref r3)] [] s Q :=
  pl_wp_at (stops := [(3, [0, 1, 2, 3, 4])]) (f := 4) h rfl

theorem pl_51_3 {n : Nat} {r0 : Nat} {r1 : Nat} {x2 : Int32} {r3 : Nat} {x4 : Int32} {s : ps_S} {Q : Option Value → ps_S → Prop} (h :
  pl_nk (ps_is r1 8) (((ps_i s r1 8) ≤ x4 →
    Q (some (.int 0)) s) ∧
  (x4 < (ps_i s r1 8) →
    pl_Cl n 122 [.ref r1, .int x4] s (ps_rI (fun v1 s1 =>
      pl_Cl n 33 [.ref r0, .int v1] s1 (ps_rA (fun v2 s2 =>
        pl_nk (ps_is v2 8) (pl_Cl n 98 [.ref (ps_c0 v2 6), .ref r3] s2 (ps_rI (fun v3 s3 =>
          (v3 ≠ 0 →
            pl_At n 51 3 [(0, .ref r0), (1, .ref r1), (2, .int x2), (3, .ref r3), (4, .int (x4 + 1))] [] s3 Q) ∧
          (v3 = 0 →
            pl_Cl n 100 [.ref (ps_c0 v2 6), .int x2] s3 (ps_rI (fun v4 s4 =>
              (v4 = 0 →
                pl_At n 51 3 [(0, .ref r0), (1, .ref r1), (2, .int x2), (3, .ref r3), (4, .int (x4 + 1))] [] s4 Q) ∧
              (v4 ≠ 0 →
                Q (some (.int 1)) s4)))))))))))))) : pl_At (n + 1) 51 3 [(0, .ref r0), (1, .ref r1), (2, .int x2), (3, .ref r3), (4, .int x4)] [] s Q :=
  pl_wp_at (stops := [(3, [0, 1, 2, 3, 4])]) (f := 29) h rfl

-- ProofBench$Proof.putInto(LProofBench$Row;LProofBench$Row;LProofBench$Row;)V
theorem pl_52_0 {n : Nat} {r0 : Nat} {r1 : Nat} {r2 : Nat} {r3 : Nat} {s : ps_S} {Q : Option Value → ps_S → Prop} (h :
  pl_nk (ps_is r0 2) (pl_nk (ps_is r0 2) (pl_Cl n 103 [.ref (ps_c0 r0 5), .ref r2, .ref (ps_r s r0 6)] s (ps_rV (fun s1 =>
    pl_Cl n 91 [.ref r1] s1 (ps_rV (fun s2 =>
      pl_At n 52 19 [(0, .ref r0), (1, .ref r1), (2, .ref r2), (3, .ref r3), (4, .int 1)] [] s2 Q))))))) : pl_At (n + 1) 52 0 [(0, .ref r0), (1, .ref r1), (2, .ref r2), (3, .ref r3)] [] s Q :=
  pl_wp_at (stops := [(19, [0, 1, 2, 3, 4])]) (f := 12) h rfl

theorem pl_52_19 {n : Nat} {r0 : Nat} {r1 : Nat} {r2 : Nat} {r3 : Nat} {x4 : Int32} {s : ps_S} {Q : Option Value → ps_S → Prop} (h :
  pl_nk (ps_is r2 5) (((ps_i s r2 1) ≤ x4 →
    Q none s) ∧
  (x4 < (ps_i s r2 1) →
    pl_Cl n 92 [.ref r2, .int x4] s (ps_rI (fun v1 s1 =>
      pl_nk (ps_is r0 2) (pl_Cl n 105 [.ref (ps_c0 r0 5), .int x4] s1 (ps_rI (fun v2 s2 =>
        (v1 ≠ (((40 : Int32) + v2) - 1) →
          pl_Cl n 92 [.ref r2, .int x4] s2 (ps_rI (fun v3 s3 =>
            pl_Cl n 93 [.ref r1, .int v3] s3 (ps_rV (fun s4 =>
              pl_At n 52 19 [(0, .ref r0), (1, .ref r1), (2, .ref r2), (3, .ref r3), (4, .int (x4 + 1))] [] s4 Q))))) ∧
        (v1 = (((40 : Int32) + v2) - 1) →
          pl_nk (ps_is r3 5) (pl_Cl n 94 [.ref r1, .ref r3, .int 0, .int (ps_i s2 r3 1)] s2 (ps_rV (fun s5 =>
            pl_At n 52 19 [(0, .ref r0), (1, .ref r1), (2, .ref r2), (3, .ref r3), (4, .int (x4 + 1))] [] s5 Q)))))))))))) : pl_At (n + 1) 52 19 [(0, .ref r0), (1, .ref r1), (2, .ref r2), (3, .ref r3), (4, .int x4)] [] s Q :=
  pl_wp_at (stops := [(19, [0, 1, 2, 3, 4])]) (f := 35) h rfl

-- ProofBench$Proof.generalise(LProofBench$Step;LProofBench$Row;)I
theorem pl_49_0 {n : Nat} {r0 : Nat} {r1 : Nat} {r2 : Nat} {s : ps_S} {Q : Option Value → ps_S → Prop} (h :
  pl_Cl n 37 [.ref r0, .ref r1, .int 0] s (ps_rA (fun v1 s1 =>
    pl_nk (ps_is r1 8) (pl_nk (ps_is r0 2) (pl_Cl n 51 [.ref r0, .ref v1, .int (ps_i s1 r1 3), .ref (ps_c0 r0 3)] s1 (ps_rI (fun v2 s2 =>
      (v2 = 0 →
        pl_nk (ps_is r0 2) (pl_nk (ps_is r0 2) (pl_Cl n 103 [.ref (ps_c0 r0 5), .ref r2, .ref (ps_r s2 r0 6)] s2 (ps_rV (fun s3 =>
          pl_nk (ps_is r1 8) (pl_Cl n 91 [.ref (ps_c0 r1 6)] s3 (ps_rV (fun s4 =>
            pl_nk (ps_is r1 8) (pl_Cl n 93 [.ref (ps_c0 r1 6), .int 4] s4 (ps_rV (fun s5 =>
              pl_At n 49 52 [(0, .ref r0), (1, .ref r1), (2, .ref r2), (3, .int 0)] [] s5 Q))))))))))) ∧
      (v2 ≠ 0 →
        Q (some (.int 3)) s2)))))))) : pl_At (n + 1) 49 0 [(0, .ref r0), (1, .ref r1), (2, .ref r2)] [] s Q :=
  pl_wp_at (stops := [(52, [0, 1, 2, 3])]) (f := 30) h rfl

theorem pl_49_52 {n : Nat} {r0 : Nat} {r1 : Nat} {r2 : Nat} {x3 : Int32} {s : ps_S} {Q : Option Value → ps_S → Prop} (h :
  pl_nk (ps_is r2 5) (((ps_i s r2 1) ≤ x3 →
    Q (some (.int 0)) s) ∧
  (x3 < (ps_i s r2 1) →
    pl_nk (ps_is r1 8) (pl_Cl n 92 [.ref r2, .int x3] s (ps_rI (fun v1 s1 =>
      pl_nk (ps_is r1 8) ((v1 ≠ (ps_i s1 r1 3) →
        pl_Cl n 92 [.ref r2, .int x3] s1 (ps_rI (fun v2 s2 =>
          pl_Cl n 93 [.ref (ps_c0 r1 6), .int v2] s2 (ps_rV (fun s3 =>
            pl_At n 49 52 [(0, .ref r0), (1, .ref r1), (2, .ref r2), (3, .int (x3 + 1))] [] s3 Q))))) ∧
      (v1 = (ps_i s1 r1 3) →
        pl_nk (ps_is r0 2) (pl_Cl n 105 [.ref (ps_c0 r0 5), .int x3] s1 (ps_rI (fun v4 s4 =>
          pl_Cl n 93 [.ref (ps_c0 r1 6), .int ((40 : Int32) + v4)] s4 (ps_rV (fun s5 =>
            pl_At n 49 52 [(0, .ref r0), (1, .ref r1), (2, .ref r2), (3, .int (x3 + 1))] [] s5 Q))))))))))))) : pl_At (n + 1) 49 52 [(0, .ref r0), (1, .ref r1), (2, .ref r2), (3, .int x3)] [] s Q :=
  pl_wp_at (stops := [(52, [0, 1, 2, 3])]) (f := 32) h rfl

-- ProofBench$Proof.isExchanged(LProofBench$Row;LProofBench$Row;LProofBench$Row;)Z
theorem pl_56_0 {n : Nat} {r0 : Nat} {r1 : Nat} {r2 : Nat} {r3 : Nat} {s : ps_S} {Q : Option Value → ps_S → Prop} (h :
  pl_nk (ps_is r0 2) (pl_nk (ps_is r0 2) (pl_Cl n 103 [.ref (ps_c0 r0 5), .ref r2, .ref (ps_r s r0 6)] s (ps_rV (fun s1 =>
    pl_nk (ps_is r0 2) (pl_Cl n 104 [.ref (ps_c0 r0 5), .int 1] s1 (ps_rI (fun v2 s2 =>
      pl_nk (ps_is r2 5) (pl_At n 56 46 [(1, .ref r1), (2, .ref r2), (3, .ref r3), (4, .int v2), (5, .int (v2 - 1)), (6, .int ((ps_i s2 r2 1) - v2)), (7, .int 0), (8, .int 0), (9, .int 0)] [] s2 Q))))))))) : pl_At (n + 1) 56 0 [(0, .ref r0), (1, .ref r1), (2, .ref r2), (3, .ref r3)] [] s Q :=
  pl_wp_at (stops := [(46, [1, 2, 3, 4, 5, 6, 7, 8, 9]), (117, [1, 2, 3, 4, 5, 6, 7, 8, 9]), (149, [1, 3, 7, 8])]) (f := 28) h rfl

theorem pl_56_46 {n : Nat} {r1 : Nat} {r2 : Nat} {r3 : Nat} {x4 : Int32} {x5 : Int32} {x6 : Int32} {x7 : Int32} {x8 : Int32} {x9 : Int32} {s : ps_S} {Q : Option Value → ps_S → Prop} (h :
  (40 ≤ x9 →
    pl_At n 56 149 [(1, .ref r1), (3, .ref r3), (7, .int x7), (8, .int x8)] [] s Q) ∧
  (x9 < 40 →
    pl_nk (ps_is r1 5) (((ps_i s r1 1) ≤ x7 →
      pl_At n 56 149 [(1, .ref r1), (3, .ref r3), (7, .int x7), (8, .int x8)] [] s Q) ∧
    (x7 < (ps_i s r1 1) →
      pl_nk (ps_is r3 5) (((ps_i s r3 1) ≤ x8 →
        pl_At n 56 149 [(1, .ref r1), (3, .ref r3), (7, .int x7), (8, .int x8)] [] s Q) ∧
      (x8 < (ps_i s r3 1) →
        pl_Cl n 99 [.ref r2, .int 1, .int x4, .ref r3, .int x8] s (ps_rI (fun v1 s1 =>
          (v1 = 0 →
            pl_At n 56 117 [(1, .ref r1), (2, .ref r2), (3, .ref r3), (4, .int x4), (5, .int x5), (6, .int x6), (7, .int x7), (8, .int x8), (9, .int x9)] [] s1 Q) ∧
          (v1 ≠ 0 →
            pl_nk (ps_is r2 5) (pl_Cl n 99 [.ref r2, .int x4, .int (ps_i s1 r2 1), .ref r1, .int x7] s1 (ps_rI (fun v2 s2 =>
              (v2 = 0 →
                pl_At n 56 117 [(1, .ref r1), (2, .ref r2), (3, .ref r3), (4, .int x4), (5, .int x5), (6, .int x6), (7, .int x7), (8, .int x8), (9, .int x9)] [] s2 Q) ∧
              (v2 ≠ 0 →
                pl_At n 56 46 [(1, .ref r1), (2, .ref r2), (3, .ref r3), (4, .int x4), (5, .int x5), (6, .int x6), (7, .int (x7 + x6)), (8, .int (x8 + x5)), (9, .int (x9 + 1))] [] s2 Q))))))))))))) : pl_At (n + 1) 56 46 [(1, .ref r1), (2, .ref r2), (3, .ref r3), (4, .int x4), (5, .int x5), (6, .int x6), (7, .int x7), (8, .int x8), (9, .int x9)] [] s Q :=
  pl_wp_at (stops := [(46, [1, 2, 3, 4, 5, 6, 7, 8, 9]), (117, [1, 2, 3, 4, 5, 6, 7, 8, 9]), (149, [1, 3, 7, 8])]) (f := 39) h rfl

theorem pl_56_117 {n : Nat} {r1 : Nat} {r2 : Nat} {r3 : Nat} {x4 : Int32} {x5 : Int32} {x6 : Int32} {x7 : Int32} {x8 : Int32} {x9 : Int32} {s : ps_S} {Q : Option Value → ps_S → Prop} (h :
  pl_Cl n 92 [.ref r1, .int x7] s (ps_rI (fun v1 s1 =>
    pl_Cl n 92 [.ref r3, .int x8] s1 (ps_rI (fun v2 s2 =>
      (v1 ≠ v2 →
        Q (some (.int 0)) s2) ∧
      (v1 = v2 →
        pl_At n 56 46 [(1, .ref r1), (2, .ref r2), (3, .ref r3), (4, .int x4), (5, .int x5), (6, .int x6), (7, .int (x7 + 1)), (8, .int (x8 + 1)), (9, .int (x9 + 1))] [] s2 Q)))))) : pl_At (n + 1) 56 117 [(1, .ref r1), (2, .ref r2), (3, .ref r3), (4, .int x4), (5, .int x5), (6, .int x6), (7, .int x7), (8, .int x8), (9, .int x9)] [] s Q :=
  pl_wp_at (stops := [(46, [1, 2, 3, 4, 5, 6, 7, 8, 9]), (117, [1, 2, 3, 4, 5, 6, 7, 8, 9]), (149, [1, 3, 7, 8])]) (f := 16) h rfl

theorem pl_56_149 {n : Nat} {r1 : Nat} {r3 : Nat} {x7 : Int32} {x8 : Int32} {s : ps_S} {Q : Option Value → ps_S → Prop} (h :
  pl_nk (ps_is r1 5) ((x7 ≠ (ps_i s r1 1) →
    Q (some (.int 0)) s) ∧
  (x7 = (ps_i s r1 1) →
    pl_nk (ps_is r3 5) ((x8 ≠ (ps_i s r3 1) →
      Q (some (.int 0)) s) ∧
    (x8 = (ps_i s r3 1) →
      Q (some (.int 1)) s))))) : pl_At (n + 1) 56 149 [(1, .ref r1), (3, .ref r3), (7, .int x7), (8, .int x8)] [] s Q :=
  pl_wp_at (stops := [(46, [1, 2, 3, 4, 5, 6, 7, 8, 9]), (117, [1, 2, 3, 4, 5, 6, 7, 8, 9]), (149, [1, 3, 7, 8])]) (f := 17) h rfl

-- ProofBench$Proof.makeAlone(LProofBench$Step;ILProofBench$Shelf;)I
theorem pl_43_0 {n : Nat} {r0 : Nat} {r1 : Nat} {x2 : Int32} {r3 : Nat} {s : ps_S} {Q : Option Value → ps_S → Prop} (h :
  pl_nk (ps_is r1 8) (((ps_i s r1 0) = 10 →
    pl_nk (ps_is r1 8) (pl_nk (ps_is r0 2) (pl_nk (ps_is r1 8) (pl_Cl n 135 [.ref (ps_r s r0 6), .int (ps_i s r1 2)] s (ps_rA (fun v1 s1 =>
      pl_Cl n 95 [.ref (ps_c0 r1 6), .ref v1] s1 (ps_rV (fun s2 =>
        pl_nk (ps_is r1 8) (pl_nk (ps_is r1 8) (Q (some (.int 0)) (ps_ui s2 r1 10 ((1 : Int32) <<< ((ps_i s2 r1 2) &&& 31))))))))))))) ∧
  ((ps_i s r1 0) ≠ 10 →
    ((ps_i s r1 0) = 11 →
    pl_nk (ps_is r1 8) (pl_nk (ps_is r1 8) (pl_Cl n 95 [.ref (ps_c0 r1 6), .ref (ps_c0 r1 5)] s (ps_rV (fun s3 =>
      pl_Cl n 123 [.ref r1, .int x2] s3 (ps_rV (fun s4 =>
        Q (some (.int 0)) s4))))))) ∧
  ((ps_i s r1 0) ≠ 11 →
    ((ps_i s r1 0) = 12 →
    pl_nk (ps_is r1 8) (pl_Cl n 121 [.ref r1, .int 0] s (ps_rI (fun v5 s5 =>
      pl_Cl n 110 [.ref r3, .int v5] s5 (ps_rA (fun v6 s6 =>
        pl_Cl n 95 [.ref (ps_c0 r1 6), .ref v6] s6 (ps_rV (fun s7 =>
          pl_Cl n 121 [.ref r1, .int 0] s7 (ps_rI (fun v8 s8 =>
            pl_nk (ps_is r1 8) (Q (some (.int 0)) (ps_ui s8 r1 11 ((1 : Int32) <<< (v8 &&& 31)))))))))))))) ∧
  ((ps_i s r1 0) ≠ 12 →
    pl_nk (ps_is r1 8) (pl_nk (ps_is r1 8) (pl_nk (ps_is r1 8) (pl_Cl n 97 [.ref (ps_c0 r1 6), .int 6, .ref (ps_c0 r1 4), .ref (ps_c0 r1 4)] s (ps_rV (fun s9 =>
    Q (some (.int 0)) s9)))))))))) : pl_At (n + 1) 43 0 [(0, .ref r0), (1, .ref r1), (2, .int x2), (3, .ref r3)] [] s Q :=
  pl_wp_at (stops := []) (f := 61) h rfl

-- ProofBench$Proof.joinParts(LProofBench$Step;LProofBench$Row;)I
theorem pl_44_0 {n : Nat} {r0 : Nat} {r1 : Nat} {r2 : Nat} {s : ps_S} {Q : Option Value → ps_S → Prop} (h :
  pl_nk (ps_is r1 8) (((ps_i s r1 0) = 13 →
    pl_nk (ps_is r1 8) (pl_Cl n 37 [.ref r0, .ref r1, .int 1] s (ps_rA (fun v1 s1 =>
      pl_nk (ps_is v1 8) (pl_Cl n 97 [.ref (ps_c0 r1 6), .int 1, .ref r2, .ref (ps_c0 v1 6)] s1 (ps_rV (fun s2 =>
        Q (some (.int 0)) s2))))))) ∧
  ((ps_i s r1 0) ≠ 13 →
    ((ps_i s r1 0) = 14 →
    pl_nk (ps_is r1 8) (pl_nk (ps_is r1 8) (pl_Cl n 97 [.ref (ps_c0 r1 6), .int 3, .ref (ps_c0 r1 5), .ref r2] s (ps_rV (fun s3 =>
      pl_Cl n 38 [.ref r0, .int 0] s3 (ps_rA (fun v4 s4 =>
        pl_nk (ps_is r1 8) (pl_Cl n 95 [.ref v4, .ref (ps_c0 r1 5)] s4 (ps_rV (fun s5 =>
          Q (some (.int 0)) s5)))))))))) ∧
  ((ps_i s r1 0) ≠ 14 →
    ((ps_i s r1 0) = 15 →
    pl_nk (ps_is r1 8) (pl_nk (ps_is r1 8) (pl_Cl n 97 [.ref (ps_c0 r1 6), .int 3, .ref (ps_c0 r1 5), .ref r2] s (ps_rV (fun s6 =>
      pl_Cl n 38 [.ref r0, .int 0] s6 (ps_rA (fun v7 s7 =>
        pl_nk (ps_is r1 8) (pl_Cl n 95 [.ref v7, .ref (ps_c0 r1 5)] s7 (ps_rV (fun s8 =>
          Q (some (.int 0)) s8)))))))))) ∧
  ((ps_i s r1 0) ≠ 15 →
    ((ps_i s r1 0) = 16 →
    pl_nk (ps_is r1 8) (pl_nk (ps_is r1 8) (pl_Cl n 97 [.ref (ps_c0 r1 6), .int 2, .ref r2, .ref (ps_c0 r1 5)] s (ps_rV (fun s9 =>
      Q (some (.int 0)) s9))))) ∧
  ((ps_i s r1 0) ≠ 16 →
    ((ps_i s r1 0) = 17 →
    pl_nk (ps_is r1 8) (pl_nk (ps_is r1 8) (pl_Cl n 97 [.ref (ps_c0 r1 6), .int 2, .ref (ps_c0 r1 5), .ref r2] s (ps_rV (fun s10 =>
      Q (some (.int 0)) s10))))) ∧
  ((ps_i s r1 0) ≠ 17 →
    pl_nk (ps_is r1 8) (pl_nk (ps_is r1 8) (pl_Cl n 97 [.ref (ps_c0 r1 6), .int 3, .ref (ps_c0 r1 5), .ref r2] s (ps_rV (fun s11 =>
    pl_Cl n 38 [.ref r0, .int 0] s11 (ps_rA (fun v12 s12 =>
      pl_nk (ps_is r1 8) (pl_Cl n 95 [.ref v12, .ref (ps_c0 r1 5)] s12 (ps_rV (fun s13 =>
        Q (some (.int 0)) s13)))))))))))))))) : pl_At (n + 1) 44 0 [(0, .ref r0), (1, .ref r1), (2, .ref r2)] [] s Q :=
  pl_wp_at (stops := []) (f := 83) h rfl

-- ProofBench$Proof.takeHalf(LProofBench$Step;LProofBench$Row;)I
theorem pl_45_0 {n : Nat} {r0 : Nat} {r1 : Nat} {r2 : Nat} {s : ps_S} {Q : Option Value → ps_S → Prop} (h :
  pl_Cl n 92 [.ref r2, .int 0] s (ps_rI (fun v1 s1 =>
    (v1 = 1 →
      pl_nk (ps_is r0 2) (pl_nk (ps_is r0 2) (pl_Cl n 103 [.ref (ps_c0 r0 5), .ref r2, .ref (ps_r s1 r0 6)] s1 (ps_rV (fun s2 =>
        pl_nk (ps_is r0 2) (pl_Cl n 104 [.ref (ps_c0 r0 5), .int 1] s2 (ps_rI (fun v3 s3 =>
          pl_nk (ps_is r1 8) (((ps_i s3 r1 0) ≠ 14 →
            pl_nk (ps_is r1 8) (pl_nk (ps_is r2 5) (pl_Cl n 96 [.ref (ps_c0 r1 6), .ref r2, .int v3, .int (ps_i s3 r2 1)] s3 (ps_rV (fun s4 =>
              Q (some (.int 0)) s4))))) ∧
          ((ps_i s3 r1 0) = 14 →
            pl_nk (ps_is r1 8) (pl_Cl n 96 [.ref (ps_c0 r1 6), .ref r2, .int 1, .int v3] s3 (ps_rV (fun s5 =>
              Q (some (.int 0)) s5))))))))))))) ∧
    (v1 ≠ 1 →
      Q (some (.int 2)) s1)))) : pl_At (n + 1) 45 0 [(0, .ref r0), (1, .ref r1), (2, .ref r2)] [] s Q :=
  pl_wp_at (stops := []) (f := 42) h rfl

-- ProofBench$Proof.takeCases(LProofBench$Step;LProofBench$Row;)I
theorem pl_46_0 {n : Nat} {r0 : Nat} {r1 : Nat} {r2 : Nat} {s : ps_S} {Q : Option Value → ps_S → Prop} (h :
  pl_Cl n 37 [.ref r0, .ref r1, .int 1] s (ps_rA (fun v1 s1 =>
    pl_nk (ps_is v1 8) (pl_Cl n 92 [.ref r2, .int 0] s1 (ps_rI (fun v2 s2 =>
      (v2 ≠ 2 →
        Q (some (.int 2)) s2) ∧
      (v2 = 2 →
        pl_Cl n 37 [.ref r0, .ref r1, .int 2] s2 (ps_rA (fun v3 s3 =>
          pl_nk (ps_is v3 8) (pl_Cl n 98 [.ref (ps_c0 v1 6), .ref (ps_c0 v3 6)] s3 (ps_rI (fun v4 s4 =>
            (v4 ≠ 0 →
              pl_nk (ps_is r0 2) (pl_nk (ps_is r0 2) (pl_Cl n 103 [.ref (ps_c0 r0 5), .ref r2, .ref (ps_r s4 r0 6)] s4 (ps_rV (fun s5 =>
                pl_nk (ps_is r0 2) (pl_Cl n 104 [.ref (ps_c0 r0 5), .int 1] s5 (ps_rI (fun v6 s6 =>
                  pl_Cl n 38 [.ref r0, .int 1] s6 (ps_rA (fun v7 s7 =>
                    pl_Cl n 96 [.ref v7, .ref r2, .int 1, .int v6] s7 (ps_rV (fun s8 =>
                      pl_Cl n 38 [.ref r0, .int 2] s8 (ps_rA (fun v9 s9 =>
                        pl_nk (ps_is r2 5) (pl_Cl n 96 [.ref v9, .ref r2, .int v6, .int (ps_i s9 r2 1)] s9 (ps_rV (fun s10 =>
                          pl_nk (ps_is r1 8) (pl_Cl n 95 [.ref (ps_c0 r1 6), .ref (ps_c0 v1 6)] s10 (ps_rV (fun s11 =>
                            Q (some (.int 0)) s11)))))))))))))))))))) ∧
            (v4 = 0 →
              Q (some (.int 2)) s4))))))))))))) : pl_At (n + 1) 46 0 [(0, .ref r0), (1, .ref r1), (2, .ref r2)] [] s Q :=
  pl_wp_at (stops := []) (f := 57) h rfl

-- ProofBench$Proof.apply(LProofBench$Step;LProofBench$Row;LProofBench$Row;)I
theorem pl_47_0 {n : Nat} {r0 : Nat} {r1 : Nat} {r2 : Nat} {r3 : Nat} {s : ps_S} {Q : Option Value → ps_S → Prop} (h :
  pl_nk (ps_is r0 2) (pl_nk (ps_is r0 2) (pl_Cl n 103 [.ref (ps_c0 r0 5), .ref r2, .ref (ps_r s r0 6)] s (ps_rV (fun s1 =>
    pl_nk (ps_is r0 2) (pl_Cl n 104 [.ref (ps_c0 r0 5), .int 1] s1 (ps_rI (fun v2 s2 =>
      pl_Cl n 92 [.ref r2, .int 0] s2 (ps_rI (fun v3 s3 =>
        (v3 ≠ 3 →
          Q (some (.int 2)) s3) ∧
        (v3 = 3 →
          pl_nk (ps_is r3 5) (((v2 - 1) ≠ (ps_i s3 r3 1) →
            Q (some (.int 2)) s3) ∧
          ((v2 - 1) = (ps_i s3 r3 1) →
            pl_Cl n 99 [.ref r2, .int 1, .int v2, .ref r3, .int 0] s3 (ps_rI (fun v4 s4 =>
              (v4 ≠ 0 →
                pl_nk (ps_is r1 8) (pl_nk (ps_is r2 5) (pl_Cl n 96 [.ref (ps_c0 r1 6), .ref r2, .int v2, .int (ps_i s4 r2 1)] s4 (ps_rV (fun s5 =>
                  Q (some (.int 0)) s5))))) ∧
              (v4 = 0 →
                Q (some (.int 2)) s4)))))))))))))))) : pl_At (n + 1) 47 0 [(0, .ref r0), (1, .ref r1), (2, .ref r2), (3, .ref r3)] [] s Q :=
  pl_wp_at (stops := []) (f := 46) h rfl

-- ProofBench$Proof.fromFalse(LProofBench$Step;LProofBench$Row;)I
theorem pl_48_0 {n : Nat} {r0 : Nat} {r1 : Nat} {r2 : Nat} {s : ps_S} {Q : Option Value → ps_S → Prop} (h :
  pl_Cl n 92 [.ref r2, .int 0] s (ps_rI (fun v1 s1 =>
    (v1 = 0 →
      pl_nk (ps_is r1 8) (pl_nk (ps_is r1 8) (pl_Cl n 95 [.ref (ps_c0 r1 6), .ref (ps_c0 r1 5)] s1 (ps_rV (fun s2 =>
        pl_nk (ps_is r1 8) (((ps_i s2 r1 0) ≠ 27 →
          Q (some (.int 0)) s2) ∧
        ((ps_i s2 r1 0) = 27 →
          pl_Cl n 38 [.ref r0, .int 0] s2 (ps_rA (fun v3 s3 =>
            pl_Cl n 91 [.ref v3] s3 (ps_rV (fun s4 =>
              pl_Cl n 38 [.ref r0, .int 0] s4 (ps_rA (fun v5 s5 =>
                pl_Cl n 93 [.ref v5, .int 3] s5 (ps_rV (fun s6 =>
                  pl_Cl n 38 [.ref r0, .int 0] s6 (ps_rA (fun v7 s7 =>
                    pl_nk (ps_is r1 8) (pl_nk (ps_is r1 8) (pl_nk (ps_is (ps_c0 r1 5) 5) (pl_Cl n 94 [.ref v7, .ref (ps_c0 r1 5), .int 0, .int (ps_i s7 (ps_c0 r1 5) 1)] s7 (ps_rV (fun s8 =>
                      pl_Cl n 38 [.ref r0, .int 0] s8 (ps_rA (fun v9 s9 =>
                        pl_Cl n 93 [.ref v9, .int 0] s9 (ps_rV (fun s10 =>
                          Q (some (.int 0)) s10)))))))))))))))))))))))))) ∧
    (v1 ≠ 0 →
      Q (some (.int 2)) s1)))) : pl_At (n + 1) 48 0 [(0, .ref r0), (1, .ref r1), (2, .ref r2)] [] s Q :=
  pl_wp_at (stops := []) (f := 45) h rfl

-- ProofBench$Proof.specialise(LProofBench$Step;LProofBench$Row;)I
theorem pl_50_0 {n : Nat} {r0 : Nat} {r1 : Nat} {r2 : Nat} {s : ps_S} {Q : Option Value → ps_S → Prop} (h :
  pl_Cl n 92 [.ref r2, .int 0] s (ps_rI (fun v1 s1 =>
    (v1 = 4 →
      pl_nk (ps_is r1 8) (pl_nk (ps_is r1 8) (pl_Cl n 52 [.ref r0, .ref (ps_c0 r1 6), .ref r2, .ref (ps_c0 r1 4)] s1 (ps_rV (fun s2 =>
        Q (some (.int 0)) s2))))) ∧
    (v1 ≠ 4 →
      Q (some (.int 2)) s1)))) : pl_At (n + 1) 50 0 [(0, .ref r0), (1, .ref r1), (2, .ref r2)] [] s Q :=
  pl_wp_at (stops := []) (f := 18) h rfl

-- ProofBench$Proof.makeSome(LProofBench$Step;LProofBench$Row;)I
theorem pl_53_0 {n : Nat} {r0 : Nat} {r1 : Nat} {r2 : Nat} {s : ps_S} {Q : Option Value → ps_S → Prop} (h :
  pl_nk (ps_is r1 8) (pl_Cl n 92 [.ref (ps_c0 r1 5), .int 0] s (ps_rI (fun v1 s1 =>
    (v1 = 5 →
      pl_nk (ps_is r0 2) (pl_nk (ps_is r1 8) (pl_nk (ps_is r1 8) (pl_Cl n 52 [.ref r0, .ref (ps_c0 r0 4), .ref (ps_c0 r1 5), .ref (ps_c0 r1 4)] s1 (ps_rV (fun s2 =>
        pl_nk (ps_is r0 2) (pl_Cl n 98 [.ref (ps_c0 r0 4), .ref r2] s2 (ps_rI (fun v3 s3 =>
          (v3 ≠ 0 →
            pl_nk (ps_is r1 8) (pl_nk (ps_is r1 8) (pl_Cl n 95 [.ref (ps_c0 r1 6), .ref (ps_c0 r1 5)] s3 (ps_rV (fun s4 =>
              Q (some (.int 0)) s4))))) ∧
          (v3 = 0 →
            Q (some (.int 4)) s3)))))))))) ∧
    (v1 ≠ 5 →
      Q (some (.int 4)) s1))))) : pl_At (n + 1) 53 0 [(0, .ref r0), (1, .ref r1), (2, .ref r2)] [] s Q :=
  pl_wp_at (stops := []) (f := 32) h rfl

-- ProofBench$Proof.openSome(LProofBench$Step;LProofBench$Row;LProofBench$Step;)I
theorem pl_54_0 {n : Nat} {r0 : Nat} {r1 : Nat} {r2 : Nat} {r3 : Nat} {s : ps_S} {Q : Option Value → ps_S → Prop} (h :
  pl_Cl n 92 [.ref r2, .int 0] s (ps_rI (fun v1 s1 =>
    (v1 = 5 →
      pl_nk (ps_is r1 8) (pl_Cl n 91 [.ref (ps_c0 r1 4)] s1 (ps_rV (fun s2 =>
        pl_nk (ps_is r1 8) (pl_nk (ps_is r1 8) (pl_Cl n 93 [.ref (ps_c0 r1 4), .int (ps_i s2 r1 3)] s2 (ps_rV (fun s3 =>
          pl_Cl n 38 [.ref r0, .int 1] s3 (ps_rA (fun v4 s4 =>
            pl_nk (ps_is r1 8) (pl_Cl n 52 [.ref r0, .ref v4, .ref r2, .ref (ps_c0 r1 4)] s4 (ps_rV (fun s5 =>
              pl_nk (ps_is r1 8) (pl_Cl n 100 [.ref r2, .int (ps_i s5 r1 3)] s5 (ps_rI (fun v6 s6 =>
                (v6 ≠ 0 →
                  pl_At n 54 68 [(0, .ref r0), (1, .ref r1), (3, .ref r3)] [] s6 Q) ∧
                (v6 = 0 →
                  pl_nk (ps_is r3 8) (pl_nk (ps_is r1 8) (pl_Cl n 100 [.ref (ps_c0 r3 6), .int (ps_i s6 r1 3)] s6 (ps_rI (fun v7 s7 =>
                    (v7 = 0 →
                      ((0 : Int32) ≠ 0 →
                        Q (some (.int 3)) s7) ∧
                      ((0 : Int32) = 0 →
                        pl_nk (ps_is r1 8) (pl_Cl n 38 [.ref r0, .int 1] s7 (ps_rA (fun v8 s8 =>
                          pl_Cl n 51 [.ref r0, .ref r3, .int (ps_i s7 r1 3), .ref v8] s8 (ps_rI (fun v9 s9 =>
                            (v9 = 0 →
                              pl_nk (ps_is r1 8) (pl_nk (ps_is r3 8) (pl_Cl n 95 [.ref (ps_c0 r1 6), .ref (ps_c0 r3 6)] s9 (ps_rV (fun s10 =>
                                Q (some (.int 0)) s10))))) ∧
                            (v9 ≠ 0 →
                              Q (some (.int 3)) s9)))))))) ∧
                    (v7 ≠ 0 →
                      pl_At n 54 68 [(0, .ref r0), (1, .ref r1), (3, .ref r3)] [] s7 Q)))))))))))))))))))))) ∧
    (v1 ≠ 5 →
      Q (some (.int 2)) s1)))) : pl_At (n + 1) 54 0 [(0, .ref r0), (1, .ref r1), (2, .ref r2), (3, .ref r3)] [] s Q :=
  pl_wp_at (stops := [(68, [0, 1, 3])]) (f := 60) h rfl

theorem pl_54_68 {n : Nat} {r0 : Nat} {r1 : Nat} {r3 : Nat} {s : ps_S} {Q : Option Value → ps_S → Prop} (h :
  ((1 : Int32) ≠ 0 →
    Q (some (.int 3)) s) ∧
  ((1 : Int32) = 0 →
    pl_nk (ps_is r1 8) (pl_Cl n 38 [.ref r0, .int 1] s (ps_rA (fun v1 s1 =>
      pl_Cl n 51 [.ref r0, .ref r3, .int (ps_i s r1 3), .ref v1] s1 (ps_rI (fun v2 s2 =>
        (v2 = 0 →
          pl_nk (ps_is r1 8) (pl_nk (ps_is r3 8) (pl_Cl n 95 [.ref (ps_c0 r1 6), .ref (ps_c0 r3 6)] s2 (ps_rV (fun s3 =>
            Q (some (.int 0)) s3))))) ∧
        (v2 ≠ 0 →
          Q (some (.int 3)) s2)))))))) : pl_At (n + 1) 54 68 [(0, .ref r0), (1, .ref r1), (3, .ref r3)] [] s Q :=
  pl_wp_at (stops := [(68, [0, 1, 3])]) (f := 27) h rfl

-- ProofBench$Proof.exchange(LProofBench$Step;LProofBench$Row;LProofBench$Row;)I
theorem pl_55_0 {n : Nat} {r0 : Nat} {r1 : Nat} {r2 : Nat} {r3 : Nat} {s : ps_S} {Q : Option Value → ps_S → Prop} (h :
  pl_Cl n 92 [.ref r2, .int 0] s (ps_rI (fun v1 s1 =>
    (v1 = 6 →
      pl_nk (ps_is r1 8) (pl_Cl n 56 [.ref r0, .ref (ps_c0 r1 5), .ref r2, .ref r3] s1 (ps_rI (fun v2 s2 =>
        (v2 ≠ 0 →
          pl_nk (ps_is r1 8) (pl_nk (ps_is r1 8) (pl_Cl n 95 [.ref (ps_c0 r1 6), .ref (ps_c0 r1 5)] s2 (ps_rV (fun s3 =>
            Q (some (.int 0)) s3))))) ∧
        (v2 = 0 →
          Q (some (.int 4)) s2))))) ∧
    (v1 ≠ 6 →
      Q (some (.int 2)) s1)))) : pl_At (n + 1) 55 0 [(0, .ref r0), (1, .ref r1), (2, .ref r2), (3, .ref r3)] [] s Q :=
  pl_wp_at (stops := []) (f := 25) h rfl

/-- the i-th step as it was read, at the cell t -/
def cpT (s : ps_S) (t : Nat) (st : tp_P) : Prop := (ps_i s t 0).toInt = st.1.1 ∧ (1 ≤ tp_nn st.1.1 → (ps_a s (t + 1) 0).toInt = st.1.2.1) ∧ (2 ≤ tp_nn st.1.1 → (ps_a s (t + 1) 1).toInt = st.1.2.2.1) ∧ (3 ≤ tp_nn st.1.1 → (ps_a s (t + 1) 2).toInt = st.1.2.2.2) ∧ (st.1.1 = 10 → (ps_i s t 2).toInt = st.2.1.1) ∧ (tp_hx st.1.1 → (ps_i s t 3).toInt = (60 + st.2.1.2 : Nat)) ∧ (tp_ht st.1.1 → cv_W s (t + 2) st.2.2.1) ∧ (tp_hf st.1.1 → cv_W s (t + 4) st.2.2.2)
/-- its rule and its numbers -/
def cpN (s : ps_S) (t : Nat) (st : tp_P) : Prop := (ps_i s t 0).toInt = st.1.1 ∧ (1 ≤ tp_nn st.1.1 → (ps_a s (t + 1) 0).toInt = st.1.2.1) ∧ (2 ≤ tp_nn st.1.1 → (ps_a s (t + 1) 1).toInt = st.1.2.2.1) ∧ (3 ≤ tp_nn st.1.1 → (ps_a s (t + 1) 2).toInt = st.1.2.2.2)
theorem cpN_of {s : ps_S} {t : Nat} {st : tp_P} (h : cpT s t st) : cpN s t st := ⟨h.1, h.2.1, h.2.2.1, h.2.2.2.1⟩
theorem cpN_eq {s s' : ps_S} {t : Nat} {st : tp_P} (h : cpN s t st) (e0 : ps_i s' t 0 = ps_i s t 0) (e1 : ps_a s' (t + 1) = ps_a s (t + 1)) : cpN s' t st := by
  unfold cpN
  rw [e0, e1]
  exact h
/-- what a step came to -/
def cpR (s : ps_S) (t : Nat) (D : List tq_R) (R : tq_R) : Prop := cv_W s (t + 6) R.1 ∧ (ps_i s t 8).toInt = R.2.1.length ∧ R.2.1.length ≤ 12 ∧ (∀ (n : Nat) (y : List Nat), R.2.1[n]? = some y → ∃ (o : Nat) (q : tq_R), (ps_a s (t + 8) n).toInt = o ∧ D[o]? = some q ∧ q.1 = y) ∧ ps_i s t 10 = R.2.2.1 ∧ ps_i s t 11 = R.2.2.2.1 ∧ ps_j s t 12 = R.2.2.2.2
def cpD (s : ps_S) (p : Nat) (D : List tq_R) : Prop := D.length ≤ 40 ∧ ∀ (k : Nat) (R : tq_R), D[k]? = some R → cpR s (stc p k) D R
/-- a shelf of theorems -/
def cSh (s : ps_S) (q : Nat) (Θ : List tq_H) : Prop := (ps_i s q 5).toInt = Θ.length ∧ Θ.length ≤ 12 ∧ ∀ (k : Nat) (x : tq_H), Θ[k]? = some x → cv_W s (q + 7 + 2 * k) x.1 ∧ ps_a s (q + 4) k = x.2.1 ∧ ps_a s (q + 5) k = x.2.2.1 ∧ ps_a s (q + 6) k = x.2.2.2
theorem cpT_cfr {C : Nat → Prop} {s s' : ps_S} {t : Nat} {st : tp_P} (h : cpT s t st) (F : cfr C s s') (hC : ∀ q, t ≤ q → q ≤ t + 5 → ¬ C q) : cpT s' t st := by
  obtain ⟨h0, h1, h2, h3, h4, h5, h6, h7⟩ := h
  have f0 := F t (hC t (Nat.le_refl _) (by omega))
  have f1 := F (t + 1) (hC _ (by omega) (by omega))
  exact ⟨by rw [f0.1]; exact h0, fun z => by rw [f1.2.2.2.1]; exact h1 z, fun z => by rw [f1.2.2.2.1]; exact h2 z, fun z => by rw [f1.2.2.2.1]; exact h3 z, fun z => by rw [f0.1]; exact h4 z, fun z => by rw [f0.1]; exact h5 z, fun z => cv_W_cfr (h6 z) F (hC _ (by omega) (by omega)) (hC _ (by omega) (by omega)), fun z => cv_W_cfr (h7 z) F (hC _ (by omega) (by omega)) (hC _ (by omega) (by omega))⟩
theorem cpR_cfr {C : Nat → Prop} {s s' : ps_S} {t : Nat} {D : List tq_R} {R : tq_R} (h : cpR s t D R) (F : cfr C s s') (hC : ∀ q, t ≤ q → q ≤ t + 8 → ¬ C q) : cpR s' t D R := by
  obtain ⟨h0, h1, h2, h3, h4, h5, h6⟩ := h
  have f0 := F t (hC t (Nat.le_refl _) (by omega))
  have f8 := F (t + 8) (hC _ (by omega) (by omega))
  refine ⟨cv_W_cfr h0 F (hC _ (by omega) (by omega)) (hC _ (by omega) (by omega)), by rw [f0.1]; exact h1, h2, fun n y hy => ?_, by rw [f0.1]; exact h4, by rw [f0.1]; exact h5, by rw [f0.2.1]; exact h6⟩
  rw [f8.2.2.2.1]
  exact h3 n y hy
theorem cpD_cfr {C : Nat → Prop} {s s' : ps_S} {p : Nat} {D : List tq_R} (h : cpD s p D) (F : cfr C s s') (hC : ∀ q, stc p 0 ≤ q → q < stc p D.length → ¬ C q) : cpD s' p D := ⟨h.1, fun k R hk => cpR_cfr (h.2 k R hk) F (fun q a b => hC q (by unfold stc at *; omega) (by
  have := (List.getElem?_eq_some_iff.mp hk).1
  unfold stc at *
  omega))⟩
theorem cSh_cfr {C : Nat → Prop} {s s' : ps_S} {q : Nat} {Θ : List tq_H} (h : cSh s q Θ) (F : cfr C s s') (hC : ∀ r, q ≤ r → r ≤ q + 30 → ¬ C r) : cSh s' q Θ := by
  obtain ⟨h0, h1, h2⟩ := h
  have f0 := F q (hC q (Nat.le_refl _) (by omega))
  refine ⟨by rw [f0.1]; exact h0, h1, fun k x hk => ?_⟩
  have hkl := (List.getElem?_eq_some_iff.mp hk).1
  obtain ⟨g0, g1, g2, g3⟩ := h2 k x hk
  exact ⟨cv_W_cfr g0 F (hC _ (by omega) (by omega)) (hC _ (by omega) (by omega)), by rw [(F (q + 4) (hC _ (by omega) (by omega))).2.2.2.1]; exact g1, by rw [(F (q + 5) (hC _ (by omega) (by omega))).2.2.2.1]; exact g2, by rw [(F (q + 6) (hC _ (by omega) (by omega))).2.2.2.1]; exact g3⟩
/-- what a step may change -/
def CTO (p i q : Nat) : Prop := (stc p i ≤ q ∧ q ≤ stc p i + 8) ∨ (p + 404 ≤ q ∧ q ≤ p + 409) ∨ (p + 14 ≤ q ∧ q ≤ p + 19)
theorem stc_lt {p i : Nat} (hp : p = 50 ∨ p = 460) (hi : i < 40) : stc p i + 8 < p + 404 ∧ stc p i < 900 ∧ p + 44 ≤ stc p i := by
  unfold stc
  omega
theorem stc_is {p i : Nat} (hp : p = 50 ∨ p = 460) (hi : i < 40) : ps_is (stc p i) 8 = true := ((prf hp).1 i hi).2
theorem stc_row {p i : Nat} (hp : p = 50 ∨ p = 460) (hi : i < 40) : ps_is (stc p i + 2) 5 = true ∧ ps_is (stc p i + 4) 5 = true ∧ ps_is (stc p i + 6) 5 = true := (str (stc_is hp hi) (stc_lt hp hi).2.1).2.2
theorem stc_c {p i : Nat} (hp : p = 50 ∨ p = 460) (hi : i < 40) : ps_c0 (stc p i) 1 = stc p i + 1 ∧ ps_c0 (stc p i) 4 = stc p i + 2 ∧ ps_c0 (stc p i) 5 = stc p i + 4 ∧ ps_c0 (stc p i) 6 = stc p i + 6 ∧ ps_c0 (stc p i) 7 = stc p i + 8 := (str (stc_is hp hi) (stc_lt hp hi).2.1).1
/-! what is assumed, as it is gathered -/
def PA (s : ps_S) (t : Nat) (D : List tq_R) (A : List (List Nat)) : Prop := (ps_i s t 8).toInt = (min A.length 12 : Nat) ∧ A.length ≤ 13 ∧ (A.length ≤ 12 → ps_i s t 9 = 0) ∧ (12 < A.length → ps_i s t 9 ≠ 0) ∧ ∀ (n : Nat) (y : List Nat), n < 12 → A[n]? = some y → ∃ (o : Nat) (q : tq_R), (ps_a s (t + 8) n).toInt = o ∧ D[o]? = some q ∧ q.1 = y
section GAT
variable {p i : Nat} {D : List tq_R} {A : List (List Nat)} {s : ps_S}
theorem fs_40_2 {r2 : Nat} {y : List Nat} {R : Int32 → ps_S → Prop} (hp : p = 50 ∨ p = 460) (hi : i < 40) (hD : cpD s p D) (hDi : D.length ≤ i) (hA : PA s (stc p i) D A) (h5 : ps_is r2 5 = true) (W : cv_W s r2 y) (k1 : y ∈ A → R 1 s) (k0 : ¬ y ∈ A.take 12 → R 0 s) : ∀ (n : Nat) {x3 : Int32} {m : Nat}, x3.toInt = m → (∀ j, j < m → (A.take 12)[j]? ≠ some y) → pl_At n 40 2 [(0, .ref p), (1, .ref (stc p i)), (2, .ref r2), (3, .int x3)] [] s (ps_rI R)
  | 0, _, _, _, _ => pl_At_0
  | n + 1, x3, m, hx, hj => by
    obtain ⟨a1, a2, a3, a4, a5⟩ := id hA
    refine pl_40_2 (pl_nk_i (fun _ => ⟨fun z => k0 (fun w => ?_), fun z => ?_⟩))
    · have z := xle z
      obtain ⟨j, hj2⟩ := List.mem_iff_getElem?.mp w
      have := (List.getElem?_eq_some_iff.mp hj2).1
      rw [List.length_take] at this
      exact hj j (by omega) hj2
    · have z := xlt z
      have hm : m < min A.length 12 := by omega
      obtain ⟨w, hw⟩ : ∃ w, A[m]? = some w := ⟨_, List.getElem?_eq_getElem (by omega)⟩
      obtain ⟨oo, q, e1, e2, e3⟩ := a5 m w (by omega) hw
      have hol := (List.getElem?_eq_some_iff.mp e2).1
      have ho := hD.2 oo q e2
      have hl := stc_lt hp (i := oo) (by omega)
      refine fs_122 (stc_is hp hi) (stc_lt hp hi).2.1 hx (by omega) (by rw [a1]; omega) ?_
      refine fs_33 hp e1 (by omega) (pl_nk_i (fun _ => ?_))
      rw [(stc_c hp (i := oo) (by omega)).2.2.2.1]
      refine fs_98 (stc_row hp (i := oo) (by omega)).2.2 h5 (CW_of ho.1) (CW_of W) (Or.inl ho.1.2.2.1) (fun e => ⟨fun u => absurd u (by decide), fun _ => ?_⟩) (fun e => ⟨fun _ => ?_, fun u => absurd rfl u⟩)
      · refine k1 ?_
        rw [← e, e3]
        exact List.mem_of_getElem? hw
      · refine fs_40_2 hp hi hD hDi hA h5 W k1 k0 n (xj1 hx (by omega)) (fun j hj2 => ?_)
        rcases Nat.lt_or_ge j m with u | u
        · exact hj j u
        · rw [show j = m from by omega, List.getElem?_take, if_pos (by omega), hw]
          intro e2
          cases e2
          exact e e3
theorem fs_40 {n r2 : Nat} {y : List Nat} {R : Int32 → ps_S → Prop} (hp : p = 50 ∨ p = 460) (hi : i < 40) (hD : cpD s p D) (hDi : D.length ≤ i) (hA : PA s (stc p i) D A) (h5 : ps_is r2 5 = true) (W : cv_W s r2 y) (k1 : y ∈ A → R 1 s) (k0 : ¬ y ∈ A.take 12 → R 0 s) : pl_Cl n 40 [.ref p, .ref (stc p i), .ref r2] s (ps_rI R) := by
  cases n with
  | zero => exact pl_At_0
  | succ n =>
  show pl_At (n + 1) 40 0 [(0, .ref p), (1, .ref (stc p i)), (2, .ref r2)] [] s (ps_rI R)
  exact pl_40_0 (fs_40_2 hp hi hD hDi hA h5 W k1 k0 n (m := 0) rfl (fun j hj => absurd hj (Nat.not_lt_zero _)))
end GAT
/-- cells of the step itself -/
def CST (p i q : Nat) : Prop := q = stc p i ∨ q = stc p i + 8
theorem PA_add {s : ps_S} {p i oo : Nat} {D : List tq_R} {A : List (List Nat)} {y : List Nat} {q : tq_R} {v : Int32} (hA : PA s (stc p i) D A) (hv : v.toInt = oo) (hD : D[oo]? = some q) (hq : q.1 = y) : (A.length < 12 → PA (ps_ui (ps_ua s (stc p i + 8) A.length v) (stc p i) 8 (ps_i s (stc p i) 8 + 1)) (stc p i) D (A ++ [y])) ∧ (12 ≤ A.length → PA (ps_ui s (stc p i) 9 1) (stc p i) D (if 12 < A.length then A else A ++ [y])) := by
  obtain ⟨a1, a2, a3, a4, a5⟩ := hA
  have hlen : (A ++ [y]).length = A.length + 1 := List.length_append
  refine ⟨fun h => ⟨?_, by omega, fun _ => ?_, fun z => by omega, fun n w hn hw => ?_⟩, fun h => ⟨?_, by split <;> omega, fun z => ?_, fun _ => ?_, fun n w hn hw => ?_⟩⟩
  · rw [ps_i_ui, if_pos ⟨rfl, rfl⟩, xj1 a1 (by omega), hlen]
    omega
  · rw [ps_i_ui, if_neg (by omega)]
    exact a3 (by omega)
  · show ∃ (o : Nat) (q : tq_R), (ps_a (ps_ua s (stc p i + 8) A.length v) (stc p i + 8) n).toInt = o ∧ _
    rw [ps_a_ua]
    rcases Nat.lt_or_ge n A.length with u | u
    · rw [if_neg (by omega)]
      rw [List.getElem?_append_left u] at hw
      exact a5 n w hn hw
    · have := (List.getElem?_eq_some_iff.mp hw).1
      have e : n = A.length := by omega
      rw [if_pos ⟨rfl, e⟩]
      rw [e, List.getElem?_append_right (Nat.le_refl _), Nat.sub_self] at hw
      cases hw
      exact ⟨oo, q, hv, hD, hq⟩
  · rw [ps_i_ui, if_neg (by omega), a1]
    split <;> omega
  · split at z <;> omega
  · rw [ps_i_ui, if_pos ⟨rfl, rfl⟩]
    decide
  · show ∃ (o : Nat) (q : tq_R), (ps_a s (stc p i + 8) n).toInt = o ∧ _
    refine a5 n w hn ?_
    split at hw
    · exact hw
    · rw [List.getElem?_append_left (by omega)] at hw
      exact hw
/-- what gathering may change -/
def GQ (p i : Nat) (s s' : ps_S) : Prop := cfr (CST p i) s s' ∧ (∀ f, f ≠ 8 → f ≠ 9 → ps_i s' (stc p i) f = ps_i s (stc p i) f) ∧ ps_j s' (stc p i) = ps_j s (stc p i)
theorem GQ_refl {p i : Nat} {s : ps_S} : GQ p i s s := ⟨cfr_refl, fun _ _ _ => rfl, rfl⟩
theorem GQ_8 {p i m : Nat} {v w : Int32} {s s' : ps_S} (F : GQ p i s s') : GQ p i s (ps_ui (ps_ua s' (stc p i + 8) m v) (stc p i) 8 w) := ⟨cfr_i (cfr_a F.1 (Or.inr rfl)) (Or.inl rfl), fun f h8 h9 => by
  rw [ps_i_ui, if_neg (by omega)]
  exact F.2.1 f h8 h9, F.2.2⟩
theorem GQ_9 {p i : Nat} {w : Int32} {s s' : ps_S} (F : GQ p i s s') : GQ p i s (ps_ui s' (stc p i) 9 w) := ⟨cfr_i F.1 (Or.inl rfl), fun f h8 h9 => by
  rw [ps_i_ui, if_neg (by omega)]
  exact F.2.1 f h8 h9, F.2.2⟩
section GA2
variable {p i j r3 : Nat} {D : List tq_R} {Rj : tq_R} {oo : List Nat} {s0 : ps_S}
theorem fs_39_3 {R : ps_S → Prop} (hp : p = 50 ∨ p = 460) (hi : i < 40) (hD0 : cpD s0 p D) (hDi : D.length ≤ i) (hj : D[j]? = some Rj) (h5 : ps_is r3 5 = true) (W0 : CW s0 r3 oo) (hr3 : r3 ≠ stc p i ∧ r3 ≠ stc p i + 8 ∧ r3 + 1 ≠ stc p i ∧ r3 + 1 ≠ stc p i + 8) {A0 : List (List Nat)} (k : ∀ s', PA s' (stc p i) D (tq_ga oo A0 Rj.2.1) → GQ p i s0 s' → R s') : ∀ (n : Nat) {s : ps_S} {x4 : Int32} {m : Nat} {A : List (List Nat)}, x4.toInt = m → m ≤ Rj.2.1.length → PA s (stc p i) D A → tq_ga oo A0 Rj.2.1 = tq_ga oo A (Rj.2.1.drop m) → GQ p i s0 s → pl_At n 39 3 [(0, .ref p), (1, .ref (stc p i)), (2, .ref (stc p j)), (3, .ref r3), (4, .int x4)] [] s (ps_rV R)
  | 0, _, _, _, _, _, _, _, _, _ => pl_At_0
  | n + 1, s, x4, m, A, hx, hm, hA, hga, F => by
    have hjl := (List.getElem?_eq_some_iff.mp hj).1
    have hDF : cpD s p D := cpD_cfr hD0 F.1 (fun q a b => by unfold CST; unfold stc at *; omega)
    have hRj := hDF.2 j Rj hj
    have W : CW s r3 oo := by
      obtain ⟨w1, w2, w3⟩ := W0
      have f := F.1 r3 (by unfold CST; omega)
      exact ⟨by rw [f.1]; exact w1, fun z => cv_W_cfr (w2 z) F.1 (by unfold CST; omega) (by unfold CST; omega), fun z => by rw [f.1]; exact w3 z⟩
    have hsz := hRj.2.1
    have h12 := hRj.2.2.1
    refine pl_39_3 (pl_nk_i (fun _ => ⟨fun z => ?_, fun z => ?_⟩))
    · have z := xle z
      rw [List.drop_of_length_le (by omega)] at hga
      exact k s (by rw [hga]; exact hA) F
    · have z := xlt z
      obtain ⟨y, hy⟩ : ∃ y, Rj.2.1[m]? = some y := ⟨_, List.getElem?_eq_getElem (by omega)⟩
      obtain ⟨o2, q, e1, e2, e3⟩ := hRj.2.2.2.1 m y hy
      have hol := (List.getElem?_eq_some_iff.mp e2).1
      have ho := hDF.2 o2 q e2
      have hdr : Rj.2.1.drop m = y :: Rj.2.1.drop (m + 1) := by
        obtain ⟨hh, ee⟩ := List.getElem?_eq_some_iff.mp hy
        rw [List.drop_eq_getElem_cons hh, ee]
      rw [hdr] at hga
      have hga : tq_ga oo A0 Rj.2.1 = tq_ga oo (if 12 < A.length ∨ y = oo ∨ y ∈ A then A else A ++ [y]) (Rj.2.1.drop (m + 1)) := hga
      refine fs_122 (stc_is hp (i := j) (by omega)) (stc_lt hp (i := j) (by omega)).2.1 hx (by omega) (by rw [hsz]; omega) ?_
      refine fs_33 hp e1 (by omega) (pl_nk_i (fun _ => ?_))
      rw [(stc_c hp (i := o2) (by omega)).2.2.2.1]
      have W1 : cv_W s (stc p o2 + 6) y := by rw [← e3]; exact ho.1
      refine fs_98 (stc_row hp (i := o2) (by omega)).2.2 h5 (CW_of W1) W (Or.inl W1.2.2.1) (fun e => ⟨fun _ => ?_, fun u => absurd u (by decide)⟩) (fun e => ⟨fun u => absurd rfl u, fun _ => ?_⟩)
      · rw [if_pos (Or.inr (Or.inl e))] at hga
        exact fs_39_3 hp hi hD0 hDi hj h5 W0 hr3 k n (xj1 hx (by omega)) (by omega) hA hga F
      · refine fs_40 hp hi hDF hDi hA (stc_row hp (i := o2) (by omega)).2.2 W1 (fun u => ⟨fun _ => ?_, fun v => absurd v (by decide)⟩) (fun u => ⟨fun v => absurd rfl v, fun _ => ?_⟩)
        · rw [if_pos (Or.inr (Or.inr u))] at hga
          exact fs_39_3 hp hi hD0 hDi hj h5 W0 hr3 k n (xj1 hx (by omega)) (by omega) hA hga F
        · obtain ⟨g1, g2⟩ := PA_add hA e1 e2 e3
          refine fs_123 (m := min A.length 12) (stc_is hp hi) (stc_lt hp hi).2.1 hA.1 (fun v => ?_) (fun v => ?_)
          · have hlt : A.length < 12 := by omega
            have em : min A.length 12 = A.length := by omega
            have hna : ¬ y ∈ A := fun w => u (by rw [List.take_of_length_le (by omega)]; exact w)
            rw [if_neg (by intro w; rcases w with w | w | w; omega; exact e w; exact hna w)] at hga
            rw [em]
            exact fs_39_3 hp hi hD0 hDi hj h5 W0 hr3 k n (xj1 hx (by omega)) (by omega) (g1 hlt) hga (GQ_8 F)
          · have hge : 12 ≤ A.length := by omega
            have hga2 : tq_ga oo A0 Rj.2.1 = tq_ga oo (if 12 < A.length then A else A ++ [y]) (Rj.2.1.drop (m + 1)) := by
              rw [hga]
              by_cases w : 12 < A.length
              · rw [if_pos (Or.inl w), if_pos w]
              · have hna : ¬ y ∈ A := fun w2 => u (by rw [List.take_of_length_le (by omega)]; exact w2)
                rw [if_neg w, if_neg (by intro w3; rcases w3 with w3 | w3 | w3; exact w w3; exact e w3; exact hna w3)]
            exact fs_39_3 hp hi hD0 hDi hj h5 W0 hr3 k n (xj1 hx (by omega)) (by omega) (g2 hge) hga2 (GQ_9 F)
theorem fs_39 {n : Nat} {A : List (List Nat)} {R : ps_S → Prop} (hp : p = 50 ∨ p = 460) (hi : i < 40) (hD0 : cpD s0 p D) (hDi : D.length ≤ i) (hj : D[j]? = some Rj) (h5 : ps_is r3 5 = true) (W0 : CW s0 r3 oo) (hr3 : r3 ≠ stc p i ∧ r3 ≠ stc p i + 8 ∧ r3 + 1 ≠ stc p i ∧ r3 + 1 ≠ stc p i + 8) (hA : PA s0 (stc p i) D A) (k : ∀ s', PA s' (stc p i) D (tq_ga oo A Rj.2.1) → GQ p i s0 s' → R s') : pl_Cl n 39 [.ref p, .ref (stc p i), .ref (stc p j), .ref r3] s0 (ps_rV R) := by
  cases n with
  | zero => exact pl_At_0
  | succ n =>
  show pl_At (n + 1) 39 0 [(0, .ref p), (1, .ref (stc p i)), (2, .ref (stc p j)), (3, .ref r3)] [] s0 (ps_rV R)
  exact pl_39_0 (fs_39_3 hp hi hD0 hDi hj h5 W0 hr3 k n (m := 0) rfl (Nat.zero_le _) hA rfl GQ_refl)
end GA2
/-! a premise, as the step names it -/
section MAK
variable {p th : Nat} {h : tx_H} {Θ : List tq_H} {D : List tq_R} {st : tp_P} {s : ps_S}
/-- all that a step rests on -/
def cpX (s : ps_S) (p th : Nat) (h : tx_H) (Θ : List tq_H) (D : List tq_R) (st : tp_P) : Prop := (cv_H s th h ∧ ps_r s p 6 = th ∧ (th = 2 ∨ th = 26)) ∧ cSh s 870 Θ ∧ cpD s p D ∧ cpT s (stc p D.length) st ∧ cv_W s (p + 12) []
theorem cpX_cfr {C : Nat → Prop} {s' : ps_S} (hp : p = 50 ∨ p = 460) (h39 : D.length < 40) (X : cpX s p th h Θ D st) (F : cfr C s s') (hC : ∀ q, C q → stc p D.length + 6 ≤ q ∧ q ≤ p + 409 ∨ p + 14 ≤ q ∧ q ≤ p + 19) : cpX s' p th h Θ D st := by
  obtain ⟨⟨x1, x2, x3⟩, x4, x5, x6, x7⟩ := X
  have hl := stc_lt hp h39
  have h8 := x1.2.2.1
  have nC : ∀ q, ¬ (stc p D.length + 6 ≤ q ∧ q ≤ p + 409 ∨ p + 14 ≤ q ∧ q ≤ p + 19) → ¬ C q := fun q a b => a (hC q b)
  exact ⟨⟨cv_H_cfr x1 F (fun q a b => nC q (by omega)), by rw [(F p (nC p (by omega))).2.2.1]; exact x2, x3⟩, cSh_cfr x4 F (fun q a b => nC q (by omega)), cpD_cfr x5 F (fun q a b => nC q (by unfold stc at *; omega)), cpT_cfr x6 F (fun q a b => nC q (by omega)), cv_W_cfr x7 F (nC _ (by omega)) (nC _ (by omega))⟩
theorem prem_1 (X : cpX s p th h Θ D st) (hD : tq_GD h.1 D) {k : Nat} (hk : k < D.length) : ∃ R, D[k]? = some R ∧ tq_r D k = R.1 ∧ tq_a D k = R.2.1 ∧ cpR s (stc p k) D R ∧ tq_G h.1 R := by
  obtain ⟨R, e1, e2, e3, e4⟩ := tq_at hk
  exact ⟨R, e1, e2, e3, X.2.2.1.2 k R e1, hD k R e1⟩
theorem head_at {l : List Nat} : l.head? = l[0]? := by cases l <;> rfl
/-- the head of a row -/
theorem fs_92h {n r : Nat} {s : ps_S} {l : List Nat} {c : Nat} {R : Int32 → ps_S → Prop} (hr : ps_is r 5 = true) (W : cv_W s r l) (k1 : ∀ v : Int32, l.head? = some c → v.toInt = c → R v s) (k0 : ∀ v : Int32, l.head? ≠ some c → v.toInt ≠ c → R v s) : pl_Cl n 92 [.ref r, .int 0] s (ps_rI R) := by
  refine fs_92o (i := 0) hr W rfl (fun v q => ?_)
  rcases q with ⟨d, hd, e⟩ | ⟨hd, e⟩
  · rw [← head_at] at hd
    by_cases y : d = c
    · exact k1 v (by rw [hd, y]) (by rw [e, y])
    · exact k0 v (by rw [hd]; exact fun w => y (Option.some.inj w)) (by omega)
  · rw [← head_at] at hd
    exact k0 v (by rw [hd]; exact fun w => by cases w) (by omega)
end MAK
end
section
set_option maxRecDepth 100000
/-! the class: the single rules -/
theorem drop_g {α : Type} {l : List α} {i : Nat} {c : α} (h : l[i]? = some c) : l.drop i = c :: l.drop (i + 1) := by
  obtain ⟨hh, ee⟩ := List.getElem?_eq_some_iff.mp h
  rw [List.drop_eq_getElem_cons hh, ee]
section M51
variable {p j r3 c : Nat} {D : List tq_R} {Rj : tq_R} {oo : List Nat} {s : ps_S} {R : Int32 → ps_S → Prop} {x2 : Int32}
theorem fs_51_3 (hp : p = 50 ∨ p = 460) (hD : cpD s p D) (hj : D[j]? = some Rj) (h5 : ps_is r3 5 = true) (W : CW s r3 oo) (h2 : x2.toInt = c) (k1 : Rj.2.1.any (fun y => !decide (y = oo) && y.contains c) = true → R 1 s) (k0 : ¬ Rj.2.1.any (fun y => !decide (y = oo) && y.contains c) = true → R 0 s) : ∀ (n : Nat) {x4 : Int32} {m : Nat}, x4.toInt = m → (∀ (q : Nat) (y : List Nat), q < m → Rj.2.1[q]? = some y → ¬ (y ≠ oo ∧ y.contains c = true)) → pl_At n 51 3 [(0, .ref p), (1, .ref (stc p j)), (2, .int x2), (3, .ref r3), (4, .int x4)] [] s (ps_rI R)
  | 0, _, _, _, _ => pl_At_0
  | n + 1, x4, m, hx, hm => by
    have hjl := (List.getElem?_eq_some_iff.mp hj).1
    have h40 := hD.1
    have hRj := hD.2 j Rj hj
    have h12 := hRj.2.2.1
    have hsz := hRj.2.1
    refine pl_51_3 (pl_nk_i (fun _ => ⟨fun z => k0 (fun w => ?_), fun z => ?_⟩))
    · have z := xle z
      obtain ⟨y, hy, w⟩ := List.any_eq_true.mp w
      obtain ⟨q, hq⟩ := List.mem_iff_getElem?.mp hy
      have := (List.getElem?_eq_some_iff.mp hq).1
      rw [Bool.and_eq_true] at w
      refine hm q y (by omega) hq ⟨fun e => ?_, w.2⟩
      rw [decide_eq_true e] at w
      exact absurd w.1 (by decide)
    · have z := xlt z
      obtain ⟨y, hy⟩ : ∃ y, Rj.2.1[m]? = some y := ⟨_, List.getElem?_eq_getElem (by omega)⟩
      obtain ⟨o2, q, e1, e2, e3⟩ := hRj.2.2.2.1 m y hy
      have hol := (List.getElem?_eq_some_iff.mp e2).1
      have ho := hD.2 o2 q e2
      have W1 : cv_W s (stc p o2 + 6) y := by rw [← e3]; exact ho.1
      have next : ¬ (y ≠ oo ∧ y.contains c = true) → pl_At n 51 3 [(0, .ref p), (1, .ref (stc p j)), (2, .int x2), (3, .ref r3), (4, .int (x4 + 1))] [] s (ps_rI R) := fun hn => fs_51_3 hp hD hj h5 W h2 k1 k0 n (xj1 hx (by omega)) (fun q2 y2 hq2 hy2 => by
        rcases Nat.lt_or_ge q2 m with u | u
        · exact hm q2 y2 u hy2
        · rw [show q2 = m from by omega, hy] at hy2
          cases hy2
          exact hn)
      refine fs_122 (stc_is hp (i := j) (by omega)) (stc_lt hp (i := j) (by omega)).2.1 hx (by omega) (by rw [hsz]; omega) ?_
      refine fs_33 hp e1 (by omega) (pl_nk_i (fun _ => ?_))
      rw [(stc_c hp (i := o2) (by omega)).2.2.2.1]
      refine fs_98 (stc_row hp (i := o2) (by omega)).2.2 h5 (CW_of W1) W (Or.inl W1.2.2.1) (fun e => ⟨fun _ => next (fun w => w.1 e), fun u => absurd u (by decide)⟩) (fun e => ⟨fun u => absurd rfl u, fun _ => ?_⟩)
      refine fs_100 (stc_row hp (i := o2) (by omega)).2.2 W1 h2 (fun w => ⟨fun u => absurd u (by decide), fun _ => k1 ?_⟩) (fun w => ⟨fun _ => next (fun w2 => w w2.2), fun u => absurd rfl u⟩)
      refine List.any_eq_true.mpr ⟨y, List.mem_of_getElem? hy, ?_⟩
      rw [w, decide_eq_false e]
      rfl
theorem fs_51 {n : Nat} (hp : p = 50 ∨ p = 460) (hD : cpD s p D) (hj : D[j]? = some Rj) (h5 : ps_is r3 5 = true) (W : CW s r3 oo) (h2 : x2.toInt = c) (k1 : Rj.2.1.any (fun y => !decide (y = oo) && y.contains c) = true → R 1 s) (k0 : ¬ Rj.2.1.any (fun y => !decide (y = oo) && y.contains c) = true → R 0 s) : pl_Cl n 51 [.ref p, .ref (stc p j), .int x2, .ref r3] s (ps_rI R) := by
  cases n with
  | zero => exact pl_At_0
  | succ n =>
  show pl_At (n + 1) 51 0 [(0, .ref p), (1, .ref (stc p j)), (2, .int x2), (3, .ref r3)] [] s (ps_rI R)
  exact pl_51_0 (fs_51_3 hp hD hj h5 W h2 k1 k0 n (m := 0) rfl (fun q y hq => absurd hq (Nat.not_lt_zero _)))
end M51
/-! a term put into a row; all of a row -/
def CPI (p r q : Nat) : Prop := C2 r q ∨ CSh (p + 16) q
section M52
variable {p th r1 r2 r3 : Nat} {g : tx_g} {l tt : List Nat} {s0 : ps_S} {R : ps_S → Prop}
/-- rows apart from each other and from the shape -/
def apart (p r1 r2 : Nat) : Prop := (r2 ≠ r1 ∧ r2 ≠ r1 + 1 ∧ r2 + 1 ≠ r1) ∧ (p + 19 < r2 ∨ r2 + 1 < p + 16)
theorem fs_52_19 (hp : p = 50 ∨ p = 460) (hr1 : ps_is r1 5 = true) (hr2 : ps_is r2 5 = true) (hr3 : ps_is r3 5 = true) (a2 : apart p r1 r2) (a3 : apart p r1 r3) (a1 : p + 19 < r1 ∨ r1 + 1 < p + 16) (W20 : cv_W s0 r2 l) (W30 : cv_W s0 r3 tt) (hlen : (ly (arh g) [(0, 0)] l).length = l.length) (hN : ∀ (i : Nat) (d : Nat × Nat), (ly (arh g) [(0, 0)] l)[i]? = some d → (ps_a s0 (p + 19) i).toInt = d.2) (hd40 : ∀ d, d ∈ ly (arh g) [(0, 0)] l → d.2 ≤ 100) (k : ∀ s', CW s' r1 (tq_in (arh g) l tt) → cfr (C2 r1) s0 s' → R s') : ∀ (n : Nat) {s : ps_S} {x4 : Int32} {i : Nat} {L : List Nat}, x4.toInt = i → 1 ≤ i → CW s r1 L → tq_in (arh g) l tt = L ++ tq_pi tt ((ly (arh g) [(0, 0)] l).drop i) (l.drop i) → cfr (C2 r1) s0 s → pl_At n 52 19 [(0, .ref p), (1, .ref r1), (2, .ref r2), (3, .ref r3), (4, .int x4)] [] s (ps_rV R)
  | 0, _, _, _, _, _, _, _, _, _ => pl_At_0
  | n + 1, s, x4, i, L, hx, hi, C, hL, F => by
    obtain ⟨-, -, ⟨-, -, -, -, -, c5⟩, -, -, -, i6, -⟩ := prf hp
    have c1 : (1 : Int32).toInt = 1 := by decide
    have c40 : (40 : Int32).toInt = 40 := by decide
    have h40 := W20.2.2.1
    unfold apart at a2 a3
    have W2 := cv_W_cfr W20 F (by unfold C2; omega) (by unfold C2; omega)
    have W3 := cv_W_cfr W30 F (by unfold C2; omega) (by unfold C2; omega)
    have hsz := W2.1
    refine pl_52_19 (pl_nk_i (fun _ => ⟨fun z => ?_, fun z => ?_⟩))
    · have z := xle z
      rw [List.drop_of_length_le (show l.length ≤ i by omega)] at hL
      have e : tq_pi tt ((ly (arh g) [(0, 0)] l).drop i) [] = [] := by
        cases (ly (arh g) [(0, 0)] l).drop i <;> rfl
      rw [e, List.append_nil] at hL
      exact k s (by rw [hL]; exact C) F
    · have z := xlt z
      obtain ⟨c, hc⟩ : ∃ c, l[i]? = some c := ⟨_, List.getElem?_eq_getElem (by omega)⟩
      obtain ⟨d, hd⟩ : ∃ d, (ly (arh g) [(0, 0)] l)[i]? = some d := ⟨_, List.getElem?_eq_getElem (by omega)⟩
      have hd4 := hd40 d (List.mem_of_getElem? hd)
      rw [drop_c hc, drop_g hd] at hL
      have hL : tq_in (arh g) l tt = L ++ ((if c + 1 = 40 + d.2 then tt else [c]) ++ tq_pi tt ((ly (arh g) [(0, 0)] l).drop (i + 1)) (l.drop (i + 1))) := hL
      refine fs_92c hr2 W2 hx hc (fun v1 q1 => pl_nk_i (fun _ => ?_))
      rw [c5]
      refine fs_105 i6 hx (by omega) (fun v2 q2 => ?_)
      have e2 : v2.toInt = d.2 := by
        rw [q2, (F (p + 16 + 3) (by unfold C2; omega)).2.2.2.1]
        exact hN i d hd
      have e3 : ((40 : Int32) + v2 - 1).toInt = 40 + (d.2 : Int) - 1 := by
        have t1 : ((40 : Int32) + v2).toInt = 40 + (d.2 : Int) := by rw [xIa (by omega) (by omega), c40, e2]
        rw [xIs (by omega) (by omega), t1, c1]
      refine ⟨fun y => ?_, fun y => pl_nk_i (fun _ => ?_)⟩
      · have y := xne y
        rw [if_neg (by omega), ← List.append_assoc] at hL
        refine fs_92c hr2 W2 hx hc (fun v3 q3 => ?_)
        refine fs_93w hr1 C q3 (fun s4 C4 F4 => ?_)
        exact fs_52_19 hp hr1 hr2 hr3 a2 a3 a1 W20 W30 hlen hN hd40 k n (xj1 hx (by omega)) (by omega) C4 hL (cfr_tr F F4)
      · have y := xeq y
        rw [if_pos (by omega), ← List.append_assoc] at hL
        refine fs_94w (a := 0) (b := tt.length) hr1 hr3 a3.1 W3 C rfl W3.1 (Nat.le_refl _) (fun s4 C4 F4 => ?_)
        rw [List.drop_zero, Nat.sub_zero, List.take_length] at C4
        exact fs_52_19 hp hr1 hr2 hr3 a2 a3 a1 W20 W30 hlen hN hd40 k n (xj1 hx (by omega)) (by omega) C4 hL (cfr_tr F F4)
theorem ly_b {ar : Nat → Nat} {l : List Nat} (h : l.length ≤ 40) : ∀ d, d ∈ ly ar [(0, 0)] l → d.2 ≤ 100 := fun d hd => by
  have := (ly_dep (ar := ar) (l := l) (S := [(0, 0)]) (m := 0) (fun d hd => by rw [List.mem_singleton] at hd; rw [hd]; exact ⟨Nat.le_refl _, Nat.le_refl _⟩) d hd).2
  omega
theorem fs_52 {n : Nat} (hp : p = 50 ∨ p = 460) (hth : th = 2 ∨ th = 26) (h6 : ps_r s0 p 6 = th) (H : cv_E s0 th g) (hr1 : ps_is r1 5 = true) (hr2 : ps_is r2 5 = true) (hr3 : ps_is r3 5 = true) (a2 : apart p r1 r2) (a3 : apart p r1 r3) (a1 : p + 19 < r1 ∨ r1 + 1 < p + 16) (W2 : cv_W s0 r2 l) (hw : ws (sg g) l [true]) (W3 : cv_W s0 r3 tt) (k : ∀ s', CW s' r1 (tq_in (arh g) l tt) → cfr (CPI p r1) s0 s' → R s') : pl_Cl n 52 [.ref p, .ref r1, .ref r2, .ref r3] s0 (ps_rV R) := by
  cases n with
  | zero => exact pl_At_0
  | succ n =>
  show pl_At (n + 1) 52 0 [(0, .ref p), (1, .ref r1), (2, .ref r2), (3, .ref r3)] [] s0 (ps_rV R)
  obtain ⟨-, -, ⟨-, -, -, -, -, c5⟩, -, -, -, i6, -⟩ := prf hp
  have hA := arh_k H.2.2.1 H.2.2.2.1
  have h40 := W2.2.2.1
  have b2 := a2
  have b3 := a3
  unfold apart at b2 b3
  refine pl_52_0 (pl_nk_i (fun _ => pl_nk_i (fun _ => ?_)))
  rw [c5, h6]
  refine fs_103 (r := p + 16) (r1 := r2) (l := l) i6 hr2 hth (by omega) hw (Or.inl rfl) W2 H (fun s1 Z F1 => ?_)
  have F2 : cfr (C2 r1) s1 (ps_ui (ps_ui s1 r1 1 0) r1 2 0) := cfr_i (cfr_i cfr_refl (Or.inl rfl)) (Or.inl rfl)
  refine fs_91 ?_
  have W2' := cv_W_cfr W2 F1 (by unfold CSh; omega) (by unfold CSh; omega)
  have W3' := cv_W_cfr W3 F1 (by unfold CSh; omega) (by unfold CSh; omega)
  have hne : ∃ c t, l = c :: t := ws_ne hw
  obtain ⟨c, t, rfl⟩ := hne
  refine fs_52_19 (s0 := s1) hp hr1 hr2 hr3 a2 a3 a1 W2' W3' (ly_len hA hw rfl) (fun i d hd => (Z.2.2.1 i d hd).2) (ly_b h40) (fun s' C F => k s' C (cfr_tr (cfr_mono F1 (fun q z => Or.inr z)) (cfr_mono F (fun q z => Or.inl z)))) n (i := 1) (L := []) rfl (Nat.le_refl _) (CW_of CW_0) rfl F2
end M52
section M49
variable {p th x : Nat} {h : tx_H} {Θ : List tq_H} {D : List tq_R} {st : tp_P} {l : List Nat} {s0 : ps_S} {R : Int32 → ps_S → Prop} {j : Nat}
theorem fs_49_52 (hp : p = 50 ∨ p = 460) (hi : D.length < 40) (hj : j < D.length) (W20 : cv_W s0 (stc p j + 6) l) (h3 : (ps_i s0 (stc p D.length) 3).toInt = (60 + x : Nat)) (hlen : (ly (arh h.1) [(0, 0)] l).length = l.length) (hN : ∀ (i : Nat) (d : Nat × Nat), (ly (arh h.1) [(0, 0)] l)[i]? = some d → (ps_a s0 (p + 19) i).toInt = d.2) (hd40 : ∀ d, d ∈ ly (arh h.1) [(0, 0)] l → d.2 ≤ 100) (hx : x < 100) (k : ∀ s', CW s' (stc p D.length + 6) (tq_ge (arh h.1) l x) → cfr (C2 (stc p D.length + 6)) s0 s' → R 0 s') : ∀ (n : Nat) {s : ps_S} {x3 : Int32} {i : Nat} {L : List Nat}, x3.toInt = i → CW s (stc p D.length + 6) L → tq_ge (arh h.1) l x = L ++ tq_gi x ((ly (arh h.1) [(0, 0)] l).drop i) (l.drop i) → cfr (C2 (stc p D.length + 6)) s0 s → pl_At n 49 52 [(0, .ref p), (1, .ref (stc p D.length)), (2, .ref (stc p j + 6)), (3, .int x3)] [] s (ps_rI R)
  | 0, _, _, _, _, _, _, _, _ => pl_At_0
  | n + 1, s, x3, i, L, hx3, C, hL, F => by
    obtain ⟨-, -, ⟨-, -, -, -, -, c5⟩, -, -, -, i6, -⟩ := prf hp
    have c40 : (40 : Int32).toInt = 40 := by decide
    have h40 := W20.2.2.1
    have hl := stc_lt hp hi
    have hsj : stc p j + 8 < stc p D.length := by unfold stc; omega
    have hpj : p + 44 ≤ stc p j := by unfold stc; omega
    have W2 := cv_W_cfr W20 F (by unfold C2; omega) (by unfold C2; omega)
    have hsz := W2.1
    have hr1 := (stc_row hp hi).2.2
    have hr2 := (stc_row hp (i := j) (by omega)).2.2
    have f3 : ps_i s (stc p D.length) 3 = ps_i s0 (stc p D.length) 3 := (F _ (by unfold C2; omega)).1 3
    refine pl_49_52 (pl_nk_i (fun _ => ⟨fun z => ?_, fun z => pl_nk_i (fun _ => ?_)⟩))
    · have z := xle z
      rw [List.drop_of_length_le (show l.length ≤ i by omega)] at hL
      have e : tq_gi x ((ly (arh h.1) [(0, 0)] l).drop i) [] = [] := by
        cases (ly (arh h.1) [(0, 0)] l).drop i <;> rfl
      rw [e, List.append_nil] at hL
      exact k s (by rw [hL]; exact C) F
    · have z := xlt z
      obtain ⟨c, hc⟩ : ∃ c, l[i]? = some c := ⟨_, List.getElem?_eq_getElem (by omega)⟩
      obtain ⟨d, hd⟩ : ∃ d, (ly (arh h.1) [(0, 0)] l)[i]? = some d := ⟨_, List.getElem?_eq_getElem (by omega)⟩
      have hd4 := hd40 d (List.mem_of_getElem? hd)
      rw [drop_c hc, drop_g hd] at hL
      have hL : tq_ge (arh h.1) l x = L ++ ([if c = 60 + x then 40 + d.2 else c] ++ tq_gi x ((ly (arh h.1) [(0, 0)] l).drop (i + 1)) (l.drop (i + 1))) := hL
      rw [(stc_c hp hi).2.2.2.1]
      refine fs_92c hr2 W2 hx3 hc (fun v1 q1 => pl_nk_i (fun _ => ⟨fun y => ?_, fun y => pl_nk_i (fun _ => ?_)⟩))
      · have y := xne y
        rw [f3, h3] at y
        rw [if_neg (by omega), ← List.append_assoc] at hL
        refine fs_92c hr2 W2 hx3 hc (fun v2 q2 => ?_)
        refine fs_93w hr1 C q2 (fun s4 C4 F4 => ?_)
        exact fs_49_52 hp hi hj W20 h3 hlen hN hd40 hx k n (xj1 hx3 (by omega)) C4 hL (cfr_tr F F4)
      · have y := xeq y
        rw [f3, h3] at y
        rw [if_pos (by omega), ← List.append_assoc] at hL
        rw [c5]
        refine fs_105 i6 hx3 (by omega) (fun v4 q4 => ?_)
        have e4 : v4.toInt = d.2 := by
          rw [q4, (F (p + 16 + 3) (by unfold C2; omega)).2.2.2.1]
          exact hN i d hd
        have e5 : ((40 : Int32) + v4).toInt = (40 + d.2 : Nat) := by rw [xIa (by omega) (by omega), c40, e4]; omega
        refine fs_93w hr1 C e5 (fun s5 C5 F5 => ?_)
        exact fs_49_52 hp hi hj W20 h3 hlen hN hd40 hx k n (xj1 hx3 (by omega)) C5 hL (cfr_tr F F5)
end M49
section M56
variable {p th r1 r2 r3 : Nat} {g : tx_g} {a sx tx f b : List Nat} {s : ps_S} {R : Int32 → ps_S → Prop} {x4 x5 x6 : Int32}
theorem fs_56_149 {n : Nat} {x7 x8 : Int32} {u v : Nat} (W1 : cv_W s r1 f) (W3 : cv_W s r3 b) (h7 : x7.toInt = u) (h8 : x8.toInt = v) (hu : u ≤ f.length) (hv : v ≤ b.length) (k1 : b.drop v = [] ∧ f.drop u = [] → R 1 s) (k0 : ¬ (b.drop v = [] ∧ f.drop u = []) → R 0 s) : pl_At n 56 149 [(1, .ref r1), (3, .ref r3), (7, .int x7), (8, .int x8)] [] s (ps_rI R) := by
  cases n with
  | zero => exact pl_At_0
  | succ n =>
  have e1 := W1.1
  have e3 := W3.1
  refine pl_56_149 (pl_nk_i (fun _ => ⟨fun z => k0 (fun w => ?_), fun z => pl_nk_i (fun _ => ⟨fun z2 => k0 (fun w => ?_), fun z2 => k1 ?_⟩)⟩))
  · have z := xne z
    have := congrArg List.length w.2
    rw [List.length_drop, List.length_nil] at this
    omega
  · have z2 := xne z2
    have := congrArg List.length w.1
    rw [List.length_drop, List.length_nil] at this
    omega
  · have z := xeq z
    have z2 := xeq z2
    exact ⟨List.drop_of_length_le (by omega), List.drop_of_length_le (by omega)⟩
theorem tk_full {l m : List Nat} (h : l.take m.length = m) : m.length ≤ l.length := by
  have := congrArg List.length h
  rw [List.length_take] at this
  omega
theorem fs_56_46 (hr1 : ps_is r1 5 = true) (hr2 : ps_is r2 5 = true) (hr3 : ps_is r3 5 = true) (W1 : cv_W s r1 f) (W2 : cv_W s r2 a) (W3 : cv_W s r3 b) (ha : a = 6 :: (sx ++ tx)) (hs : 0 < sx.length) (ht : 0 < tx.length) (h4 : x4.toInt = (1 + sx.length : Nat)) (h5 : x5.toInt = sx.length) (h6 : x6.toInt = tx.length) (k1 : tq_rp sx tx 40 b f → R 1 s) (k0 : ¬ tq_rp sx tx 40 b f → R 0 s) : ∀ (n : Nat) {x7 x8 x9 : Int32} {u v w : Nat}, x7.toInt = u → x8.toInt = v → x9.toInt = w → w ≤ 40 → u ≤ f.length → v ≤ b.length → (tq_rp sx tx 40 b f ↔ tq_rp sx tx (40 - w) (b.drop v) (f.drop u)) → pl_At n 56 46 [(1, .ref r1), (2, .ref r2), (3, .ref r3), (4, .int x4), (5, .int x5), (6, .int x6), (7, .int x7), (8, .int x8), (9, .int x9)] [] s (ps_rI R)
  | 0, _, _, _, _, _, _, _, _, _, _, _, _, _ => pl_At_0
  | n + 1, x7, x8, x9, u, v, w, h7, h8, h9, hw, hu, hv, hiff => by
    have c40 : (40 : Int32).toInt = 40 := by decide
    have f40 := W1.2.2.1
    have b40 := W3.2.2.1
    have a40 := W2.2.2.1
    have ef := W1.1
    have eb := W3.1
    have hal : a.length = 1 + sx.length + tx.length := by
      rw [ha, List.length_cons, List.length_append]
      omega
    have fin : (40 ≤ w ∨ b.drop v = [] ∨ f.drop u = []) → ∀ {n' : Nat}, pl_At n' 56 149 [(1, .ref r1), (3, .ref r3), (7, .int x7), (8, .int x8)] [] s (ps_rI R) := fun hh {n'} => by
      have key : tq_rp sx tx (40 - w) (b.drop v) (f.drop u) ↔ (b.drop v = [] ∧ f.drop u = []) := by
        cases e : 40 - w with
        | zero => exact Iff.rfl
        | succ m =>
          show ((b.drop v = [] ∧ f.drop u = []) ∨ (b.drop v ≠ [] ∧ f.drop u ≠ [] ∧ _)) ↔ _
          rcases hh with hh | hh | hh
          · omega
          · exact ⟨fun y => y.elim id (fun y => absurd hh y.1), Or.inl⟩
          · exact ⟨fun y => y.elim id (fun y => absurd hh y.2.1), Or.inl⟩
      exact fs_56_149 W1 W3 h7 h8 hu hv (fun y => k1 (hiff.mpr (key.mpr y))) (fun y => k0 (fun y2 => y (key.mp (hiff.mp y2))))
    refine pl_56_46 ⟨fun z => ?_, fun z => pl_nk_i (fun _ => ⟨fun z2 => ?_, fun z2 => pl_nk_i (fun _ => ⟨fun z3 => ?_, fun z3 => ?_⟩)⟩)⟩
    · have z := xle z
      exact fin (Or.inl (by omega))
    · have z2 := xle z2
      exact fin (Or.inr (Or.inr (List.drop_of_length_le (by omega))))
    · have z3 := xle z3
      exact fin (Or.inr (Or.inl (List.drop_of_length_le (by omega))))
    · have z := xlt z
      have z2 := xlt z2
      have z3 := xlt z3
      have hbn : b.drop v ≠ [] := fun y => by
        have := congrArg List.length y
        rw [List.length_drop, List.length_nil] at this
        omega
      have hfn : f.drop u ≠ [] := fun y => by
        have := congrArg List.length y
        rw [List.length_drop, List.length_nil] at this
        omega
      obtain ⟨m, hm⟩ : ∃ m, 40 - w = m + 1 := ⟨40 - w - 1, by omega⟩
      have hm2 : 40 - (w + 1) = m := by omega
      rw [hm] at hiff
      have es : (a.drop 1).take (1 + sx.length - 1) = sx := by
        rw [ha, Nat.add_sub_cancel_left]
        show (sx ++ tx).take sx.length = sx
        rw [List.take_left]
      have et : (a.drop (1 + sx.length)).take (a.length - (1 + sx.length)) = tx := by
        rw [hal, show 1 + sx.length + tx.length - (1 + sx.length) = tx.length from by omega, ha, Nat.add_comm 1, List.drop_succ_cons, List.drop_left, List.take_length]
      obtain ⟨cb, hcb⟩ : ∃ c, b[v]? = some c := ⟨_, List.getElem?_eq_getElem (by omega)⟩
      obtain ⟨cf, hcf⟩ : ∃ c, f[u]? = some c := ⟨_, List.getElem?_eq_getElem (by omega)⟩
      have step2 : ¬ ((b.drop v).take sx.length = sx ∧ (f.drop u).take tx.length = tx) → ∀ {n' : Nat}, n' ≤ n → pl_At n' 56 117 [(1, .ref r1), (2, .ref r2), (3, .ref r3), (4, .int x4), (5, .int x5), (6, .int x6), (7, .int x7), (8, .int x8), (9, .int x9)] [] s (ps_rI R) := fun hn {n'} hn' => by
        cases n' with
        | zero => exact pl_At_0
        | succ n' =>
        refine pl_56_117 (fs_92c hr1 W1 h7 hcf (fun v1 q1 => fs_92c hr3 W3 h8 hcb (fun v2 q2 => ⟨fun y => k0 (fun y2 => ?_), fun y => ?_⟩)))
        · have y := xne y
          rcases hiff.mp y2 with y3 | ⟨-, -, y3 | ⟨-, y3, -⟩⟩
          · exact hbn y3.1
          · exact hn ⟨y3.1, y3.2.1⟩
          · rw [drop_c hcb, drop_c hcf] at y3
            have := Option.some.inj y3
            omega
        · have y := xeq y
          have ec : cb = cf := by omega
          refine (fs_56_46 hr1 hr2 hr3 W1 W2 W3 ha hs ht h4 h5 h6 k1 k0 n (xj1 h7 (by omega)) (xj1 h8 (by omega)) (xj1 h9 (by omega)) (by omega) (by omega) (by omega) ?_).le (by omega)
          rw [hm2, ← List.drop_drop, ← List.drop_drop]
          constructor
          · intro y2
            rcases hiff.mp y2 with y3 | ⟨-, -, y3 | ⟨-, -, y3⟩⟩
            · exact absurd y3.1 hbn
            · exact absurd ⟨y3.1, y3.2.1⟩ hn
            · exact y3
          · intro y2
            refine hiff.mpr (Or.inr ⟨hbn, hfn, Or.inr ⟨hn, ?_, y2⟩⟩)
            rw [drop_c hcb, drop_c hcf, ec]
            rfl
      refine fs_99 (b := 1) (e := 1 + sx.length) (p := v) hr2 W2 hr3 W3 rfl h4 (by omega) h8 (by omega) (fun y => ⟨fun y2 => absurd y2 (by decide), fun _ => pl_nk_i (fun _ => ?_)⟩) (fun y => ⟨fun _ => step2 (fun y2 => y ?_) (Nat.le_refl _), fun y2 => absurd rfl y2⟩)
      · rw [es, Nat.add_sub_cancel_left] at y
        refine fs_99 (b := 1 + sx.length) (e := a.length) (p := u) hr2 W2 hr1 W1 h4 W2.1 (Nat.le_refl _) h7 (by omega) (fun y2 => ⟨fun y3 => absurd y3 (by decide), fun _ => ?_⟩) (fun y2 => ⟨fun _ => step2 (fun y3 => y2 ?_) (Nat.le_refl _), fun y3 => absurd rfl y3⟩)
        · rw [et, hal, show 1 + sx.length + tx.length - (1 + sx.length) = tx.length from by omega] at y2
          have t1 := tk_full y.symm
          have t2 := tk_full y2.symm
          rw [List.length_drop] at t1 t2
          refine fs_56_46 hr1 hr2 hr3 W1 W2 W3 ha hs ht h4 h5 h6 k1 k0 n (u := u + tx.length) (v := v + sx.length) (by rw [xIa (by omega) (by omega), h7, h6]; omega) (by rw [xIa (by omega) (by omega), h8, h5]; omega) (xj1 h9 (by omega)) (by omega) (by omega) (by omega) ?_
          rw [hm2, ← List.drop_drop, ← List.drop_drop]
          constructor
          · intro y3
            rcases hiff.mp y3 with y4 | ⟨-, -, y4 | ⟨y4, -⟩⟩
            · exact absurd y4.1 hbn
            · exact y4.2.2
            · exact absurd ⟨y.symm, y2.symm⟩ y4
          · intro y3
            exact hiff.mpr (Or.inr ⟨hbn, hfn, Or.inl ⟨y.symm, y2.symm, y3⟩⟩)
        · rw [et, hal, show 1 + sx.length + tx.length - (1 + sx.length) = tx.length from by omega]
          exact y3.2.symm
      · rw [es, Nat.add_sub_cancel_left]
        exact y2.1.symm
theorem fs_56 {n : Nat} {s0 : ps_S} (hp : p = 50 ∨ p = 460) (hth : th = 2 ∨ th = 26) (h6 : ps_r s0 p 6 = th) (H : cv_E s0 th g) (hr1 : ps_is r1 5 = true) (hr2 : ps_is r2 5 = true) (hr3 : ps_is r3 5 = true) (a1 : p + 19 < r1 ∨ r1 + 1 < p + 16) (a2 : p + 19 < r2 ∨ r2 + 1 < p + 16) (a3 : p + 19 < r3 ∨ r3 + 1 < p + 16) (W1 : cv_W s0 r1 f) (W2 : cv_W s0 r2 a) (W3 : cv_W s0 r3 b) (hw : ws (sg g) a [true]) (hc : a.head? = some 6) (k1 : ∀ s', tq_rp (tq_1 (arh g) a) (tq_2 (arh g) a) 40 b f ∧ cfr (CSh (p + 16)) s0 s' → R 1 s') (k0 : ∀ s', ¬ tq_rp (tq_1 (arh g) a) (tq_2 (arh g) a) 40 b f ∧ cfr (CSh (p + 16)) s0 s' → R 0 s') : pl_Cl n 56 [.ref p, .ref r1, .ref r2, .ref r3] s0 (ps_rI R) := by
  cases n with
  | zero => exact pl_At_0
  | succ n =>
  show pl_At (n + 1) 56 0 [(0, .ref p), (1, .ref r1), (2, .ref r2), (3, .ref r3)] [] s0 (ps_rI R)
  obtain ⟨-, -, ⟨-, -, -, -, -, c5⟩, -, -, -, i6, -⟩ := prf hp
  have hA := arh_k H.2.2.1 H.2.2.2.1
  have h40 := W2.2.2.1
  have c1 : (1 : Int32).toInt = 1 := by decide
  obtain ⟨w1, w2, w3, ea⟩ := tq_half hA hw hc kS_f6
  have hs : 0 < (tq_1 (arh g) a).length := by
    obtain ⟨c, t, e⟩ := ws_ne w1
    rw [e, List.length_cons]
    omega
  have ht : 0 < (tq_2 (arh g) a).length := by
    obtain ⟨c, t, e⟩ := ws_ne w2
    rw [e, List.length_cons]
    omega
  have hal : a.length = 1 + (tq_1 (arh g) a).length + (tq_2 (arh g) a).length := by
    have := congrArg List.length ea
    rw [List.length_cons, List.length_append] at this
    omega
  refine pl_56_0 (pl_nk_i (fun _ => pl_nk_i (fun _ => ?_)))
  rw [c5, h6]
  refine fs_103 (r := p + 16) (r1 := r2) (l := a) i6 hr2 hth (by omega) hw (Or.inl rfl) W2 H (fun s1 Z F1 => pl_nk_i (fun _ => ?_))
  refine fs_104 (i := 1) i6 rfl (by decide) (fun v2 q2 => pl_nk_i (fun _ => ?_))
  have hen := en_le hA (k := 1) w3 (by simp)
  have e2 : v2.toInt = (1 + (tq_1 (arh g) a).length : Nat) := by
    rw [q2, Z.1 1 (Nat.zero_le _) (by omega)]
    have : (tq_1 (arh g) a).length = en (arh g) (a.drop 1) 1 := by
      unfold tq_1
      rw [List.length_take]
      omega
    rw [this]
  have W1' := cv_W_cfr W1 F1 (by unfold CSh; omega) (by unfold CSh; omega)
  have W2' := cv_W_cfr W2 F1 (by unfold CSh; omega) (by unfold CSh; omega)
  have W3' := cv_W_cfr W3 F1 (by unfold CSh; omega) (by unfold CSh; omega)
  have esz := W2'.1
  exact fs_56_46 hr1 hr2 hr3 W1' W2' W3' ea hs ht e2 (by rw [xIs (by omega) (by omega), e2, c1]; omega) (by rw [xIs (by omega) (by omega), esz, e2]; omega) (fun y => k1 s1 ⟨y, F1⟩) (fun y => k0 s1 ⟨y, F1⟩) n (u := 0) (v := 0) (w := 0) rfl rfl rfl (Nat.zero_le _) (Nat.zero_le _) (Nat.zero_le _) Iff.rfl
end M56
end
section
set_option maxRecDepth 100000
/-! the class: a step taken, rule by rule -/
theorem tp_nn_le {r : Nat} : tp_nn r ≤ 3 := by
  unfold tp_nn
  split
  · decide
  · split
    · decide
    · split <;> decide
theorem fs_109 {n r0 : Nat} {x1 : Int32} {s : ps_S} {R : Int32 → ps_S → Prop} (k1 : 0 ≤ x1.toInt → x1.toInt < (ps_i s r0 5).toInt → R 1 s) (k0 : ¬ (0 ≤ x1.toInt ∧ x1.toInt < (ps_i s r0 5).toInt) → R 0 s) : pl_Cl n 109 [.ref r0, .int x1] s (ps_rI R) := by
  cases n with
  | zero => exact pl_At_0
  | succ n =>
  show pl_At (n + 1) 109 0 [(0, .ref r0), (1, .int x1)] [] s (ps_rI R)
  have t0 : (0 : Int32).toInt = 0 := Int32.toInt_zero
  refine pl_109_0 ?_
  refine ⟨fun h1 => ?_, fun h1 => ?_⟩
  · have h1 : x1.toInt < (0 : Int) := xlt h1
    exact k0 (fun y => by omega)
  · have h1 : (0 : Int) ≤ x1.toInt := xle h1
    refine pl_nk_i (fun nk6 => ?_)
    refine ⟨fun h9 => ?_, fun h9 => ?_⟩
    · have h9 : (ps_i s r0 5).toInt ≤ x1.toInt := xle h9
      exact k0 (fun y => by omega)
    · have h9 : x1.toInt < (ps_i s r0 5).toInt := xlt h9
      exact k1 (by omega) (by omega)
def shfb (q : Nat) : Bool := (List.range 12).all (fun k => Nat.beq (ps_e0 (q + 1) k) (q + 7 + 2 * k) && ps_is (q + 7 + 2 * k) 5) && (Nat.beq (ps_c0 q 0) (q + 1) && Nat.beq (ps_c0 q 1) (q + 2) && Nat.beq (ps_c0 q 2) (q + 4) && Nat.beq (ps_c0 q 3) (q + 5) && Nat.beq (ps_c0 q 4) (q + 6)) && (Nat.beq (ps_ln (q + 1)) 12 && Nat.beq (ps_ln (q + 4)) 12 && Nat.beq (ps_ln (q + 5)) 12 && Nat.beq (ps_ln (q + 6)) 12) && ps_is q 7
theorem shfb_0 : shfb 870 = true ∧ shfb 1038 = true ∧ shfb 1069 = true ∧ shfb 1100 = true := by decide +kernel
abbrev shq (q : Nat) : Prop := q = 870 ∨ q = 1038 ∨ q = 1069 ∨ q = 1100
/-- a shelf's cells -/
theorem shf {q : Nat} (hq : shq q) : (∀ k, k < 12 → ps_e0 (q + 1) k = q + 7 + 2 * k ∧ ps_is (q + 7 + 2 * k) 5 = true) ∧ (ps_c0 q 0 = q + 1 ∧ ps_c0 q 1 = q + 2 ∧ ps_c0 q 2 = q + 4 ∧ ps_c0 q 3 = q + 5 ∧ ps_c0 q 4 = q + 6) ∧ (ps_ln (q + 1) = 12 ∧ ps_ln (q + 4) = 12 ∧ ps_ln (q + 5) = 12 ∧ ps_ln (q + 6) = 12) ∧ ps_is q 7 = true := by
  have k : shfb q = true := by
    obtain ⟨s1, s2, s3, s4⟩ := shfb_0
    rcases hq with rfl | rfl | rfl | rfl
    · exact s1
    · exact s2
    · exact s3
    · exact s4
  unfold shfb at k
  simp only [Bool.and_eq_true, Nat.beq_eq, List.all_eq_true] at k
  obtain ⟨⟨⟨k1, ⟨⟨⟨⟨a0, a1⟩, a2⟩, a3⟩, a4⟩⟩, ⟨⟨⟨l0, l1⟩, l2⟩, l3⟩⟩, k4⟩ := k
  exact ⟨fun i hi => k1 i (List.mem_range.mpr hi), ⟨a0, a1, a2, a3, a4⟩, ⟨l0, l1, l2, l3⟩, k4⟩
theorem fs_110 {n q i : Nat} {x1 : Int32} {s : ps_S} {R : Nat → ps_S → Prop} (hq : shq q) (hx : x1.toInt = i) (hi : i < 12) (k : R (q + 7 + 2 * i) s) : pl_Cl n 110 [.ref q, .int x1] s (ps_rA R) := by
  cases n with
  | zero => exact pl_At_0
  | succ n =>
  show pl_At (n + 1) 110 0 [(0, .ref q), (1, .int x1)] [] s (ps_rA R)
  obtain ⟨e1, ⟨c0, c1, -⟩, ⟨l0, -⟩, -⟩ := shf hq
  have t0 : (0 : Int32).toInt = 0 := Int32.toInt_zero
  have t12 : (nI (ps_ln (ps_c0 q 0))).toInt = 12 := by rw [c0, l0]; decide
  refine pl_110_0 ⟨fun h => ?_, fun h => pl_nk_i (fun _ => pl_nk_i (fun _ => ⟨fun h2 => ?_, fun h2 => pl_nk_i (fun _ => pl_nk_i (fun _ => ?_))⟩))⟩
  · have h := xlt h
    omega
  · have h2 := xle h2
    omega
  · intro b
    rw [xtn hx, c0, (e1 i hi).1]
    exact k
section M36
variable {p : Nat} {Θ : List tq_H} {D : List tq_R} {st : tp_P} {s : ps_S} {R : Int32 → ps_S → Prop} {x2 : Int32}
theorem fs_36_22 (hp : p = 50 ∨ p = 460) (hi : D.length < 40) (hT : cpT s (stc p D.length) st) (ho : tp_ok st.1.1) (h12 : st.1.1 ≠ 12) (h2 : x2.toInt = D.length) (k1 : tq_pr Θ D st → R 1 s) (k0 : ¬ tq_pr Θ D st → R 0 s) : ∀ (n : Nat) {x4 : Int32} {j : Nat}, x4.toInt = j → j ≤ tp_nn st.1.1 → ((1 ≤ j → st.1.2.1 < D.length) ∧ (2 ≤ j → st.1.2.2.1 < D.length) ∧ (3 ≤ j → st.1.2.2.2 < D.length)) → pl_At n 36 22 [(1, .ref (stc p D.length)), (2, .int x2), (4, .int x4)] [] s (ps_rI R)
  | 0, _, _, _, _, _ => pl_At_0
  | n + 1, x4, j, h4, hj, hh => by
    have hl := stc_lt hp hi
    have h3 := tp_nn_le (r := st.1.1)
    obtain ⟨t0, t1, t2, t3, -⟩ := id hT
    have epr : tq_pr Θ D st ↔ ((1 ≤ tp_nn st.1.1 → st.1.2.1 < D.length) ∧ (2 ≤ tp_nn st.1.1 → st.1.2.2.1 < D.length) ∧ (3 ≤ tp_nn st.1.1 → st.1.2.2.2 < D.length)) := by
      unfold tq_pr
      rw [if_neg h12]
    refine pl_36_22 (pl_nk_i (fun _ => fs_116 t0 ho (fun v1 q1 => ⟨fun z => k1 ?_, fun z => ?_⟩)))
    · have z := xle z
      unfold tq_np at q1
      rw [if_neg h12] at q1
      refine epr.mpr ⟨fun y => hh.1 (by omega), fun y => hh.2.1 (by omega), fun y => hh.2.2 (by omega)⟩
    · have z := xlt z
      unfold tq_np at q1
      rw [if_neg h12] at q1
      refine fs_121 (j := j) (stc_is hp hi) hl.2.1 h4 (by omega) ⟨fun y => ?_, fun y => k0 (fun w => ?_)⟩
      · have y := xlt y
        refine fs_36_22 hp hi hT ho h12 h2 k1 k0 n (xj1 h4 (by omega)) (by omega) ⟨fun w => ?_, fun w => ?_, fun w => ?_⟩
        · by_cases e : j = 0
          · subst e
            have := t1 (by omega)
            omega
          · exact hh.1 (by omega)
        · by_cases e : j = 1
          · subst e
            have := t2 (by omega)
            omega
          · exact hh.2.1 (by omega)
        · by_cases e : j = 2
          · subst e
            have := t3 (by omega)
            omega
          · exact hh.2.2 (by omega)
      · have y := xle y
        obtain ⟨w1, w2, w3⟩ := epr.mp w
        rcases (show j = 0 ∨ j = 1 ∨ j = 2 by omega) with e | e | e
        · subst e
          have := t1 (by omega)
          have := w1 (by omega)
          omega
        · subst e
          have := t2 (by omega)
          have := w2 (by omega)
          omega
        · subst e
          have := t3 (by omega)
          have := w3 (by omega)
          omega
theorem fs_36 {n : Nat} (hp : p = 50 ∨ p = 460) (hi : D.length < 40) (hT : cpT s (stc p D.length) st) (hS : cSh s 870 Θ) (ho : tp_ok st.1.1) (h2 : x2.toInt = D.length) (k1 : tq_pr Θ D st → R 1 s) (k0 : ¬ tq_pr Θ D st → R 0 s) : pl_Cl n 36 [.ref p, .ref (stc p D.length), .int x2, .ref 870] s (ps_rI R) := by
  cases n with
  | zero => exact pl_At_0
  | succ n =>
  show pl_At (n + 1) 36 0 [(0, .ref p), (1, .ref (stc p D.length)), (2, .int x2), (3, .ref 870)] [] s (ps_rI R)
  have hl := stc_lt hp hi
  have t0 := hT.1
  refine pl_36_0 (pl_nk_i (fun _ => ⟨fun z => ?_, fun z => ?_⟩))
  · have z : (ps_i s (stc p D.length) 0).toInt ≠ (12 : Int) := xne z
    exact fs_36_22 hp hi hT ho (fun y => z (by rw [t0, y]; rfl)) h2 k1 k0 n (j := 0) rfl (Nat.zero_le _) ⟨fun y => by omega, fun y => by omega, fun y => by omega⟩
  · have z : (ps_i s (stc p D.length) 0).toInt = (12 : Int) := xeq z
    have e12 : st.1.1 = 12 := by omega
    have e1 := hT.2.1 (by rw [e12]; decide)
    have epr : tq_pr Θ D st ↔ st.1.2.1 < Θ.length := by
      unfold tq_pr
      rw [if_pos e12]
    have hs := hS.1
    refine fs_121 (j := 0) (stc_is hp hi) hl.2.1 rfl (by decide) ?_
    exact fs_109 (fun y y2 => pl_nk_i (fun _ => k1 (epr.mpr (by omega)))) (fun y => pl_nk_i (fun _ => k0 (fun w => y (by have := epr.mp w; omega))))
end M36
end
section
set_option maxRecDepth 100000
/-! the class: a step made, rule by rule -/
theorem CW_cfr {C : Nat → Prop} {s s' : ps_S} {r : Nat} {L : List Nat} (W : CW s r L) (F : cfr C s s') (h0 : ¬ C r) (h1 : ¬ C (r + 1)) : CW s' r L := by
  obtain ⟨w1, w2, w3⟩ := W
  have f := F r h0
  exact ⟨by rw [f.1]; exact w1, fun z => cv_W_cfr (w2 z) F h0 h1, fun z => by rw [f.1]; exact w3 z⟩
/-- begun: nothing is left out, nothing assumed yet -/
def cpB (s : ps_S) (p t : Nat) : Prop := (∀ k, k < 3 → CW s (otc p k) []) ∧ (ps_i s t 8).toInt = 0 ∧ ps_i s t 9 = 0 ∧ ps_i s t 10 = 0 ∧ ps_i s t 11 = 0
/-- made -/
def cpM (s : ps_S) (p : Nat) (h : tx_H) (Θ : List tq_H) (D : List tq_R) (st : tp_P) : Prop := CW s (stc p D.length + 6) (tq_mk h Θ D st).2.1 ∧ (CW s (otc p 0) (tq_mk h Θ D st).2.2.1 ∧ CW s (otc p 1) (tq_mk h Θ D st).2.2.2.1 ∧ CW s (otc p 2) (tq_mk h Θ D st).2.2.2.2) ∧ (ps_i s (stc p D.length) 10 = (if st.1.1 = 10 then tq_b st.2.1.1 else 0) ∧ ps_i s (stc p D.length) 11 = (if st.1.1 = 12 then tq_b st.1.2.1 else 0)) ∧ (st.1.1 ≠ 11 → PA s (stc p D.length) D []) ∧ (st.1.1 = 11 → (ps_i s (stc p D.length) 8).toInt = 1 ∧ ps_i s (stc p D.length) 9 = 0 ∧ (ps_a s (stc p D.length + 8) 0).toInt = D.length) ∧ cpN s (stc p D.length) st
def cpK (s : ps_S) (p : Nat) (h : tx_H) (Θ : List tq_H) (D : List tq_R) (st : tp_P) (v : Int32) (s' : ps_S) : Prop := v.toInt = (tq_mk h Θ D st).1 ∧ ((tq_mk h Θ D st).1 = 0 → cpM s' p h Θ D st) ∧ cfr (CTO p D.length) s s'
theorem PA_0 {s : ps_S} {t : Nat} {D : List tq_R} (h8 : (ps_i s t 8).toInt = 0) (h9 : ps_i s t 9 = 0) : PA s t D [] := ⟨by rw [h8]; rfl, Nat.zero_le _, fun _ => h9, fun z => absurd z (Nat.not_lt_zero _), fun n y _ hy => by cases hy⟩
theorem cpM_0 {C : Nat → Prop} {s s' : ps_S} {p : Nat} {h : tx_H} {Θ : List tq_H} {D : List tq_R} {st : tp_P} {L : List Nat} (hm : tq_mk h Θ D st = (0, L, [], [], [])) (h10 : st.1.1 ≠ 10) (h11 : st.1.1 ≠ 11) (h12 : st.1.1 ≠ 12) (B : cpB s p (stc p D.length)) (N : cpN s (stc p D.length) st) (F : cfr C s s') (h1 : ¬ C (stc p D.length)) (h1' : ¬ C (stc p D.length + 1)) (h2 : ∀ q, p + 404 ≤ q → q ≤ p + 409 → ¬ C q) (W : CW s' (stc p D.length + 6) L) : cpM s' p h Θ D st := by
  obtain ⟨b1, b2, b3, b4, b5⟩ := B
  have f := F _ h1
  unfold cpM
  rw [hm, if_neg h10, if_neg h12]
  refine ⟨W, ⟨CW_cfr (b1 0 (by decide)) F (h2 _ (by unfold otc; omega) (by unfold otc; omega)) (h2 _ (by unfold otc; omega) (by unfold otc; omega)), CW_cfr (b1 1 (by decide)) F (h2 _ (by unfold otc; omega) (by unfold otc; omega)) (h2 _ (by unfold otc; omega) (by unfold otc; omega)), CW_cfr (b1 2 (by decide)) F (h2 _ (by unfold otc; omega) (by unfold otc; omega)) (h2 _ (by unfold otc; omega) (by unfold otc; omega))⟩, ⟨by rw [f.1]; exact b4, by rw [f.1]; exact b5⟩, fun _ => PA_0 (by rw [f.1]; exact b2) (by rw [f.1]; exact b3), fun z => absurd z h11, cpN_eq N (by rw [f.1]) (F _ h1').2.2.2.1⟩
/-- one row apart from the made one is filled -/
theorem C2_CTO {p i : Nat} (q : Nat) (h : C2 (stc p i + 6) q) : CTO p i q := by
  unfold C2 at h
  unfold CTO
  omega
theorem C2_out {p i k : Nat} (hk : k < 3) (q : Nat) (h : C2 (otc p k) q) : CTO p i q := by
  unfold C2 otc at h
  unfold CTO
  omega
theorem CSh_CTO {p i : Nat} (q : Nat) (h : CSh (p + 16) q) : CTO p i q := by
  unfold CSh at h
  unfold CTO
  omega
section RUL
variable {p th n1 n2 n3 ax x : Nat} {tt f : List Nat} {h : tx_H} {Θ : List tq_H} {D : List tq_R} {s : ps_S} {R : Int32 → ps_S → Prop}
theorem fs_43_r6 {n : Nat} {y2 : Int32} (hp : p = 50 ∨ p = 460) (hi : D.length < 40) (X : cpX s p th h Θ D ((6, n1, n2, n3), (ax, x), tt, f)) (hD : tq_GD h.1 D) (hG : tp_G h.1 h.2.length ((6, n1, n2, n3), (ax, x), tt, f)) (B : cpB s p (stc p D.length)) (k : ∀ v s', cpK s p h Θ D ((6, n1, n2, n3), (ax, x), tt, f) v s' → R v s') : pl_Cl n 43 [.ref p, .ref (stc p D.length), .int y2, .ref 870] s (ps_rI R) := by
  cases n with
  | zero => exact pl_At_0
  | succ n =>
  show pl_At (n + 1) 43 0 [(0, .ref p), (1, .ref (stc p D.length)), (2, .int y2), (3, .ref 870)] [] s (ps_rI R)
  obtain ⟨⟨x1, x2', x3⟩, x4, x5, x6, x7⟩ := id X
  have hN := cpN_of x6
  obtain ⟨t0, t1, t2, t3, t4, t5, t6, t7⟩ := x6
  have hl := stc_lt hp hi
  obtain ⟨cc1, cc4, cc5, cc6, cc8⟩ := stc_c hp hi
  obtain ⟨rr2, rr4, rr6⟩ := stc_row hp hi
  have hA := arh_k x1.1.2.2.1 x1.1.2.2.2.1
  have er : (ps_i s (stc p D.length) 0).toInt = (6 : Int) := t0
  obtain ⟨g1, g2⟩ := hG.2.1 (Or.inl rfl)
  have W := t6 (Or.inl rfl)
  refine pl_43_0 (pl_nk_i (fun _ => ?_))
  refine ⟨fun z => absurd (show (ps_i s (stc p D.length) 0).toInt = (10 : Int) from xeq z) (by omega), fun _ => ?_⟩
  refine ⟨fun z => absurd (show (ps_i s (stc p D.length) 0).toInt = (11 : Int) from xeq z) (by omega), fun _ => ?_⟩
  refine ⟨fun z => absurd (show (ps_i s (stc p D.length) 0).toInt = (12 : Int) from xeq z) (by omega), fun _ => ?_⟩
  refine pl_nk_i (fun _ => pl_nk_i (fun _ => pl_nk_i (fun _ => ?_)))
  rw [cc6, cc4]
  refine fs_97 rr6 rr2 rr2 (by omega) (by omega) W W rfl (fun s' W2 F2 => ?_)
  exact k _ _ ⟨by rw [tq_mk_6]; rfl, fun _ => cpM_0 tq_mk_6 (of_decide_eq_true rfl) (of_decide_eq_true rfl) (of_decide_eq_true rfl) B hN F2 (by unfold C2; omega) (by unfold C2; omega) (fun q a b => by unfold C2; omega) W2, cfr_mono F2 C2_CTO⟩

theorem fs_43_r10 {n : Nat} {y2 : Int32} (hp : p = 50 ∨ p = 460) (hi : D.length < 40) (X : cpX s p th h Θ D ((10, n1, n2, n3), (ax, x), tt, f)) (hD : tq_GD h.1 D) (hG : tp_G h.1 h.2.length ((10, n1, n2, n3), (ax, x), tt, f)) (B : cpB s p (stc p D.length)) (k : ∀ v s', cpK s p h Θ D ((10, n1, n2, n3), (ax, x), tt, f) v s' → R v s') : pl_Cl n 43 [.ref p, .ref (stc p D.length), .int y2, .ref 870] s (ps_rI R) := by
  cases n with
  | zero => exact pl_At_0
  | succ n =>
  show pl_At (n + 1) 43 0 [(0, .ref p), (1, .ref (stc p D.length)), (2, .int y2), (3, .ref 870)] [] s (ps_rI R)
  obtain ⟨⟨x1, x2', x3⟩, x4, x5, x6, x7⟩ := id X
  have hN := cpN_of x6
  obtain ⟨t0, t1, t2, t3, t4, t5, t6, t7⟩ := x6
  have hl := stc_lt hp hi
  obtain ⟨cc1, cc4, cc5, cc6, cc8⟩ := stc_c hp hi
  obtain ⟨rr2, rr4, rr6⟩ := stc_row hp hi
  have hA := arh_k x1.1.2.2.1 x1.1.2.2.2.1
  have er : (ps_i s (stc p D.length) 0).toInt = (10 : Int) := t0
  have hax : ax < h.2.length := hG.2.2.2.2.1 rfl
  have h8 := x1.2.2.1
  obtain ⟨⟨w, l⟩, hk⟩ : ∃ q, h.2[ax]? = some q := ⟨_, List.getElem?_eq_getElem hax⟩
  obtain ⟨-, -, W⟩ := x1.2.2.2 ax w l hk
  have Kk := th_K x3 (k := ax) (by omega)
  have em : (h.2.getD ax ([], [])).2 = l := by rw [List.getD_eq_getElem?_getD, hk]; rfl
  refine pl_43_0 (pl_nk_i (fun _ => ?_))
  refine ⟨fun _ => ?_, fun z => absurd (show (ps_i s (stc p D.length) 0).toInt = (10 : Int) from er) (xne z)⟩
  refine pl_nk_i (fun _ => pl_nk_i (fun _ => pl_nk_i (fun _ => ?_)))
  rw [x2', cc6]
  have t4 : (ps_i s (stc p D.length) 2).toInt = ax := t4 rfl
  clear t0 t1 t2 t3 t5 t6 t7
  refine fs_135 x3 t4 (by omega) ?_
  refine fs_95 rr6 (ps_is5 Kk.2.2.2.2.2.1) (by omega) W (fun s2 W2 F2 => pl_nk_i (fun _ => pl_nk_i (fun _ => ?_)))
  have f0 := F2 (stc p D.length) (by unfold C2; omega)
  obtain ⟨b1, b2, b3, b4, b5⟩ := B
  have F3 : cfr (CTO p D.length) s (ps_ui s2 (stc p D.length) 10 ((1 : Int32) <<< ((ps_i s2 (stc p D.length) 2) &&& 31))) := cfr_i (cfr_mono F2 C2_CTO) (Or.inl ⟨Nat.le_refl _, by omega⟩)
  have e2 : ps_i s2 (stc p D.length) 2 = nI ax := by rw [f0.1]; exact xnI t4
  have ou : ∀ k, k < 3 → CW (ps_ui s2 (stc p D.length) 10 ((1 : Int32) <<< ((ps_i s2 (stc p D.length) 2) &&& 31))) (otc p k) [] := fun k hk => CW_cfr (CW_cfr (b1 k hk) F2 (by unfold C2 otc; omega) (by unfold C2 otc; omega)) (cfr_i cfr_refl rfl : cfr (fun q => q = stc p D.length) _ _) (by unfold otc; omega) (by unfold otc; omega)
  refine k _ _ ⟨rfl, fun _ => ⟨?_, ⟨ou 0 (by decide), ou 1 (by decide), ou 2 (by decide)⟩, ⟨?_, ?_⟩, fun _ => PA_0 ?_ ?_, fun z => absurd z (of_decide_eq_true rfl), cpN_eq hN ?_ ?_⟩, F3⟩
  · rw [tq_mk_10]
    show CW _ _ (h.2.getD ax ([], [])).2
    rw [em]
    exact CW_cfr (CW_of W2) (cfr_i cfr_refl rfl : cfr (fun q => q = stc p D.length) _ _) (by omega) (by omega)
  · rw [ps_i_ui, if_pos ⟨rfl, rfl⟩, e2]
    rfl
  · rw [ps_i_ui, if_neg (by omega), f0.1]
    exact b5
  · rw [ps_i_ui, if_neg (by omega), f0.1]
    exact b2
  · rw [ps_i_ui, if_neg (by omega), f0.1]
    exact b3
  · rw [ps_i_ui, if_neg (by omega), f0.1]
  · exact (F2 (stc p D.length + 1) (by unfold C2; omega)).2.2.2.1

theorem fs_43_r11 {n : Nat} {y2 : Int32} (hy : y2.toInt = D.length) (hp : p = 50 ∨ p = 460) (hi : D.length < 40) (X : cpX s p th h Θ D ((11, n1, n2, n3), (ax, x), tt, f)) (hD : tq_GD h.1 D) (hG : tp_G h.1 h.2.length ((11, n1, n2, n3), (ax, x), tt, f)) (B : cpB s p (stc p D.length)) (k : ∀ v s', cpK s p h Θ D ((11, n1, n2, n3), (ax, x), tt, f) v s' → R v s') : pl_Cl n 43 [.ref p, .ref (stc p D.length), .int y2, .ref 870] s (ps_rI R) := by
  cases n with
  | zero => exact pl_At_0
  | succ n =>
  show pl_At (n + 1) 43 0 [(0, .ref p), (1, .ref (stc p D.length)), (2, .int y2), (3, .ref 870)] [] s (ps_rI R)
  obtain ⟨⟨x1, x2', x3⟩, x4, x5, x6, x7⟩ := id X
  have hN := cpN_of x6
  obtain ⟨t0, t1, t2, t3, t4, t5, t6, t7⟩ := x6
  have hl := stc_lt hp hi
  obtain ⟨cc1, cc4, cc5, cc6, cc8⟩ := stc_c hp hi
  obtain ⟨rr2, rr4, rr6⟩ := stc_row hp hi
  have hA := arh_k x1.1.2.2.1 x1.1.2.2.2.1
  have er : (ps_i s (stc p D.length) 0).toInt = (11 : Int) := t0
  have W := t7 (Or.inl rfl)
  obtain ⟨b1, b2, b3, b4, b5⟩ := B
  refine pl_43_0 (pl_nk_i (fun _ => ?_))
  refine ⟨fun z => absurd (show (ps_i s (stc p D.length) 0).toInt = (10 : Int) from xeq z) (by omega), fun _ => ?_⟩
  refine ⟨fun _ => ?_, fun z => absurd (show (ps_i s (stc p D.length) 0).toInt = (11 : Int) from er) (xne z)⟩
  refine pl_nk_i (fun _ => pl_nk_i (fun _ => ?_))
  rw [cc6, cc5]
  refine fs_95 rr6 rr4 (by omega) W (fun s2 W2 F2 => ?_)
  have f0 := F2 (stc p D.length) (by unfold C2; omega)
  have e8 : (ps_i s2 (stc p D.length) 8).toInt = (0 : Nat) := by rw [f0.1]; exact b2
  refine fs_123 (m := 0) (stc_is hp hi) hl.2.1 e8 (fun _ => ?_) (fun z => absurd z (by decide))
  have F3 : cfr (fun q => q = stc p D.length ∨ q = stc p D.length + 8) s2 (ps_ui (ps_ua s2 (stc p D.length + 8) 0 y2) (stc p D.length) 8 (ps_i s2 (stc p D.length) 8 + 1)) := cfr_i (cfr_a cfr_refl (Or.inr rfl)) (Or.inl rfl)
  refine k _ _ ⟨rfl, fun _ => ⟨CW_cfr (CW_of W2) F3 (by omega) (by omega), ⟨?_, ?_, ?_⟩, ⟨?_, ?_⟩, fun z => absurd rfl z, fun _ => ⟨?_, ?_, ?_⟩, cpN_eq hN ?_ ?_⟩, cfr_tr (cfr_mono F2 C2_CTO) (cfr_mono F3 (fun q z => Or.inl (by omega)))⟩
  · exact CW_cfr (CW_cfr (b1 0 (by decide)) F2 (by unfold C2 otc; omega) (by unfold C2 otc; omega)) F3 (by unfold otc; omega) (by unfold otc; omega)
  · exact CW_cfr (CW_cfr (b1 1 (by decide)) F2 (by unfold C2 otc; omega) (by unfold C2 otc; omega)) F3 (by unfold otc; omega) (by unfold otc; omega)
  · exact CW_cfr (CW_cfr (b1 2 (by decide)) F2 (by unfold C2 otc; omega) (by unfold C2 otc; omega)) F3 (by unfold otc; omega) (by unfold otc; omega)
  · rw [ps_i_ui, if_neg (by omega)]
    show ps_i s2 _ 10 = 0
    rw [f0.1]
    exact b4
  · rw [ps_i_ui, if_neg (by omega)]
    show ps_i s2 _ 11 = 0
    rw [f0.1]
    exact b5
  · rw [ps_i_ui, if_pos ⟨rfl, rfl⟩]
    exact xj1 e8 (by decide)
  · rw [ps_i_ui, if_neg (by omega)]
    show ps_i s2 _ 9 = 0
    rw [f0.1]
    exact b3
  · show (ps_a (ps_ua s2 (stc p D.length + 8) 0 y2) (stc p D.length + 8) 0).toInt = _
    rw [ps_a_ua, if_pos ⟨rfl, rfl⟩]
    exact hy
  · rw [ps_i_ui, if_neg (by omega)]
    show ps_i s2 _ 0 = _
    rw [f0.1]
  · rw [(F3 (stc p D.length + 1) (by omega)).2.2.2.1]
    exact (F2 (stc p D.length + 1) (by unfold C2; omega)).2.2.2.1

theorem r12_ne {p i n1 : Nat} (hp : p = 50 ∨ p = 460) (hi : i < 40) : 870 + 7 + 2 * n1 ≠ stc p i + 6 ∧ 870 + 7 + 2 * n1 ≠ stc p i + 6 + 1 ∧ 870 + 7 + 2 * n1 + 1 ≠ stc p i + 6 := by
  have := stc_lt hp hi
  omega
theorem r12_is {n1 : Nat} (h : n1 < 12) : ps_is (870 + 7 + 2 * n1) 5 = true := ((shf (q := 870) (Or.inl rfl)).1 n1 h).2

theorem fs_43_r12 {n : Nat} {y2 : Int32} (hn : n1 < Θ.length) (hp : p = 50 ∨ p = 460) (hi : D.length < 40) (X : cpX s p th h Θ D ((12, n1, n2, n3), (ax, x), tt, f)) (hD : tq_GD h.1 D) (hG : tp_G h.1 h.2.length ((12, n1, n2, n3), (ax, x), tt, f)) (B : cpB s p (stc p D.length)) (k : ∀ v s', cpK s p h Θ D ((12, n1, n2, n3), (ax, x), tt, f) v s' → R v s') : pl_Cl n 43 [.ref p, .ref (stc p D.length), .int y2, .ref 870] s (ps_rI R) := by
  cases n with
  | zero => exact pl_At_0
  | succ n =>
  show pl_At (n + 1) 43 0 [(0, .ref p), (1, .ref (stc p D.length)), (2, .int y2), (3, .ref 870)] [] s (ps_rI R)
  obtain ⟨⟨x1, x2', x3⟩, x4, x5, x6, x7⟩ := id X
  have hN := cpN_of x6
  obtain ⟨t0, t1, t2, t3, t4, t5, t6, t7⟩ := x6
  have hl := stc_lt hp hi
  obtain ⟨cc1, cc4, cc5, cc6, cc8⟩ := stc_c hp hi
  obtain ⟨rr2, rr4, rr6⟩ := stc_row hp hi
  have hA := arh_k x1.1.2.2.1 x1.1.2.2.2.1
  have er : (ps_i s (stc p D.length) 0).toInt = (12 : Int) := t0
  obtain ⟨z1, z2, z3⟩ := x4
  obtain ⟨q, hk⟩ : ∃ q, Θ[n1]? = some q := ⟨_, List.getElem?_eq_getElem hn⟩
  have W := (z3 n1 q hk).1
  have em : (Θ.getD n1 ([], 0, 0, 0)).1 = q.1 := by rw [List.getD_eq_getElem?_getD, hk]; rfl
  have tn : (ps_a s (stc p D.length + 1) 0).toInt = n1 := t1 (of_decide_eq_true rfl)
  refine pl_43_0 (pl_nk_i (fun _ => ?_))
  refine ⟨fun z => absurd (show (ps_i s (stc p D.length) 0).toInt = (10 : Int) from xeq z) (by omega), fun _ => ?_⟩
  refine ⟨fun z => absurd (show (ps_i s (stc p D.length) 0).toInt = (11 : Int) from xeq z) (by omega), fun _ => ?_⟩
  refine ⟨fun _ => ?_, fun z => absurd (show (ps_i s (stc p D.length) 0).toInt = (12 : Int) from er) (xne z)⟩
  refine pl_nk_i (fun _ => ?_)
  rw [cc6]
  refine fs_121 (j := 0) (stc_is hp hi) hl.2.1 rfl (by decide) ?_
  have h12 : n1 < 12 := Nat.lt_of_lt_of_le hn z2
  refine fs_110 (q := 870) (Or.inl rfl) tn h12 ?_
  refine fs_95 rr6 (r12_is h12) (r12_ne hp hi) W (fun s2 W2 F2 => ?_)
  refine fs_121 (j := 0) (stc_is hp hi) hl.2.1 rfl (by decide) (pl_nk_i (fun _ => ?_))
  have f0 := F2 (stc p D.length) (by unfold C2; omega)
  have f1 := F2 (stc p D.length + 1) (by unfold C2; omega)
  obtain ⟨b1, b2, b3, b4, b5⟩ := B
  have e2 : ps_a s2 (stc p D.length + 1) 0 = nI n1 := by rw [f1.2.2.2.1]; exact xnI tn
  rw [e2]
  have F3 : cfr (CTO p D.length) s (ps_ui s2 (stc p D.length) 11 ((1 : Int32) <<< (nI n1 &&& 31))) := cfr_i (cfr_mono F2 C2_CTO) (Or.inl ⟨Nat.le_refl _, by omega⟩)
  have ou : ∀ k, k < 3 → CW (ps_ui s2 (stc p D.length) 11 ((1 : Int32) <<< (nI n1 &&& 31))) (otc p k) [] := fun k hk => CW_cfr (CW_cfr (b1 k hk) F2 (by unfold C2 otc; omega) (by unfold C2 otc; omega)) (cfr_i cfr_refl rfl : cfr (fun q => q = stc p D.length) _ _) (by unfold otc; omega) (by unfold otc; omega)
  refine k _ _ ⟨rfl, fun _ => ⟨?_, ⟨ou 0 (by decide), ou 1 (by decide), ou 2 (by decide)⟩, ⟨?_, ?_⟩, fun _ => PA_0 ?_ ?_, fun z => absurd z (of_decide_eq_true rfl), cpN_eq hN ?_ ?_⟩, F3⟩
  · rw [tq_mk_12]
    show CW _ _ (Θ.getD n1 ([], 0, 0, 0)).1
    rw [em]
    exact CW_cfr (CW_of W2) (cfr_i cfr_refl rfl : cfr (fun q => q = stc p D.length) _ _) (by omega) (by omega)
  · rw [ps_i_ui, if_neg (by omega), f0.1]
    exact b4
  · rw [ps_i_ui, if_pos ⟨rfl, rfl⟩]
    rfl
  · rw [ps_i_ui, if_neg (by omega), f0.1]
    exact b2
  · rw [ps_i_ui, if_neg (by omega), f0.1]
    exact b3
  · rw [ps_i_ui, if_neg (by omega), f0.1]
  · exact (F2 (stc p D.length + 1) (by unfold C2; omega)).2.2.2.1

theorem fs_44_r13 {n : Nat} (hp : p = 50 ∨ p = 460) (hi : D.length < 40) (X : cpX s p th h Θ D ((13, n1, n2, n3), (ax, x), tt, f)) (hD : tq_GD h.1 D) (hG : tp_G h.1 h.2.length ((13, n1, n2, n3), (ax, x), tt, f)) (B : cpB s p (stc p D.length)) (h1 : n1 < D.length) (h2 : n2 < D.length) (k : ∀ v s', cpK s p h Θ D ((13, n1, n2, n3), (ax, x), tt, f) v s' → R v s') : pl_Cl n 44 [.ref p, .ref (stc p D.length), .ref (stc p n1 + 6)] s (ps_rI R) := by
  cases n with
  | zero => exact pl_At_0
  | succ n =>
  show pl_At (n + 1) 44 0 [(0, .ref p), (1, .ref (stc p D.length)), (2, .ref (stc p n1 + 6))] [] s (ps_rI R)
  obtain ⟨⟨x1, x2', x3⟩, x4, x5, x6, x7⟩ := id X
  have hN := cpN_of x6
  obtain ⟨t0, t1, t2, t3, t4, t5, t6, t7⟩ := x6
  have hl := stc_lt hp hi
  obtain ⟨cc1, cc4, cc5, cc6, cc8⟩ := stc_c hp hi
  obtain ⟨rr2, rr4, rr6⟩ := stc_row hp hi
  have hA := arh_k x1.1.2.2.1 x1.1.2.2.2.1
  have er : (ps_i s (stc p D.length) 0).toInt = (13 : Int) := t0
  obtain ⟨Ra, aa, ab, ac, ad, ae⟩ := prem_1 X hD h1
  have Wa : cv_W s (stc p n1 + 6) (tq_r D n1) := by rw [ab]; exact ad.1
  have r5a := (stc_row hp (i := n1) (by omega)).2.2
  have la : p + 44 ≤ stc p n1 ∧ stc p n1 + 9 ≤ stc p D.length := by unfold stc; omega
  have Ga : ws (sg h.1) (tq_r D n1) [true] := by rw [ab]; exact ae.1.1
  obtain ⟨Rb, ba, bb, bc, bd, be⟩ := prem_1 X hD h2
  have Wb : cv_W s (stc p n2 + 6) (tq_r D n2) := by rw [bb]; exact bd.1
  have r5b := (stc_row hp (i := n2) (by omega)).2.2
  have lb : p + 44 ≤ stc p n2 ∧ stc p n2 + 9 ≤ stc p D.length := by unfold stc; omega
  have Gb : ws (sg h.1) (tq_r D n2) [true] := by rw [bb]; exact be.1.1
  refine pl_44_0 (pl_nk_i (fun _ => ?_))
  refine ⟨fun _ => ?_, fun z => absurd (show (ps_i s (stc p D.length) 0).toInt = (13 : Int) from er) (xne z)⟩
  refine pl_nk_i (fun _ => ?_)
  rw [cc6]
  refine fs_37 (j := 1) (i := n2) hp (stc_is hp hi) hl.2.1 rfl (by decide) (t2 (of_decide_eq_true rfl)) (by omega) (pl_nk_i (fun _ => ?_))
  rw [(stc_c hp (i := n2) (by omega)).2.2.2.1]
  refine fs_97 rr6 r5a r5b (by omega) (by omega) Wa Wb rfl (fun s' W2 F2 => ?_)
  exact k _ _ ⟨by rw [tq_mk_13]; rfl, fun _ => cpM_0 tq_mk_13 (of_decide_eq_true rfl) (of_decide_eq_true rfl) (of_decide_eq_true rfl) B hN F2 (by unfold C2; omega) (by unfold C2; omega) (fun q a b => by unfold C2; omega) W2, cfr_mono F2 C2_CTO⟩

theorem fs_44_r16 {n : Nat} (hp : p = 50 ∨ p = 460) (hi : D.length < 40) (X : cpX s p th h Θ D ((16, n1, n2, n3), (ax, x), tt, f)) (hD : tq_GD h.1 D) (hG : tp_G h.1 h.2.length ((16, n1, n2, n3), (ax, x), tt, f)) (B : cpB s p (stc p D.length)) (h1 : n1 < D.length) (k : ∀ v s', cpK s p h Θ D ((16, n1, n2, n3), (ax, x), tt, f) v s' → R v s') : pl_Cl n 44 [.ref p, .ref (stc p D.length), .ref (stc p n1 + 6)] s (ps_rI R) := by
  cases n with
  | zero => exact pl_At_0
  | succ n =>
  show pl_At (n + 1) 44 0 [(0, .ref p), (1, .ref (stc p D.length)), (2, .ref (stc p n1 + 6))] [] s (ps_rI R)
  obtain ⟨⟨x1, x2', x3⟩, x4, x5, x6, x7⟩ := id X
  have hN := cpN_of x6
  obtain ⟨t0, t1, t2, t3, t4, t5, t6, t7⟩ := x6
  have hl := stc_lt hp hi
  obtain ⟨cc1, cc4, cc5, cc6, cc8⟩ := stc_c hp hi
  obtain ⟨rr2, rr4, rr6⟩ := stc_row hp hi
  have hA := arh_k x1.1.2.2.1 x1.1.2.2.2.1
  have er : (ps_i s (stc p D.length) 0).toInt = (16 : Int) := t0
  obtain ⟨Ra, aa, ab, ac, ad, ae⟩ := prem_1 X hD h1
  have Wa : cv_W s (stc p n1 + 6) (tq_r D n1) := by rw [ab]; exact ad.1
  have r5a := (stc_row hp (i := n1) (by omega)).2.2
  have la : p + 44 ≤ stc p n1 ∧ stc p n1 + 9 ≤ stc p D.length := by unfold stc; omega
  have Ga : ws (sg h.1) (tq_r D n1) [true] := by rw [ab]; exact ae.1.1
  have W := t7 (of_decide_eq_true rfl)
  refine pl_44_0 (pl_nk_i (fun _ => ?_))
  refine ⟨fun z => absurd (show (ps_i s (stc p D.length) 0).toInt = (13 : Int) from xeq z) (by omega), fun _ => ?_⟩
  refine ⟨fun z => absurd (show (ps_i s (stc p D.length) 0).toInt = (14 : Int) from xeq z) (by omega), fun _ => ?_⟩
  refine ⟨fun z => absurd (show (ps_i s (stc p D.length) 0).toInt = (15 : Int) from xeq z) (by omega), fun _ => ?_⟩
  refine ⟨fun _ => ?_, fun z => absurd (show (ps_i s (stc p D.length) 0).toInt = (16 : Int) from er) (xne z)⟩
  refine pl_nk_i (fun _ => pl_nk_i (fun _ => ?_))
  rw [cc6, cc5]
  refine fs_97 rr6 r5a rr4 (by omega) (by omega) Wa W rfl (fun s' W2 F2 => ?_)
  exact k _ _ ⟨by rw [tq_mk_16]; rfl, fun _ => cpM_0 tq_mk_16 (of_decide_eq_true rfl) (of_decide_eq_true rfl) (of_decide_eq_true rfl) B hN F2 (by unfold C2; omega) (by unfold C2; omega) (fun q a b => by unfold C2; omega) W2, cfr_mono F2 C2_CTO⟩

theorem fs_44_r17 {n : Nat} (hp : p = 50 ∨ p = 460) (hi : D.length < 40) (X : cpX s p th h Θ D ((17, n1, n2, n3), (ax, x), tt, f)) (hD : tq_GD h.1 D) (hG : tp_G h.1 h.2.length ((17, n1, n2, n3), (ax, x), tt, f)) (B : cpB s p (stc p D.length)) (h1 : n1 < D.length) (k : ∀ v s', cpK s p h Θ D ((17, n1, n2, n3), (ax, x), tt, f) v s' → R v s') : pl_Cl n 44 [.ref p, .ref (stc p D.length), .ref (stc p n1 + 6)] s (ps_rI R) := by
  cases n with
  | zero => exact pl_At_0
  | succ n =>
  show pl_At (n + 1) 44 0 [(0, .ref p), (1, .ref (stc p D.length)), (2, .ref (stc p n1 + 6))] [] s (ps_rI R)
  obtain ⟨⟨x1, x2', x3⟩, x4, x5, x6, x7⟩ := id X
  have hN := cpN_of x6
  obtain ⟨t0, t1, t2, t3, t4, t5, t6, t7⟩ := x6
  have hl := stc_lt hp hi
  obtain ⟨cc1, cc4, cc5, cc6, cc8⟩ := stc_c hp hi
  obtain ⟨rr2, rr4, rr6⟩ := stc_row hp hi
  have hA := arh_k x1.1.2.2.1 x1.1.2.2.2.1
  have er : (ps_i s (stc p D.length) 0).toInt = (17 : Int) := t0
  obtain ⟨Ra, aa, ab, ac, ad, ae⟩ := prem_1 X hD h1
  have Wa : cv_W s (stc p n1 + 6) (tq_r D n1) := by rw [ab]; exact ad.1
  have r5a := (stc_row hp (i := n1) (by omega)).2.2
  have la : p + 44 ≤ stc p n1 ∧ stc p n1 + 9 ≤ stc p D.length := by unfold stc; omega
  have Ga : ws (sg h.1) (tq_r D n1) [true] := by rw [ab]; exact ae.1.1
  have W := t7 (of_decide_eq_true rfl)
  refine pl_44_0 (pl_nk_i (fun _ => ?_))
  refine ⟨fun z => absurd (show (ps_i s (stc p D.length) 0).toInt = (13 : Int) from xeq z) (by omega), fun _ => ?_⟩
  refine ⟨fun z => absurd (show (ps_i s (stc p D.length) 0).toInt = (14 : Int) from xeq z) (by omega), fun _ => ?_⟩
  refine ⟨fun z => absurd (show (ps_i s (stc p D.length) 0).toInt = (15 : Int) from xeq z) (by omega), fun _ => ?_⟩
  refine ⟨fun z => absurd (show (ps_i s (stc p D.length) 0).toInt = (16 : Int) from xeq z) (by omega), fun _ => ?_⟩
  refine ⟨fun _ => ?_, fun z => absurd (show (ps_i s (stc p D.length) 0).toInt = (17 : Int) from er) (xne z)⟩
  refine pl_nk_i (fun _ => pl_nk_i (fun _ => ?_))
  rw [cc6, cc5]
  refine fs_97 rr6 rr4 r5a (by omega) (by omega) W Wa rfl (fun s' W2 F2 => ?_)
  exact k _ _ ⟨by rw [tq_mk_17]; rfl, fun _ => cpM_0 tq_mk_17 (of_decide_eq_true rfl) (of_decide_eq_true rfl) (of_decide_eq_true rfl) B hN F2 (by unfold C2; omega) (by unfold C2; omega) (fun q a b => by unfold C2; omega) W2, cfr_mono F2 C2_CTO⟩

theorem fs_44_r20 {n : Nat} (hp : p = 50 ∨ p = 460) (hi : D.length < 40) (X : cpX s p th h Θ D ((20, n1, n2, n3), (ax, x), tt, f)) (hD : tq_GD h.1 D) (hG : tp_G h.1 h.2.length ((20, n1, n2, n3), (ax, x), tt, f)) (B : cpB s p (stc p D.length)) (h1 : n1 < D.length) (k : ∀ v s', cpK s p h Θ D ((20, n1, n2, n3), (ax, x), tt, f) v s' → R v s') : pl_Cl n 44 [.ref p, .ref (stc p D.length), .ref (stc p n1 + 6)] s (ps_rI R) := by
  cases n with
  | zero => exact pl_At_0
  | succ n =>
  show pl_At (n + 1) 44 0 [(0, .ref p), (1, .ref (stc p D.length)), (2, .ref (stc p n1 + 6))] [] s (ps_rI R)
  obtain ⟨⟨x1, x2', x3⟩, x4, x5, x6, x7⟩ := id X
  have hN := cpN_of x6
  obtain ⟨t0, t1, t2, t3, t4, t5, t6, t7⟩ := x6
  have hl := stc_lt hp hi
  obtain ⟨cc1, cc4, cc5, cc6, cc8⟩ := stc_c hp hi
  obtain ⟨rr2, rr4, rr6⟩ := stc_row hp hi
  have hA := arh_k x1.1.2.2.1 x1.1.2.2.2.1
  have er : (ps_i s (stc p D.length) 0).toInt = (20 : Int) := t0
  obtain ⟨Ra, aa, ab, ac, ad, ae⟩ := prem_1 X hD h1
  have Wa : cv_W s (stc p n1 + 6) (tq_r D n1) := by rw [ab]; exact ad.1
  have r5a := (stc_row hp (i := n1) (by omega)).2.2
  have la : p + 44 ≤ stc p n1 ∧ stc p n1 + 9 ≤ stc p D.length := by unfold stc; omega
  have Ga : ws (sg h.1) (tq_r D n1) [true] := by rw [ab]; exact ae.1.1
  have W := t7 (of_decide_eq_true rfl)
  obtain ⟨b1, b2, b3, b4, b5⟩ := B
  refine pl_44_0 (pl_nk_i (fun _ => ?_))
  refine ⟨fun z => absurd (show (ps_i s (stc p D.length) 0).toInt = (13 : Int) from xeq z) (by omega), fun _ => ?_⟩
  refine ⟨fun z => absurd (show (ps_i s (stc p D.length) 0).toInt = (14 : Int) from xeq z) (by omega), fun _ => ?_⟩
  refine ⟨fun z => absurd (show (ps_i s (stc p D.length) 0).toInt = (15 : Int) from xeq z) (by omega), fun _ => ?_⟩
  refine ⟨fun z => absurd (show (ps_i s (stc p D.length) 0).toInt = (16 : Int) from xeq z) (by omega), fun _ => ?_⟩
  refine ⟨fun z => absurd (show (ps_i s (stc p D.length) 0).toInt = (17 : Int) from xeq z) (by omega), fun _ => ?_⟩
  refine pl_nk_i (fun _ => pl_nk_i (fun _ => ?_))
  rw [cc6, cc5]
  refine fs_97 rr6 rr4 r5a (by omega) (by omega) W Wa rfl (fun s2 W2 F2 => ?_)
  refine fs_38 (i := 0) hp rfl (by decide) (pl_nk_i (fun _ => ?_))
  have W3 := cv_W_cfr W F2 (by unfold C2; omega) (by unfold C2; omega)
  refine fs_95 ((prf hp).2.1 0 (by decide)).2 rr4 (by unfold otc; omega) W3 (fun s3 W4 F3 => ?_)
  have f0 := F2 (stc p D.length) (by unfold C2; omega)
  have g0 := F3 (stc p D.length) (by unfold C2 otc; omega)
  have ou : ∀ k, 1 ≤ k → k < 3 → CW s3 (otc p k) [] := fun k h1 hk => CW_cfr (CW_cfr (b1 k hk) F2 (by unfold C2 otc; omega) (by unfold C2 otc; omega)) F3 (by unfold C2 otc; omega) (by unfold C2 otc; omega)
  refine k _ _ ⟨rfl, fun _ => ⟨CW_cfr W2 F3 (by unfold C2 otc; omega) (by unfold C2 otc; omega), ⟨CW_of W4, ou 1 (by decide) (by decide), ou 2 (by decide) (by decide)⟩, ⟨by rw [g0.1, f0.1]; exact b4, by rw [g0.1, f0.1]; exact b5⟩, fun _ => PA_0 (by rw [g0.1, f0.1]; exact b2) (by rw [g0.1, f0.1]; exact b3), fun z => absurd z (of_decide_eq_true rfl), cpN_eq hN (by rw [g0.1, f0.1]) (((F3 (stc p D.length + 1) (by unfold C2 otc; omega)).2.2.2.1).trans (F2 (stc p D.length + 1) (by unfold C2; omega)).2.2.2.1)⟩, cfr_tr (cfr_mono F2 C2_CTO) (cfr_mono F3 (C2_out (by decide)))⟩

theorem fs_45_r14 {n : Nat} (hp : p = 50 ∨ p = 460) (hi : D.length < 40) (X : cpX s p th h Θ D ((14, n1, n2, n3), (ax, x), tt, f)) (hD : tq_GD h.1 D) (hG : tp_G h.1 h.2.length ((14, n1, n2, n3), (ax, x), tt, f)) (B : cpB s p (stc p D.length)) (h1 : n1 < D.length) (k : ∀ v s', cpK s p h Θ D ((14, n1, n2, n3), (ax, x), tt, f) v s' → R v s') : pl_Cl n 45 [.ref p, .ref (stc p D.length), .ref (stc p n1 + 6)] s (ps_rI R) := by
  cases n with
  | zero => exact pl_At_0
  | succ n =>
  show pl_At (n + 1) 45 0 [(0, .ref p), (1, .ref (stc p D.length)), (2, .ref (stc p n1 + 6))] [] s (ps_rI R)
  obtain ⟨⟨x1, x2', x3⟩, x4, x5, x6, x7⟩ := id X
  have hN := cpN_of x6
  obtain ⟨t0, t1, t2, t3, t4, t5, t6, t7⟩ := x6
  have hl := stc_lt hp hi
  obtain ⟨cc1, cc4, cc5, cc6, cc8⟩ := stc_c hp hi
  obtain ⟨rr2, rr4, rr6⟩ := stc_row hp hi
  have hA := arh_k x1.1.2.2.1 x1.1.2.2.2.1
  have er : (ps_i s (stc p D.length) 0).toInt = (14 : Int) := t0
  obtain ⟨Ra, aa, ab, ac, ad, ae⟩ := prem_1 X hD h1
  have Wa : cv_W s (stc p n1 + 6) (tq_r D n1) := by rw [ab]; exact ad.1
  have r5a := (stc_row hp (i := n1) (by omega)).2.2
  have la : p + 44 ≤ stc p n1 ∧ stc p n1 + 9 ≤ stc p D.length := by unfold stc; omega
  have Ga : ws (sg h.1) (tq_r D n1) [true] := by rw [ab]; exact ae.1.1
  obtain ⟨-, -, ⟨-, -, -, c3', c4', c5'⟩, -, i12, i14, i6, -⟩ := prf hp
  have h40 := Wa.2.2.1
  refine pl_45_0 (fs_92h (c := 1) r5a Wa (fun v1 hh q1 => ?_) (fun v1 hh q1 => ?_))
  · refine ⟨fun _ => ?_, fun z => absurd (show v1 = 1 from Int32.toInt_inj.mp q1) z⟩
    obtain ⟨w1, w2, w3, ea⟩ := tq_half hA Ga hh (kS_2 (by decide) (by decide))
    have hen := en_le hA (k := 1) w3 (by simp)
    have hl1 : (tq_1 (arh h.1) (tq_r D n1)).length = en (arh h.1) ((tq_r D n1).drop 1) 1 := by
      unfold tq_1
      rw [List.length_take]
      omega
    have hal : (tq_r D n1).length = 1 + ((tq_r D n1).drop 1).length := by
      have := congrArg List.length ea
      rw [List.length_cons] at this
      rw [List.length_drop]
      omega
    have h1s : ((tq_r D n1).drop 1).take (1 + (tq_1 (arh h.1) (tq_r D n1)).length - 1) = tq_1 (arh h.1) (tq_r D n1) := by
      rw [Nat.add_sub_cancel_left, hl1]
      rfl
    have h2s : ((tq_r D n1).drop (1 + (tq_1 (arh h.1) (tq_r D n1)).length)).take ((tq_r D n1).length - (1 + (tq_1 (arh h.1) (tq_r D n1)).length)) = tq_2 (arh h.1) (tq_r D n1) := by
      rw [List.take_of_length_le (by rw [List.length_drop]; omega), hl1, ← List.drop_drop]
      rfl
    have hm : tq_mk h Θ D ((14, n1, n2, n3), (ax, x), tt, f) = (0, tq_1 (arh h.1) (tq_r D n1), [], [], []) := by rw [tq_mk_14, if_pos hh]
    refine pl_nk_i (fun _ => pl_nk_i (fun _ => ?_))
    rw [c5', x2', cc6]
    refine fs_103 (r := p + 16) (r1 := stc p n1 + 6) (l := tq_r D n1) i6 r5a x3 (by omega) Ga (Or.inl rfl) Wa x1.1 (fun s2 Z F2 => pl_nk_i (fun _ => ?_))
    refine fs_104 (i := 1) i6 rfl (by decide) (fun v3 q3 => pl_nk_i (fun _ => ?_))
    have e3 : v3.toInt = (1 + (tq_1 (arh h.1) (tq_r D n1)).length : Nat) := by
      rw [q3, Z.1 1 (Nat.zero_le _) (by obtain ⟨c, t, e⟩ := ws_ne w3; rw [e, List.length_cons] at hal; omega), hl1]
    have Wa2 := cv_W_cfr Wa F2 (by unfold CSh; omega) (by unfold CSh; omega)
    have er2 : (ps_i s2 (stc p D.length) 0).toInt = (14 : Int) := by rw [(F2 (stc p D.length) (by unfold CSh; omega)).1]; exact er
    refine ⟨fun z => absurd er2 (xne z), fun _ => ?_⟩
    refine pl_nk_i (fun _ => ?_)
    refine fs_96 (a := 1) (b := 1 + (tq_1 (arh h.1) (tq_r D n1)).length) rr6 r5a (by omega) Wa2 rfl e3 (by omega) (fun s4 W4 F4 => ?_)
    rw [h1s] at W4
    have FF : cfr (fun q => CSh (p + 16) q ∨ C2 (stc p D.length + 6) q) s s4 := cfr_tr (cfr_mono F2 (fun q z => Or.inl z)) (cfr_mono F4 (fun q z => Or.inr z))
    exact k _ _ ⟨by rw [hm]; rfl, fun _ => cpM_0 hm (of_decide_eq_true rfl) (of_decide_eq_true rfl) (of_decide_eq_true rfl) B hN FF (by unfold CSh C2; omega) (by unfold CSh C2; omega) (fun q a b => by unfold CSh C2; omega) (CW_of W4), cfr_mono FF (fun q z => z.elim (CSh_CTO q) (C2_CTO q))⟩
  · refine ⟨fun z => absurd (show v1.toInt = ((1 : Nat) : Int) from xeq z) q1, fun _ => ?_⟩
    have hm : tq_mk h Θ D ((14, n1, n2, n3), (ax, x), tt, f) = (2, [], [], [], []) := by rw [tq_mk_14, if_neg hh]
    exact k _ _ ⟨by rw [hm]; rfl, fun z => absurd z (by rw [hm]; exact of_decide_eq_true rfl), cfr_refl⟩

theorem fs_45_r15 {n : Nat} (hp : p = 50 ∨ p = 460) (hi : D.length < 40) (X : cpX s p th h Θ D ((15, n1, n2, n3), (ax, x), tt, f)) (hD : tq_GD h.1 D) (hG : tp_G h.1 h.2.length ((15, n1, n2, n3), (ax, x), tt, f)) (B : cpB s p (stc p D.length)) (h1 : n1 < D.length) (k : ∀ v s', cpK s p h Θ D ((15, n1, n2, n3), (ax, x), tt, f) v s' → R v s') : pl_Cl n 45 [.ref p, .ref (stc p D.length), .ref (stc p n1 + 6)] s (ps_rI R) := by
  cases n with
  | zero => exact pl_At_0
  | succ n =>
  show pl_At (n + 1) 45 0 [(0, .ref p), (1, .ref (stc p D.length)), (2, .ref (stc p n1 + 6))] [] s (ps_rI R)
  obtain ⟨⟨x1, x2', x3⟩, x4, x5, x6, x7⟩ := id X
  have hN := cpN_of x6
  obtain ⟨t0, t1, t2, t3, t4, t5, t6, t7⟩ := x6
  have hl := stc_lt hp hi
  obtain ⟨cc1, cc4, cc5, cc6, cc8⟩ := stc_c hp hi
  obtain ⟨rr2, rr4, rr6⟩ := stc_row hp hi
  have hA := arh_k x1.1.2.2.1 x1.1.2.2.2.1
  have er : (ps_i s (stc p D.length) 0).toInt = (15 : Int) := t0
  obtain ⟨Ra, aa, ab, ac, ad, ae⟩ := prem_1 X hD h1
  have Wa : cv_W s (stc p n1 + 6) (tq_r D n1) := by rw [ab]; exact ad.1
  have r5a := (stc_row hp (i := n1) (by omega)).2.2
  have la : p + 44 ≤ stc p n1 ∧ stc p n1 + 9 ≤ stc p D.length := by unfold stc; omega
  have Ga : ws (sg h.1) (tq_r D n1) [true] := by rw [ab]; exact ae.1.1
  obtain ⟨-, -, ⟨-, -, -, c3', c4', c5'⟩, -, i12, i14, i6, -⟩ := prf hp
  have h40 := Wa.2.2.1
  refine pl_45_0 (fs_92h (c := 1) r5a Wa (fun v1 hh q1 => ?_) (fun v1 hh q1 => ?_))
  · refine ⟨fun _ => ?_, fun z => absurd (show v1 = 1 from Int32.toInt_inj.mp q1) z⟩
    obtain ⟨w1, w2, w3, ea⟩ := tq_half hA Ga hh (kS_2 (by decide) (by decide))
    have hen := en_le hA (k := 1) w3 (by simp)
    have hl1 : (tq_1 (arh h.1) (tq_r D n1)).length = en (arh h.1) ((tq_r D n1).drop 1) 1 := by
      unfold tq_1
      rw [List.length_take]
      omega
    have hal : (tq_r D n1).length = 1 + ((tq_r D n1).drop 1).length := by
      have := congrArg List.length ea
      rw [List.length_cons] at this
      rw [List.length_drop]
      omega
    have h1s : ((tq_r D n1).drop 1).take (1 + (tq_1 (arh h.1) (tq_r D n1)).length - 1) = tq_1 (arh h.1) (tq_r D n1) := by
      rw [Nat.add_sub_cancel_left, hl1]
      rfl
    have h2s : ((tq_r D n1).drop (1 + (tq_1 (arh h.1) (tq_r D n1)).length)).take ((tq_r D n1).length - (1 + (tq_1 (arh h.1) (tq_r D n1)).length)) = tq_2 (arh h.1) (tq_r D n1) := by
      rw [List.take_of_length_le (by rw [List.length_drop]; omega), hl1, ← List.drop_drop]
      rfl
    have hm : tq_mk h Θ D ((15, n1, n2, n3), (ax, x), tt, f) = (0, tq_2 (arh h.1) (tq_r D n1), [], [], []) := by rw [tq_mk_15, if_pos hh]
    refine pl_nk_i (fun _ => pl_nk_i (fun _ => ?_))
    rw [c5', x2', cc6]
    refine fs_103 (r := p + 16) (r1 := stc p n1 + 6) (l := tq_r D n1) i6 r5a x3 (by omega) Ga (Or.inl rfl) Wa x1.1 (fun s2 Z F2 => pl_nk_i (fun _ => ?_))
    refine fs_104 (i := 1) i6 rfl (by decide) (fun v3 q3 => pl_nk_i (fun _ => ?_))
    have e3 : v3.toInt = (1 + (tq_1 (arh h.1) (tq_r D n1)).length : Nat) := by
      rw [q3, Z.1 1 (Nat.zero_le _) (by obtain ⟨c, t, e⟩ := ws_ne w3; rw [e, List.length_cons] at hal; omega), hl1]
    have Wa2 := cv_W_cfr Wa F2 (by unfold CSh; omega) (by unfold CSh; omega)
    have er2 : (ps_i s2 (stc p D.length) 0).toInt = (15 : Int) := by rw [(F2 (stc p D.length) (by unfold CSh; omega)).1]; exact er
    refine ⟨fun _ => ?_, fun z => absurd (show (ps_i s2 (stc p D.length) 0).toInt = (14 : Int) from xeq z) (by omega)⟩
    refine pl_nk_i (fun _ => pl_nk_i (fun _ => ?_))
    refine fs_96 (a := 1 + (tq_1 (arh h.1) (tq_r D n1)).length) (b := (tq_r D n1).length) rr6 r5a (by omega) Wa2 e3 Wa2.1 (Nat.le_refl _) (fun s4 W4 F4 => ?_)
    rw [h2s] at W4
    have FF : cfr (fun q => CSh (p + 16) q ∨ C2 (stc p D.length + 6) q) s s4 := cfr_tr (cfr_mono F2 (fun q z => Or.inl z)) (cfr_mono F4 (fun q z => Or.inr z))
    exact k _ _ ⟨by rw [hm]; rfl, fun _ => cpM_0 hm (of_decide_eq_true rfl) (of_decide_eq_true rfl) (of_decide_eq_true rfl) B hN FF (by unfold CSh C2; omega) (by unfold CSh C2; omega) (fun q a b => by unfold CSh C2; omega) (CW_of W4), cfr_mono FF (fun q z => z.elim (CSh_CTO q) (C2_CTO q))⟩
  · refine ⟨fun z => absurd (show v1.toInt = ((1 : Nat) : Int) from xeq z) q1, fun _ => ?_⟩
    have hm : tq_mk h Θ D ((15, n1, n2, n3), (ax, x), tt, f) = (2, [], [], [], []) := by rw [tq_mk_15, if_neg hh]
    exact k _ _ ⟨by rw [hm]; rfl, fun z => absurd z (by rw [hm]; exact of_decide_eq_true rfl), cfr_refl⟩

theorem fs_46_r18 {n : Nat} (hp : p = 50 ∨ p = 460) (hi : D.length < 40) (X : cpX s p th h Θ D ((18, n1, n2, n3), (ax, x), tt, f)) (hD : tq_GD h.1 D) (hG : tp_G h.1 h.2.length ((18, n1, n2, n3), (ax, x), tt, f)) (B : cpB s p (stc p D.length)) (h1 : n1 < D.length) (h2 : n2 < D.length) (h3 : n3 < D.length) (k : ∀ v s', cpK s p h Θ D ((18, n1, n2, n3), (ax, x), tt, f) v s' → R v s') : pl_Cl n 46 [.ref p, .ref (stc p D.length), .ref (stc p n1 + 6)] s (ps_rI R) := by
  cases n with
  | zero => exact pl_At_0
  | succ n =>
  show pl_At (n + 1) 46 0 [(0, .ref p), (1, .ref (stc p D.length)), (2, .ref (stc p n1 + 6))] [] s (ps_rI R)
  obtain ⟨⟨x1, x2', x3⟩, x4, x5, x6, x7⟩ := id X
  have hN := cpN_of x6
  obtain ⟨t0, t1, t2, t3, t4, t5, t6, t7⟩ := x6
  have hl := stc_lt hp hi
  obtain ⟨cc1, cc4, cc5, cc6, cc8⟩ := stc_c hp hi
  obtain ⟨rr2, rr4, rr6⟩ := stc_row hp hi
  have hA := arh_k x1.1.2.2.1 x1.1.2.2.2.1
  have er : (ps_i s (stc p D.length) 0).toInt = (18 : Int) := t0
  obtain ⟨Ra, aa, ab, ac, ad, ae⟩ := prem_1 X hD h1
  have Wa : cv_W s (stc p n1 + 6) (tq_r D n1) := by rw [ab]; exact ad.1
  have r5a := (stc_row hp (i := n1) (by omega)).2.2
  have la : p + 44 ≤ stc p n1 ∧ stc p n1 + 9 ≤ stc p D.length := by unfold stc; omega
  have Ga : ws (sg h.1) (tq_r D n1) [true] := by rw [ab]; exact ae.1.1
  obtain ⟨Rb, ba, bb, bc, bd, be⟩ := prem_1 X hD h2
  have Wb : cv_W s (stc p n2 + 6) (tq_r D n2) := by rw [bb]; exact bd.1
  have r5b := (stc_row hp (i := n2) (by omega)).2.2
  have lb : p + 44 ≤ stc p n2 ∧ stc p n2 + 9 ≤ stc p D.length := by unfold stc; omega
  have Gb : ws (sg h.1) (tq_r D n2) [true] := by rw [bb]; exact be.1.1
  obtain ⟨Rc, ca, cb, cc, cd, ce⟩ := prem_1 X hD h3
  have Wc : cv_W s (stc p n3 + 6) (tq_r D n3) := by rw [cb]; exact cd.1
  have r5c := (stc_row hp (i := n3) (by omega)).2.2
  have lc : p + 44 ≤ stc p n3 ∧ stc p n3 + 9 ≤ stc p D.length := by unfold stc; omega
  have Gc : ws (sg h.1) (tq_r D n3) [true] := by rw [cb]; exact ce.1.1
  obtain ⟨-, -, ⟨-, -, -, c3', c4', c5'⟩, -, i12, i14, i6, -⟩ := prf hp
  have h40 := Wa.2.2.1
  obtain ⟨b1, b2, b3, b4, b5⟩ := B
  have no : ¬ ((tq_r D n1).head? = some 2 ∧ tq_r D n2 = tq_r D n3) → R 2 s := fun hh => by
    have hm : tq_mk h Θ D ((18, n1, n2, n3), (ax, x), tt, f) = (2, [], [], [], []) := by rw [tq_mk_18, if_neg hh]
    exact k _ _ ⟨by rw [hm]; rfl, fun z => absurd z (by rw [hm]; exact of_decide_eq_true rfl), cfr_refl⟩
  refine pl_46_0 (fs_37 (j := 1) (i := n2) hp (stc_is hp hi) hl.2.1 rfl (by decide) (t2 (of_decide_eq_true rfl)) (by omega) (pl_nk_i (fun _ => ?_)))
  rw [(stc_c hp (i := n2) (by omega)).2.2.2.1]
  refine fs_92h (c := 2) r5a Wa (fun v1 hh q1 => ⟨fun z => absurd (show v1 = 2 from Int32.toInt_inj.mp q1) z, fun _ => ?_⟩) (fun v1 hh q1 => ⟨fun _ => no (fun y => hh y.1), fun z => absurd (show v1.toInt = ((2 : Nat) : Int) from xeq z) q1⟩)
  refine fs_37 (j := 2) (i := n3) hp (stc_is hp hi) hl.2.1 rfl (by decide) (t3 (of_decide_eq_true rfl)) (by omega) (pl_nk_i (fun _ => ?_))
  rw [(stc_c hp (i := n3) (by omega)).2.2.2.1]
  refine fs_98 r5b r5c (CW_of Wb) (CW_of Wc) (Or.inl Wb.2.2.1) (fun e => ⟨fun _ => ?_, fun z => absurd z (by decide)⟩) (fun e => ⟨fun z => absurd rfl z, fun _ => no (fun y => e y.2)⟩)
  obtain ⟨w1, w2, w3, ea⟩ := tq_half hA Ga hh (kS_2 (by decide) (by decide))
  have hen := en_le hA (k := 1) w3 (by simp)
  have hl1 : (tq_1 (arh h.1) (tq_r D n1)).length = en (arh h.1) ((tq_r D n1).drop 1) 1 := by
    unfold tq_1
    rw [List.length_take]
    omega
  have hal : (tq_r D n1).length = 1 + ((tq_r D n1).drop 1).length := by
    have := congrArg List.length ea
    rw [List.length_cons] at this
    rw [List.length_drop]
    omega
  have h1s : ((tq_r D n1).drop 1).take (1 + (tq_1 (arh h.1) (tq_r D n1)).length - 1) = tq_1 (arh h.1) (tq_r D n1) := by
    rw [Nat.add_sub_cancel_left, hl1]
    rfl
  have h2s : ((tq_r D n1).drop (1 + (tq_1 (arh h.1) (tq_r D n1)).length)).take ((tq_r D n1).length - (1 + (tq_1 (arh h.1) (tq_r D n1)).length)) = tq_2 (arh h.1) (tq_r D n1) := by
    rw [List.take_of_length_le (by rw [List.length_drop]; omega), hl1, ← List.drop_drop]
    rfl
  have hm : tq_mk h Θ D ((18, n1, n2, n3), (ax, x), tt, f) = (0, tq_r D n2, [], tq_1 (arh h.1) (tq_r D n1), tq_2 (arh h.1) (tq_r D n1)) := by rw [tq_mk_18, if_pos ⟨hh, e⟩]
  refine pl_nk_i (fun _ => pl_nk_i (fun _ => ?_))
  rw [c5', x2']
  refine fs_103 (r := p + 16) (r1 := stc p n1 + 6) (l := tq_r D n1) i6 r5a x3 (by omega) Ga (Or.inl rfl) Wa x1.1 (fun s2 Z F2 => pl_nk_i (fun _ => ?_))
  refine fs_104 (i := 1) i6 rfl (by decide) (fun v6 q6 => ?_)
  have e3 : v6.toInt = (1 + (tq_1 (arh h.1) (tq_r D n1)).length : Nat) := by
    rw [q6, Z.1 1 (Nat.zero_le _) (by obtain ⟨c, t, e⟩ := ws_ne w3; rw [e, List.length_cons] at hal; omega), hl1]
  have Wa2 := cv_W_cfr Wa F2 (by unfold CSh; omega) (by unfold CSh; omega)
  refine fs_38 (i := 1) hp rfl (by decide) ?_
  refine fs_96 (a := 1) (b := 1 + (tq_1 (arh h.1) (tq_r D n1)).length) ((prf hp).2.1 1 (by decide)).2 r5a (by unfold otc; omega) Wa2 rfl e3 (by omega) (fun s4 W4 F4 => ?_)
  rw [h1s] at W4
  have Wa4 := cv_W_cfr Wa2 F4 (by unfold C2 otc; omega) (by unfold C2 otc; omega)
  refine fs_38 (i := 2) hp rfl (by decide) (pl_nk_i (fun _ => ?_))
  refine fs_96 (a := 1 + (tq_1 (arh h.1) (tq_r D n1)).length) (b := (tq_r D n1).length) ((prf hp).2.1 2 (by decide)).2 r5a (by unfold otc; omega) Wa4 e3 Wa4.1 (Nat.le_refl _) (fun s5 W5 F5 => pl_nk_i (fun _ => ?_))
  rw [h2s] at W5
  rw [cc6]
  have Fa : cfr (fun q => CSh (p + 16) q ∨ (p + 406 ≤ q ∧ q ≤ p + 409)) s s5 := cfr_tr (cfr_tr (cfr_mono F2 (fun q z => Or.inl z)) (cfr_mono F4 (fun q z => Or.inr (by unfold C2 otc at z; omega)))) (cfr_mono F5 (fun q z => Or.inr (by unfold C2 otc at z; omega)))
  have Wb5 := cv_W_cfr Wb Fa (by unfold CSh; omega) (by unfold CSh; omega)
  refine fs_95 rr6 r5b (by omega) Wb5 (fun s6 W6 F6 => ?_)
  have Fb : cfr (fun q => (CSh (p + 16) q ∨ (p + 406 ≤ q ∧ q ≤ p + 409)) ∨ C2 (stc p D.length + 6) q) s s6 := cfr_tr (cfr_mono Fa (fun q z => Or.inl z)) (cfr_mono F6 (fun q z => Or.inr z))
  have f0 := Fb (stc p D.length) (by unfold CSh C2; omega)
  refine k _ _ ⟨by rw [hm]; rfl, fun _ => ?_, cfr_mono Fb (fun q z => by unfold CSh C2 at z; unfold CTO; omega)⟩
  unfold cpM
  rw [hm]
  refine ⟨CW_of W6, ⟨CW_cfr (b1 0 (by decide)) Fb (by unfold CSh C2 otc; omega) (by unfold CSh C2 otc; omega), CW_of (cv_W_cfr (cv_W_cfr W4 F5 (by unfold C2 otc; omega) (by unfold C2 otc; omega)) F6 (by unfold C2 otc; omega) (by unfold C2 otc; omega)), CW_of (cv_W_cfr W5 F6 (by unfold C2 otc; omega) (by unfold C2 otc; omega))⟩, ⟨by rw [f0.1]; exact b4, by rw [f0.1]; exact b5⟩, fun _ => PA_0 (by rw [f0.1]; exact b2) (by rw [f0.1]; exact b3), fun z => absurd z (of_decide_eq_true rfl), cpN_eq hN (by rw [f0.1]) (Fb (stc p D.length + 1) (by unfold CSh C2; omega)).2.2.2.1⟩

theorem fs_47_r19 {n : Nat} (hp : p = 50 ∨ p = 460) (hi : D.length < 40) (X : cpX s p th h Θ D ((19, n1, n2, n3), (ax, x), tt, f)) (hD : tq_GD h.1 D) (hG : tp_G h.1 h.2.length ((19, n1, n2, n3), (ax, x), tt, f)) (B : cpB s p (stc p D.length)) (h1 : n1 < D.length) (h2 : n2 < D.length) (k : ∀ v s', cpK s p h Θ D ((19, n1, n2, n3), (ax, x), tt, f) v s' → R v s') : pl_Cl n 47 [.ref p, .ref (stc p D.length), .ref (stc p n1 + 6), .ref (stc p n2 + 6)] s (ps_rI R) := by
  cases n with
  | zero => exact pl_At_0
  | succ n =>
  show pl_At (n + 1) 47 0 [(0, .ref p), (1, .ref (stc p D.length)), (2, .ref (stc p n1 + 6)), (3, .ref (stc p n2 + 6))] [] s (ps_rI R)
  obtain ⟨⟨x1, x2', x3⟩, x4, x5, x6, x7⟩ := id X
  have hN := cpN_of x6
  obtain ⟨t0, t1, t2, t3, t4, t5, t6, t7⟩ := x6
  have hl := stc_lt hp hi
  obtain ⟨cc1, cc4, cc5, cc6, cc8⟩ := stc_c hp hi
  obtain ⟨rr2, rr4, rr6⟩ := stc_row hp hi
  have hA := arh_k x1.1.2.2.1 x1.1.2.2.2.1
  have er : (ps_i s (stc p D.length) 0).toInt = (19 : Int) := t0
  obtain ⟨Ra, aa, ab, ac, ad, ae⟩ := prem_1 X hD h1
  have Wa : cv_W s (stc p n1 + 6) (tq_r D n1) := by rw [ab]; exact ad.1
  have r5a := (stc_row hp (i := n1) (by omega)).2.2
  have la : p + 44 ≤ stc p n1 ∧ stc p n1 + 9 ≤ stc p D.length := by unfold stc; omega
  have Ga : ws (sg h.1) (tq_r D n1) [true] := by rw [ab]; exact ae.1.1
  obtain ⟨Rb, ba, bb, bc, bd, be⟩ := prem_1 X hD h2
  have Wb : cv_W s (stc p n2 + 6) (tq_r D n2) := by rw [bb]; exact bd.1
  have r5b := (stc_row hp (i := n2) (by omega)).2.2
  have lb : p + 44 ≤ stc p n2 ∧ stc p n2 + 9 ≤ stc p D.length := by unfold stc; omega
  have Gb : ws (sg h.1) (tq_r D n2) [true] := by rw [bb]; exact be.1.1
  obtain ⟨-, -, ⟨-, -, -, c3', c4', c5'⟩, -, i12, i14, i6, -⟩ := prf hp
  have h40 := Wa.2.2.1
  have c1 : (1 : Int32).toInt = 1 := by decide
  refine pl_47_0 ?_
  refine pl_nk_i (fun _ => pl_nk_i (fun _ => ?_))
  rw [c5', x2', cc6]
  refine fs_103 (r := p + 16) (r1 := stc p n1 + 6) (l := tq_r D n1) i6 r5a x3 (by omega) Ga (Or.inl rfl) Wa x1.1 (fun s2 Z F2 => pl_nk_i (fun _ => ?_))
  have F2' : cfr (CTO p D.length) s s2 := cfr_mono F2 CSh_CTO
  have Wa2 := cv_W_cfr Wa F2 (by unfold CSh; omega) (by unfold CSh; omega)
  have Wb2 := cv_W_cfr Wb F2 (by unfold CSh; omega) (by unfold CSh; omega)
  have no : ¬ ((tq_r D n1).head? = some 3 ∧ tq_1 (arh h.1) (tq_r D n1) = tq_r D n2) → R 2 s2 := fun hh => by
    have hm : tq_mk h Θ D ((19, n1, n2, n3), (ax, x), tt, f) = (2, [], [], [], []) := by rw [tq_mk_19, if_neg hh]
    exact k _ _ ⟨by rw [hm]; rfl, fun z => absurd z (by rw [hm]; exact of_decide_eq_true rfl), F2'⟩
  refine fs_104 (i := 1) i6 rfl (by decide) (fun v2 q2 => ?_)
  refine fs_92h (c := 3) r5a Wa2 (fun v3 hh q3 => ⟨fun z => absurd (show v3 = 3 from Int32.toInt_inj.mp q3) z, fun _ => pl_nk_i (fun _ => ?_)⟩) (fun v3 hh q3 => ⟨fun _ => no (fun y => hh y.1), fun z => absurd (show v3.toInt = ((3 : Nat) : Int) from xeq z) q3⟩)
  obtain ⟨w1, w2, w3, ea⟩ := tq_half hA Ga hh (kS_2 (by decide) (by decide))
  have hen := en_le hA (k := 1) w3 (by simp)
  have hl1 : (tq_1 (arh h.1) (tq_r D n1)).length = en (arh h.1) ((tq_r D n1).drop 1) 1 := by
    unfold tq_1
    rw [List.length_take]
    omega
  have hal : (tq_r D n1).length = 1 + ((tq_r D n1).drop 1).length := by
    have := congrArg List.length ea
    rw [List.length_cons] at this
    rw [List.length_drop]
    omega
  have h1s : ((tq_r D n1).drop 1).take (1 + (tq_1 (arh h.1) (tq_r D n1)).length - 1) = tq_1 (arh h.1) (tq_r D n1) := by
    rw [Nat.add_sub_cancel_left, hl1]
    rfl
  have h2s : ((tq_r D n1).drop (1 + (tq_1 (arh h.1) (tq_r D n1)).length)).take ((tq_r D n1).length - (1 + (tq_1 (arh h.1) (tq_r D n1)).length)) = tq_2 (arh h.1) (tq_r D n1) := by
    rw [List.take_of_length_le (by rw [List.length_drop]; omega), hl1, ← List.drop_drop]
    rfl
  have e3 : v2.toInt = (1 + (tq_1 (arh h.1) (tq_r D n1)).length : Nat) := by
    rw [q2, Z.1 1 (Nat.zero_le _) (by obtain ⟨c, t, e⟩ := ws_ne w3; rw [e, List.length_cons] at hal; omega), hl1]
  have e4 : (v2 - 1).toInt = ((tq_1 (arh h.1) (tq_r D n1)).length : Nat) := by rw [xIs (by omega) (by omega), e3, c1]; omega
  have eb2 := Wb2.1
  refine ⟨fun z => no (fun y => ?_), fun z => ?_⟩
  · have z := xne z
    rw [y.2] at e4
    omega
  · have z := xeq z
    have el : (tq_1 (arh h.1) (tq_r D n1)).length = (tq_r D n2).length := by omega
    refine fs_99 (b := 1) (e := 1 + (tq_1 (arh h.1) (tq_r D n1)).length) (p := 0) r5a Wa2 r5b Wb2 rfl e3 (by omega) rfl (by decide) (fun y => ⟨fun _ => ?_, fun u => absurd u (by decide)⟩) (fun y => ⟨fun u => absurd rfl u, fun _ => no (fun u => y ?_)⟩)
    · rw [h1s, Nat.add_sub_cancel_left, el, List.drop_zero, List.take_length] at y
      have hm : tq_mk h Θ D ((19, n1, n2, n3), (ax, x), tt, f) = (0, tq_2 (arh h.1) (tq_r D n1), [], [], []) := by rw [tq_mk_19, if_pos ⟨hh, y⟩]
      refine pl_nk_i (fun _ => pl_nk_i (fun _ => ?_))
      refine fs_96 (a := 1 + (tq_1 (arh h.1) (tq_r D n1)).length) (b := (tq_r D n1).length) rr6 r5a (by omega) Wa2 e3 Wa2.1 (Nat.le_refl _) (fun s4 W4 F4 => ?_)
      rw [h2s] at W4
      have FF : cfr (fun q => CSh (p + 16) q ∨ C2 (stc p D.length + 6) q) s s4 := cfr_tr (cfr_mono F2 (fun q z => Or.inl z)) (cfr_mono F4 (fun q z => Or.inr z))
      exact k _ _ ⟨by rw [hm]; rfl, fun _ => cpM_0 hm (of_decide_eq_true rfl) (of_decide_eq_true rfl) (of_decide_eq_true rfl) B hN FF (by unfold CSh C2; omega) (by unfold CSh C2; omega) (fun q a b => by unfold CSh C2; omega) (CW_of W4), cfr_mono FF (fun q z => z.elim (CSh_CTO q) (C2_CTO q))⟩
    · rw [h1s, Nat.add_sub_cancel_left, el, List.drop_zero, List.take_length]
      exact u.2

theorem fs_48_r26 {n : Nat} (hp : p = 50 ∨ p = 460) (hi : D.length < 40) (X : cpX s p th h Θ D ((26, n1, n2, n3), (ax, x), tt, f)) (hD : tq_GD h.1 D) (hG : tp_G h.1 h.2.length ((26, n1, n2, n3), (ax, x), tt, f)) (B : cpB s p (stc p D.length)) (h1 : n1 < D.length) (k : ∀ v s', cpK s p h Θ D ((26, n1, n2, n3), (ax, x), tt, f) v s' → R v s') : pl_Cl n 48 [.ref p, .ref (stc p D.length), .ref (stc p n1 + 6)] s (ps_rI R) := by
  cases n with
  | zero => exact pl_At_0
  | succ n =>
  show pl_At (n + 1) 48 0 [(0, .ref p), (1, .ref (stc p D.length)), (2, .ref (stc p n1 + 6))] [] s (ps_rI R)
  obtain ⟨⟨x1, x2', x3⟩, x4, x5, x6, x7⟩ := id X
  have hN := cpN_of x6
  obtain ⟨t0, t1, t2, t3, t4, t5, t6, t7⟩ := x6
  have hl := stc_lt hp hi
  obtain ⟨cc1, cc4, cc5, cc6, cc8⟩ := stc_c hp hi
  obtain ⟨rr2, rr4, rr6⟩ := stc_row hp hi
  have hA := arh_k x1.1.2.2.1 x1.1.2.2.2.1
  have er : (ps_i s (stc p D.length) 0).toInt = (26 : Int) := t0
  obtain ⟨Ra, aa, ab, ac, ad, ae⟩ := prem_1 X hD h1
  have Wa : cv_W s (stc p n1 + 6) (tq_r D n1) := by rw [ab]; exact ad.1
  have r5a := (stc_row hp (i := n1) (by omega)).2.2
  have la : p + 44 ≤ stc p n1 ∧ stc p n1 + 9 ≤ stc p D.length := by unfold stc; omega
  have Ga : ws (sg h.1) (tq_r D n1) [true] := by rw [ab]; exact ae.1.1
  have W := t7 (of_decide_eq_true rfl)
  refine pl_48_0 (fs_92h (c := 0) r5a Wa (fun v1 hh q1 => ⟨fun _ => ?_, fun z => absurd (show v1 = 0 from Int32.toInt_inj.mp q1) z⟩) (fun v1 hh q1 => ⟨fun z => absurd (show v1.toInt = ((0 : Nat) : Int) from xeq z) q1, fun _ => ?_⟩))
  · refine pl_nk_i (fun _ => pl_nk_i (fun _ => ?_))
    rw [cc6, cc5]
    refine fs_95 rr6 rr4 (by omega) W (fun s2 W2 F2 => pl_nk_i (fun _ => ?_))
    have er2 : (ps_i s2 (stc p D.length) 0).toInt = (26 : Int) := by rw [(F2 (stc p D.length) (by unfold C2; omega)).1]; exact er
    have hm : tq_mk h Θ D ((26, n1, n2, n3), (ax, x), tt, f) = (0, f, [], [], []) := by rw [tq_mk_26, if_pos hh]
    refine ⟨fun _ => ?_, fun z => absurd (show (ps_i s2 (stc p D.length) 0).toInt = (27 : Int) from xeq z) (by omega)⟩
    exact k _ _ ⟨by rw [hm]; rfl, fun _ => cpM_0 hm (of_decide_eq_true rfl) (of_decide_eq_true rfl) (of_decide_eq_true rfl) B hN F2 (by unfold C2; omega) (by unfold C2; omega) (fun q a b => by unfold C2; omega) (CW_of W2), cfr_mono F2 C2_CTO⟩
  · have hm : tq_mk h Θ D ((26, n1, n2, n3), (ax, x), tt, f) = (2, [], [], [], []) := by rw [tq_mk_26, if_neg hh]
    exact k _ _ ⟨by rw [hm]; rfl, fun z => absurd z (by rw [hm]; exact of_decide_eq_true rfl), cfr_refl⟩

theorem fs_48_r27 {n : Nat} (hp : p = 50 ∨ p = 460) (hi : D.length < 40) (X : cpX s p th h Θ D ((27, n1, n2, n3), (ax, x), tt, f)) (hD : tq_GD h.1 D) (hG : tp_G h.1 h.2.length ((27, n1, n2, n3), (ax, x), tt, f)) (B : cpB s p (stc p D.length)) (h1 : n1 < D.length) (k : ∀ v s', cpK s p h Θ D ((27, n1, n2, n3), (ax, x), tt, f) v s' → R v s') : pl_Cl n 48 [.ref p, .ref (stc p D.length), .ref (stc p n1 + 6)] s (ps_rI R) := by
  cases n with
  | zero => exact pl_At_0
  | succ n =>
  show pl_At (n + 1) 48 0 [(0, .ref p), (1, .ref (stc p D.length)), (2, .ref (stc p n1 + 6))] [] s (ps_rI R)
  obtain ⟨⟨x1, x2', x3⟩, x4, x5, x6, x7⟩ := id X
  have hN := cpN_of x6
  obtain ⟨t0, t1, t2, t3, t4, t5, t6, t7⟩ := x6
  have hl := stc_lt hp hi
  obtain ⟨cc1, cc4, cc5, cc6, cc8⟩ := stc_c hp hi
  obtain ⟨rr2, rr4, rr6⟩ := stc_row hp hi
  have hA := arh_k x1.1.2.2.1 x1.1.2.2.2.1
  have er : (ps_i s (stc p D.length) 0).toInt = (27 : Int) := t0
  obtain ⟨Ra, aa, ab, ac, ad, ae⟩ := prem_1 X hD h1
  have Wa : cv_W s (stc p n1 + 6) (tq_r D n1) := by rw [ab]; exact ad.1
  have r5a := (stc_row hp (i := n1) (by omega)).2.2
  have la : p + 44 ≤ stc p n1 ∧ stc p n1 + 9 ≤ stc p D.length := by unfold stc; omega
  have Ga : ws (sg h.1) (tq_r D n1) [true] := by rw [ab]; exact ae.1.1
  have W := t7 (of_decide_eq_true rfl)
  refine pl_48_0 (fs_92h (c := 0) r5a Wa (fun v1 hh q1 => ⟨fun _ => ?_, fun z => absurd (show v1 = 0 from Int32.toInt_inj.mp q1) z⟩) (fun v1 hh q1 => ⟨fun z => absurd (show v1.toInt = ((0 : Nat) : Int) from xeq z) q1, fun _ => ?_⟩))
  · refine pl_nk_i (fun _ => pl_nk_i (fun _ => ?_))
    rw [cc6, cc5]
    refine fs_95 rr6 rr4 (by omega) W (fun s2 W2 F2 => pl_nk_i (fun _ => ?_))
    have er2 : (ps_i s2 (stc p D.length) 0).toInt = (27 : Int) := by rw [(F2 (stc p D.length) (by unfold C2; omega)).1]; exact er
    have hm : tq_mk h Θ D ((27, n1, n2, n3), (ax, x), tt, f) = (0, f, 3 :: (f ++ [0]), [], []) := by rw [tq_mk_27, if_pos hh]
    obtain ⟨b1, b2, b3, b4, b5⟩ := B
    have o5 := ((prf hp).2.1 0 (by decide)).2
    refine ⟨fun z => absurd er2 (xne z), fun _ => ?_⟩
    refine fs_38 (i := 0) hp rfl (by decide) (fs_91 ?_)
    have G0 : cfr (C2 (otc p 0)) s2 (ps_ui (ps_ui s2 (otc p 0) 1 0) (otc p 0) 2 0) := cfr_i (cfr_i cfr_refl (Or.inl rfl)) (Or.inl rfl)
    refine fs_38 (i := 0) hp rfl (by decide) (fs_93w (c := 3) o5 (CW_of CW_0) rfl (fun s3 C3 F3 => ?_))
    have G1 := cfr_tr G0 F3
    refine fs_38 (i := 0) hp rfl (by decide) (pl_nk_i (fun _ => pl_nk_i (fun _ => pl_nk_i (fun _ => ?_))))
    have W3 := cv_W_cfr (cv_W_cfr W F2 (by unfold C2; omega) (by unfold C2; omega)) G1 (by unfold C2 otc; omega) (by unfold C2 otc; omega)
    refine fs_94w (a := 0) (b := f.length) o5 rr4 (by unfold otc; omega) W3 C3 rfl W3.1 (Nat.le_refl _) (fun s4 C4 F4 => ?_)
    have G2 := cfr_tr G1 F4
    refine fs_38 (i := 0) hp rfl (by decide) (fs_93w (c := 0) o5 C4 rfl (fun s5 C5 F5 => ?_))
    have G3 := cfr_tr G2 F5
    rw [List.drop_zero, Nat.sub_zero, List.take_length] at C5
    have C5 : CW s5 (otc p 0) (3 :: (f ++ [0])) := C5
    have f0 := F2 (stc p D.length) (by unfold C2; omega)
    have g0 := G3 (stc p D.length) (by unfold C2 otc; omega)
    have ou : ∀ k, 1 ≤ k → k < 3 → CW s5 (otc p k) [] := fun k h1 hk => CW_cfr (CW_cfr (b1 k hk) F2 (by unfold C2 otc; omega) (by unfold C2 otc; omega)) G3 (by unfold C2 otc; omega) (by unfold C2 otc; omega)
    refine k _ _ ⟨by rw [hm]; rfl, fun _ => ?_, cfr_tr (cfr_mono F2 C2_CTO) (cfr_mono G3 (C2_out (by decide)))⟩
    unfold cpM
    rw [hm]
    exact ⟨CW_of (cv_W_cfr W2 G3 (by unfold C2 otc; omega) (by unfold C2 otc; omega)), ⟨C5, ou 1 (by decide) (by decide), ou 2 (by decide) (by decide)⟩, ⟨by rw [g0.1, f0.1]; exact b4, by rw [g0.1, f0.1]; exact b5⟩, fun _ => PA_0 (by rw [g0.1, f0.1]; exact b2) (by rw [g0.1, f0.1]; exact b3), fun z => absurd z (of_decide_eq_true rfl), cpN_eq hN (by rw [g0.1, f0.1]) (((G3 (stc p D.length + 1) (by unfold C2 otc; omega)).2.2.2.1).trans (F2 (stc p D.length + 1) (by unfold C2; omega)).2.2.2.1)⟩
  · have hm : tq_mk h Θ D ((27, n1, n2, n3), (ax, x), tt, f) = (2, [], [], [], []) := by rw [tq_mk_27, if_neg hh]
    exact k _ _ ⟨by rw [hm]; rfl, fun z => absurd z (by rw [hm]; exact of_decide_eq_true rfl), cfr_refl⟩

theorem fs_49_r21 {n : Nat} (hp : p = 50 ∨ p = 460) (hi : D.length < 40) (X : cpX s p th h Θ D ((21, n1, n2, n3), (ax, x), tt, f)) (hD : tq_GD h.1 D) (hG : tp_G h.1 h.2.length ((21, n1, n2, n3), (ax, x), tt, f)) (B : cpB s p (stc p D.length)) (h1 : n1 < D.length) (k : ∀ v s', cpK s p h Θ D ((21, n1, n2, n3), (ax, x), tt, f) v s' → R v s') : pl_Cl n 49 [.ref p, .ref (stc p D.length), .ref (stc p n1 + 6)] s (ps_rI R) := by
  cases n with
  | zero => exact pl_At_0
  | succ n =>
  show pl_At (n + 1) 49 0 [(0, .ref p), (1, .ref (stc p D.length)), (2, .ref (stc p n1 + 6))] [] s (ps_rI R)
  obtain ⟨⟨x1, x2', x3⟩, x4, x5, x6, x7⟩ := id X
  have hN := cpN_of x6
  obtain ⟨t0, t1, t2, t3, t4, t5, t6, t7⟩ := x6
  have hl := stc_lt hp hi
  obtain ⟨cc1, cc4, cc5, cc6, cc8⟩ := stc_c hp hi
  obtain ⟨rr2, rr4, rr6⟩ := stc_row hp hi
  have hA := arh_k x1.1.2.2.1 x1.1.2.2.2.1
  have er : (ps_i s (stc p D.length) 0).toInt = (21 : Int) := t0
  obtain ⟨Ra, aa, ab, ac, ad, ae⟩ := prem_1 X hD h1
  have Wa : cv_W s (stc p n1 + 6) (tq_r D n1) := by rw [ab]; exact ad.1
  have r5a := (stc_row hp (i := n1) (by omega)).2.2
  have la : p + 44 ≤ stc p n1 ∧ stc p n1 + 9 ≤ stc p D.length := by unfold stc; omega
  have Ga : ws (sg h.1) (tq_r D n1) [true] := by rw [ab]; exact ae.1.1
  obtain ⟨-, -, ⟨-, -, -, c3', c4', c5'⟩, -, i12, i14, i6, -⟩ := prf hp
  have h40 := Wa.2.2.1
  have tn : (ps_a s (stc p D.length + 1) 0).toInt = n1 := t1 (of_decide_eq_true rfl)
  have t5 := t5 (Or.inl rfl)
  have hx : x < 12 := hG.2.2.2.1 (Or.inl rfl)
  have hb0 : (tq_a D n1).any (fun y => !decide (y = []) && y.contains (60 + x)) = (tq_a D n1).any (fun y => y.contains (60 + x)) := by
    congr 1
    funext y
    cases y with
    | nil => rfl
    | cons c t => rw [decide_eq_false (fun e => by cases e)]; rfl
  rw [ac] at hb0
  refine pl_49_0 (fs_37 (j := 0) (i := n1) hp (stc_is hp hi) hl.2.1 rfl (by decide) tn (by omega) (pl_nk_i (fun _ => pl_nk_i (fun _ => ?_))))
  rw [c3']
  refine fs_51 (oo := []) hp x5 aa i12 (CW_of x7) t5 (fun y => ⟨fun z => absurd z (by decide), fun _ => ?_⟩) (fun y => ⟨fun _ => ?_, fun z => absurd rfl z⟩)
  · rw [hb0] at y
    have hm : tq_mk h Θ D ((21, n1, n2, n3), (ax, x), tt, f) = (3, [], [], [], []) := by rw [tq_mk_21, ac, if_pos y]
    exact k _ _ ⟨by rw [hm]; rfl, fun z => absurd z (by rw [hm]; exact of_decide_eq_true rfl), cfr_refl⟩
  · rw [hb0] at y
    have hm : tq_mk h Θ D ((21, n1, n2, n3), (ax, x), tt, f) = (0, tq_ge (arh h.1) (tq_r D n1) x, [], [], []) := by rw [tq_mk_21, ac, if_neg y]
    refine pl_nk_i (fun _ => pl_nk_i (fun _ => ?_))
    rw [c5', x2', cc6]
    refine fs_103 (r := p + 16) (r1 := stc p n1 + 6) (l := tq_r D n1) i6 r5a x3 (by omega) Ga (Or.inl rfl) Wa x1.1 (fun s2 Z F2 => pl_nk_i (fun _ => fs_91 (pl_nk_i (fun _ => ?_))))
    have G0 : cfr (C2 (stc p D.length + 6)) s2 (ps_ui (ps_ui s2 (stc p D.length + 6) 1 0) (stc p D.length + 6) 2 0) := cfr_i (cfr_i cfr_refl (Or.inl rfl)) (Or.inl rfl)
    refine fs_93w (c := 4) rr6 (CW_of CW_0) rfl (fun s3 C3 F3 => ?_)
    have G1 := cfr_tr G0 F3
    have Wa3 := cv_W_cfr (cv_W_cfr Wa F2 (by unfold CSh; omega) (by unfold CSh; omega)) G1 (by unfold C2; omega) (by unfold C2; omega)
    refine fs_49_52 (x := x) (D := D) (j := n1) (s0 := s3) hp hi h1 Wa3 (by rw [(G1 (stc p D.length) (by unfold C2; omega)).1, (F2 (stc p D.length) (by unfold CSh; omega)).1]; exact t5) (ly_len hA Ga rfl) (fun i d hd => by rw [(G1 (p + 19) (by unfold C2; omega)).2.2.2.1]; exact (Z.2.2.1 i d hd).2) (ly_b h40) (by omega) (fun s' C F => ?_) n (i := 0) (L := [4]) rfl C3 rfl cfr_refl
    have FF : cfr (fun q => CSh (p + 16) q ∨ C2 (stc p D.length + 6) q) s s' := cfr_tr (cfr_mono F2 (fun q z => Or.inl z)) (cfr_mono (cfr_tr G1 F) (fun q z => Or.inr z))
    exact k _ _ ⟨by rw [hm]; rfl, fun _ => cpM_0 hm (of_decide_eq_true rfl) (of_decide_eq_true rfl) (of_decide_eq_true rfl) B hN FF (by unfold CSh C2; omega) (by unfold CSh C2; omega) (fun q a b => by unfold CSh C2; omega) C, cfr_mono FF (fun q z => z.elim (CSh_CTO q) (C2_CTO q))⟩

theorem fs_50_r22 {n : Nat} (hp : p = 50 ∨ p = 460) (hi : D.length < 40) (X : cpX s p th h Θ D ((22, n1, n2, n3), (ax, x), tt, f)) (hD : tq_GD h.1 D) (hG : tp_G h.1 h.2.length ((22, n1, n2, n3), (ax, x), tt, f)) (B : cpB s p (stc p D.length)) (h1 : n1 < D.length) (k : ∀ v s', cpK s p h Θ D ((22, n1, n2, n3), (ax, x), tt, f) v s' → R v s') : pl_Cl n 50 [.ref p, .ref (stc p D.length), .ref (stc p n1 + 6)] s (ps_rI R) := by
  cases n with
  | zero => exact pl_At_0
  | succ n =>
  show pl_At (n + 1) 50 0 [(0, .ref p), (1, .ref (stc p D.length)), (2, .ref (stc p n1 + 6))] [] s (ps_rI R)
  obtain ⟨⟨x1, x2', x3⟩, x4, x5, x6, x7⟩ := id X
  have hN := cpN_of x6
  obtain ⟨t0, t1, t2, t3, t4, t5, t6, t7⟩ := x6
  have hl := stc_lt hp hi
  obtain ⟨cc1, cc4, cc5, cc6, cc8⟩ := stc_c hp hi
  obtain ⟨rr2, rr4, rr6⟩ := stc_row hp hi
  have hA := arh_k x1.1.2.2.1 x1.1.2.2.2.1
  have er : (ps_i s (stc p D.length) 0).toInt = (22 : Int) := t0
  obtain ⟨Ra, aa, ab, ac, ad, ae⟩ := prem_1 X hD h1
  have Wa : cv_W s (stc p n1 + 6) (tq_r D n1) := by rw [ab]; exact ad.1
  have r5a := (stc_row hp (i := n1) (by omega)).2.2
  have la : p + 44 ≤ stc p n1 ∧ stc p n1 + 9 ≤ stc p D.length := by unfold stc; omega
  have Ga : ws (sg h.1) (tq_r D n1) [true] := by rw [ab]; exact ae.1.1
  obtain ⟨-, -, ⟨-, -, -, c3', c4', c5'⟩, -, i12, i14, i6, -⟩ := prf hp
  have h40 := Wa.2.2.1
  have W := t6 (of_decide_eq_true rfl)
  refine pl_50_0 (fs_92h (c := 4) r5a Wa (fun v1 hh q1 => ⟨fun _ => ?_, fun z => absurd (show v1 = 4 from Int32.toInt_inj.mp q1) z⟩) (fun v1 hh q1 => ⟨fun z => absurd (show v1.toInt = ((4 : Nat) : Int) from xeq z) q1, fun _ => ?_⟩))
  · have hm : tq_mk h Θ D ((22, n1, n2, n3), (ax, x), tt, f) = (0, tq_in (arh h.1) (tq_r D n1) tt, [], [], []) := by rw [tq_mk_22, if_pos hh]
    refine pl_nk_i (fun _ => pl_nk_i (fun _ => ?_))
    rw [cc6, cc4]
    refine fs_52 hp x3 x2' x1.1 rr6 r5a rr2 (by unfold apart; omega) (by unfold apart; omega) (by omega) Wa Ga W (fun s2 C FF => ?_)
    exact k _ _ ⟨by rw [hm]; rfl, fun _ => cpM_0 hm (of_decide_eq_true rfl) (of_decide_eq_true rfl) (of_decide_eq_true rfl) B hN FF (by unfold CPI CSh C2; omega) (by unfold CPI CSh C2; omega) (fun q a b => by unfold CPI CSh C2; omega) C, cfr_mono FF (fun q z => z.elim (C2_CTO q) (CSh_CTO q))⟩
  · have hm : tq_mk h Θ D ((22, n1, n2, n3), (ax, x), tt, f) = (2, [], [], [], []) := by rw [tq_mk_22, if_neg hh]
    exact k _ _ ⟨by rw [hm]; rfl, fun z => absurd z (by rw [hm]; exact of_decide_eq_true rfl), cfr_refl⟩

theorem fs_53_r23 {n : Nat} (hp : p = 50 ∨ p = 460) (hi : D.length < 40) (X : cpX s p th h Θ D ((23, n1, n2, n3), (ax, x), tt, f)) (hD : tq_GD h.1 D) (hG : tp_G h.1 h.2.length ((23, n1, n2, n3), (ax, x), tt, f)) (B : cpB s p (stc p D.length)) (h1 : n1 < D.length) (k : ∀ v s', cpK s p h Θ D ((23, n1, n2, n3), (ax, x), tt, f) v s' → R v s') : pl_Cl n 53 [.ref p, .ref (stc p D.length), .ref (stc p n1 + 6)] s (ps_rI R) := by
  cases n with
  | zero => exact pl_At_0
  | succ n =>
  show pl_At (n + 1) 53 0 [(0, .ref p), (1, .ref (stc p D.length)), (2, .ref (stc p n1 + 6))] [] s (ps_rI R)
  obtain ⟨⟨x1, x2', x3⟩, x4, x5, x6, x7⟩ := id X
  have hN := cpN_of x6
  obtain ⟨t0, t1, t2, t3, t4, t5, t6, t7⟩ := x6
  have hl := stc_lt hp hi
  obtain ⟨cc1, cc4, cc5, cc6, cc8⟩ := stc_c hp hi
  obtain ⟨rr2, rr4, rr6⟩ := stc_row hp hi
  have hA := arh_k x1.1.2.2.1 x1.1.2.2.2.1
  have er : (ps_i s (stc p D.length) 0).toInt = (23 : Int) := t0
  obtain ⟨Ra, aa, ab, ac, ad, ae⟩ := prem_1 X hD h1
  have Wa : cv_W s (stc p n1 + 6) (tq_r D n1) := by rw [ab]; exact ad.1
  have r5a := (stc_row hp (i := n1) (by omega)).2.2
  have la : p + 44 ≤ stc p n1 ∧ stc p n1 + 9 ≤ stc p D.length := by unfold stc; omega
  have Ga : ws (sg h.1) (tq_r D n1) [true] := by rw [ab]; exact ae.1.1
  obtain ⟨-, -, ⟨-, -, -, c3', c4', c5'⟩, -, i12, i14, i6, -⟩ := prf hp
  have h40 := Wa.2.2.1
  have Wt := t6 (of_decide_eq_true rfl)
  have W := t7 (of_decide_eq_true rfl)
  have Gf := (hG.2.2.1 (of_decide_eq_true rfl)).1
  refine pl_53_0 (pl_nk_i (fun _ => ?_))
  rw [cc5]
  refine fs_92h (c := 5) rr4 W (fun v1 hh q1 => ⟨fun _ => ?_, fun z => absurd (show v1 = 5 from Int32.toInt_inj.mp q1) z⟩) (fun v1 hh q1 => ⟨fun z => absurd (show v1.toInt = ((5 : Nat) : Int) from xeq z) q1, fun _ => ?_⟩)
  · refine pl_nk_i (fun _ => pl_nk_i (fun _ => pl_nk_i (fun _ => ?_)))
    rw [c4', cc4, cc6]
    refine fs_52 hp x3 x2' x1.1 i14 rr4 rr2 (by unfold apart; omega) (by unfold apart; omega) (by omega) W Gf Wt (fun s2 C F2 => pl_nk_i (fun _ => ?_))
    have F2' : cfr (CTO p D.length) s s2 := cfr_mono F2 (fun q z => by unfold CPI C2 CSh at z; unfold CTO; omega)
    have Wa2 := cv_W_cfr Wa F2 (by unfold CPI C2 CSh; omega) (by unfold CPI C2 CSh; omega)
    refine fs_98 i14 r5a C (CW_of Wa2) (Or.inr Wa2.2.2.1) (fun e => ⟨fun _ => ?_, fun z => absurd z (by decide)⟩) (fun e => ⟨fun z => absurd rfl z, fun _ => ?_⟩)
    · have hm : tq_mk h Θ D ((23, n1, n2, n3), (ax, x), tt, f) = (0, f, [], [], []) := by rw [tq_mk_23, if_pos ⟨hh, e⟩]
      refine pl_nk_i (fun _ => pl_nk_i (fun _ => ?_))
      have W2 := cv_W_cfr W F2 (by unfold CPI C2 CSh; omega) (by unfold CPI C2 CSh; omega)
      refine fs_95 rr6 rr4 (by omega) W2 (fun s4 W4 F4 => ?_)
      have FF : cfr (fun q => CPI p (p + 14) q ∨ C2 (stc p D.length + 6) q) s s4 := cfr_tr (cfr_mono F2 (fun q z => Or.inl z)) (cfr_mono F4 (fun q z => Or.inr z))
      exact k _ _ ⟨by rw [hm]; rfl, fun _ => cpM_0 hm (of_decide_eq_true rfl) (of_decide_eq_true rfl) (of_decide_eq_true rfl) B hN FF (by unfold CPI CSh C2; omega) (by unfold CPI CSh C2; omega) (fun q a b => by unfold CPI CSh C2; omega) (CW_of W4), cfr_mono FF (fun q z => by unfold CPI CSh C2 at z; unfold CTO; omega)⟩
    · have hm : tq_mk h Θ D ((23, n1, n2, n3), (ax, x), tt, f) = (4, [], [], [], []) := by rw [tq_mk_23, if_neg (fun y => e y.2)]
      exact k _ _ ⟨by rw [hm]; rfl, fun z => absurd z (by rw [hm]; exact of_decide_eq_true rfl), F2'⟩
  · have hm : tq_mk h Θ D ((23, n1, n2, n3), (ax, x), tt, f) = (4, [], [], [], []) := by rw [tq_mk_23, if_neg (fun y => hh y.1)]
    exact k _ _ ⟨by rw [hm]; rfl, fun z => absurd z (by rw [hm]; exact of_decide_eq_true rfl), cfr_refl⟩

theorem fs_55_r25 {n : Nat} (hp : p = 50 ∨ p = 460) (hi : D.length < 40) (X : cpX s p th h Θ D ((25, n1, n2, n3), (ax, x), tt, f)) (hD : tq_GD h.1 D) (hG : tp_G h.1 h.2.length ((25, n1, n2, n3), (ax, x), tt, f)) (B : cpB s p (stc p D.length)) (h1 : n1 < D.length) (h2 : n2 < D.length) (k : ∀ v s', cpK s p h Θ D ((25, n1, n2, n3), (ax, x), tt, f) v s' → R v s') : pl_Cl n 55 [.ref p, .ref (stc p D.length), .ref (stc p n1 + 6), .ref (stc p n2 + 6)] s (ps_rI R) := by
  cases n with
  | zero => exact pl_At_0
  | succ n =>
  show pl_At (n + 1) 55 0 [(0, .ref p), (1, .ref (stc p D.length)), (2, .ref (stc p n1 + 6)), (3, .ref (stc p n2 + 6))] [] s (ps_rI R)
  obtain ⟨⟨x1, x2', x3⟩, x4, x5, x6, x7⟩ := id X
  have hN := cpN_of x6
  obtain ⟨t0, t1, t2, t3, t4, t5, t6, t7⟩ := x6
  have hl := stc_lt hp hi
  obtain ⟨cc1, cc4, cc5, cc6, cc8⟩ := stc_c hp hi
  obtain ⟨rr2, rr4, rr6⟩ := stc_row hp hi
  have hA := arh_k x1.1.2.2.1 x1.1.2.2.2.1
  have er : (ps_i s (stc p D.length) 0).toInt = (25 : Int) := t0
  obtain ⟨Ra, aa, ab, ac, ad, ae⟩ := prem_1 X hD h1
  have Wa : cv_W s (stc p n1 + 6) (tq_r D n1) := by rw [ab]; exact ad.1
  have r5a := (stc_row hp (i := n1) (by omega)).2.2
  have la : p + 44 ≤ stc p n1 ∧ stc p n1 + 9 ≤ stc p D.length := by unfold stc; omega
  have Ga : ws (sg h.1) (tq_r D n1) [true] := by rw [ab]; exact ae.1.1
  obtain ⟨Rb, ba, bb, bc, bd, be⟩ := prem_1 X hD h2
  have Wb : cv_W s (stc p n2 + 6) (tq_r D n2) := by rw [bb]; exact bd.1
  have r5b := (stc_row hp (i := n2) (by omega)).2.2
  have lb : p + 44 ≤ stc p n2 ∧ stc p n2 + 9 ≤ stc p D.length := by unfold stc; omega
  have Gb : ws (sg h.1) (tq_r D n2) [true] := by rw [bb]; exact be.1.1
  obtain ⟨-, -, ⟨-, -, -, c3', c4', c5'⟩, -, i12, i14, i6, -⟩ := prf hp
  have h40 := Wa.2.2.1
  have W := t7 (of_decide_eq_true rfl)
  refine pl_55_0 (fs_92h (c := 6) r5a Wa (fun v1 hh q1 => ⟨fun _ => pl_nk_i (fun _ => ?_), fun z => absurd (show v1 = 6 from Int32.toInt_inj.mp q1) z⟩) (fun v1 hh q1 => ⟨fun z => absurd (show v1.toInt = ((6 : Nat) : Int) from xeq z) q1, fun _ => ?_⟩))
  · rw [cc5, cc6]
    refine fs_56 hp x3 x2' x1.1 rr4 r5a r5b (by omega) (by omega) (by omega) W Wa Wb Ga hh (fun s2 q => ⟨fun _ => ?_, fun z => absurd z (by decide)⟩) (fun s2 q => ⟨fun z => absurd rfl z, fun _ => ?_⟩)
    · obtain ⟨e, F2⟩ := q
      have hm : tq_mk h Θ D ((25, n1, n2, n3), (ax, x), tt, f) = (0, f, [], [], []) := by rw [tq_mk_25, if_pos hh, if_pos e]
      refine pl_nk_i (fun _ => pl_nk_i (fun _ => ?_))
      have W2 := cv_W_cfr W F2 (by unfold CSh; omega) (by unfold CSh; omega)
      refine fs_95 rr6 rr4 (by omega) W2 (fun s4 W4 F4 => ?_)
      have FF : cfr (fun q => CSh (p + 16) q ∨ C2 (stc p D.length + 6) q) s s4 := cfr_tr (cfr_mono F2 (fun q z => Or.inl z)) (cfr_mono F4 (fun q z => Or.inr z))
      exact k _ _ ⟨by rw [hm]; rfl, fun _ => cpM_0 hm (of_decide_eq_true rfl) (of_decide_eq_true rfl) (of_decide_eq_true rfl) B hN FF (by unfold CSh C2; omega) (by unfold CSh C2; omega) (fun q a b => by unfold CSh C2; omega) (CW_of W4), cfr_mono FF (fun q z => z.elim (CSh_CTO q) (C2_CTO q))⟩
    · obtain ⟨e, F2⟩ := q
      have hm : tq_mk h Θ D ((25, n1, n2, n3), (ax, x), tt, f) = (4, [], [], [], []) := by rw [tq_mk_25, if_pos hh, if_neg e]
      exact k _ _ ⟨by rw [hm]; rfl, fun z => absurd z (by rw [hm]; exact of_decide_eq_true rfl), cfr_mono F2 CSh_CTO⟩
  · have hm : tq_mk h Θ D ((25, n1, n2, n3), (ax, x), tt, f) = (2, [], [], [], []) := by rw [tq_mk_25, if_neg hh]
    exact k _ _ ⟨by rw [hm]; rfl, fun z => absurd z (by rw [hm]; exact of_decide_eq_true rfl), cfr_refl⟩

theorem fs_54_r24 {n : Nat} (hp : p = 50 ∨ p = 460) (hi : D.length < 40) (X : cpX s p th h Θ D ((24, n1, n2, n3), (ax, x), tt, f)) (hD : tq_GD h.1 D) (hG : tp_G h.1 h.2.length ((24, n1, n2, n3), (ax, x), tt, f)) (B : cpB s p (stc p D.length)) (h1 : n1 < D.length) (h2 : n2 < D.length) (k : ∀ v s', cpK s p h Θ D ((24, n1, n2, n3), (ax, x), tt, f) v s' → R v s') : pl_Cl n 54 [.ref p, .ref (stc p D.length), .ref (stc p n1 + 6), .ref (stc p n2)] s (ps_rI R) := by
  cases n with
  | zero => exact pl_At_0
  | succ n =>
  show pl_At (n + 1) 54 0 [(0, .ref p), (1, .ref (stc p D.length)), (2, .ref (stc p n1 + 6)), (3, .ref (stc p n2))] [] s (ps_rI R)
  obtain ⟨⟨x1, x2', x3⟩, x4, x5, x6, x7⟩ := id X
  have hN := cpN_of x6
  obtain ⟨t0, t1, t2, t3, t4, t5, t6, t7⟩ := x6
  have hl := stc_lt hp hi
  obtain ⟨cc1, cc4, cc5, cc6, cc8⟩ := stc_c hp hi
  obtain ⟨rr2, rr4, rr6⟩ := stc_row hp hi
  have hA := arh_k x1.1.2.2.1 x1.1.2.2.2.1
  have er : (ps_i s (stc p D.length) 0).toInt = (24 : Int) := t0
  obtain ⟨Ra, aa, ab, ac, ad, ae⟩ := prem_1 X hD h1
  have Wa : cv_W s (stc p n1 + 6) (tq_r D n1) := by rw [ab]; exact ad.1
  have r5a := (stc_row hp (i := n1) (by omega)).2.2
  have la : p + 44 ≤ stc p n1 ∧ stc p n1 + 9 ≤ stc p D.length := by unfold stc; omega
  have Ga : ws (sg h.1) (tq_r D n1) [true] := by rw [ab]; exact ae.1.1
  obtain ⟨Rb, ba, bb, bc, bd, be⟩ := prem_1 X hD h2
  have Wb : cv_W s (stc p n2 + 6) (tq_r D n2) := by rw [bb]; exact bd.1
  have r5b := (stc_row hp (i := n2) (by omega)).2.2
  have lb : p + 44 ≤ stc p n2 ∧ stc p n2 + 9 ≤ stc p D.length := by unfold stc; omega
  have Gb : ws (sg h.1) (tq_r D n2) [true] := by rw [bb]; exact be.1.1
  obtain ⟨-, -, ⟨-, -, -, c3', c4', c5'⟩, -, i12, i14, i6, -⟩ := prf hp
  have h40 := Wa.2.2.1
  have t5 := t5 (Or.inr rfl)
  clear t0 t1 t2 t3 t4 t6 t7
  obtain ⟨b1, b2, b3, b4, b5⟩ := B
  have o5 := ((prf hp).2.1 1 (by decide)).2
  refine pl_54_0 (fs_92h (c := 5) r5a Wa (fun v1 hh q1 => ⟨fun _ => pl_nk_i (fun _ => ?_), fun z => absurd (show v1 = 5 from Int32.toInt_inj.mp q1) z⟩) (fun v1 hh q1 => ⟨fun z => absurd (show v1.toInt = ((5 : Nat) : Int) from xeq z) q1, fun _ => ?_⟩))
  · rw [cc4, cc6]
    refine fs_91 (pl_nk_i (fun _ => pl_nk_i (fun _ => ?_)))
    have G0 : cfr (C2 (stc p D.length + 2)) s (ps_ui (ps_ui s (stc p D.length + 2) 1 0) (stc p D.length + 2) 2 0) := cfr_i (cfr_i cfr_refl (Or.inl rfl)) (Or.inl rfl)
    refine fs_93w (c := 60 + x) rr2 (CW_of CW_0) (by rw [(G0 (stc p D.length) (by unfold C2; omega)).1]; exact t5) (fun s3 C3 F3 => ?_)
    have G1 := cfr_tr G0 F3
    have Wt : cv_W s3 (stc p D.length + 2) [60 + x] := C3.2.1 (show 1 ≤ 40 from by decide)
    refine fs_38 (i := 1) hp rfl (by decide) (pl_nk_i (fun _ => ?_))
    have Wa3 := cv_W_cfr Wa G1 (by unfold C2; omega) (by unfold C2; omega)
    refine fs_52 (th := th) hp x3 (by rw [(G1 p (by unfold C2; omega)).2.2.1]; exact x2') (cv_E_cfr x1.1 G1 (by unfold C2; omega) (by unfold C2; omega) (by unfold C2; omega) (by unfold C2; omega)) o5 r5a rr2 (by unfold apart otc; omega) (by unfold apart otc; omega) (by unfold otc; omega) Wa3 Ga Wt (fun s5 C5 F5 => pl_nk_i (fun _ => ?_))
    have GG : cfr (fun q => C2 (stc p D.length + 2) q ∨ CPI p (otc p 1) q) s s5 := cfr_tr (cfr_mono G1 (fun q z => Or.inl z)) (cfr_mono F5 (fun q z => Or.inr z))
    have GG' : cfr (CTO p D.length) s s5 := cfr_mono GG (fun q z => by unfold CPI CSh C2 otc at z; unfold CTO; omega)
    have Wa5 := cv_W_cfr Wa GG (by unfold CPI CSh C2 otc; omega) (by unfold CPI CSh C2 otc; omega)
    have Wb5 := cv_W_cfr Wb GG (by unfold CPI CSh C2 otc; omega) (by unfold CPI CSh C2 otc; omega)
    have x55 := cpD_cfr x5 GG (fun q a b => by unfold CPI CSh C2 otc; unfold stc at *; omega)
    have t55 : (ps_i s5 (stc p D.length) 3).toInt = (60 + x : Nat) := by rw [(GG (stc p D.length) (by unfold CPI CSh C2 otc; omega)).1]; exact t5
    have no : ((tq_r D n1).contains (60 + x) = true ∨ (tq_r D n2).contains (60 + x) = true ∨ (tq_a D n2).any (fun y => !decide (y = tq_in (arh h.1) (tq_r D n1) [60 + x]) && y.contains (60 + x)) = true) → R 3 s5 := fun y => by
      have hm : tq_mk h Θ D ((24, n1, n2, n3), (ax, x), tt, f) = (3, [], [], [], []) := by rw [tq_mk_24, if_pos hh, if_pos y]
      exact k _ _ ⟨by rw [hm]; rfl, fun z => absurd z (by rw [hm]; exact of_decide_eq_true rfl), GG'⟩
    have at68 : ((tq_r D n1).contains (60 + x) = true ∨ (tq_r D n2).contains (60 + x) = true) → pl_At n 54 68 [(0, .ref p), (1, .ref (stc p D.length)), (3, .ref (stc p n2))] [] s5 (ps_rI R) := fun y => by
      cases n with
      | zero => exact pl_At_0
      | succ n =>
      refine pl_54_68 ⟨fun _ => no (y.elim Or.inl (fun y => Or.inr (Or.inl y))), fun z => absurd z (by decide)⟩
    refine fs_100 r5a Wa5 t55 (fun y => ⟨fun _ => at68 (Or.inl y), fun z => absurd z (by decide)⟩) (fun y => ⟨fun z => absurd rfl z, fun _ => pl_nk_i (fun _ => pl_nk_i (fun _ => ?_))⟩)
    rw [(stc_c hp (i := n2) (by omega)).2.2.2.1]
    refine fs_100 r5b Wb5 t55 (fun y2 => ⟨fun z => absurd z (by decide), fun _ => at68 (Or.inr y2)⟩) (fun y2 => ⟨fun _ => ⟨fun z => absurd rfl z, fun _ => pl_nk_i (fun _ => ?_)⟩, fun z => absurd rfl z⟩)
    refine fs_38 (i := 1) hp rfl (by decide) ?_
    refine fs_51 hp x55 ba o5 C5 t55 (fun y3 => ⟨fun z => absurd z (by decide), fun _ => no (Or.inr (Or.inr (by rw [bc]; exact y3)))⟩) (fun y3 => ⟨fun _ => pl_nk_i (fun _ => pl_nk_i (fun _ => ?_)), fun z => absurd rfl z⟩)
    have hm : tq_mk h Θ D ((24, n1, n2, n3), (ax, x), tt, f) = (0, tq_r D n2, [], tq_in (arh h.1) (tq_r D n1) [60 + x], []) := by rw [tq_mk_24, if_pos hh, if_neg (by rw [bc]; exact fun w => w.elim y (fun w => w.elim y2 y3))]
    refine fs_95 rr6 r5b (by omega) Wb5 (fun s7 W7 F7 => ?_)
    have FF : cfr (fun q => (C2 (stc p D.length + 2) q ∨ CPI p (otc p 1) q) ∨ C2 (stc p D.length + 6) q) s s7 := cfr_tr (cfr_mono GG (fun q z => Or.inl z)) (cfr_mono F7 (fun q z => Or.inr z))
    have f0 := FF (stc p D.length) (by unfold CPI CSh C2 otc; omega)
    refine k _ _ ⟨by rw [hm]; rfl, fun _ => ?_, cfr_mono FF (fun q z => by unfold CPI CSh C2 otc at z; unfold CTO; omega)⟩
    unfold cpM
    rw [hm]
    exact ⟨CW_of W7, ⟨CW_cfr (b1 0 (by decide)) FF (by unfold CPI CSh C2 otc; omega) (by unfold CPI CSh C2 otc; omega), CW_cfr C5 F7 (by unfold C2 otc; omega) (by unfold C2 otc; omega), CW_cfr (b1 2 (by decide)) FF (by unfold CPI CSh C2 otc; omega) (by unfold CPI CSh C2 otc; omega)⟩, ⟨by rw [f0.1]; exact b4, by rw [f0.1]; exact b5⟩, fun _ => PA_0 (by rw [f0.1]; exact b2) (by rw [f0.1]; exact b3), fun z => absurd z (of_decide_eq_true rfl), cpN_eq hN (by rw [f0.1]) (FF (stc p D.length + 1) (by unfold CPI CSh C2 otc; omega)).2.2.2.1⟩
  · have hm : tq_mk h Θ D ((24, n1, n2, n3), (ax, x), tt, f) = (2, [], [], [], []) := by rw [tq_mk_24, if_neg hh]
    exact k _ _ ⟨by rw [hm]; rfl, fun z => absurd z (by rw [hm]; exact of_decide_eq_true rfl), cfr_refl⟩
end RUL
end
