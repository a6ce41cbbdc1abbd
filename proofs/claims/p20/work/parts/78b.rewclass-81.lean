section
set_option maxRecDepth 100000
/-! the class: rewriting; the row that is made, whether it fits -/
-- ProofBench$Rewriter.makeNormal(LProofBench$Theory;)I
theorem pl_85_0 {n : Nat} {r1 : Nat} {s : ps_S} {Q : Option Value → ps_S → Prop} (h :
  pl_Cl n 83 [.ref 1021, .ref r1] s (ps_rV (fun s1 =>
    pl_Cl n 103 [.ref 1026, .ref 1022, .ref r1] s1 (ps_rV (fun s2 =>
      pl_At n 85 19 [(0, .ref 1021), (1, .ref r1), (2, .int 0)] [] s2 Q))))) : pl_At (n + 1) 85 0 [(0, .ref 1021), (1, .ref r1)] [] s Q :=
  pl_wp_at (stops := [(19, [0, 1, 2]), (87, [0])]) (f := 13) h rfl

theorem pl_85_19 {n : Nat} {r1 : Nat} {x2 : Int32} {s : ps_S} {Q : Option Value → ps_S → Prop} (h :
  (60 < x2 →
    pl_At n 85 87 [(0, .ref 1021)] [] s Q) ∧
  (x2 ≤ 60 →
    pl_Cl n 86 [.ref 1021, .ref r1] s (ps_rI (fun v1 s1 =>
      (v1 ≠ 0 →
        pl_Cl n 95 [.ref 1022, .ref 1024] s1 (ps_rV (fun s2 =>
          pl_Cl n 103 [.ref 1026, .ref 1022, .ref r1] s2 (ps_rV (fun s3 =>
            ((ps_i s3 1024 2) ≠ 0 →
              pl_At n 85 87 [(0, .ref 1021)] [] s3 Q) ∧
            ((ps_i s3 1024 2) = 0 →
              pl_Cl n 106 [.ref 1026] s3 (ps_rI (fun v4 s4 =>
                (v4 = 0 →
                  pl_At n 85 19 [(0, .ref 1021), (1, .ref r1), (2, .int (x2 + 1))] [] s4 Q) ∧
                (v4 ≠ 0 →
                  pl_At n 85 87 [(0, .ref 1021)] [] s4 Q))))))))) ∧
      (v1 = 0 →
        Q (some (.int x2)) s1))))) : pl_At (n + 1) 85 19 [(0, .ref 1021), (1, .ref r1), (2, .int x2)] [] s Q :=
  pl_wp_at (stops := [(19, [0, 1, 2]), (87, [0])]) (f := 33) h rfl

theorem pl_85_87 {n : Nat} {s : ps_S} {Q : Option Value → ps_S → Prop} (h :
  pl_Cl n 91 [.ref 1022] s (ps_rV (fun s1 =>
    Q (some (.int (-2))) s1))) : pl_At (n + 1) 85 87 [(0, .ref 1021)] [] s Q :=
  pl_wp_at (stops := [(19, [0, 1, 2]), (87, [0])]) (f := 7) h rfl

-- ProofBench$Rewriter.goOn(LProofBench$Theory;)Z
theorem pl_86_0 {n : Nat} {r1 : Nat} {s : ps_S} {Q : Option Value → ps_S → Prop} (h :
  pl_At n 86 2 [(0, .ref 1021), (1, .ref r1), (2, .int 0)] [] s Q) : pl_At (n + 1) 86 0 [(0, .ref 1021), (1, .ref r1)] [] s Q :=
  pl_wp_at (stops := [(2, [0, 1, 2]), (15, [0, 1, 2, 3])]) (f := 4) h rfl

theorem pl_86_2 {n : Nat} {r1 : Nat} {x2 : Int32} {s : ps_S} {Q : Option Value → ps_S → Prop} (h :
  ((ps_i s 1022 1) ≤ x2 →
    Q (some (.int 0)) s) ∧
  (x2 < (ps_i s 1022 1) →
    pl_At n 86 15 [(0, .ref 1021), (1, .ref r1), (2, .int x2), (3, .int 0)] [] s Q)) : pl_At (n + 1) 86 2 [(0, .ref 1021), (1, .ref r1), (2, .int x2)] [] s Q :=
  pl_wp_at (stops := [(2, [0, 1, 2]), (15, [0, 1, 2, 3])]) (f := 11) h rfl

theorem pl_86_15 {n : Nat} {r1 : Nat} {x2 : Int32} {x3 : Int32} {s : ps_S} {Q : Option Value → ps_S → Prop} (h :
  pl_nk (ps_is r1 9) (((ps_i s r1 8) ≤ x3 →
    pl_At n 86 2 [(0, .ref 1021), (1, .ref r1), (2, .int (x2 + 1))] [] s Q) ∧
  (x3 < (ps_i s r1 8) →
    pl_Cl n 92 [.ref 1022, .int x2] s (ps_rI (fun v1 s1 =>
      pl_Cl n 186 [.int v1] s1 (ps_rI (fun v2 s2 =>
        (v2 = 0 →
          pl_At n 86 2 [(0, .ref 1021), (1, .ref r1), (2, .int (x2 + 1))] [] s2 Q) ∧
        (v2 ≠ 0 →
          pl_Cl n 182 [.ref 1037, .int x3] s2 (ps_rI (fun v3 s3 =>
            (v3 = (-1) →
              pl_At n 86 15 [(0, .ref 1021), (1, .ref r1), (2, .int x2), (3, .int (x3 + 1))] [] s3 Q) ∧
            (v3 ≠ (-1) →
              pl_Cl n 135 [.ref r1, .int x3] s3 (ps_rA (fun v4 s4 =>
                pl_Cl n 182 [.ref 1036, .int x3] s4 (ps_rI (fun v5 s5 =>
                  pl_Cl n 87 [.ref 1021, .ref v4, .int v5, .int v3, .int x2] s5 (ps_rI (fun v6 s6 =>
                    (v6 = 0 →
                      pl_At n 86 15 [(0, .ref 1021), (1, .ref r1), (2, .int x2), (3, .int (x3 + 1))] [] s6 Q) ∧
                    (v6 ≠ 0 →
                      pl_Cl n 135 [.ref r1, .int x3] s6 (ps_rA (fun v7 s7 =>
                        pl_Cl n 89 [.ref 1021, .ref v7, .int v3, .int x2] s7 (ps_rV (fun s8 =>
                          Q (some (.int 1)) s8)))))))))))))))))))))) : pl_At (n + 1) 86 15 [(0, .ref 1021), (1, .ref r1), (2, .int x2), (3, .int x3)] [] s Q :=
  pl_wp_at (stops := [(2, [0, 1, 2]), (15, [0, 1, 2, 3])]) (f := 49) h rfl

-- ProofBench$Rewriter.stands(LProofBench$Row;III)Z
theorem pl_87_0 {n : Nat} {r1 : Nat} {x2 : Int32} {x3 : Int32} {x4 : Int32} {s : ps_S} {Q : Option Value → ps_S → Prop} (h :
  pl_At n 87 3 [(0, .ref 1021), (1, .ref r1), (2, .int x2), (3, .int x3), (4, .int x4), (5, .int 0)] [] s Q) : pl_At (n + 1) 87 0 [(0, .ref 1021), (1, .ref r1), (2, .int x2), (3, .int x3), (4, .int x4)] [] s Q :=
  pl_wp_at (stops := [(3, [0, 1, 2, 3, 4, 5]), (32, [0, 1, 3, 5, 6])]) (f := 4) h rfl

theorem pl_87_3 {n : Nat} {r1 : Nat} {x2 : Int32} {x3 : Int32} {x4 : Int32} {x5 : Int32} {s : ps_S} {Q : Option Value → ps_S → Prop} (h :
  (5 ≤ x5 →
    pl_At n 87 32 [(0, .ref 1021), (1, .ref r1), (3, .int x3), (5, .int x4), (6, .int x2)] [] s Q) ∧
  (x5 < 5 →
    pl_Cl n 183 [.ref 1034, .int x5, .int (-1)] s (ps_rV (fun s1 =>
      pl_At n 87 3 [(0, .ref 1021), (1, .ref r1), (2, .int x2), (3, .int x3), (4, .int x4), (5, .int (x5 + 1))] [] s1 Q)))) : pl_At (n + 1) 87 3 [(0, .ref 1021), (1, .ref r1), (2, .int x2), (3, .int x3), (4, .int x4), (5, .int x5)] [] s Q :=
  pl_wp_at (stops := [(3, [0, 1, 2, 3, 4, 5]), (32, [0, 1, 3, 5, 6])]) (f := 16) h rfl

theorem pl_87_32 {n : Nat} {r1 : Nat} {x3 : Int32} {x5 : Int32} {x6 : Int32} {s : ps_S} {Q : Option Value → ps_S → Prop} (h :
  (x3 ≤ x6 →
    Q (some (.int 1)) s) ∧
  (x6 < x3 →
    pl_Cl n 92 [.ref r1, .int x6] s (ps_rI (fun v1 s1 =>
      pl_Cl n 185 [.int v1] s1 (ps_rI (fun v2 s2 =>
        (v2 = 0 →
          pl_Cl n 92 [.ref 1022, .int x5] s2 (ps_rI (fun v3 s3 =>
            (v1 ≠ v3 →
              Q (some (.int 0)) s3) ∧
            (v1 = v3 →
              pl_At n 87 32 [(0, .ref 1021), (1, .ref r1), (3, .int x3), (5, .int (x5 + 1)), (6, .int (x6 + 1))] [] s3 Q)))) ∧
        (v2 ≠ 0 →
          pl_Cl n 88 [.ref 1021, .int (v1 - 40), .int x5] s2 (ps_rI (fun v4 s4 =>
            (v4 ≠ 0 →
              pl_Cl n 104 [.ref 1026, .int x5] s4 (ps_rI (fun v5 s5 =>
                pl_At n 87 32 [(0, .ref 1021), (1, .ref r1), (3, .int x3), (5, .int v5), (6, .int (x6 + 1))] [] s5 Q))) ∧
            (v4 = 0 →
              Q (some (.int 0)) s4)))))))))) : pl_At (n + 1) 87 32 [(0, .ref 1021), (1, .ref r1), (3, .int x3), (5, .int x5), (6, .int x6)] [] s Q :=
  pl_wp_at (stops := [(3, [0, 1, 2, 3, 4, 5]), (32, [0, 1, 3, 5, 6])]) (f := 43) h rfl

-- ProofBench$Rewriter.binds(II)Z
theorem pl_88_0 {n : Nat} {x1 : Int32} {x2 : Int32} {s : ps_S} {Q : Option Value → ps_S → Prop} (h :
  pl_Cl n 104 [.ref 1026, .int x2] s (ps_rI (fun v1 s1 =>
    pl_Cl n 182 [.ref 1034, .int x1] s1 (ps_rI (fun v2 s2 =>
      (v2 ≠ (-1) →
        pl_Cl n 182 [.ref 1035, .int x1] s2 (ps_rI (fun v3 s3 =>
          ((v1 - x2) ≠ (v3 - v2) →
            Q (some (.int 0)) s3) ∧
          ((v1 - x2) = (v3 - v2) →
            pl_Cl n 99 [.ref 1022, .int x2, .int v1, .ref 1022, .int v2] s3 (ps_rI (fun v4 s4 =>
              (v4 = 0 →
                Q (some (.int 0)) s4) ∧
              (v4 ≠ 0 →
                Q (some (.int 1)) s4))))))) ∧
      (v2 = (-1) →
        pl_Cl n 183 [.ref 1034, .int x1, .int x2] s2 (ps_rV (fun s5 =>
          pl_Cl n 183 [.ref 1035, .int x1, .int v1] s5 (ps_rV (fun s6 =>
            Q (some (.int 1)) s6)))))))))) : pl_At (n + 1) 88 0 [(0, .ref 1021), (1, .int x1), (2, .int x2)] [] s Q :=
  pl_wp_at (stops := []) (f := 53) h rfl

-- ProofBench$Rewriter.putRight(LProofBench$Row;II)V
theorem pl_89_0 {n : Nat} {r1 : Nat} {x2 : Int32} {x3 : Int32} {s : ps_S} {Q : Option Value → ps_S → Prop} (h :
  pl_Cl n 91 [.ref 1024] s (ps_rV (fun s1 =>
    pl_Cl n 94 [.ref 1024, .ref 1022, .int 0, .int x3] s1 (ps_rV (fun s2 =>
      pl_At n 89 23 [(0, .ref 1021), (1, .ref r1), (3, .int x3), (4, .int x2)] [] s2 Q))))) : pl_At (n + 1) 89 0 [(0, .ref 1021), (1, .ref r1), (2, .int x2), (3, .int x3)] [] s Q :=
  pl_wp_at (stops := [(23, [0, 1, 3, 4])]) (f := 14) h rfl

theorem pl_89_23 {n : Nat} {r1 : Nat} {x3 : Int32} {x4 : Int32} {s : ps_S} {Q : Option Value → ps_S → Prop} (h :
  pl_nk (ps_is r1 5) (((ps_i s r1 1) ≤ x4 →
    pl_Cl n 104 [.ref 1026, .int x3] s (ps_rI (fun v1 s1 =>
      pl_Cl n 94 [.ref 1024, .ref 1022, .int v1, .int (ps_i s1 1022 1)] s1 (ps_rV (fun s2 =>
        Q none s2))))) ∧
  (x4 < (ps_i s r1 1) →
    pl_Cl n 92 [.ref r1, .int x4] s (ps_rI (fun v3 s3 =>
      pl_Cl n 185 [.int v3] s3 (ps_rI (fun v4 s4 =>
        (v4 = 0 →
          pl_Cl n 93 [.ref 1024, .int v3] s4 (ps_rV (fun s5 =>
            pl_At n 89 23 [(0, .ref 1021), (1, .ref r1), (3, .int x3), (4, .int (x4 + 1))] [] s5 Q))) ∧
        (v4 ≠ 0 →
          pl_Cl n 182 [.ref 1034, .int (v3 - 40)] s4 (ps_rI (fun v6 s6 =>
            pl_Cl n 182 [.ref 1035, .int (v3 - 40)] s6 (ps_rI (fun v7 s7 =>
              pl_Cl n 94 [.ref 1024, .ref 1022, .int v6, .int v7] s7 (ps_rV (fun s8 =>
                pl_At n 89 23 [(0, .ref 1021), (1, .ref r1), (3, .int x3), (4, .int (x4 + 1))] [] s8 Q)))))))))))))) : pl_At (n + 1) 89 23 [(0, .ref 1021), (1, .ref r1), (3, .int x3), (4, .int x4)] [] s Q :=
  pl_wp_at (stops := [(23, [0, 1, 3, 4])]) (f := 52) h rfl

-- ProofBench$Row.addPart(LProofBench$Row;II)V
theorem pl_94_0 {n : Nat} {r0 : Nat} {r1 : Nat} {x2 : Int32} {x3 : Int32} {s : ps_S} {Q : Option Value → ps_S → Prop} (h :
  pl_At n 94 3 [(0, .ref r0), (1, .ref r1), (3, .int x3), (4, .int x2)] [] s Q) : pl_At (n + 1) 94 0 [(0, .ref r0), (1, .ref r1), (2, .int x2), (3, .int x3)] [] s Q :=
  pl_wp_at (stops := [(3, [0, 1, 3, 4])]) (f := 4) h rfl

theorem pl_94_3 {n : Nat} {r0 : Nat} {r1 : Nat} {x3 : Int32} {x4 : Int32} {s : ps_S} {Q : Option Value → ps_S → Prop} (h :
  (x3 ≤ x4 →
    Q none s) ∧
  (x4 < x3 →
    pl_Cl n 92 [.ref r1, .int x4] s (ps_rI (fun v1 s1 =>
      pl_Cl n 93 [.ref r0, .int v1] s1 (ps_rV (fun s2 =>
        pl_At n 94 3 [(0, .ref r0), (1, .ref r1), (3, .int x3), (4, .int (x4 + 1))] [] s2 Q)))))) : pl_At (n + 1) 94 3 [(0, .ref r0), (1, .ref r1), (3, .int x3), (4, .int x4)] [] s Q :=
  pl_wp_at (stops := [(3, [0, 1, 3, 4])]) (f := 13) h rfl

-- ProofBench$Row.copy(LProofBench$Row;)V
theorem pl_95_0 {n : Nat} {r0 : Nat} {r1 : Nat} {s : ps_S} {Q : Option Value → ps_S → Prop} (h :
  pl_Cl n 91 [.ref r0] s (ps_rV (fun s1 =>
    pl_nk (ps_is r1 5) (pl_Cl n 94 [.ref r0, .ref r1, .int 0, .int (ps_i s1 r1 1)] s1 (ps_rV (fun s2 =>
      Q none s2)))))) : pl_At (n + 1) 95 0 [(0, .ref r0), (1, .ref r1)] [] s Q :=
  pl_wp_at (stops := []) (f := 11) h rfl

-- ProofBench$Shape.isTooDeep()Z
theorem pl_106_0 {n : Nat} {r0 : Nat} {s : ps_S} {Q : Option Value → ps_S → Prop} (h :
  pl_nk (ps_is r0 6) ((12 < (ps_i s r0 3) →
    Q (some (.int 1)) s) ∧
  ((ps_i s r0 3) ≤ 12 →
    pl_nk (ps_is r0 6) (((ps_i s r0 4) ≤ 5 →
      Q (some (.int 0)) s) ∧
    (5 < (ps_i s r0 4) →
      Q (some (.int 1)) s))))) : pl_At (n + 1) 106 0 [(0, .ref r0)] [] s Q :=
  pl_wp_at (stops := []) (f := 18) h rfl

-- ProofBench.rewrite()I
theorem pl_169_0 {n : Nat} {s : ps_S} {Q : Option Value → ps_S → Prop} (h :
  pl_Cl n 60 [.ref 902, .ref 1, .int (ps_i s 0 1), .ref (ps_r s 0 2), .ref 1022, .int 1] s (ps_rI (fun v1 s1 =>
    (v1 ≠ 0 →
      pl_Cl n 85 [.ref 1021, .ref (ps_r (ps_ui s1 0 1 0) 0 2)] (ps_ui s1 0 1 0) (ps_rI (fun v2 s2 =>
        Q (some (.int v2)) s2))) ∧
    (v1 = 0 →
      pl_Cl n 81 [.ref 1021] (ps_ui s1 0 1 0) (ps_rV (fun s3 =>
        Q (some (.int (-1))) s3)))))) : pl_At (n + 1) 169 0 [(0, .ref 0)] [] s Q :=
  pl_wp_at (stops := []) (f := 32) h rfl

-- ProofBench.normal(I)I
theorem pl_170_0 {n : Nat} {x1 : Int32} {s : ps_S} {Q : Option Value → ps_S → Prop} (h :
  pl_Cl n 92 [.ref 1022, .int x1] s (ps_rI (fun v1 s1 =>
    Q (some (.int v1)) s1))) : pl_At (n + 1) 170 0 [(0, .ref 0), (1, .int x1)] [] s Q :=
  pl_wp_at (stops := []) (f := 8) h rfl

theorem fv_92 {n : Nat} {r : Nat} {x1 : Int32} {s : ps_S} {R : Int32 → ps_S → Prop} (k : ∀ v, True → R v s) : pl_Cl n 92 [.ref r, .int x1] s (ps_rI R) := by
  cases n with
  | zero => exact pl_At_0
  | succ n =>
  show pl_At (n + 1) 92 0 [(0, .ref r), (1, .int x1)] [] s (ps_rI R)
  refine pl_92_0 ?_
  refine ⟨fun h1 => ?_, fun h1 => ?_⟩
  · have h1 : x1.toInt < (0 : Int) := xlt h1
    exact k _ trivial
  · have h1 : (0 : Int) ≤ x1.toInt := xle h1
    refine pl_nk_i (fun nk6 => ?_)
    refine ⟨fun h9 => ?_, fun h9 => ?_⟩
    · have h9 : (ps_i s r 1).toInt ≤ x1.toInt := xle h9
      exact k _ trivial
    · have h9 : x1.toInt < (ps_i s r 1).toInt := xlt h9
      refine pl_nk_i (fun nk14 => ?_)
      refine pl_nk_i (fun nk17 => ?_)
      refine ⟨fun h18 => ?_, fun h18 => ?_⟩
      · have h18 : (nI (ps_ln (ps_c0 r 0))).toInt ≤ x1.toInt := xle h18
        exact k _ trivial
      · have h18 : x1.toInt < (nI (ps_ln (ps_c0 r 0))).toInt := xlt h18
        refine pl_nk_i (fun nk22 => ?_)
        refine pl_nk_i (fun nk26 => ?_)
        intro b26
        obtain ⟨b26, c26⟩ := pl_in b26
        exact k _ trivial
theorem fv_136 {n : Nat} {r : Nat} {x1 : Int32} {s : ps_S} {R : Int32 → ps_S → Prop} (k : ∀ v, True → R v s) : pl_Cl n 136 [.ref r, .int x1] s (ps_rI R) := by
  cases n with
  | zero => exact pl_At_0
  | succ n =>
  show pl_At (n + 1) 136 0 [(0, .ref r), (1, .int x1)] [] s (ps_rI R)
  refine pl_136_0 ?_
  refine ⟨fun h1 => ?_, fun h1 => ?_⟩
  · have h1 : x1.toInt < (0 : Int) := xlt h1
    exact k _ trivial
  · have h1 : (0 : Int) ≤ x1.toInt := xle h1
    refine pl_nk_i (fun nk6 => ?_)
    refine pl_nk_i (fun nk9 => ?_)
    refine ⟨fun h10 => ?_, fun h10 => ?_⟩
    · have h10 : (nI (ps_ln (ps_c0 r 3))).toInt ≤ x1.toInt := xle h10
      exact k _ trivial
    · have h10 : x1.toInt < (nI (ps_ln (ps_c0 r 3))).toInt := xlt h10
      refine pl_nk_i (fun nk14 => ?_)
      refine pl_nk_i (fun nk18 => ?_)
      intro b18
      obtain ⟨b18, c18⟩ := pl_in b18
      exact k _ trivial
theorem fv_182 {n : Nat} {r : Nat} {x1 : Int32} {s : ps_S} {R : Int32 → ps_S → Prop} (k : ∀ v, True → R v s) : pl_Cl n 182 [.ref r, .int x1] s (ps_rI R) := by
  cases n with
  | zero => exact pl_At_0
  | succ n =>
  show pl_At (n + 1) 182 0 [(0, .ref r), (1, .int x1)] [] s (ps_rI R)
  refine pl_182_0 ?_
  refine ⟨fun h1 => ?_, fun h1 => ?_⟩
  · have h1 : x1.toInt < (0 : Int) := xlt h1
    exact k _ trivial
  · have h1 : (0 : Int) ≤ x1.toInt := xle h1
    refine pl_nk_i (fun nk6 => ?_)
    refine ⟨fun h7 => ?_, fun h7 => ?_⟩
    · have h7 : (nI (ps_ln r)).toInt ≤ x1.toInt := xle h7
      exact k _ trivial
    · have h7 : x1.toInt < (nI (ps_ln r)).toInt := xlt h7
      refine pl_nk_i (fun nk12 => ?_)
      intro b12
      obtain ⟨b12, c12⟩ := pl_in b12
      exact k _ trivial
theorem fv_104 {n : Nat} {r : Nat} {x1 : Int32} {s : ps_S} {R : Int32 → ps_S → Prop} (k : ∀ v, True → R v s) : pl_Cl n 104 [.ref r, .int x1] s (ps_rI R) := by
  cases n with
  | zero => exact pl_At_0
  | succ n =>
  show pl_At (n + 1) 104 0 [(0, .ref r), (1, .int x1)] [] s (ps_rI R)
  refine pl_104_0 ?_
  refine ⟨fun h1 => ?_, fun h1 => ?_⟩
  · have h1 : x1.toInt < (0 : Int) := xlt h1
    exact k _ trivial
  · have h1 : (0 : Int) ≤ x1.toInt := xle h1
    refine pl_nk_i (fun nk6 => ?_)
    refine pl_nk_i (fun nk9 => ?_)
    refine ⟨fun h10 => ?_, fun h10 => ?_⟩
    · have h10 : (nI (ps_ln (ps_c0 r 0))).toInt ≤ x1.toInt := xle h10
      exact k _ trivial
    · have h10 : x1.toInt < (nI (ps_ln (ps_c0 r 0))).toInt := xlt h10
      refine pl_nk_i (fun nk14 => ?_)
      refine pl_nk_i (fun nk18 => ?_)
      intro b18
      obtain ⟨b18, c18⟩ := pl_in b18
      exact k _ trivial
theorem fv_105 {n : Nat} {r : Nat} {x1 : Int32} {s : ps_S} {R : Int32 → ps_S → Prop} (k : ∀ v, True → R v s) : pl_Cl n 105 [.ref r, .int x1] s (ps_rI R) := by
  cases n with
  | zero => exact pl_At_0
  | succ n =>
  show pl_At (n + 1) 105 0 [(0, .ref r), (1, .int x1)] [] s (ps_rI R)
  refine pl_105_0 ?_
  refine ⟨fun h1 => ?_, fun h1 => ?_⟩
  · have h1 : x1.toInt < (0 : Int) := xlt h1
    exact k _ trivial
  · have h1 : (0 : Int) ≤ x1.toInt := xle h1
    refine pl_nk_i (fun nk6 => ?_)
    refine pl_nk_i (fun nk9 => ?_)
    refine ⟨fun h10 => ?_, fun h10 => ?_⟩
    · have h10 : (nI (ps_ln (ps_c0 r 2))).toInt ≤ x1.toInt := xle h10
      exact k _ trivial
    · have h10 : x1.toInt < (nI (ps_ln (ps_c0 r 2))).toInt := xlt h10
      refine pl_nk_i (fun nk14 => ?_)
      refine pl_nk_i (fun nk18 => ?_)
      intro b18
      obtain ⟨b18, c18⟩ := pl_in b18
      exact k _ trivial
theorem fv_184 {n : Nat} {x0 : Int32} {s : ps_S} {R : Int32 → ps_S → Prop} (k : ∀ v, True → R v s) : pl_Cl n 184 [.int x0] s (ps_rI R) := by
  cases n with
  | zero => exact pl_At_0
  | succ n =>
  show pl_At (n + 1) 184 0 [(0, .int x0)] [] s (ps_rI R)
  refine pl_184_0 ?_
  refine ⟨fun h2 => ?_, fun h2 => ?_⟩
  · have h2 : x0.toInt = (4 : Int) := xeq h2
    exact k _ trivial
  · have h2 : x0.toInt ≠ (4 : Int) := xne h2
    refine ⟨fun h7 => ?_, fun h7 => ?_⟩
    · have h7 : x0.toInt ≠ (5 : Int) := xne h7
      exact k _ trivial
    · have h7 : x0.toInt = (5 : Int) := xeq h7
      exact k _ trivial
theorem fv_183 {n : Nat} {r : Nat} {x1 x2 : Int32} {s : ps_S} {R : ps_S → Prop} (k : ∀ s', cfr (fun q => q = r) s s' → R s') : pl_Cl n 183 [.ref r, .int x1, .int x2] s (ps_rV R) := by
  cases n with
  | zero => exact pl_At_0
  | succ n =>
  show pl_At (n + 1) 183 0 [(0, .ref r), (1, .int x1), (2, .int x2)] [] s (ps_rV R)
  refine pl_183_0 ?_
  refine ⟨fun h1 => ?_, fun h1 => ?_⟩
  · have h1 : x1.toInt < (0 : Int) := xlt h1
    first
    | exact k _ cfr_refl
    | exact k _ (cfr_a cfr_refl rfl)
  · have h1 : (0 : Int) ≤ x1.toInt := xle h1
    refine pl_nk_i (fun nk6 => ?_)
    refine ⟨fun h7 => ?_, fun h7 => ?_⟩
    · have h7 : (nI (ps_ln r)).toInt ≤ x1.toInt := xle h7
      first
      | exact k _ cfr_refl
      | exact k _ (cfr_a cfr_refl rfl)
    · have h7 : x1.toInt < (nI (ps_ln r)).toInt := xlt h7
      refine pl_nk_i (fun nk13 => ?_)
      intro b13
      obtain ⟨b13, c13⟩ := pl_in b13
      first
      | exact k _ cfr_refl
      | exact k _ (cfr_a cfr_refl rfl)
/-- measuring any row changes the shape alone -/
theorem fv_103_all {r r1 th : Nat} {s0 : ps_S} {R : ps_S → Prop} (hr : ps_is r 6 = true) (k : ∀ s', cfr (CSh r) s0 s' → R s') : ∀ n : Nat, (∀ {s : ps_S} {x3 : Int32}, cfr (CSh r) s0 s → pl_At n 103 35 [(0, .ref r), (1, .ref r1), (2, .ref th), (3, .int x3)] [] s (ps_rV R)) ∧ (∀ {s : ps_S} {x3 x4 x5 : Int32}, cfr (CSh r) s0 s → pl_At n 103 55 [(0, .ref r), (1, .ref r1), (2, .ref th), (3, .int x3), (4, .int x4), (5, .int x5)] [] s (ps_rV R)) ∧ (∀ {s : ps_S} {x3 : Int32}, cfr (CSh r) s0 s → pl_At n 103 92 [(0, .ref r), (1, .ref r1), (2, .ref th), (3, .int x3)] [] s (ps_rV R)) ∧ (∀ {s : ps_S} {x3 x4 x5 x6 x7 : Int32}, cfr (CSh r) s0 s → pl_At n 103 176 [(0, .ref r), (1, .ref r1), (2, .ref th), (3, .int x3), (4, .int x4), (5, .int x5), (6, .int x6), (7, .int x7)] [] s (ps_rV R)) := by
  obtain ⟨⟨e0, e1, e2⟩, ⟨l0, l1, l2⟩, h50⟩ := shr hr
  intro n
  induction n with
  | zero => exact ⟨fun _ => pl_At_0, fun _ => pl_At_0, fun _ => pl_At_0, fun _ => pl_At_0⟩
  | succ n ih =>
    obtain ⟨i1, i2, i3, i4⟩ := ih
    refine ⟨fun {s x3} F => ?_, fun {s x3 x4 x5} F => ?_, fun {s x3} F => ?_, fun {s x3 x4 x5 x6 x7} F => ?_⟩
    · refine pl_103_35 ⟨fun _ => i3 F, fun _ => ?_⟩
      exact fv_92 (fun v _ => fv_136 (fun v2 _ => i2 F))
    · refine pl_103_55 ⟨fun _ => ?_, fun _ => ?_⟩
      · refine pl_nk_i (fun _ => ?_)
        rw [e0]
        exact fv_183 (fun s1 q => i1 (cfr_tr F (cfr_mono q (fun q z => by unfold CSh; omega))))
      · exact fv_104 (fun v _ => i2 F)
    · refine pl_103_92 (pl_nk_i (fun _ => ⟨fun _ => k s F, fun _ => ?_⟩))
      refine pl_nk_i (fun _ => ?_)
      refine fv_182 (fun v1 _ => fv_105 (fun v2 _ => fv_92 (fun v3 _ => fv_184 (fun v4 _ => ⟨fun _ => ?_, fun _ => ?_⟩))))
      · refine pl_nk_i (fun _ => pl_nk_i (fun _ => pl_nk_i (fun _ => pl_nk_i (fun _ => ?_))))
        exact fv_92 (fun v5 _ => fv_136 (fun v6 _ => i4 (cfr_i (cfr_i F (by unfold CSh; omega)) (by unfold CSh; omega))))
      · refine pl_nk_i (fun _ => pl_nk_i (fun _ => pl_nk_i (fun _ => pl_nk_i (fun _ => ?_))))
        exact fv_92 (fun v5 _ => fv_136 (fun v6 _ => i4 (cfr_i (cfr_i F (by unfold CSh; omega)) (by unfold CSh; omega))))
    · refine pl_103_176 ⟨fun _ => i3 F, fun _ => ?_⟩
      refine pl_nk_i (fun _ => ?_)
      rw [e1]
      refine fv_183 (fun s1 q1 => ?_)
      refine pl_nk_i (fun _ => ?_)
      rw [e2]
      refine fv_183 (fun s2 q2 => ?_)
      exact fv_104 (fun v _ => i4 (cfr_tr F (cfr_tr (cfr_mono q1 (fun q z => by unfold CSh; omega)) (cfr_mono q2 (fun q z => by unfold CSh; omega)))))
theorem fv_103 {n r r1 th : Nat} {s : ps_S} {R : ps_S → Prop} (hr : ps_is r 6 = true) (k : ∀ s', cfr (CSh r) s s' → R s') : pl_Cl n 103 [.ref r, .ref r1, .ref th] s (ps_rV R) := by
  cases n with
  | zero => exact pl_At_0
  | succ n =>
  show pl_At (n + 1) 103 0 [(0, .ref r), (1, .ref r1), (2, .ref th)] [] s (ps_rV R)
  obtain ⟨⟨e0, e1, e2⟩, ⟨l0, l1, l2⟩, h50⟩ := shr hr
  refine pl_103_0 ?_
  rw [e1, e2]
  refine pl_nk_i (fun _ => pl_nk_i (fun _ => pl_nk_i (fun _ => ?_)))
  refine fv_183 (fun s1 q1 => pl_nk_i (fun _ => fv_183 (fun s2 q2 => pl_nk_i (fun _ => ?_))))
  exact (fv_103_all hr k n).1 (cfr_tr (cfr_i (cfr_i cfr_refl (by unfold CSh; omega)) (by unfold CSh; omega)) (cfr_tr (cfr_mono q1 (fun q z => by unfold CSh; omega)) (cfr_mono q2 (fun q z => by unfold CSh; omega))))
/-- a row with what didn't fit -/
def CW (s : ps_S) (r : Nat) (L : List Nat) : Prop := (ps_i s r 1).toInt = (min L.length 40 : Nat) ∧ (L.length ≤ 40 → cv_W s r L) ∧ (40 < L.length → ps_i s r 2 ≠ 0)
def C2 (r q : Nat) : Prop := q = r ∨ q = r + 1
theorem CW_of {s : ps_S} {r : Nat} {L : List Nat} (W : cv_W s r L) : CW s r L := ⟨by rw [W.1]; have := W.2.2.1; omega, fun _ => W, fun z => by have := W.2.2.1; omega⟩
theorem CW_0 {s : ps_S} {r : Nat} : cv_W (ps_ui (ps_ui s r 1 0) r 2 0) r [] := by
  refine ⟨?_, ?_, Nat.zero_le _, fun k c hk => by cases hk⟩
  · rw [ps_i_ui, if_neg (by omega), ps_i_ui, if_pos ⟨rfl, rfl⟩]
    rfl
  · rw [ps_i_ui, if_pos ⟨rfl, rfl⟩]
theorem fs_93w {n r c : Nat} {L : List Nat} {x1 : Int32} {s : ps_S} {R : ps_S → Prop} (hr : ps_is r 5 = true) (W : CW s r L) (hx : x1.toInt = c) (k : ∀ s', CW s' r (L ++ [c]) → cfr (C2 r) s s' → R s') : pl_Cl n 93 [.ref r, .int x1] s (ps_rV R) := by
  obtain ⟨t1, t2, t3, -⟩ := cv_row hr
  obtain ⟨W1, W2, W3⟩ := W
  rcases Nat.lt_or_ge L.length 40 with z | z
  · have V := W2 (by omega)
    refine fs_93 hr V.1 z (k _ ?_ ?_)
    · obtain ⟨v1, v2, v3, v4⟩ := V
      have hlen : (L ++ [c]).length = L.length + 1 := List.length_append
      have e1 : (ps_i (ps_ui (ps_ua s (r + 1) L.length x1) r 1 (ps_i s r 1 + 1)) r 1).toInt = (L.length + 1 : Nat) := by
        rw [ps_i_ui, if_pos ⟨rfl, rfl⟩]
        exact xj1 v1 (by omega)
      have Vn : cv_W (ps_ui (ps_ua s (r + 1) L.length x1) r 1 (ps_i s r 1 + 1)) r (L ++ [c]) := by
        refine ⟨by rw [hlen]; exact e1, by rw [ps_i_ui, if_neg (by omega)]; exact v2, by omega, fun q d hq => ?_⟩
        show (ps_a (ps_ua s (r + 1) L.length x1) (r + 1) q).toInt = d
        rw [ps_a_ua]
        rcases Nat.lt_or_ge q L.length with y | y
        · rw [if_neg (by omega)]
          rw [List.getElem?_append_left y] at hq
          exact v4 q d hq
        · have := (List.getElem?_eq_some_iff.mp hq).1
          have e : q = L.length := by omega
          rw [if_pos ⟨rfl, e⟩]
          rw [e, List.getElem?_append_right (Nat.le_refl _), Nat.sub_self] at hq
          cases hq
          exact hx
      exact CW_of Vn
    · exact cfr_i (cfr_a cfr_refl (Or.inr rfl)) (Or.inl rfl)
  · have e40 : (ps_i s r 1).toInt = 40 := by omega
    cases n with
    | zero => exact pl_At_0
    | succ n =>
    show pl_At (n + 1) 93 0 [(0, .ref r), (1, .int x1)] [] s (ps_rV R)
    have t40 : (nI (ps_ln (ps_c0 r 0))).toInt = 40 := by
      rw [t1, t2]
      decide
    have hlen : (L ++ [c]).length = L.length + 1 := List.length_append
    have fin : ∀ v : Int32, v = 1 → R (ps_ui s r 2 v) := fun v hv => by
      refine k _ ⟨?_, fun y => ?_, fun _ => ?_⟩ (cfr_i cfr_refl (Or.inl rfl))
      · rw [ps_i_ui, if_neg (by omega), e40, hlen]
        omega
      · omega
      · rw [ps_i_ui, if_pos ⟨rfl, rfl⟩, hv]
        decide
    refine pl_93_0 (pl_nk_i (fun _ => ⟨fun y => absurd (xlt y) (by rw [e40]; decide), fun _ => pl_nk_i (fun _ => pl_nk_i (fun _ => pl_nk_i (fun _ => ⟨fun y => pl_nk_i (fun _ => fin 1 rfl), fun y => ?_⟩)))⟩))
    have y := xlt y
    omega
/-- a part of a row is added to another -/
theorem fs_94w_3 {r r1 a b : Nat} {l L : List Nat} {x3 : Int32} {s0 : ps_S} {R : ps_S → Prop} (hr : ps_is r 5 = true) (hr1 : ps_is r1 5 = true) (hd : r1 ≠ r ∧ r1 ≠ r + 1 ∧ r1 + 1 ≠ r) (W0 : cv_W s0 r1 l) (h3 : x3.toInt = b) (hb : b ≤ l.length) (k : ∀ s', CW s' r (L ++ (l.drop a).take (b - a)) → cfr (C2 r) s0 s' → R s') : ∀ (n : Nat) {s : ps_S} {x4 : Int32} {i : Nat}, x4.toInt = i → a ≤ i → (i ≤ b ∨ i = a) → CW s r (L ++ (l.drop a).take (i - a)) → cfr (C2 r) s0 s → pl_At n 94 3 [(0, .ref r), (1, .ref r1), (3, .int x3), (4, .int x4)] [] s (ps_rV R)
  | 0, _, _, _, _, _, _, _, _ => pl_At_0
  | n + 1, s, x4, i, h4, hi, hib, C, F => by
    have h40 := W0.2.2.1
    refine pl_94_3 ⟨fun z => ?_, fun z => ?_⟩
    · have z := xle z
      have e : (l.drop a).take (b - a) = (l.drop a).take (i - a) := by
        rcases hib with y | y
        · rw [show i = b from by omega]
        · rw [show b - a = 0 from by omega, show i - a = 0 from by omega]
      exact k s (by rw [e]; exact C) F
    · have z := xlt z
      obtain ⟨c, hc⟩ : ∃ c, l[i]? = some c := ⟨_, List.getElem?_eq_getElem (by omega)⟩
      have W := cv_W_cfr W0 F (by unfold C2; omega) (by unfold C2; omega)
      refine fs_92c hr1 W h4 hc (fun v q => ?_)
      refine fs_93w hr C q (fun s2 C2' F2 => ?_)
      refine fs_94w_3 hr hr1 hd W0 h3 hb k n (xj1 h4 (by omega)) (by omega) (Or.inl (by omega)) ?_ (cfr_tr F F2)
      have e : (l.drop a).take (i + 1 - a) = (l.drop a).take (i - a) ++ [c] := by
        rw [show i + 1 - a = (i - a) + 1 from by omega, List.take_succ, List.getElem?_drop, show a + (i - a) = i from by omega, hc]
        rfl
      rw [e, ← List.append_assoc]
      exact C2'
theorem fs_94w {n r r1 a b : Nat} {l L : List Nat} {x2 x3 : Int32} {s : ps_S} {R : ps_S → Prop} (hr : ps_is r 5 = true) (hr1 : ps_is r1 5 = true) (hd : r1 ≠ r ∧ r1 ≠ r + 1 ∧ r1 + 1 ≠ r) (W : cv_W s r1 l) (C : CW s r L) (h2 : x2.toInt = a) (h3 : x3.toInt = b) (hb : b ≤ l.length) (k : ∀ s', CW s' r (L ++ (l.drop a).take (b - a)) → cfr (C2 r) s s' → R s') : pl_Cl n 94 [.ref r, .ref r1, .int x2, .int x3] s (ps_rV R) := by
  cases n with
  | zero => exact pl_At_0
  | succ n =>
  show pl_At (n + 1) 94 0 [(0, .ref r), (1, .ref r1), (2, .int x2), (3, .int x3)] [] s (ps_rV R)
  refine pl_94_0 (fs_94w_3 hr hr1 hd W h3 hb k n h2 (Nat.le_refl _) (Or.inr rfl) ?_ cfr_refl)
  rw [Nat.sub_self, List.take_zero, List.append_nil]
  exact C
/-- any row's part is added: what changes -/
theorem fv_93 {n r : Nat} {x1 : Int32} {s : ps_S} {R : ps_S → Prop} (hr : ps_is r 5 = true) (k : ∀ s', cfr (C2 r) s s' → R s') : pl_Cl n 93 [.ref r, .int x1] s (ps_rV R) := by
  cases n with
  | zero => exact pl_At_0
  | succ n =>
  show pl_At (n + 1) 93 0 [(0, .ref r), (1, .int x1)] [] s (ps_rV R)
  obtain ⟨t1, t2, t3, -⟩ := cv_row hr
  refine pl_93_0 ?_
  refine pl_nk_i (fun nk1 => ?_)
  refine ⟨fun h4 => ?_, fun h4 => ?_⟩
  · have h4 : (ps_i s r 1).toInt < (0 : Int) := xlt h4
    refine pl_nk_i (fun nk44 => ?_)
    first
    | exact k _ (cfr_i cfr_refl (Or.inl rfl))
    | (rw [t1]; exact k _ (cfr_i (cfr_a cfr_refl (Or.inr rfl)) (Or.inl rfl)))
  · have h4 : (0 : Int) ≤ (ps_i s r 1).toInt := xle h4
    refine pl_nk_i (fun nk8 => ?_)
    refine pl_nk_i (fun nk12 => ?_)
    refine pl_nk_i (fun nk15 => ?_)
    refine ⟨fun h16 => ?_, fun h16 => ?_⟩
    · have h16 : (nI (ps_ln (ps_c0 r 0))).toInt ≤ (ps_i s r 1).toInt := xle h16
      refine pl_nk_i (fun nk44 => ?_)
      first
      | exact k _ (cfr_i cfr_refl (Or.inl rfl))
      | (rw [t1]; exact k _ (cfr_i (cfr_a cfr_refl (Or.inr rfl)) (Or.inl rfl)))
    · have h16 : (ps_i s r 1).toInt < (nI (ps_ln (ps_c0 r 0))).toInt := xlt h16
      refine pl_nk_i (fun nk20 => ?_)
      refine pl_nk_i (fun nk24 => ?_)
      refine pl_nk_i (fun nk28 => ?_)
      intro b28
      obtain ⟨b28, c28⟩ := pl_in b28
      refine pl_nk_i (fun nk31 => ?_)
      refine pl_nk_i (fun nk36 => ?_)
      first
      | exact k _ (cfr_i cfr_refl (Or.inl rfl))
      | (rw [t1]; exact k _ (cfr_i (cfr_a cfr_refl (Or.inr rfl)) (Or.inl rfl)))
theorem fv_94_3 {r r1 : Nat} {s0 : ps_S} {R : ps_S → Prop} (hr : ps_is r 5 = true) (k : ∀ s', cfr (C2 r) s0 s' → R s') : ∀ (n : Nat) {s : ps_S} {x3 x4 : Int32}, cfr (C2 r) s0 s → pl_At n 94 3 [(0, .ref r), (1, .ref r1), (3, .int x3), (4, .int x4)] [] s (ps_rV R)
  | 0, _, _, _, _ => pl_At_0
  | n + 1, s, x3, x4, F => by
    refine pl_94_3 ⟨fun _ => k s F, fun _ => ?_⟩
    exact fv_92 (fun v _ => fv_93 hr (fun s2 F2 => fv_94_3 hr k n (cfr_tr F F2)))
theorem fv_95 {n r r1 : Nat} {s : ps_S} {R : ps_S → Prop} (hr : ps_is r 5 = true) (k : ∀ s', cfr (C2 r) s s' → R s') : pl_Cl n 95 [.ref r, .ref r1] s (ps_rV R) := by
  cases n with
  | zero => exact pl_At_0
  | succ n =>
  show pl_At (n + 1) 95 0 [(0, .ref r), (1, .ref r1)] [] s (ps_rV R)
  refine pl_95_0 (fs_91 (pl_nk_i (fun _ => ?_)))
  cases n with
  | zero => exact pl_At_0
  | succ n =>
  exact pl_94_0 (fv_94_3 hr k n (cfr_i (cfr_i cfr_refl (Or.inl rfl)) (Or.inl rfl)))
/-- a row copied -/
theorem fs_95 {n r r1 : Nat} {l : List Nat} {s : ps_S} {R : ps_S → Prop} (hr : ps_is r 5 = true) (hr1 : ps_is r1 5 = true) (hd : r1 ≠ r ∧ r1 ≠ r + 1 ∧ r1 + 1 ≠ r) (W : cv_W s r1 l) (k : ∀ s', cv_W s' r l → cfr (C2 r) s s' → R s') : pl_Cl n 95 [.ref r, .ref r1] s (ps_rV R) := by
  cases n with
  | zero => exact pl_At_0
  | succ n =>
  show pl_At (n + 1) 95 0 [(0, .ref r), (1, .ref r1)] [] s (ps_rV R)
  have h40 := W.2.2.1
  have F1 : cfr (C2 r) s (ps_ui (ps_ui s r 1 0) r 2 0) := cfr_i (cfr_i cfr_refl (Or.inl rfl)) (Or.inl rfl)
  have W1 := cv_W_cfr W F1 (by unfold C2; omega) (by unfold C2; omega)
  refine pl_95_0 (fs_91 (pl_nk_i (fun _ => ?_)))
  have e : (ps_i s r1 1) = (ps_i (ps_ui (ps_ui s r 1 0) r 2 0) r1 1) := by rw [ps_i_ui, if_neg (by omega), ps_i_ui, if_neg (by omega)]
  try rw [e]
  refine fs_94w (a := 0) (b := l.length) hr hr1 hd W1 (CW_of CW_0) rfl W1.1 (Nat.le_refl _) (fun s2 C F2 => k s2 ?_ (cfr_tr F1 F2))
  rw [List.drop_zero, Nat.sub_zero, List.take_length, List.nil_append] at C
  exact C.2.1 h40
/-- what is bound, by places -/
def BNc (s : ps_S) (l : List Nat) (B : Nat → Option (List Nat)) : Prop := ∀ k, k < 5 → (B k = none ∧ (ps_a s 1034 k).toInt = -1) ∨ ∃ a b : Nat, (ps_a s 1034 k).toInt = a ∧ (ps_a s 1035 k).toInt = b ∧ a ≤ b ∧ b ≤ l.length ∧ B k = some ((l.drop a).take (b - a))
def CBn (q : Nat) : Prop := q = 1034 ∨ q = 1035
section R88
variable {ar : Nat → Nat} {l : List Nat}
theorem fs_88 {n k p : Nat} {x1 x2 : Int32} {s : ps_S} {B : Nat → Option (List Nat)} {R : Int32 → ps_S → Prop} (W : cv_W s 1022 l) (E : shE s 1026 ar l 0) (hp : p < l.length) (hen : p + en ar (l.drop p) 1 ≤ l.length) (hk : k < 5) (h1 : x1.toInt = k) (h2 : x2.toInt = p) (b : BNc s l B) (kn : B k = none → ∀ s', BNc s' l (rw_u B k ((l.drop p).take (en ar (l.drop p) 1))) → cfr CBn s s' → R 1 s') (ks : ∀ U, B k = some U → (U = (l.drop p).take (en ar (l.drop p) 1) → R 1 s) ∧ (¬ U = (l.drop p).take (en ar (l.drop p) 1) → R 0 s)) : pl_Cl n 88 [.ref 1021, .int x1, .int x2] s (ps_rI R) := by
  cases n with
  | zero => exact pl_At_0
  | succ n =>
  show pl_At (n + 1) 88 0 [(0, .ref 1021), (1, .int x1), (2, .int x2)] [] s (ps_rI R)
  have h40 := W.2.2.1
  have cm : (-1 : Int32).toInt = -1 := by decide
  refine pl_88_0 ?_
  refine fs_104 rfl h2 (by omega) (fun v1 q1 => ?_)
  have e1 : v1.toInt = (p + en ar (l.drop p) 1 : Nat) := by rw [q1]; exact E p (Nat.zero_le _) hp
  refine fs_182v (a := k) h1 (by rw [show ps_ln 1034 = 5 from rfl]; exact hk) (by decide) (fun v2 q2 => ?_)
  rcases b k hk with ⟨b1, b2⟩ | ⟨a, e, b1, b2, b3, b4, b5⟩
  · refine ⟨fun z => ?_, fun _ => ?_⟩
    · have z := xne z
      rw [q2] at z
      exact absurd b2 z
    · refine fs_183 (a := k) h1 (by rw [show ps_ln 1034 = 5 from rfl]; exact hk) (by decide) ?_
      refine fs_183 (a := k) h1 (by rw [show ps_ln 1035 = 5 from rfl]; exact hk) (by decide) ?_
      refine kn b1 _ (fun j hj => ?_) (cfr_a (cfr_a cfr_refl (Or.inl rfl)) (Or.inr rfl))
      unfold rw_u
      by_cases ej : j = k
      · right
        refine ⟨p, p + en ar (l.drop p) 1, ?_, ?_, by omega, hen, ?_⟩
        · rw [ps_a_ua, if_neg (by omega), ps_a_ua, if_pos ⟨rfl, ej⟩]
          exact h2
        · rw [ps_a_ua, if_pos ⟨rfl, ej⟩]
          exact e1
        · rw [if_pos ej, Nat.add_sub_cancel_left]
      · rw [if_neg ej, ps_a_ua, if_neg (by omega), ps_a_ua, if_neg (by omega), ps_a_ua, if_neg (by omega), ps_a_ua, if_neg (by omega)]
        exact b j hj
  · have v2e : v2.toInt = a := by rw [q2]; exact b1
    refine ⟨fun _ => ?_, fun z => ?_⟩
    · refine fs_182v (a := k) h1 (by rw [show ps_ln 1035 = 5 from rfl]; exact hk) (by decide) (fun v3 q3 => ?_)
      have v3e : v3.toInt = e := by rw [q3]; exact b2
      have ks := ks _ b5
      have d1 : (v1 - x2).toInt = (en ar (l.drop p) 1 : Nat) := by rw [xIs (by omega) (by omega), e1, h2]; omega
      have d2 : (v3 - v2).toInt = (e - a : Nat) := by rw [xIs (by omega) (by omega), v3e, v2e]; omega
      have l1 : ((l.drop a).take (e - a)).length = e - a := by rw [List.length_take, List.length_drop]; omega
      have l2 : ((l.drop p).take (en ar (l.drop p) 1)).length = en ar (l.drop p) 1 := by rw [List.length_take, List.length_drop]; omega
      refine ⟨fun z => ?_, fun z => ?_⟩
      · have z := xne z
        exact ks.2 (fun y => by rw [y] at l1; omega)
      · have z := xeq z
        have ez : en ar (l.drop p) 1 = e - a := by omega
        refine fs_99 (b := p) (e := p + en ar (l.drop p) 1) (p := a) rfl W rfl W h2 e1 hen v2e (by omega) (fun y => ⟨fun w => absurd w (by decide), fun _ => ks.1 ?_⟩) (fun y => ⟨fun _ => ks.2 (fun w => y ?_), fun w => absurd rfl w⟩)
        · rw [Nat.add_sub_cancel_left] at y
          rw [← ez]
          exact y.symm
        · rw [Nat.add_sub_cancel_left, ← w, ez]
    · have z := xeq z
      omega
end R88
theorem dt_c {r : List Nat} {i e c : Nat} (h : r[i]? = some c) (hi : i < e) : (r.drop i).take (e - i) = c :: (r.drop (i + 1)).take (e - (i + 1)) := by
  rw [drop_c h, show e - i = (e - (i + 1)) + 1 from by omega, List.take_succ_cons]
section R87
variable {g : tx_g} {l r : List Nat} {r1 rt : Nat} {s0 : ps_S} {R : Int32 → ps_S → Prop} {x3 : Int32} {p0 lf : Nat}
/-- a rule's left side is held against a place -/
theorem fs_87_32 (hA : ArW (sg g) (arh g)) (W0 : cv_W s0 1022 l) (E0 : shE s0 1026 (arh g) l 0) (hr1 : ps_is r1 5 = true) (hne : r1 < 1021) (Wr0 : cv_W s0 r1 r) (hv : ∀ c, c ∈ r → c < 60) (hv5 : ∀ c, c ∈ r → 40 ≤ c → c < 45) (h3 : x3.toInt = rt) (hrt : rt ≤ r.length) {M : Option (Nat × (Nat → Option (List Nat)))} (k1 : ∀ s' e B, M = some (e, B) → BNc s' l B → cfr CBn s0 s' → R 1 s') (k0 : ∀ s', M = none → cfr CBn s0 s' → R 0 s') : ∀ (n : Nat) {s : ps_S} {x5 x6 : Int32} {p i : Nat} {B : Nat → Option (List Nat)} {W W1 : List Bool}, x5.toInt = p → x6.toInt = i → i ≤ rt → BNc s l B → cfr CBn s0 s → ws (sg g) ((r.drop i).take (rt - i)) W → ws (sg g) (l.drop p) W1 → W.length ≤ W1.length → p ≤ l.length → M = rw_m (arh g) l ((r.drop i).take (rt - i)) p B → pl_At n 87 32 [(0, .ref 1021), (1, .ref r1), (3, .int x3), (5, .int x5), (6, .int x6)] [] s (ps_rI R)
  | 0, _, _, _, _, _, _, _, _, _, _, _, _, _, _, _, _, _, _ => pl_At_0
  | n + 1, s, x5, x6, p, i, B, W, W1, h5, h6, hi, b, F, hw, hw1, hle, hpl, hM => by
    have hl40 := W0.2.2.1
    have hr40 := Wr0.2.2.1
    have Wl := cv_W_cfr W0 F (by unfold CBn; omega) (by unfold CBn; omega)
    have Wr := cv_W_cfr Wr0 F (by unfold CBn; omega) (by unfold CBn; omega)
    have E : shE s 1026 (arh g) l 0 := fun j a c => by
      rw [(F 1027 (by unfold CBn; omega)).2.2.2.1]
      exact E0 j a c
    refine pl_87_32 ⟨fun z => ?_, fun z => ?_⟩
    · have z := xle z
      rw [show rt - i = 0 from by omega, List.take_zero] at hM
      exact k1 s p B hM b F
    · have z := xlt z
      obtain ⟨c, hc⟩ : ∃ c, r[i]? = some c := ⟨_, List.getElem?_eq_getElem (by omega)⟩
      have hcm := List.mem_of_getElem? hc
      have hc60 := hv c hcm
      rw [dt_c hc (by omega)] at hw hM
      obtain ⟨bb, W', ks, rfl, hk, hw'⟩ := ws_cons.mp hw
      have ha := hA bb c ks hk
      have hpos : 1 ≤ W1.length := by rw [List.length_cons] at hle; omega
      have hlt : p < l.length := by
        have := en_lt hA hw1 (show 0 < W1.length by omega)
        rw [List.length_drop] at this
        omega
      refine fs_92c hr1 Wr h6 hc (fun v1 q1 => ?_)
      refine fs_185 (fun h1 => ⟨fun z => absurd z (by decide), fun _ => ?_⟩) (fun h1 => ⟨fun _ => ?_, fun z => absurd rfl z⟩)
      · -- a bound piece of the rule
        have h40 : 40 ≤ c := by omega
        have h45 := hv5 c hcm h40
        have hks : ks = [] := by
          have := (arh_lo (g := g) (c := c)).2.2.2.2 h40
          exact List.eq_nil_of_length_eq_zero (by omega)
        rw [hks, List.nil_append] at hw'
        have c40 : (40 : Int32).toInt = 40 := by decide
        have hen := en_le hA hw1 (k := 1) hpos
        rw [List.length_drop] at hen
        have hrest := (en_rest hA hw1 (k := 1) hpos).1
        rw [List.drop_drop] at hrest
        have go : ∀ {s2 : ps_S} {B2 : Nat → Option (List Nat)}, BNc s2 l B2 → cfr CBn s0 s2 → M = rw_m (arh g) l ((r.drop (i + 1)).take (rt - (i + 1))) (p + en (arh g) (l.drop p) 1) B2 → pl_Cl n 104 [.ref 1026, .int x5] s2 (ps_rI (fun v5 s5 => pl_At n 87 32 [(0, .ref 1021), (1, .ref r1), (3, .int x3), (5, .int v5), (6, .int (x6 + 1))] [] s5 (ps_rI R))) := fun {s2 B2} b2 F2 hM2 => by
          refine fs_104 rfl h5 (by omega) (fun v5 q5 => ?_)
          have e5 : v5.toInt = (p + en (arh g) (l.drop p) 1 : Nat) := by
            rw [q5, (F2 1027 (by unfold CBn; omega)).2.2.2.1]
            exact E0 p (Nat.zero_le _) hlt
          exact fs_87_32 hA W0 E0 hr1 hne Wr0 hv hv5 h3 hrt k1 k0 n e5 (xj1 h6 (by omega)) (by omega) b2 F2 hw' hrest (by rw [List.length_drop]; rw [List.length_cons] at hle; omega) (by omega) hM2
        refine fs_88 (k := c - 40) (p := p) Wl E hlt (by omega) (by omega) (by rw [xIs (by omega) (by omega), q1, c40]; omega) h5 b (fun hB s2 b2 F2 => ⟨fun _ => ?_, fun z => absurd z (by decide)⟩) (fun U hB => ⟨fun y => ⟨fun _ => ?_, fun z => absurd z (by decide)⟩, fun y => ⟨fun z => absurd rfl z, fun _ => ?_⟩⟩)
        · exact go b2 (cfr_tr F F2) (by rw [hM, rw_m_n h40 hB])
        · exact go b F (by rw [hM, rw_m_s h40 hB, if_pos y])
        · exact k0 s (by rw [hM, rw_m_s h40 hB, if_neg y]) F
      · have h40 : ¬ 40 ≤ c := by omega
        obtain ⟨c2, hc2⟩ : ∃ c2, l[p]? = some c2 := ⟨_, List.getElem?_eq_getElem hlt⟩
        refine fs_92c rfl Wl h5 hc2 (fun v3 q3 => ⟨fun y => ?_, fun y => ?_⟩)
        · have y := xne y
          refine k0 s ?_ F
          rw [hM, rw_m_c h40, if_neg (fun w => by rw [hc2] at w; cases w; exact y (by rw [q1, q3]))]
        · have y := xeq y
          have e2 : c2 = c := by omega
          subst e2
          rw [drop_c hc2] at hw1
          obtain ⟨bb2, W1', ks2, rfl, hk2, hw1'⟩ := ws_cons.mp hw1
          have ha2 := hA bb2 c2 ks2 hk2
          refine fs_87_32 hA W0 E0 hr1 hne Wr0 hv hv5 h3 hrt k1 k0 n (xj1 h5 (by omega)) (xj1 h6 (by omega)) (by omega) b F hw' hw1' ?_ (by omega) (by rw [hM, rw_m_c h40, if_pos hc2])
          rw [List.length_append, List.length_append]
          rw [List.length_cons, List.length_cons] at hle
          omega
theorem fs_87_3 {x4 x2 : Int32} (k : ∀ n s', BNc s' l (fun _ => none) → cfr CBn s0 s' → pl_At n 87 32 [(0, .ref 1021), (1, .ref r1), (3, .int x3), (5, .int x4), (6, .int x2)] [] s' (ps_rI R)) : ∀ (n : Nat) {s : ps_S} {x5 : Int32} {i : Nat}, x5.toInt = i → i ≤ 5 → (∀ j, j < i → (ps_a s 1034 j).toInt = -1) → cfr CBn s0 s → pl_At n 87 3 [(0, .ref 1021), (1, .ref r1), (2, .int x2), (3, .int x3), (4, .int x4), (5, .int x5)] [] s (ps_rI R)
  | 0, _, _, _, _, _, _, _ => pl_At_0
  | n + 1, s, x5, i, h5, hi, hj, F => by
    have c5 : (5 : Int32).toInt = 5 := by decide
    refine pl_87_3 ⟨fun z => ?_, fun z => ?_⟩
    · have z := xle z
      exact k n s (fun j hj5 => Or.inl ⟨rfl, hj j (by omega)⟩) F
    · have z := xlt z
      refine fs_183 (a := i) h5 (by rw [show ps_ln 1034 = 5 from rfl]; omega) (by decide) ?_
      refine fs_87_3 k n (xj1 h5 (by omega)) (by omega) (fun j hj2 => ?_) (cfr_a F (Or.inl rfl))
      rw [ps_a_ua]
      by_cases e : j = i
      · rw [if_pos ⟨rfl, e⟩]
        decide
      · rw [if_neg (fun w => e w.2)]
        exact hj j (by omega)
theorem fs_87 {n : Nat} {x2 x4 : Int32} {W W1 : List Bool} (hA : ArW (sg g) (arh g)) (W0 : cv_W s0 1022 l) (E0 : shE s0 1026 (arh g) l 0) (hr1 : ps_is r1 5 = true) (hne : r1 < 1021) (Wr0 : cv_W s0 r1 r) (hv : ∀ c, c ∈ r → c < 60) (hv5 : ∀ c, c ∈ r → 40 ≤ c → c < 45) (h2 : x2.toInt = lf) (h3 : x3.toInt = rt) (hlr : lf ≤ rt) (hrt : rt ≤ r.length) (h4 : x4.toInt = p0) (hp : p0 ≤ l.length) (hw : ws (sg g) ((r.drop lf).take (rt - lf)) W) (hw1 : ws (sg g) (l.drop p0) W1) (hle : W.length ≤ W1.length) (k1 : ∀ s' e B, rw_m (arh g) l ((r.drop lf).take (rt - lf)) p0 (fun _ => none) = some (e, B) → BNc s' l B → cfr CBn s0 s' → R 1 s') (k0 : ∀ s', rw_m (arh g) l ((r.drop lf).take (rt - lf)) p0 (fun _ => none) = none → cfr CBn s0 s' → R 0 s') : pl_Cl n 87 [.ref 1021, .ref r1, .int x2, .int x3, .int x4] s0 (ps_rI R) := by
  cases n with
  | zero => exact pl_At_0
  | succ n =>
  show pl_At (n + 1) 87 0 [(0, .ref 1021), (1, .ref r1), (2, .int x2), (3, .int x3), (4, .int x4)] [] s0 (ps_rI R)
  refine pl_87_0 (fs_87_3 (l := l) (s0 := s0) (fun n s1 b F => ?_) n (i := 0) rfl (Nat.zero_le _) (fun j hj => absurd hj (Nat.not_lt_zero _)) cfr_refl)
  exact fs_87_32 hA W0 E0 hr1 hne Wr0 hv hv5 h3 hrt k1 k0 n h4 h2 hlr b F hw hw1 hle hp rfl
end R87
end
section
set_option maxRecDepth 100000
/-! the class: a term rewritten, again and again -/
theorem rl_n_w1 {σ : mSig} : ∀ {l : List Nat} {b : Bool}, ws σ l [b] → ∃ b', ws σ (l.drop (rl_n l)) [b']
  | [], b, h => by cases h
  | c :: l, b, h => by
    by_cases hc : c = 4
    · subst hc
      obtain ⟨b', W', ks, e, hk, h2⟩ := ws_cons.mp h
      cases e
      rw [List.append_nil] at h2
      have hks : ks = [true] := by
        rcases kS_cases hk with z | z | z | z | z | z | z
        · omega
        · omega
        · exact z.2.2
        · omega
        · omega
        · omega
        · omega
      subst hks
      rw [rl_n_c, List.drop_succ_cons]
      exact rl_n_w1 h2
    · have e : rl_n (c :: l) = 0 := by
        show (if c = 4 then _ else _) = 0
        rw [if_neg hc]
      rw [e, List.drop_zero]
      exact ⟨b, h⟩
/-- the sides of a rule -/
theorem rl_parts {g : tx_g} {r : List Nat} {b : Bool} (hA : ArW (sg g) (arh g)) (hw : ws (sg g) r [b]) (hr : rl_is (arh g) r) : rl_l r ≤ rl_r (arh g) r ∧ rl_r (arh g) r ≤ r.length ∧ ws (sg g) (rw_L (arh g) r) [false] ∧ ws (sg g) (r.drop (rl_r (arh g) r)) [false] ∧ (∃ c t, rw_L (arh g) r = c :: t ∧ 20 ≤ c ∧ c < 40 ∧ ∃ ks, kS (sg g) false c = some ks) ∧ ∀ x, x ∈ r.drop (rl_r (arh g) r) → 40 ≤ x → x ∈ rw_L (arh g) r := by
  obtain ⟨h6, ⟨c, hc, c20, c40⟩, hh⟩ := hr
  obtain ⟨b', n4⟩ := rl_n_w1 hw
  rw [drop_c h6] at n4
  obtain ⟨bb, W', ks, e, hk, h2⟩ := ws_cons.mp n4
  cases e
  rw [List.append_nil] at h2
  have hks : ks = [false, false] := by
    rcases kS_cases hk with z | z | z | z | z | z | z
    · omega
    · omega
    · omega
    · exact z.2.2
    · omega
    · omega
    · omega
  subst hks
  have h2 : ws (sg g) (r.drop (rl_l r)) [false, false] := h2
  have hle := en_le hA (k := 1) h2 (by simp)
  rw [List.length_drop] at hle
  have hll := (List.getElem?_eq_some_iff.mp hc).1
  obtain ⟨g1, g2⟩ := en_rest hA (k := 1) h2 (by simp)
  have eL : rw_L (arh g) r = (r.drop (rl_l r)).take (en (arh g) (r.drop (rl_l r)) 1) := by
    unfold rw_L rl_r
    rw [Nat.add_sub_cancel_left]
  have eR : r.drop (rl_r (arh g) r) = (r.drop (rl_l r)).drop (en (arh g) (r.drop (rl_l r)) 1) := by
    rw [List.drop_drop]
    rfl
  have hpos := en_pos (ar := arh g) (t := r.drop (rl_l r)) (p := 1) (by rw [List.length_drop]; omega) (by decide)
  refine ⟨by unfold rl_r; omega, by unfold rl_r; omega, by rw [eL]; exact g2, by rw [eR]; exact g1, ?_, hh⟩
  rw [eL] at *
  obtain ⟨m, hm⟩ : ∃ m, en (arh g) (r.drop (rl_l r)) 1 = m + 1 := ⟨en (arh g) (r.drop (rl_l r)) 1 - 1, by omega⟩
  rw [hm, drop_c hc, List.take_succ_cons] at g2 ⊢
  obtain ⟨bb2, W2, ks2, e2, hk2, -⟩ := ws_cons.mp g2
  cases e2
  exact ⟨c, _, rfl, c20, c40, ks2, hk2⟩
/-- a place where no FUN stands -/
theorem rw_z_no {h : tx_H} {l : List Nat} {p : Nat} (hA : ArW (sg h.1) (arh h.1)) (hw : ∀ (k : Nat) (w r : List Nat), h.2[k]? = some (w, r) → ws (sg h.1) r [true]) (hp : ∀ c, l[p]? = some c → ¬ (20 ≤ c ∧ c < 40)) (k : Nat) : rw_z h l p k := by
  rintro l' ⟨w, r, e, B, a1, a2, a3, a4⟩
  obtain ⟨-, -, -, -, ⟨c, t, eL, c20, c40, -⟩, -⟩ := rl_parts hA (hw k w r a1) a2
  rw [eL, rw_m_c (by omega)] at a3
  split at a3
  · next hc => exact hp c hc ⟨c20, c40⟩
  · cases a3
theorem BNc_cfr {C : Nat → Prop} {s s' : ps_S} {l : List Nat} {B : Nat → Option (List Nat)} (b : BNc s l B) (F : cfr C s s') (h1 : ¬ C 1034) (h2 : ¬ C 1035) : BNc s' l B := fun k hk => by
  rw [(F 1034 h1).2.2.2.1, (F 1035 h2).2.2.2.1]
  exact b k hk
section R89
variable {g : tx_g} {l r : List Nat} {r1 rt p e : Nat} {s0 : ps_S} {R : ps_S → Prop} {x3 : Int32} {B : Nat → Option (List Nat)}
theorem fs_89_23 (W0 : cv_W s0 1022 l) (E0 : shE s0 1026 (arh g) l 0) (hr1 : ps_is r1 5 = true) (hne : r1 < 1021) (Wr0 : cv_W s0 r1 r) (hv : ∀ c, c ∈ r → c < 60) (hv5 : ∀ c, c ∈ r → 40 ≤ c → c < 45) (hB : ∀ c, c ∈ r.drop rt → 40 ≤ c → ∃ U, B (c - 40) = some U) (b0 : BNc s0 l B) (h3 : x3.toInt = p) (hp : p < l.length) (he : e = p + en (arh g) (l.drop p) 1) (hel : e ≤ l.length) (k : ∀ s', CW s' 1024 (l.take p ++ rw_r B (r.drop rt) ++ l.drop e) → cfr (C2 1024) s0 s' → R s') : ∀ (n : Nat) {s : ps_S} {x4 : Int32} {i : Nat} {L : List Nat}, x4.toInt = i → rt ≤ i → i ≤ r.length → CW s 1024 (l.take p ++ L) → rw_r B (r.drop rt) = L ++ rw_r B (r.drop i) → cfr (C2 1024) s0 s → pl_At n 89 23 [(0, .ref 1021), (1, .ref r1), (3, .int x3), (4, .int x4)] [] s (ps_rV R)
  | 0, _, _, _, _, _, _, _, _, _, _ => pl_At_0
  | n + 1, s, x4, i, L, h4, hi, hir, C, hL, F => by
    have hl40 := W0.2.2.1
    have hr40 := Wr0.2.2.1
    have W := cv_W_cfr W0 F (by unfold C2; omega) (by unfold C2; omega)
    have Wr := cv_W_cfr Wr0 F (by unfold C2; omega) (by unfold C2; omega)
    have b := BNc_cfr b0 F (by unfold C2; omega) (by unfold C2; omega)
    refine pl_89_23 (pl_nk_i (fun _ => ⟨fun z => ?_, fun z => ?_⟩))
    · have z := xle z
      rw [Wr.1] at z
      have ei : i = r.length := by omega
      rw [ei, List.drop_length] at hL
      have hL : rw_r B (r.drop rt) = L := by rw [hL]; exact List.append_nil _
      refine fs_104 rfl h3 (by omega) (fun v1 q1 => ?_)
      have e1 : v1.toInt = e := by
        rw [q1, (F 1027 (by unfold C2; omega)).2.2.2.1, he]
        exact E0 p (Nat.zero_le _) hp
      refine fs_94w (a := e) (b := l.length) rfl rfl (by decide) W C e1 W.1 (Nat.le_refl _) (fun s2 C2' F2 => k s2 ?_ (cfr_tr F F2))
      rw [hL]
      have ee : (l.drop e).take (l.length - e) = l.drop e := List.take_of_length_le (by rw [List.length_drop]; omega)
      rw [ee] at C2'
      exact C2'
    · have z := xlt z
      rw [Wr.1] at z
      obtain ⟨c, hc⟩ : ∃ c, r[i]? = some c := ⟨_, List.getElem?_eq_getElem (by omega)⟩
      have hcm := List.mem_of_getElem? hc
      have hcd : c ∈ r.drop rt := List.mem_iff_getElem?.mpr ⟨i - rt, by rw [List.getElem?_drop, show rt + (i - rt) = i from by omega]; exact hc⟩
      have c60 := hv c hcm
      rw [drop_c hc] at hL
      refine fs_92c hr1 Wr h4 hc (fun v3 q3 => ?_)
      refine fs_185 (fun y => ⟨fun w => absurd w (by decide), fun _ => ?_⟩) (fun y => ⟨fun _ => ?_, fun w => absurd rfl w⟩)
      · have h40 : 40 ≤ c := by omega
        have h45 := hv5 c hcm h40
        have c40 : (40 : Int32).toInt = 40 := by decide
        have ex : (v3 - 40).toInt = (c - 40 : Nat) := by rw [xIs (by omega) (by omega), q3, c40]; omega
        obtain ⟨U, hU⟩ := hB c hcd h40
        rw [rw_r_v h40 hU] at hL
        rcases b (c - 40) (by omega) with ⟨y1, -⟩ | ⟨a, bb, y1, y2, y3, y4, y5⟩
        · rw [hU] at y1; cases y1
        · rw [hU] at y5
          have eU := Option.some.inj y5
          refine fs_182v (a := c - 40) ex (by rw [show ps_ln 1034 = 5 from rfl]; omega) (by decide) (fun v6 q6 => ?_)
          refine fs_182v (a := c - 40) ex (by rw [show ps_ln 1035 = 5 from rfl]; omega) (by decide) (fun v7 q7 => ?_)
          refine fs_94w (a := a) (b := bb) rfl rfl (by decide) W C (by rw [q6]; exact y1) (by rw [q7]; exact y2) y4 (fun s2 C2' F2 => ?_)
          rw [← eU, List.append_assoc] at C2'
          exact fs_89_23 W0 E0 hr1 hne Wr0 hv hv5 hB b0 h3 hp he hel k n (L := L ++ U) (xj1 h4 (by omega)) (by omega) (by omega) C2' (by rw [hL, List.append_assoc]) (cfr_tr F F2)
      · have h40 : ¬ 40 ≤ c := by omega
        rw [rw_r_c h40] at hL
        refine fs_93w rfl C q3 (fun s2 C2' F2 => ?_)
        rw [List.append_assoc] at C2'
        exact fs_89_23 W0 E0 hr1 hne Wr0 hv hv5 hB b0 h3 hp he hel k n (L := L ++ [c]) (xj1 h4 (by omega)) (by omega) (by omega) C2' (by rw [hL, List.append_assoc]; rfl) (cfr_tr F F2)
theorem fs_89 {n : Nat} {x2 : Int32} (W0 : cv_W s0 1022 l) (E0 : shE s0 1026 (arh g) l 0) (hr1 : ps_is r1 5 = true) (hne : r1 < 1021) (Wr0 : cv_W s0 r1 r) (hv : ∀ c, c ∈ r → c < 60) (hv5 : ∀ c, c ∈ r → 40 ≤ c → c < 45) (hB : ∀ c, c ∈ r.drop rt → 40 ≤ c → ∃ U, B (c - 40) = some U) (b0 : BNc s0 l B) (h2 : x2.toInt = rt) (hrt : rt ≤ r.length) (h3 : x3.toInt = p) (hp : p < l.length) (he : e = p + en (arh g) (l.drop p) 1) (hel : e ≤ l.length) (k : ∀ s', CW s' 1024 (l.take p ++ rw_r B (r.drop rt) ++ l.drop e) → cfr (C2 1024) s0 s' → R s') : pl_Cl n 89 [.ref 1021, .ref r1, .int x2, .int x3] s0 (ps_rV R) := by
  cases n with
  | zero => exact pl_At_0
  | succ n =>
  show pl_At (n + 1) 89 0 [(0, .ref 1021), (1, .ref r1), (2, .int x2), (3, .int x3)] [] s0 (ps_rV R)
  have F1 : cfr (C2 1024) s0 (ps_ui (ps_ui s0 1024 1 0) 1024 2 0) := cfr_i (cfr_i cfr_refl (Or.inl rfl)) (Or.inl rfl)
  refine pl_89_0 (fs_91 ?_)
  refine fs_94w (l := l) (a := 0) (b := p) (L := []) rfl rfl (by decide) (cv_W_cfr W0 F1 (by unfold C2; omega) (by unfold C2; omega)) (CW_of CW_0) rfl h3 (by omega) (fun s2 C F2 => ?_)
  rw [List.drop_zero, Nat.sub_zero, List.nil_append] at C
  exact fs_89_23 W0 E0 hr1 hne Wr0 hv hv5 hB b0 h3 hp he hel k n (L := []) h2 (Nat.le_refl _) hrt (by rw [List.append_nil]; exact C) rfl (cfr_tr F1 F2)
end R89
def CGO (q : Nat) : Prop := q = 1024 ∨ q = 1025 ∨ q = 1034 ∨ q = 1035
section R86
variable {th : Nat} {h : tx_H} {l : List Nat} {s0 : ps_S} {R : Int32 → ps_S → Prop}
theorem fs_86_all (hth : th = 2 ∨ th = 26) (H0 : cv_H s0 th h) (hw : WFt h) (hb : ∀ (k : Nat) (w r : List Nat), h.2[k]? = some (w, r) → ∀ c, c ∈ r → 40 ≤ c → c < 45) (hwl : ws (sg h.1) l [false]) (W0 : cv_W s0 1022 l) (E0 : shE s0 1026 (arh h.1) l 0) (hR0 : RLc s0 (arh h.1) h.2 h.2.length) (k1 : ∀ s' l', rw_s h l l' → CW s' 1024 l' → cfr CGO s0 s' → R 1 s') (k0 : ∀ s', rw_e h l → cfr CGO s0 s' → R 0 s') : ∀ n : Nat, (∀ {s : ps_S} {x2 : Int32} {p : Nat}, x2.toInt = p → p ≤ l.length → cfr CBn s0 s → (∀ p', p' < p → ∀ k', rw_z h l p' k') → pl_At n 86 2 [(0, .ref 1021), (1, .ref th), (2, .int x2)] [] s (ps_rI R)) ∧ (∀ {s : ps_S} {x2 x3 : Int32} {p i : Nat}, x2.toInt = p → p < l.length → x3.toInt = i → i ≤ h.2.length → cfr CBn s0 s → (∀ p', p' < p → ∀ k', rw_z h l p' k') → (∀ k', k' < i → rw_z h l p k') → pl_At n 86 15 [(0, .ref 1021), (1, .ref th), (2, .int x2), (3, .int x3)] [] s (ps_rI R)) := by
  have hA := arh_k H0.1.2.2.1 H0.1.2.2.2.1
  have hl40 := W0.2.2.1
  have hws : ∀ (k : Nat) (w r : List Nat), h.2[k]? = some (w, r) → ws (sg h.1) r [true] := fun k w r hk => wf_ws (hw.2.2 k w r hk).1
  have FG : ∀ {s : ps_S}, cfr CBn s0 s → cfr CGO s0 s := fun F => cfr_mono F (fun q z => by unfold CBn at z; unfold CGO; omega)
  intro n
  induction n with
  | zero => exact ⟨fun _ _ _ _ => pl_At_0, fun _ _ _ _ _ _ _ => pl_At_0⟩
  | succ n ih =>
    obtain ⟨i2, i15⟩ := ih
    refine ⟨fun {s x2 p} h2 hp F hz => ?_, fun {s x2 x3 p i} h2 hp h3 hi F hz hk => ?_⟩
    · have W := cv_W_cfr W0 F (by unfold CBn; omega) (by unfold CBn; omega)
      refine pl_86_2 ⟨fun z => ?_, fun z => ?_⟩
      · have z := xle z
        rw [W.1] at z
        exact k0 s (fun p' hp' k' => hz p' (by omega) k') (FG F)
      · have z := xlt z
        rw [W.1] at z
        exact i15 h2 (by omega) rfl (Nat.zero_le _) F hz (fun k' hk' => absurd hk' (Nat.not_lt_zero _))
    · have W := cv_W_cfr W0 F (by unfold CBn; omega) (by unfold CBn; omega)
      have E : shE s 1026 (arh h.1) l 0 := fun j a c => by
        rw [(F 1027 (by unfold CBn; omega)).2.2.2.1]
        exact E0 j a c
      have h8 := H0.2.2.1
      have H := cv_H_cfr H0 F (fun q a c => by unfold CBn; omega)
      have hR : RLc s (arh h.1) h.2 h.2.length := fun k w2 l2 a c => by
        rw [(F 1036 (by unfold CBn; omega)).2.2.2.1, (F 1037 (by unfold CBn; omega)).2.2.2.1]
        exact hR0 k w2 l2 a c
      have go2 : (∀ k', rw_z h l p k') → pl_At n 86 2 [(0, .ref 1021), (1, .ref th), (2, .int (x2 + 1))] [] s (ps_rI R) := fun y => i2 (xj1 h2 (by omega)) (by omega) F (fun p' hp' k' => by
        rcases Nat.lt_or_ge p' p with u | u
        · exact hz p' u k'
        · rw [show p' = p from by omega]
          exact y k')
      refine pl_86_15 (pl_nk_i (fun _ => ⟨fun z => ?_, fun z => ?_⟩))
      · have z := xle z
        rw [H.2.1] at z
        refine go2 (fun k' => ?_)
        rcases Nat.lt_or_ge k' i with u | u
        · exact hk k' u
        · rintro l' ⟨w, r, e, B, a1, -⟩
          have := (List.getElem?_eq_some_iff.mp a1).1
          omega
      · have z := xlt z
        rw [H.2.1] at z
        obtain ⟨c, hc⟩ : ∃ c, l[p]? = some c := ⟨_, List.getElem?_eq_getElem hp⟩
        obtain ⟨W1, hw1⟩ := ws_drop p hwl
        rw [drop_c hc] at hw1
        obtain ⟨bb, W1', ks1, rfl, hk1, -⟩ := ws_cons.mp hw1
        rw [← drop_c hc] at hw1
        refine fs_92c rfl W h2 hc (fun v1 q1 => ?_)
        refine fs_186 (fun y => ⟨fun u => absurd u (by decide), fun _ => ?_⟩) (fun y => ⟨fun _ => ?_, fun u => absurd rfl u⟩)
        · obtain ⟨⟨w, r⟩, hkr⟩ : ∃ q, h.2[i]? = some q := ⟨_, List.getElem?_eq_getElem (by omega)⟩
          obtain ⟨r1, r0⟩ := hR i w r (by omega) hkr
          obtain ⟨y1, y2, Wr⟩ := H.2.2.2 i w r hkr
          obtain ⟨hf, hr40, h60⟩ := hw.2.2 i w r hkr
          have Kk := th_K hth (k := i) (by omega)
          have hr5 : ps_is (th + 8 + 2 * i) 5 = true := ps_is5 Kk.2.2.2.2.2.1
          have cm : (-1 : Int32).toInt = -1 := by decide
          have next : ∀ {s' : ps_S}, cfr CBn s0 s' → rw_z h l p i → pl_At n 86 15 [(0, .ref 1021), (1, .ref th), (2, .int x2), (3, .int (x3 + 1))] [] s' (ps_rI R) := fun F' y => i15 h2 hp (xj1 h3 (by omega)) (by omega) F' hz (fun k' hk' => by
            rcases Nat.lt_or_ge k' i with u | u
            · exact hk k' u
            · rw [show k' = i from by omega]
              exact y)
          refine fs_182v (a := i) h3 (by rw [show ps_ln 1037 = 8 from rfl]; omega) (by decide) (fun v3 q3 => ⟨fun u => ?_, fun u => ?_⟩)
          · have u := xeq u
            refine next F (fun l' a => ?_)
            obtain ⟨w2, r2, e, B, a1, a2, -⟩ := a
            rw [hkr] at a1
            cases a1
            have := (r1 a2).2
            rw [← q3] at this
            omega
          · have u := xne u
            have his : rl_is (arh h.1) r := by
              by_cases y3 : rl_is (arh h.1) r
              · exact y3
              · have := r0 y3
                rw [← q3] at this
                omega
            obtain ⟨e36, e37⟩ := r1 his
            obtain ⟨p1, p2, p3, p4, -, p6⟩ := rl_parts hA (wf_ws hf) his
            refine fs_135 hth h3 (by omega) ?_
            refine fs_182v (a := i) h3 (by rw [show ps_ln 1036 = 8 from rfl]; omega) (by decide) (fun v5 q5 => ?_)
            have hlen : 1 ≤ (bb :: W1').length := by rw [List.length_cons]; omega
            refine fs_87 (l := l) (r := r) (lf := rl_l r) (rt := rl_r (arh h.1) r) (p0 := p) hA W E hr5 (by omega) Wr h60 (hb i w r hkr) (by rw [q5]; exact e36) (by rw [q3]; exact e37) p1 p2 h2 (by omega) p3 hw1 hlen (fun s6 e B hm b F6 => ⟨fun v => absurd v (by decide), fun _ => ?_⟩) (fun s6 hm F6 => ⟨fun _ => ?_, fun v => absurd rfl v⟩)
            · have hm : rw_m (arh h.1) l (rw_L (arh h.1) r) p (fun _ => none) = some (e, B) := hm
              have F6' := cfr_tr F F6
              have hve : e = p + en (arh h.1) (l.drop p) 1 := rw_m_en hA p3 (fun x _ hx => (arh_lo (g := h.1) (c := x)).2.2.2.2 hx) hm
              have hle := en_le hA (k := 1) hw1 hlen
              rw [List.length_drop] at hle
              have H6 := cv_H_cfr H0 F6' (fun q a c => by unfold CBn; omega)
              obtain ⟨-, -, Wr6⟩ := H6.2.2.2 i w r hkr
              refine fs_135 hth h3 (by omega) ?_
              refine fs_89 (l := l) (r := r) (rt := rl_r (arh h.1) r) (p := p) (e := e) (B := B) (cv_W_cfr W0 F6' (by unfold CBn; omega) (by unfold CBn; omega)) (fun j a c => ?_) hr5 (by omega) Wr6 h60 (hb i w r hkr) (fun c2 hc2 h40 => (rw_m_B hm).2 c2 (p6 c2 hc2 h40) h40) b (by rw [q3]; exact e37) p2 h2 hp hve (by omega) (fun s8 C F8 => ?_)
              · rw [(F6' 1027 (by unfold CBn; omega)).2.2.2.1]
                exact E0 j a c
              · exact k1 s8 _ ⟨p, i, hp, ⟨w, r, e, B, hkr, his, hm, rfl⟩, hk, hz⟩ C (cfr_tr (FG F6') (cfr_mono F8 (fun q z => by unfold C2 at z; unfold CGO; omega)))
            · refine next (cfr_tr F F6) (fun l' a => ?_)
              obtain ⟨w2, r2, e, B, a1, a2, a3, -⟩ := a
              rw [hkr] at a1
              cases a1
              have hm : rw_m (arh h.1) l (rw_L (arh h.1) r) p (fun _ => none) = none := hm
              rw [hm] at a3
              cases a3
        · refine go2 (fun k' => rw_z_no hA hws (fun c2 hc2 u => ?_) k')
          rw [hc] at hc2
          cases hc2
          have : c < 24 := by
            have hF := H0.1.2.2.2.1
            rcases kS_cases hk1 with z1 | z1 | z1 | z1 | z1 | z1 | z1
            · omega
            · omega
            · omega
            · omega
            · have e : (sg h.1).1.1 = h.1.1.length := rfl
              have := H0.1.2.2.1
              omega
            · have e : (sg h.1).1.2 = h.1.2.length := rfl
              omega
            · omega
          omega
theorem fs_86 {n : Nat} (hth : th = 2 ∨ th = 26) (H0 : cv_H s0 th h) (hw : WFt h) (hb : ∀ (k : Nat) (w r : List Nat), h.2[k]? = some (w, r) → ∀ c, c ∈ r → 40 ≤ c → c < 45) (hwl : ws (sg h.1) l [false]) (W0 : cv_W s0 1022 l) (E0 : shE s0 1026 (arh h.1) l 0) (hR0 : RLc s0 (arh h.1) h.2 h.2.length) (k1 : ∀ s' l', rw_s h l l' → CW s' 1024 l' → cfr CGO s0 s' → R 1 s') (k0 : ∀ s', rw_e h l → cfr CGO s0 s' → R 0 s') : pl_Cl n 86 [.ref 1021, .ref th] s0 (ps_rI R) := by
  cases n with
  | zero => exact pl_At_0
  | succ n =>
  show pl_At (n + 1) 86 0 [(0, .ref 1021), (1, .ref th)] [] s0 (ps_rI R)
  exact pl_86_0 ((fs_86_all hth H0 hw hb hwl W0 E0 hR0 k1 k0 n).1 (p := 0) rfl (Nat.zero_le _) cfr_refl (fun p' hp' => absurd hp' (Nat.not_lt_zero _)))
end R86
/-! sorts are kept -/
/-- a part replaced by a term -/
theorem ws_put {σ : mSig} {ar : Nat → Nat} (hA : ArW σ ar) {m : List Nat} (hm : ws σ m [false]) : ∀ {l : List Nat} {W : List Bool} {p : Nat}, ws σ l W → (∃ c ks, l[p]? = some c ∧ kS σ false c = some ks ∧ ∀ ks2, kS σ true c ≠ some ks2) → ws σ (l.take p ++ m ++ l.drop (p + en ar (l.drop p) 1)) W
  | [], W, p, h, ⟨c, ks, hc, _, _⟩ => by cases hc
  | x :: l, W, 0, h, ⟨c, ks, hc, hk, hn⟩ => by
    cases hc
    obtain ⟨b, W', ks2, rfl, hk2, h2⟩ := ws_cons.mp h
    have hbf : b = false := by
      cases b
      · rfl
      · exact absurd hk2 (hn ks2)
    subst hbf
    rw [List.take_zero, List.nil_append, Nat.zero_add, List.drop_zero]
    obtain ⟨g1, -⟩ := en_rest hA (k := 1) h (by rw [List.length_cons]; omega)
    exact ws_app hm g1
  | x :: l, W, p + 1, h, ⟨c, ks, hc, hk, hn⟩ => by
    obtain ⟨b, W', ks2, rfl, hk2, h2⟩ := ws_cons.mp h
    rw [List.getElem?_cons_succ] at hc
    have ih := ws_put hA hm (p := p) h2 ⟨c, ks, hc, hk, hn⟩
    rw [List.take_succ_cons, List.drop_succ_cons, show p + 1 + en ar (l.drop p) 1 = (p + en ar (l.drop p) 1) + 1 from by omega, List.drop_succ_cons]
    exact ws_c hk2 ih
theorem rw_r_ws {σ : mSig} (hσ : σ.1.1 ≤ 6 ∧ σ.1.2 ≤ 4) {B : Nat → Option (List Nat)} : ∀ {t : List Nat} {W : List Bool}, ws σ t W → (∀ x, x ∈ t → 40 ≤ x → ∃ U, B (x - 40) = some U ∧ ws σ U [false]) → ws σ (rw_r B t) W
  | [], W, h, _ => h
  | c :: t, W, h, hB => by
    obtain ⟨b, W', ks, rfl, hk, h2⟩ := ws_cons.mp h
    have ih := rw_r_ws hσ h2 (fun x hx => hB x (List.mem_cons_of_mem _ hx))
    by_cases h40 : 40 ≤ c
    · obtain ⟨U, hU, hw⟩ := hB c List.mem_cons_self h40
      rw [rw_r_v h40 hU]
      rcases kS_cases hk with z | z | z | z | z | z | z
      · omega
      · omega
      · omega
      · omega
      · omega
      · omega
      · obtain ⟨rfl, z1, z2, rfl⟩ := z
        exact ws_app hw ih
    · rw [rw_r_c h40]
      exact ws_c hk ih
theorem rw_m_ws {σ : mSig} {ar : Nat → Nat} (hA : ArW σ ar) (hσ : σ.1.1 ≤ 6 ∧ σ.1.2 ≤ 4) {l : List Nat} : ∀ {t : List Nat} {W W2 : List Bool} {p e : Nat} {B B' : Nat → Option (List Nat)}, ws σ t W → ws σ (l.drop p) (W ++ W2) → (∀ k U, B k = some U → ws σ U [false]) → rw_m ar l t p B = some (e, B') → ∀ k U, B' k = some U → ws σ U [false]
  | [], _, _, _, _, _, _, _, _, hB, hm => by
    cases hm
    exact hB
  | c :: t, W, W2, p, e, B, B', h, hl, hB, hm => by
    obtain ⟨b, W', ks, rfl, hk, h2⟩ := ws_cons.mp h
    by_cases h40 : 40 ≤ c
    · have hbk : b = false ∧ ks = [] := by
        rcases kS_cases hk with z | z | z | z | z | z | z
        · omega
        · omega
        · omega
        · omega
        · omega
        · omega
        · exact ⟨z.1, z.2.2.2⟩
      obtain ⟨rfl, rfl⟩ := hbk
      rw [List.nil_append] at h2
      obtain ⟨g1, g2⟩ := en_rest hA (k := 1) hl (by rw [List.length_append, List.length_cons]; omega)
      have g1 : ws σ ((l.drop p).drop (en ar (l.drop p) 1)) (W' ++ W2) := g1
      have g2 : ws σ ((l.drop p).take (en ar (l.drop p) 1)) [false] := g2
      rw [List.drop_drop] at g1
      cases hBk : B (c - 40) with
      | none =>
        rw [rw_m_n h40 hBk] at hm
        refine rw_m_ws hA hσ h2 g1 (fun k U hk2 => ?_) hm
        unfold rw_u at hk2
        split at hk2
        · cases hk2
          exact g2
        · exact hB k U hk2
      | some U =>
        rw [rw_m_s h40 hBk] at hm
        split at hm
        · exact rw_m_ws hA hσ h2 g1 hB hm
        · cases hm
    · rw [rw_m_c h40] at hm
      split at hm
      · next hc =>
        rw [drop_c hc] at hl
        obtain ⟨b2, W3, ks2, e2, hk2, hl2⟩ := ws_cons.mp hl
        have e2 : b :: (W' ++ W2) = b2 :: W3 := e2
        cases e2
        rw [hk] at hk2
        cases hk2
        rw [← List.append_assoc] at hl2
        exact rw_m_ws hA hσ h2 hl2 hB hm
      · cases hm
theorem sg_b {h : tx_H} (hw : WFt h) : (sg h.1).1.1 ≤ 6 ∧ (sg h.1).1.2 ≤ 4 := ⟨hw.1, hw.2.1⟩
/-- a step keeps a TERM a TERM -/
theorem rw_s_ws {h : tx_H} {l l' : List Nat} (hw : WFt h) (hl : ws (sg h.1) l [false]) (hs : rw_s h l l') : ws (sg h.1) l' [false] := by
  have hA := arh_k (g := h.1) hw.1 hw.2.1
  obtain ⟨p, k, hp, ⟨w, r, e, B, a1, a2, a3, rfl⟩, -, -⟩ := hs
  have hr := wf_ws (hw.2.2 k w r a1).1
  obtain ⟨p1, p2, p3, p4, ⟨c, t, eL, c20, c40, ks, hks⟩, p6⟩ := rl_parts hA hr a2
  have he := rw_m_en hA p3 (fun x _ hx => (arh_lo (g := h.1) (c := x)).2.2.2.2 hx) a3
  have he : e = p + en (arh h.1) (l.drop p) 1 := he
  have hc : l[p]? = some c := by
    rw [eL, rw_m_c (by omega)] at a3
    split at a3
    · assumption
    · cases a3
  obtain ⟨W1, hw1⟩ := ws_drop p hl
  rw [drop_c hc] at hw1
  obtain ⟨b1, W1', ks1, rfl, hk1, -⟩ := ws_cons.mp hw1
  have hn : ∀ ks2, kS (sg h.1) true c ≠ some ks2 := fun ks2 z => by
    have hb := sg_b hw
    rcases kS_cases z with z | z | z | z | z | z | z
    · omega
    · omega
    · omega
    · omega
    · omega
    · exact absurd z.1 (by decide)
    · exact absurd z.1 (by decide)
  have hb1 : b1 = false := by
    cases b1
    · rfl
    · exact absurd hk1 (hn ks1)
  subst hb1
  rw [← drop_c hc] at hw1
  have hU := rw_m_ws hA (sg_b hw) (W := [false]) (W2 := W1') p3 hw1 (fun k U z => by cases z) a3
  have hB := (rw_m_B a3).2
  have hm : ws (sg h.1) (rw_r B (r.drop (rl_r (arh h.1) r))) [false] := rw_r_ws (sg_b hw) p4 (fun x hx h40 => by
    obtain ⟨U, z⟩ := hB x (p6 x hx h40) h40
    exact ⟨U, z, hU _ _ z⟩)
  unfold rw_n
  rw [he]
  exact ws_put hA hm hl ⟨c, ks, hc, hks, hn⟩
/-- not too deep -/
def dp (ar : Nat → Nat) (l : List Nat) : Prop := ∀ (i : Nat) (d : Nat × Nat) (x : Nat), (ly ar [(0, 0)] l)[i]? = some d → l[i]? = some x → d.1 ≤ 12 ∧ d.2 + qb x ≤ 5
theorem fs_106 {n r : Nat} {ar : Nat → Nat} {l : List Nat} {s : ps_S} {R : Int32 → ps_S → Prop} (hr : ps_is r 6 = true) (hM : shM s r l (ly ar [(0, 0)] l)) (k1 : ¬ dp ar l → R 1 s) (k0 : dp ar l → R 0 s) : pl_Cl n 106 [.ref r] s (ps_rI R) := by
  cases n with
  | zero => exact pl_At_0
  | succ n =>
  show pl_At (n + 1) 106 0 [(0, .ref r)] [] s (ps_rI R)
  obtain ⟨m0, m1, m2, m3⟩ := hM
  have c12 : (12 : Int32).toInt = 12 := by decide
  have c5 : (5 : Int32).toInt = 5 := by decide
  refine pl_106_0 (pl_nk_i (fun _ => ⟨fun z => ?_, fun z => pl_nk_i (fun _ => ⟨fun z2 => ?_, fun z2 => ?_⟩)⟩))
  · have z := xlt z
    refine k1 (fun y => ?_)
    have q := (m2 12).mpr (fun d hd => ?_)
    · omega
    · obtain ⟨i, hi⟩ := List.mem_iff_getElem?.mp hd
      have hil := (List.getElem?_eq_some_iff.mp hi).1
      exact (y i d _ hi (List.getElem?_eq_getElem (by omega))).1
  · have z := xle z
    have z2 := xle z2
    have q1 := (m2 12).mp (by omega)
    have q2 := (m3 5).mp (by omega)
    exact k0 (fun i d x hd hx => ⟨q1 d (List.mem_of_getElem? hd), q2 i d x hd hx⟩)
  · have z2 := xlt z2
    refine k1 (fun y => ?_)
    have q := (m3 5).mpr (fun i d x hd hx => (y i d x hd hx).2)
    omega
def CMN (q : Nat) : Prop := 1022 ≤ q ∧ q < 1038
section R85
variable {th : Nat} {h : tx_H} {l0 : List Nat} {s0 : ps_S} {R : Int32 → ps_S → Prop}
theorem fs_85_87 {v : Int} {m : Nat} {a b : List Nat} (hm : m ≤ 60) (g : rw_go h m l0 a) (hs : rw_s h a b) (hb : ¬ rw_g h b ∨ m = 60) (k : ∀ (v : Int32) s' nl, rw_A h l0 v.toInt nl → cv_W s' 1022 nl → cfr CMN s0 s' → R v s') {n : Nat} {s : ps_S} (F : cfr CMN s0 s) : pl_At n 85 87 [(0, .ref 1021)] [] s (ps_rI R) := by
  cases n with
  | zero => exact pl_At_0
  | succ n =>
  refine pl_85_87 (fs_91 ?_)
  refine k _ _ [] (Or.inr ⟨by decide, rfl, m, a, b, hm, g, hs, hb⟩) CW_0 (cfr_i (cfr_i F (by unfold CMN; omega)) (by unfold CMN; omega))
theorem fs_85_19 (hth : th = 2 ∨ th = 26) (H0 : cv_H s0 th h) (hw : WFt h) (hb : ∀ (k : Nat) (w r : List Nat), h.2[k]? = some (w, r) → ∀ c, c ∈ r → 40 ≤ c → c < 45) (k : ∀ (v : Int32) s' nl, rw_A h l0 v.toInt nl → cv_W s' 1022 nl → cfr CMN s0 s' → R v s') : ∀ (n : Nat) {s : ps_S} {x2 : Int32} {m : Nat} {l : List Nat}, x2.toInt = m → m ≤ 61 → rw_go h m l0 l → ws (sg h.1) l [false] → cv_W s 1022 l → shE s 1026 (arh h.1) l 0 → RLc s (arh h.1) h.2 h.2.length → cfr CMN s0 s → pl_At n 85 19 [(0, .ref 1021), (1, .ref th), (2, .int x2)] [] s (ps_rI R)
  | 0, _, _, _, _, _, _, _, _, _, _, _, _ => pl_At_0
  | n + 1, s, x2, m, l, hx, hm, hg, hl, W, E, hR, F => by
    have c60 : (60 : Int32).toInt = 60 := by decide
    have H := cv_H_cfr H0 F (fun q a c => by have := H0.2.2.1; unfold CMN; omega)
    refine pl_85_19 ⟨fun z => ?_, fun z => ?_⟩
    · have z := xlt z
      have e : m = 60 + 0 + 1 := by omega
      subst e
      obtain ⟨a, x1, x2', x3⟩ := hg
      exact fs_85_87 (v := 0) (Nat.le_refl _) x1 x2' (Or.inr rfl) k F
    · have z := xle z
      refine fs_86 hth H hw hb hl W E hR (fun s1 l' hs C F1 => ⟨fun _ => ?_, fun y => absurd y (by decide)⟩) (fun s1 he F1 => ⟨fun y => absurd rfl y, fun _ => ?_⟩)
      · have F1' : cfr CMN s0 s1 := cfr_tr F (cfr_mono F1 (fun q z => by unfold CGO at z; unfold CMN; omega))
        have hl' := rw_s_ws hw hl hs
        have H1 := cv_H_cfr H0 F1' (fun q a c => by have := H0.2.2.1; unfold CMN; omega)
        have hR1 : RLc s1 (arh h.1) h.2 h.2.length := fun k w2 l2 a c => by
          rw [(F1 1036 (by unfold CGO; omega)).2.2.2.1, (F1 1037 (by unfold CGO; omega)).2.2.2.1]
          exact hR k w2 l2 a c
        rcases Nat.lt_or_ge 40 l'.length with y | y
        · have ho := C.2.2 y
          refine fv_95 rfl (fun s2 F2 => ?_)
          refine fv_103 rfl (fun s3 F3 => ⟨fun _ => ?_, fun u => ?_⟩)
          · exact fs_85_87 (v := 0) (by omega) hg hs (Or.inl (fun u => by have := u.1; omega)) k (cfr_tr F1' (cfr_tr (cfr_mono F2 (fun q z => by unfold C2 at z; unfold CMN; omega)) (cfr_mono F3 (fun q z => by unfold CSh at z; unfold CMN; omega))))
          · have e3 := (F3 1024 (by unfold CSh; omega)).1 2
            have e2 := (F2 1024 (by unfold C2; omega)).1 2
            rw [e3, e2] at u
            exact absurd u ho
        · have W1 := C.2.1 y
          refine fs_95 (l := l') rfl rfl (by decide) W1 (fun s2 W2 F2 => ?_)
          have F2' : cfr CMN s0 s2 := cfr_tr F1' (cfr_mono F2 (fun q z => by unfold C2 at z; unfold CMN; omega))
          have H2 := cv_H_cfr H0 F2' (fun q a c => by have := H0.2.2.1; unfold CMN; omega)
          refine fs_103 (r := 1026) (r1 := 1022) (l := l') rfl rfl hth (by omega) hl' (Or.inl rfl) W2 H2.1 (fun s3 Z F3 => ?_)
          have F3' : cfr CMN s0 s3 := cfr_tr F2' (cfr_mono F3 (fun q z => by unfold CSh at z; unfold CMN; omega))
          have e3 := (F3 1024 (by unfold CSh; omega)).1 2
          have e2 := (F2 1024 (by unfold C2; omega)).1 2
          refine ⟨fun u => absurd (e3.trans (e2.trans W1.2.1)) u, fun _ => ?_⟩
          refine fs_106 rfl Z.2 (fun u => ⟨fun v => absurd v (by decide), fun _ => ?_⟩) (fun u => ⟨fun _ => ?_, fun v => absurd rfl v⟩)
          · exact fs_85_87 (v := 0) (by omega) hg hs (Or.inl (fun v => u v.2)) k F3'
          · exact fs_85_19 hth H0 hw hb k n (xj1 hx (by omega)) (by omega) ⟨l, hg, hs, y, u⟩ hl' (cv_W_cfr W2 F3 (by unfold CSh; omega) (by unfold CSh; omega)) Z.1 (fun k w2 l2 a c => by
              rw [(F3 1036 (by unfold CSh; omega)).2.2.2.1, (F3 1037 (by unfold CSh; omega)).2.2.2.1, (F2 1036 (by unfold C2; omega)).2.2.2.1, (F2 1037 (by unfold C2; omega)).2.2.2.1]
              exact hR1 k w2 l2 a c) F3'
      · exact k _ s1 l (Or.inl ⟨m, by omega, hg, he, hx⟩) (cv_W_cfr W F1 (by unfold CGO; omega) (by unfold CGO; omega)) (cfr_tr F (cfr_mono F1 (fun q z => by unfold CGO at z; unfold CMN; omega)))
theorem fs_85 {n : Nat} (hth : th = 2 ∨ th = 26) (H0 : cv_H s0 th h) (hw : WFt h) (hb : ∀ (k : Nat) (w r : List Nat), h.2[k]? = some (w, r) → ∀ c, c ∈ r → 40 ≤ c → c < 45) (hl : ws (sg h.1) l0 [false]) (W : cv_W s0 1022 l0) (k : ∀ (v : Int32) s' nl, rw_A h l0 v.toInt nl → cv_W s' 1022 nl → cfr CMN s0 s' → R v s') : pl_Cl n 85 [.ref 1021, .ref th] s0 (ps_rI R) := by
  cases n with
  | zero => exact pl_At_0
  | succ n =>
  show pl_At (n + 1) 85 0 [(0, .ref 1021), (1, .ref th)] [] s0 (ps_rI R)
  refine pl_85_0 ?_
  refine fs_83 hth H0 hw (fun s1 hR F1 => ?_)
  have F1' : cfr CMN s0 s1 := cfr_mono F1 (fun q z => by unfold RLq at z; unfold CMN; omega)
  have H1 := cv_H_cfr H0 F1' (fun q a c => by have := H0.2.2.1; unfold CMN; omega)
  have W1 := cv_W_cfr W F1 (by unfold RLq; omega) (by unfold RLq; omega)
  refine fs_103 (r := 1026) (r1 := 1022) (l := l0) rfl rfl hth (by omega) hl (Or.inl rfl) W1 H1.1 (fun s3 Z F3 => ?_)
  exact fs_85_19 hth H0 hw hb k n (m := 0) rfl (Nat.zero_le _) rfl hl (cv_W_cfr W1 F3 (by unfold CSh; omega) (by unfold CSh; omega)) Z.1 (fun k w2 l2 a c => by
    rw [(F3 1036 (by unfold CSh; omega)).2.2.2.1, (F3 1037 (by unfold CSh; omega)).2.2.2.1]
    exact hR k w2 l2 a c) (cfr_tr F1' (cfr_mono F3 (fun q z => by unfold CSh at z; unfold CMN; omega)))
end R85
/-- rewrite()'s answer and the row behind it -/
def RWA (h : tx_H) (T : Nat → Nat) (N : Nat) (v : Int32) (nl : List Nat) : Prop := (∃ l, rd_ok T N (h.1, false) 0 l ∧ rw_A h l v.toInt nl) ∨ ((∃ k pl, rd_bad T N (h.1, false) 0 k pl) ∧ v.toInt = -1 ∧ nl = [])
theorem RWA_eq {h : tx_H} {T : Nat → Nat} {N : Nat} {v v' : Int32} {nl nl' : List Nat} (a : RWA h T N v nl) (b : RWA h T N v' nl') : v = v' ∧ nl = nl' := by
  rcases a with ⟨l, a1, a2⟩ | ⟨⟨k, pl, a1⟩, a2, a3⟩ <;> rcases b with ⟨l', b1, b2⟩ | ⟨⟨k', pl', b1⟩, b2, b3⟩
  · have e := rd_oo a1 b1
    subst e
    obtain ⟨e1, e2⟩ := rw_A_det a2 b2
    exact ⟨Int32.toInt_inj.mp e1, e2⟩
  · exact (rd_ob a1 b1).elim
  · exact (rd_ob b1 a1).elim
  · exact ⟨Int32.toInt_inj.mp (a2.trans b2.symm), a3.trans b3.symm⟩
theorem fs_169 {n : Nat} {s : ps_S} {T : Nat → Nat} {N : Nat} {h : tx_H} {l0 : List Nat} {R : Int32 → ps_S → Prop} (c : TRc s h l0) (hw : WFt h) (hb : ∀ (k : Nat) (w r : List Nat), h.2[k]? = some (w, r) → ∀ c, c ∈ r → 40 ≤ c → c < 45) (hx : (ps_i s 0 1).toInt = N) (hN : N ≤ 1600) (hT : ∀ k, k < N → (ps_a s 1 k &&& 255).toInt = T k) (hkw : ∀ (k : Nat) (w : List Nat), tx_keys[k]? = some w → ps_b s 904 k = tx_x w) (k : ∀ (v : Int32) s' nl, RWA h T N v nl → cv_W s' 1022 nl → cfr (fun q => q = 0 ∨ cWr 1022 q ∨ CMN q) s s' → R v s') : pl_Cl n 169 [.ref 0] s (ps_rI R) := by
  cases n with
  | zero => exact pl_At_0
  | succ n =>
  show pl_At (n + 1) 169 0 [(0, .ref 0)] [] s (ps_rI R)
  have hth : ps_r s 0 2 = 2 ∨ ps_r s 0 2 = 26 := by have := c.2.1; omega
  refine pl_169_0 ?_
  refine fs_60u (th := ps_r s 0 2) (r := 1022) (ph := 0) (gg := h.1) (T := T) (N := N) (Or.inr ⟨by decide, rfl⟩) hth rfl c.1.1 hx hN hT hkw (fun s1 q => ⟨fun _ => ?_, fun z => absurd z (by decide)⟩) (fun s1 q => ⟨fun z => absurd rfl z, fun _ => ?_⟩)
  · obtain ⟨l, q1, q2, -, F⟩ := q
    have F' : cfr (fun q => q = 0 ∨ cWr 1022 q) s (ps_ui s1 0 1 0) := cfr_i (cfr_mono F (fun q z => Or.inr z)) (Or.inl rfl)
    have hr : ps_r (ps_ui s1 0 1 0) 0 2 = ps_r s 0 2 := (F 0 (by unfold cWr; omega)).2.2.1 2
    rw [hr]
    have hl : ws (sg h.1) l [false] := by
      obtain ⟨p, fr, g, -⟩ := q1
      exact (tx_WQ_end hw.2.1 (Or.inl rfl) (Nat.zero_le _) g).1
    refine fs_85 hth (cv_H_cfr c.1 F' (fun q a b => by have := c.1.2.2.1; unfold cWr; omega)) hw hb hl (cv_W_cfr (cv_W_cfr q2 (cfr_i cfr_refl rfl : cfr (fun q => q = 0) s1 (ps_ui s1 0 1 0)) (by decide) (by decide)) cfr_refl (C := fun _ => False) (fun z => z) (fun z => z)) (fun v s' nl hA W F2 => ?_)
    exact k v s' nl (Or.inl ⟨l, q1, hA⟩) W (cfr_tr (cfr_mono F' (fun q z => z.elim Or.inl (fun y => Or.inr (Or.inl y)))) (cfr_mono F2 (fun q z => Or.inr (Or.inr z))))
  · obtain ⟨kk, pl, q1, -, -, F⟩ := q
    cases n with
    | zero => exact pl_At_0
    | succ n =>
    show pl_At (n + 1) 81 0 [(0, .ref 1021)] [] _ _
    refine pl_81_0 (fs_91 ?_)
    refine k _ _ [] (Or.inr ⟨⟨kk, pl, q1⟩, by decide, rfl⟩) CW_0 (cfr_i (cfr_i (cfr_i (cfr_mono F (fun q z => Or.inr (Or.inl z))) (Or.inl rfl)) (Or.inr (Or.inr (by unfold CMN; omega)))) (Or.inr (Or.inr (by unfold CMN; omega))))
theorem fs_170 {n : Nat} {x1 : Int32} {s : ps_S} {l : List Nat} {R : Int32 → ps_S → Prop} (hW : cv_W s 1022 l) (k : ∀ v : Int32, pc_is l x1 v → R v s) : pl_Cl n 170 [.ref 0, .int x1] s (ps_rI R) := by
  cases n with
  | zero => exact pl_At_0
  | succ n =>
  show pl_At (n + 1) 170 0 [(0, .ref 0), (1, .int x1)] [] s (ps_rI R)
  refine pl_170_0 ?_
  refine fs_92 rfl rfl rfl hW (fun v z => ?_)
  refine k v ⟨fun c h0 hc => ?_, fun h => z.2 (by omega)⟩
  have hl := (List.getElem?_eq_some_iff.mp hc).1
  exact z.1 ⟨h0, by omega⟩ c hc
end
section
set_option maxRecDepth 100000
/-! the reference: a row that is made, whether it is one, kept; a term rewritten, again and again -/
-- ProofBenchModel.make(I)V
theorem pl_225_0 {n : Nat} {x1 : Int32} {s : ps_S} {Q : Option Value → ps_S → Prop} (h :
  (260 ≤ (ps_i s 1131 34) →
    Q none (ps_ui s 1131 34 ((ps_i s 1131 34) + 1))) ∧
  ((ps_i s 1131 34) < 260 →
    (pm_in (ps_i s 1131 34) 260 = true →
      Q none (ps_ui (ps_ua s 1149 (Int32.toNatClampNeg (ps_i s 1131 34)) x1) 1131 34 ((ps_i (ps_ua s 1149 (Int32.toNatClampNeg (ps_i s 1131 34)) x1) 1131 34) + 1))))) : pl_At (n + 1) 225 0 [(0, .ref 1131), (1, .int x1)] [] s Q :=
  pl_wp_at (stops := []) (f := 26) h rfl

-- ProofBenchModel.makeFrom(III)V
theorem pl_226_0 {n : Nat} {x1 : Int32} {x2 : Int32} {x3 : Int32} {s : ps_S} {Q : Option Value → ps_S → Prop} (h :
  pl_At n 226 3 [(0, .ref 1131), (1, .int x1), (3, .int x3), (4, .int x2)] [] s Q) : pl_At (n + 1) 226 0 [(0, .ref 1131), (1, .int x1), (2, .int x2), (3, .int x3)] [] s Q :=
  pl_wp_at (stops := [(3, [0, 1, 3, 4])]) (f := 4) h rfl

theorem pl_226_3 {n : Nat} {x1 : Int32} {x3 : Int32} {x4 : Int32} {s : ps_S} {Q : Option Value → ps_S → Prop} (h :
  (x3 ≤ x4 →
    Q none s) ∧
  (x4 < x3 →
    pl_Cl n 220 [.ref 1131, .int x1, .int x4] s (ps_rI (fun v1 s1 =>
      pl_Cl n 225 [.ref 1131, .int v1] s1 (ps_rV (fun s2 =>
        pl_At n 226 3 [(0, .ref 1131), (1, .int x1), (3, .int x3), (4, .int (x4 + 1))] [] s2 Q)))))) : pl_At (n + 1) 226 3 [(0, .ref 1131), (1, .int x1), (3, .int x3), (4, .int x4)] [] s Q :=
  pl_wp_at (stops := [(3, [0, 1, 3, 4])]) (f := 14) h rfl

-- ProofBenchModel.keepMade(I)V
theorem pl_229_0 {n : Nat} {x1 : Int32} {s : ps_S} {Q : Option Value → ps_S → Prop} (h :
  (pm_in x1 27400 = true →
    pl_At n 229 12 [(0, .ref 1131), (1, .int x1), (2, .int 0)] [] (ps_ua s 1134 (Int32.toNatClampNeg x1) (ps_i s 1131 34)) Q)) : pl_At (n + 1) 229 0 [(0, .ref 1131), (1, .int x1)] [] s Q :=
  pl_wp_at (stops := [(12, [0, 1, 2])]) (f := 10) h rfl

theorem pl_229_12 {n : Nat} {x1 : Int32} {x2 : Int32} {s : ps_S} {Q : Option Value → ps_S → Prop} (h :
  ((ps_i s 1131 34) ≤ x2 →
    Q none s) ∧
  (x2 < (ps_i s 1131 34) →
    (pm_in x2 260 = true →
      (pm_in ((x1 + 1) + x2) 27400 = true →
        pl_At n 229 12 [(0, .ref 1131), (1, .int x1), (2, .int (x2 + 1))] [] (ps_ua s 1134 (Int32.toNatClampNeg ((x1 + 1) + x2)) (ps_a s 1149 (Int32.toNatClampNeg x2))) Q)))) : pl_At (n + 1) 229 12 [(0, .ref 1131), (1, .int x1), (2, .int x2)] [] s Q :=
  pl_wp_at (stops := [(12, [0, 1, 2])]) (f := 21) h rfl

-- ProofBenchModel.isRow()Z
theorem pl_228_0 {n : Nat} {s : ps_S} {Q : Option Value → ps_S → Prop} (h :
  ((ps_i s 1131 34) ≤ 40 →
    pl_At n 228 17 [(0, .ref 1131), (1, .int 0), (2, .int 0), (3, .int 0)] [] s Q) ∧
  (40 < (ps_i s 1131 34) →
    Q (some (.int 0)) s)) : pl_At (n + 1) 228 0 [(0, .ref 1131)] [] s Q :=
  pl_wp_at (stops := [(17, [0, 1, 2, 3]), (45, [0, 1, 2, 3]), (70, [0, 1, 2, 3, 4]), (110, [0, 1, 2, 3]), (128, [0, 1, 2, 3]), (148, [0, 1, 2, 3])]) (f := 14) h rfl

theorem pl_228_17 {n : Nat} {x1 : Int32} {x2 : Int32} {x3 : Int32} {s : ps_S} {Q : Option Value → ps_S → Prop} (h :
  ((ps_i s 1131 34) ≤ x3 →
    Q (some (.int 1)) s) ∧
  (x3 < (ps_i s 1131 34) →
    (pm_in x3 260 = true →
      ((ps_a s 1149 (Int32.toNatClampNeg x3)) = 4 →
        pl_At n 228 45 [(0, .ref 1131), (1, .int x1), (2, .int x2), (3, .int x3)] [] s Q) ∧
      ((ps_a s 1149 (Int32.toNatClampNeg x3)) ≠ 4 →
        (pm_in x3 260 = true →
          ((ps_a s 1149 (Int32.toNatClampNeg x3)) ≠ 5 →
            (12 < x1 →
              Q (some (.int 0)) s) ∧
            (x1 ≤ 12 →
              ((0 : Int32) = 0 →
                pl_At n 228 70 [(0, .ref 1131), (1, .int x1), (2, .int x2), (3, .int x3), (4, .int 0)] [] s Q) ∧
              ((0 : Int32) ≠ 0 →
                (x2 ≤ 4 →
                  pl_At n 228 70 [(0, .ref 1131), (1, .int x1), (2, .int x2), (3, .int x3), (4, .int 0)] [] s Q) ∧
                (4 < x2 →
                  Q (some (.int 0)) s)))) ∧
          ((ps_a s 1149 (Int32.toNatClampNeg x3)) = 5 →
            pl_At n 228 45 [(0, .ref 1131), (1, .int x1), (2, .int x2), (3, .int x3)] [] s Q)))))) : pl_At (n + 1) 228 17 [(0, .ref 1131), (1, .int x1), (2, .int x2), (3, .int x3)] [] s Q :=
  pl_wp_at (stops := [(17, [0, 1, 2, 3]), (45, [0, 1, 2, 3]), (70, [0, 1, 2, 3, 4]), (110, [0, 1, 2, 3]), (128, [0, 1, 2, 3]), (148, [0, 1, 2, 3])]) (f := 34) h rfl

theorem pl_228_45 {n : Nat} {x1 : Int32} {x2 : Int32} {x3 : Int32} {s : ps_S} {Q : Option Value → ps_S → Prop} (h :
  (12 < x1 →
    Q (some (.int 0)) s) ∧
  (x1 ≤ 12 →
    ((1 : Int32) = 0 →
      pl_At n 228 70 [(0, .ref 1131), (1, .int x1), (2, .int x2), (3, .int x3), (4, .int 1)] [] s Q) ∧
    ((1 : Int32) ≠ 0 →
      (x2 ≤ 4 →
        pl_At n 228 70 [(0, .ref 1131), (1, .int x1), (2, .int x2), (3, .int x3), (4, .int 1)] [] s Q) ∧
      (4 < x2 →
        Q (some (.int 0)) s)))) : pl_At (n + 1) 228 45 [(0, .ref 1131), (1, .int x1), (2, .int x2), (3, .int x3)] [] s Q :=
  pl_wp_at (stops := [(17, [0, 1, 2, 3]), (45, [0, 1, 2, 3]), (70, [0, 1, 2, 3, 4]), (110, [0, 1, 2, 3]), (128, [0, 1, 2, 3]), (148, [0, 1, 2, 3])]) (f := 17) h rfl

theorem pl_228_70 {n : Nat} {x1 : Int32} {x2 : Int32} {x3 : Int32} {x4 : Int32} {s : ps_S} {Q : Option Value → ps_S → Prop} (h :
  (pm_in x3 260 = true →
    pl_Cl n 218 [.ref 1131, .int (ps_a s 1149 (Int32.toNatClampNeg x3))] s (ps_rI (fun v1 s1 =>
      (pm_in x1 260 = true →
        (pm_in x1 260 = true →
          (x4 = 0 →
            pl_At n 228 110 [(0, .ref 1131), (1, .int (x1 + 1)), (2, .int (x2 + 0)), (3, .int x3)] [] (ps_ua (ps_ua s1 1150 (Int32.toNatClampNeg x1) v1) 1151 (Int32.toNatClampNeg x1) (x4 &&& 1)) Q) ∧
          (x4 ≠ 0 →
            pl_At n 228 110 [(0, .ref 1131), (1, .int (x1 + 1)), (2, .int (x2 + 1)), (3, .int x3)] [] (ps_ua (ps_ua s1 1150 (Int32.toNatClampNeg x1) v1) 1151 (Int32.toNatClampNeg x1) (x4 &&& 1)) Q))))))) : pl_At (n + 1) 228 70 [(0, .ref 1131), (1, .int x1), (2, .int x2), (3, .int x3), (4, .int x4)] [] s Q :=
  pl_wp_at (stops := [(17, [0, 1, 2, 3]), (45, [0, 1, 2, 3]), (70, [0, 1, 2, 3, 4]), (110, [0, 1, 2, 3]), (128, [0, 1, 2, 3]), (148, [0, 1, 2, 3])]) (f := 29) h rfl

theorem pl_228_110 {n : Nat} {x1 : Int32} {x2 : Int32} {x3 : Int32} {s : ps_S} {Q : Option Value → ps_S → Prop} (h :
  (x1 ≤ 0 →
    pl_At n 228 148 [(0, .ref 1131), (1, .int x1), (2, .int x2), (3, .int x3)] [] s Q) ∧
  (0 < x1 →
    (pm_in (x1 - 1) 260 = true →
      ((ps_a s 1150 (Int32.toNatClampNeg (x1 - 1))) ≠ 0 →
        pl_At n 228 148 [(0, .ref 1131), (1, .int x1), (2, .int x2), (3, .int x3)] [] s Q) ∧
      ((ps_a s 1150 (Int32.toNatClampNeg (x1 - 1))) = 0 →
        pl_At n 228 128 [(0, .ref 1131), (1, .int (x1 + (Int32.ofInt (-1)))), (2, .int x2), (3, .int x3)] [] s Q)))) : pl_At (n + 1) 228 110 [(0, .ref 1131), (1, .int x1), (2, .int x2), (3, .int x3)] [] s Q :=
  pl_wp_at (stops := [(17, [0, 1, 2, 3]), (45, [0, 1, 2, 3]), (70, [0, 1, 2, 3, 4]), (110, [0, 1, 2, 3]), (128, [0, 1, 2, 3]), (148, [0, 1, 2, 3])]) (f := 12) h rfl

theorem pl_228_128 {n : Nat} {x1 : Int32} {x2 : Int32} {x3 : Int32} {s : ps_S} {Q : Option Value → ps_S → Prop} (h :
  (pm_in x1 260 = true →
    ((ps_a s 1151 (Int32.toNatClampNeg x1)) = 0 →
      pl_At n 228 110 [(0, .ref 1131), (1, .int x1), (2, .int (x2 - 0)), (3, .int x3)] [] s Q) ∧
    ((ps_a s 1151 (Int32.toNatClampNeg x1)) ≠ 0 →
      pl_At n 228 110 [(0, .ref 1131), (1, .int x1), (2, .int (x2 - 1)), (3, .int x3)] [] s Q))) : pl_At (n + 1) 228 128 [(0, .ref 1131), (1, .int x1), (2, .int x2), (3, .int x3)] [] s Q :=
  pl_wp_at (stops := [(17, [0, 1, 2, 3]), (45, [0, 1, 2, 3]), (70, [0, 1, 2, 3, 4]), (110, [0, 1, 2, 3]), (128, [0, 1, 2, 3]), (148, [0, 1, 2, 3])]) (f := 17) h rfl

theorem pl_228_148 {n : Nat} {x1 : Int32} {x2 : Int32} {x3 : Int32} {s : ps_S} {Q : Option Value → ps_S → Prop} (h :
  (x1 ≤ 0 →
    pl_At n 228 17 [(0, .ref 1131), (1, .int x1), (2, .int x2), (3, .int (x3 + 1))] [] s Q) ∧
  (0 < x1 →
    (pm_in (x1 - 1) 260 = true →
      (pm_in (x1 - 1) 260 = true →
        pl_At n 228 17 [(0, .ref 1131), (1, .int x1), (2, .int x2), (3, .int (x3 + 1))] [] (ps_ua s 1150 (Int32.toNatClampNeg (x1 - 1)) ((ps_a s 1150 (Int32.toNatClampNeg (x1 - 1))) - 1)) Q)))) : pl_At (n + 1) 228 148 [(0, .ref 1131), (1, .int x1), (2, .int x2), (3, .int x3)] [] s Q :=
  pl_wp_at (stops := [(17, [0, 1, 2, 3]), (45, [0, 1, 2, 3]), (70, [0, 1, 2, 3, 4]), (110, [0, 1, 2, 3]), (128, [0, 1, 2, 3]), (148, [0, 1, 2, 3])]) (f := 18) h rfl

-- ProofBenchModel.standsAt(II)Z
theorem pl_286_0 {n : Nat} {x1 : Int32} {x2 : Int32} {s : ps_S} {Q : Option Value → ps_S → Prop} (h :
  pl_Cl n 283 [.int (ps_i s 1131 21), .int x1] s (ps_rI (fun v1 s1 =>
    pl_At n 286 12 [(0, .ref 1131), (2, .int x2), (3, .int v1), (4, .int 0)] [] s1 Q))) : pl_At (n + 1) 286 0 [(0, .ref 1131), (1, .int x1), (2, .int x2)] [] s Q :=
  pl_wp_at (stops := [(12, [0, 2, 3, 4]), (42, [0, 3, 4, 5])]) (f := 9) h rfl

theorem pl_286_12 {n : Nat} {x2 : Int32} {x3 : Int32} {x4 : Int32} {s : ps_S} {Q : Option Value → ps_S → Prop} (h :
  (20 ≤ x4 →
    pl_At n 286 42 [(0, .ref 1131), (3, .int x3), (4, .int x2), (5, .int (ps_i s 1131 63))] [] s Q) ∧
  (x4 < 20 →
    (pm_in x4 20 = true →
      pl_At n 286 12 [(0, .ref 1131), (2, .int x2), (3, .int x3), (4, .int (x4 + 1))] [] (ps_ua s 1167 (Int32.toNatClampNeg x4) (-1)) Q))) : pl_At (n + 1) 286 12 [(0, .ref 1131), (2, .int x2), (3, .int x3), (4, .int x4)] [] s Q :=
  pl_wp_at (stops := [(12, [0, 2, 3, 4]), (42, [0, 3, 4, 5])]) (f := 17) h rfl

theorem pl_286_42 {n : Nat} {x3 : Int32} {x4 : Int32} {x5 : Int32} {s : ps_S} {Q : Option Value → ps_S → Prop} (h :
  ((ps_i s 1131 64) ≤ x5 →
    Q (some (.int 1)) (ps_ui s 1131 65 x4)) ∧
  (x5 < (ps_i s 1131 64) →
    pl_Cl n 220 [.ref 1131, .int x3, .int x5] s (ps_rI (fun v1 s1 =>
      (40 ≤ v1 →
        pl_Cl n 221 [.ref 1131, .int 25789, .int x4] s1 (ps_rI (fun v2 s2 =>
          (pm_in (v1 - 40) 20 = true →
            ((ps_a s2 1167 (Int32.toNatClampNeg (v1 - 40))) < 0 →
              (pm_in (v1 - 40) 20 = true →
                (pm_in (v1 - 40) 20 = true →
                  pl_At n 286 42 [(0, .ref 1131), (3, .int x3), (4, .int v2), (5, .int (x5 + 1))] [] (ps_ua (ps_ua s2 1167 (Int32.toNatClampNeg (v1 - 40)) x4) 1168 (Int32.toNatClampNeg (v1 - 40)) v2) Q))) ∧
            (0 ≤ (ps_a s2 1167 (Int32.toNatClampNeg (v1 - 40))) →
              (pm_in (v1 - 40) 20 = true →
                (pm_in (v1 - 40) 20 = true →
                  (((ps_a s2 1168 (Int32.toNatClampNeg (v1 - 40))) - (ps_a s2 1167 (Int32.toNatClampNeg (v1 - 40)))) ≠ (v2 - x4) →
                    Q (some (.int 0)) s2) ∧
                  (((ps_a s2 1168 (Int32.toNatClampNeg (v1 - 40))) - (ps_a s2 1167 (Int32.toNatClampNeg (v1 - 40)))) = (v2 - x4) →
                    (pm_in (v1 - 40) 20 = true →
                      pl_Cl n 259 [.ref 1131, .int 25789, .int x4, .int (v2 - x4), .int 25789, .int (ps_a s2 1167 (Int32.toNatClampNeg (v1 - 40)))] s2 (ps_rI (fun v3 s3 =>
                        (v3 ≠ 0 →
                          (pm_in (v1 - 40) 20 = true →
                            (pm_in (v1 - 40) 20 = true →
                              pl_At n 286 42 [(0, .ref 1131), (3, .int x3), (4, .int v2), (5, .int (x5 + 1))] [] (ps_ua (ps_ua s3 1167 (Int32.toNatClampNeg (v1 - 40)) x4) 1168 (Int32.toNatClampNeg (v1 - 40)) v2) Q))) ∧
                        (v3 = 0 →
                          Q (some (.int 0)) s3)))))))))))) ∧
      (v1 < 40 →
        pl_Cl n 220 [.ref 1131, .int 25789, .int x4] s1 (ps_rI (fun v4 s4 =>
          (v4 = v1 →
            pl_At n 286 42 [(0, .ref 1131), (3, .int x3), (4, .int (x4 + 1)), (5, .int (x5 + 1))] [] s4 Q) ∧
          (v4 ≠ v1 →
            Q (some (.int 0)) s4)))))))) : pl_At (n + 1) 286 42 [(0, .ref 1131), (3, .int x3), (4, .int x4), (5, .int x5)] [] s Q :=
  pl_wp_at (stops := [(12, [0, 2, 3, 4]), (42, [0, 3, 4, 5])]) (f := 103) h rfl

-- ProofBenchModel.rewrites()Z
theorem pl_287_0 {n : Nat} {s : ps_S} {Q : Option Value → ps_S → Prop} (h :
  pl_At n 287 2 [(0, .ref 1131), (1, .int 0)] [] s Q) : pl_At (n + 1) 287 0 [(0, .ref 1131)] [] s Q :=
  pl_wp_at (stops := [(2, [0, 1]), (15, [0, 1, 2]), (77, [0, 3, 4])]) (f := 4) h rfl

theorem pl_287_2 {n : Nat} {x1 : Int32} {s : ps_S} {Q : Option Value → ps_S → Prop} (h :
  pl_Cl n 219 [.ref 1131, .int 25789] s (ps_rI (fun v1 s1 =>
    (v1 ≤ x1 →
      Q (some (.int 0)) s1) ∧
    (x1 < v1 →
      pl_At n 287 15 [(0, .ref 1131), (1, .int x1), (2, .int 0)] [] s1 Q)))) : pl_At (n + 1) 287 2 [(0, .ref 1131), (1, .int x1)] [] s Q :=
  pl_wp_at (stops := [(2, [0, 1]), (15, [0, 1, 2]), (77, [0, 3, 4])]) (f := 11) h rfl

theorem pl_287_15 {n : Nat} {x1 : Int32} {x2 : Int32} {s : ps_S} {Q : Option Value → ps_S → Prop} (h :
  (pm_in (ps_i s 1131 21) 2 = true →
    ((ps_a s 1137 (Int32.toNatClampNeg (ps_i s 1131 21))) ≤ x2 →
      pl_At n 287 2 [(0, .ref 1131), (1, .int (x1 + 1))] [] s Q) ∧
    (x2 < (ps_a s 1137 (Int32.toNatClampNeg (ps_i s 1131 21))) →
      pl_Cl n 284 [.ref 1131, .int x2] s (ps_rI (fun v1 s1 =>
        (v1 = 0 →
          pl_At n 287 15 [(0, .ref 1131), (1, .int x1), (2, .int (x2 + 1))] [] s1 Q) ∧
        (v1 ≠ 0 →
          pl_Cl n 286 [.ref 1131, .int x2, .int x1] s1 (ps_rI (fun v2 s2 =>
            (v2 ≠ 0 →
              pl_Cl n 283 [.int (ps_i s2 1131 21), .int x2] s2 (ps_rI (fun v3 s3 =>
                pl_Cl n 226 [.ref 1131, .int 25789, .int 0, .int x1] (ps_ui s3 1131 34 0) (ps_rV (fun s4 =>
                  pl_At n 287 77 [(0, .ref 1131), (3, .int v3), (4, .int (ps_i s4 1131 64))] [] s4 Q))))) ∧
            (v2 = 0 →
              pl_At n 287 15 [(0, .ref 1131), (1, .int x1), (2, .int (x2 + 1))] [] s2 Q))))))))) : pl_At (n + 1) 287 15 [(0, .ref 1131), (1, .int x1), (2, .int x2)] [] s Q :=
  pl_wp_at (stops := [(2, [0, 1]), (15, [0, 1, 2]), (77, [0, 3, 4])]) (f := 41) h rfl

theorem pl_287_77 {n : Nat} {x3 : Int32} {x4 : Int32} {s : ps_S} {Q : Option Value → ps_S → Prop} (h :
  pl_Cl n 219 [.ref 1131, .int x3] s (ps_rI (fun v1 s1 =>
    (v1 ≤ x4 →
      pl_Cl n 219 [.ref 1131, .int 25789] s1 (ps_rI (fun v2 s2 =>
        pl_Cl n 226 [.ref 1131, .int 25789, .int (ps_i s1 1131 65), .int v2] s2 (ps_rV (fun s3 =>
          Q (some (.int 1)) s3))))) ∧
    (x4 < v1 →
      pl_Cl n 220 [.ref 1131, .int x3, .int x4] s1 (ps_rI (fun v4 s4 =>
        (40 ≤ v4 →
          (pm_in (v4 - 40) 20 = true →
            (pm_in (v4 - 40) 20 = true →
              pl_Cl n 226 [.ref 1131, .int 25789, .int (ps_a s4 1167 (Int32.toNatClampNeg (v4 - 40))), .int (ps_a s4 1168 (Int32.toNatClampNeg (v4 - 40)))] s4 (ps_rV (fun s5 =>
                pl_At n 287 77 [(0, .ref 1131), (3, .int x3), (4, .int (x4 + 1))] [] s5 Q))))) ∧
        (v4 < 40 →
          pl_Cl n 225 [.ref 1131, .int v4] s4 (ps_rV (fun s6 =>
            pl_At n 287 77 [(0, .ref 1131), (3, .int x3), (4, .int (x4 + 1))] [] s6 Q))))))))) : pl_At (n + 1) 287 77 [(0, .ref 1131), (3, .int x3), (4, .int x4)] [] s Q :=
  pl_wp_at (stops := [(2, [0, 1]), (15, [0, 1, 2]), (77, [0, 3, 4])]) (f := 48) h rfl

-- ProofBenchModel.rewrite()I
theorem pl_288_0 {n : Nat} {s : ps_S} {Q : Option Value → ps_S → Prop} (h :
  pl_Cl n 198 [.ref 1131] s (ps_rV (fun s1 =>
    pl_Cl n 209 [.ref 1131, .int 25789, .int 0, .int 0] s1 (ps_rV (fun s2 =>
      pl_Cl n 192 [.ref 1131] s2 (ps_rI (fun v3 s3 =>
        (v3 = 0 →
          pl_At n 288 31 [(0, .ref 1131)] [] s3 Q) ∧
        (v3 ≠ 0 →
          ((ps_i s3 1131 9) = 0 →
            pl_At n 288 31 [(0, .ref 1131)] [] s3 Q) ∧
          ((ps_i s3 1131 9) ≠ 0 →
            pl_Cl n 196 [.ref 1131] s3 (ps_rV (fun s4 =>
              pl_At n 288 31 [(0, .ref 1131)] [] s4 Q))))))))))) : pl_At (n + 1) 288 0 [(0, .ref 1131)] [] s Q :=
  pl_wp_at (stops := [(31, [0]), (51, [0, 1])]) (f := 17) h rfl

theorem pl_288_31 {n : Nat} {s : ps_S} {Q : Option Value → ps_S → Prop} (h :
  pl_Cl n 192 [.ref 1131] s (ps_rI (fun v1 s1 =>
    (v1 ≠ 0 →
      pl_At n 288 51 [(0, .ref 1131), (1, .int 0)] [] s1 Q) ∧
    (v1 = 0 →
      (pm_in (25789 : Int32) 27400 = true →
        Q (some (.int (-1))) (ps_ua s1 1134 (Int32.toNatClampNeg (25789 : Int32)) 0)))))) : pl_At (n + 1) 288 31 [(0, .ref 1131)] [] s Q :=
  pl_wp_at (stops := [(31, [0]), (51, [0, 1])]) (f := 14) h rfl

theorem pl_288_51 {n : Nat} {x1 : Int32} {s : ps_S} {Q : Option Value → ps_S → Prop} (h :
  pl_Cl n 287 [.ref 1131] s (ps_rI (fun v1 s1 =>
    (v1 = 0 →
      Q (some (.int x1)) s1) ∧
    (v1 ≠ 0 →
      (x1 = 60 →
        (pm_in (25789 : Int32) 27400 = true →
          Q (some (.int (-2))) (ps_ua s1 1134 (Int32.toNatClampNeg (25789 : Int32)) 0))) ∧
      (x1 ≠ 60 →
        pl_Cl n 228 [.ref 1131] s1 (ps_rI (fun v2 s2 =>
          (v2 ≠ 0 →
            pl_Cl n 229 [.ref 1131, .int 25789] s2 (ps_rV (fun s3 =>
              pl_At n 288 51 [(0, .ref 1131), (1, .int (x1 + 1))] [] s3 Q))) ∧
          (v2 = 0 →
            (pm_in (25789 : Int32) 27400 = true →
              Q (some (.int (-2))) (ps_ua s2 1134 (Int32.toNatClampNeg (25789 : Int32)) 0)))))))))) : pl_At (n + 1) 288 51 [(0, .ref 1131), (1, .int x1)] [] s Q :=
  pl_wp_at (stops := [(31, [0]), (51, [0, 1])]) (f := 32) h rfl

-- ProofBenchModel.normal(I)I
theorem pl_289_0 {n : Nat} {x1 : Int32} {s : ps_S} {Q : Option Value → ps_S → Prop} (h :
  pl_Cl n 264 [.ref 1131, .int 25789, .int x1] s (ps_rI (fun v1 s1 =>
    Q (some (.int v1)) s1))) : pl_At (n + 1) 289 0 [(0, .ref 1131), (1, .int x1)] [] s Q :=
  pl_wp_at (stops := []) (f := 7) h rfl

/-- the row that is being made -/
def mk_M (s : ps_S) (L : List Nat) : Prop := (ps_i s 1131 34).toInt = L.length ∧ ∀ (k c : Nat), k < 260 → L[k]? = some c → (ps_a s 1149 k).toInt = c
theorem mk_M_kq {A F : List Nat} {s s' : ps_S} {L : List Nat} (h : mk_M s L) (K : kq A F s s') (hA : A.contains 1149 = false) (hF : F.contains 34 = false) : mk_M s' L := ⟨by rw [kq_i K 34 hF]; exact h.1, fun k c a b => by rw [kq_a K 1149 hA]; exact h.2 k c a b⟩
theorem mk_M_0 {s : ps_S} : mk_M (ps_ui s 1131 34 0) [] := ⟨by rw [ps_i_ui, if_pos ⟨rfl, rfl⟩]; rfl, fun k c _ hc => by cases hc⟩
theorem fm_225 {n c : Nat} {L : List Nat} {x1 : Int32} {s : ps_S} {R : ps_S → Prop} (M : mk_M s L) (hx : x1.toInt = c) (hl : L.length < 100000) (k : ∀ s', mk_M s' (L ++ [c]) → kq [1149] [34] s s' → R s') : pl_Cl n 225 [.ref 1131, .int x1] s (ps_rV R) := by
  cases n with
  | zero => exact pl_At_0
  | succ n =>
  show pl_At (n + 1) 225 0 [(0, .ref 1131), (1, .int x1)] [] s (ps_rV R)
  have c260 : (260 : Int32).toInt = 260 := by decide
  have hlen : (L ++ [c]).length = L.length + 1 := List.length_append
  have m1 := M.1
  refine pl_225_0 ⟨fun z => ?_, fun z => ?_⟩
  · have z := xle z
    refine k _ ⟨?_, fun q d hq hd => ?_⟩ (kqi kq_refl rfl)
    · rw [hlen, ps_i_ui, if_pos ⟨rfl, rfl⟩]
      exact xj1 M.1 (by omega)
    · show (ps_a s 1149 q).toInt = d
      refine M.2 q d hq ?_
      rw [List.getElem?_append_left (by omega)] at hd
      exact hd
  · have z := xlt z
    intro b
    rw [xtn M.1]
    refine k _ ⟨?_, fun q d hq hd => ?_⟩ (kqi (kqa kq_refl rfl) rfl)
    · rw [hlen, ps_i_ui, if_pos ⟨rfl, rfl⟩]
      exact xj1 M.1 (by omega)
    · show (ps_a (ps_ua s 1149 L.length x1) 1149 q).toInt = d
      rw [ps_a_ua]
      rcases Nat.lt_or_ge q L.length with y | y
      · rw [if_neg (by omega)]
        rw [List.getElem?_append_left y] at hd
        exact M.2 q d hq hd
      · have := (List.getElem?_eq_some_iff.mp hd).1
        have e : q = L.length := by omega
        rw [if_pos ⟨rfl, e⟩]
        rw [e, List.getElem?_append_right (Nat.le_refl _), Nat.sub_self] at hd
        cases hd
        exact hx
theorem fm_226_3 {to a b : Nat} {l L : List Nat} {x1 x3 : Int32} {s0 : ps_S} {R : ps_S → Prop} (h1 : x1.toInt = to) (ht : to < 27400) (W0 : mv_W s0 to l) (h3 : x3.toInt = b) (hb : b ≤ l.length) (hL : L.length < 50000) (k : ∀ s', mk_M s' (L ++ (l.drop a).take (b - a)) → kq [1149] [34] s0 s' → R s') : ∀ (n : Nat) {s : ps_S} {x4 : Int32} {i : Nat}, x4.toInt = i → a ≤ i → (i ≤ b ∨ i = a) → mk_M s (L ++ (l.drop a).take (i - a)) → kq [1149] [34] s0 s → pl_At n 226 3 [(0, .ref 1131), (1, .int x1), (3, .int x3), (4, .int x4)] [] s (ps_rV R)
  | 0, _, _, _, _, _, _, _, _ => pl_At_0
  | n + 1, s, x4, i, h4, hi, hib, M, K => by
    have h40 := W0.2.1
    refine pl_226_3 ⟨fun z => ?_, fun z => ?_⟩
    · have z := xle z
      have e : (l.drop a).take (b - a) = (l.drop a).take (i - a) := by
        rcases hib with y | y
        · rw [show i = b from by omega]
        · rw [show b - a = 0 from by omega, show i - a = 0 from by omega]
      exact k s (by rw [e]; exact M) K
    · have z := xlt z
      obtain ⟨c, hc⟩ : ∃ c, l[i]? = some c := ⟨_, List.getElem?_eq_getElem (by omega)⟩
      have W := mv_W_kq W0 K (by decide)
      have hlen : (L ++ (l.drop a).take (i - a)).length < 100000 := by
        rw [List.length_append, List.length_take, List.length_drop]
        omega
      refine fm_220c h1 ht W h4 hc (fun v q => ?_)
      refine fm_225 M q hlen (fun s2 M2 K2 => ?_)
      refine fm_226_3 h1 ht W0 h3 hb hL k n (xj1 h4 (by omega)) (by omega) (Or.inl (by omega)) ?_ (kqt K K2 (by decide) (by decide))
      have e : (l.drop a).take (i + 1 - a) = (l.drop a).take (i - a) ++ [c] := by
        rw [show i + 1 - a = (i - a) + 1 from by omega, List.take_succ, List.getElem?_drop, show a + (i - a) = i from by omega, hc]
        rfl
      rw [e, ← List.append_assoc]
      exact M2
theorem fm_226 {n to a b : Nat} {l L : List Nat} {x1 x2 x3 : Int32} {s : ps_S} {R : ps_S → Prop} (h1 : x1.toInt = to) (ht : to < 27400) (W : mv_W s to l) (M : mk_M s L) (h2 : x2.toInt = a) (h3 : x3.toInt = b) (hb : b ≤ l.length) (hL : L.length < 50000) (k : ∀ s', mk_M s' (L ++ (l.drop a).take (b - a)) → kq [1149] [34] s s' → R s') : pl_Cl n 226 [.ref 1131, .int x1, .int x2, .int x3] s (ps_rV R) := by
  cases n with
  | zero => exact pl_At_0
  | succ n =>
  show pl_At (n + 1) 226 0 [(0, .ref 1131), (1, .int x1), (2, .int x2), (3, .int x3)] [] s (ps_rV R)
  refine pl_226_0 (fm_226_3 h1 ht W h3 hb hL k n h2 (Nat.le_refl _) (Or.inr rfl) ?_ kq_refl)
  rw [Nat.sub_self, List.take_zero, List.append_nil]
  exact M
/-- the row made is kept -/
theorem fm_229_12 {to : Nat} {L : List Nat} {x1 : Int32} {s0 : ps_S} {R : ps_S → Prop} (M0 : mk_M s0 L) (h40 : L.length ≤ 40) (h1 : x1.toInt = to) (ht : to + 41 ≤ 27400) (k : ∀ s', mv_W s' to L → kq [1134] [] s0 s' → mv_po to s0 s' → R s') : ∀ (n : Nat) {s : ps_S} {x2 : Int32} {i : Nat}, x2.toInt = i → i ≤ L.length → (ps_a s 1134 to).toInt = L.length → (∀ j c, j < i → L[j]? = some c → (ps_a s 1134 (to + 1 + j)).toInt = c) → kq [1134] [] s0 s → mv_po to s0 s → pl_At n 229 12 [(0, .ref 1131), (1, .int x1), (2, .int x2)] [] s (ps_rV R)
  | 0, _, _, _, _, _, _, _, _, _ => pl_At_0
  | n + 1, s, x2, i, h2, hi, hsz, hj, K, P => by
    have M := mk_M_kq M0 K (by decide) (by decide)
    have m1 := M.1
    refine pl_229_12 ⟨fun z => ?_, fun z => ?_⟩
    · have z := xle z
      exact k s ⟨hsz, h40, fun j c hc => hj j c (by have := (List.getElem?_eq_some_iff.mp hc).1; omega) hc⟩ K P
    · have z := xlt z
      obtain ⟨c, hc⟩ : ∃ c, L[i]? = some c := ⟨_, List.getElem?_eq_getElem (by omega)⟩
      have e1 : (x1 + 1).toInt = (to + 1 : Nat) := xj1 h1 (by omega)
      have e2 : (x1 + 1 + x2).toInt = (to + 1 + i : Nat) := by
        rw [xIa (by omega) (by omega), e1, h2]
        omega
      intro b1 b2
      rw [xtn e2, xtn h2]
      refine fm_229_12 M0 h40 h1 ht k n (xj1 h2 (by omega)) (by omega) ?_ (fun j c2 hj2 hc2 => ?_) (kqa K rfl) (fun q hq => ?_)
      · rw [ps_a_ua, if_neg (by omega)]
        exact hsz
      · rw [ps_a_ua]
        by_cases e : j = i
        · subst e
          rw [if_pos ⟨rfl, rfl⟩]
          exact M.2 j c2 (by omega) hc2
        · rw [if_neg (by omega)]
          exact hj j c2 (by omega) hc2
      · rw [ps_a_ua, if_neg (by omega)]
        exact P q hq
theorem fm_229 {n to : Nat} {L : List Nat} {x1 : Int32} {s : ps_S} {R : ps_S → Prop} (M : mk_M s L) (h40 : L.length ≤ 40) (h1 : x1.toInt = to) (ht : to + 41 ≤ 27400) (k : ∀ s', mv_W s' to L → kq [1134] [] s s' → mv_po to s s' → R s') : pl_Cl n 229 [.ref 1131, .int x1] s (ps_rV R) := by
  cases n with
  | zero => exact pl_At_0
  | succ n =>
  show pl_At (n + 1) 229 0 [(0, .ref 1131), (1, .int x1)] [] s (ps_rV R)
  refine pl_229_0 ?_
  intro b
  rw [xtn h1]
  refine fm_229_12 M h40 h1 ht k n (i := 0) rfl (Nat.zero_le _) ?_ (fun j c hj => absurd hj (Nat.not_lt_zero _)) (kqa kq_refl rfl) (fun q hq => ?_)
  · rw [ps_a_ua, if_pos ⟨rfl, rfl⟩]
    exact M.1
  · rw [ps_a_ua, if_neg (by omega)]
/-! isRow: the stack of parts that are still to come -/
def bnF : List (Nat × Bool) → Nat
  | [] => 0
  | (_, b) :: F => (if b = true then 1 else 0) + bnF F
def fSF : List (Nat × Bool) → List (Nat × Nat)
  | [] => []
  | (k, b) :: F => List.replicate k (F.length + 1, (if b = true then 1 else 0) + bnF F) ++ fSF F
def skR (s : ps_S) : List (Nat × Bool) → Prop
  | [] => True
  | (k, b) :: F => ((ps_a s 1150 F.length).toInt = k ∧ (b = true → ps_a s 1151 F.length ≠ 0) ∧ (b = false → ps_a s 1151 F.length = 0)) ∧ skR s F
theorem skR_ext {s s' : ps_S} : ∀ {F : List (Nat × Bool)}, skR s F → (∀ i, i < F.length → ps_a s' 1150 i = ps_a s 1150 i ∧ ps_a s' 1151 i = ps_a s 1151 i) → skR s' F
  | [], _, _ => trivial
  | (k, b) :: F, h, e => by
    have e0 := e F.length (by rw [List.length_cons]; omega)
    refine ⟨?_, skR_ext h.2 (fun i hi => e i (by rw [List.length_cons]; omega))⟩
    rw [e0.1, e0.2]
    exact h.1
theorem bnF_le : ∀ {F : List (Nat × Bool)}, bnF F ≤ F.length
  | [] => Nat.le_refl _
  | (k, b) :: F => by
    have := bnF_le (F := F)
    show (if b = true then 1 else 0) + bnF F ≤ F.length + 1
    cases b
    · rw [if_neg (by decide)]; omega
    · rw [if_pos rfl]; omega
def KL (s0 s : ps_S) : Prop := kq [1150, 1151] [] s0 s
theorem of_m1 : (Int32.ofInt (-1)).toInt = -1 := by decide
theorem fm_228_110 {n0 : Nat} {P : List (Nat × Nat)} {x3 : Int32} {s0 : ps_S} {R : Int32 → ps_S → Prop} (kk : ∀ {s : ps_S} {x1 x2 : Int32} {F : List (Nat × Bool)}, x1.toInt = F.length → F.length ≤ 13 → x2.toInt = bnF F → bnF F ≤ 5 → skR s F → (F = [] ∨ ∃ k b G, F = (k + 1, b) :: G) → fSF F = P → KL s0 s → pl_At n0 228 148 [(0, .ref 1131), (1, .int x1), (2, .int x2), (3, .int x3)] [] s (ps_rI R)) : ∀ (n : Nat) {s : ps_S} {x1 x2 : Int32} {F : List (Nat × Bool)}, n ≤ n0 → x1.toInt = F.length → F.length ≤ 13 → x2.toInt = bnF F → bnF F ≤ 5 → skR s F → fSF F = P → KL s0 s → pl_At n 228 110 [(0, .ref 1131), (1, .int x1), (2, .int x2), (3, .int x3)] [] s (ps_rI R)
  | 0, _, _, _, _, _, _, _, _, _, _, _, _ => pl_At_0
  | n + 1, s, x1, x2, F, hn, h1, hF, h2, hb5, hS, hP, K => by
    have c0 : (0 : Int32).toInt = 0 := Int32.toInt_zero
    have c1 : (1 : Int32).toInt = 1 := by decide
    refine pl_228_110 ⟨fun z => ?_, fun z => ?_⟩
    · have z := xle z
      have e : F = [] := by
        cases F with
        | nil => rfl
        | cons a G => rw [List.length_cons] at h1; omega
      exact (kk h1 hF h2 hb5 hS (Or.inl e) hP K).le (by omega)
    · have z := xlt z
      cases F with
      | nil =>
        rw [List.length_nil] at h1
        omega
      | cons a G =>
        obtain ⟨k, b⟩ := a
        rw [List.length_cons] at h1 hF
        have e1 : (x1 - 1).toInt = (G.length : Nat) := by rw [xIs (by omega) (by omega), h1, c1]; omega
        obtain ⟨⟨s1, s2, s3⟩, hS2⟩ := id hS
        intro b1
        rw [xtn e1]
        refine ⟨fun y => ?_, fun y => ?_⟩
        · have y := xne y
          refine (kk (F := (k, b) :: G) (by rw [List.length_cons]; exact h1) (by rw [List.length_cons]; exact hF) h2 hb5 hS (Or.inr ?_) hP K).le (by omega)
          cases k with
          | zero => exact absurd s1 y
          | succ k => exact ⟨k, b, G, rfl⟩
        · have y := xeq y
          have hk : k = 0 := by omega
          subst hk
          cases n with
          | zero => exact pl_At_0
          | succ n =>
          clear e1 b1
          have e2 : (x1 + Int32.ofInt (-1)).toInt = (G.length : Nat) := by
            rw [xof1 (b := G.length + 1) h1 (by omega)]
            omega
          generalize x1 + Int32.ofInt (-1) = x9 at e2 ⊢
          have hP2 : fSF G = P := hP
          have h2 : x2.toInt = ((if b = true then 1 else 0) + bnF G : Nat) := h2
          have hbn := bnF_le (F := G)
          have hb5 : (if b = true then 1 else 0) + bnF G ≤ 5 := hb5
          refine pl_228_128 ?_
          intro b2
          rw [xtn e2]
          refine ⟨fun w => ?_, fun w => ?_⟩
          · have hb : b = false := by
              cases b
              · rfl
              · exact absurd w (s2 rfl)
            rw [hb, if_neg (by decide), Nat.zero_add] at h2
            exact fm_228_110 kk n (F := G) (by omega) e2 (by omega) (by rw [xIs (by rw [Int32.toInt_zero]; omega) (by rw [Int32.toInt_zero]; omega), Int32.toInt_zero, h2]; omega) (by omega) hS2 hP2 K
          · have hb : b = true := by
              cases b
              · exact absurd (s3 rfl) w
              · rfl
            rw [hb, if_pos rfl] at h2
            exact fm_228_110 kk n (F := G) (by omega) e2 (by omega) (by rw [xIs (by omega) (by omega), c1, h2]; omega) (by omega) hS2 hP2 K
section R228
variable {g : tx_g} {L : List Nat} {b : Nat} {s0 : ps_S} {R : Int32 → ps_S → Prop}
theorem fm_228_70 {n0 c j : Nat} {bb : Bool} {ks : List Bool} {F : List (Nat × Bool)} {x1 x2 x3 x4 : Int32} {s : ps_S} {isq : Bool} (hb : b < 2) (h21 : (ps_i s0 1131 21).toInt = b) (H0 : mv_E s0 b g) (M0 : mk_M s0 L) (h40 : L.length ≤ 40) (hc : L[j]? = some c) (hk : kS (sg g) bb c = some ks) (h3 : x3.toInt = j) (h1 : x1.toInt = F.length) (hF : F.length ≤ 12) (h2 : x2.toInt = bnF F) (h4 : x4 = (if isq = true then 1 else 0)) (hq : qb c = (if isq = true then 1 else 0)) (h5 : bnF F + qb c ≤ 5) (hS : skR s F) (K : KL s0 s) (kk : ∀ {s : ps_S} {x1 x2 : Int32} {G : List (Nat × Bool)}, x1.toInt = G.length → G.length ≤ 13 → x2.toInt = bnF G → bnF G ≤ 5 → skR s G → (G = [] ∨ ∃ k b G', G = (k + 1, b) :: G') → fSF G = List.replicate (arh g c) (F.length + 1, bnF F + qb c) ++ fSF F → KL s0 s → pl_At n0 228 148 [(0, .ref 1131), (1, .int x1), (2, .int x2), (3, .int x3)] [] s (ps_rI R)) {n : Nat} (hn : n ≤ n0) : pl_At n 228 70 [(0, .ref 1131), (1, .int x1), (2, .int x2), (3, .int x3), (4, .int x4)] [] s (ps_rI R) := by
  cases n with
  | zero => exact pl_At_0
  | succ n =>
  have hjl := (List.getElem?_eq_some_iff.mp hc).1
  have hbn := bnF_le (F := F)
  have c1 : (1 : Int32).toInt = 1 := by decide
  have h21' : (ps_i s 1131 21).toInt = b := by rw [kq_i K 21 rfl]; exact h21
  have H := mv_E_kq H0 K (by decide)
  refine pl_228_70 ?_
  intro b1
  rw [xtn h3]
  have ec : (ps_a s 1149 j).toInt = c := by
    rw [kq_a K 1149 (by decide)]
    exact M0.2 j c (by omega) hc
  refine fm_218 hb h21' H hk ec (fun v1 q1 => ?_)
  intro b2 b3
  rw [xtn h1]
  have e1 : (x1 + 1).toInt = (F.length + 1 : Nat) := xj1 h1 (by omega)
  have K2 : KL s0 (ps_ua (ps_ua s 1150 F.length v1) 1151 F.length (x4 &&& 1)) := kqa (kqa K rfl) rfl
  have hS2 : skR (ps_ua (ps_ua s 1150 F.length v1) 1151 F.length (x4 &&& 1)) ((arh g c, isq) :: F) := by
    refine ⟨⟨?_, fun z => ?_, fun z => ?_⟩, skR_ext hS (fun i hi => ⟨?_, ?_⟩)⟩
    · rw [ps_a_ua, if_neg (by omega), ps_a_ua, if_pos ⟨rfl, rfl⟩]
      exact q1
    · rw [ps_a_ua, if_pos ⟨rfl, rfl⟩, h4, z, if_pos rfl]
      decide
    · rw [ps_a_ua, if_pos ⟨rfl, rfl⟩, h4, z, if_neg (by decide)]
      decide
    · rw [ps_a_ua, if_neg (by omega), ps_a_ua, if_neg (by omega)]
    · rw [ps_a_ua, if_neg (by omega), ps_a_ua, if_neg (by omega)]
  have hP : fSF ((arh g c, isq) :: F) = List.replicate (arh g c) (F.length + 1, bnF F + qb c) ++ fSF F := by
    show List.replicate (arh g c) (F.length + 1, (if isq = true then 1 else 0) + bnF F) ++ fSF F = _
    rw [hq, Nat.add_comm (bnF F)]
  refine ⟨fun z => ?_, fun z => ?_⟩
  · have hi : isq = false := by
      cases isq
      · rfl
      · rw [z, if_pos rfl] at h4
        exact absurd h4 (by decide)
    subst hi
    exact fm_228_110 kk n (F := (arh g c, false) :: F) (by omega) e1 (by rw [List.length_cons]; omega) (by rw [xIa (by rw [Int32.toInt_zero]; omega) (by rw [Int32.toInt_zero]; omega), Int32.toInt_zero, h2]; show _ = ((0 + bnF F : Nat) : Int); omega) (by show 0 + bnF F ≤ 5; omega) hS2 hP K2
  · have hi : isq = true := by
      cases isq
      · rw [if_neg (by decide)] at h4
        exact absurd h4 z
      · rfl
    subst hi
    exact fm_228_110 kk n (F := (arh g c, true) :: F) (by omega) e1 (by rw [List.length_cons]; omega) (by rw [xj1 h2 (by omega)]; show _ = ((1 + bnF F : Nat) : Int); omega) (by rw [if_pos rfl] at hq; show 1 + bnF F ≤ 5; omega) hS2 hP K2
theorem fm_228_17 (hb : b < 2) (h21 : (ps_i s0 1131 21).toInt = b) (H0 : mv_E s0 b g) (M0 : mk_M s0 L) (h40 : L.length ≤ 40) (hA : ArW (sg g) (arh g)) (k1 : ∀ s', dp (arh g) L → KL s0 s' → R 1 s') (k0 : ∀ s', ¬ dp (arh g) L → KL s0 s' → R 0 s') : ∀ (n : Nat) {s : ps_S} {x1 x2 x3 : Int32} {j : Nat} {F : List (Nat × Bool)} {D P : List (Nat × Nat)} {W : List Bool}, x3.toInt = j → j ≤ L.length → x1.toInt = F.length → F.length ≤ 13 → x2.toInt = bnF F → bnF F ≤ 5 → skR s F → (P = (F.length, bnF F) :: fSF F ∨ P = []) → ws (sg g) (L.drop j) W → P.length = W.length → ly (arh g) [(0, 0)] L = D ++ ly (arh g) P (L.drop j) → D.length = j → (∀ (i : Nat) (d : Nat × Nat) (x : Nat), D[i]? = some d → L[i]? = some x → d.1 ≤ 12 ∧ d.2 + qb x ≤ 5) → KL s0 s → pl_At n 228 17 [(0, .ref 1131), (1, .int x1), (2, .int x2), (3, .int x3)] [] s (ps_rI R)
  | 0, _, _, _, _, _, _, _, _, _, _, _, _, _, _, _, _, _, _, _, _, _, _, _ => pl_At_0
  | n + 1, s, x1, x2, x3, j, F, D, P, W, h3, hj, h1, hF, h2, hbn, hS, hP, hw, hPW, hD, hDj, hd, K => by
    have M := mk_M_kq M0 K (by decide) (by decide)
    have m1 := M.1
    have c0 : (0 : Int32).toInt = 0 := Int32.toInt_zero
    have c12 : (12 : Int32).toInt = 12 := by decide
    have c4 : (4 : Int32).toInt = 4 := by decide
    have c5 : (5 : Int32).toInt = 5 := by decide
    have c1 : (1 : Int32).toInt = 1 := by decide
    refine pl_228_17 ⟨fun z => ?_, fun z => ?_⟩
    · have z := xle z
      have e : j = L.length := by omega
      refine k1 s (fun i d x hx1 hx2 => hd i d x ?_ hx2) K
      rw [e, List.drop_length] at hD
      rw [hD] at hx1
      have hil := (List.getElem?_eq_some_iff.mp hx2).1
      rw [List.getElem?_append_left (by omega)] at hx1
      exact hx1
    · have z := xlt z
      obtain ⟨c, hc⟩ : ∃ c, L[j]? = some c := ⟨_, List.getElem?_eq_getElem (by omega)⟩
      have ec : (ps_a s 1149 j).toInt = c := M.2 j c (by omega) hc
      rw [drop_c hc] at hw hD
      obtain ⟨bb, W', ks, rfl, hk, hw'⟩ := ws_cons.mp hw
      have ha := hA bb c ks hk
      have hPc : P = (F.length, bnF F) :: fSF F := by
        rcases hP with y | y
        · exact y
        · rw [y] at hPW; cases hPW
      subst hPc
      have hly : ly (arh g) ((F.length, bnF F) :: fSF F) (c :: L.drop (j + 1)) = (F.length, bnF F) :: ly (arh g) (List.replicate (arh g c) (F.length + 1, bnF F + qb c) ++ fSF F) (L.drop (j + 1)) := rfl
      rw [hly] at hD
      have hDj2 : (ly (arh g) [(0, 0)] L)[j]? = some (F.length, bnF F) := by
        rw [hD, List.getElem?_append_right (by omega), hDj, Nat.sub_self]
        rfl
      have bad : (¬ (F.length ≤ 12 ∧ bnF F + qb c ≤ 5)) → R 0 s := fun y => k0 s (fun w => y (w j _ c hDj2 hc)) K
      have fin : ∀ {x4 : Int32} {isq : Bool}, x4 = (if isq = true then 1 else 0) → qb c = (if isq = true then 1 else 0) → F.length ≤ 12 → bnF F + qb c ≤ 5 → ∀ {n' : Nat}, n' ≤ n → pl_At n' 228 70 [(0, .ref 1131), (1, .int x1), (2, .int x2), (3, .int x3), (4, .int x4)] [] s (ps_rI R) := fun {x4 isq} h4 hq hF12 hb5 {n'} hn' => by
        refine fm_228_70 (n0 := n) (j := j) (isq := isq) hb h21 H0 M0 h40 hc hk h3 h1 hF12 h2 h4 hq hb5 hS K (fun {s2 y1 y2 G} g1 g2 g3 hGb g4 g5 g6 K2 => ?_) hn'
        cases n with
        | zero => exact pl_At_0
        | succ n =>
        have e3 : (x3 + 1).toInt = (j + 1 : Nat) := xj1 h3 (by omega)
        have hlen : ∀ {P' : List (Nat × Nat)}, P' = List.replicate (arh g c) (F.length + 1, bnF F + qb c) ++ fSF F → P'.length = (ks ++ W').length := fun {P'} e => by
          rw [e, List.length_append, List.length_append, List.length_replicate, ha]
          rw [List.length_cons, List.length_cons] at hPW
          omega
        have hD2 : (D ++ [(F.length, bnF F)]).length = j + 1 := by rw [List.length_append, hDj]; rfl
        have hd2 : ∀ (i : Nat) (d : Nat × Nat) (x : Nat), (D ++ [(F.length, bnF F)])[i]? = some d → L[i]? = some x → d.1 ≤ 12 ∧ d.2 + qb x ≤ 5 := fun i d x hi hx => by
          rcases Nat.lt_or_ge i j with y | y
          · rw [List.getElem?_append_left (by omega)] at hi
            exact hd i d x hi hx
          · have := (List.getElem?_eq_some_iff.mp hi).1
            have ei : i = j := by omega
            rw [ei, List.getElem?_append_right (by omega), hDj, Nat.sub_self] at hi
            cases hi
            rw [ei, hc] at hx
            cases hx
            exact ⟨hF12, hb5⟩
        have hD3 : ∀ {P' : List (Nat × Nat)}, P' = List.replicate (arh g c) (F.length + 1, bnF F + qb c) ++ fSF F → ly (arh g) [(0, 0)] L = (D ++ [(F.length, bnF F)]) ++ ly (arh g) P' (L.drop (j + 1)) := fun {P'} e => by
          rw [e, hD, List.append_assoc]
          rfl
        refine pl_228_148 ⟨fun y => ?_, fun y => ?_⟩
        · have y := xle y
          have eG : G = [] := by
            cases G with
            | nil => rfl
            | cons a G => rw [List.length_cons] at g1; omega
          subst eG
          exact fm_228_17 hb h21 H0 M0 h40 hA k1 k0 n (F := []) (P := []) e3 (by omega) g1 g2 g3 (Nat.zero_le _) trivial (Or.inr rfl) hw' (hlen g6) (hD3 g6) hD2 hd2 K2
        · have y := xlt y
          rcases g5 with rfl | ⟨k, bG, G', rfl⟩
          · rw [g1] at y
            exact absurd y (by decide)
          · have g1' : y1.toInt = (G'.length + 1 : Nat) := g1
            have e1 : (y1 - 1).toInt = (G'.length : Nat) := by rw [xIs (by omega) (by omega), g1', c1]; omega
            obtain ⟨⟨t1, t2, t3⟩, t4⟩ := g4
            intro b1 b2
            rw [xtn e1]
            have hv : (ps_a s2 1150 G'.length - 1).toInt = (k : Nat) := by
              have hk99 := xR (ps_a s2 1150 G'.length)
              rw [xIs (by omega) (by omega), t1, c1]
              omega
            have eP : fSF ((k + 1, bG) :: G') = (G'.length + 1, (if bG = true then 1 else 0) + bnF G') :: fSF ((k, bG) :: G') := by
              show List.replicate (k + 1) _ ++ _ = _ :: (List.replicate k _ ++ _)
              rw [List.replicate_succ]
              rfl
            refine fm_228_17 hb h21 H0 M0 h40 hA k1 k0 n (F := (k, bG) :: G') (P := fSF ((k + 1, bG) :: G')) e3 (by omega) g1 g2 g3 hGb ⟨⟨?_, fun w => ?_, fun w => ?_⟩, skR_ext t4 (fun i hi => ⟨?_, ?_⟩)⟩ (Or.inl eP) hw' (hlen g6) (hD3 g6) hD2 hd2 (kqa K2 rfl)
            · rw [ps_a_ua, if_pos ⟨rfl, rfl⟩]
              exact hv
            · rw [ps_a_ua, if_neg (by omega)]
              exact t2 w
            · rw [ps_a_ua, if_neg (by omega)]
              exact t3 w
            · rw [ps_a_ua, if_neg (by omega)]
            · rw [ps_a_ua, if_neg (by omega)]
      intro b1
      rw [xtn h3]
      have quant : c = 4 ∨ c = 5 → pl_At n 228 45 [(0, .ref 1131), (1, .int x1), (2, .int x2), (3, .int x3)] [] s (ps_rI R) := fun h45 => by
        cases n with
        | zero => exact pl_At_0
        | succ n =>
        have q1 := qb_1 h45
        refine pl_228_45 ⟨fun y => ?_, fun y => ⟨fun w => absurd w (by decide), fun _ => ⟨fun w => ?_, fun w => ?_⟩⟩⟩
        · have y := xlt y
          exact bad (fun w => by omega)
        · have y := xle y
          have w := xle w
          exact fin (isq := true) rfl q1 (by omega) (by omega) (Nat.le_succ _)
        · have w := xlt w
          exact bad (fun v => by omega)
      refine ⟨fun y => ?_, fun y => ?_⟩
      · have y := xeq y
        exact quant (Or.inl (by omega))
      · have y := xne y
        intro b2
        refine ⟨fun y2 => ?_, fun y2 => ?_⟩
        · have y2 := xne y2
          have q0 := qb_0 (c := c) (by omega)
          refine ⟨fun w => ?_, fun w => ⟨fun _ => ?_, fun v => absurd rfl v⟩⟩
          · have w := xlt w
            exact bad (fun v => by omega)
          · have w := xle w
            exact fin (isq := false) rfl q0 (by omega) (by omega) (Nat.le_refl _)
        · have y2 := xeq y2
          exact quant (Or.inr (by omega))
theorem fm_228 {n : Nat} {s : ps_S} {bb : Bool} (hb : b < 2) (h21 : (ps_i s 1131 21).toInt = b) (H : mv_E s b g) (M : mk_M s L) (hw : ws (sg g) L [bb]) (hl : L.length < 100000) (k1 : ∀ s', (L.length ≤ 40 ∧ dp (arh g) L) ∧ KL s s' → R 1 s') (k0 : ∀ s', (¬ (L.length ≤ 40 ∧ dp (arh g) L)) ∧ KL s s' → R 0 s') : pl_Cl n 228 [.ref 1131] s (ps_rI R) := by
  cases n with
  | zero => exact pl_At_0
  | succ n =>
  show pl_At (n + 1) 228 0 [(0, .ref 1131)] [] s (ps_rI R)
  have c40 : (40 : Int32).toInt = 40 := by decide
  have m1 := M.1
  refine pl_228_0 ⟨fun z => ?_, fun z => ?_⟩
  · have z := xle z
    have h40 : L.length ≤ 40 := by omega
    exact fm_228_17 hb h21 H M h40 (arh_k H.2.2.1 H.2.2.2.1) (fun s' a c => k1 s' ⟨⟨h40, a⟩, c⟩) (fun s' a c => k0 s' ⟨fun y => a y.2, c⟩) n (j := 0) (F := []) (D := []) (P := [(0, 0)]) rfl (Nat.zero_le _) rfl (Nat.zero_le _) rfl (Nat.zero_le _) trivial (Or.inl rfl) hw rfl rfl rfl (fun i d x hi => by cases hi) kq_refl
  · have z := xlt z
    exact k0 s ⟨fun y => by omega, kq_refl⟩
end R228
/-- what is bound, by places: the reference's -/
def BNm (s : ps_S) (l : List Nat) (B : Nat → Option (List Nat)) : Prop := ∀ k, k < 20 → (B k = none ∧ (ps_a s 1167 k).toInt = -1) ∨ ∃ a b : Nat, (ps_a s 1167 k).toInt = a ∧ (ps_a s 1168 k).toInt = b ∧ a ≤ b ∧ b ≤ l.length ∧ B k = some ((l.drop a).take (b - a))
theorem BNm_put {s : ps_S} {l T : List Nat} {B : Nat → Option (List Nat)} {k p e : Nat} {x v : Int32} (b : BNm s l B) (hx : x.toInt = p) (hv : v.toInt = e) (hpe : p ≤ e) (he : e ≤ l.length) (hT : T = (l.drop p).take (e - p)) : BNm (ps_ua (ps_ua s 1167 k x) 1168 k v) l (rw_u B k T) := fun j hj => by
  unfold rw_u
  by_cases ej : j = k
  · right
    refine ⟨p, e, ?_, ?_, hpe, he, ?_⟩
    · rw [ps_a_ua, if_neg (by omega), ps_a_ua, if_pos ⟨rfl, ej⟩]
      exact hx
    · rw [ps_a_ua, if_pos ⟨rfl, ej⟩]
      exact hv
    · rw [if_pos ej, hT]
  · rw [if_neg ej, ps_a_ua, if_neg (by omega), ps_a_ua, if_neg (by omega), ps_a_ua, if_neg (by omega), ps_a_ua, if_neg (by omega)]
    exact b j hj
theorem rw_u_id {B : Nat → Option (List Nat)} {k : Nat} {U : List Nat} (h : B k = some U) : rw_u B k U = B := by
  funext q
  unfold rw_u
  by_cases e : q = k
  · rw [if_pos e, e, h]
  · rw [if_neg e]
def KBm (s0 s : ps_S) : Prop := kq [1167, 1168] [65] s0 s
section R286
variable {b : Nat} {h : tx_H} {l r : List Nat} {i : Nat} {s0 : ps_S} {R : Int32 → ps_S → Prop} {x3 : Int32} {lf rt : Nat}
theorem fm_286_42 (hb : b < 2) (h21 : (ps_i s0 1131 21).toInt = b) (H0 : mv_E s0 b h.1) (hi8 : i < 8) (W0 : mv_W s0 25789 l) (Wr0 : mv_W s0 (21812 + 41 * (8 * b + i)) r) (h3 : x3.toInt = (21812 + 41 * (8 * b + i) : Nat)) (hv : ∀ c, c ∈ r → c < 60) (h64 : (ps_i s0 1131 64).toInt = rt) (hrt : rt ≤ r.length) {M : Option (Nat × (Nat → Option (List Nat)))} (k1 : ∀ s' e B, M = some (e, B) → BNm s' l B → (ps_i s' 1131 65).toInt = (e : Nat) → KBm s0 s' → R 1 s') (k0 : ∀ s', M = none → KBm s0 s' → R 0 s') : ∀ (n : Nat) {s : ps_S} {x4 x5 : Int32} {p j : Nat} {B : Nat → Option (List Nat)} {W W1 : List Bool}, x4.toInt = p → x5.toInt = j → j ≤ rt → BNm s l B → KBm s0 s → ws (sg h.1) ((r.drop j).take (rt - j)) W → ws (sg h.1) (l.drop p) W1 → W.length ≤ W1.length → p ≤ l.length → M = rw_m (arh h.1) l ((r.drop j).take (rt - j)) p B → pl_At n 286 42 [(0, .ref 1131), (3, .int x3), (4, .int x4), (5, .int x5)] [] s (ps_rI R)
  | 0, _, _, _, _, _, _, _, _, _, _, _, _, _, _, _, _, _, _ => pl_At_0
  | n + 1, s, x4, x5, p, j, B, W, W1, h4, h5, hj, bn, K, hw, hw1, hle, hpl, hM => by
    have hA := arh_k H0.2.2.1 H0.2.2.2.1
    have hl40 := W0.2.1
    have hr40 := Wr0.2.1
    have c0 : (0 : Int32).toInt = 0 := Int32.toInt_zero
    have c40 : (40 : Int32).toInt = 40 := by decide
    have Wl := mv_W_kq W0 K (by decide)
    have Wr := mv_W_kq Wr0 K (by decide)
    have H := mv_E_kq H0 K (by decide)
    have h21' : (ps_i s 1131 21).toInt = b := by rw [kq_i K 21 rfl]; exact h21
    have e64 : (ps_i s 1131 64).toInt = rt := by rw [kq_i K 64 rfl]; exact h64
    refine pl_286_42 ⟨fun z => ?_, fun z => ?_⟩
    · have z := xle z
      rw [show rt - j = 0 from by omega, List.take_zero] at hM
      refine k1 _ p B hM bn ?_ (kqi K rfl)
      rw [ps_i_ui, if_pos ⟨rfl, rfl⟩]
      exact h4
    · have z := xlt z
      obtain ⟨c, hc⟩ : ∃ c, r[j]? = some c := ⟨_, List.getElem?_eq_getElem (by omega)⟩
      have c60 := hv c (List.mem_of_getElem? hc)
      rw [dt_c hc (by omega)] at hw hM
      obtain ⟨bb, W', ks, rfl, hk, hw'⟩ := ws_cons.mp hw
      have ha := hA bb c ks hk
      have hpos : 1 ≤ W1.length := by rw [List.length_cons] at hle; omega
      have hlt : p < l.length := by
        have := en_lt hA hw1 (show 0 < W1.length by omega)
        rw [List.length_drop] at this
        omega
      refine fm_220c h3 (by omega) Wr h5 hc (fun v1 q1 => ⟨fun y => ?_, fun y => ?_⟩)
      · have y := xle y
        have h40 : 40 ≤ c := by omega
        have hks : ks = [] := by
          have := (arh_lo (g := h.1) (c := c)).2.2.2.2 h40
          exact List.eq_nil_of_length_eq_zero (by omega)
        rw [hks, List.nil_append] at hw'
        have hen := en_le hA hw1 (k := 1) hpos
        rw [List.length_drop] at hen
        have hrest := (en_rest hA hw1 (k := 1) hpos).1
        rw [List.drop_drop] at hrest
        have hcons : ∃ b0 Wi, W1 = b0 :: Wi := by
          cases W1 with
          | nil => exact absurd hpos (by decide)
          | cons b0 Wi => exact ⟨b0, Wi, rfl⟩
        obtain ⟨b0, Wi, hW1⟩ := hcons
        have ek : (v1 - 40).toInt = (c - 40 : Nat) := by rw [xIs (by omega) (by omega), q1, c40]; omega
        have hk20 : c - 40 < 20 := by omega
        refine fm_221 hb h21' H (to := 25789) (i := p) (l := l) (by decide) (by decide) Wl h4 (by rw [← hW1]; exact hw1) (fun v2 q2 => ?_)
        have go : ∀ {B2 : Nat → Option (List Nat)}, rw_u B (c - 40) ((l.drop p).take (en (arh h.1) (l.drop p) 1)) = B2 → M = rw_m (arh h.1) l ((r.drop (j + 1)).take (rt - (j + 1))) (p + en (arh h.1) (l.drop p) 1) B2 → pl_At n 286 42 [(0, .ref 1131), (3, .int x3), (4, .int v2), (5, .int (x5 + 1))] [] (ps_ua (ps_ua s 1167 (c - 40) x4) 1168 (c - 40) v2) (ps_rI R) := fun {B2} eB hM2 => by
          refine fm_286_42 hb h21 H0 hi8 W0 Wr0 h3 hv h64 hrt k1 k0 n q2 (xj1 h5 (by omega)) (by omega) ?_ (kqa (kqa K rfl) rfl) hw' hrest (by rw [List.length_drop]; rw [List.length_cons] at hle; omega) (by omega) hM2
          rw [← eB]
          exact BNm_put bn h4 q2 (by omega) (by omega) (by rw [Nat.add_sub_cancel_left])
        intro b1
        rw [xtn ek]
        rcases bn (c - 40) hk20 with ⟨t1, t2⟩ | ⟨a, e, t1, t2, t3, t4, t5⟩
        · refine ⟨fun w => ?_, fun w => ?_⟩
          · intro b2 b3
            exact go rfl (by rw [hM, rw_m_n h40 t1])
          · have w := xle w
            omega
        · refine ⟨fun w => ?_, fun w => ?_⟩
          · have w := xlt w
            omega
          · intro b2 b3
            have d2 : (v2 - x4).toInt = (en (arh h.1) (l.drop p) 1 : Nat) := by rw [xIs (by omega) (by omega), q2, h4]; omega
            have d1 : ((ps_a s 1168 (c - 40)) - (ps_a s 1167 (c - 40))).toInt = (e - a : Nat) := by rw [xIs (by omega) (by omega), t1, t2]; omega
            have l1 : ((l.drop a).take (e - a)).length = e - a := by rw [List.length_take, List.length_drop]; omega
            have l2 : ((l.drop p).take (en (arh h.1) (l.drop p) 1)).length = en (arh h.1) (l.drop p) 1 := by rw [List.length_take, List.length_drop]; omega
            refine ⟨fun u => ?_, fun u => ?_⟩
            · have u := xne u
              refine k0 s ?_ K
              rw [hM, rw_m_s h40 t5, if_neg (fun v => by rw [v] at l1; omega)]
            · have u := xeq u
              have ez : en (arh h.1) (l.drop p) 1 = e - a := by omega
              intro b4
              refine fm_259 (ta := 25789) (tb := 25789) (f := p) (m := en (arh h.1) (l.drop p) 1) (p := a) (la := l) (lb := l) (by decide) (by decide) Wl (by decide) (by decide) Wl h4 d2 t1 (by omega) (by omega) (fun u2 => ⟨fun _ => ?_, fun w2 => absurd w2 (by decide)⟩) (fun u2 => ⟨fun w2 => absurd rfl w2, fun _ => ?_⟩)
              · intro b5 b6
                have eU : (l.drop a).take (e - a) = (l.drop p).take (en (arh h.1) (l.drop p) 1) := by rw [u2, ez]
                refine go (B2 := B) ?_ (by rw [hM, rw_m_s h40 t5, if_pos eU])
                rw [← eU]
                exact rw_u_id t5
              · refine k0 s ?_ K
                rw [hM, rw_m_s h40 t5, if_neg (fun v => u2 (by rw [← v, ez]))]
      · have y := xlt y
        have h40 : ¬ 40 ≤ c := by omega
        obtain ⟨c2, hc2⟩ : ∃ c2, l[p]? = some c2 := ⟨_, List.getElem?_eq_getElem hlt⟩
        refine fm_220c (to := 25789) (by decide) (by decide) Wl h4 hc2 (fun v4 q4 => ⟨fun w => ?_, fun w => ?_⟩)
        · have w := xeq w
          have e2 : c2 = c := by omega
          subst e2
          rw [drop_c hc2] at hw1
          obtain ⟨bb2, W1', ks2, rfl, hk2, hw1'⟩ := ws_cons.mp hw1
          have ha2 := hA bb2 c2 ks2 hk2
          refine fm_286_42 hb h21 H0 hi8 W0 Wr0 h3 hv h64 hrt k1 k0 n (xj1 h4 (by omega)) (xj1 h5 (by omega)) (by omega) bn K hw' hw1' ?_ (by omega) (by rw [hM, rw_m_c h40, if_pos hc2])
          rw [List.length_append, List.length_append]
          rw [List.length_cons, List.length_cons] at hle
          omega
        · have w := xne w
          refine k0 s ?_ K
          rw [hM, rw_m_c h40, if_neg (fun v => by rw [hc2] at v; cases v; exact w (by rw [q1, q4]))]
theorem fm_286_12 {x2 : Int32} (k : ∀ n s', BNm s' l (fun _ => none) → KBm s0 s' → pl_At n 286 42 [(0, .ref 1131), (3, .int x3), (4, .int x2), (5, .int (ps_i s0 1131 63))] [] s' (ps_rI R)) : ∀ (n : Nat) {s : ps_S} {x4 : Int32} {j : Nat}, x4.toInt = j → j ≤ 20 → (∀ q, q < j → (ps_a s 1167 q).toInt = -1) → KBm s0 s → pl_At n 286 12 [(0, .ref 1131), (2, .int x2), (3, .int x3), (4, .int x4)] [] s (ps_rI R)
  | 0, _, _, _, _, _, _, _ => pl_At_0
  | n + 1, s, x4, j, h4, hj, hq, K => by
    have c20 : (20 : Int32).toInt = 20 := by decide
    refine pl_286_12 ⟨fun z => ?_, fun z => ?_⟩
    · have z := xle z
      rw [show ps_i s 1131 63 = ps_i s0 1131 63 from kq_i K 63 rfl]
      exact k n s (fun q hq20 => Or.inl ⟨rfl, hq q (by omega)⟩) K
    · have z := xlt z
      intro b1
      rw [xtn h4]
      refine fm_286_12 k n (xj1 h4 (by omega)) (by omega) (fun q hq2 => ?_) (kqa K rfl)
      rw [ps_a_ua]
      by_cases e : q = j
      · rw [if_pos ⟨rfl, e⟩]
        decide
      · rw [if_neg (fun w => e w.2)]
        exact hq q (by omega)
theorem fm_286 {n : Nat} {x1 x2 : Int32} {p : Nat} {W W1 : List Bool} (hb : b < 2) (h21 : (ps_i s0 1131 21).toInt = b) (H0 : mv_E s0 b h.1) (hi8 : i < 8) (W0 : mv_W s0 25789 l) (Wr0 : mv_W s0 (21812 + 41 * (8 * b + i)) r) (h1 : x1.toInt = i) (h2 : x2.toInt = p) (hv : ∀ c, c ∈ r → c < 60) (h63 : (ps_i s0 1131 63).toInt = lf) (h64 : (ps_i s0 1131 64).toInt = rt) (hlr : lf ≤ rt) (hrt : rt ≤ r.length) (hp : p ≤ l.length) (hw : ws (sg h.1) ((r.drop lf).take (rt - lf)) W) (hw1 : ws (sg h.1) (l.drop p) W1) (hle : W.length ≤ W1.length) (k1 : ∀ s', (∃ e B, rw_m (arh h.1) l ((r.drop lf).take (rt - lf)) p (fun _ => none) = some (e, B) ∧ BNm s' l B ∧ (ps_i s' 1131 65).toInt = (e : Nat) ∧ KBm s0 s') → R 1 s') (k0 : ∀ s', (rw_m (arh h.1) l ((r.drop lf).take (rt - lf)) p (fun _ => none) = none ∧ KBm s0 s') → R 0 s') : pl_Cl n 286 [.ref 1131, .int x1, .int x2] s0 (ps_rI R) := by
  cases n with
  | zero => exact pl_At_0
  | succ n =>
  show pl_At (n + 1) 286 0 [(0, .ref 1131), (1, .int x1), (2, .int x2)] [] s0 (ps_rI R)
  refine pl_286_0 ?_
  refine fm_283 h21 hb h1 hi8 (fun v1 q1 => ?_)
  exact fm_286_12 (l := l) (s0 := s0) (fun n s1 bn K => fm_286_42 hb h21 H0 hi8 W0 Wr0 q1 hv h64 hrt (fun s' e B a c d f => k1 s' ⟨e, B, a, c, d, f⟩) (fun s' a c => k0 s' ⟨a, c⟩) n h2 h63 hlr bn K hw hw1 hle hp rfl) n (j := 0) rfl (Nat.zero_le _) (fun q hq => absurd hq (Nat.not_lt_zero _)) kq_refl
end R286
def KR (s0 s : ps_S) : Prop := kq [1149, 1167, 1168] [34, 63, 64, 65] s0 s
section R287
variable {b : Nat} {h : tx_H} {l : List Nat} {s0 : ps_S} {R : Int32 → ps_S → Prop}
theorem fm_287_77 {r : List Nat} {i p e rt : Nat} {B : Nat → Option (List Nat)} {x3 : Int32} (hb : b < 2) (hi8 : i < 8) (W0 : mv_W s0 25789 l) (Wr0 : mv_W s0 (21812 + 41 * (8 * b + i)) r) (h3 : x3.toInt = (21812 + 41 * (8 * b + i) : Nat)) (hv : ∀ c, c ∈ r → c < 60) (hB : ∀ c, c ∈ r.drop rt → 40 ≤ c → ∃ U, B (c - 40) = some U) (h65 : (ps_i s0 1131 65).toInt = e) (b0 : BNm s0 l B) (hel : e ≤ l.length) (k : ∀ s', mk_M s' (l.take p ++ rw_r B (r.drop rt) ++ l.drop e) → kq [1149] [34] s0 s' → R 1 s') : ∀ (n : Nat) {s : ps_S} {x4 : Int32} {j : Nat} {L : List Nat}, x4.toInt = j → rt ≤ j → j ≤ r.length → mk_M s (l.take p ++ L) → L.length ≤ 40 * j → rw_r B (r.drop rt) = L ++ rw_r B (r.drop j) → kq [1149] [34] s0 s → pl_At n 287 77 [(0, .ref 1131), (3, .int x3), (4, .int x4)] [] s (ps_rI R)
  | 0, _, _, _, _, _, _, _, _, _, _, _ => pl_At_0
  | n + 1, s, x4, j, L, h4, hj, hjr, M, hL40, hL, K => by
    have hl40 := W0.2.1
    have hr40 := Wr0.2.1
    have c40 : (40 : Int32).toInt = 40 := by decide
    have Wl := mv_W_kq W0 K (by decide)
    have Wr := mv_W_kq Wr0 K (by decide)
    have hlen : (l.take p ++ L).length < 50000 := by
      rw [List.length_append, List.length_take]
      omega
    refine pl_287_77 ?_
    refine fm_219c h3 Wr (fun v1 q1 => ⟨fun z => ?_, fun z => ?_⟩)
    · have z := xle z
      have ej : j = r.length := by omega
      rw [ej, List.drop_length] at hL
      have hL : rw_r B (r.drop rt) = L := by rw [hL]; exact List.append_nil _
      refine fm_219c (to := 25789) (by decide) Wl (fun v2 q2 => ?_)
      have e65 : (ps_i s 1131 65).toInt = e := by rw [kq_i K 65 rfl]; exact h65
      refine fm_226 (to := 25789) (a := e) (b := l.length) (by decide) (by decide) Wl M e65 q2 (Nat.le_refl _) hlen (fun s3 M3 K3 => k s3 ?_ (kqt K K3 (by decide) (by decide)))
      rw [hL]
      have ee : (l.drop e).take (l.length - e) = l.drop e := List.take_of_length_le (by rw [List.length_drop]; omega)
      rw [ee] at M3
      exact M3
    · have z := xlt z
      obtain ⟨c, hc⟩ : ∃ c, r[j]? = some c := ⟨_, List.getElem?_eq_getElem (by omega)⟩
      have hcm := List.mem_of_getElem? hc
      have hcd : c ∈ r.drop rt := List.mem_iff_getElem?.mpr ⟨j - rt, by rw [List.getElem?_drop, show rt + (j - rt) = j from by omega]; exact hc⟩
      have c60 := hv c hcm
      rw [drop_c hc] at hL
      refine fm_220c h3 (by omega) Wr h4 hc (fun v4 q4 => ⟨fun y => ?_, fun y => ?_⟩)
      · have y := xle y
        have h40 : 40 ≤ c := by omega
        have ex : (v4 - 40).toInt = (c - 40 : Nat) := by rw [xIs (by omega) (by omega), q4, c40]; omega
        obtain ⟨U, hU⟩ := hB c hcd h40
        rw [rw_r_v h40 hU] at hL
        intro b1 b2
        rw [xtn ex]
        rcases b0 (c - 40) (by omega) with ⟨y1, -⟩ | ⟨a, bb, y1, y2, y3, y4, y5⟩
        · rw [hU] at y1; cases y1
        · rw [hU] at y5
          have eU := Option.some.inj y5
          refine fm_226 (to := 25789) (a := a) (b := bb) (by decide) (by decide) Wl M (by rw [kq_a K 1167 (by decide)]; exact y1) (by rw [kq_a K 1168 (by decide)]; exact y2) y4 hlen (fun s2 M2 K2 => ?_)
          rw [← eU, List.append_assoc] at M2
          have hUl : U.length ≤ 40 := by
            rw [eU, List.length_take, List.length_drop]
            omega
          exact fm_287_77 hb hi8 W0 Wr0 h3 hv hB h65 b0 hel k n (L := L ++ U) (xj1 h4 (by omega)) (by omega) (by omega) M2 (by rw [List.length_append]; omega) (by rw [hL, List.append_assoc]) (kqt K K2 (by decide) (by decide))
      · have y := xlt y
        have h40 : ¬ 40 ≤ c := by omega
        rw [rw_r_c h40] at hL
        refine fm_225 M q4 (by omega) (fun s2 M2 K2 => ?_)
        rw [List.append_assoc] at M2
        exact fm_287_77 hb hi8 W0 Wr0 h3 hv hB h65 b0 hel k n (L := L ++ [c]) (xj1 h4 (by omega)) (by omega) (by omega) M2 (by rw [List.length_append, List.length_singleton]; omega) (by rw [hL, List.append_assoc]; rfl) (kqt K K2 (by decide) (by decide))
theorem fm_287_all (hb : b < 2) (h21 : (ps_i s0 1131 21).toInt = b) (H0 : mv_H s0 b h) (hw : WFt h) (hwl : ws (sg h.1) l [false]) (W0 : mv_W s0 25789 l) (k1 : ∀ s' l', rw_s h l l' → mk_M s' l' → KR s0 s' → R 1 s') (k0 : ∀ s', rw_e h l → KR s0 s' → R 0 s') : ∀ n : Nat, (∀ {s : ps_S} {x1 : Int32} {p : Nat}, x1.toInt = p → p ≤ l.length → KR s0 s → (∀ p', p' < p → ∀ k', rw_z h l p' k') → pl_At n 287 2 [(0, .ref 1131), (1, .int x1)] [] s (ps_rI R)) ∧ (∀ {s : ps_S} {x1 x2 : Int32} {p i : Nat}, x1.toInt = p → p < l.length → x2.toInt = i → i ≤ h.2.length → KR s0 s → (∀ p', p' < p → ∀ k', rw_z h l p' k') → (∀ k', k' < i → rw_z h l p k') → pl_At n 287 15 [(0, .ref 1131), (1, .int x1), (2, .int x2)] [] s (ps_rI R)) := by
  have hA := arh_k H0.1.2.2.1 H0.1.2.2.2.1
  have hl40 := W0.2.1
  intro n
  induction n with
  | zero => exact ⟨fun _ _ _ _ => pl_At_0, fun _ _ _ _ _ _ _ => pl_At_0⟩
  | succ n ih =>
    obtain ⟨i2, i15⟩ := ih
    refine ⟨fun {s x1 p} h1 hp K hz => ?_, fun {s x1 x2 p i} h1 hp h2 hi K hz hk => ?_⟩
    · have W := mv_W_kq W0 K (by decide)
      refine pl_287_2 ?_
      refine fm_219c (to := 25789) (by decide) W (fun v1 q1 => ⟨fun z => ?_, fun z => ?_⟩)
      · have z := xle z
        exact k0 s (fun p' hp' k' => hz p' (by omega) k') K
      · have z := xlt z
        exact i15 h1 (by omega) rfl (Nat.zero_le _) K hz (fun k' hk' => absurd hk' (Nat.not_lt_zero _))
    · have W := mv_W_kq W0 K (by decide)
      have h8 := H0.2.2.1
      have H := mv_H_kq H0 K (by decide)
      have h21' : (ps_i s 1131 21).toInt = b := by rw [kq_i K 21 rfl]; exact h21
      refine pl_287_15 ?_
      rw [xtn h21']
      intro b1
      refine ⟨fun z => ?_, fun z => ?_⟩
      · have z := xle z
        rw [H.2.1] at z
        refine i2 (xj1 h1 (by omega)) (by omega) K (fun p' hp' k' => ?_)
        rcases Nat.lt_or_ge p' p with u | u
        · exact hz p' u k'
        · rw [show p' = p from by omega]
          rcases Nat.lt_or_ge k' i with u2 | u2
          · exact hk k' u2
          · rintro l' ⟨w, r, e, B, a1, -⟩
            have := (List.getElem?_eq_some_iff.mp a1).1
            omega
      · have z := xlt z
        rw [H.2.1] at z
        obtain ⟨⟨w, r⟩, hkr⟩ : ∃ q, h.2[i]? = some q := ⟨_, List.getElem?_eq_getElem (by omega)⟩
        obtain ⟨hf, hr40, h60⟩ := hw.2.2 i w r hkr
        obtain ⟨y1, y2, Wr⟩ := H.2.2.2 i w r hkr
        obtain ⟨W1, hw1⟩ := ws_drop p hwl
        have hne : ∃ b0 Wi, W1 = b0 :: Wi := by
          cases W1 with
          | nil =>
            have := ws_nil hw1
            have hl := congrArg List.length this
            rw [List.length_drop, List.length_nil] at hl
            omega
          | cons b0 Wi => exact ⟨b0, Wi, rfl⟩
        obtain ⟨b0, Wi, rfl⟩ := hne
        have hlen : 1 ≤ (b0 :: Wi).length := by rw [List.length_cons]; omega
        have next : ∀ {s' : ps_S}, KR s0 s' → rw_z h l p i → pl_At n 287 15 [(0, .ref 1131), (1, .int x1), (2, .int (x2 + 1))] [] s' (ps_rI R) := fun K' y => i15 h1 hp (xj1 h2 (by omega)) (by omega) K' hz (fun k' hk' => by
          rcases Nat.lt_or_ge k' i with u | u
          · exact hk k' u
          · rw [show k' = i from by omega]
            exact y)
        refine fm_284 hb h21' H hw hkr h2 (fun s1 q => ⟨fun y => absurd y (by decide), fun _ => ?_⟩) (fun s1 q => ⟨fun _ => ?_, fun y => absurd rfl y⟩)
        · obtain ⟨his, e63, e64, K1⟩ := q
          obtain ⟨p1, p2, p3, p4, -, p6⟩ := rl_parts hA (wf_ws hf) his
          have K1' : KR s0 s1 := kqt K K1 (by decide) (by decide)
          have W1' := mv_W_kq W0 K1' (by decide)
          have H1 := mv_H_kq H0 K1' (by decide)
          have h211 : (ps_i s1 1131 21).toInt = b := by rw [kq_i K1' 21 rfl]; exact h21
          refine fm_286 (i := i) (p := p) (l := l) (r := r) (h := h) (W := [false]) (lf := rl_l r) (rt := rl_r (arh h.1) r) hb h211 H1.1 (by omega) W1' (H1.2.2.2 i w r hkr).2.2 h2 h1 h60 e63 e64 p1 p2 (by omega) p3 hw1 hlen (fun s2 q2 => ⟨fun _ => ?_, fun y => absurd y (by decide)⟩) (fun s2 q2 => ⟨fun y => absurd rfl y, fun _ => ?_⟩)
          · obtain ⟨e, B, hm, bn, e65, K2⟩ := q2
            have hm : rw_m (arh h.1) l (rw_L (arh h.1) r) p (fun _ => none) = some (e, B) := hm
            have K2' : KR s0 s2 := kqt K1' K2 (by decide) (by decide)
            have W2 := mv_W_kq W0 K2' (by decide)
            have H2 := mv_H_kq H0 K2' (by decide)
            have h212 : (ps_i s2 1131 21).toInt = b := by rw [kq_i K2' 21 rfl]; exact h21
            have hve : e = p + en (arh h.1) (l.drop p) 1 := rw_m_en hA p3 (fun x _ hx => (arh_lo (g := h.1) (c := x)).2.2.2.2 hx) hm
            have hle := en_le hA (k := 1) hw1 hlen
            rw [List.length_drop] at hle
            refine fm_283 h212 hb h2 (by omega) (fun v3 q3 => ?_)
            have K3 : KR s0 (ps_ui s2 1131 34 0) := kqi K2' rfl
            have e64' : (ps_i s2 1131 64).toInt = (rl_r (arh h.1) r : Nat) := by rw [kq_i K2 64 rfl]; exact e64
            refine fm_226 (to := 25789) (a := 0) (b := p) (L := []) (by decide) (by decide) (mv_W_kq W0 K3 (by decide)) mk_M_0 rfl h1 (by omega) (by decide) (fun s4 M4 K4 => ?_)
            rw [List.drop_zero, Nat.sub_zero, List.nil_append] at M4
            have K4' : KR s0 s4 := kqt K3 K4 (by decide) (by decide)
            have hr8 : (ps_i s4 1131 64).toInt = (rl_r (arh h.1) r : Nat) := by rw [kq_i K4 64 rfl]; exact e64'
            refine fm_287_77 (r := r) (i := i) (p := p) (e := e) (rt := rl_r (arh h.1) r) (B := B) (s0 := s4) hb (by omega) (mv_W_kq W0 K4' (by decide)) (mv_H_kq H0 K4' (by decide) |>.2.2.2 i w r hkr).2.2 q3 h60 (fun c2 hc2 h40 => (rw_m_B hm).2 c2 (p6 c2 hc2 h40) h40) (by rw [kq_i K4 65 rfl]; exact e65) (fun k2 hk2 => ?_) (by omega) (fun s5 M5 K5 => ?_) n (L := []) hr8 (Nat.le_refl _) p2 (by rw [List.append_nil]; exact M4) (Nat.zero_le _) rfl kq_refl
            · rw [kq_a K4 1167 (by decide), kq_a K4 1168 (by decide)]
              exact bn k2 hk2
            · exact k1 s5 _ ⟨p, i, hp, ⟨w, r, e, B, hkr, his, hm, rfl⟩, hk, hz⟩ M5 (kqt K4' K5 (by decide) (by decide))
          · obtain ⟨hm, K2⟩ := q2
            have hm : rw_m (arh h.1) l (rw_L (arh h.1) r) p (fun _ => none) = none := hm
            refine next (kqt K1' K2 (by decide) (by decide)) (fun l' a => ?_)
            obtain ⟨w2, r2, e, B, a1, a2, a3, -⟩ := a
            rw [hkr] at a1
            cases a1
            rw [hm] at a3
            cases a3
        · refine next (kqt K q.2 (by decide) (by decide)) (fun l' a => ?_)
          obtain ⟨w2, r2, e, B, a1, a2, -⟩ := a
          rw [hkr] at a1
          cases a1
          exact q.1 a2
theorem fm_287 {n : Nat} (hb : b < 2) (h21 : (ps_i s0 1131 21).toInt = b) (H0 : mv_H s0 b h) (hw : WFt h) (hwl : ws (sg h.1) l [false]) (W0 : mv_W s0 25789 l) (k1 : ∀ s', (∃ l', rw_s h l l' ∧ mk_M s' l' ∧ KR s0 s') → R 1 s') (k0 : ∀ s', (rw_e h l ∧ KR s0 s') → R 0 s') : pl_Cl n 287 [.ref 1131] s0 (ps_rI R) := by
  cases n with
  | zero => exact pl_At_0
  | succ n =>
  show pl_At (n + 1) 287 0 [(0, .ref 1131)] [] s0 (ps_rI R)
  exact pl_287_0 ((fm_287_all hb h21 H0 hw hwl W0 (fun s' l' a c d => k1 s' ⟨l', a, c, d⟩) (fun s' a c => k0 s' ⟨a, c⟩) n).1 (p := 0) rfl (Nat.zero_le _) kq_refl (fun p' hp' => absurd hp' (Nat.not_lt_zero _)))
end R287
/-- how long a row that is made can be -/
theorem rw_r_len {B : Nat → Option (List Nat)} (hB : ∀ k U, B k = some U → U.length ≤ 40) : ∀ {t : List Nat}, (rw_r B t).length ≤ 40 * t.length
  | [] => Nat.zero_le _
  | c :: t => by
    have ih := rw_r_len hB (t := t)
    show ((if 40 ≤ c then (B (c - 40)).getD [] else [c]) ++ rw_r B t).length ≤ _
    rw [List.length_append, List.length_cons]
    have : (if 40 ≤ c then (B (c - 40)).getD [] else [c]).length ≤ 40 := by
      split
      · cases e : B (c - 40) with
        | none => exact Nat.zero_le _
        | some U => exact hB _ U e
      · exact (by decide : 1 ≤ 40)
    omega
def KW8 (s0 s : ps_S) : Prop := kq [1134, 1149, 1150, 1151, 1167, 1168] [34, 63, 64, 65] s0 s ∧ mv_po 25789 s0 s
section R288
variable {b : Nat} {h : tx_H} {l0 : List Nat} {s0 : ps_S} {R : Int32 → ps_S → Prop}
theorem mv_H_po {s s' : ps_S} (hb : b < 2) (H : mv_H s b h) (K : KW8 s s') : mv_H s' b h := by
  have h8 := H.2.2.1
  refine mv_H_V hb H (fun r hr => kq_a K.1 r ?_) (fun r hr => kq_b K.1 r ?_) (fun k h1 h2 => K.2 k (by omega))
  · exact (show ∀ r, r ∈ [1135, 1136, 1137, 1138, 1139] → [1134, 1149, 1150, 1151, 1167, 1168].contains r = false by decide) r hr
  · exact (show ∀ r, r ∈ [1140, 1141, 1142] → [1134, 1149, 1150, 1151, 1167, 1168].contains r = false by decide) r hr
theorem KW8_q {A F : List Nat} {s s' : ps_S} (K : KW8 s0 s) (K' : kq A F s s') (hA : A.all (fun a => [1149, 1150, 1151, 1167, 1168].contains a) = true) (hF : F.all (fun a => [34, 63, 64, 65].contains a) = true) : KW8 s0 s' := by
  have hA2 : A.all (fun a => [1134, 1149, 1150, 1151, 1167, 1168].contains a) = true := by
    rw [List.all_eq_true] at hA ⊢
    intro x hx
    have := hA x hx
    rw [List.contains_iff_mem] at this ⊢
    exact List.mem_cons_of_mem _ this
  have h34 : A.contains 1134 = false := by
    cases e : A.contains 1134 with
    | false => rfl
    | true =>
      rw [List.all_eq_true] at hA
      exact absurd (hA 1134 (List.contains_iff_mem.mp e)) (by decide)
  exact ⟨kqt K.1 K' hA2 hF, fun q hq => by rw [kq_a K' 1134 h34]; exact K.2 q hq⟩
theorem fm_288_51 (hb : b < 2) (h21 : (ps_i s0 1131 21).toInt = b) (H0 : mv_H s0 b h) (hw : WFt h) (k : ∀ (v : Int32) s' nl, rw_A h l0 v.toInt nl → mv_W s' 25789 nl → KW8 s0 s' → R v s') : ∀ (n : Nat) {s : ps_S} {x1 : Int32} {m : Nat} {l : List Nat}, x1.toInt = m → m ≤ 60 → rw_go h m l0 l → ws (sg h.1) l [false] → mv_W s 25789 l → KW8 s0 s → pl_At n 288 51 [(0, .ref 1131), (1, .int x1)] [] s (ps_rI R)
  | 0, _, _, _, _, _, _, _, _, _, _ => pl_At_0
  | n + 1, s, x1, m, l, hx, hm, hg, hl, W, K => by
    have c60 : (60 : Int32).toInt = 60 := by decide
    have hl40 := W.2.1
    have H := mv_H_po hb H0 K
    have h21' : (ps_i s 1131 21).toInt = b := by rw [kq_i K.1 21 rfl]; exact h21
    have spent : ∀ {s' : ps_S} {b' : List Nat}, KW8 s0 s' → rw_s h l b' → (¬ rw_g h b' ∨ m = 60) → R (-2) (ps_ua s' 1134 25789 0) := fun {s' b'} K' hs hbad => by
      refine k _ _ [] (Or.inr ⟨by decide, rfl, m, l, b', hm, hg, hs, hbad⟩) ⟨?_, Nat.zero_le _, fun k c hk => by cases hk⟩ ⟨kqa K'.1 rfl, fun q hq => ?_⟩
      · rw [ps_a_ua, if_pos ⟨rfl, rfl⟩]
        rfl
      · rw [ps_a_ua, if_neg (by omega)]
        exact K'.2 q hq
    refine pl_288_51 ?_
    refine fm_287 hb h21' H hw hl W (fun s1 q => ⟨fun y => absurd y (by decide), fun _ => ?_⟩) (fun s1 q => ⟨fun _ => ?_, fun y => absurd rfl y⟩)
    · obtain ⟨l', hs, M, K1⟩ := q
      have K1' : KW8 s0 s1 := KW8_q K K1 (by decide) (by decide)
      have hl' := rw_s_ws hw hl hs
      refine ⟨fun z => ?_, fun z => ?_⟩
      · have z := xeq z
        intro b1
        rw [xtn (a := 25789) (by decide)]
        exact spent K1' hs (Or.inr (by omega))
      · have z := xne z
        have h211 : (ps_i s1 1131 21).toInt = b := by rw [kq_i K1'.1 21 rfl]; exact h21
        have H1 := mv_H_po hb H0 K1'
        have hlen : l'.length < 100000 := by
          obtain ⟨p, kk, hp, ⟨w, r, e, B, a1, a2, a3, rfl⟩, -, -⟩ := hs
          have hr40 := (hw.2.2 kk w r a1).2.1
          have hBl : ∀ k U, B k = some U → U.length ≤ 40 := by
            have aux : ∀ {t : List Nat} {p e : Nat} {B B' : Nat → Option (List Nat)}, (∀ k U, B k = some U → U.length ≤ 40) → rw_m (arh h.1) l t p B = some (e, B') → ∀ k U, B' k = some U → U.length ≤ 40 := by
              intro t
              induction t with
              | nil =>
                intro p e B B' hB hm
                cases hm
                exact hB
              | cons c t ih =>
                intro p e B B' hB hm
                by_cases h40 : 40 ≤ c
                · cases hBk : B (c - 40) with
                  | none =>
                    rw [rw_m_n h40 hBk] at hm
                    refine ih (fun k U hk => ?_) hm
                    unfold rw_u at hk
                    split at hk
                    · cases hk
                      rw [List.length_take, List.length_drop]
                      omega
                    · exact hB k U hk
                  | some U =>
                    rw [rw_m_s h40 hBk] at hm
                    split at hm
                    · exact ih hB hm
                    · cases hm
                · rw [rw_m_c h40] at hm
                  split at hm
                  · exact ih hB hm
                  · cases hm
            exact aux (fun k U z => by cases z) a3
          have := rw_r_len hBl (t := r.drop (rl_r (arh h.1) r))
          rw [List.length_drop] at this
          unfold rw_n
          rw [List.length_append, List.length_append, List.length_take, List.length_drop]
          omega
        refine fm_228 hb h211 H1.1 M hl' hlen (fun s2 q2 => ⟨fun _ => ?_, fun y => absurd y (by decide)⟩) (fun s2 q2 => ⟨fun y => absurd rfl y, fun _ => ?_⟩)
        · obtain ⟨⟨g1, g2⟩, K2⟩ := q2
          have K2' : KW8 s0 s2 := KW8_q K1' K2 (by decide) (by decide)
          refine fm_229 (to := 25789) (mk_M_kq M K2 (by decide) (by decide)) g1 (by decide) (by decide) (fun s3 W3 K3 P3 => ?_)
          exact fm_288_51 hb h21 H0 hw k n (xj1 hx (by omega)) (by omega) ⟨l, hg, hs, g1, g2⟩ hl' W3 ⟨kqt K2'.1 K3 (by decide) (by decide), fun q hq => (P3 q (by omega)).trans (K2'.2 q hq)⟩
        · intro b1
          rw [xtn (a := 25789) (by decide)]
          exact spent (KW8_q K1' q2.2 (by decide) (by decide)) hs (Or.inl (fun y => q2.1 y))
    · exact k _ s1 l (Or.inl ⟨m, hm, hg, q.1, hx⟩) (mv_W_kq W q.2 (by decide)) (KW8_q K q.2 (by decide) (by decide))
end R288
/-- what rewrite() leaves -/
def mr_p (s s' : ps_S) : Prop := kq [1133, 1134, 1143, 1144, 1145, 1146, 1147, 1148, 1149, 1150, 1151, 1167, 1168] [3, 4, 5, 6, 7, 8, 9, 10, 11, 22, 23, 29, 30, 31, 32, 34, 63, 64, 65] s s' ∧ mv_po 25789 s s'
theorem fm_288_31 {n b : Nat} {s0 s : ps_S} {T : Nat → Nat} {N : Nat} {h : tx_H} {R : Int32 → ps_S → Prop} (hb : b < 2) (h21 : (ps_i s 1131 21).toInt = b) (H : mv_H s b h) (hw : WFt h) (m : mq_ok 25789 0 b h.1 T N s0 s ∨ mq_bad 25789 0 b h.1 T N s0 s) (k : ∀ (v : Int32) s' nl, RWA h T N v nl → mv_W s' 25789 nl → mr_p s0 s' → R v s') : pl_At n 288 31 [(0, .ref 1131)] [] s (ps_rI R) := by
  cases n with
  | zero => exact pl_At_0
  | succ n =>
  refine pl_288_31 ?_
  rcases m with ⟨⟨l, z, W, G⟩, K, P, h3⟩ | ⟨⟨kk, pl, z, hk, e5, e6⟩, K, P, h3⟩
  · refine fm_192 (fun _ => ⟨fun _ => ?_, fun z => absurd z (by decide)⟩) (fun z => absurd G.1 z)
    have hl : ws (sg h.1) l [false] := by
      obtain ⟨p, fr, g, -⟩ := z
      exact (tx_WQ_end hw.2.1 (Or.inl rfl) (Nat.zero_le _) g).1
    refine fm_288_51 (l0 := l) hb h21 H hw (fun v s' nl hA W' K' => ?_) n (m := 0) rfl (Nat.zero_le _) rfl hl W ⟨kq_refl, fun q hq => rfl⟩
    exact k v s' nl (Or.inl ⟨l, z, hA⟩) W' ⟨kqt (kqt kq_refl K (by decide) (by decide)) K'.1 (by decide) (by decide), fun q hq => (K'.2 q hq).trans (P q hq)⟩
  · refine fm_192 (fun z => absurd (z.symm.trans e5) (by omega)) (fun _ => ⟨fun z => absurd rfl z, fun _ => ?_⟩)
    intro b1
    rw [xtn (a := 25789) (by decide)]
    refine k _ _ [] (Or.inr ⟨⟨kk, pl, z⟩, by decide, rfl⟩) ⟨?_, Nat.zero_le _, fun k c hk => by cases hk⟩ ⟨kqa (kqt kq_refl K (by decide) (by decide)) rfl, fun q hq => ?_⟩
    · rw [ps_a_ua, if_pos ⟨rfl, rfl⟩]
      rfl
    · rw [ps_a_ua, if_neg (by omega)]
      exact P q hq
theorem fm_288 {n b : Nat} {s : ps_S} {T : Nat → Nat} {N : Nat} {h : tx_H} {R : Int32 → ps_S → Prop} (hb : b < 2) (h21 : (ps_i s 1131 21).toInt = b) (H : mv_H s b h) (hw : WFt h) (h3 : (ps_i s 1131 3).toInt = N) (hN : N ≤ 1600) (hT : ∀ k, k < N → (ps_a s 1132 k &&& 255).toInt = T k) (k : ∀ (v : Int32) s' nl, RWA h T N v nl → mv_W s' 25789 nl → mr_p s s' → R v s') : pl_Cl n 288 [.ref 1131] s (ps_rI R) := by
  cases n with
  | zero => exact pl_At_0
  | succ n =>
  show pl_At (n + 1) 288 0 [(0, .ref 1131)] [] s (ps_rI R)
  refine pl_288_0 ?_
  refine fm_198 h21 h3 hN hT (fun s1 q1 => ?_)
  obtain ⟨K1, t1, t2, t3, t4, t5, t6⟩ := q1
  have Hk : ∀ {A F : List Nat} {s' : ps_S}, kq A F s s' → mv_po 25789 s s' → A.all (fun a => ![1135, 1136, 1137, 1138, 1139, 1140, 1141, 1142].contains a) = true → mv_H s' b h := fun {A F s'} K P hA => by
    rw [List.all_eq_true] at hA
    have hn : ∀ r, r ∈ [1135, 1136, 1137, 1138, 1139, 1140, 1141, 1142] → A.contains r = false := fun r hr => by
      cases e : A.contains r with
      | false => rfl
      | true =>
        have z := hA r (List.contains_iff_mem.mp e)
        rw [List.contains_iff_mem.mpr hr] at z
        exact absurd z (by decide)
    refine mv_H_V hb H (fun r hr => kq_a K r (hn r ?_)) (fun r hr => kq_b K r (hn r ?_)) (fun q h1 h2 => P q (by omega))
    · exact (show ∀ r, r ∈ [1135, 1136, 1137, 1138, 1139] → r ∈ [1135, 1136, 1137, 1138, 1139, 1140, 1141, 1142] by decide) r hr
    · exact (show ∀ r, r ∈ [1140, 1141, 1142] → r ∈ [1135, 1136, 1137, 1138, 1139, 1140, 1141, 1142] by decide) r hr
  refine fm_209u (to := 25789) (rb := b) (ph := 0) (E := (h.1, false)) (p := 0) (fr := []) (by decide) (Or.inl ⟨by decide, rfl⟩) rfl hb t5 t1 (mv_E_kq H.1 K1 (by decide)) (Nat.zero_le _) t2 ⟨t4, Nat.zero_le _, fun k w z => by cases z⟩ t3 (fun s10 q10 => ?_)
  have fin : ∀ {s' : ps_S}, (mq_ok 25789 0 b h.1 T N s s' ∨ mq_bad 25789 0 b h.1 T N s s') → pl_At n 288 31 [(0, .ref 1131)] [] s' (ps_rI R) := fun {s'} m => by
    have hK : kq [1133, 1134, 1143, 1144, 1145, 1146, 1147, 1148] [3, 4, 5, 6, 7, 8, 9, 10, 11, 22, 23, 29, 30, 31, 32] s s' ∧ mv_po 25789 s s' := by
      rcases m with ⟨-, K, P, -⟩ | ⟨-, K, P, -⟩
      · exact ⟨K, P⟩
      · exact ⟨K, P⟩
    exact fm_288_31 hb (by rw [kq_i hK.1 21 rfl]; exact h21) (Hk hK.1 hK.2 (by decide)) hw m k
  refine fm_192 (fun q14 => ?_) (fun q14 => ?_)
  · refine ⟨fun h17 => absurd h17 (by decide), fun h17 => ⟨fun h24 => ?_, fun h24 => ?_⟩⟩
    · have h24 : (ps_i s10 1131 9).toInt = (0 : Int) := xeq h24
      rcases q10 with ⟨p', l', fr', g1, g2, g3, g4⟩ | ⟨S', pl, l', fr', k, g1, g2, g3, g4, g5⟩
      · have h0 : (tx_tok T N p').1 = 0 := by have := g3.2.2.1.1; omega
        exact fin (Or.inl ⟨⟨l', ⟨p', fr', g1, h0⟩, g3.2.2.2.2.2.2.1, g3.2.2.2.2.2.2.2.2⟩, kqt (kqt kq_refl K1 (by decide) (by decide)) g4.1 (by decide) (by decide), fun i hi => (g4.2 i hi).trans (by rw [kq_a K1 1134 (by decide)]), by rw [kq_i g4.1 3 (by decide)]; exact t6⟩)
      · exfalso; omega
    · have h24 : (ps_i s10 1131 9).toInt ≠ (0 : Int) := xne h24
      refine fm_196v q14 (fun s28 q28 => ?_)
      rcases q10 with ⟨p', l', fr', g1, g2, g3, g4⟩ | ⟨S', pl, l', fr', k, g1, g2, g3, g4, g5⟩
      · have h0 : (tx_tok T N p').1 ≠ 0 := by have := g3.2.2.1.1; omega
        have J := q28 _ g3.2.2.1
        exact fin (Or.inr ⟨⟨_, _, Or.inr ⟨p', l', fr', g1, h0, rfl, rfl⟩, (by unfold tx_bk; split <;> decide), J.1, J.2.1⟩, kqt (kqt (kqt kq_refl K1 (by decide) (by decide)) g4.1 (by decide) (by decide)) J.2.2 (by decide) (by decide), fun i hi => (by rw [kq_a J.2.2 1134 (by decide), g4.2 i hi, kq_a K1 1134 (by decide)]), by rw [kq_i J.2.2 3 (by decide), kq_i g4.1 3 (by decide)]; exact t6⟩)
      · exfalso; omega
  · refine ⟨fun h17 => ?_, fun h17 => absurd h17 (by decide)⟩
    rcases q10 with ⟨p', l', fr', g1, g2, g3, g4⟩ | ⟨S', pl, l', fr', k, g1, g2, g3, g4, g5⟩
    · exact absurd g3.2.2.2.2.2.2.2.2.1 q14
    · exact fin (Or.inr ⟨⟨k, pl, Or.inl ⟨S', l', fr', g1⟩, g2, g3, g4⟩, kqt (kqt kq_refl K1 (by decide) (by decide)) g5.1 (by decide) (by decide), fun i hi => (g5.2 i hi).trans (by rw [kq_a K1 1134 (by decide)]), by rw [kq_i g5.1 3 (by decide)]; exact t6⟩)
theorem fm_289 {n : Nat} {x1 : Int32} {s : ps_S} {l : List Nat} {R : Int32 → ps_S → Prop} (hW : mv_W s 25789 l) (k : ∀ v : Int32, pc_is l x1 v → R v s) : pl_Cl n 289 [.ref 1131, .int x1] s (ps_rI R) := by
  cases n with
  | zero => exact pl_At_0
  | succ n =>
  show pl_At (n + 1) 289 0 [(0, .ref 1131), (1, .int x1)] [] s (ps_rI R)
  refine pl_289_0 ?_
  exact fm_264 (to := 25789) (by decide) (by decide) hW k
end
section
set_option maxRecDepth 100000
/-! call by call: what holds before both sides' calls holds behind them -/
theorem ps_monoJ {d y : Nat} {args : List Value} {s : ps_S} {f g : Int64 → ps_S → Prop} (h : ps_Cl d y args s (ps_rJ f)) (k : ∀ v s', f v s' → g v s') : ps_Cl d y args s (ps_rJ g) := h.mono (fun _ s' z => rJ_mono z (fun v p => k v s' p))
theorem all_no {A : List Nat} {P : Nat → Bool} (hA : A.all P = true) {r : Nat} (hr : P r = false) : A.contains r = false := by
  cases e : A.contains r with
  | false => rfl
  | true =>
    rw [List.all_eq_true] at hA
    have := hA r (List.contains_iff_mem.mp e)
    rw [hr] at this
    cases this
def pA (a : Nat) : Bool := Nat.ble 1131 a && ![1132, 1135, 1136, 1137, 1138, 1139, 1140, 1141, 1142].contains a
theorem IMs_m {s s' : ps_S} {t : Int32} {u u' : Int} {A F : List Nat} (H : IMs s t u) (X : LX s' t u') (e : u' = t.toInt) (J : mJ s.1.2.2 t s') (K : kp A F s s') (hA : A.all pA = true) (hF : F.contains 21 = false) (hV : ∀ k, (21812 ≤ k ∧ k < 22468) ∨ (25748 ≤ k ∧ k < 25789) → ps_a s' 1134 k = ps_a s 1134 k) : ISt s' t := by
  refine ⟨LX_LI X e, LF_m H.2.1 J K (all_no hA rfl) (all_no hA rfl) (all_no hA rfl) (all_no hA rfl) (all_no hA rfl), LG_m H.2.2 J K ?_ hF hV⟩
  rw [List.all_eq_true] at hA ⊢
  intro a ha
  have z := hA a ha
  unfold pA at z
  rw [Bool.and_eq_true] at z ⊢
  refine ⟨z.1, ?_⟩
  have z2 := z.2
  rw [Bool.not_eq_true'] at z2 ⊢
  rw [Bool.eq_false_iff] at z2 ⊢
  intro q
  exact z2 (List.contains_iff_mem.mpr (List.mem_cons_of_mem _ (List.contains_iff_mem.mp q)))
theorem TRm_m {s s' : ps_S} {t : Int32} {A F : List Nat} {h : tx_H} {l : List Nat} (H : TRm s h l) (K : kp A F s s') (hA : A.all pA = true) (hF : F.contains 21 = false) (hV : ∀ k, (21812 ≤ k ∧ k < 22468) ∨ (25748 ≤ k ∧ k < 25789) → ps_a s' 1134 k = ps_a s 1134 k) : TRm s' h l := by
  obtain ⟨b, m1, m2, m3, m4⟩ := H
  refine ⟨b, m1, by rw [kp_i K 21 hF]; exact m2, mv_H_V m1 m3 (fun r hr => (K.2 r (all_no hA ?_)).1) (fun r hr => (K.2 r (all_no hA ?_)).2) (fun k a b => hV k (Or.inl ⟨a, b⟩)), mv_W_V m4 (fun k a b => hV k (Or.inr ⟨by omega, by omega⟩))⟩
  · exact (show ∀ r, r ∈ [1135, 1136, 1137, 1138, 1139] → pA r = false by decide) r hr
  · exact (show ∀ r, r ∈ [1140, 1141, 1142] → pA r = false by decide) r hr

theorem cx_152 {s : ps_S} {t : Int32} {x1 : Int32} (hI : LI s t) (hF : LF s t) : ps_Cl 299 152 [.ref 0, .int x1] s (ps_rI (fun _ s1 => XK t (fun _ => False) s s1)) :=
  xs_152 (d := 299) (LI_J hI) (fun v => ⟨LI_J hI, cfr_refl, ⟨rfl, rfl⟩, fun _ _ => rfl⟩)
theorem cm_199 {s : ps_S} {t : Int32} {u : Int} {x1 : Int32} (hM : IMs s t u) (hu : u = t.toInt) : ps_Cl 299 199 [.ref 1131, .int x1] s (ps_rI (fun _ s2 => ISt s2 t)) :=
  ms_199 (d := 299) hM.1.2.1 (fun v => IMs_L hM hu)
theorem cm_240 {s : ps_S} {t : Int32} {u : Int}  (hM : IMs s t u) (hu : (0 : Int) = t.toInt) : ps_Cl 299 240 [.ref 1131] s (ps_rI (fun _ s2 => ISt s2 t)) := by
  obtain ⟨σ, h4⟩ := hM.1.2.2.2.1
  exact mw_240 (d := 292) hM.1.2.1 h4 (gv := ps_a s 1134) (fun k _ => rfl) (fun v s2 J2 K2 p0 p1 pV => IMs_m hM (LX_mk hM.1 J2 (p1) (⟨σ, p0⟩) (LX_D hM.1 K2 rfl) (LX_F hM.1 K2 rfl)) hu J2 K2 rfl rfl (fun k hk => pV k (by omega)))
theorem cx_154 {s : ps_S} {t : Int32} {x1 : Int32} (hI : LI s t) (hF : LF s t) : ps_Cl 299 154 [.ref 0, .int x1] s (ps_rI (fun _ s1 => XK t (fun _ => False) s s1)) :=
  xs_154 (d := 299) (LI_J hI) (fun v => ⟨LI_J hI, cfr_refl, ⟨rfl, rfl⟩, fun _ _ => rfl⟩)
theorem cm_261 {s : ps_S} {t : Int32} {u : Int} {x1 : Int32} (hM : IMs s t u) (hu : u = t.toInt) : ps_Cl 299 261 [.ref 1131, .int x1] s (ps_rI (fun _ s2 => ISt s2 t)) :=
  ms_261 (d := 299) hM.1.2.1 (fun v => IMs_L hM hu)
theorem cx_155 {s : ps_S} {t : Int32} {x1 : Int32} {x2 : Int32} (hI : LI s t) (hF : LF s t) : ps_Cl 299 155 [.ref 0, .int x1, .int x2] s (ps_rI (fun _ s1 => XK t (fun _ => False) s s1)) :=
  xs_155 (d := 298) (LI_J hI) (fun v => ⟨LI_J hI, cfr_refl, ⟨rfl, rfl⟩, fun _ _ => rfl⟩)
theorem cm_263 {s : ps_S} {t : Int32} {u : Int} {x1 : Int32} {x2 : Int32} (hM : IMs s t u) (hu : u = t.toInt) : ps_Cl 299 263 [.ref 1131, .int x1, .int x2] s (ps_rI (fun _ s2 => ISt s2 t)) :=
  ms_263 (d := 297) hM.1.2.1 (fun v => IMs_L hM hu)
theorem cx_156 {s : ps_S} {t : Int32} {x1 : Int32} {x2 : Int32} (hI : LI s t) (hF : LF s t) : ps_Cl 299 156 [.ref 0, .int x1, .int x2] s (ps_rI (fun _ s1 => XK t (fun _ => False) s s1)) :=
  xs_156 (d := 298) (LI_J hI) (fun v => ⟨LI_J hI, cfr_refl, ⟨rfl, rfl⟩, fun _ _ => rfl⟩)
theorem cm_265 {s : ps_S} {t : Int32} {u : Int} {x1 : Int32} {x2 : Int32} (hM : IMs s t u) (hu : u = t.toInt) : ps_Cl 299 265 [.ref 1131, .int x1, .int x2] s (ps_rI (fun _ s2 => ISt s2 t)) :=
  ms_265 (d := 297) hM.1.2.1 (fun v => IMs_L hM hu)
theorem cx_157 {s : ps_S} {t : Int32} {x1 : Int32} {x2 : Int32} {x3 : Int32} (hI : LI s t) (hF : LF s t) : ps_Cl 299 157 [.ref 0, .int x1, .int x2, .int x3] s (ps_rI (fun _ s1 => XK t (fun _ => False) s s1)) :=
  xs_157 (d := 297) (LI_J hI) (fun v => ⟨LI_J hI, cfr_refl, ⟨rfl, rfl⟩, fun _ _ => rfl⟩)
theorem cm_266 {s : ps_S} {t : Int32} {u : Int} {x1 : Int32} {x2 : Int32} {x3 : Int32} (hM : IMs s t u) (hu : u = t.toInt) : ps_Cl 299 266 [.ref 1131, .int x1, .int x2, .int x3] s (ps_rI (fun _ s2 => ISt s2 t)) :=
  ms_266 (d := 297) hM.1.2.1 (fun v => IMs_L hM hu)
theorem cm_268 {s : ps_S} {t : Int32} {u : Int}  (hM : IMs s t u) (hu : u = t.toInt) : ps_Cl 299 268 [.ref 1131] s (ps_rI (fun _ s2 => ISt s2 t)) := by
  obtain ⟨σ, h4⟩ := hM.1.2.2.2.1
  exact mw_268 (d := 298) hM.1.2.1 h4 (gv := ps_a s 1134) (fun k _ => rfl) (fun v s2 J2 K2 p0 pV => IMs_m hM (LX_mk hM.1 J2 (LX_3 hM.1 K2 rfl) (⟨σ, p0⟩) (LX_D hM.1 K2 rfl) (LX_F hM.1 K2 rfl)) hu J2 K2 rfl rfl (fun k hk => pV k (by omega)))
theorem cx_159 {s : ps_S} {t : Int32} {x1 : Int32} {x2 : Int32} (hI : LI s t) (hF : LF s t) : ps_Cl 299 159 [.ref 0, .int x1, .int x2] s (ps_rI (fun _ s1 => XK t (fun _ => False) s s1)) :=
  xs_159 (d := 298) (LI_J hI) (fun v => ⟨LI_J hI, cfr_refl, ⟨rfl, rfl⟩, fun _ _ => rfl⟩)
theorem cm_269 {s : ps_S} {t : Int32} {u : Int} {x1 : Int32} {x2 : Int32} (hM : IMs s t u) (hu : u = t.toInt) : ps_Cl 299 269 [.ref 1131, .int x1, .int x2] s (ps_rI (fun _ s2 => ISt s2 t)) :=
  ms_269 (d := 297) hM.1.2.1 (fun v => IMs_L hM hu)
theorem cx_160 {s : ps_S} {t : Int32} {x1 : Int32} {x2 : Int32} (hI : LI s t) (hF : LF s t) : ps_Cl 299 160 [.ref 0, .int x1, .int x2] s (ps_rI (fun _ s1 => XK t (fun _ => False) s s1)) :=
  xs_160 (d := 298) (LI_J hI) (fun v => ⟨LI_J hI, cfr_refl, ⟨rfl, rfl⟩, fun _ _ => rfl⟩)
theorem cm_271 {s : ps_S} {t : Int32} {u : Int} {x1 : Int32} {x2 : Int32} (hM : IMs s t u) (hu : u = t.toInt) : ps_Cl 299 271 [.ref 1131, .int x1, .int x2] s (ps_rI (fun _ s2 => ISt s2 t)) :=
  ms_271 (d := 298) hM.1.2.1 (fun v => IMs_L hM hu)
theorem cm_273 {s : ps_S} {t : Int32} {u : Int}  (hM : IMs s t u) (hu : u = t.toInt) : ps_Cl 299 273 [.ref 1131] s (ps_rI (fun _ s2 => ISt s2 t)) := by
  obtain ⟨σ, h4⟩ := hM.1.2.2.2.1
  exact ms_273 (d := 298) hM.1.2.1 h4 (fun v s2 J2 K2 p0 => IMs_m hM (LX_mk hM.1 J2 (LX_3 hM.1 K2 rfl) (⟨σ, p0⟩) (LX_D hM.1 K2 rfl) (LX_F hM.1 K2 rfl)) hu J2 K2 rfl rfl (LG_p K2 rfl))
theorem cx_163 {s : ps_S} {t : Int32} {x1 : Int32} (hI : LI s t) (hF : LF s t) : ps_Cl 299 163 [.ref 0, .int x1] s (ps_rI (fun _ s1 => XK t (fun _ => False) s s1)) :=
  xs_163 (d := 298) (LI_J hI) (fun v => ⟨LI_J hI, cfr_refl, ⟨rfl, rfl⟩, fun _ _ => rfl⟩)
theorem cm_275 {s : ps_S} {t : Int32} {u : Int} {x1 : Int32} (hM : IMs s t u) (hu : u = t.toInt) : ps_Cl 299 275 [.ref 1131, .int x1] s (ps_rI (fun _ s2 => ISt s2 t)) :=
  ms_275 (d := 297) hM.1.2.1 (fun v => IMs_L hM hu)
theorem cx_164 {s : ps_S} {t : Int32}  (hI : LI s t) (hF : LF s t) : ps_Cl 299 164 [.ref 0] s (ps_rI (fun _ s1 => XK t (fun _ => False) s s1)) :=
  xs_164 (d := 297) (LI_J hI) (fun v => ⟨LI_J hI, cfr_refl, ⟨rfl, rfl⟩, fun _ _ => rfl⟩)
theorem cm_276 {s : ps_S} {t : Int32} {u : Int}  (hM : IMs s t u) (hu : u = t.toInt) : ps_Cl 299 276 [.ref 1131] s (ps_rI (fun _ s2 => ISt s2 t)) :=
  ms_276 (d := 297) hM.1.2.1 (fun v => IMs_L hM hu)
theorem cx_165 {s : ps_S} {t : Int32} {x1 : Int32} (hI : LI s t) (hF : LF s t) : ps_Cl 299 165 [.ref 0, .int x1] s (ps_rJ (fun _ s1 => XK t (fun _ => False) s s1)) :=
  xs_165 (d := 298) (LI_J hI) (fun v => ⟨LI_J hI, cfr_refl, ⟨rfl, rfl⟩, fun _ _ => rfl⟩)
theorem cm_267 {s : ps_S} {t : Int32} {u : Int} {x1 : Int32} (hM : IMs s t u) (hu : u = t.toInt) : ps_Cl 299 267 [.ref 1131, .int x1] s (ps_rJ (fun _ s2 => ISt s2 t)) :=
  ms_267 (d := 297) hM.1.2.1 (fun v => IMs_L hM hu)
theorem cm_280 {s : ps_S} {t : Int32} {u : Int}  (hM : IMs s t u) (hu : u = t.toInt) : ps_Cl 299 280 [.ref 1131] s (ps_rI (fun _ s2 => ISt s2 t)) := by
  obtain ⟨σ, h4⟩ := hM.1.2.2.2.1
  exact ms_280 (d := 295) hM.1.2.1 h4 (fun v s2 J2 K2 => IMs_m hM (LX_mk hM.1 J2 (LX_3 hM.1 K2 rfl) (LX_M hM.1 K2 rfl rfl rfl rfl rfl rfl rfl rfl rfl rfl rfl) (LX_D hM.1 K2 rfl) (LX_F hM.1 K2 rfl)) hu J2 K2 rfl rfl (LG_p K2 rfl))
theorem cm_281 {s : ps_S} {t : Int32} {u : Int}  (hM : IMs s t u) (hu : u = t.toInt) : ps_Cl 299 281 [.ref 1131] s (ps_rI (fun _ s2 => ISt s2 t)) := by
  obtain ⟨σ, h4⟩ := hM.1.2.2.2.1
  exact ms_281 (d := 295) hM.1.2.1 h4 (fun v s2 J2 K2 => IMs_m hM (LX_mk hM.1 J2 (LX_3 hM.1 K2 rfl) (LX_M hM.1 K2 rfl rfl rfl rfl rfl rfl rfl rfl rfl rfl rfl) (LX_D hM.1 K2 rfl) (LX_F hM.1 K2 rfl)) hu J2 K2 rfl rfl (LG_p K2 rfl))
theorem cm_282 {s : ps_S} {t : Int32} {u : Int}  (hM : IMs s t u) (hu : u = t.toInt) : ps_Cl 299 282 [.ref 1131] s (ps_rI (fun _ s2 => ISt s2 t)) := by
  obtain ⟨σ, h4⟩ := hM.1.2.2.2.1
  exact ms_282 (d := 295) hM.1.2.1 h4 (fun v s2 J2 K2 => IMs_m hM (LX_mk hM.1 J2 (LX_3 hM.1 K2 rfl) (LX_M hM.1 K2 rfl rfl rfl rfl rfl rfl rfl rfl rfl rfl rfl) (LX_D hM.1 K2 rfl) (LX_F hM.1 K2 rfl)) hu J2 K2 rfl rfl (LG_p K2 rfl))
theorem cm_288 {s : ps_S} {t : Int32} {u : Int}  (hM : IMs s t u) (hu : (0 : Int) = t.toInt) : ps_Cl 299 288 [.ref 1131] s (ps_rI (fun _ s2 => ISt s2 t)) := by
  obtain ⟨σ, h4⟩ := hM.1.2.2.2.1
  exact mw_288 (d := 293) hM.1.2.1 h4 (gv := ps_a s 1134) (fun k _ => rfl) (fun v s2 J2 K2 p0 p1 pV => IMs_m hM (LX_mk hM.1 J2 (p1) (⟨σ, p0⟩) (LX_D hM.1 K2 rfl) (LX_F hM.1 K2 rfl)) hu J2 K2 rfl rfl (fun k hk => pV k (by omega)))
theorem cx_170 {s : ps_S} {t : Int32} {x1 : Int32} (hI : LI s t) (hF : LF s t) : ps_Cl 299 170 [.ref 0, .int x1] s (ps_rI (fun _ s1 => XK t (fun _ => False) s s1)) :=
  xs_170 (d := 298) (LI_J hI) (fun v => ⟨LI_J hI, cfr_refl, ⟨rfl, rfl⟩, fun _ _ => rfl⟩)
theorem cm_289 {s : ps_S} {t : Int32} {u : Int} {x1 : Int32} (hM : IMs s t u) (hu : u = t.toInt) : ps_Cl 299 289 [.ref 1131, .int x1] s (ps_rI (fun _ s2 => ISt s2 t)) :=
  ms_289 (d := 297) hM.1.2.1 (fun v => IMs_L hM hu)
theorem cm_285 {s : ps_S} {t : Int32} {u : Int}  (hM : IMs s t u) (hu : u = t.toInt) : ps_Cl 299 285 [.ref 1131] s (ps_rI (fun _ s2 => ISt s2 t)) := by
  obtain ⟨σ, h4⟩ := hM.1.2.2.2.1
  exact ms_285 (d := 296) hM.1.2.1 h4 (fun v s2 J2 K2 => IMs_m hM (LX_mk hM.1 J2 (LX_3 hM.1 K2 rfl) (LX_M hM.1 K2 rfl rfl rfl rfl rfl rfl rfl rfl rfl rfl rfl) (LX_D hM.1 K2 rfl) (LX_F hM.1 K2 rfl)) hu J2 K2 rfl rfl (LG_p K2 rfl))
theorem cm_301 {s : ps_S} {t : Int32} {u : Int} {x1 : Int32} (hM : IMs s t u) (hu : u = t.toInt) : ps_Cl 299 301 [.ref 1131, .int x1] s (ps_rI (fun _ s2 => ISt s2 t)) := by
  obtain ⟨σ, h4⟩ := hM.1.2.2.2.1
  exact ms_301 (d := 297) hM.1.2.1 (MI_S h4) (fun v s2 J2 K2 p0 p1 p2 => IMs_m hM (LX_mk hM.1 J2 (LX_3 hM.1 K2 rfl) (LX_M hM.1 K2 rfl rfl rfl rfl rfl rfl rfl rfl rfl rfl rfl) (LX_D hM.1 K2 rfl) (LX_F hM.1 K2 rfl)) hu J2 K2 rfl rfl (LG_p K2 rfl))
theorem cm_302 {s : ps_S} {t : Int32} {u : Int} {x1 : Int32} (hM : IMs s t u) (hu : u = t.toInt) : ps_Cl 299 302 [.ref 1131, .int x1] s (ps_rI (fun _ s2 => ISt s2 t)) := by
  obtain ⟨σ, h4⟩ := hM.1.2.2.2.1
  exact ms_302 (d := 293) hM.1.2.1 h4 hM.1.2.2.2.2.1 hM.1.2.2.2.2.2 (fun v s2 J2 K2 p0 p1 => IMs_m hM (LX_mk hM.1 J2 (LX_3 hM.1 K2 rfl) (LX_M hM.1 K2 rfl rfl rfl rfl rfl rfl rfl rfl rfl rfl rfl) (p0) (p1)) hu J2 K2 rfl rfl (LG_p K2 rfl))
theorem cm_303 {s : ps_S} {t : Int32} {u : Int} {x1 : Int32} {x2 : Int32} (hM : IMs s t u) (hu : u = t.toInt) : ps_Cl 299 303 [.ref 1131, .int x1, .int x2] s (ps_rI (fun _ s2 => ISt s2 t)) := by
  obtain ⟨σ, h4⟩ := hM.1.2.2.2.1
  exact ms_303 (d := 294) hM.1.2.1 h4 hM.1.2.2.2.2.1 hM.1.2.2.2.2.2 (fun v s2 J2 K2 p0 p1 => IMs_m hM (LX_mk hM.1 J2 (LX_3 hM.1 K2 rfl) (LX_M hM.1 K2 rfl rfl rfl rfl rfl rfl rfl rfl rfl rfl rfl) (p0) (p1)) hu J2 K2 rfl rfl (LG_p K2 rfl))
theorem cm_304 {s : ps_S} {t : Int32} {u : Int} {x1 : Int32} (hM : IMs s t u) (hu : u = t.toInt) : ps_Cl 299 304 [.ref 1131, .int x1] s (ps_rI (fun _ s2 => ISt s2 t)) := by
  obtain ⟨σ, h4⟩ := hM.1.2.2.2.1
  exact ms_304 (d := 293) hM.1.2.1 h4 hM.1.2.2.2.2.1 hM.1.2.2.2.2.2 (fun v s2 J2 K2 p0 p1 => IMs_m hM (LX_mk hM.1 J2 (LX_3 hM.1 K2 rfl) (LX_M hM.1 K2 rfl rfl rfl rfl rfl rfl rfl rfl rfl rfl rfl) (p0) (p1)) hu J2 K2 rfl rfl (LG_p K2 rfl))
theorem cm_305 {s : ps_S} {t : Int32} {u : Int} {x1 : Int32} (hM : IMs s t u) (hu : u = t.toInt) : ps_Cl 299 305 [.ref 1131, .int x1] s (ps_rI (fun _ s2 => ISt s2 t)) := by
  obtain ⟨σ, h4⟩ := hM.1.2.2.2.1
  exact mw_305 (d := 298) hM.1.2.1 h4 (gv := ps_a s 1134) (fun k _ => rfl) (fun v s2 J2 K2 p0 pV => IMs_m hM (LX_mk hM.1 J2 (LX_3 hM.1 K2 rfl) (⟨σ, p0⟩) (LX_D hM.1 K2 rfl) (LX_F hM.1 K2 rfl)) hu J2 K2 rfl rfl (fun k hk => pV k (by omega)))
theorem cm_306 {s : ps_S} {t : Int32} {u : Int} {x1 : Int32} (hM : IMs s t u) (hu : u = t.toInt) : ps_Cl 299 306 [.ref 1131, .int x1] s (ps_rI (fun _ s2 => ISt s2 t)) := by
  obtain ⟨σ, h4⟩ := hM.1.2.2.2.1
  exact mw_306 (d := 298) hM.1.2.1 h4 (gv := ps_a s 1134) (fun k _ => rfl) (fun v s2 J2 K2 p0 pV => IMs_m hM (LX_mk hM.1 J2 (LX_3 hM.1 K2 rfl) (⟨σ, p0⟩) (LX_D hM.1 K2 rfl) (LX_F hM.1 K2 rfl)) hu J2 K2 rfl rfl (fun k hk => pV k (by omega)))
theorem cx_178 {s : ps_S} {t : Int32} {x1 : Int32} (hI : LI s t) (hF : LF s t) : ps_Cl 299 178 [.ref 0, .int x1] s (ps_rI (fun _ s1 => XK t (fun _ => False) s s1)) :=
  xs_178 (d := 299) (LI_J hI) (fun v => ⟨LI_J hI, cfr_refl, ⟨rfl, rfl⟩, fun _ _ => rfl⟩)
theorem cm_307 {s : ps_S} {t : Int32} {u : Int} {x1 : Int32} (hM : IMs s t u) (hu : u = t.toInt) : ps_Cl 299 307 [.ref 1131, .int x1] s (ps_rI (fun _ s2 => ISt s2 t)) :=
  ms_307 (d := 298) hM.1.2.1 (fun v => IMs_L hM hu)

/-- feed -/
theorem TRc_v {h : tx_H} {l : List Nat} : pdet (fun _ s => TRc s h l) := fun _ _ _ _ r1 r2 z => TRc_det r2 r1 z
theorem PR_0 {s : ps_S} {t : Int32} {x1 x2 x3 x4 x5 : Int32} (h : ISt s t) : ps_Cl 299 149 [.ref 0, .int x1, .int x2, .int x3, .int x4, .int x5] s (ps_rI (fun v s1 => ps_Cl 299 308 [.ref 1131, .int x1, .int x2, .int x3, .int x4, .int x5] s1 (ps_rI (fun v2 s2 => v = v2 ∧ ∃ t2, ISt s2 t2)))) := by
  obtain ⟨hI, hF, hG⟩ := h
  obtain ⟨g, l, c, m⟩ := LG_to hG
  have hb := LI_t hI
  have A : ps_Cl 299 149 [.ref 0, .int x1, .int x2, .int x3, .int x4, .int x5] s (ps_rI (fun v s1 => ∃ t1 : Int32, xJ s t1 s1 ∧ ((v.toInt = -1 ∧ t1 = t ∧ 1580 < t.toInt) ∨ (v = t1 ∧ t1.toInt = t.toInt + 20 ∧ t.toInt ≤ 1580)))) := xs_149 (d := 298) (LI_J hI) hb.1 hb.2 (fun v s1 t1 J p => ⟨t1, J, p⟩)
  have B : ∀ n, pl_Cl n 149 [.ref 0, .int x1, .int x2, .int x3, .int x4, .int x5] s (ps_rI (fun _ s1 => LM s1 t x1 x2 x3 x4 x5)) := fun n => LM_x hI hF n
  have D : ∀ n, pl_Cl n 149 [.ref 0, .int x1, .int x2, .int x3, .int x4, .int x5] s (ps_rI (fun _ s1 => TRc s1 g l)) := fun n => by
    have e : ps_i s 0 1 = t := hI.2.1.2.1
    refine fs_149 (t := t.toInt.toNat) (by omega) (by rw [e]; omega) (fun _ v s' q => ?_) (fun _ => c)
    obtain ⟨g1, g2, g3, g4, g5⟩ := q
    obtain ⟨c1, c2, c3⟩ := c
    have hl := c1.2.2.1
    exact ⟨by rw [g3]; exact cv_H_cfr c1 g2 (fun q a b z => by omega), by rw [g3]; exact c2, cv_W_cfr c3 g2 (by omega) (by omega)⟩
  refine ps_monoI (ps_andlI (ps_andlI A B (fun v w s1 s2 r1 r2 z => LM_det hb.1 hb.2 r2 r1 z)) D TRc_v) (fun v s1 z => ?_)
  obtain ⟨⟨⟨t1, J, q1⟩, hM1⟩, c1⟩ := z
  have m1 := TRm_x m J
  have hX := LI_x hI J
  obtain ⟨σ, h4⟩ := hX.2.2.2.1
  have A2 : ps_Cl 299 308 [.ref 1131, .int x1, .int x2, .int x3, .int x4, .int x5] s1 (ps_rI (fun v2 s2 => ∃ u2, LX s2 t1 u2 ∧ ((v2.toInt = -1 ∧ u2 = t.toInt ∧ 1580 < t.toInt) ∨ (v2.toInt = t.toInt + 20 ∧ u2 = t.toInt + 20 ∧ t.toInt ≤ 1580)) ∧ TRc s2 g l ∧ TRm s2 g l)) := ms_308 (d := 299) hX.2.1 (fun v s2 J2 K2 p0 => ⟨_, LX_mk hX J2 rfl (LX_M hX K2 rfl rfl rfl rfl rfl rfl rfl rfl rfl rfl rfl) (LX_D hX K2 rfl) (LX_F hX K2 rfl), by have e3 := hX.2.2.1; omega, TRc_m c1 J2 K2 rfl, by
    obtain ⟨b, y1, y2, y3, y4⟩ := m1
    exact ⟨b, y1, by rw [kp_i K2 21 rfl]; exact y2, mv_H_V y1 y3 (fun r hr => (K2.2 r ((show ∀ r, r ∈ [1135, 1136, 1137, 1138, 1139] → [1132].contains r = false by decide) r hr)).1) (fun r hr => (K2.2 r ((show ∀ r, r ∈ [1140, 1141, 1142] → [1132].contains r = false by decide) r hr)).2) (fun k _ _ => by rw [(K2.2 1134 rfl).1]), mv_W_V y4 (fun k _ _ => by rw [(K2.2 1134 rfl).1])⟩⟩)
  have B2 : ∀ n, pl_Cl n 308 [.ref 1131, .int x1, .int x2, .int x3, .int x4, .int x5] s1 (ps_rI (fun _ s2 => LF s2 t1)) := fun n => by
    refine pl_At.mono (LM_m hb.1 hb.2 hX.2.2.1 hM1 n) (fun o s2 z => rI_mono z (fun v y => ?_))
    exact y t1 (by rcases q1 with ⟨-, a2, a3⟩ | ⟨-, a2, a3⟩; exact Or.inl ⟨a2, a3⟩; exact Or.inr ⟨a2, a3⟩)
  refine ps_monoI (ps_andlI A2 B2 (fun v w y1 y2 r1 r2 z => LF_det (by rcases q1 with ⟨a1, a2, a3⟩ | ⟨a1, a2, a3⟩ <;> (try rw [a2]) <;> omega) r2 r1 z)) (fun v2 s2 z => ?_)
  obtain ⟨⟨u2, hL2, q2, c2, m2⟩, hF2⟩ := z
  refine ⟨Int32.toInt_inj.mp (by rcases q1 with ⟨a1, a2, a3⟩ | ⟨a1, a2, a3⟩ <;> rcases q2 with ⟨b1, b2, b3⟩ | ⟨b1, b2, b3⟩ <;> (try rw [a1]) <;> omega), t1, LX_LI hL2 (by rcases q1 with ⟨a1, a2, a3⟩ | ⟨a1, a2, a3⟩ <;> rcases q2 with ⟨b1, b2, b3⟩ | ⟨b1, b2, b3⟩ <;> (try rw [a2]) <;> omega), hF2, LG_of c2 m2⟩
/-- end -/
theorem PR_1 {s : ps_S} {t : Int32} {x1 : Int32} (h : ISt s t) : ps_Cl 299 150 [.ref 0, .int x1] s (ps_rI (fun v s1 => ps_Cl 299 309 [.ref 1131, .int x1] s1 (ps_rI (fun v2 s2 => v = v2 ∧ ∃ t2, ISt s2 t2)))) := by
  have hb := LI_t h.1
  refine ps_monoI (cx_150 h.1 h.2.1) (fun v s1 z => ?_)
  obtain ⟨t1, z, q1⟩ := z
  have hM := IMs_k h z (fun q a c => by omega) (by rcases q1 with ⟨-, e, -⟩ | ⟨-, e, -, e2⟩ <;> (rw [e]; omega))
  have hX := hM.1
  have A2 : ps_Cl 299 309 [.ref 1131, .int x1] s1 (ps_rI (fun v2 s2 => ∃ u2, ((v2.toInt = -1 ∧ u2 = t.toInt ∧ (x1.toInt < 0 ∨ t.toInt < x1.toInt)) ∨ (v2.toInt = x1.toInt ∧ u2 = x1.toInt ∧ 0 ≤ x1.toInt ∧ x1.toInt ≤ t.toInt)) ∧ (u2 = t1.toInt → ISt s2 t1))) := ms_309 (d := 299) hX.2.1 (fun v s2 J2 K2 p0 => ⟨(ps_i s2 1131 3).toInt, by have e3 := hX.2.2.1; omega, fun e => IMs_m hM (LX_mk hX J2 rfl (LX_M hX K2 rfl rfl rfl rfl rfl rfl rfl rfl rfl rfl rfl) (LX_D hX K2 rfl) (LX_F hX K2 rfl)) e J2 K2 rfl rfl (LG_p K2 rfl)⟩)
  refine ps_monoI A2 (fun v2 s2 y => ?_)
  obtain ⟨u2, q2, k⟩ := y
  refine ⟨Int32.toInt_inj.mp (by rcases q1 with ⟨a1, a2, a3⟩ | ⟨a1, a2, a3⟩ <;> rcases q2 with ⟨b1, b2, b3⟩ | ⟨b1, b2, b3⟩ <;> (try rw [a1]) <;> omega), t1, k (by rcases q1 with ⟨a1, a2, a3⟩ | ⟨a1, a2, a3⟩ <;> rcases q2 with ⟨b1, b2, b3⟩ | ⟨b1, b2, b3⟩ <;> (try rw [a2]) <;> omega)⟩
/-- theory -/
def KTc (s : ps_S) (t : Int32) (h0 : tx_H) (l0 : List Nat) (v : Int32) (s1 : ps_S) : Prop := (∃ (h : tx_H) (p : Nat), gt_go (tx_ln (TT s) t.toInt.toNat) (0, (([], []), []), 0, 0) (3, h, p, 0) ∧ v.toInt = h.2.length ∧ TRc s1 h []) ∨ ((∃ (h : tx_H) (pl k : Nat), gt_go (tx_ln (TT s) t.toInt.toNat) (0, (([], []), []), 0, 0) (4, h, pl, k) ∧ v.toInt = -1) ∧ TRc s1 h0 l0)
def KTm (s : ps_S) (t : Int32) (h0 : tx_H) (l0 : List Nat) (v : Int32) (s1 : ps_S) : Prop := (∃ (h : tx_H) (p : Nat), gt_go (tx_ln (TT s) t.toInt.toNat) (0, (([], []), []), 0, 0) (3, h, p, 0) ∧ v.toInt = h.2.length ∧ TRm s1 h []) ∨ ((∃ (h : tx_H) (pl k : Nat), gt_go (tx_ln (TT s) t.toInt.toNat) (0, (([], []), []), 0, 0) (4, h, pl, k) ∧ v.toInt = -1) ∧ TRm s1 h0 l0)
theorem KTc_v {s : ps_S} {t : Int32} {h0 : tx_H} {l0 : List Nat} : pdet (KTc s t h0 l0) := fun v w s1 s2 r1 r2 z => by
  rcases z with ⟨h, p, g, e, c⟩ | ⟨z, c⟩
  · exact Or.inl ⟨h, p, g, e, TRc_det r2 r1 c⟩
  · exact Or.inr ⟨z, TRc_det r2 r1 c⟩
theorem KTm_v {s : ps_S} {t : Int32} {h0 : tx_H} {l0 : List Nat} : pdet (KTm s t h0 l0) := fun v w s1 s2 r1 r2 z => by
  rcases z with ⟨h, p, g, e, c⟩ | ⟨z, c⟩
  · exact Or.inl ⟨h, p, g, e, TRm_det r2 r1 c⟩
  · exact Or.inr ⟨z, TRm_det r2 r1 c⟩
theorem KTm_m {s s1 : ps_S} {t t1 : Int32} {h0 : tx_H} {l0 : List Nat} (hI : LI s t) (hF : LF s t) (J : xJ s t1 s1) (hX : LX s1 t1 t.toInt) (m : TRm s1 h0 l0) (n : Nat) : pl_Cl n 201 [.ref 1131] s1 (ps_rI (fun v s2 => KTm s t h0 l0 v s2)) := by
  have ht := LI_t hI
  have h3 := hX.2.2.1
  obtain ⟨b, m1, m2, m3, m4⟩ := m
  refine fm_201x (b := b) (T := TT s) (N := t.toInt.toNat) m1 m2 (by omega) (by omega) (fun k hk => ?_) (fun v s2 z => ?_) (fun v s2 z => ?_)
  · rw [(J.2.2 1132 (by decide)).2.2.1, ← hF.1 k (by omega)]
    exact bytes_T
  · obtain ⟨⟨h, p, g, e, H, e21, -, -, -, -, -, -, e5, -, -⟩, -⟩ := z
    exact Or.inl ⟨h, p, g, e, 1 - b, by omega, e21, H, ⟨by rw [e5]; rfl, Nat.zero_le _, fun k c hk => by cases hk⟩⟩
  · obtain ⟨⟨h, p, k, g, e, -, -, -, e21, F⟩, V⟩ := z
    exact Or.inr ⟨⟨h, p, k, g, e⟩, b, m1, e21, F.2.1 h0 m3, mv_W_V m4 (fun k a c => V k (by omega))⟩
theorem PR_2 {s : ps_S} {t : Int32} (h : ISt s t) : ps_Cl 299 151 [.ref 0] s (ps_rI (fun v s1 => ps_Cl 299 201 [.ref 1131] s1 (ps_rI (fun v2 s2 => v = v2 ∧ ∃ t2, ISt s2 t2)))) := by
  obtain ⟨hI, hF, hG⟩ := h
  obtain ⟨h0, l0, c, m⟩ := LG_to hG
  have hb := LI_t hI
  have A : ps_Cl 299 151 [.ref 0] s (ps_rI (fun v s1 => yJ s 0 s1)) := ys_151 (d := 259) (LF_J hI hF) (fun v s1 J => J)
  have B : ∀ n, pl_Cl n 151 [.ref 0] s (ps_rI (fun v s1 => KTc s t h0 l0 v s1)) := fun n => pl_At.mono (KT_x hI hF hG n) (fun o s1 z => rI_mono z (fun v y => by
    rcases y with y | ⟨y1, y2⟩
    · exact Or.inl y
    · exact Or.inr ⟨y1, y2 _ _ c⟩))
  refine ps_monoI (ps_andlI A B KTc_v) (fun v s1 z => ?_)
  obtain ⟨J, c1⟩ := z
  have hX : LX s1 0 t.toInt := LI_x hI J.1
  have hF1 : LF s1 0 := LF_x hF J (by rw [Int32.toInt_zero]; exact hb.1)
  have m1 := TRm_x m J.1
  obtain ⟨σ, h4⟩ := hX.2.2.2.1
  have A2 : ps_Cl 299 201 [.ref 1131] s1 (ps_rI (fun _ s2 => LI s2 0 ∧ LF s2 0 ∧ ∀ h l, TRc s1 h l → TRc s2 h l)) := ms_201 (d := 292) hX.2.1 h4 (fun v s2 J2 K2 p0 p1 => ⟨LX_LI (LX_mk hX J2 (p1) (p0) (LX_D hX K2 rfl) (LX_F hX K2 rfl)) rfl, LF_m hF1 J2 K2 rfl rfl rfl rfl rfl, fun _ _ z => TRc_m z J2 K2 rfl⟩)
  have B2 : ∀ n, pl_Cl n 201 [.ref 1131] s1 (ps_rI (fun v s2 => KTm s t h0 l0 v s2)) := fun n => KTm_m hI hF J.1 hX m1 n
  refine ps_monoI (ps_andlI A2 B2 KTm_v) (fun v2 s2 z => ?_)
  obtain ⟨⟨hL, hF2, kc⟩, m2⟩ := z
  rcases c1 with ⟨ha, pa, ga, ea, ca⟩ | ⟨⟨ha, pa, ka, ga, ea⟩, ca⟩ <;> rcases m2 with ⟨hb', pb, gb, eb, mb⟩ | ⟨⟨hb', pb, kb, gb, eb⟩, mb⟩
  · have e := gt_det ga gb rfl rfl
    cases e
    exact ⟨Int32.toInt_inj.mp (by rw [ea, eb]), 0, hL, hF2, LG_of (kc _ _ ca) mb⟩
  · have e := gt_det ga gb rfl rfl
    cases e
  · have e := gt_det ga gb rfl rfl
    cases e
  · exact ⟨Int32.toInt_inj.mp (by rw [ea, eb]), 0, hL, hF2, LG_of (kc _ _ ca) mb⟩
/-- read -/
def KRc (s : ps_S) (t : Int32) (h0 : tx_H) (v : Int32) (s1 : ps_S) : Prop := (∃ l, rd_ok (TT s) t.toInt.toNat (h0.1, false) 1 l ∧ v.toInt = l.length ∧ cv_W s1 934 l) ∨ ((∃ k pl, rd_bad (TT s) t.toInt.toNat (h0.1, false) 1 k pl) ∧ v.toInt = -1 ∧ cv_W s1 934 [])
def KRm (s : ps_S) (t : Int32) (h0 : tx_H) (v : Int32) (s1 : ps_S) : Prop := (∃ l, rd_ok (TT s) t.toInt.toNat (h0.1, false) 1 l ∧ v.toInt = l.length ∧ TRm s1 h0 l) ∨ ((∃ k pl, rd_bad (TT s) t.toInt.toNat (h0.1, false) 1 k pl) ∧ v.toInt = -1 ∧ TRm s1 h0 [])
theorem KRc_v {s : ps_S} {t : Int32} {h0 : tx_H} : pdet (KRc s t h0) := fun v w s1 s2 r1 r2 z => by
  rcases z with ⟨l, g, e, c⟩ | ⟨z, e, c⟩
  · exact Or.inl ⟨l, g, e, cv_W_det r2 r1 (by decide) rfl rfl c⟩
  · exact Or.inr ⟨z, e, cv_W_det r2 r1 (by decide) rfl rfl c⟩
theorem KRm_v {s : ps_S} {t : Int32} {h0 : tx_H} : pdet (KRm s t h0) := fun v w s1 s2 r1 r2 z => by
  rcases z with ⟨l, g, e, c⟩ | ⟨z, e, c⟩
  · exact Or.inl ⟨l, g, e, TRm_det r2 r1 c⟩
  · exact Or.inr ⟨z, e, TRm_det r2 r1 c⟩
theorem TRm_po {s s' : ps_S} {h0 : tx_H} {l l' : List Nat} (m : TRm s h0 l) (K : kq [1133, 1134, 1143, 1144, 1145, 1146, 1147, 1148] [3, 4, 5, 6, 7, 8, 9, 10, 11, 22, 23, 29, 30, 31, 32] s s') (P : mv_po 25748 s s') (W : mv_W s' 25748 l') : TRm s' h0 l' := by
  obtain ⟨b, m1, m2, m3, m4⟩ := m
  exact ⟨b, m1, by rw [kq_i K 21 rfl]; exact m2, mv_H_V m1 m3 (fun r hr => kq_a K r ((show ∀ r, r ∈ [1135, 1136, 1137, 1138, 1139] → [1133, 1134, 1143, 1144, 1145, 1146, 1147, 1148].contains r = false by decide) r hr)) (fun r hr => kq_b K r ((show ∀ r, r ∈ [1140, 1141, 1142] → [1133, 1134, 1143, 1144, 1145, 1146, 1147, 1148].contains r = false by decide) r hr)) (fun k a b => P k (by omega)), W⟩
theorem PR_13 {s : ps_S} {t : Int32} (h : ISt s t) : ps_Cl 299 162 [.ref 0] s (ps_rI (fun v s1 => ps_Cl 299 274 [.ref 1131] s1 (ps_rI (fun v2 s2 => v = v2 ∧ ∃ t2, ISt s2 t2)))) := by
  obtain ⟨hI, hF, hG⟩ := h
  obtain ⟨h0, l0, c, m⟩ := LG_to hG
  have hb := LI_t hI
  have e : ps_i s 0 1 = t := hI.2.1.2.1
  have hth : ps_r s 0 2 = 2 ∨ ps_r s 0 2 = 26 := hF.2.2.2.2.1
  have B : ∀ n, pl_Cl n 162 [.ref 0] s (ps_rI (fun v s1 => KRc s t h0 v s1)) := fun n => fs_162 (th := ps_r s 0 2) (T := TT s) (N := t.toInt.toNat) hth rfl c.1.1 (by rw [e]; omega) (by omega) (fun k _ => bytes_T) hF.2.1 (fun v s1 l z1 z2 z3 _ _ => Or.inl ⟨l, z1, z2, z3⟩) (fun s1 k pl z1 z3 _ _ _ => Or.inr ⟨⟨k, pl, z1⟩, by decide, z3⟩)
  refine ps_monoI (ps_andlI (cx_162 hI hF) B KRc_v) (fun v s1 z => ?_)
  obtain ⟨J, c1⟩ := z
  have hX : LX s1 0 t.toInt := LI_x hI J.1
  have hF1 : LF s1 0 := LF_k hF J (by unfold C162; omega) (by unfold C162; omega) (by unfold C162; omega) (by rw [Int32.toInt_zero]; exact hb.1)
  have m1 := TRm_x m J.1
  have c1a : cv_H s1 (ps_r s1 0 2) h0 ∧ ((ps_r s1 0 2 = 2 ∧ ps_r s1 0 3 = 26) ∨ (ps_r s1 0 2 = 26 ∧ ps_r s1 0 3 = 2)) := by
    obtain ⟨d1, d2, d3⟩ := c
    have hl := d1.2.2.1
    obtain ⟨-, F, ⟨r2, r3⟩, -⟩ := J
    exact ⟨by rw [r2]; exact cv_H_cfr d1 F (fun q a b => by unfold C162; omega), by rw [r2, r3]; exact d2⟩
  obtain ⟨σ, h4⟩ := hX.2.2.2.1
  have A2 : ps_Cl 299 274 [.ref 1131] s1 (ps_rI (fun _ s2 => LI s2 0 ∧ LF s2 0 ∧ ∀ h l, TRc s1 h l → TRc s2 h l)) := ms_274 (d := 293) hX.2.1 h4 (fun v s2 J2 K2 p0 p1 => ⟨LX_LI (LX_mk hX J2 (p1) (⟨σ, p0⟩) (LX_D hX K2 rfl) (LX_F hX K2 rfl)) rfl, LF_m hF1 J2 K2 rfl rfl rfl rfl rfl, fun _ _ z => TRc_m z J2 K2 rfl⟩)
  have B2 : ∀ n, pl_Cl n 274 [.ref 1131] s1 (ps_rI (fun v s2 => KRm s t h0 v s2)) := fun n => by
    obtain ⟨b, y1, y2, y3, y4⟩ := id m1
    have h3 := hX.2.2.1
    refine fm_274 (b := b) (T := TT s) (N := t.toInt.toNat) y1 y2 y3.1 (by omega) (by omega) (fun k hk => ?_) (fun v s2 l z1 z2 z3 z4 => Or.inl ⟨l, z1, z2, TRm_po m1 z4.2.1 z4.2.2.1 z3⟩) (fun s2 z3 z4 => ?_)
    · rw [(J.1.2.2 1132 (by decide)).2.2.1, ← hF.1 k (by omega)]
      exact bytes_T
    · obtain ⟨⟨k, pl, z1, -, -⟩, z5⟩ := z4
      exact Or.inr ⟨⟨k, pl, z1⟩, by decide, TRm_po m1 z5.1 z5.2.1 z3⟩
  refine ps_monoI (ps_andlI A2 B2 KRm_v) (fun v2 s2 z => ?_)
  obtain ⟨⟨hL, hF2, kc⟩, m2⟩ := z
  rcases c1 with ⟨la, ga, ea, ca⟩ | ⟨⟨ka, pa, ga⟩, ea, ca⟩ <;> rcases m2 with ⟨lb, gb, eb, mb⟩ | ⟨⟨kb, pb, gb⟩, eb, mb⟩
  · have e := rd_oo ga gb
    subst e
    exact ⟨Int32.toInt_inj.mp (by rw [ea, eb]), 0, hL, hF2, LG_of (kc _ _ ⟨c1a.1, c1a.2, ca⟩) mb⟩
  · exact (rd_ob ga gb).elim
  · exact (rd_ob gb ga).elim
  · exact ⟨Int32.toInt_inj.mp (by rw [ea, eb]), 0, hL, hF2, LG_of (kc _ _ ⟨c1a.1, c1a.2, ca⟩) mb⟩
/-- piece -/
theorem pc_x {n : Nat} {s : ps_S} {h : tx_H} {l : List Nat} {x1 : Int32} (c : TRc s h l) : pl_Cl n 163 [.ref 0, .int x1] s (ps_rI (fun v _ => pc_is l x1 v)) := fs_163 c.2.2 (fun v z => z)
theorem pc_m {n : Nat} {s : ps_S} {h : tx_H} {l : List Nat} {x1 : Int32} (m : TRm s h l) : pl_Cl n 275 [.ref 1131, .int x1] s (ps_rI (fun v _ => pc_is l x1 v)) := by
  obtain ⟨b, -, -, -, m4⟩ := m
  exact fm_275 m4 (fun v z => z)

theorem PR_3 {s : ps_S} {t : Int32} {x1 : Int32} (h : ISt s t) : ps_Cl 299 152 [.ref 0, .int x1] s (ps_rI (fun _ s1 => ps_Cl 299 199 [.ref 1131, .int x1] s1 (ps_rI (fun _ s2 => ∃ t2, ISt s2 t2)))) :=
  ps_monoI (cx_152 h.1 h.2.1) (fun v s1 z => ps_monoI (cm_199 (IMs_k h z (fun q a c => c.elim) (Int.le_refl _)) rfl) (fun v2 s2 z2 => ⟨_, z2⟩))
theorem PR_4 {s : ps_S} {t : Int32}  (h : ISt s t) : ps_Cl 299 153 [.ref 0] s (ps_rI (fun _ s1 => ps_Cl 299 240 [.ref 1131] s1 (ps_rI (fun _ s2 => ∃ t2, ISt s2 t2)))) :=
  ps_monoI (cx_153 h.1 h.2.1) (fun v s1 z => ps_monoI (cm_240 (IMs_k h z (fun q a c => by unfold C153 at c; omega) (by rw [Int32.toInt_zero]; exact (LI_t h.1).1)) rfl) (fun v2 s2 z2 => ⟨_, z2⟩))
theorem PR_5 {s : ps_S} {t : Int32} {x1 : Int32} (h : ISt s t) : ps_Cl 299 154 [.ref 0, .int x1] s (ps_rI (fun _ s1 => ps_Cl 299 261 [.ref 1131, .int x1] s1 (ps_rI (fun _ s2 => ∃ t2, ISt s2 t2)))) :=
  ps_monoI (cx_154 h.1 h.2.1) (fun v s1 z => ps_monoI (cm_261 (IMs_k h z (fun q a c => c.elim) (Int.le_refl _)) rfl) (fun v2 s2 z2 => ⟨_, z2⟩))
theorem PR_6 {s : ps_S} {t : Int32} {x1 : Int32} {x2 : Int32} (h : ISt s t) : ps_Cl 299 155 [.ref 0, .int x1, .int x2] s (ps_rI (fun _ s1 => ps_Cl 299 263 [.ref 1131, .int x1, .int x2] s1 (ps_rI (fun _ s2 => ∃ t2, ISt s2 t2)))) :=
  ps_monoI (cx_155 h.1 h.2.1) (fun v s1 z => ps_monoI (cm_263 (IMs_k h z (fun q a c => c.elim) (Int.le_refl _)) rfl) (fun v2 s2 z2 => ⟨_, z2⟩))
theorem PR_7 {s : ps_S} {t : Int32} {x1 : Int32} {x2 : Int32} (h : ISt s t) : ps_Cl 299 156 [.ref 0, .int x1, .int x2] s (ps_rI (fun _ s1 => ps_Cl 299 265 [.ref 1131, .int x1, .int x2] s1 (ps_rI (fun _ s2 => ∃ t2, ISt s2 t2)))) :=
  ps_monoI (cx_156 h.1 h.2.1) (fun v s1 z => ps_monoI (cm_265 (IMs_k h z (fun q a c => c.elim) (Int.le_refl _)) rfl) (fun v2 s2 z2 => ⟨_, z2⟩))
theorem PR_8 {s : ps_S} {t : Int32} {x1 : Int32} {x2 : Int32} {x3 : Int32} (h : ISt s t) : ps_Cl 299 157 [.ref 0, .int x1, .int x2, .int x3] s (ps_rI (fun _ s1 => ps_Cl 299 266 [.ref 1131, .int x1, .int x2, .int x3] s1 (ps_rI (fun _ s2 => ∃ t2, ISt s2 t2)))) :=
  ps_monoI (cx_157 h.1 h.2.1) (fun v s1 z => ps_monoI (cm_266 (IMs_k h z (fun q a c => c.elim) (Int.le_refl _)) rfl) (fun v2 s2 z2 => ⟨_, z2⟩))
theorem PR_9 {s : ps_S} {t : Int32}  (h : ISt s t) : ps_Cl 299 158 [.ref 0] s (ps_rI (fun _ s1 => ps_Cl 299 268 [.ref 1131] s1 (ps_rI (fun _ s2 => ∃ t2, ISt s2 t2)))) :=
  ps_monoI (cx_158 h.1 h.2.1) (fun v s1 z => ps_monoI (cm_268 (IMs_k h z (fun q a c => by unfold C158 at c; omega) (Int.le_refl _)) rfl) (fun v2 s2 z2 => ⟨_, z2⟩))
theorem PR_10 {s : ps_S} {t : Int32} {x1 : Int32} {x2 : Int32} (h : ISt s t) : ps_Cl 299 159 [.ref 0, .int x1, .int x2] s (ps_rI (fun _ s1 => ps_Cl 299 269 [.ref 1131, .int x1, .int x2] s1 (ps_rI (fun _ s2 => ∃ t2, ISt s2 t2)))) :=
  ps_monoI (cx_159 h.1 h.2.1) (fun v s1 z => ps_monoI (cm_269 (IMs_k h z (fun q a c => c.elim) (Int.le_refl _)) rfl) (fun v2 s2 z2 => ⟨_, z2⟩))
theorem PR_11 {s : ps_S} {t : Int32} {x1 : Int32} {x2 : Int32} (h : ISt s t) : ps_Cl 299 160 [.ref 0, .int x1, .int x2] s (ps_rI (fun _ s1 => ps_Cl 299 271 [.ref 1131, .int x1, .int x2] s1 (ps_rI (fun _ s2 => ∃ t2, ISt s2 t2)))) :=
  ps_monoI (cx_160 h.1 h.2.1) (fun v s1 z => ps_monoI (cm_271 (IMs_k h z (fun q a c => c.elim) (Int.le_refl _)) rfl) (fun v2 s2 z2 => ⟨_, z2⟩))
theorem PR_12 {s : ps_S} {t : Int32}  (h : ISt s t) : ps_Cl 299 161 [.ref 0] s (ps_rI (fun _ s1 => ps_Cl 299 273 [.ref 1131] s1 (ps_rI (fun _ s2 => ∃ t2, ISt s2 t2)))) :=
  ps_monoI (cx_161 h.1 h.2.1) (fun v s1 z => ps_monoI (cm_273 (IMs_k h z (fun q a c => by unfold C161 at c; omega) (Int.le_refl _)) rfl) (fun v2 s2 z2 => ⟨_, z2⟩))
theorem PR_14 {s : ps_S} {t : Int32} {x1 : Int32} (h : ISt s t) : ps_Cl 299 163 [.ref 0, .int x1] s (ps_rI (fun v s1 => ps_Cl 299 275 [.ref 1131, .int x1] s1 (ps_rI (fun v2 s2 => v = v2 ∧ ∃ t2, ISt s2 t2)))) := by
  obtain ⟨g, l, c, m⟩ := LG_to h.2.2
  have wfc := WF_of (LI_LX h.1) m
  refine ps_monoI (ps_andlI (g := fun v _ => pc_is l x1 v) (cx_163 h.1 h.2.1) (fun n => pc_x c) pdet_v) (fun v s1 z => ?_)
  obtain ⟨z, e⟩ := z
  have m1 := TRm_x m z.1
  exact ps_monoI (ps_andlI (g := fun v _ => pc_is l x1 v) (cm_275 (IMs_k h z (fun q a c => c.elim) (Int.le_refl _)) rfl) (fun n => pc_m m1) pdet_v) (fun v2 s2 z2 => ⟨pc_eq e z2.2, _, z2.1⟩)
theorem PR_15 {s : ps_S} {t : Int32}  (h : ISt s t) : ps_Cl 299 164 [.ref 0] s (ps_rI (fun _ s1 => ps_Cl 299 276 [.ref 1131] s1 (ps_rI (fun _ s2 => ∃ t2, ISt s2 t2)))) :=
  ps_monoI (cx_164 h.1 h.2.1) (fun v s1 z => ps_monoI (cm_276 (IMs_k h z (fun q a c => c.elim) (Int.le_refl _)) rfl) (fun v2 s2 z2 => ⟨_, z2⟩))
theorem PR_16 {s : ps_S} {t : Int32} {x1 : Int32} (h : ISt s t) : ps_Cl 299 165 [.ref 0, .int x1] s (ps_rJ (fun _ s1 => ps_Cl 299 267 [.ref 1131, .int x1] s1 (ps_rJ (fun _ s2 => ∃ t2, ISt s2 t2)))) :=
  ps_monoJ (cx_165 h.1 h.2.1) (fun v s1 z => ps_monoJ (cm_267 (IMs_k h z (fun q a c => c.elim) (Int.le_refl _)) rfl) (fun v2 s2 z2 => ⟨_, z2⟩))
theorem PR_17 {s : ps_S} {t : Int32}  (h : ISt s t) : ps_Cl 299 166 [.ref 0] s (ps_rI (fun v s1 => ps_Cl 299 280 [.ref 1131] s1 (ps_rI (fun v2 s2 => v = v2 ∧ ∃ t2, ISt s2 t2)))) := by
  obtain ⟨g, l, c, m⟩ := LG_to h.2.2
  have wfc := WF_of (LI_LX h.1) m
  refine ps_monoI (ps_andlI (g := fun v _ => lt_A 0 g.1 l v) (cx_166 h.1 h.2.1) (fun n => fs_166 c wfc.2) pdet_v) (fun v s1 z => ?_)
  obtain ⟨z, e⟩ := z
  have m1 := TRm_x m z.1
  exact ps_monoI (ps_andlI (g := fun v _ => lt_A 0 g.1 l v) (cm_280 (IMs_k h z (fun q a c => by unfold C166 at c; omega) (Int.le_refl _)) rfl) (fun n => fm_280 m1 wfc.2) pdet_v) (fun v2 s2 z2 => ⟨lt_A_eq e z2.2, _, z2.1⟩)
theorem PR_18 {s : ps_S} {t : Int32}  (h : ISt s t) : ps_Cl 299 167 [.ref 0] s (ps_rI (fun v s1 => ps_Cl 299 281 [.ref 1131] s1 (ps_rI (fun v2 s2 => v = v2 ∧ ∃ t2, ISt s2 t2)))) := by
  obtain ⟨g, l, c, m⟩ := LG_to h.2.2
  have wfc := WF_of (LI_LX h.1) m
  refine ps_monoI (ps_andlI (g := fun v _ => lt_A 1 g.1 l v) (cx_167 h.1 h.2.1) (fun n => fs_167 c wfc.2) pdet_v) (fun v s1 z => ?_)
  obtain ⟨z, e⟩ := z
  have m1 := TRm_x m z.1
  exact ps_monoI (ps_andlI (g := fun v _ => lt_A 1 g.1 l v) (cm_281 (IMs_k h z (fun q a c => by unfold C166 at c; omega) (Int.le_refl _)) rfl) (fun n => fm_281 m1 wfc.2) pdet_v) (fun v2 s2 z2 => ⟨lt_A_eq e z2.2, _, z2.1⟩)
theorem PR_19 {s : ps_S} {t : Int32}  (h : ISt s t) : ps_Cl 299 168 [.ref 0] s (ps_rI (fun v s1 => ps_Cl 299 282 [.ref 1131] s1 (ps_rI (fun v2 s2 => v = v2 ∧ ∃ t2, ISt s2 t2)))) := by
  obtain ⟨g, l, c, m⟩ := LG_to h.2.2
  have wfc := WF_of (LI_LX h.1) m
  refine ps_monoI (ps_andlI (g := fun v _ => lt_A 2 g.1 l v) (cx_168 h.1 h.2.1) (fun n => fs_168 c wfc.2) pdet_v) (fun v s1 z => ?_)
  obtain ⟨z, e⟩ := z
  have m1 := TRm_x m z.1
  exact ps_monoI (ps_andlI (g := fun v _ => lt_A 2 g.1 l v) (cm_282 (IMs_k h z (fun q a c => by unfold C166 at c; omega) (Int.le_refl _)) rfl) (fun n => fm_282 m1 wfc.2) pdet_v) (fun v2 s2 z2 => ⟨lt_A_eq e z2.2, _, z2.1⟩)
theorem PR_20 {s : ps_S} {t : Int32}  (h : ISt s t) : ps_Cl 299 169 [.ref 0] s (ps_rI (fun _ s1 => ps_Cl 299 288 [.ref 1131] s1 (ps_rI (fun _ s2 => ∃ t2, ISt s2 t2)))) :=
  ps_monoI (cx_169 h.1 h.2.1) (fun v s1 z => ps_monoI (cm_288 (IMs_k h z (fun q a c => by unfold C169 at c; omega) (by rw [Int32.toInt_zero]; exact (LI_t h.1).1)) rfl) (fun v2 s2 z2 => ⟨_, z2⟩))
theorem PR_21 {s : ps_S} {t : Int32} {x1 : Int32} (h : ISt s t) : ps_Cl 299 170 [.ref 0, .int x1] s (ps_rI (fun _ s1 => ps_Cl 299 289 [.ref 1131, .int x1] s1 (ps_rI (fun _ s2 => ∃ t2, ISt s2 t2)))) :=
  ps_monoI (cx_170 h.1 h.2.1) (fun v s1 z => ps_monoI (cm_289 (IMs_k h z (fun q a c => c.elim) (Int.le_refl _)) rfl) (fun v2 s2 z2 => ⟨_, z2⟩))
theorem PR_22 {s : ps_S} {t : Int32}  (h : ISt s t) : ps_Cl 299 171 [.ref 0] s (ps_rI (fun v s1 => ps_Cl 299 285 [.ref 1131] s1 (ps_rI (fun v2 s2 => v = v2 ∧ ∃ t2, ISt s2 t2)))) := by
  obtain ⟨g, l, c, m⟩ := LG_to h.2.2
  have wfc := WF_of (LI_LX h.1) m
  refine ps_monoI (ps_andlI (g := fun v _ => rl_A g v) (cx_171 h.1 h.2.1) (fun n => fs_171 c wfc.1) pdet_v) (fun v s1 z => ?_)
  obtain ⟨z, e⟩ := z
  have m1 := TRm_x m z.1
  exact ps_monoI (ps_andlI (g := fun v _ => rl_A g v) (cm_285 (IMs_k h z (fun q a c => by unfold C171 at c; omega) (Int.le_refl _)) rfl) (fun n => fm_285 m1 wfc.1) pdet_v) (fun v2 s2 z2 => ⟨rl_A_eq e z2.2, _, z2.1⟩)
theorem PR_23 {s : ps_S} {t : Int32} {x1 : Int32} (h : ISt s t) : ps_Cl 299 172 [.ref 0, .int x1] s (ps_rI (fun v s1 => ps_Cl 299 301 [.ref 1131, .int x1] s1 (ps_rI (fun v2 s2 => v = v2 ∧ ∃ t2, ISt s2 t2)))) := by
  obtain ⟨g, l, c, m⟩ := LG_to h.2.2
  have wfc := WF_of (LI_LX h.1) m
  refine ps_monoI (ps_andlI (g := fun v _ => md_A g.1 x1 v) (cx_172 h.1 h.2.1) (fun n => fs_172 c) pdet_v) (fun v s1 z => ?_)
  obtain ⟨z, e⟩ := z
  have m1 := TRm_x m z.1
  exact ps_monoI (ps_andlI (g := fun v _ => md_A g.1 x1 v) (cm_301 (IMs_k h z (fun q a c => by unfold C172 at c; omega) (Int.le_refl _)) rfl) (fun n => fm_301a m1) pdet_v) (fun v2 s2 z2 => ⟨md_A_eq e z2.2, _, z2.1⟩)
theorem PR_24 {s : ps_S} {t : Int32} {x1 : Int32} (h : ISt s t) : ps_Cl 299 173 [.ref 0, .int x1] s (ps_rI (fun _ s1 => ps_Cl 299 302 [.ref 1131, .int x1] s1 (ps_rI (fun _ s2 => ∃ t2, ISt s2 t2)))) :=
  ps_monoI (cx_173 h.1 h.2.1) (fun v s1 z => ps_monoI (cm_302 (IMs_k h z (fun q a c => by unfold C172 at c; omega) (Int.le_refl _)) rfl) (fun v2 s2 z2 => ⟨_, z2⟩))
theorem PR_25 {s : ps_S} {t : Int32} {x1 : Int32} {x2 : Int32} (h : ISt s t) : ps_Cl 299 174 [.ref 0, .int x1, .int x2] s (ps_rI (fun _ s1 => ps_Cl 299 303 [.ref 1131, .int x1, .int x2] s1 (ps_rI (fun _ s2 => ∃ t2, ISt s2 t2)))) :=
  ps_monoI (cx_174 h.1 h.2.1) (fun v s1 z => ps_monoI (cm_303 (IMs_k h z (fun q a c => by unfold C172 at c; omega) (Int.le_refl _)) rfl) (fun v2 s2 z2 => ⟨_, z2⟩))
theorem PR_26 {s : ps_S} {t : Int32} {x1 : Int32} (h : ISt s t) : ps_Cl 299 175 [.ref 0, .int x1] s (ps_rI (fun _ s1 => ps_Cl 299 304 [.ref 1131, .int x1] s1 (ps_rI (fun _ s2 => ∃ t2, ISt s2 t2)))) :=
  ps_monoI (cx_175 h.1 h.2.1) (fun v s1 z => ps_monoI (cm_304 (IMs_k h z (fun q a c => by unfold C172 at c; omega) (Int.le_refl _)) rfl) (fun v2 s2 z2 => ⟨_, z2⟩))
theorem PR_27 {s : ps_S} {t : Int32} {x1 : Int32} (h : ISt s t) : ps_Cl 299 176 [.ref 0, .int x1] s (ps_rI (fun _ s1 => ps_Cl 299 305 [.ref 1131, .int x1] s1 (ps_rI (fun _ s2 => ∃ t2, ISt s2 t2)))) :=
  ps_monoI (cx_176 h.1 h.2.1) (fun v s1 z => ps_monoI (cm_305 (IMs_k h z (fun q a c => by unfold C176 at c; omega) (Int.le_refl _)) rfl) (fun v2 s2 z2 => ⟨_, z2⟩))
theorem PR_28 {s : ps_S} {t : Int32} {x1 : Int32} (h : ISt s t) : ps_Cl 299 177 [.ref 0, .int x1] s (ps_rI (fun _ s1 => ps_Cl 299 306 [.ref 1131, .int x1] s1 (ps_rI (fun _ s2 => ∃ t2, ISt s2 t2)))) :=
  ps_monoI (cx_177 h.1 h.2.1) (fun v s1 z => ps_monoI (cm_306 (IMs_k h z (fun q a c => by unfold C161 at c; omega) (Int.le_refl _)) rfl) (fun v2 s2 z2 => ⟨_, z2⟩))
theorem PR_29 {s : ps_S} {t : Int32} {x1 : Int32} (h : ISt s t) : ps_Cl 299 178 [.ref 0, .int x1] s (ps_rI (fun _ s1 => ps_Cl 299 307 [.ref 1131, .int x1] s1 (ps_rI (fun _ s2 => ∃ t2, ISt s2 t2)))) :=
  ps_monoI (cx_178 h.1 h.2.1) (fun v s1 z => ps_monoI (cm_307 (IMs_k h z (fun q a c => c.elim) (Int.le_refl _)) rfl) (fun v2 s2 z2 => ⟨_, z2⟩))
end
section
set_option maxRecDepth 100000
theorem l6_op0 {L : Nat} {xs : Nat → Int32} {x3 t : Int32} {w : pm_W} {s : ps_S} {Q : Option Value → pm_W → Prop} (ha : ∀ (k : Int32) (_ : pm_in k 6 = true), pm_in (x3 + k) L = true) (hw : ps_R w s) (h : ISt s t) (K : ∀ (w' : pm_W) (s' : ps_S) (t' : Int32), ps_R w' s' → ISt s' t' → pm_H (some (L, xs)) 300 310 858 [(3, .int x3), (2, .ref 1131), (1, .ref 0), (0, .ref pm_SC)] [] w' Q) : pm_H (some (L, xs)) 300 310 168 [(3, .int x3), (2, .ref 1131), (1, .ref 0), (0, .ref pm_SC)] [] w Q := by
  refine pm_H.go (pc' := 169) (st' := [.ref 0]) rfl rfl rfl rfl ?_
  refine pm_H.go (pc' := 170) (st' := [.ref pm_SC, .ref 0]) rfl rfl rfl rfl ?_
  refine pm_H.go (pc' := 171) (st' := [.int x3, .ref pm_SC, .ref 0]) rfl rfl rfl rfl ?_
  refine pm_H.go (pc' := 172) (st' := [.int 1, .int x3, .ref pm_SC, .ref 0]) rfl rfl rfl rfl ?_
  refine pm_H.go (pc' := 173) (st' := [.int (x3 + 1), .ref pm_SC, .ref 0]) rfl rfl rfl rfl ?_
  refine pm_H.sld (i := (x3 + 1)) rfl rfl (ha 1 rfl) ?_
  refine pm_H.go (pc' := 175) (st' := [.ref pm_SC, .int (xs (Int32.toNatClampNeg (x3 + 1))), .ref 0]) rfl rfl rfl rfl ?_
  refine pm_H.go (pc' := 176) (st' := [.int x3, .ref pm_SC, .int (xs (Int32.toNatClampNeg (x3 + 1))), .ref 0]) rfl rfl rfl rfl ?_
  refine pm_H.go (pc' := 177) (st' := [.int 2, .int x3, .ref pm_SC, .int (xs (Int32.toNatClampNeg (x3 + 1))), .ref 0]) rfl rfl rfl rfl ?_
  refine pm_H.go (pc' := 178) (st' := [.int (x3 + 2), .ref pm_SC, .int (xs (Int32.toNatClampNeg (x3 + 1))), .ref 0]) rfl rfl rfl rfl ?_
  refine pm_H.sld (i := (x3 + 2)) rfl rfl (ha 2 rfl) ?_
  refine pm_H.go (pc' := 180) (st' := [.ref pm_SC, .int (xs (Int32.toNatClampNeg (x3 + 2))), .int (xs (Int32.toNatClampNeg (x3 + 1))), .ref 0]) rfl rfl rfl rfl ?_
  refine pm_H.go (pc' := 181) (st' := [.int x3, .ref pm_SC, .int (xs (Int32.toNatClampNeg (x3 + 2))), .int (xs (Int32.toNatClampNeg (x3 + 1))), .ref 0]) rfl rfl rfl rfl ?_
  refine pm_H.go (pc' := 182) (st' := [.int 3, .int x3, .ref pm_SC, .int (xs (Int32.toNatClampNeg (x3 + 2))), .int (xs (Int32.toNatClampNeg (x3 + 1))), .ref 0]) rfl rfl rfl rfl ?_
  refine pm_H.go (pc' := 183) (st' := [.int (x3 + 3), .ref pm_SC, .int (xs (Int32.toNatClampNeg (x3 + 2))), .int (xs (Int32.toNatClampNeg (x3 + 1))), .ref 0]) rfl rfl rfl rfl ?_
  refine pm_H.sld (i := (x3 + 3)) rfl rfl (ha 3 rfl) ?_
  refine pm_H.go (pc' := 185) (st' := [.ref pm_SC, .int (xs (Int32.toNatClampNeg (x3 + 3))), .int (xs (Int32.toNatClampNeg (x3 + 2))), .int (xs (Int32.toNatClampNeg (x3 + 1))), .ref 0]) rfl rfl rfl rfl ?_
  refine pm_H.go (pc' := 186) (st' := [.int x3, .ref pm_SC, .int (xs (Int32.toNatClampNeg (x3 + 3))), .int (xs (Int32.toNatClampNeg (x3 + 2))), .int (xs (Int32.toNatClampNeg (x3 + 1))), .ref 0]) rfl rfl rfl rfl ?_
  refine pm_H.go (pc' := 187) (st' := [.int 4, .int x3, .ref pm_SC, .int (xs (Int32.toNatClampNeg (x3 + 3))), .int (xs (Int32.toNatClampNeg (x3 + 2))), .int (xs (Int32.toNatClampNeg (x3 + 1))), .ref 0]) rfl rfl rfl rfl ?_
  refine pm_H.go (pc' := 188) (st' := [.int (x3 + 4), .ref pm_SC, .int (xs (Int32.toNatClampNeg (x3 + 3))), .int (xs (Int32.toNatClampNeg (x3 + 2))), .int (xs (Int32.toNatClampNeg (x3 + 1))), .ref 0]) rfl rfl rfl rfl ?_
  refine pm_H.sld (i := (x3 + 4)) rfl rfl (ha 4 rfl) ?_
  refine pm_H.go (pc' := 190) (st' := [.ref pm_SC, .int (xs (Int32.toNatClampNeg (x3 + 4))), .int (xs (Int32.toNatClampNeg (x3 + 3))), .int (xs (Int32.toNatClampNeg (x3 + 2))), .int (xs (Int32.toNatClampNeg (x3 + 1))), .ref 0]) rfl rfl rfl rfl ?_
  refine pm_H.go (pc' := 191) (st' := [.int x3, .ref pm_SC, .int (xs (Int32.toNatClampNeg (x3 + 4))), .int (xs (Int32.toNatClampNeg (x3 + 3))), .int (xs (Int32.toNatClampNeg (x3 + 2))), .int (xs (Int32.toNatClampNeg (x3 + 1))), .ref 0]) rfl rfl rfl rfl ?_
  refine pm_H.go (pc' := 192) (st' := [.int 5, .int x3, .ref pm_SC, .int (xs (Int32.toNatClampNeg (x3 + 4))), .int (xs (Int32.toNatClampNeg (x3 + 3))), .int (xs (Int32.toNatClampNeg (x3 + 2))), .int (xs (Int32.toNatClampNeg (x3 + 1))), .ref 0]) rfl rfl rfl rfl ?_
  refine pm_H.go (pc' := 193) (st' := [.int (x3 + 5), .ref pm_SC, .int (xs (Int32.toNatClampNeg (x3 + 4))), .int (xs (Int32.toNatClampNeg (x3 + 3))), .int (xs (Int32.toNatClampNeg (x3 + 2))), .int (xs (Int32.toNatClampNeg (x3 + 1))), .ref 0]) rfl rfl rfl rfl ?_
  refine pm_H.sld (i := (x3 + 5)) rfl rfl (ha 5 rfl) ?_
  refine l2_call (c := 11) (q := 0) rfl rfl rfl (by decide) rfl (by decide) hw (by decide) rfl rfl rfl (PR_0 h) (fun o w1 s1 hw1 hp => ?_)
  obtain ⟨v1, rfl, hp⟩ := l2_int hp
  show pm_H (some (L, xs)) 300 310 197 [(3, .int x3), (2, .ref 1131), (1, .ref 0), (0, .ref pm_SC)] [.int v1] w1 Q
  refine pm_H.go (pc' := 198) (st' := []) rfl rfl rfl rfl ?_
  refine pm_H.go (pc' := 199) (st' := [.ref 1131]) rfl rfl rfl rfl ?_
  refine pm_H.go (pc' := 200) (st' := [.ref pm_SC, .ref 1131]) rfl rfl rfl rfl ?_
  refine pm_H.go (pc' := 201) (st' := [.int x3, .ref pm_SC, .ref 1131]) rfl rfl rfl rfl ?_
  refine pm_H.go (pc' := 202) (st' := [.int 1, .int x3, .ref pm_SC, .ref 1131]) rfl rfl rfl rfl ?_
  refine pm_H.go (pc' := 203) (st' := [.int (x3 + 1), .ref pm_SC, .ref 1131]) rfl rfl rfl rfl ?_
  refine pm_H.sld (i := (x3 + 1)) rfl rfl (ha 1 rfl) ?_
  refine pm_H.go (pc' := 205) (st' := [.ref pm_SC, .int (xs (Int32.toNatClampNeg (x3 + 1))), .ref 1131]) rfl rfl rfl rfl ?_
  refine pm_H.go (pc' := 206) (st' := [.int x3, .ref pm_SC, .int (xs (Int32.toNatClampNeg (x3 + 1))), .ref 1131]) rfl rfl rfl rfl ?_
  refine pm_H.go (pc' := 207) (st' := [.int 2, .int x3, .ref pm_SC, .int (xs (Int32.toNatClampNeg (x3 + 1))), .ref 1131]) rfl rfl rfl rfl ?_
  refine pm_H.go (pc' := 208) (st' := [.int (x3 + 2), .ref pm_SC, .int (xs (Int32.toNatClampNeg (x3 + 1))), .ref 1131]) rfl rfl rfl rfl ?_
  refine pm_H.sld (i := (x3 + 2)) rfl rfl (ha 2 rfl) ?_
  refine pm_H.go (pc' := 210) (st' := [.ref pm_SC, .int (xs (Int32.toNatClampNeg (x3 + 2))), .int (xs (Int32.toNatClampNeg (x3 + 1))), .ref 1131]) rfl rfl rfl rfl ?_
  refine pm_H.go (pc' := 211) (st' := [.int x3, .ref pm_SC, .int (xs (Int32.toNatClampNeg (x3 + 2))), .int (xs (Int32.toNatClampNeg (x3 + 1))), .ref 1131]) rfl rfl rfl rfl ?_
  refine pm_H.go (pc' := 212) (st' := [.int 3, .int x3, .ref pm_SC, .int (xs (Int32.toNatClampNeg (x3 + 2))), .int (xs (Int32.toNatClampNeg (x3 + 1))), .ref 1131]) rfl rfl rfl rfl ?_
  refine pm_H.go (pc' := 213) (st' := [.int (x3 + 3), .ref pm_SC, .int (xs (Int32.toNatClampNeg (x3 + 2))), .int (xs (Int32.toNatClampNeg (x3 + 1))), .ref 1131]) rfl rfl rfl rfl ?_
  refine pm_H.sld (i := (x3 + 3)) rfl rfl (ha 3 rfl) ?_
  refine pm_H.go (pc' := 215) (st' := [.ref pm_SC, .int (xs (Int32.toNatClampNeg (x3 + 3))), .int (xs (Int32.toNatClampNeg (x3 + 2))), .int (xs (Int32.toNatClampNeg (x3 + 1))), .ref 1131]) rfl rfl rfl rfl ?_
  refine pm_H.go (pc' := 216) (st' := [.int x3, .ref pm_SC, .int (xs (Int32.toNatClampNeg (x3 + 3))), .int (xs (Int32.toNatClampNeg (x3 + 2))), .int (xs (Int32.toNatClampNeg (x3 + 1))), .ref 1131]) rfl rfl rfl rfl ?_
  refine pm_H.go (pc' := 217) (st' := [.int 4, .int x3, .ref pm_SC, .int (xs (Int32.toNatClampNeg (x3 + 3))), .int (xs (Int32.toNatClampNeg (x3 + 2))), .int (xs (Int32.toNatClampNeg (x3 + 1))), .ref 1131]) rfl rfl rfl rfl ?_
  refine pm_H.go (pc' := 218) (st' := [.int (x3 + 4), .ref pm_SC, .int (xs (Int32.toNatClampNeg (x3 + 3))), .int (xs (Int32.toNatClampNeg (x3 + 2))), .int (xs (Int32.toNatClampNeg (x3 + 1))), .ref 1131]) rfl rfl rfl rfl ?_
  refine pm_H.sld (i := (x3 + 4)) rfl rfl (ha 4 rfl) ?_
  refine pm_H.go (pc' := 220) (st' := [.ref pm_SC, .int (xs (Int32.toNatClampNeg (x3 + 4))), .int (xs (Int32.toNatClampNeg (x3 + 3))), .int (xs (Int32.toNatClampNeg (x3 + 2))), .int (xs (Int32.toNatClampNeg (x3 + 1))), .ref 1131]) rfl rfl rfl rfl ?_
  refine pm_H.go (pc' := 221) (st' := [.int x3, .ref pm_SC, .int (xs (Int32.toNatClampNeg (x3 + 4))), .int (xs (Int32.toNatClampNeg (x3 + 3))), .int (xs (Int32.toNatClampNeg (x3 + 2))), .int (xs (Int32.toNatClampNeg (x3 + 1))), .ref 1131]) rfl rfl rfl rfl ?_
  refine pm_H.go (pc' := 222) (st' := [.int 5, .int x3, .ref pm_SC, .int (xs (Int32.toNatClampNeg (x3 + 4))), .int (xs (Int32.toNatClampNeg (x3 + 3))), .int (xs (Int32.toNatClampNeg (x3 + 2))), .int (xs (Int32.toNatClampNeg (x3 + 1))), .ref 1131]) rfl rfl rfl rfl ?_
  refine pm_H.go (pc' := 223) (st' := [.int (x3 + 5), .ref pm_SC, .int (xs (Int32.toNatClampNeg (x3 + 4))), .int (xs (Int32.toNatClampNeg (x3 + 3))), .int (xs (Int32.toNatClampNeg (x3 + 2))), .int (xs (Int32.toNatClampNeg (x3 + 1))), .ref 1131]) rfl rfl rfl rfl ?_
  refine pm_H.sld (i := (x3 + 5)) rfl rfl (ha 5 rfl) ?_
  refine l2_call (c := 12) (q := 1131) rfl rfl rfl (by decide) rfl (by decide) hw1 (by decide) rfl rfl rfl hp (fun o w2 s2 hw2 hp2 => ?_)
  obtain ⟨v2, rfl, hp2⟩ := l2_int hp2
  show pm_H (some (L, xs)) 300 310 227 [(3, .int x3), (2, .ref 1131), (1, .ref 0), (0, .ref pm_SC)] [.int v2] w2 Q
  refine pm_H.go (pc' := 228) (st' := []) rfl rfl rfl rfl ?_
  refine pm_H.go (pc' := 858) (st' := []) rfl rfl rfl rfl ?_
  obtain ⟨t2, hS⟩ := hp2.2
  exact K w2 s2 t2 hw2 hS

theorem l6_op1 {L : Nat} {xs : Nat → Int32} {x3 t : Int32} {w : pm_W} {s : ps_S} {Q : Option Value → pm_W → Prop} (ha : ∀ (k : Int32) (_ : pm_in k 6 = true), pm_in (x3 + k) L = true) (hw : ps_R w s) (h : ISt s t) (K : ∀ (w' : pm_W) (s' : ps_S) (t' : Int32), ps_R w' s' → ISt s' t' → pm_H (some (L, xs)) 300 310 858 [(3, .int x3), (2, .ref 1131), (1, .ref 0), (0, .ref pm_SC)] [] w' Q) : pm_H (some (L, xs)) 300 310 231 [(3, .int x3), (2, .ref 1131), (1, .ref 0), (0, .ref pm_SC)] [] w Q := by
  refine pm_H.go (pc' := 232) (st' := [.ref 0]) rfl rfl rfl rfl ?_
  refine pm_H.go (pc' := 233) (st' := [.ref pm_SC, .ref 0]) rfl rfl rfl rfl ?_
  refine pm_H.go (pc' := 234) (st' := [.int x3, .ref pm_SC, .ref 0]) rfl rfl rfl rfl ?_
  refine pm_H.go (pc' := 235) (st' := [.int 1, .int x3, .ref pm_SC, .ref 0]) rfl rfl rfl rfl ?_
  refine pm_H.go (pc' := 236) (st' := [.int (x3 + 1), .ref pm_SC, .ref 0]) rfl rfl rfl rfl ?_
  refine pm_H.sld (i := (x3 + 1)) rfl rfl (ha 1 rfl) ?_
  refine l2_call (c := 11) (q := 0) rfl rfl rfl (by decide) rfl (by decide) hw (by decide) rfl rfl rfl (PR_1 h) (fun o w1 s1 hw1 hp => ?_)
  obtain ⟨v1, rfl, hp⟩ := l2_int hp
  show pm_H (some (L, xs)) 300 310 240 [(3, .int x3), (2, .ref 1131), (1, .ref 0), (0, .ref pm_SC)] [.int v1] w1 Q
  refine pm_H.go (pc' := 241) (st' := []) rfl rfl rfl rfl ?_
  refine pm_H.go (pc' := 242) (st' := [.ref 1131]) rfl rfl rfl rfl ?_
  refine pm_H.go (pc' := 243) (st' := [.ref pm_SC, .ref 1131]) rfl rfl rfl rfl ?_
  refine pm_H.go (pc' := 244) (st' := [.int x3, .ref pm_SC, .ref 1131]) rfl rfl rfl rfl ?_
  refine pm_H.go (pc' := 245) (st' := [.int 1, .int x3, .ref pm_SC, .ref 1131]) rfl rfl rfl rfl ?_
  refine pm_H.go (pc' := 246) (st' := [.int (x3 + 1), .ref pm_SC, .ref 1131]) rfl rfl rfl rfl ?_
  refine pm_H.sld (i := (x3 + 1)) rfl rfl (ha 1 rfl) ?_
  refine l2_call (c := 12) (q := 1131) rfl rfl rfl (by decide) rfl (by decide) hw1 (by decide) rfl rfl rfl hp (fun o w2 s2 hw2 hp2 => ?_)
  obtain ⟨v2, rfl, hp2⟩ := l2_int hp2
  show pm_H (some (L, xs)) 300 310 250 [(3, .int x3), (2, .ref 1131), (1, .ref 0), (0, .ref pm_SC)] [.int v2] w2 Q
  refine pm_H.go (pc' := 251) (st' := []) rfl rfl rfl rfl ?_
  refine pm_H.go (pc' := 858) (st' := []) rfl rfl rfl rfl ?_
  obtain ⟨t2, hS⟩ := hp2.2
  exact K w2 s2 t2 hw2 hS

theorem l6_op2 {L : Nat} {xs : Nat → Int32} {x3 t : Int32} {w : pm_W} {s : ps_S} {Q : Option Value → pm_W → Prop} (ha : ∀ (k : Int32) (_ : pm_in k 6 = true), pm_in (x3 + k) L = true) (hw : ps_R w s) (h : ISt s t) (K : ∀ (w' : pm_W) (s' : ps_S) (t' : Int32), ps_R w' s' → ISt s' t' → pm_H (some (L, xs)) 300 310 858 [(3, .int x3), (2, .ref 1131), (1, .ref 0), (0, .ref pm_SC)] [] w' Q) : pm_H (some (L, xs)) 300 310 254 [(3, .int x3), (2, .ref 1131), (1, .ref 0), (0, .ref pm_SC)] [] w Q := by
  refine pm_H.go (pc' := 255) (st' := [.ref 0]) rfl rfl rfl rfl ?_
  refine l2_call (c := 11) (q := 0) rfl rfl rfl (by decide) rfl (by decide) hw (by decide) rfl rfl rfl (PR_2 h) (fun o w1 s1 hw1 hp => ?_)
  obtain ⟨v1, rfl, hp⟩ := l2_int hp
  show pm_H (some (L, xs)) 300 310 258 [(3, .int x3), (2, .ref 1131), (1, .ref 0), (0, .ref pm_SC)] [.int v1] w1 Q
  refine pm_H.go (pc' := 259) (st' := []) rfl rfl rfl rfl ?_
  refine pm_H.go (pc' := 260) (st' := [.ref 1131]) rfl rfl rfl rfl ?_
  refine l2_call (c := 12) (q := 1131) rfl rfl rfl (by decide) rfl (by decide) hw1 (by decide) rfl rfl rfl hp (fun o w2 s2 hw2 hp2 => ?_)
  obtain ⟨v2, rfl, hp2⟩ := l2_int hp2
  show pm_H (some (L, xs)) 300 310 263 [(3, .int x3), (2, .ref 1131), (1, .ref 0), (0, .ref pm_SC)] [.int v2] w2 Q
  refine pm_H.go (pc' := 264) (st' := []) rfl rfl rfl rfl ?_
  refine pm_H.go (pc' := 858) (st' := []) rfl rfl rfl rfl ?_
  obtain ⟨t2, hS⟩ := hp2.2
  exact K w2 s2 t2 hw2 hS

theorem l6_op3 {L : Nat} {xs : Nat → Int32} {x3 t : Int32} {w : pm_W} {s : ps_S} {Q : Option Value → pm_W → Prop} (ha : ∀ (k : Int32) (_ : pm_in k 6 = true), pm_in (x3 + k) L = true) (hw : ps_R w s) (h : ISt s t) (K : ∀ (w' : pm_W) (s' : ps_S) (t' : Int32), ps_R w' s' → ISt s' t' → pm_H (some (L, xs)) 300 310 858 [(3, .int x3), (2, .ref 1131), (1, .ref 0), (0, .ref pm_SC)] [] w' Q) : pm_H (some (L, xs)) 300 310 267 [(3, .int x3), (2, .ref 1131), (1, .ref 0), (0, .ref pm_SC)] [] w Q := by
  refine pm_H.go (pc' := 268) (st' := [.ref 0]) rfl rfl rfl rfl ?_
  refine pm_H.go (pc' := 269) (st' := [.ref pm_SC, .ref 0]) rfl rfl rfl rfl ?_
  refine pm_H.go (pc' := 270) (st' := [.int x3, .ref pm_SC, .ref 0]) rfl rfl rfl rfl ?_
  refine pm_H.go (pc' := 271) (st' := [.int 1, .int x3, .ref pm_SC, .ref 0]) rfl rfl rfl rfl ?_
  refine pm_H.go (pc' := 272) (st' := [.int (x3 + 1), .ref pm_SC, .ref 0]) rfl rfl rfl rfl ?_
  refine pm_H.sld (i := (x3 + 1)) rfl rfl (ha 1 rfl) ?_
  refine l2_call (c := 11) (q := 0) rfl rfl rfl (by decide) rfl (by decide) hw (by decide) rfl rfl rfl (PR_3 h) (fun o w1 s1 hw1 hp => ?_)
  obtain ⟨v1, rfl, hp⟩ := l2_int hp
  show pm_H (some (L, xs)) 300 310 276 [(3, .int x3), (2, .ref 1131), (1, .ref 0), (0, .ref pm_SC)] [.int v1] w1 Q
  refine pm_H.go (pc' := 277) (st' := []) rfl rfl rfl rfl ?_
  refine pm_H.go (pc' := 278) (st' := [.ref 1131]) rfl rfl rfl rfl ?_
  refine pm_H.go (pc' := 279) (st' := [.ref pm_SC, .ref 1131]) rfl rfl rfl rfl ?_
  refine pm_H.go (pc' := 280) (st' := [.int x3, .ref pm_SC, .ref 1131]) rfl rfl rfl rfl ?_
  refine pm_H.go (pc' := 281) (st' := [.int 1, .int x3, .ref pm_SC, .ref 1131]) rfl rfl rfl rfl ?_
  refine pm_H.go (pc' := 282) (st' := [.int (x3 + 1), .ref pm_SC, .ref 1131]) rfl rfl rfl rfl ?_
  refine pm_H.sld (i := (x3 + 1)) rfl rfl (ha 1 rfl) ?_
  refine l2_call (c := 12) (q := 1131) rfl rfl rfl (by decide) rfl (by decide) hw1 (by decide) rfl rfl rfl hp (fun o w2 s2 hw2 hp2 => ?_)
  obtain ⟨v2, rfl, hp2⟩ := l2_int hp2
  show pm_H (some (L, xs)) 300 310 286 [(3, .int x3), (2, .ref 1131), (1, .ref 0), (0, .ref pm_SC)] [.int v2] w2 Q
  refine pm_H.go (pc' := 287) (st' := []) rfl rfl rfl rfl ?_
  refine pm_H.go (pc' := 858) (st' := []) rfl rfl rfl rfl ?_
  obtain ⟨t2, hS⟩ := hp2
  exact K w2 s2 t2 hw2 hS

theorem l6_op4 {L : Nat} {xs : Nat → Int32} {x3 t : Int32} {w : pm_W} {s : ps_S} {Q : Option Value → pm_W → Prop} (ha : ∀ (k : Int32) (_ : pm_in k 6 = true), pm_in (x3 + k) L = true) (hw : ps_R w s) (h : ISt s t) (K : ∀ (w' : pm_W) (s' : ps_S) (t' : Int32), ps_R w' s' → ISt s' t' → pm_H (some (L, xs)) 300 310 858 [(3, .int x3), (2, .ref 1131), (1, .ref 0), (0, .ref pm_SC)] [] w' Q) : pm_H (some (L, xs)) 300 310 290 [(3, .int x3), (2, .ref 1131), (1, .ref 0), (0, .ref pm_SC)] [] w Q := by
  refine pm_H.go (pc' := 291) (st' := [.ref 0]) rfl rfl rfl rfl ?_
  refine l2_call (c := 11) (q := 0) rfl rfl rfl (by decide) rfl (by decide) hw (by decide) rfl rfl rfl (PR_4 h) (fun o w1 s1 hw1 hp => ?_)
  obtain ⟨v1, rfl, hp⟩ := l2_int hp
  show pm_H (some (L, xs)) 300 310 294 [(3, .int x3), (2, .ref 1131), (1, .ref 0), (0, .ref pm_SC)] [.int v1] w1 Q
  refine pm_H.go (pc' := 295) (st' := []) rfl rfl rfl rfl ?_
  refine pm_H.go (pc' := 296) (st' := [.ref 1131]) rfl rfl rfl rfl ?_
  refine l2_call (c := 12) (q := 1131) rfl rfl rfl (by decide) rfl (by decide) hw1 (by decide) rfl rfl rfl hp (fun o w2 s2 hw2 hp2 => ?_)
  obtain ⟨v2, rfl, hp2⟩ := l2_int hp2
  show pm_H (some (L, xs)) 300 310 299 [(3, .int x3), (2, .ref 1131), (1, .ref 0), (0, .ref pm_SC)] [.int v2] w2 Q
  refine pm_H.go (pc' := 300) (st' := []) rfl rfl rfl rfl ?_
  refine pm_H.go (pc' := 858) (st' := []) rfl rfl rfl rfl ?_
  obtain ⟨t2, hS⟩ := hp2
  exact K w2 s2 t2 hw2 hS

theorem l6_op5 {L : Nat} {xs : Nat → Int32} {x3 t : Int32} {w : pm_W} {s : ps_S} {Q : Option Value → pm_W → Prop} (ha : ∀ (k : Int32) (_ : pm_in k 6 = true), pm_in (x3 + k) L = true) (hw : ps_R w s) (h : ISt s t) (K : ∀ (w' : pm_W) (s' : ps_S) (t' : Int32), ps_R w' s' → ISt s' t' → pm_H (some (L, xs)) 300 310 858 [(3, .int x3), (2, .ref 1131), (1, .ref 0), (0, .ref pm_SC)] [] w' Q) : pm_H (some (L, xs)) 300 310 303 [(3, .int x3), (2, .ref 1131), (1, .ref 0), (0, .ref pm_SC)] [] w Q := by
  refine pm_H.go (pc' := 304) (st' := [.ref 0]) rfl rfl rfl rfl ?_
  refine pm_H.go (pc' := 305) (st' := [.ref pm_SC, .ref 0]) rfl rfl rfl rfl ?_
  refine pm_H.go (pc' := 306) (st' := [.int x3, .ref pm_SC, .ref 0]) rfl rfl rfl rfl ?_
  refine pm_H.go (pc' := 307) (st' := [.int 1, .int x3, .ref pm_SC, .ref 0]) rfl rfl rfl rfl ?_
  refine pm_H.go (pc' := 308) (st' := [.int (x3 + 1), .ref pm_SC, .ref 0]) rfl rfl rfl rfl ?_
  refine pm_H.sld (i := (x3 + 1)) rfl rfl (ha 1 rfl) ?_
  refine l2_call (c := 11) (q := 0) rfl rfl rfl (by decide) rfl (by decide) hw (by decide) rfl rfl rfl (PR_5 h) (fun o w1 s1 hw1 hp => ?_)
  obtain ⟨v1, rfl, hp⟩ := l2_int hp
  show pm_H (some (L, xs)) 300 310 312 [(3, .int x3), (2, .ref 1131), (1, .ref 0), (0, .ref pm_SC)] [.int v1] w1 Q
  refine pm_H.go (pc' := 313) (st' := []) rfl rfl rfl rfl ?_
  refine pm_H.go (pc' := 314) (st' := [.ref 1131]) rfl rfl rfl rfl ?_
  refine pm_H.go (pc' := 315) (st' := [.ref pm_SC, .ref 1131]) rfl rfl rfl rfl ?_
  refine pm_H.go (pc' := 316) (st' := [.int x3, .ref pm_SC, .ref 1131]) rfl rfl rfl rfl ?_
  refine pm_H.go (pc' := 317) (st' := [.int 1, .int x3, .ref pm_SC, .ref 1131]) rfl rfl rfl rfl ?_
  refine pm_H.go (pc' := 318) (st' := [.int (x3 + 1), .ref pm_SC, .ref 1131]) rfl rfl rfl rfl ?_
  refine pm_H.sld (i := (x3 + 1)) rfl rfl (ha 1 rfl) ?_
  refine l2_call (c := 12) (q := 1131) rfl rfl rfl (by decide) rfl (by decide) hw1 (by decide) rfl rfl rfl hp (fun o w2 s2 hw2 hp2 => ?_)
  obtain ⟨v2, rfl, hp2⟩ := l2_int hp2
  show pm_H (some (L, xs)) 300 310 322 [(3, .int x3), (2, .ref 1131), (1, .ref 0), (0, .ref pm_SC)] [.int v2] w2 Q
  refine pm_H.go (pc' := 323) (st' := []) rfl rfl rfl rfl ?_
  refine pm_H.go (pc' := 858) (st' := []) rfl rfl rfl rfl ?_
  obtain ⟨t2, hS⟩ := hp2
  exact K w2 s2 t2 hw2 hS

theorem l6_op6 {L : Nat} {xs : Nat → Int32} {x3 t : Int32} {w : pm_W} {s : ps_S} {Q : Option Value → pm_W → Prop} (ha : ∀ (k : Int32) (_ : pm_in k 6 = true), pm_in (x3 + k) L = true) (hw : ps_R w s) (h : ISt s t) (K : ∀ (w' : pm_W) (s' : ps_S) (t' : Int32), ps_R w' s' → ISt s' t' → pm_H (some (L, xs)) 300 310 858 [(3, .int x3), (2, .ref 1131), (1, .ref 0), (0, .ref pm_SC)] [] w' Q) : pm_H (some (L, xs)) 300 310 326 [(3, .int x3), (2, .ref 1131), (1, .ref 0), (0, .ref pm_SC)] [] w Q := by
  refine pm_H.go (pc' := 327) (st' := [.ref 0]) rfl rfl rfl rfl ?_
  refine pm_H.go (pc' := 328) (st' := [.ref pm_SC, .ref 0]) rfl rfl rfl rfl ?_
  refine pm_H.go (pc' := 329) (st' := [.int x3, .ref pm_SC, .ref 0]) rfl rfl rfl rfl ?_
  refine pm_H.go (pc' := 330) (st' := [.int 1, .int x3, .ref pm_SC, .ref 0]) rfl rfl rfl rfl ?_
  refine pm_H.go (pc' := 331) (st' := [.int (x3 + 1), .ref pm_SC, .ref 0]) rfl rfl rfl rfl ?_
  refine pm_H.sld (i := (x3 + 1)) rfl rfl (ha 1 rfl) ?_
  refine pm_H.go (pc' := 333) (st' := [.ref pm_SC, .int (xs (Int32.toNatClampNeg (x3 + 1))), .ref 0]) rfl rfl rfl rfl ?_
  refine pm_H.go (pc' := 334) (st' := [.int x3, .ref pm_SC, .int (xs (Int32.toNatClampNeg (x3 + 1))), .ref 0]) rfl rfl rfl rfl ?_
  refine pm_H.go (pc' := 335) (st' := [.int 2, .int x3, .ref pm_SC, .int (xs (Int32.toNatClampNeg (x3 + 1))), .ref 0]) rfl rfl rfl rfl ?_
  refine pm_H.go (pc' := 336) (st' := [.int (x3 + 2), .ref pm_SC, .int (xs (Int32.toNatClampNeg (x3 + 1))), .ref 0]) rfl rfl rfl rfl ?_
  refine pm_H.sld (i := (x3 + 2)) rfl rfl (ha 2 rfl) ?_
  refine l2_call (c := 11) (q := 0) rfl rfl rfl (by decide) rfl (by decide) hw (by decide) rfl rfl rfl (PR_6 h) (fun o w1 s1 hw1 hp => ?_)
  obtain ⟨v1, rfl, hp⟩ := l2_int hp
  show pm_H (some (L, xs)) 300 310 340 [(3, .int x3), (2, .ref 1131), (1, .ref 0), (0, .ref pm_SC)] [.int v1] w1 Q
  refine pm_H.go (pc' := 341) (st' := []) rfl rfl rfl rfl ?_
  refine pm_H.go (pc' := 342) (st' := [.ref 1131]) rfl rfl rfl rfl ?_
  refine pm_H.go (pc' := 343) (st' := [.ref pm_SC, .ref 1131]) rfl rfl rfl rfl ?_
  refine pm_H.go (pc' := 344) (st' := [.int x3, .ref pm_SC, .ref 1131]) rfl rfl rfl rfl ?_
  refine pm_H.go (pc' := 345) (st' := [.int 1, .int x3, .ref pm_SC, .ref 1131]) rfl rfl rfl rfl ?_
  refine pm_H.go (pc' := 346) (st' := [.int (x3 + 1), .ref pm_SC, .ref 1131]) rfl rfl rfl rfl ?_
  refine pm_H.sld (i := (x3 + 1)) rfl rfl (ha 1 rfl) ?_
  refine pm_H.go (pc' := 348) (st' := [.ref pm_SC, .int (xs (Int32.toNatClampNeg (x3 + 1))), .ref 1131]) rfl rfl rfl rfl ?_
  refine pm_H.go (pc' := 349) (st' := [.int x3, .ref pm_SC, .int (xs (Int32.toNatClampNeg (x3 + 1))), .ref 1131]) rfl rfl rfl rfl ?_
  refine pm_H.go (pc' := 350) (st' := [.int 2, .int x3, .ref pm_SC, .int (xs (Int32.toNatClampNeg (x3 + 1))), .ref 1131]) rfl rfl rfl rfl ?_
  refine pm_H.go (pc' := 351) (st' := [.int (x3 + 2), .ref pm_SC, .int (xs (Int32.toNatClampNeg (x3 + 1))), .ref 1131]) rfl rfl rfl rfl ?_
  refine pm_H.sld (i := (x3 + 2)) rfl rfl (ha 2 rfl) ?_
  refine l2_call (c := 12) (q := 1131) rfl rfl rfl (by decide) rfl (by decide) hw1 (by decide) rfl rfl rfl hp (fun o w2 s2 hw2 hp2 => ?_)
  obtain ⟨v2, rfl, hp2⟩ := l2_int hp2
  show pm_H (some (L, xs)) 300 310 355 [(3, .int x3), (2, .ref 1131), (1, .ref 0), (0, .ref pm_SC)] [.int v2] w2 Q
  refine pm_H.go (pc' := 356) (st' := []) rfl rfl rfl rfl ?_
  refine pm_H.go (pc' := 858) (st' := []) rfl rfl rfl rfl ?_
  obtain ⟨t2, hS⟩ := hp2
  exact K w2 s2 t2 hw2 hS

theorem l6_op7 {L : Nat} {xs : Nat → Int32} {x3 t : Int32} {w : pm_W} {s : ps_S} {Q : Option Value → pm_W → Prop} (ha : ∀ (k : Int32) (_ : pm_in k 6 = true), pm_in (x3 + k) L = true) (hw : ps_R w s) (h : ISt s t) (K : ∀ (w' : pm_W) (s' : ps_S) (t' : Int32), ps_R w' s' → ISt s' t' → pm_H (some (L, xs)) 300 310 858 [(3, .int x3), (2, .ref 1131), (1, .ref 0), (0, .ref pm_SC)] [] w' Q) : pm_H (some (L, xs)) 300 310 359 [(3, .int x3), (2, .ref 1131), (1, .ref 0), (0, .ref pm_SC)] [] w Q := by
  refine pm_H.go (pc' := 360) (st' := [.ref 0]) rfl rfl rfl rfl ?_
  refine pm_H.go (pc' := 361) (st' := [.ref pm_SC, .ref 0]) rfl rfl rfl rfl ?_
  refine pm_H.go (pc' := 362) (st' := [.int x3, .ref pm_SC, .ref 0]) rfl rfl rfl rfl ?_
  refine pm_H.go (pc' := 363) (st' := [.int 1, .int x3, .ref pm_SC, .ref 0]) rfl rfl rfl rfl ?_
  refine pm_H.go (pc' := 364) (st' := [.int (x3 + 1), .ref pm_SC, .ref 0]) rfl rfl rfl rfl ?_
  refine pm_H.sld (i := (x3 + 1)) rfl rfl (ha 1 rfl) ?_
  refine pm_H.go (pc' := 366) (st' := [.ref pm_SC, .int (xs (Int32.toNatClampNeg (x3 + 1))), .ref 0]) rfl rfl rfl rfl ?_
  refine pm_H.go (pc' := 367) (st' := [.int x3, .ref pm_SC, .int (xs (Int32.toNatClampNeg (x3 + 1))), .ref 0]) rfl rfl rfl rfl ?_
  refine pm_H.go (pc' := 368) (st' := [.int 2, .int x3, .ref pm_SC, .int (xs (Int32.toNatClampNeg (x3 + 1))), .ref 0]) rfl rfl rfl rfl ?_
  refine pm_H.go (pc' := 369) (st' := [.int (x3 + 2), .ref pm_SC, .int (xs (Int32.toNatClampNeg (x3 + 1))), .ref 0]) rfl rfl rfl rfl ?_
  refine pm_H.sld (i := (x3 + 2)) rfl rfl (ha 2 rfl) ?_
  refine l2_call (c := 11) (q := 0) rfl rfl rfl (by decide) rfl (by decide) hw (by decide) rfl rfl rfl (PR_7 h) (fun o w1 s1 hw1 hp => ?_)
  obtain ⟨v1, rfl, hp⟩ := l2_int hp
  show pm_H (some (L, xs)) 300 310 373 [(3, .int x3), (2, .ref 1131), (1, .ref 0), (0, .ref pm_SC)] [.int v1] w1 Q
  refine pm_H.go (pc' := 374) (st' := []) rfl rfl rfl rfl ?_
  refine pm_H.go (pc' := 375) (st' := [.ref 1131]) rfl rfl rfl rfl ?_
  refine pm_H.go (pc' := 376) (st' := [.ref pm_SC, .ref 1131]) rfl rfl rfl rfl ?_
  refine pm_H.go (pc' := 377) (st' := [.int x3, .ref pm_SC, .ref 1131]) rfl rfl rfl rfl ?_
  refine pm_H.go (pc' := 378) (st' := [.int 1, .int x3, .ref pm_SC, .ref 1131]) rfl rfl rfl rfl ?_
  refine pm_H.go (pc' := 379) (st' := [.int (x3 + 1), .ref pm_SC, .ref 1131]) rfl rfl rfl rfl ?_
  refine pm_H.sld (i := (x3 + 1)) rfl rfl (ha 1 rfl) ?_
  refine pm_H.go (pc' := 381) (st' := [.ref pm_SC, .int (xs (Int32.toNatClampNeg (x3 + 1))), .ref 1131]) rfl rfl rfl rfl ?_
  refine pm_H.go (pc' := 382) (st' := [.int x3, .ref pm_SC, .int (xs (Int32.toNatClampNeg (x3 + 1))), .ref 1131]) rfl rfl rfl rfl ?_
  refine pm_H.go (pc' := 383) (st' := [.int 2, .int x3, .ref pm_SC, .int (xs (Int32.toNatClampNeg (x3 + 1))), .ref 1131]) rfl rfl rfl rfl ?_
  refine pm_H.go (pc' := 384) (st' := [.int (x3 + 2), .ref pm_SC, .int (xs (Int32.toNatClampNeg (x3 + 1))), .ref 1131]) rfl rfl rfl rfl ?_
  refine pm_H.sld (i := (x3 + 2)) rfl rfl (ha 2 rfl) ?_
  refine l2_call (c := 12) (q := 1131) rfl rfl rfl (by decide) rfl (by decide) hw1 (by decide) rfl rfl rfl hp (fun o w2 s2 hw2 hp2 => ?_)
  obtain ⟨v2, rfl, hp2⟩ := l2_int hp2
  show pm_H (some (L, xs)) 300 310 388 [(3, .int x3), (2, .ref 1131), (1, .ref 0), (0, .ref pm_SC)] [.int v2] w2 Q
  refine pm_H.go (pc' := 389) (st' := []) rfl rfl rfl rfl ?_
  refine pm_H.go (pc' := 858) (st' := []) rfl rfl rfl rfl ?_
  obtain ⟨t2, hS⟩ := hp2
  exact K w2 s2 t2 hw2 hS

theorem l6_op8 {L : Nat} {xs : Nat → Int32} {x3 t : Int32} {w : pm_W} {s : ps_S} {Q : Option Value → pm_W → Prop} (ha : ∀ (k : Int32) (_ : pm_in k 6 = true), pm_in (x3 + k) L = true) (hw : ps_R w s) (h : ISt s t) (K : ∀ (w' : pm_W) (s' : ps_S) (t' : Int32), ps_R w' s' → ISt s' t' → pm_H (some (L, xs)) 300 310 858 [(3, .int x3), (2, .ref 1131), (1, .ref 0), (0, .ref pm_SC)] [] w' Q) : pm_H (some (L, xs)) 300 310 392 [(3, .int x3), (2, .ref 1131), (1, .ref 0), (0, .ref pm_SC)] [] w Q := by
  refine pm_H.go (pc' := 393) (st' := [.ref 0]) rfl rfl rfl rfl ?_
  refine pm_H.go (pc' := 394) (st' := [.ref pm_SC, .ref 0]) rfl rfl rfl rfl ?_
  refine pm_H.go (pc' := 395) (st' := [.int x3, .ref pm_SC, .ref 0]) rfl rfl rfl rfl ?_
  refine pm_H.go (pc' := 396) (st' := [.int 1, .int x3, .ref pm_SC, .ref 0]) rfl rfl rfl rfl ?_
  refine pm_H.go (pc' := 397) (st' := [.int (x3 + 1), .ref pm_SC, .ref 0]) rfl rfl rfl rfl ?_
  refine pm_H.sld (i := (x3 + 1)) rfl rfl (ha 1 rfl) ?_
  refine pm_H.go (pc' := 399) (st' := [.ref pm_SC, .int (xs (Int32.toNatClampNeg (x3 + 1))), .ref 0]) rfl rfl rfl rfl ?_
  refine pm_H.go (pc' := 400) (st' := [.int x3, .ref pm_SC, .int (xs (Int32.toNatClampNeg (x3 + 1))), .ref 0]) rfl rfl rfl rfl ?_
  refine pm_H.go (pc' := 401) (st' := [.int 2, .int x3, .ref pm_SC, .int (xs (Int32.toNatClampNeg (x3 + 1))), .ref 0]) rfl rfl rfl rfl ?_
  refine pm_H.go (pc' := 402) (st' := [.int (x3 + 2), .ref pm_SC, .int (xs (Int32.toNatClampNeg (x3 + 1))), .ref 0]) rfl rfl rfl rfl ?_
  refine pm_H.sld (i := (x3 + 2)) rfl rfl (ha 2 rfl) ?_
  refine pm_H.go (pc' := 404) (st' := [.ref pm_SC, .int (xs (Int32.toNatClampNeg (x3 + 2))), .int (xs (Int32.toNatClampNeg (x3 + 1))), .ref 0]) rfl rfl rfl rfl ?_
  refine pm_H.go (pc' := 405) (st' := [.int x3, .ref pm_SC, .int (xs (Int32.toNatClampNeg (x3 + 2))), .int (xs (Int32.toNatClampNeg (x3 + 1))), .ref 0]) rfl rfl rfl rfl ?_
  refine pm_H.go (pc' := 406) (st' := [.int 3, .int x3, .ref pm_SC, .int (xs (Int32.toNatClampNeg (x3 + 2))), .int (xs (Int32.toNatClampNeg (x3 + 1))), .ref 0]) rfl rfl rfl rfl ?_
  refine pm_H.go (pc' := 407) (st' := [.int (x3 + 3), .ref pm_SC, .int (xs (Int32.toNatClampNeg (x3 + 2))), .int (xs (Int32.toNatClampNeg (x3 + 1))), .ref 0]) rfl rfl rfl rfl ?_
  refine pm_H.sld (i := (x3 + 3)) rfl rfl (ha 3 rfl) ?_
  refine l2_call (c := 11) (q := 0) rfl rfl rfl (by decide) rfl (by decide) hw (by decide) rfl rfl rfl (PR_8 h) (fun o w1 s1 hw1 hp => ?_)
  obtain ⟨v1, rfl, hp⟩ := l2_int hp
  show pm_H (some (L, xs)) 300 310 411 [(3, .int x3), (2, .ref 1131), (1, .ref 0), (0, .ref pm_SC)] [.int v1] w1 Q
  refine pm_H.go (pc' := 412) (st' := []) rfl rfl rfl rfl ?_
  refine pm_H.go (pc' := 413) (st' := [.ref 1131]) rfl rfl rfl rfl ?_
  refine pm_H.go (pc' := 414) (st' := [.ref pm_SC, .ref 1131]) rfl rfl rfl rfl ?_
  refine pm_H.go (pc' := 415) (st' := [.int x3, .ref pm_SC, .ref 1131]) rfl rfl rfl rfl ?_
  refine pm_H.go (pc' := 416) (st' := [.int 1, .int x3, .ref pm_SC, .ref 1131]) rfl rfl rfl rfl ?_
  refine pm_H.go (pc' := 417) (st' := [.int (x3 + 1), .ref pm_SC, .ref 1131]) rfl rfl rfl rfl ?_
  refine pm_H.sld (i := (x3 + 1)) rfl rfl (ha 1 rfl) ?_
  refine pm_H.go (pc' := 419) (st' := [.ref pm_SC, .int (xs (Int32.toNatClampNeg (x3 + 1))), .ref 1131]) rfl rfl rfl rfl ?_
  refine pm_H.go (pc' := 420) (st' := [.int x3, .ref pm_SC, .int (xs (Int32.toNatClampNeg (x3 + 1))), .ref 1131]) rfl rfl rfl rfl ?_
  refine pm_H.go (pc' := 421) (st' := [.int 2, .int x3, .ref pm_SC, .int (xs (Int32.toNatClampNeg (x3 + 1))), .ref 1131]) rfl rfl rfl rfl ?_
  refine pm_H.go (pc' := 422) (st' := [.int (x3 + 2), .ref pm_SC, .int (xs (Int32.toNatClampNeg (x3 + 1))), .ref 1131]) rfl rfl rfl rfl ?_
  refine pm_H.sld (i := (x3 + 2)) rfl rfl (ha 2 rfl) ?_
  refine pm_H.go (pc' := 424) (st' := [.ref pm_SC, .int (xs (Int32.toNatClampNeg (x3 + 2))), .int (xs (Int32.toNatClampNeg (x3 + 1))), .ref 1131]) rfl rfl rfl rfl ?_
  refine pm_H.go (pc' := 425) (st' := [.int x3, .ref pm_SC, .int (xs (Int32.toNatClampNeg (x3 + 2))), .int (xs (Int32.toNatClampNeg (x3 + 1))), .ref 1131]) rfl rfl rfl rfl ?_
  refine pm_H.go (pc' := 426) (st' := [.int 3, .int x3, .ref pm_SC, .int (xs (Int32.toNatClampNeg (x3 + 2))), .int (xs (Int32.toNatClampNeg (x3 + 1))), .ref 1131]) rfl rfl rfl rfl ?_
  refine pm_H.go (pc' := 427) (st' := [.int (x3 + 3), .ref pm_SC, .int (xs (Int32.toNatClampNeg (x3 + 2))), .int (xs (Int32.toNatClampNeg (x3 + 1))), .ref 1131]) rfl rfl rfl rfl ?_
  refine pm_H.sld (i := (x3 + 3)) rfl rfl (ha 3 rfl) ?_
  refine l2_call (c := 12) (q := 1131) rfl rfl rfl (by decide) rfl (by decide) hw1 (by decide) rfl rfl rfl hp (fun o w2 s2 hw2 hp2 => ?_)
  obtain ⟨v2, rfl, hp2⟩ := l2_int hp2
  show pm_H (some (L, xs)) 300 310 431 [(3, .int x3), (2, .ref 1131), (1, .ref 0), (0, .ref pm_SC)] [.int v2] w2 Q
  refine pm_H.go (pc' := 432) (st' := []) rfl rfl rfl rfl ?_
  refine pm_H.go (pc' := 858) (st' := []) rfl rfl rfl rfl ?_
  obtain ⟨t2, hS⟩ := hp2
  exact K w2 s2 t2 hw2 hS

theorem l6_op9 {L : Nat} {xs : Nat → Int32} {x3 t : Int32} {w : pm_W} {s : ps_S} {Q : Option Value → pm_W → Prop} (ha : ∀ (k : Int32) (_ : pm_in k 6 = true), pm_in (x3 + k) L = true) (hw : ps_R w s) (h : ISt s t) (K : ∀ (w' : pm_W) (s' : ps_S) (t' : Int32), ps_R w' s' → ISt s' t' → pm_H (some (L, xs)) 300 310 858 [(3, .int x3), (2, .ref 1131), (1, .ref 0), (0, .ref pm_SC)] [] w' Q) : pm_H (some (L, xs)) 300 310 435 [(3, .int x3), (2, .ref 1131), (1, .ref 0), (0, .ref pm_SC)] [] w Q := by
  refine pm_H.go (pc' := 436) (st' := [.ref 0]) rfl rfl rfl rfl ?_
  refine l2_call (c := 11) (q := 0) rfl rfl rfl (by decide) rfl (by decide) hw (by decide) rfl rfl rfl (PR_9 h) (fun o w1 s1 hw1 hp => ?_)
  obtain ⟨v1, rfl, hp⟩ := l2_int hp
  show pm_H (some (L, xs)) 300 310 439 [(3, .int x3), (2, .ref 1131), (1, .ref 0), (0, .ref pm_SC)] [.int v1] w1 Q
  refine pm_H.go (pc' := 440) (st' := []) rfl rfl rfl rfl ?_
  refine pm_H.go (pc' := 441) (st' := [.ref 1131]) rfl rfl rfl rfl ?_
  refine l2_call (c := 12) (q := 1131) rfl rfl rfl (by decide) rfl (by decide) hw1 (by decide) rfl rfl rfl hp (fun o w2 s2 hw2 hp2 => ?_)
  obtain ⟨v2, rfl, hp2⟩ := l2_int hp2
  show pm_H (some (L, xs)) 300 310 444 [(3, .int x3), (2, .ref 1131), (1, .ref 0), (0, .ref pm_SC)] [.int v2] w2 Q
  refine pm_H.go (pc' := 445) (st' := []) rfl rfl rfl rfl ?_
  refine pm_H.go (pc' := 858) (st' := []) rfl rfl rfl rfl ?_
  obtain ⟨t2, hS⟩ := hp2
  exact K w2 s2 t2 hw2 hS

theorem l6_op10 {L : Nat} {xs : Nat → Int32} {x3 t : Int32} {w : pm_W} {s : ps_S} {Q : Option Value → pm_W → Prop} (ha : ∀ (k : Int32) (_ : pm_in k 6 = true), pm_in (x3 + k) L = true) (hw : ps_R w s) (h : ISt s t) (K : ∀ (w' : pm_W) (s' : ps_S) (t' : Int32), ps_R w' s' → ISt s' t' → pm_H (some (L, xs)) 300 310 858 [(3, .int x3), (2, .ref 1131), (1, .ref 0), (0, .ref pm_SC)] [] w' Q) : pm_H (some (L, xs)) 300 310 448 [(3, .int x3), (2, .ref 1131), (1, .ref 0), (0, .ref pm_SC)] [] w Q := by
  refine pm_H.go (pc' := 449) (st' := [.ref 0]) rfl rfl rfl rfl ?_
  refine pm_H.go (pc' := 450) (st' := [.ref pm_SC, .ref 0]) rfl rfl rfl rfl ?_
  refine pm_H.go (pc' := 451) (st' := [.int x3, .ref pm_SC, .ref 0]) rfl rfl rfl rfl ?_
  refine pm_H.go (pc' := 452) (st' := [.int 1, .int x3, .ref pm_SC, .ref 0]) rfl rfl rfl rfl ?_
  refine pm_H.go (pc' := 453) (st' := [.int (x3 + 1), .ref pm_SC, .ref 0]) rfl rfl rfl rfl ?_
  refine pm_H.sld (i := (x3 + 1)) rfl rfl (ha 1 rfl) ?_
  refine pm_H.go (pc' := 455) (st' := [.ref pm_SC, .int (xs (Int32.toNatClampNeg (x3 + 1))), .ref 0]) rfl rfl rfl rfl ?_
  refine pm_H.go (pc' := 456) (st' := [.int x3, .ref pm_SC, .int (xs (Int32.toNatClampNeg (x3 + 1))), .ref 0]) rfl rfl rfl rfl ?_
  refine pm_H.go (pc' := 457) (st' := [.int 2, .int x3, .ref pm_SC, .int (xs (Int32.toNatClampNeg (x3 + 1))), .ref 0]) rfl rfl rfl rfl ?_
  refine pm_H.go (pc' := 458) (st' := [.int (x3 + 2), .ref pm_SC, .int (xs (Int32.toNatClampNeg (x3 + 1))), .ref 0]) rfl rfl rfl rfl ?_
  refine pm_H.sld (i := (x3 + 2)) rfl rfl (ha 2 rfl) ?_
  refine l2_call (c := 11) (q := 0) rfl rfl rfl (by decide) rfl (by decide) hw (by decide) rfl rfl rfl (PR_10 h) (fun o w1 s1 hw1 hp => ?_)
  obtain ⟨v1, rfl, hp⟩ := l2_int hp
  show pm_H (some (L, xs)) 300 310 462 [(3, .int x3), (2, .ref 1131), (1, .ref 0), (0, .ref pm_SC)] [.int v1] w1 Q
  refine pm_H.go (pc' := 463) (st' := []) rfl rfl rfl rfl ?_
  refine pm_H.go (pc' := 464) (st' := [.ref 1131]) rfl rfl rfl rfl ?_
  refine pm_H.go (pc' := 465) (st' := [.ref pm_SC, .ref 1131]) rfl rfl rfl rfl ?_
  refine pm_H.go (pc' := 466) (st' := [.int x3, .ref pm_SC, .ref 1131]) rfl rfl rfl rfl ?_
  refine pm_H.go (pc' := 467) (st' := [.int 1, .int x3, .ref pm_SC, .ref 1131]) rfl rfl rfl rfl ?_
  refine pm_H.go (pc' := 468) (st' := [.int (x3 + 1), .ref pm_SC, .ref 1131]) rfl rfl rfl rfl ?_
  refine pm_H.sld (i := (x3 + 1)) rfl rfl (ha 1 rfl) ?_
  refine pm_H.go (pc' := 470) (st' := [.ref pm_SC, .int (xs (Int32.toNatClampNeg (x3 + 1))), .ref 1131]) rfl rfl rfl rfl ?_
  refine pm_H.go (pc' := 471) (st' := [.int x3, .ref pm_SC, .int (xs (Int32.toNatClampNeg (x3 + 1))), .ref 1131]) rfl rfl rfl rfl ?_
  refine pm_H.go (pc' := 472) (st' := [.int 2, .int x3, .ref pm_SC, .int (xs (Int32.toNatClampNeg (x3 + 1))), .ref 1131]) rfl rfl rfl rfl ?_
  refine pm_H.go (pc' := 473) (st' := [.int (x3 + 2), .ref pm_SC, .int (xs (Int32.toNatClampNeg (x3 + 1))), .ref 1131]) rfl rfl rfl rfl ?_
  refine pm_H.sld (i := (x3 + 2)) rfl rfl (ha 2 rfl) ?_
  refine l2_call (c := 12) (q := 1131) rfl rfl rfl (by decide) rfl (by decide) hw1 (by decide) rfl rfl rfl hp (fun o w2 s2 hw2 hp2 => ?_)
  obtain ⟨v2, rfl, hp2⟩ := l2_int hp2
  show pm_H (some (L, xs)) 300 310 477 [(3, .int x3), (2, .ref 1131), (1, .ref 0), (0, .ref pm_SC)] [.int v2] w2 Q
  refine pm_H.go (pc' := 478) (st' := []) rfl rfl rfl rfl ?_
  refine pm_H.go (pc' := 858) (st' := []) rfl rfl rfl rfl ?_
  obtain ⟨t2, hS⟩ := hp2
  exact K w2 s2 t2 hw2 hS

theorem l6_op11 {L : Nat} {xs : Nat → Int32} {x3 t : Int32} {w : pm_W} {s : ps_S} {Q : Option Value → pm_W → Prop} (ha : ∀ (k : Int32) (_ : pm_in k 6 = true), pm_in (x3 + k) L = true) (hw : ps_R w s) (h : ISt s t) (K : ∀ (w' : pm_W) (s' : ps_S) (t' : Int32), ps_R w' s' → ISt s' t' → pm_H (some (L, xs)) 300 310 858 [(3, .int x3), (2, .ref 1131), (1, .ref 0), (0, .ref pm_SC)] [] w' Q) : pm_H (some (L, xs)) 300 310 481 [(3, .int x3), (2, .ref 1131), (1, .ref 0), (0, .ref pm_SC)] [] w Q := by
  refine pm_H.go (pc' := 482) (st' := [.ref 0]) rfl rfl rfl rfl ?_
  refine pm_H.go (pc' := 483) (st' := [.ref pm_SC, .ref 0]) rfl rfl rfl rfl ?_
  refine pm_H.go (pc' := 484) (st' := [.int x3, .ref pm_SC, .ref 0]) rfl rfl rfl rfl ?_
  refine pm_H.go (pc' := 485) (st' := [.int 1, .int x3, .ref pm_SC, .ref 0]) rfl rfl rfl rfl ?_
  refine pm_H.go (pc' := 486) (st' := [.int (x3 + 1), .ref pm_SC, .ref 0]) rfl rfl rfl rfl ?_
  refine pm_H.sld (i := (x3 + 1)) rfl rfl (ha 1 rfl) ?_
  refine pm_H.go (pc' := 488) (st' := [.ref pm_SC, .int (xs (Int32.toNatClampNeg (x3 + 1))), .ref 0]) rfl rfl rfl rfl ?_
  refine pm_H.go (pc' := 489) (st' := [.int x3, .ref pm_SC, .int (xs (Int32.toNatClampNeg (x3 + 1))), .ref 0]) rfl rfl rfl rfl ?_
  refine pm_H.go (pc' := 490) (st' := [.int 2, .int x3, .ref pm_SC, .int (xs (Int32.toNatClampNeg (x3 + 1))), .ref 0]) rfl rfl rfl rfl ?_
  refine pm_H.go (pc' := 491) (st' := [.int (x3 + 2), .ref pm_SC, .int (xs (Int32.toNatClampNeg (x3 + 1))), .ref 0]) rfl rfl rfl rfl ?_
  refine pm_H.sld (i := (x3 + 2)) rfl rfl (ha 2 rfl) ?_
  refine l2_call (c := 11) (q := 0) rfl rfl rfl (by decide) rfl (by decide) hw (by decide) rfl rfl rfl (PR_11 h) (fun o w1 s1 hw1 hp => ?_)
  obtain ⟨v1, rfl, hp⟩ := l2_int hp
  show pm_H (some (L, xs)) 300 310 495 [(3, .int x3), (2, .ref 1131), (1, .ref 0), (0, .ref pm_SC)] [.int v1] w1 Q
  refine pm_H.go (pc' := 496) (st' := []) rfl rfl rfl rfl ?_
  refine pm_H.go (pc' := 497) (st' := [.ref 1131]) rfl rfl rfl rfl ?_
  refine pm_H.go (pc' := 498) (st' := [.ref pm_SC, .ref 1131]) rfl rfl rfl rfl ?_
  refine pm_H.go (pc' := 499) (st' := [.int x3, .ref pm_SC, .ref 1131]) rfl rfl rfl rfl ?_
  refine pm_H.go (pc' := 500) (st' := [.int 1, .int x3, .ref pm_SC, .ref 1131]) rfl rfl rfl rfl ?_
  refine pm_H.go (pc' := 501) (st' := [.int (x3 + 1), .ref pm_SC, .ref 1131]) rfl rfl rfl rfl ?_
  refine pm_H.sld (i := (x3 + 1)) rfl rfl (ha 1 rfl) ?_
  refine pm_H.go (pc' := 503) (st' := [.ref pm_SC, .int (xs (Int32.toNatClampNeg (x3 + 1))), .ref 1131]) rfl rfl rfl rfl ?_
  refine pm_H.go (pc' := 504) (st' := [.int x3, .ref pm_SC, .int (xs (Int32.toNatClampNeg (x3 + 1))), .ref 1131]) rfl rfl rfl rfl ?_
  refine pm_H.go (pc' := 505) (st' := [.int 2, .int x3, .ref pm_SC, .int (xs (Int32.toNatClampNeg (x3 + 1))), .ref 1131]) rfl rfl rfl rfl ?_
  refine pm_H.go (pc' := 506) (st' := [.int (x3 + 2), .ref pm_SC, .int (xs (Int32.toNatClampNeg (x3 + 1))), .ref 1131]) rfl rfl rfl rfl ?_
  refine pm_H.sld (i := (x3 + 2)) rfl rfl (ha 2 rfl) ?_
  refine l2_call (c := 12) (q := 1131) rfl rfl rfl (by decide) rfl (by decide) hw1 (by decide) rfl rfl rfl hp (fun o w2 s2 hw2 hp2 => ?_)
  obtain ⟨v2, rfl, hp2⟩ := l2_int hp2
  show pm_H (some (L, xs)) 300 310 510 [(3, .int x3), (2, .ref 1131), (1, .ref 0), (0, .ref pm_SC)] [.int v2] w2 Q
  refine pm_H.go (pc' := 511) (st' := []) rfl rfl rfl rfl ?_
  refine pm_H.go (pc' := 858) (st' := []) rfl rfl rfl rfl ?_
  obtain ⟨t2, hS⟩ := hp2
  exact K w2 s2 t2 hw2 hS

theorem l6_op12 {L : Nat} {xs : Nat → Int32} {x3 t : Int32} {w : pm_W} {s : ps_S} {Q : Option Value → pm_W → Prop} (ha : ∀ (k : Int32) (_ : pm_in k 6 = true), pm_in (x3 + k) L = true) (hw : ps_R w s) (h : ISt s t) (K : ∀ (w' : pm_W) (s' : ps_S) (t' : Int32), ps_R w' s' → ISt s' t' → pm_H (some (L, xs)) 300 310 858 [(3, .int x3), (2, .ref 1131), (1, .ref 0), (0, .ref pm_SC)] [] w' Q) : pm_H (some (L, xs)) 300 310 514 [(3, .int x3), (2, .ref 1131), (1, .ref 0), (0, .ref pm_SC)] [] w Q := by
  refine pm_H.go (pc' := 515) (st' := [.ref 0]) rfl rfl rfl rfl ?_
  refine l2_call (c := 11) (q := 0) rfl rfl rfl (by decide) rfl (by decide) hw (by decide) rfl rfl rfl (PR_12 h) (fun o w1 s1 hw1 hp => ?_)
  obtain ⟨v1, rfl, hp⟩ := l2_int hp
  show pm_H (some (L, xs)) 300 310 518 [(3, .int x3), (2, .ref 1131), (1, .ref 0), (0, .ref pm_SC)] [.int v1] w1 Q
  refine pm_H.go (pc' := 519) (st' := []) rfl rfl rfl rfl ?_
  refine pm_H.go (pc' := 520) (st' := [.ref 1131]) rfl rfl rfl rfl ?_
  refine l2_call (c := 12) (q := 1131) rfl rfl rfl (by decide) rfl (by decide) hw1 (by decide) rfl rfl rfl hp (fun o w2 s2 hw2 hp2 => ?_)
  obtain ⟨v2, rfl, hp2⟩ := l2_int hp2
  show pm_H (some (L, xs)) 300 310 523 [(3, .int x3), (2, .ref 1131), (1, .ref 0), (0, .ref pm_SC)] [.int v2] w2 Q
  refine pm_H.go (pc' := 524) (st' := []) rfl rfl rfl rfl ?_
  refine pm_H.go (pc' := 858) (st' := []) rfl rfl rfl rfl ?_
  obtain ⟨t2, hS⟩ := hp2
  exact K w2 s2 t2 hw2 hS

theorem l6_op13 {L : Nat} {xs : Nat → Int32} {x3 t : Int32} {w : pm_W} {s : ps_S} {Q : Option Value → pm_W → Prop} (ha : ∀ (k : Int32) (_ : pm_in k 6 = true), pm_in (x3 + k) L = true) (hw : ps_R w s) (h : ISt s t) (K : ∀ (w' : pm_W) (s' : ps_S) (t' : Int32), ps_R w' s' → ISt s' t' → pm_H (some (L, xs)) 300 310 858 [(3, .int x3), (2, .ref 1131), (1, .ref 0), (0, .ref pm_SC)] [] w' Q) : pm_H (some (L, xs)) 300 310 527 [(3, .int x3), (2, .ref 1131), (1, .ref 0), (0, .ref pm_SC)] [] w Q := by
  refine pm_H.go (pc' := 528) (st' := [.ref 0]) rfl rfl rfl rfl ?_
  refine l2_call (c := 11) (q := 0) rfl rfl rfl (by decide) rfl (by decide) hw (by decide) rfl rfl rfl (PR_13 h) (fun o w1 s1 hw1 hp => ?_)
  obtain ⟨v1, rfl, hp⟩ := l2_int hp
  show pm_H (some (L, xs)) 300 310 531 [(3, .int x3), (2, .ref 1131), (1, .ref 0), (0, .ref pm_SC)] [.int v1] w1 Q
  refine pm_H.go (pc' := 532) (st' := []) rfl rfl rfl rfl ?_
  refine pm_H.go (pc' := 533) (st' := [.ref 1131]) rfl rfl rfl rfl ?_
  refine l2_call (c := 12) (q := 1131) rfl rfl rfl (by decide) rfl (by decide) hw1 (by decide) rfl rfl rfl hp (fun o w2 s2 hw2 hp2 => ?_)
  obtain ⟨v2, rfl, hp2⟩ := l2_int hp2
  show pm_H (some (L, xs)) 300 310 536 [(3, .int x3), (2, .ref 1131), (1, .ref 0), (0, .ref pm_SC)] [.int v2] w2 Q
  refine pm_H.go (pc' := 537) (st' := []) rfl rfl rfl rfl ?_
  refine pm_H.go (pc' := 858) (st' := []) rfl rfl rfl rfl ?_
  obtain ⟨t2, hS⟩ := hp2.2
  exact K w2 s2 t2 hw2 hS

theorem l6_op14 {L : Nat} {xs : Nat → Int32} {x3 t : Int32} {w : pm_W} {s : ps_S} {Q : Option Value → pm_W → Prop} (ha : ∀ (k : Int32) (_ : pm_in k 6 = true), pm_in (x3 + k) L = true) (hw : ps_R w s) (h : ISt s t) (K : ∀ (w' : pm_W) (s' : ps_S) (t' : Int32), ps_R w' s' → ISt s' t' → pm_H (some (L, xs)) 300 310 858 [(3, .int x3), (2, .ref 1131), (1, .ref 0), (0, .ref pm_SC)] [] w' Q) : pm_H (some (L, xs)) 300 310 540 [(3, .int x3), (2, .ref 1131), (1, .ref 0), (0, .ref pm_SC)] [] w Q := by
  refine pm_H.go (pc' := 541) (st' := [.ref 0]) rfl rfl rfl rfl ?_
  refine pm_H.go (pc' := 542) (st' := [.ref pm_SC, .ref 0]) rfl rfl rfl rfl ?_
  refine pm_H.go (pc' := 543) (st' := [.int x3, .ref pm_SC, .ref 0]) rfl rfl rfl rfl ?_
  refine pm_H.go (pc' := 544) (st' := [.int 1, .int x3, .ref pm_SC, .ref 0]) rfl rfl rfl rfl ?_
  refine pm_H.go (pc' := 545) (st' := [.int (x3 + 1), .ref pm_SC, .ref 0]) rfl rfl rfl rfl ?_
  refine pm_H.sld (i := (x3 + 1)) rfl rfl (ha 1 rfl) ?_
  refine l2_call (c := 11) (q := 0) rfl rfl rfl (by decide) rfl (by decide) hw (by decide) rfl rfl rfl (PR_14 h) (fun o w1 s1 hw1 hp => ?_)
  obtain ⟨v1, rfl, hp⟩ := l2_int hp
  show pm_H (some (L, xs)) 300 310 549 [(3, .int x3), (2, .ref 1131), (1, .ref 0), (0, .ref pm_SC)] [.int v1] w1 Q
  refine pm_H.go (pc' := 550) (st' := []) rfl rfl rfl rfl ?_
  refine pm_H.go (pc' := 551) (st' := [.ref 1131]) rfl rfl rfl rfl ?_
  refine pm_H.go (pc' := 552) (st' := [.ref pm_SC, .ref 1131]) rfl rfl rfl rfl ?_
  refine pm_H.go (pc' := 553) (st' := [.int x3, .ref pm_SC, .ref 1131]) rfl rfl rfl rfl ?_
  refine pm_H.go (pc' := 554) (st' := [.int 1, .int x3, .ref pm_SC, .ref 1131]) rfl rfl rfl rfl ?_
  refine pm_H.go (pc' := 555) (st' := [.int (x3 + 1), .ref pm_SC, .ref 1131]) rfl rfl rfl rfl ?_
  refine pm_H.sld (i := (x3 + 1)) rfl rfl (ha 1 rfl) ?_
  refine l2_call (c := 12) (q := 1131) rfl rfl rfl (by decide) rfl (by decide) hw1 (by decide) rfl rfl rfl hp (fun o w2 s2 hw2 hp2 => ?_)
  obtain ⟨v2, rfl, hp2⟩ := l2_int hp2
  show pm_H (some (L, xs)) 300 310 559 [(3, .int x3), (2, .ref 1131), (1, .ref 0), (0, .ref pm_SC)] [.int v2] w2 Q
  refine pm_H.go (pc' := 560) (st' := []) rfl rfl rfl rfl ?_
  refine pm_H.go (pc' := 858) (st' := []) rfl rfl rfl rfl ?_
  obtain ⟨t2, hS⟩ := hp2.2
  exact K w2 s2 t2 hw2 hS

theorem l6_op15 {L : Nat} {xs : Nat → Int32} {x3 t : Int32} {w : pm_W} {s : ps_S} {Q : Option Value → pm_W → Prop} (ha : ∀ (k : Int32) (_ : pm_in k 6 = true), pm_in (x3 + k) L = true) (hw : ps_R w s) (h : ISt s t) (K : ∀ (w' : pm_W) (s' : ps_S) (t' : Int32), ps_R w' s' → ISt s' t' → pm_H (some (L, xs)) 300 310 858 [(3, .int x3), (2, .ref 1131), (1, .ref 0), (0, .ref pm_SC)] [] w' Q) : pm_H (some (L, xs)) 300 310 563 [(3, .int x3), (2, .ref 1131), (1, .ref 0), (0, .ref pm_SC)] [] w Q := by
  refine pm_H.go (pc' := 564) (st' := [.ref 0]) rfl rfl rfl rfl ?_
  refine l2_call (c := 11) (q := 0) rfl rfl rfl (by decide) rfl (by decide) hw (by decide) rfl rfl rfl (PR_15 h) (fun o w1 s1 hw1 hp => ?_)
  obtain ⟨v1, rfl, hp⟩ := l2_int hp
  show pm_H (some (L, xs)) 300 310 567 [(3, .int x3), (2, .ref 1131), (1, .ref 0), (0, .ref pm_SC)] [.int v1] w1 Q
  refine pm_H.go (pc' := 568) (st' := []) rfl rfl rfl rfl ?_
  refine pm_H.go (pc' := 569) (st' := [.ref 1131]) rfl rfl rfl rfl ?_
  refine l2_call (c := 12) (q := 1131) rfl rfl rfl (by decide) rfl (by decide) hw1 (by decide) rfl rfl rfl hp (fun o w2 s2 hw2 hp2 => ?_)
  obtain ⟨v2, rfl, hp2⟩ := l2_int hp2
  show pm_H (some (L, xs)) 300 310 572 [(3, .int x3), (2, .ref 1131), (1, .ref 0), (0, .ref pm_SC)] [.int v2] w2 Q
  refine pm_H.go (pc' := 573) (st' := []) rfl rfl rfl rfl ?_
  refine pm_H.go (pc' := 858) (st' := []) rfl rfl rfl rfl ?_
  obtain ⟨t2, hS⟩ := hp2
  exact K w2 s2 t2 hw2 hS

theorem l6_op16 {L : Nat} {xs : Nat → Int32} {x3 t : Int32} {w : pm_W} {s : ps_S} {Q : Option Value → pm_W → Prop} (ha : ∀ (k : Int32) (_ : pm_in k 6 = true), pm_in (x3 + k) L = true) (hw : ps_R w s) (h : ISt s t) (K : ∀ (w' : pm_W) (s' : ps_S) (t' : Int32), ps_R w' s' → ISt s' t' → pm_H (some (L, xs)) 300 310 858 [(3, .int x3), (2, .ref 1131), (1, .ref 0), (0, .ref pm_SC)] [] w' Q) : pm_H (some (L, xs)) 300 310 576 [(3, .int x3), (2, .ref 1131), (1, .ref 0), (0, .ref pm_SC)] [] w Q := by
  refine pm_H.go (pc' := 577) (st' := [.ref 0]) rfl rfl rfl rfl ?_
  refine pm_H.go (pc' := 578) (st' := [.ref pm_SC, .ref 0]) rfl rfl rfl rfl ?_
  refine pm_H.go (pc' := 579) (st' := [.int x3, .ref pm_SC, .ref 0]) rfl rfl rfl rfl ?_
  refine pm_H.go (pc' := 580) (st' := [.int 1, .int x3, .ref pm_SC, .ref 0]) rfl rfl rfl rfl ?_
  refine pm_H.go (pc' := 581) (st' := [.int (x3 + 1), .ref pm_SC, .ref 0]) rfl rfl rfl rfl ?_
  refine pm_H.sld (i := (x3 + 1)) rfl rfl (ha 1 rfl) ?_
  refine l2_call (c := 11) (q := 0) rfl rfl rfl (by decide) rfl (by decide) hw (by decide) rfl rfl rfl (PR_16 h) (fun o w1 s1 hw1 hp => ?_)
  obtain ⟨v1, rfl, hp⟩ := l2_lng hp
  show pm_H (some (L, xs)) 300 310 585 [(3, .int x3), (2, .ref 1131), (1, .ref 0), (0, .ref pm_SC)] [.long v1] w1 Q
  refine pm_H.go (pc' := 586) (st' := []) rfl rfl rfl rfl ?_
  refine pm_H.go (pc' := 587) (st' := [.ref 1131]) rfl rfl rfl rfl ?_
  refine pm_H.go (pc' := 588) (st' := [.ref pm_SC, .ref 1131]) rfl rfl rfl rfl ?_
  refine pm_H.go (pc' := 589) (st' := [.int x3, .ref pm_SC, .ref 1131]) rfl rfl rfl rfl ?_
  refine pm_H.go (pc' := 590) (st' := [.int 1, .int x3, .ref pm_SC, .ref 1131]) rfl rfl rfl rfl ?_
  refine pm_H.go (pc' := 591) (st' := [.int (x3 + 1), .ref pm_SC, .ref 1131]) rfl rfl rfl rfl ?_
  refine pm_H.sld (i := (x3 + 1)) rfl rfl (ha 1 rfl) ?_
  refine l2_call (c := 12) (q := 1131) rfl rfl rfl (by decide) rfl (by decide) hw1 (by decide) rfl rfl rfl hp (fun o w2 s2 hw2 hp2 => ?_)
  obtain ⟨v2, rfl, hp2⟩ := l2_lng hp2
  show pm_H (some (L, xs)) 300 310 595 [(3, .int x3), (2, .ref 1131), (1, .ref 0), (0, .ref pm_SC)] [.long v2] w2 Q
  refine pm_H.go (pc' := 596) (st' := []) rfl rfl rfl rfl ?_
  refine pm_H.go (pc' := 858) (st' := []) rfl rfl rfl rfl ?_
  obtain ⟨t2, hS⟩ := hp2
  exact K w2 s2 t2 hw2 hS

theorem l6_op17 {L : Nat} {xs : Nat → Int32} {x3 t : Int32} {w : pm_W} {s : ps_S} {Q : Option Value → pm_W → Prop} (ha : ∀ (k : Int32) (_ : pm_in k 6 = true), pm_in (x3 + k) L = true) (hw : ps_R w s) (h : ISt s t) (K : ∀ (w' : pm_W) (s' : ps_S) (t' : Int32), ps_R w' s' → ISt s' t' → pm_H (some (L, xs)) 300 310 858 [(3, .int x3), (2, .ref 1131), (1, .ref 0), (0, .ref pm_SC)] [] w' Q) : pm_H (some (L, xs)) 300 310 599 [(3, .int x3), (2, .ref 1131), (1, .ref 0), (0, .ref pm_SC)] [] w Q := by
  refine pm_H.go (pc' := 600) (st' := [.ref 0]) rfl rfl rfl rfl ?_
  refine l2_call (c := 11) (q := 0) rfl rfl rfl (by decide) rfl (by decide) hw (by decide) rfl rfl rfl (PR_17 h) (fun o w1 s1 hw1 hp => ?_)
  obtain ⟨v1, rfl, hp⟩ := l2_int hp
  show pm_H (some (L, xs)) 300 310 603 [(3, .int x3), (2, .ref 1131), (1, .ref 0), (0, .ref pm_SC)] [.int v1] w1 Q
  refine pm_H.go (pc' := 604) (st' := []) rfl rfl rfl rfl ?_
  refine pm_H.go (pc' := 605) (st' := [.ref 1131]) rfl rfl rfl rfl ?_
  refine l2_call (c := 12) (q := 1131) rfl rfl rfl (by decide) rfl (by decide) hw1 (by decide) rfl rfl rfl hp (fun o w2 s2 hw2 hp2 => ?_)
  obtain ⟨v2, rfl, hp2⟩ := l2_int hp2
  show pm_H (some (L, xs)) 300 310 608 [(3, .int x3), (2, .ref 1131), (1, .ref 0), (0, .ref pm_SC)] [.int v2] w2 Q
  refine pm_H.go (pc' := 609) (st' := []) rfl rfl rfl rfl ?_
  refine pm_H.go (pc' := 858) (st' := []) rfl rfl rfl rfl ?_
  obtain ⟨t2, hS⟩ := hp2.2
  exact K w2 s2 t2 hw2 hS

theorem l6_op18 {L : Nat} {xs : Nat → Int32} {x3 t : Int32} {w : pm_W} {s : ps_S} {Q : Option Value → pm_W → Prop} (ha : ∀ (k : Int32) (_ : pm_in k 6 = true), pm_in (x3 + k) L = true) (hw : ps_R w s) (h : ISt s t) (K : ∀ (w' : pm_W) (s' : ps_S) (t' : Int32), ps_R w' s' → ISt s' t' → pm_H (some (L, xs)) 300 310 858 [(3, .int x3), (2, .ref 1131), (1, .ref 0), (0, .ref pm_SC)] [] w' Q) : pm_H (some (L, xs)) 300 310 612 [(3, .int x3), (2, .ref 1131), (1, .ref 0), (0, .ref pm_SC)] [] w Q := by
  refine pm_H.go (pc' := 613) (st' := [.ref 0]) rfl rfl rfl rfl ?_
  refine l2_call (c := 11) (q := 0) rfl rfl rfl (by decide) rfl (by decide) hw (by decide) rfl rfl rfl (PR_18 h) (fun o w1 s1 hw1 hp => ?_)
  obtain ⟨v1, rfl, hp⟩ := l2_int hp
  show pm_H (some (L, xs)) 300 310 616 [(3, .int x3), (2, .ref 1131), (1, .ref 0), (0, .ref pm_SC)] [.int v1] w1 Q
  refine pm_H.go (pc' := 617) (st' := [.ref 1131, .int v1]) rfl rfl rfl rfl ?_
  refine l2_call (c := 12) (q := 1131) rfl rfl rfl (by decide) rfl (by decide) hw1 (by decide) rfl rfl rfl hp (fun o w2 s2 hw2 hp2 => ?_)
  obtain ⟨v2, rfl, hp2⟩ := l2_int hp2
  show pm_H (some (L, xs)) 300 310 620 [(3, .int x3), (2, .ref 1131), (1, .ref 0), (0, .ref pm_SC)] [.int v2, .int v1] w2 Q
  refine pm_H.bricmp (b := true) (pc' := 858) rfl rfl (decide_eq_true hp2.1) rfl rfl ?_
  obtain ⟨t2, hS⟩ := hp2.2
  exact K w2 s2 t2 hw2 hS

theorem l6_op19 {L : Nat} {xs : Nat → Int32} {x3 t : Int32} {w : pm_W} {s : ps_S} {Q : Option Value → pm_W → Prop} (ha : ∀ (k : Int32) (_ : pm_in k 6 = true), pm_in (x3 + k) L = true) (hw : ps_R w s) (h : ISt s t) (K : ∀ (w' : pm_W) (s' : ps_S) (t' : Int32), ps_R w' s' → ISt s' t' → pm_H (some (L, xs)) 300 310 858 [(3, .int x3), (2, .ref 1131), (1, .ref 0), (0, .ref pm_SC)] [] w' Q) : pm_H (some (L, xs)) 300 310 625 [(3, .int x3), (2, .ref 1131), (1, .ref 0), (0, .ref pm_SC)] [] w Q := by
  refine pm_H.go (pc' := 626) (st' := [.ref 0]) rfl rfl rfl rfl ?_
  refine l2_call (c := 11) (q := 0) rfl rfl rfl (by decide) rfl (by decide) hw (by decide) rfl rfl rfl (PR_19 h) (fun o w1 s1 hw1 hp => ?_)
  obtain ⟨v1, rfl, hp⟩ := l2_int hp
  show pm_H (some (L, xs)) 300 310 629 [(3, .int x3), (2, .ref 1131), (1, .ref 0), (0, .ref pm_SC)] [.int v1] w1 Q
  refine pm_H.go (pc' := 630) (st' := []) rfl rfl rfl rfl ?_
  refine pm_H.go (pc' := 631) (st' := [.ref 1131]) rfl rfl rfl rfl ?_
  refine l2_call (c := 12) (q := 1131) rfl rfl rfl (by decide) rfl (by decide) hw1 (by decide) rfl rfl rfl hp (fun o w2 s2 hw2 hp2 => ?_)
  obtain ⟨v2, rfl, hp2⟩ := l2_int hp2
  show pm_H (some (L, xs)) 300 310 634 [(3, .int x3), (2, .ref 1131), (1, .ref 0), (0, .ref pm_SC)] [.int v2] w2 Q
  refine pm_H.go (pc' := 635) (st' := []) rfl rfl rfl rfl ?_
  refine pm_H.go (pc' := 858) (st' := []) rfl rfl rfl rfl ?_
  obtain ⟨t2, hS⟩ := hp2.2
  exact K w2 s2 t2 hw2 hS

theorem l6_op20 {L : Nat} {xs : Nat → Int32} {x3 t : Int32} {w : pm_W} {s : ps_S} {Q : Option Value → pm_W → Prop} (ha : ∀ (k : Int32) (_ : pm_in k 6 = true), pm_in (x3 + k) L = true) (hw : ps_R w s) (h : ISt s t) (K : ∀ (w' : pm_W) (s' : ps_S) (t' : Int32), ps_R w' s' → ISt s' t' → pm_H (some (L, xs)) 300 310 858 [(3, .int x3), (2, .ref 1131), (1, .ref 0), (0, .ref pm_SC)] [] w' Q) : pm_H (some (L, xs)) 300 310 638 [(3, .int x3), (2, .ref 1131), (1, .ref 0), (0, .ref pm_SC)] [] w Q := by
  refine pm_H.go (pc' := 639) (st' := [.ref 0]) rfl rfl rfl rfl ?_
  refine l2_call (c := 11) (q := 0) rfl rfl rfl (by decide) rfl (by decide) hw (by decide) rfl rfl rfl (PR_20 h) (fun o w1 s1 hw1 hp => ?_)
  obtain ⟨v1, rfl, hp⟩ := l2_int hp
  show pm_H (some (L, xs)) 300 310 642 [(3, .int x3), (2, .ref 1131), (1, .ref 0), (0, .ref pm_SC)] [.int v1] w1 Q
  refine pm_H.go (pc' := 643) (st' := []) rfl rfl rfl rfl ?_
  refine pm_H.go (pc' := 644) (st' := [.ref 1131]) rfl rfl rfl rfl ?_
  refine l2_call (c := 12) (q := 1131) rfl rfl rfl (by decide) rfl (by decide) hw1 (by decide) rfl rfl rfl hp (fun o w2 s2 hw2 hp2 => ?_)
  obtain ⟨v2, rfl, hp2⟩ := l2_int hp2
  show pm_H (some (L, xs)) 300 310 647 [(3, .int x3), (2, .ref 1131), (1, .ref 0), (0, .ref pm_SC)] [.int v2] w2 Q
  refine pm_H.go (pc' := 648) (st' := []) rfl rfl rfl rfl ?_
  refine pm_H.go (pc' := 858) (st' := []) rfl rfl rfl rfl ?_
  obtain ⟨t2, hS⟩ := hp2
  exact K w2 s2 t2 hw2 hS

theorem l6_op21 {L : Nat} {xs : Nat → Int32} {x3 t : Int32} {w : pm_W} {s : ps_S} {Q : Option Value → pm_W → Prop} (ha : ∀ (k : Int32) (_ : pm_in k 6 = true), pm_in (x3 + k) L = true) (hw : ps_R w s) (h : ISt s t) (K : ∀ (w' : pm_W) (s' : ps_S) (t' : Int32), ps_R w' s' → ISt s' t' → pm_H (some (L, xs)) 300 310 858 [(3, .int x3), (2, .ref 1131), (1, .ref 0), (0, .ref pm_SC)] [] w' Q) : pm_H (some (L, xs)) 300 310 651 [(3, .int x3), (2, .ref 1131), (1, .ref 0), (0, .ref pm_SC)] [] w Q := by
  refine pm_H.go (pc' := 652) (st' := [.ref 0]) rfl rfl rfl rfl ?_
  refine pm_H.go (pc' := 653) (st' := [.ref pm_SC, .ref 0]) rfl rfl rfl rfl ?_
  refine pm_H.go (pc' := 654) (st' := [.int x3, .ref pm_SC, .ref 0]) rfl rfl rfl rfl ?_
  refine pm_H.go (pc' := 655) (st' := [.int 1, .int x3, .ref pm_SC, .ref 0]) rfl rfl rfl rfl ?_
  refine pm_H.go (pc' := 656) (st' := [.int (x3 + 1), .ref pm_SC, .ref 0]) rfl rfl rfl rfl ?_
  refine pm_H.sld (i := (x3 + 1)) rfl rfl (ha 1 rfl) ?_
  refine l2_call (c := 11) (q := 0) rfl rfl rfl (by decide) rfl (by decide) hw (by decide) rfl rfl rfl (PR_21 h) (fun o w1 s1 hw1 hp => ?_)
  obtain ⟨v1, rfl, hp⟩ := l2_int hp
  show pm_H (some (L, xs)) 300 310 660 [(3, .int x3), (2, .ref 1131), (1, .ref 0), (0, .ref pm_SC)] [.int v1] w1 Q
  refine pm_H.go (pc' := 661) (st' := []) rfl rfl rfl rfl ?_
  refine pm_H.go (pc' := 662) (st' := [.ref 1131]) rfl rfl rfl rfl ?_
  refine pm_H.go (pc' := 663) (st' := [.ref pm_SC, .ref 1131]) rfl rfl rfl rfl ?_
  refine pm_H.go (pc' := 664) (st' := [.int x3, .ref pm_SC, .ref 1131]) rfl rfl rfl rfl ?_
  refine pm_H.go (pc' := 665) (st' := [.int 1, .int x3, .ref pm_SC, .ref 1131]) rfl rfl rfl rfl ?_
  refine pm_H.go (pc' := 666) (st' := [.int (x3 + 1), .ref pm_SC, .ref 1131]) rfl rfl rfl rfl ?_
  refine pm_H.sld (i := (x3 + 1)) rfl rfl (ha 1 rfl) ?_
  refine l2_call (c := 12) (q := 1131) rfl rfl rfl (by decide) rfl (by decide) hw1 (by decide) rfl rfl rfl hp (fun o w2 s2 hw2 hp2 => ?_)
  obtain ⟨v2, rfl, hp2⟩ := l2_int hp2
  show pm_H (some (L, xs)) 300 310 670 [(3, .int x3), (2, .ref 1131), (1, .ref 0), (0, .ref pm_SC)] [.int v2] w2 Q
  refine pm_H.go (pc' := 671) (st' := []) rfl rfl rfl rfl ?_
  refine pm_H.go (pc' := 858) (st' := []) rfl rfl rfl rfl ?_
  obtain ⟨t2, hS⟩ := hp2
  exact K w2 s2 t2 hw2 hS

theorem l6_op22 {L : Nat} {xs : Nat → Int32} {x3 t : Int32} {w : pm_W} {s : ps_S} {Q : Option Value → pm_W → Prop} (ha : ∀ (k : Int32) (_ : pm_in k 6 = true), pm_in (x3 + k) L = true) (hw : ps_R w s) (h : ISt s t) (K : ∀ (w' : pm_W) (s' : ps_S) (t' : Int32), ps_R w' s' → ISt s' t' → pm_H (some (L, xs)) 300 310 858 [(3, .int x3), (2, .ref 1131), (1, .ref 0), (0, .ref pm_SC)] [] w' Q) : pm_H (some (L, xs)) 300 310 674 [(3, .int x3), (2, .ref 1131), (1, .ref 0), (0, .ref pm_SC)] [] w Q := by
  refine pm_H.go (pc' := 675) (st' := [.ref 0]) rfl rfl rfl rfl ?_
  refine l2_call (c := 11) (q := 0) rfl rfl rfl (by decide) rfl (by decide) hw (by decide) rfl rfl rfl (PR_22 h) (fun o w1 s1 hw1 hp => ?_)
  obtain ⟨v1, rfl, hp⟩ := l2_int hp
  show pm_H (some (L, xs)) 300 310 678 [(3, .int x3), (2, .ref 1131), (1, .ref 0), (0, .ref pm_SC)] [.int v1] w1 Q
  refine pm_H.go (pc' := 679) (st' := []) rfl rfl rfl rfl ?_
  refine pm_H.go (pc' := 680) (st' := [.ref 1131]) rfl rfl rfl rfl ?_
  refine l2_call (c := 12) (q := 1131) rfl rfl rfl (by decide) rfl (by decide) hw1 (by decide) rfl rfl rfl hp (fun o w2 s2 hw2 hp2 => ?_)
  obtain ⟨v2, rfl, hp2⟩ := l2_int hp2
  show pm_H (some (L, xs)) 300 310 683 [(3, .int x3), (2, .ref 1131), (1, .ref 0), (0, .ref pm_SC)] [.int v2] w2 Q
  refine pm_H.go (pc' := 684) (st' := []) rfl rfl rfl rfl ?_
  refine pm_H.go (pc' := 858) (st' := []) rfl rfl rfl rfl ?_
  obtain ⟨t2, hS⟩ := hp2.2
  exact K w2 s2 t2 hw2 hS

theorem l6_op23 {L : Nat} {xs : Nat → Int32} {x3 t : Int32} {w : pm_W} {s : ps_S} {Q : Option Value → pm_W → Prop} (ha : ∀ (k : Int32) (_ : pm_in k 6 = true), pm_in (x3 + k) L = true) (hw : ps_R w s) (h : ISt s t) (K : ∀ (w' : pm_W) (s' : ps_S) (t' : Int32), ps_R w' s' → ISt s' t' → pm_H (some (L, xs)) 300 310 858 [(3, .int x3), (2, .ref 1131), (1, .ref 0), (0, .ref pm_SC)] [] w' Q) : pm_H (some (L, xs)) 300 310 687 [(3, .int x3), (2, .ref 1131), (1, .ref 0), (0, .ref pm_SC)] [] w Q := by
  refine pm_H.go (pc' := 688) (st' := [.ref 0]) rfl rfl rfl rfl ?_
  refine pm_H.go (pc' := 689) (st' := [.ref pm_SC, .ref 0]) rfl rfl rfl rfl ?_
  refine pm_H.go (pc' := 690) (st' := [.int x3, .ref pm_SC, .ref 0]) rfl rfl rfl rfl ?_
  refine pm_H.go (pc' := 691) (st' := [.int 1, .int x3, .ref pm_SC, .ref 0]) rfl rfl rfl rfl ?_
  refine pm_H.go (pc' := 692) (st' := [.int (x3 + 1), .ref pm_SC, .ref 0]) rfl rfl rfl rfl ?_
  refine pm_H.sld (i := (x3 + 1)) rfl rfl (ha 1 rfl) ?_
  refine l2_call (c := 11) (q := 0) rfl rfl rfl (by decide) rfl (by decide) hw (by decide) rfl rfl rfl (PR_23 h) (fun o w1 s1 hw1 hp => ?_)
  obtain ⟨v1, rfl, hp⟩ := l2_int hp
  show pm_H (some (L, xs)) 300 310 696 [(3, .int x3), (2, .ref 1131), (1, .ref 0), (0, .ref pm_SC)] [.int v1] w1 Q
  refine pm_H.go (pc' := 697) (st' := []) rfl rfl rfl rfl ?_
  refine pm_H.go (pc' := 698) (st' := [.ref 1131]) rfl rfl rfl rfl ?_
  refine pm_H.go (pc' := 699) (st' := [.ref pm_SC, .ref 1131]) rfl rfl rfl rfl ?_
  refine pm_H.go (pc' := 700) (st' := [.int x3, .ref pm_SC, .ref 1131]) rfl rfl rfl rfl ?_
  refine pm_H.go (pc' := 701) (st' := [.int 1, .int x3, .ref pm_SC, .ref 1131]) rfl rfl rfl rfl ?_
  refine pm_H.go (pc' := 702) (st' := [.int (x3 + 1), .ref pm_SC, .ref 1131]) rfl rfl rfl rfl ?_
  refine pm_H.sld (i := (x3 + 1)) rfl rfl (ha 1 rfl) ?_
  refine l2_call (c := 12) (q := 1131) rfl rfl rfl (by decide) rfl (by decide) hw1 (by decide) rfl rfl rfl hp (fun o w2 s2 hw2 hp2 => ?_)
  obtain ⟨v2, rfl, hp2⟩ := l2_int hp2
  show pm_H (some (L, xs)) 300 310 706 [(3, .int x3), (2, .ref 1131), (1, .ref 0), (0, .ref pm_SC)] [.int v2] w2 Q
  refine pm_H.go (pc' := 707) (st' := []) rfl rfl rfl rfl ?_
  refine pm_H.go (pc' := 858) (st' := []) rfl rfl rfl rfl ?_
  obtain ⟨t2, hS⟩ := hp2.2
  exact K w2 s2 t2 hw2 hS

theorem l6_op24 {L : Nat} {xs : Nat → Int32} {x3 t : Int32} {w : pm_W} {s : ps_S} {Q : Option Value → pm_W → Prop} (ha : ∀ (k : Int32) (_ : pm_in k 6 = true), pm_in (x3 + k) L = true) (hw : ps_R w s) (h : ISt s t) (K : ∀ (w' : pm_W) (s' : ps_S) (t' : Int32), ps_R w' s' → ISt s' t' → pm_H (some (L, xs)) 300 310 858 [(3, .int x3), (2, .ref 1131), (1, .ref 0), (0, .ref pm_SC)] [] w' Q) : pm_H (some (L, xs)) 300 310 710 [(3, .int x3), (2, .ref 1131), (1, .ref 0), (0, .ref pm_SC)] [] w Q := by
  refine pm_H.go (pc' := 711) (st' := [.ref 0]) rfl rfl rfl rfl ?_
  refine pm_H.go (pc' := 712) (st' := [.ref pm_SC, .ref 0]) rfl rfl rfl rfl ?_
  refine pm_H.go (pc' := 713) (st' := [.int x3, .ref pm_SC, .ref 0]) rfl rfl rfl rfl ?_
  refine pm_H.go (pc' := 714) (st' := [.int 1, .int x3, .ref pm_SC, .ref 0]) rfl rfl rfl rfl ?_
  refine pm_H.go (pc' := 715) (st' := [.int (x3 + 1), .ref pm_SC, .ref 0]) rfl rfl rfl rfl ?_
  refine pm_H.sld (i := (x3 + 1)) rfl rfl (ha 1 rfl) ?_
  refine l2_call (c := 11) (q := 0) rfl rfl rfl (by decide) rfl (by decide) hw (by decide) rfl rfl rfl (PR_24 h) (fun o w1 s1 hw1 hp => ?_)
  obtain ⟨v1, rfl, hp⟩ := l2_int hp
  show pm_H (some (L, xs)) 300 310 719 [(3, .int x3), (2, .ref 1131), (1, .ref 0), (0, .ref pm_SC)] [.int v1] w1 Q
  refine pm_H.go (pc' := 720) (st' := []) rfl rfl rfl rfl ?_
  refine pm_H.go (pc' := 721) (st' := [.ref 1131]) rfl rfl rfl rfl ?_
  refine pm_H.go (pc' := 722) (st' := [.ref pm_SC, .ref 1131]) rfl rfl rfl rfl ?_
  refine pm_H.go (pc' := 723) (st' := [.int x3, .ref pm_SC, .ref 1131]) rfl rfl rfl rfl ?_
  refine pm_H.go (pc' := 724) (st' := [.int 1, .int x3, .ref pm_SC, .ref 1131]) rfl rfl rfl rfl ?_
  refine pm_H.go (pc' := 725) (st' := [.int (x3 + 1), .ref pm_SC, .ref 1131]) rfl rfl rfl rfl ?_
  refine pm_H.sld (i := (x3 + 1)) rfl rfl (ha 1 rfl) ?_
  refine l2_call (c := 12) (q := 1131) rfl rfl rfl (by decide) rfl (by decide) hw1 (by decide) rfl rfl rfl hp (fun o w2 s2 hw2 hp2 => ?_)
  obtain ⟨v2, rfl, hp2⟩ := l2_int hp2
  show pm_H (some (L, xs)) 300 310 729 [(3, .int x3), (2, .ref 1131), (1, .ref 0), (0, .ref pm_SC)] [.int v2] w2 Q
  refine pm_H.go (pc' := 730) (st' := []) rfl rfl rfl rfl ?_
  refine pm_H.go (pc' := 858) (st' := []) rfl rfl rfl rfl ?_
  obtain ⟨t2, hS⟩ := hp2
  exact K w2 s2 t2 hw2 hS

theorem l6_op25 {L : Nat} {xs : Nat → Int32} {x3 t : Int32} {w : pm_W} {s : ps_S} {Q : Option Value → pm_W → Prop} (ha : ∀ (k : Int32) (_ : pm_in k 6 = true), pm_in (x3 + k) L = true) (hw : ps_R w s) (h : ISt s t) (K : ∀ (w' : pm_W) (s' : ps_S) (t' : Int32), ps_R w' s' → ISt s' t' → pm_H (some (L, xs)) 300 310 858 [(3, .int x3), (2, .ref 1131), (1, .ref 0), (0, .ref pm_SC)] [] w' Q) : pm_H (some (L, xs)) 300 310 733 [(3, .int x3), (2, .ref 1131), (1, .ref 0), (0, .ref pm_SC)] [] w Q := by
  refine pm_H.go (pc' := 734) (st' := [.ref 0]) rfl rfl rfl rfl ?_
  refine pm_H.go (pc' := 735) (st' := [.ref pm_SC, .ref 0]) rfl rfl rfl rfl ?_
  refine pm_H.go (pc' := 736) (st' := [.int x3, .ref pm_SC, .ref 0]) rfl rfl rfl rfl ?_
  refine pm_H.go (pc' := 737) (st' := [.int 1, .int x3, .ref pm_SC, .ref 0]) rfl rfl rfl rfl ?_
  refine pm_H.go (pc' := 738) (st' := [.int (x3 + 1), .ref pm_SC, .ref 0]) rfl rfl rfl rfl ?_
  refine pm_H.sld (i := (x3 + 1)) rfl rfl (ha 1 rfl) ?_
  refine pm_H.go (pc' := 740) (st' := [.ref pm_SC, .int (xs (Int32.toNatClampNeg (x3 + 1))), .ref 0]) rfl rfl rfl rfl ?_
  refine pm_H.go (pc' := 741) (st' := [.int x3, .ref pm_SC, .int (xs (Int32.toNatClampNeg (x3 + 1))), .ref 0]) rfl rfl rfl rfl ?_
  refine pm_H.go (pc' := 742) (st' := [.int 2, .int x3, .ref pm_SC, .int (xs (Int32.toNatClampNeg (x3 + 1))), .ref 0]) rfl rfl rfl rfl ?_
  refine pm_H.go (pc' := 743) (st' := [.int (x3 + 2), .ref pm_SC, .int (xs (Int32.toNatClampNeg (x3 + 1))), .ref 0]) rfl rfl rfl rfl ?_
  refine pm_H.sld (i := (x3 + 2)) rfl rfl (ha 2 rfl) ?_
  refine l2_call (c := 11) (q := 0) rfl rfl rfl (by decide) rfl (by decide) hw (by decide) rfl rfl rfl (PR_25 h) (fun o w1 s1 hw1 hp => ?_)
  obtain ⟨v1, rfl, hp⟩ := l2_int hp
  show pm_H (some (L, xs)) 300 310 747 [(3, .int x3), (2, .ref 1131), (1, .ref 0), (0, .ref pm_SC)] [.int v1] w1 Q
  refine pm_H.go (pc' := 748) (st' := []) rfl rfl rfl rfl ?_
  refine pm_H.go (pc' := 749) (st' := [.ref 1131]) rfl rfl rfl rfl ?_
  refine pm_H.go (pc' := 750) (st' := [.ref pm_SC, .ref 1131]) rfl rfl rfl rfl ?_
  refine pm_H.go (pc' := 751) (st' := [.int x3, .ref pm_SC, .ref 1131]) rfl rfl rfl rfl ?_
  refine pm_H.go (pc' := 752) (st' := [.int 1, .int x3, .ref pm_SC, .ref 1131]) rfl rfl rfl rfl ?_
  refine pm_H.go (pc' := 753) (st' := [.int (x3 + 1), .ref pm_SC, .ref 1131]) rfl rfl rfl rfl ?_
  refine pm_H.sld (i := (x3 + 1)) rfl rfl (ha 1 rfl) ?_
  refine pm_H.go (pc' := 755) (st' := [.ref pm_SC, .int (xs (Int32.toNatClampNeg (x3 + 1))), .ref 1131]) rfl rfl rfl rfl ?_
  refine pm_H.go (pc' := 756) (st' := [.int x3, .ref pm_SC, .int (xs (Int32.toNatClampNeg (x3 + 1))), .ref 1131]) rfl rfl rfl rfl ?_
  refine pm_H.go (pc' := 757) (st' := [.int 2, .int x3, .ref pm_SC, .int (xs (Int32.toNatClampNeg (x3 + 1))), .ref 1131]) rfl rfl rfl rfl ?_
  refine pm_H.go (pc' := 758) (st' := [.int (x3 + 2), .ref pm_SC, .int (xs (Int32.toNatClampNeg (x3 + 1))), .ref 1131]) rfl rfl rfl rfl ?_
  refine pm_H.sld (i := (x3 + 2)) rfl rfl (ha 2 rfl) ?_
  refine l2_call (c := 12) (q := 1131) rfl rfl rfl (by decide) rfl (by decide) hw1 (by decide) rfl rfl rfl hp (fun o w2 s2 hw2 hp2 => ?_)
  obtain ⟨v2, rfl, hp2⟩ := l2_int hp2
  show pm_H (some (L, xs)) 300 310 762 [(3, .int x3), (2, .ref 1131), (1, .ref 0), (0, .ref pm_SC)] [.int v2] w2 Q
  refine pm_H.go (pc' := 763) (st' := []) rfl rfl rfl rfl ?_
  refine pm_H.go (pc' := 858) (st' := []) rfl rfl rfl rfl ?_
  obtain ⟨t2, hS⟩ := hp2
  exact K w2 s2 t2 hw2 hS

theorem l6_op26 {L : Nat} {xs : Nat → Int32} {x3 t : Int32} {w : pm_W} {s : ps_S} {Q : Option Value → pm_W → Prop} (ha : ∀ (k : Int32) (_ : pm_in k 6 = true), pm_in (x3 + k) L = true) (hw : ps_R w s) (h : ISt s t) (K : ∀ (w' : pm_W) (s' : ps_S) (t' : Int32), ps_R w' s' → ISt s' t' → pm_H (some (L, xs)) 300 310 858 [(3, .int x3), (2, .ref 1131), (1, .ref 0), (0, .ref pm_SC)] [] w' Q) : pm_H (some (L, xs)) 300 310 766 [(3, .int x3), (2, .ref 1131), (1, .ref 0), (0, .ref pm_SC)] [] w Q := by
  refine pm_H.go (pc' := 767) (st' := [.ref 0]) rfl rfl rfl rfl ?_
  refine pm_H.go (pc' := 768) (st' := [.ref pm_SC, .ref 0]) rfl rfl rfl rfl ?_
  refine pm_H.go (pc' := 769) (st' := [.int x3, .ref pm_SC, .ref 0]) rfl rfl rfl rfl ?_
  refine pm_H.go (pc' := 770) (st' := [.int 1, .int x3, .ref pm_SC, .ref 0]) rfl rfl rfl rfl ?_
  refine pm_H.go (pc' := 771) (st' := [.int (x3 + 1), .ref pm_SC, .ref 0]) rfl rfl rfl rfl ?_
  refine pm_H.sld (i := (x3 + 1)) rfl rfl (ha 1 rfl) ?_
  refine l2_call (c := 11) (q := 0) rfl rfl rfl (by decide) rfl (by decide) hw (by decide) rfl rfl rfl (PR_26 h) (fun o w1 s1 hw1 hp => ?_)
  obtain ⟨v1, rfl, hp⟩ := l2_int hp
  show pm_H (some (L, xs)) 300 310 775 [(3, .int x3), (2, .ref 1131), (1, .ref 0), (0, .ref pm_SC)] [.int v1] w1 Q
  refine pm_H.go (pc' := 776) (st' := []) rfl rfl rfl rfl ?_
  refine pm_H.go (pc' := 777) (st' := [.ref 1131]) rfl rfl rfl rfl ?_
  refine pm_H.go (pc' := 778) (st' := [.ref pm_SC, .ref 1131]) rfl rfl rfl rfl ?_
  refine pm_H.go (pc' := 779) (st' := [.int x3, .ref pm_SC, .ref 1131]) rfl rfl rfl rfl ?_
  refine pm_H.go (pc' := 780) (st' := [.int 1, .int x3, .ref pm_SC, .ref 1131]) rfl rfl rfl rfl ?_
  refine pm_H.go (pc' := 781) (st' := [.int (x3 + 1), .ref pm_SC, .ref 1131]) rfl rfl rfl rfl ?_
  refine pm_H.sld (i := (x3 + 1)) rfl rfl (ha 1 rfl) ?_
  refine l2_call (c := 12) (q := 1131) rfl rfl rfl (by decide) rfl (by decide) hw1 (by decide) rfl rfl rfl hp (fun o w2 s2 hw2 hp2 => ?_)
  obtain ⟨v2, rfl, hp2⟩ := l2_int hp2
  show pm_H (some (L, xs)) 300 310 785 [(3, .int x3), (2, .ref 1131), (1, .ref 0), (0, .ref pm_SC)] [.int v2] w2 Q
  refine pm_H.go (pc' := 786) (st' := []) rfl rfl rfl rfl ?_
  refine pm_H.go (pc' := 858) (st' := []) rfl rfl rfl rfl ?_
  obtain ⟨t2, hS⟩ := hp2
  exact K w2 s2 t2 hw2 hS

theorem l6_op27 {L : Nat} {xs : Nat → Int32} {x3 t : Int32} {w : pm_W} {s : ps_S} {Q : Option Value → pm_W → Prop} (ha : ∀ (k : Int32) (_ : pm_in k 6 = true), pm_in (x3 + k) L = true) (hw : ps_R w s) (h : ISt s t) (K : ∀ (w' : pm_W) (s' : ps_S) (t' : Int32), ps_R w' s' → ISt s' t' → pm_H (some (L, xs)) 300 310 858 [(3, .int x3), (2, .ref 1131), (1, .ref 0), (0, .ref pm_SC)] [] w' Q) : pm_H (some (L, xs)) 300 310 789 [(3, .int x3), (2, .ref 1131), (1, .ref 0), (0, .ref pm_SC)] [] w Q := by
  refine pm_H.go (pc' := 790) (st' := [.ref 0]) rfl rfl rfl rfl ?_
  refine pm_H.go (pc' := 791) (st' := [.ref pm_SC, .ref 0]) rfl rfl rfl rfl ?_
  refine pm_H.go (pc' := 792) (st' := [.int x3, .ref pm_SC, .ref 0]) rfl rfl rfl rfl ?_
  refine pm_H.go (pc' := 793) (st' := [.int 1, .int x3, .ref pm_SC, .ref 0]) rfl rfl rfl rfl ?_
  refine pm_H.go (pc' := 794) (st' := [.int (x3 + 1), .ref pm_SC, .ref 0]) rfl rfl rfl rfl ?_
  refine pm_H.sld (i := (x3 + 1)) rfl rfl (ha 1 rfl) ?_
  refine l2_call (c := 11) (q := 0) rfl rfl rfl (by decide) rfl (by decide) hw (by decide) rfl rfl rfl (PR_27 h) (fun o w1 s1 hw1 hp => ?_)
  obtain ⟨v1, rfl, hp⟩ := l2_int hp
  show pm_H (some (L, xs)) 300 310 798 [(3, .int x3), (2, .ref 1131), (1, .ref 0), (0, .ref pm_SC)] [.int v1] w1 Q
  refine pm_H.go (pc' := 799) (st' := []) rfl rfl rfl rfl ?_
  refine pm_H.go (pc' := 800) (st' := [.ref 1131]) rfl rfl rfl rfl ?_
  refine pm_H.go (pc' := 801) (st' := [.ref pm_SC, .ref 1131]) rfl rfl rfl rfl ?_
  refine pm_H.go (pc' := 802) (st' := [.int x3, .ref pm_SC, .ref 1131]) rfl rfl rfl rfl ?_
  refine pm_H.go (pc' := 803) (st' := [.int 1, .int x3, .ref pm_SC, .ref 1131]) rfl rfl rfl rfl ?_
  refine pm_H.go (pc' := 804) (st' := [.int (x3 + 1), .ref pm_SC, .ref 1131]) rfl rfl rfl rfl ?_
  refine pm_H.sld (i := (x3 + 1)) rfl rfl (ha 1 rfl) ?_
  refine l2_call (c := 12) (q := 1131) rfl rfl rfl (by decide) rfl (by decide) hw1 (by decide) rfl rfl rfl hp (fun o w2 s2 hw2 hp2 => ?_)
  obtain ⟨v2, rfl, hp2⟩ := l2_int hp2
  show pm_H (some (L, xs)) 300 310 808 [(3, .int x3), (2, .ref 1131), (1, .ref 0), (0, .ref pm_SC)] [.int v2] w2 Q
  refine pm_H.go (pc' := 809) (st' := []) rfl rfl rfl rfl ?_
  refine pm_H.go (pc' := 858) (st' := []) rfl rfl rfl rfl ?_
  obtain ⟨t2, hS⟩ := hp2
  exact K w2 s2 t2 hw2 hS

theorem l6_op28 {L : Nat} {xs : Nat → Int32} {x3 t : Int32} {w : pm_W} {s : ps_S} {Q : Option Value → pm_W → Prop} (ha : ∀ (k : Int32) (_ : pm_in k 6 = true), pm_in (x3 + k) L = true) (hw : ps_R w s) (h : ISt s t) (K : ∀ (w' : pm_W) (s' : ps_S) (t' : Int32), ps_R w' s' → ISt s' t' → pm_H (some (L, xs)) 300 310 858 [(3, .int x3), (2, .ref 1131), (1, .ref 0), (0, .ref pm_SC)] [] w' Q) : pm_H (some (L, xs)) 300 310 812 [(3, .int x3), (2, .ref 1131), (1, .ref 0), (0, .ref pm_SC)] [] w Q := by
  refine pm_H.go (pc' := 813) (st' := [.ref 0]) rfl rfl rfl rfl ?_
  refine pm_H.go (pc' := 814) (st' := [.ref pm_SC, .ref 0]) rfl rfl rfl rfl ?_
  refine pm_H.go (pc' := 815) (st' := [.int x3, .ref pm_SC, .ref 0]) rfl rfl rfl rfl ?_
  refine pm_H.go (pc' := 816) (st' := [.int 1, .int x3, .ref pm_SC, .ref 0]) rfl rfl rfl rfl ?_
  refine pm_H.go (pc' := 817) (st' := [.int (x3 + 1), .ref pm_SC, .ref 0]) rfl rfl rfl rfl ?_
  refine pm_H.sld (i := (x3 + 1)) rfl rfl (ha 1 rfl) ?_
  refine l2_call (c := 11) (q := 0) rfl rfl rfl (by decide) rfl (by decide) hw (by decide) rfl rfl rfl (PR_28 h) (fun o w1 s1 hw1 hp => ?_)
  obtain ⟨v1, rfl, hp⟩ := l2_int hp
  show pm_H (some (L, xs)) 300 310 821 [(3, .int x3), (2, .ref 1131), (1, .ref 0), (0, .ref pm_SC)] [.int v1] w1 Q
  refine pm_H.go (pc' := 822) (st' := []) rfl rfl rfl rfl ?_
  refine pm_H.go (pc' := 823) (st' := [.ref 1131]) rfl rfl rfl rfl ?_
  refine pm_H.go (pc' := 824) (st' := [.ref pm_SC, .ref 1131]) rfl rfl rfl rfl ?_
  refine pm_H.go (pc' := 825) (st' := [.int x3, .ref pm_SC, .ref 1131]) rfl rfl rfl rfl ?_
  refine pm_H.go (pc' := 826) (st' := [.int 1, .int x3, .ref pm_SC, .ref 1131]) rfl rfl rfl rfl ?_
  refine pm_H.go (pc' := 827) (st' := [.int (x3 + 1), .ref pm_SC, .ref 1131]) rfl rfl rfl rfl ?_
  refine pm_H.sld (i := (x3 + 1)) rfl rfl (ha 1 rfl) ?_
  refine l2_call (c := 12) (q := 1131) rfl rfl rfl (by decide) rfl (by decide) hw1 (by decide) rfl rfl rfl hp (fun o w2 s2 hw2 hp2 => ?_)
  obtain ⟨v2, rfl, hp2⟩ := l2_int hp2
  show pm_H (some (L, xs)) 300 310 831 [(3, .int x3), (2, .ref 1131), (1, .ref 0), (0, .ref pm_SC)] [.int v2] w2 Q
  refine pm_H.go (pc' := 832) (st' := []) rfl rfl rfl rfl ?_
  refine pm_H.go (pc' := 858) (st' := []) rfl rfl rfl rfl ?_
  obtain ⟨t2, hS⟩ := hp2
  exact K w2 s2 t2 hw2 hS

theorem l6_op29 {L : Nat} {xs : Nat → Int32} {x3 t : Int32} {w : pm_W} {s : ps_S} {Q : Option Value → pm_W → Prop} (ha : ∀ (k : Int32) (_ : pm_in k 6 = true), pm_in (x3 + k) L = true) (hw : ps_R w s) (h : ISt s t) (K : ∀ (w' : pm_W) (s' : ps_S) (t' : Int32), ps_R w' s' → ISt s' t' → pm_H (some (L, xs)) 300 310 858 [(3, .int x3), (2, .ref 1131), (1, .ref 0), (0, .ref pm_SC)] [] w' Q) : pm_H (some (L, xs)) 300 310 835 [(3, .int x3), (2, .ref 1131), (1, .ref 0), (0, .ref pm_SC)] [] w Q := by
  refine pm_H.go (pc' := 836) (st' := [.ref 0]) rfl rfl rfl rfl ?_
  refine pm_H.go (pc' := 837) (st' := [.ref pm_SC, .ref 0]) rfl rfl rfl rfl ?_
  refine pm_H.go (pc' := 838) (st' := [.int x3, .ref pm_SC, .ref 0]) rfl rfl rfl rfl ?_
  refine pm_H.go (pc' := 839) (st' := [.int 1, .int x3, .ref pm_SC, .ref 0]) rfl rfl rfl rfl ?_
  refine pm_H.go (pc' := 840) (st' := [.int (x3 + 1), .ref pm_SC, .ref 0]) rfl rfl rfl rfl ?_
  refine pm_H.sld (i := (x3 + 1)) rfl rfl (ha 1 rfl) ?_
  refine l2_call (c := 11) (q := 0) rfl rfl rfl (by decide) rfl (by decide) hw (by decide) rfl rfl rfl (PR_29 h) (fun o w1 s1 hw1 hp => ?_)
  obtain ⟨v1, rfl, hp⟩ := l2_int hp
  show pm_H (some (L, xs)) 300 310 844 [(3, .int x3), (2, .ref 1131), (1, .ref 0), (0, .ref pm_SC)] [.int v1] w1 Q
  refine pm_H.go (pc' := 845) (st' := []) rfl rfl rfl rfl ?_
  refine pm_H.go (pc' := 846) (st' := [.ref 1131]) rfl rfl rfl rfl ?_
  refine pm_H.go (pc' := 847) (st' := [.ref pm_SC, .ref 1131]) rfl rfl rfl rfl ?_
  refine pm_H.go (pc' := 848) (st' := [.int x3, .ref pm_SC, .ref 1131]) rfl rfl rfl rfl ?_
  refine pm_H.go (pc' := 849) (st' := [.int 1, .int x3, .ref pm_SC, .ref 1131]) rfl rfl rfl rfl ?_
  refine pm_H.go (pc' := 850) (st' := [.int (x3 + 1), .ref pm_SC, .ref 1131]) rfl rfl rfl rfl ?_
  refine pm_H.sld (i := (x3 + 1)) rfl rfl (ha 1 rfl) ?_
  refine l2_call (c := 12) (q := 1131) rfl rfl rfl (by decide) rfl (by decide) hw1 (by decide) rfl rfl rfl hp (fun o w2 s2 hw2 hp2 => ?_)
  obtain ⟨v2, rfl, hp2⟩ := l2_int hp2
  show pm_H (some (L, xs)) 300 310 854 [(3, .int x3), (2, .ref 1131), (1, .ref 0), (0, .ref pm_SC)] [.int v2] w2 Q
  refine pm_H.go (pc' := 855) (st' := []) rfl rfl rfl rfl ?_
  refine pm_H.go (pc' := 858) (st' := []) rfl rfl rfl rfl ?_
  obtain ⟨t2, hS⟩ := hp2
  exact K w2 s2 t2 hw2 hS
end
section
/-! the law: both constructors, then call by call -/
theorem pm_Tk6 {X : Option (Nat × (Nat → Int32))} {d y pc k d' kd j a mm pl nest : Nat} {L : pm_L} {st : List Value} {w w1 : pm_W} {o1 : Option Value} {i : Instr} {Q : Option Value → pm_W → Prop} (hc : pm_code y pc = some (i, k)) (hR : pm_isR i = false) (hcal : pm_cal i = (kd, j)) (hkd : kd ≠ 0) (hl : pm_l4 (pm_ML (pm_own y)) j = some (a, mm, pl, nest)) (h6 : 5 < mm) (hd : d = d' + 1)
    (hck : pm_ckd kd mm nest st w = true) (hcall : pm_T none d' (mm - 6) 0 (lv_args 0 (st.take (pm_na kd mm)).reverse) [] w (o1, w1)) (h : pm_H X d y (pc + 3) L (o1.toList ++ st.drop (pm_na kd mm)) w1 Q) : pm_H X d y pc L st w Q :=
  pm_H.call (Q1 := fun o w' => o = o1 ∧ w' = w1) hc hR hcal hkd hl h6 hd hck ⟨o1, w1, hcall.lift, rfl, rfl⟩ (fun o w' hh => by obtain ⟨rfl, rfl⟩ := hh; exact h)
theorem pin_i6 {k : Int32} {n : Nat} (h : pm_in k n = true) : 0 ≤ k.toInt ∧ k.toInt < n := by
  unfold pm_in at h
  rw [Bool.and_eq_true] at h
  have h1 := Int32.le_iff_toInt_le.mp (of_decide_eq_true h.1)
  have h2 : k.toInt.toNat < n := Nat.le_of_ble_eq_true h.2
  rw [Int32.toInt_zero] at h1
  omega
set_option maxRecDepth 100000
theorem l6_loop {L : Nat} (hL : L ≤ 3072) {xs : Nat → Int32} : ∀ (n : Nat) (x3 t : Int32) (w : pm_W) (s : ps_S), 0 ≤ x3.toInt → x3.toInt ≤ 3078 → 3100 - x3.toInt ≤ (n : Int) → ps_R w s → ISt s t → pm_H (some (L, xs)) 300 310 18 [(3, .int x3), (2, .ref 1131), (1, .ref 0), (0, .ref pm_SC)] [] w (fun o w' => o = some (.int 1) ∧ w'.2 = (1179, 65954)) := by
  intro n
  induction n with
  | zero =>
    intro x3 t w s h0 h1 hn _ _
    omega
  | succ n ih =>
    intro x3 t w s h0 h1 hn hw hS
    have eL : (nI L).toInt = (L : Int) := nI_toInt (by omega)
    have e6 : (6 : Int32).toInt = 6 := by decide
    have eL6 : (nI L - 6).toInt = (L : Int) - 6 := by rw [xIs (by omega) (by omega), eL, e6]
    refine pm_H.go (pc' := 19) rfl rfl rfl rfl ?_
    refine pm_H.go (pc' := 20) rfl rfl rfl rfl ?_
    refine pm_H.go (pc' := 21) (st' := [.int (nI L), .int x3]) rfl rfl rfl rfl ?_
    refine pm_H.go (pc' := 23) (st' := [.int 6, .int (nI L), .int x3]) rfl rfl rfl rfl ?_
    refine pm_H.go (pc' := 24) (st' := [.int (nI L - 6), .int x3]) rfl rfl rfl rfl ?_
    by_cases h : (nI L - 6) < x3
    · refine pm_H.bricmp (b := true) (pc' := 864) rfl rfl (decide_eq_true h) rfl rfl ?_
      refine pm_H.go (pc' := 865) (st' := [.int 1]) rfl rfl rfl rfl ?_
      exact pm_H.ret rfl rfl rfl ⟨rfl, hw.1⟩
    · have h2 : x3.toInt + 6 ≤ (L : Int) := by
        have : ¬ ((nI L - 6).toInt < x3.toInt) := fun q => h (Int32.lt_iff_toInt_lt.mpr q)
        omega
      have ha : ∀ (k : Int32) (_ : pm_in k 6 = true), pm_in (x3 + k) L = true := fun k hk => by
        have q := pin_i6 hk
        have ek : (x3 + k).toInt = x3.toInt + k.toInt := xIa (by omega) (by omega)
        exact xgi (by omega) (by omega)
      have kk : ∀ (w' : pm_W) (s' : ps_S) (t' : Int32), ps_R w' s' → ISt s' t' → pm_H (some (L, xs)) 300 310 858 [(3, .int x3), (2, .ref 1131), (1, .ref 0), (0, .ref pm_SC)] [] w' (fun o w' => o = some (.int 1) ∧ w'.2 = (1179, 65954)) := fun w' s' t' hw' h' => by
        have e36 : (x3 + 6).toInt = x3.toInt + 6 := by rw [xIa (by omega) (by omega), e6]
        refine pm_H.go (pc' := 861) (L' := [(3, .int (x3 + 6)), (2, .ref 1131), (1, .ref 0), (0, .ref pm_SC)]) rfl rfl rfl rfl ?_
        refine pm_H.go (pc' := 18) rfl rfl rfl rfl ?_
        exact ih (x3 + 6) t' w' s' (by omega) (by omega) (by omega) hw' h'
      refine pm_H.bricmp (b := false) (pc' := 27) rfl rfl (decide_eq_false h) rfl rfl ?_
      refine pm_H.go (pc' := 28) (st' := [.ref pm_SC]) rfl rfl rfl rfl ?_
      refine pm_H.go (pc' := 29) (st' := [.int x3, .ref pm_SC]) rfl rfl rfl rfl ?_
      refine pm_H.sld (i := x3) rfl rfl (xgi h0 (by omega)) ?_
      refine pm_H.go (pc' := 32) (st' := [.int 31, .int (xs (Int32.toNatClampNeg x3))]) rfl rfl rfl rfl ?_
      refine pm_H.go (pc' := 33) (st' := [.int (xs (Int32.toNatClampNeg x3) &&& 31)]) rfl rfl rfl rfl ?_
      obtain ⟨j, hj, ej⟩ := pk_andE (xs (Int32.toNatClampNeg x3)) (m := 31) 5 (by decide)
      rw [ej]
      have hj' : j < 32 := hj
      rcases (show j = 0 ∨ j = 1 ∨ j = 2 ∨ j = 3 ∨ j = 4 ∨ j = 5 ∨ j = 6 ∨ j = 7 ∨ j = 8 ∨ j = 9 ∨ j = 10 ∨ j = 11 ∨ j = 12 ∨ j = 13 ∨ j = 14 ∨ j = 15 ∨ j = 16 ∨ j = 17 ∨ j = 18 ∨ j = 19 ∨ j = 20 ∨ j = 21 ∨ j = 22 ∨ j = 23 ∨ j = 24 ∨ j = 25 ∨ j = 26 ∨ j = 27 ∨ j = 28 ∨ j = 29 ∨ j = 30 ∨ j = 31 by omega) with rfl | rfl | rfl | rfl | rfl | rfl | rfl | rfl | rfl | rfl | rfl | rfl | rfl | rfl | rfl | rfl | rfl | rfl | rfl | rfl | rfl | rfl | rfl | rfl | rfl | rfl | rfl | rfl | rfl | rfl | rfl | rfl
      · exact pm_H.go (pc' := 168) rfl rfl rfl rfl (l6_op0 ha hw hS kk)
      · exact pm_H.go (pc' := 231) rfl rfl rfl rfl (l6_op1 ha hw hS kk)
      · exact pm_H.go (pc' := 254) rfl rfl rfl rfl (l6_op2 ha hw hS kk)
      · exact pm_H.go (pc' := 267) rfl rfl rfl rfl (l6_op3 ha hw hS kk)
      · exact pm_H.go (pc' := 290) rfl rfl rfl rfl (l6_op4 ha hw hS kk)
      · exact pm_H.go (pc' := 303) rfl rfl rfl rfl (l6_op5 ha hw hS kk)
      · exact pm_H.go (pc' := 326) rfl rfl rfl rfl (l6_op6 ha hw hS kk)
      · exact pm_H.go (pc' := 359) rfl rfl rfl rfl (l6_op7 ha hw hS kk)
      · exact pm_H.go (pc' := 392) rfl rfl rfl rfl (l6_op8 ha hw hS kk)
      · exact pm_H.go (pc' := 435) rfl rfl rfl rfl (l6_op9 ha hw hS kk)
      · exact pm_H.go (pc' := 448) rfl rfl rfl rfl (l6_op10 ha hw hS kk)
      · exact pm_H.go (pc' := 481) rfl rfl rfl rfl (l6_op11 ha hw hS kk)
      · exact pm_H.go (pc' := 514) rfl rfl rfl rfl (l6_op12 ha hw hS kk)
      · exact pm_H.go (pc' := 527) rfl rfl rfl rfl (l6_op13 ha hw hS kk)
      · exact pm_H.go (pc' := 540) rfl rfl rfl rfl (l6_op14 ha hw hS kk)
      · exact pm_H.go (pc' := 563) rfl rfl rfl rfl (l6_op15 ha hw hS kk)
      · exact pm_H.go (pc' := 576) rfl rfl rfl rfl (l6_op16 ha hw hS kk)
      · exact pm_H.go (pc' := 599) rfl rfl rfl rfl (l6_op17 ha hw hS kk)
      · exact pm_H.go (pc' := 612) rfl rfl rfl rfl (l6_op18 ha hw hS kk)
      · exact pm_H.go (pc' := 625) rfl rfl rfl rfl (l6_op19 ha hw hS kk)
      · exact pm_H.go (pc' := 638) rfl rfl rfl rfl (l6_op20 ha hw hS kk)
      · exact pm_H.go (pc' := 651) rfl rfl rfl rfl (l6_op21 ha hw hS kk)
      · exact pm_H.go (pc' := 674) rfl rfl rfl rfl (l6_op22 ha hw hS kk)
      · exact pm_H.go (pc' := 687) rfl rfl rfl rfl (l6_op23 ha hw hS kk)
      · exact pm_H.go (pc' := 710) rfl rfl rfl rfl (l6_op24 ha hw hS kk)
      · exact pm_H.go (pc' := 733) rfl rfl rfl rfl (l6_op25 ha hw hS kk)
      · exact pm_H.go (pc' := 766) rfl rfl rfl rfl (l6_op26 ha hw hS kk)
      · exact pm_H.go (pc' := 789) rfl rfl rfl rfl (l6_op27 ha hw hS kk)
      · exact pm_H.go (pc' := 812) rfl rfl rfl rfl (l6_op28 ha hw hS kk)
      · exact pm_H.go (pc' := 835) rfl rfl rfl rfl (l6_op29 ha hw hS kk)
      · exact pm_H.go (pc' := 858) rfl rfl rfl rfl (kk w s t hw hS)
      · exact pm_H.go (pc' := 858) rfl rfl rfl rfl (kk w s t hw hS)
theorem pm_law6 {L : Nat} (hL : L ≤ 3072) (xs : Nat → Int32) : ∃ (n : Nat) (w' : pm_W), pm_run (some (L, xs)) n 300 310 0 [(0, .ref pm_SC)] [] pm_w0 = some (some (.int 1), w') ∧ w'.2.1 - 0 ≤ room_1.cells ∧ w'.2.2 - 0 ≤ room_1.slots := by
  have key : pm_H (some (L, xs)) 300 310 0 [(0, .ref pm_SC)] [] pm_w0 (fun o w' => o = some (.int 1) ∧ w'.2 = (1179, 65954)) := by
    refine pm_H.go (pc' := 3) rfl rfl rfl rfl ?_
    refine pm_H.go (pc' := 4) rfl rfl rfl rfl ?_
    refine pm_Tk6 (d' := 299) rfl rfl rfl (by decide) rfl (by decide) rfl rfl ⟨_, pm_mA⟩ ?_
    refine pm_H.go (pc' := 8) (L' := [(1, .ref 0), (0, .ref pm_SC)]) (st' := []) rfl rfl rfl rfl ?_
    refine pm_H.go (pc' := 11) rfl rfl rfl rfl ?_
    refine pm_H.go (pc' := 12) rfl rfl rfl rfl ?_
    refine pm_Tk6 (d' := 299) rfl rfl rfl (by decide) rfl (by decide) rfl rfl ⟨_, pm_mB⟩ ?_
    refine pm_H.go (pc' := 16) (L' := [(2, .ref 1131), (1, .ref 0), (0, .ref pm_SC)]) (st' := []) rfl rfl rfl rfl ?_
    refine pm_H.go (pc' := 17) rfl rfl rfl rfl ?_
    refine pm_H.go (pc' := 18) (L' := [(3, .int 0), (2, .ref 1131), (1, .ref 0), (0, .ref pm_SC)]) (st' := []) rfl rfl rfl rfl ?_
    exact l6_loop hL 3100 0 0 pm_w1 ps_s1 (by decide) (by decide) (by decide) s1_R ⟨s1_LI, s1_LF, s1_LG⟩
  obtain ⟨o, w', ⟨n, hn⟩, rfl, hz⟩ := key
  refine ⟨n, w', hn, ?_, ?_⟩
  · rw [hz]
    decide
  · rw [hz]
    decide
end
