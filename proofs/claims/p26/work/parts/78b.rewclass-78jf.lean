section
set_option maxRecDepth 100000
/-! the class: rewriting; the row that is made, whether it fits -/
-- ProofBench$Rewriter.makeNormal(LProofBench$Theory;)I
theorem pl_85_0 {n : Nat} {r1 : Nat} {s : ps_S} {Q : Option Value → ps_S → Prop} (h :
  pl_Cl n 83 [.ref 1021, .ref r1] s (ps_rV (fun s1 =>
    pl_Cl n 103 [.ref 1026, .ref 1022, .ref r1] s1 (ps_rV (fun s2 =>
      pl_At n 85 19 [(0, .ref 1021), (1, .ref r1), (2, .int 0)] [] s2 Q))))) : pl_At (n + 1) 85 0 [(0, .ref 1021), (1, .ref r1)] [] s Q :=
  pl_wp_at (stops := [(19, [0, 1, 2]), (87, [0])]) (f := 13) h rfl

theorem pl_85_19 {n : Nat} {r1 : Nat} {x2 : Int32} {s : ps_S} {Q : Option Value → ps_S → Prop} (h :
  (60 < x2 →
    pl_At n 85 87 [(0, .ref 1021)] [] s Q) ∧
  (x2 ≤ 60 →
    pl_Cl n 86 [.ref 1021, .ref r1] s (ps_rI (fun v1 s1 =>
      (v1 ≠ 0 →
        pl_Cl n 95 [.ref 1022, .ref 1024] s1 (ps_rV (fun s2 =>
          pl_Cl n 103 [.ref 1026, .ref 1022, .ref r1] s2 (ps_rV (fun s3 =>
            ((ps_i s3 1024 2) ≠ 0 →
              pl_At n 85 87 [(0, .ref 1021)] [] s3 Q) ∧
            ((ps_i s3 1024 2) = 0 →
              pl_Cl n 106 [.ref 1026] s3 (ps_rI (fun v4 s4 =>
                (v4 = 0 →
                  pl_At n 85 19 [(0, .ref 1021), (1, .ref r1), (2, .int (x2 + 1))] [] s4 Q) ∧
                (v4 ≠ 0 →
                  pl_At n 85 87 [(0, .ref 1021)] [] s4 Q))))))))) ∧
      (v1 = 0 →
        Q (some (.int x2)) s1))))) : pl_At (n + 1) 85 19 [(0, .ref 1021), (1, .ref r1), (2, .int x2)] [] s Q :=
  pl_wp_at (stops := [(19, [0, 1, 2]), (87, [0])]) (f := 33) h rfl

theorem pl_85_87 {n : Nat} {s : ps_S} {Q : Option Value → ps_S → Prop} (h :
  pl_Cl n 91 [.ref 1022] s (ps_rV (fun s1 =>
    Q (some (.int (-2))) s1))) : pl_At (n + 1) 85 87 [(0, .ref 1021)] [] s Q :=
  pl_wp_at (stops := [(19, [0, 1, 2]), (87, [0])]) (f := 7) h rfl

-- ProofBench$Rewriter.goOn(LProofBench$Theory;)Z
theorem pl_86_0 {n : Nat} {r1 : Nat} {s : ps_S} {Q : Option Value → ps_S → Prop} (h :
  pl_At n 86 2 [(0, .ref 1021), (1, .ref r1), (2, .int 0)] [] s Q) : pl_At (n + 1) 86 0 [(0, .ref 1021), (1, .ref r1)] [] s Q :=
  pl_wp_at (stops := [(2, [0, 1, 2]), (15, [0, 1, 2, 3])]) (f := 4) h rfl

theorem pl_86_2 {n : Nat} {r1 : Nat} {x2 : Int32} {s : ps_S} {Q : Option Value → ps_S → Prop} (h :
  ((ps_i s 1022 1) ≤ x2 →
    Q (some (.int 0)) s) ∧
  (x2 < (ps_i s 1022 1) →
    pl_At n 86 15 [(0, .ref 1021), (1, .ref r1), (2, .int x2), (3, .int 0)] [] s Q)) : pl_At (n + 1) 86 2 [(0, .ref 1021), (1, .ref r1), (2, .int x2)] [] s Q :=
  pl_wp_at (stops := [(2, [0, 1, 2]), (15, [0, 1, 2, 3])]) (f := 11) h rfl

theorem pl_86_15 {n : Nat} {r1 : Nat} {x2 : Int32} {x3 : Int32} {s : ps_S} {Q : Option Value → ps_S → Prop} (h :
  pl_nk (ps_is r1 9) (((ps_i s r1 8) ≤ x3 →
    pl_At n 86 2 [(0, .ref 1021), (1, .ref r1), (2, .int (x2 + 1))] [] s Q) ∧
  (x3 < (ps_i s r1 8) →
    pl_Cl n 92 [.ref 1022, .int x2] s (ps_rI (fun v1 s1 =>
      pl_Cl n 186 [.int v1] s1 (ps_rI (fun v2 s2 =>
        (v2 = 0 →
          pl_At n 86 2 [(0, .ref 1021), (1, .ref r1), (2, .int (x2 + 1))] [] s2 Q) ∧
        (v2 ≠ 0 →
          pl_Cl n 182 [.ref 1037, .int x3] s2 (ps_rI (fun v3 s3 =>
            (v3 = (-1) →
              pl_At n 86 15 [(0, .ref 1021), (1, .ref r1), (2, .int x2), (3, .int (x3 + 1))] [] s3 Q) ∧
            (v3 ≠ (-1) →
              pl_Cl n 135 [.ref r1, .int x3] s3 (ps_rA (fun v4 s4 =>
                pl_Cl n 182 [.ref 1036, .int x3] s4 (ps_rI (fun v5 s5 =>
                  pl_Cl n 87 [.ref 1021, .ref v4, .int v5, .int v3, .int x2] s5 (ps_rI (fun v6 s6 =>
                    (v6 = 0 →
                      pl_At n 86 15 [(0, .ref 1021), (1, .ref r1), (2, .int x2), (3, .int (x3 + 1))] [] s6 Q) ∧
                    (v6 ≠ 0 →
                      pl_Cl n 135 [.ref r1, .int x3] s6 (ps_rA (fun v7 s7 =>
                        pl_Cl n 89 [.ref 1021, .ref v7, .int v3, .int x2] s7 (ps_rV (fun s8 =>
                          Q (some (.int 1)) s8)))))))))))))))))))))) : pl_At (n + 1) 86 15 [(0, .ref 1021), (1, .ref r1), (2, .int x2), (3, .int x3)] [] s Q :=
  pl_wp_at (stops := [(2, [0, 1, 2]), (15, [0, 1, 2, 3])]) (f := 49) h rfl

-- ProofBench$Rewriter.stands(LProofBench$Row;III)Z
theorem pl_87_0 {n : Nat} {r1 : Nat} {x2 : Int32} {x3 : Int32} {x4 : Int32} {s : ps_S} {Q : Option Value → ps_S → Prop} (h :
  pl_At n 87 3 [(0, .ref 1021), (1, .ref r1), (2, .int x2), (3, .int x3), (4, .int x4), (5, .int 0)] [] s Q) : pl_At (n + 1) 87 0 [(0, .ref 1021), (1, .ref r1), (2, .int x2), (3, .int x3), (4, .int x4)] [] s Q :=
  pl_wp_at (stops := [(3, [0, 1, 2, 3, 4, 5]), (32, [0, 1, 3, 5, 6])]) (f := 4) h rfl

theorem pl_87_3 {n : Nat} {r1 : Nat} {x2 : Int32} {x3 : Int32} {x4 : Int32} {x5 : Int32} {s : ps_S} {Q : Option Value → ps_S → Prop} (h :
  (5 ≤ x5 →
    pl_At n 87 32 [(0, .ref 1021), (1, .ref r1), (3, .int x3), (5, .int x4), (6, .int x2)] [] s Q) ∧
  (x5 < 5 →
    pl_Cl n 183 [.ref 1034, .int x5, .int (-1)] s (ps_rV (fun s1 =>
      pl_At n 87 3 [(0, .ref 1021), (1, .ref r1), (2, .int x2), (3, .int x3), (4, .int x4), (5, .int (x5 + 1))] [] s1 Q)))) : pl_At (n + 1) 87 3 [(0, .ref 1021), (1, .ref r1), (2, .int x2), (3, .int x3), (4, .int x4), (5, .int x5)] [] s Q :=
  pl_wp_at (stops := [(3, [0, 1, 2, 3, 4, 5]), (32, [0, 1, 3, 5, 6])]) (f := 16) h rfl

theorem pl_87_32 {n : Nat} {r1 : Nat} {x3 : Int32} {x5 : Int32} {x6 : Int32} {s : ps_S} {Q : Option Value → ps_S → Prop} (h :
  (x3 ≤ x6 →
    Q (some (.int 1)) s) ∧
  (x6 < x3 →
    pl_Cl n 92 [.ref r1, .int x6] s (ps_rI (fun v1 s1 =>
      pl_Cl n 185 [.int v1] s1 (ps_rI (fun v2 s2 =>
        (v2 = 0 →
          pl_Cl n 92 [.ref 1022, .int x5] s2 (ps_rI (fun v3 s3 =>
            (v1 ≠ v3 →
              Q (some (.int 0)) s3) ∧
            (v1 = v3 →
              pl_At n 87 32 [(0, .ref 1021), (1, .ref r1), (3, .int x3), (5, .int (x5 + 1)), (6, .int (x6 + 1))] [] s3 Q)))) ∧
        (v2 ≠ 0 →
          pl_Cl n 88 [.ref 1021, .int (v1 - 40), .int x5] s2 (ps_rI (fun v4 s4 =>
            (v4 ≠ 0 →
              pl_Cl n 104 [.ref 1026, .int x5] s4 (ps_rI (fun v5 s5 =>
                pl_At n 87 32 [(0, .ref 1021), (1, .ref r1), (3, .int x3), (5, .int v5), (6, .int (x6 + 1))] [] s5 Q))) ∧
            (v4 = 0 →
              Q (some (.int 0)) s4)))))))))) : pl_At (n + 1) 87 32 [(0, .ref 1021), (1, .ref r1), (3, .int x3), (5, .int x5), (6, .int x6)] [] s Q :=
  pl_wp_at (stops := [(3, [0, 1, 2, 3, 4, 5]), (32, [0, 1, 3, 5, 6])]) (f := 43) h rfl

-- ProofBench$Rewriter.binds(II)Z
theorem pl_88_0 {n : Nat} {x1 : Int32} {x2 : Int32} {s : ps_S} {Q : Option Value → ps_S → Prop} (h :
  pl_Cl n 104 [.ref 1026, .int x2] s (ps_rI (fun v1 s1 =>
    pl_Cl n 182 [.ref 1034, .int x1] s1 (ps_rI (fun v2 s2 =>
      (v2 ≠ (-1) →
        pl_Cl n 182 [.ref 1035, .int x1] s2 (ps_rI (fun v3 s3 =>
          ((v1 - x2) ≠ (v3 - v2) →
            Q (some (.int 0)) s3) ∧
          ((v1 - x2) = (v3 - v2) →
            pl_Cl n 99 [.ref 1022, .int x2, .int v1, .ref 1022, .int v2] s3 (ps_rI (fun v4 s4 =>
              (v4 = 0 →
                Q (some (.int 0)) s4) ∧
              (v4 ≠ 0 →
                Q (some (.int 1)) s4))))))) ∧
      (v2 = (-1) →
        pl_Cl n 183 [.ref 1034, .int x1, .int x2] s2 (ps_rV (fun s5 =>
          pl_Cl n 183 [.ref 1035, .int x1, .int v1] s5 (ps_rV (fun s6 =>
            Q (some (.int 1)) s6)))))))))) : pl_At (n + 1) 88 0 [(0, .ref 1021), (1, .int x1), (2, .int x2)] [] s Q :=
  pl_wp_at (stops := []) (f := 53) h rfl

-- ProofBench$Rewriter.putRight(LProofBench$Row;II)V
theorem pl_89_0 {n : Nat} {r1 : Nat} {x2 : Int32} {x3 : Int32} {s : ps_S} {Q : Option Value → ps_S → Prop} (h :
  pl_Cl n 91 [.ref 1024] s (ps_rV (fun s1 =>
    pl_Cl n 94 [.ref 1024, .ref 1022, .int 0, .int x3] s1 (ps_rV (fun s2 =>
      pl_At n 89 23 [(0, .ref 1021), (1, .ref r1), (3, .int x3), (4, .int x2)] [] s2 Q))))) : pl_At (n + 1) 89 0 [(0, .ref 1021), (1, .ref r1), (2, .int x2), (3, .int x3)] [] s Q :=
  pl_wp_at (stops := [(23, [0, 1, 3, 4])]) (f := 14) h rfl

theorem pl_89_23 {n : Nat} {r1 : Nat} {x3 : Int32} {x4 : Int32} {s : ps_S} {Q : Option Value → ps_S → Prop} (h :
  pl_nk (ps_is r1 5) (((ps_i s r1 1) ≤ x4 →
    pl_Cl n 104 [.ref 1026, .int x3] s (ps_rI (fun v1 s1 =>
      pl_Cl n 94 [.ref 1024, .ref 1022, .int v1, .int (ps_i s1 1022 1)] s1 (ps_rV (fun s2 =>
        Q none s2))))) ∧
  (x4 < (ps_i s r1 1) →
    pl_Cl n 92 [.ref r1, .int x4] s (ps_rI (fun v3 s3 =>
      pl_Cl n 185 [.int v3] s3 (ps_rI (fun v4 s4 =>
        (v4 = 0 →
          pl_Cl n 93 [.ref 1024, .int v3] s4 (ps_rV (fun s5 =>
            pl_At n 89 23 [(0, .ref 1021), (1, .ref r1), (3, .int x3), (4, .int (x4 + 1))] [] s5 Q))) ∧
        (v4 ≠ 0 →
          pl_Cl n 182 [.ref 1034, .int (v3 - 40)] s4 (ps_rI (fun v6 s6 =>
            pl_Cl n 182 [.ref 1035, .int (v3 - 40)] s6 (ps_rI (fun v7 s7 =>
              pl_Cl n 94 [.ref 1024, .ref 1022, .int v6, .int v7] s7 (ps_rV (fun s8 =>
                pl_At n 89 23 [(0, .ref 1021), (1, .ref r1), (3, .int x3), (4, .int (x4 + 1))] [] s8 Q)))))))))))))) : pl_At (n + 1) 89 23 [(0, .ref 1021), (1, .ref r1), (3, .int x3), (4, .int x4)] [] s Q :=
  pl_wp_at (stops := [(23, [0, 1, 3, 4])]) (f := 52) h rfl

-- ProofBench$Row.addPart(LProofBench$Row;II)V
theorem pl_94_0 {n : Nat} {r0 : Nat} {r1 : Nat} {x2 : Int32} {x3 : Int32} {s : ps_S} {Q : Option Value → ps_S → Prop} (h :
  pl_At n 94 3 [(0, .ref r0), (1, .ref r1), (3, .int x3), (4, .int x2)] [] s Q) : pl_At (n + 1) 94 0 [(0, .ref r0), (1, .ref r1), (2, .int x2), (3, .int x3)] [] s Q :=
  pl_wp_at (stops := [(3, [0, 1, 3, 4])]) (f := 4) h rfl

theorem pl_94_3 {n : Nat} {r0 : Nat} {r1 : Nat} {x3 : Int32} {x4 : Int32} {s : ps_S} {Q : Option Value → ps_S → Prop} (h :
  (x3 ≤ x4 →
    Q none s) ∧
  (x4 < x3 →
    pl_Cl n 92 [.ref r1, .int x4] s (ps_rI (fun v1 s1 =>
      pl_Cl n 93 [.ref r0, .int v1] s1 (ps_rV (fun s2 =>
        pl_At n 94 3 [(0, .ref r0), (1, .ref r1), (3, .int x3), (4, .int (x4 + 1))] [] s2 Q)))))) : pl_At (n + 1) 94 3 [(0, .ref r0), (1, .ref r1), (3, .int x3), (4, .int x4)] [] s Q :=
  pl_wp_at (stops := [(3, [0, 1, 3, 4])]) (f := 13) h rfl

-- ProofBench$Row.copy(LProofBench$Row;)V
theorem pl_95_0 {n : Nat} {r0 : Nat} {r1 : Nat} {s : ps_S} {Q : Option Value → ps_S → Prop} (h :
  pl_Cl n 91 [.ref r0] s (ps_rV (fun s1 =>
    pl_nk (ps_is r1 5) (pl_Cl n 94 [.ref r0, .ref r1, .int 0, .int (ps_i s1 r1 1)] s1 (ps_rV (fun s2 =>
      Q none s2)))))) : pl_At (n + 1) 95 0 [(0, .ref r0), (1, .ref r1)] [] s Q :=
  pl_wp_at (stops := []) (f := 11) h rfl

-- ProofBench$Shape.isTooDeep()Z
theorem pl_106_0 {n : Nat} {r0 : Nat} {s : ps_S} {Q : Option Value → ps_S → Prop} (h :
  pl_nk (ps_is r0 6) ((12 < (ps_i s r0 3) →
    Q (some (.int 1)) s) ∧
  ((ps_i s r0 3) ≤ 12 →
    pl_nk (ps_is r0 6) (((ps_i s r0 4) ≤ 5 →
      Q (some (.int 0)) s) ∧
    (5 < (ps_i s r0 4) →
      Q (some (.int 1)) s))))) : pl_At (n + 1) 106 0 [(0, .ref r0)] [] s Q :=
  pl_wp_at (stops := []) (f := 18) h rfl

-- ProofBench.rewrite()I
theorem pl_169_0 {n : Nat} {s : ps_S} {Q : Option Value → ps_S → Prop} (h :
  pl_Cl n 60 [.ref 902, .ref 1, .int (ps_i s 0 1), .ref (ps_r s 0 2), .ref 1022, .int 1] s (ps_rI (fun v1 s1 =>
    (v1 ≠ 0 →
      pl_Cl n 85 [.ref 1021, .ref (ps_r (ps_ui s1 0 1 0) 0 2)] (ps_ui s1 0 1 0) (ps_rI (fun v2 s2 =>
        Q (some (.int v2)) s2))) ∧
    (v1 = 0 →
      pl_Cl n 81 [.ref 1021] (ps_ui s1 0 1 0) (ps_rV (fun s3 =>
        Q (some (.int (-1))) s3)))))) : pl_At (n + 1) 169 0 [(0, .ref 0)] [] s Q :=
  pl_wp_at (stops := []) (f := 32) h rfl

-- ProofBench.normal(I)I
theorem pl_170_0 {n : Nat} {x1 : Int32} {s : ps_S} {Q : Option Value → ps_S → Prop} (h :
  pl_Cl n 92 [.ref 1022, .int x1] s (ps_rI (fun v1 s1 =>
    Q (some (.int v1)) s1))) : pl_At (n + 1) 170 0 [(0, .ref 0), (1, .int x1)] [] s Q :=
  pl_wp_at (stops := []) (f := 8) h rfl

theorem fv_92 {n : Nat} {r : Nat} {x1 : Int32} {s : ps_S} {R : Int32 → ps_S → Prop} (k : ∀ v, True → R v s) : pl_Cl n 92 [.ref r, .int x1] s (ps_rI R) := by
  cases n with
  | zero => exact pl_At_0
  | succ n =>
  show pl_At (n + 1) 92 0 [(0, .ref r), (1, .int x1)] [] s (ps_rI R)
  refine pl_92_0 ?_
  refine ⟨fun h1 => ?_, fun h1 => ?_⟩
  · have h1 : x1.toInt < (0 : Int) := xlt h1
    exact k _ trivial
  · have h1 : (0 : Int) ≤ x1.toInt := xle h1
    refine pl_nk_i (fun nk6 => ?_)
    refine ⟨fun h9 => ?_, fun h9 => ?_⟩
    · have h9 : (ps_i s r 1).toInt ≤ x1.toInt := xle h9
      exact k _ trivial
    · have h9 : x1.toInt < (ps_i s r 1).toInt := xlt h9
      refine pl_nk_i (fun nk14 => ?_)
      refine pl_nk_i (fun nk17 => ?_)
      refine ⟨fun h18 => ?_, fun h18 => ?_⟩
      · have h18 : (nI (ps_ln (ps_c0 r 0))).toInt ≤ x1.toInt := xle h18
        exact k _ trivial
      · have h18 : x1.toInt < (nI (ps_ln (ps_c0 r 0))).toInt := xlt h18
        refine pl_nk_i (fun nk22 => ?_)
        refine pl_nk_i (fun nk26 => ?_)
        intro b26
        obtain ⟨b26, c26⟩ := pl_in b26
        exact k _ trivial
theorem fv_136 {n : Nat} {r : Nat} {x1 : Int32} {s : ps_S} {R : Int32 → ps_S → Prop} (k : ∀ v, True → R v s) : pl_Cl n 136 [.ref r, .int x1] s (ps_rI R) := by
  cases n with
  | zero => exact pl_At_0
  | succ n =>
  show pl_At (n + 1) 136 0 [(0, .ref r), (1, .int x1)] [] s (ps_rI R)
  refine pl_136_0 ?_
  refine ⟨fun h1 => ?_, fun h1 => ?_⟩
  · have h1 : x1.toInt < (0 : Int) := xlt h1
    exact k _ trivial
  · have h1 : (0 : Int) ≤ x1.toInt := xle h1
    refine pl_nk_i (fun nk6 => ?_)
    refine pl_nk_i (fun nk9 => ?_)
    refine ⟨fun h10 => ?_, fun h10 => ?_⟩
    · have h10 : (nI (ps_ln (ps_c0 r 3))).toInt ≤ x1.toInt := xle h10
      exact k _ trivial
    · have h10 : x1.toInt < (nI (ps_ln (ps_c0 r 3))).toInt := xlt h10
      refine pl_nk_i (fun nk14 => ?_)
      refine pl_nk_i (fun nk18 => ?_)
      intro b18
      obtain ⟨b18, c18⟩ := pl_in b18
      exact k _ trivial
theorem fv_182 {n : Nat} {r : Nat} {x1 : Int32} {s : ps_S} {R : Int32 → ps_S → Prop} (k : ∀ v, True → R v s) : pl_Cl n 182 [.ref r, .int x1] s (ps_rI R) := by
  cases n with
  | zero => exact pl_At_0
  | succ n =>
  show pl_At (n + 1) 182 0 [(0, .ref r), (1, .int x1)] [] s (ps_rI R)
  refine pl_182_0 ?_
  refine ⟨fun h1 => ?_, fun h1 => ?_⟩
  · have h1 : x1.toInt < (0 : Int) := xlt h1
    exact k _ trivial
  · have h1 : (0 : Int) ≤ x1.toInt := xle h1
    refine pl_nk_i (fun nk6 => ?_)
    refine ⟨fun h7 => ?_, fun h7 => ?_⟩
    · have h7 : (nI (ps_ln r)).toInt ≤ x1.toInt := xle h7
      exact k _ trivial
    · have h7 : x1.toInt < (nI (ps_ln r)).toInt := xlt h7
      refine pl_nk_i (fun nk12 => ?_)
      intro b12
      obtain ⟨b12, c12⟩ := pl_in b12
      exact k _ trivial
theorem fv_104 {n : Nat} {r : Nat} {x1 : Int32} {s : ps_S} {R : Int32 → ps_S → Prop} (k : ∀ v, True → R v s) : pl_Cl n 104 [.ref r, .int x1] s (ps_rI R) := by
  cases n with
  | zero => exact pl_At_0
  | succ n =>
  show pl_At (n + 1) 104 0 [(0, .ref r), (1, .int x1)] [] s (ps_rI R)
  refine pl_104_0 ?_
  refine ⟨fun h1 => ?_, fun h1 => ?_⟩
  · have h1 : x1.toInt < (0 : Int) := xlt h1
    exact k _ trivial
  · have h1 : (0 : Int) ≤ x1.toInt := xle h1
    refine pl_nk_i (fun nk6 => ?_)
    refine pl_nk_i (fun nk9 => ?_)
    refine ⟨fun h10 => ?_, fun h10 => ?_⟩
    · have h10 : (nI (ps_ln (ps_c0 r 0))).toInt ≤ x1.toInt := xle h10
      exact k _ trivial
    · have h10 : x1.toInt < (nI (ps_ln (ps_c0 r 0))).toInt := xlt h10
      refine pl_nk_i (fun nk14 => ?_)
      refine pl_nk_i (fun nk18 => ?_)
      intro b18
      obtain ⟨b18, c18⟩ := pl_in b18
      exact k _ trivial
theorem fv_105 {n : Nat} {r : Nat} {x1 : Int32} {s : ps_S} {R : Int32 → ps_S → Prop} (k : ∀ v, True → R v s) : pl_Cl n 105 [.ref r, .int x1] s (ps_rI R) := by
  cases n with
  | zero => exact pl_At_0
  | succ n =>
  show pl_At (n + 1) 105 0 [(0, .ref r), (1, .int x1)] [] s (ps_rI R)
  refine pl_105_0 ?_
  refine ⟨fun h1 => ?_, fun h1 => ?_⟩
  · have h1 : x1.toInt < (0 : Int) := xlt h1
    exact k _ trivial
  · have h1 : (0 : Int) ≤ x1.toInt := xle h1
    refine pl_nk_i (fun nk6 => ?_)
    refine pl_nk_i (fun nk9 => ?_)
    refine ⟨fun h10 => ?_, fun h10 => ?_⟩
    · have h10 : (nI (ps_ln (ps_c0 r 2))).toInt ≤ x1.toInt := xle h10
      exact k _ trivial
    · have h10 : x1.toInt < (nI (ps_ln (ps_c0 r 2))).toInt := xlt h10
      refine pl_nk_i (fun nk14 => ?_)
      refine pl_nk_i (fun nk18 => ?_)
      intro b18
      obtain ⟨b18, c18⟩ := pl_in b18
      exact k _ trivial
theorem fv_184 {n : Nat} {x0 : Int32} {s : ps_S} {R : Int32 → ps_S → Prop} (k : ∀ v, True → R v s) : pl_Cl n 184 [.int x0] s (ps_rI R) := by
  cases n with
  | zero => exact pl_At_0
  | succ n =>
  show pl_At (n + 1) 184 0 [(0, .int x0)] [] s (ps_rI R)
  refine pl_184_0 ?_
  refine ⟨fun h2 => ?_, fun h2 => ?_⟩
  · have h2 : x0.toInt = (4 : Int) := xeq h2
    exact k _ trivial
  · have h2 : x0.toInt ≠ (4 : Int) := xne h2
    refine ⟨fun h7 => ?_, fun h7 => ?_⟩
    · have h7 : x0.toInt ≠ (5 : Int) := xne h7
      exact k _ trivial
    · have h7 : x0.toInt = (5 : Int) := xeq h7
      exact k _ trivial
theorem fv_183 {n : Nat} {r : Nat} {x1 x2 : Int32} {s : ps_S} {R : ps_S → Prop} (k : ∀ s', cfr (fun q => q = r) s s' → R s') : pl_Cl n 183 [.ref r, .int x1, .int x2] s (ps_rV R) := by
  cases n with
  | zero => exact pl_At_0
  | succ n =>
  show pl_At (n + 1) 183 0 [(0, .ref r), (1, .int x1), (2, .int x2)] [] s (ps_rV R)
  refine pl_183_0 ?_
  refine ⟨fun h1 => ?_, fun h1 => ?_⟩
  · have h1 : x1.toInt < (0 : Int) := xlt h1
    first
    | exact k _ cfr_refl
    | exact k _ (cfr_a cfr_refl rfl)
  · have h1 : (0 : Int) ≤ x1.toInt := xle h1
    refine pl_nk_i (fun nk6 => ?_)
    refine ⟨fun h7 => ?_, fun h7 => ?_⟩
    · have h7 : (nI (ps_ln r)).toInt ≤ x1.toInt := xle h7
      first
      | exact k _ cfr_refl
      | exact k _ (cfr_a cfr_refl rfl)
    · have h7 : x1.toInt < (nI (ps_ln r)).toInt := xlt h7
      refine pl_nk_i (fun nk13 => ?_)
      intro b13
      obtain ⟨b13, c13⟩ := pl_in b13
      first
      | exact k _ cfr_refl
      | exact k _ (cfr_a cfr_refl rfl)
/-- measuring any row changes the shape alone -/
theorem fv_103_all {r r1 th : Nat} {s0 : ps_S} {R : ps_S → Prop} (hr : ps_is r 6 = true) (k : ∀ s', cfr (CSh r) s0 s' → R s') : ∀ n : Nat, (∀ {s : ps_S} {x3 : Int32}, cfr (CSh r) s0 s → pl_At n 103 35 [(0, .ref r), (1, .ref r1), (2, .ref th), (3, .int x3)] [] s (ps_rV R)) ∧ (∀ {s : ps_S} {x3 x4 x5 : Int32}, cfr (CSh r) s0 s → pl_At n 103 55 [(0, .ref r), (1, .ref r1), (2, .ref th), (3, .int x3), (4, .int x4), (5, .int x5)] [] s (ps_rV R)) ∧ (∀ {s : ps_S} {x3 : Int32}, cfr (CSh r) s0 s → pl_At n 103 92 [(0, .ref r), (1, .ref r1), (2, .ref th), (3, .int x3)] [] s (ps_rV R)) ∧ (∀ {s : ps_S} {x3 x4 x5 x6 x7 : Int32}, cfr (CSh r) s0 s → pl_At n 103 176 [(0, .ref r), (1, .ref r1), (2, .ref th), (3, .int x3), (4, .int x4), (5, .int x5), (6, .int x6), (7, .int x7)] [] s (ps_rV R)) := by
  obtain ⟨⟨e0, e1, e2⟩, ⟨l0, l1, l2⟩, h50⟩ := shr hr
  intro n
  induction n with
  | zero => exact ⟨fun _ => pl_At_0, fun _ => pl_At_0, fun _ => pl_At_0, fun _ => pl_At_0⟩
  | succ n ih =>
    obtain ⟨i1, i2, i3, i4⟩ := ih
    refine ⟨fun {s x3} F => ?_, fun {s x3 x4 x5} F => ?_, fun {s x3} F => ?_, fun {s x3 x4 x5 x6 x7} F => ?_⟩
    · refine pl_103_35 ⟨fun _ => i3 F, fun _ => ?_⟩
      exact fv_92 (fun v _ => fv_136 (fun v2 _ => i2 F))
    · refine pl_103_55 ⟨fun _ => ?_, fun _ => ?_⟩
      · refine pl_nk_i (fun _ => ?_)
        rw [e0]
        exact fv_183 (fun s1 q => i1 (cfr_tr F (cfr_mono q (fun q z => by unfold CSh; omega))))
      · exact fv_104 (fun v _ => i2 F)
    · refine pl_103_92 (pl_nk_i (fun _ => ⟨fun _ => k s F, fun _ => ?_⟩))
      refine pl_nk_i (fun _ => ?_)
      refine fv_182 (fun v1 _ => fv_105 (fun v2 _ => fv_92 (fun v3 _ => fv_184 (fun v4 _ => ⟨fun _ => ?_, fun _ => ?_⟩))))
      · refine pl_nk_i (fun _ => pl_nk_i (fun _ => pl_nk_i (fun _ => pl_nk_i (fun _ => ?_))))
        exact fv_92 (fun v5 _ => fv_136 (fun v6 _ => i4 (cfr_i (cfr_i F (by unfold CSh; omega)) (by unfold CSh; omega))))
      · refine pl_nk_i (fun _ => pl_nk_i (fun _ => pl_nk_i (fun _ => pl_nk_i (fun _ => ?_))))
        exact fv_92 (fun v5 _ => fv_136 (fun v6 _ => i4 (cfr_i (cfr_i F (by unfold CSh; omega)) (by unfold CSh; omega))))
    · refine pl_103_176 ⟨fun _ => i3 F, fun _ => ?_⟩
      refine pl_nk_i (fun _ => ?_)
      rw [e1]
      refine fv_183 (fun s1 q1 => ?_)
      refine pl_nk_i (fun _ => ?_)
      rw [e2]
      refine fv_183 (fun s2 q2 => ?_)
      exact fv_104 (fun v _ => i4 (cfr_tr F (cfr_tr (cfr_mono q1 (fun q z => by unfold CSh; omega)) (cfr_mono q2 (fun q z => by unfold CSh; omega)))))
theorem fv_103 {n r r1 th : Nat} {s : ps_S} {R : ps_S → Prop} (hr : ps_is r 6 = true) (k : ∀ s', cfr (CSh r) s s' → R s') : pl_Cl n 103 [.ref r, .ref r1, .ref th] s (ps_rV R) := by
  cases n with
  | zero => exact pl_At_0
  | succ n =>
  show pl_At (n + 1) 103 0 [(0, .ref r), (1, .ref r1), (2, .ref th)] [] s (ps_rV R)
  obtain ⟨⟨e0, e1, e2⟩, ⟨l0, l1, l2⟩, h50⟩ := shr hr
  refine pl_103_0 ?_
  rw [e1, e2]
  refine pl_nk_i (fun _ => pl_nk_i (fun _ => pl_nk_i (fun _ => ?_)))
  refine fv_183 (fun s1 q1 => pl_nk_i (fun _ => fv_183 (fun s2 q2 => pl_nk_i (fun _ => ?_))))
  exact (fv_103_all hr k n).1 (cfr_tr (cfr_i (cfr_i cfr_refl (by unfold CSh; omega)) (by unfold CSh; omega)) (cfr_tr (cfr_mono q1 (fun q z => by unfold CSh; omega)) (cfr_mono q2 (fun q z => by unfold CSh; omega))))
/-- a row with what didn't fit -/
def CW (s : ps_S) (r : Nat) (L : List Nat) : Prop := (ps_i s r 1).toInt = (min L.length 40 : Nat) ∧ (L.length ≤ 40 → cv_W s r L) ∧ (40 < L.length → ps_i s r 2 ≠ 0)
def C2 (r q : Nat) : Prop := q = r ∨ q = r + 1
theorem CW_of {s : ps_S} {r : Nat} {L : List Nat} (W : cv_W s r L) : CW s r L := ⟨by rw [W.1]; have := W.2.2.1; omega, fun _ => W, fun z => by have := W.2.2.1; omega⟩
theorem CW_0 {s : ps_S} {r : Nat} : cv_W (ps_ui (ps_ui s r 1 0) r 2 0) r [] := by
  refine ⟨?_, ?_, Nat.zero_le _, fun k c hk => by cases hk⟩
  · rw [ps_i_ui, if_neg (by omega), ps_i_ui, if_pos ⟨rfl, rfl⟩]
    rfl
  · rw [ps_i_ui, if_pos ⟨rfl, rfl⟩]
theorem fs_93w {n r c : Nat} {L : List Nat} {x1 : Int32} {s : ps_S} {R : ps_S → Prop} (hr : ps_is r 5 = true) (W : CW s r L) (hx : x1.toInt = c) (k : ∀ s', CW s' r (L ++ [c]) → cfr (C2 r) s s' → R s') : pl_Cl n 93 [.ref r, .int x1] s (ps_rV R) := by
  obtain ⟨t1, t2, t3, -⟩ := cv_row hr
  obtain ⟨W1, W2, W3⟩ := W
  rcases Nat.lt_or_ge L.length 40 with z | z
  · have V := W2 (by omega)
    refine fs_93 hr V.1 z (k _ ?_ ?_)
    · obtain ⟨v1, v2, v3, v4⟩ := V
      have hlen : (L ++ [c]).length = L.length + 1 := List.length_append
      have e1 : (ps_i (ps_ui (ps_ua s (r + 1) L.length x1) r 1 (ps_i s r 1 + 1)) r 1).toInt = (L.length + 1 : Nat) := by
        rw [ps_i_ui, if_pos ⟨rfl, rfl⟩]
        exact xj1 v1 (by omega)
      have Vn : cv_W (ps_ui (ps_ua s (r + 1) L.length x1) r 1 (ps_i s r 1 + 1)) r (L ++ [c]) := by
        refine ⟨by rw [hlen]; exact e1, by rw [ps_i_ui, if_neg (by omega)]; exact v2, by omega, fun q d hq => ?_⟩
        show (ps_a (ps_ua s (r + 1) L.length x1) (r + 1) q).toInt = d
        rw [ps_a_ua]
        rcases Nat.lt_or_ge q L.length with y | y
        · rw [if_neg (by omega)]
          rw [List.getElem?_append_left y] at hq
          exact v4 q d hq
        · have := (List.getElem?_eq_some_iff.mp hq).1
          have e : q = L.length := by omega
          rw [if_pos ⟨rfl, e⟩]
          rw [e, List.getElem?_append_right (Nat.le_refl _), Nat.sub_self] at hq
          cases hq
          exact hx
      exact CW_of Vn
    · exact cfr_i (cfr_a cfr_refl (Or.inr rfl)) (Or.inl rfl)
  · have e40 : (ps_i s r 1).toInt = 40 := by omega
    cases n with
    | zero => exact pl_At_0
    | succ n =>
    show pl_At (n + 1) 93 0 [(0, .ref r), (1, .int x1)] [] s (ps_rV R)
    have t40 : (nI (ps_ln (ps_c0 r 0))).toInt = 40 := by
      rw [t1, t2]
      decide
    have hlen : (L ++ [c]).length = L.length + 1 := List.length_append
    have fin : ∀ v : Int32, v = 1 → R (ps_ui s r 2 v) := fun v hv => by
      refine k _ ⟨?_, fun y => ?_, fun _ => ?_⟩ (cfr_i cfr_refl (Or.inl rfl))
      · rw [ps_i_ui, if_neg (by omega), e40, hlen]
        omega
      · omega
      · rw [ps_i_ui, if_pos ⟨rfl, rfl⟩, hv]
        decide
    refine pl_93_0 (pl_nk_i (fun _ => ⟨fun y => absurd (xlt y) (by rw [e40]; decide), fun _ => pl_nk_i (fun _ => pl_nk_i (fun _ => pl_nk_i (fun _ => ⟨fun y => pl_nk_i (fun _ => fin 1 rfl), fun y => ?_⟩)))⟩))
    have y := xlt y
    omega
/-- a part of a row is added to another -/
theorem fs_94w_3 {r r1 a b : Nat} {l L : List Nat} {x3 : Int32} {s0 : ps_S} {R : ps_S → Prop} (hr : ps_is r 5 = true) (hr1 : ps_is r1 5 = true) (hd : r1 ≠ r ∧ r1 ≠ r + 1 ∧ r1 + 1 ≠ r) (W0 : cv_W s0 r1 l) (h3 : x3.toInt = b) (hb : b ≤ l.length) (k : ∀ s', CW s' r (L ++ (l.drop a).take (b - a)) → cfr (C2 r) s0 s' → R s') : ∀ (n : Nat) {s : ps_S} {x4 : Int32} {i : Nat}, x4.toInt = i → a ≤ i → (i ≤ b ∨ i = a) → CW s r (L ++ (l.drop a).take (i - a)) → cfr (C2 r) s0 s → pl_At n 94 3 [(0, .ref r), (1, .ref r1), (3, .int x3), (4, .int x4)] [] s (ps_rV R)
  | 0, _, _, _, _, _, _, _, _ => pl_At_0
  | n + 1, s, x4, i, h4, hi, hib, C, F => by
    have h40 := W0.2.2.1
    refine pl_94_3 ⟨fun z => ?_, fun z => ?_⟩
    · have z := xle z
      have e : (l.drop a).take (b - a) = (l.drop a).take (i - a) := by
        rcases hib with y | y
        · rw [show i = b from by omega]
        · rw [show b - a = 0 from by omega, show i - a = 0 from by omega]
      exact k s (by rw [e]; exact C) F
    · have z := xlt z
      obtain ⟨c, hc⟩ : ∃ c, l[i]? = some c := ⟨_, List.getElem?_eq_getElem (by omega)⟩
      have W := cv_W_cfr W0 F (by unfold C2; omega) (by unfold C2; omega)
      refine fs_92c hr1 W h4 hc (fun v q => ?_)
      refine fs_93w hr C q (fun s2 C2' F2 => ?_)
      refine fs_94w_3 hr hr1 hd W0 h3 hb k n (xj1 h4 (by omega)) (by omega) (Or.inl (by omega)) ?_ (cfr_tr F F2)
      have e : (l.drop a).take (i + 1 - a) = (l.drop a).take (i - a) ++ [c] := by
        rw [show i + 1 - a = (i - a) + 1 from by omega, List.take_succ, List.getElem?_drop, show a + (i - a) = i from by omega, hc]
        rfl
      rw [e, ← List.append_assoc]
      exact C2'
theorem fs_94w {n r r1 a b : Nat} {l L : List Nat} {x2 x3 : Int32} {s : ps_S} {R : ps_S → Prop} (hr : ps_is r 5 = true) (hr1 : ps_is r1 5 = true) (hd : r1 ≠ r ∧ r1 ≠ r + 1 ∧ r1 + 1 ≠ r) (W : cv_W s r1 l) (C : CW s r L) (h2 : x2.toInt = a) (h3 : x3.toInt = b) (hb : b ≤ l.length) (k : ∀ s', CW s' r (L ++ (l.drop a).take (b - a)) → cfr (C2 r) s s' → R s') : pl_Cl n 94 [.ref r, .ref r1, .int x2, .int x3] s (ps_rV R) := by
  cases n with
  | zero => exact pl_At_0
  | succ n =>
  show pl_At (n + 1) 94 0 [(0, .ref r), (1, .ref r1), (2, .int x2), (3, .int x3)] [] s (ps_rV R)
  refine pl_94_0 (fs_94w_3 hr hr1 hd W h3 hb k n h2 (Nat.le_refl _) (Or.inr rfl) ?_ cfr_refl)
  rw [Nat.sub_self, List.take_zero, List.append_nil]
  exact C
/-- any row's part is added: what changes -/
theorem fv_93 {n r : Nat} {x1 : Int32} {s : ps_S} {R : ps_S → Prop} (hr : ps_is r 5 = true) (k : ∀ s', cfr (C2 r) s s' → R s') : pl_Cl n 93 [.ref r, .int x1] s (ps_rV R) := by
  cases n with
  | zero => exact pl_At_0
  | succ n =>
  show pl_At (n + 1) 93 0 [(0, .ref r), (1, .int x1)] [] s (ps_rV R)
  obtain ⟨t1, t2, t3, -⟩ := cv_row hr
  refine pl_93_0 ?_
  refine pl_nk_i (fun nk1 => ?_)
  refine ⟨fun h4 => ?_, fun h4 => ?_⟩
  · have h4 : (ps_i s r 1).toInt < (0 : Int) := xlt h4
    refine pl_nk_i (fun nk44 => ?_)
    first
    | exact k _ (cfr_i cfr_refl (Or.inl rfl))
    | (rw [t1]; exact k _ (cfr_i (cfr_a cfr_refl (Or.inr rfl)) (Or.inl rfl)))
  · have h4 : (0 : Int) ≤ (ps_i s r 1).toInt := xle h4
    refine pl_nk_i (fun nk8 => ?_)
    refine pl_nk_i (fun nk12 => ?_)
    refine pl_nk_i (fun nk15 => ?_)
    refine ⟨fun h16 => ?_, fun h16 => ?_⟩
    · have h16 : (nI (ps_ln (ps_c0 r 0))).toInt ≤ (ps_i s r 1).toInt := xle h16
      refine pl_nk_i (fun nk44 => ?_)
      first
      | exact k _ (cfr_i cfr_refl (Or.inl rfl))
      | (rw [t1]; exact k _ (cfr_i (cfr_a cfr_refl (Or.inr rfl)) (Or.inl rfl)))
    · have h16 : (ps_i s r 1).toInt < (nI (ps_ln (ps_c0 r 0))).toInt := xlt h16
      refine pl_nk_i (fun nk20 => ?_)
      refine pl_nk_i (fun nk24 => ?_)
      refine pl_nk_i (fun nk28 => ?_)
      intro b28
      obtain ⟨b28, c28⟩ := pl_in b28
      refine pl_nk_i (fun nk31 => ?_)
      refine pl_nk_i (fun nk36 => ?_)
      first
      | exact k _ (cfr_i cfr_refl (Or.inl rfl))
      | (rw [t1]; exact k _ (cfr_i (cfr_a cfr_refl (Or.inr rfl)) (Or.inl rfl)))
theorem fv_94_3 {r r1 : Nat} {s0 : ps_S} {R : ps_S → Prop} (hr : ps_is r 5 = true) (k : ∀ s', cfr (C2 r) s0 s' → R s') : ∀ (n : Nat) {s : ps_S} {x3 x4 : Int32}, cfr (C2 r) s0 s → pl_At n 94 3 [(0, .ref r), (1, .ref r1), (3, .int x3), (4, .int x4)] [] s (ps_rV R)
  | 0, _, _, _, _ => pl_At_0
  | n + 1, s, x3, x4, F => by
    refine pl_94_3 ⟨fun _ => k s F, fun _ => ?_⟩
    exact fv_92 (fun v _ => fv_93 hr (fun s2 F2 => fv_94_3 hr k n (cfr_tr F F2)))
theorem fv_95 {n r r1 : Nat} {s : ps_S} {R : ps_S → Prop} (hr : ps_is r 5 = true) (k : ∀ s', cfr (C2 r) s s' → R s') : pl_Cl n 95 [.ref r, .ref r1] s (ps_rV R) := by
  cases n with
  | zero => exact pl_At_0
  | succ n =>
  show pl_At (n + 1) 95 0 [(0, .ref r), (1, .ref r1)] [] s (ps_rV R)
  refine pl_95_0 (fs_91 (pl_nk_i (fun _ => ?_)))
  cases n with
  | zero => exact pl_At_0
  | succ n =>
  exact pl_94_0 (fv_94_3 hr k n (cfr_i (cfr_i cfr_refl (Or.inl rfl)) (Or.inl rfl)))
/-- a row copied -/
theorem fs_95 {n r r1 : Nat} {l : List Nat} {s : ps_S} {R : ps_S → Prop} (hr : ps_is r 5 = true) (hr1 : ps_is r1 5 = true) (hd : r1 ≠ r ∧ r1 ≠ r + 1 ∧ r1 + 1 ≠ r) (W : cv_W s r1 l) (k : ∀ s', cv_W s' r l → cfr (C2 r) s s' → R s') : pl_Cl n 95 [.ref r, .ref r1] s (ps_rV R) := by
  cases n with
  | zero => exact pl_At_0
  | succ n =>
  show pl_At (n + 1) 95 0 [(0, .ref r), (1, .ref r1)] [] s (ps_rV R)
  have h40 := W.2.2.1
  have F1 : cfr (C2 r) s (ps_ui (ps_ui s r 1 0) r 2 0) := cfr_i (cfr_i cfr_refl (Or.inl rfl)) (Or.inl rfl)
  have W1 := cv_W_cfr W F1 (by unfold C2; omega) (by unfold C2; omega)
  refine pl_95_0 (fs_91 (pl_nk_i (fun _ => ?_)))
  have e : (ps_i s r1 1) = (ps_i (ps_ui (ps_ui s r 1 0) r 2 0) r1 1) := by rw [ps_i_ui, if_neg (by omega), ps_i_ui, if_neg (by omega)]
  try rw [e]
  refine fs_94w (a := 0) (b := l.length) hr hr1 hd W1 (CW_of CW_0) rfl W1.1 (Nat.le_refl _) (fun s2 C F2 => k s2 ?_ (cfr_tr F1 F2))
  rw [List.drop_zero, Nat.sub_zero, List.take_length, List.nil_append] at C
  exact C.2.1 h40
/-- what is bound, by places -/
def BNc (s : ps_S) (l : List Nat) (B : Nat → Option (List Nat)) : Prop := ∀ k, k < 5 → (B k = none ∧ (ps_a s 1034 k).toInt = -1) ∨ ∃ a b : Nat, (ps_a s 1034 k).toInt = a ∧ (ps_a s 1035 k).toInt = b ∧ a ≤ b ∧ b ≤ l.length ∧ B k = some ((l.drop a).take (b - a))
def CBn (q : Nat) : Prop := q = 1034 ∨ q = 1035
section R88
variable {ar : Nat → Nat} {l : List Nat}
theorem fs_88 {n k p : Nat} {x1 x2 : Int32} {s : ps_S} {B : Nat → Option (List Nat)} {R : Int32 → ps_S → Prop} (W : cv_W s 1022 l) (E : shE s 1026 ar l 0) (hp : p < l.length) (hen : p + en ar (l.drop p) 1 ≤ l.length) (hk : k < 5) (h1 : x1.toInt = k) (h2 : x2.toInt = p) (b : BNc s l B) (kn : B k = none → ∀ s', BNc s' l (rw_u B k ((l.drop p).take (en ar (l.drop p) 1))) → cfr CBn s s' → R 1 s') (ks : ∀ U, B k = some U → (U = (l.drop p).take (en ar (l.drop p) 1) → R 1 s) ∧ (¬ U = (l.drop p).take (en ar (l.drop p) 1) → R 0 s)) : pl_Cl n 88 [.ref 1021, .int x1, .int x2] s (ps_rI R) := by
  cases n with
  | zero => exact pl_At_0
  | succ n =>
  show pl_At (n + 1) 88 0 [(0, .ref 1021), (1, .int x1), (2, .int x2)] [] s (ps_rI R)
  have h40 := W.2.2.1
  have cm : (-1 : Int32).toInt = -1 := by decide
  refine pl_88_0 ?_
  refine fs_104 rfl h2 (by omega) (fun v1 q1 => ?_)
  have e1 : v1.toInt = (p + en ar (l.drop p) 1 : Nat) := by rw [q1]; exact E p (Nat.zero_le _) hp
  refine fs_182v (a := k) h1 (by rw [show ps_ln 1034 = 5 from rfl]; exact hk) (by decide) (fun v2 q2 => ?_)
  rcases b k hk with ⟨b1, b2⟩ | ⟨a, e, b1, b2, b3, b4, b5⟩
  · refine ⟨fun z => ?_, fun _ => ?_⟩
    · have z := xne z
      rw [q2] at z
      exact absurd b2 z
    · refine fs_183 (a := k) h1 (by rw [show ps_ln 1034 = 5 from rfl]; exact hk) (by decide) ?_
      refine fs_183 (a := k) h1 (by rw [show ps_ln 1035 = 5 from rfl]; exact hk) (by decide) ?_
      refine kn b1 _ (fun j hj => ?_) (cfr_a (cfr_a cfr_refl (Or.inl rfl)) (Or.inr rfl))
      unfold rw_u
      by_cases ej : j = k
      · right
        refine ⟨p, p + en ar (l.drop p) 1, ?_, ?_, by omega, hen, ?_⟩
        · rw [ps_a_ua, if_neg (by omega), ps_a_ua, if_pos ⟨rfl, ej⟩]
          exact h2
        · rw [ps_a_ua, if_pos ⟨rfl, ej⟩]
          exact e1
        · rw [if_pos ej, Nat.add_sub_cancel_left]
      · rw [if_neg ej, ps_a_ua, if_neg (by omega), ps_a_ua, if_neg (by omega), ps_a_ua, if_neg (by omega), ps_a_ua, if_neg (by omega)]
        exact b j hj
  · have v2e : v2.toInt = a := by rw [q2]; exact b1
    refine ⟨fun _ => ?_, fun z => ?_⟩
    · refine fs_182v (a := k) h1 (by rw [show ps_ln 1035 = 5 from rfl]; exact hk) (by decide) (fun v3 q3 => ?_)
      have v3e : v3.toInt = e := by rw [q3]; exact b2
      have ks := ks _ b5
      have d1 : (v1 - x2).toInt = (en ar (l.drop p) 1 : Nat) := by rw [xIs (by omega) (by omega), e1, h2]; omega
      have d2 : (v3 - v2).toInt = (e - a : Nat) := by rw [xIs (by omega) (by omega), v3e, v2e]; omega
      have l1 : ((l.drop a).take (e - a)).length = e - a := by rw [List.length_take, List.length_drop]; omega
      have l2 : ((l.drop p).take (en ar (l.drop p) 1)).length = en ar (l.drop p) 1 := by rw [List.length_take, List.length_drop]; omega
      refine ⟨fun z => ?_, fun z => ?_⟩
      · have z := xne z
        exact ks.2 (fun y => by rw [y] at l1; omega)
      · have z := xeq z
        have ez : en ar (l.drop p) 1 = e - a := by omega
        refine fs_99 (b := p) (e := p + en ar (l.drop p) 1) (p := a) rfl W rfl W h2 e1 hen v2e (by omega) (fun y => ⟨fun w => absurd w (by decide), fun _ => ks.1 ?_⟩) (fun y => ⟨fun _ => ks.2 (fun w => y ?_), fun w => absurd rfl w⟩)
        · rw [Nat.add_sub_cancel_left] at y
          rw [← ez]
          exact y.symm
        · rw [Nat.add_sub_cancel_left, ← w, ez]
    · have z := xeq z
      omega
end R88
theorem dt_c {r : List Nat} {i e c : Nat} (h : r[i]? = some c) (hi : i < e) : (r.drop i).take (e - i) = c :: (r.drop (i + 1)).take (e - (i + 1)) := by
  rw [drop_c h, show e - i = (e - (i + 1)) + 1 from by omega, List.take_succ_cons]
section R87
variable {g : tx_g} {l r : List Nat} {r1 rt : Nat} {s0 : ps_S} {R : Int32 → ps_S → Prop} {x3 : Int32} {p0 lf : Nat}
/-- a rule's left side is held against a place -/
theorem fs_87_32 (hA : ArW (sg g) (arh g)) (W0 : cv_W s0 1022 l) (E0 : shE s0 1026 (arh g) l 0) (hr1 : ps_is r1 5 = true) (hne : r1 < 1021) (Wr0 : cv_W s0 r1 r) (hv : ∀ c, c ∈ r → c < 60) (hv5 : ∀ c, c ∈ r → 40 ≤ c → c < 45) (h3 : x3.toInt = rt) (hrt : rt ≤ r.length) {M : Option (Nat × (Nat → Option (List Nat)))} (k1 : ∀ s' e B, M = some (e, B) → BNc s' l B → cfr CBn s0 s' → R 1 s') (k0 : ∀ s', M = none → cfr CBn s0 s' → R 0 s') : ∀ (n : Nat) {s : ps_S} {x5 x6 : Int32} {p i : Nat} {B : Nat → Option (List Nat)} {W W1 : List Bool}, x5.toInt = p → x6.toInt = i → i ≤ rt → BNc s l B → cfr CBn s0 s → ws (sg g) ((r.drop i).take (rt - i)) W → ws (sg g) (l.drop p) W1 → W.length ≤ W1.length → p ≤ l.length → M = rw_m (arh g) l ((r.drop i).take (rt - i)) p B → pl_At n 87 32 [(0, .ref 1021), (1, .ref r1), (3, .int x3), (5, .int x5), (6, .int x6)] [] s (ps_rI R)
  | 0, _, _, _, _, _, _, _, _, _, _, _, _, _, _, _, _, _, _ => pl_At_0
  | n + 1, s, x5, x6, p, i, B, W, W1, h5, h6, hi, b, F, hw, hw1, hle, hpl, hM => by
    have hl40 := W0.2.2.1
    have hr40 := Wr0.2.2.1
    have Wl := cv_W_cfr W0 F (by unfold CBn; omega) (by unfold CBn; omega)
    have Wr := cv_W_cfr Wr0 F (by unfold CBn; omega) (by unfold CBn; omega)
    have E : shE s 1026 (arh g) l 0 := fun j a c => by
      rw [(F 1027 (by unfold CBn; omega)).2.2.2.1]
      exact E0 j a c
    refine pl_87_32 ⟨fun z => ?_, fun z => ?_⟩
    · have z := xle z
      rw [show rt - i = 0 from by omega, List.take_zero] at hM
      exact k1 s p B hM b F
    · have z := xlt z
      obtain ⟨c, hc⟩ : ∃ c, r[i]? = some c := ⟨_, List.getElem?_eq_getElem (by omega)⟩
      have hcm := List.mem_of_getElem? hc
      have hc60 := hv c hcm
      rw [dt_c hc (by omega)] at hw hM
      obtain ⟨bb, W', ks, rfl, hk, hw'⟩ := ws_cons.mp hw
      have ha := hA bb c ks hk
      have hpos : 1 ≤ W1.length := by rw [List.length_cons] at hle; omega
      have hlt : p < l.length := by
        have := en_lt hA hw1 (show 0 < W1.length by omega)
        rw [List.length_drop] at this
        omega
      refine fs_92c hr1 Wr h6 hc (fun v1 q1 => ?_)
      refine fs_185 (fun h1 => ⟨fun z => absurd z (by decide), fun _ => ?_⟩) (fun h1 => ⟨fun _ => ?_, fun z => absurd rfl z⟩)
      · -- a bound piece of the rule
        have h40 : 40 ≤ c := by omega
        have h45 := hv5 c hcm h40
        have hks : ks = [] := by
          have := (arh_lo (g := g) (c := c)).2.2.2.2 h40
          exact List.eq_nil_of_length_eq_zero (by omega)
        rw [hks, List.nil_append] at hw'
        have c40 : (40 : Int32).toInt = 40 := by decide
        have hen := en_le hA hw1 (k := 1) hpos
        rw [List.length_drop] at hen
        have hrest := (en_rest hA hw1 (k := 1) hpos).1
        rw [List.drop_drop] at hrest
        have go : ∀ {s2 : ps_S} {B2 : Nat → Option (List Nat)}, BNc s2 l B2 → cfr CBn s0 s2 → M = rw_m (arh g) l ((r.drop (i + 1)).take (rt - (i + 1))) (p + en (arh g) (l.drop p) 1) B2 → pl_Cl n 104 [.ref 1026, .int x5] s2 (ps_rI (fun v5 s5 => pl_At n 87 32 [(0, .ref 1021), (1, .ref r1), (3, .int x3), (5, .int v5), (6, .int (x6 + 1))] [] s5 (ps_rI R))) := fun {s2 B2} b2 F2 hM2 => by
          refine fs_104 rfl h5 (by omega) (fun v5 q5 => ?_)
          have e5 : v5.toInt = (p + en (arh g) (l.drop p) 1 : Nat) := by
            rw [q5, (F2 1027 (by unfold CBn; omega)).2.2.2.1]
            exact E0 p (Nat.zero_le _) hlt
          exact fs_87_32 hA W0 E0 hr1 hne Wr0 hv hv5 h3 hrt k1 k0 n e5 (xj1 h6 (by omega)) (by omega) b2 F2 hw' hrest (by rw [List.length_drop]; rw [List.length_cons] at hle; omega) (by omega) hM2
        refine fs_88 (k := c - 40) (p := p) Wl E hlt (by omega) (by omega) (by rw [xIs (by omega) (by omega), q1, c40]; omega) h5 b (fun hB s2 b2 F2 => ⟨fun _ => ?_, fun z => absurd z (by decide)⟩) (fun U hB => ⟨fun y => ⟨fun _ => ?_, fun z => absurd z (by decide)⟩, fun y => ⟨fun z => absurd rfl z, fun _ => ?_⟩⟩)
        · exact go b2 (cfr_tr F F2) (by rw [hM, rw_m_n h40 hB])
        · exact go b F (by rw [hM, rw_m_s h40 hB, if_pos y])
        · exact k0 s (by rw [hM, rw_m_s h40 hB, if_neg y]) F
      · have h40 : ¬ 40 ≤ c := by omega
        obtain ⟨c2, hc2⟩ : ∃ c2, l[p]? = some c2 := ⟨_, List.getElem?_eq_getElem hlt⟩
        refine fs_92c rfl Wl h5 hc2 (fun v3 q3 => ⟨fun y => ?_, fun y => ?_⟩)
        · have y := xne y
          refine k0 s ?_ F
          rw [hM, rw_m_c h40, if_neg (fun w => by rw [hc2] at w; cases w; exact y (by rw [q1, q3]))]
        · have y := xeq y
          have e2 : c2 = c := by omega
          subst e2
          rw [drop_c hc2] at hw1
          obtain ⟨bb2, W1', ks2, rfl, hk2, hw1'⟩ := ws_cons.mp hw1
          have ha2 := hA bb2 c2 ks2 hk2
          refine fs_87_32 hA W0 E0 hr1 hne Wr0 hv hv5 h3 hrt k1 k0 n (xj1 h5 (by omega)) (xj1 h6 (by omega)) (by omega) b F hw' hw1' ?_ (by omega) (by rw [hM, rw_m_c h40, if_pos hc2])
          rw [List.length_append, List.length_append]
          rw [List.length_cons, List.length_cons] at hle
          omega
theorem fs_87_3 {x4 x2 : Int32} (k : ∀ n s', BNc s' l (fun _ => none) → cfr CBn s0 s' → pl_At n 87 32 [(0, .ref 1021), (1, .ref r1), (3, .int x3), (5, .int x4), (6, .int x2)] [] s' (ps_rI R)) : ∀ (n : Nat) {s : ps_S} {x5 : Int32} {i : Nat}, x5.toInt = i → i ≤ 5 → (∀ j, j < i → (ps_a s 1034 j).toInt = -1) → cfr CBn s0 s → pl_At n 87 3 [(0, .ref 1021), (1, .ref r1), (2, .int x2), (3, .int x3), (4, .int x4), (5, .int x5)] [] s (ps_rI R)
  | 0, _, _, _, _, _, _, _ => pl_At_0
  | n + 1, s, x5, i, h5, hi, hj, F => by
    have c5 : (5 : Int32).toInt = 5 := by decide
    refine pl_87_3 ⟨fun z => ?_, fun z => ?_⟩
    · have z := xle z
      exact k n s (fun j hj5 => Or.inl ⟨rfl, hj j (by omega)⟩) F
    · have z := xlt z
      refine fs_183 (a := i) h5 (by rw [show ps_ln 1034 = 5 from rfl]; omega) (by decide) ?_
      refine fs_87_3 k n (xj1 h5 (by omega)) (by omega) (fun j hj2 => ?_) (cfr_a F (Or.inl rfl))
      rw [ps_a_ua]
      by_cases e : j = i
      · rw [if_pos ⟨rfl, e⟩]
        decide
      · rw [if_neg (fun w => e w.2)]
        exact hj j (by omega)
theorem fs_87 {n : Nat} {x2 x4 : Int32} {W W1 : List Bool} (hA : ArW (sg g) (arh g)) (W0 : cv_W s0 1022 l) (E0 : shE s0 1026 (arh g) l 0) (hr1 : ps_is r1 5 = true) (hne : r1 < 1021) (Wr0 : cv_W s0 r1 r) (hv : ∀ c, c ∈ r → c < 60) (hv5 : ∀ c, c ∈ r → 40 ≤ c → c < 45) (h2 : x2.toInt = lf) (h3 : x3.toInt = rt) (hlr : lf ≤ rt) (hrt : rt ≤ r.length) (h4 : x4.toInt = p0) (hp : p0 ≤ l.length) (hw : ws (sg g) ((r.drop lf).take (rt - lf)) W) (hw1 : ws (sg g) (l.drop p0) W1) (hle : W.length ≤ W1.length) (k1 : ∀ s' e B, rw_m (arh g) l ((r.drop lf).take (rt - lf)) p0 (fun _ => none) = some (e, B) → BNc s' l B → cfr CBn s0 s' → R 1 s') (k0 : ∀ s', rw_m (arh g) l ((r.drop lf).take (rt - lf)) p0 (fun _ => none) = none → cfr CBn s0 s' → R 0 s') : pl_Cl n 87 [.ref 1021, .ref r1, .int x2, .int x3, .int x4] s0 (ps_rI R) := by
  cases n with
  | zero => exact pl_At_0
  | succ n =>
  show pl_At (n + 1) 87 0 [(0, .ref 1021), (1, .ref r1), (2, .int x2), (3, .int x3), (4, .int x4)] [] s0 (ps_rI R)
  refine pl_87_0 (fs_87_3 (l := l) (s0 := s0) (fun n s1 b F => ?_) n (i := 0) rfl (Nat.zero_le _) (fun j hj => absurd hj (Nat.not_lt_zero _)) cfr_refl)
  exact fs_87_32 hA W0 E0 hr1 hne Wr0 hv hv5 h3 hrt k1 k0 n h4 h2 hlr b F hw hw1 hle hp rfl
end R87
end
section
set_option maxRecDepth 100000
/-! the class: a term rewritten, again and again -/
theorem rl_n_w1 {σ : mSig} : ∀ {l : List Nat} {b : Bool}, ws σ l [b] → ∃ b', ws σ (l.drop (rl_n l)) [b']
  | [], b, h => by cases h
  | c :: l, b, h => by
    by_cases hc : c = 4
    · subst hc
      obtain ⟨b', W', ks, e, hk, h2⟩ := ws_cons.mp h
      cases e
      rw [List.append_nil] at h2
      have hks : ks = [true] := by
        rcases kS_cases hk with z | z | z | z | z | z | z
        · omega
        · omega
        · exact z.2.2
        · omega
        · omega
        · omega
        · omega
      subst hks
      rw [rl_n_c, List.drop_succ_cons]
      exact rl_n_w1 h2
    · have e : rl_n (c :: l) = 0 := by
        show (if c = 4 then _ else _) = 0
        rw [if_neg hc]
      rw [e, List.drop_zero]
      exact ⟨b, h⟩
/-- the sides of a rule -/
theorem rl_parts {g : tx_g} {r : List Nat} {b : Bool} (hA : ArW (sg g) (arh g)) (hw : ws (sg g) r [b]) (hr : rl_is (arh g) r) : rl_l r ≤ rl_r (arh g) r ∧ rl_r (arh g) r ≤ r.length ∧ ws (sg g) (rw_L (arh g) r) [false] ∧ ws (sg g) (r.drop (rl_r (arh g) r)) [false] ∧ (∃ c t, rw_L (arh g) r = c :: t ∧ 20 ≤ c ∧ c < 40 ∧ ∃ ks, kS (sg g) false c = some ks) ∧ ∀ x, x ∈ r.drop (rl_r (arh g) r) → 40 ≤ x → x ∈ rw_L (arh g) r := by
  obtain ⟨h6, ⟨c, hc, c20, c40⟩, hh⟩ := hr
  obtain ⟨b', n4⟩ := rl_n_w1 hw
  rw [drop_c h6] at n4
  obtain ⟨bb, W', ks, e, hk, h2⟩ := ws_cons.mp n4
  cases e
  rw [List.append_nil] at h2
  have hks : ks = [false, false] := by
    rcases kS_cases hk with z | z | z | z | z | z | z
    · omega
    · omega
    · omega
    · exact z.2.2
    · omega
    · omega
    · omega
  subst hks
  have h2 : ws (sg g) (r.drop (rl_l r)) [false, false] := h2
  have hle := en_le hA (k := 1) h2 (by simp)
  rw [List.length_drop] at hle
  have hll := (List.getElem?_eq_some_iff.mp hc).1
  obtain ⟨g1, g2⟩ := en_rest hA (k := 1) h2 (by simp)
  have eL : rw_L (arh g) r = (r.drop (rl_l r)).take (en (arh g) (r.drop (rl_l r)) 1) := by
    unfold rw_L rl_r
    rw [Nat.add_sub_cancel_left]
  have eR : r.drop (rl_r (arh g) r) = (r.drop (rl_l r)).drop (en (arh g) (r.drop (rl_l r)) 1) := by
    rw [List.drop_drop]
    rfl
  have hpos := en_pos (ar := arh g) (t := r.drop (rl_l r)) (p := 1) (by rw [List.length_drop]; omega) (by decide)
  refine ⟨by unfold rl_r; omega, by unfold rl_r; omega, by rw [eL]; exact g2, by rw [eR]; exact g1, ?_, hh⟩
  rw [eL] at *
  obtain ⟨m, hm⟩ : ∃ m, en (arh g) (r.drop (rl_l r)) 1 = m + 1 := ⟨en (arh g) (r.drop (rl_l r)) 1 - 1, by omega⟩
  rw [hm, drop_c hc, List.take_succ_cons] at g2 ⊢
  obtain ⟨bb2, W2, ks2, e2, hk2, -⟩ := ws_cons.mp g2
  cases e2
  exact ⟨c, _, rfl, c20, c40, ks2, hk2⟩
/-- a place where no FUN stands -/
theorem rw_z_no {h : tx_H} {l : List Nat} {p : Nat} (hA : ArW (sg h.1) (arh h.1)) (hw : ∀ (k : Nat) (w r : List Nat), h.2[k]? = some (w, r) → ws (sg h.1) r [true]) (hp : ∀ c, l[p]? = some c → ¬ (20 ≤ c ∧ c < 40)) (k : Nat) : rw_z h l p k := by
  rintro l' ⟨w, r, e, B, a1, a2, a3, a4⟩
  obtain ⟨-, -, -, -, ⟨c, t, eL, c20, c40, -⟩, -⟩ := rl_parts hA (hw k w r a1) a2
  rw [eL, rw_m_c (by omega)] at a3
  split at a3
  · next hc => exact hp c hc ⟨c20, c40⟩
  · cases a3
theorem BNc_cfr {C : Nat → Prop} {s s' : ps_S} {l : List Nat} {B : Nat → Option (List Nat)} (b : BNc s l B) (F : cfr C s s') (h1 : ¬ C 1034) (h2 : ¬ C 1035) : BNc s' l B := fun k hk => by
  rw [(F 1034 h1).2.2.2.1, (F 1035 h2).2.2.2.1]
  exact b k hk
section R89
variable {g : tx_g} {l r : List Nat} {r1 rt p e : Nat} {s0 : ps_S} {R : ps_S → Prop} {x3 : Int32} {B : Nat → Option (List Nat)}
theorem fs_89_23 (W0 : cv_W s0 1022 l) (E0 : shE s0 1026 (arh g) l 0) (hr1 : ps_is r1 5 = true) (hne : r1 < 1021) (Wr0 : cv_W s0 r1 r) (hv : ∀ c, c ∈ r → c < 60) (hv5 : ∀ c, c ∈ r → 40 ≤ c → c < 45) (hB : ∀ c, c ∈ r.drop rt → 40 ≤ c → ∃ U, B (c - 40) = some U) (b0 : BNc s0 l B) (h3 : x3.toInt = p) (hp : p < l.length) (he : e = p + en (arh g) (l.drop p) 1) (hel : e ≤ l.length) (k : ∀ s', CW s' 1024 (l.take p ++ rw_r B (r.drop rt) ++ l.drop e) → cfr (C2 1024) s0 s' → R s') : ∀ (n : Nat) {s : ps_S} {x4 : Int32} {i : Nat} {L : List Nat}, x4.toInt = i → rt ≤ i → i ≤ r.length → CW s 1024 (l.take p ++ L) → rw_r B (r.drop rt) = L ++ rw_r B (r.drop i) → cfr (C2 1024) s0 s → pl_At n 89 23 [(0, .ref 1021), (1, .ref r1), (3, .int x3), (4, .int x4)] [] s (ps_rV R)
  | 0, _, _, _, _, _, _, _, _, _, _ => pl_At_0
  | n + 1, s, x4, i, L, h4, hi, hir, C, hL, F => by
    have hl40 := W0.2.2.1
    have hr40 := Wr0.2.2.1
    have W := cv_W_cfr W0 F (by unfold C2; omega) (by unfold C2; omega)
    have Wr := cv_W_cfr Wr0 F (by unfold C2; omega) (by unfold C2; omega)
    have b := BNc_cfr b0 F (by unfold C2; omega) (by unfold C2; omega)
    refine pl_89_23 (pl_nk_i (fun _ => ⟨fun z => ?_, fun z => ?_⟩))
    · have z := xle z
      rw [Wr.1] at z
      have ei : i = r.length := by omega
      rw [ei, List.drop_length] at hL
      have hL : rw_r B (r.drop rt) = L := by rw [hL]; exact List.append_nil _
      refine fs_104 rfl h3 (by omega) (fun v1 q1 => ?_)
      have e1 : v1.toInt = e := by
        rw [q1, (F 1027 (by unfold C2; omega)).2.2.2.1, he]
        exact E0 p (Nat.zero_le _) hp
      refine fs_94w (a := e) (b := l.length) rfl rfl (by decide) W C e1 W.1 (Nat.le_refl _) (fun s2 C2' F2 => k s2 ?_ (cfr_tr F F2))
      rw [hL]
      have ee : (l.drop e).take (l.length - e) = l.drop e := List.take_of_length_le (by rw [List.length_drop]; omega)
      rw [ee] at C2'
      exact C2'
    · have z := xlt z
      rw [Wr.1] at z
      obtain ⟨c, hc⟩ : ∃ c, r[i]? = some c := ⟨_, List.getElem?_eq_getElem (by omega)⟩
      have hcm := List.mem_of_getElem? hc
      have hcd : c ∈ r.drop rt := List.mem_iff_getElem?.mpr ⟨i - rt, by rw [List.getElem?_drop, show rt + (i - rt) = i from by omega]; exact hc⟩
      have c60 := hv c hcm
      rw [drop_c hc] at hL
      refine fs_92c hr1 Wr h4 hc (fun v3 q3 => ?_)
      refine fs_185 (fun y => ⟨fun w => absurd w (by decide), fun _ => ?_⟩) (fun y => ⟨fun _ => ?_, fun w => absurd rfl w⟩)
      · have h40 : 40 ≤ c := by omega
        have h45 := hv5 c hcm h40
        have c40 : (40 : Int32).toInt = 40 := by decide
        have ex : (v3 - 40).toInt = (c - 40 : Nat) := by rw [xIs (by omega) (by omega), q3, c40]; omega
        obtain ⟨U, hU⟩ := hB c hcd h40
        rw [rw_r_v h40 hU] at hL
        rcases b (c - 40) (by omega) with ⟨y1, -⟩ | ⟨a, bb, y1, y2, y3, y4, y5⟩
        · rw [hU] at y1; cases y1
        · rw [hU] at y5
          have eU := Option.some.inj y5
          refine fs_182v (a := c - 40) ex (by rw [show ps_ln 1034 = 5 from rfl]; omega) (by decide) (fun v6 q6 => ?_)
          refine fs_182v (a := c - 40) ex (by rw [show ps_ln 1035 = 5 from rfl]; omega) (by decide) (fun v7 q7 => ?_)
          refine fs_94w (a := a) (b := bb) rfl rfl (by decide) W C (by rw [q6]; exact y1) (by rw [q7]; exact y2) y4 (fun s2 C2' F2 => ?_)
          rw [← eU, List.append_assoc] at C2'
          exact fs_89_23 W0 E0 hr1 hne Wr0 hv hv5 hB b0 h3 hp he hel k n (L := L ++ U) (xj1 h4 (by omega)) (by omega) (by omega) C2' (by rw [hL, List.append_assoc]) (cfr_tr F F2)
      · have h40 : ¬ 40 ≤ c := by omega
        rw [rw_r_c h40] at hL
        refine fs_93w rfl C q3 (fun s2 C2' F2 => ?_)
        rw [List.append_assoc] at C2'
        exact fs_89_23 W0 E0 hr1 hne Wr0 hv hv5 hB b0 h3 hp he hel k n (L := L ++ [c]) (xj1 h4 (by omega)) (by omega) (by omega) C2' (by rw [hL, List.append_assoc]; rfl) (cfr_tr F F2)
theorem fs_89 {n : Nat} {x2 : Int32} (W0 : cv_W s0 1022 l) (E0 : shE s0 1026 (arh g) l 0) (hr1 : ps_is r1 5 = true) (hne : r1 < 1021) (Wr0 : cv_W s0 r1 r) (hv : ∀ c, c ∈ r → c < 60) (hv5 : ∀ c, c ∈ r → 40 ≤ c → c < 45) (hB : ∀ c, c ∈ r.drop rt → 40 ≤ c → ∃ U, B (c - 40) = some U) (b0 : BNc s0 l B) (h2 : x2.toInt = rt) (hrt : rt ≤ r.length) (h3 : x3.toInt = p) (hp : p < l.length) (he : e = p + en (arh g) (l.drop p) 1) (hel : e ≤ l.length) (k : ∀ s', CW s' 1024 (l.take p ++ rw_r B (r.drop rt) ++ l.drop e) → cfr (C2 1024) s0 s' → R s') : pl_Cl n 89 [.ref 1021, .ref r1, .int x2, .int x3] s0 (ps_rV R) := by
  cases n with
  | zero => exact pl_At_0
  | succ n =>
  show pl_At (n + 1) 89 0 [(0, .ref 1021), (1, .ref r1), (2, .int x2), (3, .int x3)] [] s0 (ps_rV R)
  have F1 : cfr (C2 1024) s0 (ps_ui (ps_ui s0 1024 1 0) 1024 2 0) := cfr_i (cfr_i cfr_refl (Or.inl rfl)) (Or.inl rfl)
  refine pl_89_0 (fs_91 ?_)
  refine fs_94w (l := l) (a := 0) (b := p) (L := []) rfl rfl (by decide) (cv_W_cfr W0 F1 (by unfold C2; omega) (by unfold C2; omega)) (CW_of CW_0) rfl h3 (by omega) (fun s2 C F2 => ?_)
  rw [List.drop_zero, Nat.sub_zero, List.nil_append] at C
  exact fs_89_23 W0 E0 hr1 hne Wr0 hv hv5 hB b0 h3 hp he hel k n (L := []) h2 (Nat.le_refl _) hrt (by rw [List.append_nil]; exact C) rfl (cfr_tr F1 F2)
end R89
def CGO (q : Nat) : Prop := q = 1024 ∨ q = 1025 ∨ q = 1034 ∨ q = 1035
section R86
variable {th : Nat} {h : tx_H} {l : List Nat} {s0 : ps_S} {R : Int32 → ps_S → Prop}
theorem fs_86_all (hth : th = 2 ∨ th = 26) (H0 : cv_H s0 th h) (hw : WFt h) (hb : ∀ (k : Nat) (w r : List Nat), h.2[k]? = some (w, r) → ∀ c, c ∈ r → 40 ≤ c → c < 45) (hwl : ws (sg h.1) l [false]) (W0 : cv_W s0 1022 l) (E0 : shE s0 1026 (arh h.1) l 0) (hR0 : RLc s0 (arh h.1) h.2 h.2.length) (k1 : ∀ s' l', rw_s h l l' → CW s' 1024 l' → cfr CGO s0 s' → R 1 s') (k0 : ∀ s', rw_e h l → cfr CGO s0 s' → R 0 s') : ∀ n : Nat, (∀ {s : ps_S} {x2 : Int32} {p : Nat}, x2.toInt = p → p ≤ l.length → cfr CBn s0 s → (∀ p', p' < p → ∀ k', rw_z h l p' k') → pl_At n 86 2 [(0, .ref 1021), (1, .ref th), (2, .int x2)] [] s (ps_rI R)) ∧ (∀ {s : ps_S} {x2 x3 : Int32} {p i : Nat}, x2.toInt = p → p < l.length → x3.toInt = i → i ≤ h.2.length → cfr CBn s0 s → (∀ p', p' < p → ∀ k', rw_z h l p' k') → (∀ k', k' < i → rw_z h l p k') → pl_At n 86 15 [(0, .ref 1021), (1, .ref th), (2, .int x2), (3, .int x3)] [] s (ps_rI R)) := by
  have hA := arh_k H0.1.2.2.1 H0.1.2.2.2.1
  have hl40 := W0.2.2.1
  have hws : ∀ (k : Nat) (w r : List Nat), h.2[k]? = some (w, r) → ws (sg h.1) r [true] := fun k w r hk => wf_ws (hw.2.2 k w r hk).1
  have FG : ∀ {s : ps_S}, cfr CBn s0 s → cfr CGO s0 s := fun F => cfr_mono F (fun q z => by unfold CBn at z; unfold CGO; omega)
  intro n
  induction n with
  | zero => exact ⟨fun _ _ _ _ => pl_At_0, fun _ _ _ _ _ _ _ => pl_At_0⟩
  | succ n ih =>
    obtain ⟨i2, i15⟩ := ih
    refine ⟨fun {s x2 p} h2 hp F hz => ?_, fun {s x2 x3 p i} h2 hp h3 hi F hz hk => ?_⟩
    · have W := cv_W_cfr W0 F (by unfold CBn; omega) (by unfold CBn; omega)
      refine pl_86_2 ⟨fun z => ?_, fun z => ?_⟩
      · have z := xle z
        rw [W.1] at z
        exact k0 s (fun p' hp' k' => hz p' (by omega) k') (FG F)
      · have z := xlt z
        rw [W.1] at z
        exact i15 h2 (by omega) rfl (Nat.zero_le _) F hz (fun k' hk' => absurd hk' (Nat.not_lt_zero _))
    · have W := cv_W_cfr W0 F (by unfold CBn; omega) (by unfold CBn; omega)
      have E : shE s 1026 (arh h.1) l 0 := fun j a c => by
        rw [(F 1027 (by unfold CBn; omega)).2.2.2.1]
        exact E0 j a c
      have h8 := H0.2.2.1
      have H := cv_H_cfr H0 F (fun q a c => by unfold CBn; omega)
      have hR : RLc s (arh h.1) h.2 h.2.length := fun k w2 l2 a c => by
        rw [(F 1036 (by unfold CBn; omega)).2.2.2.1, (F 1037 (by unfold CBn; omega)).2.2.2.1]
        exact hR0 k w2 l2 a c
      have go2 : (∀ k', rw_z h l p k') → pl_At n 86 2 [(0, .ref 1021), (1, .ref th), (2, .int (x2 + 1))] [] s (ps_rI R) := fun y => i2 (xj1 h2 (by omega)) (by omega) F (fun p' hp' k' => by
        rcases Nat.lt_or_ge p' p with u | u
        · exact hz p' u k'
        · rw [show p' = p from by omega]
          exact y k')
      refine pl_86_15 (pl_nk_i (fun _ => ⟨fun z => ?_, fun z => ?_⟩))
      · have z := xle z
        rw [H.2.1] at z
        refine go2 (fun k' => ?_)
        rcases Nat.lt_or_ge k' i with u | u
        · exact hk k' u
        · rintro l' ⟨w, r, e, B, a1, -⟩
          have := (List.getElem?_eq_some_iff.mp a1).1
          omega
      · have z := xlt z
        rw [H.2.1] at z
        obtain ⟨c, hc⟩ : ∃ c, l[p]? = some c := ⟨_, List.getElem?_eq_getElem hp⟩
        obtain ⟨W1, hw1⟩ := ws_drop p hwl
        rw [drop_c hc] at hw1
        obtain ⟨bb, W1', ks1, rfl, hk1, -⟩ := ws_cons.mp hw1
        rw [← drop_c hc] at hw1
        refine fs_92c rfl W h2 hc (fun v1 q1 => ?_)
        refine fs_186 (fun y => ⟨fun u => absurd u (by decide), fun _ => ?_⟩) (fun y => ⟨fun _ => ?_, fun u => absurd rfl u⟩)
        · obtain ⟨⟨w, r⟩, hkr⟩ : ∃ q, h.2[i]? = some q := ⟨_, List.getElem?_eq_getElem (by omega)⟩
          obtain ⟨r1, r0⟩ := hR i w r (by omega) hkr
          obtain ⟨y1, y2, Wr⟩ := H.2.2.2 i w r hkr
          obtain ⟨hf, hr40, h60⟩ := hw.2.2 i w r hkr
          have Kk := th_K hth (k := i) (by omega)
          have hr5 : ps_is (th + 8 + 2 * i) 5 = true := ps_is5 Kk.2.2.2.2.2.1
          have cm : (-1 : Int32).toInt = -1 := by decide
          have next : ∀ {s' : ps_S}, cfr CBn s0 s' → rw_z h l p i → pl_At n 86 15 [(0, .ref 1021), (1, .ref th), (2, .int x2), (3, .int (x3 + 1))] [] s' (ps_rI R) := fun F' y => i15 h2 hp (xj1 h3 (by omega)) (by omega) F' hz (fun k' hk' => by
            rcases Nat.lt_or_ge k' i with u | u
            · exact hk k' u
            · rw [show k' = i from by omega]
              exact y)
          refine fs_182v (a := i) h3 (by rw [show ps_ln 1037 = 8 from rfl]; omega) (by decide) (fun v3 q3 => ⟨fun u => ?_, fun u => ?_⟩)
          · have u := xeq u
            refine next F (fun l' a => ?_)
            obtain ⟨w2, r2, e, B, a1, a2, -⟩ := a
            rw [hkr] at a1
            cases a1
            have := (r1 a2).2
            rw [← q3] at this
            omega
          · have u := xne u
            have his : rl_is (arh h.1) r := by
              by_cases y3 : rl_is (arh h.1) r
              · exact y3
              · have := r0 y3
                rw [← q3] at this
                omega
            obtain ⟨e36, e37⟩ := r1 his
            obtain ⟨p1, p2, p3, p4, -, p6⟩ := rl_parts hA (wf_ws hf) his
            refine fs_135 hth h3 (by omega) ?_
            refine fs_182v (a := i) h3 (by rw [show ps_ln 1036 = 8 from rfl]; omega) (by decide) (fun v5 q5 => ?_)
            have hlen : 1 ≤ (bb :: W1').length := by rw [List.length_cons]; omega
            refine fs_87 (l := l) (r := r) (lf := rl_l r) (rt := rl_r (arh h.1) r) (p0 := p) hA W E hr5 (by omega) Wr h60 (hb i w r hkr) (by rw [q5]; exact e36) (by rw [q3]; exact e37) p1 p2 h2 (by omega) p3 hw1 hlen (fun s6 e B hm b F6 => ⟨fun v => absurd v (by decide), fun _ => ?_⟩) (fun s6 hm F6 => ⟨fun _ => ?_, fun v => absurd rfl v⟩)
            · have hm : rw_m (arh h.1) l (rw_L (arh h.1) r) p (fun _ => none) = some (e, B) := hm
              have F6' := cfr_tr F F6
              have hve : e = p + en (arh h.1) (l.drop p) 1 := rw_m_en hA p3 (fun x _ hx => (arh_lo (g := h.1) (c := x)).2.2.2.2 hx) hm
              have hle := en_le hA (k := 1) hw1 hlen
              rw [List.length_drop] at hle
              have H6 := cv_H_cfr H0 F6' (fun q a c => by unfold CBn; omega)
              obtain ⟨-, -, Wr6⟩ := H6.2.2.2 i w r hkr
              refine fs_135 hth h3 (by omega) ?_
              refine fs_89 (l := l) (r := r) (rt := rl_r (arh h.1) r) (p := p) (e := e) (B := B) (cv_W_cfr W0 F6' (by unfold CBn; omega) (by unfold CBn; omega)) (fun j a c => ?_) hr5 (by omega) Wr6 h60 (hb i w r hkr) (fun c2 hc2 h40 => (rw_m_B hm).2 c2 (p6 c2 hc2 h40) h40) b (by rw [q3]; exact e37) p2 h2 hp hve (by omega) (fun s8 C F8 => ?_)
              · rw [(F6' 1027 (by unfold CBn; omega)).2.2.2.1]
                exact E0 j a c
              · exact k1 s8 _ ⟨p, i, hp, ⟨w, r, e, B, hkr, his, hm, rfl⟩, hk, hz⟩ C (cfr_tr (FG F6') (cfr_mono F8 (fun q z => by unfold C2 at z; unfold CGO; omega)))
            · refine next (cfr_tr F F6) (fun l' a => ?_)
              obtain ⟨w2, r2, e, B, a1, a2, a3, -⟩ := a
              rw [hkr] at a1
              cases a1
              have hm : rw_m (arh h.1) l (rw_L (arh h.1) r) p (fun _ => none) = none := hm
              rw [hm] at a3
              cases a3
        · refine go2 (fun k' => rw_z_no hA hws (fun c2 hc2 u => ?_) k')
          rw [hc] at hc2
          cases hc2
          have : c < 24 := by
            have hF := H0.1.2.2.2.1
            rcases kS_cases hk1 with z1 | z1 | z1 | z1 | z1 | z1 | z1
            · omega
            · omega
            · omega
            · omega
            · have e : (sg h.1).1.1 = h.1.1.length := rfl
              have := H0.1.2.2.1
              omega
            · have e : (sg h.1).1.2 = h.1.2.length := rfl
              omega
            · omega
          omega
theorem fs_86 {n : Nat} (hth : th = 2 ∨ th = 26) (H0 : cv_H s0 th h) (hw : WFt h) (hb : ∀ (k : Nat) (w r : List Nat), h.2[k]? = some (w, r) → ∀ c, c ∈ r → 40 ≤ c → c < 45) (hwl : ws (sg h.1) l [false]) (W0 : cv_W s0 1022 l) (E0 : shE s0 1026 (arh h.1) l 0) (hR0 : RLc s0 (arh h.1) h.2 h.2.length) (k1 : ∀ s' l', rw_s h l l' → CW s' 1024 l' → cfr CGO s0 s' → R 1 s') (k0 : ∀ s', rw_e h l → cfr CGO s0 s' → R 0 s') : pl_Cl n 86 [.ref 1021, .ref th] s0 (ps_rI R) := by
  cases n with
  | zero => exact pl_At_0
  | succ n =>
  show pl_At (n + 1) 86 0 [(0, .ref 1021), (1, .ref th)] [] s0 (ps_rI R)
  exact pl_86_0 ((fs_86_all hth H0 hw hb hwl W0 E0 hR0 k1 k0 n).1 (p := 0) rfl (Nat.zero_le _) cfr_refl (fun p' hp' => absurd hp' (Nat.not_lt_zero _)))
end R86
/-! sorts are kept -/
/-- a part replaced by a term -/
theorem ws_put {σ : mSig} {ar : Nat → Nat} (hA : ArW σ ar) {m : List Nat} (hm : ws σ m [false]) : ∀ {l : List Nat} {W : List Bool} {p : Nat}, ws σ l W → (∃ c ks, l[p]? = some c ∧ kS σ false c = some ks ∧ ∀ ks2, kS σ true c ≠ some ks2) → ws σ (l.take p ++ m ++ l.drop (p + en ar (l.drop p) 1)) W
  | [], W, p, h, ⟨c, ks, hc, _, _⟩ => by cases hc
  | x :: l, W, 0, h, ⟨c, ks, hc, hk, hn⟩ => by
    cases hc
    obtain ⟨b, W', ks2, rfl, hk2, h2⟩ := ws_cons.mp h
    have hbf : b = false := by
      cases b
      · rfl
      · exact absurd hk2 (hn ks2)
    subst hbf
    rw [List.take_zero, List.nil_append, Nat.zero_add, List.drop_zero]
    obtain ⟨g1, -⟩ := en_rest hA (k := 1) h (by rw [List.length_cons]; omega)
    exact ws_app hm g1
  | x :: l, W, p + 1, h, ⟨c, ks, hc, hk, hn⟩ => by
    obtain ⟨b, W', ks2, rfl, hk2, h2⟩ := ws_cons.mp h
    rw [List.getElem?_cons_succ] at hc
    have ih := ws_put hA hm (p := p) h2 ⟨c, ks, hc, hk, hn⟩
    rw [List.take_succ_cons, List.drop_succ_cons, show p + 1 + en ar (l.drop p) 1 = (p + en ar (l.drop p) 1) + 1 from by omega, List.drop_succ_cons]
    exact ws_c hk2 ih
theorem rw_r_ws {σ : mSig} (hσ : σ.1.1 ≤ 6 ∧ σ.1.2 ≤ 4) {B : Nat → Option (List Nat)} : ∀ {t : List Nat} {W : List Bool}, ws σ t W → (∀ x, x ∈ t → 40 ≤ x → ∃ U, B (x - 40) = some U ∧ ws σ U [false]) → ws σ (rw_r B t) W
  | [], W, h, _ => h
  | c :: t, W, h, hB => by
    obtain ⟨b, W', ks, rfl, hk, h2⟩ := ws_cons.mp h
    have ih := rw_r_ws hσ h2 (fun x hx => hB x (List.mem_cons_of_mem _ hx))
    by_cases h40 : 40 ≤ c
    · obtain ⟨U, hU, hw⟩ := hB c List.mem_cons_self h40
      rw [rw_r_v h40 hU]
      rcases kS_cases hk with z | z | z | z | z | z | z
      · omega
      · omega
      · omega
      · omega
      · omega
      · omega
      · obtain ⟨rfl, z1, z2, rfl⟩ := z
        exact ws_app hw ih
    · rw [rw_r_c h40]
      exact ws_c hk ih
theorem rw_m_ws {σ : mSig} {ar : Nat → Nat} (hA : ArW σ ar) (hσ : σ.1.1 ≤ 6 ∧ σ.1.2 ≤ 4) {l : List Nat} : ∀ {t : List Nat} {W W2 : List Bool} {p e : Nat} {B B' : Nat → Option (List Nat)}, ws σ t W → ws σ (l.drop p) (W ++ W2) → (∀ k U, B k = some U → ws σ U [false]) → rw_m ar l t p B = some (e, B') → ∀ k U, B' k = some U → ws σ U [false]
  | [], _, _, _, _, _, _, _, _, hB, hm => by
    cases hm
    exact hB
  | c :: t, W, W2, p, e, B, B', h, hl, hB, hm => by
    obtain ⟨b, W', ks, rfl, hk, h2⟩ := ws_cons.mp h
    by_cases h40 : 40 ≤ c
    · have hbk : b = false ∧ ks = [] := by
        rcases kS_cases hk with z | z | z | z | z | z | z
        · omega
        · omega
        · omega
        · omega
        · omega
        · omega
        · exact ⟨z.1, z.2.2.2⟩
      obtain ⟨rfl, rfl⟩ := hbk
      rw [List.nil_append] at h2
      obtain ⟨g1, g2⟩ := en_rest hA (k := 1) hl (by rw [List.length_append, List.length_cons]; omega)
      have g1 : ws σ ((l.drop p).drop (en ar (l.drop p) 1)) (W' ++ W2) := g1
      have g2 : ws σ ((l.drop p).take (en ar (l.drop p) 1)) [false] := g2
      rw [List.drop_drop] at g1
      cases hBk : B (c - 40) with
      | none =>
        rw [rw_m_n h40 hBk] at hm
        refine rw_m_ws hA hσ h2 g1 (fun k U hk2 => ?_) hm
        unfold rw_u at hk2
        split at hk2
        · cases hk2
          exact g2
        · exact hB k U hk2
      | some U =>
        rw [rw_m_s h40 hBk] at hm
        split at hm
        · exact rw_m_ws hA hσ h2 g1 hB hm
        · cases hm
    · rw [rw_m_c h40] at hm
      split at hm
      · next hc =>
        rw [drop_c hc] at hl
        obtain ⟨b2, W3, ks2, e2, hk2, hl2⟩ := ws_cons.mp hl
        have e2 : b :: (W' ++ W2) = b2 :: W3 := e2
        cases e2
        rw [hk] at hk2
        cases hk2
        rw [← List.append_assoc] at hl2
        exact rw_m_ws hA hσ h2 hl2 hB hm
      · cases hm
theorem sg_b {h : tx_H} (hw : WFt h) : (sg h.1).1.1 ≤ 6 ∧ (sg h.1).1.2 ≤ 4 := ⟨hw.1, hw.2.1⟩
/-- a step keeps a TERM a TERM -/
theorem rw_s_ws {h : tx_H} {l l' : List Nat} (hw : WFt h) (hl : ws (sg h.1) l [false]) (hs : rw_s h l l') : ws (sg h.1) l' [false] := by
  have hA := arh_k (g := h.1) hw.1 hw.2.1
  obtain ⟨p, k, hp, ⟨w, r, e, B, a1, a2, a3, rfl⟩, -, -⟩ := hs
  have hr := wf_ws (hw.2.2 k w r a1).1
  obtain ⟨p1, p2, p3, p4, ⟨c, t, eL, c20, c40, ks, hks⟩, p6⟩ := rl_parts hA hr a2
  have he := rw_m_en hA p3 (fun x _ hx => (arh_lo (g := h.1) (c := x)).2.2.2.2 hx) a3
  have he : e = p + en (arh h.1) (l.drop p) 1 := he
  have hc : l[p]? = some c := by
    rw [eL, rw_m_c (by omega)] at a3
    split at a3
    · assumption
    · cases a3
  obtain ⟨W1, hw1⟩ := ws_drop p hl
  rw [drop_c hc] at hw1
  obtain ⟨b1, W1', ks1, rfl, hk1, -⟩ := ws_cons.mp hw1
  have hn : ∀ ks2, kS (sg h.1) true c ≠ some ks2 := fun ks2 z => by
    have hb := sg_b hw
    rcases kS_cases z with z | z | z | z | z | z | z
    · omega
    · omega
    · omega
    · omega
    · omega
    · exact absurd z.1 (by decide)
    · exact absurd z.1 (by decide)
  have hb1 : b1 = false := by
    cases b1
    · rfl
    · exact absurd hk1 (hn ks1)
  subst hb1
  rw [← drop_c hc] at hw1
  have hU := rw_m_ws hA (sg_b hw) (W := [false]) (W2 := W1') p3 hw1 (fun k U z => by cases z) a3
  have hB := (rw_m_B a3).2
  have hm : ws (sg h.1) (rw_r B (r.drop (rl_r (arh h.1) r))) [false] := rw_r_ws (sg_b hw) p4 (fun x hx h40 => by
    obtain ⟨U, z⟩ := hB x (p6 x hx h40) h40
    exact ⟨U, z, hU _ _ z⟩)
  unfold rw_n
  rw [he]
  exact ws_put hA hm hl ⟨c, ks, hc, hks, hn⟩
/-- not too deep -/
def dp (ar : Nat → Nat) (l : List Nat) : Prop := ∀ (i : Nat) (d : Nat × Nat) (x : Nat), (ly ar [(0, 0)] l)[i]? = some d → l[i]? = some x → d.1 ≤ 12 ∧ d.2 + qb x ≤ 5
theorem fs_106 {n r : Nat} {ar : Nat → Nat} {l : List Nat} {s : ps_S} {R : Int32 → ps_S → Prop} (hr : ps_is r 6 = true) (hM : shM s r l (ly ar [(0, 0)] l)) (k1 : ¬ dp ar l → R 1 s) (k0 : dp ar l → R 0 s) : pl_Cl n 106 [.ref r] s (ps_rI R) := by
  cases n with
  | zero => exact pl_At_0
  | succ n =>
  show pl_At (n + 1) 106 0 [(0, .ref r)] [] s (ps_rI R)
  obtain ⟨m0, m1, m2, m3⟩ := hM
  have c12 : (12 : Int32).toInt = 12 := by decide
  have c5 : (5 : Int32).toInt = 5 := by decide
  refine pl_106_0 (pl_nk_i (fun _ => ⟨fun z => ?_, fun z => pl_nk_i (fun _ => ⟨fun z2 => ?_, fun z2 => ?_⟩)⟩))
  · have z := xlt z
    refine k1 (fun y => ?_)
    have q := (m2 12).mpr (fun d hd => ?_)
    · omega
    · obtain ⟨i, hi⟩ := List.mem_iff_getElem?.mp hd
      have hil := (List.getElem?_eq_some_iff.mp hi).1
      exact (y i d _ hi (List.getElem?_eq_getElem (by omega))).1
  · have z := xle z
    have z2 := xle z2
    have q1 := (m2 12).mp (by omega)
    have q2 := (m3 5).mp (by omega)
    exact k0 (fun i d x hd hx => ⟨q1 d (List.mem_of_getElem? hd), q2 i d x hd hx⟩)
  · have z2 := xlt z2
    refine k1 (fun y => ?_)
    have q := (m3 5).mpr (fun i d x hd hx => (y i d x hd hx).2)
    omega
def CMN (q : Nat) : Prop := 1022 ≤ q ∧ q < 1038
section R85
variable {th : Nat} {h : tx_H} {l0 : List Nat} {s0 : ps_S} {R : Int32 → ps_S → Prop}
theorem fs_85_87 {v : Int} {m : Nat} {a b : List Nat} (hm : m ≤ 60) (g : rw_go h m l0 a) (hs : rw_s h a b) (hb : ¬ rw_g h b ∨ m = 60) (k : ∀ (v : Int32) s' nl, rw_A h l0 v.toInt nl → cv_W s' 1022 nl → cfr CMN s0 s' → R v s') {n : Nat} {s : ps_S} (F : cfr CMN s0 s) : pl_At n 85 87 [(0, .ref 1021)] [] s (ps_rI R) := by
  cases n with
  | zero => exact pl_At_0
  | succ n =>
  refine pl_85_87 (fs_91 ?_)
  refine k _ _ [] (Or.inr ⟨by decide, rfl, m, a, b, hm, g, hs, hb⟩) CW_0 (cfr_i (cfr_i F (by unfold CMN; omega)) (by unfold CMN; omega))
theorem fs_85_19 (hth : th = 2 ∨ th = 26) (H0 : cv_H s0 th h) (hw : WFt h) (hb : ∀ (k : Nat) (w r : List Nat), h.2[k]? = some (w, r) → ∀ c, c ∈ r → 40 ≤ c → c < 45) (k : ∀ (v : Int32) s' nl, rw_A h l0 v.toInt nl → cv_W s' 1022 nl → cfr CMN s0 s' → R v s') : ∀ (n : Nat) {s : ps_S} {x2 : Int32} {m : Nat} {l : List Nat}, x2.toInt = m → m ≤ 61 → rw_go h m l0 l → ws (sg h.1) l [false] → cv_W s 1022 l → shE s 1026 (arh h.1) l 0 → RLc s (arh h.1) h.2 h.2.length → cfr CMN s0 s → pl_At n 85 19 [(0, .ref 1021), (1, .ref th), (2, .int x2)] [] s (ps_rI R)
  | 0, _, _, _, _, _, _, _, _, _, _, _, _ => pl_At_0
  | n + 1, s, x2, m, l, hx, hm, hg, hl, W, E, hR, F => by
    have c60 : (60 : Int32).toInt = 60 := by decide
    have H := cv_H_cfr H0 F (fun q a c => by have := H0.2.2.1; unfold CMN; omega)
    refine pl_85_19 ⟨fun z => ?_, fun z => ?_⟩
    · have z := xlt z
      have e : m = 60 + 0 + 1 := by omega
      subst e
      obtain ⟨a, x1, x2', x3⟩ := hg
      exact fs_85_87 (v := 0) (Nat.le_refl _) x1 x2' (Or.inr rfl) k F
    · have z := xle z
      refine fs_86 hth H hw hb hl W E hR (fun s1 l' hs C F1 => ⟨fun _ => ?_, fun y => absurd y (by decide)⟩) (fun s1 he F1 => ⟨fun y => absurd rfl y, fun _ => ?_⟩)
      · have F1' : cfr CMN s0 s1 := cfr_tr F (cfr_mono F1 (fun q z => by unfold CGO at z; unfold CMN; omega))
        have hl' := rw_s_ws hw hl hs
        have H1 := cv_H_cfr H0 F1' (fun q a c => by have := H0.2.2.1; unfold CMN; omega)
        have hR1 : RLc s1 (arh h.1) h.2 h.2.length := fun k w2 l2 a c => by
          rw [(F1 1036 (by unfold CGO; omega)).2.2.2.1, (F1 1037 (by unfold CGO; omega)).2.2.2.1]
          exact hR k w2 l2 a c
        rcases Nat.lt_or_ge 40 l'.length with y | y
        · have ho := C.2.2 y
          refine fv_95 rfl (fun s2 F2 => ?_)
          refine fv_103 rfl (fun s3 F3 => ⟨fun _ => ?_, fun u => ?_⟩)
          · exact fs_85_87 (v := 0) (by omega) hg hs (Or.inl (fun u => by have := u.1; omega)) k (cfr_tr F1' (cfr_tr (cfr_mono F2 (fun q z => by unfold C2 at z; unfold CMN; omega)) (cfr_mono F3 (fun q z => by unfold CSh at z; unfold CMN; omega))))
          · have e3 := (F3 1024 (by unfold CSh; omega)).1 2
            have e2 := (F2 1024 (by unfold C2; omega)).1 2
            rw [e3, e2] at u
            exact absurd u ho
        · have W1 := C.2.1 y
          refine fs_95 (l := l') rfl rfl (by decide) W1 (fun s2 W2 F2 => ?_)
          have F2' : cfr CMN s0 s2 := cfr_tr F1' (cfr_mono F2 (fun q z => by unfold C2 at z; unfold CMN; omega))
          have H2 := cv_H_cfr H0 F2' (fun q a c => by have := H0.2.2.1; unfold CMN; omega)
          refine fs_103 (r := 1026) (r1 := 1022) (l := l') rfl rfl hth (by omega) hl' (Or.inl rfl) W2 H2.1 (fun s3 Z F3 => ?_)
          have F3' : cfr CMN s0 s3 := cfr_tr F2' (cfr_mono F3 (fun q z => by unfold CSh at z; unfold CMN; omega))
          have e3 := (F3 1024 (by unfold CSh; omega)).1 2
          have e2 := (F2 1024 (by unfold C2; omega)).1 2
          refine ⟨fun u => absurd (e3.trans (e2.trans W1.2.1)) u, fun _ => ?_⟩
          refine fs_106 rfl Z.2 (fun u => ⟨fun v => absurd v (by decide), fun _ => ?_⟩) (fun u => ⟨fun _ => ?_, fun v => absurd rfl v⟩)
          · exact fs_85_87 (v := 0) (by omega) hg hs (Or.inl (fun v => u v.2)) k F3'
          · exact fs_85_19 hth H0 hw hb k n (xj1 hx (by omega)) (by omega) ⟨l, hg, hs, y, u⟩ hl' (cv_W_cfr W2 F3 (by unfold CSh; omega) (by unfold CSh; omega)) Z.1 (fun k w2 l2 a c => by
              rw [(F3 1036 (by unfold CSh; omega)).2.2.2.1, (F3 1037 (by unfold CSh; omega)).2.2.2.1, (F2 1036 (by unfold C2; omega)).2.2.2.1, (F2 1037 (by unfold C2; omega)).2.2.2.1]
              exact hR1 k w2 l2 a c) F3'
      · exact k _ s1 l (Or.inl ⟨m, by omega, hg, he, hx⟩) (cv_W_cfr W F1 (by unfold CGO; omega) (by unfold CGO; omega)) (cfr_tr F (cfr_mono F1 (fun q z => by unfold CGO at z; unfold CMN; omega)))
theorem fs_85 {n : Nat} (hth : th = 2 ∨ th = 26) (H0 : cv_H s0 th h) (hw : WFt h) (hb : ∀ (k : Nat) (w r : List Nat), h.2[k]? = some (w, r) → ∀ c, c ∈ r → 40 ≤ c → c < 45) (hl : ws (sg h.1) l0 [false]) (W : cv_W s0 1022 l0) (k : ∀ (v : Int32) s' nl, rw_A h l0 v.toInt nl → cv_W s' 1022 nl → cfr CMN s0 s' → R v s') : pl_Cl n 85 [.ref 1021, .ref th] s0 (ps_rI R) := by
  cases n with
  | zero => exact pl_At_0
  | succ n =>
  show pl_At (n + 1) 85 0 [(0, .ref 1021), (1, .ref th)] [] s0 (ps_rI R)
  refine pl_85_0 ?_
  refine fs_83 hth H0 hw (fun s1 hR F1 => ?_)
  have F1' : cfr CMN s0 s1 := cfr_mono F1 (fun q z => by unfold RLq at z; unfold CMN; omega)
  have H1 := cv_H_cfr H0 F1' (fun q a c => by have := H0.2.2.1; unfold CMN; omega)
  have W1 := cv_W_cfr W F1 (by unfold RLq; omega) (by unfold RLq; omega)
  refine fs_103 (r := 1026) (r1 := 1022) (l := l0) rfl rfl hth (by omega) hl (Or.inl rfl) W1 H1.1 (fun s3 Z F3 => ?_)
  exact fs_85_19 hth H0 hw hb k n (m := 0) rfl (Nat.zero_le _) rfl hl (cv_W_cfr W1 F3 (by unfold CSh; omega) (by unfold CSh; omega)) Z.1 (fun k w2 l2 a c => by
    rw [(F3 1036 (by unfold CSh; omega)).2.2.2.1, (F3 1037 (by unfold CSh; omega)).2.2.2.1]
    exact hR k w2 l2 a c) (cfr_tr F1' (cfr_mono F3 (fun q z => by unfold CSh at z; unfold CMN; omega)))
end R85
/-- rewrite()'s answer and the row behind it -/
def RWA (h : tx_H) (T : Nat → Nat) (N : Nat) (v : Int32) (nl : List Nat) : Prop := (∃ l, rd_ok T N (h.1, false) 0 l ∧ rw_A h l v.toInt nl) ∨ ((∃ k pl, rd_bad T N (h.1, false) 0 k pl) ∧ v.toInt = -1 ∧ nl = [])
theorem RWA_eq {h : tx_H} {T : Nat → Nat} {N : Nat} {v v' : Int32} {nl nl' : List Nat} (a : RWA h T N v nl) (b : RWA h T N v' nl') : v = v' ∧ nl = nl' := by
  rcases a with ⟨l, a1, a2⟩ | ⟨⟨k, pl, a1⟩, a2, a3⟩ <;> rcases b with ⟨l', b1, b2⟩ | ⟨⟨k', pl', b1⟩, b2, b3⟩
  · have e := rd_oo a1 b1
    subst e
    obtain ⟨e1, e2⟩ := rw_A_det a2 b2
    exact ⟨Int32.toInt_inj.mp e1, e2⟩
  · exact (rd_ob a1 b1).elim
  · exact (rd_ob b1 a1).elim
  · exact ⟨Int32.toInt_inj.mp (a2.trans b2.symm), a3.trans b3.symm⟩
theorem fs_169 {n : Nat} {s : ps_S} {T : Nat → Nat} {N : Nat} {h : tx_H} {l0 : List Nat} {R : Int32 → ps_S → Prop} (c : TRc s h l0) (hw : WFt h) (hb : ∀ (k : Nat) (w r : List Nat), h.2[k]? = some (w, r) → ∀ c, c ∈ r → 40 ≤ c → c < 45) (hx : (ps_i s 0 1).toInt = N) (hN : N ≤ 1600) (hT : ∀ k, k < N → (ps_a s 1 k &&& 255).toInt = T k) (hkw : ∀ (k : Nat) (w : List Nat), tx_keys[k]? = some w → ps_b s 904 k = tx_x w) (k : ∀ (v : Int32) s' nl, RWA h T N v nl → cv_W s' 1022 nl → cfr (fun q => q = 0 ∨ cWr 1022 q ∨ CMN q) s s' → R v s') : pl_Cl n 169 [.ref 0] s (ps_rI R) := by
  cases n with
  | zero => exact pl_At_0
  | succ n =>
  show pl_At (n + 1) 169 0 [(0, .ref 0)] [] s (ps_rI R)
  have hth : ps_r s 0 2 = 2 ∨ ps_r s 0 2 = 26 := by have := c.2.1; omega
  refine pl_169_0 ?_
  refine fs_60u (th := ps_r s 0 2) (r := 1022) (ph := 0) (gg := h.1) (T := T) (N := N) (Or.inr ⟨by decide, rfl⟩) hth rfl c.1.1 hx hN hT hkw (fun s1 q => ⟨fun _ => ?_, fun z => absurd z (by decide)⟩) (fun s1 q => ⟨fun z => absurd rfl z, fun _ => ?_⟩)
  · obtain ⟨l, q1, q2, -, F⟩ := q
    have F' : cfr (fun q => q = 0 ∨ cWr 1022 q) s (ps_ui s1 0 1 0) := cfr_i (cfr_mono F (fun q z => Or.inr z)) (Or.inl rfl)
    have hr : ps_r (ps_ui s1 0 1 0) 0 2 = ps_r s 0 2 := (F 0 (by unfold cWr; omega)).2.2.1 2
    rw [hr]
    have hl : ws (sg h.1) l [false] := by
      obtain ⟨p, fr, g, -⟩ := q1
      exact (tx_WQ_end hw.2.1 (Or.inl rfl) (Nat.zero_le _) g).1
    refine fs_85 hth (cv_H_cfr c.1 F' (fun q a b => by have := c.1.2.2.1; unfold cWr; omega)) hw hb hl (cv_W_cfr (cv_W_cfr q2 (cfr_i cfr_refl rfl : cfr (fun q => q = 0) s1 (ps_ui s1 0 1 0)) (by decide) (by decide)) cfr_refl (C := fun _ => False) (fun z => z) (fun z => z)) (fun v s' nl hA W F2 => ?_)
    exact k v s' nl (Or.inl ⟨l, q1, hA⟩) W (cfr_tr (cfr_mono F' (fun q z => z.elim Or.inl (fun y => Or.inr (Or.inl y)))) (cfr_mono F2 (fun q z => Or.inr (Or.inr z))))
  · obtain ⟨kk, pl, q1, -, -, F⟩ := q
    cases n with
    | zero => exact pl_At_0
    | succ n =>
    show pl_At (n + 1) 81 0 [(0, .ref 1021)] [] _ _
    refine pl_81_0 (fs_91 ?_)
    refine k _ _ [] (Or.inr ⟨⟨kk, pl, q1⟩, by decide, rfl⟩) CW_0 (cfr_i (cfr_i (cfr_i (cfr_mono F (fun q z => Or.inr (Or.inl z))) (Or.inl rfl)) (Or.inr (Or.inr (by unfold CMN; omega)))) (Or.inr (Or.inr (by unfold CMN; omega))))
theorem fs_170 {n : Nat} {x1 : Int32} {s : ps_S} {l : List Nat} {R : Int32 → ps_S → Prop} (hW : cv_W s 1022 l) (k : ∀ v : Int32, pc_is l x1 v → R v s) : pl_Cl n 170 [.ref 0, .int x1] s (ps_rI R) := by
  cases n with
  | zero => exact pl_At_0
  | succ n =>
  show pl_At (n + 1) 170 0 [(0, .ref 0), (1, .int x1)] [] s (ps_rI R)
  refine pl_170_0 ?_
  refine fs_92 rfl rfl rfl hW (fun v z => ?_)
  refine k v ⟨fun c h0 hc => ?_, fun h => z.2 (by omega)⟩
  have hl := (List.getElem?_eq_some_iff.mp hc).1
  exact z.1 ⟨h0, by omega⟩ c hc
end
section
set_option maxRecDepth 100000
/-! the reference: a row that is made, whether it is one, kept; a term rewritten, again and again -/
-- ProofBenchModel.make(I)V
theorem pl_225_0 {n : Nat} {x1 : Int32} {s : ps_S} {Q : Option Value → ps_S → Prop} (h :
  (260 ≤ (ps_i s 1131 34) →
    Q none (ps_ui s 1131 34 ((ps_i s 1131 34) + 1))) ∧
  ((ps_i s 1131 34) < 260 →
    (pm_in (ps_i s 1131 34) 260 = true →
      Q none (ps_ui (ps_ua s 1149 (Int32.toNatClampNeg (ps_i s 1131 34)) x1) 1131 34 ((ps_i (ps_ua s 1149 (Int32.toNatClampNeg (ps_i s 1131 34)) x1) 1131 34) + 1))))) : pl_At (n + 1) 225 0 [(0, .ref 1131), (1, .int x1)] [] s Q :=
  pl_wp_at (stops := []) (f := 26) h rfl

-- ProofBenchModel.makeFrom(III)V
theorem pl_226_0 {n : Nat} {x1 : Int32} {x2 : Int32} {x3 : Int32} {s : ps_S} {Q : Option Value → ps_S → Prop} (h :
  pl_At n 226 3 [(0, .ref 1131), (1, .int x1), (3, .int x3), (4, .int x2)] [] s Q) : pl_At (n + 1) 226 0 [(0, .ref 1131), (1, .int x1), (2, .int x2), (3, .int x3)] [] s Q :=
  pl_wp_at (stops := [(3, [0, 1, 3, 4])]) (f := 4) h rfl

theorem pl_226_3 {n : Nat} {x1 : Int32} {x3 : Int32} {x4 : Int32} {s : ps_S} {Q : Option Value → ps_S → Prop} (h :
  (x3 ≤ x4 →
    Q none s) ∧
  (x4 < x3 →
    pl_Cl n 220 [.ref 1131, .int x1, .int x4] s (ps_rI (fun v1 s1 =>
      pl_Cl n 225 [.ref 1131, .int v1] s1 (ps_rV (fun s2 =>
        pl_At n 226 3 [(0, .ref 1131), (1, .int x1), (3, .int x3), (4, .int (x4 + 1))] [] s2 Q)))))) : pl_At (n + 1) 226 3 [(0, .ref 1131), (1, .int x1), (3, .int x3), (4, .int x4)] [] s Q :=
  pl_wp_at (stops := [(3, [0, 1, 3, 4])]) (f := 14) h rfl

-- ProofBenchModel.keepMade(I)V
theorem pl_229_0 {n : Nat} {x1 : Int32} {s : ps_S} {Q : Option Value → ps_S → Prop} (h :
  (pm_in x1 27400 = true →
    pl_At n 229 12 [(0, .ref 1131), (1, .int x1), (2, .int 0)] [] (ps_ua s 1134 (Int32.toNatClampNeg x1) (ps_i s 1131 34)) Q)) : pl_At (n + 1) 229 0 [(0, .ref 1131), (1, .int x1)] [] s Q :=
  pl_wp_at (stops := [(12, [0, 1, 2])]) (f := 10) h rfl

theorem pl_229_12 {n : Nat} {x1 : Int32} {x2 : Int32} {s : ps_S} {Q : Option Value → ps_S → Prop} (h :
  ((ps_i s 1131 34) ≤ x2 →
    Q none s) ∧
  (x2 < (ps_i s 1131 34) →
    (pm_in x2 260 = true →
      (pm_in ((x1 + 1) + x2) 27400 = true →
        pl_At n 229 12 [(0, .ref 1131), (1, .int x1), (2, .int (x2 + 1))] [] (ps_ua s 1134 (Int32.toNatClampNeg ((x1 + 1) + x2)) (ps_a s 1149 (Int32.toNatClampNeg x2))) Q)))) : pl_At (n + 1) 229 12 [(0, .ref 1131), (1, .int x1), (2, .int x2)] [] s Q :=
  pl_wp_at (stops := [(12, [0, 1, 2])]) (f := 21) h rfl

-- ProofBenchModel.isRow()Z
theorem pl_228_0 {n : Nat} {s : ps_S} {Q : Option Value → ps_S → Prop} (h :
  ((ps_i s 1131 34) ≤ 40 →
    pl_At n 228 17 [(0, .ref 1131), (1, .int 0), (2, .int 0), (3, .int 0)] [] s Q) ∧
  (40 < (ps_i s 1131 34) →
    Q (some (.int 0)) s)) : pl_At (n + 1) 228 0 [(0, .ref 1131)] [] s Q :=
  pl_wp_at (stops := [(17, [0, 1, 2, 3]), (45, [0, 1, 2, 3]), (70, [0, 1, 2, 3, 4]), (110, [0, 1, 2, 3]), (128, [0, 1, 2, 3]), (148, [0, 1, 2, 3])]) (f := 14) h rfl

theorem pl_228_17 {n : Nat} {x1 : Int32} {x2 : Int32} {x3 : Int32} {s : ps_S} {Q : Option Value → ps_S → Prop} (h :
  ((ps_i s 1131 34) ≤ x3 →
    Q (some (.int 1)) s) ∧
  (x3 < (ps_i s 1131 34) →
    (pm_in x3 260 = true →
      ((ps_a s 1149 (Int32.toNatClampNeg x3)) = 4 →
        pl_At n 228 45 [(0, .ref 1131), (1, .int x1), (2, .int x2), (3, .int x3)] [] s Q) ∧
      ((ps_a s 1149 (Int32.toNatClampNeg x3)) ≠ 4 →
        (pm_in x3 260 = true →
          ((ps_a s 1149 (Int32.toNatClampNeg x3)) ≠ 5 →
            (12 < x1 →
              Q (some (.int 0)) s) ∧
            (x1 ≤ 12 →
              ((0 : Int32) = 0 →
                pl_At n 228 70 [(0, .ref 1131), (1, .int x1), (2, .int x2), (3, .int x3), (4, .int 0)] [] s Q) ∧
              ((0 : Int32) ≠ 0 →
                (x2 ≤ 4 →
                  pl_At n 228 70 [(0, .ref 1131), (1, .int x1), (2, .int x2), (3, .int x3), (4, .int 0)] [] s Q) ∧
                (4 < x2 →
                  Q (some (.int 0)) s)))) ∧
          ((ps_a s 1149 (Int32.toNatClampNeg x3)) = 5 →
            pl_At n 228 45 [(0, .ref 1131), (1, .int x1), (2, .int x2), (3, .int x3)] [] s Q)))))) : pl_At (n + 1) 228 17 [(0, .ref 1131), (1, .int x1), (2, .int x2), (3, .int x3)] [] s Q :=
  pl_wp_at (stops := [(17, [0, 1, 2, 3]), (45, [0, 1, 2, 3]), (70, [0, 1, 2, 3, 4]), (110, [0, 1, 2, 3]), (128, [0, 1, 2, 3]), (148, [0, 1, 2, 3])]) (f := 34) h rfl

theorem pl_228_45 {n : Nat} {x1 : Int32} {x2 : Int32} {x3 : Int32} {s : ps_S} {Q : Option Value → ps_S → Prop} (h :
  (12 < x1 →
    Q (some (.int 0)) s) ∧
  (x1 ≤ 12 →
    ((1 : Int32) = 0 →
      pl_At n 228 70 [(0, .ref 1131), (1, .int x1), (2, .int x2), (3, .int x3), (4, .int 1)] [] s Q) ∧
    ((1 : Int32) ≠ 0 →
      (x2 ≤ 4 →
        pl_At n 228 70 [(0, .ref 1131), (1, .int x1), (2, .int x2), (3, .int x3), (4, .int 1)] [] s Q) ∧
      (4 < x2 →
        Q (some (.int 0)) s)))) : pl_At (n + 1) 228 45 [(0, .ref 1131), (1, .int x1), (2, .int x2), (3, .int x3)] [] s Q :=
  pl_wp_at (stops := [(17, [0, 1, 2, 3]), (45, [0, 1, 2, 3]), (70, [0, 1, 2, 3, 4]), (110, [0, 1, 2, 3]), (128, [0, 1, 2, 3]), (148, [0, 1, 2, 3])]) (f := 17) h rfl

theorem pl_228_70 {n : Nat} {x1 : Int32} {x2 : Int32} {x3 : Int32} {x4 : Int32} {s : ps_S} {Q : Option Value → ps_S → Prop} (h :
  (pm_in x3 260 = true →
    pl_Cl n 218 [.ref 1131, .int (ps_a s 1149 (Int32.toNatClampNeg x3))] s (ps_rI (fun v1 s1 =>
      (pm_in x1 260 = true →
        (pm_in x1 260 = true →
          (x4 = 0 →
            pl_At n 228 110 [(0, .ref 1131), (1, .int (x1 + 1)), (2, .int (x2 + 0)), (3, .int x3)] [] (ps_ua (ps_ua s1 1150 (Int32.toNatClampNeg x1) v1) 1151 (Int32.toNatClampNeg x1) (x4 &&& 1)) Q) ∧
          (x4 ≠ 0 →
            pl_At n 228 110 [(0, .ref 1131), (1, .int (x1 + 1)), (2, .int (x2 + 1)), (3, .int x3)] [] (ps_ua (ps_ua s1 1150 (Int32.toNatClampNeg x1) v1) 1151 (Int32.toNatClampNeg x1) (x4 &&& 1)) Q))))))) : pl_At (n + 1) 228 70 [(0, .ref 1131), (1, .int x1), (2, .int x2), (3, .int x3), (4, .int x4)] [] s Q :=
  pl_wp_at (stops := [(17, [0, 1, 2, 3]), (45, [0, 1, 2, 3]), (70, [0, 1, 2, 3, 4]), (110, [0, 1, 2, 3]), (128, [0, 1, 2, 3]), (148, [0, 1, 2, 3])]) (f := 29) h rfl

theorem pl_228_110 {n : Nat} {x1 : Int32} {x2 : Int32} {x3 : Int32} {s : ps_S} {Q : Option Value → ps_S → Prop} (h :
  (x1 ≤ 0 →
    pl_At n 228 148 [(0, .ref 1131), (1, .int x1), (2, .int x2), (3, .int x3)] [] s Q) ∧
  (0 < x1 →
    (pm_in (x1 - 1) 260 = true →
      ((ps_a s 1150 (Int32.toNatClampNeg (x1 - 1))) ≠ 0 →
        pl_At n 228 148 [(0, .ref 1131), (1, .int x1), (2, .int x2), (3, .int x3)] [] s Q) ∧
      ((ps_a s 1150 (Int32.toNatClampNeg (x1 - 1))) = 0 →
        pl_At n 228 128 [(0, .ref 1131), (1, .int (x1 + (Int32.ofInt (-1)))), (2, .int x2), (3, .int x3)] [] s Q)))) : pl_At (n + 1) 228 110 [(0, .ref 1131), (1, .int x1), (2, .int x2), (3, .int x3)] [] s Q :=
  pl_wp_at (stops := [(17, [0, 1, 2, 3]), (45, [0, 1, 2, 3]), (70, [0, 1, 2, 3, 4]), (110, [0, 1, 2, 3]), (128, [0, 1, 2, 3]), (148, [0, 1, 2, 3])]) (f := 12) h rfl

theorem pl_228_128 {n : Nat} {x1 : Int32} {x2 : Int32} {x3 : Int32} {s : ps_S} {Q : Option Value → ps_S → Prop} (h :
  (pm_in x1 260 = true →
    ((ps_a s 1151 (Int32.toNatClampNeg x1)) = 0 →
      pl_At n 228 110 [(0, .ref 1131), (1, .int x1), (2, .int (x2 - 0)), (3, .int x3)] [] s Q) ∧
    ((ps_a s 1151 (Int32.toNatClampNeg x1)) ≠ 0 →
      pl_At n 228 110 [(0, .ref 1131), (1, .int x1), (2, .int (x2 - 1)), (3, .int x3)] [] s Q))) : pl_At (n + 1) 228 128 [(0, .ref 1131), (1, .int x1), (2, .int x2), (3, .int x3)] [] s Q :=
  pl_wp_at (stops := [(17, [0, 1, 2, 3]), (45, [0, 1, 2, 3]), (70, [0, 1, 2, 3, 4]), (110, [0, 1, 2, 3]), (128, [0, 1, 2, 3]), (148, [0, 1, 2, 3])]) (f := 17) h rfl

theorem pl_228_148 {n : Nat} {x1 : Int32} {x2 : Int32} {x3 : Int32} {s : ps_S} {Q : Option Value → ps_S → Prop} (h :
  (x1 ≤ 0 →
    pl_At n 228 17 [(0, .ref 1131), (1, .int x1), (2, .int x2), (3, .int (x3 + 1))] [] s Q) ∧
  (0 < x1 →
    (pm_in (x1 - 1) 260 = true →
      (pm_in (x1 - 1) 260 = true →
        pl_At n 228 17 [(0, .ref 1131), (1, .int x1), (2, .int x2), (3, .int (x3 + 1))] [] (ps_ua s 1150 (Int32.toNatClampNeg (x1 - 1)) ((ps_a s 1150 (Int32.toNatClampNeg (x1 - 1))) - 1)) Q)))) : pl_At (n + 1) 228 148 [(0, .ref 1131), (1, .int x1), (2, .int x2), (3, .int x3)] [] s Q :=
  pl_wp_at (stops := [(17, [0, 1, 2, 3]), (45, [0, 1, 2, 3]), (70, [0, 1, 2, 3, 4]), (110, [0, 1, 2, 3]), (128, [0, 1, 2, 3]), (148, [0, 1, 2, 3])]) (f := 18) h rfl

-- ProofBenchModel.standsAt(II)Z
theorem pl_286_0 {n : Nat} {x1 : Int32} {x2 : Int32} {s : ps_S} {Q : Option Value → ps_S → Prop} (h :
  pl_Cl n 283 [.int (ps_i s 1131 21), .int x1] s (ps_rI (fun v1 s1 =>
    pl_At n 286 12 [(0, .ref 1131), (2, .int x2), (3, .int v1), (4, .int 0)] [] s1 Q))) : pl_At (n + 1) 286 0 [(0, .ref 1131), (1, .int x1), (2, .int x2)] [] s Q :=
  pl_wp_at (stops := [(12, [0, 2, 3, 4]), (42, [0, 3, 4, 5])]) (f := 9) h rfl

theorem pl_286_12 {n : Nat} {x2 : Int32} {x3 : Int32} {x4 : Int32} {s : ps_S} {Q : Option Value → ps_S → Prop} (h :
  (20 ≤ x4 →
    pl_At n 286 42 [(0, .ref 1131), (3, .int x3), (4, .int x2), (5, .int (ps_i s 1131 63))] [] s Q) ∧
  (x4 < 20 →
    (pm_in x4 20 = true →
      pl_At n 286 12 [(0, .ref 1131), (2, .int x2), (3, .int x3), (4, .int (x4 + 1))] [] (ps_ua s 1167 (Int32.toNatClampNeg x4) (-1)) Q))) : pl_At (n + 1) 286 12 [(0, .ref 1131), (2, .int x2), (3, .int x3), (4, .int x4)] [] s Q :=
  pl_wp_at (stops := [(12, [0, 2, 3, 4]), (42, [0, 3, 4, 5])]) (f := 17) h rfl

theorem pl_286_42 {n : Nat} {x3 : Int32} {x4 : Int32} {x5 : Int32} {s : ps_S} {Q : Option Value → ps_S → Prop} (h :
  ((ps_i s 1131 64) ≤ x5 →
    Q (some (.int 1)) (ps_ui s 1131 65 x4)) ∧
  (x5 < (ps_i s 1131 64) →
    pl_Cl n 220 [.ref 1131, .int x3, .int x5] s (ps_rI (fun v1 s1 =>
      (40 ≤ v1 →
        pl_Cl n 221 [.ref 1131, .int 25789, .int x4] s1 (ps_rI (fun v2 s2 =>
          (pm_in (v1 - 40) 20 = true →
            ((ps_a s2 1167 (Int32.toNatClampNeg (v1 - 40))) < 0 →
              (pm_in (v1 - 40) 20 = true →
                (pm_in (v1 - 40) 20 = true →
                  pl_At n 286 42 [(0, .ref 1131), (3, .int x3), (4, .int v2), (5, .int (x5 + 1))] [] (ps_ua (ps_ua s2 1167 (Int32.toNatClampNeg (v1 - 40)) x4) 1168 (Int32.toNatClampNeg (v1 - 40)) v2) Q))) ∧
            (0 ≤ (ps_a s2 1167 (Int32.toNatClampNeg (v1 - 40))) →
              (pm_in (v1 - 40) 20 = true →
                (pm_in (v1 - 40) 20 = true →
                  (((ps_a s2 1168 (Int32.toNatClampNeg (v1 - 40))) - (ps_a s2 1167 (Int32.toNatClampNeg (v1 - 40)))) ≠ (v2 - x4) →
                    Q (some (.int 0)) s2) ∧
                  (((ps_a s2 1168 (Int32.toNatClampNeg (v1 - 40))) - (ps_a s2 1167 (Int32.toNatClampNeg (v1 - 40)))) = (v2 - x4) →
                    (pm_in (v1 - 40) 20 = true →
                      pl_Cl n 259 [.ref 1131, .int 25789, .int x4, .int (v2 - x4), .int 25789, .int (ps_a s2 1167 (Int32.toNatClampNeg (v1 - 40)))] s2 (ps_rI (fun v3 s3 =>
                        (v3 ≠ 0 →
                          (pm_in (v1 - 40) 20 = true →
                            (pm_in (v1 - 40) 20 = true →
                              pl_At n 286 42 [(0, .ref 1131), (3, .int x3), (4, .int v2), (5, .int (x5 + 1))] [] (ps_ua (ps_ua s3 1167 (Int32.toNatClampNeg (v1 - 40)) x4) 1168 (Int32.toNatClampNeg (v1 - 40)) v2) Q))) ∧
                        (v3 = 0 →
                          Q (some (.int 0)) s3)))))))))))) ∧
      (v1 < 40 →
        pl_Cl n 220 [.ref 1131, .int 25789, .int x4] s1 (ps_rI (fun v4 s4 =>
          (v4 = v1 →
            pl_At n 286 42 [(0, .ref 1131), (3, .int x3), (4, .int (x4 + 1)), (5, .int (x5 + 1))] [] s4 Q) ∧
          (v4 ≠ v1 →
            Q (some (.int 0)) s4)))))))) : pl_At (n + 1) 286 42 [(0, .ref 1131), (3, .int x3), (4, .int x4), (5, .int x5)] [] s Q :=
  pl_wp_at (stops := [(12, [0, 2, 3, 4]), (42, [0, 3, 4, 5])]) (f := 103) h rfl

-- ProofBenchModel.rewrites()Z
theorem pl_287_0 {n : Nat} {s : ps_S} {Q : Option Value → ps_S → Prop} (h :
  pl_At n 287 2 [(0, .ref 1131), (1, .int 0)] [] s Q) : pl_At (n + 1) 287 0 [(0, .ref 1131)] [] s Q :=
  pl_wp_at (stops := [(2, [0, 1]), (15, [0, 1, 2]), (77, [0, 3, 4])]) (f := 4) h rfl

theorem pl_287_2 {n : Nat} {x1 : Int32} {s : ps_S} {Q : Option Value → ps_S → Prop} (h :
  pl_Cl n 219 [.ref 1131, .int 25789] s (ps_rI (fun v1 s1 =>
    (v1 ≤ x1 →
      Q (some (.int 0)) s1) ∧
    (x1 < v1 →
      pl_At n 287 15 [(0, .ref 1131), (1, .int x1), (2, .int 0)] [] s1 Q)))) : pl_At (n + 1) 287 2 [(0, .ref 1131), (1, .int x1)] [] s Q :=
  pl_wp_at (stops := [(2, [0, 1]), (15, [0, 1, 2]), (77, [0, 3, 4])]) (f := 11) h rfl

theorem pl_287_15 {n : Nat} {x1 : Int32} {x2 : Int32} {s : ps_S} {Q : Option Value → ps_S → Prop} (h :
  (pm_in (ps_i s 1131 21) 2 = true →
    ((ps_a s 1137 (Int32.toNatClampNeg (ps_i s 1131 21))) ≤ x2 →
      pl_At n 287 2 [(0, .ref 1131), (1, .int (x1 + 1))] [] s Q) ∧
    (x2 < (ps_a s 1137 (Int32.toNatClampNeg (ps_i s 1131 21))) →
      pl_Cl n 284 [.ref 1131, .int x2] s (ps_rI (fun v1 s1 =>
        (v1 = 0 →
          pl_At n 287 15 [(0, .ref 1131), (1, .int x1), (2, .int (x2 + 1))] [] s1 Q) ∧
        (v1 ≠ 0 →
          pl_Cl n 286 [.ref 1131, .int x2, .int x1] s1 (ps_rI (fun v2 s2 =>
            (v2 ≠ 0 →
              pl_Cl n 283 [.int (ps_i s2 1131 21), .int x2] s2 (ps_rI (fun v3 s3 =>
                pl_Cl n 226 [.ref 1131, .int 25789, .int 0, .int x1] (ps_ui s3 1131 34 0) (ps_rV (fun s4 =>
                  pl_At n 287 77 [(0, .ref 1131), (3, .int v3), (4, .int (ps_i s4 1131 64))] [] s4 Q))))) ∧
            (v2 = 0 →
              pl_At n 287 15 [(0, .ref 1131), (1, .int x1), (2, .int (x2 + 1))] [] s2 Q))))))))) : pl_At (n + 1) 287 15 [(0, .ref 1131), (1, .int x1), (2, .int x2)] [] s Q :=
  pl_wp_at (stops := [(2, [0, 1]), (15, [0, 1, 2]), (77, [0, 3, 4])]) (f := 41) h rfl

theorem pl_287_77 {n : Nat} {x3 : Int32} {x4 : Int32} {s : ps_S} {Q : Option Value → ps_S → Prop} (h :
  pl_Cl n 219 [.ref 1131, .int x3] s (ps_rI (fun v1 s1 =>
    (v1 ≤ x4 →
      pl_Cl n 219 [.ref 1131, .int 25789] s1 (ps_rI (fun v2 s2 =>
        pl_Cl n 226 [.ref 1131, .int 25789, .int (ps_i s1 1131 65), .int v2] s2 (ps_rV (fun s3 =>
          Q (some (.int 1)) s3))))) ∧
    (x4 < v1 →
      pl_Cl n 220 [.ref 1131, .int x3, .int x4] s1 (ps_rI (fun v4 s4 =>
        (40 ≤ v4 →
          (pm_in (v4 - 40) 20 = true →
            (pm_in (v4 - 40) 20 = true →
              pl_Cl n 226 [.ref 1131, .int 25789, .int (ps_a s4 1167 (Int32.toNatClampNeg (v4 - 40))), .int (ps_a s4 1168 (Int32.toNatClampNeg (v4 - 40)))] s4 (ps_rV (fun s5 =>
                pl_At n 287 77 [(0, .ref 1131), (3, .int x3), (4, .int (x4 + 1))] [] s5 Q))))) ∧
        (v4 < 40 →
          pl_Cl n 225 [.ref 1131, .int v4] s4 (ps_rV (fun s6 =>
            pl_At n 287 77 [(0, .ref 1131), (3, .int x3), (4, .int (x4 + 1))] [] s6 Q))))))))) : pl_At (n + 1) 287 77 [(0, .ref 1131), (3, .int x3), (4, .int x4)] [] s Q :=
  pl_wp_at (stops := [(2, [0, 1]), (15, [0, 1, 2]), (77, [0, 3, 4])]) (f := 48) h rfl

-- ProofBenchModel.rewrite()I
theorem pl_288_0 {n : Nat} {s : ps_S} {Q : Option Value → ps_S → Prop} (h :
  pl_Cl n 198 [.ref 1131] s (ps_rV (fun s1 =>
    pl_Cl n 209 [.ref 1131, .int 25789, .int 0, .int 0] s1 (ps_rV (fun s2 =>
      pl_Cl n 192 [.ref 1131] s2 (ps_rI (fun v3 s3 =>
        (v3 = 0 →
          pl_At n 288 31 [(0, .ref 1131)] [] s3 Q) ∧
        (v3 ≠ 0 →
          ((ps_i s3 1131 9) = 0 →
            pl_At n 288 31 [(0, .ref 1131)] [] s3 Q) ∧
          ((ps_i s3 1131 9) ≠ 0 →
            pl_Cl n 196 [.ref 1131] s3 (ps_rV (fun s4 =>
              pl_At n 288 31 [(0, .ref 1131)] [] s4 Q))))))))))) : pl_At (n + 1) 288 0 [(0, .ref 1131)] [] s Q :=
  pl_wp_at (stops := [(31, [0]), (51, [0, 1])]) (f := 17) h rfl

theorem pl_288_31 {n : Nat} {s : ps_S} {Q : Option Value → ps_S → Prop} (h :
  pl_Cl n 192 [.ref 1131] s (ps_rI (fun v1 s1 =>
    (v1 ≠ 0 →
      pl_At n 288 51 [(0, .ref 1131), (1, .int 0)] [] s1 Q) ∧
    (v1 = 0 →
      (pm_in (25789 : Int32) 27400 = true →
        Q (some (.int (-1))) (ps_ua s1 1134 (Int32.toNatClampNeg (25789 : Int32)) 0)))))) : pl_At (n + 1) 288 31 [(0, .ref 1131)] [] s Q :=
  pl_wp_at (stops := [(31, [0]), (51, [0, 1])]) (f := 14) h rfl

theorem pl_288_51 {n : Nat} {x1 : Int32} {s : ps_S} {Q : Option Value → ps_S → Prop} (h :
  pl_Cl n 287 [.ref 1131] s (ps_rI (fun v1 s1 =>
    (v1 = 0 →
      Q (some (.int x1)) s1) ∧
    (v1 ≠ 0 →
      (x1 = 60 →
        (pm_in (25789 : Int32) 27400 = true →
          Q (some (.int (-2))) (ps_ua s1 1134 (Int32.toNatClampNeg (25789 : Int32)) 0))) ∧
      (x1 ≠ 60 →
        pl_Cl n 228 [.ref 1131] s1 (ps_rI (fun v2 s2 =>
          (v2 ≠ 0 →
            pl_Cl n 229 [.ref 1131, .int 25789] s2 (ps_rV (fun s3 =>
              pl_At n 288 51 [(0, .ref 1131), (1, .int (x1 + 1))] [] s3 Q))) ∧
          (v2 = 0 →
            (pm_in (25789 : Int32) 27400 = true →
              Q (some (.int (-2))) (ps_ua s2 1134 (Int32.toNatClampNeg (25789 : Int32)) 0)))))))))) : pl_At (n + 1) 288 51 [(0, .ref 1131), (1, .int x1)] [] s Q :=
  pl_wp_at (stops := [(31, [0]), (51, [0, 1])]) (f := 32) h rfl

-- ProofBenchModel.normal(I)I
theorem pl_289_0 {n : Nat} {x1 : Int32} {s : ps_S} {Q : Option Value → ps_S → Prop} (h :
  pl_Cl n 264 [.ref 1131, .int 25789, .int x1] s (ps_rI (fun v1 s1 =>
    Q (some (.int v1)) s1))) : pl_At (n + 1) 289 0 [(0, .ref 1131), (1, .int x1)] [] s Q :=
  pl_wp_at (stops := []) (f := 7) h rfl

/-- the row that is being made -/
def mk_M (s : ps_S) (L : List Nat) : Prop := (ps_i s 1131 34).toInt = L.length ∧ ∀ (k c : Nat), k < 260 → L[k]? = some c → (ps_a s 1149 k).toInt = c
theorem mk_M_kq {A F : List Nat} {s s' : ps_S} {L : List Nat} (h : mk_M s L) (K : kq A F s s') (hA : A.contains 1149 = false) (hF : F.contains 34 = false) : mk_M s' L := ⟨by rw [kq_i K 34 hF]; exact h.1, fun k c a b => by rw [kq_a K 1149 hA]; exact h.2 k c a b⟩
theorem mk_M_0 {s : ps_S} : mk_M (ps_ui s 1131 34 0) [] := ⟨by rw [ps_i_ui, if_pos ⟨rfl, rfl⟩]; rfl, fun k c _ hc => by cases hc⟩
theorem fm_225 {n c : Nat} {L : List Nat} {x1 : Int32} {s : ps_S} {R : ps_S → Prop} (M : mk_M s L) (hx : x1.toInt = c) (hl : L.length < 100000) (k : ∀ s', mk_M s' (L ++ [c]) → kq [1149] [34] s s' → R s') : pl_Cl n 225 [.ref 1131, .int x1] s (ps_rV R) := by
  cases n with
  | zero => exact pl_At_0
  | succ n =>
  show pl_At (n + 1) 225 0 [(0, .ref 1131), (1, .int x1)] [] s (ps_rV R)
  have c260 : (260 : Int32).toInt = 260 := by decide
  have hlen : (L ++ [c]).length = L.length + 1 := List.length_append
  have m1 := M.1
  refine pl_225_0 ⟨fun z => ?_, fun z => ?_⟩
  · have z := xle z
    refine k _ ⟨?_, fun q d hq hd => ?_⟩ (kqi kq_refl rfl)
    · rw [hlen, ps_i_ui, if_pos ⟨rfl, rfl⟩]
      exact xj1 M.1 (by omega)
    · show (ps_a s 1149 q).toInt = d
      refine M.2 q d hq ?_
      rw [List.getElem?_append_left (by omega)] at hd
      exact hd
  · have z := xlt z
    intro b
    rw [xtn M.1]
    refine k _ ⟨?_, fun q d hq hd => ?_⟩ (kqi (kqa kq_refl rfl) rfl)
    · rw [hlen, ps_i_ui, if_pos ⟨rfl, rfl⟩]
      exact xj1 M.1 (by omega)
    · show (ps_a (ps_ua s 1149 L.length x1) 1149 q).toInt = d
      rw [ps_a_ua]
      rcases Nat.lt_or_ge q L.length with y | y
      · rw [if_neg (by omega)]
        rw [List.getElem?_append_left y] at hd
        exact M.2 q d hq hd
      · have := (List.getElem?_eq_some_iff.mp hd).1
        have e : q = L.length := by omega
        rw [if_pos ⟨rfl, e⟩]
        rw [e, List.getElem?_append_right (Nat.le_refl _), Nat.sub_self] at hd
        cases hd
        exact hx
theorem fm_226_3 {to a b : Nat} {l L : List Nat} {x1 x3 : Int32} {s0 : ps_S} {R : ps_S → Prop} (h1 : x1.toInt = to) (ht : to < 27400) (W0 : mv_W s0 to l) (h3 : x3.toInt = b) (hb : b ≤ l.length) (hL : L.length < 50000) (k : ∀ s', mk_M s' (L ++ (l.drop a).take (b - a)) → kq [1149] [34] s0 s' → R s') : ∀ (n : Nat) {s : ps_S} {x4 : Int32} {i : Nat}, x4.toInt = i → a ≤ i → (i ≤ b ∨ i = a) → mk_M s (L ++ (l.drop a).take (i - a)) → kq [1149] [34] s0 s → pl_At n 226 3 [(0, .ref 1131), (1, .int x1), (3, .int x3), (4, .int x4)] [] s (ps_rV R)
  | 0, _, _, _, _, _, _, _, _ => pl_At_0
  | n + 1, s, x4, i, h4, hi, hib, M, K => by
    have h40 := W0.2.1
    refine pl_226_3 ⟨fun z => ?_, fun z => ?_⟩
    · have z := xle z
      have e : (l.drop a).take (b - a) = (l.drop a).take (i - a) := by
        rcases hib with y | y
        · rw [show i = b from by omega]
        · rw [show b - a = 0 from by omega, show i - a = 0 from by omega]
      exact k s (by rw [e]; exact M) K
    · have z := xlt z
      obtain ⟨c, hc⟩ : ∃ c, l[i]? = some c := ⟨_, List.getElem?_eq_getElem (by omega)⟩
      have W := mv_W_kq W0 K (by decide)
      have hlen : (L ++ (l.drop a).take (i - a)).length < 100000 := by
        rw [List.length_append, List.length_take, List.length_drop]
        omega
      refine fm_220c h1 ht W h4 hc (fun v q => ?_)
      refine fm_225 M q hlen (fun s2 M2 K2 => ?_)
      refine fm_226_3 h1 ht W0 h3 hb hL k n (xj1 h4 (by omega)) (by omega) (Or.inl (by omega)) ?_ (kqt K K2 (by decide) (by decide))
      have e : (l.drop a).take (i + 1 - a) = (l.drop a).take (i - a) ++ [c] := by
        rw [show i + 1 - a = (i - a) + 1 from by omega, List.take_succ, List.getElem?_drop, show a + (i - a) = i from by omega, hc]
        rfl
      rw [e, ← List.append_assoc]
      exact M2
theorem fm_226 {n to a b : Nat} {l L : List Nat} {x1 x2 x3 : Int32} {s : ps_S} {R : ps_S → Prop} (h1 : x1.toInt = to) (ht : to < 27400) (W : mv_W s to l) (M : mk_M s L) (h2 : x2.toInt = a) (h3 : x3.toInt = b) (hb : b ≤ l.length) (hL : L.length < 50000) (k : ∀ s', mk_M s' (L ++ (l.drop a).take (b - a)) → kq [1149] [34] s s' → R s') : pl_Cl n 226 [.ref 1131, .int x1, .int x2, .int x3] s (ps_rV R) := by
  cases n with
  | zero => exact pl_At_0
  | succ n =>
  show pl_At (n + 1) 226 0 [(0, .ref 1131), (1, .int x1), (2, .int x2), (3, .int x3)] [] s (ps_rV R)
  refine pl_226_0 (fm_226_3 h1 ht W h3 hb hL k n h2 (Nat.le_refl _) (Or.inr rfl) ?_ kq_refl)
  rw [Nat.sub_self, List.take_zero, List.append_nil]
  exact M
/-- the row made is kept -/
theorem fm_229_12 {to : Nat} {L : List Nat} {x1 : Int32} {s0 : ps_S} {R : ps_S → Prop} (M0 : mk_M s0 L) (h40 : L.length ≤ 40) (h1 : x1.toInt = to) (ht : to + 41 ≤ 27400) (k : ∀ s', mv_W s' to L → kq [1134] [] s0 s' → mv_po to s0 s' → R s') : ∀ (n : Nat) {s : ps_S} {x2 : Int32} {i : Nat}, x2.toInt = i → i ≤ L.length → (ps_a s 1134 to).toInt = L.length → (∀ j c, j < i → L[j]? = some c → (ps_a s 1134 (to + 1 + j)).toInt = c) → kq [1134] [] s0 s → mv_po to s0 s → pl_At n 229 12 [(0, .ref 1131), (1, .int x1), (2, .int x2)] [] s (ps_rV R)
  | 0, _, _, _, _, _, _, _, _, _ => pl_At_0
  | n + 1, s, x2, i, h2, hi, hsz, hj, K, P => by
    have M := mk_M_kq M0 K (by decide) (by decide)
    have m1 := M.1
    refine pl_229_12 ⟨fun z => ?_, fun z => ?_⟩
    · have z := xle z
      exact k s ⟨hsz, h40, fun j c hc => hj j c (by have := (List.getElem?_eq_some_iff.mp hc).1; omega) hc⟩ K P
    · have z := xlt z
      obtain ⟨c, hc⟩ : ∃ c, L[i]? = some c := ⟨_, List.getElem?_eq_getElem (by omega)⟩
      have e1 : (x1 + 1).toInt = (to + 1 : Nat) := xj1 h1 (by omega)
      have e2 : (x1 + 1 + x2).toInt = (to + 1 + i : Nat) := by
        rw [xIa (by omega) (by omega), e1, h2]
        omega
      intro b1 b2
      rw [xtn e2, xtn h2]
      refine fm_229_12 M0 h40 h1 ht k n (xj1 h2 (by omega)) (by omega) ?_ (fun j c2 hj2 hc2 => ?_) (kqa K rfl) (fun q hq => ?_)
      · rw [ps_a_ua, if_neg (by omega)]
        exact hsz
      · rw [ps_a_ua]
        by_cases e : j = i
        · subst e
          rw [if_pos ⟨rfl, rfl⟩]
          exact M.2 j c2 (by omega) hc2
        · rw [if_neg (by omega)]
          exact hj j c2 (by omega) hc2
      · rw [ps_a_ua, if_neg (by omega)]
        exact P q hq
theorem fm_229 {n to : Nat} {L : List Nat} {x1 : Int32} {s : ps_S} {R : ps_S → Prop} (M : mk_M s L) (h40 : L.length ≤ 40) (h1 : x1.toInt = to) (ht : to + 41 ≤ 27400) (k : ∀ s', mv_W s' to L → kq [1134] [] s s' → mv_po to s s' → R s') : pl_Cl n 229 [.ref 1131, .int x1] s (ps_rV R) := by
  cases n with
  | zero => exact pl_At_0
  | succ n =>
  show pl_At (n + 1) 229 0 [(0, .ref 1131), (1, .int x1)] [] s (ps_rV R)
  refine pl_229_0 ?_
  intro b
  rw [xtn h1]
  refine fm_229_12 M h40 h1 ht k n (i := 0) rfl (Nat.zero_le _) ?_ (fun j c hj => absurd hj (Nat.not_lt_zero _)) (kqa kq_refl rfl) (fun q hq => ?_)
  · rw [ps_a_ua, if_pos ⟨rfl, rfl⟩]
    exact M.1
  · rw [ps_a_ua, if_neg (by omega)]
/-! isRow: the stack of parts that are still to come -/
def bnF : List (Nat × Bool) → Nat
  | [] => 0
  | (_, b) :: F => (if b = true then 1 else 0) + bnF F
def fSF : List (Nat × Bool) → List (Nat × Nat)
  | [] => []
  | (k, b) :: F => List.replicate k (F.length + 1, (if b = true then 1 else 0) + bnF F) ++ fSF F
def skR (s : ps_S) : List (Nat × Bool) → Prop
  | [] => True
  | (k, b) :: F => ((ps_a s 1150 F.length).toInt = k ∧ (b = true → ps_a s 1151 F.length ≠ 0) ∧ (b = false → ps_a s 1151 F.length = 0)) ∧ skR s F
theorem skR_ext {s s' : ps_S} : ∀ {F : List (Nat × Bool)}, skR s F → (∀ i, i < F.length → ps_a s' 1150 i = ps_a s 1150 i ∧ ps_a s' 1151 i = ps_a s 1151 i) → skR s' F
  | [], _, _ => trivial
  | (k, b) :: F, h, e => by
    have e0 := e F.length (by rw [List.length_cons]; omega)
    refine ⟨?_, skR_ext h.2 (fun i hi => e i (by rw [List.length_cons]; omega))⟩
    rw [e0.1, e0.2]
    exact h.1
theorem bnF_le : ∀ {F : List (Nat × Bool)}, bnF F ≤ F.length
  | [] => Nat.le_refl _
  | (k, b) :: F => by
    have := bnF_le (F := F)
    show (if b = true then 1 else 0) + bnF F ≤ F.length + 1
    cases b
    · rw [if_neg (by decide)]; omega
    · rw [if_pos rfl]; omega
def KL (s0 s : ps_S) : Prop := kq [1150, 1151] [] s0 s
theorem of_m1 : (Int32.ofInt (-1)).toInt = -1 := by decide
theorem fm_228_110 {n0 : Nat} {P : List (Nat × Nat)} {x3 : Int32} {s0 : ps_S} {R : Int32 → ps_S → Prop} (kk : ∀ {s : ps_S} {x1 x2 : Int32} {F : List (Nat × Bool)}, x1.toInt = F.length → F.length ≤ 13 → x2.toInt = bnF F → bnF F ≤ 5 → skR s F → (F = [] ∨ ∃ k b G, F = (k + 1, b) :: G) → fSF F = P → KL s0 s → pl_At n0 228 148 [(0, .ref 1131), (1, .int x1), (2, .int x2), (3, .int x3)] [] s (ps_rI R)) : ∀ (n : Nat) {s : ps_S} {x1 x2 : Int32} {F : List (Nat × Bool)}, n ≤ n0 → x1.toInt = F.length → F.length ≤ 13 → x2.toInt = bnF F → bnF F ≤ 5 → skR s F → fSF F = P → KL s0 s → pl_At n 228 110 [(0, .ref 1131), (1, .int x1), (2, .int x2), (3, .int x3)] [] s (ps_rI R)
  | 0, _, _, _, _, _, _, _, _, _, _, _, _ => pl_At_0
  | n + 1, s, x1, x2, F, hn, h1, hF, h2, hb5, hS, hP, K => by
    have c0 : (0 : Int32).toInt = 0 := Int32.toInt_zero
    have c1 : (1 : Int32).toInt = 1 := by decide
    refine pl_228_110 ⟨fun z => ?_, fun z => ?_⟩
    · have z := xle z
      have e : F = [] := by
        cases F with
        | nil => rfl
        | cons a G => rw [List.length_cons] at h1; omega
      exact (kk h1 hF h2 hb5 hS (Or.inl e) hP K).le (by omega)
    · have z := xlt z
      cases F with
      | nil =>
        rw [List.length_nil] at h1
        omega
      | cons a G =>
        obtain ⟨k, b⟩ := a
        rw [List.length_cons] at h1 hF
        have e1 : (x1 - 1).toInt = (G.length : Nat) := by rw [xIs (by omega) (by omega), h1, c1]; omega
        obtain ⟨⟨s1, s2, s3⟩, hS2⟩ := id hS
        intro b1
        rw [xtn e1]
        refine ⟨fun y => ?_, fun y => ?_⟩
        · have y := xne y
          refine (kk (F := (k, b) :: G) (by rw [List.length_cons]; exact h1) (by rw [List.length_cons]; exact hF) h2 hb5 hS (Or.inr ?_) hP K).le (by omega)
          cases k with
          | zero => exact absurd s1 y
          | succ k => exact ⟨k, b, G, rfl⟩
        · have y := xeq y
          have hk : k = 0 := by omega
          subst hk
          cases n with
          | zero => exact pl_At_0
          | succ n =>
          clear e1 b1
          have e2 : (x1 + Int32.ofInt (-1)).toInt = (G.length : Nat) := by
            rw [xof1 (b := G.length + 1) h1 (by omega)]
            omega
          generalize x1 + Int32.ofInt (-1) = x9 at e2 ⊢
          have hP2 : fSF G = P := hP
          have h2 : x2.toInt = ((if b = true then 1 else 0) + bnF G : Nat) := h2
          have hbn := bnF_le (F := G)
          have hb5 : (if b = true then 1 else 0) + bnF G ≤ 5 := hb5
          refine pl_228_128 ?_
          intro b2
          rw [xtn e2]
          refine ⟨fun w => ?_, fun w => ?_⟩
          · have hb : b = false := by
              cases b
              · rfl
              · exact absurd w (s2 rfl)
            rw [hb, if_neg (by decide), Nat.zero_add] at h2
            exact fm_228_110 kk n (F := G) (by omega) e2 (by omega) (by rw [xIs (by rw [Int32.toInt_zero]; omega) (by rw [Int32.toInt_zero]; omega), Int32.toInt_zero, h2]; omega) (by omega) hS2 hP2 K
          · have hb : b = true := by
              cases b
              · exact absurd (s3 rfl) w
              · rfl
            rw [hb, if_pos rfl] at h2
            exact fm_228_110 kk n (F := G) (by omega) e2 (by omega) (by rw [xIs (by omega) (by omega), c1, h2]; omega) (by omega) hS2 hP2 K
section R228
variable {g : tx_g} {L : List Nat} {b : Nat} {s0 : ps_S} {R : Int32 → ps_S → Prop}
theorem fm_228_70 {n0 c j : Nat} {bb : Bool} {ks : List Bool} {F : List (Nat × Bool)} {x1 x2 x3 x4 : Int32} {s : ps_S} {isq : Bool} (hb : b < 2) (h21 : (ps_i s0 1131 21).toInt = b) (H0 : mv_E s0 b g) (M0 : mk_M s0 L) (h40 : L.length ≤ 40) (hc : L[j]? = some c) (hk : kS (sg g) bb c = some ks) (h3 : x3.toInt = j) (h1 : x1.toInt = F.length) (hF : F.length ≤ 12) (h2 : x2.toInt = bnF F) (h4 : x4 = (if isq = true then 1 else 0)) (hq : qb c = (if isq = true then 1 else 0)) (h5 : bnF F + qb c ≤ 5) (hS : skR s F) (K : KL s0 s) (kk : ∀ {s : ps_S} {x1 x2 : Int32} {G : List (Nat × Bool)}, x1.toInt = G.length → G.length ≤ 13 → x2.toInt = bnF G → bnF G ≤ 5 → skR s G → (G = [] ∨ ∃ k b G', G = (k + 1, b) :: G') → fSF G = List.replicate (arh g c) (F.length + 1, bnF F + qb c) ++ fSF F → KL s0 s → pl_At n0 228 148 [(0, .ref 1131), (1, .int x1), (2, .int x2), (3, .int x3)] [] s (ps_rI R)) {n : Nat} (hn : n ≤ n0) : pl_At n 228 70 [(0, .ref 1131), (1, .int x1), (2, .int x2), (3, .int x3), (4, .int x4)] [] s (ps_rI R) := by
  cases n with
  | zero => exact pl_At_0
  | succ n =>
  have hjl := (List.getElem?_eq_some_iff.mp hc).1
  have hbn := bnF_le (F := F)
  have c1 : (1 : Int32).toInt = 1 := by decide
  have h21' : (ps_i s 1131 21).toInt = b := by rw [kq_i K 21 rfl]; exact h21
  have H := mv_E_kq H0 K (by decide)
  refine pl_228_70 ?_
  intro b1
  rw [xtn h3]
  have ec : (ps_a s 1149 j).toInt = c := by
    rw [kq_a K 1149 (by decide)]
    exact M0.2 j c (by omega) hc
  refine fm_218 hb h21' H hk ec (fun v1 q1 => ?_)
  intro b2 b3
  rw [xtn h1]
  have e1 : (x1 + 1).toInt = (F.length + 1 : Nat) := xj1 h1 (by omega)
  have K2 : KL s0 (ps_ua (ps_ua s 1150 F.length v1) 1151 F.length (x4 &&& 1)) := kqa (kqa K rfl) rfl
  have hS2 : skR (ps_ua (ps_ua s 1150 F.length v1) 1151 F.length (x4 &&& 1)) ((arh g c, isq) :: F) := by
    refine ⟨⟨?_, fun z => ?_, fun z => ?_⟩, skR_ext hS (fun i hi => ⟨?_, ?_⟩)⟩
    · rw [ps_a_ua, if_neg (by omega), ps_a_ua, if_pos ⟨rfl, rfl⟩]
      exact q1
    · rw [ps_a_ua, if_pos ⟨rfl, rfl⟩, h4, z, if_pos rfl]
      decide
    · rw [ps_a_ua, if_pos ⟨rfl, rfl⟩, h4, z, if_neg (by decide)]
      decide
    · rw [ps_a_ua, if_neg (by omega), ps_a_ua, if_neg (by omega)]
    · rw [ps_a_ua, if_neg (by omega), ps_a_ua, if_neg (by omega)]
  have hP : fSF ((arh g c, isq) :: F) = List.replicate (arh g c) (F.length + 1, bnF F + qb c) ++ fSF F := by
    show List.replicate (arh g c) (F.length + 1, (if isq = true then 1 else 0) + bnF F) ++ fSF F = _
    rw [hq, Nat.add_comm (bnF F)]
  refine ⟨fun z => ?_, fun z => ?_⟩
  · have hi : isq = false := by
      cases isq
      · rfl
      · rw [z, if_pos rfl] at h4
        exact absurd h4 (by decide)
    subst hi
    exact fm_228_110 kk n (F := (arh g c, false) :: F) (by omega) e1 (by rw [List.length_cons]; omega) (by rw [xIa (by rw [Int32.toInt_zero]; omega) (by rw [Int32.toInt_zero]; omega), Int32.toInt_zero, h2]; show _ = ((0 + bnF F : Nat) : Int); omega) (by show 0 + bnF F ≤ 5; omega) hS2 hP K2
  · have hi : isq = true := by
      cases isq
      · rw [if_neg (by decide)] at h4
        exact absurd h4 z
      · rfl
    subst hi
    exact fm_228_110 kk n (F := (arh g c, true) :: F) (by omega) e1 (by rw [List.length_cons]; omega) (by rw [xj1 h2 (by omega)]; show _ = ((1 + bnF F : Nat) : Int); omega) (by rw [if_pos rfl] at hq; show 1 + bnF F ≤ 5; omega) hS2 hP K2
theorem fm_228_17 (hb : b < 2) (h21 : (ps_i s0 1131 21).toInt = b) (H0 : mv_E s0 b g) (M0 : mk_M s0 L) (h40 : L.length ≤ 40) (hA : ArW (sg g) (arh g)) (k1 : ∀ s', dp (arh g) L → KL s0 s' → R 1 s') (k0 : ∀ s', ¬ dp (arh g) L → KL s0 s' → R 0 s') : ∀ (n : Nat) {s : ps_S} {x1 x2 x3 : Int32} {j : Nat} {F : List (Nat × Bool)} {D P : List (Nat × Nat)} {W : List Bool}, x3.toInt = j → j ≤ L.length → x1.toInt = F.length → F.length ≤ 13 → x2.toInt = bnF F → bnF F ≤ 5 → skR s F → (P = (F.length, bnF F) :: fSF F ∨ P = []) → ws (sg g) (L.drop j) W → P.length = W.length → ly (arh g) [(0, 0)] L = D ++ ly (arh g) P (L.drop j) → D.length = j → (∀ (i : Nat) (d : Nat × Nat) (x : Nat), D[i]? = some d → L[i]? = some x → d.1 ≤ 12 ∧ d.2 + qb x ≤ 5) → KL s0 s → pl_At n 228 17 [(0, .ref 1131), (1, .int x1), (2, .int x2), (3, .int x3)] [] s (ps_rI R)
  | 0, _, _, _, _, _, _, _, _, _, _, _, _, _, _, _, _, _, _, _, _, _, _, _ => pl_At_0
  | n + 1, s, x1, x2, x3, j, F, D, P, W, h3, hj, h1, hF, h2, hbn, hS, hP, hw, hPW, hD, hDj, hd, K => by
    have M := mk_M_kq M0 K (by decide) (by decide)
    have m1 := M.1
    have c0 : (0 : Int32).toInt = 0 := Int32.toInt_zero
    have c12 : (12 : Int32).toInt = 12 := by decide
    have c4 : (4 : Int32).toInt = 4 := by decide
    have c5 : (5 : Int32).toInt = 5 := by decide
    have c1 : (1 : Int32).toInt = 1 := by decide
    refine pl_228_17 ⟨fun z => ?_, fun z => ?_⟩
    · have z := xle z
      have e : j = L.length := by omega
      refine k1 s (fun i d x hx1 hx2 => hd i d x ?_ hx2) K
      rw [e, List.drop_length] at hD
      rw [hD] at hx1
      have hil := (List.getElem?_eq_some_iff.mp hx2).1
      rw [List.getElem?_append_left (by omega)] at hx1
      exact hx1
    · have z := xlt z
      obtain ⟨c, hc⟩ : ∃ c, L[j]? = some c := ⟨_, List.getElem?_eq_getElem (by omega)⟩
      have ec : (ps_a s 1149 j).toInt = c := M.2 j c (by omega) hc
      rw [drop_c hc] at hw hD
      obtain ⟨bb, W', ks, rfl, hk, hw'⟩ := ws_cons.mp hw
      have ha := hA bb c ks hk
      have hPc : P = (F.length, bnF F) :: fSF F := by
        rcases hP with y | y
        · exact y
        · rw [y] at hPW; cases hPW
      subst hPc
      have hly : ly (arh g) ((F.length, bnF F) :: fSF F) (c :: L.drop (j + 1)) = (F.length, bnF F) :: ly (arh g) (List.replicate (arh g c) (F.length + 1, bnF F + qb c) ++ fSF F) (L.drop (j + 1)) := rfl
      rw [hly] at hD
      have hDj2 : (ly (arh g) [(0, 0)] L)[j]? = some (F.length, bnF F) := by
        rw [hD, List.getElem?_append_right (by omega), hDj, Nat.sub_self]
        rfl
      have bad : (¬ (F.length ≤ 12 ∧ bnF F + qb c ≤ 5)) → R 0 s := fun y => k0 s (fun w => y (w j _ c hDj2 hc)) K
      have fin : ∀ {x4 : Int32} {isq : Bool}, x4 = (if isq = true then 1 else 0) → qb c = (if isq = true then 1 else 0) → F.length ≤ 12 → bnF F + qb c ≤ 5 → ∀ {n' : Nat}, n' ≤ n → pl_At n' 228 70 [(0, .ref 1131), (1, .int x1), (2, .int x2), (3, .int x3), (4, .int x4)] [] s (ps_rI R) := fun {x4 isq} h4 hq hF12 hb5 {n'} hn' => by
        refine fm_228_70 (n0 := n) (j := j) (isq := isq) hb h21 H0 M0 h40 hc hk h3 h1 hF12 h2 h4 hq hb5 hS K (fun {s2 y1 y2 G} g1 g2 g3 hGb g4 g5 g6 K2 => ?_) hn'
        cases n with
        | zero => exact pl_At_0
        | succ n =>
        have e3 : (x3 + 1).toInt = (j + 1 : Nat) := xj1 h3 (by omega)
        have hlen : ∀ {P' : List (Nat × Nat)}, P' = List.replicate (arh g c) (F.length + 1, bnF F + qb c) ++ fSF F → P'.length = (ks ++ W').length := fun {P'} e => by
          rw [e, List.length_append, List.length_append, List.length_replicate, ha]
          rw [List.length_cons, List.length_cons] at hPW
          omega
        have hD2 : (D ++ [(F.length, bnF F)]).length = j + 1 := by rw [List.length_append, hDj]; rfl
        have hd2 : ∀ (i : Nat) (d : Nat × Nat) (x : Nat), (D ++ [(F.length, bnF F)])[i]? = some d → L[i]? = some x → d.1 ≤ 12 ∧ d.2 + qb x ≤ 5 := fun i d x hi hx => by
          rcases Nat.lt_or_ge i j with y | y
          · rw [List.getElem?_append_left (by omega)] at hi
            exact hd i d x hi hx
          · have := (List.getElem?_eq_some_iff.mp hi).1
            have ei : i = j := by omega
            rw [ei, List.getElem?_append_right (by omega), hDj, Nat.sub_self] at hi
            cases hi
            rw [ei, hc] at hx
            cases hx
            exact ⟨hF12, hb5⟩
        have hD3 : ∀ {P' : List (Nat × Nat)}, P' = List.replicate (arh g c) (F.length + 1, bnF F + qb c) ++ fSF F → ly (arh g) [(0, 0)] L = (D ++ [(F.length, bnF F)]) ++ ly (arh g) P' (L.drop (j + 1)) := fun {P'} e => by
          rw [e, hD, List.append_assoc]
          rfl
        refine pl_228_148 ⟨fun y => ?_, fun y => ?_⟩
        · have y := xle y
          have eG : G = [] := by
            cases G with
            | nil => rfl
            | cons a G => rw [List.length_cons] at g1; omega
          subst eG
          exact fm_228_17 hb h21 H0 M0 h40 hA k1 k0 n (F := []) (P := []) e3 (by omega) g1 g2 g3 (Nat.zero_le _) trivial (Or.inr rfl) hw' (hlen g6) (hD3 g6) hD2 hd2 K2
        · have y := xlt y
          rcases g5 with rfl | ⟨k, bG, G', rfl⟩
          · rw [g1] at y
            exact absurd y (by decide)
          · have g1' : y1.toInt = (G'.length + 1 : Nat) := g1
            have e1 : (y1 - 1).toInt = (G'.length : Nat) := by rw [xIs (by omega) (by omega), g1', c1]; omega
            obtain ⟨⟨t1, t2, t3⟩, t4⟩ := g4
            intro b1 b2
            rw [xtn e1]
            have hv : (ps_a s2 1150 G'.length - 1).toInt = (k : Nat) := by
              have hk99 := xR (ps_a s2 1150 G'.length)
              rw [xIs (by omega) (by omega), t1, c1]
              omega
            have eP : fSF ((k + 1, bG) :: G') = (G'.length + 1, (if bG = true then 1 else 0) + bnF G') :: fSF ((k, bG) :: G') := by
              show List.replicate (k + 1) _ ++ _ = _ :: (List.replicate k _ ++ _)
              rw [List.replicate_succ]
              rfl
            refine fm_228_17 hb h21 H0 M0 h40 hA k1 k0 n (F := (k, bG) :: G') (P := fSF ((k + 1, bG) :: G')) e3 (by omega) g1 g2 g3 hGb ⟨⟨?_, fun w => ?_, fun w => ?_⟩, skR_ext t4 (fun i hi => ⟨?_, ?_⟩)⟩ (Or.inl eP) hw' (hlen g6) (hD3 g6) hD2 hd2 (kqa K2 rfl)
            · rw [ps_a_ua, if_pos ⟨rfl, rfl⟩]
              exact hv
            · rw [ps_a_ua, if_neg (by omega)]
              exact t2 w
            · rw [ps_a_ua, if_neg (by omega)]
              exact t3 w
            · rw [ps_a_ua, if_neg (by omega)]
            · rw [ps_a_ua, if_neg (by omega)]
      intro b1
      rw [xtn h3]
      have quant : c = 4 ∨ c = 5 → pl_At n 228 45 [(0, .ref 1131), (1, .int x1), (2, .int x2), (3, .int x3)] [] s (ps_rI R) := fun h45 => by
        cases n with
        | zero => exact pl_At_0
        | succ n =>
        have q1 := qb_1 h45
        refine pl_228_45 ⟨fun y => ?_, fun y => ⟨fun w => absurd w (by decide), fun _ => ⟨fun w => ?_, fun w => ?_⟩⟩⟩
        · have y := xlt y
          exact bad (fun w => by omega)
        · have y := xle y
          have w := xle w
          exact fin (isq := true) rfl q1 (by omega) (by omega) (Nat.le_succ _)
        · have w := xlt w
          exact bad (fun v => by omega)
      refine ⟨fun y => ?_, fun y => ?_⟩
      · have y := xeq y
        exact quant (Or.inl (by omega))
      · have y := xne y
        intro b2
        refine ⟨fun y2 => ?_, fun y2 => ?_⟩
        · have y2 := xne y2
          have q0 := qb_0 (c := c) (by omega)
          refine ⟨fun w => ?_, fun w => ⟨fun _ => ?_, fun v => absurd rfl v⟩⟩
          · have w := xlt w
            exact bad (fun v => by omega)
          · have w := xle w
            exact fin (isq := false) rfl q0 (by omega) (by omega) (Nat.le_refl _)
        · have y2 := xeq y2
          exact quant (Or.inr (by omega))
theorem fm_228 {n : Nat} {s : ps_S} {bb : Bool} (hb : b < 2) (h21 : (ps_i s 1131 21).toInt = b) (H : mv_E s b g) (M : mk_M s L) (hw : ws (sg g) L [bb]) (hl : L.length < 100000) (k1 : ∀ s', (L.length ≤ 40 ∧ dp (arh g) L) ∧ KL s s' → R 1 s') (k0 : ∀ s', (¬ (L.length ≤ 40 ∧ dp (arh g) L)) ∧ KL s s' → R 0 s') : pl_Cl n 228 [.ref 1131] s (ps_rI R) := by
  cases n with
  | zero => exact pl_At_0
  | succ n =>
  show pl_At (n + 1) 228 0 [(0, .ref 1131)] [] s (ps_rI R)
  have c40 : (40 : Int32).toInt = 40 := by decide
  have m1 := M.1
  refine pl_228_0 ⟨fun z => ?_, fun z => ?_⟩
  · have z := xle z
    have h40 : L.length ≤ 40 := by omega
    exact fm_228_17 hb h21 H M h40 (arh_k H.2.2.1 H.2.2.2.1) (fun s' a c => k1 s' ⟨⟨h40, a⟩, c⟩) (fun s' a c => k0 s' ⟨fun y => a y.2, c⟩) n (j := 0) (F := []) (D := []) (P := [(0, 0)]) rfl (Nat.zero_le _) rfl (Nat.zero_le _) rfl (Nat.zero_le _) trivial (Or.inl rfl) hw rfl rfl rfl (fun i d x hi => by cases hi) kq_refl
  · have z := xlt z
    exact k0 s ⟨fun y => by omega, kq_refl⟩
end R228
/-- what is bound, by places: the reference's -/
def BNm (s : ps_S) (l : List Nat) (B : Nat → Option (List Nat)) : Prop := ∀ k, k < 20 → (B k = none ∧ (ps_a s 1167 k).toInt = -1) ∨ ∃ a b : Nat, (ps_a s 1167 k).toInt = a ∧ (ps_a s 1168 k).toInt = b ∧ a ≤ b ∧ b ≤ l.length ∧ B k = some ((l.drop a).take (b - a))
theorem BNm_put {s : ps_S} {l T : List Nat} {B : Nat → Option (List Nat)} {k p e : Nat} {x v : Int32} (b : BNm s l B) (hx : x.toInt = p) (hv : v.toInt = e) (hpe : p ≤ e) (he : e ≤ l.length) (hT : T = (l.drop p).take (e - p)) : BNm (ps_ua (ps_ua s 1167 k x) 1168 k v) l (rw_u B k T) := fun j hj => by
  unfold rw_u
  by_cases ej : j = k
  · right
    refine ⟨p, e, ?_, ?_, hpe, he, ?_⟩
    · rw [ps_a_ua, if_neg (by omega), ps_a_ua, if_pos ⟨rfl, ej⟩]
      exact hx
    · rw [ps_a_ua, if_pos ⟨rfl, ej⟩]
      exact hv
    · rw [if_pos ej, hT]
  · rw [if_neg ej, ps_a_ua, if_neg (by omega), ps_a_ua, if_neg (by omega), ps_a_ua, if_neg (by omega), ps_a_ua, if_neg (by omega)]
    exact b j hj
theorem rw_u_id {B : Nat → Option (List Nat)} {k : Nat} {U : List Nat} (h : B k = some U) : rw_u B k U = B := by
  funext q
  unfold rw_u
  by_cases e : q = k
  · rw [if_pos e, e, h]
  · rw [if_neg e]
def KBm (s0 s : ps_S) : Prop := kq [1167, 1168] [65] s0 s
section R286
variable {b : Nat} {h : tx_H} {l r : List Nat} {i : Nat} {s0 : ps_S} {R : Int32 → ps_S → Prop} {x3 : Int32} {lf rt : Nat}
theorem fm_286_42 (hb : b < 2) (h21 : (ps_i s0 1131 21).toInt = b) (H0 : mv_E s0 b h.1) (hi8 : i < 8) (W0 : mv_W s0 25789 l) (Wr0 : mv_W s0 (21812 + 41 * (8 * b + i)) r) (h3 : x3.toInt = (21812 + 41 * (8 * b + i) : Nat)) (hv : ∀ c, c ∈ r → c < 60) (h64 : (ps_i s0 1131 64).toInt = rt) (hrt : rt ≤ r.length) {M : Option (Nat × (Nat → Option (List Nat)))} (k1 : ∀ s' e B, M = some (e, B) → BNm s' l B → (ps_i s' 1131 65).toInt = (e : Nat) → KBm s0 s' → R 1 s') (k0 : ∀ s', M = none → KBm s0 s' → R 0 s') : ∀ (n : Nat) {s : ps_S} {x4 x5 : Int32} {p j : Nat} {B : Nat → Option (List Nat)} {W W1 : List Bool}, x4.toInt = p → x5.toInt = j → j ≤ rt → BNm s l B → KBm s0 s → ws (sg h.1) ((r.drop j).take (rt - j)) W → ws (sg h.1) (l.drop p) W1 → W.length ≤ W1.length → p ≤ l.length → M = rw_m (arh h.1) l ((r.drop j).take (rt - j)) p B → pl_At n 286 42 [(0, .ref 1131), (3, .int x3), (4, .int x4), (5, .int x5)] [] s (ps_rI R)
  | 0, _, _, _, _, _, _, _, _, _, _, _, _, _, _, _, _, _, _ => pl_At_0
  | n + 1, s, x4, x5, p, j, B, W, W1, h4, h5, hj, bn, K, hw, hw1, hle, hpl, hM => by
    have hA := arh_k H0.2.2.1 H0.2.2.2.1
    have hl40 := W0.2.1
    have hr40 := Wr0.2.1
    have c0 : (0 : Int32).toInt = 0 := Int32.toInt_zero
    have c40 : (40 : Int32).toInt = 40 := by decide
    have Wl := mv_W_kq W0 K (by decide)
    have Wr := mv_W_kq Wr0 K (by decide)
    have H := mv_E_kq H0 K (by decide)
    have h21' : (ps_i s 1131 21).toInt = b := by rw [kq_i K 21 rfl]; exact h21
    have e64 : (ps_i s 1131 64).toInt = rt := by rw [kq_i K 64 rfl]; exact h64
    refine pl_286_42 ⟨fun z => ?_, fun z => ?_⟩
    · have z := xle z
      rw [show rt - j = 0 from by omega, List.take_zero] at hM
      refine k1 _ p B hM bn ?_ (kqi K rfl)
      rw [ps_i_ui, if_pos ⟨rfl, rfl⟩]
      exact h4
    · have z := xlt z
      obtain ⟨c, hc⟩ : ∃ c, r[j]? = some c := ⟨_, List.getElem?_eq_getElem (by omega)⟩
      have c60 := hv c (List.mem_of_getElem? hc)
      rw [dt_c hc (by omega)] at hw hM
      obtain ⟨bb, W', ks, rfl, hk, hw'⟩ := ws_cons.mp hw
      have ha := hA bb c ks hk
      have hpos : 1 ≤ W1.length := by rw [List.length_cons] at hle; omega
      have hlt : p < l.length := by
        have := en_lt hA hw1 (show 0 < W1.length by omega)
        rw [List.length_drop] at this
        omega
      refine fm_220c h3 (by omega) Wr h5 hc (fun v1 q1 => ⟨fun y => ?_, fun y => ?_⟩)
      · have y := xle y
        have h40 : 40 ≤ c := by omega
        have hks : ks = [] := by
          have := (arh_lo (g := h.1) (c := c)).2.2.2.2 h40
          exact List.eq_nil_of_length_eq_zero (by omega)
        rw [hks, List.nil_append] at hw'
        have hen := en_le hA hw1 (k := 1) hpos
        rw [List.length_drop] at hen
        have hrest := (en_rest hA hw1 (k := 1) hpos).1
        rw [List.drop_drop] at hrest
        have hcons : ∃ b0 Wi, W1 = b0 :: Wi := by
          cases W1 with
          | nil => exact absurd hpos (by decide)
          | cons b0 Wi => exact ⟨b0, Wi, rfl⟩
        obtain ⟨b0, Wi, hW1⟩ := hcons
        have ek : (v1 - 40).toInt = (c - 40 : Nat) := by rw [xIs (by omega) (by omega), q1, c40]; omega
        have hk20 : c - 40 < 20 := by omega
        refine fm_221 hb h21' H (to := 25789) (i := p) (l := l) (by decide) (by decide) Wl h4 (by rw [← hW1]; exact hw1) (fun v2 q2 => ?_)
        have go : ∀ {B2 : Nat → Option (List Nat)}, rw_u B (c - 40) ((l.drop p).take (en (arh h.1) (l.drop p) 1)) = B2 → M = rw_m (arh h.1) l ((r.drop (j + 1)).take (rt - (j + 1))) (p + en (arh h.1) (l.drop p) 1) B2 → pl_At n 286 42 [(0, .ref 1131), (3, .int x3), (4, .int v2), (5, .int (x5 + 1))] [] (ps_ua (ps_ua s 1167 (c - 40) x4) 1168 (c - 40) v2) (ps_rI R) := fun {B2} eB hM2 => by
          refine fm_286_42 hb h21 H0 hi8 W0 Wr0 h3 hv h64 hrt k1 k0 n q2 (xj1 h5 (by omega)) (by omega) ?_ (kqa (kqa K rfl) rfl) hw' hrest (by rw [List.length_drop]; rw [List.length_cons] at hle; omega) (by omega) hM2
          rw [← eB]
          exact BNm_put bn h4 q2 (by omega) (by omega) (by rw [Nat.add_sub_cancel_left])
        intro b1
        rw [xtn ek]
        rcases bn (c - 40) hk20 with ⟨t1, t2⟩ | ⟨a, e, t1, t2, t3, t4, t5⟩
        · refine ⟨fun w => ?_, fun w => ?_⟩
          · intro b2 b3
            exact go rfl (by rw [hM, rw_m_n h40 t1])
          · have w := xle w
            omega
        · refine ⟨fun w => ?_, fun w => ?_⟩
          · have w := xlt w
            omega
          · intro b2 b3
            have d2 : (v2 - x4).toInt = (en (arh h.1) (l.drop p) 1 : Nat) := by rw [xIs (by omega) (by omega), q2, h4]; omega
            have d1 : ((ps_a s 1168 (c - 40)) - (ps_a s 1167 (c - 40))).toInt = (e - a : Nat) := by rw [xIs (by omega) (by omega), t1, t2]; omega
            have l1 : ((l.drop a).take (e - a)).length = e - a := by rw [List.length_take, List.length_drop]; omega
            have l2 : ((l.drop p).take (en (arh h.1) (l.drop p) 1)).length = en (arh h.1) (l.drop p) 1 := by rw [List.length_take, List.length_drop]; omega
            refine ⟨fun u => ?_, fun u => ?_⟩
            · have u := xne u
              refine k0 s ?_ K
              rw [hM, rw_m_s h40 t5, if_neg (fun v => by rw [v] at l1; omega)]
            · have u := xeq u
              have ez : en (arh h.1) (l.drop p) 1 = e - a := by omega
              intro b4
              refine fm_259 (ta := 25789) (tb := 25789) (f := p) (m := en (arh h.1) (l.drop p) 1) (p := a) (la := l) (lb := l) (by decide) (by decide) Wl (by decide) (by decide) Wl h4 d2 t1 (by omega) (by omega) (fun u2 => ⟨fun _ => ?_, fun w2 => absurd w2 (by decide)⟩) (fun u2 => ⟨fun w2 => absurd rfl w2, fun _ => ?_⟩)
              · intro b5 b6
                have eU : (l.drop a).take (e - a) = (l.drop p).take (en (arh h.1) (l.drop p) 1) := by rw [u2, ez]
                refine go (B2 := B) ?_ (by rw [hM, rw_m_s h40 t5, if_pos eU])
                rw [← eU]
                exact rw_u_id t5
              · refine k0 s ?_ K
                rw [hM, rw_m_s h40 t5, if_neg (fun v => u2 (by rw [← v, ez]))]
      · have y := xlt y
        have h40 : ¬ 40 ≤ c := by omega
        obtain ⟨c2, hc2⟩ : ∃ c2, l[p]? = some c2 := ⟨_, List.getElem?_eq_getElem hlt⟩
        refine fm_220c (to := 25789) (by decide) (by decide) Wl h4 hc2 (fun v4 q4 => ⟨fun w => ?_, fun w => ?_⟩)
        · have w := xeq w
          have e2 : c2 = c := by omega
          subst e2
          rw [drop_c hc2] at hw1
          obtain ⟨bb2, W1', ks2, rfl, hk2, hw1'⟩ := ws_cons.mp hw1
          have ha2 := hA bb2 c2 ks2 hk2
          refine fm_286_42 hb h21 H0 hi8 W0 Wr0 h3 hv h64 hrt k1 k0 n (xj1 h4 (by omega)) (xj1 h5 (by omega)) (by omega) bn K hw' hw1' ?_ (by omega) (by rw [hM, rw_m_c h40, if_pos hc2])
          rw [List.length_append, List.length_append]
          rw [List.length_cons, List.length_cons] at hle
          omega
        · have w := xne w
          refine k0 s ?_ K
          rw [hM, rw_m_c h40, if_neg (fun v => by rw [hc2] at v; cases v; exact w (by rw [q1, q4]))]
theorem fm_286_12 {x2 : Int32} (k : ∀ n s', BNm s' l (fun _ => none) → KBm s0 s' → pl_At n 286 42 [(0, .ref 1131), (3, .int x3), (4, .int x2), (5, .int (ps_i s0 1131 63))] [] s' (ps_rI R)) : ∀ (n : Nat) {s : ps_S} {x4 : Int32} {j : Nat}, x4.toInt = j → j ≤ 20 → (∀ q, q < j → (ps_a s 1167 q).toInt = -1) → KBm s0 s → pl_At n 286 12 [(0, .ref 1131), (2, .int x2), (3, .int x3), (4, .int x4)] [] s (ps_rI R)
  | 0, _, _, _, _, _, _, _ => pl_At_0
  | n + 1, s, x4, j, h4, hj, hq, K => by
    have c20 : (20 : Int32).toInt = 20 := by decide
    refine pl_286_12 ⟨fun z => ?_, fun z => ?_⟩
    · have z := xle z
      rw [show ps_i s 1131 63 = ps_i s0 1131 63 from kq_i K 63 rfl]
      exact k n s (fun q hq20 => Or.inl ⟨rfl, hq q (by omega)⟩) K
    · have z := xlt z
      intro b1
      rw [xtn h4]
      refine fm_286_12 k n (xj1 h4 (by omega)) (by omega) (fun q hq2 => ?_) (kqa K rfl)
      rw [ps_a_ua]
      by_cases e : q = j
      · rw [if_pos ⟨rfl, e⟩]
        decide
      · rw [if_neg (fun w => e w.2)]
        exact hq q (by omega)
theorem fm_286 {n : Nat} {x1 x2 : Int32} {p : Nat} {W W1 : List Bool} (hb : b < 2) (h21 : (ps_i s0 1131 21).toInt = b) (H0 : mv_E s0 b h.1) (hi8 : i < 8) (W0 : mv_W s0 25789 l) (Wr0 : mv_W s0 (21812 + 41 * (8 * b + i)) r) (h1 : x1.toInt = i) (h2 : x2.toInt = p) (hv : ∀ c, c ∈ r → c < 60) (h63 : (ps_i s0 1131 63).toInt = lf) (h64 : (ps_i s0 1131 64).toInt = rt) (hlr : lf ≤ rt) (hrt : rt ≤ r.length) (hp : p ≤ l.length) (hw : ws (sg h.1) ((r.drop lf).take (rt - lf)) W) (hw1 : ws (sg h.1) (l.drop p) W1) (hle : W.length ≤ W1.length) (k1 : ∀ s', (∃ e B, rw_m (arh h.1) l ((r.drop lf).take (rt - lf)) p (fun _ => none) = some (e, B) ∧ BNm s' l B ∧ (ps_i s' 1131 65).toInt = (e : Nat) ∧ KBm s0 s') → R 1 s') (k0 : ∀ s', (rw_m (arh h.1) l ((r.drop lf).take (rt - lf)) p (fun _ => none) = none ∧ KBm s0 s') → R 0 s') : pl_Cl n 286 [.ref 1131, .int x1, .int x2] s0 (ps_rI R) := by
  cases n with
  | zero => exact pl_At_0
  | succ n =>
  show pl_At (n + 1) 286 0 [(0, .ref 1131), (1, .int x1), (2, .int x2)] [] s0 (ps_rI R)
  refine pl_286_0 ?_
  refine fm_283 h21 hb h1 hi8 (fun v1 q1 => ?_)
  exact fm_286_12 (l := l) (s0 := s0) (fun n s1 bn K => fm_286_42 hb h21 H0 hi8 W0 Wr0 q1 hv h64 hrt (fun s' e B a c d f => k1 s' ⟨e, B, a, c, d, f⟩) (fun s' a c => k0 s' ⟨a, c⟩) n h2 h63 hlr bn K hw hw1 hle hp rfl) n (j := 0) rfl (Nat.zero_le _) (fun q hq => absurd hq (Nat.not_lt_zero _)) kq_refl
end R286
def KR (s0 s : ps_S) : Prop := kq [1149, 1167, 1168] [34, 63, 64, 65] s0 s
section R287
variable {b : Nat} {h : tx_H} {l : List Nat} {s0 : ps_S} {R : Int32 → ps_S → Prop}
theorem fm_287_77 {r : List Nat} {i p e rt : Nat} {B : Nat → Option (List Nat)} {x3 : Int32} (hb : b < 2) (hi8 : i < 8) (W0 : mv_W s0 25789 l) (Wr0 : mv_W s0 (21812 + 41 * (8 * b + i)) r) (h3 : x3.toInt = (21812 + 41 * (8 * b + i) : Nat)) (hv : ∀ c, c ∈ r → c < 60) (hB : ∀ c, c ∈ r.drop rt → 40 ≤ c → ∃ U, B (c - 40) = some U) (h65 : (ps_i s0 1131 65).toInt = e) (b0 : BNm s0 l B) (hel : e ≤ l.length) (k : ∀ s', mk_M s' (l.take p ++ rw_r B (r.drop rt) ++ l.drop e) → kq [1149] [34] s0 s' → R 1 s') : ∀ (n : Nat) {s : ps_S} {x4 : Int32} {j : Nat} {L : List Nat}, x4.toInt = j → rt ≤ j → j ≤ r.length → mk_M s (l.take p ++ L) → L.length ≤ 40 * j → rw_r B (r.drop rt) = L ++ rw_r B (r.drop j) → kq [1149] [34] s0 s → pl_At n 287 77 [(0, .ref 1131), (3, .int x3), (4, .int x4)] [] s (ps_rI R)
  | 0, _, _, _, _, _, _, _, _, _, _, _ => pl_At_0
  | n + 1, s, x4, j, L, h4, hj, hjr, M, hL40, hL, K => by
    have hl40 := W0.2.1
    have hr40 := Wr0.2.1
    have c40 : (40 : Int32).toInt = 40 := by decide
    have Wl := mv_W_kq W0 K (by decide)
    have Wr := mv_W_kq Wr0 K (by decide)
    have hlen : (l.take p ++ L).length < 50000 := by
      rw [List.length_append, List.length_take]
      omega
    refine pl_287_77 ?_
    refine fm_219c h3 Wr (fun v1 q1 => ⟨fun z => ?_, fun z => ?_⟩)
    · have z := xle z
      have ej : j = r.length := by omega
      rw [ej, List.drop_length] at hL
      have hL : rw_r B (r.drop rt) = L := by rw [hL]; exact List.append_nil _
      refine fm_219c (to := 25789) (by decide) Wl (fun v2 q2 => ?_)
      have e65 : (ps_i s 1131 65).toInt = e := by rw [kq_i K 65 rfl]; exact h65
      refine fm_226 (to := 25789) (a := e) (b := l.length) (by decide) (by decide) Wl M e65 q2 (Nat.le_refl _) hlen (fun s3 M3 K3 => k s3 ?_ (kqt K K3 (by decide) (by decide)))
      rw [hL]
      have ee : (l.drop e).take (l.length - e) = l.drop e := List.take_of_length_le (by rw [List.length_drop]; omega)
      rw [ee] at M3
      exact M3
    · have z := xlt z
      obtain ⟨c, hc⟩ : ∃ c, r[j]? = some c := ⟨_, List.getElem?_eq_getElem (by omega)⟩
      have hcm := List.mem_of_getElem? hc
      have hcd : c ∈ r.drop rt := List.mem_iff_getElem?.mpr ⟨j - rt, by rw [List.getElem?_drop, show rt + (j - rt) = j from by omega]; exact hc⟩
      have c60 := hv c hcm
      rw [drop_c hc] at hL
      refine fm_220c h3 (by omega) Wr h4 hc (fun v4 q4 => ⟨fun y => ?_, fun y => ?_⟩)
      · have y := xle y
        have h40 : 40 ≤ c := by omega
        have ex : (v4 - 40).toInt = (c - 40 : Nat) := by rw [xIs (by omega) (by omega), q4, c40]; omega
        obtain ⟨U, hU⟩ := hB c hcd h40
        rw [rw_r_v h40 hU] at hL
        intro b1 b2
        rw [xtn ex]
        rcases b0 (c - 40) (by omega) with ⟨y1, -⟩ | ⟨a, bb, y1, y2, y3, y4, y5⟩
        · rw [hU] at y1; cases y1
        · rw [hU] at y5
          have eU := Option.some.inj y5
          refine fm_226 (to := 25789) (a := a) (b := bb) (by decide) (by decide) Wl M (by rw [kq_a K 1167 (by decide)]; exact y1) (by rw [kq_a K 1168 (by decide)]; exact y2) y4 hlen (fun s2 M2 K2 => ?_)
          rw [← eU, List.append_assoc] at M2
          have hUl : U.length ≤ 40 := by
            rw [eU, List.length_take, List.length_drop]
            omega
          exact fm_287_77 hb hi8 W0 Wr0 h3 hv hB h65 b0 hel k n (L := L ++ U) (xj1 h4 (by omega)) (by omega) (by omega) M2 (by rw [List.length_append]; omega) (by rw [hL, List.append_assoc]) (kqt K K2 (by decide) (by decide))
      · have y := xlt y
        have h40 : ¬ 40 ≤ c := by omega
        rw [rw_r_c h40] at hL
        refine fm_225 M q4 (by omega) (fun s2 M2 K2 => ?_)
        rw [List.append_assoc] at M2
        exact fm_287_77 hb hi8 W0 Wr0 h3 hv hB h65 b0 hel k n (L := L ++ [c]) (xj1 h4 (by omega)) (by omega) (by omega) M2 (by rw [List.length_append, List.length_singleton]; omega) (by rw [hL, List.append_assoc]; rfl) (kqt K K2 (by decide) (by decide))
theorem fm_287_all (hb : b < 2) (h21 : (ps_i s0 1131 21).toInt = b) (H0 : mv_H s0 b h) (hw : WFt h) (hwl : ws (sg h.1) l [false]) (W0 : mv_W s0 25789 l) (k1 : ∀ s' l', rw_s h l l' → mk_M s' l' → KR s0 s' → R 1 s') (k0 : ∀ s', rw_e h l → KR s0 s' → R 0 s') : ∀ n : Nat, (∀ {s : ps_S} {x1 : Int32} {p : Nat}, x1.toInt = p → p ≤ l.length → KR s0 s → (∀ p', p' < p → ∀ k', rw_z h l p' k') → pl_At n 287 2 [(0, .ref 1131), (1, .int x1)] [] s (ps_rI R)) ∧ (∀ {s : ps_S} {x1 x2 : Int32} {p i : Nat}, x1.toInt = p → p < l.length → x2.toInt = i → i ≤ h.2.length → KR s0 s → (∀ p', p' < p → ∀ k', rw_z h l p' k') → (∀ k', k' < i → rw_z h l p k') → pl_At n 287 15 [(0, .ref 1131), (1, .int x1), (2, .int x2)] [] s (ps_rI R)) := by
  have hA := arh_k H0.1.2.2.1 H0.1.2.2.2.1
  have hl40 := W0.2.1
  intro n
  induction n with
  | zero => exact ⟨fun _ _ _ _ => pl_At_0, fun _ _ _ _ _ _ _ => pl_At_0⟩
  | succ n ih =>
    obtain ⟨i2, i15⟩ := ih
    refine ⟨fun {s x1 p} h1 hp K hz => ?_, fun {s x1 x2 p i} h1 hp h2 hi K hz hk => ?_⟩
    · have W := mv_W_kq W0 K (by decide)
      refine pl_287_2 ?_
      refine fm_219c (to := 25789) (by decide) W (fun v1 q1 => ⟨fun z => ?_, fun z => ?_⟩)
      · have z := xle z
        exact k0 s (fun p' hp' k' => hz p' (by omega) k') K
      · have z := xlt z
        exact i15 h1 (by omega) rfl (Nat.zero_le _) K hz (fun k' hk' => absurd hk' (Nat.not_lt_zero _))
    · have W := mv_W_kq W0 K (by decide)
      have h8 := H0.2.2.1
      have H := mv_H_kq H0 K (by decide)
      have h21' : (ps_i s 1131 21).toInt = b := by rw [kq_i K 21 rfl]; exact h21
      refine pl_287_15 ?_
      rw [xtn h21']
      intro b1
      refine ⟨fun z => ?_, fun z => ?_⟩
      · have z := xle z
        rw [H.2.1] at z
        refine i2 (xj1 h1 (by omega)) (by omega) K (fun p' hp' k' => ?_)
        rcases Nat.lt_or_ge p' p with u | u
        · exact hz p' u k'
        · rw [show p' = p from by omega]
          rcases Nat.lt_or_ge k' i with u2 | u2
          · exact hk k' u2
          · rintro l' ⟨w, r, e, B, a1, -⟩
            have := (List.getElem?_eq_some_iff.mp a1).1
            omega
      · have z := xlt z
        rw [H.2.1] at z
        obtain ⟨⟨w, r⟩, hkr⟩ : ∃ q, h.2[i]? = some q := ⟨_, List.getElem?_eq_getElem (by omega)⟩
        obtain ⟨hf, hr40, h60⟩ := hw.2.2 i w r hkr
        obtain ⟨y1, y2, Wr⟩ := H.2.2.2 i w r hkr
        obtain ⟨W1, hw1⟩ := ws_drop p hwl
        have hne : ∃ b0 Wi, W1 = b0 :: Wi := by
          cases W1 with
          | nil =>
            have := ws_nil hw1
            have hl := congrArg List.length this
            rw [List.length_drop, List.length_nil] at hl
            omega
          | cons b0 Wi => exact ⟨b0, Wi, rfl⟩
        obtain ⟨b0, Wi, rfl⟩ := hne
        have hlen : 1 ≤ (b0 :: Wi).length := by rw [List.length_cons]; omega
        have next : ∀ {s' : ps_S}, KR s0 s' → rw_z h l p i → pl_At n 287 15 [(0, .ref 1131), (1, .int x1), (2, .int (x2 + 1))] [] s' (ps_rI R) := fun K' y => i15 h1 hp (xj1 h2 (by omega)) (by omega) K' hz (fun k' hk' => by
          rcases Nat.lt_or_ge k' i with u | u
          · exact hk k' u
          · rw [show k' = i from by omega]
            exact y)
        refine fm_284 hb h21' H hw hkr h2 (fun s1 q => ⟨fun y => absurd y (by decide), fun _ => ?_⟩) (fun s1 q => ⟨fun _ => ?_, fun y => absurd rfl y⟩)
        · obtain ⟨his, e63, e64, K1⟩ := q
          obtain ⟨p1, p2, p3, p4, -, p6⟩ := rl_parts hA (wf_ws hf) his
          have K1' : KR s0 s1 := kqt K K1 (by decide) (by decide)
          have W1' := mv_W_kq W0 K1' (by decide)
          have H1 := mv_H_kq H0 K1' (by decide)
          have h211 : (ps_i s1 1131 21).toInt = b := by rw [kq_i K1' 21 rfl]; exact h21
          refine fm_286 (i := i) (p := p) (l := l) (r := r) (h := h) (W := [false]) (lf := rl_l r) (rt := rl_r (arh h.1) r) hb h211 H1.1 (by omega) W1' (H1.2.2.2 i w r hkr).2.2 h2 h1 h60 e63 e64 p1 p2 (by omega) p3 hw1 hlen (fun s2 q2 => ⟨fun _ => ?_, fun y => absurd y (by decide)⟩) (fun s2 q2 => ⟨fun y => absurd rfl y, fun _ => ?_⟩)
          · obtain ⟨e, B, hm, bn, e65, K2⟩ := q2
            have hm : rw_m (arh h.1) l (rw_L (arh h.1) r) p (fun _ => none) = some (e, B) := hm
            have K2' : KR s0 s2 := kqt K1' K2 (by decide) (by decide)
            have W2 := mv_W_kq W0 K2' (by decide)
            have H2 := mv_H_kq H0 K2' (by decide)
            have h212 : (ps_i s2 1131 21).toInt = b := by rw [kq_i K2' 21 rfl]; exact h21
            have hve : e = p + en (arh h.1) (l.drop p) 1 := rw_m_en hA p3 (fun x _ hx => (arh_lo (g := h.1) (c := x)).2.2.2.2 hx) hm
            have hle := en_le hA (k := 1) hw1 hlen
            rw [List.length_drop] at hle
            refine fm_283 h212 hb h2 (by omega) (fun v3 q3 => ?_)
            have K3 : KR s0 (ps_ui s2 1131 34 0) := kqi K2' rfl
            have e64' : (ps_i s2 1131 64).toInt = (rl_r (arh h.1) r : Nat) := by rw [kq_i K2 64 rfl]; exact e64
            refine fm_226 (to := 25789) (a := 0) (b := p) (L := []) (by decide) (by decide) (mv_W_kq W0 K3 (by decide)) mk_M_0 rfl h1 (by omega) (by decide) (fun s4 M4 K4 => ?_)
            rw [List.drop_zero, Nat.sub_zero, List.nil_append] at M4
            have K4' : KR s0 s4 := kqt K3 K4 (by decide) (by decide)
            have hr8 : (ps_i s4 1131 64).toInt = (rl_r (arh h.1) r : Nat) := by rw [kq_i K4 64 rfl]; exact e64'
            refine fm_287_77 (r := r) (i := i) (p := p) (e := e) (rt := rl_r (arh h.1) r) (B := B) (s0 := s4) hb (by omega) (mv_W_kq W0 K4' (by decide)) (mv_H_kq H0 K4' (by decide) |>.2.2.2 i w r hkr).2.2 q3 h60 (fun c2 hc2 h40 => (rw_m_B hm).2 c2 (p6 c2 hc2 h40) h40) (by rw [kq_i K4 65 rfl]; exact e65) (fun k2 hk2 => ?_) (by omega) (fun s5 M5 K5 => ?_) n (L := []) hr8 (Nat.le_refl _) p2 (by rw [List.append_nil]; exact M4) (Nat.zero_le _) rfl kq_refl
            · rw [kq_a K4 1167 (by decide), kq_a K4 1168 (by decide)]
              exact bn k2 hk2
            · exact k1 s5 _ ⟨p, i, hp, ⟨w, r, e, B, hkr, his, hm, rfl⟩, hk, hz⟩ M5 (kqt K4' K5 (by decide) (by decide))
          · obtain ⟨hm, K2⟩ := q2
            have hm : rw_m (arh h.1) l (rw_L (arh h.1) r) p (fun _ => none) = none := hm
            refine next (kqt K1' K2 (by decide) (by decide)) (fun l' a => ?_)
            obtain ⟨w2, r2, e, B, a1, a2, a3, -⟩ := a
            rw [hkr] at a1
            cases a1
            rw [hm] at a3
            cases a3
        · refine next (kqt K q.2 (by decide) (by decide)) (fun l' a => ?_)
          obtain ⟨w2, r2, e, B, a1, a2, -⟩ := a
          rw [hkr] at a1
          cases a1
          exact q.1 a2
theorem fm_287 {n : Nat} (hb : b < 2) (h21 : (ps_i s0 1131 21).toInt = b) (H0 : mv_H s0 b h) (hw : WFt h) (hwl : ws (sg h.1) l [false]) (W0 : mv_W s0 25789 l) (k1 : ∀ s', (∃ l', rw_s h l l' ∧ mk_M s' l' ∧ KR s0 s') → R 1 s') (k0 : ∀ s', (rw_e h l ∧ KR s0 s') → R 0 s') : pl_Cl n 287 [.ref 1131] s0 (ps_rI R) := by
  cases n with
  | zero => exact pl_At_0
  | succ n =>
  show pl_At (n + 1) 287 0 [(0, .ref 1131)] [] s0 (ps_rI R)
  exact pl_287_0 ((fm_287_all hb h21 H0 hw hwl W0 (fun s' l' a c d => k1 s' ⟨l', a, c, d⟩) (fun s' a c => k0 s' ⟨a, c⟩) n).1 (p := 0) rfl (Nat.zero_le _) kq_refl (fun p' hp' => absurd hp' (Nat.not_lt_zero _)))
end R287
/-- how long a row that is made can be -/
theorem rw_r_len {B : Nat → Option (List Nat)} (hB : ∀ k U, B k = some U → U.length ≤ 40) : ∀ {t : List Nat}, (rw_r B t).length ≤ 40 * t.length
  | [] => Nat.zero_le _
  | c :: t => by
    have ih := rw_r_len hB (t := t)
    show ((if 40 ≤ c then (B (c - 40)).getD [] else [c]) ++ rw_r B t).length ≤ _
    rw [List.length_append, List.length_cons]
    have : (if 40 ≤ c then (B (c - 40)).getD [] else [c]).length ≤ 40 := by
      split
      · cases e : B (c - 40) with
        | none => exact Nat.zero_le _
        | some U => exact hB _ U e
      · exact (by decide : 1 ≤ 40)
    omega
def KW8 (s0 s : ps_S) : Prop := kq [1134, 1149, 1150, 1151, 1167, 1168] [34, 63, 64, 65] s0 s ∧ mv_po 25789 s0 s
section R288
variable {b : Nat} {h : tx_H} {l0 : List Nat} {s0 : ps_S} {R : Int32 → ps_S → Prop}
theorem mv_H_po {s s' : ps_S} (hb : b < 2) (H : mv_H s b h) (K : KW8 s s') : mv_H s' b h := by
  have h8 := H.2.2.1
  refine mv_H_V hb H (fun r hr => kq_a K.1 r ?_) (fun r hr => kq_b K.1 r ?_) (fun k h1 h2 => K.2 k (by omega))
  · exact (show ∀ r, r ∈ [1135, 1136, 1137, 1138, 1139] → [1134, 1149, 1150, 1151, 1167, 1168].contains r = false by decide) r hr
  · exact (show ∀ r, r ∈ [1140, 1141, 1142] → [1134, 1149, 1150, 1151, 1167, 1168].contains r = false by decide) r hr
theorem KW8_q {A F : List Nat} {s s' : ps_S} (K : KW8 s0 s) (K' : kq A F s s') (hA : A.all (fun a => [1149, 1150, 1151, 1167, 1168].contains a) = true) (hF : F.all (fun a => [34, 63, 64, 65].contains a) = true) : KW8 s0 s' := by
  have hA2 : A.all (fun a => [1134, 1149, 1150, 1151, 1167, 1168].contains a) = true := by
    rw [List.all_eq_true] at hA ⊢
    intro x hx
    have := hA x hx
    rw [List.contains_iff_mem] at this ⊢
    exact List.mem_cons_of_mem _ this
  have h34 : A.contains 1134 = false := by
    cases e : A.contains 1134 with
    | false => rfl
    | true =>
      rw [List.all_eq_true] at hA
      exact absurd (hA 1134 (List.contains_iff_mem.mp e)) (by decide)
  exact ⟨kqt K.1 K' hA2 hF, fun q hq => by rw [kq_a K' 1134 h34]; exact K.2 q hq⟩
theorem fm_288_51 (hb : b < 2) (h21 : (ps_i s0 1131 21).toInt = b) (H0 : mv_H s0 b h) (hw : WFt h) (k : ∀ (v : Int32) s' nl, rw_A h l0 v.toInt nl → mv_W s' 25789 nl → KW8 s0 s' → R v s') : ∀ (n : Nat) {s : ps_S} {x1 : Int32} {m : Nat} {l : List Nat}, x1.toInt = m → m ≤ 60 → rw_go h m l0 l → ws (sg h.1) l [false] → mv_W s 25789 l → KW8 s0 s → pl_At n 288 51 [(0, .ref 1131), (1, .int x1)] [] s (ps_rI R)
  | 0, _, _, _, _, _, _, _, _, _, _ => pl_At_0
  | n + 1, s, x1, m, l, hx, hm, hg, hl, W, K => by
    have c60 : (60 : Int32).toInt = 60 := by decide
    have hl40 := W.2.1
    have H := mv_H_po hb H0 K
    have h21' : (ps_i s 1131 21).toInt = b := by rw [kq_i K.1 21 rfl]; exact h21
    have spent : ∀ {s' : ps_S} {b' : List Nat}, KW8 s0 s' → rw_s h l b' → (¬ rw_g h b' ∨ m = 60) → R (-2) (ps_ua s' 1134 25789 0) := fun {s' b'} K' hs hbad => by
      refine k _ _ [] (Or.inr ⟨by decide, rfl, m, l, b', hm, hg, hs, hbad⟩) ⟨?_, Nat.zero_le _, fun k c hk => by cases hk⟩ ⟨kqa K'.1 rfl, fun q hq => ?_⟩
      · rw [ps_a_ua, if_pos ⟨rfl, rfl⟩]
        rfl
      · rw [ps_a_ua, if_neg (by omega)]
        exact K'.2 q hq
    refine pl_288_51 ?_
    refine fm_287 hb h21' H hw hl W (fun s1 q => ⟨fun y => absurd y (by decide), fun _ => ?_⟩) (fun s1 q => ⟨fun _ => ?_, fun y => absurd rfl y⟩)
    · obtain ⟨l', hs, M, K1⟩ := q
      have K1' : KW8 s0 s1 := KW8_q K K1 (by decide) (by decide)
      have hl' := rw_s_ws hw hl hs
      refine ⟨fun z => ?_, fun z => ?_⟩
      · have z := xeq z
        intro b1
        rw [xtn (a := 25789) (by decide)]
        exact spent K1' hs (Or.inr (by omega))
      · have z := xne z
        have h211 : (ps_i s1 1131 21).toInt = b := by rw [kq_i K1'.1 21 rfl]; exact h21
        have H1 := mv_H_po hb H0 K1'
        have hlen : l'.length < 100000 := by
          obtain ⟨p, kk, hp, ⟨w, r, e, B, a1, a2, a3, rfl⟩, -, -⟩ := hs
          have hr40 := (hw.2.2 kk w r a1).2.1
          have hBl : ∀ k U, B k = some U → U.length ≤ 40 := by
            have aux : ∀ {t : List Nat} {p e : Nat} {B B' : Nat → Option (List Nat)}, (∀ k U, B k = some U → U.length ≤ 40) → rw_m (arh h.1) l t p B = some (e, B') → ∀ k U, B' k = some U → U.length ≤ 40 := by
              intro t
              induction t with
              | nil =>
                intro p e B B' hB hm
                cases hm
                exact hB
              | cons c t ih =>
                intro p e B B' hB hm
                by_cases h40 : 40 ≤ c
                · cases hBk : B (c - 40) with
                  | none =>
                    rw [rw_m_n h40 hBk] at hm
                    refine ih (fun k U hk => ?_) hm
                    unfold rw_u at hk
                    split at hk
                    · cases hk
                      rw [List.length_take, List.length_drop]
                      omega
                    · exact hB k U hk
                  | some U =>
                    rw [rw_m_s h40 hBk] at hm
                    split at hm
                    · exact ih hB hm
                    · cases hm
                · rw [rw_m_c h40] at hm
                  split at hm
                  · exact ih hB hm
                  · cases hm
            exact aux (fun k U z => by cases z) a3
          have := rw_r_len hBl (t := r.drop (rl_r (arh h.1) r))
          rw [List.length_drop] at this
          unfold rw_n
          rw [List.length_append, List.length_append, List.length_take, List.length_drop]
          omega
        refine fm_228 hb h211 H1.1 M hl' hlen (fun s2 q2 => ⟨fun _ => ?_, fun y => absurd y (by decide)⟩) (fun s2 q2 => ⟨fun y => absurd rfl y, fun _ => ?_⟩)
        · obtain ⟨⟨g1, g2⟩, K2⟩ := q2
          have K2' : KW8 s0 s2 := KW8_q K1' K2 (by decide) (by decide)
          refine fm_229 (to := 25789) (mk_M_kq M K2 (by decide) (by decide)) g1 (by decide) (by decide) (fun s3 W3 K3 P3 => ?_)
          exact fm_288_51 hb h21 H0 hw k n (xj1 hx (by omega)) (by omega) ⟨l, hg, hs, g1, g2⟩ hl' W3 ⟨kqt K2'.1 K3 (by decide) (by decide), fun q hq => (P3 q (by omega)).trans (K2'.2 q hq)⟩
        · intro b1
          rw [xtn (a := 25789) (by decide)]
          exact spent (KW8_q K1' q2.2 (by decide) (by decide)) hs (Or.inl (fun y => q2.1 y))
    · exact k _ s1 l (Or.inl ⟨m, hm, hg, q.1, hx⟩) (mv_W_kq W q.2 (by decide)) (KW8_q K q.2 (by decide) (by decide))
end R288
/-- what rewrite() leaves -/
def mr_p (s s' : ps_S) : Prop := kq [1133, 1134, 1143, 1144, 1145, 1146, 1147, 1148, 1149, 1150, 1151, 1167, 1168] [3, 4, 5, 6, 7, 8, 9, 10, 11, 22, 23, 29, 30, 31, 32, 34, 63, 64, 65] s s' ∧ mv_po 25789 s s'
theorem fm_288_31 {n b : Nat} {s0 s : ps_S} {T : Nat → Nat} {N : Nat} {h : tx_H} {R : Int32 → ps_S → Prop} (hb : b < 2) (h21 : (ps_i s 1131 21).toInt = b) (H : mv_H s b h) (hw : WFt h) (m : mq_ok 25789 0 b h.1 T N s0 s ∨ mq_bad 25789 0 b h.1 T N s0 s) (k : ∀ (v : Int32) s' nl, RWA h T N v nl → mv_W s' 25789 nl → mr_p s0 s' → R v s') : pl_At n 288 31 [(0, .ref 1131)] [] s (ps_rI R) := by
  cases n with
  | zero => exact pl_At_0
  | succ n =>
  refine pl_288_31 ?_
  rcases m with ⟨⟨l, z, W, G⟩, K, P, h3⟩ | ⟨⟨kk, pl, z, hk, e5, e6⟩, K, P, h3⟩
  · refine fm_192 (fun _ => ⟨fun _ => ?_, fun z => absurd z (by decide)⟩) (fun z => absurd G.1 z)
    have hl : ws (sg h.1) l [false] := by
      obtain ⟨p, fr, g, -⟩ := z
      exact (tx_WQ_end hw.2.1 (Or.inl rfl) (Nat.zero_le _) g).1
    refine fm_288_51 (l0 := l) hb h21 H hw (fun v s' nl hA W' K' => ?_) n (m := 0) rfl (Nat.zero_le _) rfl hl W ⟨kq_refl, fun q hq => rfl⟩
    exact k v s' nl (Or.inl ⟨l, z, hA⟩) W' ⟨kqt (kqt kq_refl K (by decide) (by decide)) K'.1 (by decide) (by decide), fun q hq => (K'.2 q hq).trans (P q hq)⟩
  · refine fm_192 (fun z => absurd (z.symm.trans e5) (by omega)) (fun _ => ⟨fun z => absurd rfl z, fun _ => ?_⟩)
    intro b1
    rw [xtn (a := 25789) (by decide)]
    refine k _ _ [] (Or.inr ⟨⟨kk, pl, z⟩, by decide, rfl⟩) ⟨?_, Nat.zero_le _, fun k c hk => by cases hk⟩ ⟨kqa (kqt kq_refl K (by decide) (by decide)) rfl, fun q hq => ?_⟩
    · rw [ps_a_ua, if_pos ⟨rfl, rfl⟩]
      rfl
    · rw [ps_a_ua, if_neg (by omega)]
      exact P q hq
theorem fm_288 {n b : Nat} {s : ps_S} {T : Nat → Nat} {N : Nat} {h : tx_H} {R : Int32 → ps_S → Prop} (hb : b < 2) (h21 : (ps_i s 1131 21).toInt = b) (H : mv_H s b h) (hw : WFt h) (h3 : (ps_i s 1131 3).toInt = N) (hN : N ≤ 1600) (hT : ∀ k, k < N → (ps_a s 1132 k &&& 255).toInt = T k) (k : ∀ (v : Int32) s' nl, RWA h T N v nl → mv_W s' 25789 nl → mr_p s s' → R v s') : pl_Cl n 288 [.ref 1131] s (ps_rI R) := by
  cases n with
  | zero => exact pl_At_0
  | succ n =>
  show pl_At (n + 1) 288 0 [(0, .ref 1131)] [] s (ps_rI R)
  refine pl_288_0 ?_
  refine fm_198 h21 h3 hN hT (fun s1 q1 => ?_)
  obtain ⟨K1, t1, t2, t3, t4, t5, t6⟩ := q1
  have Hk : ∀ {A F : List Nat} {s' : ps_S}, kq A F s s' → mv_po 25789 s s' → A.all (fun a => ![1135, 1136, 1137, 1138, 1139, 1140, 1141, 1142].contains a) = true → mv_H s' b h := fun {A F s'} K P hA => by
    rw [List.all_eq_true] at hA
    have hn : ∀ r, r ∈ [1135, 1136, 1137, 1138, 1139, 1140, 1141, 1142] → A.contains r = false := fun r hr => by
      cases e : A.contains r with
      | false => rfl
      | true =>
        have z := hA r (List.contains_iff_mem.mp e)
        rw [List.contains_iff_mem.mpr hr] at z
        exact absurd z (by decide)
    refine mv_H_V hb H (fun r hr => kq_a K r (hn r ?_)) (fun r hr => kq_b K r (hn r ?_)) (fun q h1 h2 => P q (by omega))
    · exact (show ∀ r, r ∈ [1135, 1136, 1137, 1138, 1139] → r ∈ [1135, 1136, 1137, 1138, 1139, 1140, 1141, 1142] by decide) r hr
    · exact (show ∀ r, r ∈ [1140, 1141, 1142] → r ∈ [1135, 1136, 1137, 1138, 1139, 1140, 1141, 1142] by decide) r hr
  refine fm_209u (to := 25789) (rb := b) (ph := 0) (E := (h.1, false)) (p := 0) (fr := []) (by decide) (Or.inl ⟨by decide, rfl⟩) rfl hb t5 t1 (mv_E_kq H.1 K1 (by decide)) (Nat.zero_le _) t2 ⟨t4, Nat.zero_le _, fun k w z => by cases z⟩ t3 (fun s10 q10 => ?_)
  have fin : ∀ {s' : ps_S}, (mq_ok 25789 0 b h.1 T N s s' ∨ mq_bad 25789 0 b h.1 T N s s') → pl_At n 288 31 [(0, .ref 1131)] [] s' (ps_rI R) := fun {s'} m => by
    have hK : kq [1133, 1134, 1143, 1144, 1145, 1146, 1147, 1148] [3, 4, 5, 6, 7, 8, 9, 10, 11, 22, 23, 29, 30, 31, 32] s s' ∧ mv_po 25789 s s' := by
      rcases m with ⟨-, K, P, -⟩ | ⟨-, K, P, -⟩
      · exact ⟨K, P⟩
      · exact ⟨K, P⟩
    exact fm_288_31 hb (by rw [kq_i hK.1 21 rfl]; exact h21) (Hk hK.1 hK.2 (by decide)) hw m k
  refine fm_192 (fun q14 => ?_) (fun q14 => ?_)
  · refine ⟨fun h17 => absurd h17 (by decide), fun h17 => ⟨fun h24 => ?_, fun h24 => ?_⟩⟩
    · have h24 : (ps_i s10 1131 9).toInt = (0 : Int) := xeq h24
      rcases q10 with ⟨p', l', fr', g1, g2, g3, g4⟩ | ⟨S', pl, l', fr', k, g1, g2, g3, g4, g5⟩
      · have h0 : (tx_tok T N p').1 = 0 := by have := g3.2.2.1.1; omega
        exact fin (Or.inl ⟨⟨l', ⟨p', fr', g1, h0⟩, g3.2.2.2.2.2.2.1, g3.2.2.2.2.2.2.2.2⟩, kqt (kqt kq_refl K1 (by decide) (by decide)) g4.1 (by decide) (by decide), fun i hi => (g4.2 i hi).trans (by rw [kq_a K1 1134 (by decide)]), by rw [kq_i g4.1 3 (by decide)]; exact t6⟩)
      · exfalso; omega
    · have h24 : (ps_i s10 1131 9).toInt ≠ (0 : Int) := xne h24
      refine fm_196v q14 (fun s28 q28 => ?_)
      rcases q10 with ⟨p', l', fr', g1, g2, g3, g4⟩ | ⟨S', pl, l', fr', k, g1, g2, g3, g4, g5⟩
      · have h0 : (tx_tok T N p').1 ≠ 0 := by have := g3.2.2.1.1; omega
        have J := q28 _ g3.2.2.1
        exact fin (Or.inr ⟨⟨_, _, Or.inr ⟨p', l', fr', g1, h0, rfl, rfl⟩, (by unfold tx_bk; split <;> decide), J.1, J.2.1⟩, kqt (kqt (kqt kq_refl K1 (by decide) (by decide)) g4.1 (by decide) (by decide)) J.2.2 (by decide) (by decide), fun i hi => (by rw [kq_a J.2.2 1134 (by decide), g4.2 i hi, kq_a K1 1134 (by decide)]), by rw [kq_i J.2.2 3 (by decide), kq_i g4.1 3 (by decide)]; exact t6⟩)
      · exfalso; omega
  · refine ⟨fun h17 => ?_, fun h17 => absurd h17 (by decide)⟩
    rcases q10 with ⟨p', l', fr', g1, g2, g3, g4⟩ | ⟨S', pl, l', fr', k, g1, g2, g3, g4, g5⟩
    · exact absurd g3.2.2.2.2.2.2.2.2.1 q14
    · exact fin (Or.inr ⟨⟨k, pl, Or.inl ⟨S', l', fr', g1⟩, g2, g3, g4⟩, kqt (kqt kq_refl K1 (by decide) (by decide)) g5.1 (by decide) (by decide), fun i hi => (g5.2 i hi).trans (by rw [kq_a K1 1134 (by decide)]), by rw [kq_i g5.1 3 (by decide)]; exact t6⟩)
theorem fm_289 {n : Nat} {x1 : Int32} {s : ps_S} {l : List Nat} {R : Int32 → ps_S → Prop} (hW : mv_W s 25789 l) (k : ∀ v : Int32, pc_is l x1 v → R v s) : pl_Cl n 289 [.ref 1131, .int x1] s (ps_rI R) := by
  cases n with
  | zero => exact pl_At_0
  | succ n =>
  show pl_At (n + 1) 289 0 [(0, .ref 1131), (1, .int x1)] [] s (ps_rI R)
  refine pl_289_0 ?_
  exact fm_264 (to := 25789) (by decide) (by decide) hW k
end
section
set_option maxRecDepth 100000
/-! the class: what a formula is worth in the model that is set -/
-- ProofBench$Judge.isSo(III)Z
theorem pl_15_0 {n : Nat} {x1 : Int32} {x2 : Int32} {x3 : Int32} {s : ps_S} {Q : Option Value → ps_S → Prop} (h :
  (x3 ≤ 12 →
    pl_Cl n 92 [.ref (ps_r s 944 14), .int x1] s (ps_rI (fun v1 s1 =>
      (v1 = 0 →
        Q (some (.int 0)) s1) ∧
      (v1 ≠ 0 →
        (v1 = 1 →
        pl_Cl n 16 [.ref 944, .int x1, .int x2, .int (x3 + 1)] s1 (ps_rI (fun v2 s2 =>
          pl_nk (decide (v2 &&& 1 = v2)) (Q (some (.int v2)) s2)))) ∧
      (v1 ≠ 1 →
        (v1 = 2 →
        pl_Cl n 16 [.ref 944, .int x1, .int x2, .int (x3 + 1)] s1 (ps_rI (fun v3 s3 =>
          pl_nk (decide (v3 &&& 1 = v3)) (Q (some (.int v3)) s3)))) ∧
      (v1 ≠ 2 →
        (v1 = 3 →
        pl_Cl n 16 [.ref 944, .int x1, .int x2, .int (x3 + 1)] s1 (ps_rI (fun v4 s4 =>
          pl_nk (decide (v4 &&& 1 = v4)) (Q (some (.int v4)) s4)))) ∧
      (v1 ≠ 3 →
        (v1 = 4 →
        pl_Cl n 17 [.ref 944, .int x1, .int x2, .int x3] s1 (ps_rI (fun v5 s5 =>
          pl_nk (decide (v5 &&& 1 = v5)) (Q (some (.int v5)) s5)))) ∧
      (v1 ≠ 4 →
        (v1 = 5 →
        pl_Cl n 17 [.ref 944, .int x1, .int x2, .int x3] s1 (ps_rI (fun v6 s6 =>
          pl_nk (decide (v6 &&& 1 = v6)) (Q (some (.int v6)) s6)))) ∧
      (v1 ≠ 5 →
        (v1 = 6 →
        pl_Cl n 18 [.ref 944, .int (x1 + 1), .int x2, .int (x3 + 1)] s1 (ps_rI (fun v7 s7 =>
          pl_Cl n 104 [.ref (ps_r s7 944 15), .int (x1 + 1)] s7 (ps_rI (fun v8 s8 =>
            pl_Cl n 18 [.ref 944, .int v8, .int x2, .int (x3 + 1)] s8 (ps_rI (fun v9 s9 =>
              (v7 ≠ v9 →
                Q (some (.int 0)) s9) ∧
              (v7 = v9 →
                Q (some (.int 1)) s9)))))))) ∧
      (v1 ≠ 6 →
        pl_Cl n 182 [.ref 947, .int (v1 - 10)] s1 (ps_rI (fun v10 s10 =>
        pl_Cl n 19 [.ref 944, .int x1, .int x2, .int x3] s10 (ps_rI (fun v11 s11 =>
          pl_Cl n 182 [.ref 946, .int (v10 + v11)] s11 (ps_rI (fun v12 s12 =>
            (v12 ≠ 1 →
              Q (some (.int 0)) s12) ∧
            (v12 = 1 →
              Q (some (.int 1)) s12))))))))))))))))) ∧
  (12 < x3 →
    Q (some (.int 0)) s)) : pl_At (n + 1) 15 0 [(0, .ref 944), (1, .int x1), (2, .int x2), (3, .int x3)] [] s Q :=
  pl_wp_at (stops := []) (f := 101) h rfl

-- ProofBench$Judge.isSoOfTwo(III)Z
theorem pl_16_0 {n : Nat} {x1 : Int32} {x2 : Int32} {x3 : Int32} {s : ps_S} {Q : Option Value → ps_S → Prop} (h :
  pl_Cl n 15 [.ref 944, .int (x1 + 1), .int x2, .int x3] s (ps_rI (fun v1 s1 =>
    pl_Cl n 92 [.ref (ps_r s1 944 14), .int x1] s1 (ps_rI (fun v2 s2 =>
      (v2 = 1 →
        (v1 = 0 →
          Q (some (.int 0)) s2) ∧
        (v1 ≠ 0 →
          pl_Cl n 104 [.ref (ps_r s2 944 15), .int (x1 + 1)] s2 (ps_rI (fun v3 s3 =>
            pl_Cl n 15 [.ref 944, .int v3, .int x2, .int x3] s3 (ps_rI (fun v4 s4 =>
              (v4 = 0 →
                Q (some (.int 0)) s4) ∧
              (v4 ≠ 0 →
                Q (some (.int 1)) s4))))))) ∧
      (v2 ≠ 1 →
        (v2 = 2 →
        (v1 ≠ 0 →
          Q (some (.int 1)) s2) ∧
        (v1 = 0 →
          pl_Cl n 104 [.ref (ps_r s2 944 15), .int (x1 + 1)] s2 (ps_rI (fun v5 s5 =>
            pl_Cl n 15 [.ref 944, .int v5, .int x2, .int x3] s5 (ps_rI (fun v6 s6 =>
              (v6 = 0 →
                Q (some (.int 0)) s6) ∧
              (v6 ≠ 0 →
                Q (some (.int 1)) s6))))))) ∧
      (v2 ≠ 2 →
        (v1 = 0 →
        Q (some (.int 1)) s2) ∧
      (v1 ≠ 0 →
        pl_Cl n 104 [.ref (ps_r s2 944 15), .int (x1 + 1)] s2 (ps_rI (fun v7 s7 =>
          pl_Cl n 15 [.ref 944, .int v7, .int x2, .int x3] s7 (ps_rI (fun v8 s8 =>
            (v8 = 0 →
              Q (some (.int 0)) s8) ∧
            (v8 ≠ 0 →
              Q (some (.int 1)) s8))))))))))))) : pl_At (n + 1) 16 0 [(0, .ref 944), (1, .int x1), (2, .int x2), (3, .int x3)] [] s Q :=
  pl_wp_at (stops := []) (f := 77) h rfl

-- ProofBench$Judge.isSoForThings(III)Z
theorem pl_17_0 {n : Nat} {x1 : Int32} {x2 : Int32} {x3 : Int32} {s : ps_S} {Q : Option Value → ps_S → Prop} (h :
  pl_Cl n 92 [.ref (ps_r s 944 14), .int x1] s (ps_rI (fun v1 s1 =>
    (v1 ≠ 4 →
      pl_At n 17 22 [(0, .ref 944), (1, .int x1), (2, .int x2), (3, .int x3), (4, .int 0), (5, .int 0)] [] s1 Q) ∧
    (v1 = 4 →
      pl_At n 17 22 [(0, .ref 944), (1, .int x1), (2, .int x2), (3, .int x3), (4, .int 1), (5, .int 0)] [] s1 Q)))) : pl_At (n + 1) 17 0 [(0, .ref 944), (1, .int x1), (2, .int x2), (3, .int x3)] [] s Q :=
  pl_wp_at (stops := [(22, [0, 1, 2, 3, 4, 5])]) (f := 17) h rfl

theorem pl_17_22 {n : Nat} {x1 : Int32} {x2 : Int32} {x3 : Int32} {x4 : Int32} {x5 : Int32} {s : ps_S} {Q : Option Value → ps_S → Prop} (h :
  ((ps_i s 944 11) ≤ x5 →
    pl_nk (decide (x4 &&& 1 = x4)) (Q (some (.int x4)) s)) ∧
  (x5 < (ps_i s 944 11) →
    pl_Cl n 183 [.ref 954, .int x2, .int x5] s (ps_rV (fun s1 =>
      pl_Cl n 15 [.ref 944, .int (x1 + 1), .int (x2 + 1), .int (x3 + 1)] s1 (ps_rI (fun v2 s2 =>
        (v2 = x4 →
          pl_At n 17 22 [(0, .ref 944), (1, .int x1), (2, .int x2), (3, .int x3), (4, .int x4), (5, .int (x5 + 1))] [] s2 Q) ∧
        (v2 ≠ x4 →
          (x4 ≠ 0 →
            Q (some (.int 0)) s2) ∧
          (x4 = 0 →
            Q (some (.int 1)) s2)))))))) : pl_At (n + 1) 17 22 [(0, .ref 944), (1, .int x1), (2, .int x2), (3, .int x3), (4, .int x4), (5, .int x5)] [] s Q :=
  pl_wp_at (stops := [(22, [0, 1, 2, 3, 4, 5])]) (f := 35) h rfl

-- ProofBench$Judge.thingOf(III)I
theorem pl_18_0 {n : Nat} {x1 : Int32} {x2 : Int32} {x3 : Int32} {s : ps_S} {Q : Option Value → ps_S → Prop} (h :
  (x3 ≤ 12 →
    pl_Cl n 92 [.ref (ps_r s 944 14), .int x1] s (ps_rI (fun v1 s1 =>
      (v1 < 60 →
        pl_Cl n 185 [.int v1] s1 (ps_rI (fun v2 s2 =>
          (v2 = 0 →
            pl_Cl n 182 [.ref 948, .int (v1 - 20)] s2 (ps_rI (fun v3 s3 =>
              pl_Cl n 19 [.ref 944, .int x1, .int x2, .int x3] s3 (ps_rI (fun v4 s4 =>
                pl_Cl n 182 [.ref 946, .int (v3 + v4)] s4 (ps_rI (fun v5 s5 =>
                  Q (some (.int v5)) s5))))))) ∧
          (v2 ≠ 0 →
            pl_Cl n 182 [.ref 954, .int ((x2 - 1) - (v1 - 40))] s2 (ps_rI (fun v6 s6 =>
              Q (some (.int v6)) s6)))))) ∧
      (60 ≤ v1 →
        pl_Cl n 182 [.ref 955, .int (v1 - 60)] s1 (ps_rI (fun v7 s7 =>
          Q (some (.int v7)) s7)))))) ∧
  (12 < x3 →
    Q (some (.int 0)) s)) : pl_At (n + 1) 18 0 [(0, .ref 944), (1, .int x1), (2, .int x2), (3, .int x3)] [] s Q :=
  pl_wp_at (stops := []) (f := 52) h rfl

-- ProofBench$Judge.place(III)I
theorem pl_19_0 {n : Nat} {x1 : Int32} {x2 : Int32} {x3 : Int32} {s : ps_S} {Q : Option Value → ps_S → Prop} (h :
  pl_Cl n 92 [.ref (ps_r s 944 14), .int x1] s (ps_rI (fun v1 s1 =>
    pl_Cl n 136 [.ref (ps_r s 944 16), .int v1] s1 (ps_rI (fun v2 s2 =>
      (v2 ≠ 0 →
        pl_Cl n 18 [.ref 944, .int (x1 + 1), .int x2, .int (x3 + 1)] s2 (ps_rI (fun v3 s3 =>
          (v2 ≠ 1 →
            pl_Cl n 104 [.ref (ps_r s3 944 15), .int (x1 + 1)] s3 (ps_rI (fun v4 s4 =>
              pl_Cl n 18 [.ref 944, .int v4, .int x2, .int (x3 + 1)] s4 (ps_rI (fun v5 s5 =>
                Q (some (.int ((v3 * (ps_i s3 944 11)) + v5))) s5))))) ∧
          (v2 = 1 →
            Q (some (.int v3)) s3)))) ∧
      (v2 = 0 →
        Q (some (.int 0)) s2)))))) : pl_At (n + 1) 19 0 [(0, .ref 944), (1, .int x1), (2, .int x2), (3, .int x3)] [] s Q :=
  pl_wp_at (stops := []) (f := 48) h rfl

/-- what is set: row, shape, tables, digits, free things -/
def JE (s : ps_S) (rr sh th m : Nat) (g : tx_g) (l : List Nat) (D fr : Nat → Nat) : Prop := (ps_r s 944 14 = rr ∧ ps_r s 944 15 = sh) ∧ cv_W s rr l ∧ shE s sh (arh g) l 0 ∧ cv_E s th g ∧ JL s th m g ∧ (∀ (j b : Nat), (md_B m (md_sy m g))[j]? = some b → (ps_a s 946 j).toInt = D j ∧ D j < b) ∧ ∀ v, 60 + v ∈ l → v < 12 ∧ (ps_a s 955 v).toInt = fr v ∧ fr v < m
/-- what stands fixed -/
def JF (rr sh th m : Nat) (g : tx_g) (l : List Nat) : Prop := ps_is rr 5 = true ∧ ps_is sh 6 = true ∧ (th = 2 ∨ th = 26) ∧ (rr ≠ 944 ∧ rr + 1 ≠ 954 ∧ sh + 1 ≠ 954) ∧ (1 ≤ m ∧ m ≤ 3) ∧ l.length ≤ 40
theorem JE_jq {s s' : ps_S} {rr sh th m : Nat} {g : tx_g} {l : List Nat} {D fr : Nat → Nat} (F : JF rr sh th m g l) (H : JE s rr sh th m g l D fr) (K : jq 944 [954] [] s s') : JE s' rr sh th m g l D fr := by
  obtain ⟨f1, f2, f3, ⟨f4, f5, f6⟩, f7, f8⟩ := F
  obtain ⟨⟨h1, h2⟩, h3, h4, h5, ⟨j1, j2, j3, j4, j5⟩, h7, h8⟩ := H
  have hc : ∀ r, r ≠ 954 → [954].contains r = false := fun r hr => by
    rw [Bool.eq_false_iff]
    intro z
    have := List.contains_iff_mem.mp z
    rw [List.mem_singleton] at this
    exact hr this
  refine ⟨⟨by rw [jq_r K]; exact h1, by rw [jq_r K]; exact h2⟩, cv_W_jq h3 K f4 (hc _ f5), ?_, cv_E_jq h5 K f3 (by decide) rfl, ⟨by rw [jq_r K]; exact j1, by rw [jq_i K 11 rfl]; exact j2, jv_D_jq j3 K rfl (by decide), by rw [jq_a K 947 (by decide)]; exact j4, by rw [jq_a K 948 (by decide)]; exact j5⟩, ?_, ?_⟩
  · intro j a b
    rw [jq_a K _ (hc _ f6)]
    exact h4 j a b
  · rw [jq_a K 946 (by decide)]
    exact h7
  · rw [jq_a K 955 (by decide)]
    exact h8
/-- bound things, the nearest first -/
def EB (s : ps_S) (m : Nat) (env : List Nat) : Prop := ∀ (k x : Nat), env[k]? = some x → (ps_a s 954 (env.length - 1 - k)).toInt = x ∧ x < m
def JP (rr sh th m : Nat) (g : tx_g) (l : List Nat) (D fr : Nat → Nat) (env : List Nat) (s s' : ps_S) : Prop := JE s' rr sh th m g l D fr ∧ EB s' m env ∧ jq 944 [954] [] s s' ∧ ∀ j, j < env.length → ps_a s' 954 j = ps_a s 954 j
section J15
variable {rr sh th m : Nat} {g : tx_g} {l : List Nat} {D fr : Nat → Nat}
def J15P (rr sh th m : Nat) (g : tx_g) (l : List Nat) (D fr : Nat → Nat) (n : Nat) : Prop := ∀ {s : ps_S} {x1 x2 x3 : Int32} {i p : Nat} {env : List Nat} {R : Int32 → ps_S → Prop}, JE s rr sh th m g l D fr → EB s m env → pt g true p env.length (l.drop i) → x1.toInt = i → x2.toInt = env.length → x3.toInt = p → (∀ (v : Int32) (s' : ps_S), (v.toInt = 0 ∨ v.toInt = 1) ∧ (v.toInt = 1 ↔ svg m g D fr (13 - p) env (l.drop i) = 1) ∧ JP rr sh th m g l D fr env s s' → R v s') → pl_Cl n 15 [.ref 944, .int x1, .int x2, .int x3] s (ps_rI R)
def J18P (rr sh th m : Nat) (g : tx_g) (l : List Nat) (D fr : Nat → Nat) (n : Nat) : Prop := ∀ {s : ps_S} {x1 x2 x3 : Int32} {i p : Nat} {env : List Nat} {R : Int32 → ps_S → Prop}, JE s rr sh th m g l D fr → EB s m env → pt g false p env.length (l.drop i) → x1.toInt = i → x2.toInt = env.length → x3.toInt = p → (∀ (v : Int32) (s' : ps_S), v.toInt = (svg m g D fr (13 - p) env (l.drop i) : Nat) ∧ JP rr sh th m g l D fr env s s' → R v s') → pl_Cl n 18 [.ref 944, .int x1, .int x2, .int x3] s (ps_rI R)
def J19P (rr sh th m : Nat) (g : tx_g) (l : List Nat) (D fr : Nat → Nat) (n : Nat) : Prop := ∀ {s : ps_S} {x1 x2 x3 : Int32} {i p c : Nat} {b : Bool} {t : List Nat} {env : List Nat} {R : Int32 → ps_S → Prop}, JE s rr sh th m g l D fr → EB s m env → pt g b p env.length (c :: t) → l.drop i = c :: t → 10 ≤ c → c < 40 → x1.toInt = i → x2.toInt = env.length → x3.toInt = p → (∀ (v : Int32) (s' : ps_S), v.toInt = (svi m g D fr (12 - p) env c t : Nat) ∧ JP rr sh th m g l D fr env s s' → R v s') → pl_Cl n 19 [.ref 944, .int x1, .int x2, .int x3] s (ps_rI R)
theorem JP_refl {s : ps_S} {env : List Nat} (H : JE s rr sh th m g l D fr) (E : EB s m env) : JP rr sh th m g l D fr env s s := ⟨H, E, jq_refl, fun _ _ => rfl⟩
theorem JP_tr {s s1 s2 : ps_S} {env : List Nat} (H : JP rr sh th m g l D fr env s s1) (G : JP rr sh th m g l D fr env s1 s2) : JP rr sh th m g l D fr env s s2 := ⟨G.1, G.2.1, jqt H.2.2.1 G.2.2.1 (by decide) (by decide), fun j hj => (G.2.2.2 j hj).trans (H.2.2.2 j hj)⟩
theorem dr_c {i c : Nat} {t : List Nat} (h : l.drop i = c :: t) : l[i]? = some c ∧ t = l.drop (i + 1) ∧ i < l.length := by
  have hi : i < l.length := by
    rcases Nat.lt_or_ge i l.length with z | z
    · exact z
    · rw [List.drop_eq_nil_of_le z] at h
      cases h
  obtain ⟨c', hc'⟩ : ∃ c', l[i]? = some c' := ⟨_, List.getElem?_eq_getElem hi⟩
  rw [drop_c hc'] at h
  cases h
  exact ⟨hc', rfl, hi⟩
theorem pt_ne {b : Bool} {p q i : Nat} (h : pt g b p q (l.drop i)) : ∃ c t, l.drop i = c :: t := by
  obtain ⟨S, W, h1, -⟩ := h
  match e : l.drop i with
  | [] => rw [e] at h1; exact h1.elim
  | c :: t => exact ⟨c, t, rfl⟩
/-- what the sort forces -/
theorem kS_t {b : Bool} {c : Nat} {ks : List Bool} (h1 : g.1.length ≤ 6) (h2 : g.2.length ≤ 4) (hk : kS (sg g) b c = some ks) : (b = true → c < 16 ∧ ¬ (7 ≤ c ∧ c < 10) ∧ (1 ≤ c → c < 4 → ks = [true, true]) ∧ (c = 4 ∨ c = 5 → ks = [true]) ∧ (c = 6 → ks = [false, false])) ∧ (b = false → 20 ≤ c ∧ (c < 24 ∨ 40 ≤ c) ∧ c < 72) := by
  have hg := kS_gap hk
  rcases kS_cases hk with ⟨z, a, e⟩ | ⟨z, a, a2, e⟩ | ⟨z, a, e⟩ | ⟨z, a, e⟩ | ⟨z, a, a2, e⟩ | ⟨z, a, a2, e⟩ | ⟨z, a, a2, e⟩
  · subst z; exact ⟨fun _ => ⟨by omega, hg, fun _ _ => by omega, fun _ => by omega, fun _ => by omega⟩, fun y => by cases y⟩
  · subst z; exact ⟨fun _ => ⟨by omega, hg, fun _ _ => e, fun _ => by omega, fun _ => by omega⟩, fun y => by cases y⟩
  · subst z; exact ⟨fun _ => ⟨by omega, hg, fun _ _ => by omega, fun _ => e, fun _ => by omega⟩, fun y => by cases y⟩
  · subst z; exact ⟨fun _ => ⟨by omega, hg, fun _ _ => by omega, fun _ => by omega, fun _ => e⟩, fun y => by cases y⟩
  · have a2 : c < 10 + g.1.length := a2
    subst z; exact ⟨fun _ => ⟨by omega, hg, fun _ _ => by omega, fun _ => by omega, fun _ => by omega⟩, fun y => by cases y⟩
  · have a2 : c < 20 + g.2.length := a2
    subst z; exact ⟨(fun y => by cases y), fun _ => ⟨by omega, by omega, by omega⟩⟩
  · subst z; exact ⟨(fun y => by cases y), fun _ => ⟨by omega, by omega, by omega⟩⟩
theorem JE_ok {s : ps_S} (F : JF rr sh th m g l) (H : JE s rr sh th m g l D fr) : g.1.length ≤ 6 ∧ g.2.length ≤ 4 ∧ ArW (sg g) (arh g) ∧ dgo m g D ∧ (∀ p, p < g.1.length → (g.1.getD p ([], 0)).2 ≤ 2) ∧ (∀ p, p < g.2.length → (g.2.getD p ([], 0)).2 ≤ 2) ∧ (∀ (i v : Nat), 60 + v ∈ l.drop i → fr v < m) ∧ (md_B m (md_sy m g)).length ≤ 90 := by
  obtain ⟨-, h3, h4, h5, h6, h7, h8⟩ := H
  have hl := md_o_le F.2.2.2.2.1.2 (md_sy_ar (m := m) h5) (md_sy m g).length (Nat.le_refl _)
  unfold md_o at hl
  rw [List.take_length, md_sy_len] at hl
  have g1 := h5.2.2.1
  have g2 := h5.2.2.2.1
  refine ⟨g1, g2, arh_k g1 g2, fun j b hb => (h7 j b hb).2, fun p hp => ?_, fun p hp => ?_, fun i v hv => (h8 v (List.mem_of_mem_drop hv)).2.2, by omega⟩
  · obtain ⟨w, hw⟩ := getD_2 (α := Nat) hp
    exact (h5.2.2.2.2.1 _ _ _ hw).2.1
  · obtain ⟨w, hw⟩ := getD_2 (α := Nat) hp
    exact (h5.2.2.2.2.2.1 _ _ _ hw).2.1
theorem EB_lt {s : ps_S} {env : List Nat} (E : EB s m env) : ∀ x, x ∈ env → x < m := fun x hx => by
  obtain ⟨k, hk⟩ := List.mem_iff_getElem?.mp hx
  exact (E k x hk).2
/-- the second part's place -/
theorem fs_104e {n i : Nat} {x1 : Int32} {s : ps_S} {R : Int32 → ps_S → Prop} (F : JF rr sh th m g l) (H : JE s rr sh th m g l D fr) (hx : x1.toInt = i) (hi : i < l.length) (k : ∀ v : Int32, v.toInt = (i + en (arh g) (l.drop i) 1 : Nat) → R v s) : pl_Cl n 104 [.ref (ps_r s 944 15), .int x1] s (ps_rI R) := by
  rw [H.1.2]
  exact fs_104 F.2.1 hx (by have := F.2.2.2.2.2; omega) (fun v q => k v (by rw [q]; exact H.2.2.1 i (Nat.zero_le _) hi))
theorem fs_92e {n i c : Nat} {x1 : Int32} {s : ps_S} {R : Int32 → ps_S → Prop} (F : JF rr sh th m g l) (H : JE s rr sh th m g l D fr) (hx : x1.toInt = i) (hc : l[i]? = some c) (k : ∀ v : Int32, v.toInt = c → R v s) : pl_Cl n 92 [.ref (ps_r s 944 14), .int x1] s (ps_rI R) := by
  rw [H.1.1]
  exact fs_92c F.1 H.2.1 hx hc k
theorem J19_ok {n : Nat} (F : JF rr sh th m g l) (h18 : J18P rr sh th m g l D fr n) : J19P rr sh th m g l D fr (n + 1) := by
  intro s x1 x2 x3 i p c b t env R H E h hd hc10 hc40 hx1 hx2 hx3 k
  obtain ⟨g1, g2, hA, hD, hr2, hf2, hfr, h90⟩ := JE_ok F H
  obtain ⟨hci, ht, hil⟩ := dr_c hd
  obtain ⟨hp, hq, hb, ks, hk⟩ := pt_c h
  have ha := hA b c ks hk
  have hks := kS_tms hk hc10
  have h40 := F.2.2.2.2.2
  have c1 : (1 : Int32).toInt = 1 := by decide
  have e13 : 13 - (p + 1) = 12 - p := by omega
  have hth := F.2.2.1
  show pl_At (n + 1) 19 0 [(0, .ref 944), (1, .int x1), (2, .int x2), (3, .int x3)] [] s (ps_rI R)
  refine pl_19_0 ?_
  refine fs_92e F H hx1 hci (fun v1 q1 => ?_)
  rw [H.2.2.2.2.1.1]
  refine fs_136c hth H.2.2.2.1 hk q1 (fun v2 q2 => ⟨fun z => ?_, fun z => ?_⟩)
  · have z := xne z
    have c0 : (0 : Int32).toInt = 0 := by decide
    match ks, ha, hk, hks with
    | [], ha, _, _ => rw [List.length_nil] at ha; omega
    | b1 :: ks', ha, hk, hks =>
      rw [List.length_cons, List.replicate_succ] at hks
      have hb1 : b1 = false := (List.cons.inj hks).1
      subst hb1
      have k1 := pt_1 hA h hk
      rw [qb_0 (by omega), Nat.add_zero, ht] at k1
      refine h18 H E k1 (xj1 hx1 (by omega)) hx2 (xj1 hx3 (by omega)) (fun v3 s3 q3 => ⟨fun z2 => ?_, fun z2 => ?_⟩)
      · have z2 := xne z2
        rw [List.length_cons] at ha
        match ks', ha, hk, hks with
        | [], ha, _, _ => rw [List.length_nil] at ha; omega
        | b2 :: ks'', ha, hk, hks =>
          rw [List.length_cons, List.replicate_succ] at hks
          have hb2 : b2 = false := (List.cons.inj (List.cons.inj hks).2).1
          subst hb2
          have h3 : ks''.length = 0 := by
            have a2 : arh g c ≤ 2 := by
              rcases kS_num hk with ⟨a, e⟩ | ⟨a, a2, e⟩ | ⟨a, e⟩ | ⟨a, e⟩ | ⟨a, a2, e⟩ | ⟨a, a2, e⟩ | ⟨a, a2, e⟩
              · omega
              · omega
              · omega
              · omega
              · have a2 : c < 10 + g.1.length := a2
                have e : _ = (g.1.getD (c - 10) ([], 0)).2 := e
                have := hr2 (c - 10) (by omega)
                rw [List.length_cons, List.length_cons] at e
                rw [List.length_cons] at ha
                omega
              · have a2 : c < 20 + g.2.length := a2
                have e : _ = (g.2.getD (c - 20) ([], 0)).2 := e
                have := hf2 (c - 20) (by omega)
                rw [List.length_cons, List.length_cons] at e
                rw [List.length_cons] at ha
                omega
              · omega
            rw [List.length_cons] at ha
            omega
          have h3 : ks'' = [] := List.eq_nil_of_length_eq_zero h3
          subst h3
          have k2 := pt_2 hA h hk (qb_0 (by omega))
          rw [ht, List.drop_drop] at k2
          obtain ⟨c', t', hd'⟩ := pt_ne k1
          have hil' := (dr_c hd').2.2
          refine fs_104e F q3.2.1 (xj1 hx1 (by omega)) hil' (fun v4 q4 => ?_)
          refine h18 q3.2.1 q3.2.2.1 k2 q4 hx2 (xj1 hx3 (by omega)) (fun v5 s5 q5 => ?_)
          rw [e13] at q3 q5
          have e11 : (ps_i s3 944 11).toInt = m := q3.2.1.2.2.2.2.1.2.1
          have hm3 := F.2.2.2.2.1
          have l3 := (sv_lt (k := 12 - p) g1 g2 hm3.1 hD hr2 hf2 k1 (hfr _) (EB_lt E)).2 rfl
          have l5 := (sv_lt (k := 12 - p) g1 g2 hm3.1 hD hr2 hf2 k2 (hfr _) (EB_lt E)).2 rfl
          refine k _ _ ⟨?_, JP_tr q3.2 q5.2⟩
          have hpr := pr_lt l3 l5
          have h9 : m * m ≤ 3 * 3 := Nat.mul_le_mul hm3.2 hm3.2
          have em : (v3 * (ps_i s3 944 11)).toInt = (svg m g D fr (12 - p) env (l.drop (i + 1)) * m : Nat) := by
            rw [xIm (by rw [q3.1, e11, ← Int.natCast_mul]; omega) (by rw [q3.1, e11, ← Int.natCast_mul]; omega), q3.1, e11, Int.natCast_mul]
          rw [xIa (by rw [em, q5.1]; omega) (by rw [em, q5.1]; omega), em, q5.1]
          unfold svi sv_i
          rw [List.length_cons, List.length_nil] at ha
          rw [if_neg (by omega), if_neg (by omega), ht, List.drop_drop]
          rfl
      · have z2 := xeq z2
        refine k _ _ ⟨?_, q3.2⟩
        rw [q3.1, e13]
        unfold svi sv_i
        rw [if_neg (by omega), if_pos (by omega), ht]
  · have z := xeq z
    have c0 : (0 : Int32).toInt = 0 := by decide
    refine k _ _ ⟨?_, JP_refl H E⟩
    unfold svi sv_i
    rw [if_pos (by omega)]
    rfl
theorem svi_lt {s : ps_S} {p c : Nat} {b : Bool} {t env : List Nat} {q : Nat} (F : JF rr sh th m g l) (H : JE s rr sh th m g l D fr) (E : EB s m env) (h : pt g b p env.length (c :: t)) (hc10 : 10 ≤ c) (hc40 : c < 40) (hsub : ∀ v, 60 + v ∈ t → fr v < m) : svi m g D fr q env c t < m ^ arh g c := by
  obtain ⟨g1, g2, hA, hD, hr2, hf2, hfr, h90⟩ := JE_ok F H
  obtain ⟨hp, hq, hb, ks, hk⟩ := pt_c h
  have ha := hA b c ks hk
  have ht := kS_tms hk hc10
  have hm3 := F.2.2.2.2.1
  have ha2 : arh g c ≤ 2 := by
    rcases kS_num hk with ⟨a, e⟩ | ⟨a, a2, e⟩ | ⟨a, e⟩ | ⟨a, e⟩ | ⟨a, a2, e⟩ | ⟨a, a2, e⟩ | ⟨a, a2, e⟩
    · omega
    · omega
    · omega
    · omega
    · have a2 : c < 10 + g.1.length := a2
      have e : ks.length = (g.1.getD (c - 10) ([], 0)).2 := e
      have := hr2 (c - 10) (by omega)
      omega
    · have a2 : c < 20 + g.2.length := a2
      have e : ks.length = (g.2.getD (c - 20) ([], 0)).2 := e
      have := hf2 (c - 20) (by omega)
      omega
    · omega
  unfold svi sv_i
  rw [← ha] at ht
  rcases (show arh g c = 0 ∨ arh g c = 1 ∨ arh g c = 2 by omega) with e | e | e
  · rw [if_pos e, e, Nat.pow_zero]
    exact Nat.one_pos
  · rw [if_neg (by omega), if_pos e, e, Nat.pow_one]
    rw [e] at ht
    rw [ht] at hk
    have k1 := pt_1 hA h hk
    rw [qb_0 (by omega), Nat.add_zero] at k1
    exact (sv_lt g1 g2 hm3.1 hD hr2 hf2 k1 hsub (EB_lt E)).2 rfl
  · rw [if_neg (by omega), if_neg (by omega), e]
    rw [e] at ht
    rw [ht] at hk
    have k1 := pt_1 hA h hk
    rw [qb_0 (by omega), Nat.add_zero] at k1
    have k2 := pt_2 hA h hk (qb_0 (by omega))
    rw [Nat.pow_succ, Nat.pow_one]
    exact pr_lt ((sv_lt g1 g2 hm3.1 hD hr2 hf2 k1 hsub (EB_lt E)).2 rfl) ((sv_lt g1 g2 hm3.1 hD hr2 hf2 k2 (fun v hv => hsub v (List.mem_of_mem_drop hv)) (EB_lt E)).2 rfl)
theorem J18_ok {n : Nat} (F : JF rr sh th m g l) (h19 : J19P rr sh th m g l D fr n) : J18P rr sh th m g l D fr (n + 1) := by
  intro s x1 x2 x3 i p env R H E h hx1 hx2 hx3 k
  obtain ⟨g1, g2, hA, hD, hr2, hf2, hfr, h90⟩ := JE_ok F H
  obtain ⟨c, t, hd⟩ := pt_ne h
  rw [hd] at h
  obtain ⟨hci, ht, hil⟩ := dr_c hd
  obtain ⟨hp, hq, hb, ks, hk⟩ := pt_c h
  have hs := (kS_t g1 g2 hk).2 rfl
  have c12 : (12 : Int32).toInt = 12 := by decide
  have c60 : (60 : Int32).toInt = 60 := by decide
  have c40 : (40 : Int32).toInt = 40 := by decide
  have c20 : (20 : Int32).toInt = 20 := by decide
  have c1 : (1 : Int32).toInt = 1 := by decide
  obtain ⟨q, eq⟩ : ∃ q, 13 - p = q + 1 := ⟨12 - p, by omega⟩
  have eq2 : q = 12 - p := by omega
  rw [hd, eq] at k
  have hm3 := F.2.2.2.2.1
  show pl_At (n + 1) 18 0 [(0, .ref 944), (1, .int x1), (2, .int x2), (3, .int x3)] [] s (ps_rI R)
  refine pl_18_0 ⟨fun z => ?_, fun z => absurd (xlt z) (by omega)⟩
  refine fs_92e F H hx1 hci (fun v1 q1 => ⟨fun z1 => ?_, fun z1 => ?_⟩)
  · have z1 := xlt z1
    refine fs_185 (fun y => ⟨fun w => absurd w (by decide), fun _ => ?_⟩) (fun y => ⟨fun _ => ?_, fun w => absurd rfl w⟩)
    · have hlt := hb (by omega) (by omega)
      obtain ⟨x, hx⟩ : ∃ x, env[c - 40]? = some x := ⟨_, List.getElem?_eq_getElem hlt⟩
      obtain ⟨e1, e2⟩ := E _ _ hx
      have ei : ((x2 - 1) - (v1 - 40)).toInt = (env.length - 1 - (c - 40) : Nat) := by
        have a1 : (x2 - 1).toInt = (env.length : Int) - 1 := by rw [xIs (by omega) (by omega), hx2, c1]
        have a2 : (v1 - 40).toInt = (c : Int) - 40 := by rw [xIs (by omega) (by omega), q1, c40]
        rw [xIs (by omega) (by omega), a1, a2]
        omega
      refine fs_182 (a := env.length - 1 - (c - 40)) ei (show _ < 5 from by omega) (by decide) ?_
      refine k _ _ ⟨?_, JP_refl H E⟩
      rw [svg, sv_y (by omega) (by omega), List.getD_eq_getElem?_getD, hx, e1]
      rfl
    · have hc24 : c < 24 := by omega
      have e20 : (v1 - 20).toInt = (c - 20 : Nat) := by rw [xIs (by omega) (by omega), q1, c20]; omega
      have hcl : c - 20 < g.2.length := by
        rcases kS_num hk with ⟨a, e⟩ | ⟨a, a2, e⟩ | ⟨a, e⟩ | ⟨a, e⟩ | ⟨a, a2, e⟩ | ⟨a, a2, e⟩ | ⟨a, a2, e⟩
        · omega
        · omega
        · omega
        · omega
        · have a2 : c < 10 + g.1.length := a2
          omega
        · have a2 : c < 20 + g.2.length := a2
          omega
        · omega
      refine fs_182v (a := c - 20) e20 (show c - 20 < 4 from by omega) (by decide) (fun v3 q3 => ?_)
      refine h19 H E h hd (by omega) (by omega) hx1 hx2 hx3 (fun v4 s4 q4 => ?_)
      have e3 : v3.toInt = (tfa m g (c - 20) : Nat) := by rw [q3]; exact H.2.2.2.2.1.2.2.2.2 (c - 20) hcl
      have l4 : svi m g D fr (12 - p) env c t < m ^ arh g c := svi_lt F H E h (by omega) (by omega) (by rw [ht]; exact hfr _)
      rcases tb_at g1 g2 hk (by omega) (by omega) l4 with ⟨w, -⟩ | ⟨-, w2, w3, w4⟩
      · cases w
      have hlt := (List.getElem?_eq_some_iff.mp w4).1
      have e5 : (v3 + v4).toInt = (tfa m g (c - 20) + svi m g D fr (12 - p) env c t : Nat) := by
        rw [xIa (by rw [e3, q4.1]; omega) (by rw [e3, q4.1]; omega), e3, q4.1]
        rfl
      refine fs_182 (a := tfa m g (c - 20) + svi m g D fr (12 - p) env c t) e5 (show _ < 90 from by omega) (by decide) ?_
      refine k _ _ ⟨?_, q4.2⟩
      rw [(q4.2.1.2.2.2.2.2.1 _ _ w4).1, svg, sv_f (by omega) (by omega), if_neg (by omega), eq2]
  · have z1 := xle z1
    have hv : 60 + (c - 60) ∈ l := by
      rw [show 60 + (c - 60) = c from by omega]
      exact List.mem_of_getElem? hci
    obtain ⟨y1, y2, y3⟩ := H.2.2.2.2.2.2 _ hv
    have e60 : (v1 - 60).toInt = (c - 60 : Nat) := by rw [xIs (by omega) (by omega), q1, c60]; omega
    refine fs_182 (a := c - 60) e60 (show c - 60 < 12 from y1) (by decide) ?_
    refine k _ _ ⟨?_, JP_refl H E⟩
    rw [svg, sv_x (by omega)]
    exact y2
/-- a formula of two -/
def J16P (rr sh th m : Nat) (g : tx_g) (l : List Nat) (D fr : Nat → Nat) (n : Nat) : Prop := ∀ {s : ps_S} {x1 x2 x3 : Int32} {i p c : Nat} {t : List Nat} {env : List Nat} {R : Int32 → ps_S → Prop}, JE s rr sh th m g l D fr → EB s m env → pt g true p env.length (c :: t) → l.drop i = c :: t → 1 ≤ c → c < 4 → x1.toInt = i → x2.toInt = env.length → x3.toInt = (p + 1 : Nat) → (∀ (v : Int32) (s' : ps_S), (v.toInt = 0 ∨ v.toInt = 1) ∧ (v.toInt = 1 ↔ svg m g D fr (13 - p) env (c :: t) = 1) ∧ JP rr sh th m g l D fr env s s' → R v s') → pl_Cl n 16 [.ref 944, .int x1, .int x2, .int x3] s (ps_rI R)
theorem sv_b1 {c a b : Nat} : (c = 1 → (sv_b c a b = 1 ↔ a = 1 ∧ b = 1)) ∧ (c = 2 → (sv_b c a b = 1 ↔ a = 1 ∨ b = 1)) ∧ (¬ c = 1 → ¬ c = 2 → (sv_b c a b = 1 ↔ (a = 1 → b = 1))) := by
  unfold sv_b
  refine ⟨fun h => ?_, fun h => ?_, fun h h' => ?_⟩
  · rw [if_pos h]
    by_cases z : a = 1 ∧ b = 1
    · rw [if_pos z]; exact ⟨fun _ => z, fun _ => rfl⟩
    · rw [if_neg z]; exact ⟨(fun y => by cases y), fun y => absurd y z⟩
  · rw [if_neg (by omega), if_pos h]
    by_cases z : a = 1 ∨ b = 1
    · rw [if_pos z]; exact ⟨fun _ => z, fun _ => rfl⟩
    · rw [if_neg z]; exact ⟨(fun y => by cases y), fun y => absurd y z⟩
  · rw [if_neg h, if_neg h']
    by_cases z : a = 1 ∧ ¬ b = 1
    · rw [if_pos z]; exact ⟨(fun y => by cases y), fun y => absurd (y z.1) z.2⟩
    · rw [if_neg z]; exact ⟨fun _ y => by omega, fun _ => rfl⟩
theorem J16_ok {n : Nat} (F : JF rr sh th m g l) (h15 : J15P rr sh th m g l D fr n) : J16P rr sh th m g l D fr (n + 1) := by
  intro s x1 x2 x3 i p c t env R H E h hd hc1 hc4 hx1 hx2 hx3 k
  obtain ⟨g1, g2, hA, hD, hr2, hf2, hfr, h90⟩ := JE_ok F H
  obtain ⟨hci, ht, hil⟩ := dr_c hd
  obtain ⟨hp, hq, hb, ks, hk⟩ := pt_c h
  have h40 := F.2.2.2.2.2
  have hks := ((kS_t g1 g2 hk).1 rfl).2.2.1 hc1 hc4
  subst hks
  have k1 := pt_1 hA h hk
  rw [qb_0 (by omega), Nat.add_zero, ht] at k1
  have k2 := pt_2 hA h hk (qb_0 (by omega))
  rw [ht, List.drop_drop] at k2
  obtain ⟨q, eq⟩ : ∃ q, 13 - p = q + 1 := ⟨12 - p, by omega⟩
  have eq2 : 13 - (p + 1) = q := by omega
  rw [eq, svg, sv_2 hc1 hc4, ht, List.drop_drop] at k
  have c1 : (1 : Int32).toInt = 1 := by decide
  have c2 : (2 : Int32).toInt = 2 := by decide
  have c0 : (0 : Int32).toInt = 0 := by decide
  obtain ⟨c', t', hd'⟩ := pt_ne k1
  have hil' := (dr_c hd').2.2
  obtain ⟨w1, w2, w3⟩ := sv_b1 (c := c) (a := svg m g D fr q env (l.drop (i + 1))) (b := svg m g D fr q env (l.drop (i + 1 + en (arh g) (l.drop (i + 1)) 1)))
  show pl_At (n + 1) 16 0 [(0, .ref 944), (1, .int x1), (2, .int x2), (3, .int x3)] [] s (ps_rI R)
  refine pl_16_0 ?_
  refine h15 H E k1 (xj1 hx1 (by omega)) hx2 hx3 (fun v1 s1 q1 => ?_)
  obtain ⟨b1, i1, P1⟩ := q1
  rw [eq2] at i1
  refine fs_92e F P1.1 hx1 hci (fun v2 q2 => ?_)
  have two : ∀ {R' : Int32 → ps_S → Prop}, (∀ (v : Int32) (s' : ps_S), (v.toInt = 0 ∨ v.toInt = 1) ∧ (v.toInt = 1 ↔ svg m g D fr q env (l.drop (i + 1 + en (arh g) (l.drop (i + 1)) 1)) = 1) ∧ JP rr sh th m g l D fr env s s' → R' v s') → pl_Cl n 104 [.ref (ps_r s1 944 15), .int (x1 + 1)] s1 (ps_rI (fun v3 s3 => pl_Cl n 15 [.ref 944, .int v3, .int x2, .int x3] s3 (ps_rI R'))) := fun kk => by
    refine fs_104e F P1.1 (xj1 hx1 (by omega)) hil' (fun v3 q3 => ?_)
    refine h15 P1.1 P1.2.1 k2 q3 hx2 hx3 (fun v s' q => kk v s' ?_)
    rw [eq2] at q
    exact ⟨q.1, q.2.1, JP_tr P1 q.2.2⟩
  refine ⟨fun z => ⟨fun y => ?_, fun y => ?_⟩, fun z => ⟨fun z2 => ⟨fun y => ?_, fun y => ?_⟩, fun z2 => ⟨fun y => ?_, fun y => ?_⟩⟩⟩
  · have y := xeq y
    have z := xeq z
    refine k _ _ ⟨Or.inl rfl, ⟨fun a => absurd a (by decide), fun a => absurd ((w1 (by omega)).mp a).1 (fun a2 => by have := i1.mpr a2; omega)⟩, P1⟩
  · have y := xne y
    have z := xeq z
    refine two (fun v s' q => ⟨fun a => ?_, fun a => ?_⟩)
    · have a := xeq a
      refine k _ _ ⟨Or.inl rfl, ⟨fun a2 => absurd a2 (by decide), fun a2 => absurd ((w1 (by omega)).mp a2).2 (fun a3 => by have := q.2.1.mpr a3; omega)⟩, q.2.2⟩
    · have a := xne a
      refine k _ _ ⟨Or.inr rfl, ⟨fun _ => (w1 (by omega)).mpr ⟨i1.mp (by omega), q.2.1.mp (by omega)⟩, fun _ => rfl⟩, q.2.2⟩
  · have y := xne y
    have z2 := xeq z2
    refine k _ _ ⟨Or.inr rfl, ⟨fun _ => (w2 (by omega)).mpr (Or.inl (i1.mp (by omega))), fun _ => rfl⟩, P1⟩
  · have y := xeq y
    have z2 := xeq z2
    refine two (fun v s' q => ⟨fun a => ?_, fun a => ?_⟩)
    · have a := xeq a
      refine k _ _ ⟨Or.inl rfl, ⟨fun a2 => absurd a2 (by decide), fun a2 => ?_⟩, q.2.2⟩
      rcases (w2 (by omega)).mp a2 with a3 | a3
      · have := i1.mpr a3; omega
      · have := q.2.1.mpr a3; omega
    · have a := xne a
      refine k _ _ ⟨Or.inr rfl, ⟨fun _ => (w2 (by omega)).mpr (Or.inr (q.2.1.mp (by omega))), fun _ => rfl⟩, q.2.2⟩
  · have y := xeq y
    have z := xne z
    have z2 := xne z2
    refine k _ _ ⟨Or.inr rfl, ⟨fun _ => (w3 (by omega) (by omega)).mpr (fun a => by have := i1.mpr a; omega), fun _ => rfl⟩, P1⟩
  · have y := xne y
    have z := xne z
    have z2 := xne z2
    refine two (fun v s' q => ⟨fun a => ?_, fun a => ?_⟩)
    · have a := xeq a
      refine k _ _ ⟨Or.inl rfl, ⟨fun a2 => absurd a2 (by decide), fun a2 => ?_⟩, q.2.2⟩
      have := q.2.1.mpr ((w3 (by omega) (by omega)).mp a2 (i1.mp (by omega)))
      omega
    · have a := xne a
      refine k _ _ ⟨Or.inr rfl, ⟨fun _ => (w3 (by omega) (by omega)).mpr (fun _ => q.2.1.mp (by omega)), fun _ => rfl⟩, q.2.2⟩
/-- all or some -/
def J17P (rr sh th m : Nat) (g : tx_g) (l : List Nat) (D fr : Nat → Nat) (n : Nat) : Prop := ∀ {s : ps_S} {x1 x2 x3 : Int32} {i p c : Nat} {t : List Nat} {env : List Nat} {R : Int32 → ps_S → Prop}, JE s rr sh th m g l D fr → EB s m env → pt g true p env.length (c :: t) → l.drop i = c :: t → (c = 4 ∨ c = 5) → x1.toInt = i → x2.toInt = env.length → x3.toInt = p → (∀ (v : Int32) (s' : ps_S), (v.toInt = 0 ∨ v.toInt = 1) ∧ (v.toInt = 1 ↔ svg m g D fr (13 - p) env (c :: t) = 1) ∧ JP rr sh th m g l D fr env s s' → R v s') → pl_Cl n 17 [.ref 944, .int x1, .int x2, .int x3] s (ps_rI R)
theorem sv_q1 {m c : Nat} {f : Nat → Nat} : (c = 4 → (sv_q c ((List.range m).map f) = 1 ↔ ∀ x, x < m → f x = 1)) ∧ (¬ c = 4 → (sv_q c ((List.range m).map f) = 1 ↔ ∃ x, x < m ∧ f x = 1)) := by
  unfold sv_q
  refine ⟨fun h => ?_, fun h => ?_⟩
  · rw [if_pos h]
    by_cases z : ((List.range m).map f).all (fun v => v == 1) = true
    · rw [if_pos z]
      refine ⟨fun _ x hx => ?_, fun _ => rfl⟩
      have := List.all_eq_true.mp z (f x) (List.mem_map.mpr ⟨x, List.mem_range.mpr hx, rfl⟩)
      exact eq_of_beq this
    · rw [if_neg z]
      refine ⟨(fun y => by cases y), fun y => absurd (List.all_eq_true.mpr (fun v hv => ?_)) z⟩
      obtain ⟨x, hx, rfl⟩ := List.mem_map.mp hv
      rw [y x (List.mem_range.mp hx)]
      rfl
  · rw [if_neg h]
    by_cases z : ((List.range m).map f).any (fun v => v == 1) = true
    · rw [if_pos z]
      refine ⟨fun _ => ?_, fun _ => rfl⟩
      obtain ⟨v, hv, e⟩ := List.any_eq_true.mp z
      obtain ⟨x, hx, rfl⟩ := List.mem_map.mp hv
      exact ⟨x, List.mem_range.mp hx, eq_of_beq e⟩
    · rw [if_neg z]
      refine ⟨(fun y => by cases y), fun ⟨x, hx, e⟩ => absurd (List.any_eq_true.mpr ⟨f x, List.mem_map.mpr ⟨x, List.mem_range.mpr hx, rfl⟩, by rw [e]; rfl⟩) z⟩
theorem J17_22 {n0 : Nat} (F : JF rr sh th m g l) (h15 : J15P rr sh th m g l D fr n0) {s0 : ps_S} {x1 x2 x3 x4 : Int32} {i p c : Nat} {env : List Nat} {R : Int32 → ps_S → Prop} (hl5 : env.length < 5) (k1 : pt g true (p + 1) (env.length + 1) (l.drop (i + 1))) (hi : i < l.length) (hx1 : x1.toInt = i) (hx2 : x2.toInt = env.length) (hx3 : x3.toInt = p) (hp : p ≤ 12) (hc : c = 4 ∨ c = 5) (h4 : x4.toInt = (if c = 4 then 1 else 0)) (k : ∀ (v : Int32) (s' : ps_S), (v.toInt = 0 ∨ v.toInt = 1) ∧ (v.toInt = 1 ↔ sv_q c ((List.range m).map (fun x => svg m g D fr (12 - p) (x :: env) (l.drop (i + 1)))) = 1) ∧ JP rr sh th m g l D fr env s0 s' → R v s') : ∀ (n : Nat) {s : ps_S} {x5 : Int32} {j : Nat}, n ≤ n0 → JP rr sh th m g l D fr env s0 s → x5.toInt = j → (∀ x, x < j → (c = 4 → svg m g D fr (12 - p) (x :: env) (l.drop (i + 1)) = 1) ∧ (c = 5 → ¬ svg m g D fr (12 - p) (x :: env) (l.drop (i + 1)) = 1)) → pl_At n 17 22 [(0, .ref 944), (1, .int x1), (2, .int x2), (3, .int x3), (4, .int x4), (5, .int x5)] [] s (ps_rI R)
  | 0, _, _, _, _, _, _, _ => pl_At_0
  | n + 1, s, x5, j, hn, P, hx5, hj => by
    have h40 := F.2.2.2.2.2
    have hm3 := F.2.2.2.2.1
    have e11 : (ps_i s 944 11).toInt = m := P.1.2.2.2.2.1.2.1
    have e12 : 13 - (p + 1) = 12 - p := by omega
    have c1 : (1 : Int32).toInt = 1 := by decide
    have c0 : (0 : Int32).toInt = 0 := by decide
    obtain ⟨w1, w2⟩ := sv_q1 (m := m) (c := c) (f := fun x => svg m g D fr (12 - p) (x :: env) (l.drop (i + 1)))
    refine pl_17_22 ⟨fun z => ?_, fun z => ?_⟩
    · have z := xle z
      refine pl_nk_i (fun _ => k _ _ ⟨?_, ⟨fun a => ?_, fun a => ?_⟩, P⟩)
      · rw [h4]; split <;> omega
      · have h : c = 4 := by
          rcases hc with h | h
          · exact h
          · rw [if_neg (by omega)] at h4; omega
        exact (w1 h).mpr (fun x hx => (hj x (by omega)).1 h)
      · rw [h4]
        by_cases h : c = 4
        · rw [if_pos h]
        · obtain ⟨x, hx, e⟩ := (w2 h).mp a
          have h5 : c = 5 := hc.resolve_left h
          exact ((hj x (by omega)).2 h5 e).elim
    · have z := xlt z
      refine fs_183 (a := env.length) hx2 (show env.length < 5 from hl5) (by decide) ?_
      have K : jq 944 [954] [] s (ps_ua s 954 env.length x5) := jqa jq_refl rfl
      have H2 := JE_jq F P.1 K
      have E2 : EB (ps_ua s 954 env.length x5) m (j :: env) := fun q x hq => by
        rw [List.length_cons, ps_a_ua]
        cases q with
        | zero =>
          rw [List.getElem?_cons_zero] at hq
          cases hq
          rw [if_pos ⟨rfl, by omega⟩]
          exact ⟨hx5, by omega⟩
        | succ q =>
          rw [List.getElem?_cons_succ] at hq
          have hl := (List.getElem?_eq_some_iff.mp hq).1
          rw [if_neg (by omega), show env.length + 1 - 1 - (q + 1) = env.length - 1 - q from by omega]
          exact P.2.1 q x hq
      refine (h15 (env := j :: env) H2 E2 k1 (xj1 hx1 (by omega)) (by rw [List.length_cons]; exact xj1 hx2 (by omega)) (xj1 hx3 (by omega)) (fun v s2 q => ?_)).le (by omega)
      obtain ⟨b1, i1, P2⟩ := q
      rw [e12] at i1
      have P3 : JP rr sh th m g l D fr env s0 s2 := by
        refine JP_tr P ⟨P2.1, fun q x hq => ?_, jqt K P2.2.2.1 (by decide) (by decide), fun q hq => ?_⟩
        · have hl := (List.getElem?_eq_some_iff.mp hq).1
          have := P2.2.1 (q + 1) x (by rw [List.getElem?_cons_succ]; exact hq)
          rw [List.length_cons, show env.length + 1 - 1 - (q + 1) = env.length - 1 - q from by omega] at this
          exact this
        · rw [P2.2.2.2 q (by rw [List.length_cons]; omega), ps_a_ua, if_neg (by omega)]
      refine ⟨fun y => ?_, fun y => ?_⟩
      · have y := xeq y
        refine J17_22 F h15 hl5 k1 hi hx1 hx2 hx3 hp hc h4 k n (by omega) P3 (xj1 hx5 (by omega)) (fun x hx => ?_)
        rcases Nat.lt_or_ge x j with q | q
        · exact hj x q
        · rw [show x = j from by omega]
          refine ⟨fun h => i1.mp (by rw [y, h4, if_pos h]), fun h e => ?_⟩
          have := i1.mpr e
          rw [y, h4, if_neg (by omega)] at this
          omega
      · have y := xne y
        refine ⟨fun a => ?_, fun a => ?_⟩
        · have a := xne a
          have h : c = 4 := by
            rcases hc with h | h
            · exact h
            · rw [if_neg (by omega)] at h4; omega
          rw [if_pos h] at h4
          refine k _ _ ⟨Or.inl rfl, ⟨fun b => absurd b (by decide), fun b => ?_⟩, P3⟩
          have := i1.mpr ((w1 h).mp b j (by omega))
          omega
        · have a := xeq a
          have h : ¬ c = 4 := fun h => by rw [if_pos h] at h4; omega
          rw [if_neg h] at h4
          exact k _ _ ⟨Or.inr rfl, ⟨fun _ => (w2 h).mpr ⟨j, by omega, i1.mp (by omega)⟩, fun _ => rfl⟩, P3⟩
theorem J17_ok {n : Nat} (F : JF rr sh th m g l) (h15 : J15P rr sh th m g l D fr n) : J17P rr sh th m g l D fr (n + 1) := by
  intro s x1 x2 x3 i p c t env R H E h hd hc hx1 hx2 hx3 k
  obtain ⟨g1, g2, hA, hD, hr2, hf2, hfr, h90⟩ := JE_ok F H
  obtain ⟨hci, ht, hil⟩ := dr_c hd
  obtain ⟨hp, hq, hb, ks, hk⟩ := pt_c h
  have hks := ((kS_t g1 g2 hk).1 rfl).2.2.2.1 hc
  subst hks
  have k1 := pt_1 hA h hk
  rw [qb_1 hc, ht] at k1
  have hl5 : env.length < 5 := by
    obtain ⟨c', t', hd'⟩ := pt_ne k1
    obtain ⟨S, W, -, h2⟩ := k1
    rw [hd'] at h2
    obtain ⟨bb, kk, W', ks', e, hk', -, -⟩ := wf_cons.mp h2
    cases e
    omega
  obtain ⟨q, eq⟩ : ∃ q, 13 - p = q + 1 := ⟨12 - p, by omega⟩
  have eq2 : q = 12 - p := by omega
  rw [eq, svg, sv_4 hc, ht, eq2] at k
  have c4 : (4 : Int32).toInt = 4 := by decide
  show pl_At (n + 1) 17 0 [(0, .ref 944), (1, .int x1), (2, .int x2), (3, .int x3)] [] s (ps_rI R)
  refine pl_17_0 ?_
  refine fs_92e F H hx1 hci (fun v1 q1 => ⟨fun z => ?_, fun z => ?_⟩)
  · have z := xne z
    exact J17_22 F h15 hl5 k1 hil hx1 hx2 hx3 hp hc (by rw [if_neg (by omega)]; rfl) k n (Nat.le_refl _) (JP_refl H E) rfl (fun x hx => absurd hx (Nat.not_lt_zero _))
  · have z := xeq z
    exact J17_22 F h15 hl5 k1 hil hx1 hx2 hx3 hp hc (by rw [if_pos (by omega)]; rfl) k n (Nat.le_refl _) (JP_refl H E) rfl (fun x hx => absurd hx (Nat.not_lt_zero _))
theorem J15_ok {n : Nat} (F : JF rr sh th m g l) (h16 : J16P rr sh th m g l D fr n) (h17 : J17P rr sh th m g l D fr n) (h18 : J18P rr sh th m g l D fr n) (h19 : J19P rr sh th m g l D fr n) : J15P rr sh th m g l D fr (n + 1) := by
  intro s x1 x2 x3 i p env R H E h hx1 hx2 hx3 k
  obtain ⟨g1, g2, hA, hD, hr2, hf2, hfr, h90⟩ := JE_ok F H
  obtain ⟨c, t, hd⟩ := pt_ne h
  rw [hd] at h k
  obtain ⟨hci, ht, hil⟩ := dr_c hd
  obtain ⟨hp, hq, hb, ks, hk⟩ := pt_c h
  obtain ⟨hs1, hs2, hs3, hs4, hs5⟩ := (kS_t g1 g2 hk).1 rfl
  have h40 := F.2.2.2.2.2
  have c12 : (12 : Int32).toInt = 12 := by decide
  have c10 : (10 : Int32).toInt = 10 := by decide
  have c6 : (6 : Int32).toInt = 6 := by decide
  have c5 : (5 : Int32).toInt = 5 := by decide
  have c4 : (4 : Int32).toInt = 4 := by decide
  have c3 : (3 : Int32).toInt = 3 := by decide
  have c2 : (2 : Int32).toInt = 2 := by decide
  have c1 : (1 : Int32).toInt = 1 := by decide
  have c0 : (0 : Int32).toInt = 0 := by decide
  show pl_At (n + 1) 15 0 [(0, .ref 944), (1, .int x1), (2, .int x2), (3, .int x3)] [] s (ps_rI R)
  refine pl_15_0 ⟨fun z => ?_, fun z => absurd (xlt z) (by omega)⟩
  refine fs_92e F H hx1 hci (fun v1 q1 => ?_)
  have two : 1 ≤ c → c < 4 → pl_Cl n 16 [.ref 944, .int x1, .int x2, .int (x3 + 1)] s (ps_rI (fun v2 s2 => pl_nk (decide (v2 &&& 1 = v2)) (ps_rI R (some (.int v2)) s2))) := fun a b => h16 H E h hd a b hx1 hx2 (xj1 hx3 (by omega)) (fun v s' q => pl_nk_i (fun _ => k v s' q))
  have qu : (c = 4 ∨ c = 5) → pl_Cl n 17 [.ref 944, .int x1, .int x2, .int x3] s (ps_rI (fun v2 s2 => pl_nk (decide (v2 &&& 1 = v2)) (ps_rI R (some (.int v2)) s2))) := fun a => h17 H E h hd a hx1 hx2 hx3 (fun v s' q => pl_nk_i (fun _ => k v s' q))
  refine ⟨fun z0 => ?_, fun z0 => ⟨fun z1 => ?_, fun z1 => ⟨fun z2 => ?_, fun z2 => ⟨fun z3 => ?_, fun z3 => ⟨fun z4 => ?_, fun z4 => ⟨fun z5 => ?_, fun z5 => ⟨fun z6 => ?_, fun z6 => ?_⟩⟩⟩⟩⟩⟩⟩
  · have z0 := xeq z0
    have e : c = 0 := by omega
    subst e
    obtain ⟨q, eq⟩ : ∃ q, 13 - p = q + 1 := ⟨12 - p, by omega⟩
    refine k _ _ ⟨Or.inl rfl, ⟨fun a => absurd a (by decide), fun a => ?_⟩, JP_refl H E⟩
    rw [eq, svg, sv_0] at a
    cases a
  · have z1 := xeq z1
    exact two (by omega) (by omega)
  · have z2 := xeq z2
    exact two (by omega) (by omega)
  · have z3 := xeq z3
    exact two (by omega) (by omega)
  · have z4 := xeq z4
    exact qu (by omega)
  · have z5 := xeq z5
    exact qu (by omega)
  · have z6 := xeq z6
    have e : c = 6 := by omega
    subst e
    have hks := hs5 rfl
    subst hks
    have k1 := pt_1 hA h hk
    rw [qb_0 (by omega), Nat.add_zero, ht] at k1
    have k2 := pt_2 hA h hk (qb_0 (by omega))
    rw [ht, List.drop_drop] at k2
    obtain ⟨q, eq⟩ : ∃ q, 13 - p = q + 1 := ⟨12 - p, by omega⟩
    have eq2 : 13 - (p + 1) = q := by omega
    rw [eq, svg, sv_6, ht, List.drop_drop] at k
    obtain ⟨c', t', hd'⟩ := pt_ne k1
    have hil' := (dr_c hd').2.2
    refine h18 H E k1 (xj1 hx1 (by omega)) hx2 (xj1 hx3 (by omega)) (fun v3 s3 q3 => ?_)
    refine fs_104e F q3.2.1 (xj1 hx1 (by omega)) hil' (fun v4 q4 => ?_)
    refine h18 q3.2.1 q3.2.2.1 k2 q4 hx2 (xj1 hx3 (by omega)) (fun v5 s5 q5 => ?_)
    rw [eq2] at q3 q5
    refine ⟨fun y => ?_, fun y => ?_⟩
    · have y := xne y
      refine k _ _ ⟨Or.inl rfl, ⟨fun a => absurd a (by decide), fun a => ?_⟩, JP_tr q3.2 q5.2⟩
      rw [if_neg (fun b => by rw [q3.1, q5.1] at y; exact y (by rw [svg, b]))] at a
      cases a
    · have y := xeq y
      refine k _ _ ⟨Or.inr rfl, ⟨fun _ => ?_, fun _ => rfl⟩, JP_tr q3.2 q5.2⟩
      rw [if_pos (by rw [q3.1, q5.1] at y; exact Int.ofNat.inj y)]
  · have z0 := xne z0
    have z1 := xne z1
    have z2 := xne z2
    have z3 := xne z3
    have z4 := xne z4
    have z5 := xne z5
    have z6 := xne z6
    have hc10 : 10 ≤ c := by omega
    have e10 : (v1 - 10).toInt = (c - 10 : Nat) := by rw [xIs (by omega) (by omega), q1, c10]; omega
    refine fs_182v (a := c - 10) e10 (show c - 10 < 6 from by omega) (by decide) (fun v3 q3 => ?_)
    refine h19 H E h hd hc10 (by omega) hx1 hx2 hx3 (fun v4 s4 q4 => ?_)
    have l4 : svi m g D fr (12 - p) env c t < m ^ arh g c := svi_lt F H E h hc10 (by omega) (by rw [ht]; exact hfr _)
    rcases tb_at g1 g2 hk hc10 (by omega) l4 with ⟨-, w2, w3, w4⟩ | ⟨w, -⟩
    · have e3 : v3.toInt = (tra m g (c - 10) : Nat) := by rw [q3]; exact H.2.2.2.2.1.2.2.2.1 (c - 10) w3
      have hlt := (List.getElem?_eq_some_iff.mp w4).1
      have e5 : (v3 + v4).toInt = (tra m g (c - 10) + svi m g D fr (12 - p) env c t : Nat) := by
        rw [xIa (by rw [e3, q4.1]; omega) (by rw [e3, q4.1]; omega), e3, q4.1]
        rfl
      have y := (q4.2.1.2.2.2.2.2.1 _ _ w4).1
      obtain ⟨q, eq⟩ : ∃ q, 13 - p = q + 1 := ⟨12 - p, by omega⟩
      have eq2 : q = 12 - p := by omega
      rw [eq, svg, sv_f hc10 (by omega), if_pos w2, eq2] at k
      refine fs_182v (a := tra m g (c - 10) + svi m g D fr (12 - p) env c t) e5 (show _ < 90 from by omega) (by decide) (fun v12 q12 => ⟨fun a => ?_, fun a => ?_⟩)
      · have a := xne a
        refine k _ _ ⟨Or.inl rfl, ⟨fun b => absurd b (by decide), fun b => ?_⟩, q4.2⟩
        have b : D (tra m g (c - 10) + svi m g D fr (12 - p) env c t) = 1 := b
        rw [q12, y, b] at a
        exact absurd rfl a
      · have a := xeq a
        refine k _ _ ⟨Or.inr rfl, ⟨fun _ => ?_, fun _ => rfl⟩, q4.2⟩
        show D (tra m g (c - 10) + svi m g D fr (12 - p) env c t) = 1
        rw [q12, y] at a
        omega
    · cases w
theorem J15_all (F : JF rr sh th m g l) : ∀ n, (J15P rr sh th m g l D fr n ∧ J16P rr sh th m g l D fr n) ∧ (J17P rr sh th m g l D fr n ∧ J18P rr sh th m g l D fr n) ∧ J19P rr sh th m g l D fr n
  | 0 => ⟨⟨fun _ _ _ _ _ _ _ => pl_At_0, fun _ _ _ _ _ _ _ _ _ _ => pl_At_0⟩, ⟨fun _ _ _ _ _ _ _ _ _ => pl_At_0, fun _ _ _ _ _ _ _ => pl_At_0⟩, fun _ _ _ _ _ _ _ _ _ _ => pl_At_0⟩
  | n + 1 => by
    obtain ⟨⟨h15, h16⟩, ⟨h17, h18⟩, h19⟩ := J15_all F n
    exact ⟨⟨J15_ok F h16 h17 h18 h19, J16_ok F h15⟩, ⟨J17_ok F h15, J18_ok F h19⟩, J19_ok F h18⟩
end J15
end
section
set_option maxRecDepth 100000
/-! the class: models gone through; what was found once is kept -/
-- ProofBench$Judge.setDigits(I)V
theorem pl_8_0 {n : Nat} {x1 : Int32} {s : ps_S} {Q : Option Value → ps_S → Prop} (h :
  pl_At n 8 9 [(0, .ref 944), (2, .int x1), (3, .int ((ps_i s 944 2) - 1))] [] s Q) : pl_At (n + 1) 8 0 [(0, .ref 944), (1, .int x1)] [] s Q :=
  pl_wp_at (stops := [(9, [0, 2, 3])]) (f := 9) h rfl

theorem pl_8_9 {n : Nat} {x2 : Int32} {x3 : Int32} {s : ps_S} {Q : Option Value → ps_S → Prop} (h :
  (x3 < 0 →
    Q none s) ∧
  (0 ≤ x3 →
    pl_Cl n 182 [.ref 945, .int x3] s (ps_rI (fun v1 s1 =>
      (v1 ≤ 0 →
        pl_At n 8 9 [(0, .ref 944), (2, .int x2), (3, .int (x3 + (-1)))] [] s1 Q) ∧
      (0 < v1 →
        pl_nk (!decide (v1 = 0)) (pl_Cl n 183 [.ref 946, .int x3, .int (x2 - (x2 / v1) * v1)] s1 (ps_rV (fun s2 =>
          pl_nk (!decide (v1 = 0)) (pl_At n 8 9 [(0, .ref 944), (2, .int (x2 / v1)), (3, .int (x3 + (-1)))] [] s2 Q))))))))) : pl_At (n + 1) 8 9 [(0, .ref 944), (2, .int x2), (3, .int x3)] [] s Q :=
  pl_wp_at (stops := [(9, [0, 2, 3])]) (f := 27) h rfl

-- ProofBench$Judge.measureAxioms()V
theorem pl_9_0 {n : Nat} {s : ps_S} {Q : Option Value → ps_S → Prop} (h :
  pl_At n 9 2 [(0, .ref 944), (1, .int 0)] [] s Q) : pl_At (n + 1) 9 0 [(0, .ref 944)] [] s Q :=
  pl_wp_at (stops := [(2, [0, 1])]) (f := 4) h rfl

theorem pl_9_2 {n : Nat} {x1 : Int32} {s : ps_S} {Q : Option Value → ps_S → Prop} (h :
  pl_nk (ps_is (ps_r s 944 16) 9) (((ps_i s (ps_r s 944 16) 8) ≤ x1 →
    Q none s) ∧
  (x1 < (ps_i s (ps_r s 944 16) 8) →
    pl_Cl n 10 [.ref 944, .int x1] s (ps_rA (fun v1 s1 =>
      pl_Cl n 135 [.ref (ps_r s1 944 16), .int x1] s1 (ps_rA (fun v2 s2 =>
        pl_Cl n 103 [.ref v1, .ref v2, .ref (ps_r s2 944 16)] s2 (ps_rV (fun s3 =>
          pl_At n 9 2 [(0, .ref 944), (1, .int (x1 + 1))] [] s3 Q))))))))) : pl_At (n + 1) 9 2 [(0, .ref 944), (1, .int x1)] [] s Q :=
  pl_wp_at (stops := [(2, [0, 1])]) (f := 20) h rfl

-- ProofBench$Judge.shapeAt(I)LProofBench$Shape;
theorem pl_10_0 {n : Nat} {x1 : Int32} {s : ps_S} {Q : Option Value → ps_S → Prop} (h :
  (x1 < 0 →
    Q (some (.ref 950)) s) ∧
  (0 ≤ x1 →
    ((nI 8) ≤ x1 →
      Q (some (.ref 950)) s) ∧
    (x1 < (nI 8) →
      (pm_in x1 8 = true →
        Q (some (.ref (ps_e0 949 (Int32.toNatClampNeg x1)))) s)))) : pl_At (n + 1) 10 0 [(0, .ref 944), (1, .int x1)] [] s Q :=
  pl_wp_at (stops := []) (f := 21) h rfl

-- ProofBench$Judge.isGood(I)Z
theorem pl_11_0 {n : Nat} {x1 : Int32} {s : ps_S} {Q : Option Value → ps_S → Prop} (h :
  (((((ps_i s 944 11) - 1) * 64) + (x1 / 64)) < 0 →
    Q (some (.int 0)) s) ∧
  (0 ≤ ((((ps_i s 944 11) - 1) * 64) + (x1 / 64)) →
    ((nI 192) ≤ ((((ps_i s 944 11) - 1) * 64) + (x1 / 64)) →
      Q (some (.int 0)) s) ∧
    (((((ps_i s 944 11) - 1) * 64) + (x1 / 64)) < (nI 192) →
      (((((ps_i s 944 11) - 1) * 64) + (x1 / 64)) < (nI 192) →
        (pm_in ((((ps_i s 944 11) - 1) * 64) + (x1 / 64)) 192 = true →
          ((lg_cmp ((ps_b s 957 (Int32.toNatClampNeg ((((ps_i s 944 11) - 1) * 64) + (x1 / 64)))) &&& ((1 : Int64) <<< (Int32.toInt64 (x1 - (x1 / 64) * 64) &&& 63))) 0) ≠ 0 →
            pl_At n 11 106 [(0, .ref 944), (2, .int ((((ps_i s 944 11) - 1) * 64) + (x1 / 64))), (3, .long ((1 : Int64) <<< (Int32.toInt64 (x1 - (x1 / 64) * 64) &&& 63)))] [] s Q) ∧
          ((lg_cmp ((ps_b s 957 (Int32.toNatClampNeg ((((ps_i s 944 11) - 1) * 64) + (x1 / 64)))) &&& ((1 : Int64) <<< (Int32.toInt64 (x1 - (x1 / 64) * 64) &&& 63))) 0) = 0 →
            (pm_in ((((ps_i s 944 11) - 1) * 64) + (x1 / 64)) 192 = true →
              (pm_in ((((ps_i s 944 11) - 1) * 64) + (x1 / 64)) 192 = true →
                pl_Cl n 12 [.ref 944, .int x1] (ps_ub s 957 (Int32.toNatClampNeg ((((ps_i s 944 11) - 1) * 64) + (x1 / 64))) ((ps_b s 957 (Int32.toNatClampNeg ((((ps_i s 944 11) - 1) * 64) + (x1 / 64)))) ||| ((1 : Int64) <<< (Int32.toInt64 (x1 - (x1 / 64) * 64) &&& 63)))) (ps_rI (fun v1 s1 =>
                  (v1 = 0 →
                    (pm_in ((((ps_i s 944 11) - 1) * 64) + (x1 / 64)) 192 = true →
                      (pm_in ((((ps_i s 944 11) - 1) * 64) + (x1 / 64)) 192 = true →
                        pl_At n 11 106 [(0, .ref 944), (2, .int ((((ps_i s 944 11) - 1) * 64) + (x1 / 64))), (3, .long ((1 : Int64) <<< (Int32.toInt64 (x1 - (x1 / 64) * 64) &&& 63)))] [] (ps_ub s1 958 (Int32.toNatClampNeg ((((ps_i s 944 11) - 1) * 64) + (x1 / 64))) ((ps_b s1 958 (Int32.toNatClampNeg ((((ps_i s 944 11) - 1) * 64) + (x1 / 64)))) &&& (((1 : Int64) <<< (Int32.toInt64 (x1 - (x1 / 64) * 64) &&& 63)) ^^^ (-1 : Int64)))) Q))) ∧
                  (v1 ≠ 0 →
                    (pm_in ((((ps_i s 944 11) - 1) * 64) + (x1 / 64)) 192 = true →
                      (pm_in ((((ps_i s 944 11) - 1) * 64) + (x1 / 64)) 192 = true →
                        pl_At n 11 106 [(0, .ref 944), (2, .int ((((ps_i s 944 11) - 1) * 64) + (x1 / 64))), (3, .long ((1 : Int64) <<< (Int32.toInt64 (x1 - (x1 / 64) * 64) &&& 63)))] [] (ps_ub s1 958 (Int32.toNatClampNeg ((((ps_i s 944 11) - 1) * 64) + (x1 / 64))) ((ps_b s1 958 (Int32.toNatClampNeg ((((ps_i s 944 11) - 1) * 64) + (x1 / 64)))) ||| ((1 : Int64) <<< (Int32.toInt64 (x1 - (x1 / 64) * 64) &&& 63)))) Q)))))))))) ∧
      ((nI 192) ≤ ((((ps_i s 944 11) - 1) * 64) + (x1 / 64)) →
        Q (some (.int 0)) s)))) : pl_At (n + 1) 11 0 [(0, .ref 944), (1, .int x1)] [] s Q :=
  pl_wp_at (stops := [(106, [0, 2, 3])]) (f := 78) h rfl

theorem pl_11_106 {n : Nat} {x2 : Int32} {l3 : Int64} {s : ps_S} {Q : Option Value → ps_S → Prop} (h :
  (pm_in x2 192 = true →
    ((lg_cmp ((ps_b s 958 (Int32.toNatClampNeg x2)) &&& l3) 0) = 0 →
      Q (some (.int 0)) s) ∧
    ((lg_cmp ((ps_b s 958 (Int32.toNatClampNeg x2)) &&& l3) 0) ≠ 0 →
      Q (some (.int 1)) s))) : pl_At (n + 1) 11 106 [(0, .ref 944), (2, .int x2), (3, .long l3)] [] s Q :=
  pl_wp_at (stops := [(106, [0, 2, 3])]) (f := 16) h rfl

-- ProofBench$Judge.axiomsHold(I)Z
theorem pl_12_0 {n : Nat} {x1 : Int32} {s : ps_S} {Q : Option Value → ps_S → Prop} (h :
  pl_Cl n 8 [.ref 944, .int x1] s (ps_rV (fun s1 =>
    pl_At n 12 7 [(0, .ref 944), (2, .int 0)] [] s1 Q))) : pl_At (n + 1) 12 0 [(0, .ref 944), (1, .int x1)] [] s Q :=
  pl_wp_at (stops := [(7, [0, 2])]) (f := 7) h rfl

theorem pl_12_7 {n : Nat} {x2 : Int32} {s : ps_S} {Q : Option Value → ps_S → Prop} (h :
  pl_nk (ps_is (ps_r s 944 16) 9) (((ps_i s (ps_r s 944 16) 8) ≤ x2 →
    Q (some (.int 1)) s) ∧
  (x2 < (ps_i s (ps_r s 944 16) 8) →
    pl_Cl n 135 [.ref (ps_r s 944 16), .int x2] s (ps_rA (fun v1 s1 =>
      pl_Cl n 10 [.ref 944, .int x2] (ps_ur s1 944 14 v1) (ps_rA (fun v2 s2 =>
        pl_Cl n 15 [.ref 944, .int 0, .int 0, .int 0] (ps_ur s2 944 15 v2) (ps_rI (fun v3 s3 =>
          (v3 ≠ 0 →
            pl_At n 12 7 [(0, .ref 944), (2, .int (x2 + 1))] [] s3 Q) ∧
          (v3 = 0 →
            Q (some (.int 0)) s3)))))))))) : pl_At (n + 1) 12 7 [(0, .ref 944), (2, .int x2)] [] s Q :=
  pl_wp_at (stops := [(7, [0, 2])]) (f := 30) h rfl

-- ProofBench$Judge.findFree(LProofBench$Row;)V
theorem pl_13_0 {n : Nat} {r1 : Nat} {s : ps_S} {Q : Option Value → ps_S → Prop} (h :
  pl_At n 13 7 [(0, .ref 944), (1, .ref r1), (2, .int 0)] [] (ps_ui s 944 10 0) Q) : pl_At (n + 1) 13 0 [(0, .ref 944), (1, .ref r1)] [] s Q :=
  pl_wp_at (stops := [(7, [0, 1, 2])]) (f := 7) h rfl

theorem pl_13_7 {n : Nat} {r1 : Nat} {x2 : Int32} {s : ps_S} {Q : Option Value → ps_S → Prop} (h :
  (12 ≤ x2 →
    Q none s) ∧
  (x2 < 12 →
    pl_Cl n 100 [.ref r1, .int ((60 : Int32) + x2)] s (ps_rI (fun v1 s1 =>
      (v1 = 0 →
        pl_At n 13 7 [(0, .ref 944), (1, .ref r1), (2, .int (x2 + 1))] [] s1 Q) ∧
      (v1 ≠ 0 →
        pl_Cl n 183 [.ref 956, .int (ps_i s1 944 10), .int x2] s1 (ps_rV (fun s2 =>
          pl_At n 13 7 [(0, .ref 944), (1, .ref r1), (2, .int (x2 + 1))] [] (ps_ui s2 944 10 ((ps_i s2 944 10) + 1)) Q))))))) : pl_At (n + 1) 13 7 [(0, .ref 944), (1, .ref r1), (2, .int x2)] [] s Q :=
  pl_wp_at (stops := [(7, [0, 1, 2])]) (f := 28) h rfl

-- ProofBench$Judge.isSoForAll(LProofBench$Row;)Z
theorem pl_14_0 {n : Nat} {r1 : Nat} {s : ps_S} {Q : Option Value → ps_S → Prop} (h :
  pl_At n 14 17 [(0, .ref 944), (2, .int 1), (3, .int 0)] [] (ps_ur (ps_ur s 944 14 r1) 944 15 950) Q) : pl_At (n + 1) 14 0 [(0, .ref 944), (1, .ref r1)] [] s Q :=
  pl_wp_at (stops := [(17, [0, 2, 3]), (40, [0, 2, 3]), (51, [0, 2, 3, 4, 5]), (105, [0, 2, 3])]) (f := 13) h rfl

theorem pl_14_17 {n : Nat} {x2 : Int32} {x3 : Int32} {s : ps_S} {Q : Option Value → ps_S → Prop} (h :
  ((ps_i s 944 10) ≤ x3 →
    pl_At n 14 40 [(0, .ref 944), (2, .int x2), (3, .int 0)] [] s Q) ∧
  (x3 < (ps_i s 944 10) →
    pl_At n 14 17 [(0, .ref 944), (2, .int (x2 * (ps_i s 944 11))), (3, .int (x3 + 1))] [] s Q)) : pl_At (n + 1) 14 17 [(0, .ref 944), (2, .int x2), (3, .int x3)] [] s Q :=
  pl_wp_at (stops := [(17, [0, 2, 3]), (40, [0, 2, 3]), (51, [0, 2, 3, 4, 5]), (105, [0, 2, 3])]) (f := 15) h rfl

theorem pl_14_40 {n : Nat} {x2 : Int32} {x3 : Int32} {s : ps_S} {Q : Option Value → ps_S → Prop} (h :
  (x2 ≤ x3 →
    Q (some (.int 1)) s) ∧
  (x3 < x2 →
    pl_At n 14 51 [(0, .ref 944), (2, .int x2), (3, .int x3), (4, .int x3), (5, .int 0)] [] s Q)) : pl_At (n + 1) 14 40 [(0, .ref 944), (2, .int x2), (3, .int x3)] [] s Q :=
  pl_wp_at (stops := [(17, [0, 2, 3]), (40, [0, 2, 3]), (51, [0, 2, 3, 4, 5]), (105, [0, 2, 3])]) (f := 11) h rfl

theorem pl_14_51 {n : Nat} {x2 : Int32} {x3 : Int32} {x4 : Int32} {x5 : Int32} {s : ps_S} {Q : Option Value → ps_S → Prop} (h :
  ((ps_i s 944 10) ≤ x5 →
    pl_At n 14 105 [(0, .ref 944), (2, .int x2), (3, .int x3)] [] s Q) ∧
  (x5 < (ps_i s 944 10) →
    ((ps_i s 944 11) ≤ 0 →
      pl_At n 14 105 [(0, .ref 944), (2, .int x2), (3, .int x3)] [] s Q) ∧
    (0 < (ps_i s 944 11) →
      pl_Cl n 182 [.ref 956, .int x5] s (ps_rI (fun v1 s1 =>
        pl_nk (!decide ((ps_i s1 944 11) = 0)) (pl_Cl n 183 [.ref 955, .int v1, .int (x4 - (x4 / (ps_i s1 944 11)) * (ps_i s1 944 11))] s1 (ps_rV (fun s2 =>
          pl_nk (!decide ((ps_i s2 944 11) = 0)) (pl_At n 14 51 [(0, .ref 944), (2, .int x2), (3, .int x3), (4, .int (x4 / (ps_i s2 944 11))), (5, .int (x5 + 1))] [] s2 Q))))))))) : pl_At (n + 1) 14 51 [(0, .ref 944), (2, .int x2), (3, .int x3), (4, .int x4), (5, .int x5)] [] s Q :=
  pl_wp_at (stops := [(17, [0, 2, 3]), (40, [0, 2, 3]), (51, [0, 2, 3, 4, 5]), (105, [0, 2, 3])]) (f := 27) h rfl

theorem pl_14_105 {n : Nat} {x2 : Int32} {x3 : Int32} {s : ps_S} {Q : Option Value → ps_S → Prop} (h :
  pl_Cl n 15 [.ref 944, .int 0, .int 0, .int 0] s (ps_rI (fun v1 s1 =>
    (v1 ≠ 0 →
      pl_At n 14 40 [(0, .ref 944), (2, .int x2), (3, .int (x3 + 1))] [] s1 Q) ∧
    (v1 = 0 →
      Q (some (.int 0)) s1)))) : pl_At (n + 1) 14 105 [(0, .ref 944), (2, .int x2), (3, .int x3)] [] s Q :=
  pl_wp_at (stops := [(17, [0, 2, 3]), (40, [0, 2, 3]), (51, [0, 2, 3, 4, 5]), (105, [0, 2, 3])]) (f := 12) h rfl

-- ProofBench$Judge.goodModels(LProofBench$Theory;I)I
theorem pl_3_0 {n : Nat} {r1 : Nat} {x2 : Int32} {s : ps_S} {Q : Option Value → ps_S → Prop} (h :
  pl_Cl n 2 [.ref 944, .ref r1, .int x2] s (ps_rI (fun v1 s1 =>
    pl_Cl n 9 [.ref 944] s1 (ps_rV (fun s2 =>
      pl_At n 3 17 [(0, .ref 944), (3, .int v1), (4, .int 0), (5, .int 0)] [] s2 Q))))) : pl_At (n + 1) 3 0 [(0, .ref 944), (1, .ref r1), (2, .int x2)] [] s Q :=
  pl_wp_at (stops := [(17, [0, 3, 4, 5])]) (f := 13) h rfl

theorem pl_3_17 {n : Nat} {x3 : Int32} {x4 : Int32} {x5 : Int32} {s : ps_S} {Q : Option Value → ps_S → Prop} (h :
  (x3 ≤ x5 →
    (x3 ≠ (-2) →
      Q (some (.int x4)) s) ∧
    (x3 = (-2) →
      Q (some (.int (-2))) s)) ∧
  (x5 < x3 →
    pl_Cl n 11 [.ref 944, .int x5] s (ps_rI (fun v1 s1 =>
      (v1 = 0 →
        pl_At n 3 17 [(0, .ref 944), (3, .int x3), (4, .int x4), (5, .int (x5 + 1))] [] s1 Q) ∧
      (v1 ≠ 0 →
        pl_At n 3 17 [(0, .ref 944), (3, .int x3), (4, .int (x4 + 1)), (5, .int (x5 + 1))] [] s1 Q))))) : pl_At (n + 1) 3 17 [(0, .ref 944), (3, .int x3), (4, .int x4), (5, .int x5)] [] s Q :=
  pl_wp_at (stops := [(17, [0, 3, 4, 5])]) (f := 22) h rfl

-- ProofBench$Judge.firstAgainst(LProofBench$Theory;LProofBench$Row;I)I
theorem pl_5_0 {n : Nat} {r1 : Nat} {r2 : Nat} {x3 : Int32} {s : ps_S} {Q : Option Value → ps_S → Prop} (h :
  pl_Cl n 2 [.ref 944, .ref r1, .int x3] s (ps_rI (fun v1 s1 =>
    pl_Cl n 13 [.ref 944, .ref r2] s1 (ps_rV (fun s2 =>
      (v1 = (-2) →
        Q (some (.int (-2))) s2) ∧
      (v1 ≠ (-2) →
        ((ps_i s2 944 10) ≤ 4 →
          pl_Cl n 9 [.ref 944] s2 (ps_rV (fun s3 =>
            pl_Cl n 103 [.ref 950, .ref r2, .ref (ps_r s3 944 16)] s3 (ps_rV (fun s4 =>
              pl_At n 5 50 [(0, .ref 944), (2, .ref r2), (4, .int v1), (5, .int 0)] [] s4 Q))))) ∧
        (4 < (ps_i s2 944 10) →
          Q (some (.int (-2))) s2))))))) : pl_At (n + 1) 5 0 [(0, .ref 944), (1, .ref r1), (2, .ref r2), (3, .int x3)] [] s Q :=
  pl_wp_at (stops := [(50, [0, 2, 4, 5])]) (f := 31) h rfl

theorem pl_5_50 {n : Nat} {r2 : Nat} {x4 : Int32} {x5 : Int32} {s : ps_S} {Q : Option Value → ps_S → Prop} (h :
  (x4 ≤ x5 →
    Q (some (.int (-1))) s) ∧
  (x5 < x4 →
    pl_Cl n 11 [.ref 944, .int x5] s (ps_rI (fun v1 s1 =>
      (v1 = 0 →
        pl_At n 5 50 [(0, .ref 944), (2, .ref r2), (4, .int x4), (5, .int (x5 + 1))] [] s1 Q) ∧
      (v1 ≠ 0 →
        pl_Cl n 8 [.ref 944, .int x5] s1 (ps_rV (fun s2 =>
          pl_Cl n 14 [.ref 944, .ref r2] s2 (ps_rI (fun v3 s3 =>
            (v3 ≠ 0 →
              pl_At n 5 50 [(0, .ref 944), (2, .ref r2), (4, .int x4), (5, .int (x5 + 1))] [] s3 Q) ∧
            (v3 = 0 →
              Q (some (.int x5)) s3)))))))))) : pl_At (n + 1) 5 50 [(0, .ref 944), (2, .ref r2), (4, .int x4), (5, .int x5)] [] s Q :=
  pl_wp_at (stops := [(50, [0, 2, 4, 5])]) (f := 24) h rfl

-- ProofBench$Row.contains(I)Z
theorem pl_100_0 {n : Nat} {r0 : Nat} {x1 : Int32} {s : ps_S} {Q : Option Value → ps_S → Prop} (h :
  pl_At n 100 2 [(0, .ref r0), (1, .int x1), (2, .int 0)] [] s Q) : pl_At (n + 1) 100 0 [(0, .ref r0), (1, .int x1)] [] s Q :=
  pl_wp_at (stops := [(2, [0, 1, 2])]) (f := 4) h rfl

theorem pl_100_2 {n : Nat} {r0 : Nat} {x1 : Int32} {x2 : Int32} {s : ps_S} {Q : Option Value → ps_S → Prop} (h :
  pl_nk (ps_is r0 5) (((ps_i s r0 1) ≤ x2 →
    Q (some (.int 0)) s) ∧
  (x2 < (ps_i s r0 1) →
    pl_Cl n 92 [.ref r0, .int x2] s (ps_rI (fun v1 s1 =>
      (v1 ≠ x1 →
        pl_At n 100 2 [(0, .ref r0), (1, .int x1), (2, .int (x2 + 1))] [] s1 Q) ∧
      (v1 = x1 →
        Q (some (.int 1)) s1)))))) : pl_At (n + 1) 100 2 [(0, .ref r0), (1, .int x1), (2, .int x2)] [] s Q :=
  pl_wp_at (stops := [(2, [0, 1, 2])]) (f := 17) h rfl

-- ProofBench.hold(I)I
theorem pl_173_0 {n : Nat} {x1 : Int32} {s : ps_S} {Q : Option Value → ps_S → Prop} (h :
  pl_Cl n 181 [.int x1] s (ps_rI (fun v1 s1 =>
    (v1 = 0 →
      Q (some (.int (-1))) s1) ∧
    (v1 ≠ 0 →
      pl_Cl n 3 [.ref 944, .ref (ps_r s1 0 2), .int x1] s1 (ps_rI (fun v2 s2 =>
        Q (some (.int v2)) s2)))))) : pl_At (n + 1) 173 0 [(0, .ref 0), (1, .int x1)] [] s Q :=
  pl_wp_at (stops := []) (f := 15) h rfl

-- ProofBench.counter(I)I
theorem pl_175_0 {n : Nat} {x1 : Int32} {s : ps_S} {Q : Option Value → ps_S → Prop} (h :
  pl_Cl n 181 [.int x1] s (ps_rI (fun v1 s1 =>
    (v1 = 0 →
      Q (some (.int (-1))) s1) ∧
    (v1 ≠ 0 →
      ((ps_i s1 934 1) ≠ 0 →
        pl_Cl n 5 [.ref 944, .ref (ps_r s1 0 2), .ref 934, .int x1] s1 (ps_rI (fun v2 s2 =>
          Q (some (.int v2)) s2))) ∧
      ((ps_i s1 934 1) = 0 →
        Q (some (.int (-1))) s1))))) : pl_At (n + 1) 175 0 [(0, .ref 0), (1, .int x1)] [] s Q :=
  pl_wp_at (stops := []) (f := 22) h rfl

/-- what is left of a number behind the digits of l -/
def rst : List Nat → Nat → Nat
  | [], M => M
  | b :: l, M => rst l M / b
/-- a model's digits -/
def dD (B : List Nat) (M j : Nat) : Nat := rst (B.drop (j + 1)) M % B.getD j 1
theorem dD_lt {B : List Nat} {M j b : Nat} (hb : B[j]? = some b) (h0 : 0 < b) : dD B M j < b := by
  unfold dD
  rw [List.getD_eq_getElem?_getD, hb]
  exact Nat.mod_lt _ h0
theorem dgo_d {m M : Nat} {g : tx_g} (hm : 1 ≤ m ∧ m ≤ 3) : dgo m g (dD (md_B m (md_sy m g)) M) := fun j b hb => dD_lt hb (md_b3 hm (List.mem_of_getElem? hb)).1
theorem rst_le {l : List Nat} {M : Nat} : rst l M ≤ M := by
  induction l with
  | nil => exact Nat.le_refl _
  | cons b l ih => exact Nat.le_trans (Nat.div_le_self _ _) ih
theorem fs_8_9 {l : List Nat} {M : Nat} {s0 : ps_S} {R : ps_S → Prop} (hM : M < 100000) (hb : ∀ b, b ∈ l → 1 ≤ b ∧ b ≤ 3) (h90 : l.length ≤ 90) (D0 : jv_D s0 l) (k : ∀ s', jq 944 [946] [] s0 s' → (∀ (j b : Nat), l[j]? = some b → (ps_a s' 946 j).toInt = dD l M j) → R s') : ∀ (n : Nat) {s : ps_S} {x2 x3 : Int32} {i : Nat}, x3.toInt = (i : Int) - 1 → i ≤ l.length → x2.toInt = rst (l.drop i) M → jq 944 [946] [] s0 s → (∀ (j b : Nat), i ≤ j → l[j]? = some b → (ps_a s 946 j).toInt = dD l M j) → pl_At n 8 9 [(0, .ref 944), (2, .int x2), (3, .int x3)] [] s (ps_rV R)
  | 0, _, _, _, _, _, _, _, _, _ => pl_At_0
  | n + 1, s, x2, x3, i, h3, hi, h2, K, hj => by
    have D := jv_D_jq D0 K rfl (by decide)
    have c0 : (0 : Int32).toInt = 0 := by decide
    refine pl_8_9 ⟨fun z => ?_, fun z => ?_⟩
    · have z := xlt z
      exact k s K (fun j b hb => hj j b (by omega) hb)
    · have z := xle z
      have h3' : x3.toInt = (i - 1 : Nat) := by omega
      obtain ⟨b, hb'⟩ : ∃ b, l[i - 1]? = some b := ⟨_, List.getElem?_eq_getElem (by omega)⟩
      have hbb := hb b (List.mem_of_getElem? hb')
      have hr : rst (l.drop i) M ≤ M := rst_le
      refine fs_182v (a := i - 1) h3' (show i - 1 < 90 from by omega) (by decide) (fun v q => ?_)
      have ev : v.toInt = b := by rw [q]; exact D.2 _ _ hb'
      refine ⟨fun y => absurd (xle y) (by omega), fun y => ?_⟩
      refine pl_nk_i (fun _ => ?_)
      refine fs_183 (a := i - 1) h3' (show i - 1 < 90 from by omega) (by decide) (pl_nk_i (fun _ => ?_))
      have ed : (x2 - (x2 / v) * v).toInt = (rst (l.drop i) M % b : Nat) := by rw [xmodr (by omega) (by omega), h2, ev, Int.natCast_emod]
      refine fs_8_9 hM hb h90 D0 k n (xmin1 h3') (by omega) ?_ (jqa K rfl) (fun j b' hj2 hb2 => ?_)
      · rw [xdivr (by omega) (by omega), h2, ev, drop_c hb', show i - 1 + 1 = i from by omega, ← Int.natCast_ediv]
        rfl
      · rw [ps_a_ua]
        by_cases e : j = i - 1
        · rw [if_pos ⟨rfl, e⟩, ed, e]
          unfold dD
          rw [show i - 1 + 1 = i from by omega, List.getD_eq_getElem?_getD, hb']
          rfl
        · rw [if_neg (fun w => e w.2)]
          exact hj j b' (by omega) hb2
theorem fs_8 {n M : Nat} {l : List Nat} {x1 : Int32} {s : ps_S} {R : ps_S → Prop} (hM : M < 100000) (hb : ∀ b, b ∈ l → 1 ≤ b ∧ b ≤ 3) (h90 : l.length ≤ 90) (D0 : jv_D s l) (hx : x1.toInt = M) (k : ∀ s', jq 944 [946] [] s s' → (∀ (j b : Nat), l[j]? = some b → (ps_a s' 946 j).toInt = dD l M j) → R s') : pl_Cl n 8 [.ref 944, .int x1] s (ps_rV R) := by
  cases n with
  | zero => exact pl_At_0
  | succ n =>
  show pl_At (n + 1) 8 0 [(0, .ref 944), (1, .int x1)] [] s (ps_rV R)
  have c1 : (1 : Int32).toInt = 1 := by decide
  have hl := D0.1
  refine pl_8_0 ?_
  refine fs_8_9 hM hb h90 D0 k n (i := l.length) (by rw [xIs (by omega) (by omega), hl, c1]) (Nat.le_refl _) ?_ jq_refl (fun j b a hb2 => ?_)
  · rw [List.drop_length]
    exact hx
  · have := (List.getElem?_eq_some_iff.mp hb2).1
    omega
theorem sh_e0 : ∀ i, i < 8 → ps_e0 949 i = 989 + 4 * i ∧ ps_is (989 + 4 * i) 6 = true := by decide +kernel
theorem fs_10 {n i : Nat} {x1 : Int32} {s : ps_S} {R : Nat → ps_S → Prop} (hx : x1.toInt = i) (hi : i < 8) (k : R (989 + 4 * i) s) : pl_Cl n 10 [.ref 944, .int x1] s (ps_rA R) := by
  cases n with
  | zero => exact pl_At_0
  | succ n =>
  show pl_At (n + 1) 10 0 [(0, .ref 944), (1, .int x1)] [] s (ps_rA R)
  have c0 : (0 : Int32).toInt = 0 := by decide
  have c8 : (nI 8).toInt = 8 := by decide
  refine pl_10_0 ⟨fun z => absurd (xlt z) (by omega), fun _ => ⟨fun z => absurd (xle z) (by omega), fun _ => ?_⟩⟩
  intro _
  rw [xtn hx, (sh_e0 i hi).1]
  exact k
/-- the axioms are measured -/
def MA (s : ps_S) (h : tx_H) (i : Nat) : Prop := ∀ (k : Nat) (w l : List Nat), k < i → h.2[k]? = some (w, l) → shE s (989 + 4 * k) (arh h.1) l 0
def CMA (q : Nat) : Prop := 989 ≤ q ∧ q < 1021
theorem fs_9_2 {th : Nat} {h : tx_H} {s0 : ps_S} {R : ps_S → Prop} (hth : th = 2 ∨ th = 26) (H0 : cv_H s0 th h) (hw : WFt h) (hr : ps_r s0 944 16 = th) (k : ∀ s', cfr CMA s0 s' → MA s' h h.2.length → R s') : ∀ (n : Nat) {s : ps_S} {x1 : Int32} {i : Nat}, x1.toInt = i → i ≤ h.2.length → cfr CMA s0 s → MA s h i → pl_At n 9 2 [(0, .ref 944), (1, .int x1)] [] s (ps_rV R)
  | 0, _, _, _, _, _, _, _ => pl_At_0
  | n + 1, s, x1, i, h1, hi, F, hM => by
    have h8 := H0.2.2.1
    have H := cv_H_cfr H0 F (fun q a b => by unfold CMA; omega)
    have er : ps_r s 944 16 = th := by rw [(F 944 (by unfold CMA; omega)).2.2.1]; exact hr
    have esz := H.2.1
    refine pl_9_2 (pl_nk_i (fun _ => ?_))
    rw [er]
    refine ⟨fun z => ?_, fun z => ?_⟩
    · have z := xle z
      have e : i = h.2.length := by omega
      subst e
      exact k s F hM
    · have z := xlt z
      obtain ⟨⟨w, l⟩, hk⟩ : ∃ p, h.2[i]? = some p := ⟨_, List.getElem?_eq_getElem (by omega)⟩
      obtain ⟨y1, y2, W⟩ := H.2.2.2 i w l hk
      obtain ⟨hf, hl40, h60⟩ := hw.2.2 i w l hk
      have Kk := th_K hth (k := i) (by omega)
      have hr5 : ps_is (th + 8 + 2 * i) 5 = true := ps_is5 Kk.2.2.2.2.2.1
      refine fs_10 h1 (by omega) ?_
      rw [er]
      refine fs_135 hth h1 (by omega) ?_
      rw [er]
      refine fs_103 (r := 989 + 4 * i) (r1 := th + 8 + 2 * i) (l := l) (sh_e0 i (by omega)).2 hr5 hth ⟨by omega, by omega⟩ (wf_ws hf) (Or.inl rfl) W H.1 (fun s1 Z F1 => ?_)
      refine fs_9_2 hth H0 hw hr k n (xj1 h1 (by omega)) (by omega) (cfr_tr F (cfr_mono F1 (fun q z => by unfold CSh at z; unfold CMA; omega))) (fun k2 w2 l2 hk2 hk3 => ?_)
      rcases Nat.lt_or_ge k2 i with y | y
      · intro j a b
        rw [(F1 (989 + 4 * k2 + 1) (by unfold CSh; omega)).2.2.2.1]
        exact hM k2 w2 l2 y hk3 j a b
      · rw [show k2 = i from by omega] at hk3 ⊢
        rw [hk] at hk3
        cases hk3
        exact Z.1
theorem fs_9 {n th : Nat} {h : tx_H} {s : ps_S} {R : ps_S → Prop} (hth : th = 2 ∨ th = 26) (H : cv_H s th h) (hw : WFt h) (hr : ps_r s 944 16 = th) (k : ∀ s', cfr CMA s s' → MA s' h h.2.length → R s') : pl_Cl n 9 [.ref 944] s (ps_rV R) := by
  cases n with
  | zero => exact pl_At_0
  | succ n =>
  show pl_At (n + 1) 9 0 [(0, .ref 944)] [] s (ps_rV R)
  exact pl_9_0 (fs_9_2 hth H hw hr k n (i := 0) rfl (Nat.zero_le _) cfr_refl (fun k w l hk => absurd hk (Nat.not_lt_zero _)))
/-- all axioms hold in the model M of m things -/
def AX (h : tx_H) (m M : Nat) : Prop := ∀ (k : Nat) (w l : List Nat), h.2[k]? = some (w, l) → svg m h.1 (dD (md_B m (md_sy m h.1)) M) (fun _ => 0) 13 [] l = 1
/-- what is laid: tables, measured axioms -/
def JA (s : ps_S) (th m : Nat) (h : tx_H) : Prop := cv_H s th h ∧ JL s th m h.1 ∧ MA s h h.2.length
theorem JA_cfr {C : Nat → Prop} {s s' : ps_S} {th m : Nat} {h : tx_H} (H : JA s th m h) (F : cfr C s s') (hth : th = 2 ∨ th = 26) (hC : ∀ q, q < 944 ∨ q = 945 ∨ q = 947 ∨ q = 948 ∨ (989 ≤ q ∧ q < 1021) → ¬ C q) (r16 : ps_r s' 944 16 = ps_r s 944 16) (i2 : ps_i s' 944 2 = ps_i s 944 2) (i11 : ps_i s' 944 11 = ps_i s 944 11) : JA s' th m h := by
  obtain ⟨h1, ⟨j1, j2, ⟨j3, j3'⟩, j4, j5⟩, h3⟩ := H
  have hl := h1.2.2.1
  refine ⟨cv_H_cfr h1 F (fun q a b => hC q (Or.inl (by omega))), ⟨by rw [r16]; exact j1, by rw [i11]; exact j2, ⟨by rw [i2]; exact j3, ?_⟩, ?_, ?_⟩, ?_⟩
  · unfold ar_L
    rw [(F 945 (hC _ (by omega))).2.2.2.1]
    exact j3'
  · rw [(F 947 (hC _ (by omega))).2.2.2.1]
    exact j4
  · rw [(F 948 (hC _ (by omega))).2.2.2.1]
    exact j5
  · intro k w l hk hk2 j a b
    have hk3 := (List.getElem?_eq_some_iff.mp hk2).1
    rw [(F (989 + 4 * k + 1) (hC _ (by omega))).2.2.2.1]
    exact h3 k w l hk hk2 j a b
/-- digits are those of M -/
def DG (s : ps_S) (m M : Nat) (g : tx_g) : Prop := ∀ (j b : Nat), (md_B m (md_sy m g))[j]? = some b → (ps_a s 946 j).toInt = dD (md_B m (md_sy m g)) M j
theorem pt_0 {g : tx_g} {l : List Nat} (h1 : bc (arh g) [(0, 0)] l) (h2 : wf (sg g) 5 l [(true, 0)]) : pt g true 0 0 (l.drop 0) := ⟨[], [], h1, h2⟩
/-- cells of the judge that evaluation changes -/
def CEv (q : Nat) : Prop := q = 944 ∨ q = 946 ∨ q = 954
theorem fs_12_7 {th m M : Nat} {h : tx_H} {s0 : ps_S} {R : Int32 → ps_S → Prop} (hth : th = 2 ∨ th = 26) (hm : 1 ≤ m ∧ m ≤ 3) (hw : WFt h) (hb : BTh h) (k1 : ∀ s', AX h m M → JA s' th m h → cfr CEv s0 s' → ps_i s' 944 = ps_i s0 944 → R 1 s') (k0 : ∀ s', ¬ AX h m M → JA s' th m h → cfr CEv s0 s' → ps_i s' 944 = ps_i s0 944 → R 0 s') : ∀ (n : Nat) {s : ps_S} {x2 : Int32} {i : Nat}, x2.toInt = i → i ≤ h.2.length → JA s th m h → DG s m M h.1 → cfr CEv s0 s → ps_i s 944 = ps_i s0 944 → (∀ (k : Nat) (w l : List Nat), k < i → h.2[k]? = some (w, l) → svg m h.1 (dD (md_B m (md_sy m h.1)) M) (fun _ => 0) 13 [] l = 1) → pl_At n 12 7 [(0, .ref 944), (2, .int x2)] [] s (ps_rI R)
  | 0, _, _, _, _, _, _, _, _, _, _ => pl_At_0
  | n + 1, s, x2, i, h2, hi, J, G, F, Fi, hj => by
    have er : ps_r s 944 16 = th := J.2.1.1
    have esz := J.1.2.1
    have h8 := J.1.2.2.1
    refine pl_12_7 (pl_nk_i (fun _ => ?_))
    rw [er]
    refine ⟨fun z => ?_, fun z => ?_⟩
    · have z := xle z
      exact k1 s (fun k w l hk => hj k w l (by have := (List.getElem?_eq_some_iff.mp hk).1; omega) hk) J F Fi
    · have z := xlt z
      obtain ⟨⟨w, l⟩, hk⟩ : ∃ p, h.2[i]? = some p := ⟨_, List.getElem?_eq_getElem (by omega)⟩
      obtain ⟨y1, y2, W⟩ := J.1.2.2.2 i w l hk
      obtain ⟨hf, hl40, h60⟩ := hw.2.2 i w l hk
      obtain ⟨hbc, -⟩ := hb.2.2 i w l hk
      have Kk := th_K hth (k := i) (by omega)
      have hr5 : ps_is (th + 8 + 2 * i) 5 = true := ps_is5 Kk.2.2.2.2.2.1
      refine fs_135 hth h2 (by omega) ?_
      refine fs_10 h2 (by omega) ?_
      have F1 : cfr (fun q => q = 944) s (ps_ur (ps_ur s 944 14 (th + 8 + 2 * i)) 944 15 (989 + 4 * i)) := cfr_r (cfr_r cfr_refl rfl) rfl
      have r16 : ps_r (ps_ur (ps_ur s 944 14 (th + 8 + 2 * i)) 944 15 (989 + 4 * i)) 944 16 = ps_r s 944 16 := by rw [ps_r_ur, if_neg (by omega), ps_r_ur, if_neg (by omega)]
      have J1 := JA_cfr J F1 hth (fun q a b => by omega) r16 rfl rfl
      have FJ : JF (th + 8 + 2 * i) (989 + 4 * i) th m h.1 l := ⟨hr5, (sh_e0 i (by omega)).2, hth, ⟨by omega, by omega, by omega⟩, hm, hl40⟩
      have E1 : JE (ps_ur (ps_ur s 944 14 (th + 8 + 2 * i)) 944 15 (989 + 4 * i)) (th + 8 + 2 * i) (989 + 4 * i) th m h.1 l (dD (md_B m (md_sy m h.1)) M) (fun _ => 0) := by
        refine ⟨⟨?_, ?_⟩, cv_W_cfr W F1 (by omega) (by omega), J1.2.2 i w l (by omega) hk, J1.1.1, J1.2.1, fun j b hb2 => ⟨G j b hb2, dgo_d hm j b hb2⟩, fun v hv => absurd (h60 _ hv) (by omega)⟩
        · rw [ps_r_ur, if_neg (by omega), ps_r_ur, if_pos ⟨rfl, rfl⟩]
        · rw [ps_r_ur, if_pos ⟨rfl, rfl⟩]
      refine (J15_all FJ n).1.1 (i := 0) (p := 0) (env := []) E1 (fun k x hk => by cases hk) (pt_0 hbc hf) rfl rfl rfl (fun v s' q => ?_)
      obtain ⟨b1, i1, P⟩ := q
      rw [List.drop_zero] at i1
      have F2 : cfr CEv s0 s' := cfr_tr (cfr_tr F (cfr_mono F1 (fun q z => Or.inl z))) (cfr_mono (jq_cfr P.2.2.1) (fun q z => by
        rcases z with z | z
        · exact Or.inl z
        · have := List.contains_iff_mem.mp z
          rw [List.mem_singleton] at this
          exact Or.inr (Or.inr this)))
      have Fi2 : ps_i s' 944 = ps_i s0 944 := by
        rw [← Fi]
        funext f
        exact jq_i P.2.2.1 f rfl
      have J2 : JA s' th m h := JA_cfr J1 (jq_cfr P.2.2.1) hth (fun q a b => by
        rcases b with b | b
        · omega
        · have := List.contains_iff_mem.mp b
          rw [List.mem_singleton] at this
          omega) (by rw [jq_r P.2.2.1]) (jq_i P.2.2.1 2 rfl) (jq_i P.2.2.1 11 rfl)
      have c0 : (0 : Int32).toInt = 0 := by decide
      refine ⟨fun y => ?_, fun y => ?_⟩
      · have y := xne y
        refine fs_12_7 hth hm hw hb k1 k0 n (xj1 h2 (by omega)) (by omega) J2 (fun j b hb2 => ?_) F2 Fi2 (fun k w2 l2 hk2 hk3 => ?_)
        · rw [jq_a P.2.2.1 946 (by decide)]
          exact G j b hb2
        · rcases Nat.lt_or_ge k i with a | a
          · exact hj k w2 l2 a hk3
          · rw [show k = i from by omega, hk] at hk3
            cases hk3
            exact i1.mp (by omega)
      · have y := xeq y
        exact k0 s' (fun a => by have := i1.mpr (a i w l hk); omega) J2 F2 Fi2
theorem fs_12 {n th m M : Nat} {h : tx_H} {x1 : Int32} {s : ps_S} {R : Int32 → ps_S → Prop} (hth : th = 2 ∨ th = 26) (hm : 1 ≤ m ∧ m ≤ 3) (hw : WFt h) (hb : BTh h) (hM : M < 100000) (hx : x1.toInt = M) (J : JA s th m h) (k1 : ∀ s', AX h m M ∧ JA s' th m h ∧ cfr CEv s s' ∧ ps_i s' 944 = ps_i s 944 → R 1 s') (k0 : ∀ s', ¬ AX h m M ∧ JA s' th m h ∧ cfr CEv s s' ∧ ps_i s' 944 = ps_i s 944 → R 0 s') : pl_Cl n 12 [.ref 944, .int x1] s (ps_rI R) := by
  cases n with
  | zero => exact pl_At_0
  | succ n =>
  show pl_At (n + 1) 12 0 [(0, .ref 944), (1, .int x1)] [] s (ps_rI R)
  refine pl_12_0 ?_
  have h90 : (md_B m (md_sy m h.1)).length ≤ 90 := by
    have hl := md_o_le hm.2 (md_sy_ar (m := m) J.1.1) (md_sy m h.1).length (Nat.le_refl _)
    unfold md_o at hl
    rw [List.take_length, md_sy_len] at hl
    have := J.1.1.2.2.1
    have := J.1.1.2.2.2.1
    omega
  refine fs_8 hM (fun b hb2 => md_b3 hm hb2) h90 J.2.1.2.2.1 hx (fun s1 K G => ?_)
  have F1 : cfr CEv s s1 := cfr_mono (jq_cfr K) (fun q z => by
    rcases z with z | z
    · exact Or.inl z
    · have := List.contains_iff_mem.mp z
      rw [List.mem_singleton] at this
      exact Or.inr (Or.inl this))
  have J1 := JA_cfr J (jq_cfr K) hth (fun q a b => by
        rcases b with b | b
        · omega
        · have := List.contains_iff_mem.mp b
          rw [List.mem_singleton] at this
          omega) (by rw [jq_r K]) (jq_i K 2 rfl) (jq_i K 11 rfl)
  exact fs_12_7 (s0 := s) hth hm hw hb (fun s' a b c d => k1 s' ⟨a, b, c, d⟩) (fun s' a b c d => k0 s' ⟨a, b, c, d⟩) n (i := 0) rfl (Nat.zero_le _) J1 G F1 (funext fun f => jq_i K f rfl) (fun k w l hk => absurd hk (Nat.not_lt_zero _))
end
section
set_option maxRecDepth 100000
/-! the class: which models are good, kept by bits; free things; hold(), counter() -/
-- ProofBench.holds(II)I
theorem pl_174_0 {n : Nat} {x1 : Int32} {x2 : Int32} {s : ps_S} {Q : Option Value → ps_S → Prop} (h :
  pl_Cl n 181 [.int x1] s (ps_rI (fun v1 s1 =>
    (v1 = 0 →
      Q (some (.int (-1))) s1) ∧
    (v1 ≠ 0 →
      (x2 < 0 →
        Q (some (.int (-1))) s1) ∧
      (0 ≤ x2 →
        ((ps_i s1 934 1) ≠ 0 →
          pl_Cl n 4 [.ref 944, .ref (ps_r s1 0 2), .ref 934, .int x1, .int x2] s1 (ps_rI (fun v2 s2 =>
            Q (some (.int v2)) s2))) ∧
        ((ps_i s1 934 1) = 0 →
          Q (some (.int (-1))) s1)))))) : pl_At (n + 1) 174 0 [(0, .ref 0), (1, .int x1), (2, .int x2)] [] s Q :=
  pl_wp_at (stops := []) (f := 27) h rfl

-- ProofBench$Judge.holdsIn(LProofBench$Theory;LProofBench$Row;II)I
theorem pl_4_0 {n : Nat} {r1 : Nat} {r2 : Nat} {x3 : Int32} {x4 : Int32} {s : ps_S} {Q : Option Value → ps_S → Prop} (h :
  pl_Cl n 6 [.ref 944, .ref r1, .int x3] s (ps_rJ (fun v1 s1 =>
    ((lg_cmp (Int32.toInt64 x4) v1) < 0 →
      pl_Cl n 13 [.ref 944, .ref r2] s1 (ps_rV (fun s2 =>
        (0 < (lg_cmp v1 (4096 : Int64)) →
          Q (some (.int (-2))) s2) ∧
        ((lg_cmp v1 (4096 : Int64)) ≤ 0 →
          ((ps_i s2 944 10) ≤ 4 →
            pl_Cl n 103 [.ref 950, .ref r2, .ref (ps_r s2 944 16)] s2 (ps_rV (fun s3 =>
              pl_Cl n 8 [.ref 944, .int x4] s3 (ps_rV (fun s4 =>
                pl_Cl n 14 [.ref 944, .ref r2] s4 (ps_rI (fun v5 s5 =>
                  (v5 = 0 →
                    Q (some (.int 0)) s5) ∧
                  (v5 ≠ 0 →
                    Q (some (.int 1)) s5)))))))) ∧
          (4 < (ps_i s2 944 10) →
            Q (some (.int (-2))) s2))))) ∧
    (0 ≤ (lg_cmp (Int32.toInt64 x4) v1) →
      Q (some (.int (-1))) s1)))) : pl_At (n + 1) 4 0 [(0, .ref 944), (1, .ref r1), (2, .ref r2), (3, .int x3), (4, .int x4)] [] s Q :=
  pl_wp_at (stops := []) (f := 47) h rfl

/-- a long's bits -/
def tb (x : Int64) (i : Nat) : Bool := x.toBitVec.getLsbD i
theorem tb_one : ∀ i, i < 64 → ((1 : Int64) <<< (Int64.ofNat i &&& 63)).toBitVec = BitVec.twoPow 64 i := by decide +kernel
theorem tb_z {x b : Int64} {i : Nat} (hi : i < 64) (hb : b.toBitVec = BitVec.twoPow 64 i) : (x &&& b) = 0 ↔ tb x i = false := by
  constructor
  · intro h
    have h2 := congrArg (fun z : Int64 => z.toBitVec.getLsbD i) h
    (try dsimp only at h2)
    rw [Int64.toBitVec_and, hb, BitVec.getLsbD_and, BitVec.getLsbD_twoPow] at h2
    unfold tb
    simpa [hi] using h2
  · intro h
    apply Int64.toBitVec_inj.mp
    rw [Int64.toBitVec_and, hb]
    apply BitVec.eq_of_getLsbD_eq
    intro j hj
    rw [BitVec.getLsbD_and, BitVec.getLsbD_twoPow]
    unfold tb at h
    by_cases e : i = j
    · rw [← e, h]
      simp
    · simp [e]
theorem tb_or {x b : Int64} {i j : Nat} (hi : i < 64) (hb : b.toBitVec = BitVec.twoPow 64 i) : tb (x ||| b) j = (tb x j || decide (i = j)) := by
  unfold tb
  rw [Int64.toBitVec_or, BitVec.getLsbD_or, hb, BitVec.getLsbD_twoPow]
  simp [hi]
theorem tb_no {x b : Int64} {i j : Nat} (hi : i < 64) (hj : j < 64) (hb : b.toBitVec = BitVec.twoPow 64 i) : tb (x &&& (b ^^^ (-1 : Int64))) j = (tb x j && !decide (i = j)) := by
  unfold tb
  have e : (-1 : Int64).toBitVec = BitVec.allOnes 64 := by decide
  rw [Int64.toBitVec_and, Int64.toBitVec_xor, e, BitVec.getLsbD_and, BitVec.getLsbD_xor, hb, BitVec.getLsbD_twoPow, BitVec.getLsbD_allOnes]
  simp [hi, hj]
/-- where a model's bit stands -/
def bx (m M : Nat) : Nat := 64 * (m - 1) + M / 64
/-- what is kept is right -/
def JG (s : ps_S) (h : tx_H) : Prop := ∀ m M, 1 ≤ m → m ≤ 3 → M < 4096 → tb (ps_b s 957 (bx m M)) (M % 64) = true → (tb (ps_b s 958 (bx m M)) (M % 64) = true ↔ AX h m M)
theorem JG_cfr {C : Nat → Prop} {s s' : ps_S} {h : tx_H} (H : JG s h) (F : cfr C s s') (h7 : ¬ C 957) (h8 : ¬ C 958) : JG s' h := by
  unfold JG
  rw [(F 957 h7).2.2.2.2, (F 958 h8).2.2.2.2]
  exact H
def CIg (q : Nat) : Prop := q = 944 ∨ q = 946 ∨ q = 954 ∨ q = 957 ∨ q = 958
theorem bx_inj {m M m' M' : Nat} (h1 : 1 ≤ m) (h2 : m ≤ 3) (h3 : M < 4096) (h1' : 1 ≤ m') (h2' : m' ≤ 3) (h3' : M' < 4096) (e : bx m' M' = bx m M) (e2 : M' % 64 = M % 64) : m' = m ∧ M' = M := by
  unfold bx at e
  omega
theorem fs_11_106 {n a i : Nat} {x2 : Int32} {b : Int64} {s : ps_S} {R : Int32 → ps_S → Prop} (hx : x2.toInt = a) (hi : i < 64) (hb : b.toBitVec = BitVec.twoPow 64 i) (k1 : tb (ps_b s 958 a) i = true → R 1 s) (k0 : tb (ps_b s 958 a) i = false → R 0 s) : pl_At n 11 106 [(0, .ref 944), (2, .int x2), (3, .long b)] [] s (ps_rI R) := by
  cases n with
  | zero => exact pl_At_0
  | succ n =>
  refine pl_11_106 ?_
  intro _
  rw [xtn hx]
  refine ⟨fun z => k0 ((tb_z hi hb).mp (lg_z z)), fun z => k1 ?_⟩
  have z2 := lg_nz z
  cases e : tb (ps_b s 958 a) i with
  | true => rfl
  | false => exact absurd ((tb_z hi hb).mpr e) z2
theorem fs_11 {n th m M : Nat} {h : tx_H} {x1 : Int32} {s : ps_S} {R : Int32 → ps_S → Prop} (hth : th = 2 ∨ th = 26) (hm : 1 ≤ m ∧ m ≤ 3) (hw : WFt h) (hb : BTh h) (hM : M < 4096) (hx : x1.toInt = M) (J : JA s th m h) (G : JG s h) (k1 : ∀ s', AX h m M ∧ JA s' th m h ∧ JG s' h ∧ cfr CIg s s' ∧ ps_i s' 944 = ps_i s 944 → R 1 s') (k0 : ∀ s', ¬ AX h m M ∧ JA s' th m h ∧ JG s' h ∧ cfr CIg s s' ∧ ps_i s' 944 = ps_i s 944 → R 0 s') : pl_Cl n 11 [.ref 944, .int x1] s (ps_rI R) := by
  cases n with
  | zero => exact pl_At_0
  | succ n =>
  show pl_At (n + 1) 11 0 [(0, .ref 944), (1, .int x1)] [] s (ps_rI R)
  have e11 : (ps_i s 944 11).toInt = m := J.2.1.2.1
  have c0 : (0 : Int32).toInt = 0 := by decide
  have c1 : (1 : Int32).toInt = 1 := by decide
  have c64 : (64 : Int32).toInt = 64 := by decide
  have c192 : (nI 192).toInt = 192 := by decide
  have ea1 : ((ps_i s 944 11) - 1).toInt = (m : Int) - 1 := by rw [xIs (by omega) (by omega), e11, c1]
  have ea2 : (((ps_i s 944 11) - 1) * 64).toInt = 64 * ((m : Int) - 1) := by
    have ec : ((ps_i s 944 11) - 1).toInt * (64 : Int32).toInt = 64 * ((m : Int) - 1) := by rw [ea1, c64]; omega
    rw [xIm (by rw [ec]; omega) (by rw [ec]; omega), ec]
  have ea3 : (x1 / 64).toInt = (M / 64 : Nat) := by rw [xdivr (by omega) (by omega), hx, c64]; omega
  have ea : ((((ps_i s 944 11) - 1) * 64) + (x1 / 64)).toInt = (bx m M : Nat) := by
    unfold bx
    rw [xIa (by omega) (by omega), ea2, ea3]
    omega
  have em : (x1 - (x1 / 64) * 64).toInt = (M % 64 : Nat) := by rw [xmodr (by omega) (by omega), hx, c64]; omega
  have hbx : bx m M < 192 := by unfold bx; omega
  have hi : M % 64 < 64 := Nat.mod_lt _ (by decide)
  have ebit : ((1 : Int64) <<< (Int32.toInt64 (x1 - (x1 / 64) * 64) &&& 63)).toBitVec = BitVec.twoPow 64 (M % 64) := by rw [xon em]; exact tb_one _ hi
  refine pl_11_0 ?_
  generalize ((((ps_i s 944 11) - 1) * 64) + (x1 / 64)) = A at ea ⊢
  generalize ((1 : Int64) <<< (Int32.toInt64 (x1 - (x1 / 64) * 64) &&& 63)) = bt at ebit ⊢
  refine ⟨fun z => absurd (xlt z) (by omega), fun _ => ⟨fun z => absurd (xle z) (by omega), fun _ => ⟨fun _ => ?_, fun z => absurd (xle z) (by omega)⟩⟩⟩
  intro _
  rw [xtn ea]
  refine ⟨fun z => ?_, fun z => ?_⟩
  · have z2 := lg_nz z
    have hk : tb (ps_b s 957 (bx m M)) (M % 64) = true := by
      cases e : tb (ps_b s 957 (bx m M)) (M % 64) with
      | true => rfl
      | false => exact absurd ((tb_z hi ebit).mpr e) z2
    have hG := G m M hm.1 hm.2 hM hk
    exact fs_11_106 ea hi ebit (fun y => k1 _ ⟨hG.mp y, J, G, cfr_refl, rfl⟩) (fun y => k0 _ ⟨(fun a => by rw [hG.mpr a] at y; cases y), J, G, cfr_refl, rfl⟩)
  · intro _ _
    have F1 : cfr (fun q => q = 957) s (ps_ub s 957 (bx m M) ((ps_b s 957 (bx m M)) ||| bt)) := cfr_b cfr_refl rfl
    have J1 := JA_cfr J F1 hth (fun q a b => by omega) rfl rfl rfl
    have fin : ∀ (s1 : ps_S) (v : Int64) (P : Prop), cfr CEv (ps_ub s 957 (bx m M) ((ps_b s 957 (bx m M)) ||| bt)) s1 → ps_i s1 944 = ps_i s 944 → JA s1 th m h → (∀ j, j < 64 → j ≠ M % 64 → tb v j = tb (ps_b s1 958 (bx m M)) j) → (tb v (M % 64) = true ↔ AX h m M) → pl_At n 11 106 [(0, .ref 944), (2, .int A), (3, .long bt)] [] (ps_ub s1 958 (bx m M) v) (ps_rI R) := fun s1 v P F2 Fi2 J2 hv1 hv2 => by
      have F3 : cfr (fun q => q = 958) s1 (ps_ub s1 958 (bx m M) v) := cfr_b cfr_refl rfl
      have J3 := JA_cfr J2 F3 hth (fun q a b => by omega) rfl rfl rfl
      have F4 : cfr CIg s (ps_ub s1 958 (bx m M) v) := cfr_tr (cfr_mono F1 (fun q z => by unfold CIg; omega)) (cfr_tr (cfr_mono F2 (fun q z => by unfold CEv at z; unfold CIg; omega)) (cfr_mono F3 (fun q z => by unfold CIg; omega)))
      have G3 : JG (ps_ub s1 958 (bx m M) v) h := fun m' M' a1 a2 a3 a4 => by
        have e7 : ps_b (ps_ub s1 958 (bx m M) v) 957 = ps_b (ps_ub s 957 (bx m M) ((ps_b s 957 (bx m M)) ||| bt)) 957 := by
          rw [← (F2 957 (by unfold CEv; omega)).2.2.2.2]
          funext q
          rw [ps_b_ub, if_neg (by omega)]
        have e8 : ps_b s1 958 = ps_b s 958 := by
          rw [(F2 958 (by unfold CEv; omega)).2.2.2.2]
          funext q
          rw [ps_b_ub, if_neg (by omega)]
        rw [e7, ps_b_ub] at a4
        rw [ps_b_ub]
        by_cases e : bx m' M' = bx m M
        · rw [if_pos ⟨rfl, e⟩] at a4 ⊢
          by_cases e2 : M' % 64 = M % 64
          · obtain ⟨rfl, rfl⟩ := bx_inj hm.1 hm.2 hM a1 a2 a3 e e2
            exact hv2
          · rw [tb_or hi ebit, decide_eq_false (fun y => e2 y.symm), Bool.or_false, ← e] at a4
            rw [hv1 _ (Nat.mod_lt _ (by decide)) e2, e8, ← e]
            exact G m' M' a1 a2 a3 a4
        · rw [if_neg (fun y => e y.2)] at a4 ⊢
          rw [e8]
          exact G m' M' a1 a2 a3 a4
      refine fs_11_106 ea hi ebit (fun y => k1 _ ⟨hv2.mp ?_, J3, G3, F4, Fi2⟩) (fun y => k0 _ ⟨fun a => ?_, J3, G3, F4, Fi2⟩)
      · rw [ps_b_ub, if_pos ⟨rfl, rfl⟩] at y
        exact y
      · rw [ps_b_ub, if_pos ⟨rfl, rfl⟩, hv2.mpr a] at y
        cases y
    refine fs_12 hth hm hw hb (by omega) hx J1 (fun s1 q => ⟨fun y => absurd y (by decide), fun _ => ?_⟩) (fun s1 q => ⟨fun _ => ?_, fun y => absurd rfl y⟩)
    · obtain ⟨q1, q2, q3, q4⟩ := q
      intro _ _
      refine fin s1 _ True q3 q4 q2 (fun j hj hne => ?_) ?_
      · rw [tb_or hi ebit, decide_eq_false (fun y => hne y.symm), Bool.or_false]
      · rw [tb_or hi ebit, decide_eq_true rfl, Bool.or_true]
        exact ⟨fun _ => q1, fun _ => rfl⟩
    · obtain ⟨q1, q2, q3, q4⟩ := q
      intro _ _
      refine fin s1 _ True q3 q4 q2 (fun j hj hne => ?_) ?_
      · rw [tb_no hi hj ebit, decide_eq_false (fun y => hne y.symm), Bool.not_false, Bool.and_true]
      · rw [tb_no hi hi ebit, decide_eq_true rfl, Bool.not_true, Bool.and_false]
        exact ⟨(fun y => by cases y), fun y => absurd y q1⟩
/-- hold()'s answer -/
def HO_A (h : tx_H) (x v : Int32) : Prop := (¬ (1 ≤ x.toInt ∧ x.toInt ≤ 3) ∧ v.toInt = -1) ∨ ((1 ≤ x.toInt ∧ x.toInt ≤ 3) ∧ ((4096 < md_p (md_B x.toInt.toNat (md_sy x.toInt.toNat h.1)) ∧ v.toInt = -2) ∨ (md_p (md_B x.toInt.toNat (md_sy x.toInt.toNat h.1)) ≤ 4096 ∧ v.toInt = lt_n (AX h x.toInt.toNat) (md_p (md_B x.toInt.toNat (md_sy x.toInt.toNat h.1))))))
theorem HO_A_eq {h : tx_H} {x v v' : Int32} (a : HO_A h x v) (b : HO_A h x v') : v = v' := by
  apply Int32.toInt_inj.mp
  rcases a with ⟨a1, a2⟩ | ⟨a1, ⟨a2, a3⟩ | ⟨a2, a3⟩⟩ <;> rcases b with ⟨b1, b2⟩ | ⟨b1, ⟨b2, b3⟩ | ⟨b2, b3⟩⟩ <;> omega
theorem fs_3_17 {th m p : Nat} {h : tx_H} {x3 : Int32} {R : Int32 → ps_S → Prop} (hth : th = 2 ∨ th = 26) (hm : 1 ≤ m ∧ m ≤ 3) (hw : WFt h) (hb : BTh h) (hv : x3.toInt = md_v p) (hn2 : ∀ v : Int32, ∀ s', ((4096 < p ∧ v.toInt = -2) ∨ (p ≤ 4096 ∧ v.toInt = lt_n (AX h m) p)) → JG s' h → R v s') : ∀ (n : Nat) {s : ps_S} {x4 x5 : Int32} {i : Nat}, x5.toInt = i → (i = 0 ∨ (i : Int) ≤ x3.toInt) → x4.toInt = lt_n (AX h m) i → JA s th m h → JG s h → pl_At n 3 17 [(0, .ref 944), (3, .int x3), (4, .int x4), (5, .int x5)] [] s (ps_rI R)
  | 0, _, _, _, _, _, _, _, _, _ => pl_At_0
  | n + 1, s, x4, x5, i, h5, hi, h4, J, G => by
    have hle := lt_n_le (P := AX h m) (k := i)
    have cm : (-2 : Int32).toInt = -2 := by decide
    have hp : (x3.toInt = -2 ∧ 4096 < p) ∨ (x3.toInt = p ∧ p ≤ 4096) := by
      rw [hv]
      unfold md_v
      by_cases z : p ≤ 4096
      · rw [if_pos z]; exact Or.inr ⟨rfl, z⟩
      · rw [if_neg z]; exact Or.inl ⟨rfl, by omega⟩
    refine pl_3_17 ⟨fun z => ⟨fun y => ?_, fun y => ?_⟩, fun z => ?_⟩
    · have z := xle z
      have y := xne y
      have e : i = p := by omega
      exact hn2 _ _ (Or.inr ⟨by omega, by rw [h4, e]⟩) G
    · have y := xeq y
      exact hn2 _ _ (Or.inl ⟨by omega, by decide⟩) G
    · have z := xlt z
      refine fs_11 hth hm hw hb (M := i) (by omega) h5 J G (fun s1 q => ⟨fun y => absurd y (by decide), fun _ => ?_⟩) (fun s1 q => ⟨fun _ => ?_, fun y => absurd rfl y⟩)
      · refine fs_3_17 hth hm hw hb hv hn2 n (xj1 h5 (by omega)) (Or.inr (by omega)) ?_ q.2.1 q.2.2.1
        rw [lt_n_1 q.1]
        exact xj1 h4 (by omega)
      · refine fs_3_17 hth hm hw hb hv hn2 n (xj1 h5 (by omega)) (Or.inr (by omega)) ?_ q.2.1 q.2.2.1
        rw [lt_n_0 q.1]
        exact h4
theorem fs_173 {n : Nat} {s : ps_S} {h : tx_H} {l : List Nat} {x1 : Int32} (c : TRc s h l) (hw : WFt h) (hb : BTh h) (G : JG s h) : pl_Cl n 173 [.ref 0, .int x1] s (ps_rI (fun v s' => HO_A h x1 v ∧ JG s' h)) := by
  cases n with
  | zero => exact pl_At_0
  | succ n =>
  show pl_At (n + 1) 173 0 [(0, .ref 0), (1, .int x1)] [] s _
  refine pl_173_0 ?_
  have hth : ps_r s 0 2 = 2 ∨ ps_r s 0 2 = 26 := by have := c.2.1; omega
  have h8 := c.1.2.2.1
  refine fs_181 (fun h1 h2 => ⟨fun z => absurd z (by decide), fun _ => ?_⟩) (fun h0 => ⟨fun _ => ⟨Or.inl ⟨h0, by decide⟩, G⟩, fun z => absurd rfl z⟩)
  cases n with
  | zero => exact pl_At_0
  | succ n =>
  show pl_At (n + 1) 3 0 [(0, .ref 944), (1, .ref (ps_r s 0 2)), (2, .int x1)] [] s _
  refine pl_3_0 ?_
  refine fs_2 (m := x1.toInt.toNat) (by omega) hth c.1.1 (by omega) (fun v1 s1 e J F => ?_)
  have H1 := cv_H_cfr c.1 F (fun q a b => by unfold JC; omega)
  refine fs_9 hth H1 hw J.1 (fun s2 F2 M2 => ?_)
  have G2 : JG s2 h := JG_cfr (JG_cfr G F (by unfold JC; omega) (by unfold JC; omega)) F2 (by unfold CMA; omega) (by unfold CMA; omega)
  have J2 : JA s2 (ps_r s 0 2) x1.toInt.toNat h := by
    refine ⟨cv_H_cfr H1 F2 (fun q a b => by unfold CMA; omega), ?_, M2⟩
    obtain ⟨j1, j2, ⟨j3, j3'⟩, j4, j5⟩ := J
    have f := F2 944 (by unfold CMA; omega)
    refine ⟨by rw [f.2.2.1]; exact j1, by rw [f.1]; exact j2, ⟨by rw [f.1]; exact j3, ?_⟩, ?_, ?_⟩
    · unfold ar_L
      rw [(F2 945 (by unfold CMA; omega)).2.2.2.1]
      exact j3'
    · rw [(F2 947 (by unfold CMA; omega)).2.2.2.1]
      exact j4
    · rw [(F2 948 (by unfold CMA; omega)).2.2.2.1]
      exact j5
  exact fs_3_17 hth (by omega) hw hb e (fun v s' a G' => ⟨Or.inr ⟨⟨h1, h2⟩, a⟩, G'⟩) n (i := 0) rfl (Or.inl rfl) rfl J2 G2
end
section
set_option maxRecDepth 100000
/-! the class: free things; counter() -/
/-- how many of the first v are free -/
def fcn (l : List Nat) : Nat → Nat
  | 0 => 0
  | v + 1 => fcn l v + (if 60 + v ∈ l then 1 else 0)
theorem fcn_1 {l : List Nat} {v : Nat} (h : 60 + v ∈ l) : fcn l (v + 1) = fcn l v + 1 := by
  show fcn l v + (if 60 + v ∈ l then 1 else 0) = _
  rw [if_pos h]
theorem fcn_0 {l : List Nat} {v : Nat} (h : ¬ 60 + v ∈ l) : fcn l (v + 1) = fcn l v := by
  show fcn l v + (if 60 + v ∈ l then 1 else 0) = _
  rw [if_neg h]
  rfl
theorem fcn_le {l : List Nat} : ∀ {v : Nat}, fcn l v ≤ v
  | 0 => Nat.le_refl _
  | v + 1 => by
    have := fcn_le (l := l) (v := v)
    by_cases h : 60 + v ∈ l
    · rw [fcn_1 h]; omega
    · rw [fcn_0 h]; omega
theorem fcn_mono {l : List Nat} : ∀ {v w : Nat}, v ≤ w → fcn l v ≤ fcn l w
  | v, 0, h => by rw [show v = 0 from by omega]; exact Nat.le_refl _
  | v, w + 1, h => by
    by_cases e : v = w + 1
    · rw [e]; exact Nat.le_refl _
    · have := fcn_mono (l := l) (v := v) (w := w) (by omega)
      by_cases h2 : 60 + w ∈ l
      · rw [fcn_1 h2]; omega
      · rw [fcn_0 h2]; omega
theorem fcn_lt {l : List Nat} {v w : Nat} (h : 60 + v ∈ l) (hv : v < w) : fcn l v < fcn l w := by
  have := fcn_mono (l := l) (v := v + 1) (w := w) (by omega)
  rw [fcn_1 h] at this
  omega
theorem fcn_at {l : List Nat} : ∀ {v i : Nat}, i < fcn l v → ∃ u, u < v ∧ 60 + u ∈ l ∧ fcn l u = i
  | 0, i, h => absurd h (Nat.not_lt_zero _)
  | v + 1, i, h => by
    by_cases h2 : 60 + v ∈ l
    · rw [fcn_1 h2] at h
      by_cases e : i = fcn l v
      · exact ⟨v, by omega, h2, e.symm⟩
      · obtain ⟨u, a, b, c⟩ := fcn_at (l := l) (v := v) (i := i) (by omega)
        exact ⟨u, by omega, b, c⟩
    · rw [fcn_0 h2] at h
      obtain ⟨u, a, b, c⟩ := fcn_at (l := l) (v := v) (i := i) h
      exact ⟨u, by omega, b, c⟩
/-- the k-th choice of free things -/
def frc (m : Nat) (l : List Nat) (k v : Nat) : Nat := k / m ^ fcn l v % m
/-- a formula holds in a model, whatever its free ones are -/
def FA (h : tx_H) (l : List Nat) (m M : Nat) : Prop := ∀ k, k < m ^ fcn l 12 → svg m h.1 (dD (md_B m (md_sy m h.1)) M) (frc m l k) 13 [] l = 1
theorem fs_100_2 {r c : Nat} {l : List Nat} {x1 : Int32} {s : ps_S} {R : Int32 → ps_S → Prop} (hr : ps_is r 5 = true) (W : cv_W s r l) (hx : x1.toInt = c) (k1 : c ∈ l → R 1 s) (k0 : ¬ c ∈ l → R 0 s) : ∀ (n : Nat) {x2 : Int32} {i : Nat}, x2.toInt = i → (∀ j, j < i → l[j]? ≠ some c) → pl_At n 100 2 [(0, .ref r), (1, .int x1), (2, .int x2)] [] s (ps_rI R)
  | 0, _, _, _, _ => pl_At_0
  | n + 1, x2, i, h2, hj => by
    have hsz := W.1
    have h40 := W.2.2.1
    refine pl_100_2 (pl_nk_i (fun _ => ⟨fun z => ?_, fun z => ?_⟩))
    · have z := xle z
      refine k0 (fun y => ?_)
      obtain ⟨j, hj2⟩ := List.mem_iff_getElem?.mp y
      have := (List.getElem?_eq_some_iff.mp hj2).1
      exact hj j (by omega) hj2
    · have z := xlt z
      obtain ⟨d, hd⟩ : ∃ d, l[i]? = some d := ⟨_, List.getElem?_eq_getElem (by omega)⟩
      refine fs_92c hr W h2 hd (fun v q => ⟨fun y => ?_, fun y => ?_⟩)
      · have y := xne y
        refine fs_100_2 hr W hx k1 k0 n (xj1 h2 (by omega)) (fun j hj2 => ?_)
        rcases Nat.lt_or_ge j i with a | a
        · exact hj j a
        · rw [show j = i from by omega, hd]
          exact fun b => by have := Option.some.inj b; omega
      · have y := xeq y
        exact k1 (by rw [show c = d from by omega]; exact List.mem_of_getElem? hd)
theorem fs_100 {n r c : Nat} {l : List Nat} {x1 : Int32} {s : ps_S} {R : Int32 → ps_S → Prop} (hr : ps_is r 5 = true) (W : cv_W s r l) (hx : x1.toInt = c) (k1 : c ∈ l → R 1 s) (k0 : ¬ c ∈ l → R 0 s) : pl_Cl n 100 [.ref r, .int x1] s (ps_rI R) := by
  cases n with
  | zero => exact pl_At_0
  | succ n =>
  show pl_At (n + 1) 100 0 [(0, .ref r), (1, .int x1)] [] s (ps_rI R)
  exact pl_100_0 (fs_100_2 hr W hx k1 k0 n (i := 0) rfl (fun j hj => absurd hj (Nat.not_lt_zero _)))
/-- the free ones are listed -/
def FF (s : ps_S) (l : List Nat) (v : Nat) : Prop := (ps_i s 944 10).toInt = fcn l v ∧ ∀ u, u < v → 60 + u ∈ l → (ps_a s 956 (fcn l u)).toInt = u
theorem fs_13_7 {l : List Nat} {s0 : ps_S} {R : ps_S → Prop} (W0 : cv_W s0 934 l) (k : ∀ s', FF s' l 12 → jq 944 [956] [10] s0 s' → R s') : ∀ (n : Nat) {s : ps_S} {x2 : Int32} {v : Nat}, x2.toInt = v → v ≤ 12 → FF s l v → jq 944 [956] [10] s0 s → pl_At n 13 7 [(0, .ref 944), (1, .ref 934), (2, .int x2)] [] s (ps_rV R)
  | 0, _, _, _, _, _, _, _ => pl_At_0
  | n + 1, s, x2, v, h2, hv, H, K => by
    have W := cv_W_jq W0 K (by decide) (by decide)
    have c12 : (12 : Int32).toInt = 12 := by decide
    have c60 : (60 : Int32).toInt = 60 := by decide
    have hle := fcn_le (l := l) (v := v)
    refine pl_13_7 ⟨fun z => ?_, fun z => ?_⟩
    · have z := xle z
      have e : v = 12 := by omega
      subst e
      exact k s H K
    · have z := xlt z
      refine fs_100 (r := 934) (c := 60 + v) rfl W (by rw [xIa (by omega) (by omega), c60, h2]; rfl) (fun y => ⟨fun a => absurd a (by decide), fun _ => ?_⟩) (fun y => ⟨fun _ => ?_, fun a => absurd rfl a⟩)
      · refine fs_183 (a := fcn l v) H.1 (show fcn l v < 12 from by omega) (by decide) ?_
        refine fs_13_7 W0 k n (xj1 h2 (by omega)) (by omega) ⟨?_, fun u hu hm => ?_⟩ (jqi (jqa K rfl) rfl)
        · rw [fcn_1 y]
          exact xj1 H.1 (by omega)
        · show (ps_a (ps_ua s 956 (fcn l v) x2) 956 (fcn l u)).toInt = u
          rw [ps_a_ua]
          by_cases e : u = v
          · rw [if_pos ⟨rfl, by rw [e]⟩, e]
            exact h2
          · have := fcn_lt hm (show u < v by omega)
            rw [if_neg (by omega)]
            exact H.2 u (by omega) hm
      · refine fs_13_7 W0 k n (xj1 h2 (by omega)) (by omega) ⟨by rw [fcn_0 y]; exact H.1, fun u hu hm => ?_⟩ K
        by_cases e : u = v
        · rw [e] at hm
          exact absurd hm y
        · exact H.2 u (by omega) hm
theorem fs_13 {n : Nat} {l : List Nat} {s : ps_S} {R : ps_S → Prop} (W0 : cv_W s 934 l) (k : ∀ s', FF s' l 12 → jq 944 [956] [10] s s' → R s') : pl_Cl n 13 [.ref 944, .ref 934] s (ps_rV R) := by
  cases n with
  | zero => exact pl_At_0
  | succ n =>
  show pl_At (n + 1) 13 0 [(0, .ref 944), (1, .ref 934)] [] s (ps_rV R)
  have K : jq 944 [956] [10] s (ps_ui s 944 10 0) := jqi jq_refl rfl
  exact pl_13_0 (fs_13_7 W0 k n (v := 0) rfl (Nat.zero_le _) ⟨rfl, fun u hu => absurd hu (Nat.not_lt_zero _)⟩ K)
/-- a theory and its digits' places alone -/
def JB (s : ps_S) (th m : Nat) (h : tx_H) : Prop := cv_H s th h ∧ JL s th m h.1
theorem JB_of {s : ps_S} {th m : Nat} {h : tx_H} (H : JA s th m h) : JB s th m h := ⟨H.1, H.2.1⟩
theorem JB_cfr {C : Nat → Prop} {s s' : ps_S} {th m : Nat} {h : tx_H} (H : JB s th m h) (F : cfr C s s') (hth : th = 2 ∨ th = 26) (hC : ∀ q, q < 944 ∨ q = 945 ∨ q = 947 ∨ q = 948 → ¬ C q) (r16 : ps_r s' 944 16 = ps_r s 944 16) (i2 : ps_i s' 944 2 = ps_i s 944 2) (i11 : ps_i s' 944 11 = ps_i s 944 11) : JB s' th m h := by
  obtain ⟨h1, ⟨j1, j2, ⟨j3, j3'⟩, j4, j5⟩⟩ := H
  have hl := h1.2.2.1
  refine ⟨cv_H_cfr h1 F (fun q a b => hC q (Or.inl (by omega))), ⟨by rw [r16]; exact j1, by rw [i11]; exact j2, ⟨by rw [i2]; exact j3, ?_⟩, ?_, ?_⟩⟩
  · unfold ar_L
    rw [(F 945 (hC _ (by omega))).2.2.2.1]
    exact j3'
  · rw [(F 947 (hC _ (by omega))).2.2.2.1]
    exact j4
  · rw [(F 948 (hC _ (by omega))).2.2.2.1]
    exact j5
/-- all that is laid for a formula in a model -/
def JFo (s : ps_S) (th m M : Nat) (h : tx_H) (l : List Nat) : Prop := JB s th m h ∧ cv_W s 934 l ∧ shE s 950 (arh h.1) l 0 ∧ FF s l 12 ∧ DG s m M h.1
/-- what evaluating the formula changes -/
def CFo (q : Nat) : Prop := q = 944 ∨ q = 954 ∨ q = 955
theorem JFo_cfr {s s' : ps_S} {th m M : Nat} {h : tx_H} {l : List Nat} (H : JFo s th m M h l) (F : cfr CFo s s') (hth : th = 2 ∨ th = 26) (r16 : ps_r s' 944 16 = ps_r s 944 16) (hi : ps_i s' 944 = ps_i s 944) : JFo s' th m M h l := by
  obtain ⟨h1, h2, h3, h4, h5⟩ := H
  refine ⟨JB_cfr h1 F hth (fun q a b => by unfold CFo at b; omega) r16 (by rw [hi]) (by rw [hi]), cv_W_cfr h2 F (by unfold CFo; omega) (by unfold CFo; omega), ?_, ?_, ?_⟩
  · intro j a b
    rw [(F 951 (by unfold CFo; omega)).2.2.2.1]
    exact h3 j a b
  · unfold FF
    rw [hi, (F 956 (by unfold CFo; omega)).2.2.2.1]
    exact h4
  · intro j b hb
    rw [(F 946 (by unfold CFo; omega)).2.2.2.1]
    exact h5 j b hb
section J14
variable {th m M : Nat} {h : tx_H} {l : List Nat} {s0 : ps_S} {R : Int32 → ps_S → Prop}
/-- a choice laid -/
theorem fs_14_51 {n0 kc : Nat} {x2 x3 : Int32} (hth : th = 2 ∨ th = 26) (hm : 1 ≤ m ∧ m ≤ 3) (hkc : kc < 100000) (kk : ∀ s', cfr CFo s0 s' → ps_i s' 944 = ps_i s0 944 → ps_r s' = ps_r s0 → (∀ v, v < 12 → 60 + v ∈ l → (ps_a s' 955 v).toInt = frc m l kc v) → pl_At n0 14 105 [(0, .ref 944), (2, .int x2), (3, .int x3)] [] s' (ps_rI R)) (H0 : JFo s0 th m M h l) : ∀ (n : Nat) {s : ps_S} {x4 x5 : Int32} {i : Nat}, n ≤ n0 → x5.toInt = i → i ≤ fcn l 12 → x4.toInt = (kc / m ^ i : Nat) → cfr CFo s0 s → ps_i s 944 = ps_i s0 944 → ps_r s = ps_r s0 → (∀ v, v < 12 → 60 + v ∈ l → fcn l v < i → (ps_a s 955 v).toInt = frc m l kc v) → pl_At n 14 51 [(0, .ref 944), (2, .int x2), (3, .int x3), (4, .int x4), (5, .int x5)] [] s (ps_rI R)
  | 0, _, _, _, _, _, _, _, _, _, _, _, _ => pl_At_0
  | n + 1, s, x4, x5, i, hn, h5, hi, h4, F, Fi, Fr, hv => by
    have e10 : (ps_i s 944 10).toInt = fcn l 12 := by rw [Fi]; exact H0.2.2.2.1.1
    have e11 : (ps_i s 944 11).toInt = m := by rw [Fi]; exact H0.1.2.2.1
    have c0 : (0 : Int32).toInt = 0 := by decide
    have hle := fcn_le (l := l) (v := 12)
    have hd : kc / m ^ i ≤ kc := Nat.div_le_self _ _
    refine pl_14_51 ⟨fun z => ?_, fun z => ⟨fun y => absurd (xle y) (by omega), fun y => ?_⟩⟩
    · have z := xle z
      exact (kk s F Fi Fr (fun v a b => hv v a b (by have := fcn_lt b a; omega))).le (by omega)
    · have z := xlt z
      obtain ⟨u, hu, hum, e⟩ := fcn_at (l := l) (v := 12) (i := i) (by omega)
      refine fs_182v (a := i) h5 (show i < 12 from by omega) (by decide) (fun v1 q1 => ?_)
      have ev : v1.toInt = u := by
        rw [q1, (F 956 (by unfold CFo; omega)).2.2.2.1, ← e]
        exact H0.2.2.2.1.2 u hu hum
      refine pl_nk_i (fun _ => ?_)
      refine fs_183 (a := u) ev (show u < 12 from hu) (by decide) (pl_nk_i (fun _ => ?_))
      have ed : (x4 - (x4 / (ps_i s 944 11)) * (ps_i s 944 11)).toInt = (frc m l kc u : Nat) := by
        rw [xmodr (by rw [h4]; exact Int.natCast_nonneg _) (by omega), h4, e11, ← Int.natCast_emod]
        unfold frc
        rw [e]
      refine fs_14_51 hth hm hkc kk H0 n (by omega) (xj1 h5 (by omega)) (by omega) ?_ (cfr_a F (Or.inr (Or.inr rfl))) Fi Fr (fun v a b c => ?_)
      · show (x4 / (ps_i s 944 11)).toInt = _
        rw [xdivr (by rw [h4]; exact Int.natCast_nonneg _) (by omega), h4, e11, ← Int.natCast_ediv, Nat.div_div_eq_div_mul, Nat.pow_succ]
      · rw [ps_a_ua]
        by_cases ev2 : v = u
        · rw [if_pos ⟨rfl, ev2⟩, ed, ev2]
        · rw [if_neg (fun w => ev2 w.2)]
          refine hv v a b ?_
          rcases Nat.lt_trichotomy v u with w | w | w
          · have := fcn_lt b w; omega
          · exact absurd w ev2
          · have := fcn_lt hum w; omega
theorem fs_14_40 (hth : th = 2 ∨ th = 26) (hm : 1 ≤ m ∧ m ≤ 3) (hf : wf (sg h.1) 5 l [(true, 0)]) (hbc : bc (arh h.1) [(0, 0)] l) (hl40 : l.length ≤ 40) (h4 : fcn l 12 ≤ 4) (k1 : ∀ s', FA h l m M → JFo s' th m M h l → cfr CFo s0 s' → ps_i s' 944 = ps_i s0 944 → R 1 s') (k0 : ∀ s', ¬ FA h l m M → JFo s' th m M h l → cfr CFo s0 s' → ps_i s' 944 = ps_i s0 944 → R 0 s') : ∀ (n : Nat) {s : ps_S} {x2 x3 : Int32} {kc : Nat}, x2.toInt = (m ^ fcn l 12 : Nat) → x3.toInt = kc → kc ≤ m ^ fcn l 12 → JFo s th m M h l → cfr CFo s0 s → ps_i s 944 = ps_i s0 944 → ps_r s 944 14 = 934 ∧ ps_r s 944 15 = 950 → (∀ k, k < kc → svg m h.1 (dD (md_B m (md_sy m h.1)) M) (frc m l k) 13 [] l = 1) → pl_At n 14 40 [(0, .ref 944), (2, .int x2), (3, .int x3)] [] s (ps_rI R)
  | 0, _, _, _, _, _, _, _, _, _, _, _, _ => pl_At_0
  | n + 1, s, x2, x3, kc, h2, h3, hk, J, F, Fi, hr, hj => by
    have hpw := md_pow (i := fcn l 12) hm.2 (by omega)
    have hp81 : m ^ fcn l 12 ≤ 81 := by
      have a1 : m ^ fcn l 12 ≤ 3 ^ fcn l 12 := Nat.pow_le_pow_left hm.2 _
      have a2 : 3 ^ fcn l 12 ≤ 3 ^ 4 := Nat.pow_le_pow_right (by decide) h4
      have a3 : 3 ^ 4 = 81 := by decide
      omega
    refine pl_14_40 ⟨fun z => ?_, fun z => ?_⟩
    · have z := xle z
      have e : kc = m ^ fcn l 12 := by omega
      exact k1 s (fun k hk2 => hj k (by omega)) J F Fi
    · have z := xlt z
      refine fs_14_51 (M := M) (h := h) (n0 := n) hth hm (kc := kc) (by omega) (fun s1 F1 Fi1 Fr1 hv => ?_) J n (i := 0) (Nat.le_refl _) rfl (Nat.zero_le _) (by rw [Nat.pow_zero, Nat.div_one]; exact h3) cfr_refl rfl rfl (fun v a b c => absurd c (Nat.not_lt_zero _))
      cases n with
      | zero => exact pl_At_0
      | succ n =>
      have J1 : JFo s1 th m M h l := JFo_cfr J F1 hth (by rw [Fr1]) Fi1
      have FJ : JF 934 950 th m h.1 l := ⟨rfl, rfl, hth, ⟨by decide, by decide, by decide⟩, hm, hl40⟩
      have E1 : JE s1 934 950 th m h.1 l (dD (md_B m (md_sy m h.1)) M) (frc m l kc) := by
        refine ⟨⟨by rw [Fr1]; exact hr.1, by rw [Fr1]; exact hr.2⟩, J1.2.1, J1.2.2.1, J1.1.1.1, J1.1.2, fun j b hb => ⟨J1.2.2.2.2 j b hb, dgo_d hm j b hb⟩, fun v hv2 => ?_⟩
        have hv12 : v < 12 := by
          have := ws_72 (σ := sg h.1) ⟨J1.1.1.1.2.2.1, J1.1.1.1.2.2.2.1⟩ (wf_ws hf) _ hv2
          omega
        exact ⟨hv12, hv v hv12 hv2, Nat.mod_lt _ hm.1⟩
      refine pl_14_105 ?_
      refine (J15_all FJ n).1.1 (i := 0) (p := 0) (env := []) E1 (fun k x hk => by cases hk) (pt_0 hbc hf) rfl rfl rfl (fun v s' q => ?_)
      obtain ⟨b1, i1, P⟩ := q
      rw [List.drop_zero] at i1
      have F2 : cfr CFo s1 s' := cfr_mono (jq_cfr P.2.2.1) (fun q z => by
        rcases z with z | z
        · exact Or.inl z
        · have := List.contains_iff_mem.mp z
          rw [List.mem_singleton] at this
          exact Or.inr (Or.inl this))
      have Fi2 : ps_i s' 944 = ps_i s1 944 := funext fun f => jq_i P.2.2.1 f rfl
      have J2 : JFo s' th m M h l := JFo_cfr J1 F2 hth (by rw [jq_r P.2.2.1]) Fi2
      have c0 : (0 : Int32).toInt = 0 := by decide
      refine ⟨fun y => ?_, fun y => ?_⟩
      · have y := xne y
        refine (fs_14_40 hth hm hf hbc hl40 h4 k1 k0 n h2 (xj1 h3 (by omega)) (by omega) J2 (cfr_tr F (cfr_tr F1 F2)) (Fi2.trans (Fi1.trans Fi)) (by rw [jq_r P.2.2.1, Fr1]; exact hr) (fun k hk2 => ?_))
        rcases Nat.lt_or_ge k kc with a | a
        · exact hj k a
        · rw [show k = kc from by omega]
          exact i1.mp (by omega)
      · have y := xeq y
        exact k0 s' (fun a => by have := i1.mpr (a kc (by omega)); omega) J2 (cfr_tr F (cfr_tr F1 F2)) (Fi2.trans (Fi1.trans Fi))
theorem fs_14_17 (hth : th = 2 ∨ th = 26) (hm : 1 ≤ m ∧ m ≤ 3) (h4 : fcn l 12 ≤ 4) {s : ps_S} (J : JFo s th m M h l) (k : ∀ (n : Nat) (x2 : Int32), x2.toInt = (m ^ fcn l 12 : Nat) → pl_At n 14 40 [(0, .ref 944), (2, .int x2), (3, .int 0)] [] s (ps_rI R)) : ∀ (n : Nat) {x2 x3 : Int32} {i : Nat}, x3.toInt = i → i ≤ fcn l 12 → x2.toInt = (m ^ i : Nat) → pl_At n 14 17 [(0, .ref 944), (2, .int x2), (3, .int x3)] [] s (ps_rI R)
  | 0, _, _, _, _, _, _ => pl_At_0
  | n + 1, x2, x3, i, h3, hi, h2 => by
    have e10 : (ps_i s 944 10).toInt = fcn l 12 := J.2.2.2.1.1
    have e11 : (ps_i s 944 11).toInt = m := J.1.2.2.1
    refine pl_14_17 ⟨fun z => ?_, fun z => ?_⟩
    · have z := xle z
      exact k n x2 (by rw [h2, show i = fcn l 12 from by omega])
    · have z := xlt z
      refine fs_14_17 hth hm h4 J k n (xj1 h3 (by omega)) (by omega) ?_
      have hp := md_pow (i := i + 1) hm.2 (by omega)
      rw [Nat.pow_succ] at hp ⊢
      exact xImN h2 e11 (by omega)
theorem fs_14 {n : Nat} (hth : th = 2 ∨ th = 26) (hm : 1 ≤ m ∧ m ≤ 3) (hf : wf (sg h.1) 5 l [(true, 0)]) (hbc : bc (arh h.1) [(0, 0)] l) (hl40 : l.length ≤ 40) (h4 : fcn l 12 ≤ 4) (J : JFo s0 th m M h l) (k1 : ∀ s', FA h l m M ∧ JFo s' th m M h l ∧ cfr CFo s0 s' ∧ ps_i s' 944 = ps_i s0 944 → R 1 s') (k0 : ∀ s', ¬ FA h l m M ∧ JFo s' th m M h l ∧ cfr CFo s0 s' ∧ ps_i s' 944 = ps_i s0 944 → R 0 s') : pl_Cl n 14 [.ref 944, .ref 934] s0 (ps_rI R) := by
  cases n with
  | zero => exact pl_At_0
  | succ n =>
  show pl_At (n + 1) 14 0 [(0, .ref 944), (1, .ref 934)] [] s0 (ps_rI R)
  refine pl_14_0 ?_
  have F1 : cfr CFo s0 (ps_ur (ps_ur s0 944 14 934) 944 15 950) := cfr_r (cfr_r cfr_refl (Or.inl rfl)) (Or.inl rfl)
  have J1 : JFo (ps_ur (ps_ur s0 944 14 934) 944 15 950) th m M h l := JFo_cfr J F1 hth (by rw [ps_r_ur, if_neg (by omega), ps_r_ur, if_neg (by omega)]) rfl
  refine fs_14_17 hth hm h4 J1 (fun n x2 h2 => ?_) n (i := 0) rfl (Nat.zero_le _) (by rw [Nat.pow_zero]; rfl)
  refine fs_14_40 (s0 := s0) hth hm hf hbc hl40 h4 (fun s' a b c d => k1 s' ⟨a, b, c, d⟩) (fun s' a b c d => k0 s' ⟨a, b, c, d⟩) n h2 (kc := 0) rfl (Nat.zero_le _) J1 F1 rfl ⟨?_, ?_⟩ (fun k hk => absurd hk (Nat.not_lt_zero _))
  · rw [ps_r_ur, if_neg (by omega), ps_r_ur, if_pos ⟨rfl, rfl⟩]
  · rw [ps_r_ur, if_pos ⟨rfl, rfl⟩]
end J14
/-- counter()'s answer -/
def CO_A (h : tx_H) (l : List Nat) (x v : Int32) : Prop := ((¬ (1 ≤ x.toInt ∧ x.toInt ≤ 3) ∨ l = []) ∧ v.toInt = -1) ∨ (((1 ≤ x.toInt ∧ x.toInt ≤ 3) ∧ l ≠ []) ∧ (((4096 < md_p (md_B x.toInt.toNat (md_sy x.toInt.toNat h.1)) ∨ 4 < fcn l 12) ∧ v.toInt = -2) ∨ ((md_p (md_B x.toInt.toNat (md_sy x.toInt.toNat h.1)) ≤ 4096 ∧ fcn l 12 ≤ 4) ∧ ((∃ M : Nat, v.toInt = M ∧ M < md_p (md_B x.toInt.toNat (md_sy x.toInt.toNat h.1)) ∧ (AX h x.toInt.toNat M ∧ ¬ FA h l x.toInt.toNat M) ∧ ∀ M', M' < M → ¬ (AX h x.toInt.toNat M' ∧ ¬ FA h l x.toInt.toNat M')) ∨ (v.toInt = -1 ∧ ∀ M', M' < md_p (md_B x.toInt.toNat (md_sy x.toInt.toNat h.1)) → ¬ (AX h x.toInt.toNat M' ∧ ¬ FA h l x.toInt.toNat M'))))))
theorem CO_A_eq {h : tx_H} {l : List Nat} {x v v' : Int32} (a : CO_A h l x v) (b : CO_A h l x v') : v = v' := by
  apply Int32.toInt_inj.mp
  rcases a with ⟨a1, a2⟩ | ⟨⟨a1, a0⟩, a⟩ <;> rcases b with ⟨b1, b2⟩ | ⟨⟨b1, b0⟩, b⟩
  · omega
  · rcases a1 with a1 | a1
    · exact absurd b1 a1
    · exact absurd a1 b0
  · rcases b1 with b1 | b1
    · exact absurd a1 b1
    · exact absurd b1 a0
  · rcases a with ⟨a2, a3⟩ | ⟨a2, a3⟩ <;> rcases b with ⟨b2, b3⟩ | ⟨b2, b3⟩
    · omega
    · clear b3; omega
    · clear a3; omega
    · rcases a3 with ⟨M, e1, e2, e3, e4⟩ | ⟨e1, e2⟩ <;> rcases b3 with ⟨M', f1, f2, f3, f4⟩ | ⟨f1, f2⟩
      · rcases Nat.lt_trichotomy M M' with z | z | z
        · exact absurd e3 (f4 M z)
        · omega
        · exact absurd f3 (e4 M' z)
      · exact absurd e3 (f2 M e2)
      · exact absurd f3 (e2 M' f2)
      · omega
theorem fs_5_50 {th m p : Nat} {h : tx_H} {l : List Nat} {x4 : Int32} {R : Int32 → ps_S → Prop} (hth : th = 2 ∨ th = 26) (hm : 1 ≤ m ∧ m ≤ 3) (hw : WFt h) (hb : BTh h) (hf : wf (sg h.1) 5 l [(true, 0)]) (hbc : bc (arh h.1) [(0, 0)] l) (hl40 : l.length ≤ 40) (h4 : fcn l 12 ≤ 4) (hx4 : x4.toInt = p) (hp : p ≤ 4096) (k : ∀ (v : Int32) s', ((∃ M : Nat, v.toInt = M ∧ M < p ∧ (AX h m M ∧ ¬ FA h l m M) ∧ ∀ M', M' < M → ¬ (AX h m M' ∧ ¬ FA h l m M')) ∨ (v.toInt = -1 ∧ ∀ M', M' < p → ¬ (AX h m M' ∧ ¬ FA h l m M'))) → JG s' h → R v s') : ∀ (n : Nat) {s : ps_S} {x5 : Int32} {M : Nat}, x5.toInt = M → JA s th m h → cv_W s 934 l → shE s 950 (arh h.1) l 0 → FF s l 12 → JG s h → (∀ M', M' < M → ¬ (AX h m M' ∧ ¬ FA h l m M')) → pl_At n 5 50 [(0, .ref 944), (2, .ref 934), (4, .int x4), (5, .int x5)] [] s (ps_rI R)
  | 0, _, _, _, _, _, _, _, _, _, _ => pl_At_0
  | n + 1, s, x5, M, h5, J, W, E, H, G, hj => by
    refine pl_5_50 ⟨fun z => ?_, fun z => ?_⟩
    · have z := xle z
      exact k _ _ (Or.inr ⟨by decide, fun M' hM => hj M' (by omega)⟩) G
    · have z := xlt z
      have keep : ∀ {C : Nat → Prop} {s1 : ps_S}, cfr C s s1 → (∀ q, q = 934 ∨ q = 935 ∨ q = 951 ∨ q = 956 → ¬ C q) → ps_i s1 944 = ps_i s 944 → cv_W s1 934 l ∧ shE s1 950 (arh h.1) l 0 ∧ FF s1 l 12 := fun F hC Fi => by
        refine ⟨cv_W_cfr W F (hC _ (by omega)) (hC _ (by omega)), fun j a b => ?_, ?_⟩
        · rw [(F 951 (hC _ (by omega))).2.2.2.1]
          exact E j a b
        · unfold FF
          rw [Fi, (F 956 (hC _ (by omega))).2.2.2.1]
          exact H
      refine fs_11 hth hm hw hb (M := M) (by omega) h5 J G (fun s1 q => ⟨fun y => absurd y (by decide), fun _ => ?_⟩) (fun s1 q => ⟨fun _ => ?_, fun y => absurd rfl y⟩)
      · obtain ⟨q1, q2, q3, q4, q5⟩ := q
        obtain ⟨W1, E1, H1⟩ := keep q4 (fun q a b => by unfold CIg at b; omega) q5
        have h90 : (md_B m (md_sy m h.1)).length ≤ 90 := by
          have hl := md_o_le hm.2 (md_sy_ar (m := m) q2.1.1) (md_sy m h.1).length (Nat.le_refl _)
          unfold md_o at hl
          rw [List.take_length, md_sy_len] at hl
          have := q2.1.1.2.2.1
          have := q2.1.1.2.2.2.1
          omega
        refine fs_8 (M := M) (by omega) (fun b hb2 => md_b3 hm hb2) h90 q2.2.1.2.2.1 h5 (fun s2 K D => ?_)
        have hne : ∀ q, q = 944 ∨ [946].contains q = true → q = 944 ∨ q = 946 := fun q b => by
          rcases b with b | b
          · exact Or.inl b
          · have := List.contains_iff_mem.mp b
            rw [List.mem_singleton] at this
            exact Or.inr this
        have J2 := JA_cfr q2 (jq_cfr K) hth (fun q a b => by have := hne q b; omega) (by rw [jq_r K]) (jq_i K 2 rfl) (jq_i K 11 rfl)
        have Fi2 : ps_i s2 944 = ps_i s 944 := (funext fun f => jq_i K f rfl).trans q5
        obtain ⟨W2, E2, H2⟩ := keep (C := fun q => CIg q ∨ q = 944 ∨ q = 946) (cfr_tr (cfr_mono q4 (fun q z => Or.inl z)) (cfr_mono (jq_cfr K) (fun q z => Or.inr (hne q z)))) (fun q a b => by unfold CIg at b; omega) Fi2
        have G2 := JG_cfr q3 (jq_cfr K) (fun b => by have := hne _ b; omega) (fun b => by have := hne _ b; omega)
        refine fs_14 (M := M) hth hm hf hbc hl40 h4 ⟨JB_of J2, W2, E2, H2, D⟩ (fun s3 q => ⟨fun _ => ?_, fun y => absurd y (by decide)⟩) (fun s3 q => ⟨fun y => absurd rfl y, fun _ => ?_⟩)
        · obtain ⟨r1, ⟨r2, r3, r4, r5, r6⟩, r7, r8⟩ := q
          refine fs_5_50 hth hm hw hb hf hbc hl40 h4 hx4 hp k n (xj1 h5 (by omega)) (JA_cfr J2 r7 hth (fun q a b => by unfold CFo at b; omega) (r2.2.1.trans J2.2.1.1.symm) (by rw [r8]) (by rw [r8])) r3 r4 r5 (JG_cfr G2 r7 (by unfold CFo; omega) (by unfold CFo; omega)) (fun M' hM => ?_)
          rcases Nat.lt_or_ge M' M with a | a
          · exact hj M' a
          · rw [show M' = M from by omega]
            exact fun b => b.2 r1
        · obtain ⟨r1, -, r7, r8⟩ := q
          exact k _ _ (Or.inl ⟨M, h5, by omega, ⟨q1, r1⟩, hj⟩) (JG_cfr G2 r7 (by unfold CFo; omega) (by unfold CFo; omega))
      · obtain ⟨q1, q2, q3, q4, q5⟩ := q
        obtain ⟨W1, E1, H1⟩ := keep q4 (fun q a b => by unfold CIg at b; omega) q5
        refine fs_5_50 hth hm hw hb hf hbc hl40 h4 hx4 hp k n (xj1 h5 (by omega)) q2 W1 E1 H1 q3 (fun M' hM => ?_)
        rcases Nat.lt_or_ge M' M with a | a
        · exact hj M' a
        · rw [show M' = M from by omega]
          exact fun b => q1 b.1
theorem fs_175 {n : Nat} {s : ps_S} {h : tx_H} {l : List Nat} {x1 : Int32} (c : TRc s h l) (hw : WFt h) (hb : BTh h) (hf : WFf h.1 l) (hbc : l ≠ [] → bc (arh h.1) [(0, 0)] l) (G : JG s h) : pl_Cl n 175 [.ref 0, .int x1] s (ps_rI (fun v s' => CO_A h l x1 v ∧ JG s' h)) := by
  cases n with
  | zero => exact pl_At_0
  | succ n =>
  show pl_At (n + 1) 175 0 [(0, .ref 0), (1, .int x1)] [] s _
  refine pl_175_0 ?_
  have hth : ps_r s 0 2 = 2 ∨ ps_r s 0 2 = 26 := by have := c.2.1; omega
  have h8 := c.1.2.2.1
  have hsz := c.2.2.1
  have hl40 := c.2.2.2.2.1
  have c0 : (0 : Int32).toInt = 0 := by decide
  refine fs_181 (fun h1 h2 => ⟨fun z => absurd z (by decide), fun _ => ⟨fun z => ?_, fun z => ?_⟩⟩) (fun h0 => ⟨fun _ => ⟨Or.inl ⟨Or.inl h0, by decide⟩, G⟩, fun z => absurd rfl z⟩)
  · have z := xne z
    have hl : l ≠ [] := fun y => by rw [y] at hsz; exact z hsz
    have hf : wf (sg h.1) 5 l [(true, 0)] := by
      rcases hf with hf | hf
      · exact absurd hf hl
      · exact hf
    cases n with
    | zero => exact pl_At_0
    | succ n =>
    show pl_At (n + 1) 5 0 [(0, .ref 944), (1, .ref (ps_r s 0 2)), (2, .ref 934), (3, .int x1)] [] s _
    refine pl_5_0 ?_
    refine fs_2 (m := x1.toInt.toNat) (by omega) hth c.1.1 (by omega) (fun v1 s1 e J F => ?_)
    have H1 := cv_H_cfr c.1 F (fun q a b => by unfold JC; omega)
    have W1 := cv_W_cfr c.2.2 F (by unfold JC; omega) (by unfold JC; omega)
    have G1 : JG s1 h := JG_cfr G F (by unfold JC; omega) (by unfold JC; omega)
    refine fs_13 W1 (fun s2 FF2 K2 => ?_)
    have cm : (-2 : Int32).toInt = -2 := by decide
    have c4 : (4 : Int32).toInt = 4 := by decide
    have hne : ∀ q, q = 944 ∨ [956].contains q = true → q = 944 ∨ q = 956 := fun q b => by
      rcases b with b | b
      · exact Or.inl b
      · have := List.contains_iff_mem.mp b
        rw [List.mem_singleton] at this
        exact Or.inr this
    have F2 : cfr (fun q => q = 944 ∨ q = 956) s1 s2 := cfr_mono (jq_cfr K2) hne
    have G2 : JG s2 h := JG_cfr G1 F2 (by omega) (by omega)
    have H2 := cv_H_cfr H1 F2 (fun q a b => by omega)
    have W2 := cv_W_cfr W1 F2 (by omega) (by omega)
    have hff := FF2.1
    refine ⟨fun y => ?_, fun y => ⟨fun y2 => ?_, fun y2 => ?_⟩⟩
    · have y := xeq y
      refine ⟨Or.inr ⟨⟨⟨h1, h2⟩, hl⟩, Or.inl ⟨Or.inl ?_, by decide⟩⟩, G2⟩
      rw [e] at y
      unfold md_v at y
      split at y <;> omega
    · have y := xne y
      have y2 := xle y2
      have hp : md_p (md_B x1.toInt.toNat (md_sy x1.toInt.toNat h.1)) ≤ 4096 ∧ v1.toInt = md_p (md_B x1.toInt.toNat (md_sy x1.toInt.toNat h.1)) := by
        rw [e] at y ⊢
        unfold md_v at y ⊢
        split at y
        · next w => rw [if_pos w]; exact ⟨w, rfl⟩
        · omega
      have er2 : ps_r s2 944 16 = ps_r s 0 2 := by rw [jq_r K2]; exact J.1
      refine fs_9 hth H2 hw er2 (fun s3 F3 M3 => ?_)
      have H3 := cv_H_cfr H2 F3 (fun q a b => by unfold CMA; omega)
      have W3 := cv_W_cfr W2 F3 (by unfold CMA; omega) (by unfold CMA; omega)
      have er3 : ps_r s3 944 16 = ps_r s 0 2 := by rw [(F3 944 (by unfold CMA; omega)).2.2.1]; exact er2
      rw [er3]
      refine fs_103 (r := 950) (r1 := 934) (l := l) rfl rfl hth ⟨by omega, by omega⟩ (wf_ws hf) (Or.inl rfl) W3 H3.1 (fun s4 Z F4 => ?_)
      have f2 := fun q (hq : q ≠ 944) (hq2 : q ≠ 956) => F2 q (fun z => by omega)
      have a3 : ∀ q, q < 989 → ps_a s3 q = ps_a s2 q := fun q hq => (F3 q (by unfold CMA; omega)).2.2.2.1
      have a4 : ∀ q, (q < 950 ∨ 953 < q) → ps_a s4 q = ps_a s3 q := fun q hq => (F4 q (by unfold CSh; omega)).2.2.2.1
      have i4 : ps_i s4 944 = ps_i s2 944 := by
        funext f
        rw [(F4 944 (by unfold CSh; omega)).1, (F3 944 (by unfold CMA; omega)).1]
      have J4 : JA s4 (ps_r s 0 2) x1.toInt.toNat h := by
        obtain ⟨j1, j2, ⟨j3, j3'⟩, j4, j5⟩ := J
        have e2 : ∀ f, f ≠ 10 → ps_i s4 944 f = ps_i s1 944 f := fun f hf2 => by
          rw [i4]
          exact jq_i K2 f (by rw [Bool.eq_false_iff]; intro z; have := List.contains_iff_mem.mp z; rw [List.mem_singleton] at this; exact hf2 this)
        have ea : ∀ q, q = 945 ∨ q = 947 ∨ q = 948 → ps_a s4 q = ps_a s1 q := fun q hq => by
          rw [a4 q (by omega), a3 q (by omega)]
          exact (f2 q (by omega) (by omega)).2.2.2.1
        refine ⟨cv_H_cfr H3 F4 (fun q a b => by unfold CSh; omega), ⟨?_, by rw [e2 11 (by decide)]; exact j2, ⟨by rw [e2 2 (by decide)]; exact j3, ?_⟩, ?_, ?_⟩, ?_⟩
        · rw [(F4 944 (by unfold CSh; omega)).2.2.1]
          exact er3
        · unfold ar_L
          rw [ea 945 (by omega)]
          exact j3'
        · rw [ea 947 (by omega)]
          exact j4
        · rw [ea 948 (by omega)]
          exact j5
        · intro k w l2 hk hk2 j a b
          have hk3 := (List.getElem?_eq_some_iff.mp hk2).1
          rw [a4 _ (by omega)]
          exact M3 k w l2 hk hk2 j a b
      have FF4 : FF s4 l 12 := by
        unfold FF
        rw [i4, a4 956 (by omega), a3 956 (by omega)]
        exact FF2
      have G4 : JG s4 h := JG_cfr (JG_cfr G2 F3 (by unfold CMA; omega) (by unfold CMA; omega)) F4 (by unfold CSh; omega) (by unfold CSh; omega)
      exact fs_5_50 hth (by omega) hw hb hf (hbc hl) hl40 (by omega) hp.2 hp.1 (fun v s' a G' => ⟨Or.inr ⟨⟨⟨h1, h2⟩, hl⟩, Or.inr ⟨⟨hp.1, by omega⟩, a⟩⟩, G'⟩) n (M := 0) rfl J4 (cv_W_cfr W3 F4 (by unfold CSh; omega) (by unfold CSh; omega)) Z.1 FF4 G4 (fun M' hM => absurd hM (Nat.not_lt_zero _))
    · have y2 := xlt y2
      exact ⟨Or.inr ⟨⟨⟨h1, h2⟩, hl⟩, Or.inl ⟨Or.inr (by omega), by decide⟩⟩, G2⟩
  · have z := xeq z
    exact ⟨Or.inl ⟨Or.inr (List.eq_nil_of_length_eq_zero (by omega)), by decide⟩, G⟩
end
section
set_option maxRecDepth 100000
/-! the reference: levels of pieces by a stack of ends; what a formula is worth, for all bound things at once -/
-- ProofBenchModel.layModel(I)V
theorem pl_293_0 {n : Nat} {x1 : Int32} {s : ps_S} {Q : Option Value → ps_S → Prop} (h :
  pl_At n 293 9 [(0, .ref 1131), (2, .int x1), (3, .int ((ps_i s 1131 73) - 1))] [] s Q) : pl_At (n + 1) 293 0 [(0, .ref 1131), (1, .int x1)] [] s Q :=
  pl_wp_at (stops := [(9, [0, 2, 3])]) (f := 9) h rfl

theorem pl_293_9 {n : Nat} {x2 : Int32} {x3 : Int32} {s : ps_S} {Q : Option Value → ps_S → Prop} (h :
  (x3 < 0 →
    Q none s) ∧
  (0 ≤ x3 →
    (pm_in x3 96 = true →
      pl_nk (!decide ((ps_a s 1170 (Int32.toNatClampNeg x3)) = 0)) ((pm_in x3 96 = true →
        (pm_in x3 96 = true →
          pl_nk (!decide ((ps_a (ps_ua s 1169 (Int32.toNatClampNeg x3) (x2 - (x2 / (ps_a s 1170 (Int32.toNatClampNeg x3))) * (ps_a s 1170 (Int32.toNatClampNeg x3)))) 1170 (Int32.toNatClampNeg x3)) = 0)) (pl_At n 293 9 [(0, .ref 1131), (2, .int (x2 / (ps_a (ps_ua s 1169 (Int32.toNatClampNeg x3) (x2 - (x2 / (ps_a s 1170 (Int32.toNatClampNeg x3))) * (ps_a s 1170 (Int32.toNatClampNeg x3)))) 1170 (Int32.toNatClampNeg x3)))), (3, .int (x3 + (Int32.ofInt (-1))))] [] (ps_ua s 1169 (Int32.toNatClampNeg x3) (x2 - (x2 / (ps_a s 1170 (Int32.toNatClampNeg x3))) * (ps_a s 1170 (Int32.toNatClampNeg x3)))) Q))))))) : pl_At (n + 1) 293 9 [(0, .ref 1131), (2, .int x2), (3, .int x3)] [] s Q :=
  pl_wp_at (stops := [(9, [0, 2, 3])]) (f := 24) h rfl

-- ProofBenchModel.layDepths(I)V
theorem pl_294_0 {n : Nat} {x1 : Int32} {s : ps_S} {Q : Option Value → ps_S → Prop} (h :
  pl_At n 294 4 [(0, .ref 1131), (1, .int x1), (2, .int 0), (3, .int 0)] [] s Q) : pl_At (n + 1) 294 0 [(0, .ref 1131), (1, .int x1)] [] s Q :=
  pl_wp_at (stops := [(4, [0, 1, 2, 3]), (13, [0, 1, 2, 3]), (29, [0, 1, 2, 3]), (35, [0, 1, 2, 3]), (62, [0, 1, 2, 3])]) (f := 6) h rfl

theorem pl_294_4 {n : Nat} {x1 : Int32} {x2 : Int32} {x3 : Int32} {s : ps_S} {Q : Option Value → ps_S → Prop} (h :
  pl_Cl n 219 [.ref 1131, .int x1] s (ps_rI (fun v1 s1 =>
    (v1 ≤ x3 →
      Q none s1) ∧
    (x3 < v1 →
      pl_At n 294 13 [(0, .ref 1131), (1, .int x1), (2, .int x2), (3, .int x3)] [] s1 Q)))) : pl_At (n + 1) 294 4 [(0, .ref 1131), (1, .int x1), (2, .int x2), (3, .int x3)] [] s Q :=
  pl_wp_at (stops := [(4, [0, 1, 2, 3]), (13, [0, 1, 2, 3]), (29, [0, 1, 2, 3]), (35, [0, 1, 2, 3]), (62, [0, 1, 2, 3])]) (f := 8) h rfl

theorem pl_294_13 {n : Nat} {x1 : Int32} {x2 : Int32} {x3 : Int32} {s : ps_S} {Q : Option Value → ps_S → Prop} (h :
  (x2 ≤ 0 →
    pl_At n 294 35 [(0, .ref 1131), (1, .int x1), (2, .int x2), (3, .int x3)] [] s Q) ∧
  (0 < x2 →
    (pm_in (x2 - 1) 260 = true →
      (x3 < (ps_a s 1150 (Int32.toNatClampNeg (x2 - 1))) →
        pl_At n 294 35 [(0, .ref 1131), (1, .int x1), (2, .int x2), (3, .int x3)] [] s Q) ∧
      ((ps_a s 1150 (Int32.toNatClampNeg (x2 - 1))) ≤ x3 →
        pl_At n 294 29 [(0, .ref 1131), (1, .int x1), (2, .int x2), (3, .int x3)] [] s Q)))) : pl_At (n + 1) 294 13 [(0, .ref 1131), (1, .int x1), (2, .int x2), (3, .int x3)] [] s Q :=
  pl_wp_at (stops := [(4, [0, 1, 2, 3]), (13, [0, 1, 2, 3]), (29, [0, 1, 2, 3]), (35, [0, 1, 2, 3]), (62, [0, 1, 2, 3])]) (f := 12) h rfl

theorem pl_294_29 {n : Nat} {x1 : Int32} {x2 : Int32} {x3 : Int32} {s : ps_S} {Q : Option Value → ps_S → Prop} (h :
  pl_At n 294 13 [(0, .ref 1131), (1, .int x1), (2, .int (x2 + (Int32.ofInt (-1)))), (3, .int x3)] [] s Q) : pl_At (n + 1) 294 29 [(0, .ref 1131), (1, .int x1), (2, .int x2), (3, .int x3)] [] s Q :=
  pl_wp_at (stops := [(4, [0, 1, 2, 3]), (13, [0, 1, 2, 3]), (29, [0, 1, 2, 3]), (35, [0, 1, 2, 3]), (62, [0, 1, 2, 3])]) (f := 4) h rfl

theorem pl_294_35 {n : Nat} {x1 : Int32} {x2 : Int32} {x3 : Int32} {s : ps_S} {Q : Option Value → ps_S → Prop} (h :
  (pm_in x3 41 = true →
    pl_Cl n 220 [.ref 1131, .int x1, .int x3] (ps_ua s 1173 (Int32.toNatClampNeg x3) x2) (ps_rI (fun v1 s1 =>
      (v1 = 4 →
        pl_At n 294 62 [(0, .ref 1131), (1, .int x1), (2, .int x2), (3, .int x3)] [] s1 Q) ∧
      (v1 ≠ 4 →
        pl_Cl n 220 [.ref 1131, .int x1, .int x3] s1 (ps_rI (fun v2 s2 =>
          (v2 ≠ 5 →
            pl_At n 294 4 [(0, .ref 1131), (1, .int x1), (2, .int x2), (3, .int (x3 + 1))] [] s2 Q) ∧
          (v2 = 5 →
            pl_At n 294 62 [(0, .ref 1131), (1, .int x1), (2, .int x2), (3, .int x3)] [] s2 Q)))))))) : pl_At (n + 1) 294 35 [(0, .ref 1131), (1, .int x1), (2, .int x2), (3, .int x3)] [] s Q :=
  pl_wp_at (stops := [(4, [0, 1, 2, 3]), (13, [0, 1, 2, 3]), (29, [0, 1, 2, 3]), (35, [0, 1, 2, 3]), (62, [0, 1, 2, 3])]) (f := 21) h rfl

theorem pl_294_62 {n : Nat} {x1 : Int32} {x2 : Int32} {x3 : Int32} {s : ps_S} {Q : Option Value → ps_S → Prop} (h :
  pl_Cl n 221 [.ref 1131, .int x1, .int x3] s (ps_rI (fun v1 s1 =>
    (pm_in x2 260 = true →
      pl_At n 294 4 [(0, .ref 1131), (1, .int x1), (2, .int (x2 + 1)), (3, .int (x3 + 1))] [] (ps_ua s1 1150 (Int32.toNatClampNeg x2) v1) Q)))) : pl_At (n + 1) 294 62 [(0, .ref 1131), (1, .int x1), (2, .int x2), (3, .int x3)] [] s Q :=
  pl_wp_at (stops := [(4, [0, 1, 2, 3]), (13, [0, 1, 2, 3]), (29, [0, 1, 2, 3]), (35, [0, 1, 2, 3]), (62, [0, 1, 2, 3])]) (f := 13) h rfl

-- ProofBenchModel.isSo(II)Z
theorem pl_295_0 {n : Nat} {x1 : Int32} {x2 : Int32} {s : ps_S} {Q : Option Value → ps_S → Prop} (h :
  pl_Cl n 294 [.ref 1131, .int x1] s (ps_rV (fun s1 =>
    pl_Cl n 219 [.ref 1131, .int x1] s1 (ps_rI (fun v2 s2 =>
      pl_At n 295 16 [(0, .ref 1131), (1, .int x1), (2, .int x2), (3, .int 0), (4, .int (v2 - 1))] [] s2 Q))))) : pl_At (n + 1) 295 0 [(0, .ref 1131), (1, .int x1), (2, .int x2)] [] s Q :=
  pl_wp_at (stops := [(16, [0, 1, 2, 3, 4]), (70, [0, 1, 2, 3, 4, 5, 6, 7, 8, 9])]) (f := 13) h rfl

theorem pl_295_16 {n : Nat} {x1 : Int32} {x2 : Int32} {x3 : Int32} {x4 : Int32} {s : ps_S} {Q : Option Value → ps_S → Prop} (h :
  (x4 < 0 →
    (pm_in (0 : Int32) 10206 = true →
      ((ps_a s 1174 (Int32.toNatClampNeg (0 : Int32))) ≠ 1 →
        Q (some (.int 0)) s) ∧
      ((ps_a s 1174 (Int32.toNatClampNeg (0 : Int32))) = 1 →
        Q (some (.int 1)) s))) ∧
  (0 ≤ x4 →
    pl_Cl n 220 [.ref 1131, .int x1, .int x4] s (ps_rI (fun v1 s1 =>
      pl_Cl n 218 [.ref 1131, .int v1] s1 (ps_rI (fun v2 s2 =>
        (pm_in x4 41 = true →
          pl_Cl n 290 [.int x2, .int (ps_a s2 1173 (Int32.toNatClampNeg x4))] s2 (ps_rI (fun v3 s3 =>
            pl_At n 295 70 [(0, .ref 1131), (1, .int x1), (2, .int x2), (3, .int (x3 + ((1 : Int32) - v2))), (4, .int x4), (5, .int v1), (6, .int v2), (7, .int ((243 : Int32) * ((x3 + ((1 : Int32) - v2)) - 1))), (8, .int v3), (9, .int 0)] [] s3 Q))))))))) : pl_At (n + 1) 295 16 [(0, .ref 1131), (1, .int x1), (2, .int x2), (3, .int x3), (4, .int x4)] [] s Q :=
  pl_wp_at (stops := [(16, [0, 1, 2, 3, 4]), (70, [0, 1, 2, 3, 4, 5, 6, 7, 8, 9])]) (f := 45) h rfl

theorem pl_295_70 {n : Nat} {x1 : Int32} {x2 : Int32} {x3 : Int32} {x4 : Int32} {x5 : Int32} {x6 : Int32} {x7 : Int32} {x8 : Int32} {x9 : Int32} {s : ps_S} {Q : Option Value → ps_S → Prop} (h :
  (x8 ≤ x9 →
    pl_At n 295 16 [(0, .ref 1131), (1, .int x1), (2, .int x2), (3, .int x3), (4, .int (x4 + (Int32.ofInt (-1))))] [] s Q) ∧
  (x9 < x8 →
    pl_Cl n 296 [.ref 1131, .int x5, .int x6, .int x3, .int x9, .int x2] s (ps_rI (fun v1 s1 =>
      (pm_in (x7 + x9) 10206 = true →
        pl_At n 295 70 [(0, .ref 1131), (1, .int x1), (2, .int x2), (3, .int x3), (4, .int x4), (5, .int x5), (6, .int x6), (7, .int x7), (8, .int x8), (9, .int (x9 + 1))] [] (ps_ua s1 1174 (Int32.toNatClampNeg (x7 + x9)) v1) Q))))) : pl_At (n + 1) 295 70 [(0, .ref 1131), (1, .int x1), (2, .int x2), (3, .int x3), (4, .int x4), (5, .int x5), (6, .int x6), (7, .int x7), (8, .int x8), (9, .int x9)] [] s Q :=
  pl_wp_at (stops := [(16, [0, 1, 2, 3, 4]), (70, [0, 1, 2, 3, 4, 5, 6, 7, 8, 9])]) (f := 22) h rfl

-- ProofBenchModel.valueOf(IIIII)I
theorem pl_296_0 {n : Nat} {x1 : Int32} {x2 : Int32} {x3 : Int32} {x4 : Int32} {x5 : Int32} {s : ps_S} {Q : Option Value → ps_S → Prop} (h :
  (x2 ≠ 0 →
    pl_At n 296 28 [(0, .ref 1131), (1, .int x1), (2, .int x2), (4, .int x4), (5, .int x5), (6, .int ((243 : Int32) * ((x3 + x2) - 2))), (7, .int ((243 : Int32) * (x3 - 1)))] [] s Q) ∧
  (x2 = 0 →
    pl_At n 296 28 [(0, .ref 1131), (1, .int x1), (2, .int x2), (4, .int x4), (5, .int x5), (6, .int 0), (7, .int ((243 : Int32) * (x3 - 1)))] [] s Q)) : pl_At (n + 1) 296 0 [(0, .ref 1131), (1, .int x1), (2, .int x2), (3, .int x3), (4, .int x4), (5, .int x5)] [] s Q :=
  pl_wp_at (stops := [(28, [0, 1, 2, 4, 5, 6, 7]), (88, [0, 1, 2, 4, 5, 6, 7]), (127, [0, 1, 4, 5, 6]), (143, [0, 1, 2, 4, 5, 6, 7]), (178, [0, 1, 2, 4, 5, 6, 7]), (216, [0, 1, 2, 4, 5, 6, 7])]) (f := 27) h rfl

theorem pl_296_28 {n : Nat} {x1 : Int32} {x2 : Int32} {x4 : Int32} {x5 : Int32} {x6 : Int32} {x7 : Int32} {s : ps_S} {Q : Option Value → ps_S → Prop} (h :
  (x1 ≠ 0 →
    (x1 ≠ 1 →
      (x1 ≠ 2 →
        pl_At n 296 88 [(0, .ref 1131), (1, .int x1), (2, .int x2), (4, .int x4), (5, .int x5), (6, .int x6), (7, .int x7)] [] s Q) ∧
      (x1 = 2 →
        (pm_in (x6 + x4) 10206 = true →
          (pm_in (x7 + x4) 10206 = true →
            Q (some (.int ((ps_a s 1174 (Int32.toNatClampNeg (x6 + x4))) ||| (ps_a s 1174 (Int32.toNatClampNeg (x7 + x4)))))) s)))) ∧
    (x1 = 1 →
      (pm_in (x6 + x4) 10206 = true →
        (pm_in (x7 + x4) 10206 = true →
          Q (some (.int ((ps_a s 1174 (Int32.toNatClampNeg (x6 + x4))) &&& (ps_a s 1174 (Int32.toNatClampNeg (x7 + x4)))))) s)))) ∧
  (x1 = 0 →
    Q (some (.int 0)) s)) : pl_At (n + 1) 296 28 [(0, .ref 1131), (1, .int x1), (2, .int x2), (4, .int x4), (5, .int x5), (6, .int x6), (7, .int x7)] [] s Q :=
  pl_wp_at (stops := [(28, [0, 1, 2, 4, 5, 6, 7]), (88, [0, 1, 2, 4, 5, 6, 7]), (127, [0, 1, 4, 5, 6]), (143, [0, 1, 2, 4, 5, 6, 7]), (178, [0, 1, 2, 4, 5, 6, 7]), (216, [0, 1, 2, 4, 5, 6, 7])]) (f := 40) h rfl

theorem pl_296_88 {n : Nat} {x1 : Int32} {x2 : Int32} {x4 : Int32} {x5 : Int32} {x6 : Int32} {x7 : Int32} {s : ps_S} {Q : Option Value → ps_S → Prop} (h :
  (x1 ≠ 3 →
    (x1 = 4 →
      pl_At n 296 127 [(0, .ref 1131), (1, .int x1), (4, .int x4), (5, .int x5), (6, .int x6)] [] s Q) ∧
    (x1 ≠ 4 →
      (x1 ≠ 5 →
        pl_At n 296 143 [(0, .ref 1131), (1, .int x1), (2, .int x2), (4, .int x4), (5, .int x5), (6, .int x6), (7, .int x7)] [] s Q) ∧
      (x1 = 5 →
        pl_At n 296 127 [(0, .ref 1131), (1, .int x1), (4, .int x4), (5, .int x5), (6, .int x6)] [] s Q))) ∧
  (x1 = 3 →
    (pm_in (x6 + x4) 10206 = true →
      (pm_in (x7 + x4) 10206 = true →
        Q (some (.int (((1 : Int32) - (ps_a s 1174 (Int32.toNatClampNeg (x6 + x4)))) ||| (ps_a s 1174 (Int32.toNatClampNeg (x7 + x4)))))) s)))) : pl_At (n + 1) 296 88 [(0, .ref 1131), (1, .int x1), (2, .int x2), (4, .int x4), (5, .int x5), (6, .int x6), (7, .int x7)] [] s Q :=
  pl_wp_at (stops := [(28, [0, 1, 2, 4, 5, 6, 7]), (88, [0, 1, 2, 4, 5, 6, 7]), (127, [0, 1, 4, 5, 6]), (143, [0, 1, 2, 4, 5, 6, 7]), (178, [0, 1, 2, 4, 5, 6, 7]), (216, [0, 1, 2, 4, 5, 6, 7])]) (f := 27) h rfl

theorem pl_296_127 {n : Nat} {x1 : Int32} {x4 : Int32} {x5 : Int32} {x6 : Int32} {s : ps_S} {Q : Option Value → ps_S → Prop} (h :
  pl_Cl n 297 [.ref 1131, .int x1, .int (x6 + (x4 * x5)), .int x5] s (ps_rI (fun v1 s1 =>
    Q (some (.int v1)) s1))) : pl_At (n + 1) 296 127 [(0, .ref 1131), (1, .int x1), (4, .int x4), (5, .int x5), (6, .int x6)] [] s Q :=
  pl_wp_at (stops := [(28, [0, 1, 2, 4, 5, 6, 7]), (88, [0, 1, 2, 4, 5, 6, 7]), (127, [0, 1, 4, 5, 6]), (143, [0, 1, 2, 4, 5, 6, 7]), (178, [0, 1, 2, 4, 5, 6, 7]), (216, [0, 1, 2, 4, 5, 6, 7])]) (f := 12) h rfl

theorem pl_296_143 {n : Nat} {x1 : Int32} {x2 : Int32} {x4 : Int32} {x5 : Int32} {x6 : Int32} {x7 : Int32} {s : ps_S} {Q : Option Value → ps_S → Prop} (h :
  (x1 ≠ 6 →
    pl_At n 296 178 [(0, .ref 1131), (1, .int x1), (2, .int x2), (4, .int x4), (5, .int x5), (6, .int x6), (7, .int x7)] [] s Q) ∧
  (x1 = 6 →
    (pm_in (x6 + x4) 10206 = true →
      (pm_in (x7 + x4) 10206 = true →
        ((ps_a s 1174 (Int32.toNatClampNeg (x6 + x4))) ≠ (ps_a s 1174 (Int32.toNatClampNeg (x7 + x4))) →
          Q (some (.int 0)) s) ∧
        ((ps_a s 1174 (Int32.toNatClampNeg (x6 + x4))) = (ps_a s 1174 (Int32.toNatClampNeg (x7 + x4))) →
          Q (some (.int 1)) s))))) : pl_At (n + 1) 296 143 [(0, .ref 1131), (1, .int x1), (2, .int x2), (4, .int x4), (5, .int x5), (6, .int x6), (7, .int x7)] [] s Q :=
  pl_wp_at (stops := [(28, [0, 1, 2, 4, 5, 6, 7]), (88, [0, 1, 2, 4, 5, 6, 7]), (127, [0, 1, 4, 5, 6]), (143, [0, 1, 2, 4, 5, 6, 7]), (178, [0, 1, 2, 4, 5, 6, 7]), (216, [0, 1, 2, 4, 5, 6, 7])]) (f := 23) h rfl

theorem pl_296_178 {n : Nat} {x1 : Int32} {x2 : Int32} {x4 : Int32} {x5 : Int32} {x6 : Int32} {x7 : Int32} {s : ps_S} {Q : Option Value → ps_S → Prop} (h :
  (x1 < 60 →
    (x1 < 40 →
      pl_At n 296 216 [(0, .ref 1131), (1, .int x1), (2, .int x2), (4, .int x4), (5, .int x5), (6, .int x6), (7, .int x7)] [] s Q) ∧
    (40 ≤ x1 →
      pl_Cl n 290 [.int x5, .int (x1 - 40)] s (ps_rI (fun v1 s1 =>
        pl_nk (!decide (v1 = 0)) (pl_nk (!decide (x5 = 0)) (Q (some (.int ((x4 / v1) - ((x4 / v1) / x5) * x5))) s1)))))) ∧
  (60 ≤ x1 →
    (pm_in (x1 - 60) 12 = true →
      Q (some (.int (ps_a s 1175 (Int32.toNatClampNeg (x1 - 60))))) s))) : pl_At (n + 1) 296 178 [(0, .ref 1131), (1, .int x1), (2, .int x2), (4, .int x4), (5, .int x5), (6, .int x6), (7, .int x7)] [] s Q :=
  pl_wp_at (stops := [(28, [0, 1, 2, 4, 5, 6, 7]), (88, [0, 1, 2, 4, 5, 6, 7]), (127, [0, 1, 4, 5, 6]), (143, [0, 1, 2, 4, 5, 6, 7]), (178, [0, 1, 2, 4, 5, 6, 7]), (216, [0, 1, 2, 4, 5, 6, 7])]) (f := 25) h rfl

theorem pl_296_216 {n : Nat} {x1 : Int32} {x2 : Int32} {x4 : Int32} {x5 : Int32} {x6 : Int32} {x7 : Int32} {s : ps_S} {Q : Option Value → ps_S → Prop} (h :
  (x2 ≠ 0 →
    (x2 ≠ 1 →
      (pm_in (x6 + x4) 10206 = true →
        (pm_in (x7 + x4) 10206 = true →
          (20 ≤ x1 →
            (pm_in (x1 - 20) 4 = true →
              (pm_in ((ps_a s 1172 (Int32.toNatClampNeg (x1 - 20))) + (((ps_a s 1174 (Int32.toNatClampNeg (x6 + x4))) * x5) + (ps_a s 1174 (Int32.toNatClampNeg (x7 + x4))))) 96 = true →
                Q (some (.int (ps_a s 1169 (Int32.toNatClampNeg ((ps_a s 1172 (Int32.toNatClampNeg (x1 - 20))) + (((ps_a s 1174 (Int32.toNatClampNeg (x6 + x4))) * x5) + (ps_a s 1174 (Int32.toNatClampNeg (x7 + x4))))))))) s))) ∧
          (x1 < 20 →
            (pm_in (x1 - 10) 6 = true →
              (pm_in ((ps_a s 1171 (Int32.toNatClampNeg (x1 - 10))) + (((ps_a s 1174 (Int32.toNatClampNeg (x6 + x4))) * x5) + (ps_a s 1174 (Int32.toNatClampNeg (x7 + x4))))) 96 = true →
                Q (some (.int (ps_a s 1169 (Int32.toNatClampNeg ((ps_a s 1171 (Int32.toNatClampNeg (x1 - 10))) + (((ps_a s 1174 (Int32.toNatClampNeg (x6 + x4))) * x5) + (ps_a s 1174 (Int32.toNatClampNeg (x7 + x4))))))))) s)))))) ∧
    (x2 = 1 →
      (pm_in (x6 + x4) 10206 = true →
        (20 ≤ x1 →
          (pm_in (x1 - 20) 4 = true →
            (pm_in ((ps_a s 1172 (Int32.toNatClampNeg (x1 - 20))) + (ps_a s 1174 (Int32.toNatClampNeg (x6 + x4)))) 96 = true →
              Q (some (.int (ps_a s 1169 (Int32.toNatClampNeg ((ps_a s 1172 (Int32.toNatClampNeg (x1 - 20))) + (ps_a s 1174 (Int32.toNatClampNeg (x6 + x4)))))))) s))) ∧
        (x1 < 20 →
          (pm_in (x1 - 10) 6 = true →
            (pm_in ((ps_a s 1171 (Int32.toNatClampNeg (x1 - 10))) + (ps_a s 1174 (Int32.toNatClampNeg (x6 + x4)))) 96 = true →
              Q (some (.int (ps_a s 1169 (Int32.toNatClampNeg ((ps_a s 1171 (Int32.toNatClampNeg (x1 - 10))) + (ps_a s 1174 (Int32.toNatClampNeg (x6 + x4)))))))) s)))))) ∧
  (x2 = 0 →
    (20 ≤ x1 →
      (pm_in (x1 - 20) 4 = true →
        (pm_in ((ps_a s 1172 (Int32.toNatClampNeg (x1 - 20))) + 0) 96 = true →
          Q (some (.int (ps_a s 1169 (Int32.toNatClampNeg ((ps_a s 1172 (Int32.toNatClampNeg (x1 - 20))) + 0))))) s))) ∧
    (x1 < 20 →
      (pm_in (x1 - 10) 6 = true →
        (pm_in ((ps_a s 1171 (Int32.toNatClampNeg (x1 - 10))) + 0) 96 = true →
          Q (some (.int (ps_a s 1169 (Int32.toNatClampNeg ((ps_a s 1171 (Int32.toNatClampNeg (x1 - 10))) + 0))))) s))))) : pl_At (n + 1) 296 216 [(0, .ref 1131), (1, .int x1), (2, .int x2), (4, .int x4), (5, .int x5), (6, .int x6), (7, .int x7)] [] s Q :=
  pl_wp_at (stops := [(28, [0, 1, 2, 4, 5, 6, 7]), (88, [0, 1, 2, 4, 5, 6, 7]), (127, [0, 1, 4, 5, 6]), (143, [0, 1, 2, 4, 5, 6, 7]), (178, [0, 1, 2, 4, 5, 6, 7]), (216, [0, 1, 2, 4, 5, 6, 7])]) (f := 112) h rfl

-- ProofBenchModel.quantified(III)I
theorem pl_297_0 {n : Nat} {x1 : Int32} {x2 : Int32} {x3 : Int32} {s : ps_S} {Q : Option Value → ps_S → Prop} (h :
  pl_At n 297 3 [(0, .ref 1131), (1, .int x1), (2, .int x2), (3, .int x3), (4, .int 0)] [] s Q) : pl_At (n + 1) 297 0 [(0, .ref 1131), (1, .int x1), (2, .int x2), (3, .int x3)] [] s Q :=
  pl_wp_at (stops := [(3, [0, 1, 2, 3, 4])]) (f := 4) h rfl

theorem pl_297_3 {n : Nat} {x1 : Int32} {x2 : Int32} {x3 : Int32} {x4 : Int32} {s : ps_S} {Q : Option Value → ps_S → Prop} (h :
  (x3 ≤ x4 →
    (x1 ≠ 4 →
      Q (some (.int 0)) s) ∧
    (x1 = 4 →
      Q (some (.int 1)) s)) ∧
  (x4 < x3 →
    (pm_in (x2 + x4) 10206 = true →
      (x1 ≠ 4 →
        ((ps_a s 1174 (Int32.toNatClampNeg (x2 + x4))) ≠ 1 →
          pl_At n 297 3 [(0, .ref 1131), (1, .int x1), (2, .int x2), (3, .int x3), (4, .int (x4 + 1))] [] s Q) ∧
        ((ps_a s 1174 (Int32.toNatClampNeg (x2 + x4))) = 1 →
          (x1 ≠ 4 →
            Q (some (.int 1)) s) ∧
          (x1 = 4 →
            Q (some (.int 0)) s))) ∧
      (x1 = 4 →
        ((ps_a s 1174 (Int32.toNatClampNeg (x2 + x4))) ≠ 0 →
          pl_At n 297 3 [(0, .ref 1131), (1, .int x1), (2, .int x2), (3, .int x3), (4, .int (x4 + 1))] [] s Q) ∧
        ((ps_a s 1174 (Int32.toNatClampNeg (x2 + x4))) = 0 →
          (x1 ≠ 4 →
            Q (some (.int 1)) s) ∧
          (x1 = 4 →
            Q (some (.int 0)) s)))))) : pl_At (n + 1) 297 3 [(0, .ref 1131), (1, .int x1), (2, .int x2), (3, .int x3), (4, .int x4)] [] s Q :=
  pl_wp_at (stops := [(3, [0, 1, 2, 3, 4])]) (f := 47) h rfl

/-- the parts that are wanted at a place -/
def sk (ar : Nat → Nat) (l : List Nat) : Nat → List (Nat × Nat)
  | 0 => [(0, 0)]
  | i + 1 => match sk ar l i with
    | [] => []
    | d :: S => List.replicate (ar (l.getD i 0)) (d.1 + 1, d.2 + qb (l.getD i 0)) ++ S
theorem sk_c {ar : Nat → Nat} {l : List Nat} {i c : Nat} {d : Nat × Nat} {S : List (Nat × Nat)} (h : sk ar l i = d :: S) (hc : l[i]? = some c) : sk ar l (i + 1) = List.replicate (ar c) (d.1 + 1, d.2 + qb c) ++ S := by
  show (match sk ar l i with
    | [] => []
    | d :: S => List.replicate (ar (l.getD i 0)) (d.1 + 1, d.2 + qb (l.getD i 0)) ++ S) = _
  rw [h, List.getD_eq_getElem?_getD, hc]
  rfl
/-- what is known there -/
def SKI (g : tx_g) (l : List Nat) (i : Nat) : Prop := bc (arh g) (sk (arh g) l i) (l.drop i) ∧ ∃ W : List (Bool × Nat), wf (sg g) 5 (l.drop i) W ∧ W.map Prod.snd = (sk (arh g) l i).map Prod.snd
theorem SKI_0 {g : tx_g} {l : List Nat} {b : Bool} (h1 : bc (arh g) [(0, 0)] l) (h2 : wf (sg g) 5 l [(b, 0)]) : SKI g l 0 := ⟨by rw [List.drop_zero]; exact h1, [(b, 0)], by rw [List.drop_zero]; exact h2, rfl⟩
theorem SKI_d {g : tx_g} {l : List Nat} {i : Nat} (h : SKI g l i) (hi : i < l.length) : ∃ d S, sk (arh g) l i = d :: S := by
  obtain ⟨h1, -⟩ := h
  match e : sk (arh g) l i with
  | d :: S => exact ⟨d, S, rfl⟩
  | [] =>
    rw [e] at h1
    match hl : l.drop i with
    | [] =>
      have := congrArg List.length hl
      rw [List.length_drop, List.length_nil] at this
      omega
    | c :: t =>
      rw [hl] at h1
      cases h1
theorem SKI_s {g : tx_g} {l : List Nat} {i : Nat} (hA : ArW (sg g) (arh g)) (h : SKI g l i) (hi : i < l.length) : SKI g l (i + 1) := by
  obtain ⟨d, S, e⟩ := SKI_d h hi
  obtain ⟨h1, W, h2, h3⟩ := h
  obtain ⟨c, hc⟩ : ∃ c, l[i]? = some c := ⟨_, List.getElem?_eq_getElem hi⟩
  rw [drop_c hc] at h1 h2
  rw [e] at h1 h3
  obtain ⟨bb, k, W', ks, rfl, hk, hks, h4⟩ := wf_cons.mp h2
  have hkd : k = d.2 := (List.cons.inj h3).1
  have hS : W'.map Prod.snd = S.map Prod.snd := (List.cons.inj h3).2
  unfold SKI
  rw [sk_c e hc]
  refine ⟨h1.2, _, h4, ?_⟩
  rw [List.map_append, List.map_append, hS, hA bb c ks hks]
  congr 1
  unfold kL qb
  rw [List.map_map, List.map_replicate]
  have : (Prod.snd ∘ fun b : Bool => (b, if c = 4 ∨ c = 5 then k + 1 else k)) = fun _ => (d.2 + if c = 4 ∨ c = 5 then 1 else 0) := by
    funext b
    show (if c = 4 ∨ c = 5 then k + 1 else k) = _
    rw [hkd]
    split <;> rfl
  rw [this, List.map_const']
theorem SKI_all {g : tx_g} {l : List Nat} (hA : ArW (sg g) (arh g)) (h : SKI g l 0) : ∀ i, i ≤ l.length → SKI g l i
  | 0, _ => h
  | i + 1, hi => SKI_s hA (SKI_all hA h i (by omega)) (by omega)
theorem SKI_pt {g : tx_g} {l : List Nat} {i : Nat} {d : Nat × Nat} {S : List (Nat × Nat)} (h : SKI g l i) (e : sk (arh g) l i = d :: S) : ∃ b, pt g b d.1 d.2 (l.drop i) := by
  obtain ⟨h1, W, h2, h3⟩ := h
  rw [e] at h1 h3
  match W, h2, h3 with
  | (b, q) :: W', h2, h3 =>
    have hq : q = d.2 := (List.cons.inj h3).1
    subst hq
    exact ⟨b, S, W', h1, h2⟩
/-- levels don't rise -/
def dsc : List (Nat × Nat) → Prop
  | [] => True
  | d :: S => (∀ x, x ∈ S → x.2 ≤ d.2) ∧ dsc S
theorem dsc_rep {x : Nat × Nat} {S : List (Nat × Nat)} (hS : dsc S) (hx : ∀ y, y ∈ S → y.2 ≤ x.2) : ∀ a, dsc (List.replicate a x ++ S)
  | 0 => hS
  | a + 1 => by
    rw [List.replicate_succ]
    refine ⟨fun y hy => ?_, dsc_rep hS hx a⟩
    rcases List.mem_append.mp hy with hy | hy
    · rw [(List.mem_replicate.mp hy).2]
      exact Nat.le_refl _
    · exact hx y hy
theorem sk_dsc {ar : Nat → Nat} {l : List Nat} : ∀ i, dsc (sk ar l i)
  | 0 => ⟨(fun x hx => by cases hx), trivial⟩
  | i + 1 => by
    have ih := sk_dsc (ar := ar) (l := l) i
    show dsc (match sk ar l i with
      | [] => []
      | d :: S => List.replicate (ar (l.getD i 0)) (d.1 + 1, d.2 + qb (l.getD i 0)) ++ S)
    match e : sk ar l i with
    | [] => trivial
    | d :: S =>
      rw [e] at ih
      exact dsc_rep ih.2 (fun y hy => by have := ih.1 y hy; show y.2 ≤ d.2 + _; omega) _
/-- where the first part of level q at most begins -/
def qe (ar : Nat → Nat) : Nat → List (Nat × Nat) → List Nat → Nat → Nat
  | i, [], _, _ => i
  | i, d :: S, t, q => if d.2 ≤ q then i else qe ar (i + en ar t 1) S (t.drop (en ar t 1)) q
theorem qe_ge {ar : Nat → Nat} : ∀ {S : List (Nat × Nat)} {i : Nat} {t : List Nat} {q : Nat}, i ≤ qe ar i S t q
  | [], _, _, _ => Nat.le_refl _
  | d :: S, i, t, q => by
    show i ≤ if d.2 ≤ q then i else _
    split
    · exact Nat.le_refl _
    · exact Nat.le_trans (Nat.le_add_right _ _) qe_ge
theorem qe_rep {ar : Nat → Nat} {x : Nat × Nat} {S : List (Nat × Nat)} {q : Nat} (hq : ¬ x.2 ≤ q) : ∀ {a i : Nat} {t : List Nat}, qe ar i (List.replicate a x ++ S) t q = qe ar (i + en ar t a) S (t.drop (en ar t a)) q
  | 0, i, t => by
    rw [en_0, Nat.add_zero, List.drop_zero]
    rfl
  | a + 1, i, t => by
    rw [List.replicate_succ]
    show (if x.2 ≤ q then i else qe ar (i + en ar t 1) (List.replicate a x ++ S) (t.drop (en ar t 1)) q) = _
    rw [if_neg hq, qe_rep hq, Nat.add_comm a 1, en_add, List.drop_drop, Nat.add_assoc]
theorem qe_le {ar : Nat → Nat} {S : List (Nat × Nat)} {i q : Nat} {t : List Nat} (h : ∀ x, x ∈ S → x.2 ≤ q) : qe ar i S t q = i := by
  cases S with
  | nil => rfl
  | cons d S =>
    show (if d.2 ≤ q then i else _) = i
    rw [if_pos (h d List.mem_cons_self)]
/-- the ends that are kept: one a level -/
def QL (s : ps_S) (ar : Nat → Nat) (l : List Nat) (i L : Nat) : Prop := ∀ q, q < L → (ps_a s 1150 q).toInt = (qe ar i (sk ar l i) (l.drop i) q : Nat)
section M294
variable {b to : Nat} {g : tx_g} {l : List Nat} {x1 : Int32} {s0 : ps_S} {R : ps_S → Prop}
theorem fm_294_4 (hb : b < 2) (h21 : (ps_i s0 1131 21).toInt = b) (H0 : mv_E s0 b g) (hx : x1.toInt = to) (hto : to < 27400) (W0 : mv_W s0 to l) (hS : ∀ i, i ≤ l.length → SKI g l i) (k : ∀ s', kq [1150, 1173] [] s0 s' → (∀ (j : Nat) d S, j < l.length → sk (arh g) l j = d :: S → (ps_a s' 1173 j).toInt = d.2) → R s') : ∀ (n : Nat) {s : ps_S} {x2 x3 : Int32} {i L : Nat}, x3.toInt = i → i ≤ l.length → x2.toInt = L → L ≤ 200 → (∀ d S, sk (arh g) l i = d :: S → d.2 ≤ L) → QL s (arh g) l i L → kq [1150, 1173] [] s0 s → (∀ (j : Nat) d S, j < i → sk (arh g) l j = d :: S → (ps_a s 1173 j).toInt = d.2) → pl_At n 294 4 [(0, .ref 1131), (1, .int x1), (2, .int x2), (3, .int x3)] [] s (ps_rV R)
  | 0, _, _, _, _, _, _, _, _, _, _, _, _, _ => pl_At_0
  | n + 1, s, x2, x3, i, L, h3, hi, h2, hL2, hd, hQ, K, hj => by
    have W : mv_W s to l := by unfold mv_W at *; rw [kq_a K 1134 (by decide)]; exact W0
    have h21' : (ps_i s 1131 21).toInt = b := by rw [kq_i K 21 rfl]; exact h21
    have H := mv_E_kq H0 K (by decide)
    have h40 := W.2.1
    have hA := arh_k H.2.2.1 H.2.2.2.1
    have c0 : (0 : Int32).toInt = 0 := by decide
    have c1 : (1 : Int32).toInt = 1 := by decide
    have c4 : (4 : Int32).toInt = 4 := by decide
    have c5 : (5 : Int32).toInt = 5 := by decide
    have cm : (Int32.ofInt (-1)).toInt = -1 := by decide
    refine pl_294_4 ?_
    refine fm_219c hx W (fun v1 q1 => ⟨fun z => ?_, fun z => ?_⟩)
    · have z := xle z
      have e : i = l.length := by omega
      subst e
      exact k s K hj
    · have z := xlt z
      obtain ⟨d, S, e⟩ := SKI_d (hS i hi) (by omega)
      obtain ⟨c, hc⟩ : ∃ c, l[i]? = some c := ⟨_, List.getElem?_eq_getElem (by omega)⟩
      have hS1 := hS (i + 1) (by omega)
      obtain ⟨bb, hpt⟩ := SKI_pt (hS i hi) e
      rw [drop_c hc] at hpt
      obtain ⟨hp, hq5, -, ks, hk⟩ := pt_c hpt
      have hdsc : dsc (d :: S) := by rw [← e]; exact sk_dsc i
      obtain ⟨b0, W', hws⟩ : ∃ b0 W', ws (sg g) (l.drop i) (b0 :: W') := by
        obtain ⟨S', W', -, w2⟩ := hpt
        have := wf_ws w2
        rw [List.map_cons, ← drop_c hc] at this
        exact ⟨_, _, this⟩
      have hpos := en_pos (ar := arh g) (t := l.drop i) (p := 1) (by rw [List.length_drop]; omega) (by decide)
      have qgt : ∀ q, q < d.2 → i < qe (arh g) i (d :: S) (l.drop i) q := fun q hq => by
        show i < if d.2 ≤ q then i else _
        rw [if_neg (by omega)]
        exact Nat.lt_of_lt_of_le (by omega) qe_ge
      have qeq : ∀ q, d.2 ≤ q → qe (arh g) i (d :: S) (l.drop i) q = i := fun q hq => by
        show (if d.2 ≤ q then i else _) = i
        rw [if_pos hq]
      -- behind the pops
      have at35 : ∀ (n' : Nat) {y2 : Int32}, n' ≤ n → y2.toInt = d.2 → pl_At n' 294 35 [(0, .ref 1131), (1, .int x1), (2, .int y2), (3, .int x3)] [] s (ps_rV R) := fun n' y2 hn hy => by
        cases n' with
        | zero => exact pl_At_0
        | succ n' =>
        refine pl_294_35 ?_
        intro b35
        rw [xtn h3]
        have K1 : kq [1150, 1173] [] s0 (ps_ua s 1173 i y2) := kqa K rfl
        have Ws : mv_W (ps_ua s 1173 i y2) to l := by unfold mv_W at *; rw [kq_a K1 1134 (by decide)]; exact W0
        have hj1 : ∀ (j : Nat) d' S', j < i + 1 → sk (arh g) l j = d' :: S' → (ps_a (ps_ua s 1173 i y2) 1173 j).toInt = d'.2 := fun j d' S' hji he => by
          rw [ps_a_ua]
          by_cases ej : j = i
          · rw [if_pos ⟨rfl, ej⟩]
            rw [ej, e] at he
            cases he
            exact hy
          · rw [if_neg (fun w => ej w.2)]
            exact hj j d' S' (by omega) he
        have sk1 := sk_c e hc
        have en1 : en (arh g) (l.drop i) 1 = 1 + en (arh g) (l.drop (i + 1)) (arh g c) := by rw [drop_c hc, en_c, Nat.zero_add]
        have dr1 : (l.drop (i + 1)).drop (en (arh g) (l.drop (i + 1)) (arh g c)) = (l.drop i).drop (en (arh g) (l.drop i) 1) := by
          rw [en1, List.drop_drop, List.drop_drop, Nat.add_assoc]
        have q1 : ∀ q, q < d.2 → qe (arh g) (i + 1) (sk (arh g) l (i + 1)) (l.drop (i + 1)) q = qe (arh g) i (sk (arh g) l i) (l.drop i) q := fun q hq => by
          rw [sk1, qe_rep (by show ¬ d.2 + qb c ≤ q; omega), dr1, e]
          show _ = if d.2 ≤ q then i else qe (arh g) (i + en (arh g) (l.drop i) 1) S ((l.drop i).drop (en (arh g) (l.drop i) 1)) q
          rw [if_neg (by omega), en1]
          congr 1
          omega
        have quant : (c = 4 ∨ c = 5) → pl_At n' 294 62 [(0, .ref 1131), (1, .int x1), (2, .int y2), (3, .int x3)] [] (ps_ua s 1173 i y2) (ps_rV R) := fun h45 => by
          cases n' with
          | zero => exact pl_At_0
          | succ n' =>
          refine pl_294_62 ?_
          refine fm_221 hb (by rw [kq_i K1 21 rfl]; exact h21) (mv_E_kq H0 K1 (by decide)) hx hto Ws h3 hws (fun v q => ?_)
          intro _
          rw [xtn hy]
          refine (fm_294_4 hb h21 H0 hx hto W0 hS k n (L := d.2 + 1) (xj1 h3 (by omega)) (by omega) (xj1 hy (by omega)) (by omega) (fun d' S' he => ?_) (fun q2 hq2 => ?_) (kqa K1 rfl) (fun j d' S' hji he => ?_)).le (by omega)
          · rw [sk1, qb_1 h45] at he
            have hm : d' ∈ List.replicate (arh g c) (d.1 + 1, d.2 + 1) ++ S := by rw [he]; exact List.mem_cons_self
            rcases List.mem_append.mp hm with hm | hm
            · rw [(List.mem_replicate.mp hm).2]
              exact Nat.le_refl _
            · have := hdsc.1 _ hm
              omega
          · rw [ps_a_ua]
            by_cases eq : q2 = d.2
            · rw [if_pos ⟨rfl, eq⟩, q, eq, sk1, qb_1 h45, qe_rep (by show ¬ d.2 + 1 ≤ d.2; omega), qe_le hdsc.1, en1]
              omega
            · rw [if_neg (fun w => eq w.2), ps_a_ua, if_neg (fun w => absurd w.1 (by decide)), q1 q2 (by omega)]
              exact hQ q2 (by have := hd d S e; omega)
          · rw [ps_a_ua, if_neg (fun w => absurd w.1 (by decide))]
            exact hj1 j d' S' hji he
        refine fm_220c hx hto Ws h3 hc (fun v q => ⟨fun y => ?_, fun y => ?_⟩)
        · have y := xeq y
          exact quant (by omega)
        · have y := xne y
          refine fm_220c hx hto Ws h3 hc (fun v' q' => ⟨fun y2 => ?_, fun y2 => ?_⟩)
          · have y2 := xne y2
            have hn45 : ¬ (c = 4 ∨ c = 5) := by omega
            refine (fm_294_4 hb h21 H0 hx hto W0 hS k n (L := d.2) (xj1 h3 (by omega)) (by omega) hy (by omega) (fun d' S' he => ?_) (fun q2 hq2 => ?_) K1 hj1).le (by omega)
            · rw [sk1, qb_0 hn45] at he
              have hm : d' ∈ List.replicate (arh g c) (d.1 + 1, d.2 + 0) ++ S := by rw [he]; exact List.mem_cons_self
              rcases List.mem_append.mp hm with hm | hm
              · rw [(List.mem_replicate.mp hm).2]
                exact Nat.le_refl _
              · exact hdsc.1 _ hm
            · rw [ps_a_ua, if_neg (fun w => absurd w.1 (by decide)), q1 q2 hq2]
              exact hQ q2 (by have := hd d S e; omega)
          · have y2 := xeq y2
            exact quant (by omega)
      -- the pops
      have key : ∀ (n' : Nat) {y2 : Int32} {L' : Nat}, n' ≤ n → y2.toInt = L' → d.2 ≤ L' → L' ≤ L → pl_At n' 294 13 [(0, .ref 1131), (1, .int x1), (2, .int y2), (3, .int x3)] [] s (ps_rV R) := by
        intro n'
        induction n' with
        | zero => exact fun _ _ _ _ => pl_At_0
        | succ n' ih =>
          intro y2 L' hn hy hdL hLL
          refine pl_294_13 ⟨fun w => ?_, fun w => ?_⟩
          · have w := xle w
            exact at35 n' (by omega) (by omega)
          · have w := xlt w
            intro bi
            have ei : (y2 - 1).toInt = (L' - 1 : Nat) := by rw [xIs (by omega) (by omega), hy, c1]; omega
            rw [xtn ei]
            have eQ := hQ (L' - 1) (by omega)
            rw [e] at eQ
            refine ⟨fun w2 => ?_, fun w2 => ?_⟩
            · have w2 := xlt w2
              rcases Nat.lt_or_ge (L' - 1) d.2 with a | a
              · exact at35 n' (by omega) (by omega)
              · rw [qeq _ a] at eQ
                omega
            · have w2 := xle w2
              rcases Nat.lt_or_ge (L' - 1) d.2 with a | a
              · have := qgt _ a
                omega
              · cases n' with
                | zero => exact pl_At_0
                | succ n' =>
                refine pl_294_29 ?_
                have ey : (y2 + Int32.ofInt (-1)).toInt = (L' - 1 : Nat) := by rw [xIa (by omega) (by omega), hy, cm]; omega
                generalize y2 + Int32.ofInt (-1) = yy at ey ⊢
                clear ei
                exact (ih (by omega) ey (by omega) (by omega)).le (Nat.le_succ _)
      exact key n (Nat.le_refl _) h2 (hd d S e) (Nat.le_refl _)
theorem fm_294 {n : Nat} (hb : b < 2) (h21 : (ps_i s0 1131 21).toInt = b) (H0 : mv_E s0 b g) (hx : x1.toInt = to) (hto : to < 27400) (W0 : mv_W s0 to l) (hS : ∀ i, i ≤ l.length → SKI g l i) (k : ∀ s', kq [1150, 1173] [] s0 s' → (∀ (j : Nat) d S, j < l.length → sk (arh g) l j = d :: S → (ps_a s' 1173 j).toInt = d.2) → R s') : pl_Cl n 294 [.ref 1131, .int x1] s0 (ps_rV R) := by
  cases n with
  | zero => exact pl_At_0
  | succ n =>
  show pl_At (n + 1) 294 0 [(0, .ref 1131), (1, .int x1)] [] s0 (ps_rV R)
  refine pl_294_0 ?_
  refine fm_294_4 hb h21 H0 hx hto W0 hS k n (i := 0) (L := 0) rfl (Nat.zero_le _) rfl (Nat.zero_le _) (fun d S he => ?_) (fun q hq => absurd hq (Nat.not_lt_zero _)) kq_refl (fun j d S hj => absurd hj (Nat.not_lt_zero _))
  cases he
  exact Nat.le_refl _
end M294
/-- bound things of a number, the nearest first -/
def evl (m : Nat) : Nat → Nat → List Nat
  | 0, _ => []
  | q + 1, e => (e % m) :: evl m q (e / m)
theorem evl_len {m : Nat} : ∀ {q e : Nat}, (evl m q e).length = q
  | 0, _ => rfl
  | q + 1, e => by
    show (evl m q (e / m)).length + 1 = q + 1
    rw [evl_len]
theorem evl_c {m q e x : Nat} (hx : x < m) : evl m (q + 1) (e * m + x) = x :: evl m q e := by
  show ((e * m + x) % m) :: evl m q ((e * m + x) / m) = _
  have h1 : (e * m + x) % m = x := by rw [Nat.add_comm, Nat.add_mul_mod_self_right, Nat.mod_eq_of_lt hx]
  have h2 : (e * m + x) / m = e := by rw [Nat.add_comm, Nat.add_mul_div_right _ _ (by omega), Nat.div_eq_of_lt hx, Nat.zero_add]
  rw [h1, h2]
theorem evl_at {m : Nat} : ∀ {q e k : Nat}, k < q → (evl m q e)[k]? = some (e / m ^ k % m)
  | 0, _, _, h => absurd h (Nat.not_lt_zero _)
  | q + 1, e, 0, _ => by
    rw [Nat.pow_zero, Nat.div_one]
    rfl
  | q + 1, e, k + 1, h => by
    show (evl m q (e / m))[k]? = _
    rw [evl_at (by omega), Nat.div_div_eq_div_mul, Nat.pow_succ, Nat.mul_comm m]
theorem evl_lt {m : Nat} (hm : 0 < m) {q e : Nat} : ∀ x, x ∈ evl m q e → x < m := fun x hx => by
  obtain ⟨k, hk⟩ := List.mem_iff_getElem?.mp hx
  have hl := (List.getElem?_eq_some_iff.mp hk).1
  rw [evl_len] at hl
  rw [evl_at hl] at hk
  cases hk
  exact Nat.mod_lt _ hm
/-- tables of the parts that stand, the first on top -/
def VT (gv : Nat → Int32) (m : Nat) (g : tx_g) (D fr : Nat → Nat) : List (Nat × Nat) → List Nat → Prop
  | [], _ => True
  | d :: S, t => (∀ e, e < m ^ d.2 → (gv (243 * S.length + e)).toInt = (svg m g D fr (13 - d.1) (evl m d.2 e) t : Nat)) ∧ VT gv m g D fr S (t.drop (en (arh g) t 1))
theorem VT_ext {gv gv' : Nat → Int32} {m : Nat} {g : tx_g} {D fr : Nat → Nat} : ∀ {S : List (Nat × Nat)} {t : List Nat}, VT gv m g D fr S t → (∀ j, j < 243 * S.length → gv' j = gv j) → (∀ x, x ∈ S → m ^ x.2 ≤ 243) → VT gv' m g D fr S t
  | [], _, _, _, _ => trivial
  | d :: S, t, h, k, hx => by
    rw [List.length_cons] at k
    refine ⟨fun e he => ?_, VT_ext h.2 (fun j hj => k j (by omega)) (fun x hx2 => hx x (List.mem_cons_of_mem _ hx2))⟩
    have := hx d List.mem_cons_self
    rw [k _ (by omega)]
    exact h.1 e he
theorem VT_rest {gv : Nat → Int32} {m : Nat} {g : tx_g} {D fr : Nat → Nat} : ∀ {S1 S2 : List (Nat × Nat)} {t : List Nat}, VT gv m g D fr (S1 ++ S2) t → VT gv m g D fr S2 (t.drop (en (arh g) t S1.length))
  | [], S2, t, h => by
    rw [List.length_nil, en_0, List.drop_zero]
    exact h
  | d :: S1, S2, t, h => by
    have := VT_rest (S1 := S1) h.2
    rw [List.drop_drop] at this
    rw [List.length_cons, Nat.add_comm S1.length, en_add]
    exact this
theorem md_243 {m q : Nat} (hm : m ≤ 3) (hq : q ≤ 5) : m ^ q ≤ 243 := by
  have h1 : m ^ q ≤ 3 ^ q := Nat.pow_le_pow_left hm q
  have h2 : 3 ^ q ≤ 3 ^ 5 := Nat.pow_le_pow_right (by decide) hq
  have h3 : 3 ^ 5 = 243 := by decide
  omega
theorem bit_and {a b : Int32} {x y : Nat} (ha : a.toInt = x) (hb : b.toInt = y) (hx : x ≤ 1) (hy : y ≤ 1) : (a &&& b).toInt = (sv_b 1 x y : Nat) ∧ (a ||| b).toInt = (sv_b 2 x y : Nat) ∧ (((1 : Int32) - a) ||| b).toInt = (sv_b 3 x y : Nat) := by
  rw [xnI ha, xnI hb]
  rcases (show x = 0 ∨ x = 1 by omega) with rfl | rfl <;> rcases (show y = 0 ∨ y = 1 by omega) with rfl | rfl <;> decide
section M297
variable {s : ps_S} {R : Int32 → ps_S → Prop}
theorem fm_297_3 {c f m : Nat} {fv : Nat → Nat} {x1 x2 x3 : Int32} (h1 : x1.toInt = c) (h2 : x2.toInt = f) (hf : f < 10206) (h3 : x3.toInt = m) (hm : m ≤ 3) (hv : ∀ x, x < m → (ps_a s 1174 (f + x)).toInt = fv x ∧ fv x ≤ 1) (hc : c = 4 ∨ c = 5) (k : ∀ v : Int32, v.toInt = (sv_q c ((List.range m).map fv) : Nat) → R v s) : ∀ (n : Nat) {x4 : Int32} {j : Nat}, x4.toInt = j → (∀ x, x < j → (c = 4 → fv x = 1) ∧ (¬ c = 4 → ¬ fv x = 1)) → pl_At n 297 3 [(0, .ref 1131), (1, .int x1), (2, .int x2), (3, .int x3), (4, .int x4)] [] s (ps_rI R)
  | 0, _, _, _, _ => pl_At_0
  | n + 1, x4, j, h4, hj => by
    have c4 : (4 : Int32).toInt = 4 := by decide
    have c1 : (1 : Int32).toInt = 1 := by decide
    have c0 : (0 : Int32).toInt = 0 := by decide
    obtain ⟨w1, w2⟩ := sv_q1 (m := m) (c := c) (f := fv)
    have hq := sv_q_le (c := c) (vs := (List.range m).map fv)
    refine pl_297_3 ⟨fun z => ⟨fun y => ?_, fun y => ?_⟩, fun z => ?_⟩
    · have z := xle z
      have y := xne y
      refine k _ ?_
      have : ¬ sv_q c ((List.range m).map fv) = 1 := fun a => by
        obtain ⟨x, hx, e⟩ := (w2 (by omega)).mp a
        exact (hj x (by omega)).2 (by omega) e
      show (0 : Int32).toInt = _
      omega
    · have z := xle z
      have y := xeq y
      refine k _ ?_
      have : sv_q c ((List.range m).map fv) = 1 := (w1 (by omega)).mpr (fun x hx => (hj x (by omega)).1 (by omega))
      rw [this]
      rfl
    · have z := xlt z
      obtain ⟨e1, e2⟩ := hv j (by omega)
      have ei : (x2 + x4).toInt = (f + j : Nat) := by rw [xIa (by omega) (by omega), h2, h4]; rfl
      intro _
      rw [xtn ei]
      refine ⟨fun y => ⟨fun y2 => ?_, fun y2 => ⟨fun _ => ?_, fun a => absurd a y⟩⟩, fun y => ⟨fun y2 => ?_, fun y2 => ⟨fun a => absurd y a, fun _ => ?_⟩⟩⟩
      · have y := xne y
        have y2 := xne y2
        refine fm_297_3 h1 h2 hf h3 hm hv hc k n (xj1 h4 (by omega)) (fun x hx => ?_)
        rcases Nat.lt_or_ge x j with a | a
        · exact hj x a
        · rw [show x = j from by omega]
          exact ⟨fun b => by omega, fun _ => by omega⟩
      · have y := xne y
        have y2 := xeq y2
        refine k _ ?_
        rw [(w2 (by omega)).mpr ⟨j, by omega, by omega⟩]
        rfl
      · have y := xeq y
        have y2 := xne y2
        refine fm_297_3 h1 h2 hf h3 hm hv hc k n (xj1 h4 (by omega)) (fun x hx => ?_)
        rcases Nat.lt_or_ge x j with a | a
        · exact hj x a
        · rw [show x = j from by omega]
          exact ⟨fun _ => by omega, fun b => by omega⟩
      · have y := xeq y
        have y2 := xeq y2
        refine k _ ?_
        have : ¬ sv_q c ((List.range m).map fv) = 1 := fun a => by
          have := (w1 (by omega)).mp a j (by omega)
          omega
        show (0 : Int32).toInt = _
        omega
end M297
end
section
set_option maxRecDepth 100000
/-! the reference: isSo, doesHold, hold(), counter() -/
theorem bc_le {ar : Nat → Nat} : ∀ {t : List Nat} {S : List (Nat × Nat)}, bc ar S t → S.length ≤ t.length
  | [], [], _ => Nat.le_refl _
  | [], _ :: _, h => h.elim
  | c :: t, [], h => by cases h
  | c :: t, d :: S, h => by
    have := bc_le h.2
    rw [List.length_append, List.length_replicate] at this
    rw [List.length_cons, List.length_cons]
    omega
theorem pl_Cl_297 {n c f m : Nat} {fv : Nat → Nat} {x1 x2 x3 : Int32} {s : ps_S} {R : Int32 → ps_S → Prop} (h1 : x1.toInt = c) (h2 : x2.toInt = f) (hf : f < 10206) (h3 : x3.toInt = m) (hm : m ≤ 3) (hv : ∀ x, x < m → (ps_a s 1174 (f + x)).toInt = fv x ∧ fv x ≤ 1) (hc : c = 4 ∨ c = 5) (k : ∀ v : Int32, v.toInt = (sv_q c ((List.range m).map fv) : Nat) → R v s) : pl_Cl n 297 [.ref 1131, .int x1, .int x2, .int x3] s (ps_rI R) := by
  cases n with
  | zero => exact pl_At_0
  | succ n =>
  show pl_At (n + 1) 297 0 [(0, .ref 1131), (1, .int x1), (2, .int x2), (3, .int x3)] [] s (ps_rI R)
  exact pl_297_0 (fm_297_3 h1 h2 hf h3 hm hv hc k n (j := 0) rfl (fun x hx => absurd hx (Nat.not_lt_zero _)))
theorem svi_lt' {m : Nat} {g : tx_g} {D fr : Nat → Nat} {p c : Nat} {b : Bool} {t env : List Nat} {q : Nat} (g1 : g.1.length ≤ 6) (g2 : g.2.length ≤ 4) (hA : ArW (sg g) (arh g)) (hD : dgo m g D) (hr2 : ∀ p, p < g.1.length → (g.1.getD p ([], 0)).2 ≤ 2) (hf2 : ∀ p, p < g.2.length → (g.2.getD p ([], 0)).2 ≤ 2) (hm3 : 1 ≤ m ∧ m ≤ 3) (h : pt g b p env.length (c :: t)) (hc10 : 10 ≤ c) (hc40 : c < 40) (hsub : ∀ v, 60 + v ∈ t → fr v < m) (he : ∀ x, x ∈ env → x < m) : svi m g D fr q env c t < m ^ arh g c := by
  obtain ⟨hp, hq, hb, ks, hk⟩ := pt_c h
  have ha := hA b c ks hk
  have ht := kS_tms hk hc10
  have ha2 : arh g c ≤ 2 := by
    rcases kS_num hk with ⟨a, e⟩ | ⟨a, a2, e⟩ | ⟨a, e⟩ | ⟨a, e⟩ | ⟨a, a2, e⟩ | ⟨a, a2, e⟩ | ⟨a, a2, e⟩
    · omega
    · omega
    · omega
    · omega
    · have a2 : c < 10 + g.1.length := a2
      have e : ks.length = (g.1.getD (c - 10) ([], 0)).2 := e
      have := hr2 (c - 10) (by omega)
      omega
    · have a2 : c < 20 + g.2.length := a2
      have e : ks.length = (g.2.getD (c - 20) ([], 0)).2 := e
      have := hf2 (c - 20) (by omega)
      omega
    · omega
  unfold svi sv_i
  rw [← ha] at ht
  rcases (show arh g c = 0 ∨ arh g c = 1 ∨ arh g c = 2 by omega) with e | e | e
  · rw [if_pos e, e, Nat.pow_zero]
    exact Nat.one_pos
  · rw [if_neg (by omega), if_pos e, e, Nat.pow_one]
    rw [e] at ht
    rw [ht] at hk
    have k1 := pt_1 hA h hk
    rw [qb_0 (by omega), Nat.add_zero] at k1
    exact (sv_lt g1 g2 hm3.1 hD hr2 hf2 k1 hsub he).2 rfl
  · rw [if_neg (by omega), if_neg (by omega), e]
    rw [e] at ht
    rw [ht] at hk
    have k1 := pt_1 hA h hk
    rw [qb_0 (by omega), Nat.add_zero] at k1
    have k2 := pt_2 hA h hk (qb_0 (by omega))
    rw [Nat.pow_succ, Nat.pow_one]
    exact pr_lt ((sv_lt g1 g2 hm3.1 hD hr2 hf2 k1 hsub he).2 rfl) ((sv_lt g1 g2 hm3.1 hD hr2 hf2 k2 (fun v hv => hsub v (List.mem_of_mem_drop hv)) he).2 rfl)
/-- what is set: bank, row, tables, digits, free things -/
def ME (s : ps_S) (b to m : Nat) (g : tx_g) (l : List Nat) (D fr : Nat → Nat) : Prop := (b < 2 ∧ (ps_i s 1131 21).toInt = b ∧ mv_E s b g) ∧ (to < 27400 ∧ mv_W s to l) ∧ ML s m g ∧ (∀ (j x : Nat), (md_B m (md_sy m g))[j]? = some x → (ps_a s 1169 j).toInt = D j ∧ D j < x) ∧ ∀ v, 60 + v ∈ l → v < 12 ∧ (ps_a s 1175 v).toInt = fr v ∧ fr v < m
theorem ME_kq {s s' : ps_S} {b to m : Nat} {g : tx_g} {l : List Nat} {D fr : Nat → Nat} (H : ME s b to m g l D fr) (K : kq [1150, 1173, 1174] [] s s') : ME s' b to m g l D fr := by
  obtain ⟨⟨h1, h2, h3⟩, ⟨h4, h5⟩, ⟨⟨j1, j2⟩, j3, j4⟩, h7, h8⟩ := H
  refine ⟨⟨h1, by rw [kq_i K 21 rfl]; exact h2, mv_E_kq h3 K (by decide)⟩, ⟨h4, ?_⟩, ⟨⟨by rw [kq_i K 73 rfl]; exact j1, ?_⟩, by rw [kq_a K 1171 (by decide)]; exact j3, by rw [kq_a K 1172 (by decide)]; exact j4⟩, by rw [kq_a K 1169 (by decide)]; exact h7, by rw [kq_a K 1175 (by decide)]; exact h8⟩
  · unfold mv_W at *
    rw [kq_a K 1134 (by decide)]
    exact h5
  · unfold ar_L at *
    rw [kq_a K 1170 (by decide)]
    exact j2
section M296
variable {b to m : Nat} {g : tx_g} {l : List Nat} {D fr : Nat → Nat}
theorem ME_ok {s : ps_S} (hm : 1 ≤ m ∧ m ≤ 3) (H : ME s b to m g l D fr) : g.1.length ≤ 6 ∧ g.2.length ≤ 4 ∧ ArW (sg g) (arh g) ∧ dgo m g D ∧ (∀ p, p < g.1.length → (g.1.getD p ([], 0)).2 ≤ 2) ∧ (∀ p, p < g.2.length → (g.2.getD p ([], 0)).2 ≤ 2) ∧ (∀ (i v : Nat), 60 + v ∈ l.drop i → fr v < m) ∧ (md_B m (md_sy m g)).length ≤ 90 := by
  obtain ⟨⟨h1, h2, h5⟩, h4, h6, h7, h8⟩ := H
  have hl := md_o_le hm.2 (mv_E_ar (m := m) h5) (md_sy m g).length (Nat.le_refl _)
  unfold md_o at hl
  rw [List.take_length, md_sy_len] at hl
  have g1 := h5.2.2.1
  have g2 := h5.2.2.2.1
  refine ⟨g1, g2, arh_k g1 g2, fun j x hx => (h7 j x hx).2, fun p hp => ?_, fun p hp => ?_, fun i v hv => (h8 v (List.mem_of_mem_drop hv)).2.2, by omega⟩
  · obtain ⟨w, hw⟩ := getD_2 (α := Nat) hp
    exact (h5.2.2.2.2.1 _ _ _ hw).2.1
  · obtain ⟨w, hw⟩ := getD_2 (α := Nat) hp
    exact (h5.2.2.2.2.2 _ _ _ hw).2.1
/-- a value, its parts' tables standing -/
theorem fm_296 {n i c e : Nat} {d : Nat × Nat} {S : List (Nat × Nat)} {gv0 : Nat → Int32} {x1 x2 x3 x4 x5 : Int32} {s : ps_S} {R : Int32 → ps_S → Prop} (hm : 1 ≤ m ∧ m ≤ 3) (H : ME s b to m g l D fr) (hS : SKI g l i) (es : sk (arh g) l i = d :: S) (hc : l[i]? = some c) (hV : VT gv0 m g D fr (sk (arh g) l (i + 1)) (l.drop (i + 1))) (hg : ∀ j, ¬ (243 * S.length ≤ j ∧ j < 243 * S.length + e) → ps_a s 1174 j = gv0 j) (he : e < m ^ d.2) (h1 : x1.toInt = c) (h2 : x2.toInt = (arh g c : Nat)) (h3 : x3.toInt = (S.length + 1 : Nat)) (h4 : x4.toInt = e) (h5 : x5.toInt = m) (k : ∀ v : Int32, v.toInt = (svg m g D fr (13 - d.1) (evl m d.2 e) (l.drop i) : Nat) → R v s) : pl_Cl n 296 [.ref 1131, .int x1, .int x2, .int x3, .int x4, .int x5] s (ps_rI R) := by
  cases n with
  | zero => exact pl_At_0
  | succ n =>
  show pl_At (n + 1) 296 0 [(0, .ref 1131), (1, .int x1), (2, .int x2), (3, .int x3), (4, .int x4), (5, .int x5)] [] s (ps_rI R)
  obtain ⟨g1, g2, hA, hD, hr2, hf2, hfr, h90⟩ := ME_ok hm H
  have h40 : l.length ≤ 40 := H.2.1.2.2.1
  have hil := (List.getElem?_eq_some_iff.mp hc).1
  obtain ⟨bb, hpt⟩ := SKI_pt hS es
  rw [drop_c hc] at hpt k
  obtain ⟨hp, hq5, hb40, ks, hk⟩ := pt_c hpt
  have ha := hA bb c ks hk
  have hS1 := SKI_s hA hS hil
  have esk := sk_c es hc
  rw [esk] at hV
  have hlen : arh g c + S.length ≤ 39 := by
    have := bc_le hS1.1
    rw [esk, List.length_append, List.length_replicate, List.length_drop] at this
    omega
  have he243 : e < 243 := Nat.lt_of_lt_of_le he (md_243 hm.2 hq5)
  have hgap := kS_gap hk
  have ks2 := ar2 H.1.2.2 hk
  obtain ⟨q13, eq13⟩ : ∃ q, 13 - d.1 = q + 1 := ⟨12 - d.1, by omega⟩
  have eqq : 13 - (d.1 + 1) = q13 := by omega
  have hel : (evl m d.2 e).length = d.2 := evl_len
  have hev := evl_lt (m := m) (q := d.2) (e := e) hm.1
  rw [eq13] at k
  have c243 : (243 : Int32).toInt = 243 := by decide
  have c2 : (2 : Int32).toInt = 2 := by decide
  have c1 : (1 : Int32).toInt = 1 := by decide
  have c0 : (0 : Int32).toInt = 0 := by decide
  have c3 : (3 : Int32).toInt = 3 := by decide
  have c4 : (4 : Int32).toInt = 4 := by decide
  have c5 : (5 : Int32).toInt = 5 := by decide
  have c6 : (6 : Int32).toInt = 6 := by decide
  have c10 : (10 : Int32).toInt = 10 := by decide
  have c20 : (20 : Int32).toInt = 20 := by decide
  have c60 : (60 : Int32).toInt = 60 := by decide
  have c40' : (40 : Int32).toInt = 40 := by decide
  have t1 : (x3 - 1).toInt = (S.length : Nat) := by rw [xIs (by omega) (by omega), h3, c1]; omega
  have two : ((243 : Int32) * (x3 - 1)).toInt = (243 * S.length : Nat) := by rw [xIm (by rw [c243, t1]; omega) (by rw [c243, t1]; omega), c243, t1]; omega
  -- what follows is the same for both places of the first part
  have main : ∀ (n : Nat) (x6 x7 : Int32), (1 ≤ arh g c → x6.toInt = (243 * (S.length + arh g c - 1) : Nat)) → x7.toInt = (243 * S.length : Nat) → pl_At n 296 28 [(0, .ref 1131), (1, .int x1), (2, .int x2), (4, .int x4), (5, .int x5), (6, .int x6), (7, .int x7)] [] s (ps_rI R) := fun n x6 x7 h6 h7 => by
    -- the second part's value, and the first's where there are two
    have v2 : arh g c = 2 → qb c = 0 → (ps_a s 1174 (243 * (S.length + 1) + e)).toInt = (svg m g D fr q13 (evl m d.2 e) (l.drop (i + 1)) : Nat) ∧ (ps_a s 1174 (243 * S.length + e)).toInt = (svg m g D fr q13 (evl m d.2 e) ((l.drop (i + 1)).drop (en (arh g) (l.drop (i + 1)) 1)) : Nat) := fun ha2 hqb => by
      rw [ha2, hqb] at hV
      obtain ⟨w1, w2, -⟩ := hV
      have w1 : (gv0 (243 * (S.length + 1) + e)).toInt = (svg m g D fr q13 (evl m d.2 e) (l.drop (i + 1)) : Nat) := by
        rw [← eqq]
        exact w1 e he
      have w2 : (gv0 (243 * S.length + e)).toInt = (svg m g D fr q13 (evl m d.2 e) ((l.drop (i + 1)).drop (en (arh g) (l.drop (i + 1)) 1)) : Nat) := by
        rw [← eqq]
        exact w2 e he
      rw [hg _ (by omega), hg _ (by omega)]
      exact ⟨w1, w2⟩
    have v1 : arh g c = 1 → qb c = 0 → (ps_a s 1174 (243 * S.length + e)).toInt = (svg m g D fr q13 (evl m d.2 e) (l.drop (i + 1)) : Nat) := fun ha1 hqb => by
      rw [ha1, hqb] at hV
      obtain ⟨w1, -⟩ := hV
      have w1 : (gv0 (243 * S.length + e)).toInt = (svg m g D fr q13 (evl m d.2 e) (l.drop (i + 1)) : Nat) := by
        rw [← eqq]
        exact w1 e he
      rw [hg _ (by omega)]
      exact w1
    have i6 : arh g c = 2 → (x6 + x4).toInt = (243 * (S.length + 1) + e : Nat) := fun ha2 => by
      have := h6 (by omega)
      rw [ha2, show S.length + 2 - 1 = S.length + 1 from by omega] at this
      rw [xIa (by omega) (by omega), this, h4]
      rfl
    have i6' : arh g c = 1 → (x6 + x4).toInt = (243 * S.length + e : Nat) := fun ha1 => by
      have := h6 (by omega)
      rw [ha1, show S.length + 1 - 1 = S.length from by omega] at this
      rw [xIa (by omega) (by omega), this, h4]
      rfl
    have i7 : (x7 + x4).toInt = (243 * S.length + e : Nat) := by rw [xIa (by omega) (by omega), h7, h4]; rfl
    have bit : 1 ≤ c → c < 4 → (svg m g D fr q13 (evl m d.2 e) (l.drop (i + 1)) ≤ 1 ∧ svg m g D fr q13 (evl m d.2 e) ((l.drop (i + 1)).drop (en (arh g) (l.drop (i + 1)) 1)) ≤ 1) ∧ arh g c = 2 := fun a1 a2 => by
      have hbt : bb = true := by
        rcases kS_cases hk with ⟨z, -⟩ | ⟨z, -⟩ | ⟨z, -⟩ | ⟨z, -⟩ | ⟨z, -⟩ | ⟨-, a, -⟩ | ⟨-, a, -⟩
        · exact z
        · exact z
        · exact z
        · exact z
        · exact z
        · omega
        · omega
      subst hbt
      have hks := ((kS_t g1 g2 hk).1 rfl).2.2.1 a1 a2
      subst hks
      have k1 := pt_1 hA hpt hk
      rw [qb_0 (by omega), Nat.add_zero] at k1
      have k2 := pt_2 hA hpt hk (qb_0 (by omega))
      refine ⟨⟨?_, ?_⟩, ha⟩
      · exact (sv_lt g1 g2 hm.1 hD hr2 hf2 (by rw [hel]; exact k1) (hfr _) hev).1 rfl
      · exact (sv_lt g1 g2 hm.1 hD hr2 hf2 (by rw [hel]; exact k2) (fun v hv => hfr (i + 1) v (List.mem_of_mem_drop hv)) hev).1 rfl
    cases n with
    | zero => exact pl_At_0
    | succ n =>
    refine pl_296_28 ⟨fun z0 => ⟨fun z1 => ⟨fun z2 => ?_, fun z2 => ?_⟩, fun z1 => ?_⟩, fun z0 => ?_⟩
    · have z0 := xne z0
      have z1 := xne z1
      have z2 := xne z2
      cases n with
      | zero => exact pl_At_0
      | succ n =>
      have quant : (c = 4 ∨ c = 5) → pl_At n 296 127 [(0, .ref 1131), (1, .int x1), (4, .int x4), (5, .int x5), (6, .int x6)] [] s (ps_rI R) := fun h45 => by
        cases n with
        | zero => exact pl_At_0
        | succ n =>
        have ha1 : arh g c = 1 := (arh_lo (g := g) (c := c)).2.2.1 h45
        have hbt : bb = true := by
          rcases kS_cases hk with ⟨z, -⟩ | ⟨z, -⟩ | ⟨z, -⟩ | ⟨z, -⟩ | ⟨z, -⟩ | ⟨-, a, -⟩ | ⟨-, a, -⟩
          · exact z
          · exact z
          · exact z
          · exact z
          · exact z
          · omega
          · omega
        subst hbt
        have hks := ((kS_t g1 g2 hk).1 rfl).2.2.2.1 h45
        subst hks
        have k1 := pt_1 hA hpt hk
        rw [qb_1 h45] at k1
        rw [ha1, qb_1 h45] at hV
        obtain ⟨w1, -⟩ := hV
        have h66 := h6 (by omega)
        rw [ha1, show S.length + 1 - 1 = S.length from by omega] at h66
        have hem : e * m + m ≤ m ^ (d.2 + 1) := by
          have : (e + 1) * m ≤ m ^ d.2 * m := Nat.mul_le_mul_right m he
          rw [Nat.add_mul, Nat.one_mul] at this
          rw [Nat.pow_succ]
          exact this
        have hq5' : d.2 + 1 ≤ 5 := by
          obtain ⟨c', t', hd'⟩ := pt_ne k1
          rw [hd'] at k1
          exact (pt_c k1).2.1
        have h243 := md_243 (q := d.2 + 1) hm.2 hq5'
        have h243' : m ^ (d.2 + 1) ≤ 243 := h243
        have e1 : (x4 * x5).toInt = (e * m : Nat) := by exact xImN h4 h5 (by omega)
        have e2 : (x6 + (x4 * x5)).toInt = (243 * S.length + e * m : Nat) := by rw [xIa (by omega) (by omega), h66, e1]; rfl
        have hee : e ≤ e * m := Nat.le_mul_of_pos_right e hm.1
        refine pl_296_127 ?_
        refine pl_Cl_297 (c := c) (f := 243 * S.length + e * m) (m := m) (fv := fun x => svg m g D fr q13 (x :: evl m d.2 e) (l.drop (i + 1))) h1 e2 (by omega) h5 hm.2 (fun x hx => ?_) h45 (fun v q => ?_)
        · have w : (gv0 (243 * S.length + (e * m + x))).toInt = (svg m g D fr q13 (x :: evl m d.2 e) (l.drop (i + 1)) : Nat) := by
            rw [← evl_c hx, ← eqq]
            exact w1 (e * m + x) (by show e * m + x < m ^ (d.2 + 1); omega)
          rw [Nat.add_assoc, hg _ (by omega)]
          refine ⟨w, ?_⟩
          have hx2 := sv_lt (k := q13) (env := x :: evl m d.2 e) g1 g2 hm.1 hD hr2 hf2 (by rw [List.length_cons, hel]; exact k1) (hfr _) (fun y hy => by
            rcases List.mem_cons.mp hy with hy | hy
            · rw [hy]; exact hx
            · exact hev y hy)
          exact hx2.1 rfl
        · refine k _ ?_
          rw [svg, sv_4 h45]
          exact q
      refine pl_296_88 ⟨fun z3 => ⟨fun z4 => ?_, fun z4 => ⟨fun z5 => ?_, fun z5 => ?_⟩⟩, fun z3 => ?_⟩
      · have z4 := xeq z4
        exact quant (by omega)
      · have z3 := xne z3
        have z4 := xne z4
        have z5 := xne z5
        cases n with
        | zero => exact pl_At_0
        | succ n =>
        refine pl_296_143 ⟨fun z6 => ?_, fun z6 => ?_⟩
        · have z6 := xne z6
          have hc10 : 10 ≤ c := by omega
          cases n with
          | zero => exact pl_At_0
          | succ n =>
          refine pl_296_178 ⟨fun y60 => ⟨fun y40 => ?_, fun y40 => ?_⟩, fun y60 => ?_⟩
          · have y40 := xlt y40
            cases n with
            | zero => exact pl_At_0
            | succ n =>
            have hi := svi_lt' (q := q13) (env := evl m d.2 e) g1 g2 hA hD hr2 hf2 hm (by rw [hel]; exact hpt) hc10 (by omega) (hfr (i + 1)) hev
            have tb := tb_at g1 g2 hk hc10 (by omega) hi
            obtain ⟨⟨-, -, hE⟩, -, hML, hDg, -⟩ := H
            -- the digit read
            have fin : ∀ (idx : Int32), idx.toInt = (svi m g D fr q13 (evl m d.2 e) c (l.drop (i + 1)) : Nat) → (20 ≤ x1 → pm_in (x1 - 20) 4 = true → pm_in ((ps_a s 1172 (Int32.toNatClampNeg (x1 - 20))) + idx) 96 = true → R (ps_a s 1169 (Int32.toNatClampNeg ((ps_a s 1172 (Int32.toNatClampNeg (x1 - 20))) + idx))) s) ∧ (x1 < 20 → pm_in (x1 - 10) 6 = true → pm_in ((ps_a s 1171 (Int32.toNatClampNeg (x1 - 10))) + idx) 96 = true → R (ps_a s 1169 (Int32.toNatClampNeg ((ps_a s 1171 (Int32.toNatClampNeg (x1 - 10))) + idx))) s) := fun idx hidx => by
              refine ⟨fun w _ _ => ?_, fun w _ _ => ?_⟩
              · have w := xle w
                rcases tb with ⟨-, w2, -⟩ | ⟨-, w2, w3, w4⟩
                · omega
                have hlt := (List.getElem?_eq_some_iff.mp w4).1
                have ei : (x1 - 20).toInt = (c - 20 : Nat) := by rw [xIs (by omega) (by omega), h1, c20]; omega
                have e3 : (ps_a s 1172 (c - 20)).toInt = (tfa m g (c - 20) : Nat) := hML.2.2 (c - 20) w3
                rw [xtn ei]
                rw [xtn (a := tfa m g (c - 20) + svi m g D fr q13 (evl m d.2 e) c (l.drop (i + 1))) (by rw [xIa (by omega) (by omega), e3, hidx]; rfl)]
                refine k _ ?_
                rw [(hDg _ _ w4).1, svg, sv_f hc10 (by omega), if_neg (by omega)]
              · have w := xlt w
                rcases tb with ⟨-, w2, w3, w4⟩ | ⟨-, w2, -⟩
                · have hlt := (List.getElem?_eq_some_iff.mp w4).1
                  have ei : (x1 - 10).toInt = (c - 10 : Nat) := by rw [xIs (by omega) (by omega), h1, c10]; omega
                  have e3 : (ps_a s 1171 (c - 10)).toInt = (tra m g (c - 10) : Nat) := hML.2.1 (c - 10) w3
                  rw [xtn ei]
                  rw [xtn (a := tra m g (c - 10) + svi m g D fr q13 (evl m d.2 e) c (l.drop (i + 1))) (by rw [xIa (by omega) (by omega), e3, hidx]; rfl)]
                  refine k _ ?_
                  rw [(hDg _ _ w4).1, svg, sv_f hc10 (by omega), if_pos w2]
                · omega
            refine pl_296_216 ⟨fun a0 => ⟨fun a1 => ?_, fun a1 => ?_⟩, fun a0 => ?_⟩
            · have a0 := xne a0
              have a1 := xne a1
              have ha2 : arh g c = 2 := by omega
              obtain ⟨y1, y2⟩ := v2 ha2 (qb_0 (by omega))
              intro _ _
              rw [xtn (i6 ha2), xtn i7]
              have hsv : svi m g D fr q13 (evl m d.2 e) c (l.drop (i + 1)) = svg m g D fr q13 (evl m d.2 e) (l.drop (i + 1)) * m + svg m g D fr q13 (evl m d.2 e) ((l.drop (i + 1)).drop (en (arh g) (l.drop (i + 1)) 1)) := by
                unfold svi sv_i
                rw [if_neg (by omega), if_neg (by omega)]
              have hi9 := md_pow9 (a := arh g c) hm.2 (by omega)
              have em : ((ps_a s 1174 (243 * (S.length + 1) + e)) * x5).toInt = (svg m g D fr q13 (evl m d.2 e) (l.drop (i + 1)) * m : Nat) := by
                exact xImN y1 h5 (by omega)
              exact fin _ (by rw [xIa (by omega) (by omega), em, y2, hsv]; rfl)
            · have a1 := xeq a1
              have ha1 : arh g c = 1 := by omega
              have y1 := v1 ha1 (qb_0 (by omega))
              intro _
              rw [xtn (i6' ha1)]
              refine fin _ ?_
              rw [y1]
              unfold svi sv_i
              rw [if_neg (by omega), if_pos ha1]
            · have a0 := xeq a0
              refine fin 0 ?_
              unfold svi sv_i
              rw [if_pos (by omega)]
              rfl
          · have y60 := xlt y60
            have y40 := xle y40
            have hlt := hb40 (by omega) (by omega)
            refine fm_290 (m := m) (a := c - 40) h5 (by rw [xIs (by omega) (by omega), h1, c40']; omega) hm.2 (by omega) (fun v q => pl_nk_i (fun _ => pl_nk_i (fun _ => ?_)))
            have hpp : 0 < m ^ (c - 40) := Nat.pow_pos hm.1
            have ed : (x4 / v).toInt = (e / m ^ (c - 40) : Nat) := by rw [xdivr (by omega) (by omega), h4, q, ← Int.natCast_ediv]
            refine k _ ?_
            rw [xmodr (by rw [ed]; exact Int.natCast_nonneg _) (by omega), ed, h5, ← Int.natCast_emod, svg, sv_y (by omega) (by omega), List.getD_eq_getElem?_getD, evl_at hlt]
            rfl
          · have y60 := xle y60
            have hv : 60 + (c - 60) ∈ l := by
              rw [show 60 + (c - 60) = c from by omega]
              exact List.mem_of_getElem? hc
            obtain ⟨w1, w2, w3⟩ := H.2.2.2.2 _ hv
            intro _
            rw [xtn (a := c - 60) (by rw [xIs (by omega) (by omega), h1, c60]; omega)]
            refine k _ ?_
            rw [svg, sv_x (by omega)]
            exact w2
        · have z6 := xeq z6
          have e6 : c = 6 := by omega
          have ha2 : arh g c = 2 := (arh_lo (g := g) (c := c)).2.2.2.1 e6
          obtain ⟨y1, y2⟩ := v2 ha2 (qb_0 (by omega))
          intro _ _
          rw [xtn (i6 ha2), xtn i7]
          subst e6
          rw [svg, sv_6] at k
          refine ⟨fun a => ?_, fun a => ?_⟩
          · have a := xne a
            rw [y1, y2] at a
            refine k _ ?_
            rw [if_neg (fun w => a (by rw [svg, w]))]
            rfl
          · have a := xeq a
            rw [y1, y2] at a
            refine k _ ?_
            rw [if_pos (Int.ofNat.inj a)]
            rfl
      · have z5 := xeq z5
        exact quant (by omega)
      · have z3 := xeq z3
        have e3 : c = 3 := by omega
        obtain ⟨⟨b1, b2⟩, ha2⟩ := bit (by omega) (by omega)
        obtain ⟨y1, y2⟩ := v2 ha2 (qb_0 (by omega))
        intro _ _
        rw [xtn (i6 ha2), xtn i7]
        refine k _ ?_
        rw [svg, sv_2 (by omega) (by omega), e3]
        exact (bit_and y1 y2 b1 b2).2.2
    · have z2 := xeq z2
      have e2 : c = 2 := by omega
      obtain ⟨⟨b1, b2⟩, ha2⟩ := bit (by omega) (by omega)
      obtain ⟨y1, y2⟩ := v2 ha2 (qb_0 (by omega))
      intro _ _
      rw [xtn (i6 ha2), xtn i7]
      refine k _ ?_
      rw [svg, sv_2 (by omega) (by omega), e2]
      exact (bit_and y1 y2 b1 b2).2.1
    · have z1 := xeq z1
      have e1 : c = 1 := by omega
      obtain ⟨⟨b1, b2⟩, ha2⟩ := bit (by omega) (by omega)
      obtain ⟨y1, y2⟩ := v2 ha2 (qb_0 (by omega))
      intro _ _
      rw [xtn (i6 ha2), xtn i7]
      refine k _ ?_
      rw [svg, sv_2 (by omega) (by omega), e1]
      exact (bit_and y1 y2 b1 b2).1
    · have z0 := xeq z0
      have e0 : c = 0 := by omega
      subst e0
      exact k _ rfl
  refine pl_296_0 ⟨fun z => ?_, fun z => ?_⟩
  · have z := xne z
    refine main n _ _ (fun _ => ?_) two
    have a1 : (x3 + x2).toInt = (S.length + 1 + arh g c : Nat) := by rw [xIa (by omega) (by omega), h3, h2]; rfl
    have a2 : ((x3 + x2) - 2).toInt = (S.length + arh g c - 1 : Nat) := by rw [xIs (by omega) (by omega), a1, c2]; omega
    rw [xIm (by rw [c243, a2]; omega) (by rw [c243, a2]; omega), c243, a2]
    omega
  · have z := xeq z
    exact main n _ _ (fun w => by omega) two
end M296
end
