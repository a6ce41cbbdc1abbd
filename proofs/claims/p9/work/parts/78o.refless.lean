set_option maxRecDepth 100000
/-! the reference: case, apply, deduce, absurd, classic -/
-- ProofBenchModel.takesCase(I)V
theorem pl_256_0 {n : Nat} {x1 : Int32} {s : ps_S} {Q : Option Value → ps_S → Prop} (h :
  pl_Cl n 244 [.ref 1131, .int x1] s (ps_rI (fun v1 s1 =>
    pl_Cl n 247 [.ref 1131, .int v1] s1 (ps_rI (fun v2 s2 =>
      (v2 ≠ 2 →
        ((0 : Int32) = 0 →
          pl_At n 256 42 [(0, .ref 1131), (1, .int x1), (2, .int v1), (3, .int 0)] [] s2 Q) ∧
        ((0 : Int32) ≠ 0 →
          pl_Cl n 245 [.ref 1131, .int x1] s2 (ps_rI (fun v3 s3 =>
            pl_Cl n 246 [.ref 1131, .int x1] s3 (ps_rI (fun v4 s4 =>
              pl_Cl n 222 [.ref 1131, .int v3, .int v4] s4 (ps_rI (fun v5 s5 =>
                (v5 ≠ 0 →
                  pl_At n 256 47 [(0, .ref 1131), (1, .int x1), (2, .int v1), (3, .int 0)] [] s5 Q) ∧
                (v5 = 0 →
                  pl_At n 256 42 [(0, .ref 1131), (1, .int x1), (2, .int v1), (3, .int 0)] [] s5 Q))))))))) ∧
      (v2 = 2 →
        ((1 : Int32) = 0 →
          pl_At n 256 42 [(0, .ref 1131), (1, .int x1), (2, .int v1), (3, .int 1)] [] s2 Q) ∧
        ((1 : Int32) ≠ 0 →
          pl_Cl n 245 [.ref 1131, .int x1] s2 (ps_rI (fun v6 s6 =>
            pl_Cl n 246 [.ref 1131, .int x1] s6 (ps_rI (fun v7 s7 =>
              pl_Cl n 222 [.ref 1131, .int v6, .int v7] s7 (ps_rI (fun v8 s8 =>
                (v8 ≠ 0 →
                  pl_At n 256 47 [(0, .ref 1131), (1, .int x1), (2, .int v1), (3, .int 1)] [] s8 Q) ∧
                (v8 = 0 →
                  pl_At n 256 42 [(0, .ref 1131), (1, .int x1), (2, .int v1), (3, .int 1)] [] s8 Q)))))))))))))) : pl_At (n + 1) 256 0 [(0, .ref 1131), (1, .int x1)] [] s Q :=
  pl_wp_at (stops := [(42, [0, 1, 2, 3]), (47, [0, 1, 2, 3])]) (f := 38) h rfl

theorem pl_256_42 {n : Nat} {x1 : Int32} {x2 : Int32} {x3 : Int32} {s : ps_S} {Q : Option Value → ps_S → Prop} (h :
  pl_Cl n 241 [.ref 1131, .int 2] s (ps_rV (fun s1 =>
    pl_At n 256 47 [(0, .ref 1131), (1, .int x1), (2, .int x2), (3, .int x3)] [] s1 Q))) : pl_At (n + 1) 256 42 [(0, .ref 1131), (1, .int x1), (2, .int x2), (3, .int x3)] [] s Q :=
  pl_wp_at (stops := [(42, [0, 1, 2, 3]), (47, [0, 1, 2, 3])]) (f := 5) h rfl

theorem pl_256_47 {n : Nat} {x1 : Int32} {x2 : Int32} {x3 : Int32} {s : ps_S} {Q : Option Value → ps_S → Prop} (h :
  (x3 ≠ 0 →
    pl_Cl n 221 [.ref 1131, .int x2, .int 1] s (ps_rI (fun v1 s1 =>
      (pm_in x1 40 = true →
        pl_Cl n 249 [.ref 1131, .int x1, .int (ps_a s1 1153 (Int32.toNatClampNeg x1)), .int 0] s1 (ps_rV (fun s2 =>
          pl_Cl n 226 [.ref 1131, .int x2, .int 1, .int v1] s2 (ps_rV (fun s3 =>
            (pm_in x1 40 = true →
              pl_Cl n 249 [.ref 1131, .int x1, .int (ps_a s3 1154 (Int32.toNatClampNeg x1)), .int 1] s3 (ps_rV (fun s4 =>
                pl_Cl n 219 [.ref 1131, .int x2] (ps_ui s4 1131 34 0) (ps_rI (fun v5 s5 =>
                  pl_Cl n 226 [.ref 1131, .int x2, .int v1, .int v5] s5 (ps_rV (fun s6 =>
                    (pm_in x1 40 = true →
                      pl_Cl n 249 [.ref 1131, .int x1, .int (ps_a s6 1155 (Int32.toNatClampNeg x1)), .int 1] s6 (ps_rV (fun s7 =>
                        pl_Cl n 245 [.ref 1131, .int x1] (ps_ui s7 1131 34 0) (ps_rI (fun v8 s8 =>
                          pl_Cl n 227 [.ref 1131, .int v8] s8 (ps_rV (fun s9 =>
                            Q none s9)))))))))))))))))))))) ∧
  (x3 = 0 →
    Q none s)) : pl_At (n + 1) 256 47 [(0, .ref 1131), (1, .int x1), (2, .int x2), (3, .int x3)] [] s Q :=
  pl_wp_at (stops := [(42, [0, 1, 2, 3]), (47, [0, 1, 2, 3])]) (f := 58) h rfl

-- ProofBenchModel.takesLess(I)V
theorem pl_255_0 {n : Nat} {x1 : Int32} {s : ps_S} {Q : Option Value → ps_S → Prop} (h :
  pl_Cl n 244 [.ref 1131, .int x1] s (ps_rI (fun v1 s1 =>
    (pm_in x1 40 = true →
      ((ps_a s1 1152 (Int32.toNatClampNeg x1)) ≠ 8 →
        (pm_in x1 40 = true →
          ((ps_a s1 1152 (Int32.toNatClampNeg x1)) ≠ 9 →
            (pm_in x1 40 = true →
              ((ps_a s1 1152 (Int32.toNatClampNeg x1)) = 10 →
                pl_At n 255 165 [(0, .ref 1131), (1, .int x1), (2, .int v1), (3, .int ((22468 : Int32) + ((41 : Int32) * x1)))] [] s1 Q) ∧
              ((ps_a s1 1152 (Int32.toNatClampNeg x1)) ≠ 10 →
                pl_Cl n 247 [.ref 1131, .int v1] s1 (ps_rI (fun v2 s2 =>
                  (v2 = 0 →
                    pl_At n 255 165 [(0, .ref 1131), (1, .int x1), (2, .int v1), (3, .int ((22468 : Int32) + ((41 : Int32) * x1)))] [] s2 Q) ∧
                  (v2 ≠ 0 →
                    pl_Cl n 241 [.ref 1131, .int 2] s2 (ps_rV (fun s3 =>
                      pl_At n 255 165 [(0, .ref 1131), (1, .int x1), (2, .int v1), (3, .int ((22468 : Int32) + ((41 : Int32) * x1)))] [] s3 Q)))))))) ∧
          ((ps_a s1 1152 (Int32.toNatClampNeg x1)) = 9 →
            pl_Cl n 247 [.ref 1131, .int v1] s1 (ps_rI (fun v4 s4 =>
              (v4 ≠ 3 →
                pl_Cl n 226 [.ref 1131, .int v1, .int 1, .int 0] s4 (ps_rV (fun s5 =>
                  ((0 : Int32) = 0 →
                    pl_At n 255 89 [(0, .ref 1131), (1, .int x1), (2, .int v1), (4, .int 0)] [] s5 Q) ∧
                  ((0 : Int32) ≠ 0 →
                    pl_Cl n 245 [.ref 1131, .int x1] s5 (ps_rI (fun v6 s6 =>
                      pl_Cl n 230 [.ref 1131, .int v6] s6 (ps_rI (fun v7 s7 =>
                        (v7 ≠ 0 →
                          pl_At n 255 94 [(0, .ref 1131), (1, .int x1), (2, .int v1), (4, .int 0)] [] s7 Q) ∧
                        (v7 = 0 →
                          pl_At n 255 89 [(0, .ref 1131), (1, .int x1), (2, .int v1), (4, .int 0)] [] s7 Q))))))))) ∧
              (v4 = 3 →
                pl_Cl n 221 [.ref 1131, .int v1, .int 1] s4 (ps_rI (fun v8 s8 =>
                  pl_Cl n 226 [.ref 1131, .int v1, .int 1, .int v8] s8 (ps_rV (fun s9 =>
                    (v8 = 0 →
                      pl_At n 255 89 [(0, .ref 1131), (1, .int x1), (2, .int v1), (4, .int v8)] [] s9 Q) ∧
                    (v8 ≠ 0 →
                      pl_Cl n 245 [.ref 1131, .int x1] s9 (ps_rI (fun v10 s10 =>
                        pl_Cl n 230 [.ref 1131, .int v10] s10 (ps_rI (fun v11 s11 =>
                          (v11 ≠ 0 →
                            pl_At n 255 94 [(0, .ref 1131), (1, .int x1), (2, .int v1), (4, .int v8)] [] s11 Q) ∧
                          (v11 = 0 →
                            pl_At n 255 89 [(0, .ref 1131), (1, .int x1), (2, .int v1), (4, .int v8)] [] s11 Q)))))))))))))))) ∧
      ((ps_a s1 1152 (Int32.toNatClampNeg x1)) = 8 →
        pl_Cl n 256 [.ref 1131, .int x1] s1 (ps_rV (fun s12 =>
          Q none s12))))))) : pl_At (n + 1) 255 0 [(0, .ref 1131), (1, .int x1)] [] s Q :=
  pl_wp_at (stops := [(89, [0, 1, 2, 4]), (94, [0, 1, 2, 4]), (116, [0, 1]), (165, [0, 1, 2, 3]), (181, [0, 1, 2, 3]), (207, [0, 1, 2, 3]), (255, [0, 1, 2, 3])]) (f := 80) h rfl

theorem pl_255_89 {n : Nat} {x1 : Int32} {x2 : Int32} {x4 : Int32} {s : ps_S} {Q : Option Value → ps_S → Prop} (h :
  pl_Cl n 241 [.ref 1131, .int 2] s (ps_rV (fun s1 =>
    pl_At n 255 94 [(0, .ref 1131), (1, .int x1), (2, .int x2), (4, .int x4)] [] s1 Q))) : pl_At (n + 1) 255 89 [(0, .ref 1131), (1, .int x1), (2, .int x2), (4, .int x4)] [] s Q :=
  pl_wp_at (stops := [(89, [0, 1, 2, 4]), (94, [0, 1, 2, 4]), (116, [0, 1]), (165, [0, 1, 2, 3]), (181, [0, 1, 2, 3]), (207, [0, 1, 2, 3]), (255, [0, 1, 2, 3])]) (f := 5) h rfl

theorem pl_255_94 {n : Nat} {x1 : Int32} {x2 : Int32} {x4 : Int32} {s : ps_S} {Q : Option Value → ps_S → Prop} (h :
  (x4 ≤ 0 →
    pl_At n 255 116 [(0, .ref 1131), (1, .int x1)] [] (ps_ui s 1131 34 0) Q) ∧
  (0 < x4 →
    pl_Cl n 219 [.ref 1131, .int x2] (ps_ui s 1131 34 0) (ps_rI (fun v1 s1 =>
      pl_Cl n 226 [.ref 1131, .int x2, .int x4, .int v1] s1 (ps_rV (fun s2 =>
        pl_At n 255 116 [(0, .ref 1131), (1, .int x1)] [] s2 Q)))))) : pl_At (n + 1) 255 94 [(0, .ref 1131), (1, .int x1), (2, .int x2), (4, .int x4)] [] s Q :=
  pl_wp_at (stops := [(89, [0, 1, 2, 4]), (94, [0, 1, 2, 4]), (116, [0, 1]), (165, [0, 1, 2, 3]), (181, [0, 1, 2, 3]), (207, [0, 1, 2, 3]), (255, [0, 1, 2, 3])]) (f := 14) h rfl

theorem pl_255_116 {n : Nat} {x1 : Int32} {s : ps_S} {Q : Option Value → ps_S → Prop} (h :
  (pm_in x1 40 = true →
    pl_Cl n 249 [.ref 1131, .int x1, .int (ps_a s 1153 (Int32.toNatClampNeg x1)), .int 0] s (ps_rV (fun s1 =>
      (pm_in x1 40 = true →
        pl_Cl n 249 [.ref 1131, .int x1, .int (ps_a s1 1154 (Int32.toNatClampNeg x1)), .int 0] s1 (ps_rV (fun s2 =>
          Q none s2))))))) : pl_At (n + 1) 255 116 [(0, .ref 1131), (1, .int x1)] [] s Q :=
  pl_wp_at (stops := [(89, [0, 1, 2, 4]), (94, [0, 1, 2, 4]), (116, [0, 1]), (165, [0, 1, 2, 3]), (181, [0, 1, 2, 3]), (207, [0, 1, 2, 3]), (255, [0, 1, 2, 3])]) (f := 19) h rfl

theorem pl_255_165 {n : Nat} {x1 : Int32} {x2 : Int32} {x3 : Int32} {s : ps_S} {Q : Option Value → ps_S → Prop} (h :
  (pm_in x1 40 = true →
    ((ps_a s 1152 (Int32.toNatClampNeg x1)) ≠ 10 →
      pl_At n 255 181 [(0, .ref 1131), (1, .int x1), (2, .int x2), (3, .int x3)] [] s Q) ∧
    ((ps_a s 1152 (Int32.toNatClampNeg x1)) = 10 →
      pl_Cl n 227 [.ref 1131, .int x3] s (ps_rV (fun s1 =>
        pl_At n 255 181 [(0, .ref 1131), (1, .int x1), (2, .int x2), (3, .int x3)] [] s1 Q))))) : pl_At (n + 1) 255 165 [(0, .ref 1131), (1, .int x1), (2, .int x2), (3, .int x3)] [] s Q :=
  pl_wp_at (stops := [(89, [0, 1, 2, 4]), (94, [0, 1, 2, 4]), (116, [0, 1]), (165, [0, 1, 2, 3]), (181, [0, 1, 2, 3]), (207, [0, 1, 2, 3]), (255, [0, 1, 2, 3])]) (f := 11) h rfl

theorem pl_255_181 {n : Nat} {x1 : Int32} {x2 : Int32} {x3 : Int32} {s : ps_S} {Q : Option Value → ps_S → Prop} (h :
  (pm_in x1 40 = true →
    ((ps_a s 1152 (Int32.toNatClampNeg x1)) ≠ 18 →
      pl_At n 255 207 [(0, .ref 1131), (1, .int x1), (2, .int x2), (3, .int x3)] [] s Q) ∧
    ((ps_a s 1152 (Int32.toNatClampNeg x1)) = 18 →
      pl_Cl n 225 [.ref 1131, .int 3] s (ps_rV (fun s1 =>
        pl_Cl n 227 [.ref 1131, .int x3] s1 (ps_rV (fun s2 =>
          pl_Cl n 225 [.ref 1131, .int 0] s2 (ps_rV (fun s3 =>
            pl_At n 255 207 [(0, .ref 1131), (1, .int x1), (2, .int x2), (3, .int x3)] [] s3 Q))))))))) : pl_At (n + 1) 255 181 [(0, .ref 1131), (1, .int x1), (2, .int x2), (3, .int x3)] [] s Q :=
  pl_wp_at (stops := [(89, [0, 1, 2, 4]), (94, [0, 1, 2, 4]), (116, [0, 1]), (165, [0, 1, 2, 3]), (181, [0, 1, 2, 3]), (207, [0, 1, 2, 3]), (255, [0, 1, 2, 3])]) (f := 17) h rfl

theorem pl_255_207 {n : Nat} {x1 : Int32} {x2 : Int32} {x3 : Int32} {s : ps_S} {Q : Option Value → ps_S → Prop} (h :
  (pm_in x1 40 = true →
    (pm_in x1 40 = true →
      ((ps_a s 1152 (Int32.toNatClampNeg x1)) = 17 →
        pl_Cl n 249 [.ref 1131, .int x1, .int (ps_a s 1153 (Int32.toNatClampNeg x1)), .int 0] s (ps_rV (fun s1 =>
          (pm_in x1 40 = true →
            ((ps_a (ps_ui s1 1131 34 0) 1152 (Int32.toNatClampNeg x1)) ≠ 10 →
              pl_At n 255 255 [(0, .ref 1131), (1, .int x1), (2, .int x2), (3, .int x3)] [] (ps_ui s1 1131 34 0) Q) ∧
            ((ps_a (ps_ui s1 1131 34 0) 1152 (Int32.toNatClampNeg x1)) = 10 →
              pl_Cl n 225 [.ref 1131, .int 3] (ps_ui s1 1131 34 0) (ps_rV (fun s2 =>
                pl_At n 255 255 [(0, .ref 1131), (1, .int x1), (2, .int x2), (3, .int x3)] [] s2 Q))))))) ∧
      ((ps_a s 1152 (Int32.toNatClampNeg x1)) ≠ 17 →
        pl_Cl n 249 [.ref 1131, .int x1, .int (ps_a s 1153 (Int32.toNatClampNeg x1)), .int 1] s (ps_rV (fun s3 =>
          (pm_in x1 40 = true →
            ((ps_a (ps_ui s3 1131 34 0) 1152 (Int32.toNatClampNeg x1)) ≠ 10 →
              pl_At n 255 255 [(0, .ref 1131), (1, .int x1), (2, .int x2), (3, .int x3)] [] (ps_ui s3 1131 34 0) Q) ∧
            ((ps_a (ps_ui s3 1131 34 0) 1152 (Int32.toNatClampNeg x1)) = 10 →
              pl_Cl n 225 [.ref 1131, .int 3] (ps_ui s3 1131 34 0) (ps_rV (fun s4 =>
                pl_At n 255 255 [(0, .ref 1131), (1, .int x1), (2, .int x2), (3, .int x3)] [] s4 Q)))))))))) : pl_At (n + 1) 255 207 [(0, .ref 1131), (1, .int x1), (2, .int x2), (3, .int x3)] [] s Q :=
  pl_wp_at (stops := [(89, [0, 1, 2, 4]), (94, [0, 1, 2, 4]), (116, [0, 1]), (165, [0, 1, 2, 3]), (181, [0, 1, 2, 3]), (207, [0, 1, 2, 3]), (255, [0, 1, 2, 3])]) (f := 43) h rfl

theorem pl_255_255 {n : Nat} {x1 : Int32} {x2 : Int32} {x3 : Int32} {s : ps_S} {Q : Option Value → ps_S → Prop} (h :
  pl_Cl n 227 [.ref 1131, .int x3] s (ps_rV (fun s1 =>
    (pm_in x1 40 = true →
      ((ps_a s1 1152 (Int32.toNatClampNeg x1)) ≠ 10 →
        Q none s1) ∧
      ((ps_a s1 1152 (Int32.toNatClampNeg x1)) = 10 →
        pl_Cl n 227 [.ref 1131, .int x2] s1 (ps_rV (fun s2 =>
          Q none s2))))))) : pl_At (n + 1) 255 255 [(0, .ref 1131), (1, .int x1), (2, .int x2), (3, .int x3)] [] s Q :=
  pl_wp_at (stops := [(89, [0, 1, 2, 4]), (94, [0, 1, 2, 4]), (116, [0, 1]), (165, [0, 1, 2, 3]), (181, [0, 1, 2, 3]), (207, [0, 1, 2, 3]), (255, [0, 1, 2, 3])]) (f := 16) h rfl

theorem t1_is {ar : Nat → Nat} {l : List Nat} : [] ++ (l.drop 1).take (1 + en ar (l.drop 1) 1 - 1) = tq_1 ar l := by
  unfold tq_1
  rw [show 1 + en ar (l.drop 1) 1 - 1 = en ar (l.drop 1) 1 from by omega]
  rfl
theorem t2_is {ar : Nat → Nat} {l : List Nat} : [] ++ (l.drop (1 + en ar (l.drop 1) 1)).take (l.length - (1 + en ar (l.drop 1) 1)) = tq_2 ar l := by
  unfold tq_2
  rw [List.take_of_length_le (by rw [List.length_drop]; exact Nat.le_refl _), ← List.drop_drop]
  rfl
theorem TKf_0 {i : Nat} {s0 s : ps_S} (T : TKf i s0 s) : TKf i s0 (ps_ui s 1131 34 0) := TKf_q T (kqi kq_refl rfl : kq [] [34] s _) (by decide) (by decide) (by decide)
theorem PAm_0 {i bd : Nat} {s : ps_S} {A : List (List Nat)} (P : PAm s i A bd) : PAm (ps_ui s 1131 34 0) i A bd := PAm_kq P (kqi kq_refl rfl : kq [] [34] s _) (by decide) (by decide)
section TKL
variable {b n1 n2 n3 ax x : Nat} {h : tx_H} {Θ : List tq_H} {D : List tq_R} {t f : List Nat} {x1 : Int32} {s0 : ps_S} {R : ps_S → Prop}

theorem fm_256_r18 {n : Nat} (h1 : x1.toInt = D.length) (hi : D.length < 40) (X : mpX s0 b h Θ D ((18, n1, n2, n3), (ax, x), t, f)) (B : mpB s0 D.length) (hD : tq_GD h.1 D) (hG : tp_G h.1 h.2.length ((18, n1, n2, n3), (ax, x), t, f)) (hpr : tq_pr Θ D ((18, n1, n2, n3), (ax, x), t, f)) (k : ∀ s', TKm s0 s' h Θ D ((18, n1, n2, n3), (ax, x), t, f) → R s') : pl_Cl n 256 [.ref 1131, .int x1] s0 (ps_rV R) := by
  cases n with
  | zero => exact pl_At_0
  | succ n =>
  show pl_At (n + 1) 256 0 [(0, .ref 1131), (1, .int x1)] [] s0 (ps_rV R)
  obtain ⟨b1, b2, b3⟩ := B
  have hA := arh_k (g := h.1) X.1.2.2.1.2.2.1 X.1.2.2.1.2.2.2.1
  have er : (ps_a s0 1152 D.length).toInt = (8 : Int) := X.2.2.2.1.trans rfl
  have p1 : n1 < D.length := hpr.1 (of_decide_eq_true rfl)
  have e1 : (ps_a s0 1153 D.length).toInt = n1 := X.2.2.2.2.1 (of_decide_eq_true rfl)
  obtain ⟨⟨W1, w1, ne1, l1⟩, -⟩ := mprem X hD p1
  have p2 : n2 < D.length := hpr.2.1 (of_decide_eq_true rfl)
  have e2 : (ps_a s0 1154 D.length).toInt = n2 := X.2.2.2.2.2.1 (of_decide_eq_true rfl)
  obtain ⟨⟨W2, w2, ne2, l2⟩, -⟩ := mprem X hD p2
  have p3 : n3 < D.length := hpr.2.2 (of_decide_eq_true rfl)
  have e3 : (ps_a s0 1155 D.length).toInt = n3 := X.2.2.2.2.2.2.1 (of_decide_eq_true rfl)
  obtain ⟨⟨W3, w3, ne3, l3⟩, -⟩ := mprem X hD p3
  have hm := tq_mk_18 (h := h) (Θ := Θ) (D := D) (n1 := n1) (n2 := n2) (n3 := n3) (ax := ax) (x := x) (t := t) (f := f)
  have at47 : (tq_r D n1).head? = some 2 → ∀ {n' c : Nat} {s1 : ps_S} {v1 : Int32}, v1.toInt = (41 * n1 : Nat) → (ps_i s1 1131 50).toInt = c → mk_M s1 [] → PAm s1 D.length [] 0 → TKf D.length s0 s1 → (c = 0 → tq_r D n2 = tq_r D n3) → ((¬ tq_r D n2 = tq_r D n3) → c = 2) → (tq_r D n2 = tq_r D n3 → c = 0) → pl_At n' 256 47 [(0, .ref 1131), (1, .int x1), (2, .int v1), (3, .int 1)] [] s1 (ps_rV R) := fun hh {n' c s1 v1} q1 h50 M1 P1 T1 hc0 hc2 hc3 => by
    cases n' with
    | zero => exact pl_At_0
    | succ n' =>
    have X1 := mpX_TKf X hi T1
    obtain ⟨g1, g2, g3, g4⟩ := tq_half hA w1 hh (kS_2 (by decide) (by decide))
    have hle := en_le hA g3 (k := 1) (by decide)
    rw [List.length_drop] at hle
    have hl1 : 1 ≤ (tq_r D n1).length := by
      cases e : tq_r D n1 with
      | nil => exact absurd e ne1
      | cons c l => rw [List.length_cons]; omega
    have W1' := (mprem X1 hD p1).1.1
    refine pl_256_47 ⟨fun _ => ?_, fun z => absurd z (by decide)⟩
    rw [xtn h1]
    refine fm_221 (i := 1) X1.1.1 X1.1.2.1 X1.1.2.2.1 q1 (by omega) W1' rfl g3 (fun v3 q3 => ?_)
    intro _
    refine fm_249k X hD hi T1 h1 p1 (show (ps_a _ 1153 D.length).toInt = n1 from (mpX_TKf X hi T1).2.2.2.2.1 (of_decide_eq_true rfl)) M1 (Or.inl ⟨rfl, rfl⟩) (by decide) P1 (fun s2 P2 K2 => ?_)
    have T2 := TKf_A T1 K2
    have M2 := mk_M_kq M1 K2.1 (by decide) (by decide)
    have er2 := (kq_a T2.1 1152 (by decide))
    refine fm_226 (a := 1) (b := 1 + en (arh h.1) ((tq_r D n1).drop 1) 1) q1 (by omega) (mprem (mpX_TKf X hi T2) hD p1).1.1 M2 rfl q3 (by omega) (by decide) (fun s3 M3 K3 => ?_)
    rw [t1_is] at M3
    have T3 := TKf_q T2 K3 (by decide) (by decide) (by decide)
    have P3 := PAm_kq P2 K3 (by decide) (by decide)
    intro _
    refine fm_249k X hD hi T3 h1 p2 (show (ps_a _ 1154 D.length).toInt = n2 from (mpX_TKf X hi T3).2.2.2.2.2.1 (of_decide_eq_true rfl)) M3 (Or.inr ⟨by decide, rfl⟩) (by decide) P3 (fun s4 P4 K4 => ?_)
    have T4 := TKf_A T3 K4
    have M4 := mk_M_kq M3 K4.1 (by decide) (by decide)
    have er4 := (kq_a T4.1 1152 (by decide))
    refine fm_219c q1 (mprem (mpX_TKf X hi (TKf_0 T4)) hD p1).1.1 (fun v5 q5 => ?_)
    refine fm_226 (a := 1 + en (arh h.1) ((tq_r D n1).drop 1) 1) (b := (tq_r D n1).length) q1 (by omega) (mprem (mpX_TKf X hi (TKf_0 T4)) hD p1).1.1 mk_M_0 q3 q5 (Nat.le_refl _) (by decide) (fun s6 M6 K6 => ?_)
    rw [t2_is] at M6
    have T6 := TKf_q (TKf_0 T4) K6 (by decide) (by decide) (by decide)
    have P6 := PAm_kq (PAm_0 P4) K6 (by decide) (by decide)
    intro _
    refine fm_249k X hD hi T6 h1 p3 (show (ps_a _ 1155 D.length).toInt = n3 from (mpX_TKf X hi T6).2.2.2.2.2.2.1 (of_decide_eq_true rfl)) M6 (Or.inr ⟨by decide, rfl⟩) (by decide) P6 (fun s7 P7 K7 => ?_)
    have T7 := TKf_A T6 K7
    have M7 := mk_M_kq M6 K7.1 (by decide) (by decide)
    have er7 := (kq_a T7.1 1152 (by decide))
    have X7 := mpX_TKf X hi (TKf_0 T7)
    refine fm_245 (i := D.length) (m := n2) h1 (X7.2.2.2.2.2.1 (of_decide_eq_true rfl)) (by omega) (fun v8 q8 => ?_)
    refine fm_227 (l := tq_r D n2) q8 (by omega) (mprem X7 hD p2).1.1 mk_M_0 (by decide) (fun s9 M9 K9 => ?_)
    have h9 : (ps_i s9 1131 50).toInt = c := by
      rw [kq_i K9 50 (by decide)]
      show (ps_i s7 1131 50).toInt = c
      rw [kq_i K7.1 50 (by decide), kq_i K6 50 (by decide)]
      show (ps_i s4 1131 50).toInt = c
      rw [kq_i K4.1 50 (by decide), kq_i K3 50 (by decide), kq_i K2.1 50 (by decide)]
      exact h50
    by_cases hal : tq_r D n2 = tq_r D n3
    · have ec := hc3 hal
      rw [if_pos ⟨hh, hal⟩] at hm
      refine k s9 (TKm_mk hm (by rw [h9, ec]) M9 (Or.inr w2) (by show (tq_r D n2).length ≤ 2000; omega) (PAm_kq (PAm_0 P7) K9 (by decide) (by decide)) (by decide) (fun _ => ⟨rfl, rfl⟩) (TKf_q (TKf_0 T7) K9 (by decide) (by decide) (by decide)))
    · have ec := hc2 hal
      rw [if_neg (fun w => hal w.2)] at hm
      refine k s9 (TKm_mk hm (by rw [h9, ec]) M9 (Or.inr w2) (by show (tq_r D n2).length ≤ 2000; omega) (PAm_kq (PAm_0 P7) K9 (by decide) (by decide)) (by decide) (fun w => by cases w) (TKf_q (TKf_0 T7) K9 (by decide) (by decide) (by decide)))
  refine pl_256_0 (fm_244 (i := D.length) (m := n1) h1 e1 (by omega) (fun v1 q1 => fm_247 q1 (by omega) W1 ne1 (fun v2 c hc q2 => ⟨fun z => ⟨fun _ => ?_, fun w => absurd rfl w⟩, fun z => ⟨fun w => absurd w (by decide), fun _ => ?_⟩⟩)))
  · have z : v2.toInt ≠ (2 : Int) := xne z
    rw [if_neg (fun w => by rw [hc] at w; cases w.1; exact z q2)] at hm
    cases n with
    | zero => exact pl_At_0
    | succ n =>
    refine pl_256_42 (fm_241 (z := 0) (c := 2) b1 rfl (fun s4 h50 K4 => ?_))
    cases n with
    | zero => exact pl_At_0
    | succ n =>
    exact pl_256_47 ⟨fun w => absurd rfl w, fun _ => k s4 (TKm_mk hm h50 (mk_M_kq b2 K4 (by decide) (by decide)) (Or.inl rfl) (Nat.zero_le _) (PAm_kq b3 K4 (by decide) (by decide)) (by decide) (fun w => by cases w) (TKf_q TKf_refl K4 (by decide) (by decide) (by decide)))⟩
  · have z : v2.toInt = (2 : Int) := xeq z
    have hh : (tq_r D n1).head? = some 2 := by rw [hc]; congr 1; omega
    refine fm_245 (i := D.length) (m := n2) h1 e2 (by omega) (fun v3 q3 => fm_246 (i := D.length) (m := n3) h1 e3 (by omega) (fun v4 q4 => ?_))
    refine fm_222 q3 (by omega) W2 q4 (by omega) W3 (fun e => ⟨fun _ => at47 hh q1 b1 b2 b3 TKf_refl (fun _ => e) (fun w => absurd e w) (fun _ => rfl), fun w => absurd w (by decide)⟩) (fun e => ⟨fun w => absurd rfl w, fun _ => ?_⟩)
    cases n with
    | zero => exact pl_At_0
    | succ n =>
    refine pl_256_42 (fm_241 (z := 0) (c := 2) b1 rfl (fun s4 h50 K4 => ?_))
    exact at47 hh q1 h50 (mk_M_kq b2 K4 (by decide) (by decide)) (PAm_kq b3 K4 (by decide) (by decide)) (TKf_q TKf_refl K4 (by decide) (by decide) (by decide)) (fun w => by cases w) (fun _ => rfl) (fun w => absurd w e)

theorem fm_255_r18 {n : Nat} (h1 : x1.toInt = D.length) (hi : D.length < 40) (X : mpX s0 b h Θ D ((18, n1, n2, n3), (ax, x), t, f)) (B : mpB s0 D.length) (hD : tq_GD h.1 D) (hG : tp_G h.1 h.2.length ((18, n1, n2, n3), (ax, x), t, f)) (hpr : tq_pr Θ D ((18, n1, n2, n3), (ax, x), t, f)) (k : ∀ s', TKm s0 s' h Θ D ((18, n1, n2, n3), (ax, x), t, f) → R s') : pl_Cl n 255 [.ref 1131, .int x1] s0 (ps_rV R) := by
  cases n with
  | zero => exact pl_At_0
  | succ n =>
  show pl_At (n + 1) 255 0 [(0, .ref 1131), (1, .int x1)] [] s0 (ps_rV R)
  obtain ⟨b1, b2, b3⟩ := B
  have hA := arh_k (g := h.1) X.1.2.2.1.2.2.1 X.1.2.2.1.2.2.2.1
  have er : (ps_a s0 1152 D.length).toInt = (8 : Int) := X.2.2.2.1.trans rfl
  have p1 : n1 < D.length := hpr.1 (of_decide_eq_true rfl)
  have e1 : (ps_a s0 1153 D.length).toInt = n1 := X.2.2.2.2.1 (of_decide_eq_true rfl)
  obtain ⟨⟨W1, w1, ne1, l1⟩, -⟩ := mprem X hD p1
  have p2 : n2 < D.length := hpr.2.1 (of_decide_eq_true rfl)
  have e2 : (ps_a s0 1154 D.length).toInt = n2 := X.2.2.2.2.2.1 (of_decide_eq_true rfl)
  obtain ⟨⟨W2, w2, ne2, l2⟩, -⟩ := mprem X hD p2
  have p3 : n3 < D.length := hpr.2.2 (of_decide_eq_true rfl)
  have e3 : (ps_a s0 1155 D.length).toInt = n3 := X.2.2.2.2.2.2.1 (of_decide_eq_true rfl)
  obtain ⟨⟨W3, w3, ne3, l3⟩, -⟩ := mprem X hD p3
  refine pl_255_0 ?_
  rw [xtn h1]
  refine fm_244 (i := D.length) (m := n1) h1 e1 (by omega) (fun v1 q1 => ?_)
  intro _
  refine ⟨fun z => absurd (show (ps_a _ 1152 D.length).toInt = (8 : Int) from er) (xne z), fun _ => ?_⟩
  exact fm_256_r18 h1 hi X ⟨b1, b2, b3⟩ hD hG hpr k

theorem fm_255_r19 {n : Nat} (h1 : x1.toInt = D.length) (hi : D.length < 40) (X : mpX s0 b h Θ D ((19, n1, n2, n3), (ax, x), t, f)) (B : mpB s0 D.length) (hD : tq_GD h.1 D) (hG : tp_G h.1 h.2.length ((19, n1, n2, n3), (ax, x), t, f)) (hpr : tq_pr Θ D ((19, n1, n2, n3), (ax, x), t, f)) (k : ∀ s', TKm s0 s' h Θ D ((19, n1, n2, n3), (ax, x), t, f) → R s') : pl_Cl n 255 [.ref 1131, .int x1] s0 (ps_rV R) := by
  cases n with
  | zero => exact pl_At_0
  | succ n =>
  show pl_At (n + 1) 255 0 [(0, .ref 1131), (1, .int x1)] [] s0 (ps_rV R)
  obtain ⟨b1, b2, b3⟩ := B
  have hA := arh_k (g := h.1) X.1.2.2.1.2.2.1 X.1.2.2.1.2.2.2.1
  have er : (ps_a s0 1152 D.length).toInt = (9 : Int) := X.2.2.2.1.trans rfl
  have p1 : n1 < D.length := hpr.1 (of_decide_eq_true rfl)
  have e1 : (ps_a s0 1153 D.length).toInt = n1 := X.2.2.2.2.1 (of_decide_eq_true rfl)
  obtain ⟨⟨W1, w1, ne1, l1⟩, -⟩ := mprem X hD p1
  have p2 : n2 < D.length := hpr.2.1 (of_decide_eq_true rfl)
  have e2 : (ps_a s0 1154 D.length).toInt = n2 := X.2.2.2.2.2.1 (of_decide_eq_true rfl)
  obtain ⟨⟨W2, w2, ne2, l2⟩, -⟩ := mprem X hD p2
  have hm := tq_mk_19 (h := h) (Θ := Θ) (D := D) (n1 := n1) (n2 := n2) (n3 := n3) (ax := ax) (x := x) (t := t) (f := f)
  have at116 : ∀ {n' c : Nat} {L L' : List Nat} {s4 : ps_S}, tq_mk h Θ D ((19, n1, n2, n3), (ax, x), t, f) = (c, L', [], [], []) → (ps_i s4 1131 50).toInt = c → mk_M s4 L → (L = [] ∨ ws (sg h.1) L [true]) → L.length ≤ 2000 → PAm s4 D.length [] 0 → TKf D.length s0 s4 → (c = 0 → L = L') → pl_At n' 255 116 [(0, .ref 1131), (1, .int x1)] [] s4 (ps_rV R) := fun {n' c L L' s4} hm h50 M4 hw hl P4 T4 hL => by
    cases n' with
    | zero => exact pl_At_0
    | succ n' =>
    refine pl_255_116 ?_
    rw [xtn h1]
    intro _
    refine fm_249k X hD hi T4 h1 p1 (show (ps_a _ 1153 D.length).toInt = n1 from (mpX_TKf X hi T4).2.2.2.2.1 (of_decide_eq_true rfl)) M4 (Or.inl ⟨rfl, rfl⟩) (by decide) P4 (fun s5 P5 K5 => ?_)
    have T5 := TKf_A T4 K5
    have M5 := mk_M_kq M4 K5.1 (by decide) (by decide)
    have er5 := (kq_a T5.1 1152 (by decide))
    intro _
    refine fm_249k X hD hi T5 h1 p2 (show (ps_a _ 1154 D.length).toInt = n2 from (mpX_TKf X hi T5).2.2.2.2.2.1 (of_decide_eq_true rfl)) M5 (Or.inl ⟨rfl, rfl⟩) (by decide) P5 (fun s6 P6 K6 => ?_)
    have T6 := TKf_A T5 K6
    have M6 := mk_M_kq M5 K6.1 (by decide) (by decide)
    have er6 := (kq_a T6.1 1152 (by decide))
    refine k s6 (TKm_mk hm ?_ M6 hw hl P6 (by decide) (fun w => ⟨hL w, rfl⟩) T6)
    rw [kq_i K6.1 50 (by decide), kq_i K5.1 50 (by decide)]
    exact h50
  refine pl_255_0 ?_
  rw [xtn h1]
  refine fm_244 (i := D.length) (m := n1) h1 e1 (by omega) (fun v1 q1 => ?_)
  intro _
  refine ⟨fun _ => ?_, fun z => absurd (show (ps_a _ 1152 D.length).toInt = (8 : Int) from xeq z) (by omega)⟩
  intro _
  refine ⟨fun z => absurd (show (ps_a _ 1152 D.length).toInt = (9 : Int) from er) (xne z), fun _ => ?_⟩
  refine fm_247 q1 (by omega) W1 ne1 (fun v4 c hc q4 => ⟨fun z => ?_, fun z => ?_⟩)
  · have z : v4.toInt ≠ (3 : Int) := xne z
    rw [if_neg (fun w => by rw [hc] at w; cases w.1; exact z q4)] at hm
    refine fm_226 (a := 1) (b := 0) q1 (by omega) W1 b2 rfl rfl (Nat.zero_le _) (by decide) (fun s5 M5 K5 => ⟨fun _ => ?_, fun w => absurd rfl w⟩)
    have T5 : TKf D.length s0 s5 := TKf_q TKf_refl K5 (by decide) (by decide) (by decide)
    cases n with
    | zero => exact pl_At_0
    | succ n =>
    refine pl_255_89 (fm_241 (z := 0) (c := 2) (by rw [kq_i K5 50 (by decide)]; exact b1) rfl (fun s6 h50 K6 => ?_))
    cases n with
    | zero => exact pl_At_0
    | succ n =>
    refine pl_255_94 ⟨fun _ => ?_, fun w => absurd w (by decide)⟩
    exact at116 hm h50 mk_M_0 (Or.inl rfl) (Nat.zero_le _) (PAm_0 (PAm_kq (PAm_kq b3 K5 (by decide) (by decide)) K6 (by decide) (by decide))) (TKf_0 (TKf_q T5 K6 (by decide) (by decide) (by decide))) (fun w => by cases w)
  · have z : v4.toInt = (3 : Int) := xeq z
    have hh : (tq_r D n1).head? = some 3 := by rw [hc]; congr 1; omega
    obtain ⟨g1, g2, g3, g4⟩ := tq_half hA w1 hh (kS_2 (by decide) (by decide))
    have hle := en_le hA g3 (k := 1) (by decide)
    rw [List.length_drop] at hle
    have hl1 : 1 ≤ (tq_r D n1).length := by
      cases e : tq_r D n1 with
      | nil => exact absurd e ne1
      | cons c l => rw [List.length_cons]; omega
    have l2 : (tq_2 (arh h.1) (tq_r D n1)).length ≤ 2000 := by
      unfold tq_2
      rw [List.length_drop, List.length_drop]
      omega
    refine fm_221 (i := 1) X.1.1 X.1.2.1 X.1.2.2.1 q1 (by omega) W1 rfl g3 (fun v8 q8 => ?_)
    refine fm_226 (a := 1) (b := 1 + en (arh h.1) ((tq_r D n1).drop 1) 1) q1 (by omega) W1 b2 rfl q8 (by omega) (by decide) (fun s5 M5 K5 => ⟨fun w => ?_, fun _ => ?_⟩)
    · have w := xeq w
      have c0 : (0 : Int32).toInt = 0 := Int32.toInt_zero
      omega
    rw [t1_is] at M5
    have T5 : TKf D.length s0 s5 := TKf_q TKf_refl K5 (by decide) (by decide) (by decide)
    have X5 := mpX_TKf X hi T5
    have P5 := PAm_kq b3 K5 (by decide) (by decide)
    have at94 : ∀ {n' c : Nat} {L' : List Nat} {s6 : ps_S}, tq_mk h Θ D ((19, n1, n2, n3), (ax, x), t, f) = (c, L', [], [], []) → (ps_i s6 1131 50).toInt = c → PAm s6 D.length [] 0 → TKf D.length s0 s6 → (c = 0 → L' = tq_2 (arh h.1) (tq_r D n1)) → pl_At n' 255 94 [(0, .ref 1131), (1, .int x1), (2, .int v1), (4, .int v8)] [] s6 (ps_rV R) := fun {n' c L' s6} hm h50 P6 T6 hL => by
      cases n' with
      | zero => exact pl_At_0
      | succ n' =>
      refine pl_255_94 ⟨fun w => ?_, fun _ => ?_⟩
      · have w := xle w
        have c0 : (0 : Int32).toInt = 0 := Int32.toInt_zero
        omega
      have W6 := (mprem (mpX_TKf X hi (TKf_0 T6)) hD p1).1.1
      refine fm_219c q1 W6 (fun v9 q9 => ?_)
      refine fm_226 (a := 1 + en (arh h.1) ((tq_r D n1).drop 1) 1) (b := (tq_r D n1).length) q1 (by omega) W6 mk_M_0 q8 q9 (Nat.le_refl _) (by decide) (fun s7 M7 K7 => ?_)
      rw [t2_is] at M7
      exact at116 hm (by rw [kq_i K7 50 (by decide)]; exact h50) M7 (Or.inr g2) l2 (PAm_kq (PAm_0 P6) K7 (by decide) (by decide)) (TKf_q (TKf_0 T6) K7 (by decide) (by decide) (by decide)) (fun w => (hL w).symm)
    refine fm_245 (i := D.length) (m := n2) h1 (X5.2.2.2.2.2.1 (of_decide_eq_true rfl)) (by omega) (fun v10 q10 => ?_)
    have b15 : (ps_i s5 1131 50).toInt = (0 : Nat) := by rw [kq_i K5 50 (by decide)]; exact b1
    refine fm_230 q10 (by omega) (mprem X5 hD p2).1.1 M5 (fun e => ⟨fun _ => ?_, fun w => absurd w (by decide)⟩) (fun e => ⟨fun w => absurd rfl w, fun _ => ?_⟩)
    · rw [if_pos ⟨hh, e.symm⟩] at hm
      exact at94 hm b15 P5 T5 (fun _ => rfl)
    · rw [if_neg (fun w => e w.2.symm)] at hm
      cases n with
      | zero => exact pl_At_0
      | succ n =>
      refine pl_255_89 (fm_241 (z := 0) (c := 2) b15 rfl (fun s6 h50 K6 => ?_))
      exact at94 hm h50 (PAm_kq P5 K6 (by decide) (by decide)) (TKf_q T5 K6 (by decide) (by decide) (by decide)) (fun w => by cases w)

theorem fm_255_r20 {n : Nat} (h1 : x1.toInt = D.length) (hi : D.length < 40) (X : mpX s0 b h Θ D ((20, n1, n2, n3), (ax, x), t, f)) (B : mpB s0 D.length) (hD : tq_GD h.1 D) (hG : tp_G h.1 h.2.length ((20, n1, n2, n3), (ax, x), t, f)) (hpr : tq_pr Θ D ((20, n1, n2, n3), (ax, x), t, f)) (k : ∀ s', TKm s0 s' h Θ D ((20, n1, n2, n3), (ax, x), t, f) → R s') : pl_Cl n 255 [.ref 1131, .int x1] s0 (ps_rV R) := by
  cases n with
  | zero => exact pl_At_0
  | succ n =>
  show pl_At (n + 1) 255 0 [(0, .ref 1131), (1, .int x1)] [] s0 (ps_rV R)
  obtain ⟨b1, b2, b3⟩ := B
  have hA := arh_k (g := h.1) X.1.2.2.1.2.2.1 X.1.2.2.1.2.2.2.1
  have er : (ps_a s0 1152 D.length).toInt = (10 : Int) := X.2.2.2.1.trans rfl
  have p1 : n1 < D.length := hpr.1 (of_decide_eq_true rfl)
  have e1 : (ps_a s0 1153 D.length).toInt = n1 := X.2.2.2.2.1 (of_decide_eq_true rfl)
  obtain ⟨⟨W1, w1, ne1, l1⟩, -⟩ := mprem X hD p1
  obtain ⟨wf, lf⟩ : ws (sg h.1) f [true] ∧ f.length ≤ 40 := hG.2.2.1 (of_decide_eq_true rfl)
  have Wf : mv_W s0 (22468 + 41 * D.length) f := X.2.2.2.2.2.2.2.2.2.2 (of_decide_eq_true rfl)
  refine pl_255_0 ?_
  rw [xtn h1]
  refine fm_244 (i := D.length) (m := n1) h1 e1 (by omega) (fun v1 q1 => ?_)
  intro _
  refine ⟨fun _ => ?_, fun z => absurd (show (ps_a _ 1152 D.length).toInt = (8 : Int) from xeq z) (by omega)⟩
  intro _
  refine ⟨fun _ => ?_, fun z => absurd (show (ps_a _ 1152 D.length).toInt = (9 : Int) from xeq z) (by omega)⟩
  intro _
  refine ⟨fun _ => ?_, fun z => absurd (show (ps_a _ 1152 D.length).toInt = (10 : Int) from er) (xne z)⟩
  cases n with
  | zero => exact pl_At_0
  | succ n =>
  refine pl_255_165 ?_
  rw [xtn h1]
  intro _
  refine ⟨fun z => absurd (show (ps_a _ 1152 D.length).toInt = (10 : Int) from er) (xne z), fun _ => ?_⟩
  refine fm_227 (l := f) (rowF h1 hi) (by omega) Wf b2 (by decide) (fun s2 M2 K2 => ?_)
  have T2 : TKf D.length s0 s2 := TKf_q TKf_refl K2 (by decide) (by decide) (by decide)
  have P2 := PAm_kq b3 K2 (by decide) (by decide)
  clear er
  have er : (ps_a s2 1152 D.length).toInt = (10 : Int) := (mpX_TKf X hi T2).2.2.2.1.trans rfl
  cases n with
  | zero => exact pl_At_0
  | succ n =>
  refine pl_255_181 ?_
  rw [xtn h1]
  intro _
  refine ⟨fun _ => ?_, fun z => absurd (show (ps_a _ 1152 D.length).toInt = (18 : Int) from xeq z) (by omega)⟩
  cases n with
  | zero => exact pl_At_0
  | succ n =>
  refine pl_255_207 ?_
  rw [xtn h1]
  intro _
  intro _
  refine ⟨fun z => absurd (show (ps_a _ 1152 D.length).toInt = (17 : Int) from xeq z) (by omega), fun _ => ?_⟩
  refine fm_249k X hD hi T2 h1 p1 (show (ps_a _ 1153 D.length).toInt = n1 from (mpX_TKf X hi T2).2.2.2.2.1 (of_decide_eq_true rfl)) M2 (Or.inr ⟨by decide, rfl⟩) (by decide) P2 (fun s5 P5 K5 => ?_)
  have T5 := TKf_A T2 K5
  have M5 := mk_M_kq M2 K5.1 (by decide) (by decide)
  have er5 := (kq_a T5.1 1152 (by decide))
  intro _
  clear er
  have er : (ps_a s5 1152 D.length).toInt = (10 : Int) := (mpX_TKf X hi T5).2.2.2.1.trans rfl
  refine ⟨fun z => absurd (show (ps_a _ 1152 D.length).toInt = (10 : Int) from er) (xne z), fun _ => ?_⟩
  refine fm_225 (c := 3) mk_M_0 rfl (by decide) (fun s6 M6 K6 => ?_)
  have T6 := TKf_q (TKf_0 T5) K6 (by decide) (by decide) (by decide)
  cases n with
  | zero => exact pl_At_0
  | succ n =>
  refine pl_255_255 ?_
  rw [xtn h1]
  refine fm_227 (l := f) (rowF h1 hi) (by omega) ((mpX_TKf X hi T6).2.2.2.2.2.2.2.2.2.2 (of_decide_eq_true rfl)) M6 (by decide) (fun s7 M7 K7 => ?_)
  have T7 := TKf_q T6 K7 (by decide) (by decide) (by decide)
  have X7 := mpX_TKf X hi T7
  intro _
  clear er
  have er : (ps_a s7 1152 D.length).toInt = (10 : Int) := X7.2.2.2.1.trans rfl
  refine ⟨fun z => absurd (show (ps_a _ 1152 D.length).toInt = (10 : Int) from er) (xne z), fun _ => ?_⟩
  refine fm_227 (l := tq_r D n1) q1 (by omega) (mprem X7 hD p1).1.1 M7 (by rw [List.length_append]; show 1 + f.length < 50000; omega) (fun s8 M8 K8 => ?_)
  refine k s8 (TKm_mk tq_mk_20 ?_ M8 (Or.inr ?_) ?_ (PAm_kq (PAm_kq (PAm_kq (PAm_0 P5) K6 (by decide) (by decide)) K7 (by decide) (by decide)) K8 (by decide) (by decide)) (by decide) (fun _ => ⟨?_, rfl⟩) (TKf_q T7 K8 (by decide) (by decide) (by decide)))
  · rw [kq_i K8 50 (by decide), kq_i K7 50 (by decide), kq_i K6 50 (by decide)]
    show (ps_i s5 1131 50).toInt = 0
    rw [kq_i K5.1 50 (by decide), kq_i K2 50 (by decide)]
    exact b1
  · show ws (sg h.1) (3 :: (f ++ tq_r D n1)) [true]
    exact ws_c (kS_2 (by decide) (by decide)) (ws_app (W1 := [true]) wf w1)
  · show (3 :: (f ++ tq_r D n1)).length ≤ 2000
    rw [List.length_cons, List.length_append]
    omega
  · rfl

theorem fm_255_r26 {n : Nat} (h1 : x1.toInt = D.length) (hi : D.length < 40) (X : mpX s0 b h Θ D ((26, n1, n2, n3), (ax, x), t, f)) (B : mpB s0 D.length) (hD : tq_GD h.1 D) (hG : tp_G h.1 h.2.length ((26, n1, n2, n3), (ax, x), t, f)) (hpr : tq_pr Θ D ((26, n1, n2, n3), (ax, x), t, f)) (k : ∀ s', TKm s0 s' h Θ D ((26, n1, n2, n3), (ax, x), t, f) → R s') : pl_Cl n 255 [.ref 1131, .int x1] s0 (ps_rV R) := by
  cases n with
  | zero => exact pl_At_0
  | succ n =>
  show pl_At (n + 1) 255 0 [(0, .ref 1131), (1, .int x1)] [] s0 (ps_rV R)
  obtain ⟨b1, b2, b3⟩ := B
  have hA := arh_k (g := h.1) X.1.2.2.1.2.2.1 X.1.2.2.1.2.2.2.1
  have er : (ps_a s0 1152 D.length).toInt = (17 : Int) := X.2.2.2.1.trans rfl
  have p1 : n1 < D.length := hpr.1 (of_decide_eq_true rfl)
  have e1 : (ps_a s0 1153 D.length).toInt = n1 := X.2.2.2.2.1 (of_decide_eq_true rfl)
  obtain ⟨⟨W1, w1, ne1, l1⟩, -⟩ := mprem X hD p1
  obtain ⟨wf, lf⟩ : ws (sg h.1) f [true] ∧ f.length ≤ 40 := hG.2.2.1 (of_decide_eq_true rfl)
  have Wf : mv_W s0 (22468 + 41 * D.length) f := X.2.2.2.2.2.2.2.2.2.2 (of_decide_eq_true rfl)
  have hm := tq_mk_26 (h := h) (Θ := Θ) (D := D) (n1 := n1) (n2 := n2) (n3 := n3) (ax := ax) (x := x) (t := t) (f := f)
  have at165 : ∀ {n' c : Nat} {L' oo : List Nat} {s1 : ps_S} {v1 : Int32}, tq_mk h Θ D ((26, n1, n2, n3), (ax, x), t, f) = (c, L', oo, [], []) → (c = 0 → L' = f ∧ oo = []) → (ps_i s1 1131 50).toInt = c → mk_M s1 [] → PAm s1 D.length [] 0 → TKf D.length s0 s1 → pl_At n' 255 165 [(0, .ref 1131), (1, .int x1), (2, .int v1), (3, .int ((22468 : Int32) + ((41 : Int32) * x1)))] [] s1 (ps_rV R) := fun {n' c L' oo s1 v1} hm hL h50 M1 P1 T1 => by
    clear er
    have er : (ps_a s1 1152 D.length).toInt = (17 : Int) := (mpX_TKf X hi T1).2.2.2.1.trans rfl
    cases n' with
    | zero => exact pl_At_0
    | succ n' =>
    refine pl_255_165 ?_
    rw [xtn h1]
    intro _
    refine ⟨fun _ => ?_, fun z => absurd (show (ps_a _ 1152 D.length).toInt = (10 : Int) from xeq z) (by omega)⟩
    cases n' with
    | zero => exact pl_At_0
    | succ n' =>
    refine pl_255_181 ?_
    rw [xtn h1]
    intro _
    refine ⟨fun _ => ?_, fun z => absurd (show (ps_a _ 1152 D.length).toInt = (18 : Int) from xeq z) (by omega)⟩
    obtain ⟨s2, es2⟩ : ∃ s2, s2 = s1 := ⟨s1, rfl⟩
    rw [← es2] at h50 M1 P1 T1 er ⊢
    have M2 := M1
    have T2 := T1
    have P2 := P1
    have h52 := h50
    cases n' with
    | zero => exact pl_At_0
    | succ n' =>
    refine pl_255_207 ?_
    rw [xtn h1]
    intro _
    intro _
    refine ⟨fun _ => ?_, fun z => absurd (show (ps_a _ 1152 D.length).toInt = (17 : Int) from er) (xne z)⟩
    refine fm_249k X hD hi T2 h1 p1 (show (ps_a _ 1153 D.length).toInt = n1 from (mpX_TKf X hi T2).2.2.2.2.1 (of_decide_eq_true rfl)) M2 (Or.inl ⟨rfl, rfl⟩) (by decide) P2 (fun s5 P5 K5 => ?_)
    have T5 := TKf_A T2 K5
    have M5 := mk_M_kq M2 K5.1 (by decide) (by decide)
    have er5 := (kq_a T5.1 1152 (by decide))
    intro _
    clear er
    have er : (ps_a s5 1152 D.length).toInt = (17 : Int) := (mpX_TKf X hi T5).2.2.2.1.trans rfl
    refine ⟨fun _ => ?_, fun z => absurd (show (ps_a s5 1152 D.length).toInt = (10 : Int) from xeq z) (by omega)⟩
    cases n' with
    | zero => exact pl_At_0
    | succ n' =>
    refine pl_255_255 ?_
    rw [xtn h1]
    refine fm_227 (l := f) (rowF h1 hi) (by omega) ((mpX_TKf X hi (TKf_0 T5)).2.2.2.2.2.2.2.2.2.2 (of_decide_eq_true rfl)) mk_M_0 (by decide) (fun s7 M7 K7 => ?_)
    have T7 := TKf_q (TKf_0 T5) K7 (by decide) (by decide) (by decide)
    intro _
    clear er
    have er : (ps_a s7 1152 D.length).toInt = (17 : Int) := (mpX_TKf X hi T7).2.2.2.1.trans rfl
    refine ⟨fun _ => ?_, fun z => absurd (show (ps_a _ 1152 D.length).toInt = (10 : Int) from xeq z) (by omega)⟩
    refine k s7 (TKm_mk hm ?_ M7 (Or.inr wf) (by show f.length ≤ 2000; omega) (PAm_kq (PAm_0 P5) K7 (by decide) (by decide)) (by decide) (fun w => ⟨(hL w).1.symm, by rw [(hL w).2]; rfl⟩) T7)
    rw [kq_i K7 50 (by decide)]
    show (ps_i s5 1131 50).toInt = c
    rw [kq_i K5.1 50 (by decide)]
    exact h52
  refine pl_255_0 ?_
  rw [xtn h1]
  refine fm_244 (i := D.length) (m := n1) h1 e1 (by omega) (fun v1 q1 => ?_)
  intro _
  refine ⟨fun _ => ?_, fun z => absurd (show (ps_a _ 1152 D.length).toInt = (8 : Int) from xeq z) (by omega)⟩
  intro _
  refine ⟨fun _ => ?_, fun z => absurd (show (ps_a _ 1152 D.length).toInt = (9 : Int) from xeq z) (by omega)⟩
  intro _
  refine ⟨fun z => absurd (show (ps_a _ 1152 D.length).toInt = (10 : Int) from xeq z) (by omega), fun _ => ?_⟩
  refine fm_247 q1 (by omega) W1 ne1 (fun v2 c hc q2 => ⟨fun z => ?_, fun z => ?_⟩)
  · have z := xeq z
    have hh : (tq_r D n1).head? = some 0 := by
      rw [hc]
      congr 1
      have c0 : (0 : Int32).toInt = 0 := Int32.toInt_zero
      omega
    rw [if_pos hh] at hm
    exact at165 hm (fun _ => ⟨rfl, rfl⟩) b1 b2 b3 TKf_refl
  · have z := xne z
    rw [if_neg (fun w => by rw [hc] at w; cases w; exact z q2)] at hm
    refine fm_241 (z := 0) (c := 2) b1 rfl (fun s4 h50 K4 => ?_)
    exact at165 hm (fun w => by cases w) h50 (mk_M_kq b2 K4 (by decide) (by decide)) (PAm_kq b3 K4 (by decide) (by decide)) (TKf_q TKf_refl K4 (by decide) (by decide) (by decide))

theorem fm_255_r27 {n : Nat} (h1 : x1.toInt = D.length) (hi : D.length < 40) (X : mpX s0 b h Θ D ((27, n1, n2, n3), (ax, x), t, f)) (B : mpB s0 D.length) (hD : tq_GD h.1 D) (hG : tp_G h.1 h.2.length ((27, n1, n2, n3), (ax, x), t, f)) (hpr : tq_pr Θ D ((27, n1, n2, n3), (ax, x), t, f)) (k : ∀ s', TKm s0 s' h Θ D ((27, n1, n2, n3), (ax, x), t, f) → R s') : pl_Cl n 255 [.ref 1131, .int x1] s0 (ps_rV R) := by
  cases n with
  | zero => exact pl_At_0
  | succ n =>
  show pl_At (n + 1) 255 0 [(0, .ref 1131), (1, .int x1)] [] s0 (ps_rV R)
  obtain ⟨b1, b2, b3⟩ := B
  have hA := arh_k (g := h.1) X.1.2.2.1.2.2.1 X.1.2.2.1.2.2.2.1
  have er : (ps_a s0 1152 D.length).toInt = (18 : Int) := X.2.2.2.1.trans rfl
  have p1 : n1 < D.length := hpr.1 (of_decide_eq_true rfl)
  have e1 : (ps_a s0 1153 D.length).toInt = n1 := X.2.2.2.2.1 (of_decide_eq_true rfl)
  obtain ⟨⟨W1, w1, ne1, l1⟩, -⟩ := mprem X hD p1
  obtain ⟨wf, lf⟩ : ws (sg h.1) f [true] ∧ f.length ≤ 40 := hG.2.2.1 (of_decide_eq_true rfl)
  have Wf : mv_W s0 (22468 + 41 * D.length) f := X.2.2.2.2.2.2.2.2.2.2 (of_decide_eq_true rfl)
  have hm := tq_mk_27 (h := h) (Θ := Θ) (D := D) (n1 := n1) (n2 := n2) (n3 := n3) (ax := ax) (x := x) (t := t) (f := f)
  have at165 : ∀ {n' c : Nat} {L' oo : List Nat} {s1 : ps_S} {v1 : Int32}, tq_mk h Θ D ((27, n1, n2, n3), (ax, x), t, f) = (c, L', oo, [], []) → (c = 0 → L' = f ∧ oo = 3 :: (f ++ [0])) → (ps_i s1 1131 50).toInt = c → mk_M s1 [] → PAm s1 D.length [] 0 → TKf D.length s0 s1 → pl_At n' 255 165 [(0, .ref 1131), (1, .int x1), (2, .int v1), (3, .int ((22468 : Int32) + ((41 : Int32) * x1)))] [] s1 (ps_rV R) := fun {n' c L' oo s1 v1} hm hL h50 M1 P1 T1 => by
    clear er
    have er : (ps_a s1 1152 D.length).toInt = (18 : Int) := (mpX_TKf X hi T1).2.2.2.1.trans rfl
    cases n' with
    | zero => exact pl_At_0
    | succ n' =>
    refine pl_255_165 ?_
    rw [xtn h1]
    intro _
    refine ⟨fun _ => ?_, fun z => absurd (show (ps_a _ 1152 D.length).toInt = (10 : Int) from xeq z) (by omega)⟩
    cases n' with
    | zero => exact pl_At_0
    | succ n' =>
    refine pl_255_181 ?_
    rw [xtn h1]
    intro _
    refine ⟨fun z => absurd (show (ps_a _ 1152 D.length).toInt = (18 : Int) from er) (xne z), fun _ => ?_⟩
    refine fm_225 (c := 3) M1 rfl (by decide) (fun s6 M6 K6 => ?_)
    have T6 := TKf_q T1 K6 (by decide) (by decide) (by decide)
    refine fm_227 (l := f) (rowF h1 hi) (by omega) ((mpX_TKf X hi T6).2.2.2.2.2.2.2.2.2.2 (of_decide_eq_true rfl)) M6 (by decide) (fun s7 M7 K7 => ?_)
    have T7 := TKf_q T6 K7 (by decide) (by decide) (by decide)
    refine fm_225 (c := 0) M7 rfl (by rw [List.length_append]; show 1 + f.length < 100000; omega) (fun s2 M2 K2 => ?_)
    have T2 := TKf_q T7 K2 (by decide) (by decide) (by decide)
    have P2 := PAm_kq (PAm_kq (PAm_kq P1 K6 (by decide) (by decide)) K7 (by decide) (by decide)) K2 (by decide) (by decide)
    have h52 : (ps_i s2 1131 50).toInt = c := by
      rw [kq_i K2 50 (by decide), kq_i K7 50 (by decide), kq_i K6 50 (by decide)]
      exact h50
    have eM : [] ++ [3] ++ f ++ [0] = 3 :: (f ++ [0]) := rfl
    rw [eM] at M2
    clear er
    have er : (ps_a s2 1152 D.length).toInt = (18 : Int) := (mpX_TKf X hi T2).2.2.2.1.trans rfl
    cases n' with
    | zero => exact pl_At_0
    | succ n' =>
    refine pl_255_207 ?_
    rw [xtn h1]
    intro _
    intro _
    refine ⟨fun z => absurd (show (ps_a _ 1152 D.length).toInt = (17 : Int) from xeq z) (by omega), fun _ => ?_⟩
    refine fm_249k X hD hi T2 h1 p1 (show (ps_a _ 1153 D.length).toInt = n1 from (mpX_TKf X hi T2).2.2.2.2.1 (of_decide_eq_true rfl)) M2 (Or.inr ⟨by decide, rfl⟩) (by decide) P2 (fun s5 P5 K5 => ?_)
    have T5 := TKf_A T2 K5
    have M5 := mk_M_kq M2 K5.1 (by decide) (by decide)
    have er5 := (kq_a T5.1 1152 (by decide))
    intro _
    clear er
    have er : (ps_a s5 1152 D.length).toInt = (18 : Int) := (mpX_TKf X hi T5).2.2.2.1.trans rfl
    refine ⟨fun _ => ?_, fun z => absurd (show (ps_a s5 1152 D.length).toInt = (10 : Int) from xeq z) (by omega)⟩
    cases n' with
    | zero => exact pl_At_0
    | succ n' =>
    refine pl_255_255 ?_
    rw [xtn h1]
    refine fm_227 (l := f) (rowF h1 hi) (by omega) ((mpX_TKf X hi (TKf_0 T5)).2.2.2.2.2.2.2.2.2.2 (of_decide_eq_true rfl)) mk_M_0 (by decide) (fun s7 M7 K7 => ?_)
    have T7 := TKf_q (TKf_0 T5) K7 (by decide) (by decide) (by decide)
    intro _
    clear er
    have er : (ps_a s7 1152 D.length).toInt = (18 : Int) := (mpX_TKf X hi T7).2.2.2.1.trans rfl
    refine ⟨fun _ => ?_, fun z => absurd (show (ps_a _ 1152 D.length).toInt = (10 : Int) from xeq z) (by omega)⟩
    refine k s7 (TKm_mk hm ?_ M7 (Or.inr wf) (by show f.length ≤ 2000; omega) (PAm_kq (PAm_0 P5) K7 (by decide) (by decide)) (by decide) (fun w => ⟨(hL w).1.symm, by rw [(hL w).2]; rfl⟩) T7)
    rw [kq_i K7 50 (by decide)]
    show (ps_i s5 1131 50).toInt = c
    rw [kq_i K5.1 50 (by decide)]
    exact h52
  refine pl_255_0 ?_
  rw [xtn h1]
  refine fm_244 (i := D.length) (m := n1) h1 e1 (by omega) (fun v1 q1 => ?_)
  intro _
  refine ⟨fun _ => ?_, fun z => absurd (show (ps_a _ 1152 D.length).toInt = (8 : Int) from xeq z) (by omega)⟩
  intro _
  refine ⟨fun _ => ?_, fun z => absurd (show (ps_a _ 1152 D.length).toInt = (9 : Int) from xeq z) (by omega)⟩
  intro _
  refine ⟨fun z => absurd (show (ps_a _ 1152 D.length).toInt = (10 : Int) from xeq z) (by omega), fun _ => ?_⟩
  refine fm_247 q1 (by omega) W1 ne1 (fun v2 c hc q2 => ⟨fun z => ?_, fun z => ?_⟩)
  · have z := xeq z
    have hh : (tq_r D n1).head? = some 0 := by
      rw [hc]
      congr 1
      have c0 : (0 : Int32).toInt = 0 := Int32.toInt_zero
      omega
    rw [if_pos hh] at hm
    exact at165 hm (fun _ => ⟨rfl, rfl⟩) b1 b2 b3 TKf_refl
  · have z := xne z
    rw [if_neg (fun w => by rw [hc] at w; cases w; exact z q2)] at hm
    refine fm_241 (z := 0) (c := 2) b1 rfl (fun s4 h50 K4 => ?_)
    exact at165 hm (fun w => by cases w) h50 (mk_M_kq b2 K4 (by decide) (by decide)) (PAm_kq b3 K4 (by decide) (by decide)) (TKf_q TKf_refl K4 (by decide) (by decide) (by decide))

end TKL

