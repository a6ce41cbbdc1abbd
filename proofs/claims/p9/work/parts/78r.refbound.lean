set_option maxRecDepth 100000
/-! the reference: general, special, exist, open, same, replace -/
-- ProofBenchModel.takesOpen(I)V
theorem pl_258_0 {n : Nat} {x1 : Int32} {s : ps_S} {Q : Option Value → ps_S → Prop} (h :
  pl_Cl n 244 [.ref 1131, .int x1] s (ps_rI (fun v1 s1 =>
    pl_Cl n 247 [.ref 1131, .int v1] s1 (ps_rI (fun v2 s2 =>
      (v2 = 5 →
        (pm_in x1 40 = true →
          pl_Cl n 223 [.ref 1131, .int v1, .int (ps_a s2 1156 (Int32.toNatClampNeg x1))] s2 (ps_rI (fun v3 s3 =>
            (v3 ≠ 0 →
              pl_At n 258 53 [(0, .ref 1131), (1, .int x1), (2, .int v1)] [] s3 Q) ∧
            (v3 = 0 →
              pl_Cl n 245 [.ref 1131, .int x1] s3 (ps_rI (fun v4 s4 =>
                (pm_in x1 40 = true →
                  pl_Cl n 223 [.ref 1131, .int v4, .int (ps_a s4 1156 (Int32.toNatClampNeg x1))] s4 (ps_rI (fun v5 s5 =>
                    (v5 = 0 →
                      pl_At n 258 58 [(0, .ref 1131), (1, .int x1), (2, .int v1)] [] s5 Q) ∧
                    (v5 ≠ 0 →
                      pl_At n 258 53 [(0, .ref 1131), (1, .int x1), (2, .int v1)] [] s5 Q))))))))))) ∧
      (v2 ≠ 5 →
        pl_Cl n 241 [.ref 1131, .int 2] s2 (ps_rV (fun s6 =>
          Q none s6)))))))) : pl_At (n + 1) 258 0 [(0, .ref 1131), (1, .int x1)] [] s Q :=
  pl_wp_at (stops := [(53, [0, 1, 2]), (58, [0, 1, 2]), (72, [0, 1, 3])]) (f := 33) h rfl

theorem pl_258_53 {n : Nat} {x1 : Int32} {x2 : Int32} {s : ps_S} {Q : Option Value → ps_S → Prop} (h :
  pl_Cl n 241 [.ref 1131, .int 3] s (ps_rV (fun s1 =>
    pl_At n 258 58 [(0, .ref 1131), (1, .int x1), (2, .int x2)] [] s1 Q))) : pl_At (n + 1) 258 53 [(0, .ref 1131), (1, .int x1), (2, .int x2)] [] s Q :=
  pl_wp_at (stops := [(53, [0, 1, 2]), (58, [0, 1, 2]), (72, [0, 1, 3])]) (f := 5) h rfl

theorem pl_258_58 {n : Nat} {x1 : Int32} {x2 : Int32} {s : ps_S} {Q : Option Value → ps_S → Prop} (h :
  (pm_in x1 40 = true →
    pl_Cl n 231 [.ref 1131, .int x2, .int (-1), .int (ps_a s 1156 (Int32.toNatClampNeg x1))] s (ps_rV (fun s1 =>
      pl_At n 258 72 [(0, .ref 1131), (1, .int x1), (3, .int 0)] [] s1 Q)))) : pl_At (n + 1) 258 58 [(0, .ref 1131), (1, .int x1), (2, .int x2)] [] s Q :=
  pl_wp_at (stops := [(53, [0, 1, 2]), (58, [0, 1, 2]), (72, [0, 1, 3])]) (f := 12) h rfl

theorem pl_258_72 {n : Nat} {x1 : Int32} {x3 : Int32} {s : ps_S} {Q : Option Value → ps_S → Prop} (h :
  (pm_in x1 40 = true →
    (pm_in (ps_a s 1154 (Int32.toNatClampNeg x1)) 41 = true →
      ((ps_a s 1157 (Int32.toNatClampNeg (ps_a s 1154 (Int32.toNatClampNeg x1)))) ≤ x3 →
        (pm_in x1 40 = true →
          pl_Cl n 249 [.ref 1131, .int x1, .int (ps_a s 1153 (Int32.toNatClampNeg x1)), .int 0] s (ps_rV (fun s1 =>
            (pm_in x1 40 = true →
              pl_Cl n 249 [.ref 1131, .int x1, .int (ps_a s1 1154 (Int32.toNatClampNeg x1)), .int 1] s1 (ps_rV (fun s2 =>
                pl_Cl n 245 [.ref 1131, .int x1] (ps_ui s2 1131 34 0) (ps_rI (fun v3 s3 =>
                  pl_Cl n 227 [.ref 1131, .int v3] s3 (ps_rV (fun s4 =>
                    Q none s4))))))))))) ∧
      (x3 < (ps_a s 1157 (Int32.toNatClampNeg (ps_a s 1154 (Int32.toNatClampNeg x1)))) →
        (pm_in x1 40 = true →
          pl_Cl n 243 [.int (ps_a s 1154 (Int32.toNatClampNeg x1)), .int x3] s (ps_rI (fun v5 s5 =>
            pl_Cl n 230 [.ref 1131, .int v5] s5 (ps_rI (fun v6 s6 =>
              (v6 ≠ 0 →
                pl_At n 258 72 [(0, .ref 1131), (1, .int x1), (3, .int (x3 + 1))] [] s6 Q) ∧
              (v6 = 0 →
                (pm_in x1 40 = true →
                  pl_Cl n 223 [.ref 1131, .int v5, .int (ps_a s6 1156 (Int32.toNatClampNeg x1))] s6 (ps_rI (fun v7 s7 =>
                    (v7 = 0 →
                      pl_At n 258 72 [(0, .ref 1131), (1, .int x1), (3, .int (x3 + 1))] [] s7 Q) ∧
                    (v7 ≠ 0 →
                      pl_Cl n 241 [.ref 1131, .int 3] s7 (ps_rV (fun s8 =>
                        pl_At n 258 72 [(0, .ref 1131), (1, .int x1), (3, .int (x3 + 1))] [] s8 Q)))))))))))))))) : pl_At (n + 1) 258 72 [(0, .ref 1131), (1, .int x1), (3, .int x3)] [] s Q :=
  pl_wp_at (stops := [(53, [0, 1, 2]), (58, [0, 1, 2]), (72, [0, 1, 3])]) (f := 64) h rfl

-- ProofBenchModel.takesBound(I)V
theorem pl_257_0 {n : Nat} {x1 : Int32} {s : ps_S} {Q : Option Value → ps_S → Prop} (h :
  pl_Cl n 244 [.ref 1131, .int x1] s (ps_rI (fun v1 s1 =>
    (pm_in x1 40 = true →
      ((ps_a s1 1152 (Int32.toNatClampNeg x1)) = 11 →
        pl_At n 257 67 [(0, .ref 1131), (1, .int x1), (2, .int v1), (5, .int 0)] [] s1 Q) ∧
      ((ps_a s1 1152 (Int32.toNatClampNeg x1)) ≠ 11 →
        ((ps_a s1 1152 (Int32.toNatClampNeg x1)) = 12 →
        pl_Cl n 247 [.ref 1131, .int v1] s1 (ps_rI (fun v2 s2 =>
          (v2 = 4 →
            pl_Cl n 231 [.ref 1131, .int v1, .int ((24108 : Int32) + ((41 : Int32) * x1)), .int (-1)] s2 (ps_rV (fun s3 =>
              pl_At n 257 281 [(0, .ref 1131), (1, .int x1)] [] s3 Q))) ∧
          (v2 ≠ 4 →
            pl_Cl n 241 [.ref 1131, .int 2] s2 (ps_rV (fun s4 =>
              pl_At n 257 281 [(0, .ref 1131), (1, .int x1)] [] s4 Q)))))) ∧
      ((ps_a s1 1152 (Int32.toNatClampNeg x1)) ≠ 12 →
        ((ps_a s1 1152 (Int32.toNatClampNeg x1)) = 13 →
        pl_Cl n 247 [.ref 1131, .int ((22468 : Int32) + ((41 : Int32) * x1))] s1 (ps_rI (fun v5 s5 =>
          (v5 ≠ 5 →
            pl_At n 257 177 [(0, .ref 1131), (1, .int x1), (2, .int v1), (4, .int ((22468 : Int32) + ((41 : Int32) * x1)))] [] s5 Q) ∧
          (v5 = 5 →
            pl_Cl n 231 [.ref 1131, .int ((22468 : Int32) + ((41 : Int32) * x1)), .int ((24108 : Int32) + ((41 : Int32) * x1)), .int (-1)] s5 (ps_rV (fun s6 =>
              pl_At n 257 177 [(0, .ref 1131), (1, .int x1), (2, .int v1), (4, .int ((22468 : Int32) + ((41 : Int32) * x1)))] [] s6 Q)))))) ∧
      ((ps_a s1 1152 (Int32.toNatClampNeg x1)) ≠ 13 →
        ((ps_a s1 1152 (Int32.toNatClampNeg x1)) = 14 →
        pl_Cl n 258 [.ref 1131, .int x1] s1 (ps_rV (fun s7 =>
          Q none s7))) ∧
      ((ps_a s1 1152 (Int32.toNatClampNeg x1)) ≠ 14 →
        ((ps_a s1 1152 (Int32.toNatClampNeg x1)) = 15 →
        pl_Cl n 225 [.ref 1131, .int 6] s1 (ps_rV (fun s8 =>
          pl_Cl n 227 [.ref 1131, .int ((24108 : Int32) + ((41 : Int32) * x1))] s8 (ps_rV (fun s9 =>
            pl_Cl n 227 [.ref 1131, .int ((24108 : Int32) + ((41 : Int32) * x1))] s9 (ps_rV (fun s10 =>
              Q none s10))))))) ∧
      ((ps_a s1 1152 (Int32.toNatClampNeg x1)) ≠ 15 →
        pl_Cl n 247 [.ref 1131, .int v1] s1 (ps_rI (fun v11 s11 =>
        (v11 = 6 →
          pl_Cl n 245 [.ref 1131, .int x1] s11 (ps_rI (fun v12 s12 =>
            pl_Cl n 260 [.ref 1131, .int v1, .int v12, .int ((22468 : Int32) + ((41 : Int32) * x1))] s12 (ps_rI (fun v13 s13 =>
              (v13 ≠ 0 →
                pl_At n 257 275 [(0, .ref 1131), (1, .int x1), (4, .int ((22468 : Int32) + ((41 : Int32) * x1)))] [] s13 Q) ∧
              (v13 = 0 →
                pl_Cl n 241 [.ref 1131, .int 4] s13 (ps_rV (fun s14 =>
                  pl_At n 257 275 [(0, .ref 1131), (1, .int x1), (4, .int ((22468 : Int32) + ((41 : Int32) * x1)))] [] s14 Q)))))))) ∧
        (v11 ≠ 6 →
          pl_Cl n 241 [.ref 1131, .int 2] s11 (ps_rV (fun s15 =>
            pl_At n 257 275 [(0, .ref 1131), (1, .int x1), (4, .int ((22468 : Int32) + ((41 : Int32) * x1)))] [] s15 Q)))))))))))))) : pl_At (n + 1) 257 0 [(0, .ref 1131), (1, .int x1)] [] s Q :=
  pl_wp_at (stops := [(67, [0, 1, 2, 5]), (177, [0, 1, 2, 4]), (195, [0, 1, 4]), (200, [0, 1, 4]), (275, [0, 1, 4]), (281, [0, 1])]) (f := 84) h rfl

theorem pl_257_67 {n : Nat} {x1 : Int32} {x2 : Int32} {x5 : Int32} {s : ps_S} {Q : Option Value → ps_S → Prop} (h :
  (pm_in x1 40 = true →
    (pm_in (ps_a s 1153 (Int32.toNatClampNeg x1)) 41 = true →
      ((ps_a s 1157 (Int32.toNatClampNeg (ps_a s 1153 (Int32.toNatClampNeg x1)))) ≤ x5 →
        (pm_in x1 40 = true →
          pl_Cl n 232 [.ref 1131, .int x2, .int (ps_a s 1156 (Int32.toNatClampNeg x1))] s (ps_rV (fun s1 =>
            pl_At n 257 281 [(0, .ref 1131), (1, .int x1)] [] s1 Q)))) ∧
      (x5 < (ps_a s 1157 (Int32.toNatClampNeg (ps_a s 1153 (Int32.toNatClampNeg x1)))) →
        (pm_in x1 40 = true →
          pl_Cl n 243 [.int (ps_a s 1153 (Int32.toNatClampNeg x1)), .int x5] s (ps_rI (fun v2 s2 =>
            (pm_in x1 40 = true →
              pl_Cl n 223 [.ref 1131, .int v2, .int (ps_a s2 1156 (Int32.toNatClampNeg x1))] s2 (ps_rI (fun v3 s3 =>
                (v3 = 0 →
                  pl_At n 257 67 [(0, .ref 1131), (1, .int x1), (2, .int x2), (5, .int (x5 + 1))] [] s3 Q) ∧
                (v3 ≠ 0 →
                  pl_Cl n 241 [.ref 1131, .int 3] s3 (ps_rV (fun s4 =>
                    pl_At n 257 67 [(0, .ref 1131), (1, .int x1), (2, .int x2), (5, .int (x5 + 1))] [] s4 Q))))))))))))) : pl_At (n + 1) 257 67 [(0, .ref 1131), (1, .int x1), (2, .int x2), (5, .int x5)] [] s Q :=
  pl_wp_at (stops := [(67, [0, 1, 2, 5]), (177, [0, 1, 2, 4]), (195, [0, 1, 4]), (200, [0, 1, 4]), (275, [0, 1, 4]), (281, [0, 1])]) (f := 39) h rfl

theorem pl_257_177 {n : Nat} {x1 : Int32} {x2 : Int32} {x4 : Int32} {s : ps_S} {Q : Option Value → ps_S → Prop} (h :
  pl_Cl n 247 [.ref 1131, .int x4] s (ps_rI (fun v1 s1 =>
    (v1 ≠ 5 →
      pl_At n 257 195 [(0, .ref 1131), (1, .int x1), (4, .int x4)] [] s1 Q) ∧
    (v1 = 5 →
      pl_Cl n 230 [.ref 1131, .int x2] s1 (ps_rI (fun v2 s2 =>
        (v2 ≠ 0 →
          pl_At n 257 200 [(0, .ref 1131), (1, .int x1), (4, .int x4)] [] s2 Q) ∧
        (v2 = 0 →
          pl_At n 257 195 [(0, .ref 1131), (1, .int x1), (4, .int x4)] [] s2 Q))))))) : pl_At (n + 1) 257 177 [(0, .ref 1131), (1, .int x1), (2, .int x2), (4, .int x4)] [] s Q :=
  pl_wp_at (stops := [(67, [0, 1, 2, 5]), (177, [0, 1, 2, 4]), (195, [0, 1, 4]), (200, [0, 1, 4]), (275, [0, 1, 4]), (281, [0, 1])]) (f := 11) h rfl

theorem pl_257_195 {n : Nat} {x1 : Int32} {x4 : Int32} {s : ps_S} {Q : Option Value → ps_S → Prop} (h :
  pl_Cl n 241 [.ref 1131, .int 4] s (ps_rV (fun s1 =>
    pl_At n 257 200 [(0, .ref 1131), (1, .int x1), (4, .int x4)] [] s1 Q))) : pl_At (n + 1) 257 195 [(0, .ref 1131), (1, .int x1), (4, .int x4)] [] s Q :=
  pl_wp_at (stops := [(67, [0, 1, 2, 5]), (177, [0, 1, 2, 4]), (195, [0, 1, 4]), (200, [0, 1, 4]), (275, [0, 1, 4]), (281, [0, 1])]) (f := 5) h rfl

theorem pl_257_200 {n : Nat} {x1 : Int32} {x4 : Int32} {s : ps_S} {Q : Option Value → ps_S → Prop} (h :
  pl_Cl n 227 [.ref 1131, .int x4] (ps_ui s 1131 34 0) (ps_rV (fun s1 =>
    pl_At n 257 281 [(0, .ref 1131), (1, .int x1)] [] s1 Q))) : pl_At (n + 1) 257 200 [(0, .ref 1131), (1, .int x1), (4, .int x4)] [] s Q :=
  pl_wp_at (stops := [(67, [0, 1, 2, 5]), (177, [0, 1, 2, 4]), (195, [0, 1, 4]), (200, [0, 1, 4]), (275, [0, 1, 4]), (281, [0, 1])]) (f := 9) h rfl

theorem pl_257_275 {n : Nat} {x1 : Int32} {x4 : Int32} {s : ps_S} {Q : Option Value → ps_S → Prop} (h :
  pl_Cl n 227 [.ref 1131, .int x4] s (ps_rV (fun s1 =>
    pl_At n 257 281 [(0, .ref 1131), (1, .int x1)] [] s1 Q))) : pl_At (n + 1) 257 275 [(0, .ref 1131), (1, .int x1), (4, .int x4)] [] s Q :=
  pl_wp_at (stops := [(67, [0, 1, 2, 5]), (177, [0, 1, 2, 4]), (195, [0, 1, 4]), (200, [0, 1, 4]), (275, [0, 1, 4]), (281, [0, 1])]) (f := 5) h rfl

theorem pl_257_281 {n : Nat} {x1 : Int32} {s : ps_S} {Q : Option Value → ps_S → Prop} (h :
  (pm_in x1 40 = true →
    pl_Cl n 249 [.ref 1131, .int x1, .int (ps_a s 1153 (Int32.toNatClampNeg x1)), .int 0] s (ps_rV (fun s1 =>
      (pm_in x1 40 = true →
        ((ps_a s1 1152 (Int32.toNatClampNeg x1)) ≠ 16 →
          Q none s1) ∧
        ((ps_a s1 1152 (Int32.toNatClampNeg x1)) = 16 →
          (pm_in x1 40 = true →
            pl_Cl n 249 [.ref 1131, .int x1, .int (ps_a s1 1154 (Int32.toNatClampNeg x1)), .int 0] s1 (ps_rV (fun s2 =>
              Q none s2))))))))) : pl_At (n + 1) 257 281 [(0, .ref 1131), (1, .int x1)] [] s Q :=
  pl_wp_at (stops := [(67, [0, 1, 2, 5]), (177, [0, 1, 2, 4]), (195, [0, 1, 4]), (200, [0, 1, 4]), (275, [0, 1, 4]), (281, [0, 1])]) (f := 26) h rfl

theorem any_ts {p : List Nat → Bool} : ∀ {l : List (List Nat)} {m : Nat} {y : List Nat}, l[m]? = some y → (l.take (m + 1)).any p = ((l.take m).any p || p y)
  | [], _, _, h => by cases h
  | a :: l, 0, y, h => by
    cases h
    exact Bool.or_comm (p a) false
  | a :: l, m + 1, y, h => by
    show (p a || (l.take (m + 1)).any p) = ((p a || (l.take m).any p) || p y)
    rw [any_ts (p := p) (l := l) (m := m) h, Bool.or_assoc]
def c3 (q : Bool) : Nat := if q = true then 3 else 0
theorem c3_or {q r : Bool} (h : r = true) : bcs (c3 q) 3 = c3 (q || r) := by
  rw [h]
  cases q <;> rfl
theorem c3_no {q r : Bool} (h : r = false) : c3 q = c3 (q || r) := by
  rw [h]
  cases q <;> rfl
theorem tq_pi_len {t : List Nat} (ht : t.length ≤ 40) : ∀ {D : List (Nat × Nat)} {l : List Nat}, (tq_pi t D l).length ≤ 40 * l.length
  | [], [] => Nat.zero_le _
  | [], _ :: _ => Nat.zero_le _
  | _ :: _, [] => Nat.zero_le _
  | d :: D, c :: l => by
    have ih := tq_pi_len ht (D := D) (l := l)
    show ((if c + 1 = 40 + d.2 then t else [c]) ++ tq_pi t D l).length ≤ _
    rw [List.length_append, List.length_cons]
    split
    · omega
    · rw [List.length_singleton]
      omega
theorem tq_in_len {ar : Nat → Nat} {l t : List Nat} (ht : t.length ≤ 40) (hl : l.length ≤ 40) : (tq_in ar l t).length ≤ 1600 := by
  have := tq_pi_len ht (D := (ly ar [(0, 0)] l).drop 1) (l := l.drop 1)
  rw [List.length_drop] at this
  unfold tq_in
  omega
theorem tq_gi_len {x : Nat} : ∀ {D : List (Nat × Nat)} {l : List Nat}, (tq_gi x D l).length ≤ l.length
  | [], _ => by
    cases ‹List Nat› <;> exact Nat.zero_le _
  | _ :: _, [] => Nat.zero_le _
  | d :: D, c :: l => by
    have ih := tq_gi_len (x := x) (D := D) (l := l)
    show (_ :: tq_gi x D l).length ≤ _
    rw [List.length_cons, List.length_cons]
    omega
theorem ws_60 {σ : mSig} (hF : σ.1.2 ≤ 4) {x : Nat} (hx : x < 12) : ws σ [60 + x] [false] := ws_c (kS_tx hF (by omega) (by omega)) (show ws σ [] [] from rfl)
section TKB
variable {b n1 n2 n3 ax x : Nat} {h : tx_H} {Θ : List tq_H} {D : List tq_R} {t f : List Nat} {x1 : Int32} {s0 : ps_S} {R : ps_S → Prop}

theorem fm_257_r21 {n : Nat} (h1 : x1.toInt = D.length) (hi : D.length < 40) (X : mpX s0 b h Θ D ((21, n1, n2, n3), (ax, x), t, f)) (B : mpB s0 D.length) (hD : tq_GD h.1 D) (hG : tp_G h.1 h.2.length ((21, n1, n2, n3), (ax, x), t, f)) (hpr : tq_pr Θ D ((21, n1, n2, n3), (ax, x), t, f)) (k : ∀ s', TKm s0 s' h Θ D ((21, n1, n2, n3), (ax, x), t, f) → R s') : pl_Cl n 257 [.ref 1131, .int x1] s0 (ps_rV R) := by
  cases n with
  | zero => exact pl_At_0
  | succ n =>
  show pl_At (n + 1) 257 0 [(0, .ref 1131), (1, .int x1)] [] s0 (ps_rV R)
  obtain ⟨b1, b2, b3⟩ := B
  have hA := arh_k (g := h.1) X.1.2.2.1.2.2.1 X.1.2.2.1.2.2.2.1
  have er : (ps_a s0 1152 D.length).toInt = (11 : Int) := X.2.2.2.1.trans rfl
  have p1 : n1 < D.length := hpr.1 (of_decide_eq_true rfl)
  have e1 : (ps_a s0 1153 D.length).toInt = n1 := X.2.2.2.2.1 (of_decide_eq_true rfl)
  obtain ⟨⟨W1, w1, ne1, l1⟩, -⟩ := mprem X hD p1
  have hx12 : x < 12 := hG.2.2.2.1 (of_decide_eq_true rfl)
  have ex : (ps_a s0 1156 D.length).toInt = x := X.2.2.2.2.2.2.2.2.1 (of_decide_eq_true rfl)
  have at281 : ∀ {n' c : Nat} {L L' : List Nat} {s4 : ps_S}, tq_mk h Θ D ((21, n1, n2, n3), (ax, x), t, f) = (c, L', [], [], []) → (ps_i s4 1131 50).toInt = c → mk_M s4 L → (L = [] ∨ ws (sg h.1) L [true]) → L.length ≤ 2000 → PAm s4 D.length [] 0 → TKf D.length s0 s4 → (c = 0 → L = L') → pl_At n' 257 281 [(0, .ref 1131), (1, .int x1)] [] s4 (ps_rV R) := fun {n' c L L' s4} hm h50 M4 hw hl P4 T4 hL => by
    cases n' with
    | zero => exact pl_At_0
    | succ n' =>
    refine pl_257_281 ?_
    rw [xtn h1]
    intro _
    refine fm_249k X hD hi T4 h1 p1 (show (ps_a _ 1153 D.length).toInt = n1 from (mpX_TKf X hi T4).2.2.2.2.1 (of_decide_eq_true rfl)) M4 (Or.inl ⟨rfl, rfl⟩) (by decide) P4 (fun s5 P5 K5 => ?_)
    have T5 := TKf_A T4 K5
    have M5 := mk_M_kq M4 K5.1 (by decide) (by decide)
    have er5 := (kq_a T5.1 1152 (by decide))
    intro _
    clear er
    have er : (ps_a s5 1152 D.length).toInt = (11 : Int) := (mpX_TKf X hi T5).2.2.2.1.trans rfl
    refine ⟨fun _ => ?_, fun z => absurd (show (ps_a _ 1152 D.length).toInt = (16 : Int) from xeq z) (by omega)⟩
    refine k s5 (TKm_mk hm ?_ M5 hw hl P5 (by decide) (fun w => ⟨hL w, rfl⟩) T5)
    rw [kq_i K5.1 50 (by decide)]
    exact h50
  have hm := tq_mk_21 (h := h) (Θ := Θ) (D := D) (n1 := n1) (n2 := n2) (n3 := n3) (ax := ax) (x := x) (t := t) (f := f)
  obtain ⟨-, hAs, -, -⟩ := mprem X hD p1
  have at67 : ∀ (n' : Nat) {m : Nat} {x5 v1 : Int32} {s1 : ps_S}, v1.toInt = (41 * n1 : Nat) → x5.toInt = m → m ≤ (tq_a D n1).length → (ps_i s1 1131 50).toInt = (c3 (((tq_a D n1).take m).any (fun y => y.contains (60 + x))) : Nat) → mk_M s1 [] → PAm s1 D.length [] 0 → TKf D.length s0 s1 → pl_At n' 257 67 [(0, .ref 1131), (1, .int x1), (2, .int v1), (5, .int x5)] [] s1 (ps_rV R) := by
    intro n'
    induction n' with
    | zero => exact fun _ _ _ _ _ _ _ => pl_At_0
    | succ n' ih =>
      intro m x5 v1 s1 q1 h5 hm5 h50 M1 P1 T1
      have X1 := mpX_TKf X hi T1
      obtain ⟨⟨W1', -⟩, a1, a2, a3⟩ := mprem X1 hD p1
      have e1' : (ps_a s1 1153 D.length).toInt = n1 := X1.2.2.2.2.1 (of_decide_eq_true rfl)
      have ex' : (ps_a s1 1156 D.length).toInt = x := X1.2.2.2.2.2.2.2.2.1 (of_decide_eq_true rfl)
      refine pl_257_67 ?_
      rw [xtn h1, xtn e1']
      intro _
      intro _
      refine ⟨fun z => ?_, fun z => ?_⟩
      · have z := xle z
        intro _
        rw [List.take_of_length_le (by omega)] at h50
        refine fm_232 (L0 := []) X1.1.1 X1.1.2.1 X1.1.2.2.1 q1 (by omega) W1' w1 M1 ex' (by omega) (by decide) (fun s2 M2 K2 => ?_)
        have T2 := TKf_q T1 K2 (by decide) (by decide) (by decide)
        have h52 : (ps_i s2 1131 50).toInt = _ := (congrArg Int32.toInt (kq_i K2 50 (by decide))).trans h50
        have lg : (tq_ge (arh h.1) (tq_r D n1) x).length ≤ 2000 := by
          have := tq_gi_len (x := x) (D := ly (arh h.1) [(0, 0)] (tq_r D n1)) (l := tq_r D n1)
          unfold tq_ge
          rw [List.length_cons]
          omega
        have hlen := ly_len hA w1 (S := [(0, 0)]) rfl
        have wg : ws (sg h.1) (tq_ge (arh h.1) (tq_r D n1) x) [true] := by
          obtain ⟨Rk, r1, r2, -⟩ := tq_at p1
          have d1 := (hD n1 Rk r1).1.2.2
          rw [← r2] at d1
          exact ws_c (kS_f1 (Or.inl rfl)) (tq_gi_ws ⟨X.1.2.2.1.2.2.1, X.1.2.2.1.2.2.2.1⟩ w1 hlen (dp_lt d1 hlen))
        by_cases hc : (tq_a D n1).any (fun y => y.contains (60 + x)) = true
        · rw [if_pos hc] at hm
          rw [hc] at h52
          exact at281 hm h52 M2 (Or.inr wg) lg (PAm_kq P1 K2 (by decide) (by decide)) T2 (fun w => by cases w)
        · rw [if_neg hc] at hm
          rw [Bool.eq_false_iff.mpr hc] at h52
          exact at281 hm h52 M2 (Or.inr wg) lg (PAm_kq P1 K2 (by decide) (by decide)) T2 (fun _ => rfl)
      · have z := xlt z
        intro _
        obtain ⟨y, hy⟩ : ∃ y, (tq_a D n1)[m]? = some y := ⟨_, List.getElem?_eq_getElem (by omega)⟩
        obtain ⟨Wy, -⟩ := a3 m y hy
        have hts := any_ts (p := fun y => y.contains (60 + x)) hy
        refine fm_243 (i := n1) (m := m) e1' (by omega) h5 (by omega) (fun v2 q2 => ?_)
        intro _
        refine fm_223c q2 (by omega) Wy ex' (by omega) (fun e => ⟨fun w => absurd w (by decide), fun _ => ?_⟩) (fun e => ⟨fun _ => ?_, fun w => absurd rfl w⟩)
        · refine fm_241 (c := 3) h50 rfl (fun s2 h52 K2 => ?_)
          refine ih (m := m + 1) q1 (xj1 h5 (by omega)) (by omega) ?_ (mk_M_kq M1 K2 (by decide) (by decide)) (PAm_kq P1 K2 (by decide) (by decide)) (TKf_q T1 K2 (by decide) (by decide) (by decide))
          rw [h52, hts, c3_or e]
        · refine ih (m := m + 1) q1 (xj1 h5 (by omega)) (by omega) ?_ M1 P1 T1
          rw [h50, hts, ← c3_no (Bool.eq_false_iff.mpr e)]
  refine pl_257_0 ?_
  rw [xtn h1]
  refine fm_244 (i := D.length) (m := n1) h1 e1 (by omega) (fun v1 q1 => ?_)
  intro _
  refine ⟨fun _ => ?_, fun z => absurd (show (ps_a _ 1152 D.length).toInt = (11 : Int) from er) (xne z)⟩
  exact at67 n (m := 0) q1 rfl (Nat.zero_le _) (by rw [List.take_zero]; exact b1) b2 b3 TKf_refl

theorem fm_257_r22 {n : Nat} (h1 : x1.toInt = D.length) (hi : D.length < 40) (X : mpX s0 b h Θ D ((22, n1, n2, n3), (ax, x), t, f)) (B : mpB s0 D.length) (hD : tq_GD h.1 D) (hG : tp_G h.1 h.2.length ((22, n1, n2, n3), (ax, x), t, f)) (hpr : tq_pr Θ D ((22, n1, n2, n3), (ax, x), t, f)) (k : ∀ s', TKm s0 s' h Θ D ((22, n1, n2, n3), (ax, x), t, f) → R s') : pl_Cl n 257 [.ref 1131, .int x1] s0 (ps_rV R) := by
  cases n with
  | zero => exact pl_At_0
  | succ n =>
  show pl_At (n + 1) 257 0 [(0, .ref 1131), (1, .int x1)] [] s0 (ps_rV R)
  obtain ⟨b1, b2, b3⟩ := B
  have hA := arh_k (g := h.1) X.1.2.2.1.2.2.1 X.1.2.2.1.2.2.2.1
  have er : (ps_a s0 1152 D.length).toInt = (12 : Int) := X.2.2.2.1.trans rfl
  have p1 : n1 < D.length := hpr.1 (of_decide_eq_true rfl)
  have e1 : (ps_a s0 1153 D.length).toInt = n1 := X.2.2.2.2.1 (of_decide_eq_true rfl)
  obtain ⟨⟨W1, w1, ne1, l1⟩, -⟩ := mprem X hD p1
  obtain ⟨wt, lt⟩ : ws (sg h.1) t [false] ∧ t.length ≤ 40 := hG.2.1 (of_decide_eq_true rfl)
  have Wt : mv_W s0 (24108 + 41 * D.length) t := X.2.2.2.2.2.2.2.2.2.1 (of_decide_eq_true rfl)
  have at281 : ∀ {n' c : Nat} {L L' : List Nat} {s4 : ps_S}, tq_mk h Θ D ((22, n1, n2, n3), (ax, x), t, f) = (c, L', [], [], []) → (ps_i s4 1131 50).toInt = c → mk_M s4 L → (L = [] ∨ ws (sg h.1) L [true]) → L.length ≤ 2000 → PAm s4 D.length [] 0 → TKf D.length s0 s4 → (c = 0 → L = L') → pl_At n' 257 281 [(0, .ref 1131), (1, .int x1)] [] s4 (ps_rV R) := fun {n' c L L' s4} hm h50 M4 hw hl P4 T4 hL => by
    cases n' with
    | zero => exact pl_At_0
    | succ n' =>
    refine pl_257_281 ?_
    rw [xtn h1]
    intro _
    refine fm_249k X hD hi T4 h1 p1 (show (ps_a _ 1153 D.length).toInt = n1 from (mpX_TKf X hi T4).2.2.2.2.1 (of_decide_eq_true rfl)) M4 (Or.inl ⟨rfl, rfl⟩) (by decide) P4 (fun s5 P5 K5 => ?_)
    have T5 := TKf_A T4 K5
    have M5 := mk_M_kq M4 K5.1 (by decide) (by decide)
    have er5 := (kq_a T5.1 1152 (by decide))
    intro _
    clear er
    have er : (ps_a s5 1152 D.length).toInt = (12 : Int) := (mpX_TKf X hi T5).2.2.2.1.trans rfl
    refine ⟨fun _ => ?_, fun z => absurd (show (ps_a _ 1152 D.length).toInt = (16 : Int) from xeq z) (by omega)⟩
    refine k s5 (TKm_mk hm ?_ M5 hw hl P5 (by decide) (fun w => ⟨hL w, rfl⟩) T5)
    rw [kq_i K5.1 50 (by decide)]
    exact h50
  have hm := tq_mk_22 (h := h) (Θ := Θ) (D := D) (n1 := n1) (n2 := n2) (n3 := n3) (ax := ax) (x := x) (t := t) (f := f)
  refine pl_257_0 ?_
  rw [xtn h1]
  refine fm_244 (i := D.length) (m := n1) h1 e1 (by omega) (fun v1 q1 => ?_)
  intro _
  refine ⟨fun z => absurd (show (ps_a _ 1152 D.length).toInt = (11 : Int) from xeq z) (by omega), fun _ => ?_⟩
  refine ⟨fun _ => ?_, fun z => absurd (show (ps_a _ 1152 D.length).toInt = (12 : Int) from er) (xne z)⟩
  refine fm_247 q1 (by omega) W1 ne1 (fun v2 c hc q2 => ⟨fun z => ?_, fun z => ?_⟩)
  · have z : v2.toInt = (4 : Int) := xeq z
    have hh : (tq_r D n1).head? = some 4 := by rw [hc]; congr 1; omega
    rw [if_pos hh] at hm
    refine fm_231 (L0 := []) (tt := t) X.1.1 X.1.2.1 X.1.2.2.1 q1 (by omega) W1 w1 (Or.inl hh) b2 ⟨Nat.zero_le _, lt, Or.inr ⟨_, rowT h1 hi, by omega, Wt⟩⟩ (fun s2 M2 K2 => ?_)
    exact at281 hm (by rw [kq_i K2 50 (by decide)]; exact b1) M2 (Or.inr (tq_in_ws ⟨X.1.2.2.1.2.2.1, X.1.2.2.1.2.2.2.1⟩ hA w1 (Or.inl hh) wt)) (by have := tq_in_len (ar := arh h.1) lt l1; show (tq_in (arh h.1) (tq_r D n1) t).length ≤ 2000; omega) (PAm_kq b3 K2 (by decide) (by decide)) (TKf_q TKf_refl K2 (by decide) (by decide) (by decide)) (fun _ => rfl)
  · have z : v2.toInt ≠ (4 : Int) := xne z
    rw [if_neg (fun w => by rw [hc] at w; cases w; exact z q2)] at hm
    refine fm_241 (z := 0) (c := 2) b1 rfl (fun s4 h50 K4 => ?_)
    exact at281 hm h50 (mk_M_kq b2 K4 (by decide) (by decide)) (Or.inl rfl) (Nat.zero_le _) (PAm_kq b3 K4 (by decide) (by decide)) (TKf_q TKf_refl K4 (by decide) (by decide) (by decide)) (fun w => by cases w)

theorem fm_257_r23 {n : Nat} (h1 : x1.toInt = D.length) (hi : D.length < 40) (X : mpX s0 b h Θ D ((23, n1, n2, n3), (ax, x), t, f)) (B : mpB s0 D.length) (hD : tq_GD h.1 D) (hG : tp_G h.1 h.2.length ((23, n1, n2, n3), (ax, x), t, f)) (hpr : tq_pr Θ D ((23, n1, n2, n3), (ax, x), t, f)) (k : ∀ s', TKm s0 s' h Θ D ((23, n1, n2, n3), (ax, x), t, f) → R s') : pl_Cl n 257 [.ref 1131, .int x1] s0 (ps_rV R) := by
  cases n with
  | zero => exact pl_At_0
  | succ n =>
  show pl_At (n + 1) 257 0 [(0, .ref 1131), (1, .int x1)] [] s0 (ps_rV R)
  obtain ⟨b1, b2, b3⟩ := B
  have hA := arh_k (g := h.1) X.1.2.2.1.2.2.1 X.1.2.2.1.2.2.2.1
  have er : (ps_a s0 1152 D.length).toInt = (13 : Int) := X.2.2.2.1.trans rfl
  have p1 : n1 < D.length := hpr.1 (of_decide_eq_true rfl)
  have e1 : (ps_a s0 1153 D.length).toInt = n1 := X.2.2.2.2.1 (of_decide_eq_true rfl)
  obtain ⟨⟨W1, w1, ne1, l1⟩, -⟩ := mprem X hD p1
  obtain ⟨wt, lt⟩ : ws (sg h.1) t [false] ∧ t.length ≤ 40 := hG.2.1 (of_decide_eq_true rfl)
  have Wt : mv_W s0 (24108 + 41 * D.length) t := X.2.2.2.2.2.2.2.2.2.1 (of_decide_eq_true rfl)
  obtain ⟨wf, lf⟩ : ws (sg h.1) f [true] ∧ f.length ≤ 40 := hG.2.2.1 (of_decide_eq_true rfl)
  have Wf : mv_W s0 (22468 + 41 * D.length) f := X.2.2.2.2.2.2.2.2.2.2 (of_decide_eq_true rfl)
  have at281 : ∀ {n' c : Nat} {L L' : List Nat} {s4 : ps_S}, tq_mk h Θ D ((23, n1, n2, n3), (ax, x), t, f) = (c, L', [], [], []) → (ps_i s4 1131 50).toInt = c → mk_M s4 L → (L = [] ∨ ws (sg h.1) L [true]) → L.length ≤ 2000 → PAm s4 D.length [] 0 → TKf D.length s0 s4 → (c = 0 → L = L') → pl_At n' 257 281 [(0, .ref 1131), (1, .int x1)] [] s4 (ps_rV R) := fun {n' c L L' s4} hm h50 M4 hw hl P4 T4 hL => by
    cases n' with
    | zero => exact pl_At_0
    | succ n' =>
    refine pl_257_281 ?_
    rw [xtn h1]
    intro _
    refine fm_249k X hD hi T4 h1 p1 (show (ps_a _ 1153 D.length).toInt = n1 from (mpX_TKf X hi T4).2.2.2.2.1 (of_decide_eq_true rfl)) M4 (Or.inl ⟨rfl, rfl⟩) (by decide) P4 (fun s5 P5 K5 => ?_)
    have T5 := TKf_A T4 K5
    have M5 := mk_M_kq M4 K5.1 (by decide) (by decide)
    have er5 := (kq_a T5.1 1152 (by decide))
    intro _
    clear er
    have er : (ps_a s5 1152 D.length).toInt = (13 : Int) := (mpX_TKf X hi T5).2.2.2.1.trans rfl
    refine ⟨fun _ => ?_, fun z => absurd (show (ps_a _ 1152 D.length).toInt = (16 : Int) from xeq z) (by omega)⟩
    refine k s5 (TKm_mk hm ?_ M5 hw hl P5 (by decide) (fun w => ⟨hL w, rfl⟩) T5)
    rw [kq_i K5.1 50 (by decide)]
    exact h50
  have hm := tq_mk_23 (h := h) (Θ := Θ) (D := D) (n1 := n1) (n2 := n2) (n3 := n3) (ax := ax) (x := x) (t := t) (f := f)
  have nef : f ≠ [] := fun z => by
    obtain ⟨c, l, e⟩ := ws_ne wf
    rw [z] at e
    cases e
  have at200 : ∀ {n' c : Nat} {L' L : List Nat} {s1 : ps_S}, tq_mk h Θ D ((23, n1, n2, n3), (ax, x), t, f) = (c, L', [], [], []) → (c = 0 → f = L') → (ps_i s1 1131 50).toInt = c → PAm s1 D.length [] 0 → TKf D.length s0 s1 → pl_At n' 257 200 [(0, .ref 1131), (1, .int x1), (4, .int ((22468 : Int32) + ((41 : Int32) * x1)))] [] s1 (ps_rV R) := fun {n' c L' L s1} hm hL h50 P1 T1 => by
    cases n' with
    | zero => exact pl_At_0
    | succ n' =>
    refine pl_257_200 (fm_227 (l := f) (rowF h1 hi) (by omega) ((mpX_TKf X hi (TKf_0 T1)).2.2.2.2.2.2.2.2.2.2 (of_decide_eq_true rfl)) mk_M_0 (by decide) (fun s2 M2 K2 => ?_))
    exact at281 hm (by rw [kq_i K2 50 (by decide)]; exact h50) M2 (Or.inr wf) (by show f.length ≤ 2000; omega) (PAm_kq (PAm_0 P1) K2 (by decide) (by decide)) (TKf_q (TKf_0 T1) K2 (by decide) (by decide) (by decide)) hL
  have at195 : tq_mk h Θ D ((23, n1, n2, n3), (ax, x), t, f) = (4, [], [], [], []) → ∀ {n' : Nat} {s1 : ps_S}, (ps_i s1 1131 50).toInt = (0 : Nat) → PAm s1 D.length [] 0 → TKf D.length s0 s1 → pl_At n' 257 195 [(0, .ref 1131), (1, .int x1), (4, .int ((22468 : Int32) + ((41 : Int32) * x1)))] [] s1 (ps_rV R) := fun hm {n' s1} h50 P1 T1 => by
    cases n' with
    | zero => exact pl_At_0
    | succ n' =>
    refine pl_257_195 (fm_241 (z := 0) (c := 4) h50 rfl (fun s4 h54 K4 => ?_))
    exact at200 (L := []) hm (fun w => by cases w) h54 (PAm_kq P1 K4 (by decide) (by decide)) (TKf_q T1 K4 (by decide) (by decide) (by decide))
  refine pl_257_0 ?_
  rw [xtn h1]
  refine fm_244 (i := D.length) (m := n1) h1 e1 (by omega) (fun v1 q1 => ?_)
  intro _
  refine ⟨fun z => absurd (show (ps_a _ 1152 D.length).toInt = (11 : Int) from xeq z) (by omega), fun _ => ?_⟩
  refine ⟨fun z => absurd (show (ps_a _ 1152 D.length).toInt = (12 : Int) from xeq z) (by omega), fun _ => ?_⟩
  refine ⟨fun _ => ?_, fun z => absurd (show (ps_a _ 1152 D.length).toInt = (13 : Int) from er) (xne z)⟩
  refine fm_247 (rowF h1 hi) (by omega) Wf nef (fun v2 c hc q2 => ⟨fun z => ?_, fun z => ?_⟩)
  · have z : v2.toInt ≠ (5 : Int) := xne z
    rw [if_neg (fun w => by rw [hc] at w; cases w.1; exact z q2)] at hm
    cases n with
    | zero => exact pl_At_0
    | succ n =>
    refine pl_257_177 (fm_247 (rowF h1 hi) (by omega) Wf nef (fun v3 c' hc' q3 => ⟨fun _ => at195 hm b1 b3 TKf_refl, fun z2 => ?_⟩))
    have z2 : v3.toInt = (5 : Int) := xeq z2
    rw [hc] at hc'
    cases hc'
    omega
  · have z : v2.toInt = (5 : Int) := xeq z
    have hh : f.head? = some 5 := by rw [hc]; congr 1; omega
    refine fm_231 (L0 := []) (tt := t) X.1.1 X.1.2.1 X.1.2.2.1 (rowF h1 hi) (by omega) Wf wf (Or.inr hh) b2 ⟨Nat.zero_le _, lt, Or.inr ⟨_, rowT h1 hi, by omega, Wt⟩⟩ (fun s2 M2 K2 => ?_)
    have T2 : TKf D.length s0 s2 := TKf_q TKf_refl K2 (by decide) (by decide) (by decide)
    have X2 := mpX_TKf X hi T2
    have P2 := PAm_kq b3 K2 (by decide) (by decide)
    have h52 : (ps_i s2 1131 50).toInt = (0 : Nat) := by rw [kq_i K2 50 (by decide)]; exact b1
    cases n with
    | zero => exact pl_At_0
    | succ n =>
    refine pl_257_177 (fm_247 (rowF h1 hi) (by omega) (X2.2.2.2.2.2.2.2.2.2.2 (of_decide_eq_true rfl)) nef (fun v3 c' hc' q3 => ⟨fun z2 => ?_, fun z2 => ?_⟩))
    · have z2 : v3.toInt ≠ (5 : Int) := xne z2
      have hc' : f.head? = some c' := hc'
      rw [hc] at hc'
      cases hc'
      omega
    · refine fm_230 q1 (by omega) (mprem X2 hD p1).1.1 M2 (fun e => ⟨fun _ => ?_, fun w => absurd w (by decide)⟩) (fun e => ⟨fun w => absurd rfl w, fun _ => ?_⟩)
      · rw [if_pos ⟨hh, e.symm⟩] at hm
        exact at200 (L := []) hm (fun _ => rfl) h52 P2 T2
      · rw [if_neg (fun w => e w.2.symm)] at hm
        exact at195 hm h52 P2 T2

theorem fm_257_r6 {n : Nat} (h1 : x1.toInt = D.length) (hi : D.length < 40) (X : mpX s0 b h Θ D ((6, n1, n2, n3), (ax, x), t, f)) (B : mpB s0 D.length) (hD : tq_GD h.1 D) (hG : tp_G h.1 h.2.length ((6, n1, n2, n3), (ax, x), t, f)) (hpr : tq_pr Θ D ((6, n1, n2, n3), (ax, x), t, f)) (k : ∀ s', TKm s0 s' h Θ D ((6, n1, n2, n3), (ax, x), t, f) → R s') : pl_Cl n 257 [.ref 1131, .int x1] s0 (ps_rV R) := by
  cases n with
  | zero => exact pl_At_0
  | succ n =>
  show pl_At (n + 1) 257 0 [(0, .ref 1131), (1, .int x1)] [] s0 (ps_rV R)
  obtain ⟨b1, b2, b3⟩ := B
  have hA := arh_k (g := h.1) X.1.2.2.1.2.2.1 X.1.2.2.1.2.2.2.1
  have er : (ps_a s0 1152 D.length).toInt = (15 : Int) := X.2.2.2.1.trans rfl
  obtain ⟨wt, lt⟩ : ws (sg h.1) t [false] ∧ t.length ≤ 40 := hG.2.1 (of_decide_eq_true rfl)
  have Wt : mv_W s0 (24108 + 41 * D.length) t := X.2.2.2.2.2.2.2.2.2.1 (of_decide_eq_true rfl)
  refine pl_257_0 ?_
  rw [xtn h1]
  refine fm_244o (i := D.length) (fun v1 => ?_)
  intro _
  refine ⟨fun z => absurd (show (ps_a _ 1152 D.length).toInt = (11 : Int) from xeq z) (by omega), fun _ => ?_⟩
  refine ⟨fun z => absurd (show (ps_a _ 1152 D.length).toInt = (12 : Int) from xeq z) (by omega), fun _ => ?_⟩
  refine ⟨fun z => absurd (show (ps_a _ 1152 D.length).toInt = (13 : Int) from xeq z) (by omega), fun _ => ?_⟩
  refine ⟨fun z => absurd (show (ps_a _ 1152 D.length).toInt = (14 : Int) from xeq z) (by omega), fun _ => ?_⟩
  refine ⟨fun _ => ?_, fun z => absurd (show (ps_a _ 1152 D.length).toInt = (15 : Int) from er) (xne z)⟩
  refine fm_225 (c := 6) b2 rfl (by decide) (fun s2 M2 K2 => ?_)
  refine fm_227 (l := t) (rowT h1 hi) (by omega) (mv_W_kq Wt K2 (by decide)) M2 (by decide) (fun s3 M3 K3 => ?_)
  refine fm_227 (l := t) (rowT h1 hi) (by omega) (mv_W_kq (mv_W_kq Wt K2 (by decide)) K3 (by decide)) M3 (by rw [List.length_append]; show 1 + t.length < 50000; omega) (fun s4 M4 K4 => ?_)
  refine k s4 (TKm_mk tq_mk_6 ?_ M4 (Or.inr ?_) ?_ (PAm_kq (PAm_kq (PAm_kq b3 K2 (by decide) (by decide)) K3 (by decide) (by decide)) K4 (by decide) (by decide)) (by decide) (fun _ => ⟨?_, rfl⟩) (TKf_q (TKf_q (TKf_q TKf_refl K2 (by decide) (by decide) (by decide)) K3 (by decide) (by decide) (by decide)) K4 (by decide) (by decide) (by decide)))
  · rw [kq_i K4 50 (by decide), kq_i K3 50 (by decide), kq_i K2 50 (by decide)]
    exact b1
  · show ws (sg h.1) (6 :: (t ++ t)) [true]
    exact ws_c kS_f6 (ws_app (W1 := [false]) wt wt)
  · show (6 :: (t ++ t)).length ≤ 2000
    rw [List.length_cons, List.length_append]
    omega
  · rfl

theorem fm_257_r25 {n : Nat} (h1 : x1.toInt = D.length) (hi : D.length < 40) (X : mpX s0 b h Θ D ((25, n1, n2, n3), (ax, x), t, f)) (B : mpB s0 D.length) (hD : tq_GD h.1 D) (hG : tp_G h.1 h.2.length ((25, n1, n2, n3), (ax, x), t, f)) (hpr : tq_pr Θ D ((25, n1, n2, n3), (ax, x), t, f)) (k : ∀ s', TKm s0 s' h Θ D ((25, n1, n2, n3), (ax, x), t, f) → R s') : pl_Cl n 257 [.ref 1131, .int x1] s0 (ps_rV R) := by
  cases n with
  | zero => exact pl_At_0
  | succ n =>
  show pl_At (n + 1) 257 0 [(0, .ref 1131), (1, .int x1)] [] s0 (ps_rV R)
  obtain ⟨b1, b2, b3⟩ := B
  have hA := arh_k (g := h.1) X.1.2.2.1.2.2.1 X.1.2.2.1.2.2.2.1
  have er : (ps_a s0 1152 D.length).toInt = (16 : Int) := X.2.2.2.1.trans rfl
  have p1 : n1 < D.length := hpr.1 (of_decide_eq_true rfl)
  have e1 : (ps_a s0 1153 D.length).toInt = n1 := X.2.2.2.2.1 (of_decide_eq_true rfl)
  obtain ⟨⟨W1, w1, ne1, l1⟩, -⟩ := mprem X hD p1
  have p2 : n2 < D.length := hpr.2.1 (of_decide_eq_true rfl)
  have e2 : (ps_a s0 1154 D.length).toInt = n2 := X.2.2.2.2.2.1 (of_decide_eq_true rfl)
  obtain ⟨⟨W2, w2, ne2, l2⟩, -⟩ := mprem X hD p2
  obtain ⟨wf, lf⟩ : ws (sg h.1) f [true] ∧ f.length ≤ 40 := hG.2.2.1 (of_decide_eq_true rfl)
  have Wf : mv_W s0 (22468 + 41 * D.length) f := X.2.2.2.2.2.2.2.2.2.2 (of_decide_eq_true rfl)
  have at281 : ∀ {n' c : Nat} {L L' : List Nat} {s4 : ps_S}, tq_mk h Θ D ((25, n1, n2, n3), (ax, x), t, f) = (c, L', [], [], []) → (ps_i s4 1131 50).toInt = c → mk_M s4 L → (L = [] ∨ ws (sg h.1) L [true]) → L.length ≤ 2000 → PAm s4 D.length [] 0 → TKf D.length s0 s4 → (c = 0 → L = L') → pl_At n' 257 281 [(0, .ref 1131), (1, .int x1)] [] s4 (ps_rV R) := fun {n' c L L' s4} hm h50 M4 hw hl P4 T4 hL => by
    cases n' with
    | zero => exact pl_At_0
    | succ n' =>
    refine pl_257_281 ?_
    rw [xtn h1]
    intro _
    refine fm_249k X hD hi T4 h1 p1 (show (ps_a _ 1153 D.length).toInt = n1 from (mpX_TKf X hi T4).2.2.2.2.1 (of_decide_eq_true rfl)) M4 (Or.inl ⟨rfl, rfl⟩) (by decide) P4 (fun s5 P5 K5 => ?_)
    have T5 := TKf_A T4 K5
    have M5 := mk_M_kq M4 K5.1 (by decide) (by decide)
    have er5 := (kq_a T5.1 1152 (by decide))
    intro _
    clear er
    have er : (ps_a s5 1152 D.length).toInt = (16 : Int) := (mpX_TKf X hi T5).2.2.2.1.trans rfl
    refine ⟨fun z => absurd (show (ps_a _ 1152 D.length).toInt = (16 : Int) from er) (xne z), fun _ => ?_⟩
    intro _
    refine fm_249k X hD hi T5 h1 p2 (show (ps_a _ 1154 D.length).toInt = n2 from (mpX_TKf X hi T5).2.2.2.2.2.1 (of_decide_eq_true rfl)) M5 (Or.inl ⟨rfl, rfl⟩) (by decide) P5 (fun s6 P6 K6 => ?_)
    have T6 := TKf_A T5 K6
    have M6 := mk_M_kq M5 K6.1 (by decide) (by decide)
    have er6 := (kq_a T6.1 1152 (by decide))
    refine k s6 (TKm_mk hm ?_ M6 hw hl P6 (by decide) (fun w => ⟨hL w, rfl⟩) T6)
    rw [kq_i K6.1 50 (by decide), kq_i K5.1 50 (by decide)]
    exact h50
  have hm := tq_mk_25 (h := h) (Θ := Θ) (D := D) (n1 := n1) (n2 := n2) (n3 := n3) (ax := ax) (x := x) (t := t) (f := f)
  have at275 : ∀ {n' c : Nat} {L' : List Nat} {s1 : ps_S}, tq_mk h Θ D ((25, n1, n2, n3), (ax, x), t, f) = (c, L', [], [], []) → (c = 0 → f = L') → (ps_i s1 1131 50).toInt = c → mk_M s1 [] → PAm s1 D.length [] 0 → TKf D.length s0 s1 → pl_At n' 257 275 [(0, .ref 1131), (1, .int x1), (4, .int ((22468 : Int32) + ((41 : Int32) * x1)))] [] s1 (ps_rV R) := fun {n' c L' s1} hm hL h50 M1 P1 T1 => by
    cases n' with
    | zero => exact pl_At_0
    | succ n' =>
    refine pl_257_275 (fm_227 (l := f) (rowF h1 hi) (by omega) ((mpX_TKf X hi T1).2.2.2.2.2.2.2.2.2.2 (of_decide_eq_true rfl)) M1 (by decide) (fun s2 M2 K2 => ?_))
    exact at281 hm (by rw [kq_i K2 50 (by decide)]; exact h50) M2 (Or.inr wf) (by show f.length ≤ 2000; omega) (PAm_kq P1 K2 (by decide) (by decide)) (TKf_q T1 K2 (by decide) (by decide) (by decide)) hL
  refine pl_257_0 ?_
  rw [xtn h1]
  refine fm_244 (i := D.length) (m := n1) h1 e1 (by omega) (fun v1 q1 => ?_)
  intro _
  refine ⟨fun z => absurd (show (ps_a _ 1152 D.length).toInt = (11 : Int) from xeq z) (by omega), fun _ => ?_⟩
  refine ⟨fun z => absurd (show (ps_a _ 1152 D.length).toInt = (12 : Int) from xeq z) (by omega), fun _ => ?_⟩
  refine ⟨fun z => absurd (show (ps_a _ 1152 D.length).toInt = (13 : Int) from xeq z) (by omega), fun _ => ?_⟩
  refine ⟨fun z => absurd (show (ps_a _ 1152 D.length).toInt = (14 : Int) from xeq z) (by omega), fun _ => ?_⟩
  refine ⟨fun z => absurd (show (ps_a _ 1152 D.length).toInt = (15 : Int) from xeq z) (by omega), fun _ => ?_⟩
  refine fm_247 q1 (by omega) W1 ne1 (fun v2 c hc q2 => ⟨fun z => ?_, fun z => ?_⟩)
  · have z : v2.toInt = (6 : Int) := xeq z
    have hh : (tq_r D n1).head? = some 6 := by rw [hc]; congr 1; omega
    rw [if_pos hh] at hm
    obtain ⟨g1, g2, g3, g4⟩ := tq_half hA w1 hh (b0 := false) kS_f6
    have Wa : mv_W s0 (41 * n1) (6 :: (tq_1 (arh h.1) (tq_r D n1) ++ tq_2 (arh h.1) (tq_r D n1))) := by
      rw [← g4]
      exact W1
    refine fm_245 (i := D.length) (m := n2) h1 e2 (by omega) (fun v3 q3 => ?_)
    refine fm_260 X.1.1 X.1.2.1 X.1.2.2.1 g1 g2 q1 (by omega) Wa q3 (by omega) W2 (rowF h1 hi) (by omega) Wf (fun e => ⟨fun _ => ?_, fun w => absurd w (by decide)⟩) (fun e => ⟨fun w => absurd rfl w, fun _ => ?_⟩)
    · rw [if_pos e] at hm
      exact at275 hm (fun _ => rfl) b1 b2 b3 TKf_refl
    · rw [if_neg e] at hm
      refine fm_241 (z := 0) (c := 4) b1 rfl (fun s4 h50 K4 => ?_)
      exact at275 hm (fun w => by cases w) h50 (mk_M_kq b2 K4 (by decide) (by decide)) (PAm_kq b3 K4 (by decide) (by decide)) (TKf_q TKf_refl K4 (by decide) (by decide) (by decide))
  · have z : v2.toInt ≠ (6 : Int) := xne z
    rw [if_neg (fun w => by rw [hc] at w; cases w; exact z q2)] at hm
    refine fm_241 (z := 0) (c := 2) b1 rfl (fun s4 h50 K4 => ?_)
    exact at275 hm (fun w => by cases w) h50 (mk_M_kq b2 K4 (by decide) (by decide)) (PAm_kq b3 K4 (by decide) (by decide)) (TKf_q TKf_refl K4 (by decide) (by decide) (by decide))

theorem fm_258_r24 {n : Nat} (h1 : x1.toInt = D.length) (hi : D.length < 40) (X : mpX s0 b h Θ D ((24, n1, n2, n3), (ax, x), t, f)) (B : mpB s0 D.length) (hD : tq_GD h.1 D) (hG : tp_G h.1 h.2.length ((24, n1, n2, n3), (ax, x), t, f)) (hpr : tq_pr Θ D ((24, n1, n2, n3), (ax, x), t, f)) (k : ∀ s', TKm s0 s' h Θ D ((24, n1, n2, n3), (ax, x), t, f) → R s') : pl_Cl n 258 [.ref 1131, .int x1] s0 (ps_rV R) := by
  cases n with
  | zero => exact pl_At_0
  | succ n =>
  show pl_At (n + 1) 258 0 [(0, .ref 1131), (1, .int x1)] [] s0 (ps_rV R)
  obtain ⟨b1, b2, b3⟩ := B
  have hA := arh_k (g := h.1) X.1.2.2.1.2.2.1 X.1.2.2.1.2.2.2.1
  have er : (ps_a s0 1152 D.length).toInt = (14 : Int) := X.2.2.2.1.trans rfl
  have p1 : n1 < D.length := hpr.1 (of_decide_eq_true rfl)
  have e1 : (ps_a s0 1153 D.length).toInt = n1 := X.2.2.2.2.1 (of_decide_eq_true rfl)
  obtain ⟨⟨W1, w1, ne1, l1⟩, -⟩ := mprem X hD p1
  have p2 : n2 < D.length := hpr.2.1 (of_decide_eq_true rfl)
  have e2 : (ps_a s0 1154 D.length).toInt = n2 := X.2.2.2.2.2.1 (of_decide_eq_true rfl)
  obtain ⟨⟨W2, w2, ne2, l2⟩, -⟩ := mprem X hD p2
  have hx12 : x < 12 := hG.2.2.2.1 (of_decide_eq_true rfl)
  have ex : (ps_a s0 1156 D.length).toInt = x := X.2.2.2.2.2.2.2.2.1 (of_decide_eq_true rfl)
  have hm := tq_mk_24 (h := h) (Θ := Θ) (D := D) (n1 := n1) (n2 := n2) (n3 := n3) (ax := ax) (x := x) (t := t) (f := f)
  have wx : ws (sg h.1) [60 + x] [false] := ws_60 X.1.2.2.1.2.2.2.1 hx12
  have at72 : (tq_r D n1).head? = some 5 → ∀ (n' : Nat) {m : Nat} {x3 : Int32} {s1 : ps_S}, x3.toInt = m → m ≤ (tq_a D n2).length → (ps_i s1 1131 50).toInt = (c3 (((tq_r D n1).contains (60 + x) || (tq_r D n2).contains (60 + x)) || ((tq_a D n2).take m).any (fun y => !decide (y = tq_in (arh h.1) (tq_r D n1) [60 + x]) && y.contains (60 + x))) : Nat) → mk_M s1 (tq_in (arh h.1) (tq_r D n1) [60 + x]) → PAm s1 D.length [] 0 → TKf D.length s0 s1 → pl_At n' 258 72 [(0, .ref 1131), (1, .int x1), (3, .int x3)] [] s1 (ps_rV R) := by
    intro hh n'
    rw [if_pos hh] at hm
    induction n' with
    | zero => exact fun _ _ _ _ _ _ => pl_At_0
    | succ n' ih =>
      intro m x3 s1 h5 hm5 h50 M1 P1 T1
      have X1 := mpX_TKf X hi T1
      obtain ⟨⟨W2', -⟩, a1, a2, a3⟩ := mprem X1 hD p2
      have e2' : (ps_a s1 1154 D.length).toInt = n2 := X1.2.2.2.2.2.1 (of_decide_eq_true rfl)
      have ex' : (ps_a s1 1156 D.length).toInt = x := X1.2.2.2.2.2.2.2.2.1 (of_decide_eq_true rfl)
      refine pl_258_72 ?_
      rw [xtn h1, xtn e2']
      intro _
      intro _
      refine ⟨fun z => ?_, fun z => ?_⟩
      · have z := xle z
        intro _
        rw [List.take_of_length_le (by omega)] at h50
        refine fm_249k X hD hi T1 h1 p1 (show (ps_a _ 1153 D.length).toInt = n1 from (mpX_TKf X hi T1).2.2.2.2.1 (of_decide_eq_true rfl)) M1 (Or.inl ⟨rfl, rfl⟩) (by decide) P1 (fun s2 P2 K2 => ?_)
        have T2 := TKf_A T1 K2
        have M2 := mk_M_kq M1 K2.1 (by decide) (by decide)
        have er2 := (kq_a T2.1 1152 (by decide))
        intro _
        refine fm_249k X hD hi T2 h1 p2 (show (ps_a _ 1154 D.length).toInt = n2 from (mpX_TKf X hi T2).2.2.2.2.2.1 (of_decide_eq_true rfl)) M2 (Or.inr ⟨by decide, rfl⟩) (by decide) P2 (fun s3 P3 K3 => ?_)
        have T3 := TKf_A T2 K3
        have M3 := mk_M_kq M2 K3.1 (by decide) (by decide)
        have er3 := (kq_a T3.1 1152 (by decide))
        have X3 := mpX_TKf X hi (TKf_0 T3)
        refine fm_245 (i := D.length) (m := n2) h1 (X3.2.2.2.2.2.1 (of_decide_eq_true rfl)) (by omega) (fun v8 q8 => ?_)
        refine fm_227 (l := tq_r D n2) q8 (by omega) (mprem X3 hD p2).1.1 mk_M_0 (by decide) (fun s9 M9 K9 => ?_)
        have h9 : ps_i s9 1131 50 = ps_i s1 1131 50 := by
          rw [kq_i K9 50 (by decide)]
          show ps_i s3 1131 50 = _
          rw [kq_i K3.1 50 (by decide), kq_i K2.1 50 (by decide)]
        rw [← h9] at h50
        by_cases hc : (tq_r D n1).contains (60 + x) = true ∨ (tq_r D n2).contains (60 + x) = true ∨ (tq_a D n2).any (fun y => !decide (y = tq_in (arh h.1) (tq_r D n1) [60 + x]) && y.contains (60 + x)) = true
        · rw [if_pos hc] at hm
          have e : (((tq_r D n1).contains (60 + x) || (tq_r D n2).contains (60 + x)) || (tq_a D n2).any (fun y => !decide (y = tq_in (arh h.1) (tq_r D n1) [60 + x]) && y.contains (60 + x))) = true := by
            rcases hc with hc | hc | hc
            · rw [hc]
              rfl
            · rw [hc, Bool.or_true]
              rfl
            · rw [hc, Bool.or_true]
          rw [e] at h50
          exact k s9 (TKm_mk hm h50 M9 (Or.inr w2) (by show (tq_r D n2).length ≤ 2000; omega) (PAm_kq (PAm_0 P3) K9 (by decide) (by decide)) (by decide) (fun w => by cases w) (TKf_q (TKf_0 T3) K9 (by decide) (by decide) (by decide)))
        · rw [if_neg hc] at hm
          have e : (((tq_r D n1).contains (60 + x) || (tq_r D n2).contains (60 + x)) || (tq_a D n2).any (fun y => !decide (y = tq_in (arh h.1) (tq_r D n1) [60 + x]) && y.contains (60 + x))) = false := by
            rw [Bool.eq_false_iff.mpr (fun w => hc (Or.inl w)), Bool.eq_false_iff.mpr (fun w => hc (Or.inr (Or.inl w))), Bool.eq_false_iff.mpr (fun w => hc (Or.inr (Or.inr w)))]
            rfl
          rw [e] at h50
          exact k s9 (TKm_mk hm h50 M9 (Or.inr w2) (by show (tq_r D n2).length ≤ 2000; omega) (PAm_kq (PAm_0 P3) K9 (by decide) (by decide)) (by decide) (fun _ => ⟨rfl, rfl⟩) (TKf_q (TKf_0 T3) K9 (by decide) (by decide) (by decide)))
      · have z := xlt z
        intro _
        obtain ⟨y, hy⟩ : ∃ y, (tq_a D n2)[m]? = some y := ⟨_, List.getElem?_eq_getElem (by omega)⟩
        obtain ⟨Wy, -⟩ := a3 m y hy
        have hts := any_ts (p := (fun y => !decide (y = tq_in (arh h.1) (tq_r D n1) [60 + x]) && y.contains (60 + x))) hy
        refine fm_243 (i := n2) (m := m) e2' (by omega) h5 (by omega) (fun v2 q2 => ?_)
        refine fm_230 q2 (by omega) Wy M1 (fun e => ⟨fun _ => ?_, fun w => absurd w (by decide)⟩) (fun e => ⟨fun w => absurd rfl w, fun _ => ?_⟩)
        · refine ih (m := m + 1) (xj1 h5 (by omega)) (by omega) ?_ M1 P1 T1
          have e0 : (fun y => !decide (y = tq_in (arh h.1) (tq_r D n1) [60 + x]) && y.contains (60 + x)) y = false := by
            show (!decide (y = tq_in (arh h.1) (tq_r D n1) [60 + x]) && y.contains (60 + x)) = false
            rw [decide_eq_true e]
            rfl
          rw [h50, hts, ← Bool.or_assoc, ← c3_no e0]
        · intro _
          have e1' : (!decide (y = tq_in (arh h.1) (tq_r D n1) [60 + x])) = true := by
            rw [decide_eq_false e]
            rfl
          refine fm_223c q2 (by omega) Wy ex' (by omega) (fun e2 => ⟨fun w => absurd w (by decide), fun _ => ?_⟩) (fun e2 => ⟨fun _ => ?_, fun w => absurd rfl w⟩)
          · refine fm_241 (c := 3) h50 rfl (fun s2 h52 K2 => ?_)
            refine ih (m := m + 1) (xj1 h5 (by omega)) (by omega) ?_ (mk_M_kq M1 K2 (by decide) (by decide)) (PAm_kq P1 K2 (by decide) (by decide)) (TKf_q T1 K2 (by decide) (by decide) (by decide))
            have e0 : (fun y => !decide (y = tq_in (arh h.1) (tq_r D n1) [60 + x]) && y.contains (60 + x)) y = true := by
              show (!decide (y = tq_in (arh h.1) (tq_r D n1) [60 + x]) && y.contains (60 + x)) = true
              rw [e1', e2]
              rfl
            rw [h52, hts, ← Bool.or_assoc, c3_or e0]
          · refine ih (m := m + 1) (xj1 h5 (by omega)) (by omega) ?_ M1 P1 T1
            have e0 : (fun y => !decide (y = tq_in (arh h.1) (tq_r D n1) [60 + x]) && y.contains (60 + x)) y = false := by
              show (!decide (y = tq_in (arh h.1) (tq_r D n1) [60 + x]) && y.contains (60 + x)) = false
              rw [Bool.eq_false_iff.mpr e2, Bool.and_false]
            rw [h50, hts, ← Bool.or_assoc, ← c3_no e0]
  have at58 : (tq_r D n1).head? = some 5 → ∀ {n' : Nat} {s1 : ps_S} {v1 : Int32}, v1.toInt = (41 * n1 : Nat) → (ps_i s1 1131 50).toInt = (c3 ((tq_r D n1).contains (60 + x) || (tq_r D n2).contains (60 + x)) : Nat) → mk_M s1 [] → PAm s1 D.length [] 0 → TKf D.length s0 s1 → pl_At n' 258 58 [(0, .ref 1131), (1, .int x1), (2, .int v1)] [] s1 (ps_rV R) := fun hh {n' s1 v1} q1 h50 M1 P1 T1 => by
    cases n' with
    | zero => exact pl_At_0
    | succ n' =>
    have X1 := mpX_TKf X hi T1
    refine pl_258_58 ?_
    rw [xtn h1]
    intro _
    refine fm_231 (L0 := []) (tt := [60 + x]) X1.1.1 X1.1.2.1 X1.1.2.2.1 q1 (by omega) (mprem X1 hD p1).1.1 w1 (Or.inr hh) M1 ⟨Nat.zero_le _, (by decide : 1 ≤ 40), Or.inl ⟨by decide, x, X1.2.2.2.2.2.2.2.2.1 (of_decide_eq_true rfl), by omega, rfl⟩⟩ (fun s2 M2 K2 => ?_)
    refine at72 hh n' (m := 0) rfl (Nat.zero_le _) ?_ M2 (PAm_kq P1 K2 (by decide) (by decide)) (TKf_q T1 K2 (by decide) (by decide) (by decide))
    rw [kq_i K2 50 (by decide), h50, List.take_zero]
    show _ = ((c3 (_ || false) : Nat) : Int)
    rw [Bool.or_false]
  have at53 : (tq_r D n1).head? = some 5 → ((tq_r D n1).contains (60 + x) || (tq_r D n2).contains (60 + x)) = true → ∀ {n' : Nat} {v1 : Int32}, v1.toInt = (41 * n1 : Nat) → pl_At n' 258 53 [(0, .ref 1131), (1, .int x1), (2, .int v1)] [] s0 (ps_rV R) := fun hh hc {n' v1} q1 => by
    cases n' with
    | zero => exact pl_At_0
    | succ n' =>
    refine pl_258_53 (fm_241 (z := 0) (c := 3) b1 rfl (fun s4 h50 K4 => ?_))
    refine at58 hh q1 ?_ (mk_M_kq b2 K4 (by decide) (by decide)) (PAm_kq b3 K4 (by decide) (by decide)) (TKf_q TKf_refl K4 (by decide) (by decide) (by decide))
    rw [h50, hc]
    rfl
  refine pl_258_0 ?_
  rw [xtn h1]
  refine fm_244 (i := D.length) (m := n1) h1 e1 (by omega) (fun v1 q1 => ?_)
  refine fm_247 q1 (by omega) W1 ne1 (fun v2 c hc q2 => ⟨fun z => ?_, fun z => ?_⟩)
  · have z : v2.toInt = (5 : Int) := xeq z
    have hh : (tq_r D n1).head? = some 5 := by rw [hc]; congr 1; omega
    intro _
    refine fm_223c q1 (by omega) W1 ex (by omega) (fun e => ⟨fun _ => at53 hh (by rw [e]; rfl) q1, fun w => absurd w (by decide)⟩) (fun e => ⟨fun w => absurd rfl w, fun _ => ?_⟩)
    refine fm_245 (i := D.length) (m := n2) h1 e2 (by omega) (fun v3 q3 => ?_)
    intro _
    refine fm_223c q3 (by omega) W2 ex (by omega) (fun e3 => ⟨fun w => absurd w (by decide), fun _ => at53 hh (by rw [e3, Bool.or_true]) q1⟩) (fun e3 => ⟨fun _ => ?_, fun w => absurd rfl w⟩)
    refine at58 hh q1 ?_ b2 b3 TKf_refl
    rw [b1, Bool.eq_false_iff.mpr e, Bool.eq_false_iff.mpr e3]
    rfl
  · have z : v2.toInt ≠ (5 : Int) := xne z
    rw [if_neg (fun w => by rw [hc] at w; cases w; exact z q2)] at hm
    refine fm_241 (z := 0) (c := 2) b1 rfl (fun s4 h50 K4 => ?_)
    exact k s4 (TKm_mk hm h50 (mk_M_kq b2 K4 (by decide) (by decide)) (Or.inl rfl) (Nat.zero_le _) (PAm_kq b3 K4 (by decide) (by decide)) (by decide) (fun w => by cases w) (TKf_q TKf_refl K4 (by decide) (by decide) (by decide)))

theorem fm_257_r24 {n : Nat} (h1 : x1.toInt = D.length) (hi : D.length < 40) (X : mpX s0 b h Θ D ((24, n1, n2, n3), (ax, x), t, f)) (B : mpB s0 D.length) (hD : tq_GD h.1 D) (hG : tp_G h.1 h.2.length ((24, n1, n2, n3), (ax, x), t, f)) (hpr : tq_pr Θ D ((24, n1, n2, n3), (ax, x), t, f)) (k : ∀ s', TKm s0 s' h Θ D ((24, n1, n2, n3), (ax, x), t, f) → R s') : pl_Cl n 257 [.ref 1131, .int x1] s0 (ps_rV R) := by
  cases n with
  | zero => exact pl_At_0
  | succ n =>
  show pl_At (n + 1) 257 0 [(0, .ref 1131), (1, .int x1)] [] s0 (ps_rV R)
  obtain ⟨b1, b2, b3⟩ := B
  have hA := arh_k (g := h.1) X.1.2.2.1.2.2.1 X.1.2.2.1.2.2.2.1
  have er : (ps_a s0 1152 D.length).toInt = (14 : Int) := X.2.2.2.1.trans rfl
  have p1 : n1 < D.length := hpr.1 (of_decide_eq_true rfl)
  have e1 : (ps_a s0 1153 D.length).toInt = n1 := X.2.2.2.2.1 (of_decide_eq_true rfl)
  obtain ⟨⟨W1, w1, ne1, l1⟩, -⟩ := mprem X hD p1
  have p2 : n2 < D.length := hpr.2.1 (of_decide_eq_true rfl)
  have e2 : (ps_a s0 1154 D.length).toInt = n2 := X.2.2.2.2.2.1 (of_decide_eq_true rfl)
  obtain ⟨⟨W2, w2, ne2, l2⟩, -⟩ := mprem X hD p2
  have hx12 : x < 12 := hG.2.2.2.1 (of_decide_eq_true rfl)
  have ex : (ps_a s0 1156 D.length).toInt = x := X.2.2.2.2.2.2.2.2.1 (of_decide_eq_true rfl)
  refine pl_257_0 ?_
  rw [xtn h1]
  refine fm_244 (i := D.length) (m := n1) h1 e1 (by omega) (fun v1 q1 => ?_)
  intro _
  refine ⟨fun z => absurd (show (ps_a _ 1152 D.length).toInt = (11 : Int) from xeq z) (by omega), fun _ => ?_⟩
  refine ⟨fun z => absurd (show (ps_a _ 1152 D.length).toInt = (12 : Int) from xeq z) (by omega), fun _ => ?_⟩
  refine ⟨fun z => absurd (show (ps_a _ 1152 D.length).toInt = (13 : Int) from xeq z) (by omega), fun _ => ?_⟩
  refine ⟨fun _ => ?_, fun z => absurd (show (ps_a _ 1152 D.length).toInt = (14 : Int) from er) (xne z)⟩
  exact fm_258_r24 h1 hi X ⟨b1, b2, b3⟩ hD hG hpr k

end TKB

