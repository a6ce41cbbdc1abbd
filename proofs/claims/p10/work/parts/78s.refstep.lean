set_option maxRecDepth 100000
/-! the reference: a step taken; the steps of a proof -/
-- ProofBenchModel.takesStep(I)V
theorem pl_252_0 {n : Nat} {x1 : Int32} {s : ps_S} {Q : Option Value → ps_S → Prop} (h :
  (pm_in x1 40 = true →
    ((ps_a (ps_ui (ps_ui (ps_ui s 1131 50 0) 1131 51 0) 1131 34 0) 1152 (Int32.toNatClampNeg x1)) ≠ 1 →
      (pm_in x1 40 = true →
        (pm_in x1 40 = true →
          ((ps_a (ps_ua (ps_ui (ps_ui (ps_ui s 1131 50 0) 1131 51 0) 1131 34 0) 1158 (Int32.toNatClampNeg x1) 0) 1152 (Int32.toNatClampNeg x1)) ≠ 2 →
            (pm_in x1 40 = true →
              pl_At n 252 84 [(0, .ref 1131), (1, .int x1)] [] (ps_ua (ps_ua (ps_ui (ps_ui (ps_ui s 1131 50 0) 1131 51 0) 1131 34 0) 1158 (Int32.toNatClampNeg x1) 0) 1159 (Int32.toNatClampNeg x1) 0) Q)) ∧
          ((ps_a (ps_ua (ps_ui (ps_ui (ps_ui s 1131 50 0) 1131 51 0) 1131 34 0) 1158 (Int32.toNatClampNeg x1) 0) 1152 (Int32.toNatClampNeg x1)) = 2 →
            (pm_in x1 40 = true →
              ((ps_i (ps_ua (ps_ui (ps_ui (ps_ui s 1131 50 0) 1131 51 0) 1131 34 0) 1158 (Int32.toNatClampNeg x1) 0) 1131 54) ≤ (ps_a (ps_ua (ps_ui (ps_ui (ps_ui s 1131 50 0) 1131 51 0) 1131 34 0) 1158 (Int32.toNatClampNeg x1) 0) 1153 (Int32.toNatClampNeg x1)) →
                (pm_in x1 40 = true →
                  pl_At n 252 84 [(0, .ref 1131), (1, .int x1)] [] (ps_ua (ps_ua (ps_ui (ps_ui (ps_ui s 1131 50 0) 1131 51 0) 1131 34 0) 1158 (Int32.toNatClampNeg x1) 0) 1159 (Int32.toNatClampNeg x1) 0) Q)) ∧
              ((ps_a (ps_ua (ps_ui (ps_ui (ps_ui s 1131 50 0) 1131 51 0) 1131 34 0) 1158 (Int32.toNatClampNeg x1) 0) 1153 (Int32.toNatClampNeg x1)) < (ps_i (ps_ua (ps_ui (ps_ui (ps_ui s 1131 50 0) 1131 51 0) 1131 34 0) 1158 (Int32.toNatClampNeg x1) 0) 1131 54) →
                (pm_in x1 40 = true →
                  (pm_in x1 40 = true →
                    pl_At n 252 84 [(0, .ref 1131), (1, .int x1)] [] (ps_ua (ps_ua (ps_ui (ps_ui (ps_ui s 1131 50 0) 1131 51 0) 1131 34 0) 1158 (Int32.toNatClampNeg x1) 0) 1159 (Int32.toNatClampNeg x1) ((1 : Int32) <<< ((ps_a (ps_ua (ps_ui (ps_ui (ps_ui s 1131 50 0) 1131 51 0) 1131 34 0) 1158 (Int32.toNatClampNeg x1) 0) 1153 (Int32.toNatClampNeg x1)) &&& 31))) Q)))))))) ∧
    ((ps_a (ps_ui (ps_ui (ps_ui s 1131 50 0) 1131 51 0) 1131 34 0) 1152 (Int32.toNatClampNeg x1)) = 1 →
      (pm_in x1 40 = true →
        (pm_in x1 40 = true →
          (pm_in x1 40 = true →
            ((ps_a (ps_ua (ps_ui (ps_ui (ps_ui s 1131 50 0) 1131 51 0) 1131 34 0) 1158 (Int32.toNatClampNeg x1) ((1 : Int32) <<< ((ps_a (ps_ui (ps_ui (ps_ui s 1131 50 0) 1131 51 0) 1131 34 0) 1153 (Int32.toNatClampNeg x1)) &&& 31))) 1152 (Int32.toNatClampNeg x1)) ≠ 2 →
              (pm_in x1 40 = true →
                pl_At n 252 84 [(0, .ref 1131), (1, .int x1)] [] (ps_ua (ps_ua (ps_ui (ps_ui (ps_ui s 1131 50 0) 1131 51 0) 1131 34 0) 1158 (Int32.toNatClampNeg x1) ((1 : Int32) <<< ((ps_a (ps_ui (ps_ui (ps_ui s 1131 50 0) 1131 51 0) 1131 34 0) 1153 (Int32.toNatClampNeg x1)) &&& 31))) 1159 (Int32.toNatClampNeg x1) 0) Q)) ∧
            ((ps_a (ps_ua (ps_ui (ps_ui (ps_ui s 1131 50 0) 1131 51 0) 1131 34 0) 1158 (Int32.toNatClampNeg x1) ((1 : Int32) <<< ((ps_a (ps_ui (ps_ui (ps_ui s 1131 50 0) 1131 51 0) 1131 34 0) 1153 (Int32.toNatClampNeg x1)) &&& 31))) 1152 (Int32.toNatClampNeg x1)) = 2 →
              (pm_in x1 40 = true →
                ((ps_i (ps_ua (ps_ui (ps_ui (ps_ui s 1131 50 0) 1131 51 0) 1131 34 0) 1158 (Int32.toNatClampNeg x1) ((1 : Int32) <<< ((ps_a (ps_ui (ps_ui (ps_ui s 1131 50 0) 1131 51 0) 1131 34 0) 1153 (Int32.toNatClampNeg x1)) &&& 31))) 1131 54) ≤ (ps_a (ps_ua (ps_ui (ps_ui (ps_ui s 1131 50 0) 1131 51 0) 1131 34 0) 1158 (Int32.toNatClampNeg x1) ((1 : Int32) <<< ((ps_a (ps_ui (ps_ui (ps_ui s 1131 50 0) 1131 51 0) 1131 34 0) 1153 (Int32.toNatClampNeg x1)) &&& 31))) 1153 (Int32.toNatClampNeg x1)) →
                  (pm_in x1 40 = true →
                    pl_At n 252 84 [(0, .ref 1131), (1, .int x1)] [] (ps_ua (ps_ua (ps_ui (ps_ui (ps_ui s 1131 50 0) 1131 51 0) 1131 34 0) 1158 (Int32.toNatClampNeg x1) ((1 : Int32) <<< ((ps_a (ps_ui (ps_ui (ps_ui s 1131 50 0) 1131 51 0) 1131 34 0) 1153 (Int32.toNatClampNeg x1)) &&& 31))) 1159 (Int32.toNatClampNeg x1) 0) Q)) ∧
                ((ps_a (ps_ua (ps_ui (ps_ui (ps_ui s 1131 50 0) 1131 51 0) 1131 34 0) 1158 (Int32.toNatClampNeg x1) ((1 : Int32) <<< ((ps_a (ps_ui (ps_ui (ps_ui s 1131 50 0) 1131 51 0) 1131 34 0) 1153 (Int32.toNatClampNeg x1)) &&& 31))) 1153 (Int32.toNatClampNeg x1)) < (ps_i (ps_ua (ps_ui (ps_ui (ps_ui s 1131 50 0) 1131 51 0) 1131 34 0) 1158 (Int32.toNatClampNeg x1) ((1 : Int32) <<< ((ps_a (ps_ui (ps_ui (ps_ui s 1131 50 0) 1131 51 0) 1131 34 0) 1153 (Int32.toNatClampNeg x1)) &&& 31))) 1131 54) →
                  (pm_in x1 40 = true →
                    (pm_in x1 40 = true →
                      pl_At n 252 84 [(0, .ref 1131), (1, .int x1)] [] (ps_ua (ps_ua (ps_ui (ps_ui (ps_ui s 1131 50 0) 1131 51 0) 1131 34 0) 1158 (Int32.toNatClampNeg x1) ((1 : Int32) <<< ((ps_a (ps_ui (ps_ui (ps_ui s 1131 50 0) 1131 51 0) 1131 34 0) 1153 (Int32.toNatClampNeg x1)) &&& 31))) 1159 (Int32.toNatClampNeg x1) ((1 : Int32) <<< ((ps_a (ps_ua (ps_ui (ps_ui (ps_ui s 1131 50 0) 1131 51 0) 1131 34 0) 1158 (Int32.toNatClampNeg x1) ((1 : Int32) <<< ((ps_a (ps_ui (ps_ui (ps_ui s 1131 50 0) 1131 51 0) 1131 34 0) 1153 (Int32.toNatClampNeg x1)) &&& 31))) 1153 (Int32.toNatClampNeg x1)) &&& 31))) Q))))))))))) : pl_At (n + 1) 252 0 [(0, .ref 1131), (1, .int x1)] [] s Q :=
  pl_wp_at (stops := [(84, [0, 1]), (146, [0, 1, 2]), (162, [0, 1, 2]), (178, [0, 1]), (219, [0, 1]), (232, [0, 1]), (248, [0, 1]), (253, [0, 1])]) (f := 86) h rfl

theorem pl_252_84 {n : Nat} {x1 : Int32} {s : ps_S} {Q : Option Value → ps_S → Prop} (h :
  (pm_in x1 40 = true →
    pl_Cl n 250 [.ref 1131, .int x1] (ps_ub s 1160 (Int32.toNatClampNeg x1) ((1 : Int64) <<< (Int32.toInt64 x1 &&& 63))) (ps_rI (fun v1 s1 =>
      (v1 ≠ 0 →
        (pm_in x1 40 = true →
          ((ps_a s1 1152 (Int32.toNatClampNeg x1)) ≠ 2 →
            (pm_in x1 40 = true →
              pl_Cl n 234 [.int (ps_a s1 1152 (Int32.toNatClampNeg x1))] s1 (ps_rI (fun v2 s2 =>
                (v2 ≤ 0 →
                  pl_At n 252 146 [(0, .ref 1131), (1, .int x1), (2, .int v2)] [] s2 Q) ∧
                (0 < v2 →
                  (pm_in x1 40 = true →
                    pl_Cl n 251 [.ref 1131, .int x1, .int (ps_a s2 1153 (Int32.toNatClampNeg x1))] s2 (ps_rV (fun s3 =>
                      pl_At n 252 146 [(0, .ref 1131), (1, .int x1), (2, .int v2)] [] s3 Q)))))))) ∧
          ((ps_a s1 1152 (Int32.toNatClampNeg x1)) = 2 →
            ((0 : Int32) ≤ 0 →
              pl_At n 252 146 [(0, .ref 1131), (1, .int x1), (2, .int 0)] [] s1 Q) ∧
            ((0 : Int32) < (0 : Int32) →
              (pm_in x1 40 = true →
                pl_Cl n 251 [.ref 1131, .int x1, .int (ps_a s1 1153 (Int32.toNatClampNeg x1))] s1 (ps_rV (fun s4 =>
                  pl_At n 252 146 [(0, .ref 1131), (1, .int x1), (2, .int 0)] [] s4 Q))))))) ∧
      (v1 = 0 →
        pl_Cl n 241 [.ref 1131, .int 1] s1 (ps_rV (fun s5 =>
          Q none s5))))))) : pl_At (n + 1) 252 84 [(0, .ref 1131), (1, .int x1)] [] s Q :=
  pl_wp_at (stops := [(84, [0, 1]), (146, [0, 1, 2]), (162, [0, 1, 2]), (178, [0, 1]), (219, [0, 1]), (232, [0, 1]), (248, [0, 1]), (253, [0, 1])]) (f := 50) h rfl

theorem pl_252_146 {n : Nat} {x1 : Int32} {x2 : Int32} {s : ps_S} {Q : Option Value → ps_S → Prop} (h :
  (x2 ≤ 1 →
    pl_At n 252 162 [(0, .ref 1131), (1, .int x1), (2, .int x2)] [] s Q) ∧
  (1 < x2 →
    (pm_in x1 40 = true →
      pl_Cl n 251 [.ref 1131, .int x1, .int (ps_a s 1154 (Int32.toNatClampNeg x1))] s (ps_rV (fun s1 =>
        pl_At n 252 162 [(0, .ref 1131), (1, .int x1), (2, .int x2)] [] s1 Q))))) : pl_At (n + 1) 252 146 [(0, .ref 1131), (1, .int x1), (2, .int x2)] [] s Q :=
  pl_wp_at (stops := [(84, [0, 1]), (146, [0, 1, 2]), (162, [0, 1, 2]), (178, [0, 1]), (219, [0, 1]), (232, [0, 1]), (248, [0, 1]), (253, [0, 1])]) (f := 12) h rfl

theorem pl_252_162 {n : Nat} {x1 : Int32} {x2 : Int32} {s : ps_S} {Q : Option Value → ps_S → Prop} (h :
  (x2 ≤ 2 →
    pl_At n 252 178 [(0, .ref 1131), (1, .int x1)] [] s Q) ∧
  (2 < x2 →
    (pm_in x1 40 = true →
      pl_Cl n 251 [.ref 1131, .int x1, .int (ps_a s 1155 (Int32.toNatClampNeg x1))] s (ps_rV (fun s1 =>
        pl_At n 252 178 [(0, .ref 1131), (1, .int x1)] [] s1 Q))))) : pl_At (n + 1) 252 162 [(0, .ref 1131), (1, .int x1), (2, .int x2)] [] s Q :=
  pl_wp_at (stops := [(84, [0, 1]), (146, [0, 1, 2]), (162, [0, 1, 2]), (178, [0, 1]), (219, [0, 1]), (232, [0, 1]), (248, [0, 1]), (253, [0, 1])]) (f := 12) h rfl

theorem pl_252_178 {n : Nat} {x1 : Int32} {s : ps_S} {Q : Option Value → ps_S → Prop} (h :
  (pm_in x1 40 = true →
    (8 ≤ (ps_a s 1152 (Int32.toNatClampNeg x1)) →
      (pm_in x1 40 = true →
        ((ps_a s 1152 (Int32.toNatClampNeg x1)) < 11 →
          pl_At n 252 219 [(0, .ref 1131), (1, .int x1)] [] s Q) ∧
        (11 ≤ (ps_a s 1152 (Int32.toNatClampNeg x1)) →
          (pm_in x1 40 = true →
            ((ps_a s 1152 (Int32.toNatClampNeg x1)) ≤ 16 →
              pl_Cl n 257 [.ref 1131, .int x1] s (ps_rV (fun s1 =>
                pl_At n 252 232 [(0, .ref 1131), (1, .int x1)] [] s1 Q))) ∧
            (16 < (ps_a s 1152 (Int32.toNatClampNeg x1)) →
              pl_At n 252 219 [(0, .ref 1131), (1, .int x1)] [] s Q))))) ∧
    ((ps_a s 1152 (Int32.toNatClampNeg x1)) < 8 →
      pl_Cl n 253 [.ref 1131, .int x1] s (ps_rV (fun s2 =>
        pl_At n 252 232 [(0, .ref 1131), (1, .int x1)] [] s2 Q))))) : pl_At (n + 1) 252 178 [(0, .ref 1131), (1, .int x1)] [] s Q :=
  pl_wp_at (stops := [(84, [0, 1]), (146, [0, 1, 2]), (162, [0, 1, 2]), (178, [0, 1]), (219, [0, 1]), (232, [0, 1]), (248, [0, 1]), (253, [0, 1])]) (f := 27) h rfl

theorem pl_252_219 {n : Nat} {x1 : Int32} {s : ps_S} {Q : Option Value → ps_S → Prop} (h :
  pl_Cl n 255 [.ref 1131, .int x1] s (ps_rV (fun s1 =>
    pl_At n 252 232 [(0, .ref 1131), (1, .int x1)] [] s1 Q))) : pl_At (n + 1) 252 219 [(0, .ref 1131), (1, .int x1)] [] s Q :=
  pl_wp_at (stops := [(84, [0, 1]), (146, [0, 1, 2]), (162, [0, 1, 2]), (178, [0, 1]), (219, [0, 1]), (232, [0, 1]), (248, [0, 1]), (253, [0, 1])]) (f := 6) h rfl

theorem pl_252_232 {n : Nat} {x1 : Int32} {s : ps_S} {Q : Option Value → ps_S → Prop} (h :
  (12 < (ps_i s 1131 51) →
    pl_At n 252 248 [(0, .ref 1131), (1, .int x1)] [] s Q) ∧
  ((ps_i s 1131 51) ≤ 12 →
    pl_Cl n 228 [.ref 1131] s (ps_rI (fun v1 s1 =>
      (v1 ≠ 0 →
        pl_At n 252 253 [(0, .ref 1131), (1, .int x1)] [] s1 Q) ∧
      (v1 = 0 →
        pl_At n 252 248 [(0, .ref 1131), (1, .int x1)] [] s1 Q))))) : pl_At (n + 1) 252 232 [(0, .ref 1131), (1, .int x1)] [] s Q :=
  pl_wp_at (stops := [(84, [0, 1]), (146, [0, 1, 2]), (162, [0, 1, 2]), (178, [0, 1]), (219, [0, 1]), (232, [0, 1]), (248, [0, 1]), (253, [0, 1])]) (f := 9) h rfl

theorem pl_252_248 {n : Nat} {x1 : Int32} {s : ps_S} {Q : Option Value → ps_S → Prop} (h :
  pl_Cl n 241 [.ref 1131, .int 5] s (ps_rV (fun s1 =>
    pl_At n 252 253 [(0, .ref 1131), (1, .int x1)] [] s1 Q))) : pl_At (n + 1) 252 248 [(0, .ref 1131), (1, .int x1)] [] s Q :=
  pl_wp_at (stops := [(84, [0, 1]), (146, [0, 1, 2]), (162, [0, 1, 2]), (178, [0, 1]), (219, [0, 1]), (232, [0, 1]), (248, [0, 1]), (253, [0, 1])]) (f := 5) h rfl

theorem pl_252_253 {n : Nat} {x1 : Int32} {s : ps_S} {Q : Option Value → ps_S → Prop} (h :
  ((ps_i s 1131 50) ≤ 0 →
    pl_Cl n 242 [.int x1] s (ps_rI (fun v1 s1 =>
      pl_Cl n 229 [.ref 1131, .int v1] s1 (ps_rV (fun s2 =>
        (pm_in x1 41 = true →
          Q none (ps_ua s2 1157 (Int32.toNatClampNeg x1) (ps_i s2 1131 51)))))))) ∧
  (0 < (ps_i s 1131 50) →
    Q none s)) : pl_At (n + 1) 252 253 [(0, .ref 1131), (1, .int x1)] [] s Q :=
  pl_wp_at (stops := [(84, [0, 1]), (146, [0, 1, 2]), (162, [0, 1, 2]), (178, [0, 1]), (219, [0, 1]), (232, [0, 1]), (248, [0, 1]), (253, [0, 1])]) (f := 17) h rfl

/-- what a step may change -/
def KS (i : Nat) (s0 s : ps_S) : Prop := kq [1134, 1149, 1150, 1151, 1157, 1158, 1159, 1160] [34, 50, 51] s0 s ∧ (∀ q, (q < 41 * i ∨ 41 * i + 41 ≤ q) → (q < 1640 + 492 * i ∨ 1640 + 492 * i + 492 ≤ q) → ps_a s 1134 q = ps_a s0 1134 q) ∧ ∀ j, j ≠ i → ps_a s 1157 j = ps_a s0 1157 j ∧ ps_a s 1158 j = ps_a s0 1158 j ∧ ps_a s 1159 j = ps_a s0 1159 j ∧ ps_b s 1160 j = ps_b s0 1160 j
theorem KS_refl {i : Nat} {s : ps_S} : KS i s s := ⟨kq_refl, fun _ _ _ => rfl, fun _ _ => ⟨rfl, rfl, rfl, rfl⟩⟩
theorem KS_tr {i : Nat} {s0 s s' : ps_S} (K : KS i s0 s) (q : KS i s s') : KS i s0 s' := ⟨kqt K.1 q.1 (by decide) (by decide), fun p a b => (q.2.1 p a b).trans (K.2.1 p a b), fun j hj => by
  obtain ⟨a1, a2, a3, a4⟩ := q.2.2 j hj
  obtain ⟨b1, b2, b3, b4⟩ := K.2.2 j hj
  exact ⟨a1.trans b1, a2.trans b2, a3.trans b3, a4.trans b4⟩⟩
theorem KS_q {i : Nat} {A F : List Nat} {s s' : ps_S} (q : kq A F s s') (hA : A.all (fun a => [1149, 1150, 1151].contains a) = true) (hF : F.all (fun a => [34, 50, 51].contains a) = true) : KS i s s' := by
  have n : ∀ r, r ∈ [1134, 1157, 1158, 1159, 1160] → A.contains r = false := fun r hr => by
    rw [Bool.eq_false_iff]
    intro z
    have := List.all_eq_true.mp hA r (List.contains_iff_mem.mp z)
    clear z
    revert hr this
    revert r
    decide
  refine ⟨kqt kq_refl q (List.all_eq_true.mpr (fun a ha => ?_)) hF, fun p _ _ => by rw [kq_a q 1134 (n 1134 (by decide))], fun j _ => ⟨by rw [kq_a q 1157 (n 1157 (by decide))], by rw [kq_a q 1158 (n 1158 (by decide))], by rw [kq_a q 1159 (n 1159 (by decide))], by rw [kq_b q 1160 (n 1160 (by decide))]⟩⟩
  have := List.all_eq_true.mp hA a ha
  revert this
  rw [List.contains_iff_mem, List.contains_iff_mem]
  intro this
  simp only [List.mem_cons, List.not_mem_nil, or_false] at this ⊢
  omega
theorem KS_T {i : Nat} {s s' : ps_S} (T : TKf i s s') : KS i s s' := ⟨kqt kq_refl T.1 (by decide) (by decide), fun p _ b => T.2 p b, fun j _ => ⟨by rw [kq_a T.1 1157 (by decide)], by rw [kq_a T.1 1158 (by decide)], by rw [kq_a T.1 1159 (by decide)], by rw [kq_b T.1 1160 (by decide)]⟩⟩
theorem KS_8 {i : Nat} {v : Int32} {s0 s : ps_S} (K : KS i s0 s) : KS i s0 (ps_ua s 1158 i v) := ⟨kqa K.1 (by decide), fun p a b => (K.2.1 p a b), fun j hj => by
  obtain ⟨b1, b2, b3, b4⟩ := K.2.2 j hj
  exact ⟨b1, by rw [ps_a_ua, if_neg (fun z => hj z.2)]; exact b2, b3, b4⟩⟩
theorem KS_9 {i : Nat} {v : Int32} {s0 s : ps_S} (K : KS i s0 s) : KS i s0 (ps_ua s 1159 i v) := ⟨kqa K.1 (by decide), fun p a b => (K.2.1 p a b), fun j hj => by
  obtain ⟨b1, b2, b3, b4⟩ := K.2.2 j hj
  exact ⟨b1, b2, by rw [ps_a_ua, if_neg (fun z => hj z.2)]; exact b3, b4⟩⟩
theorem KS_7 {i : Nat} {v : Int32} {s0 s : ps_S} (K : KS i s0 s) : KS i s0 (ps_ua s 1157 i v) := ⟨kqa K.1 (by decide), fun p a b => (K.2.1 p a b), fun j hj => by
  obtain ⟨b1, b2, b3, b4⟩ := K.2.2 j hj
  exact ⟨by rw [ps_a_ua, if_neg (fun z => hj z.2)]; exact b1, b2, b3, b4⟩⟩
theorem KS_0 {i : Nat} {v : Int64} {s0 s : ps_S} (K : KS i s0 s) : KS i s0 (ps_ub s 1160 i v) := ⟨kqb K.1 (by decide), fun p a b => (K.2.1 p a b), fun j hj => by
  obtain ⟨b1, b2, b3, b4⟩ := K.2.2 j hj
  exact ⟨b1, b2, b3, by rw [ps_b_ub, if_neg (fun z => hj z.2)]; exact b4⟩⟩
theorem KS_i {i q : Nat} {v : Int32} {s0 s : ps_S} (K : KS i s0 s) (hq : [34, 50, 51].contains q = true) : KS i s0 (ps_ui s 1131 q v) := ⟨kqi K.1 hq, K.2.1, K.2.2⟩
theorem mv_W_KS {i to : Nat} {l : List Nat} {s0 s : ps_S} (W : mv_W s0 to l) (K : KS i s0 s) (h1 : to + 41 ≤ 41 * i ∨ 41 * i + 41 ≤ to) (h2 : to + 41 ≤ 1640 + 492 * i ∨ 1640 + 492 * i + 492 ≤ to) : mv_W s to l := mv_W_V W (fun q a b => K.2.1 q (by omega) (by omega))
theorem mSh_KS {i : Nat} {s0 s : ps_S} {Θ : List tq_H} (H : mSh s0 Θ) (hi : i < 40) (K : KS i s0 s) : mSh s Θ := by
  obtain ⟨y1, y2, y3⟩ := H
  refine ⟨by rw [kq_i K.1 54 (by decide)]; exact y1, y2, fun k q hk => ?_⟩
  obtain ⟨e1, e2, e3⟩ := y3 k q hk
  exact ⟨mv_W_KS e1 K (by omega) (by omega), by rw [kq_a K.1 1161 (by decide)]; exact e2, by rw [kq_a K.1 1162 (by decide)]; exact e3⟩
theorem mpR_KS {s0 s : ps_S} {i k : Nat} {R : tq_R} (H : mpR s0 k R) (hk : k < i) (hi : i < 40) (K : KS i s0 s) : mpR s k R := by
  obtain ⟨e1, e2, e3, e4, e5, e6, e7⟩ := H
  obtain ⟨b1, b2, b3, b4⟩ := K.2.2 k (by omega)
  refine ⟨mv_W_KS e1 K (by omega) (by omega), by rw [b1]; exact e2, e3, fun n y hy => mv_W_KS (e4 n y hy) K ?_ ?_, by rw [b2]; exact e5, by rw [b3]; exact e6, by rw [b4]; exact e7⟩
  · omega
  · have := (List.getElem?_eq_some_iff.mp hy).1
    omega
theorem mpD_KS {s0 s : ps_S} {i : Nat} {D : List tq_R} (H : mpD s0 D) (hD : D.length ≤ i) (hi : i < 40) (K : KS i s0 s) : mpD s D := ⟨H.1, fun k R hk => mpR_KS (H.2 k R hk) (by have := (List.getElem?_eq_some_iff.mp hk).1; omega) hi K⟩
theorem rkT_KS {s0 s : ps_S} {i j : Nat} {st : tp_P} (H : rkT s0 j st) (hi : i < 40) (K : KS i s0 s) : rkT s j st := by
  obtain ⟨t1, t2, t3, t4, t5, t6, t7, t8⟩ := H
  have e : ∀ r, [1134, 1149, 1150, 1151, 1157, 1158, 1159, 1160].contains r = false → ps_a s r = ps_a s0 r := fun r hr => kq_a K.1 r hr
  exact ⟨by rw [e 1152 (by decide)]; exact t1, by rw [e 1153 (by decide)]; exact t2, by rw [e 1154 (by decide)]; exact t3, by rw [e 1155 (by decide)]; exact t4, by rw [e 1153 (by decide)]; exact t5, by rw [e 1156 (by decide)]; exact t6, fun z => mv_W_KS (t7 z) K (by omega) (by omega), fun z => mv_W_KS (t8 z) K (by omega) (by omega)⟩
theorem mv_H_KS {s0 s : ps_S} {b i : Nat} {h : tx_H} (hb : b < 2) (H : mv_H s0 b h) (hi : i < 40) (K : KS i s0 s) : mv_H s b h := by
  refine mv_H_V hb H (fun r hr => kq_a K.1 r ?_) (fun r hr => kq_b K.1 r ?_) (fun q a b => K.2.1 q (by omega) (by omega))
  · revert r
    decide
  · revert r
    decide
theorem mpX_KS {s0 s : ps_S} {b : Nat} {h : tx_H} {Θ : List tq_H} {D : List tq_R} {st : tp_P} (X : mpX s0 b h Θ D st) (hi : D.length < 40) (K : KS D.length s0 s) : mpX s b h Θ D st := by
  obtain ⟨⟨x1, x2, x3⟩, y, d, t⟩ := X
  exact ⟨⟨x1, by rw [kq_i K.1 21 (by decide)]; exact x2, mv_H_KS x1 x3 hi K⟩, mSh_KS y hi K, mpD_KS d (Nat.le_refl _) hi K, rkT_KS t hi K⟩
theorem fm_251 {n i j : Nat} {x1 x2 : Int32} {s : ps_S} {R : ps_S → Prop} (h1 : x1.toInt = i) (h2 : x2.toInt = j) (k : ∀ s', (KS i s s' ∧ ps_a s' 1158 i = ps_a s 1158 i ||| ps_a s 1158 j ∧ ps_a s' 1159 i = ps_a s 1159 i ||| ps_a s 1159 j ∧ ps_b s' 1160 i = ps_b s 1160 i ||| ps_b s 1160 j ∧ kq [1158, 1159, 1160] [] s s') → R s') : pl_Cl n 251 [.ref 1131, .int x1, .int x2] s (ps_rV R) := by
  cases n with
  | zero => exact pl_At_0
  | succ n =>
  show pl_At (n + 1) 251 0 [(0, .ref 1131), (1, .int x1), (2, .int x2)] [] s (ps_rV R)
  refine pl_251_0 ?_
  rw [xtn h1, xtn h2]
  intro _ _ _ _ _ _ _ _ _
  refine k _ ⟨KS_0 (KS_9 (KS_8 KS_refl)), ?_, ?_, ?_, kqb (kqa (kqa kq_refl (by decide)) (by decide)) (by decide)⟩
  · rw [ps_a_ub, ps_a_ua, if_neg (by omega), ps_a_ua, if_pos ⟨rfl, rfl⟩]
  · rw [ps_a_ub, ps_a_ua, if_pos ⟨rfl, rfl⟩, ps_a_ua, if_neg (by omega), ps_a_ua, if_neg (by omega)]
  · rw [ps_b_ub, if_pos ⟨rfl, rfl⟩]
    rfl
theorem tq_mk_le {h : tx_H} {Θ : List tq_H} {D : List tq_R} {st : tp_P} (hr : tp_ok st.1.1) : (tq_mk h Θ D st).1 ≤ 4 := by
  obtain ⟨⟨r, n1, n2, n3⟩, ⟨ax, x⟩, t, f⟩ := st
  rcases tp_ok_c hr with rfl | rfl | rfl | rfl | rfl | rfl | rfl | rfl | rfl | rfl | rfl | rfl | rfl | rfl | rfl | rfl | rfl | rfl | rfl

  · exact Nat.zero_le 4
  · exact Nat.zero_le 4
  · exact Nat.zero_le 4
  · exact Nat.zero_le 4
  · exact Nat.zero_le 4
  · rw [tq_mk_14]
    split
    · exact of_decide_eq_true rfl
    · exact of_decide_eq_true rfl
  · rw [tq_mk_15]
    split
    · exact of_decide_eq_true rfl
    · exact of_decide_eq_true rfl
  · exact Nat.zero_le 4
  · exact Nat.zero_le 4
  · rw [tq_mk_18]
    split
    · exact of_decide_eq_true rfl
    · exact of_decide_eq_true rfl
  · rw [tq_mk_19]
    split
    · exact of_decide_eq_true rfl
    · exact of_decide_eq_true rfl
  · exact Nat.zero_le 4
  · rw [tq_mk_21]
    split
    · exact of_decide_eq_true rfl
    · exact of_decide_eq_true rfl
  · rw [tq_mk_22]
    split
    · exact of_decide_eq_true rfl
    · exact of_decide_eq_true rfl
  · rw [tq_mk_23]
    split
    · exact of_decide_eq_true rfl
    · exact of_decide_eq_true rfl
  · rw [tq_mk_24]
    split
    · split
      · exact of_decide_eq_true rfl
      · exact of_decide_eq_true rfl
    · exact of_decide_eq_true rfl
  · rw [tq_mk_25]
    split
    · split
      · exact of_decide_eq_true rfl
      · exact of_decide_eq_true rfl
    · exact of_decide_eq_true rfl
  · rw [tq_mk_26]
    split
    · exact of_decide_eq_true rfl
    · exact of_decide_eq_true rfl
  · rw [tq_mk_27]
    split
    · exact of_decide_eq_true rfl
    · exact of_decide_eq_true rfl
/-- what m premises left -/
def LEm (s0 s : ps_S) (D : List tq_R) (st : tp_P) (m : Nat) : Prop := KS D.length s0 s ∧ mpB s D.length ∧ ps_a s 1158 D.length = tq_zi D (fun q => q.2.2.1) (if st.1.1 = 10 then tq_b st.2.1.1 else 0) st m ∧ ps_a s 1159 D.length = tq_zi D (fun q => q.2.2.2.1) (if st.1.1 = 12 then tq_b st.1.2.1 else 0) st m ∧ ps_b s 1160 D.length = tq_zj D (fun q => q.2.2.2.2) ((1 : Int64) <<< (Int32.toInt64 (nI D.length) &&& 63)) st m
section TSM
variable {b : Nat} {h : tx_H} {Θ : List tq_H} {D : List tq_R} {st : tp_P} {x1 : Int32} {s1 : ps_S} {R : ps_S → Prop}
theorem fm_252_178 {n0 : Nat} (h1 : x1.toInt = D.length) (hi : D.length < 40) (X : mpX s1 b h Θ D st) (B : mpB s1 D.length) (hD : tq_GD h.1 D) (hT : tq_GT h.1 Θ) (hwt : WFt h) (hG : tp_G h.1 h.2.length st) (hpr : tq_pr Θ D st) (kk : ∀ s', TKm s1 s' h Θ D st → pl_At n0 252 232 [(0, .ref 1131), (1, .int x1)] [] s' (ps_rV R)) : ∀ {n : Nat}, n ≤ n0 + 1 → pl_At n 252 178 [(0, .ref 1131), (1, .int x1)] [] s1 (ps_rV R) := fun {n} hn => by
  cases n with
  | zero => exact pl_At_0
  | succ n =>
  obtain ⟨⟨r, n1, n2, n3⟩, ⟨ax, x⟩, t, f⟩ := st
  refine pl_252_178 ?_
  rw [xtn h1]
  intro _
  rcases tp_ok_c hG.1 with rfl | rfl | rfl | rfl | rfl | rfl | rfl | rfl | rfl | rfl | rfl | rfl | rfl | rfl | rfl | rfl | rfl | rfl | rfl
  · have er : (ps_a s1 1152 D.length).toInt = (15 : Int) := X.2.2.2.1.trans rfl
    refine ⟨fun _ => ?_, fun z => absurd (show (ps_a s1 1152 D.length).toInt < (8 : Int) from xlt z) (by omega)⟩
    intro _
    refine ⟨fun z => absurd (show (ps_a s1 1152 D.length).toInt < (11 : Int) from xlt z) (by omega), fun _ => ?_⟩
    intro _
    exact ⟨fun _ => fm_257_r6 h1 hi X B hD hG hpr (fun s2 T => (kk s2 T).le (by omega)), fun z => absurd (show (16 : Int) < (ps_a s1 1152 D.length).toInt from xlt z) (by omega)⟩
  · have er : (ps_a s1 1152 D.length).toInt = (1 : Int) := X.2.2.2.1.trans rfl
    exact ⟨fun z => absurd (show (8 : Int) ≤ (ps_a s1 1152 D.length).toInt from xle z) (by omega), fun _ => fm_253_r10 hwt h1 hi X B hD hG hpr (fun s2 T => (kk s2 T).le (by omega))⟩
  · have er : (ps_a s1 1152 D.length).toInt = (0 : Int) := X.2.2.2.1.trans rfl
    exact ⟨fun z => absurd (show (8 : Int) ≤ (ps_a s1 1152 D.length).toInt from xle z) (by omega), fun _ => fm_253_r11 h1 hi X B hD hG hpr (fun s2 T => (kk s2 T).le (by omega))⟩
  · have er : (ps_a s1 1152 D.length).toInt = (2 : Int) := X.2.2.2.1.trans rfl
    exact ⟨fun z => absurd (show (8 : Int) ≤ (ps_a s1 1152 D.length).toInt from xle z) (by omega), fun _ => fm_253_r12 hT h1 hi X B hD hG hpr (fun s2 T => (kk s2 T).le (by omega))⟩
  · have er : (ps_a s1 1152 D.length).toInt = (3 : Int) := X.2.2.2.1.trans rfl
    exact ⟨fun z => absurd (show (8 : Int) ≤ (ps_a s1 1152 D.length).toInt from xle z) (by omega), fun _ => fm_253_r13 h1 hi X B hD hG hpr (fun s2 T => (kk s2 T).le (by omega))⟩
  · have er : (ps_a s1 1152 D.length).toInt = (4 : Int) := X.2.2.2.1.trans rfl
    exact ⟨fun z => absurd (show (8 : Int) ≤ (ps_a s1 1152 D.length).toInt from xle z) (by omega), fun _ => fm_253_r14 h1 hi X B hD hG hpr (fun s2 T => (kk s2 T).le (by omega))⟩
  · have er : (ps_a s1 1152 D.length).toInt = (5 : Int) := X.2.2.2.1.trans rfl
    exact ⟨fun z => absurd (show (8 : Int) ≤ (ps_a s1 1152 D.length).toInt from xle z) (by omega), fun _ => fm_253_r15 h1 hi X B hD hG hpr (fun s2 T => (kk s2 T).le (by omega))⟩
  · have er : (ps_a s1 1152 D.length).toInt = (6 : Int) := X.2.2.2.1.trans rfl
    exact ⟨fun z => absurd (show (8 : Int) ≤ (ps_a s1 1152 D.length).toInt from xle z) (by omega), fun _ => fm_253_r16 h1 hi X B hD hG hpr (fun s2 T => (kk s2 T).le (by omega))⟩
  · have er : (ps_a s1 1152 D.length).toInt = (7 : Int) := X.2.2.2.1.trans rfl
    exact ⟨fun z => absurd (show (8 : Int) ≤ (ps_a s1 1152 D.length).toInt from xle z) (by omega), fun _ => fm_253_r17 h1 hi X B hD hG hpr (fun s2 T => (kk s2 T).le (by omega))⟩
  · have er : (ps_a s1 1152 D.length).toInt = (8 : Int) := X.2.2.2.1.trans rfl
    refine ⟨fun _ => ?_, fun z => absurd (show (ps_a s1 1152 D.length).toInt < (8 : Int) from xlt z) (by omega)⟩
    intro _
    refine ⟨fun _ => ?_, fun z => absurd (show (11 : Int) ≤ (ps_a s1 1152 D.length).toInt from xle z) (by omega)⟩
    cases n with
    | zero => exact pl_At_0
    | succ n =>
    exact pl_252_219 (fm_255_r18 h1 hi X B hD hG hpr (fun s2 T => (kk s2 T).le (by omega)))
  · have er : (ps_a s1 1152 D.length).toInt = (9 : Int) := X.2.2.2.1.trans rfl
    refine ⟨fun _ => ?_, fun z => absurd (show (ps_a s1 1152 D.length).toInt < (8 : Int) from xlt z) (by omega)⟩
    intro _
    refine ⟨fun _ => ?_, fun z => absurd (show (11 : Int) ≤ (ps_a s1 1152 D.length).toInt from xle z) (by omega)⟩
    cases n with
    | zero => exact pl_At_0
    | succ n =>
    exact pl_252_219 (fm_255_r19 h1 hi X B hD hG hpr (fun s2 T => (kk s2 T).le (by omega)))
  · have er : (ps_a s1 1152 D.length).toInt = (10 : Int) := X.2.2.2.1.trans rfl
    refine ⟨fun _ => ?_, fun z => absurd (show (ps_a s1 1152 D.length).toInt < (8 : Int) from xlt z) (by omega)⟩
    intro _
    refine ⟨fun _ => ?_, fun z => absurd (show (11 : Int) ≤ (ps_a s1 1152 D.length).toInt from xle z) (by omega)⟩
    cases n with
    | zero => exact pl_At_0
    | succ n =>
    exact pl_252_219 (fm_255_r20 h1 hi X B hD hG hpr (fun s2 T => (kk s2 T).le (by omega)))
  · have er : (ps_a s1 1152 D.length).toInt = (11 : Int) := X.2.2.2.1.trans rfl
    refine ⟨fun _ => ?_, fun z => absurd (show (ps_a s1 1152 D.length).toInt < (8 : Int) from xlt z) (by omega)⟩
    intro _
    refine ⟨fun z => absurd (show (ps_a s1 1152 D.length).toInt < (11 : Int) from xlt z) (by omega), fun _ => ?_⟩
    intro _
    exact ⟨fun _ => fm_257_r21 h1 hi X B hD hG hpr (fun s2 T => (kk s2 T).le (by omega)), fun z => absurd (show (16 : Int) < (ps_a s1 1152 D.length).toInt from xlt z) (by omega)⟩
  · have er : (ps_a s1 1152 D.length).toInt = (12 : Int) := X.2.2.2.1.trans rfl
    refine ⟨fun _ => ?_, fun z => absurd (show (ps_a s1 1152 D.length).toInt < (8 : Int) from xlt z) (by omega)⟩
    intro _
    refine ⟨fun z => absurd (show (ps_a s1 1152 D.length).toInt < (11 : Int) from xlt z) (by omega), fun _ => ?_⟩
    intro _
    exact ⟨fun _ => fm_257_r22 h1 hi X B hD hG hpr (fun s2 T => (kk s2 T).le (by omega)), fun z => absurd (show (16 : Int) < (ps_a s1 1152 D.length).toInt from xlt z) (by omega)⟩
  · have er : (ps_a s1 1152 D.length).toInt = (13 : Int) := X.2.2.2.1.trans rfl
    refine ⟨fun _ => ?_, fun z => absurd (show (ps_a s1 1152 D.length).toInt < (8 : Int) from xlt z) (by omega)⟩
    intro _
    refine ⟨fun z => absurd (show (ps_a s1 1152 D.length).toInt < (11 : Int) from xlt z) (by omega), fun _ => ?_⟩
    intro _
    exact ⟨fun _ => fm_257_r23 h1 hi X B hD hG hpr (fun s2 T => (kk s2 T).le (by omega)), fun z => absurd (show (16 : Int) < (ps_a s1 1152 D.length).toInt from xlt z) (by omega)⟩
  · have er : (ps_a s1 1152 D.length).toInt = (14 : Int) := X.2.2.2.1.trans rfl
    refine ⟨fun _ => ?_, fun z => absurd (show (ps_a s1 1152 D.length).toInt < (8 : Int) from xlt z) (by omega)⟩
    intro _
    refine ⟨fun z => absurd (show (ps_a s1 1152 D.length).toInt < (11 : Int) from xlt z) (by omega), fun _ => ?_⟩
    intro _
    exact ⟨fun _ => fm_257_r24 h1 hi X B hD hG hpr (fun s2 T => (kk s2 T).le (by omega)), fun z => absurd (show (16 : Int) < (ps_a s1 1152 D.length).toInt from xlt z) (by omega)⟩
  · have er : (ps_a s1 1152 D.length).toInt = (16 : Int) := X.2.2.2.1.trans rfl
    refine ⟨fun _ => ?_, fun z => absurd (show (ps_a s1 1152 D.length).toInt < (8 : Int) from xlt z) (by omega)⟩
    intro _
    refine ⟨fun z => absurd (show (ps_a s1 1152 D.length).toInt < (11 : Int) from xlt z) (by omega), fun _ => ?_⟩
    intro _
    exact ⟨fun _ => fm_257_r25 h1 hi X B hD hG hpr (fun s2 T => (kk s2 T).le (by omega)), fun z => absurd (show (16 : Int) < (ps_a s1 1152 D.length).toInt from xlt z) (by omega)⟩
  · have er : (ps_a s1 1152 D.length).toInt = (17 : Int) := X.2.2.2.1.trans rfl
    refine ⟨fun _ => ?_, fun z => absurd (show (ps_a s1 1152 D.length).toInt < (8 : Int) from xlt z) (by omega)⟩
    intro _
    refine ⟨fun z => absurd (show (ps_a s1 1152 D.length).toInt < (11 : Int) from xlt z) (by omega), fun _ => ?_⟩
    intro _
    refine ⟨fun z => absurd (show (ps_a s1 1152 D.length).toInt ≤ (16 : Int) from xle z) (by omega), fun _ => ?_⟩
    cases n with
    | zero => exact pl_At_0
    | succ n =>
    exact pl_252_219 (fm_255_r26 h1 hi X B hD hG hpr (fun s2 T => (kk s2 T).le (by omega)))
  · have er : (ps_a s1 1152 D.length).toInt = (18 : Int) := X.2.2.2.1.trans rfl
    refine ⟨fun _ => ?_, fun z => absurd (show (ps_a s1 1152 D.length).toInt < (8 : Int) from xlt z) (by omega)⟩
    intro _
    refine ⟨fun z => absurd (show (ps_a s1 1152 D.length).toInt < (11 : Int) from xlt z) (by omega), fun _ => ?_⟩
    intro _
    refine ⟨fun z => absurd (show (ps_a s1 1152 D.length).toInt ≤ (16 : Int) from xle z) (by omega), fun _ => ?_⟩
    cases n with
    | zero => exact pl_At_0
    | succ n =>
    exact pl_252_219 (fm_255_r27 h1 hi X B hD hG hpr (fun s2 T => (kk s2 T).le (by omega)))
theorem fm_228x {n : Nat} {g : tx_g} {L : List Nat} {s : ps_S} {R : Int32 → ps_S → Prop} (hb : b < 2) (h21 : (ps_i s 1131 21).toInt = b) (H : mv_E s b g) (M : mk_M s L) (hw : L = [] ∨ ws (sg g) L [true]) (hl : L.length < 100000) (k1 : ∀ s', (L = [] ∨ (L.length ≤ 40 ∧ dp (arh g) L)) ∧ KL s s' → R 1 s') (k0 : ∀ s', (¬ (L.length ≤ 40 ∧ dp (arh g) L)) ∧ KL s s' → R 0 s') : pl_Cl n 228 [.ref 1131] s (ps_rI R) := by
  rcases hw with hw | hw
  · subst hw
    have e := M.1
    have c0 : (0 : Int32).toInt = 0 := Int32.toInt_zero
    have c40 : (40 : Int32).toInt = 40 := by decide
    have e0 : ([] : List Nat).length = 0 := rfl
    cases n with
    | zero => exact pl_At_0
    | succ n =>
    show pl_At (n + 1) 228 0 [(0, .ref 1131)] [] s (ps_rI R)
    refine pl_228_0 ⟨fun _ => ?_, fun z => ?_⟩
    · cases n with
      | zero => exact pl_At_0
      | succ n =>
      refine pl_228_17 ⟨fun _ => k1 s ⟨Or.inl rfl, kq_refl⟩, fun z => ?_⟩
      have z := xlt z
      omega
    · have z := xlt z
      omega
  · exact fm_228 hb h21 H M hw hl (fun s' q => k1 s' ⟨Or.inr q.1, q.2⟩) k0
theorem mpR_new {s s' s2 s3 : ps_S} {L : List Nat} {A : List (List Nat)} (hi : D.length < 40) (hA12 : A.length ≤ 12) (hf : (tq_res h Θ D st).2.1.length ≤ 12) (e1 : L = (tq_mk h Θ D st).2.1) (e2 : A = tq_as D st (tq_mk h Θ D st).2.2) (P : PAm s' D.length A 40) (l1 : ps_a s 1158 D.length = tq_zi D (fun q => q.2.2.1) (if st.1.1 = 10 then tq_b st.2.1.1 else 0) st (tq_np st.1.1)) (l2 : ps_a s 1159 D.length = tq_zi D (fun q => q.2.2.2.1) (if st.1.1 = 12 then tq_b st.1.2.1 else 0) st (tq_np st.1.1)) (l3 : ps_b s 1160 D.length = tq_zj D (fun q => q.2.2.2.2) ((1 : Int64) <<< (Int32.toInt64 (nI D.length) &&& 63)) st (tq_np st.1.1)) (T : TKf D.length s s') (KL2 : KL s' s2) (K3 : kq [1134] [] s2 s3) (P3 : mv_po (41 * D.length) s2 s3) (W3 : mv_W s3 (41 * D.length) L) : mpR (ps_ua s3 1157 D.length (ps_i s3 1131 51)) D.length (tq_res h Θ D st) := by
  obtain ⟨⟨c, p1, p2, p3, p4⟩, p5, p6⟩ := id P
  have Kq : kq [1157] [] s3 (ps_ua s3 1157 D.length (ps_i s3 1131 51)) := kqa kq_refl (by decide)
  have j1 : ps_i s3 1131 51 = ps_i s' 1131 51 := by rw [kq_i K3 51 (by decide), kq_i KL2 51 (by decide)]
  have t8 : ps_a s3 1158 D.length = ps_a s 1158 D.length := by rw [kq_a K3 1158 (by decide), kq_a KL2 1158 (by decide), kq_a T.1 1158 (by decide)]
  have t9 : ps_a s3 1159 D.length = ps_a s 1159 D.length := by rw [kq_a K3 1159 (by decide), kq_a KL2 1159 (by decide), kq_a T.1 1159 (by decide)]
  have t0 : ps_b s3 1160 D.length = ps_b s 1160 D.length := by rw [kq_b K3 1160 (by decide), kq_b KL2 1160 (by decide), kq_b T.1 1160 (by decide)]
  refine ⟨?_, ?_, hf, fun m y hy => ?_, ?_, ?_, ?_⟩
  · refine mv_W_kq ?_ Kq (by decide)
    show mv_W s3 _ (tq_mk h Θ D st).2.1
    rw [← e1]
    exact W3
  · rw [ps_a_ua, if_pos ⟨rfl, rfl⟩, j1]
    show _ = ((tq_as D st (tq_mk h Θ D st).2.2).length : Int)
    rw [← e2, p1]
    have := p3 hA12
    omega
  · have hy : (tq_as D st (tq_mk h Θ D st).2.2)[m]? = some y := hy
    rw [← e2] at hy
    have hml := (List.getElem?_eq_some_iff.mp hy).1
    refine mv_W_kq ?_ Kq (by decide)
    exact mv_W_po (mv_W_kq (p6 m y (by omega) hy) KL2 (by decide)) P3 (by omega)
  · rw [ps_a_ua, if_neg (by omega), t8, l1, ← tq_zi_is]
    rfl
  · rw [ps_a_ua, if_neg (by omega), t9, l2, ← tq_zi_is]
    rfl
  · rw [ps_b_ua, t0, l3, ← tq_zj_is]
    rfl
theorem LEm_step {s0 s s' : ps_S} {m : Nat} (hi : D.length < 40) (X : mpX s0 b h Θ D st) (E : LEm s0 s D st m) (hpr : tq_pr Θ D st) (hm : m < tq_np st.1.1) (q : (KS D.length s s' ∧ ps_a s' 1158 D.length = ps_a s 1158 D.length ||| ps_a s 1158 (pr_k st m) ∧ ps_a s' 1159 D.length = ps_a s 1159 D.length ||| ps_a s 1159 (pr_k st m) ∧ ps_b s' 1160 D.length = ps_b s 1160 D.length ||| ps_b s 1160 (pr_k st m) ∧ kq [1158, 1159, 1160] [] s s')) : LEm s0 s' D st (m + 1) := by
  obtain ⟨K, ⟨b1, b2, b3⟩, l1, l2, l3⟩ := E
  obtain ⟨q1, q2, q3, q4, q5⟩ := q
  obtain ⟨hlt, -⟩ := pr_lt_k hpr hm
  obtain ⟨Rm, e1, -, -, e4⟩ := tq_at hlt
  obtain ⟨-, -, -, -, r5, r6, r7⟩ := (mpX_KS X hi K).2.2.1.2 _ Rm e1
  refine ⟨KS_tr K q1, ⟨by rw [kq_i q5 50 (by decide)]; exact b1, mk_M_kq b2 q5 (by decide) (by decide), ?_⟩, ?_, ?_, ?_⟩
  · obtain ⟨⟨c, p1, p2⟩, p3, p4⟩ := b3
    exact ⟨⟨c, by rw [kq_i q5 51 (by decide)]; exact p1, p2⟩, p3, fun m y _ hy => by cases hy⟩
  · rw [q2, l1, r5]
    show _ = tq_zi D _ _ st m ||| (D.getD (pr_k st m) ([], [], 0, 0, 0)).2.2.1
    rw [e4]
  · rw [q3, l2, r6]
    show _ = tq_zi D _ _ st m ||| (D.getD (pr_k st m) ([], [], 0, 0, 0)).2.2.2.1
    rw [e4]
  · rw [q4, l3, r7]
    show _ = tq_zj D _ _ st m ||| (D.getD (pr_k st m) ([], [], 0, 0, 0)).2.2.2.2
    rw [e4]
theorem fm_252_232 {s0 s : ps_S} (h1 : x1.toInt = D.length) (hi : D.length < 40) (X : mpX s0 b h Θ D st) (hD : tq_GD h.1 D) (hT : tq_GT h.1 Θ) (hwt : WFt h) (hG : tp_G h.1 h.2.length st) (k : ∀ s', ((ps_i s' 1131 50).toInt = (tq_cs h Θ D st : Nat) ∧ (tq_cs h Θ D st = 0 → mpD s' (D ++ [tq_res h Θ D st])) ∧ KS D.length s0 s') → R s') (n' : Nat) (E : LEm s0 s D st (tq_np st.1.1)) (hpr : tq_pr Θ D st) (s' : ps_S) (Tk : TKm s s' h Θ D st) : pl_At n' 252 232 [(0, .ref 1131), (1, .int x1)] [] s' (ps_rV R) := by
  have c0 : (0 : Int32).toInt = 0 := Int32.toInt_zero
  have c12 : (12 : Int32).toInt = 12 := by decide
  have hr := hG.1
  obtain ⟨K, -, l1, l2, l3⟩ := E
  obtain ⟨L, A, h50, M, hw, hl, P, h0, T⟩ := Tk
  have h4 := tq_mk_le (h := h) (Θ := Θ) (D := D) hr
  have Ks : KS D.length s0 s' := KS_tr K (KS_T T)
  have X' := mpX_KS X hi Ks
  obtain ⟨⟨c, p1, p2, p3, p4⟩, p5, p6⟩ := id P
  -- not kept
  have no : ∀ {n2 : Nat} {s2 : ps_S}, (ps_i s2 1131 50).toInt = (tq_cs h Θ D st : Nat) → tq_cs h Θ D st ≠ 0 → KS D.length s0 s2 → pl_At n2 252 253 [(0, .ref 1131), (1, .int x1)] [] s2 (ps_rV R) := fun {n2 s2} hc hn K2 => by
    cases n2 with
    | zero => exact pl_At_0
    | succ n2 =>
    refine pl_252_253 ⟨fun z => ?_, fun _ => k s2 ⟨hc, fun e => absurd e hn, K2⟩⟩
    have z := xle z
    omega
  have no2 : ∀ {n2 : Nat} {s2 : ps_S}, (ps_i s2 1131 50).toInt = ((tq_mk h Θ D st).1 : Nat) → ((tq_mk h Θ D st).1 = 0 → ¬ tq_fit h (tq_res h Θ D st)) → KS D.length s0 s2 → pl_At n2 252 248 [(0, .ref 1131), (1, .int x1)] [] s2 (ps_rV R) := fun {n2 s2} hc hn K2 => by
    cases n2 with
    | zero => exact pl_At_0
    | succ n2 =>
    refine pl_252_248 (fm_241 (c := 5) hc rfl (fun s4 h54 K4 => ?_))
    have K4' := KS_tr K2 (KS_q (i := D.length) K4 (by decide) (by decide))
    unfold bcs at h54
    by_cases e : (tq_mk h Θ D st).1 = 0
    · rw [if_pos e] at h54
      have hc5 := tq_cs_5 hpr e (hn e)
      exact no (by rw [hc5]; exact h54) (by rw [hc5]; decide) K4'
    · rw [if_neg e] at h54
      have hcm := tq_cs_m hpr e
      exact no (by rw [hcm, h54]; omega) (by rw [hcm]; exact e) K4'
  cases n' with
  | zero => exact pl_At_0
  | succ n' =>
  refine pl_252_232 ⟨fun z => no2 h50 (fun e => ?_) Ks, fun z => ?_⟩
  · have z := xlt z
    obtain ⟨e1, e2⟩ := h0 e
    intro ft
    have ft2 : A.length ≤ 12 := by rw [e2]; exact ft.2.1
    have := p3 ft2
    omega
  · have z := xle z
    have hA12 : A.length ≤ 12 := by
      rcases Nat.lt_or_ge 12 A.length with u | u
      · have := p4 u
        omega
      · exact u
    refine fm_228x X'.1.1 X'.1.2.1 X'.1.2.2.1 M hw (by omega) (fun s2 q => ⟨fun _ => ?_, fun w => absurd w (by decide)⟩) (fun s2 q => ⟨fun w => absurd rfl w, fun _ => ?_⟩)
    · obtain ⟨q, KL2⟩ := q
      have K2 : KS D.length s0 s2 := KS_tr Ks (KS_q KL2 (by decide) (by decide))
      have h52 : (ps_i s2 1131 50).toInt = ((tq_mk h Θ D st).1 : Nat) := by rw [kq_i KL2 50 (by decide)]; exact h50
      by_cases e : (tq_mk h Θ D st).1 = 0
      · obtain ⟨e1, e2⟩ := h0 e
        have hwk := tq_mk_ws hwt hG hpr hD hT e
        have hq : L.length ≤ 40 ∧ dp (arh h.1) L := by
          rcases q with q | q
          · rw [← e1, q] at hwk
            obtain ⟨cc, tt, e9⟩ := ws_ne hwk
            cases e9
          · exact q
        have ft : tq_fit h (tq_res h Θ D st) := ⟨by show (tq_mk h Θ D st).2.1.length ≤ 40; rw [← e1]; exact hq.1, by show (tq_as D st _).length ≤ 12; rw [← e2]; exact hA12, by show dp _ (tq_mk h Θ D st).2.1; rw [← e1]; exact hq.2⟩
        have hc0 := tq_cs_0 hpr e ft
        cases n' with
        | zero => exact pl_At_0
        | succ n' =>
        refine pl_252_253 ⟨fun _ => ?_, fun w => ?_⟩
        · have M2 : mk_M s2 L := mk_M_kq M KL2 (by decide) (by decide)
          refine fm_242 h1 (by omega) (fun v1 q1 => fm_229 M2 hq.1 q1 (by omega) (fun s3 W3 K3 P3 => ?_))
          have K23 : KS D.length s0 s3 := KS_tr K2 ⟨kqt kq_refl K3 (by decide) (by decide), fun p a _ => P3 p (by omega), fun j _ => ⟨by rw [kq_a K3 1157 (by decide)], by rw [kq_a K3 1158 (by decide)], by rw [kq_a K3 1159 (by decide)], by rw [kq_b K3 1160 (by decide)]⟩⟩
          intro _
          rw [xtn h1]
          have K4 : KS D.length s0 (ps_ua s3 1157 D.length (ps_i s3 1131 51)) := KS_7 K23
          have Kq : kq [1157] [] s3 (ps_ua s3 1157 D.length (ps_i s3 1131 51)) := kqa kq_refl (by decide)
          refine k _ ⟨?_, fun _ => ⟨?_, fun kk Rk hk => ?_⟩, K4⟩
          · show (ps_i s3 1131 50).toInt = _
            rw [kq_i K3 50 (by decide), hc0, h52, e]
          · rw [List.length_append, List.length_singleton]
            omega
          · rcases Nat.lt_or_ge kk D.length with u | u
            · rw [List.getElem?_append_left u] at hk
              exact mpR_KS (X.2.2.1.2 kk Rk hk) u hi K4
            · have hkl := (List.getElem?_eq_some_iff.mp hk).1
              rw [List.length_append, List.length_singleton] at hkl
              have ek : kk = D.length := by omega
              subst ek
              rw [List.getElem?_append_right (Nat.le_refl _), Nat.sub_self] at hk
              have eR : tq_res h Θ D st = Rk := Option.some.inj hk
              rw [← eR]
              exact mpR_new hi hA12 ft.2.1 e1 e2 P l1 l2 l3 T KL2 K3 P3 W3
        · have w := xlt w
          rw [e] at h52
          omega
      · have hcm := tq_cs_m hpr e
        exact no (by rw [hcm]; exact h52) (by rw [hcm]; exact e) K2
    · obtain ⟨q, KL2⟩ := q
      refine no2 (by rw [kq_i KL2 50 (by decide)]; exact h50) (fun e ft => q ?_) (KS_tr Ks (KS_q KL2 (by decide) (by decide)))
      obtain ⟨e1, -⟩ := h0 e
      rw [e1]
      exact ⟨ft.1, ft.2.2⟩

/-- a step taken -/
theorem fm_252 {n : Nat} {s0 : ps_S} (h1 : x1.toInt = D.length) (hi : D.length < 40) (X : mpX s0 b h Θ D st) (hD : tq_GD h.1 D) (hT : tq_GT h.1 Θ) (hwt : WFt h) (hG : tp_G h.1 h.2.length st) (k : ∀ s', ((ps_i s' 1131 50).toInt = (tq_cs h Θ D st : Nat) ∧ (tq_cs h Θ D st = 0 → mpD s' (D ++ [tq_res h Θ D st])) ∧ KS D.length s0 s') → R s') : pl_Cl n 252 [.ref 1131, .int x1] s0 (ps_rV R) := by
  cases n with
  | zero => exact pl_At_0
  | succ n =>
  show pl_At (n + 1) 252 0 [(0, .ref 1131), (1, .int x1)] [] s0 (ps_rV R)
  have c0 : (0 : Int32).toInt = 0 := Int32.toInt_zero
  have c1 : (1 : Int32).toInt = 1 := by decide
  have c2 : (2 : Int32).toInt = 2 := by decide
  have c12 : (12 : Int32).toInt = 12 := by decide
  have h3 := tq_np_le (r := st.1.1)
  have kd1 : (kd st.1.1 : Int) = 1 ↔ st.1.1 = 10 := by
    have hr := hG.1
    unfold kd
    unfold tp_ok at hr
    split
    · omega
    · split
      · omega
      · split
        · omega
        · split <;> omega
  have kd2 : (kd st.1.1 : Int) = 2 ↔ st.1.1 = 12 := by
    have hr := hG.1
    unfold kd
    unfold tp_ok at hr
    split
    · omega
    · split
      · omega
      · split
        · omega
        · split <;> omega
  have hr := hG.1
  have pr_k0 : pr_k st 0 = st.1.2.1 := rfl
  have at178 : ∀ {n' : Nat} {s : ps_S}, LEm s0 s D st (tq_np st.1.1) → tq_pr Θ D st → pl_At n' 252 178 [(0, .ref 1131), (1, .int x1)] [] s (ps_rV R) := fun {n' s} E hpr => fm_252_178 (n0 := n') h1 hi (mpX_KS X hi E.1) E.2.1 hD hT hwt hG hpr (fm_252_232 h1 hi X hD hT hwt hG k n' E hpr) (Nat.le_succ _)
  have nnp : ∀ {m : Nat}, m < tq_np st.1.1 → m < tp_nn st.1.1 := fun {m} hm => by
    unfold tq_np at hm
    split at hm
    · omega
    · exact hm
  have at162 : ∀ {n' : Nat} {s : ps_S} {x2 : Int32}, x2.toInt = tq_np st.1.1 → LEm s0 s D st (min 2 (tq_np st.1.1)) → tq_pr Θ D st → pl_At n' 252 162 [(0, .ref 1131), (1, .int x1), (2, .int x2)] [] s (ps_rV R) := fun {n' s x2} h2 E hpr => by
    cases n' with
    | zero => exact pl_At_0
    | succ n' =>
    refine pl_252_162 ?_
    rw [xtn h1]
    refine ⟨fun z => at178 ?_ hpr, fun z => ?_⟩
    · have z := xle z
      rw [show min 2 (tq_np st.1.1) = tq_np st.1.1 from by omega] at E
      exact E
    · have z := xlt z
      intro _
      have h3' : (ps_a s 1155 D.length).toInt = st.1.2.2.2 := (mpX_KS X hi E.1).2.2.2.2.2.2.1 (nnp (m := 2) (by omega))
      rw [show min 2 (tq_np st.1.1) = 2 from by omega] at E
      refine fm_251 h1 h3' (fun s' q => at178 ?_ hpr)
      rw [show tq_np st.1.1 = 2 + 1 from by omega]
      exact LEm_step hi X E hpr (by omega) q
  have at146 : ∀ {n' : Nat} {s : ps_S} {x2 : Int32}, x2.toInt = tq_np st.1.1 → LEm s0 s D st (min 1 (tq_np st.1.1)) → tq_pr Θ D st → pl_At n' 252 146 [(0, .ref 1131), (1, .int x1), (2, .int x2)] [] s (ps_rV R) := fun {n' s x2} h2 E hpr => by
    cases n' with
    | zero => exact pl_At_0
    | succ n' =>
    refine pl_252_146 ?_
    rw [xtn h1]
    refine ⟨fun z => at162 h2 ?_ hpr, fun z => ?_⟩
    · have z := xle z
      rw [show min 2 (tq_np st.1.1) = min 1 (tq_np st.1.1) from by omega]
      exact E
    · have z := xlt z
      intro _
      have h3' : (ps_a s 1154 D.length).toInt = st.1.2.2.1 := (mpX_KS X hi E.1).2.2.2.2.2.1 (nnp (m := 1) (by omega))
      rw [show min 1 (tq_np st.1.1) = 1 from by omega] at E
      refine fm_251 h1 h3' (fun s' q => at162 h2 ?_ hpr)
      rw [show min 2 (tq_np st.1.1) = 1 + 1 from by omega]
      exact LEm_step hi X E hpr (by omega) q
  have at84 : ∀ {n' : Nat} {s : ps_S}, KS D.length s0 s → mpB s D.length → (tq_pr Θ D st → ps_a s 1158 D.length = (if st.1.1 = 10 then tq_b st.2.1.1 else 0) ∧ ps_a s 1159 D.length = (if st.1.1 = 12 then tq_b st.1.2.1 else 0)) → pl_At n' 252 84 [(0, .ref 1131), (1, .int x1)] [] s (ps_rV R) := fun {n' s} K B hv => by
    cases n' with
    | zero => exact pl_At_0
    | succ n' =>
    refine pl_252_84 ?_
    rw [xtn h1]
    intro _
    have K2 : KS D.length s0 (ps_ub s 1160 D.length ((1 : Int64) <<< (Int32.toInt64 x1 &&& 63))) := KS_0 K
    have X2 := mpX_KS X hi K2
    obtain ⟨b1, b2, b3⟩ := B
    have B2 : mpB (ps_ub s 1160 D.length ((1 : Int64) <<< (Int32.toInt64 x1 &&& 63))) D.length := ⟨b1, b2, ⟨b3.1, b3.2.1, fun m y _ hy => by cases hy⟩⟩
    refine fm_250 h1 hi X2 hr (fun hp => ⟨fun _ => ?_, fun w => absurd w (by decide)⟩) (fun hp => ⟨fun w => absurd rfl w, fun _ => ?_⟩)
    · obtain ⟨v1, v2⟩ := hv hp
      have E0 : LEm s0 (ps_ub s 1160 D.length ((1 : Int64) <<< (Int32.toInt64 x1 &&& 63))) D st 0 := ⟨K2, B2, v1, v2, by rw [ps_b_ub, if_pos ⟨rfl, rfl⟩, xnI h1]; rfl⟩
      have ek := X2.2.2.2.1
      intro _
      refine ⟨fun z => ?_, fun z => ⟨fun _ => at146 ?_ ?_ hp, fun w => absurd w (by decide)⟩⟩
      · have z : (ps_a _ 1152 D.length).toInt ≠ (2 : Int) := xne z
        have h12 : st.1.1 ≠ 12 := fun w => z (ek.trans (kd2.mpr w))
        have enp : tq_np st.1.1 = tp_nn st.1.1 := by
          unfold tq_np
          rw [if_neg h12]
        intro _
        refine fm_234 ek hr (fun v q => ⟨fun y => at146 (by rw [q, enp]) ?_ hp, fun y => ?_⟩)
        · have y := xle y
          rw [show min 1 (tq_np st.1.1) = 0 from by omega]
          exact E0
        · have y := xlt y
          intro _
          have e1 : (ps_a (ps_ub s 1160 D.length ((1 : Int64) <<< (Int32.toInt64 x1 &&& 63))) 1153 D.length).toInt = st.1.2.1 := X2.2.2.2.2.1 (by omega)
          refine fm_251 h1 e1 (fun s' q' => at146 (by rw [q, enp]) ?_ hp)
          rw [show min 1 (tq_np st.1.1) = 0 + 1 from by omega]
          exact LEm_step hi X E0 hp (by omega) q'
      · have z : (ps_a _ 1152 D.length).toInt = (2 : Int) := xeq z
        have h12 := kd2.mp (ek.symm.trans z)
        unfold tq_np
        rw [if_pos h12]
        rfl
      · have z : (ps_a _ 1152 D.length).toInt = (2 : Int) := xeq z
        have h12 := kd2.mp (ek.symm.trans z)
        have e0 : tq_np st.1.1 = 0 := by
          unfold tq_np
          rw [if_pos h12]
        rw [e0]
        exact E0
    · have hc := tq_cs_1 (h := h) hp
      refine fm_241 (z := 0) (c := 1) b1 rfl (fun s4 h54 K4 => k s4 ⟨by rw [hc]; exact h54, fun e => absurd e (by rw [hc]; decide), KS_tr K2 (KS_q K4 (by decide) (by decide))⟩)
  have ek := X.2.2.2.1
  have hbeg : ∀ a b : Int32, KS D.length s0 (ps_ua (ps_ua (ps_ui (ps_ui (ps_ui s0 1131 50 0) 1131 51 0) 1131 34 0) 1158 D.length a) 1159 D.length b) ∧ mpB (ps_ua (ps_ua (ps_ui (ps_ui (ps_ui s0 1131 50 0) 1131 51 0) 1131 34 0) 1158 D.length a) 1159 D.length b) D.length := fun a b => by
    refine ⟨KS_9 (KS_8 (KS_i (KS_i (KS_i KS_refl (by decide)) (by decide)) (by decide))), ?_, ?_, ⟨⟨0, ?_, Nat.le_refl _, fun _ => rfl, fun w => absurd w (by decide)⟩, by decide, fun m y _ hy => by cases hy⟩⟩
    · show (ps_i (ps_ui (ps_ui (ps_ui s0 1131 50 0) 1131 51 0) 1131 34 0) 1131 50).toInt = 0
      rw [ps_i_ui, if_neg (by omega), ps_i_ui, if_neg (by omega), ps_i_ui, if_pos ⟨rfl, rfl⟩]
      rfl
    · refine ⟨?_, fun m y _ hy => by cases hy⟩
      show (ps_i (ps_ui (ps_ui (ps_ui s0 1131 50 0) 1131 51 0) 1131 34 0) 1131 34).toInt = _
      rw [ps_i_ui, if_pos ⟨rfl, rfl⟩]
      rfl
    · show (ps_i (ps_ui (ps_ui (ps_ui s0 1131 50 0) 1131 51 0) 1131 34 0) 1131 51).toInt = _
      rw [ps_i_ui, if_neg (by omega), ps_i_ui, if_pos ⟨rfl, rfl⟩]
      rfl
  have hval : ∀ a b : Int32, ps_a (ps_ua (ps_ua (ps_ui (ps_ui (ps_ui s0 1131 50 0) 1131 51 0) 1131 34 0) 1158 D.length a) 1159 D.length b) 1158 D.length = a ∧ ps_a (ps_ua (ps_ua (ps_ui (ps_ui (ps_ui s0 1131 50 0) 1131 51 0) 1131 34 0) 1158 D.length a) 1159 D.length b) 1159 D.length = b := fun a b => by
    refine ⟨?_, ?_⟩
    · rw [ps_a_ua, if_neg (by omega), ps_a_ua, if_pos ⟨rfl, rfl⟩]
    · rw [ps_a_ua, if_pos ⟨rfl, rfl⟩]
  have two : ∀ {s : ps_S} {a : Int32}, ps_a (ps_ua s 1158 D.length a) 1152 D.length = ps_a s 1152 D.length := fun {s a} => by rw [ps_a_ua, if_neg (by omega)]
  have two3 : ∀ {s : ps_S} {a : Int32}, ps_a (ps_ua s 1158 D.length a) 1153 D.length = ps_a s 1153 D.length := fun {s a} => by rw [ps_a_ua, if_neg (by omega)]
  have y1 := X.2.1.1
  refine pl_252_0 ?_
  rw [xtn h1]
  intro _
  refine ⟨fun z => ?_, fun z => ?_⟩
  · have z : (ps_a s0 1152 D.length).toInt ≠ (1 : Int) := xne z
    have h10 : st.1.1 ≠ 10 := fun w => z (ek.trans (kd1.mpr w))
    intro _
    intro _
    refine ⟨fun z2 => ?_, fun z2 => ?_⟩
    · rw [two] at z2
      have z2 : (ps_a s0 1152 D.length).toInt ≠ (2 : Int) := xne z2
      have h12 : st.1.1 ≠ 12 := fun w => z2 (ek.trans (kd2.mpr w))
      intro _
      exact at84 (hbeg 0 0).1 (hbeg 0 0).2 (fun _ => by rw [if_neg h10, if_neg h12]; exact hval 0 0)
    · rw [two] at z2
      have z2 : (ps_a s0 1152 D.length).toInt = (2 : Int) := xeq z2
      have h12 := kd2.mp (ek.symm.trans z2)
      have e1 : (ps_a s0 1153 D.length).toInt = st.1.2.1 := X.2.2.2.2.1 (by rw [h12]; decide)
      have epr : tq_pr Θ D st ↔ st.1.2.1 < Θ.length := by
        unfold tq_pr
        rw [if_pos h12]
      intro _
      refine ⟨fun w => ?_, fun w => ?_⟩
      · rw [two3] at w
        have w : (ps_i s0 1131 54).toInt ≤ (ps_a s0 1153 D.length).toInt := xle w
        intro _
        refine at84 (hbeg 0 0).1 (hbeg 0 0).2 (fun hp => ?_)
        have := epr.mp hp
        omega
      · intro _
        intro _
        rw [two3]
        refine at84 (hbeg _ _).1 (hbeg _ _).2 (fun _ => ?_)
        rw [if_neg h10, if_pos h12]
        refine ⟨(hval _ _).1, (hval _ _).2.trans ?_⟩
        show (1 : Int32) <<< ((ps_a s0 1153 D.length) &&& 31) = _
        rw [xnI e1]
        rfl
  · have z : (ps_a s0 1152 D.length).toInt = (1 : Int) := xeq z
    have h10 := kd1.mp (ek.symm.trans z)
    have ea : (ps_a s0 1153 D.length).toInt = st.2.1.1 := X.2.2.2.2.2.2.2.1 h10
    intro _
    intro _
    intro _
    refine ⟨fun z2 => ?_, fun z2 => ?_⟩
    · intro _
      refine at84 (hbeg _ _).1 (hbeg _ _).2 (fun _ => ?_)
      rw [if_pos h10, if_neg (by omega)]
      refine ⟨(hval _ _).1.trans ?_, (hval _ _).2⟩
      show (1 : Int32) <<< ((ps_a s0 1153 D.length) &&& 31) = _
      rw [xnI ea]
      rfl
    · rw [two] at z2
      have z2 : (ps_a s0 1152 D.length).toInt = (2 : Int) := xeq z2
      omega
end TSM

