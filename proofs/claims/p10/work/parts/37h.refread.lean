set_option maxRecDepth 100000
/-! the reference's reader: beginsFormula, beginsTerm, readRow -/
theorem fm_214_23 {n : Nat} {rb to : Nat} {s : ps_S} {T : Nat → Nat} {N : Nat} {E : tx_E} {S : List tx_F} {p : Nat} {l : List Nat} {fr : List (List Nat)}{c : Nat} {x1 x2 x3 : Int32} {R : ps_S → Prop} (HS : mv_S rb s T N E) (HC : mv_C to s T N S p l fr) (hx1 : x1.toInt = to) (hx2 : x2.toInt = c) (hx3 : x3.toInt = 0) (hn : ¬ ((tx_tok T N p).1 = 3 ∧ (tx_tok T N p).2.2.2.2 = 7)) (hc : tx_pc E (tx_tok T N p) = some c) (h45 : c = 4 ∨ c = 5) (k : ∀ s', mv_res to s s' T N E (1, S, p, l, fr, 0) → R s') : pl_At n 214 23 [(0, .ref 1131), (1, .int x1), (2, .int x2), (3, .int x3)] [] s (ps_rV R) := by
  cases n with
  | zero => exact pl_At_0
  | succ n =>
  have hK := HC.2.2.1
  have hp := HC.1
  have c31 := HC.2.2.2.2.2.1
  have c29 := HC.2.2.2.1.1
  have c30 := HC.2.2.2.2.1
  have h13 := HC.2.1.1
  have h40 := HC.2.1.2
  have h1 : (1 : Int32).toInt = 1 := by decide
  have h2 : (2 : Int32).toInt = 2 := by decide
  have e1 : ((ps_i s 1131 31) + 1).toInt = (l.length + tx_due S : Nat) + 1 := by rw [xIa (by omega) (by omega)]; omega
  have e2 : ((ps_i s 1131 31) + 2).toInt = (l.length + tx_due S : Nat) + 2 := by rw [xIa (by omega) (by omega)]; omega
  have a1 : ((ps_i s 1131 29) + 1).toInt = (S.length : Int) + 1 := by rw [xIa (by omega) (by omega)]; omega
  have a2 : ((ps_i s 1131 29) + 2).toInt = (S.length : Int) + 2 := by rw [xIa (by omega) (by omega)]; omega
  have b1 : (((ps_i s 1131 29) + 1) - 1).toInt = (S.length : Int) := by rw [xIs (by omega) (by omega)]; omega
  have b2 : (((ps_i s 1131 29) + 2) - 1).toInt = (S.length : Int) + 1 := by rw [xIs (by omega) (by omega)]; omega
  refine pl_214_23 ?_
  refine ⟨fun h31 => ?_, fun h31 => ?_⟩
  · have h31 : x3.toInt = (0 : Int) := xeq h31
    refine ⟨fun h42 => ?_, fun h42 => ?_⟩
    · have h42 : x2.toInt < (0 : Int) := xlt h42
      exfalso; omega
    · have h42 : (0 : Int) ≤ x2.toInt := xle h42
      refine ⟨fun h54 => ?_, fun h54 => ?_⟩
      · have h54 : (40 : Int) < ((ps_i s 1131 31) + 1).toInt := xlt h54
        exact fm_214_84 (rb := rb) HC (tx_s_full rfl hn hc (fun z => by omega)) k
      · have h54 : ((ps_i s 1131 31) + 1).toInt ≤ (40 : Int) := xle h54
        refine ⟨fun h68 => ?_, fun h68 => ?_⟩
        · have h68 : (12 : Int) < (((ps_i s 1131 29) + 1) - 1).toInt := xlt h68
          exact fm_214_84 (rb := rb) HC (tx_s_full rfl hn hc (fun z => by omega)) k
        · have h68 : (((ps_i s 1131 29) + 1) - 1).toInt ≤ (12 : Int) := xle h68
          refine ⟨fun h73 => ?_, fun h73 => ?_⟩
          · exact absurd h73 (by decide)
          · refine ⟨fun h81 => ?_, fun h81 => ?_⟩
            · have h81 : (ps_i s 1131 30).toInt ≤ (4 : Int) := xle h81
              exact fm_214_88q HS HC hx1 hx2 hx3 rfl rfl hn hc h45 (by omega) (by omega) (by omega) k
            · have h81 : (4 : Int) < (ps_i s 1131 30).toInt := xlt h81
              exact fm_214_84 (rb := rb) HC (tx_s_full rfl hn hc (fun z => by have := z.2.2 h45; omega)) k
  · have h31 : x3.toInt ≠ (0 : Int) := xne h31
    refine ⟨fun h42 => ?_, fun h42 => ?_⟩
    · have h42 : x2.toInt < (0 : Int) := xlt h42
      exfalso; omega
    · have h42 : (0 : Int) ≤ x2.toInt := xle h42
      refine ⟨fun h54 => ?_, fun h54 => ?_⟩
      · have h54 : (40 : Int) < ((ps_i s 1131 31) + 2).toInt := xlt h54
        exfalso; omega
      · have h54 : ((ps_i s 1131 31) + 2).toInt ≤ (40 : Int) := xle h54
        refine ⟨fun h68 => ?_, fun h68 => ?_⟩
        · have h68 : (12 : Int) < (((ps_i s 1131 29) + 2) - 1).toInt := xlt h68
          exfalso; omega
        · have h68 : (((ps_i s 1131 29) + 2) - 1).toInt ≤ (12 : Int) := xle h68
          refine ⟨fun h73 => ?_, fun h73 => ?_⟩
          · exact absurd h73 (by decide)
          · refine ⟨fun h81 => ?_, fun h81 => ?_⟩
            · have h81 : (ps_i s 1131 30).toInt ≤ (4 : Int) := xle h81
              exfalso; omega
            · have h81 : (4 : Int) < (ps_i s 1131 30).toInt := xlt h81
              exfalso; omega
theorem fm_214 {n : Nat} {rb to : Nat} {s : ps_S} {T : Nat → Nat} {N : Nat} {E : tx_E} {S : List tx_F} {p : Nat} {l : List Nat} {fr : List (List Nat)} {x1 : Int32} {R : ps_S → Prop} (HS : mv_S rb s T N E) (HC : mv_C to s T N S p l fr) (hx1 : x1.toInt = to) (k : ∀ s', mv_res to s s' T N E (1, S, p, l, fr, 0) → R s') : pl_Cl n 214 [.ref 1131, .int x1] s (ps_rV R) := by
  cases n with
  | zero => exact pl_At_0
  | succ n =>
  have hK := HC.2.2.1
  have hp := HC.1
  have c31 := HC.2.2.2.2.2.1
  have c29 := HC.2.2.2.1.1
  have c30 := HC.2.2.2.2.1
  have h13 := HC.2.1.1
  have h40 := HC.2.1.2
  have h1 : (1 : Int32).toInt = 1 := by decide
  have h2 : (2 : Int32).toInt = 2 := by decide
  have e1 : ((ps_i s 1131 31) + 1).toInt = (l.length + tx_due S : Nat) + 1 := by rw [xIa (by omega) (by omega)]; omega
  have e2 : ((ps_i s 1131 31) + 2).toInt = (l.length + tx_due S : Nat) + 2 := by rw [xIa (by omega) (by omega)]; omega
  have a1 : ((ps_i s 1131 29) + 1).toInt = (S.length : Int) + 1 := by rw [xIa (by omega) (by omega)]; omega
  have a2 : ((ps_i s 1131 29) + 2).toInt = (S.length : Int) + 2 := by rw [xIa (by omega) (by omega)]; omega
  have b1 : (((ps_i s 1131 29) + 1) - 1).toInt = (S.length : Int) := by rw [xIs (by omega) (by omega)]; omega
  have b2 : (((ps_i s 1131 29) + 2) - 1).toInt = (S.length : Int) + 1 := by rw [xIs (by omega) (by omega)]; omega
  show pl_At (n + 1) 214 0 [(0, .ref 1131), (1, .int x1)] [] s (ps_rV R)
  refine pl_214_0 ?_
  refine fm_213 HS hp hK (fun v1 q1 => ?_)
  refine fm_195 (w := [110, 111, 116]) (q := 7) hK (by decide) (by decide +kernel) (fun q9 => ?_) (fun q9 => ?_)
  · have hv3 : v1.toInt = (3 : Nat) := q1.1 3 (by unfold tx_ph; rw [if_pos q9])
    refine ⟨fun h15 => ?_, fun h15 => ?_⟩
    · have h15 : v1.toInt = (4 : Int) := xeq h15
      exfalso; omega
    · have h15 : v1.toInt ≠ (4 : Int) := xne h15
      refine ⟨fun h20 => ?_, fun h20 => ?_⟩
      · have h20 : v1.toInt ≠ (5 : Int) := xne h20
        refine ⟨fun h31 => ?_, fun h31 => ?_⟩
        · exact absurd h31 (by decide)
        · refine ⟨fun h42 => ?_, fun h42 => ?_⟩
          · have h42 : v1.toInt < (0 : Int) := xlt h42
            exfalso; omega
          · have h42 : (0 : Int) ≤ v1.toInt := xle h42
            refine ⟨fun h54 => ?_, fun h54 => ?_⟩
            · have h54 : (40 : Int) < ((ps_i s 1131 31) + 2).toInt := xlt h54
              exact fm_214_84 (rb := rb) HC (tx_s_notb rfl q9 (by omega)) k
            · have h54 : ((ps_i s 1131 31) + 2).toInt ≤ (40 : Int) := xle h54
              refine ⟨fun h68 => ?_, fun h68 => ?_⟩
              · have h68 : (12 : Int) < (((ps_i s 1131 29) + 2) - 1).toInt := xlt h68
                exact fm_214_84 (rb := rb) HC (tx_s_notb rfl q9 (by omega)) k
              · have h68 : (((ps_i s 1131 29) + 2) - 1).toInt ≤ (12 : Int) := xle h68
                refine ⟨fun h73 => ?_, fun h73 => ?_⟩
                · exact fm_214_88n (c := 0) HS HC hx1 hv3 rfl rfl rfl q9 (by omega) (by omega) k
                · exact absurd h73 (by decide)
      · have h20 : v1.toInt = (5 : Int) := xeq h20
        exfalso; omega
  · have hv : tx_opt (tx_pc E (tx_tok T N p)) v1 := by
      have z := q1
      unfold tx_ph at z
      rw [if_neg q9] at z
      exact z
    have hx4 : v1.toInt = 4 → tx_pc E (tx_tok T N p) = some 4 ∧ v1.toInt = (4 : Nat) := fun z => by
      cases e : tx_pc E (tx_tok T N p) with
      | none => have := hv.2 e; omega
      | some c =>
        have := hv.1 c e
        exact ⟨by rw [show c = 4 from by omega], z⟩
    have hx5 : v1.toInt = 5 → tx_pc E (tx_tok T N p) = some 5 ∧ v1.toInt = (5 : Nat) := fun z => by
      cases e : tx_pc E (tx_tok T N p) with
      | none => have := hv.2 e; omega
      | some c =>
        have := hv.1 c e
        exact ⟨by rw [show c = 5 from by omega], z⟩
    have hxc : 0 ≤ v1.toInt → ∃ c, tx_pc E (tx_tok T N p) = some c ∧ v1.toInt = (c : Nat) := fun z => by
      cases e : tx_pc E (tx_tok T N p) with
      | none => have := hv.2 e; omega
      | some c => exact ⟨c, rfl, hv.1 c e⟩
    refine ⟨fun h15 => ?_, fun h15 => ?_⟩
    · have h15 : v1.toInt = (4 : Int) := xeq h15
      exact fm_214_23 HS HC hx1 (hx4 (by omega)).2 rfl q9 (hx4 (by omega)).1 (Or.inl rfl) k
    · have h15 : v1.toInt ≠ (4 : Int) := xne h15
      refine ⟨fun h20 => ?_, fun h20 => ?_⟩
      · have h20 : v1.toInt ≠ (5 : Int) := xne h20
        refine ⟨fun h31 => ?_, fun h31 => ?_⟩
        · refine ⟨fun h42 => ?_, fun h42 => ?_⟩
          · have h42 : v1.toInt < (0 : Int) := xlt h42
            exact fm_214_84 (rb := rb) HC (tx_s_none rfl q9 ((tx_opt_n hv).mp (by omega))) k
          · have h42 : (0 : Int) ≤ v1.toInt := xle h42
            refine ⟨fun h54 => ?_, fun h54 => ?_⟩
            · have h54 : (40 : Int) < ((ps_i s 1131 31) + 1).toInt := xlt h54
              obtain ⟨c, hc, hvc⟩ := hxc (by omega); exact fm_214_84 (rb := rb) HC (tx_s_full rfl q9 hc (fun z => by omega)) k
            · have h54 : ((ps_i s 1131 31) + 1).toInt ≤ (40 : Int) := xle h54
              refine ⟨fun h68 => ?_, fun h68 => ?_⟩
              · have h68 : (12 : Int) < (((ps_i s 1131 29) + 1) - 1).toInt := xlt h68
                obtain ⟨c, hc, hvc⟩ := hxc (by omega); exact fm_214_84 (rb := rb) HC (tx_s_full rfl q9 hc (fun z => by omega)) k
              · have h68 : (((ps_i s 1131 29) + 1) - 1).toInt ≤ (12 : Int) := xle h68
                refine ⟨fun h73 => ?_, fun h73 => ?_⟩
                · obtain ⟨c, hc, hvc⟩ := hxc (by omega); exact fm_214_88p HS HC hx1 hvc rfl rfl rfl q9 hc (by omega) (by omega) (by omega) k
                · exact absurd h73 (by decide)
        · exact absurd h31 (by decide)
      · have h20 : v1.toInt = (5 : Int) := xeq h20
        exact fm_214_23 HS HC hx1 (hx5 (by omega)).2 rfl q9 (hx5 (by omega)).1 (Or.inr rfl) k

-- ProofBenchModel.beginsTerm(I)V
theorem pl_215_0 {n : Nat} {x1 : Int32} {s : ps_S} {Q : Option Value → ps_S → Prop} (h :
  ((ps_i s 1131 9) ≠ 2 →
    pl_At n 215 19 [(0, .ref 1131), (1, .int x1)] [] s Q) ∧
  ((ps_i s 1131 9) = 2 →
    pl_Cl n 206 [.ref 1131] s (ps_rI (fun v1 s1 =>
      (0 ≤ v1 →
        pl_At n 215 19 [(0, .ref 1131), (1, .int x1)] [] s1 Q) ∧
      (v1 < 0 →
        ((1 : Int32) = 0 →
          pl_At n 215 45 [(0, .ref 1131), (1, .int x1)] [] s1 Q) ∧
        ((1 : Int32) ≠ 0 →
          (40 < ((ps_i s1 1131 31) + 1) →
            pl_At n 215 45 [(0, .ref 1131), (1, .int x1)] [] s1 Q) ∧
          (((ps_i s1 1131 31) + 1) ≤ 40 →
            ((ps_i s1 1131 29) ≤ 12 →
              pl_At n 215 49 [(0, .ref 1131), (1, .int x1)] [] s1 Q) ∧
            (12 < (ps_i s1 1131 29) →
              pl_At n 215 45 [(0, .ref 1131), (1, .int x1)] [] s1 Q)))))))) : pl_At (n + 1) 215 0 [(0, .ref 1131), (1, .int x1)] [] s Q :=
  pl_wp_at (stops := [(19, [0, 1]), (45, [0, 1]), (49, [0, 1])]) (f := 24) h rfl

theorem pl_215_19 {n : Nat} {x1 : Int32} {s : ps_S} {Q : Option Value → ps_S → Prop} (h :
  ((0 : Int32) = 0 →
    pl_At n 215 45 [(0, .ref 1131), (1, .int x1)] [] s Q) ∧
  ((0 : Int32) ≠ 0 →
    (40 < ((ps_i s 1131 31) + 1) →
      pl_At n 215 45 [(0, .ref 1131), (1, .int x1)] [] s Q) ∧
    (((ps_i s 1131 31) + 1) ≤ 40 →
      ((ps_i s 1131 29) ≤ 12 →
        pl_At n 215 49 [(0, .ref 1131), (1, .int x1)] [] s Q) ∧
      (12 < (ps_i s 1131 29) →
        pl_At n 215 45 [(0, .ref 1131), (1, .int x1)] [] s Q)))) : pl_At (n + 1) 215 19 [(0, .ref 1131), (1, .int x1)] [] s Q :=
  pl_wp_at (stops := [(19, [0, 1]), (45, [0, 1]), (49, [0, 1])]) (f := 16) h rfl

theorem pl_215_45 {n : Nat} {x1 : Int32} {s : ps_S} {Q : Option Value → ps_S → Prop} (h :
  pl_Cl n 196 [.ref 1131] s (ps_rV (fun s1 =>
    pl_At n 215 49 [(0, .ref 1131), (1, .int x1)] [] s1 Q))) : pl_At (n + 1) 215 45 [(0, .ref 1131), (1, .int x1)] [] s Q :=
  pl_wp_at (stops := [(19, [0, 1]), (45, [0, 1]), (49, [0, 1])]) (f := 4) h rfl

theorem pl_215_49 {n : Nat} {x1 : Int32} {s : ps_S} {Q : Option Value → ps_S → Prop} (h :
  pl_Cl n 192 [.ref 1131] s (ps_rI (fun v1 s1 =>
    (v1 ≠ 0 →
      pl_Cl n 207 [.ref 1131] s1 (ps_rI (fun v2 s2 =>
        (0 ≤ v2 →
          pl_Cl n 192 [.ref 1131] s2 (ps_rI (fun v3 s3 =>
            (v3 ≠ 0 →
              (0 ≤ v2 →
                pl_Cl n 210 [.ref 1131, .int x1, .int ((20 : Int32) + v2)] (ps_ui s3 1131 31 ((ps_i s3 1131 31) + 1)) (ps_rV (fun s4 =>
                  pl_Cl n 194 [.ref 1131] s4 (ps_rV (fun s5 =>
                    (0 ≤ v2 →
                      (pm_in (((4 : Int32) * (ps_i s5 1131 22)) + v2) 8 = true →
                        pl_Cl n 211 [.ref 1131, .int (ps_a s5 1139 (Int32.toNatClampNeg (((4 : Int32) * (ps_i s5 1131 22)) + v2))), .int 1] s5 (ps_rV (fun s6 =>
                          Q none s6)))) ∧
                    (v2 < 0 →
                      pl_Cl n 211 [.ref 1131, .int 0, .int 1] s5 (ps_rV (fun s7 =>
                        Q none s7)))))))) ∧
              (v2 < 0 →
                pl_Cl n 210 [.ref 1131, .int x1, .int 0] (ps_ui s3 1131 31 ((ps_i s3 1131 31) + 1)) (ps_rV (fun s8 =>
                  pl_Cl n 194 [.ref 1131] s8 (ps_rV (fun s9 =>
                    (0 ≤ v2 →
                      (pm_in (((4 : Int32) * (ps_i s9 1131 22)) + v2) 8 = true →
                        pl_Cl n 211 [.ref 1131, .int (ps_a s9 1139 (Int32.toNatClampNeg (((4 : Int32) * (ps_i s9 1131 22)) + v2))), .int 1] s9 (ps_rV (fun s10 =>
                          Q none s10)))) ∧
                    (v2 < 0 →
                      pl_Cl n 211 [.ref 1131, .int 0, .int 1] s9 (ps_rV (fun s11 =>
                        Q none s11))))))))) ∧
            (v3 = 0 →
              Q none s3)))) ∧
        (v2 < 0 →
          pl_Cl n 216 [.ref 1131] s2 (ps_rI (fun v12 s12 =>
            pl_Cl n 192 [.ref 1131] s12 (ps_rI (fun v13 s13 =>
              (v13 ≠ 0 →
                (0 ≤ v2 →
                  pl_Cl n 210 [.ref 1131, .int x1, .int ((20 : Int32) + v2)] (ps_ui s13 1131 31 ((ps_i s13 1131 31) + 1)) (ps_rV (fun s14 =>
                    pl_Cl n 194 [.ref 1131] s14 (ps_rV (fun s15 =>
                      (0 ≤ v2 →
                        (pm_in (((4 : Int32) * (ps_i s15 1131 22)) + v2) 8 = true →
                          pl_Cl n 211 [.ref 1131, .int (ps_a s15 1139 (Int32.toNatClampNeg (((4 : Int32) * (ps_i s15 1131 22)) + v2))), .int 1] s15 (ps_rV (fun s16 =>
                            Q none s16)))) ∧
                      (v2 < 0 →
                        pl_Cl n 211 [.ref 1131, .int 0, .int 1] s15 (ps_rV (fun s17 =>
                          Q none s17)))))))) ∧
                (v2 < 0 →
                  pl_Cl n 210 [.ref 1131, .int x1, .int v12] (ps_ui s13 1131 31 ((ps_i s13 1131 31) + 1)) (ps_rV (fun s18 =>
                    pl_Cl n 194 [.ref 1131] s18 (ps_rV (fun s19 =>
                      (0 ≤ v2 →
                        (pm_in (((4 : Int32) * (ps_i s19 1131 22)) + v2) 8 = true →
                          pl_Cl n 211 [.ref 1131, .int (ps_a s19 1139 (Int32.toNatClampNeg (((4 : Int32) * (ps_i s19 1131 22)) + v2))), .int 1] s19 (ps_rV (fun s20 =>
                            Q none s20)))) ∧
                      (v2 < 0 →
                        pl_Cl n 211 [.ref 1131, .int 0, .int 1] s19 (ps_rV (fun s21 =>
                          Q none s21))))))))) ∧
              (v13 = 0 →
                Q none s13))))))))) ∧
    (v1 = 0 →
      Q none s1)))) : pl_At (n + 1) 215 49 [(0, .ref 1131), (1, .int x1)] [] s Q :=
  pl_wp_at (stops := [(19, [0, 1]), (45, [0, 1]), (49, [0, 1])]) (f := 147) h rfl

-- ProofBenchModel.readRow(IZZ)V
theorem pl_209_0 {n : Nat} {x1 : Int32} {x2 : Int32} {x3 : Int32} {s : ps_S} {Q : Option Value → ps_S → Prop} (h :
  (pm_in x1 27400 = true →
    pl_nk (decide (x3 &&& 1 = x3)) (pl_At n 209 30 [(0, .ref 1131), (1, .int x1), (2, .int x2), (4, .int 1)] [] (ps_ui (ps_ui (ps_ui (ps_ui (ps_ua s 1134 (Int32.toNatClampNeg x1) 0) 1131 29 0) 1131 30 0) 1131 31 0) 1131 32 x3) Q))) : pl_At (n + 1) 209 0 [(0, .ref 1131), (1, .int x1), (2, .int x2), (3, .int x3)] [] s Q :=
  pl_wp_at (stops := [(30, [0, 1, 2, 4]), (92, [0, 1, 2])]) (f := 21) h rfl

theorem pl_209_30 {n : Nat} {x1 : Int32} {x2 : Int32} {x4 : Int32} {s : ps_S} {Q : Option Value → ps_S → Prop} (h :
  pl_Cl n 192 [.ref 1131] s (ps_rI (fun v1 s1 =>
    (v1 = 0 →
      Q none s1) ∧
    (v1 ≠ 0 →
      (x4 = 0 →
        Q none s1) ∧
      (x4 ≠ 0 →
        ((ps_i s1 1131 29) ≠ 0 →
          (pm_in ((ps_i s1 1131 29) - 1) 16 = true →
            ((ps_a s1 1145 (Int32.toNatClampNeg ((ps_i s1 1131 29) - 1))) ≠ 0 →
              ((0 : Int32) = 0 →
                pl_Cl n 215 [.ref 1131, .int x1] s1 (ps_rV (fun s2 =>
                  pl_At n 209 92 [(0, .ref 1131), (1, .int x1), (2, .int x2)] [] s2 Q))) ∧
              ((0 : Int32) ≠ 0 →
                pl_Cl n 214 [.ref 1131, .int x1] s1 (ps_rV (fun s3 =>
                  pl_At n 209 92 [(0, .ref 1131), (1, .int x1), (2, .int x2)] [] s3 Q)))) ∧
            ((ps_a s1 1145 (Int32.toNatClampNeg ((ps_i s1 1131 29) - 1))) = 0 →
              ((1 : Int32) = 0 →
                pl_Cl n 215 [.ref 1131, .int x1] s1 (ps_rV (fun s4 =>
                  pl_At n 209 92 [(0, .ref 1131), (1, .int x1), (2, .int x2)] [] s4 Q))) ∧
              ((1 : Int32) ≠ 0 →
                pl_Cl n 214 [.ref 1131, .int x1] s1 (ps_rV (fun s5 =>
                  pl_At n 209 92 [(0, .ref 1131), (1, .int x1), (2, .int x2)] [] s5 Q)))))) ∧
        ((ps_i s1 1131 29) = 0 →
          (x2 = 0 →
            pl_Cl n 215 [.ref 1131, .int x1] s1 (ps_rV (fun s6 =>
              pl_At n 209 92 [(0, .ref 1131), (1, .int x1), (2, .int x2)] [] s6 Q))) ∧
          (x2 ≠ 0 →
            pl_Cl n 214 [.ref 1131, .int x1] s1 (ps_rV (fun s7 =>
              pl_At n 209 92 [(0, .ref 1131), (1, .int x1), (2, .int x2)] [] s7 Q))))))))) : pl_At (n + 1) 209 30 [(0, .ref 1131), (1, .int x1), (2, .int x2), (4, .int x4)] [] s Q :=
  pl_wp_at (stops := [(30, [0, 1, 2, 4]), (92, [0, 1, 2])]) (f := 55) h rfl

theorem pl_209_92 {n : Nat} {x1 : Int32} {x2 : Int32} {s : ps_S} {Q : Option Value → ps_S → Prop} (h :
  pl_Cl n 192 [.ref 1131] s (ps_rI (fun v1 s1 =>
    (v1 = 0 →
      pl_At n 209 30 [(0, .ref 1131), (1, .int x1), (2, .int x2), (4, .int 0)] [] s1 Q) ∧
    (v1 ≠ 0 →
      pl_Cl n 212 [.ref 1131, .int x1] s1 (ps_rI (fun v2 s2 =>
        (v2 = 0 →
          pl_At n 209 30 [(0, .ref 1131), (1, .int x1), (2, .int x2), (4, .int 0)] [] s2 Q) ∧
        (v2 ≠ 0 →
          pl_At n 209 30 [(0, .ref 1131), (1, .int x1), (2, .int x2), (4, .int 1)] [] s2 Q))))))) : pl_At (n + 1) 209 92 [(0, .ref 1131), (1, .int x1), (2, .int x2)] [] s Q :=
  pl_wp_at (stops := [(30, [0, 1, 2, 4]), (92, [0, 1, 2])]) (f := 19) h rfl

theorem fm_215_49b {n to : Nat} {s0 s : ps_S} {T : Nat → Nat} {N : Nat} {E : tx_E} {c0 : tx_C} {S' : List tx_F} {pl : Nat} {l' : List Nat} {fr' : List (List Nat)} {kd : Nat} {x1 : Int32} {R : ps_S → Prop} (hs : tx_st T N E c0 = (4, S', pl, l', fr', kd)) (hb : mv_bad to s0 s kd pl) (k : ∀ s', mv_res to s0 s' T N E c0 → R s') : pl_At n 215 49 [(0, .ref 1131), (1, .int x1)] [] s (ps_rV R) := by
  cases n with
  | zero => exact pl_At_0
  | succ n =>
  refine pl_215_49 ?_
  refine fm_192 (fun z => ?_) (fun z => ?_)
  · exfalso
    have := hb.1
    have := hb.2.1
    omega
  · exact ⟨fun h => absurd rfl h, fun _ => k _ (Or.inr ⟨S', pl, l', fr', kd, hs, hb⟩)⟩
theorem fm_215_45 {n : Nat} {rb to : Nat} {s : ps_S} {T : Nat → Nat} {N : Nat} {E : tx_E} {S : List tx_F} {p : Nat} {l : List Nat} {fr : List (List Nat)} {x1 : Int32} {R : ps_S → Prop} (HC : mv_C to s T N S p l fr) (hh : ¬ ((tx_tok T N p).1 = 2 ∧ tx_at (tx_R E) (tx_tok T N p).2.2.2.1 = none ∧ S.length ≤ 12 ∧ l.length + tx_due S + 1 ≤ 40)) (k : ∀ s', mv_res to s s' T N E (0, S, p, l, fr, 0) → R s') : pl_At n 215 45 [(0, .ref 1131), (1, .int x1)] [] s (ps_rV R) := by
  cases n with
  | zero => exact pl_At_0
  | succ n =>
  refine pl_215_45 ?_
  refine fm_196 HC.2.2.2.2.2.2.2.2.1 HC.2.2.1 (fun s1 q1 => ?_)
  exact fm_215_49b (tx_s_tb rfl hh) (mv_bad_mis q1.1 q1.2.1 q1.2.2) k
theorem fm_215_19 {n : Nat} {rb to : Nat} {s : ps_S} {T : Nat → Nat} {N : Nat} {E : tx_E} {S : List tx_F} {p : Nat} {l : List Nat} {fr : List (List Nat)} {x1 : Int32} {R : ps_S → Prop} (HC : mv_C to s T N S p l fr) (hh : ¬ ((tx_tok T N p).1 = 2 ∧ tx_at (tx_R E) (tx_tok T N p).2.2.2.1 = none ∧ S.length ≤ 12 ∧ l.length + tx_due S + 1 ≤ 40)) (k : ∀ s', mv_res to s s' T N E (0, S, p, l, fr, 0) → R s') : pl_At n 215 19 [(0, .ref 1131), (1, .int x1)] [] s (ps_rV R) := by
  cases n with
  | zero => exact pl_At_0
  | succ n =>
  refine pl_215_19 ?_
  refine ⟨fun h22 => ?_, fun h22 => ?_⟩
  · exact fm_215_45 (rb := rb) HC hh k
  · exact absurd h22 (by decide)
theorem mv_D_push0 {to : Nat} {s s' : ps_S} {T : Nat → Nat} {N : Nat} {S : List tx_F} {p : Nat} {l : List Nat} {fr : List (List Nat)} {m q : Nat} {b : Bool} (D : mv_D to s T N S p l fr m) (hS : S.length ≤ 12) (hB : mv_B s' ((q, b, false, none) :: S)) (K : kq [1144, 1145, 1146, 1147] [29] s s') (hm : m = l.length + tx_due S) (h40 : m ≤ 40) : mv_C to s' T N ((q, b, false, none) :: S) p l fr := by
  obtain ⟨d1, d2, d3, d4, d5, d6, d7, d8⟩ := D
  refine ⟨d1, ⟨by rw [List.length_cons]; omega, by show l.length + (0 + tx_due S) ≤ 40; omega⟩, mv_K_kq d2 K (by decide), hB, by rw [kq_i K 30 (by decide)]; exact d4, ?_, mv_W_kq d6 K (by decide), mv_P_kq d7 K (by decide) (by decide), mv_G_kq d8 K (by decide) (by decide)⟩
  rw [kq_i K 31 (by decide), d5, hm]
  show ((l.length + tx_due S : Nat) : Int) = ((l.length + (0 + tx_due S) : Nat) : Int)
  omega
/-- a function's parts -/
theorem mv_arf {s : ps_S} {rb : Nat} {E : tx_E} (h : mv_E s rb E.1) {w : List Nat} {g : Nat} (hg : tx_at (tx_G E) w = some g) : g < 4 ∧ (ps_a s 1139 (4 * rb + g)).toInt = (tx_fa E g : Nat) := by
  obtain ⟨e1, e2, e3, e4, e5, e6⟩ := h
  obtain ⟨-, z2, z3, -⟩ := tx_ix_some hg
  rw [Nat.sub_zero] at z3
  unfold tx_G at z2 z3
  rw [List.length_map] at z2
  rw [List.getElem?_map] at z3
  obtain ⟨a, h1, h2⟩ := Option.map_eq_some_iff.mp z3
  obtain ⟨-, -, -, w4⟩ := e6 g a.1 a.2 h1
  refine ⟨by omega, ?_⟩
  rw [w4]
  unfold tx_fa
  rw [List.getD_eq_getElem?_getD, h1]
  rfl
theorem mv_N_some {to : Nat} {s s' : ps_S} {T : Nat → Nat} {N : Nat} {S : List tx_F} {p : Nat} {l : List Nat} {kd pl : Nat} {o : Option (Nat × List (List Nat))} {v : Int32} (h : mv_N to s T N S p l kd pl o v s') (hg : (ps_i s' 1131 5).toInt = 0) : ∃ c fr2, o = some (c, fr2) ∧ v.toInt = (c : Nat) ∧ mv_C to s' T N S p l fr2 ∧ mv_fr to s s' := by
  unfold mv_N at h
  split at h
  · next c fr2 => exact ⟨c, fr2, rfl, h⟩
  · exfalso
    have := h.1
    have := h.2.1
    omega
theorem mv_N_none {to : Nat} {s s' : ps_S} {T : Nat → Nat} {N : Nat} {S : List tx_F} {p : Nat} {l : List Nat} {kd pl : Nat} {o : Option (Nat × List (List Nat))} {v : Int32} (h : mv_N to s T N S p l kd pl o v s') (hg : (ps_i s' 1131 5).toInt ≠ 0) : o = none ∧ mv_bad to s s' kd pl := by
  unfold mv_N at h
  split at h
  · exact absurd h.2.1.2.2.2.2.2.2.2.2.1 hg
  · exact ⟨rfl, h⟩

theorem fm_215_49 {n : Nat} {rb to : Nat} {s : ps_S} {T : Nat → Nat} {N : Nat} {E : tx_E} {S : List tx_F} {p : Nat} {l : List Nat} {fr : List (List Nat)} {x1 : Int32} {R : ps_S → Prop} (HS : mv_S rb s T N E) (HC : mv_C to s T N S p l fr) (hx1 : x1.toInt = to) (hh : (tx_tok T N p).1 = 2 ∧ tx_at (tx_R E) (tx_tok T N p).2.2.2.1 = none ∧ S.length ≤ 12 ∧ l.length + tx_due S + 1 ≤ 40) (k : ∀ s', mv_res to s s' T N E (0, S, p, l, fr, 0) → R s') : pl_At n 215 49 [(0, .ref 1131), (1, .int x1)] [] s (ps_rV R) := by
  cases n with
  | zero => exact pl_At_0
  | succ n =>
  have hG := HC.2.2.2.2.2.2.2.2
  have hK := HC.2.2.1
  have hp := HC.1
  refine pl_215_49 ?_
  refine fm_192 (fun q50 => ?_) (fun q50 => ?_)
  · refine ⟨fun h53 => ?_, fun h53 => ?_⟩
    · refine fm_207 HS.1 HS.2.1 HS.2.2.2.2 hp hK (fun v58 q58 => ?_)
      rw [if_pos hh.1] at q58
      have q58n : v58.toInt < 0 → tx_at (tx_G E) (tx_tok T N p).2.2.2.1 = none := (tx_opt_n q58).mp
      have q58s : 0 ≤ v58.toInt → ∃ g, tx_at (tx_G E) (tx_tok T N p).2.2.2.1 = some g ∧ v58.toInt = (g : Nat) := fun z => by
        cases e : tx_at (tx_G E) (tx_tok T N p).2.2.2.1 with
        | none => have := (tx_opt_n q58).mpr e; omega
        | some g => exact ⟨g, rfl, q58.1 g e⟩
      refine ⟨fun h63 => ?_, fun h63 => ?_⟩
      · have h63 : (0 : Int) ≤ v58.toInt := xle h63
        refine fm_192 (fun q77 => ?_) (fun q77 => ?_)
        · refine ⟨fun h80 => ?_, fun h80 => ?_⟩
          · refine ⟨fun h97 => ?_, fun h97 => ?_⟩
            · have h97 : (0 : Int) ≤ v58.toInt := xle h97
              obtain ⟨g, hg, hvg⟩ := q58s (by omega)
              obtain ⟨hg4, -⟩ := mv_arf HS.2.2.2.2 hg
              have e20 : ((20 : Int32) + v58).toInt = (20 + g : Nat) := by
                have h20 : (20 : Int32).toInt = 20 := by decide
                rw [xIa (by omega) (by omega)]
                omega
              refine mv_eg (q := 1) HS HC hx1 e20 (by decide) (by decide) (by omega) (fun s113 q113 => ?_)
              obtain ⟨HS1, D, F⟩ := q113
              refine ⟨fun h118 => ?_, fun h118 => ?_⟩
              · have h118 : (0 : Int) ≤ v58.toInt := xle h118
                intro b137
                obtain ⟨b137, c137⟩ := pl_in b137
                have e4 : (((4 : Int32) * (ps_i s113 1131 22)) + v58).toInt = (4 * rb + g : Nat) := by
                  have c4 : (4 : Int32).toInt = 4 := by decide
                  have hrb := HS1.1
                  have m4 : ((4 : Int32) * (ps_i s113 1131 22)).toInt = 4 * rb := by rw [xm01 HS1.2.1 hrb, c4]
                  rw [xIa (by omega) (by omega)]
                  omega
                refine fm_211 (m := tx_fa E g) (b := false) (by rw [xtn e4]; exact (mv_arf HS1.2.2.2.2 hg).2) rfl D.2.2.1 (by omega) (fun s139 q139 => ?_)
                exact k _ (Or.inl ⟨_, _, _, _, tx_s_fun rfl hh hg, mv_D_push0 D hh.2.2.1 q139.1 q139.2 (by rw [List.length_append]; show l.length + tx_due S + 1 = l.length + 1 + tx_due S; omega) (by omega), mv_fr_tr F (mv_fr_kq q139.2 (by decide) (by decide))⟩)
              · have h118 : v58.toInt < (0 : Int) := xlt h118
                exfalso; omega
            · have h97 : v58.toInt < (0 : Int) := xlt h97
              exfalso; omega
          · exact absurd h80 (by decide)
        · refine ⟨fun h80 => ?_, fun h80 => ?_⟩
          · exact absurd h80 (by decide)
          · exact absurd hG.1 q77
      · have h63 : v58.toInt < (0 : Int) := xlt h63
        refine fm_216 HS HC hh.1 (fun v67 s67 q67 => ?_)
        refine fm_192 (fun q77 => ?_) (fun q77 => ?_)
        · refine ⟨fun h80 => ?_, fun h80 => ?_⟩
          · refine ⟨fun h97 => ?_, fun h97 => ?_⟩
            · have h97 : (0 : Int) ≤ v58.toInt := xle h97
              exfalso; omega
            · have h97 : v58.toInt < (0 : Int) := xlt h97
              obtain ⟨c, fr2, hm, hv67, HC67, F67⟩ := mv_N_some q67 q77
              refine mv_eg (q := 1) (mv_S_fr HS F67) HC67 hx1 hv67 (by decide) (by decide) (by omega) (fun s113 q113 => ?_)
              obtain ⟨HS1, D, F⟩ := q113
              refine ⟨fun h118 => ?_, fun h118 => ?_⟩
              · have h118 : (0 : Int) ≤ v58.toInt := xle h118
                intro b137
                obtain ⟨b137, c137⟩ := pl_in b137
                exfalso; omega
              · have h118 : v58.toInt < (0 : Int) := xlt h118
                refine fm_211 (m := 0) (b := false) rfl rfl D.2.2.1 (by omega) (fun s139 q139 => ?_)
                exact k _ (Or.inl ⟨_, _, _, _, tx_s_name rfl hh (q58n (by omega)) hm, mv_D_push0 D hh.2.2.1 q139.1 q139.2 (by rw [List.length_append]; show l.length + tx_due S + 1 = l.length + 1 + tx_due S; omega) (by omega), mv_fr_tr (mv_fr_tr F67 F) (mv_fr_kq q139.2 (by decide) (by decide))⟩)
          · exact absurd h80 (by decide)
        · refine ⟨fun h80 => ?_, fun h80 => ?_⟩
          · exact absurd h80 (by decide)
          · obtain ⟨hm, hb⟩ := mv_N_none q67 q77
            exact k _ (Or.inr ⟨_, _, _, _, _, tx_s_nameb rfl hh (q58n (by omega)) hm, hb⟩)
    · exact absurd h53 (by decide)
  · refine ⟨fun h53 => ?_, fun h53 => ?_⟩
    · exact absurd h53 (by decide)
    · exact absurd hG.1 q50
theorem fm_215 {n : Nat} {rb to : Nat} {s : ps_S} {T : Nat → Nat} {N : Nat} {E : tx_E} {S : List tx_F} {p : Nat} {l : List Nat} {fr : List (List Nat)} {x1 : Int32} {R : ps_S → Prop} (HS : mv_S rb s T N E) (HC : mv_C to s T N S p l fr) (hx1 : x1.toInt = to) (k : ∀ s', mv_res to s s' T N E (0, S, p, l, fr, 0) → R s') : pl_Cl n 215 [.ref 1131, .int x1] s (ps_rV R) := by
  cases n with
  | zero => exact pl_At_0
  | succ n =>
  have hK := HC.2.2.1
  have hp := HC.1
  have c31 := HC.2.2.2.2.2.1
  have c29 := HC.2.2.2.1.1
  have c30 := HC.2.2.2.2.1
  have h13 := HC.2.1.1
  have h40 := HC.2.1.2
  have h1 : (1 : Int32).toInt = 1 := by decide
  have h2 : (2 : Int32).toInt = 2 := by decide
  have e1 : ((ps_i s 1131 31) + 1).toInt = (l.length + tx_due S : Nat) + 1 := by rw [xIa (by omega) (by omega)]; omega
  have e2 : ((ps_i s 1131 31) + 2).toInt = (l.length + tx_due S : Nat) + 2 := by rw [xIa (by omega) (by omega)]; omega
  have a1 : ((ps_i s 1131 29) + 1).toInt = (S.length : Int) + 1 := by rw [xIa (by omega) (by omega)]; omega
  have a2 : ((ps_i s 1131 29) + 2).toInt = (S.length : Int) + 2 := by rw [xIa (by omega) (by omega)]; omega
  have b1 : (((ps_i s 1131 29) + 1) - 1).toInt = (S.length : Int) := by rw [xIs (by omega) (by omega)]; omega
  have b2 : (((ps_i s 1131 29) + 2) - 1).toInt = (S.length : Int) + 1 := by rw [xIs (by omega) (by omega)]; omega
  have h9 := hK.1
  show pl_At (n + 1) 215 0 [(0, .ref 1131), (1, .int x1)] [] s (ps_rV R)
  refine pl_215_0 ?_
  refine ⟨fun h5 => ?_, fun h5 => ?_⟩
  · have h5 : (ps_i s 1131 9).toInt ≠ (2 : Int) := xne h5
    exact fm_215_19 (rb := rb) HC (fun z => by omega) k
  · have h5 : (ps_i s 1131 9).toInt = (2 : Int) := xeq h5
    refine fm_206 HS.1 HS.2.1 HS.2.2.2.2 hp hK (fun v9 q9 => ?_)
    refine ⟨fun h12 => ?_, fun h12 => ?_⟩
    · have h12 : (0 : Int) ≤ v9.toInt := xle h12
      exact fm_215_19 (rb := rb) HC (fun z => by
        have e := (tx_opt_n q9).mpr (by rw [if_pos z.1]; exact z.2.1)
        omega) k
    · have h12 : v9.toInt < (0 : Int) := xlt h12
      refine ⟨fun h22 => ?_, fun h22 => ?_⟩
      · exact absurd h22 (by decide)
      · refine ⟨fun h33 => ?_, fun h33 => ?_⟩
        · have h33 : (40 : Int) < ((ps_i s 1131 31) + 1).toInt := xlt h33
          exact fm_215_45 (rb := rb) HC (fun z => by omega) k
        · have h33 : ((ps_i s 1131 31) + 1).toInt ≤ (40 : Int) := xle h33
          refine ⟨fun h42 => ?_, fun h42 => ?_⟩
          · have h42 : (ps_i s 1131 29).toInt ≤ (12 : Int) := xle h42
            have h2 : (tx_tok T N p).1 = 2 := by omega
            have e := (tx_opt_n q9).mp (by omega)
            rw [if_pos h2] at e
            exact fm_215_49 HS HC hx1 ⟨h2, e, by omega, by omega⟩ k
          · have h42 : (12 : Int) < (ps_i s 1131 29).toInt := xlt h42
            exact fm_215_45 (rb := rb) HC (fun z => by omega) k

