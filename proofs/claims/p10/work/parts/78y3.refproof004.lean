set_option maxRecDepth 100000
-- ProofBenchModel.readAxiom(I)V
theorem pl_239_0 {n : Nat} {x1 : Int32} {s : ps_S} {Q : Option Value → ps_S → Prop} (h :
  ((ps_i s 1131 9) = 2 →
    pl_Cl n 205 [.ref 1131] s (ps_rI (fun v1 s1 =>
      (0 ≤ v1 →
        pl_At n 239 32 [(0, .ref 1131), (1, .int x1)] [] s1 Q) ∧
      (v1 < 0 →
        pl_Cl n 191 [.ref 1131, .int 6, .int (ps_i s1 1131 7)] s1 (ps_rV (fun s2 =>
          pl_At n 239 32 [(0, .ref 1131), (1, .int x1)] [] s2 Q)))))) ∧
  ((ps_i s 1131 9) ≠ 2 →
    pl_Cl n 196 [.ref 1131] s (ps_rV (fun s3 =>
      pl_At n 239 32 [(0, .ref 1131), (1, .int x1)] [] s3 Q)))) : pl_At (n + 1) 239 0 [(0, .ref 1131), (1, .int x1)] [] s Q :=
  pl_wp_at (stops := [(32, [0, 1])]) (f := 17) h rfl


theorem pl_239_32 {n : Nat} {x1 : Int32} {s : ps_S} {Q : Option Value → ps_S → Prop} (h :
  pl_Cl n 205 [.ref 1131] s (ps_rI (fun v1 s1 =>
    (pm_in x1 40 = true →
      pl_Cl n 192 [.ref 1131] (ps_ua s1 1153 (Int32.toNatClampNeg x1) v1) (ps_rI (fun v2 s2 =>
        (v2 = 0 →
          Q none s2) ∧
        (v2 ≠ 0 →
          pl_Cl n 194 [.ref 1131] s2 (ps_rV (fun s3 =>
            Q none s3))))))))) : pl_At (n + 1) 239 32 [(0, .ref 1131), (1, .int x1)] [] s Q :=
  pl_wp_at (stops := [(32, [0, 1])]) (f := 15) h rfl


def rv_L0 (s : ps_S) (rb : Nat) (T : Nat → Nat) (N : Nat) (h : tx_H) (p : Nat) : Prop := rb < 2 ∧ (ps_i s 1131 22).toInt = rb ∧ mv_H s rb h ∧ p ≤ N ∧ mv_K s (tx_tok T N p)
