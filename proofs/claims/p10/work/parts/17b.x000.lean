set_option maxRecDepth 100000
-- ProofBench$Judge.measureAxioms()V
theorem pg_9_0 {d : Nat} {r0 : Nat} {s : ps_S} {Q : Option Value → ps_S → Prop} (h :
  ps_At (d + 1) 9 2 [(0, .ref r0), (1, .int 0)] [] s Q) : ps_At (d + 1) 9 0 [(0, .ref r0)] [] s Q :=
  ps_wp_at (stops := [(2, [0, 1])]) (n := 4) h rfl


theorem pg_9_2 {d : Nat} {r0 : Nat} {x1 : Int32} {s : ps_S} {Q : Option Value → ps_S → Prop} (h :
  ps_nk (ps_is r0 0) (ps_nk (ps_is (ps_r s r0 16) 9) (((ps_i s (ps_r s r0 16) 8) ≤ x1 →
    Q none s) ∧
  (x1 < (ps_i s (ps_r s r0 16) 8) →
    ps_nk (ps_is r0 0) (ps_Cl d 10 [.ref r0, .int x1] s (ps_rA (fun v1 s1 =>
      ps_nk (ps_is r0 0) (ps_nk (ps_is (ps_r s1 r0 16) 9) (ps_Cl d 135 [.ref (ps_r s1 r0 16), .int x1] s1 (ps_rA (fun v2 s2 =>
        ps_nk (ps_is r0 0) (ps_nk (ps_is v1 6) (ps_Cl d 103 [.ref v1, .ref v2, .ref (ps_r s2 r0 16)] s2 (ps_rV (fun s3 =>
          ps_At (d + 1) 9 2 [(0, .ref r0), (1, .int (x1 + 1))] [] s3 Q))))))))))))))) : ps_At (d + 1) 9 2 [(0, .ref r0), (1, .int x1)] [] s Q :=
  ps_wp_at (stops := [(2, [0, 1])]) (n := 20) h rfl


theorem xs_9_2 {m s : ps_S} {t : Int32} {d : Nat} {r0 : Nat} {x1 : Int32} {Q : Option Value → ps_S → Prop} (h0 : ps_is r0 0 = true) (J : xJ m t s) (k : ∀ (s' : ps_S), xJ m t s' → Q none s') : ps_At (d + 2) 9 2 [(0, .ref r0), (1, .int x1)] [] s Q :=
  xs_up (P := fun x1 => ∀ (s : ps_S), ps_is r0 0 = true → xJ m t s → ps_At (d + 2) 9 2 [(0, .ref r0), (1, .int x1)] [] s Q) (fun x1 ih s h0 J => pg_9_2 (d := d + 1) (ps_nk_i h0 (ps_nk_i (xj_0_16 J h0) (And.intro (fun f1 => (k s J)) (fun f1 => (ps_nk_i h0 (xs_10 h0 J (fun v1 h1 => (ps_nk_i h0 (ps_nk_i (xj_0_16 J h0) (xs_135 (xj_0_16 J h0) J (fun v2 h2 => (ps_nk_i h0 (ps_nk_i h1 (xs_103 h1 h2 (xj_0_16 J h0) J (fun s3 J3 => (ih ((x1 + 1)) (xs_lt f1) s3 h0 J3))))))))))))))))) x1 s h0 J


theorem xs_9 {m s : ps_S} {t : Int32} {d : Nat} {r0 : Nat} {f : ps_S → Prop} (h0 : ps_is r0 0 = true) (J : xJ m t s) (k : ∀ (s' : ps_S), xJ m t s' → f s') : ps_Cl (d + 2) 9 [.ref r0] s (ps_rV f) :=
  pg_9_0 (d := d + 1) (xs_9_2 (d := d) (r0 := r0) (x1 := 0)  h0 J k )


-- ProofBench$Judge.setDigits(I)V
theorem pg_8_0 {d : Nat} {r0 : Nat} {x1 : Int32} {s : ps_S} {Q : Option Value → ps_S → Prop} (h :
  ps_nk (ps_is r0 0) (ps_At (d + 1) 8 9 [(0, .ref r0), (2, .int x1), (3, .int ((ps_i s r0 2) - 1))] [] s Q)) : ps_At (d + 1) 8 0 [(0, .ref r0), (1, .int x1)] [] s Q :=
  ps_wp_at (stops := [(9, [0, 2, 3])]) (n := 9) h rfl

