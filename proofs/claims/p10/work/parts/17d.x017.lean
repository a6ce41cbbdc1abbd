set_option maxRecDepth 100000
-- ProofBench$Proof.takeSteps(LProofBench$Theory;LProofBench$Shelf;)V
theorem pg_34_0 {d : Nat} {r0 : Nat} {r1 : Nat} {r2 : Nat} {s : ps_S} {Q : Option Value → ps_S → Prop} (h :
  ps_nk (ps_is r0 2) (ps_At (d + 1) 34 7 [(0, .ref r0), (2, .ref r2), (3, .int 0)] [] (ps_ur s r0 6 r1) Q)) : ps_At (d + 1) 34 0 [(0, .ref r0), (1, .ref r1), (2, .ref r2)] [] s Q :=
  ps_wp_at (stops := [(7, [0, 2, 3])]) (n := 7) h rfl


theorem pg_34_7 {d : Nat} {r0 : Nat} {r2 : Nat} {x3 : Int32} {s : ps_S} {Q : Option Value → ps_S → Prop} (h :
  ps_nk (ps_is r0 2) (((ps_i s r0 7) ≤ x3 →
    Q none s) ∧
  (x3 < (ps_i s r0 7) →
    ps_nk (ps_is r0 2) (ps_Cl d 35 [.ref r0, .int x3, .ref r2] s (ps_rI (fun v1 s1 =>
      ps_nk (ps_is r0 2) (ps_nk (ps_is r0 2) (((ps_i (ps_ui s1 r0 9 v1) r0 9) = 0 →
        ps_nk (ps_is r0 2) (ps_At (d + 1) 34 7 [(0, .ref r0), (2, .ref r2), (3, .int (x3 + 1))] [] (ps_ui (ps_ui s1 r0 9 v1) r0 8 (x3 + 1)) Q)) ∧
      ((ps_i (ps_ui s1 r0 9 v1) r0 9) ≠ 0 →
        Q none (ps_ui s1 r0 9 v1)))))))))) : ps_At (d + 1) 34 7 [(0, .ref r0), (2, .ref r2), (3, .int x3)] [] s Q :=
  ps_wp_at (stops := [(7, [0, 2, 3])]) (n := 24) h rfl


theorem xs_34_7 {m s : ps_S} {t : Int32} {d : Nat} {r0 : Nat} {r2 : Nat} {x3 : Int32} {Q : Option Value → ps_S → Prop} (h0 : ps_is r0 2 = true) (h2 : ps_is r2 7 = true) (J : xJ m t s) (k : ∀ (s' : ps_S), xJ m t s' → Q none s') : ps_At (d + 6) 34 7 [(0, .ref r0), (2, .ref r2), (3, .int x3)] [] s Q :=
  xs_up (P := fun x3 => ∀ (s : ps_S), ps_is r0 2 = true → ps_is r2 7 = true → xJ m t s → ps_At (d + 6) 34 7 [(0, .ref r0), (2, .ref r2), (3, .int x3)] [] s Q) (fun x3 ih s h0 h2 J => pg_34_7 (d := d + 5) (ps_nk_i h0 (And.intro (fun f1 => (k s J)) (fun f1 => (ps_nk_i h0 (xs_35 h0 h2 J (fun v1 s1 J1 => (ps_nk_i h0 (ps_nk_i h0 (And.intro (fun f2 => (ps_nk_i h0 (ih ((x3 + 1)) (xs_lt f1) (ps_ui (ps_ui s1 r0 9 v1) r0 8 (x3 + 1)) h0 h2 (xw_i (c := 2) (by decide) h0 (xw_i (c := 2) (by decide) h0 J1))))) (fun f2 => (k (ps_ui s1 r0 9 v1) (xw_i (c := 2) (by decide) h0 J1))))))))))))) x3 s h0 h2 J


theorem xs_34 {m s : ps_S} {t : Int32} {d : Nat} {r0 : Nat} {r1 : Nat} {r2 : Nat} {f : ps_S → Prop} (h0 : ps_is r0 2 = true) (h1 : ps_is r1 9 = true) (h2 : ps_is r2 7 = true) (J : xJ m t s) (k : ∀ (s' : ps_S), xJ m t s' → f s') : ps_Cl (d + 6) 34 [.ref r0, .ref r1, .ref r2] s (ps_rV f) :=
  pg_34_0 (d := d + 5) (ps_nk_i h0 (xs_34_7 (d := d) (r0 := r0) (r2 := r2) (x3 := 0)  h0 h2 (xw_2_6 h0 h1 J) k ))


-- ProofBench$Theory.clear()V
theorem pg_126_0 {d : Nat} {r0 : Nat} {s : ps_S} {Q : Option Value → ps_S → Prop} (h :
  ps_nk (ps_is r0 9) (ps_nk (ps_is r0 9) (ps_nk (ps_is r0 9) (Q none (ps_ui (ps_ui (ps_ui s r0 6 0) r0 7 0) r0 8 0))))) : ps_At d 126 0 [(0, .ref r0)] [] s Q :=
  ps_wp_at (stops := []) (n := 12) h rfl

