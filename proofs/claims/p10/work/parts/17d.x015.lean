set_option maxRecDepth 100000
-- ProofBench$Shape.isTooDeep()Z
theorem pg_106_0 {d : Nat} {r0 : Nat} {s : ps_S} {Q : Option Value → ps_S → Prop} (h :
  ps_nk (ps_is r0 6) ((12 < (ps_i s r0 3) →
    Q (some (.int 1)) s) ∧
  ((ps_i s r0 3) ≤ 12 →
    ps_nk (ps_is r0 6) (((ps_i s r0 4) ≤ 5 →
      Q (some (.int 0)) s) ∧
    (5 < (ps_i s r0 4) →
      Q (some (.int 1)) s))))) : ps_At d 106 0 [(0, .ref r0)] [] s Q :=
  ps_wp_at (stops := []) (n := 18) h rfl


theorem xs_106 {m s : ps_S} {t : Int32} {d : Nat} {r0 : Nat} {f : Int32 → ps_S → Prop} (h0 : ps_is r0 6 = true) (J : xJ m t s) (k : ∀ (v : Int32), v &&& 1 = v → f v s) : ps_Cl d 106 [.ref r0] s (ps_rI f) :=
  pg_106_0 (ps_nk_i h0 (And.intro (fun f1 => (k 1 (by decide))) (fun f1 => (ps_nk_i h0 (And.intro (fun f2 => (k 0 (by decide))) (fun f2 => (k 1 (by decide))))))))


-- ProofBench$Proof.isTooMuch(LProofBench$Step;)Z
theorem pg_41_0 {d : Nat} {r0 : Nat} {r1 : Nat} {s : ps_S} {Q : Option Value → ps_S → Prop} (h :
  ps_nk (ps_is r1 8) (ps_nk (ps_is (ps_c0 r1 6) 5) (((ps_i s (ps_c0 r1 6) 2) ≠ 0 →
    Q (some (.int 1)) s) ∧
  ((ps_i s (ps_c0 r1 6) 2) = 0 →
    ps_nk (ps_is r1 8) (((ps_i s r1 9) = 0 →
      ps_nk (ps_is r0 2) (ps_nk (ps_is r1 8) (ps_nk (ps_is r0 2) (ps_nk (ps_is (ps_c0 r0 5) 6) (ps_Cl d 103 [.ref (ps_c0 r0 5), .ref (ps_c0 r1 6), .ref (ps_r s r0 6)] s (ps_rV (fun s1 =>
        ps_nk (ps_is r0 2) (ps_nk (ps_is (ps_c0 r0 5) 6) (ps_Cl d 106 [.ref (ps_c0 r0 5)] s1 (ps_rI (fun v2 s2 =>
          ps_nd (decide (v2 &&& 1 = v2)) (Q (some (.int v2)) s2)))))))))))) ∧
    ((ps_i s r1 9) ≠ 0 →
      Q (some (.int 1)) s)))))) : ps_At (d + 1) 41 0 [(0, .ref r0), (1, .ref r1)] [] s Q :=
  ps_wp_at (stops := []) (n := 24) h rfl


theorem xs_41 {m s : ps_S} {t : Int32} {d : Nat} {r0 : Nat} {r1 : Nat} {f : Int32 → ps_S → Prop} (h0 : ps_is r0 2 = true) (h1 : ps_is r1 8 = true) (J : xJ m t s) (k : ∀ (v : Int32) (s' : ps_S), v &&& 1 = v → xJ m t s' → f v s') : ps_Cl (d + 2) 41 [.ref r0, .ref r1] s (ps_rI f) :=
  pg_41_0 (d := d + 1) (ps_nk_i h1 (ps_nk_i (xk_8_6 h1) (And.intro (fun f1 => (k 1 s (by decide) J)) (fun f1 => (ps_nk_i h1 (And.intro (fun f2 => (ps_nk_i h0 (ps_nk_i h1 (ps_nk_i h0 (ps_nk_i (xk_2_5 h0) (xs_103 (xk_2_5 h0) (xk_8_6 h1) (xj_2_6 J h0) J (fun s1 J1 => (ps_nk_i h0 (ps_nk_i (xk_2_5 h0) (xs_106 (xk_2_5 h0) J1 (fun v2 b2 => (ps_nd_i (decide_eq_true b2) ((k v2 s1 (of_decide_eq_true (decide_eq_true b2)) J1)))))))))))))) (fun f2 => (k 1 s (by decide) J))))))))


-- ProofBench$Proof.takeOne(ILProofBench$Shelf;)I
theorem pg_35_0 {d : Nat} {r0 : Nat} {x1 : Int32} {r2 : Nat} {s : ps_S} {Q : Option Value → ps_S → Prop} (h :
  ps_nk (ps_is r0 2) (ps_Cl d 33 [.ref r0, .int x1] s (ps_rA (fun v1 s1 =>
    ps_nk (ps_is r0 2) (ps_Cl d 36 [.ref r0, .ref v1, .int x1, .ref r2] s1 (ps_rI (fun v2 s2 =>
      (v2 ≠ 0 →
        ps_At (d + 1) 35 21 [(0, .ref r0), (1, .int x1), (2, .ref r2), (3, .ref v1), (4, .int 0)] [] s2 Q) ∧
      (v2 = 0 →
        Q (some (.int 1)) s2)))))))) : ps_At (d + 1) 35 0 [(0, .ref r0), (1, .int x1), (2, .ref r2)] [] s Q :=
  ps_wp_at (stops := [(21, [0, 1, 2, 3, 4]), (73, [0, 3, 5])]) (n := 16) h rfl

