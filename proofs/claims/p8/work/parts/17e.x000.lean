set_option maxRecDepth 100000
-- ProofBench$Reader.begin([BILProofBench$Theory;)V
theorem pg_61_0 {d : Nat} {r0 : Nat} {r1 : Nat} {x2 : Int32} {r3 : Nat} {s : ps_S} {Q : Option Value → ps_S → Prop} (h :
  ps_nk (ps_is r0 3) (ps_nk (ps_is r0 3) (ps_nk (ps_is r0 3) (ps_nk (ps_is r0 3) (ps_nk (ps_is r0 3) (ps_nk (ps_is r0 3) (ps_nk (ps_is r0 3) (ps_nk (ps_is (ps_c0 r0 0) 10) (ps_Cl d 139 [.ref (ps_c0 r0 0), .ref r1, .int x2] (ps_ui (ps_ui (ps_ui (ps_ui (ps_ui (ps_ur s r0 5 r3) r0 2 0) r0 4 0) r0 8 0) r0 9 0) r0 10 (-1)) (ps_rV (fun s1 =>
    Q none s1))))))))))) : ps_At (d + 1) 61 0 [(0, .ref r0), (1, .ref r1), (2, .int x2), (3, .ref r3)] [] s Q :=
  ps_wp_at (stops := []) (n := 26) h rfl

theorem xs_61 {m s : ps_S} {t : Int32} {d : Nat} {r0 : Nat} {r1 : Nat} {x2 : Int32} {r3 : Nat} {f : ps_S → Prop} (h0 : ps_is r0 3 = true) (h1 : ps_ar r1 1 = true ∧ r1 < 1131) (h3 : ps_is r3 9 = true) (J : xJ m t s) (k : ∀ (s' : ps_S), xJ m t s' → f s') : ps_Cl (d + 4) 61 [.ref r0, .ref r1, .int x2, .ref r3] s (ps_rV f) :=
  pg_61_0 (d := d + 3) (ps_nk_i h0 (ps_nk_i h0 (ps_nk_i h0 (ps_nk_i h0 (ps_nk_i h0 (ps_nk_i h0 (ps_nk_i h0 (ps_nk_i (xk_3_0 h0) (xs_139 (xk_3_0 h0) h1 (xw_i (c := 3) (by decide) h0 (xw_i (c := 3) (by decide) h0 (xw_i (c := 3) (by decide) h0 (xw_i (c := 3) (by decide) h0 (xw_i (c := 3) (by decide) h0 (xw_3_5 h0 h3 J)))))) (fun s1 J1 => (k s1 J1)))))))))))

-- ProofBench$Theory.isFull(I)Z
theorem pg_132_0 {d : Nat} {r0 : Nat} {x1 : Int32} {s : ps_S} {Q : Option Value → ps_S → Prop} (h :
  (x1 = 8 →
    ps_nk (ps_is r0 9) (((ps_i s r0 6) < 6 →
      Q (some (.int 0)) s) ∧
    (6 ≤ (ps_i s r0 6) →
      Q (some (.int 1)) s))) ∧
  (x1 ≠ 8 →
    (x1 = 9 →
    ps_nk (ps_is r0 9) (((ps_i s r0 7) < 4 →
      Q (some (.int 0)) s) ∧
    (4 ≤ (ps_i s r0 7) →
      Q (some (.int 1)) s))) ∧
  (x1 ≠ 9 →
    ps_nk (ps_is r0 9) (((ps_i s r0 8) < 8 →
    Q (some (.int 0)) s) ∧
  (8 ≤ (ps_i s r0 8) →
    Q (some (.int 1)) s))))) : ps_At d 132 0 [(0, .ref r0), (1, .int x1)] [] s Q :=
  ps_wp_at (stops := []) (n := 31) h rfl

theorem xs_132 {m s : ps_S} {t : Int32} {d : Nat} {r0 : Nat} {x1 : Int32} {f : Int32 → ps_S → Prop} (h0 : ps_is r0 9 = true) (J : xJ m t s) (k : ∀ (v : Int32), v &&& 1 = v → f v s) : ps_Cl d 132 [.ref r0, .int x1] s (ps_rI f) :=
  pg_132_0 (And.intro (fun f1 => (ps_nk_i h0 (And.intro (fun f2 => (k 0 (by decide))) (fun f2 => (k 1 (by decide)))))) (fun f1 => (And.intro (fun f3 => (ps_nk_i h0 (And.intro (fun f4 => (k 0 (by decide))) (fun f4 => (k 1 (by decide)))))) (fun f3 => (ps_nk_i h0 (And.intro (fun f5 => (k 0 (by decide))) (fun f5 => (k 1 (by decide)))))))))

-- ProofBench$Reader.refuse(I)Z
theorem pg_62_0 {d : Nat} {r0 : Nat} {x1 : Int32} {s : ps_S} {Q : Option Value → ps_S → Prop} (h :
  ps_nk (ps_is r0 3) (ps_nk (ps_is (ps_c0 r0 0) 10) (((ps_i s (ps_c0 r0 0) 4) ≠ 1 →
    ps_nk (ps_is r0 3) (ps_nk (ps_is r0 3) (ps_nk (ps_is (ps_c0 r0 0) 10) (ps_nk (ps_is r0 3) (Q (some (.int 0)) (ps_ui (ps_ui s r0 9 x1) r0 10 (ps_i (ps_ui s r0 9 x1) (ps_c0 r0 0) 5))))))) ∧
  ((ps_i s (ps_c0 r0 0) 4) = 1 →
    ps_nk (ps_is r0 3) (ps_nk (ps_is r0 3) (ps_nk (ps_is (ps_c0 r0 0) 10) (ps_nk (ps_is r0 3) (Q (some (.int 0)) (ps_ui (ps_ui s r0 9 1) r0 10 (ps_i (ps_ui s r0 9 1) (ps_c0 r0 0) 5)))))))))) : ps_At d 62 0 [(0, .ref r0), (1, .int x1)] [] s Q :=
  ps_wp_at (stops := []) (n := 27) h rfl

