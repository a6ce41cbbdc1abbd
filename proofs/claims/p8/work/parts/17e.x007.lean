set_option maxRecDepth 100000
theorem xs_78 {m s : ps_S} {t : Int32} {d : Nat} {r0 : Nat} {f : Int32 → ps_S → Prop} (h0 : ps_is r0 3 = true) (J : xJ m t s) (k : ∀ (v : Int32) (s' : ps_S), xJ m t s' → f v s') : ps_Cl (d + 1) 78 [.ref r0] s (ps_rI f) :=
  pg_78_0 (d := d) (xs_78_2 (d := d) (r0 := r0) (x1 := 0)  h0 J k )

-- ProofBench$Reader.takeParts(II)Z
theorem pg_71_0 {d : Nat} {r0 : Nat} {x1 : Int32} {x2 : Int32} {s : ps_S} {Q : Option Value → ps_S → Prop} (h :
  ps_nk (ps_is r0 3) (ps_nk (ps_is (ps_r s r0 5) 9) (ps_Cl d 136 [.ref (ps_r s r0 5), .int x1] s (ps_rI (fun v1 s1 =>
    ps_At (d + 1) 71 9 [(0, .ref r0), (1, .int x1), (2, .int x2), (3, .int v1)] [] s1 Q))))) : ps_At (d + 1) 71 0 [(0, .ref r0), (1, .int x1), (2, .int x2)] [] s Q :=
  ps_wp_at (stops := [(9, [0, 1, 2, 3])]) (n := 7) h rfl

theorem pg_71_9 {d : Nat} {r0 : Nat} {x1 : Int32} {x2 : Int32} {x3 : Int32} {s : ps_S} {Q : Option Value → ps_S → Prop} (h :
  (x3 ≤ 0 →
    Q (some (.int 1)) s) ∧
  (0 < x3 →
    (x1 < 6 →
      ps_nk (ps_is r0 3) (ps_Cl d 70 [.ref r0, .int x2] s (ps_rI (fun v1 s1 =>
        (v1 ≠ 0 →
          ps_At (d + 1) 71 9 [(0, .ref r0), (1, .int x1), (2, .int x2), (3, .int (x3 + (-1)))] [] s1 Q) ∧
        (v1 = 0 →
          Q (some (.int 0)) s1))))) ∧
    (6 ≤ x1 →
      ps_nk (ps_is r0 3) (ps_Cl d 76 [.ref r0, .int x2] s (ps_rI (fun v2 s2 =>
        (v2 = 0 →
          Q (some (.int 0)) s2) ∧
        (v2 ≠ 0 →
          ps_At (d + 1) 71 9 [(0, .ref r0), (1, .int x1), (2, .int x2), (3, .int (x3 + (-1)))] [] s2 Q))))))) : ps_At (d + 1) 71 9 [(0, .ref r0), (1, .int x1), (2, .int x2), (3, .int x3)] [] s Q :=
  ps_wp_at (stops := [(9, [0, 1, 2, 3])]) (n := 26) h rfl

theorem xr_71_9 {m s : ps_S} {t : Int32} {d : Nat} {r0 : Nat} {x1 : Int32} {x2 : Int32} {x3 : Int32} {Q : Option Value → ps_S → Prop} (HF : xsF d x2) (HT : xsT d x2) (h0 : ps_is r0 3 = true) (J : xJ m t s) (k : ∀ (v : Int32) (s' : ps_S), v &&& 1 = v → xJ m t s' → Q (some (.int v)) s') : ps_At (d + 9) 71 9 [(0, .ref r0), (1, .int x1), (2, .int x2), (3, .int x3)] [] s Q :=
  xs_dn (P := fun x3 => ∀ (s : ps_S), ps_is r0 3 = true → xJ m t s → ps_At (d + 9) 71 9 [(0, .ref r0), (1, .int x1), (2, .int x2), (3, .int x3)] [] s Q) (fun x3 ih s h0 J => pg_71_9 (d := d + 8) (And.intro (fun f1 => (k 1 s (by decide) J)) (fun f1 => (And.intro (fun f2 => (ps_nk_i h0 (HF _ _ _ _ _ h0 J (fun v1 s1 b1 J1 => (And.intro (fun f3 => (ih ((x3 + (-1))) (xs_gt f1) s1 h0 J1)) (fun f3 => (k 0 s1 (by decide) J1))))))) (fun f2 => (ps_nk_i h0 (HT _ _ _ _ _ h0 J (fun v2 s2 b2 J2 => (And.intro (fun f4 => (k 0 s2 (by decide) J2)) (fun f4 => (ih ((x3 + (-1))) (xs_gt f1) s2 h0 J2))))))))))) x3 s h0 J

theorem xr_71 {m s : ps_S} {t : Int32} {d : Nat} {r0 : Nat} {x1 : Int32} {x2 : Int32} {f : Int32 → ps_S → Prop} (HF : xsF d x2) (HT : xsT d x2) (h0 : ps_is r0 3 = true) (J : xJ m t s) (k : ∀ (v : Int32) (s' : ps_S), v &&& 1 = v → xJ m t s' → f v s') : ps_Cl (d + 9) 71 [.ref r0, .int x1, .int x2] s (ps_rI f) :=
  pg_71_0 (d := d + 8) (ps_nk_i h0 (ps_nk_i (xj_3_5 J h0) (xs_136 (xj_3_5 J h0) J (fun v1 => (xr_71_9 (d := d) (r0 := r0) (x1 := x1) (x2 := x2) (x3 := v1) HF HT h0 J k )))))

-- ProofBench$Reader.takeBound(I)Z
