set_option maxRecDepth 100000
/-! the reader: it writes its own cells and the row that it fills -/
def rJ (C : Nat → Prop) (m : ps_S) (t : Int32) (s : ps_S) : Prop := zJ C m t s ∧ zI C (ps_r s 902 6) 5
theorem rw_i {C : Nat → Prop} {m s : ps_S} {t : Int32} {r c q : Nat} {v : Int32} (hc : c < 11) (h : zI C r c) (J : rJ C m t s) : rJ C m t (ps_ui s r q v) := ⟨zw_i hc h J.1, J.2⟩
theorem rw_j {C : Nat → Prop} {m s : ps_S} {t : Int32} {r c q : Nat} {v : Int64} (hc : c < 11) (h : zI C r c) (J : rJ C m t s) : rJ C m t (ps_uj s r q v) := ⟨zw_j hc h J.1, J.2⟩
theorem rw_a {C : Nat → Prop} {m s : ps_S} {t : Int32} {r q : Nat} {v : Int32} (p : ps_ar r 0 = true ∧ r < 1131 ∧ C r) (J : rJ C m t s) : rJ C m t (ps_ua s r q v) := ⟨zw_a p J.1, J.2⟩
theorem rw_b {C : Nat → Prop} {m s : ps_S} {t : Int32} {r q : Nat} {v : Int64} (p : ps_ar r 3 = true ∧ r < 1131 ∧ C r) (J : rJ C m t s) : rJ C m t (ps_ub s r q v) := ⟨zw_b p J.1, J.2⟩
def rdr (a : Nat) : Nat → Bool
  | 0 => true
  | n + 1 => (!ps_is (a + n) 3 || Nat.beq (a + n) 902) && rdr a n
theorem rdr_ok {a : Nat} : ∀ {n : Nat}, rdr a n = true → ∀ r, a ≤ r → r < a + n → ps_is r 3 = true → r = 902
  | 0, _, r, h1, h2, _ => by omega
  | n + 1, h, r, h1, h2, h3 => by
    unfold rdr at h
    rw [Bool.and_eq_true] at h
    by_cases e : r = a + n
    · have g := h.1
      rw [← e, h3, Bool.or_eq_true] at g
      rcases g with g | g
      · cases g
      · exact Nat.eq_of_beq_eq_true g
    · exact rdr_ok h.2 r h1 (by omega) h3
set_option maxRecDepth 1000000
theorem rdr_0 : rdr 0 150 = true := by decide +kernel
theorem rdr_150 : rdr 150 150 = true := by decide +kernel
theorem rdr_300 : rdr 300 150 = true := by decide +kernel
theorem rdr_450 : rdr 450 150 = true := by decide +kernel
theorem rdr_600 : rdr 600 150 = true := by decide +kernel
theorem rdr_750 : rdr 750 150 = true := by decide +kernel
theorem rdr_900 : rdr 900 150 = true := by decide +kernel
theorem rdr_1050 : rdr 1050 81 = true := by decide +kernel
set_option maxRecDepth 100000
theorem rdr_is {r : Nat} (h : ps_is r 3 = true) : r = 902 := by
  have hr := xis_lt (by decide) h
  by_cases h150 : r < 150
  · exact rdr_ok rdr_0 r (by omega) (by omega) h
  by_cases h300 : r < 300
  · exact rdr_ok rdr_150 r (by omega) (by omega) h
  by_cases h450 : r < 450
  · exact rdr_ok rdr_300 r (by omega) (by omega) h
  by_cases h600 : r < 600
  · exact rdr_ok rdr_450 r (by omega) (by omega) h
  by_cases h750 : r < 750
  · exact rdr_ok rdr_600 r (by omega) (by omega) h
  by_cases h900 : r < 900
  · exact rdr_ok rdr_750 r (by omega) (by omega) h
  by_cases h1050 : r < 1050
  · exact rdr_ok rdr_900 r (by omega) (by omega) h
  exact rdr_ok rdr_1050 r (by omega) (by omega) h
theorem rw_row {C : Nat → Prop} {m s : ps_S} {t : Int32} {r : Nat} (J : rJ C m t s) (h : ps_is r 3 = true) : zI C (ps_r s r 6) 5 := by
  rw [rdr_is h]
  exact J.2
def qsF (C : Nat → Prop) (d : Nat) (x : Int32) : Prop := ∀ (m s : ps_S) (t : Int32) (r0 : Nat) (f : Int32 → ps_S → Prop), zI C r0 3 → rJ C m t s → (∀ (v : Int32) (s' : ps_S), v &&& 1 = v → rJ C m t s' → f v s') → ps_Cl (d + 8) 70 [.ref r0, .int x] s (ps_rI f)
def qsT (C : Nat → Prop) (d : Nat) (x : Int32) : Prop := ∀ (m s : ps_S) (t : Int32) (r0 : Nat) (f : Int32 → ps_S → Prop), zI C r0 3 → rJ C m t s → (∀ (v : Int32) (s' : ps_S), v &&& 1 = v → rJ C m t s' → f v s') → ps_Cl (d + 8) 76 [.ref r0, .int x] s (ps_rI f)
theorem qs_93 {C : Nat → Prop} {m s : ps_S} {t : Int32} {d : Nat} {r0 : Nat} {x1 : Int32} {f : ps_S → Prop} (h0 : zI C r0 5) (J : rJ C m t s) (k : ∀ (s' : ps_S), rJ C m t s' → f s') : ps_Cl d 93 [.ref r0, .int x1] s (ps_rV f) :=
  pg_93_0 (ps_nk_i (h0).1 (And.intro (fun f1 => (ps_nk_i (h0).1 (k (ps_ui s r0 2 1) (rw_i (c := 5) (by decide) h0 J)))) (fun f1 => (ps_nk_i (h0).1 (ps_nk_i (h0).1 (ps_nk_i (xn_l ((xk_5_0 (h0).1)).1) (And.intro (fun f2 => (ps_nk_i (h0).1 (k (ps_ui s r0 2 1) (rw_i (c := 5) (by decide) h0 J)))) (fun f2 => (ps_nk_i (h0).1 (ps_nk_i (h0).1 (ps_nk_i (xn_0 ((xk_5_0 (h0).1)).1) (ps_nd_i (xg_in f1 f2) (ps_nk_i (h0).1 (ps_nk_i (h0).1 (k (ps_ui (ps_ua s (ps_c0 r0 0) (Int32.toNatClampNeg (ps_i s r0 1)) x1) r0 1 ((ps_i (ps_ua s (ps_c0 r0 0) (Int32.toNatClampNeg (ps_i s r0 1)) x1) r0 1) + 1)) (rw_i (c := 5) (by decide) h0 (rw_a (za_5_0 h0) J)))))))))))))))))

theorem qs_141_78 {C : Nat → Prop} {m s : ps_S} {t : Int32} {d : Nat} {r0 : Nat} {x2 : Int32} {Q : Option Value → ps_S → Prop} (h0 : zI C r0 10) (e0 : 0 ≤ x2) (J : rJ C m t s) (k : ∀ (s' : ps_S), rJ C m t s' → Q none s') : ps_At (d + 1) 141 78 [(0, .ref r0), (2, .int x2)] [] s Q :=
  xs_up (P := fun x2 => ∀ (s : ps_S), zI C r0 10 → 0 ≤ x2 → rJ C m t s → ps_At (d + 1) 141 78 [(0, .ref r0), (2, .int x2)] [] s Q) (fun x2 ih s h0 e0 J => pg_141_78 (d := d) (ps_nk_i (h0).1 (ps_nk_i (xn_l ((xk_10_0 (h0).1)).1) (And.intro (fun f1 => (k s J)) (fun f1 => (ps_nk_i (h0).1 (And.intro (fun f2 => (k s J)) (fun f2 => (ps_nk_i (h0).1 (ps_nk_i (xn_3 ((xk_10_0 (h0).1)).1) (ps_nd_i (xg_in e0 f1) (ps_nk_i (h0).1 (And.intro (fun f3 => (ih ((x2 + 1)) (xs_lt f1) s h0 (xs_nn e0 f1) J)) (fun f3 => (ps_nk_i (h0).1 (ps_nk_i (h0).1 (ih ((x2 + 1)) (xs_lt f1) (ps_ui (ps_ui s r0 4 3) r0 6 x2) h0 (xs_nn e0 f1) (rw_i (c := 10) (by decide) h0 (rw_i (c := 10) (by decide) h0 J))))))))))))))))))) x2 s h0 e0 J

theorem qs_141_51 {C : Nat → Prop} {m s : ps_S} {t : Int32} {d : Nat} {r0 : Nat} {x1 : Int32} {Q : Option Value → ps_S → Prop} (h0 : zI C r0 10) (J : rJ C m t s) (k : ∀ (s' : ps_S), rJ C m t s' → Q none s') : ps_At (d + 1) 141 51 [(0, .ref r0), (1, .int x1)] [] s Q :=
  pg_141_51 (d := d) (ps_nk_i (h0).1 (ps_nk_i (h0).1 (And.intro (fun f1 => (ps_nk_i (h0).1 (qs_141_78 (d := d) (r0 := r0) (x2 := 0)  h0 (by decide) (rw_i (c := 10) (by decide) h0 (rw_i (c := 10) (by decide) h0 J)) k ))) (fun f1 => (ps_nk_i (h0).1 (qs_141_78 (d := d) (r0 := r0) (x2 := 0)  h0 (by decide) (rw_i (c := 10) (by decide) h0 (rw_i (c := 10) (by decide) h0 J)) k ))))))

theorem qs_141_10 {C : Nat → Prop} {m s : ps_S} {t : Int32} {d : Nat} {r0 : Nat} {x1 : Int32} {Q : Option Value → ps_S → Prop} (h0 : zI C r0 10) (J : rJ C m t s) (k : ∀ (s' : ps_S), rJ C m t s' → Q none s') : ps_At (d + 1) 141 10 [(0, .ref r0), (1, .int x1)] [] s Q :=
  xs_up (P := fun x1 => ∀ (s : ps_S), zI C r0 10 → rJ C m t s → ps_At (d + 1) 141 10 [(0, .ref r0), (1, .int x1)] [] s Q) (fun x1 ih s h0 J => pg_141_10 (d := d) (ps_nk_i (h0).1 (And.intro (fun f1 => (qs_141_51 (d := d) (r0 := r0) (x1 := x1)  h0 J k )) (fun f1 => (ps_nk_i (h0).1 (xs_143 (h0).1 (J).1.1 (fun v1 => (xs_146  (J).1.1 (fun v2 b2 => (And.intro (fun f2 => (qs_141_51 (d := d) (r0 := r0) (x1 := x1)  h0 J k )) (fun f2 => (ps_nk_i (h0).1 (ps_nk_i (h0).1 (xs_143 (h0).1 (J).1.1 (fun v3 => (xs_144  (J).1.1 (fun v4 => (ps_nk_i (h0).1 (ih ((x1 + 1)) (xs_lt f1) (ps_uj s r0 8 v4) h0 (rw_j (c := 10) (by decide) h0 J)))))))))))))))))))) x1 s h0 J

theorem qs_141 {C : Nat → Prop} {m s : ps_S} {t : Int32} {d : Nat} {r0 : Nat} {f : ps_S → Prop} (h0 : zI C r0 10) (J : rJ C m t s) (k : ∀ (s' : ps_S), rJ C m t s' → f s') : ps_Cl (d + 1) 141 [.ref r0] s (ps_rV f) :=
  pg_141_0 (d := d) (ps_nk_i (h0).1 (ps_nk_i (h0).1 (qs_141_10 (d := d) (r0 := r0) (x1 := (ps_i s r0 5))  h0 (rw_j (c := 10) (by decide) h0 J) k )))

theorem qs_142_55 {C : Nat → Prop} {m s : ps_S} {t : Int32} {d : Nat} {r0 : Nat} {x1 : Int32} {Q : Option Value → ps_S → Prop} (h0 : zI C r0 10) (J : rJ C m t s) (k : ∀ (s' : ps_S), rJ C m t s' → Q none s') : ps_At (d + 1) 142 55 [(0, .ref r0), (1, .int x1)] [] s Q :=
  pg_142_55 (d := d) (ps_nk_i (h0).1 (ps_nk_i (h0).1 (And.intro (fun f1 => (ps_nk_i (h0).1 (k (ps_ui (ps_ui s r0 3 x1) r0 4 1) (rw_i (c := 10) (by decide) h0 (rw_i (c := 10) (by decide) h0 J))))) (fun f1 => (ps_nk_i (h0).1 (xs_143 (h0).1 ((rw_i (c := 10) (by decide) h0 J)).1.1 (fun v1 => (xs_146  ((rw_i (c := 10) (by decide) h0 J)).1.1 (fun v2 b2 => (And.intro (fun f2 => (ps_nk_i (h0).1 (k (ps_ui (ps_ui s r0 3 x1) r0 4 4) (rw_i (c := 10) (by decide) h0 (rw_i (c := 10) (by decide) h0 J))))) (fun f2 => (ps_nk_i (h0).1 (k (ps_ui (ps_ui s r0 3 x1) r0 4 1) (rw_i (c := 10) (by decide) h0 (rw_i (c := 10) (by decide) h0 J)))))))))))))))

theorem qs_142_10 {C : Nat → Prop} {m s : ps_S} {t : Int32} {d : Nat} {r0 : Nat} {x1 : Int32} {Q : Option Value → ps_S → Prop} (h0 : zI C r0 10) (J : rJ C m t s) (k : ∀ (s' : ps_S), rJ C m t s' → Q none s') : ps_At (d + 1) 142 10 [(0, .ref r0), (1, .int x1)] [] s Q :=
  xs_up (P := fun x1 => ∀ (s : ps_S), zI C r0 10 → rJ C m t s → ps_At (d + 1) 142 10 [(0, .ref r0), (1, .int x1)] [] s Q) (fun x1 ih s h0 J => pg_142_10 (d := d) (ps_nk_i (h0).1 (And.intro (fun f1 => (qs_142_55 (d := d) (r0 := r0) (x1 := x1)  h0 J k )) (fun f1 => (ps_nk_i (h0).1 (xs_143 (h0).1 (J).1.1 (fun v1 => (xs_147  (J).1.1 (fun v2 b2 => (And.intro (fun f2 => (qs_142_55 (d := d) (r0 := r0) (x1 := x1)  h0 J k )) (fun f2 => (ps_nk_i (h0).1 (ps_nk_i (h0).1 (xs_143 (h0).1 (J).1.1 (fun v3 => (ps_nk_i (h0).1 (ih ((x1 + 1)) (xs_lt f1) (ps_ui s r0 7 ((((ps_i s r0 7) * 10) + v3) - 48)) h0 (rw_i (c := 10) (by decide) h0 J)))))))))))))))))) x1 s h0 J

theorem qs_142 {C : Nat → Prop} {m s : ps_S} {t : Int32} {d : Nat} {r0 : Nat} {f : ps_S → Prop} (h0 : zI C r0 10) (J : rJ C m t s) (k : ∀ (s' : ps_S), rJ C m t s' → f s') : ps_Cl (d + 1) 142 [.ref r0] s (ps_rV f) :=
  pg_142_0 (d := d) (ps_nk_i (h0).1 (ps_nk_i (h0).1 (qs_142_10 (d := d) (r0 := r0) (x1 := (ps_i s r0 5))  h0 (rw_i (c := 10) (by decide) h0 J) k )))

theorem qs_140_30 {C : Nat → Prop} {m s : ps_S} {t : Int32} {d : Nat} {r0 : Nat} {x1 : Int32} {Q : Option Value → ps_S → Prop} (h0 : zI C r0 10) (J : rJ C m t s) (k : ∀ (s' : ps_S), rJ C m t s' → Q none s') : ps_At (d + 2) 140 30 [(0, .ref r0), (1, .int x1)] [] s Q :=
  pg_140_30 (d := d + 1) (ps_nk_i (h0).1 (ps_nk_i (h0).1 (ps_nk_i (h0).1 (xs_143 (h0).1 ((rw_i (c := 10) (by decide) h0 (rw_i (c := 10) (by decide) h0 J))).1.1 (fun v1 => (ps_nk_i (h0).1 (And.intro (fun f1 => (xs_146  ((rw_i (c := 10) (by decide) h0 (rw_i (c := 10) (by decide) h0 J))).1.1 (fun v2 b2 => (And.intro (fun f2 => (xs_147  ((rw_i (c := 10) (by decide) h0 (rw_i (c := 10) (by decide) h0 J))).1.1 (fun v3 b3 => (And.intro (fun f3 => (And.intro (fun f4 => (ps_nk_i (h0).1 (ps_nk_i (h0).1 (k (ps_ui (ps_ui (ps_ui (ps_ui s r0 5 x1) r0 6 (-1)) r0 4 1) r0 3 (x1 + 1)) (rw_i (c := 10) (by decide) h0 (rw_i (c := 10) (by decide) h0 (rw_i (c := 10) (by decide) h0 (rw_i (c := 10) (by decide) h0 J)))))))) (fun f4 => (ps_nk_i (h0).1 (ps_nk_i (h0).1 (k (ps_ui (ps_ui (ps_ui (ps_ui s r0 5 x1) r0 6 (-1)) r0 4 5) r0 3 (x1 + 1)) (rw_i (c := 10) (by decide) h0 (rw_i (c := 10) (by decide) h0 (rw_i (c := 10) (by decide) h0 (rw_i (c := 10) (by decide) h0 J)))))))))) (fun f3 => (ps_nk_i (h0).1 (qs_142 h0 (rw_i (c := 10) (by decide) h0 (rw_i (c := 10) (by decide) h0 J)) (fun s4 J4 => (k s4 J4))))))))) (fun f2 => (ps_nk_i (h0).1 (qs_141 h0 (rw_i (c := 10) (by decide) h0 (rw_i (c := 10) (by decide) h0 J)) (fun s5 J5 => (k s5 J5))))))))) (fun f1 => (ps_nk_i (h0).1 (ps_nk_i (h0).1 (k (ps_ui (ps_ui (ps_ui (ps_ui s r0 5 x1) r0 6 (-1)) r0 4 0) r0 3 x1) (rw_i (c := 10) (by decide) h0 (rw_i (c := 10) (by decide) h0 (rw_i (c := 10) (by decide) h0 (rw_i (c := 10) (by decide) h0 J)))))))))))))))

theorem qs_140_5 {C : Nat → Prop} {m s : ps_S} {t : Int32} {d : Nat} {r0 : Nat} {x1 : Int32} {Q : Option Value → ps_S → Prop} (h0 : zI C r0 10) (J : rJ C m t s) (k : ∀ (s' : ps_S), rJ C m t s' → Q none s') : ps_At (d + 2) 140 5 [(0, .ref r0), (1, .int x1)] [] s Q :=
  xs_up (P := fun x1 => ∀ (s : ps_S), zI C r0 10 → rJ C m t s → ps_At (d + 2) 140 5 [(0, .ref r0), (1, .int x1)] [] s Q) (fun x1 ih s h0 J => pg_140_5 (d := d + 1) (ps_nk_i (h0).1 (And.intro (fun f1 => (qs_140_30 (d := d) (r0 := r0) (x1 := x1)  h0 J k )) (fun f1 => (ps_nk_i (h0).1 (xs_143 (h0).1 (J).1.1 (fun v1 => (xs_145  (J).1.1 (fun v2 b2 => (And.intro (fun f2 => (qs_140_30 (d := d) (r0 := r0) (x1 := x1)  h0 J k )) (fun f2 => (ih ((x1 + 1)) (xs_lt f1) s h0 J)))))))))))) x1 s h0 J

theorem qs_140 {C : Nat → Prop} {m s : ps_S} {t : Int32} {d : Nat} {r0 : Nat} {f : ps_S → Prop} (h0 : zI C r0 10) (J : rJ C m t s) (k : ∀ (s' : ps_S), rJ C m t s' → f s') : ps_Cl (d + 2) 140 [.ref r0] s (ps_rV f) :=
  pg_140_0 (d := d + 1) (ps_nk_i (h0).1 (qs_140_5 (d := d) (r0 := r0) (x1 := (ps_i s r0 3))  h0 J k ))

theorem qs_62 {C : Nat → Prop} {m s : ps_S} {t : Int32} {d : Nat} {r0 : Nat} {x1 : Int32} {f : Int32 → ps_S → Prop} (h0 : zI C r0 3) (J : rJ C m t s) (k : ∀ (v : Int32) (s' : ps_S), v &&& 1 = v → rJ C m t s' → f v s') : ps_Cl d 62 [.ref r0, .int x1] s (ps_rI f) :=
  pg_62_0 (ps_nk_i (h0).1 (ps_nk_i (xk_3_0 (h0).1) (And.intro (fun f1 => (ps_nk_i (h0).1 (ps_nk_i (h0).1 (ps_nk_i (xk_3_0 (h0).1) (ps_nk_i (h0).1 (k 0 (ps_ui (ps_ui s r0 9 x1) r0 10 (ps_i (ps_ui s r0 9 x1) (ps_c0 r0 0) 5)) (by decide) (rw_i (c := 3) (by decide) h0 (rw_i (c := 3) (by decide) h0 J)))))))) (fun f1 => (ps_nk_i (h0).1 (ps_nk_i (h0).1 (ps_nk_i (xk_3_0 (h0).1) (ps_nk_i (h0).1 (k 0 (ps_ui (ps_ui s r0 9 1) r0 10 (ps_i (ps_ui s r0 9 1) (ps_c0 r0 0) 5)) (by decide) (rw_i (c := 3) (by decide) h0 (rw_i (c := 3) (by decide) h0 J)))))))))))

theorem qs_79_47 {C : Nat → Prop} {m s : ps_S} {t : Int32} {d : Nat} {r0 : Nat} {Q : Option Value → ps_S → Prop} (h0 : zI C r0 3) (J : rJ C m t s) (k : ∀ (v : Int32) (s' : ps_S), rJ C m t s' → Q (some (.int v)) s') : ps_At d 79 47 [(0, .ref r0)] [] s Q :=
  pg_79_47 (ps_nk_i (h0).1 (And.intro (fun f1 => (k (-1) s J)) (fun f1 => (ps_nk_i (h0).1 (ps_nk_i (h0).1 (ps_nk_i (xn_l ((xk_3_1 (h0).1)).1) (And.intro (fun f2 => (ps_nk_i (h0).1 (ps_nk_i (h0).1 (ps_nk_i (h0).1 (ps_nk_i (xk_3_0 (h0).1) (ps_nk_i (xn_3 ((xk_3_1 (h0).1)).1) (ps_nd_i (xg_in f1 f2) (ps_nk_i (h0).1 (ps_nk_i (h0).1 (ps_nk_i (h0).1 (k (((60 : Int32) + (ps_i (ps_ui (ps_ub s (ps_c0 r0 1) (Int32.toNatClampNeg (ps_i s r0 2)) (ps_j s (ps_c0 r0 0) 8)) r0 2 ((ps_i (ps_ub s (ps_c0 r0 1) (Int32.toNatClampNeg (ps_i s r0 2)) (ps_j s (ps_c0 r0 0) 8)) r0 2) + 1)) r0 2)) - 1) (ps_ui (ps_ub s (ps_c0 r0 1) (Int32.toNatClampNeg (ps_i s r0 2)) (ps_j s (ps_c0 r0 0) 8)) r0 2 ((ps_i (ps_ub s (ps_c0 r0 1) (Int32.toNatClampNeg (ps_i s r0 2)) (ps_j s (ps_c0 r0 0) 8)) r0 2) + 1)) (rw_i (c := 3) (by decide) h0 (rw_b (za_3_1 h0) J))))))))))))) (fun f2 => (k (-1) s J)))))))))

theorem qs_79_2 {C : Nat → Prop} {m s : ps_S} {t : Int32} {d : Nat} {r0 : Nat} {x1 : Int32} {Q : Option Value → ps_S → Prop} (h0 : zI C r0 3) (e0 : 0 ≤ x1) (J : rJ C m t s) (k : ∀ (v : Int32) (s' : ps_S), rJ C m t s' → Q (some (.int v)) s') : ps_At d 79 2 [(0, .ref r0), (1, .int x1)] [] s Q :=
  xs_up (P := fun x1 => ∀ (s : ps_S), zI C r0 3 → 0 ≤ x1 → rJ C m t s → ps_At d 79 2 [(0, .ref r0), (1, .int x1)] [] s Q) (fun x1 ih s h0 e0 J => pg_79_2 (ps_nk_i (h0).1 (And.intro (fun f1 => (qs_79_47 (d := d) (r0 := r0)  h0 J k )) (fun f1 => (ps_nk_i (h0).1 (ps_nk_i (xn_l ((xk_3_1 (h0).1)).1) (And.intro (fun f2 => (qs_79_47 (d := d) (r0 := r0)  h0 J k )) (fun f2 => (ps_nk_i (h0).1 (ps_nk_i (xn_3 ((xk_3_1 (h0).1)).1) (ps_nd_i (xg_in e0 f2) (ps_nk_i (h0).1 (ps_nk_i (xk_3_0 (h0).1) (And.intro (fun f3 => (ih ((x1 + 1)) (xs_lt f1) s h0 (xs_nn e0 f1) J)) (fun f3 => (k ((60 : Int32) + x1) s J)))))))))))))))) x1 s h0 e0 J

theorem qs_79 {C : Nat → Prop} {m s : ps_S} {t : Int32} {d : Nat} {r0 : Nat} {f : Int32 → ps_S → Prop} (h0 : zI C r0 3) (J : rJ C m t s) (k : ∀ (v : Int32) (s' : ps_S), rJ C m t s' → f v s') : ps_Cl d 79 [.ref r0] s (ps_rI f) :=
  pg_79_0 (qs_79_2 (d := d) (r0 := r0) (x1 := 0)  h0 (by decide) J k )

theorem qs_78_2 {C : Nat → Prop} {m s : ps_S} {t : Int32} {d : Nat} {r0 : Nat} {x1 : Int32} {Q : Option Value → ps_S → Prop} (h0 : zI C r0 3) (J : rJ C m t s) (k : ∀ (v : Int32) (s' : ps_S), rJ C m t s' → Q (some (.int v)) s') : ps_At (d + 1) 78 2 [(0, .ref r0), (1, .int x1)] [] s Q :=
  xs_up (P := fun x1 => ∀ (s : ps_S), zI C r0 3 → rJ C m t s → ps_At (d + 1) 78 2 [(0, .ref r0), (1, .int x1)] [] s Q) (fun x1 ih s h0 J => pg_78_2 (d := d) (ps_nk_i (h0).1 (And.intro (fun f1 => (ps_nk_i (h0).1 (And.intro (fun f2 => (ps_nk_i (h0).1 (qs_79 h0 J (fun v1 s1 J1 => (k v1 s1 J1))))) (fun f2 => (k (-1) s J))))) (fun f1 => (ps_nk_i (h0).1 (And.intro (fun f3 => (ih ((x1 + 1)) (xs_lt f1) s h0 J)) (fun f3 => (ps_nk_i (h0).1 (ps_nk_i (xn_l ((xk_3_3 (h0).1)).1) (And.intro (fun f4 => (ih ((x1 + 1)) (xs_lt f1) s h0 J)) (fun f4 => (ps_nk_i (h0).1 (ps_nk_i (xn_3 ((xk_3_3 (h0).1)).1) (ps_nd_i (xg_in f3 f4) (ps_nk_i (h0).1 (ps_nk_i (xk_3_0 (h0).1) (And.intro (fun f5 => (ih ((x1 + 1)) (xs_lt f1) s h0 J)) (fun f5 => (k ((40 : Int32) + x1) s J))))))))))))))))))) x1 s h0 J

theorem qs_78 {C : Nat → Prop} {m s : ps_S} {t : Int32} {d : Nat} {r0 : Nat} {f : Int32 → ps_S → Prop} (h0 : zI C r0 3) (J : rJ C m t s) (k : ∀ (v : Int32) (s' : ps_S), rJ C m t s' → f v s') : ps_Cl (d + 1) 78 [.ref r0] s (ps_rI f) :=
  pg_78_0 (d := d) (qs_78_2 (d := d) (r0 := r0) (x1 := 0)  h0 J k )

theorem qr_71_9 {C : Nat → Prop} {m s : ps_S} {t : Int32} {d : Nat} {r0 : Nat} {x1 : Int32} {x2 : Int32} {x3 : Int32} {Q : Option Value → ps_S → Prop} (HF : qsF C d x2) (HT : qsT C d x2) (h0 : zI C r0 3) (J : rJ C m t s) (k : ∀ (v : Int32) (s' : ps_S), v &&& 1 = v → rJ C m t s' → Q (some (.int v)) s') : ps_At (d + 9) 71 9 [(0, .ref r0), (1, .int x1), (2, .int x2), (3, .int x3)] [] s Q :=
  xs_dn (P := fun x3 => ∀ (s : ps_S), zI C r0 3 → rJ C m t s → ps_At (d + 9) 71 9 [(0, .ref r0), (1, .int x1), (2, .int x2), (3, .int x3)] [] s Q) (fun x3 ih s h0 J => pg_71_9 (d := d + 8) (And.intro (fun f1 => (k 1 s (by decide) J)) (fun f1 => (And.intro (fun f2 => (ps_nk_i (h0).1 (HF _ _ _ _ _ h0 J (fun v1 s1 b1 J1 => (And.intro (fun f3 => (ih ((x3 + (-1))) (xs_gt f1) s1 h0 J1)) (fun f3 => (k 0 s1 (by decide) J1))))))) (fun f2 => (ps_nk_i (h0).1 (HT _ _ _ _ _ h0 J (fun v2 s2 b2 J2 => (And.intro (fun f4 => (k 0 s2 (by decide) J2)) (fun f4 => (ih ((x3 + (-1))) (xs_gt f1) s2 h0 J2))))))))))) x3 s h0 J

theorem qr_71 {C : Nat → Prop} {m s : ps_S} {t : Int32} {d : Nat} {r0 : Nat} {x1 : Int32} {x2 : Int32} {f : Int32 → ps_S → Prop} (HF : qsF C d x2) (HT : qsT C d x2) (h0 : zI C r0 3) (J : rJ C m t s) (k : ∀ (v : Int32) (s' : ps_S), v &&& 1 = v → rJ C m t s' → f v s') : ps_Cl (d + 9) 71 [.ref r0, .int x1, .int x2] s (ps_rI f) :=
  pg_71_0 (d := d + 8) (ps_nk_i (h0).1 (ps_nk_i (xj_3_5 (J).1.1 (h0).1) (xs_136 (xj_3_5 (J).1.1 (h0).1) (J).1.1 (fun v1 => (qr_71_9 (d := d) (r0 := r0) (x1 := x1) (x2 := x2) (x3 := v1) HF HT h0 J k )))))

theorem qr_75_58 {C : Nat → Prop} {m s : ps_S} {t : Int32} {d : Nat} {r0 : Nat} {x1 : Int32} {Q : Option Value → ps_S → Prop} (HF : qsF C d (x1 + 1)) (h0 : zI C r0 3) (J : rJ C m t s) (k : ∀ (v : Int32) (s' : ps_S), v &&& 1 = v → rJ C m t s' → Q (some (.int v)) s') : ps_At (d + 9) 75 58 [(0, .ref r0), (1, .int x1)] [] s Q :=
  pg_75_58 (d := d + 8) (ps_nk_i (h0).1 (ps_nk_i (xk_3_0 (h0).1) (qs_140 (zo_3_0 h0) J (fun s1 J1 => (ps_nk_i (h0).1 (HF _ _ _ _ _ h0 J1 (fun v2 s2 b2 J2 => (ps_nk_i (h0).1 (ps_nk_i (h0).1 (ps_nd_i (decide_eq_true b2) ((k v2 (ps_ui s2 r0 4 ((ps_i s2 r0 4) - 1)) (of_decide_eq_true (decide_eq_true b2)) (rw_i (c := 3) (by decide) h0 J2)))))))))))))

theorem qr_75 {C : Nat → Prop} {m s : ps_S} {t : Int32} {d : Nat} {r0 : Nat} {x1 : Int32} {f : Int32 → ps_S → Prop} (HF : qsF C d (x1 + 1)) (h0 : zI C r0 3) (J : rJ C m t s) (k : ∀ (v : Int32) (s' : ps_S), v &&& 1 = v → rJ C m t s' → f v s') : ps_Cl (d + 9) 75 [.ref r0, .int x1] s (ps_rI f) :=
  pg_75_0 (d := d + 8) (ps_nk_i (h0).1 (xs_77 (h0).1 (J).1.1 (fun v1 b1 => (And.intro (fun f1 => (ps_nk_i (h0).1 (And.intro (fun f2 => (qr_75_58 (d := d) (r0 := r0) (x1 := x1) HF h0 J k )) (fun f2 => (ps_nk_i (h0).1 (ps_nk_i (h0).1 (ps_nk_i (xn_l ((xk_3_3 (h0).1)).1) (And.intro (fun f3 => (qr_75_58 (d := d) (r0 := r0) (x1 := x1) HF h0 J k )) (fun f3 => (ps_nk_i (h0).1 (ps_nk_i (h0).1 (ps_nk_i (h0).1 (ps_nk_i (xk_3_0 (h0).1) (ps_nk_i (xn_3 ((xk_3_3 (h0).1)).1) (ps_nd_i (xg_in f2 f3) (ps_nk_i (h0).1 (ps_nk_i (h0).1 (qr_75_58 (d := d) (r0 := r0) (x1 := x1) HF h0 (rw_i (c := 3) (by decide) h0 (rw_b (za_3_3 h0) J)) k )))))))))))))))))) (fun f1 => (ps_nk_i (h0).1 (qs_62 h0 J (fun v2 s2 b2 J2 => (ps_nd_i (decide_eq_true b2) ((k v2 s2 (of_decide_eq_true (decide_eq_true b2)) J2)))))))))))

theorem qr_74 {C : Nat → Prop} {m s : ps_S} {t : Int32} {d : Nat} {r0 : Nat} {x1 : Int32} {f : Int32 → ps_S → Prop} (HF : x1 + 1 ≤ 12 → qsF C d (x1 + 1)) (h0 : zI C r0 3) (J : rJ C m t s) (k : ∀ (v : Int32) (s' : ps_S), v &&& 1 = v → rJ C m t s' → f v s') : ps_Cl (d + 9) 74 [.ref r0, .int x1] s (ps_rI f) :=
  pg_74_0 (d := d + 8) (ps_nk_i (h0).1 (xs_73 (h0).1 (J).1.1 (fun v1 b1 q1 => (And.intro (fun f1 => (ps_nk_i (h0).1 (ps_nk_i (xj_3_6 (J).1.1 (h0).1) (qs_93 (rw_row J (h0).1) J (fun s2 J2 => (ps_nk_i (h0).1 (ps_nk_i (xk_3_0 (h0).1) (qs_140 (zo_3_0 h0) J2 (fun s3 J3 => (ps_nk_i (h0).1 (ps_nk_i (h0).1 (ps_nk_i (h0).1 ((HF (q1 f1)) _ _ _ _ _ h0 (rw_i (c := 3) (by decide) h0 J3) (fun v4 s4 b4 J4 => (And.intro (fun f2 => (ps_nk_i (h0).1 (ps_nk_i (h0).1 (ps_nk_i (h0).1 (ps_nk_i (xj_3_6 ((rw_i (c := 3) (by decide) h0 J4)).1.1 (h0).1) (qs_93 (rw_row (rw_i (c := 3) (by decide) h0 J4) (h0).1) (rw_i (c := 3) (by decide) h0 J4) (fun s5 J5 => (k 1 s5 (by decide) J5)))))))) (fun f2 => (k 0 s4 (by decide) J4))))))))))))))))) (fun f1 => (ps_nk_i (h0).1 (qs_62 h0 J (fun v6 s6 b6 J6 => (ps_nd_i (decide_eq_true b6) ((k v6 s6 (of_decide_eq_true (decide_eq_true b6)) J6)))))))))))

theorem qr_70_62 {C : Nat → Prop} {m s : ps_S} {t : Int32} {d : Nat} {r0 : Nat} {Q : Option Value → ps_S → Prop} (h0 : zI C r0 3) (J : rJ C m t s) (k : ∀ (v : Int32) (s' : ps_S), v &&& 1 = v → rJ C m t s' → Q (some (.int v)) s') : ps_At (d + 10) 70 62 [(0, .ref r0)] [] s Q :=
  pg_70_62 (d := d + 9) (ps_nk_i (h0).1 (qs_62 h0 J (fun v1 s1 b1 J1 => (ps_nd_i (decide_eq_true b1) ((k v1 s1 (of_decide_eq_true (decide_eq_true b1)) J1))))))

theorem qr_70_42 {C : Nat → Prop} {m s : ps_S} {t : Int32} {d : Nat} {r0 : Nat} {x1 : Int32} {x2 : Int32} {Q : Option Value → ps_S → Prop} (H : x1 ≤ 12 → qsF C d (x1 + 1) ∧ qsT C d (x1 + 1)) (H2 : x1 + 1 ≤ 12 → qsF C d (x1 + 1)) (h0 : zI C r0 3) (J : rJ C m t s) (k : ∀ (v : Int32) (s' : ps_S), v &&& 1 = v → rJ C m t s' → Q (some (.int v)) s') : ps_At (d + 10) 70 42 [(0, .ref r0), (1, .int x1), (2, .int x2)] [] s Q :=
  pg_70_42 (d := d + 9) (And.intro (fun f1 => (qr_70_62 (d := d) (r0 := r0)  h0 J k )) (fun f1 => (And.intro (fun f2 => (qr_70_62 (d := d) (r0 := r0)  h0 J k )) (fun f2 => (ps_nk_i (h0).1 (xs_73 (h0).1 (J).1.1 (fun v1 b1 q1 => (And.intro (fun f3 => (ps_nk_i (h0).1 (ps_nk_i (xj_3_6 (J).1.1 (h0).1) (qs_93 (rw_row J (h0).1) J (fun s2 J2 => (ps_nk_i (h0).1 (ps_nk_i (xk_3_0 (h0).1) (qs_140 (zo_3_0 h0) J2 (fun s3 J3 => (xs_184  (J3).1.1 (fun v4 b4 => (And.intro (fun f4 => (ps_nk_i (h0).1 (qr_71 (H (q1 f3)).1 (H (q1 f3)).2 h0 J3 (fun v5 s5 b5 J5 => (ps_nd_i (decide_eq_true b5) ((k v5 s5 (of_decide_eq_true (decide_eq_true b5)) J5))))))) (fun f4 => (ps_nk_i (h0).1 (qr_75 (H (q1 f3)).1 h0 J3 (fun v6 s6 b6 J6 => (ps_nd_i (decide_eq_true b6) ((k v6 s6 (of_decide_eq_true (decide_eq_true b6)) J6))))))))))))))))))) (fun f3 => (qr_70_62 (d := d) (r0 := r0)  h0 J k ))))))))))

theorem qr_70 {C : Nat → Prop} {m s : ps_S} {t : Int32} {d : Nat} {r0 : Nat} {x1 : Int32} {f : Int32 → ps_S → Prop} (H : x1 ≤ 12 → qsF C d (x1 + 1) ∧ qsT C d (x1 + 1)) (H2 : x1 + 1 ≤ 12 → qsF C d (x1 + 1)) (h0 : zI C r0 3) (J : rJ C m t s) (k : ∀ (v : Int32) (s' : ps_S), v &&& 1 = v → rJ C m t s' → f v s') : ps_Cl (d + 10) 70 [.ref r0, .int x1] s (ps_rI f) :=
  pg_70_0 (d := d + 9) (ps_nk_i (h0).1 (ps_nk_i (xk_3_0 (h0).1) (And.intro (fun f1 => (ps_nk_i (h0).1 (xs_72 (h0).1 (J).1.1 (fun v1 => (xs_184  (J).1.1 (fun v2 b2 => (And.intro (fun f2 => (qr_70_42 (d := d) (r0 := r0) (x1 := x1) (x2 := v1) H H2 h0 J k )) (fun f2 => (ps_nk_i (h0).1 (And.intro (fun f3 => (qr_70_42 (d := d) (r0 := r0) (x1 := x1) (x2 := v1) H H2 h0 J k )) (fun f3 => (And.intro (fun f4 => (qr_70_62 (d := d) (r0 := r0)  h0 J k )) (fun f4 => (And.intro (fun f5 => (qr_70_62 (d := d) (r0 := r0)  h0 J k )) (fun f5 => (ps_nk_i (h0).1 (xs_73 (h0).1 (J).1.1 (fun v3 b3 q3 => (And.intro (fun f6 => (ps_nk_i (h0).1 (ps_nk_i (xj_3_6 (J).1.1 (h0).1) (qs_93 (rw_row J (h0).1) J (fun s4 J4 => (ps_nk_i (h0).1 (ps_nk_i (xk_3_0 (h0).1) (qs_140 (zo_3_0 h0) J4 (fun s5 J5 => (xs_184  (J5).1.1 (fun v6 b6 => (And.intro (fun f7 => (ps_nk_i (h0).1 (qr_71 (H (q3 f6)).1 (H (q3 f6)).2 h0 J5 (fun v7 s7 b7 J7 => (ps_nd_i (decide_eq_true b7) ((k v7 s7 (of_decide_eq_true (decide_eq_true b7)) J7))))))) (fun f7 => (ps_nk_i (h0).1 (qr_75 (H (q3 f6)).1 h0 J5 (fun v8 s8 b8 J8 => (ps_nd_i (decide_eq_true b8) ((k v8 s8 (of_decide_eq_true (decide_eq_true b8)) J8))))))))))))))))))) (fun f6 => (qr_70_62 (d := d) (r0 := r0)  h0 J k ))))))))))))))))))))) (fun f1 => (ps_nk_i (h0).1 (qr_74 H2 h0 J (fun v9 s9 b9 J9 => (ps_nd_i (decide_eq_true b9) ((k v9 s9 (of_decide_eq_true (decide_eq_true b9)) J9))))))))))

theorem qr_76_20 {C : Nat → Prop} {m s : ps_S} {t : Int32} {d : Nat} {r0 : Nat} {Q : Option Value → ps_S → Prop} (h0 : zI C r0 3) (J : rJ C m t s) (k : ∀ (v : Int32) (s' : ps_S), v &&& 1 = v → rJ C m t s' → Q (some (.int v)) s') : ps_At (d + 10) 76 20 [(0, .ref r0)] [] s Q :=
  pg_76_20 (d := d + 9) (ps_nk_i (h0).1 (qs_62 h0 J (fun v1 s1 b1 J1 => (ps_nd_i (decide_eq_true b1) ((k v1 s1 (of_decide_eq_true (decide_eq_true b1)) J1))))))

theorem qr_76_59 {C : Nat → Prop} {m s : ps_S} {t : Int32} {d : Nat} {r0 : Nat} {x1 : Int32} {x2 : Int32} {Q : Option Value → ps_S → Prop} (H : x1 ≤ 12 → qsF C d (x1 + 1) ∧ qsT C d (x1 + 1)) (h0 : zI C r0 3) (e0 : x1 ≤ 12) (J : rJ C m t s) (k : ∀ (v : Int32) (s' : ps_S), v &&& 1 = v → rJ C m t s' → Q (some (.int v)) s') : ps_At (d + 10) 76 59 [(0, .ref r0), (1, .int x1), (2, .int x2)] [] s Q :=
  pg_76_59 (d := d + 9) (And.intro (fun f1 => (And.intro (fun f2 => (ps_nk_i (h0).1 (ps_nk_i (xj_3_6 (J).1.1 (h0).1) (qs_93 (rw_row J (h0).1) J (fun s1 J1 => (ps_nk_i (h0).1 (ps_nk_i (xk_3_0 (h0).1) (qs_140 (zo_3_0 h0) J1 (fun s2 J2 => (ps_nk_i (h0).1 (qr_71 (H e0).1 (H e0).2 h0 J2 (fun v3 s3 b3 J3 => (ps_nd_i (decide_eq_true b3) ((k v3 s3 (of_decide_eq_true (decide_eq_true b3)) J3))))))))))))))) (fun f2 => (ps_nk_i (h0).1 (And.intro (fun f3 => (ps_nk_i (h0).1 (qs_62 h0 J (fun v4 s4 b4 J4 => (ps_nd_i (decide_eq_true b4) ((k v4 s4 (of_decide_eq_true (decide_eq_true b4)) J4))))))) (fun f3 => (ps_nk_i (h0).1 (qs_62 h0 J (fun v5 s5 b5 J5 => (ps_nd_i (decide_eq_true b5) ((k v5 s5 (of_decide_eq_true (decide_eq_true b5)) J5)))))))))))) (fun f1 => (ps_nk_i (h0).1 (qs_78 h0 J (fun v6 s6 J6 => (And.intro (fun f4 => (ps_nk_i (h0).1 (ps_nk_i (xj_3_6 (J6).1.1 (h0).1) (qs_93 (rw_row J6 (h0).1) J6 (fun s7 J7 => (ps_nk_i (h0).1 (ps_nk_i (xk_3_0 (h0).1) (qs_140 (zo_3_0 h0) J7 (fun s8 J8 => (ps_nk_i (h0).1 (qr_71 (H e0).1 (H e0).2 h0 J8 (fun v9 s9 b9 J9 => (ps_nd_i (decide_eq_true b9) ((k v9 s9 (of_decide_eq_true (decide_eq_true b9)) J9))))))))))))))) (fun f4 => (ps_nk_i (h0).1 (And.intro (fun f5 => (ps_nk_i (h0).1 (qs_62 h0 J6 (fun v10 s10 b10 J10 => (ps_nd_i (decide_eq_true b10) ((k v10 s10 (of_decide_eq_true (decide_eq_true b10)) J10))))))) (fun f5 => (ps_nk_i (h0).1 (qs_62 h0 J6 (fun v11 s11 b11 J11 => (ps_nd_i (decide_eq_true b11) ((k v11 s11 (of_decide_eq_true (decide_eq_true b11)) J11))))))))))))))))

theorem qr_76 {C : Nat → Prop} {m s : ps_S} {t : Int32} {d : Nat} {r0 : Nat} {x1 : Int32} {f : Int32 → ps_S → Prop} (H : x1 ≤ 12 → qsF C d (x1 + 1) ∧ qsT C d (x1 + 1)) (h0 : zI C r0 3) (J : rJ C m t s) (k : ∀ (v : Int32) (s' : ps_S), v &&& 1 = v → rJ C m t s' → f v s') : ps_Cl (d + 10) 76 [.ref r0, .int x1] s (ps_rI f) :=
  pg_76_0 (d := d + 9) (ps_nk_i (h0).1 (ps_nk_i (xk_3_0 (h0).1) (And.intro (fun f1 => (qr_76_20 (d := d) (r0 := r0)  h0 J k )) (fun f1 => (ps_nk_i (h0).1 (xs_73 (h0).1 (J).1.1 (fun v1 b1 q1 => (And.intro (fun f2 => (ps_nk_i (h0).1 (ps_nk_i (h0).1 (ps_nk_i (xk_3_0 (h0).1) (ps_nk_i (xj_3_5 (J).1.1 (h0).1) (xs_128 (xj_3_5 (J).1.1 (h0).1) (J).1.1 (fun v2 => (And.intro (fun f3 => (qr_76_59 (d := d) (r0 := r0) (x1 := x1) (x2 := v2) H h0 (q1 f2) J k )) (fun f3 => (ps_nk_i (h0).1 (xs_77 (h0).1 (J).1.1 (fun v3 b3 => (And.intro (fun f4 => (qr_76_59 (d := d) (r0 := r0) (x1 := x1) (x2 := v2) H h0 (q1 f2) J k )) (fun f4 => (ps_nk_i (h0).1 (qs_62 h0 J (fun v4 s4 b4 J4 => (ps_nd_i (decide_eq_true b4) ((k v4 s4 (of_decide_eq_true (decide_eq_true b4)) J4)))))))))))))))))))) (fun f2 => (qr_76_20 (d := d) (r0 := r0)  h0 J k ))))))))))

theorem qr_A {C : Nat → Prop} : ∀ (k : Nat) (x : Int32) (d : Nat), 0 ≤ x.toInt → x.toInt ≤ 13 → 13 - x.toInt ≤ k → 2 * k + 2 ≤ d → qsF C d x ∧ qsT C d x := by
  intro k
  induction k with
  | zero =>
    intro x d h0 h1 h2 h3
    obtain ⟨e, rfl⟩ : ∃ e, d = e + 2 := ⟨d - 2, by omega⟩
    have e1 : (12 : Int32).toInt = 12 := by decide
    have hx : ¬ x ≤ 12 := by rw [Int32.le_iff_toInt_le, e1]; omega
    have hx2 : ¬ x + 1 ≤ 12 := by
      rw [Int32.le_iff_toInt_le, e1, xI_add (by rw [xone]; omega) (by rw [xone]; omega), xone]; omega
    exact ⟨fun m s t r0 f h J k => qr_70 (d := e) (fun q => absurd q hx) (fun q => absurd q hx2) h J k, fun m s t r0 f h J k => qr_76 (d := e) (fun q => absurd q hx) h J k⟩
  | succ k ih =>
    intro x d h0 h1 h2 h3
    obtain ⟨e, rfl⟩ : ∃ e, d = e + 2 := ⟨d - 2, by omega⟩
    have e1 : (12 : Int32).toInt = 12 := by decide
    have ex : (x + 1).toInt = x.toInt + 1 := by rw [xI_add (by rw [xone]; omega) (by rw [xone]; omega), xone]
    have st : x.toInt ≤ 12 → qsF C e (x + 1) ∧ qsT C e (x + 1) := fun q => ih (x + 1) e (by omega) (by omega) (by omega) (by omega)
    have s1 : x ≤ 12 → qsF C e (x + 1) ∧ qsT C e (x + 1) := fun q => st (by rw [Int32.le_iff_toInt_le, e1] at q; exact q)
    have s2 : x + 1 ≤ 12 → qsF C e (x + 1) := fun q => (st (by rw [Int32.le_iff_toInt_le, e1, ex] at q; omega)).1
    exact ⟨fun m s t r0 f h J k => qr_70 (d := e) s1 s2 h J k, fun m s t r0 f h J k => qr_76 (d := e) s1 h J k⟩
theorem qs_70 {C : Nat → Prop} {m s : ps_S} {t : Int32} {d r0 : Nat} {f : Int32 → ps_S → Prop} (h0 : zI C r0 3) (J : rJ C m t s) (k : ∀ (v : Int32) (s' : ps_S), v &&& 1 = v → rJ C m t s' → f v s') : ps_Cl (d + 36) 70 [.ref r0, .int 0] s (ps_rI f) :=
  (qr_A 13 0 (d + 28) (by decide) (by decide) (by decide) (by omega)).1 m s t r0 f h0 J k
theorem qs_76 {C : Nat → Prop} {m s : ps_S} {t : Int32} {d r0 : Nat} {f : Int32 → ps_S → Prop} (h0 : zI C r0 3) (J : rJ C m t s) (k : ∀ (v : Int32) (s' : ps_S), v &&& 1 = v → rJ C m t s' → f v s') : ps_Cl (d + 36) 76 [.ref r0, .int 0] s (ps_rI f) :=
  (qr_A 13 0 (d + 28) (by decide) (by decide) (by decide) (by omega)).2 m s t r0 f h0 J k
