set_option maxRecDepth 100000
theorem xr_76 {m s : ps_S} {t : Int32} {d : Nat} {r0 : Nat} {x1 : Int32} {f : Int32 → ps_S → Prop} (H : x1 ≤ 12 → xsF d (x1 + 1) ∧ xsT d (x1 + 1)) (h0 : ps_is r0 3 = true) (J : xJ m t s) (k : ∀ (v : Int32) (s' : ps_S), v &&& 1 = v → xJ m t s' → f v s') : ps_Cl (d + 10) 76 [.ref r0, .int x1] s (ps_rI f) :=
  pg_76_0 (d := d + 9) (ps_nk_i h0 (ps_nk_i (xk_3_0 h0) (And.intro (fun f1 => (xr_76_20 (d := d) (r0 := r0)  h0 J k )) (fun f1 => (ps_nk_i h0 (xs_73 h0 J (fun v1 b1 q1 => (And.intro (fun f2 => (ps_nk_i h0 (ps_nk_i h0 (ps_nk_i (xk_3_0 h0) (ps_nk_i (xj_3_5 J h0) (xs_128 (xj_3_5 J h0) J (fun v2 => (And.intro (fun f3 => (xr_76_59 (d := d) (r0 := r0) (x1 := x1) (x2 := v2) H h0 (q1 f2) J k )) (fun f3 => (ps_nk_i h0 (xs_77 h0 J (fun v3 b3 => (And.intro (fun f4 => (xr_76_59 (d := d) (r0 := r0) (x1 := x1) (x2 := v2) H h0 (q1 f2) J k )) (fun f4 => (ps_nk_i h0 (xs_62 h0 J (fun v4 s4 b4 J4 => (ps_nd_i (decide_eq_true b4) ((k v4 s4 (of_decide_eq_true (decide_eq_true b4)) J4)))))))))))))))))))) (fun f2 => (xr_76_20 (d := d) (r0 := r0)  h0 J k ))))))))))

theorem xr_A : ∀ (k : Nat) (x : Int32) (d : Nat), 0 ≤ x.toInt → x.toInt ≤ 13 → 13 - x.toInt ≤ k → 2 * k + 2 ≤ d → xsF d x ∧ xsT d x := by
  intro k
  induction k with
  | zero =>
    intro x d h0 h1 h2 h3
    obtain ⟨e, rfl⟩ : ∃ e, d = e + 2 := ⟨d - 2, by omega⟩
    have e1 : (12 : Int32).toInt = 12 := by decide
    have hx : ¬ x ≤ 12 := by rw [Int32.le_iff_toInt_le, e1]; omega
    have hx2 : ¬ x + 1 ≤ 12 := by
      rw [Int32.le_iff_toInt_le, e1, xI_add (by rw [xone]; omega) (by rw [xone]; omega), xone]; omega
    exact ⟨fun m s t r0 f h J k => xr_70 (d := e) (fun q => absurd q hx) (fun q => absurd q hx2) h J k, fun m s t r0 f h J k => xr_76 (d := e) (fun q => absurd q hx) h J k⟩
  | succ k ih =>
    intro x d h0 h1 h2 h3
    obtain ⟨e, rfl⟩ : ∃ e, d = e + 2 := ⟨d - 2, by omega⟩
    have e1 : (12 : Int32).toInt = 12 := by decide
    have ex : (x + 1).toInt = x.toInt + 1 := by rw [xI_add (by rw [xone]; omega) (by rw [xone]; omega), xone]
    have st : x.toInt ≤ 12 → xsF e (x + 1) ∧ xsT e (x + 1) := fun q => ih (x + 1) e (by omega) (by omega) (by omega) (by omega)
    have s1 : x ≤ 12 → xsF e (x + 1) ∧ xsT e (x + 1) := fun q => st (by rw [Int32.le_iff_toInt_le, e1] at q; exact q)
    have s2 : x + 1 ≤ 12 → xsF e (x + 1) := fun q => (st (by rw [Int32.le_iff_toInt_le, e1, ex] at q; omega)).1
    exact ⟨fun m s t r0 f h J k => xr_70 (d := e) s1 s2 h J k, fun m s t r0 f h J k => xr_76 (d := e) s1 h J k⟩
theorem xs_70 {m s : ps_S} {t : Int32} {d r0 : Nat} {f : Int32 → ps_S → Prop} (h0 : ps_is r0 3 = true) (J : xJ m t s) (k : ∀ (v : Int32) (s' : ps_S), v &&& 1 = v → xJ m t s' → f v s') : ps_Cl (d + 36) 70 [.ref r0, .int 0] s (ps_rI f) :=
  (xr_A 13 0 (d + 28) (by decide) (by decide) (by decide) (by omega)).1 m s t r0 f h0 J k
theorem xs_76 {m s : ps_S} {t : Int32} {d r0 : Nat} {f : Int32 → ps_S → Prop} (h0 : ps_is r0 3 = true) (J : xJ m t s) (k : ∀ (v : Int32) (s' : ps_S), v &&& 1 = v → xJ m t s' → f v s') : ps_Cl (d + 36) 76 [.ref r0, .int 0] s (ps_rI f) :=
  (xr_A 13 0 (d + 28) (by decide) (by decide) (by decide) (by omega)).2 m s t r0 f h0 J k

-- ProofBench$Reader.takeWhole(LProofBench$Row;Z)Z
theorem pg_69_0 {d : Nat} {r0 : Nat} {r1 : Nat} {x2 : Int32} {s : ps_S} {Q : Option Value → ps_S → Prop} (h :
  ps_nk (ps_is r0 3) (ps_nk (ps_is r0 3) (ps_nk (ps_is (ps_r (ps_ur s r0 6 r1) r0 6) 5) (ps_Cl d 91 [.ref (ps_r (ps_ur s r0 6 r1) r0 6)] (ps_ur s r0 6 r1) (ps_rV (fun s1 =>
    ps_nk (ps_is r0 3) ((x2 = 0 →
      ps_nk (ps_is r0 3) (ps_Cl d 70 [.ref r0, .int 0] (ps_ui s1 r0 7 0) (ps_rI (fun v2 s2 =>
        ps_nd (decide (v2 &&& 1 = v2)) (Q (some (.int v2)) s2))))) ∧
    (x2 ≠ 0 →
      ps_nk (ps_is r0 3) (ps_Cl d 76 [.ref r0, .int 0] (ps_ui s1 r0 7 0) (ps_rI (fun v3 s3 =>
        ps_nd (decide (v3 &&& 1 = v3)) (Q (some (.int v3)) s3)))))))))))) : ps_At (d + 1) 69 0 [(0, .ref r0), (1, .ref r1), (2, .int x2)] [] s Q :=
  ps_wp_at (stops := []) (n := 22) h rfl

