set_option maxRecDepth 100000
theorem xr_G : ∀ (k : Nat) (x : Int32) (d : Nat), 0 ≤ x.toInt → x.toInt ≤ 13 → 13 - x.toInt ≤ k → 2 * k + 2 ≤ d → xsG d x := by
  intro k
  induction k with
  | zero =>
    intro x d h0 h1 h2 h3
    obtain ⟨e, rfl⟩ : ∃ e, d = e + 2 := ⟨d - 2, by omega⟩
    have e1 : (12 : Int32).toInt = 12 := by decide
    have hx : ¬ x ≤ 12 := by rw [Int32.le_iff_toInt_le, e1]; omega
    exact fun m s t r0 x1 x2 f h J k => xr_18 (d := e) (fun q => absurd q hx) h J k
  | succ k ih =>
    intro x d h0 h1 h2 h3
    obtain ⟨e, rfl⟩ : ∃ e, d = e + 2 := ⟨d - 2, by omega⟩
    have e1 : (12 : Int32).toInt = 12 := by decide
    have s1 : x ≤ 12 → xsG e (x + 1) := fun q => by
      rw [Int32.le_iff_toInt_le, e1] at q
      have ex : (x + 1).toInt = x.toInt + 1 := by rw [xI_add (by rw [xone]; omega) (by rw [xone]; omega), xone]
      exact ih (x + 1) e (by omega) (by omega) (by omega) (by omega)
    exact fun m s t r0 x1 x2 f h J k => xr_18 (d := e) s1 h J k

theorem xr_S : ∀ (k : Nat) (x : Int32) (d : Nat), 0 ≤ x.toInt → x.toInt ≤ 13 → 13 - x.toInt ≤ k → 2 * k + 2 ≤ d → xsS d x := by
  intro k
  induction k with
  | zero =>
    intro x d h0 h1 h2 h3
    obtain ⟨e, rfl⟩ : ∃ e, d = e + 2 := ⟨d - 2, by omega⟩
    have e1 : (12 : Int32).toInt = 12 := by decide
    have hx : ¬ x ≤ 12 := by rw [Int32.le_iff_toInt_le, e1]; omega
    exact fun m s t r0 x1 x2 f h J k => xr_15 (d := e) (fun q => absurd q hx) (fun _ q => absurd q hx) h J k
  | succ k ih =>
    intro x d h0 h1 h2 h3
    obtain ⟨e, rfl⟩ : ∃ e, d = e + 2 := ⟨d - 2, by omega⟩
    have e1 : (12 : Int32).toInt = 12 := by decide
    have ex : x ≤ 12 → (x + 1).toInt = x.toInt + 1 ∧ x.toInt ≤ 12 := fun q => by
      rw [Int32.le_iff_toInt_le, e1] at q
      exact ⟨by rw [xI_add (by rw [xone]; omega) (by rw [xone]; omega), xone], q⟩
    exact fun m s t r0 x1 x2 f h J k' => xr_15 (d := e) (fun q => ih (x + 1) e (by have := ex q; omega) (by have := ex q; omega) (by have := ex q; omega) (by omega)) (fun i q => xr_G k (x + 1) (e + i) (by have := ex q; omega) (by have := ex q; omega) (by have := ex q; omega) (by omega)) h J k'

theorem xs_15 {m s : ps_S} {t x1 x2 : Int32} {d r0 : Nat} {f : Int32 → ps_S → Prop} (h0 : ps_is r0 0 = true) (J : xJ m t s) (k : ∀ (v : Int32) (s' : ps_S), v &&& 1 = v → xJ m t s' → f v s') : ps_Cl (d + 36) 15 [.ref r0, .int x1, .int x2, .int 0] s (ps_rI f) :=
  (xr_S 13 0 (d + 28) (by decide) (by decide) (by decide) (by omega)) m s t r0 x1 x2 f h0 J k


-- ProofBench$Judge.axiomsHold(I)Z
theorem pg_12_0 {d : Nat} {r0 : Nat} {x1 : Int32} {s : ps_S} {Q : Option Value → ps_S → Prop} (h :
  ps_nk (ps_is r0 0) (ps_Cl d 8 [.ref r0, .int x1] s (ps_rV (fun s1 =>
    ps_At (d + 1) 12 7 [(0, .ref r0), (2, .int 0)] [] s1 Q)))) : ps_At (d + 1) 12 0 [(0, .ref r0), (1, .int x1)] [] s Q :=
  ps_wp_at (stops := [(7, [0, 2])]) (n := 7) h rfl


theorem pg_12_7 {d : Nat} {r0 : Nat} {x2 : Int32} {s : ps_S} {Q : Option Value → ps_S → Prop} (h :
  ps_nk (ps_is r0 0) (ps_nk (ps_is (ps_r s r0 16) 9) (((ps_i s (ps_r s r0 16) 8) ≤ x2 →
    Q (some (.int 1)) s) ∧
  (x2 < (ps_i s (ps_r s r0 16) 8) →
    ps_nk (ps_is r0 0) (ps_nk (ps_is (ps_r s r0 16) 9) (ps_Cl d 135 [.ref (ps_r s r0 16), .int x2] s (ps_rA (fun v1 s1 =>
      ps_nk (ps_is r0 0) (ps_nk (ps_is r0 0) (ps_Cl d 10 [.ref r0, .int x2] (ps_ur s1 r0 14 v1) (ps_rA (fun v2 s2 =>
        ps_nk (ps_is r0 0) (ps_nk (ps_is r0 0) (ps_Cl d 15 [.ref r0, .int 0, .int 0, .int 0] (ps_ur s2 r0 15 v2) (ps_rI (fun v3 s3 =>
          (v3 ≠ 0 →
            ps_At (d + 1) 12 7 [(0, .ref r0), (2, .int (x2 + 1))] [] s3 Q) ∧
          (v3 = 0 →
            Q (some (.int 0)) s3))))))))))))))))) : ps_At (d + 1) 12 7 [(0, .ref r0), (2, .int x2)] [] s Q :=
  ps_wp_at (stops := [(7, [0, 2])]) (n := 30) h rfl

