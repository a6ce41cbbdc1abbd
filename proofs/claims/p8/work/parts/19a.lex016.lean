set_option maxRecDepth 100000
theorem ms_194 {x : Nat → Nat → Nat} {t : Int32} {s : ps_S} {d : Nat} {f : ps_S → Prop} (J : mJ x t s) (q0 : (ps_i s 1131 8).toInt ≤ (ps_i s 1131 4).toInt) (k : ∀ (s' : ps_S), mJ x t s' → kp [] [7, 8, 9, 10, 11] s s' → ((ps_i s' 1131 8).toInt ≤ (ps_i s' 1131 4).toInt) → f s') : ps_Cl (d + 1) 194 [.ref 1131] s (ps_rV f) := by
  have r1 := mf_8 J
  have r2 := mf_4 J
  have K : kp [] [7, 8, 9, 10, 11] s s := kp_refl
  refine pg_194_0 (d := d) ?_
  have J3 := mwi_7 (v := (ps_i s 1131 8)) J (show 0 ≤ (ps_i s 1131 8).toInt from by omega) (show (ps_i s 1131 8).toInt ≤ 1600 from by omega)
  have K4 := kpi K (q := 7) (v := (ps_i s 1131 8)) rfl
  exact ms_194_8  k  ((ps_i s 1131 4).toInt - (ps_i s 1131 8).toInt).toNat  _ J3 K4 (show (ps_i s 1131 8).toInt ≤ (ps_i s 1131 4).toInt from by omega) (show (ps_i s 1131 4).toInt - (ps_i s 1131 8).toInt ≤ ((((ps_i s 1131 4).toInt - (ps_i s 1131 8).toInt).toNat : Nat) : Int) from by omega)

-- ProofBenchModel.isWord(J)Z
theorem pg_195_0 {d : Nat} {l1 : Int64} {s : ps_S} {Q : Option Value → ps_S → Prop} (h :
  ((ps_i s 1131 9) ≠ 3 →
    Q (some (.int 0)) s) ∧
  ((ps_i s 1131 9) = 3 →
    ((lg_cmp (ps_j s 1131 11) l1) ≠ 0 →
      Q (some (.int 0)) s) ∧
    ((lg_cmp (ps_j s 1131 11) l1) = 0 →
      Q (some (.int 1)) s))) : ps_At d 195 0 [(0, .ref 1131), (1, .long l1)] [] s Q :=
  ps_wp_at (stops := []) (n := 18) h rfl

theorem ms_195 {x : Nat → Nat → Nat} {t : Int32} {s : ps_S} {d : Nat} {l1 : Int64} {f : Int32 → ps_S → Prop} (J : mJ x t s) (k : ∀ (v : Int32), (v.toInt = 0 ∨ (ps_i s 1131 9).toInt = 3) → v &&& 1 = v → f v s) : ps_Cl d 195 [.ref 1131, .long l1] s (ps_rI f) := by
  refine pg_195_0 ?_
  have r1 := mf_9 J
  refine And.intro (fun h2 => ?_) (fun h2 => ?_)
  · have f3 : (ps_i s 1131 9).toInt ≠ (3 : Int) := xne h2
    exact k (0 : Int32) (show (0 : Int) = 0 ∨ (ps_i s 1131 9).toInt = 3 from by omega) (by decide)
  · have f4 : (ps_i s 1131 9).toInt = (3 : Int) := xeq h2
    refine And.intro (fun h5 => ?_) (fun h5 => ?_)
    · have f6 : (lg_cmp (ps_j s 1131 11) l1).toInt ≠ (0 : Int) := xne h5
      exact k (0 : Int32) (show (0 : Int) = 0 ∨ (ps_i s 1131 9).toInt = 3 from by omega) (by decide)
    · have f7 : (lg_cmp (ps_j s 1131 11) l1).toInt = (0 : Int) := xeq h5
      exact k (1 : Int32) (show (1 : Int) = 0 ∨ (ps_i s 1131 9).toInt = 3 from by omega) (by decide)

-- ProofBenchModel.misplaced()V
theorem pg_196_0 {d : Nat} {s : ps_S} {Q : Option Value → ps_S → Prop} (h :
  ((ps_i s 1131 9) ≠ 1 →
    ps_Cl d 191 [.ref 1131, .int 2, .int (ps_i s 1131 7)] s (ps_rV (fun s1 =>
      Q none s1))) ∧
  ((ps_i s 1131 9) = 1 →
    ps_Cl d 191 [.ref 1131, .int 1, .int (ps_i s 1131 7)] s (ps_rV (fun s2 =>
      Q none s2)))) : ps_At (d + 1) 196 0 [(0, .ref 1131)] [] s Q :=
  ps_wp_at (stops := []) (n := 18) h rfl

theorem ms_196 {x : Nat → Nat → Nat} {t : Int32} {s : ps_S} {d : Nat} {f : ps_S → Prop} (J : mJ x t s) (k : ∀ (s' : ps_S), mJ x t s' → kp [] [5, 6] s s' → (1 ≤ (ps_i s' 1131 5).toInt) → f s') : ps_Cl (d + 1) 196 [.ref 1131] s (ps_rV f) := by
  have K : kp [] [5, 6] s s := kp_refl
  refine pg_196_0 (d := d) ?_
  have r1 := mf_9 J
  refine And.intro (fun h2 => ?_) (fun h2 => ?_)
  · have f3 : (ps_i s 1131 9).toInt ≠ (1 : Int) := xne h2
    have r4 := mf_7 J
    refine ms_191 J (show 1 ≤ (2 : Int) from by omega) (show (2 : Int) ≤ 6 from by omega) (fun s5 J5 K5 p5_0 => ?_)
    have K6 := kpt K K5 rfl rfl
    have p5_0' : 1 ≤ (ps_i s5 1131 5).toInt := p5_0
    have r7 := mf_5 J5
    exact k _ J5 K6 (show 1 ≤ (ps_i s5 1131 5).toInt from by omega)
  · have f8 : (ps_i s 1131 9).toInt = (1 : Int) := xeq h2
    have r9 := mf_7 J
    refine ms_191 J (show 1 ≤ (1 : Int) from by omega) (show (1 : Int) ≤ 6 from by omega) (fun s10 J10 K10 p10_0 => ?_)
    have K11 := kpt K K10 rfl rfl
    have p10_0' : 1 ≤ (ps_i s10 1131 5).toInt := p10_0
    have r12 := mf_5 J10
    exact k _ J10 K11 (show 1 ≤ (ps_i s10 1131 5).toInt from by omega)

-- ProofBenchModel.must(Z)V
