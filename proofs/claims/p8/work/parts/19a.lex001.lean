set_option maxRecDepth 100000
theorem pg_191_0 {d : Nat} {x1 : Int32} {x2 : Int32} {s : ps_S} {Q : Option Value → ps_S → Prop} (h :
  ((ps_i s 1131 5) ≤ 0 →
    Q none (ps_ui (ps_ui s 1131 5 x1) 1131 6 x2)) ∧
  (0 < (ps_i s 1131 5) →
    Q none s)) : ps_At d 191 0 [(0, .ref 1131), (1, .int x1), (2, .int x2)] [] s Q :=
  ps_wp_at (stops := []) (n := 13) h rfl

theorem ms_191 {x : Nat → Nat → Nat} {t : Int32} {s : ps_S} {d : Nat} {x1 : Int32} {x2 : Int32} {f : ps_S → Prop} (J : mJ x t s) (q0 : 1 ≤ x1.toInt) (q1 : x1.toInt ≤ 6) (k : ∀ (s' : ps_S), mJ x t s' → kp [] [5, 6] s s' → (1 ≤ (ps_i s' 1131 5).toInt) → f s') : ps_Cl d 191 [.ref 1131, .int x1, .int x2] s (ps_rV f) := by
  have K : kp [] [5, 6] s s := kp_refl
  refine pg_191_0 ?_
  have r1 := mf_5 J
  refine And.intro (fun h2 => ?_) (fun h2 => ?_)
  · have f3 : (ps_i s 1131 5).toInt ≤ (0 : Int) := xle h2
    have J4 := mwi_5 (v := x1) J (show 0 ≤ x1.toInt from by omega) (show x1.toInt ≤ 6 from by omega)
    have K5 := kpi K (q := 5) (v := x1) rfl
    have J6 := mwi_n 6 (v := x2) J4 rfl
    have K7 := kpi K5 (q := 6) (v := x2) rfl
    exact k _ J6 K7 (show 1 ≤ x1.toInt from by omega)
  · have f8 : (0 : Int) < (ps_i s 1131 5).toInt := xlt h2
    exact k _ J K (show 1 ≤ (ps_i s 1131 5).toInt from by omega)

-- ProofBenchModel.isGood()Z
theorem pg_192_0 {d : Nat} {s : ps_S} {Q : Option Value → ps_S → Prop} (h :
  ((ps_i s 1131 5) ≠ 0 →
    Q (some (.int 0)) s) ∧
  ((ps_i s 1131 5) = 0 →
    Q (some (.int 1)) s)) : ps_At d 192 0 [(0, .ref 1131)] [] s Q :=
  ps_wp_at (stops := []) (n := 10) h rfl

theorem ms_192 {x : Nat → Nat → Nat} {t : Int32} {s : ps_S} {d : Nat} {f : Int32 → ps_S → Prop} (J : mJ x t s) (k : ∀ (v : Int32), ((v.toInt = 0 ∧ 1 ≤ (ps_i s 1131 5).toInt) ∨ (v.toInt = 1 ∧ (ps_i s 1131 5).toInt = 0)) → v &&& 1 = v → f v s) : ps_Cl d 192 [.ref 1131] s (ps_rI f) := by
  refine pg_192_0 ?_
  have r1 := mf_5 J
  refine And.intro (fun h2 => ?_) (fun h2 => ?_)
  · have f3 : (ps_i s 1131 5).toInt ≠ (0 : Int) := xne h2
    exact k (0 : Int32) (show ((0 : Int) = 0 ∧ 1 ≤ (ps_i s 1131 5).toInt) ∨ ((0 : Int) = 1 ∧ (ps_i s 1131 5).toInt = 0) from by omega) (by decide)
  · have f4 : (ps_i s 1131 5).toInt = (0 : Int) := xeq h2
    exact k (1 : Int32) (show ((1 : Int) = 0 ∧ 1 ≤ (ps_i s 1131 5).toInt) ∨ ((1 : Int) = 1 ∧ (ps_i s 1131 5).toInt = 0) from by omega) (by decide)

-- ProofBenchModel.isKept(J)Z
