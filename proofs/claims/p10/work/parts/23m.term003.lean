set_option maxRecDepth 100000
theorem ms_215_45 {x : Nat → Nat → Nat} {t : Int32} {d : Nat} {s0 : ps_S} {σ : mSig} {l : List Nat} {b : Bool} {x1 : Int32} {Q : Option Value → ps_S → Prop} (k : ∀ (s' : ps_S), mJ x t s' → kp [1134, 1143, 1144, 1145, 1146, 1147] [5, 6, 7, 8, 9, 10, 11, 23, 29, 31] s0 s' → ((ps_i s' 1131 8).toInt ≤ (ps_i s' 1131 4).toInt) → (1 ≤ (ps_i s' 1131 5).toInt ∨ ((ps_i s' 1131 29).toInt ≤ 13 ∧ 0 ≤ (ps_i s' 1131 30).toInt ∧ (ps_i s' 1131 30).toInt ≤ 5 ∧ (ps_i s' 1131 31).toInt ≤ 40 ∧ (ps_i s0 1131 31).toInt < (ps_i s' 1131 31).toInt)) → ((ps_i s0 1131 31).toInt ≤ (ps_i s' 1131 31).toInt) → (1 ≤ (ps_i s' 1131 5).toInt ∨ ∃ l2, Rw (ps_a s' 1134) x1.toInt l2 ∧ RQ σ (ps_a s' 1144) (ps_a s' 1145) (ps_a s' 1146) (ps_a s' 1147) (ps_i s' 1131 29).toInt (ps_i s' 1131 30).toInt (ps_i s' 1131 31).toInt (ps_i s' 1131 32).toInt l2 b) → (∀ i : Nat, (i : Int) < x1.toInt ∨ x1.toInt + 41 ≤ (i : Int) → ps_a s' 1134 i = ps_a s0 1134 i) → Q none s') (s : ps_S) (J : mJ x t s) (K : kp [1134, 1143, 1144, 1145, 1146, 1147] [5, 6, 7, 8, 9, 10, 11, 23, 29, 31] s0 s) (hS2 : Sg (ps_a s 1135) (ps_a s 1136) (ps_a s 1138) (ps_a s 1139) (ps_i s 1131 22).toInt σ) (hR : Rw (ps_a s 1134) x1.toInt (l)) (hH0 : RH σ (ps_a s 1144) (ps_a s 1145) (ps_a s 1146) (ps_a s 1147) (ps_i s 1131 29).toInt (ps_i s 1131 30).toInt (ps_i s 1131 31).toInt (ps_i s 1131 32).toInt (l) b false) (hO : ∀ i : Nat, (i : Int) < x1.toInt ∨ x1.toInt + 41 ≤ (i : Int) → ps_a s 1134 i = ps_a s0 1134 i) (i4 : (ps_i s 1131 8).toInt ≤ (ps_i s 1131 4).toInt) (i5 : (ps_i s 1131 29).toInt ≤ 13) (i6 : 0 ≤ (ps_i s 1131 30).toInt) (i7 : (ps_i s 1131 30).toInt ≤ 5) (i8 : (ps_i s 1131 31).toInt ≤ 40) (i9 : (ps_i s 1131 31).toInt = (ps_i s0 1131 31).toInt) (i10 : (ps_i s 1131 5).toInt = 0) : ps_At (d + 4) 215 45 [(0, .ref 1131), (1, .int x1)] [] s Q := by
  have r1 := mf_8 J
  have r2 := mf_4 J
  have r3 := mf_29 J
  have r4 := mf_31 J
  have r5 := mf_5 J
  refine pg_215_45 (d := d + 3) ?_
  refine ms_196 J  (fun s6 J6 K6 p6_0 => ?_)
  have K7 := kpt K K6 rfl rfl
  have KC := K6
  have hS2 : Sg (ps_a s6 1135) (ps_a s6 1136) (ps_a s6 1138) (ps_a s6 1139) (ps_i s6 1131 22).toInt σ := by rw [show ps_a s6 1135 = ps_a s 1135 from (K6.2 1135 rfl).1, show ps_a s6 1136 = ps_a s 1136 from (K6.2 1136 rfl).1, show ps_a s6 1138 = ps_a s 1138 from (K6.2 1138 rfl).1, show ps_a s6 1139 = ps_a s 1139 from (K6.2 1139 rfl).1, show ps_i s6 1131 22 = ps_i s 1131 22 from kp_i K6 22 rfl]; exact hS2
  have hR : Rw (ps_a s6 1134) x1.toInt (l) := by rw [show ps_a s6 1134 = ps_a s 1134 from (K6.2 1134 rfl).1]; exact hR
  have hH0 : RH σ (ps_a s6 1144) (ps_a s6 1145) (ps_a s6 1146) (ps_a s6 1147) (ps_i s6 1131 29).toInt (ps_i s6 1131 30).toInt (ps_i s6 1131 31).toInt (ps_i s6 1131 32).toInt (l) b false := by rw [show ps_a s6 1144 = ps_a s 1144 from (K6.2 1144 rfl).1, show ps_a s6 1145 = ps_a s 1145 from (K6.2 1145 rfl).1, show ps_a s6 1146 = ps_a s 1146 from (K6.2 1146 rfl).1, show ps_a s6 1147 = ps_a s 1147 from (K6.2 1147 rfl).1, show ps_i s6 1131 29 = ps_i s 1131 29 from kp_i K6 29 rfl, show ps_i s6 1131 30 = ps_i s 1131 30 from kp_i K6 30 rfl, show ps_i s6 1131 31 = ps_i s 1131 31 from kp_i K6 31 rfl, show ps_i s6 1131 32 = ps_i s 1131 32 from kp_i K6 32 rfl]; exact hH0
  have hO : ∀ i : Nat, (i : Int) < x1.toInt ∨ x1.toInt + 41 ≤ (i : Int) → ps_a s6 1134 i = ps_a s0 1134 i := by rw [show ps_a s6 1134 = ps_a s 1134 from (K6.2 1134 rfl).1]; exact hO
  have p6_0' : 1 ≤ (ps_i s6 1131 5).toInt := p6_0
  have r8 := mf_5 J6
  have r9 := mf_8 J6
  have u10 : (ps_i s6 1131 8).toInt = (ps_i s 1131 8).toInt := xeq (kp_i K6 8 rfl)
  have r11 := mf_4 J6
  have u12 : (ps_i s6 1131 4).toInt = (ps_i s 1131 4).toInt := xeq (kp_i K6 4 rfl)
  have r13 := mf_29 J6
  have u14 : (ps_i s6 1131 29).toInt = (ps_i s 1131 29).toInt := xeq (kp_i K6 29 rfl)
  have u15 : (ps_i s6 1131 30).toInt = (ps_i s 1131 30).toInt := xeq (kp_i K6 30 rfl)
  have r16 := mf_31 J6
  have u17 : (ps_i s6 1131 31).toInt = (ps_i s 1131 31).toInt := xeq (kp_i K6 31 rfl)
  exact ms_215_49 (x1 := x1) (σ := σ) (l := l) (b := b) k   _ J6 K7 hS2 hR hH0 hO (show (ps_i s6 1131 8).toInt ≤ (ps_i s6 1131 4).toInt from by omega) (show (ps_i s6 1131 29).toInt ≤ 13 from by omega) (show 0 ≤ (ps_i s6 1131 30).toInt from by omega) (show (ps_i s6 1131 30).toInt ≤ 5 from by omega) (show (ps_i s6 1131 31).toInt ≤ 40 from by omega) (show (ps_i s6 1131 31).toInt = (ps_i s0 1131 31).toInt from by omega) (show 1 ≤ (ps_i s6 1131 5).toInt ∨ ((ps_i s6 1131 31).toInt + 1 ≤ 40 ∧ (ps_i s6 1131 29).toInt ≤ 12) from by omega)

