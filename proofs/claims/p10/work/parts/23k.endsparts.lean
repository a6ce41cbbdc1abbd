set_option maxRecDepth 100000
-- ProofBenchModel.endsParts(I)Z
theorem pg_212_0 {d : Nat} {x1 : Int32} {s : ps_S} {Q : Option Value → ps_S → Prop} (h :
  ((ps_i s 1131 29) ≤ 0 →
    ps_At (d + 1) 212 74 [(0, .ref 1131)] [] s Q) ∧
  (0 < (ps_i s 1131 29) →
    ps_nd (pm_in ((ps_i s 1131 29) - 1) 16) (((ps_a s 1144 (Int32.toNatClampNeg ((ps_i s 1131 29) - 1))) ≠ 0 →
      ps_At (d + 1) 212 74 [(0, .ref 1131)] [] s Q) ∧
    ((ps_a s 1144 (Int32.toNatClampNeg ((ps_i s 1131 29) - 1))) = 0 →
      ps_nd (pm_in (ps_i (ps_ui s 1131 29 ((ps_i s 1131 29) - 1)) 1131 29) 16) (((ps_a (ps_ui s 1131 29 ((ps_i s 1131 29) - 1)) 1146 (Int32.toNatClampNeg (ps_i (ps_ui s 1131 29 ((ps_i s 1131 29) - 1)) 1131 29))) = 0 →
        ps_At (d + 1) 212 49 [(0, .ref 1131), (1, .int x1)] [] (ps_ui s 1131 29 ((ps_i s 1131 29) - 1)) Q) ∧
      ((ps_a (ps_ui s 1131 29 ((ps_i s 1131 29) - 1)) 1146 (Int32.toNatClampNeg (ps_i (ps_ui s 1131 29 ((ps_i s 1131 29) - 1)) 1131 29))) ≠ 0 →
        ps_Cl d 210 [.ref 1131, .int x1, .int 0] (ps_ui s 1131 29 ((ps_i s 1131 29) - 1)) (ps_rV (fun s1 =>
          ps_At (d + 1) 212 49 [(0, .ref 1131), (1, .int x1)] [] s1 Q)))))))) : ps_At (d + 1) 212 0 [(0, .ref 1131), (1, .int x1)] [] s Q :=
  ps_wp_at (stops := [(0, [0, 1]), (49, [0, 1]), (74, [0])]) (n := 29) h rfl

theorem pg_212_49 {d : Nat} {x1 : Int32} {s : ps_S} {Q : Option Value → ps_S → Prop} (h :
  ps_nd (pm_in (ps_i s 1131 29) 16) (((ps_a s 1147 (Int32.toNatClampNeg (ps_i s 1131 29))) = 0 →
    ps_At (d + 1) 212 0 [(0, .ref 1131), (1, .int x1)] [] s Q) ∧
  ((ps_a s 1147 (Int32.toNatClampNeg (ps_i s 1131 29))) ≠ 0 →
    ps_At (d + 1) 212 0 [(0, .ref 1131), (1, .int x1)] [] (ps_ui s 1131 30 ((ps_i s 1131 30) - 1)) Q))) : ps_At (d + 1) 212 49 [(0, .ref 1131), (1, .int x1)] [] s Q :=
  ps_wp_at (stops := [(0, [0, 1]), (49, [0, 1]), (74, [0])]) (n := 15) h rfl

theorem pg_212_74 {d : Nat} {s : ps_S} {Q : Option Value → ps_S → Prop} (h :
  ((ps_i s 1131 29) ≠ 0 →
    ps_nd (pm_in ((ps_i s 1131 29) - 1) 16) (ps_nd (pm_in ((ps_i s 1131 29) - 1) 16) (Q (some (.int 1)) (ps_ua s 1144 (Int32.toNatClampNeg ((ps_i s 1131 29) - 1)) ((ps_a s 1144 (Int32.toNatClampNeg ((ps_i s 1131 29) - 1))) - 1))))) ∧
  ((ps_i s 1131 29) = 0 →
    Q (some (.int 0)) s)) : ps_At (d + 1) 212 74 [(0, .ref 1131)] [] s Q :=
  ps_wp_at (stops := [(0, [0, 1]), (49, [0, 1]), (74, [0])]) (n := 20) h rfl

theorem ms_212_49 {x : Nat → Nat → Nat} {t : Int32} {d : Nat} {s0 : ps_S} {σ : mSig} {b : Bool} {x1 : Int32} {Q : Option Value → ps_S → Prop} (k : ∀ (v : Int32) (s' : ps_S), mJ x t s' → kp [1134, 1144] [29, 30] s0 s' → ((ps_i s' 1131 29).toInt ≤ 13) → (0 ≤ (ps_i s' 1131 30).toInt) → ((ps_i s' 1131 30).toInt ≤ 5) → ((v.toInt = 0 ∧ ∃ l2, Rw (ps_a s' 1134) x1.toInt l2 ∧ wf σ 5 l2 [(b, 0)] ∧ ((ps_i s' 1131 32).toInt ≠ 0 → ∀ p, p ∈ l2 → p < 60)) ∨ (v.toInt ≠ 0 ∧ ∃ l2 b0, Rw (ps_a s' 1134) x1.toInt l2 ∧ RH σ (ps_a s' 1144) (ps_a s' 1145) (ps_a s' 1146) (ps_a s' 1147) (ps_i s' 1131 29).toInt (ps_i s' 1131 30).toInt (ps_i s' 1131 31).toInt (ps_i s' 1131 32).toInt l2 b b0 ∧ ((ps_i s' 1131 29).toInt = 0 → b0 = b) ∧ (0 < (ps_i s' 1131 29).toInt → b0 = decide (ps_a s' 1145 ((ps_i s' 1131 29).toInt - 1).toNat = 0)))) → (∀ i : Nat, (i : Int) < x1.toInt ∨ x1.toInt + 41 ≤ (i : Int) → ps_a s' 1134 i = ps_a s0 1134 i) → v &&& 1 = v → Q (some (.int v)) s') (n0 : Nat) (KH0 : ∀ (l : List Nat) (s : ps_S), (mJ x t s) → (kp [1134, 1144] [29, 30] s0 s) → (Rw (ps_a s 1134) x1.toInt (l)) → (RQ σ (ps_a s 1144) (ps_a s 1145) (ps_a s 1146) (ps_a s 1147) (ps_i s 1131 29).toInt (ps_i s 1131 30).toInt (ps_i s 1131 31).toInt (ps_i s 1131 32).toInt (l) b) → (∀ i : Nat, (i : Int) < x1.toInt ∨ x1.toInt + 41 ≤ (i : Int) → ps_a s 1134 i = ps_a s0 1134 i) → ((ps_i s 1131 29).toInt ≤ 13) → (0 ≤ (ps_i s 1131 30).toInt) → ((ps_i s 1131 30).toInt ≤ 5) → ((ps_i s 1131 31).toInt ≤ 40) → ((ps_i s 1131 29).toInt ≤ (n0 : Int) - 1) → ps_At (d + 1) 212 0 [(0, .ref 1131), (1, .int x1)] [] s Q) (l : List Nat) (s : ps_S) (J : mJ x t s) (K : kp [1134, 1144] [29, 30] s0 s) (hR : Rw (ps_a s 1134) x1.toInt (l)) (hP : RQ σ (ps_a s 1144) (ps_a s 1145) (ps_a s 1146) (ps_a s 1147) (ps_i s 1131 29).toInt ((ps_i s 1131 30).toInt - if ps_a s 1147 (ps_i s 1131 29).toInt.toNat = 0 then 0 else 1) (ps_i s 1131 31).toInt (ps_i s 1131 32).toInt (l) b) (hO : ∀ i : Nat, (i : Int) < x1.toInt ∨ x1.toInt + 41 ≤ (i : Int) → ps_a s 1134 i = ps_a s0 1134 i) (i3 : (ps_i s 1131 29).toInt ≤ 13) (i4 : 0 ≤ (ps_i s 1131 30).toInt) (i5 : (ps_i s 1131 30).toInt ≤ 5) (i6 : (ps_i s 1131 31).toInt ≤ 40) (i7 : (ps_i s 1131 29).toInt ≤ 12) (hm0 : (ps_i s 1131 29).toInt + 1 ≤ (n0 : Int)) : ps_At (d + 1) 212 49 [(0, .ref 1131), (1, .int x1)] [] s Q := by
  have r1 := mf_29 J
  have r2 := mf_31 J
  refine pg_212_49 (d := d) ?_
  have hN := RQ_nn hP
  have hB : ((ps_a s 1147 (Int32.toNatClampNeg (ps_i s 1131 29))).toInt = 0 ∧ ((ps_i s 1131 30).toInt - if ps_a s 1147 (ps_i s 1131 29).toInt.toNat = 0 then 0 else 1) = (ps_i s 1131 30).toInt) ∨ ((ps_a s 1147 (Int32.toNatClampNeg (ps_i s 1131 29))).toInt ≠ 0 ∧ ((ps_i s 1131 30).toInt - if ps_a s 1147 (ps_i s 1131 29).toInt.toNat = 0 then 0 else 1) = (ps_i s 1131 30).toInt - 1) := kqc
  obtain ⟨kk, hkk⟩ : ∃ kk : Int, kk = ((ps_i s 1131 30).toInt - if ps_a s 1147 (ps_i s 1131 29).toInt.toNat = 0 then 0 else 1) := ⟨_, rfl⟩
  have hP2 := hP
  rw [← hkk] at hP2 hN hB
  refine ps_nd_i (show pm_in (ps_i s 1131 29) 16 = true from xgi (show 0 ≤ (ps_i s 1131 29).toInt from by omega) (show (ps_i s 1131 29).toInt < 16 from by omega)) ?_
  refine And.intro (fun h3 => ?_) (fun h3 => ?_)
  · have f4 : (ps_a s 1147 (Int32.toNatClampNeg (ps_i s 1131 29))).toInt = (0 : Int) := xeq h3
    exact KH0 l _ J K hR (RQ_k hP2 rfl (show (ps_i s 1131 30).toInt = kk from by omega) rfl rfl) hO (show (ps_i s 1131 29).toInt ≤ 13 from by omega) (show 0 ≤ (ps_i s 1131 30).toInt from by omega) (show (ps_i s 1131 30).toInt ≤ 5 from by omega) (show (ps_i s 1131 31).toInt ≤ 40 from by omega) (show (ps_i s 1131 29).toInt ≤ (n0 : Int) - 1 from by omega)
  · have f5 : (ps_a s 1147 (Int32.toNatClampNeg (ps_i s 1131 29))).toInt ≠ (0 : Int) := xne h3
    have a6 : ((ps_i s 1131 30) - 1).toInt = (ps_i s 1131 30).toInt - (1 : Int) := xIs (show -2147483648 ≤ (ps_i s 1131 30).toInt - (1 : Int) from by omega) (show (ps_i s 1131 30).toInt - (1 : Int) < 2147483648 from by omega)
    have J7 := mwi_n 30 (v := ((ps_i s 1131 30) - 1)) J rfl
    have K8 := kpi K (q := 30) (v := ((ps_i s 1131 30) - 1)) rfl
    exact KH0 l _ J7 K8 hR (RQ_k hP2 rfl (show ((ps_i s 1131 30) - 1).toInt = kk from by omega) rfl rfl) hO (show (ps_i s 1131 29).toInt ≤ 13 from by omega) (show 0 ≤ ((ps_i s 1131 30) - 1).toInt from by omega) (show ((ps_i s 1131 30) - 1).toInt ≤ 5 from by omega) (show (ps_i s 1131 31).toInt ≤ 40 from by omega) (show (ps_i s 1131 29).toInt ≤ (n0 : Int) - 1 from by omega)

theorem ms_212_74 {x : Nat → Nat → Nat} {t : Int32} {d : Nat} {s0 : ps_S} {σ : mSig} {b : Bool} {x1 : Int32} {Q : Option Value → ps_S → Prop} (k : ∀ (v : Int32) (s' : ps_S), mJ x t s' → kp [1134, 1144] [29, 30] s0 s' → ((ps_i s' 1131 29).toInt ≤ 13) → (0 ≤ (ps_i s' 1131 30).toInt) → ((ps_i s' 1131 30).toInt ≤ 5) → ((v.toInt = 0 ∧ ∃ l2, Rw (ps_a s' 1134) x1.toInt l2 ∧ wf σ 5 l2 [(b, 0)] ∧ ((ps_i s' 1131 32).toInt ≠ 0 → ∀ p, p ∈ l2 → p < 60)) ∨ (v.toInt ≠ 0 ∧ ∃ l2 b0, Rw (ps_a s' 1134) x1.toInt l2 ∧ RH σ (ps_a s' 1144) (ps_a s' 1145) (ps_a s' 1146) (ps_a s' 1147) (ps_i s' 1131 29).toInt (ps_i s' 1131 30).toInt (ps_i s' 1131 31).toInt (ps_i s' 1131 32).toInt l2 b b0 ∧ ((ps_i s' 1131 29).toInt = 0 → b0 = b) ∧ (0 < (ps_i s' 1131 29).toInt → b0 = decide (ps_a s' 1145 ((ps_i s' 1131 29).toInt - 1).toNat = 0)))) → (∀ i : Nat, (i : Int) < x1.toInt ∨ x1.toInt + 41 ≤ (i : Int) → ps_a s' 1134 i = ps_a s0 1134 i) → v &&& 1 = v → Q (some (.int v)) s') (l : List Nat) (s : ps_S) (J : mJ x t s) (K : kp [1134, 1144] [29, 30] s0 s) (hR : Rw (ps_a s 1134) x1.toInt (l)) (hQ : RQ σ (ps_a s 1144) (ps_a s 1145) (ps_a s 1146) (ps_a s 1147) (ps_i s 1131 29).toInt (ps_i s 1131 30).toInt (ps_i s 1131 31).toInt (ps_i s 1131 32).toInt (l) b) (hO : ∀ i : Nat, (i : Int) < x1.toInt ∨ x1.toInt + 41 ≤ (i : Int) → ps_a s 1134 i = ps_a s0 1134 i) (i3 : (ps_i s 1131 29).toInt ≤ 13) (i4 : 0 ≤ (ps_i s 1131 30).toInt) (i5 : (ps_i s 1131 30).toInt ≤ 5) (i6 : (ps_i s 1131 31).toInt ≤ 40) (i7 : (ps_i s 1131 29).toInt = 0 ∨ (ps_a s 1144 ((ps_i s 1131 29).toInt - 1).toNat).toInt ≠ 0) : ps_At (d + 1) 212 74 [(0, .ref 1131)] [] s Q := by
  have r1 := mf_29 J
  have r2 := mf_31 J
  refine pg_212_74 (d := d) ?_
  refine And.intro (fun h3 => ?_) (fun h3 => ?_)
  · have f4 : (ps_i s 1131 29).toInt ≠ (0 : Int) := xne h3
    have a5 : ((ps_i s 1131 29) - 1).toInt = (ps_i s 1131 29).toInt - (1 : Int) := xIs (show -2147483648 ≤ (ps_i s 1131 29).toInt - (1 : Int) from by omega) (show (ps_i s 1131 29).toInt - (1 : Int) < 2147483648 from by omega)
    have e6 : Int32.toNatClampNeg ((ps_i s 1131 29) - 1) = ((ps_i s 1131 29).toInt - 1).toNat := nx (by omega)
    have hT := RQ_top hQ (by omega)
    have hT2 : 0 ≤ (ps_a s 1144 (Int32.toNatClampNeg ((ps_i s 1131 29) - 1))).toInt := by rw [e6]; exact hT.2.1
    have hxr := xR (ps_a s 1144 (Int32.toNatClampNeg ((ps_i s 1131 29) - 1)))
    refine ps_nd_i (show pm_in ((ps_i s 1131 29) - 1) 16 = true from xgi (show 0 ≤ ((ps_i s 1131 29) - 1).toInt from by omega) (show ((ps_i s 1131 29) - 1).toInt < 16 from by omega)) ?_
    have a6 : ((ps_a s 1144 (Int32.toNatClampNeg ((ps_i s 1131 29) - 1))) - 1).toInt = (ps_a s 1144 (Int32.toNatClampNeg ((ps_i s 1131 29) - 1))).toInt - (1 : Int) := xIs (show -2147483648 ≤ (ps_a s 1144 (Int32.toNatClampNeg ((ps_i s 1131 29) - 1))).toInt - (1 : Int) from by omega) (show (ps_a s 1144 (Int32.toNatClampNeg ((ps_i s 1131 29) - 1))).toInt - (1 : Int) < 2147483648 from by omega)
    refine ps_nd_i (show pm_in ((ps_i s 1131 29) - 1) 16 = true from xgi (show 0 ≤ ((ps_i s 1131 29) - 1).toInt from by omega) (show ((ps_i s 1131 29) - 1).toInt < 16 from by omega)) ?_
    have J7 := mwa_n 1144 (i := (Int32.toNatClampNeg ((ps_i s 1131 29) - 1))) (v := ((ps_a s 1144 (Int32.toNatClampNeg ((ps_i s 1131 29) - 1))) - 1)) J rfl (by decide)
    have K8 := kpa' K (r := 1144) (i := (Int32.toNatClampNeg ((ps_i s 1131 29) - 1))) (v := ((ps_a s 1144 (Int32.toNatClampNeg ((ps_i s 1131 29) - 1))) - 1)) rfl
    exact k (1 : Int32) _ J7 K8 (show (ps_i s 1131 29).toInt ≤ 13 from by omega) (show 0 ≤ (ps_i s 1131 30).toInt from by omega) (show (ps_i s 1131 30).toInt ≤ 5 from by omega) (Or.inr ⟨by decide, l, _, hR, RQ_next hQ (by omega) (i7.resolve_left (by omega)) (fun i hi => ua_ne (by omega)) (by rw [← e6]; exact (congrArg Int32.toInt ua_eq).trans (by omega)) rfl rfl rfl rfl, fun z => absurd z (show ¬ ((ps_i s 1131 29).toInt = 0) from by omega), fun _ => rfl⟩) (hO) (by decide)
  · have f9 : (ps_i s 1131 29).toInt = (0 : Int) := xeq h3
    exact k (0 : Int32) _ J K (show (ps_i s 1131 29).toInt ≤ 13 from by omega) (show 0 ≤ (ps_i s 1131 30).toInt from by omega) (show (ps_i s 1131 30).toInt ≤ 5 from by omega) (Or.inl ⟨by decide, l, hR, (RQ_end hQ (by omega)).1, (RQ_end hQ (by omega)).2⟩) (hO) (by decide)

theorem ms_212_0 {x : Nat → Nat → Nat} {t : Int32} {d : Nat} {s0 : ps_S} {σ : mSig} {b : Bool} {x1 : Int32} {Q : Option Value → ps_S → Prop} (k : ∀ (v : Int32) (s' : ps_S), mJ x t s' → kp [1134, 1144] [29, 30] s0 s' → ((ps_i s' 1131 29).toInt ≤ 13) → (0 ≤ (ps_i s' 1131 30).toInt) → ((ps_i s' 1131 30).toInt ≤ 5) → ((v.toInt = 0 ∧ ∃ l2, Rw (ps_a s' 1134) x1.toInt l2 ∧ wf σ 5 l2 [(b, 0)] ∧ ((ps_i s' 1131 32).toInt ≠ 0 → ∀ p, p ∈ l2 → p < 60)) ∨ (v.toInt ≠ 0 ∧ ∃ l2 b0, Rw (ps_a s' 1134) x1.toInt l2 ∧ RH σ (ps_a s' 1144) (ps_a s' 1145) (ps_a s' 1146) (ps_a s' 1147) (ps_i s' 1131 29).toInt (ps_i s' 1131 30).toInt (ps_i s' 1131 31).toInt (ps_i s' 1131 32).toInt l2 b b0 ∧ ((ps_i s' 1131 29).toInt = 0 → b0 = b) ∧ (0 < (ps_i s' 1131 29).toInt → b0 = decide (ps_a s' 1145 ((ps_i s' 1131 29).toInt - 1).toNat = 0)))) → (∀ i : Nat, (i : Int) < x1.toInt ∨ x1.toInt + 41 ≤ (i : Int) → ps_a s' 1134 i = ps_a s0 1134 i) → v &&& 1 = v → Q (some (.int v)) s') : ∀ (n : Nat) (l : List Nat) (s : ps_S), (mJ x t s) → (kp [1134, 1144] [29, 30] s0 s) → (Rw (ps_a s 1134) x1.toInt (l)) → (RQ σ (ps_a s 1144) (ps_a s 1145) (ps_a s 1146) (ps_a s 1147) (ps_i s 1131 29).toInt (ps_i s 1131 30).toInt (ps_i s 1131 31).toInt (ps_i s 1131 32).toInt (l) b) → (∀ i : Nat, (i : Int) < x1.toInt ∨ x1.toInt + 41 ≤ (i : Int) → ps_a s 1134 i = ps_a s0 1134 i) → ((ps_i s 1131 29).toInt ≤ 13) → (0 ≤ (ps_i s 1131 30).toInt) → ((ps_i s 1131 30).toInt ≤ 5) → ((ps_i s 1131 31).toInt ≤ 40) → (ps_i s 1131 29).toInt ≤ (n : Int) → ps_At (d + 1) 212 0 [(0, .ref 1131), (1, .int x1)] [] s Q := by
  refine xstr (fun n ih => ?_)
  intro l s J K hR hQ hO i3 i4 i5 i6 hm
  have r1 := mf_29 J
  have r2 := mf_31 J
  refine pg_212_0 (d := d) ?_
  refine And.intro (fun h3 => ?_) (fun h3 => ?_)
  · have f4 : (ps_i s 1131 29).toInt ≤ (0 : Int) := xle h3
    exact ms_212_74 (x1 := x1) (σ := σ) (b := b) k  l _ J K hR hQ hO (show (ps_i s 1131 29).toInt ≤ 13 from by omega) (show 0 ≤ (ps_i s 1131 30).toInt from by omega) (show (ps_i s 1131 30).toInt ≤ 5 from by omega) (show (ps_i s 1131 31).toInt ≤ 40 from by omega) ((by first | exact Or.inl (show (ps_i s 1131 29).toInt = 0 from by omega) | exact Or.inr (by rw [← e6]; omega)))
  · have f5 : (0 : Int) < (ps_i s 1131 29).toInt := xlt h3
    have a6 : ((ps_i s 1131 29) - 1).toInt = (ps_i s 1131 29).toInt - (1 : Int) := xIs (show -2147483648 ≤ (ps_i s 1131 29).toInt - (1 : Int) from by omega) (show (ps_i s 1131 29).toInt - (1 : Int) < 2147483648 from by omega)
    have e6 : Int32.toNatClampNeg ((ps_i s 1131 29) - 1) = ((ps_i s 1131 29).toInt - 1).toNat := nx (by omega)
    have hT := RQ_top hQ (by omega)
    refine ps_nd_i (show pm_in ((ps_i s 1131 29) - 1) 16 = true from xgi (show 0 ≤ ((ps_i s 1131 29) - 1).toInt from by omega) (show ((ps_i s 1131 29) - 1).toInt < 16 from by omega)) ?_
    refine And.intro (fun h7 => ?_) (fun h7 => ?_)
    · have f8 : (ps_a s 1144 (Int32.toNatClampNeg ((ps_i s 1131 29) - 1))).toInt ≠ (0 : Int) := xne h7
      exact ms_212_74 (x1 := x1) (σ := σ) (b := b) k  l _ J K hR hQ hO (show (ps_i s 1131 29).toInt ≤ 13 from by omega) (show 0 ≤ (ps_i s 1131 30).toInt from by omega) (show (ps_i s 1131 30).toInt ≤ 5 from by omega) (show (ps_i s 1131 31).toInt ≤ 40 from by omega) ((by first | exact Or.inl (show (ps_i s 1131 29).toInt = 0 from by omega) | exact Or.inr (by rw [← e6]; omega)))
    · have f9 : (ps_a s 1144 (Int32.toNatClampNeg ((ps_i s 1131 29) - 1))).toInt = (0 : Int) := xeq h7
      have J10 := mwi_29 (v := ((ps_i s 1131 29) - 1)) J (show 0 ≤ ((ps_i s 1131 29) - 1).toInt from by omega) (show ((ps_i s 1131 29) - 1).toInt ≤ 16 from by omega)
      have K11 := kpi K (q := 29) (v := ((ps_i s 1131 29) - 1)) rfl
      refine ps_nd_i (show pm_in ((ps_i s 1131 29) - 1) 16 = true from xgi (show 0 ≤ ((ps_i s 1131 29) - 1).toInt from by omega) (show ((ps_i s 1131 29) - 1).toInt < 16 from by omega)) ?_
      refine And.intro (fun h12 => ?_) (fun h12 => ?_)
      · have f13 : (ps_a s 1146 (Int32.toNatClampNeg ((ps_i s 1131 29) - 1))).toInt = (0 : Int) := xeq h12
        exact ms_212_49 (x1 := x1) (σ := σ) (b := b) k n (fun lz sz Jz Kz i0z i1z i2z i3z i4z i5z i6z hm => ih (n - 1) (show n - 1 < n from by omega) lz sz Jz Kz i0z i1z i2z i3z i4z i5z i6z (show _ ≤ ((n - 1 : Nat) : Int) from by omega)) l _ J10 K11 hR (RQ_k (RQ_pop hQ (by omega) (by show (ps_a s 1144 ((ps_i s 1131 29).toInt - 1).toNat).toInt = 0; rw [← e6]; omega) (by show ps_a s 1146 ((ps_i s 1131 29).toInt - 1).toNat = 0; rw [← e6]; exact x0 (by omega))) (show ((ps_i s 1131 29) - 1).toInt = (ps_i s 1131 29).toInt - 1 from by omega) (show ((ps_i s 1131 30).toInt - if ps_a s 1147 (((ps_i s 1131 29) - 1).toInt).toNat = 0 then 0 else 1) = ((ps_i s 1131 30).toInt - if ps_a s 1147 ((ps_i s 1131 29).toInt - 1).toNat = 0 then 0 else 1) from by rw [show ((ps_i s 1131 29) - 1).toInt = (ps_i s 1131 29).toInt - 1 from by omega]) rfl rfl) hO (show ((ps_i s 1131 29) - 1).toInt ≤ 13 from by omega) (show 0 ≤ (ps_i s 1131 30).toInt from by omega) (show (ps_i s 1131 30).toInt ≤ 5 from by omega) (show (ps_i s 1131 31).toInt ≤ 40 from by omega) (show ((ps_i s 1131 29) - 1).toInt ≤ 12 from by omega) (show ((ps_i s 1131 29) - 1).toInt + 1 ≤ ((n : Nat) : Int) from by omega)
      · have f14 : (ps_a s 1146 (Int32.toNatClampNeg ((ps_i s 1131 29) - 1))).toInt ≠ (0 : Int) := xne h12
        have hT3 := hT.2.2 (fun z => by have z : ps_a s 1146 ((ps_i s 1131 29).toInt - 1).toNat = 0 := z; rw [← e6] at z; have z2 := congrArg Int32.toInt z; rw [Int32.toInt_zero] at z2; omega)
        have hPn : RQ σ (ps_a (ps_ui s 1131 29 ((ps_i s 1131 29) - 1)) 1144) (ps_a (ps_ui s 1131 29 ((ps_i s 1131 29) - 1)) 1145) (ps_a (ps_ui s 1131 29 ((ps_i s 1131 29) - 1)) 1146) (ps_a (ps_ui s 1131 29 ((ps_i s 1131 29) - 1)) 1147) (ps_i (ps_ui s 1131 29 ((ps_i s 1131 29) - 1)) 1131 29).toInt ((ps_i (ps_ui s 1131 29 ((ps_i s 1131 29) - 1)) 1131 30).toInt - if ps_a (ps_ui s 1131 29 ((ps_i s 1131 29) - 1)) 1147 (ps_i (ps_ui s 1131 29 ((ps_i s 1131 29) - 1)) 1131 29).toInt.toNat = 0 then 0 else 1) (ps_i (ps_ui s 1131 29 ((ps_i s 1131 29) - 1)) 1131 31).toInt (ps_i (ps_ui s 1131 29 ((ps_i s 1131 29) - 1)) 1131 32).toInt (l ++ [0]) b := RQ_k (RQ_popn hQ (by omega) (by omega) (by show (ps_a s 1144 ((ps_i s 1131 29).toInt - 1).toNat).toInt = 0; rw [← e6]; omega) (fun z => by have z : ps_a s 1146 ((ps_i s 1131 29).toInt - 1).toNat = 0 := z; rw [← e6] at z; have z2 := congrArg Int32.toInt z; rw [Int32.toInt_zero] at z2; omega)) (show ((ps_i s 1131 29) - 1).toInt = (ps_i s 1131 29).toInt - 1 from by omega) (show ((ps_i s 1131 30).toInt - if ps_a s 1147 (((ps_i s 1131 29) - 1).toInt).toNat = 0 then 0 else 1) = ((ps_i s 1131 30).toInt - if ps_a s 1147 ((ps_i s 1131 29).toInt - 1).toNat = 0 then 0 else 1) from by rw [show ((ps_i s 1131 29) - 1).toInt = (ps_i s 1131 29).toInt - 1 from by omega]) rfl rfl
        refine ms_210 (l := l) (p := 0) J10 hR ((by omega)) (rfl) (fun s15 J15 K15 p15_0 p15_1 => ?_)
        have K16 := kpt K11 K15 rfl rfl
        have KC := K15
        have hPn : RQ σ (ps_a s15 1144) (ps_a s15 1145) (ps_a s15 1146) (ps_a s15 1147) (ps_i s15 1131 29).toInt ((ps_i s15 1131 30).toInt - if ps_a s15 1147 (ps_i s15 1131 29).toInt.toNat = 0 then 0 else 1) (ps_i s15 1131 31).toInt (ps_i s15 1131 32).toInt (l ++ [0]) b := by rw [show ps_a s15 1144 = ps_a (ps_ui s 1131 29 ((ps_i s 1131 29) - 1)) 1144 from (K15.2 1144 rfl).1, show ps_a s15 1145 = ps_a (ps_ui s 1131 29 ((ps_i s 1131 29) - 1)) 1145 from (K15.2 1145 rfl).1, show ps_a s15 1146 = ps_a (ps_ui s 1131 29 ((ps_i s 1131 29) - 1)) 1146 from (K15.2 1146 rfl).1, show ps_a s15 1147 = ps_a (ps_ui s 1131 29 ((ps_i s 1131 29) - 1)) 1147 from (K15.2 1147 rfl).1, show ps_i s15 1131 29 = ps_i (ps_ui s 1131 29 ((ps_i s 1131 29) - 1)) 1131 29 from kp_i K15 29 rfl, show ps_i s15 1131 30 = ps_i (ps_ui s 1131 29 ((ps_i s 1131 29) - 1)) 1131 30 from kp_i K15 30 rfl, show ps_i s15 1131 31 = ps_i (ps_ui s 1131 29 ((ps_i s 1131 29) - 1)) 1131 31 from kp_i K15 31 rfl, show ps_i s15 1131 32 = ps_i (ps_ui s 1131 29 ((ps_i s 1131 29) - 1)) 1131 32 from kp_i K15 32 rfl]; exact hPn
        have hR2 : Rw (ps_a s15 1134) x1.toInt (l ++ [0]) := p15_0
        have ho : _ := p15_1
        have r17 := mf_29 J15
        have u18 : (ps_i s15 1131 29).toInt = ((ps_i s 1131 29) - 1).toInt := xeq (kp_i K15 29 rfl)
        have u19 : (ps_i s15 1131 30).toInt = (ps_i s 1131 30).toInt := xeq (kp_i K15 30 rfl)
        have r20 := mf_31 J15
        have u21 : (ps_i s15 1131 31).toInt = (ps_i s 1131 31).toInt := xeq (kp_i K15 31 rfl)
        exact ms_212_49 (x1 := x1) (σ := σ) (b := b) k n (fun lz sz Jz Kz i0z i1z i2z i3z i4z i5z i6z hm => ih (n - 1) (show n - 1 < n from by omega) lz sz Jz Kz i0z i1z i2z i3z i4z i5z i6z (show _ ≤ ((n - 1 : Nat) : Int) from by omega)) (l ++ [0]) _ J15 K16 (hR2) (hPn) (fun i hi => (ho i hi).trans (hO i hi)) (show (ps_i s15 1131 29).toInt ≤ 13 from by omega) (show 0 ≤ (ps_i s15 1131 30).toInt from by omega) (show (ps_i s15 1131 30).toInt ≤ 5 from by omega) (show (ps_i s15 1131 31).toInt ≤ 40 from by omega) (show (ps_i s15 1131 29).toInt ≤ 12 from by omega) (show (ps_i s15 1131 29).toInt + 1 ≤ ((n : Nat) : Int) from by omega)

theorem ms_212 {x : Nat → Nat → Nat} {t : Int32} {s : ps_S} {d : Nat} {x1 : Int32} {f : Int32 → ps_S → Prop} (J : mJ x t s) {σ : mSig} {b : Bool} (hE : ∃ l2, Rw (ps_a s 1134) x1.toInt l2 ∧ RQ σ (ps_a s 1144) (ps_a s 1145) (ps_a s 1146) (ps_a s 1147) (ps_i s 1131 29).toInt (ps_i s 1131 30).toInt (ps_i s 1131 31).toInt (ps_i s 1131 32).toInt l2 b) (q1 : (ps_i s 1131 29).toInt ≤ 13) (q2 : 0 ≤ (ps_i s 1131 30).toInt) (q3 : (ps_i s 1131 30).toInt ≤ 5) (q4 : (ps_i s 1131 31).toInt ≤ 40) (k : ∀ (v : Int32) (s' : ps_S), mJ x t s' → kp [1134, 1144] [29, 30] s s' → ((ps_i s' 1131 29).toInt ≤ 13) → (0 ≤ (ps_i s' 1131 30).toInt) → ((ps_i s' 1131 30).toInt ≤ 5) → ((v.toInt = 0 ∧ ∃ l2, Rw (ps_a s' 1134) x1.toInt l2 ∧ wf σ 5 l2 [(b, 0)] ∧ ((ps_i s' 1131 32).toInt ≠ 0 → ∀ p, p ∈ l2 → p < 60)) ∨ (v.toInt ≠ 0 ∧ ∃ l2 b0, Rw (ps_a s' 1134) x1.toInt l2 ∧ RH σ (ps_a s' 1144) (ps_a s' 1145) (ps_a s' 1146) (ps_a s' 1147) (ps_i s' 1131 29).toInt (ps_i s' 1131 30).toInt (ps_i s' 1131 31).toInt (ps_i s' 1131 32).toInt l2 b b0 ∧ ((ps_i s' 1131 29).toInt = 0 → b0 = b) ∧ (0 < (ps_i s' 1131 29).toInt → b0 = decide (ps_a s' 1145 ((ps_i s' 1131 29).toInt - 1).toNat = 0)))) → (∀ i : Nat, (i : Int) < x1.toInt ∨ x1.toInt + 41 ≤ (i : Int) → ps_a s' 1134 i = ps_a s 1134 i) → v &&& 1 = v → f v s') : ps_Cl (d + 1) 212 [.ref 1131, .int x1] s (ps_rI f) := by
  have r1 := mf_29 J
  have r2 := mf_31 J
  have K : kp [1134, 1144] [29, 30] s s := kp_refl
  obtain ⟨l, hR, hQ⟩ := id hE
  exact ms_212_0 (x1 := x1) (σ := σ) (b := b) k  ((ps_i s 1131 29).toInt).toNat l _ J K (hR) (hQ) ((fun i _ => rfl)) (show (ps_i s 1131 29).toInt ≤ 13 from by omega) (show 0 ≤ (ps_i s 1131 30).toInt from by omega) (show (ps_i s 1131 30).toInt ≤ 5 from by omega) (show (ps_i s 1131 31).toInt ≤ 40 from by omega) (show (ps_i s 1131 29).toInt ≤ ((((ps_i s 1131 29).toInt).toNat : Nat) : Int) from by omega)
