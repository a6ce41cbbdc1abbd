set_option maxRecDepth 100000
-- ProofBenchModel.layDepths(I)V
theorem pg_294_0 {d : Nat} {x1 : Int32} {s : ps_S} {Q : Option Value → ps_S → Prop} (h :
  ps_At (d + 1) 294 4 [(0, .ref 1131), (1, .int x1), (2, .int 0), (3, .int 0)] [] s Q) : ps_At (d + 1) 294 0 [(0, .ref 1131), (1, .int x1)] [] s Q :=
  ps_wp_at (stops := [(4, [0, 1, 2, 3]), (13, [0, 1, 2, 3]), (29, [0, 1, 2, 3]), (35, [0, 1, 2, 3]), (62, [0, 1, 2, 3])]) (n := 6) h rfl

theorem pg_294_4 {d : Nat} {x1 : Int32} {x2 : Int32} {x3 : Int32} {s : ps_S} {Q : Option Value → ps_S → Prop} (h :
  ps_Cl d 219 [.ref 1131, .int x1] s (ps_rI (fun v1 s1 =>
    (v1 ≤ x3 →
      Q none s1) ∧
    (x3 < v1 →
      ps_At (d + 1) 294 13 [(0, .ref 1131), (1, .int x1), (2, .int x2), (3, .int x3)] [] s1 Q)))) : ps_At (d + 1) 294 4 [(0, .ref 1131), (1, .int x1), (2, .int x2), (3, .int x3)] [] s Q :=
  ps_wp_at (stops := [(4, [0, 1, 2, 3]), (13, [0, 1, 2, 3]), (29, [0, 1, 2, 3]), (35, [0, 1, 2, 3]), (62, [0, 1, 2, 3])]) (n := 8) h rfl

theorem pg_294_13 {d : Nat} {x1 : Int32} {x2 : Int32} {x3 : Int32} {s : ps_S} {Q : Option Value → ps_S → Prop} (h :
  (x2 ≤ 0 →
    ps_At (d + 1) 294 35 [(0, .ref 1131), (1, .int x1), (2, .int x2), (3, .int x3)] [] s Q) ∧
  (0 < x2 →
    ps_nd (pm_in (x2 - 1) 260) ((x3 < (ps_a s 1150 (Int32.toNatClampNeg (x2 - 1))) →
      ps_At (d + 1) 294 35 [(0, .ref 1131), (1, .int x1), (2, .int x2), (3, .int x3)] [] s Q) ∧
    ((ps_a s 1150 (Int32.toNatClampNeg (x2 - 1))) ≤ x3 →
      ps_At (d + 1) 294 29 [(0, .ref 1131), (1, .int x1), (2, .int x2), (3, .int x3)] [] s Q)))) : ps_At (d + 1) 294 13 [(0, .ref 1131), (1, .int x1), (2, .int x2), (3, .int x3)] [] s Q :=
  ps_wp_at (stops := [(4, [0, 1, 2, 3]), (13, [0, 1, 2, 3]), (29, [0, 1, 2, 3]), (35, [0, 1, 2, 3]), (62, [0, 1, 2, 3])]) (n := 12) h rfl

theorem pg_294_29 {d : Nat} {x1 : Int32} {x2 : Int32} {x3 : Int32} {s : ps_S} {Q : Option Value → ps_S → Prop} (h :
  ps_At (d + 1) 294 13 [(0, .ref 1131), (1, .int x1), (2, .int (x2 + (Int32.ofInt (-1)))), (3, .int x3)] [] s Q) : ps_At (d + 1) 294 29 [(0, .ref 1131), (1, .int x1), (2, .int x2), (3, .int x3)] [] s Q :=
  ps_wp_at (stops := [(4, [0, 1, 2, 3]), (13, [0, 1, 2, 3]), (29, [0, 1, 2, 3]), (35, [0, 1, 2, 3]), (62, [0, 1, 2, 3])]) (n := 4) h rfl

theorem pg_294_35 {d : Nat} {x1 : Int32} {x2 : Int32} {x3 : Int32} {s : ps_S} {Q : Option Value → ps_S → Prop} (h :
  ps_nd (pm_in x3 41) (ps_Cl d 220 [.ref 1131, .int x1, .int x3] (ps_ua s 1173 (Int32.toNatClampNeg x3) x2) (ps_rI (fun v1 s1 =>
    (v1 = 4 →
      ps_At (d + 1) 294 62 [(0, .ref 1131), (1, .int x1), (2, .int x2), (3, .int x3)] [] s1 Q) ∧
    (v1 ≠ 4 →
      ps_Cl d 220 [.ref 1131, .int x1, .int x3] s1 (ps_rI (fun v2 s2 =>
        (v2 ≠ 5 →
          ps_At (d + 1) 294 4 [(0, .ref 1131), (1, .int x1), (2, .int x2), (3, .int (x3 + 1))] [] s2 Q) ∧
        (v2 = 5 →
          ps_At (d + 1) 294 62 [(0, .ref 1131), (1, .int x1), (2, .int x2), (3, .int x3)] [] s2 Q)))))))) : ps_At (d + 1) 294 35 [(0, .ref 1131), (1, .int x1), (2, .int x2), (3, .int x3)] [] s Q :=
  ps_wp_at (stops := [(4, [0, 1, 2, 3]), (13, [0, 1, 2, 3]), (29, [0, 1, 2, 3]), (35, [0, 1, 2, 3]), (62, [0, 1, 2, 3])]) (n := 21) h rfl

theorem pg_294_62 {d : Nat} {x1 : Int32} {x2 : Int32} {x3 : Int32} {s : ps_S} {Q : Option Value → ps_S → Prop} (h :
  ps_Cl d 221 [.ref 1131, .int x1, .int x3] s (ps_rI (fun v1 s1 =>
    ps_nd (pm_in x2 260) (ps_At (d + 1) 294 4 [(0, .ref 1131), (1, .int x1), (2, .int (x2 + 1)), (3, .int (x3 + 1))] [] (ps_ua s1 1150 (Int32.toNatClampNeg x2) v1) Q)))) : ps_At (d + 1) 294 62 [(0, .ref 1131), (1, .int x1), (2, .int x2), (3, .int x3)] [] s Q :=
  ps_wp_at (stops := [(4, [0, 1, 2, 3]), (13, [0, 1, 2, 3]), (29, [0, 1, 2, 3]), (35, [0, 1, 2, 3]), (62, [0, 1, 2, 3])]) (n := 13) h rfl

theorem ms_294_29 {x : Nat → Nat → Nat} {t : Int32} {d : Nat} {s0 : ps_S} {σ : mSig} {l : List Nat} {x1 : Int32} {Q : Option Value → ps_S → Prop} (k : ∀ (s' : ps_S), mJ x t s' → kp [1150, 1173] [] s0 s' → (DLn σ (ps_a s' 1173) l (l.length : Int)) → Q none s') (n4 : Nat) (KH4 : ∀ (x2 : Int32) (x3 : Int32) (l1 : List Nat) (l2 : List Nat) (W : List (Bool × Nat)) (s : ps_S), (mJ x t s) → (kp [1150, 1173] [] s0 s) → (Sg (ps_a s 1135) (ps_a s 1136) (ps_a s 1138) (ps_a s 1139) (ps_i s 1131 21).toInt σ) → (Rw (ps_a s 1134) x1.toInt l) → (l = l1 ++ l2) → (x3.toInt = (l1.length : Int)) → (wr σ l1 [(true, 0)] W) → (wf σ 5 l2 W) → (QS σ (ps_a s 1150) (x2.toInt).toNat l2 x3.toInt W) → (DLn σ (ps_a s 1173) l x3.toInt) → (0 ≤ x2.toInt) → (x2.toInt ≤ 5) → (41 - x3.toInt ≤ (n4 : Int) - 1) → ps_At (d + 2) 294 4 [(0, .ref 1131), (1, .int x1), (2, .int x2), (3, .int x3)] [] s Q) (n13 : Nat) (KH13 : ∀ (x2 : Int32) (x3 : Int32) (l1 : List Nat) (l2 : List Nat) (W : List (Bool × Nat)) (s : ps_S), (mJ x t s) → (kp [1150, 1173] [] s0 s) → (Sg (ps_a s 1135) (ps_a s 1136) (ps_a s 1138) (ps_a s 1139) (ps_i s 1131 21).toInt σ) → (Rw (ps_a s 1134) x1.toInt l) → (l = l1 ++ l2) → (x3.toInt = (l1.length : Int)) → (wr σ l1 [(true, 0)] W) → (wf σ 5 l2 W) → (QS σ (ps_a s 1150) (x2.toInt).toNat l2 x3.toInt W) → (DLn σ (ps_a s 1173) l x3.toInt) → (0 ≤ x2.toInt) → (x2.toInt ≤ 5) → (0 < (l2.length : Int)) → (41 - x3.toInt ≤ (n4 : Int)) → (x2.toInt ≤ (n13 : Int) - 1) → ps_At (d + 2) 294 13 [(0, .ref 1131), (1, .int x1), (2, .int x2), (3, .int x3)] [] s Q) (x2 : Int32) (x3 : Int32) (l1 : List Nat) (l2 : List Nat) (W : List (Bool × Nat)) (s : ps_S) (J : mJ x t s) (K : kp [1150, 1173] [] s0 s) (hS : Sg (ps_a s 1135) (ps_a s 1136) (ps_a s 1138) (ps_a s 1139) (ps_i s 1131 21).toInt σ) (hR : Rw (ps_a s 1134) x1.toInt l) (i2 : l = l1 ++ l2) (i3 : x3.toInt = (l1.length : Int)) (i4 : wr σ l1 [(true, 0)] W) (i5 : wf σ 5 l2 W) (i6 : QS σ (ps_a s 1150) (x2.toInt).toNat l2 x3.toInt W) (i7 : DLn σ (ps_a s 1173) l x3.toInt) (i8 : 0 ≤ x2.toInt) (i9 : x2.toInt ≤ 5) (i10 : 0 < (l2.length : Int)) (i11 : 1 ≤ x2.toInt) (i12 : (ps_a s 1150 (x2.toInt - 1).toNat).toInt ≤ x3.toInt) (hm4 : 41 - x3.toInt ≤ (n4 : Int)) (hm13 : x2.toInt ≤ (n13 : Int)) : ps_At (d + 2) 294 29 [(0, .ref 1131), (1, .int x1), (2, .int x2), (3, .int x3)] [] s Q := by
  refine pg_294_29 (d := d + 1) ?_
  obtain ⟨hr1, hr2, hr3, hr4, hr5, hr6⟩ := id hR
  have hr1 : x1.toInt % 41 = 0 := hr1
  have hr2 : 0 ≤ x1.toInt := hr2
  have hr3 : x1.toInt < 27306 := hr3
  have hr4 : l.length ≤ 40 := hr4
  have hn : (ps_a s 1134 (Int32.toNatClampNeg x1)).toInt = (l.length : Int) := Rw_n hR
  have i3 : x3.toInt = (l1.length : Int) := i3
  generalize hx2 : (x2 + (Int32.ofInt (-1))) = xd1
  have a3 : xd1.toInt = x2.toInt + (-1) := by rw [← hx2]; exact xdec (show -2147483648 < x2.toInt from by omega)
  clear hx2
  exact KH13 xd1 x3 l1 l2 W _ J K hS hR (by assumption) (by assumption) (by assumption) (by assumption) ((by rw [show (xd1).toInt.toNat = (x2.toInt - 1).toNat from by omega]; exact QS_pop (n := (x2.toInt - 1).toNat) (by rw [show (x2.toInt - 1).toNat + 1 = (x2.toInt).toNat from by omega]; exact i6) i12)) (by assumption) (show 0 ≤ xd1.toInt from by omega) (show xd1.toInt ≤ 5 from by omega) (by assumption) (show 41 - x3.toInt ≤ (n4 : Int) from by omega) (show xd1.toInt ≤ (n13 : Int) - 1 from by omega)

theorem ms_294_62 {x : Nat → Nat → Nat} {t : Int32} {d : Nat} {s0 : ps_S} {σ : mSig} {l : List Nat} {x1 : Int32} {Q : Option Value → ps_S → Prop} (k : ∀ (s' : ps_S), mJ x t s' → kp [1150, 1173] [] s0 s' → (DLn σ (ps_a s' 1173) l (l.length : Int)) → Q none s') (n4 : Nat) (KH4 : ∀ (x2 : Int32) (x3 : Int32) (l1 : List Nat) (l2 : List Nat) (W : List (Bool × Nat)) (s : ps_S), (mJ x t s) → (kp [1150, 1173] [] s0 s) → (Sg (ps_a s 1135) (ps_a s 1136) (ps_a s 1138) (ps_a s 1139) (ps_i s 1131 21).toInt σ) → (Rw (ps_a s 1134) x1.toInt l) → (l = l1 ++ l2) → (x3.toInt = (l1.length : Int)) → (wr σ l1 [(true, 0)] W) → (wf σ 5 l2 W) → (QS σ (ps_a s 1150) (x2.toInt).toNat l2 x3.toInt W) → (DLn σ (ps_a s 1173) l x3.toInt) → (0 ≤ x2.toInt) → (x2.toInt ≤ 5) → (41 - x3.toInt ≤ (n4 : Int) - 1) → ps_At (d + 2) 294 4 [(0, .ref 1131), (1, .int x1), (2, .int x2), (3, .int x3)] [] s Q) (x2 : Int32) (x3 : Int32) (l1 : List Nat) (c : Nat) (l3 : List Nat) (U : List (Bool × Nat)) (s : ps_S) (J : mJ x t s) (K : kp [1150, 1173] [] s0 s) (hS : Sg (ps_a s 1135) (ps_a s 1136) (ps_a s 1138) (ps_a s 1139) (ps_i s 1131 21).toInt σ) (hR : Rw (ps_a s 1134) x1.toInt l) (i2 : l = l1 ++ c :: l3) (i3 : x3.toInt = (l1.length : Int)) (i4 : wr σ l1 [(true, 0)] ((true, (x2.toInt).toNat) :: U)) (i5 : wf σ 5 (c :: l3) ((true, (x2.toInt).toNat) :: U)) (i6 : QS σ (ps_a s 1150) (x2.toInt).toNat (c :: l3) x3.toInt ((true, (x2.toInt).toNat) :: U)) (i7 : DLn σ (ps_a s 1173) l (x3.toInt + 1)) (i8 : 0 ≤ x2.toInt) (i9 : x2.toInt ≤ 5) (i10 : x2.toInt = 0 ∨ x3.toInt < (ps_a s 1150 (x2.toInt - 1).toNat).toInt) (i11 : c = 4 ∨ c = 5) (hm4 : 41 - x3.toInt ≤ (n4 : Int)) : ps_At (d + 2) 294 62 [(0, .ref 1131), (1, .int x1), (2, .int x2), (3, .int x3)] [] s Q := by
  refine pg_294_62 (d := d + 1) ?_
  obtain ⟨hr1, hr2, hr3, hr4, hr5, hr6⟩ := id hR
  have hr1 : x1.toInt % 41 = 0 := hr1
  have hr2 : 0 ≤ x1.toInt := hr2
  have hr3 : x1.toInt < 27306 := hr3
  have hr4 : l.length ≤ 40 := hr4
  have hn : (ps_a s 1134 (Int32.toNatClampNeg x1)).toInt = (l.length : Int) := Rw_n hR
  have i3 : x3.toInt = (l1.length : Int) := i3
  have hl : (l.length : Int) = l1.length + (l3.length + 1) := by rw [i2, llen, llenc]
  obtain ⟨body, rest, hb1, hb2, hb3, hb4⟩ := QS_q i6 (by rcases i10 with z | z; exact Or.inl (by omega); exact Or.inr (by rw [show (x2.toInt).toNat - 1 = (x2.toInt - 1).toNat from by omega]; exact z)) i11 i5
  obtain ⟨b, k_, U2, ks, hW, hk5, hk, hw⟩ := wf_cons.mp i5
  cases hW
  obtain ⟨-, hks⟩ := kS_q hk i11
  subst hks
  refine ms_221 J hS ((show Rw (ps_a s 1134) (x1).toInt (l1 ++ ((c :: body) ++ rest)) from by rw [List.cons_append, ← hb1, ← i2]; exact hR)) (i3) ((ws_c (b := true) (W' := []) (kS_f1 i11) (wf_ws hb2))) (fun v1 p1_0 => ?_)
  have hv : _ := p1_0
  have hv2 : (v1).toInt = (l1.length : Int) + ((body.length : Int) + 1) := hv.trans (by rw [llenc])
  refine ps_nd_i (show pm_in x2 260 = true from xgi (show 0 ≤ x2.toInt from by omega) (show x2.toInt < 260 from by omega)) ?_
  have J2 := mwa_n 1150 (i := (Int32.toNatClampNeg x2)) (v := v1) J rfl (by decide)
  have K3 := kpa' K (r := 1150) (i := (Int32.toNatClampNeg x2)) (v := v1) rfl
  have a4 : (x2 + 1).toInt = x2.toInt + (1 : Int) := xIa (show -2147483648 ≤ x2.toInt + (1 : Int) from by omega) (show x2.toInt + (1 : Int) < 2147483648 from by omega)
  have a5 : (x3 + 1).toInt = x3.toInt + (1 : Int) := xIa (show -2147483648 ≤ x3.toInt + (1 : Int) from by omega) (show x3.toInt + (1 : Int) < 2147483648 from by omega)
  exact KH4 (x2 + 1) (x3 + 1) (l1 ++ [c]) l3 (kL c (x2.toInt).toNat [true] ++ U) _ J2 K3 hS hR (i2.trans (lcat l1 c l3)) ((show ((x3 + 1)).toInt = ((l1 ++ [c]).length : Int) from by rw [l1c]; omega)) (wr_snoc i4 hk) (hw) ((by rw [show ((x2 + 1)).toInt.toNat = (x2.toInt).toNat + 1 from by omega, show ((x3 + 1)).toInt = x3.toInt + 1 from by omega]; exact hb4 _ (fun j hj => ua_ne (by rw [show Int32.toNatClampNeg x2 = (x2.toInt).toNat from rfl]; omega)) (show (ps_a (ps_ua s 1150 (Int32.toNatClampNeg x2) v1) 1150 (Int32.toNatClampNeg x2)).toInt = x3.toInt + 1 + (body.length : Int) from (congrArg Int32.toInt ua_eq).trans (by omega)))) ((by rw [show ((x3 + 1)).toInt = x3.toInt + 1 from by omega]; exact i7)) (show 0 ≤ (x2 + 1).toInt from by omega) (show (x2 + 1).toInt ≤ 5 from by omega) (show 41 - (x3 + 1).toInt ≤ (n4 : Int) - 1 from by omega)

theorem ms_294_35 {x : Nat → Nat → Nat} {t : Int32} {d : Nat} {s0 : ps_S} {σ : mSig} {l : List Nat} {x1 : Int32} {Q : Option Value → ps_S → Prop} (k : ∀ (s' : ps_S), mJ x t s' → kp [1150, 1173] [] s0 s' → (DLn σ (ps_a s' 1173) l (l.length : Int)) → Q none s') (n4 : Nat) (KH4 : ∀ (x2 : Int32) (x3 : Int32) (l1 : List Nat) (l2 : List Nat) (W : List (Bool × Nat)) (s : ps_S), (mJ x t s) → (kp [1150, 1173] [] s0 s) → (Sg (ps_a s 1135) (ps_a s 1136) (ps_a s 1138) (ps_a s 1139) (ps_i s 1131 21).toInt σ) → (Rw (ps_a s 1134) x1.toInt l) → (l = l1 ++ l2) → (x3.toInt = (l1.length : Int)) → (wr σ l1 [(true, 0)] W) → (wf σ 5 l2 W) → (QS σ (ps_a s 1150) (x2.toInt).toNat l2 x3.toInt W) → (DLn σ (ps_a s 1173) l x3.toInt) → (0 ≤ x2.toInt) → (x2.toInt ≤ 5) → (41 - x3.toInt ≤ (n4 : Int) - 1) → ps_At (d + 2) 294 4 [(0, .ref 1131), (1, .int x1), (2, .int x2), (3, .int x3)] [] s Q) (x2 : Int32) (x3 : Int32) (l1 : List Nat) (l2 : List Nat) (W : List (Bool × Nat)) (s : ps_S) (J : mJ x t s) (K : kp [1150, 1173] [] s0 s) (hS : Sg (ps_a s 1135) (ps_a s 1136) (ps_a s 1138) (ps_a s 1139) (ps_i s 1131 21).toInt σ) (hR : Rw (ps_a s 1134) x1.toInt l) (i2 : l = l1 ++ l2) (i3 : x3.toInt = (l1.length : Int)) (i4 : wr σ l1 [(true, 0)] W) (i5 : wf σ 5 l2 W) (i6 : QS σ (ps_a s 1150) (x2.toInt).toNat l2 x3.toInt W) (i7 : DLn σ (ps_a s 1173) l x3.toInt) (i8 : 0 ≤ x2.toInt) (i9 : x2.toInt ≤ 5) (i10 : 0 < (l2.length : Int)) (i11 : x2.toInt = 0 ∨ x3.toInt < (ps_a s 1150 (x2.toInt - 1).toNat).toInt) (hm4 : 41 - x3.toInt ≤ (n4 : Int)) : ps_At (d + 2) 294 35 [(0, .ref 1131), (1, .int x1), (2, .int x2), (3, .int x3)] [] s Q := by
  refine pg_294_35 (d := d + 1) ?_
  obtain ⟨hr1, hr2, hr3, hr4, hr5, hr6⟩ := id hR
  have hr1 : x1.toInt % 41 = 0 := hr1
  have hr2 : 0 ≤ x1.toInt := hr2
  have hr3 : x1.toInt < 27306 := hr3
  have hr4 : l.length ≤ 40 := hr4
  have hn : (ps_a s 1134 (Int32.toNatClampNeg x1)).toInt = (l.length : Int) := Rw_n hR
  have i3 : x3.toInt = (l1.length : Int) := i3
  have hl : (l.length : Int) = l1.length + l2.length := by rw [i2]; exact llen
  obtain ⟨c, l3, rfl⟩ := lpos (W := l2) i10
  obtain ⟨b, k_, U, ks, hW, hk5, hk, hw⟩ := wf_cons.mp i5
  subst hW
  have ek : k_ = (x2.toInt).toNat := QS_head i6 (by rcases i11 with z | z; exact Or.inl (by omega); exact Or.inr (by rw [show (x2.toInt).toNat - 1 = (x2.toInt - 1).toNat from by omega]; exact z))
  subst ek
  refine ps_nd_i (show pm_in x3 41 = true from xgi (show 0 ≤ x3.toInt from by omega) (show x3.toInt < 41 from by omega)) ?_
  have J1 := mwa_n 1173 (i := (Int32.toNatClampNeg x3)) (v := x2) J rfl (by decide)
  have K2 := kpa' K (r := 1173) (i := (Int32.toNatClampNeg x3)) (v := x2) rfl
  have e3 : Int32.toNatClampNeg x3 = l1.length := by rw [nx (n := (l1.length : Int)) i3]; omega
  have hDL : DLn σ (ps_a (ps_ua s 1173 (Int32.toNatClampNeg x3) x2) 1173) l (x3.toInt + 1) := DL_put i7 i2 i3 rfl i4 (show (ps_a (ps_ua s 1173 (Int32.toNatClampNeg x3) x2) 1173 l1.length).toInt = (((x2.toInt).toNat : Nat) : Int) from by rw [← e3]; exact (congrArg Int32.toInt ua_eq).trans (by omega)) (fun j hj => ua_ne (by rw [e3]; exact hj))
  refine pg_220_0 ?_
  have a3 : (x1 + 1).toInt = x1.toInt + (1 : Int) := xIa (show -2147483648 ≤ x1.toInt + (1 : Int) from by omega) (show x1.toInt + (1 : Int) < 2147483648 from by omega)
  have a4 : ((x1 + 1) + x3).toInt = (x1 + 1).toInt + x3.toInt := xIa (show -2147483648 ≤ (x1 + 1).toInt + x3.toInt from by omega) (show (x1 + 1).toInt + x3.toInt < 2147483648 from by omega)
  refine ps_nd_i (show pm_in ((x1 + 1) + x3) 27400 = true from xgi (show 0 ≤ ((x1 + 1) + x3).toInt from by omega) (show ((x1 + 1) + x3).toInt < 27400 from by omega)) ?_
  have r5 : ((x1 + 1) + x3).toInt % 41 = 0 → ((x1 + 1) + x3).toInt < 27306 → 0 ≤ (ps_a s 1134 (Int32.toNatClampNeg ((x1 + 1) + x3))).toInt ∧ (ps_a s 1134 (Int32.toNatClampNeg ((x1 + 1) + x3))).toInt ≤ 40 := fun z1 z2 => mp_row (i := ((x1 + 1) + x3)) J z1 (show 0 ≤ ((x1 + 1) + x3).toInt from by omega) z2
  have hp : ((ps_a s 1134 (Int32.toNatClampNeg ((x1 + 1) + x3)))).toInt = (c : Int) := Rw_p hR i2 i3
  refine And.intro (fun h6 => ?_) (fun h6 => ?_)
  · have f7 : (ps_a s 1134 (Int32.toNatClampNeg ((x1 + 1) + x3))).toInt = (4 : Int) := xeq h6
    obtain ⟨hq1, hq2⟩ := kS_q hk (by omega)
    subst hq1
    exact ms_294_62 (x1 := x1) (σ := σ) (l := l) k n4 KH4 x2 x3 l1 c l3 U _ J1 K2 hS hR (i2) (i3) (i4) (i5) (i6) (hDL) (show 0 ≤ x2.toInt from by omega) (show x2.toInt ≤ 5 from by omega) (i11) ((by omega)) (show 41 - x3.toInt ≤ (n4 : Int) from by omega)
  · have f8 : (ps_a s 1134 (Int32.toNatClampNeg ((x1 + 1) + x3))).toInt ≠ (4 : Int) := xne h6
    refine pg_220_0 ?_
    refine ps_nd_i (show pm_in ((x1 + 1) + x3) 27400 = true from xgi (show 0 ≤ ((x1 + 1) + x3).toInt from by omega) (show ((x1 + 1) + x3).toInt < 27400 from by omega)) ?_
    refine And.intro (fun h9 => ?_) (fun h9 => ?_)
    · have f10 : (ps_a s 1134 (Int32.toNatClampNeg ((x1 + 1) + x3))).toInt ≠ (5 : Int) := xne h9
      have a11 : (x3 + 1).toInt = x3.toInt + (1 : Int) := xIa (show -2147483648 ≤ x3.toInt + (1 : Int) from by omega) (show x3.toInt + (1 : Int) < 2147483648 from by omega)
      exact KH4 x2 (x3 + 1) (l1 ++ [c]) l3 (kL c (x2.toInt).toNat ks ++ U) _ J1 K2 hS hR (i2.trans (lcat l1 c l3)) ((show ((x3 + 1)).toInt = ((l1 ++ [c]).length : Int) from by rw [l1c]; omega)) (wr_snoc i4 hk) (hw) (QS_c i6 (by rcases i11 with z | z; exact Or.inl (by omega); exact Or.inr (by rw [show (x2.toInt).toNat - 1 = (x2.toInt - 1).toNat from by omega]; exact z)) (by omega) hk (show ((x3 + 1)).toInt = x3.toInt + 1 from by omega)) ((by rw [show ((x3 + 1)).toInt = x3.toInt + 1 from by omega]; exact hDL)) (show 0 ≤ x2.toInt from by omega) (show x2.toInt ≤ 5 from by omega) (show 41 - (x3 + 1).toInt ≤ (n4 : Int) - 1 from by omega)
    · have f12 : (ps_a s 1134 (Int32.toNatClampNeg ((x1 + 1) + x3))).toInt = (5 : Int) := xeq h9
      obtain ⟨hq1, hq2⟩ := kS_q hk (by omega)
      subst hq1
      exact ms_294_62 (x1 := x1) (σ := σ) (l := l) k n4 KH4 x2 x3 l1 c l3 U _ J1 K2 hS hR (i2) (i3) (i4) (i5) (i6) (hDL) (show 0 ≤ x2.toInt from by omega) (show x2.toInt ≤ 5 from by omega) (i11) ((by omega)) (show 41 - x3.toInt ≤ (n4 : Int) from by omega)

theorem ms_294_13 {x : Nat → Nat → Nat} {t : Int32} {d : Nat} {s0 : ps_S} {σ : mSig} {l : List Nat} {x1 : Int32} {Q : Option Value → ps_S → Prop} (k : ∀ (s' : ps_S), mJ x t s' → kp [1150, 1173] [] s0 s' → (DLn σ (ps_a s' 1173) l (l.length : Int)) → Q none s') (n4 : Nat) (KH4 : ∀ (x2 : Int32) (x3 : Int32) (l1 : List Nat) (l2 : List Nat) (W : List (Bool × Nat)) (s : ps_S), (mJ x t s) → (kp [1150, 1173] [] s0 s) → (Sg (ps_a s 1135) (ps_a s 1136) (ps_a s 1138) (ps_a s 1139) (ps_i s 1131 21).toInt σ) → (Rw (ps_a s 1134) x1.toInt l) → (l = l1 ++ l2) → (x3.toInt = (l1.length : Int)) → (wr σ l1 [(true, 0)] W) → (wf σ 5 l2 W) → (QS σ (ps_a s 1150) (x2.toInt).toNat l2 x3.toInt W) → (DLn σ (ps_a s 1173) l x3.toInt) → (0 ≤ x2.toInt) → (x2.toInt ≤ 5) → (41 - x3.toInt ≤ (n4 : Int) - 1) → ps_At (d + 2) 294 4 [(0, .ref 1131), (1, .int x1), (2, .int x2), (3, .int x3)] [] s Q) : ∀ (n : Nat) (x2 : Int32) (x3 : Int32) (l1 : List Nat) (l2 : List Nat) (W : List (Bool × Nat)) (s : ps_S), (mJ x t s) → (kp [1150, 1173] [] s0 s) → (Sg (ps_a s 1135) (ps_a s 1136) (ps_a s 1138) (ps_a s 1139) (ps_i s 1131 21).toInt σ) → (Rw (ps_a s 1134) x1.toInt l) → (l = l1 ++ l2) → (x3.toInt = (l1.length : Int)) → (wr σ l1 [(true, 0)] W) → (wf σ 5 l2 W) → (QS σ (ps_a s 1150) (x2.toInt).toNat l2 x3.toInt W) → (DLn σ (ps_a s 1173) l x3.toInt) → (0 ≤ x2.toInt) → (x2.toInt ≤ 5) → (0 < (l2.length : Int)) → (41 - x3.toInt ≤ (n4 : Int)) → x2.toInt ≤ (n : Int) → ps_At (d + 2) 294 13 [(0, .ref 1131), (1, .int x1), (2, .int x2), (3, .int x3)] [] s Q := by
  refine xstr (fun n ih => ?_)
  intro x2 x3 l1 l2 W s J K hS hR i2 i3 i4 i5 i6 i7 i8 i9 i10 hm4 hm
  refine pg_294_13 (d := d + 1) ?_
  obtain ⟨hr1, hr2, hr3, hr4, hr5, hr6⟩ := id hR
  have hr1 : x1.toInt % 41 = 0 := hr1
  have hr2 : 0 ≤ x1.toInt := hr2
  have hr3 : x1.toInt < 27306 := hr3
  have hr4 : l.length ≤ 40 := hr4
  have hn : (ps_a s 1134 (Int32.toNatClampNeg x1)).toInt = (l.length : Int) := Rw_n hR
  have i3 : x3.toInt = (l1.length : Int) := i3
  have hl : (l.length : Int) = l1.length + l2.length := by rw [i2]; exact llen
  refine And.intro (fun h1 => ?_) (fun h1 => ?_)
  · have f2 : x2.toInt ≤ (0 : Int) := xle h1
    exact ms_294_35 (x1 := x1) (σ := σ) (l := l) k n4 KH4 x2 x3 l1 l2 W _ J K hS hR (by assumption) (by assumption) (by assumption) (by assumption) (by assumption) (by assumption) (show 0 ≤ x2.toInt from by omega) (show x2.toInt ≤ 5 from by omega) (by assumption) ((by first | exact Or.inl (by omega) | exact Or.inr (by rw [← e6]; omega))) (show 41 - x3.toInt ≤ (n4 : Int) from by omega)
  · have f3 : (0 : Int) < x2.toInt := xlt h1
    have a4 : (x2 - 1).toInt = x2.toInt - (1 : Int) := xIs (show -2147483648 ≤ x2.toInt - (1 : Int) from by omega) (show x2.toInt - (1 : Int) < 2147483648 from by omega)
    have e6 : Int32.toNatClampNeg (x2 - 1) = (x2.toInt - 1).toNat := nx (by omega)
    refine ps_nd_i (show pm_in (x2 - 1) 260 = true from xgi (show 0 ≤ (x2 - 1).toInt from by omega) (show (x2 - 1).toInt < 260 from by omega)) ?_
    refine And.intro (fun h5 => ?_) (fun h5 => ?_)
    · have f6 : x3.toInt < (ps_a s 1150 (Int32.toNatClampNeg (x2 - 1))).toInt := xlt h5
      exact ms_294_35 (x1 := x1) (σ := σ) (l := l) k n4 KH4 x2 x3 l1 l2 W _ J K hS hR (by assumption) (by assumption) (by assumption) (by assumption) (by assumption) (by assumption) (show 0 ≤ x2.toInt from by omega) (show x2.toInt ≤ 5 from by omega) (by assumption) ((by first | exact Or.inl (by omega) | exact Or.inr (by rw [← e6]; omega))) (show 41 - x3.toInt ≤ (n4 : Int) from by omega)
    · have f7 : (ps_a s 1150 (Int32.toNatClampNeg (x2 - 1))).toInt ≤ x3.toInt := xle h5
      exact ms_294_29 (x1 := x1) (σ := σ) (l := l) k n4 KH4 n (fun x2z x3z l1z l2z Wz sz Jz Kz i0z i1z i2z i3z i4z i5z i6z i7z i8z i9z i10z hm4z hm => ih (n - 1) (show n - 1 < n from by omega) x2z x3z l1z l2z Wz sz Jz Kz i0z i1z i2z i3z i4z i5z i6z i7z i8z i9z i10z hm4z (show _ ≤ ((n - 1 : Nat) : Int) from by omega)) x2 x3 l1 l2 W _ J K hS hR (by assumption) (by assumption) (by assumption) (by assumption) (by assumption) (by assumption) (show 0 ≤ x2.toInt from by omega) (show x2.toInt ≤ 5 from by omega) (by assumption) (show 1 ≤ x2.toInt from by omega) ((by rw [← e6]; omega)) (show 41 - x3.toInt ≤ (n4 : Int) from by omega) (show x2.toInt ≤ ((n : Nat) : Int) from by omega)

theorem ms_294_4 {x : Nat → Nat → Nat} {t : Int32} {d : Nat} {s0 : ps_S} {σ : mSig} {l : List Nat} {x1 : Int32} {Q : Option Value → ps_S → Prop} (k : ∀ (s' : ps_S), mJ x t s' → kp [1150, 1173] [] s0 s' → (DLn σ (ps_a s' 1173) l (l.length : Int)) → Q none s') : ∀ (n : Nat) (x2 : Int32) (x3 : Int32) (l1 : List Nat) (l2 : List Nat) (W : List (Bool × Nat)) (s : ps_S), (mJ x t s) → (kp [1150, 1173] [] s0 s) → (Sg (ps_a s 1135) (ps_a s 1136) (ps_a s 1138) (ps_a s 1139) (ps_i s 1131 21).toInt σ) → (Rw (ps_a s 1134) x1.toInt l) → (l = l1 ++ l2) → (x3.toInt = (l1.length : Int)) → (wr σ l1 [(true, 0)] W) → (wf σ 5 l2 W) → (QS σ (ps_a s 1150) (x2.toInt).toNat l2 x3.toInt W) → (DLn σ (ps_a s 1173) l x3.toInt) → (0 ≤ x2.toInt) → (x2.toInt ≤ 5) → 41 - x3.toInt ≤ (n : Int) → ps_At (d + 2) 294 4 [(0, .ref 1131), (1, .int x1), (2, .int x2), (3, .int x3)] [] s Q := by
  refine xstr (fun n ih => ?_)
  intro x2 x3 l1 l2 W s J K hS hR i2 i3 i4 i5 i6 i7 i8 i9 hm
  refine pg_294_4 (d := d + 1) ?_
  obtain ⟨hr1, hr2, hr3, hr4, hr5, hr6⟩ := id hR
  have hr1 : x1.toInt % 41 = 0 := hr1
  have hr2 : 0 ≤ x1.toInt := hr2
  have hr3 : x1.toInt < 27306 := hr3
  have hr4 : l.length ≤ 40 := hr4
  have hn : (ps_a s 1134 (Int32.toNatClampNeg x1)).toInt = (l.length : Int) := Rw_n hR
  have i3 : x3.toInt = (l1.length : Int) := i3
  have hl : (l.length : Int) = l1.length + l2.length := by rw [i2]; exact llen
  refine pg_219_0 ?_
  refine ps_nd_i (show pm_in x1 27400 = true from xgi (show 0 ≤ x1.toInt from by omega) (show x1.toInt < 27400 from by omega)) ?_
  have r1 : x1.toInt % 41 = 0 → x1.toInt < 27306 → 0 ≤ (ps_a s 1134 (Int32.toNatClampNeg x1)).toInt ∧ (ps_a s 1134 (Int32.toNatClampNeg x1)).toInt ≤ 40 := fun z1 z2 => mp_row (i := x1) J z1 (show 0 ≤ x1.toInt from by omega) z2
  refine And.intro (fun h2 => ?_) (fun h2 => ?_)
  · have f3 : (ps_a s 1134 (Int32.toNatClampNeg x1)).toInt ≤ x3.toInt := xle h2
    exact k _ J K ((show DLn σ (ps_a s 1173) l (l.length : Int) from by rw [show (l.length : Int) = x3.toInt from by omega]; exact i7))
  · have f4 : x3.toInt < (ps_a s 1134 (Int32.toNatClampNeg x1)).toInt := xlt h2
    exact ms_294_13 (x1 := x1) (σ := σ) (l := l) k n (fun x2z x3z l1z l2z Wz sz Jz Kz i0z i1z i2z i3z i4z i5z i6z i7z i8z i9z hm => ih (n - 1) (show n - 1 < n from by omega) x2z x3z l1z l2z Wz sz Jz Kz i0z i1z i2z i3z i4z i5z i6z i7z i8z i9z (show _ ≤ ((n - 1 : Nat) : Int) from by omega)) (x2.toInt).toNat x2 x3 l1 l2 W _ J K hS hR (by assumption) (by assumption) (by assumption) (by assumption) (by assumption) (by assumption) (show 0 ≤ x2.toInt from by omega) (show x2.toInt ≤ 5 from by omega) ((show 0 < (l2.length : Int) from by omega)) (show 41 - x3.toInt ≤ ((n : Nat) : Int) from by omega) (show x2.toInt ≤ (((x2.toInt).toNat : Nat) : Int) from by omega)

theorem ms_294 {x : Nat → Nat → Nat} {t : Int32} {s : ps_S} {d : Nat} {x1 : Int32} {f : ps_S → Prop} (J : mJ x t s) {σ : mSig} {l : List Nat} (hS : Sg (ps_a s 1135) (ps_a s 1136) (ps_a s 1138) (ps_a s 1139) (ps_i s 1131 21).toInt σ) (hR : Rw (ps_a s 1134) x1.toInt l) (q2 : wf σ 5 l [(true, 0)]) (k : ∀ (s' : ps_S), mJ x t s' → kp [1150, 1173] [] s s' → (DLn σ (ps_a s' 1173) l (l.length : Int)) → f s') : ps_Cl (d + 2) 294 [.ref 1131, .int x1] s (ps_rV f) := by
  have K : kp [1150, 1173] [] s s := kp_refl
  refine pg_294_0 (d := d + 1) ?_
  exact ms_294_4 (x1 := x1) (σ := σ) (l := l) k  (41 - (0 : Int)).toNat (0) (0) [] l [(true, 0)] _ J K hS hR (rfl) (rfl) (rfl) (q2) ((fun w hw => by rw [List.mem_singleton] at hw; rw [hw])) (DL_0 rfl) (show 0 ≤ (0 : Int) from by omega) (show (0 : Int) ≤ 5 from by omega) (show 41 - (0 : Int) ≤ (((41 - (0 : Int)).toNat : Nat) : Int) from by omega)
