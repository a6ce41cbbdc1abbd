set_option maxRecDepth 100000
-- ProofBenchModel.isSoIn(I)Z
theorem pg_279_0 {d : Nat} {x1 : Int32} {s : ps_S} {Q : Option Value → ps_S → Prop} (h :
  ps_At d 279 9 [(0, .ref 1131), (1, .int x1), (2, .int 0), (3, .int ((ps_i s 1131 59) - 1))] [] s Q) : ps_At d 279 0 [(0, .ref 1131), (1, .int x1)] [] s Q :=
  ps_wp_at (stops := [(9, [0, 1, 2, 3]), (77, [0, 1, 2, 3, 4]), (138, [0, 1, 2, 3])]) (n := 9) h rfl

theorem pg_279_9 {d : Nat} {x1 : Int32} {x2 : Int32} {x3 : Int32} {s : ps_S} {Q : Option Value → ps_S → Prop} (h :
  (x3 < 0 →
    ps_nd (pm_in 0 41) (((ps_a s 1166 (Int32.toNatClampNeg (0 : Int32))) ≠ 1 →
      Q (some (.int 0)) s) ∧
    ((ps_a s 1166 (Int32.toNatClampNeg (0 : Int32))) = 1 →
      Q (some (.int 1)) s))) ∧
  (0 ≤ x3 →
    ps_nd (pm_in x3 41) (((ps_a s 1163 (Int32.toNatClampNeg x3)) < 100 →
      ((ps_a s 1163 (Int32.toNatClampNeg x3)) ≠ 0 →
        ps_At d 279 77 [(0, .ref 1131), (1, .int x1), (2, .int (x2 + (Int32.ofInt (-1)))), (3, .int x3), (4, .int (ps_a s 1163 (Int32.toNatClampNeg x3)))] [] s Q) ∧
      ((ps_a s 1163 (Int32.toNatClampNeg x3)) = 0 →
        ps_nd (pm_in x2 41) (ps_At d 279 138 [(0, .ref 1131), (1, .int x1), (2, .int (x2 + 1)), (3, .int x3)] [] (ps_ua s 1166 (Int32.toNatClampNeg x2) 0) Q))) ∧
    (100 ≤ (ps_a s 1163 (Int32.toNatClampNeg x3)) →
      ps_nd (pm_in x2 41) (ps_At d 279 138 [(0, .ref 1131), (1, .int x1), (2, .int (x2 + 1)), (3, .int x3)] [] (ps_ua s 1166 (Int32.toNatClampNeg x2) ((x1 >>> ((((ps_i s 1131 60) - 1) - ((ps_a s 1163 (Int32.toNatClampNeg x3)) - 100)) &&& 31)) &&& 1)) Q))))) : ps_At d 279 9 [(0, .ref 1131), (1, .int x1), (2, .int x2), (3, .int x3)] [] s Q :=
  ps_wp_at (stops := [(9, [0, 1, 2, 3]), (77, [0, 1, 2, 3, 4]), (138, [0, 1, 2, 3])]) (n := 51) h rfl

theorem pg_279_77 {d : Nat} {x1 : Int32} {x2 : Int32} {x3 : Int32} {x4 : Int32} {s : ps_S} {Q : Option Value → ps_S → Prop} (h :
  ps_nd (pm_in x2 41) (ps_nd (pm_in (x2 - 1) 41) ((x4 ≠ 1 →
    (x4 ≠ 2 →
      ps_nd (pm_in (x2 - 1) 41) (ps_At d 279 138 [(0, .ref 1131), (1, .int x1), (2, .int x2), (3, .int x3)] [] (ps_ua s 1166 (Int32.toNatClampNeg (x2 - 1)) (((1 : Int32) - (ps_a s 1166 (Int32.toNatClampNeg x2))) ||| (ps_a s 1166 (Int32.toNatClampNeg (x2 - 1))))) Q)) ∧
    (x4 = 2 →
      ps_nd (pm_in (x2 - 1) 41) (ps_At d 279 138 [(0, .ref 1131), (1, .int x1), (2, .int x2), (3, .int x3)] [] (ps_ua s 1166 (Int32.toNatClampNeg (x2 - 1)) ((ps_a s 1166 (Int32.toNatClampNeg x2)) ||| (ps_a s 1166 (Int32.toNatClampNeg (x2 - 1))))) Q))) ∧
  (x4 = 1 →
    ps_nd (pm_in (x2 - 1) 41) (ps_At d 279 138 [(0, .ref 1131), (1, .int x1), (2, .int x2), (3, .int x3)] [] (ps_ua s 1166 (Int32.toNatClampNeg (x2 - 1)) ((ps_a s 1166 (Int32.toNatClampNeg x2)) &&& (ps_a s 1166 (Int32.toNatClampNeg (x2 - 1))))) Q))))) : ps_At d 279 77 [(0, .ref 1131), (1, .int x1), (2, .int x2), (3, .int x3), (4, .int x4)] [] s Q :=
  ps_wp_at (stops := [(9, [0, 1, 2, 3]), (77, [0, 1, 2, 3, 4]), (138, [0, 1, 2, 3])]) (n := 41) h rfl

theorem pg_279_138 {d : Nat} {x1 : Int32} {x2 : Int32} {x3 : Int32} {s : ps_S} {Q : Option Value → ps_S → Prop} (h :
  ps_At d 279 9 [(0, .ref 1131), (1, .int x1), (2, .int x2), (3, .int (x3 + (Int32.ofInt (-1))))] [] s Q) : ps_At d 279 138 [(0, .ref 1131), (1, .int x1), (2, .int x2), (3, .int x3)] [] s Q :=
  ps_wp_at (stops := [(9, [0, 1, 2, 3]), (77, [0, 1, 2, 3, 4]), (138, [0, 1, 2, 3])]) (n := 4) h rfl

theorem ms_279_138 {x : Nat → Nat → Nat} {t : Int32} {d : Nat} {s0 : ps_S} {S : List Nat} {x1 : Int32} {Q : Option Value → ps_S → Prop} (k : ∀ (v : Int32) (s' : ps_S), mJ x t s' → kp [1166] [] s0 s' → v &&& 1 = v → Q (some (.int v)) s') (n9 : Nat) (KH9 : ∀ (x2 : Int32) (x3 : Int32) (m1 : List Nat) (m2 : List Nat) (s : ps_S), (mJ x t s) → (kp [1166] [] s0 s) → (Md (ps_a s 1163) (ps_i s 1131 59).toInt S) → (S.length ≤ 40) → (pw S 1) → (S = m1 ++ m2) → (x3.toInt + 1 = (m1.length : Int)) → (pw m2 (x2.toInt).toNat) → (0 ≤ x2.toInt) → (-1 ≤ x3.toInt) → (x3.toInt + 1 ≤ (n9 : Int) - 1) → ps_At d 279 9 [(0, .ref 1131), (1, .int x1), (2, .int x2), (3, .int x3)] [] s Q) (x2 : Int32) (x3 : Int32) (a : List Nat) (c : Nat) (m2 : List Nat) (s : ps_S) (J : mJ x t s) (K : kp [1166] [] s0 s) (hMd : Md (ps_a s 1163) (ps_i s 1131 59).toInt S) (i1 : S.length ≤ 40) (i2 : pw S 1) (i3 : S = a ++ c :: m2) (i4 : x3.toInt = (a.length : Int)) (i5 : pw (c :: m2) (x2.toInt).toNat) (i6 : 0 ≤ x2.toInt) (i7 : 0 ≤ x3.toInt) (hm9 : x3.toInt + 1 ≤ (n9 : Int)) : ps_At d 279 138 [(0, .ref 1131), (1, .int x1), (2, .int x2), (3, .int x3)] [] s Q := by
  refine pg_279_138 ?_
  have hle := pw_le i5
  have hl : (S.length : Int) = a.length + (c :: m2).length := by rw [i3]; exact llen
  generalize hx2 : (x3 + (Int32.ofInt (-1))) = xd1
  have a3 : xd1.toInt = x3.toInt + (-1) := by rw [← hx2]; exact xdec (show -2147483648 < x3.toInt from by omega)
  clear hx2
  exact KH9 x2 xd1 a (c :: m2) _ J K hMd (by assumption) (by assumption) (i3) ((by omega)) (i5) (show 0 ≤ x2.toInt from by omega) (show -1 ≤ xd1.toInt from by omega) (show xd1.toInt + 1 ≤ (n9 : Int) - 1 from by omega)

theorem ms_279_77 {x : Nat → Nat → Nat} {t : Int32} {d : Nat} {s0 : ps_S} {S : List Nat} {x1 : Int32} {Q : Option Value → ps_S → Prop} (k : ∀ (v : Int32) (s' : ps_S), mJ x t s' → kp [1166] [] s0 s' → v &&& 1 = v → Q (some (.int v)) s') (n9 : Nat) (KH9 : ∀ (x2 : Int32) (x3 : Int32) (m1 : List Nat) (m2 : List Nat) (s : ps_S), (mJ x t s) → (kp [1166] [] s0 s) → (Md (ps_a s 1163) (ps_i s 1131 59).toInt S) → (S.length ≤ 40) → (pw S 1) → (S = m1 ++ m2) → (x3.toInt + 1 = (m1.length : Int)) → (pw m2 (x2.toInt).toNat) → (0 ≤ x2.toInt) → (-1 ≤ x3.toInt) → (x3.toInt + 1 ≤ (n9 : Int) - 1) → ps_At d 279 9 [(0, .ref 1131), (1, .int x1), (2, .int x2), (3, .int x3)] [] s Q) (x2 : Int32) (x3 : Int32) (x4 : Int32) (a : List Nat) (c : Nat) (m2 : List Nat) (s : ps_S) (J : mJ x t s) (K : kp [1166] [] s0 s) (hMd : Md (ps_a s 1163) (ps_i s 1131 59).toInt S) (i1 : S.length ≤ 40) (i2 : pw S 1) (i3 : S = a ++ c :: m2) (i4 : x3.toInt = (a.length : Int)) (i5 : pw (c :: m2) (x2.toInt).toNat) (i6 : 1 ≤ x2.toInt) (i7 : 0 ≤ x3.toInt) (i8 : x4.toInt = (c : Int)) (i9 : 1 ≤ c ∧ c ≤ 3) (hm9 : x3.toInt + 1 ≤ (n9 : Int)) : ps_At d 279 77 [(0, .ref 1131), (1, .int x1), (2, .int x2), (3, .int x3), (4, .int x4)] [] s Q := by
  refine pg_279_77 ?_
  have hle := pw_le i5
  have hl : (S.length : Int) = a.length + (c :: m2).length := by rw [i3]; exact llen
  refine ps_nd_i (show pm_in x2 41 = true from xgi (show 0 ≤ x2.toInt from by omega) (show x2.toInt < 41 from by omega)) ?_
  have r1 : 0 ≤ (ps_a s 1166 (Int32.toNatClampNeg x2)).toInt ∧ (ps_a s 1166 (Int32.toNatClampNeg x2)).toInt ≤ 1 := ma_1166 (i := x2) J (show 0 ≤ x2.toInt from by omega) (show x2.toInt < 41 from by omega)
  have a2 : (x2 - 1).toInt = x2.toInt - (1 : Int) := xIs (show -2147483648 ≤ x2.toInt - (1 : Int) from by omega) (show x2.toInt - (1 : Int) < 2147483648 from by omega)
  refine ps_nd_i (show pm_in (x2 - 1) 41 = true from xgi (show 0 ≤ (x2 - 1).toInt from by omega) (show (x2 - 1).toInt < 41 from by omega)) ?_
  have r3 : 0 ≤ (ps_a s 1166 (Int32.toNatClampNeg (x2 - 1))).toInt ∧ (ps_a s 1166 (Int32.toNatClampNeg (x2 - 1))).toInt ≤ 1 := ma_1166 (i := (x2 - 1)) J (show 0 ≤ (x2 - 1).toInt from by omega) (show (x2 - 1).toInt < 41 from by omega)
  refine And.intro (fun h4 => ?_) (fun h4 => ?_)
  · have f5 : x4.toInt ≠ (1 : Int) := xne h4
    refine And.intro (fun h6 => ?_) (fun h6 => ?_)
    · have f7 : x4.toInt ≠ (2 : Int) := xne h6
      have a8 : ((1 : Int32) - (ps_a s 1166 (Int32.toNatClampNeg x2))).toInt = (1 : Int) - (ps_a s 1166 (Int32.toNatClampNeg x2)).toInt := xIs (show -2147483648 ≤ (1 : Int) - (ps_a s 1166 (Int32.toNatClampNeg x2)).toInt from by omega) (show (1 : Int) - (ps_a s 1166 (Int32.toNatClampNeg x2)).toInt < 2147483648 from by omega)
      have hv : 0 ≤ ((((1 : Int32) - (ps_a s 1166 (Int32.toNatClampNeg x2))) ||| (ps_a s 1166 (Int32.toNatClampNeg (x2 - 1))))).toInt ∧ ((((1 : Int32) - (ps_a s 1166 (Int32.toNatClampNeg x2))) ||| (ps_a s 1166 (Int32.toNatClampNeg (x2 - 1))))).toInt ≤ 1 := by first | exact and01 (by omega) (by omega) | exact or01 (by omega) (by omega)
      refine ps_nd_i (show pm_in (x2 - 1) 41 = true from xgi (show 0 ≤ (x2 - 1).toInt from by omega) (show (x2 - 1).toInt < 41 from by omega)) ?_
      have J9 := mwa_1166 (i := (Int32.toNatClampNeg (x2 - 1))) (v := (((1 : Int32) - (ps_a s 1166 (Int32.toNatClampNeg x2))) ||| (ps_a s 1166 (Int32.toNatClampNeg (x2 - 1))))) J (show 0 ≤ (((1 : Int32) - (ps_a s 1166 (Int32.toNatClampNeg x2))) ||| (ps_a s 1166 (Int32.toNatClampNeg (x2 - 1)))).toInt from by omega) (show (((1 : Int32) - (ps_a s 1166 (Int32.toNatClampNeg x2))) ||| (ps_a s 1166 (Int32.toNatClampNeg (x2 - 1)))).toInt ≤ 1 from by omega)
      have K10 := kpa' K (r := 1166) (i := (Int32.toNatClampNeg (x2 - 1))) (v := (((1 : Int32) - (ps_a s 1166 (Int32.toNatClampNeg x2))) ||| (ps_a s 1166 (Int32.toNatClampNeg (x2 - 1))))) rfl
      exact ms_279_138 (x1 := x1) (S := S) k n9 KH9 x2 x3 a c m2 _ J9 K10 hMd (by assumption) (by assumption) (i3) (i4) (i5) (show 0 ≤ x2.toInt from by omega) (show 0 ≤ x3.toInt from by omega) (show x3.toInt + 1 ≤ (n9 : Int) from by omega)
    · have f11 : x4.toInt = (2 : Int) := xeq h6
      have hv : 0 ≤ (((ps_a s 1166 (Int32.toNatClampNeg x2)) ||| (ps_a s 1166 (Int32.toNatClampNeg (x2 - 1))))).toInt ∧ (((ps_a s 1166 (Int32.toNatClampNeg x2)) ||| (ps_a s 1166 (Int32.toNatClampNeg (x2 - 1))))).toInt ≤ 1 := by first | exact and01 (by omega) (by omega) | exact or01 (by omega) (by omega)
      refine ps_nd_i (show pm_in (x2 - 1) 41 = true from xgi (show 0 ≤ (x2 - 1).toInt from by omega) (show (x2 - 1).toInt < 41 from by omega)) ?_
      have J12 := mwa_1166 (i := (Int32.toNatClampNeg (x2 - 1))) (v := ((ps_a s 1166 (Int32.toNatClampNeg x2)) ||| (ps_a s 1166 (Int32.toNatClampNeg (x2 - 1))))) J (show 0 ≤ ((ps_a s 1166 (Int32.toNatClampNeg x2)) ||| (ps_a s 1166 (Int32.toNatClampNeg (x2 - 1)))).toInt from by omega) (show ((ps_a s 1166 (Int32.toNatClampNeg x2)) ||| (ps_a s 1166 (Int32.toNatClampNeg (x2 - 1)))).toInt ≤ 1 from by omega)
      have K13 := kpa' K (r := 1166) (i := (Int32.toNatClampNeg (x2 - 1))) (v := ((ps_a s 1166 (Int32.toNatClampNeg x2)) ||| (ps_a s 1166 (Int32.toNatClampNeg (x2 - 1))))) rfl
      exact ms_279_138 (x1 := x1) (S := S) k n9 KH9 x2 x3 a c m2 _ J12 K13 hMd (by assumption) (by assumption) (i3) (i4) (i5) (show 0 ≤ x2.toInt from by omega) (show 0 ≤ x3.toInt from by omega) (show x3.toInt + 1 ≤ (n9 : Int) from by omega)
  · have f14 : x4.toInt = (1 : Int) := xeq h4
    have hv : 0 ≤ (((ps_a s 1166 (Int32.toNatClampNeg x2)) &&& (ps_a s 1166 (Int32.toNatClampNeg (x2 - 1))))).toInt ∧ (((ps_a s 1166 (Int32.toNatClampNeg x2)) &&& (ps_a s 1166 (Int32.toNatClampNeg (x2 - 1))))).toInt ≤ 1 := by first | exact and01 (by omega) (by omega) | exact or01 (by omega) (by omega)
    refine ps_nd_i (show pm_in (x2 - 1) 41 = true from xgi (show 0 ≤ (x2 - 1).toInt from by omega) (show (x2 - 1).toInt < 41 from by omega)) ?_
    have J15 := mwa_1166 (i := (Int32.toNatClampNeg (x2 - 1))) (v := ((ps_a s 1166 (Int32.toNatClampNeg x2)) &&& (ps_a s 1166 (Int32.toNatClampNeg (x2 - 1))))) J (show 0 ≤ ((ps_a s 1166 (Int32.toNatClampNeg x2)) &&& (ps_a s 1166 (Int32.toNatClampNeg (x2 - 1)))).toInt from by omega) (show ((ps_a s 1166 (Int32.toNatClampNeg x2)) &&& (ps_a s 1166 (Int32.toNatClampNeg (x2 - 1)))).toInt ≤ 1 from by omega)
    have K16 := kpa' K (r := 1166) (i := (Int32.toNatClampNeg (x2 - 1))) (v := ((ps_a s 1166 (Int32.toNatClampNeg x2)) &&& (ps_a s 1166 (Int32.toNatClampNeg (x2 - 1))))) rfl
    exact ms_279_138 (x1 := x1) (S := S) k n9 KH9 x2 x3 a c m2 _ J15 K16 hMd (by assumption) (by assumption) (i3) (i4) (i5) (show 0 ≤ x2.toInt from by omega) (show 0 ≤ x3.toInt from by omega) (show x3.toInt + 1 ≤ (n9 : Int) from by omega)

theorem ms_279_9 {x : Nat → Nat → Nat} {t : Int32} {d : Nat} {s0 : ps_S} {S : List Nat} {x1 : Int32} {Q : Option Value → ps_S → Prop} (k : ∀ (v : Int32) (s' : ps_S), mJ x t s' → kp [1166] [] s0 s' → v &&& 1 = v → Q (some (.int v)) s') : ∀ (n : Nat) (x2 : Int32) (x3 : Int32) (m1 : List Nat) (m2 : List Nat) (s : ps_S), (mJ x t s) → (kp [1166] [] s0 s) → (Md (ps_a s 1163) (ps_i s 1131 59).toInt S) → (S.length ≤ 40) → (pw S 1) → (S = m1 ++ m2) → (x3.toInt + 1 = (m1.length : Int)) → (pw m2 (x2.toInt).toNat) → (0 ≤ x2.toInt) → (-1 ≤ x3.toInt) → x3.toInt + 1 ≤ (n : Int) → ps_At d 279 9 [(0, .ref 1131), (1, .int x1), (2, .int x2), (3, .int x3)] [] s Q := by
  refine xstr (fun n ih => ?_)
  intro x2 x3 m1 m2 s J K hMd i1 i2 i3 i4 i5 i6 i7 hm
  refine pg_279_9 ?_
  have i4 : x3.toInt + 1 = (m1.length : Int) := i4
  have hle := pw_le i5
  have hl : (S.length : Int) = m1.length + m2.length := by rw [i3]; exact llen
  refine And.intro (fun h1 => ?_) (fun h1 => ?_)
  · have f2 : x3.toInt < (0 : Int) := xlt h1
    refine ps_nd_i (show pm_in (0 : Int32) 41 = true from xgi (show 0 ≤ (0 : Int) from by omega) (show (0 : Int) < 41 from by omega)) ?_
    have r3 : 0 ≤ (ps_a s 1166 (Int32.toNatClampNeg (0 : Int32))).toInt ∧ (ps_a s 1166 (Int32.toNatClampNeg (0 : Int32))).toInt ≤ 1 := ma_1166 (i := (0 : Int32)) J (show 0 ≤ (0 : Int) from by omega) (show (0 : Int) < 41 from by omega)
    refine And.intro (fun h4 => ?_) (fun h4 => ?_)
    · have f5 : (ps_a s 1166 (Int32.toNatClampNeg (0 : Int32))).toInt ≠ (1 : Int) := xne h4
      exact k (0 : Int32) _ J K (by decide)
    · have f6 : (ps_a s 1166 (Int32.toNatClampNeg (0 : Int32))).toInt = (1 : Int) := xeq h4
      exact k (1 : Int32) _ J K (by decide)
  · have f7 : (0 : Int) ≤ x3.toInt := xle h1
    obtain ⟨a, c, rfl⟩ := lsnoc (l := m1) (by omega)
    rw [l1c] at i4
    have i3 : S = a ++ c :: m2 := i3.trans (by rw [List.append_assoc]; rfl)
    have hp : (ps_a s 1163 (Int32.toNatClampNeg x3)).toInt = (c : Int) := Md_p (l1 := a) (l2 := m2) (by rw [← i3]; exact hMd) (by omega) (by omega)
    have hva := pw_val i2 i3
    refine ps_nd_i (show pm_in x3 41 = true from xgi (show 0 ≤ x3.toInt from by omega) (show x3.toInt < 41 from by omega)) ?_
    have r8 : 0 ≤ (ps_a s 1163 (Int32.toNatClampNeg x3)).toInt ∧ (ps_a s 1163 (Int32.toNatClampNeg x3)).toInt ≤ 140 := ma_1163 (i := x3) J (show 0 ≤ x3.toInt from by omega) (show x3.toInt < 41 from by omega)
    refine And.intro (fun h9 => ?_) (fun h9 => ?_)
    · have f10 : (ps_a s 1163 (Int32.toNatClampNeg x3)).toInt < (100 : Int) := xlt h9
      refine And.intro (fun h11 => ?_) (fun h11 => ?_)
      · have f12 : (ps_a s 1163 (Int32.toNatClampNeg x3)).toInt ≠ (0 : Int) := xne h11
        obtain ⟨hb2, hb3⟩ := pw_bin i2 i3 (by omega) i5
        generalize hx14 : (x2 + (Int32.ofInt (-1))) = xd13
        have a15 : xd13.toInt = x2.toInt + (-1) := by rw [← hx14]; exact xdec (show -2147483648 < x2.toInt from by omega)
        clear hx14
        exact ms_279_77 (x1 := x1) (S := S) k n (fun x2z x3z m1z m2z sz Jz Kz i0z i1z i2z i3z i4z i5z i6z i7z hm => ih (n - 1) (show n - 1 < n from by omega) x2z x3z m1z m2z sz Jz Kz i0z i1z i2z i3z i4z i5z i6z i7z (show _ ≤ ((n - 1 : Nat) : Int) from by omega)) xd13 x3 (ps_a s 1163 (Int32.toNatClampNeg x3)) a c m2 _ J K hMd (by assumption) (by assumption) (i3) ((by omega)) ((by rw [show (xd13).toInt.toNat = (x2.toInt).toNat - 1 from by omega]; exact hb3)) (show 1 ≤ xd13.toInt from by omega) (show 0 ≤ x3.toInt from by omega) (hp) ((by omega)) (show x3.toInt + 1 ≤ ((n : Nat) : Int) from by omega)
      · have f16 : (ps_a s 1163 (Int32.toNatClampNeg x3)).toInt = (0 : Int) := xeq h11
        refine ps_nd_i (show pm_in x2 41 = true from xgi (show 0 ≤ x2.toInt from by omega) (show x2.toInt < 41 from by omega)) ?_
        have J17 := mwa_1166 (i := (Int32.toNatClampNeg x2)) (v := (0 : Int32)) J (show 0 ≤ (0 : Int) from by omega) (show (0 : Int) ≤ 1 from by omega)
        have K18 := kpa' K (r := 1166) (i := (Int32.toNatClampNeg x2)) (v := (0 : Int32)) rfl
        have a19 : (x2 + 1).toInt = x2.toInt + (1 : Int) := xIa (show -2147483648 ≤ x2.toInt + (1 : Int) from by omega) (show x2.toInt + (1 : Int) < 2147483648 from by omega)
        exact ms_279_138 (x1 := x1) (S := S) k n (fun x2z x3z m1z m2z sz Jz Kz i0z i1z i2z i3z i4z i5z i6z i7z hm => ih (n - 1) (show n - 1 < n from by omega) x2z x3z m1z m2z sz Jz Kz i0z i1z i2z i3z i4z i5z i6z i7z (show _ ≤ ((n - 1 : Nat) : Int) from by omega)) (x2 + 1) x3 a c m2 _ J17 K18 hMd (by assumption) (by assumption) (i3) ((by omega)) ((by rw [show ((x2 + 1)).toInt.toNat = (x2.toInt).toNat + 1 from by omega]; exact pw_leaf i2 i3 (by omega) i5)) (show 0 ≤ (x2 + 1).toInt from by omega) (show 0 ≤ x3.toInt from by omega) (show x3.toInt + 1 ≤ ((n : Nat) : Int) from by omega)
    · have f20 : (100 : Int) ≤ (ps_a s 1163 (Int32.toNatClampNeg x3)).toInt := xle h9
      have r21 := mf_60 J
      have a22 : ((ps_i s 1131 60) - 1).toInt = (ps_i s 1131 60).toInt - (1 : Int) := xIs (show -2147483648 ≤ (ps_i s 1131 60).toInt - (1 : Int) from by omega) (show (ps_i s 1131 60).toInt - (1 : Int) < 2147483648 from by omega)
      have a23 : ((ps_a s 1163 (Int32.toNatClampNeg x3)) - 100).toInt = (ps_a s 1163 (Int32.toNatClampNeg x3)).toInt - (100 : Int) := xIs (show -2147483648 ≤ (ps_a s 1163 (Int32.toNatClampNeg x3)).toInt - (100 : Int) from by omega) (show (ps_a s 1163 (Int32.toNatClampNeg x3)).toInt - (100 : Int) < 2147483648 from by omega)
      have a24 : (((ps_i s 1131 60) - 1) - ((ps_a s 1163 (Int32.toNatClampNeg x3)) - 100)).toInt = ((ps_i s 1131 60) - 1).toInt - ((ps_a s 1163 (Int32.toNatClampNeg x3)) - 100).toInt := xIs (show -2147483648 ≤ ((ps_i s 1131 60) - 1).toInt - ((ps_a s 1163 (Int32.toNatClampNeg x3)) - 100).toInt from by omega) (show ((ps_i s 1131 60) - 1).toInt - ((ps_a s 1163 (Int32.toNatClampNeg x3)) - 100).toInt < 2147483648 from by omega)
      have n25 : 0 ≤ ((x1 >>> ((((ps_i s 1131 60) - 1) - ((ps_a s 1163 (Int32.toNatClampNeg x3)) - 100)) &&& 31)) &&& 1).toInt ∧ ((x1 >>> ((((ps_i s 1131 60) - 1) - ((ps_a s 1163 (Int32.toNatClampNeg x3)) - 100)) &&& 31)) &&& 1).toInt ≤ 1 := xN (x1 >>> ((((ps_i s 1131 60) - 1) - ((ps_a s 1163 (Int32.toNatClampNeg x3)) - 100)) &&& 31)) (c := 1) (n := 1) (by decide) (by decide)
      refine ps_nd_i (show pm_in x2 41 = true from xgi (show 0 ≤ x2.toInt from by omega) (show x2.toInt < 41 from by omega)) ?_
      have J26 := mwa_1166 (i := (Int32.toNatClampNeg x2)) (v := ((x1 >>> ((((ps_i s 1131 60) - 1) - ((ps_a s 1163 (Int32.toNatClampNeg x3)) - 100)) &&& 31)) &&& 1)) J (show 0 ≤ ((x1 >>> ((((ps_i s 1131 60) - 1) - ((ps_a s 1163 (Int32.toNatClampNeg x3)) - 100)) &&& 31)) &&& 1).toInt from by omega) (show ((x1 >>> ((((ps_i s 1131 60) - 1) - ((ps_a s 1163 (Int32.toNatClampNeg x3)) - 100)) &&& 31)) &&& 1).toInt ≤ 1 from by omega)
      have K27 := kpa' K (r := 1166) (i := (Int32.toNatClampNeg x2)) (v := ((x1 >>> ((((ps_i s 1131 60) - 1) - ((ps_a s 1163 (Int32.toNatClampNeg x3)) - 100)) &&& 31)) &&& 1)) rfl
      have a28 : (x2 + 1).toInt = x2.toInt + (1 : Int) := xIa (show -2147483648 ≤ x2.toInt + (1 : Int) from by omega) (show x2.toInt + (1 : Int) < 2147483648 from by omega)
      exact ms_279_138 (x1 := x1) (S := S) k n (fun x2z x3z m1z m2z sz Jz Kz i0z i1z i2z i3z i4z i5z i6z i7z hm => ih (n - 1) (show n - 1 < n from by omega) x2z x3z m1z m2z sz Jz Kz i0z i1z i2z i3z i4z i5z i6z i7z (show _ ≤ ((n - 1 : Nat) : Int) from by omega)) (x2 + 1) x3 a c m2 _ J26 K27 hMd (by assumption) (by assumption) (i3) ((by omega)) ((by rw [show ((x2 + 1)).toInt.toNat = (x2.toInt).toNat + 1 from by omega]; exact pw_leaf i2 i3 (by omega) i5)) (show 0 ≤ (x2 + 1).toInt from by omega) (show 0 ≤ x3.toInt from by omega) (show x3.toInt + 1 ≤ ((n : Nat) : Int) from by omega)

theorem ms_279 {x : Nat → Nat → Nat} {t : Int32} {s : ps_S} {d : Nat} {x1 : Int32} {f : Int32 → ps_S → Prop} (J : mJ x t s) {S : List Nat} (hMd : Md (ps_a s 1163) (ps_i s 1131 59).toInt S) (q1 : S.length ≤ 40) (q2 : pw S 1) (k : ∀ (v : Int32) (s' : ps_S), mJ x t s' → kp [1166] [] s s' → v &&& 1 = v → f v s') : ps_Cl d 279 [.ref 1131, .int x1] s (ps_rI f) := by
  have K : kp [1166] [] s s := kp_refl
  refine pg_279_0 ?_
  have h59 : (ps_i s 1131 59).toInt = (S.length : Int) := hMd.1
  have r1 := mf_59 J
  have a2 : ((ps_i s 1131 59) - 1).toInt = (ps_i s 1131 59).toInt - (1 : Int) := xIs (show -2147483648 ≤ (ps_i s 1131 59).toInt - (1 : Int) from by omega) (show (ps_i s 1131 59).toInt - (1 : Int) < 2147483648 from by omega)
  exact ms_279_9 (x1 := x1) (S := S) k  (((ps_i s 1131 59) - 1).toInt + 1).toNat (0) ((ps_i s 1131 59) - 1) S [] _ J K hMd (by assumption) (by assumption) ((List.append_nil S).symm) ((by omega)) (rfl) (show 0 ≤ (0 : Int) from by omega) (show -1 ≤ ((ps_i s 1131 59) - 1).toInt from by omega) (show ((ps_i s 1131 59) - 1).toInt + 1 ≤ (((((ps_i s 1131 59) - 1).toInt + 1).toNat : Nat) : Int) from by omega)

-- ProofBenchModel.letters()I
theorem pg_280_0 {d : Nat} {s : ps_S} {Q : Option Value → ps_S → Prop} (h :
  ps_Cl d 219 [.ref 1131, .int 25748] s (ps_rI (fun v1 s1 =>
    (v1 ≠ 0 →
      ps_Cl d 277 [.ref 1131] s1 (ps_rV (fun s2 =>
        Q (some (.int (ps_i s2 1131 60))) s2))) ∧
    (v1 = 0 →
      Q (some (.int (-1))) s1)))) : ps_At (d + 1) 280 0 [(0, .ref 1131)] [] s Q :=
  ps_wp_at (stops := []) (n := 13) h rfl

theorem ms_280 {x : Nat → Nat → Nat} {t : Int32} {s : ps_S} {d : Nat} {f : Int32 → ps_S → Prop} (J : mJ x t s) {σ : mSig} (hMI : MI σ (ps_a s 1134) (ps_a s 1135) (ps_a s 1136) (ps_a s 1137) (ps_a s 1138) (ps_a s 1139) (ps_a s 1157) (ps_a s 1176) (ps_i s 1131 21).toInt (ps_i s 1131 47).toInt (ps_i s 1131 54).toInt) (k : ∀ (v : Int32) (s' : ps_S), mJ x t s' → kp [1163, 1164, 1165] [59, 60] s s' → f v s') : ps_Cl (d + 4) 280 [.ref 1131] s (ps_rI f) := by
  have K : kp [1163, 1164, 1165] [59, 60] s s := kp_refl
  refine pg_280_0 (d := d + 3) ?_
  refine pg_219_0 ?_
  refine ps_nd_i (show pm_in (25748 : Int32) 27400 = true from xgi (show 0 ≤ (25748 : Int) from by omega) (show (25748 : Int) < 27400 from by omega)) ?_
  have r1 : (25748 : Int) % 41 = 0 → (25748 : Int) < 27306 → 0 ≤ (ps_a s 1134 (Int32.toNatClampNeg (25748 : Int32))).toInt ∧ (ps_a s 1134 (Int32.toNatClampNeg (25748 : Int32))).toInt ≤ 40 := fun z1 z2 => mp_row (i := (25748 : Int32)) J z1 (show 0 ≤ (25748 : Int) from by omega) z2
  refine And.intro (fun h2 => ?_) (fun h2 => ?_)
  · have f3 : (ps_a s 1134 (Int32.toNatClampNeg (25748 : Int32))).toInt ≠ (0 : Int) := xne h2
    obtain ⟨l, hl1, hl2⟩ := hMI.2.2.2.2.1.resolve_left (fun z => absurd z (show ¬ ((ps_a s 1134 (Int32.toNatClampNeg (25748 : Int32))).toInt = 0) from by omega))
    have hS := MI_S hMI
    have hR : Rw (ps_a s 1134) (25748 : Int32).toInt l := by rw [show (25748 : Int32).toInt = 25748 from by decide]; exact hl1
    refine ms_277 J (hS) (hR) ((wf_ws hl2)) (fun s4 J4 K4 p4_0 => ?_)
    have K5 := kpt K K4 rfl rfl
    have hMI : MI σ (ps_a s4 1134) (ps_a s4 1135) (ps_a s4 1136) (ps_a s4 1137) (ps_a s4 1138) (ps_a s4 1139) (ps_a s4 1157) (ps_a s4 1176) (ps_i s4 1131 21).toInt (ps_i s4 1131 47).toInt (ps_i s4 1131 54).toInt := by rw [show ps_a s4 1134 = ps_a s 1134 from (K4.2 1134 rfl).1, show ps_a s4 1135 = ps_a s 1135 from (K4.2 1135 rfl).1, show ps_a s4 1136 = ps_a s 1136 from (K4.2 1136 rfl).1, show ps_a s4 1137 = ps_a s 1137 from (K4.2 1137 rfl).1, show ps_a s4 1138 = ps_a s 1138 from (K4.2 1138 rfl).1, show ps_a s4 1139 = ps_a s 1139 from (K4.2 1139 rfl).1, show ps_a s4 1157 = ps_a s 1157 from (K4.2 1157 rfl).1, show ps_a s4 1176 = ps_a s 1176 from (K4.2 1176 rfl).1, show ps_i s4 1131 21 = ps_i s 1131 21 from kp_i K4 21 rfl, show ps_i s4 1131 47 = ps_i s 1131 47 from kp_i K4 47 rfl, show ps_i s4 1131 54 = ps_i s 1131 54 from kp_i K4 54 rfl]; exact hMI
    have hSg : ∃ S : List Nat, Md (ps_a s4 1163) (ps_i s4 1131 59).toInt S ∧ S.length ≤ 40 ∧ pw S 1 := p4_0
    have r6 := mf_60 J4
    exact k (ps_i s4 1131 60) _ J4 K5
  · have f7 : (ps_a s 1134 (Int32.toNatClampNeg (25748 : Int32))).toInt = (0 : Int) := xeq h2
    exact k (-1 : Int32) _ J K

-- ProofBenchModel.table()I
theorem pg_281_0 {d : Nat} {s : ps_S} {Q : Option Value → ps_S → Prop} (h :
  ps_Cl d 219 [.ref 1131, .int 25748] s (ps_rI (fun v1 s1 =>
    (v1 ≠ 0 →
      ps_Cl d 277 [.ref 1131] s1 (ps_rV (fun s2 =>
        ((ps_i s2 1131 60) ≤ 12 →
          ps_At (d + 1) 281 32 [(0, .ref 1131), (1, .int 0), (2, .int 0)] [] s2 Q) ∧
        (12 < (ps_i s2 1131 60) →
          Q (some (.int (-2))) s2)))) ∧
    (v1 = 0 →
      Q (some (.int (-1))) s1)))) : ps_At (d + 1) 281 0 [(0, .ref 1131)] [] s Q :=
  ps_wp_at (stops := [(32, [0, 1, 2])]) (n := 20) h rfl

theorem pg_281_32 {d : Nat} {x1 : Int32} {x2 : Int32} {s : ps_S} {Q : Option Value → ps_S → Prop} (h :
  (((1 : Int32) <<< ((ps_i s 1131 60) &&& 31)) ≤ x2 →
    Q (some (.int x1)) s) ∧
  (x2 < ((1 : Int32) <<< ((ps_i s 1131 60) &&& 31)) →
    ps_Cl d 279 [.ref 1131, .int x2] s (ps_rI (fun v1 s1 =>
      (v1 = 0 →
        ps_At (d + 1) 281 32 [(0, .ref 1131), (1, .int (x1 + 0)), (2, .int (x2 + 1))] [] s1 Q) ∧
      (v1 ≠ 0 →
        ps_At (d + 1) 281 32 [(0, .ref 1131), (1, .int (x1 + 1)), (2, .int (x2 + 1))] [] s1 Q))))) : ps_At (d + 1) 281 32 [(0, .ref 1131), (1, .int x1), (2, .int x2)] [] s Q :=
  ps_wp_at (stops := [(32, [0, 1, 2])]) (n := 26) h rfl

theorem ms_281_32 {x : Nat → Nat → Nat} {t : Int32} {d : Nat} {s0 : ps_S} {σ : mSig} {Q : Option Value → ps_S → Prop} (k : ∀ (v : Int32) (s' : ps_S), mJ x t s' → kp [1163, 1164, 1165, 1166] [59, 60] s0 s' → Q (some (.int v)) s') : ∀ (n : Nat) (x1 : Int32) (x2 : Int32) (bd : Int32) (s : ps_S), (mJ x t s) → (kp [1163, 1164, 1165, 1166] [59, 60] s0 s) → (∃ S : List Nat, Md (ps_a s 1163) (ps_i s 1131 59).toInt S ∧ S.length ≤ 40 ∧ pw S 1) → (((1 : Int32) <<< ((ps_i s 1131 60) &&& 31)) = bd) → (0 ≤ x2.toInt) → (0 ≤ x1.toInt) → (x1.toInt ≤ x2.toInt) → bd.toInt - x2.toInt ≤ (n : Int) → ps_At (d + 4) 281 32 [(0, .ref 1131), (1, .int x1), (2, .int x2)] [] s Q := by
  refine xstr (fun n ih => ?_)
  intro x1 x2 bd s J K hSg hbd i2 i3 i4 hm
  refine pg_281_32 (d := d + 3) ?_
  have r1 := mf_60 J
  have hb : ((1 : Int32) <<< ((ps_i s 1131 60) &&& 31)).toInt = bd.toInt := congrArg Int32.toInt hbd
  have hbr := Int32.toInt_lt bd
  refine And.intro (fun h2 => ?_) (fun h2 => ?_)
  · have f3 : ((1 : Int32) <<< ((ps_i s 1131 60) &&& 31)).toInt ≤ x2.toInt := xle h2
    exact k x1 _ J K
  · have f4 : x2.toInt < ((1 : Int32) <<< ((ps_i s 1131 60) &&& 31)).toInt := xlt h2
    obtain ⟨S, hS1, hS2, hS3⟩ := id hSg
    refine ms_279 J (hS1) (hS2) (hS3) (fun v5 s5 J5 K5 b5 => ?_)
    have K6 := kpt K K5 rfl rfl
    have hSg : ∃ S : List Nat, Md (ps_a s5 1163) (ps_i s5 1131 59).toInt S ∧ S.length ≤ 40 ∧ pw S 1 := by rw [show ps_a s5 1163 = ps_a s 1163 from (K5.2 1163 rfl).1, show ps_i s5 1131 59 = ps_i s 1131 59 from kp_i K5 59 rfl]; exact hSg
    have hbd : ((1 : Int32) <<< ((ps_i s5 1131 60) &&& 31)) = bd := by rw [show ps_i s5 1131 60 = ps_i s 1131 60 from kp_i K5 60 rfl]; exact hbd
    refine And.intro (fun h7 => ?_) (fun h7 => ?_)
    · have f8 : v5.toInt = (0 : Int) := xeq h7
      have a9 : (x1 + 0).toInt = x1.toInt + (0 : Int) := xIa (show -2147483648 ≤ x1.toInt + (0 : Int) from by omega) (show x1.toInt + (0 : Int) < 2147483648 from by omega)
      have a10 : (x2 + 1).toInt = x2.toInt + (1 : Int) := xIa (show -2147483648 ≤ x2.toInt + (1 : Int) from by omega) (show x2.toInt + (1 : Int) < 2147483648 from by omega)
      exact ih (n - 1) (show n - 1 < n from by omega) (x1 + 0) (x2 + 1) bd _ J5 K6 hSg hbd (show 0 ≤ (x2 + 1).toInt from by omega) (show 0 ≤ (x1 + 0).toInt from by omega) (show (x1 + 0).toInt ≤ (x2 + 1).toInt from by omega) (show bd.toInt - (x2 + 1).toInt ≤ ((n - 1 : Nat) : Int) from by omega)
    · have f11 : v5.toInt ≠ (0 : Int) := xne h7
      have a12 : (x1 + 1).toInt = x1.toInt + (1 : Int) := xIa (show -2147483648 ≤ x1.toInt + (1 : Int) from by omega) (show x1.toInt + (1 : Int) < 2147483648 from by omega)
      have a13 : (x2 + 1).toInt = x2.toInt + (1 : Int) := xIa (show -2147483648 ≤ x2.toInt + (1 : Int) from by omega) (show x2.toInt + (1 : Int) < 2147483648 from by omega)
      exact ih (n - 1) (show n - 1 < n from by omega) (x1 + 1) (x2 + 1) bd _ J5 K6 hSg hbd (show 0 ≤ (x2 + 1).toInt from by omega) (show 0 ≤ (x1 + 1).toInt from by omega) (show (x1 + 1).toInt ≤ (x2 + 1).toInt from by omega) (show bd.toInt - (x2 + 1).toInt ≤ ((n - 1 : Nat) : Int) from by omega)

theorem ms_281 {x : Nat → Nat → Nat} {t : Int32} {s : ps_S} {d : Nat} {f : Int32 → ps_S → Prop} (J : mJ x t s) {σ : mSig} (hMI : MI σ (ps_a s 1134) (ps_a s 1135) (ps_a s 1136) (ps_a s 1137) (ps_a s 1138) (ps_a s 1139) (ps_a s 1157) (ps_a s 1176) (ps_i s 1131 21).toInt (ps_i s 1131 47).toInt (ps_i s 1131 54).toInt) (k : ∀ (v : Int32) (s' : ps_S), mJ x t s' → kp [1163, 1164, 1165, 1166] [59, 60] s s' → f v s') : ps_Cl (d + 4) 281 [.ref 1131] s (ps_rI f) := by
  have K : kp [1163, 1164, 1165, 1166] [59, 60] s s := kp_refl
  refine pg_281_0 (d := d + 3) ?_
  refine pg_219_0 ?_
  refine ps_nd_i (show pm_in (25748 : Int32) 27400 = true from xgi (show 0 ≤ (25748 : Int) from by omega) (show (25748 : Int) < 27400 from by omega)) ?_
  have r1 : (25748 : Int) % 41 = 0 → (25748 : Int) < 27306 → 0 ≤ (ps_a s 1134 (Int32.toNatClampNeg (25748 : Int32))).toInt ∧ (ps_a s 1134 (Int32.toNatClampNeg (25748 : Int32))).toInt ≤ 40 := fun z1 z2 => mp_row (i := (25748 : Int32)) J z1 (show 0 ≤ (25748 : Int) from by omega) z2
  refine And.intro (fun h2 => ?_) (fun h2 => ?_)
  · have f3 : (ps_a s 1134 (Int32.toNatClampNeg (25748 : Int32))).toInt ≠ (0 : Int) := xne h2
    obtain ⟨l, hl1, hl2⟩ := hMI.2.2.2.2.1.resolve_left (fun z => absurd z (show ¬ ((ps_a s 1134 (Int32.toNatClampNeg (25748 : Int32))).toInt = 0) from by omega))
    have hS := MI_S hMI
    have hR : Rw (ps_a s 1134) (25748 : Int32).toInt l := by rw [show (25748 : Int32).toInt = 25748 from by decide]; exact hl1
    refine ms_277 J (hS) (hR) ((wf_ws hl2)) (fun s4 J4 K4 p4_0 => ?_)
    have K5 := kpt K K4 rfl rfl
    have hMI : MI σ (ps_a s4 1134) (ps_a s4 1135) (ps_a s4 1136) (ps_a s4 1137) (ps_a s4 1138) (ps_a s4 1139) (ps_a s4 1157) (ps_a s4 1176) (ps_i s4 1131 21).toInt (ps_i s4 1131 47).toInt (ps_i s4 1131 54).toInt := by rw [show ps_a s4 1134 = ps_a s 1134 from (K4.2 1134 rfl).1, show ps_a s4 1135 = ps_a s 1135 from (K4.2 1135 rfl).1, show ps_a s4 1136 = ps_a s 1136 from (K4.2 1136 rfl).1, show ps_a s4 1137 = ps_a s 1137 from (K4.2 1137 rfl).1, show ps_a s4 1138 = ps_a s 1138 from (K4.2 1138 rfl).1, show ps_a s4 1139 = ps_a s 1139 from (K4.2 1139 rfl).1, show ps_a s4 1157 = ps_a s 1157 from (K4.2 1157 rfl).1, show ps_a s4 1176 = ps_a s 1176 from (K4.2 1176 rfl).1, show ps_i s4 1131 21 = ps_i s 1131 21 from kp_i K4 21 rfl, show ps_i s4 1131 47 = ps_i s 1131 47 from kp_i K4 47 rfl, show ps_i s4 1131 54 = ps_i s 1131 54 from kp_i K4 54 rfl]; exact hMI
    have hSg : ∃ S : List Nat, Md (ps_a s4 1163) (ps_i s4 1131 59).toInt S ∧ S.length ≤ 40 ∧ pw S 1 := p4_0
    have r6 := mf_60 J4
    refine And.intro (fun h7 => ?_) (fun h7 => ?_)
    · have f8 : (ps_i s4 1131 60).toInt ≤ (12 : Int) := xle h7
      exact ms_281_32 (σ := σ) k  (((1 : Int32) <<< ((ps_i s4 1131 60) &&& 31)).toInt - (0 : Int)).toNat (0) (0) ((1 : Int32) <<< ((ps_i s4 1131 60) &&& 31)) _ J4 K5 hSg (rfl) (show 0 ≤ (0 : Int) from by omega) (show 0 ≤ (0 : Int) from by omega) (show (0 : Int) ≤ (0 : Int) from by omega) (show ((1 : Int32) <<< ((ps_i s4 1131 60) &&& 31)).toInt - (0 : Int) ≤ (((((1 : Int32) <<< ((ps_i s4 1131 60) &&& 31)).toInt - (0 : Int)).toNat : Nat) : Int) from by omega)
    · have f9 : (12 : Int) < (ps_i s4 1131 60).toInt := xlt h7
      exact k (-2 : Int32) _ J4 K5
  · have f10 : (ps_a s 1134 (Int32.toNatClampNeg (25748 : Int32))).toInt = (0 : Int) := xeq h2
    exact k (-1 : Int32) _ J K

-- ProofBenchModel.row()I
theorem pg_282_0 {d : Nat} {s : ps_S} {Q : Option Value → ps_S → Prop} (h :
  ps_Cl d 219 [.ref 1131, .int 25748] s (ps_rI (fun v1 s1 =>
    (v1 ≠ 0 →
      ps_Cl d 277 [.ref 1131] s1 (ps_rV (fun s2 =>
        ((ps_i s2 1131 60) ≤ 12 →
          ps_At (d + 1) 282 30 [(0, .ref 1131), (1, .int 0)] [] s2 Q) ∧
        (12 < (ps_i s2 1131 60) →
          Q (some (.int (-2))) s2)))) ∧
    (v1 = 0 →
      Q (some (.int (-1))) s1)))) : ps_At (d + 1) 282 0 [(0, .ref 1131)] [] s Q :=
  ps_wp_at (stops := [(30, [0, 1])]) (n := 18) h rfl

theorem pg_282_30 {d : Nat} {x1 : Int32} {s : ps_S} {Q : Option Value → ps_S → Prop} (h :
  (((1 : Int32) <<< ((ps_i s 1131 60) &&& 31)) ≤ x1 →
    Q (some (.int (-1))) s) ∧
  (x1 < ((1 : Int32) <<< ((ps_i s 1131 60) &&& 31)) →
    ps_Cl d 279 [.ref 1131, .int x1] s (ps_rI (fun v1 s1 =>
      (v1 ≠ 0 →
        ps_At (d + 1) 282 30 [(0, .ref 1131), (1, .int (x1 + 1))] [] s1 Q) ∧
      (v1 = 0 →
        Q (some (.int x1)) s1))))) : ps_At (d + 1) 282 30 [(0, .ref 1131), (1, .int x1)] [] s Q :=
  ps_wp_at (stops := [(30, [0, 1])]) (n := 18) h rfl

theorem ms_282_30 {x : Nat → Nat → Nat} {t : Int32} {d : Nat} {s0 : ps_S} {σ : mSig} {Q : Option Value → ps_S → Prop} (k : ∀ (v : Int32) (s' : ps_S), mJ x t s' → kp [1163, 1164, 1165, 1166] [59, 60] s0 s' → Q (some (.int v)) s') : ∀ (n : Nat) (x1 : Int32) (bd : Int32) (s : ps_S), (mJ x t s) → (kp [1163, 1164, 1165, 1166] [59, 60] s0 s) → (∃ S : List Nat, Md (ps_a s 1163) (ps_i s 1131 59).toInt S ∧ S.length ≤ 40 ∧ pw S 1) → (((1 : Int32) <<< ((ps_i s 1131 60) &&& 31)) = bd) → (0 ≤ x1.toInt) → bd.toInt - x1.toInt ≤ (n : Int) → ps_At (d + 4) 282 30 [(0, .ref 1131), (1, .int x1)] [] s Q := by
  refine xstr (fun n ih => ?_)
  intro x1 bd s J K hSg hbd i2 hm
  refine pg_282_30 (d := d + 3) ?_
  have r1 := mf_60 J
  have hb : ((1 : Int32) <<< ((ps_i s 1131 60) &&& 31)).toInt = bd.toInt := congrArg Int32.toInt hbd
  have hbr := Int32.toInt_lt bd
  refine And.intro (fun h2 => ?_) (fun h2 => ?_)
  · have f3 : ((1 : Int32) <<< ((ps_i s 1131 60) &&& 31)).toInt ≤ x1.toInt := xle h2
    exact k (-1 : Int32) _ J K
  · have f4 : x1.toInt < ((1 : Int32) <<< ((ps_i s 1131 60) &&& 31)).toInt := xlt h2
    obtain ⟨S, hS1, hS2, hS3⟩ := id hSg
    refine ms_279 J (hS1) (hS2) (hS3) (fun v5 s5 J5 K5 b5 => ?_)
    have K6 := kpt K K5 rfl rfl
    have hSg : ∃ S : List Nat, Md (ps_a s5 1163) (ps_i s5 1131 59).toInt S ∧ S.length ≤ 40 ∧ pw S 1 := by rw [show ps_a s5 1163 = ps_a s 1163 from (K5.2 1163 rfl).1, show ps_i s5 1131 59 = ps_i s 1131 59 from kp_i K5 59 rfl]; exact hSg
    have hbd : ((1 : Int32) <<< ((ps_i s5 1131 60) &&& 31)) = bd := by rw [show ps_i s5 1131 60 = ps_i s 1131 60 from kp_i K5 60 rfl]; exact hbd
    refine And.intro (fun h7 => ?_) (fun h7 => ?_)
    · have f8 : v5.toInt ≠ (0 : Int) := xne h7
      have a9 : (x1 + 1).toInt = x1.toInt + (1 : Int) := xIa (show -2147483648 ≤ x1.toInt + (1 : Int) from by omega) (show x1.toInt + (1 : Int) < 2147483648 from by omega)
      exact ih (n - 1) (show n - 1 < n from by omega) (x1 + 1) bd _ J5 K6 hSg hbd (show 0 ≤ (x1 + 1).toInt from by omega) (show bd.toInt - (x1 + 1).toInt ≤ ((n - 1 : Nat) : Int) from by omega)
    · have f10 : v5.toInt = (0 : Int) := xeq h7
      exact k x1 _ J5 K6

theorem ms_282 {x : Nat → Nat → Nat} {t : Int32} {s : ps_S} {d : Nat} {f : Int32 → ps_S → Prop} (J : mJ x t s) {σ : mSig} (hMI : MI σ (ps_a s 1134) (ps_a s 1135) (ps_a s 1136) (ps_a s 1137) (ps_a s 1138) (ps_a s 1139) (ps_a s 1157) (ps_a s 1176) (ps_i s 1131 21).toInt (ps_i s 1131 47).toInt (ps_i s 1131 54).toInt) (k : ∀ (v : Int32) (s' : ps_S), mJ x t s' → kp [1163, 1164, 1165, 1166] [59, 60] s s' → f v s') : ps_Cl (d + 4) 282 [.ref 1131] s (ps_rI f) := by
  have K : kp [1163, 1164, 1165, 1166] [59, 60] s s := kp_refl
  refine pg_282_0 (d := d + 3) ?_
  refine pg_219_0 ?_
  refine ps_nd_i (show pm_in (25748 : Int32) 27400 = true from xgi (show 0 ≤ (25748 : Int) from by omega) (show (25748 : Int) < 27400 from by omega)) ?_
  have r1 : (25748 : Int) % 41 = 0 → (25748 : Int) < 27306 → 0 ≤ (ps_a s 1134 (Int32.toNatClampNeg (25748 : Int32))).toInt ∧ (ps_a s 1134 (Int32.toNatClampNeg (25748 : Int32))).toInt ≤ 40 := fun z1 z2 => mp_row (i := (25748 : Int32)) J z1 (show 0 ≤ (25748 : Int) from by omega) z2
  refine And.intro (fun h2 => ?_) (fun h2 => ?_)
  · have f3 : (ps_a s 1134 (Int32.toNatClampNeg (25748 : Int32))).toInt ≠ (0 : Int) := xne h2
    obtain ⟨l, hl1, hl2⟩ := hMI.2.2.2.2.1.resolve_left (fun z => absurd z (show ¬ ((ps_a s 1134 (Int32.toNatClampNeg (25748 : Int32))).toInt = 0) from by omega))
    have hS := MI_S hMI
    have hR : Rw (ps_a s 1134) (25748 : Int32).toInt l := by rw [show (25748 : Int32).toInt = 25748 from by decide]; exact hl1
    refine ms_277 J (hS) (hR) ((wf_ws hl2)) (fun s4 J4 K4 p4_0 => ?_)
    have K5 := kpt K K4 rfl rfl
    have hMI : MI σ (ps_a s4 1134) (ps_a s4 1135) (ps_a s4 1136) (ps_a s4 1137) (ps_a s4 1138) (ps_a s4 1139) (ps_a s4 1157) (ps_a s4 1176) (ps_i s4 1131 21).toInt (ps_i s4 1131 47).toInt (ps_i s4 1131 54).toInt := by rw [show ps_a s4 1134 = ps_a s 1134 from (K4.2 1134 rfl).1, show ps_a s4 1135 = ps_a s 1135 from (K4.2 1135 rfl).1, show ps_a s4 1136 = ps_a s 1136 from (K4.2 1136 rfl).1, show ps_a s4 1137 = ps_a s 1137 from (K4.2 1137 rfl).1, show ps_a s4 1138 = ps_a s 1138 from (K4.2 1138 rfl).1, show ps_a s4 1139 = ps_a s 1139 from (K4.2 1139 rfl).1, show ps_a s4 1157 = ps_a s 1157 from (K4.2 1157 rfl).1, show ps_a s4 1176 = ps_a s 1176 from (K4.2 1176 rfl).1, show ps_i s4 1131 21 = ps_i s 1131 21 from kp_i K4 21 rfl, show ps_i s4 1131 47 = ps_i s 1131 47 from kp_i K4 47 rfl, show ps_i s4 1131 54 = ps_i s 1131 54 from kp_i K4 54 rfl]; exact hMI
    have hSg : ∃ S : List Nat, Md (ps_a s4 1163) (ps_i s4 1131 59).toInt S ∧ S.length ≤ 40 ∧ pw S 1 := p4_0
    have r6 := mf_60 J4
    refine And.intro (fun h7 => ?_) (fun h7 => ?_)
    · have f8 : (ps_i s4 1131 60).toInt ≤ (12 : Int) := xle h7
      exact ms_282_30 (σ := σ) k  (((1 : Int32) <<< ((ps_i s4 1131 60) &&& 31)).toInt - (0 : Int)).toNat (0) ((1 : Int32) <<< ((ps_i s4 1131 60) &&& 31)) _ J4 K5 hSg (rfl) (show 0 ≤ (0 : Int) from by omega) (show ((1 : Int32) <<< ((ps_i s4 1131 60) &&& 31)).toInt - (0 : Int) ≤ (((((1 : Int32) <<< ((ps_i s4 1131 60) &&& 31)).toInt - (0 : Int)).toNat : Nat) : Int) from by omega)
    · have f9 : (12 : Int) < (ps_i s4 1131 60).toInt := xlt h7
      exact k (-2 : Int32) _ J4 K5
  · have f10 : (ps_a s 1134 (Int32.toNatClampNeg (25748 : Int32))).toInt = (0 : Int) := xeq h2
    exact k (-1 : Int32) _ J K
