section
set_option maxRecDepth 100000
-- ProofBenchModel.isSoIn(I)Z
theorem pg_279_0 {d : Nat} {x1 : Int32} {s : ps_S} {Q : Option Value → ps_S → Prop} (h :
  ps_At d 279 9 [(0, .ref 1131), (1, .int x1), (2, .int 0), (3, .int ((ps_i s 1131 59) - 1))] [] s Q) : ps_At d 279 0 [(0, .ref 1131), (1, .int x1)] [] s Q :=
  ps_wp_at (stops := [(9, [0, 1, 2, 3]), (77, [0, 1, 2, 3, 4]), (138, [0, 1, 2, 3])]) (n := 9) h rfl

theorem pg_279_9 {d : Nat} {x1 : Int32} {x2 : Int32} {x3 : Int32} {s : ps_S} {Q : Option Value → ps_S → Prop} (h :
  (x3 < 0 →
    ps_nd (pm_in 0 41) (((ps_a s 1166 (Int32.toNatClampNeg (0 : Int32))) ≠ 1 →
      Q (some (.int 0)) s) ∧
    ((ps_a s 1166 (Int32.toNatClampNeg (0 : Int32))) = 1 →
      Q (some (.int 1)) s))) ∧
  (0 ≤ x3 →
    ps_nd (pm_in x3 41) (((ps_a s 1163 (Int32.toNatClampNeg x3)) < 100 →
      ((ps_a s 1163 (Int32.toNatClampNeg x3)) ≠ 0 →
        ps_At d 279 77 [(0, .ref 1131), (1, .int x1), (2, .int (x2 + (Int32.ofInt (-1)))), (3, .int x3), (4, .int (ps_a s 1163 (Int32.toNatClampNeg x3)))] [] s Q) ∧
      ((ps_a s 1163 (Int32.toNatClampNeg x3)) = 0 →
        ps_nd (pm_in x2 41) (ps_At d 279 138 [(0, .ref 1131), (1, .int x1), (2, .int (x2 + 1)), (3, .int x3)] [] (ps_ua s 1166 (Int32.toNatClampNeg x2) 0) Q))) ∧
    (100 ≤ (ps_a s 1163 (Int32.toNatClampNeg x3)) →
      ps_nd (pm_in x2 41) (ps_At d 279 138 [(0, .ref 1131), (1, .int x1), (2, .int (x2 + 1)), (3, .int x3)] [] (ps_ua s 1166 (Int32.toNatClampNeg x2) ((x1 >>> ((((ps_i s 1131 60) - 1) - ((ps_a s 1163 (Int32.toNatClampNeg x3)) - 100)) &&& 31)) &&& 1)) Q))))) : ps_At d 279 9 [(0, .ref 1131), (1, .int x1), (2, .int x2), (3, .int x3)] [] s Q :=
  ps_wp_at (stops := [(9, [0, 1, 2, 3]), (77, [0, 1, 2, 3, 4]), (138, [0, 1, 2, 3])]) (n := 51) h rfl

theorem pg_279_77 {d : Nat} {x1 : Int32} {x2 : Int32} {x3 : Int32} {x4 : Int32} {s : ps_S} {Q : Option Value → ps_S → Prop} (h :
  ps_nd (pm_in x2 41) (ps_nd (pm_in (x2 - 1) 41) ((x4 ≠ 1 →
    (x4 ≠ 2 →
      ps_nd (pm_in (x2 - 1) 41) (ps_At d 279 138 [(0, .ref 1131), (1, .int x1), (2, .int x2), (3, .int x3)] [] (ps_ua s 1166 (Int32.toNatClampNeg (x2 - 1)) (((1 : Int32) - (ps_a s 1166 (Int32.toNatClampNeg x2))) ||| (ps_a s 1166 (Int32.toNatClampNeg (x2 - 1))))) Q)) ∧
    (x4 = 2 →
      ps_nd (pm_in (x2 - 1) 41) (ps_At d 279 138 [(0, .ref 1131), (1, .int x1), (2, .int x2), (3, .int x3)] [] (ps_ua s 1166 (Int32.toNatClampNeg (x2 - 1)) ((ps_a s 1166 (Int32.toNatClampNeg x2)) ||| (ps_a s 1166 (Int32.toNatClampNeg (x2 - 1))))) Q))) ∧
  (x4 = 1 →
    ps_nd (pm_in (x2 - 1) 41) (ps_At d 279 138 [(0, .ref 1131), (1, .int x1), (2, .int x2), (3, .int x3)] [] (ps_ua s 1166 (Int32.toNatClampNeg (x2 - 1)) ((ps_a s 1166 (Int32.toNatClampNeg x2)) &&& (ps_a s 1166 (Int32.toNatClampNeg (x2 - 1))))) Q))))) : ps_At d 279 77 [(0, .ref 1131), (1, .int x1), (2, .int x2), (3, .int x3), (4, .int x4)] [] s Q :=
  ps_wp_at (stops := [(9, [0, 1, 2, 3]), (77, [0, 1, 2, 3, 4]), (138, [0, 1, 2, 3])]) (n := 41) h rfl

theorem pg_279_138 {d : Nat} {x1 : Int32} {x2 : Int32} {x3 : Int32} {s : ps_S} {Q : Option Value → ps_S → Prop} (h :
  ps_At d 279 9 [(0, .ref 1131), (1, .int x1), (2, .int x2), (3, .int (x3 + (Int32.ofInt (-1))))] [] s Q) : ps_At d 279 138 [(0, .ref 1131), (1, .int x1), (2, .int x2), (3, .int x3)] [] s Q :=
  ps_wp_at (stops := [(9, [0, 1, 2, 3]), (77, [0, 1, 2, 3, 4]), (138, [0, 1, 2, 3])]) (n := 4) h rfl

theorem ms_279_138 {x : Nat → Nat → Nat} {t : Int32} {d : Nat} {s0 : ps_S} {S : List Nat} {x1 : Int32} {Q : Option Value → ps_S → Prop} (k : ∀ (v : Int32) (s' : ps_S), mJ x t s' → kp [1166] [] s0 s' → v &&& 1 = v → Q (some (.int v)) s') (n9 : Nat) (KH9 : ∀ (x2 : Int32) (x3 : Int32) (m1 : List Nat) (m2 : List Nat) (s : ps_S), (mJ x t s) → (kp [1166] [] s0 s) → (Md (ps_a s 1163) (ps_i s 1131 59).toInt S) → (S.length ≤ 40) → (pw S 1) → (S = m1 ++ m2) → (x3.toInt + 1 = (m1.length : Int)) → (pw m2 (x2.toInt).toNat) → (0 ≤ x2.toInt) → (-1 ≤ x3.toInt) → (x3.toInt + 1 ≤ (n9 : Int) - 1) → ps_At d 279 9 [(0, .ref 1131), (1, .int x1), (2, .int x2), (3, .int x3)] [] s Q) (x2 : Int32) (x3 : Int32) (a : List Nat) (c : Nat) (m2 : List Nat) (s : ps_S) (J : mJ x t s) (K : kp [1166] [] s0 s) (hMd : Md (ps_a s 1163) (ps_i s 1131 59).toInt S) (i1 : S.length ≤ 40) (i2 : pw S 1) (i3 : S = a ++ c :: m2) (i4 : x3.toInt = (a.length : Int)) (i5 : pw (c :: m2) (x2.toInt).toNat) (i6 : 0 ≤ x2.toInt) (i7 : 0 ≤ x3.toInt) (hm9 : x3.toInt + 1 ≤ (n9 : Int)) : ps_At d 279 138 [(0, .ref 1131), (1, .int x1), (2, .int x2), (3, .int x3)] [] s Q := by
  refine pg_279_138 ?_
  have hle := pw_le i5
  have hl : (S.length : Int) = a.length + (c :: m2).length := by rw [i3]; exact llen
  generalize hx2 : (x3 + (Int32.ofInt (-1))) = xd1
  have a3 : xd1.toInt = x3.toInt + (-1) := by rw [← hx2]; exact xdec (show -2147483648 < x3.toInt from by omega)
  clear hx2
  exact KH9 x2 xd1 a (c :: m2) _ J K hMd (by assumption) (by assumption) (i3) ((by omega)) (i5) (show 0 ≤ x2.toInt from by omega) (show -1 ≤ xd1.toInt from by omega) (show xd1.toInt + 1 ≤ (n9 : Int) - 1 from by omega)

theorem ms_279_77 {x : Nat → Nat → Nat} {t : Int32} {d : Nat} {s0 : ps_S} {S : List Nat} {x1 : Int32} {Q : Option Value → ps_S → Prop} (k : ∀ (v : Int32) (s' : ps_S), mJ x t s' → kp [1166] [] s0 s' → v &&& 1 = v → Q (some (.int v)) s') (n9 : Nat) (KH9 : ∀ (x2 : Int32) (x3 : Int32) (m1 : List Nat) (m2 : List Nat) (s : ps_S), (mJ x t s) → (kp [1166] [] s0 s) → (Md (ps_a s 1163) (ps_i s 1131 59).toInt S) → (S.length ≤ 40) → (pw S 1) → (S = m1 ++ m2) → (x3.toInt + 1 = (m1.length : Int)) → (pw m2 (x2.toInt).toNat) → (0 ≤ x2.toInt) → (-1 ≤ x3.toInt) → (x3.toInt + 1 ≤ (n9 : Int) - 1) → ps_At d 279 9 [(0, .ref 1131), (1, .int x1), (2, .int x2), (3, .int x3)] [] s Q) (x2 : Int32) (x3 : Int32) (x4 : Int32) (a : List Nat) (c : Nat) (m2 : List Nat) (s : ps_S) (J : mJ x t s) (K : kp [1166] [] s0 s) (hMd : Md (ps_a s 1163) (ps_i s 1131 59).toInt S) (i1 : S.length ≤ 40) (i2 : pw S 1) (i3 : S = a ++ c :: m2) (i4 : x3.toInt = (a.length : Int)) (i5 : pw (c :: m2) (x2.toInt).toNat) (i6 : 1 ≤ x2.toInt) (i7 : 0 ≤ x3.toInt) (i8 : x4.toInt = (c : Int)) (i9 : 1 ≤ c ∧ c ≤ 3) (hm9 : x3.toInt + 1 ≤ (n9 : Int)) : ps_At d 279 77 [(0, .ref 1131), (1, .int x1), (2, .int x2), (3, .int x3), (4, .int x4)] [] s Q := by
  refine pg_279_77 ?_
  have hle := pw_le i5
  have hl : (S.length : Int) = a.length + (c :: m2).length := by rw [i3]; exact llen
  refine ps_nd_i (show pm_in x2 41 = true from xgi (show 0 ≤ x2.toInt from by omega) (show x2.toInt < 41 from by omega)) ?_
  have r1 : 0 ≤ (ps_a s 1166 (Int32.toNatClampNeg x2)).toInt ∧ (ps_a s 1166 (Int32.toNatClampNeg x2)).toInt ≤ 1 := ma_1166 (i := x2) J (show 0 ≤ x2.toInt from by omega) (show x2.toInt < 41 from by omega)
  have a2 : (x2 - 1).toInt = x2.toInt - (1 : Int) := xIs (show -2147483648 ≤ x2.toInt - (1 : Int) from by omega) (show x2.toInt - (1 : Int) < 2147483648 from by omega)
  refine ps_nd_i (show pm_in (x2 - 1) 41 = true from xgi (show 0 ≤ (x2 - 1).toInt from by omega) (show (x2 - 1).toInt < 41 from by omega)) ?_
  have r3 : 0 ≤ (ps_a s 1166 (Int32.toNatClampNeg (x2 - 1))).toInt ∧ (ps_a s 1166 (Int32.toNatClampNeg (x2 - 1))).toInt ≤ 1 := ma_1166 (i := (x2 - 1)) J (show 0 ≤ (x2 - 1).toInt from by omega) (show (x2 - 1).toInt < 41 from by omega)
  refine And.intro (fun h4 => ?_) (fun h4 => ?_)
  · have f5 : x4.toInt ≠ (1 : Int) := xne h4
    refine And.intro (fun h6 => ?_) (fun h6 => ?_)
    · have f7 : x4.toInt ≠ (2 : Int) := xne h6
      have a8 : ((1 : Int32) - (ps_a s 1166 (Int32.toNatClampNeg x2))).toInt = (1 : Int) - (ps_a s 1166 (Int32.toNatClampNeg x2)).toInt := xIs (show -2147483648 ≤ (1 : Int) - (ps_a s 1166 (Int32.toNatClampNeg x2)).toInt from by omega) (show (1 : Int) - (ps_a s 1166 (Int32.toNatClampNeg x2)).toInt < 2147483648 from by omega)
      have hv : 0 ≤ ((((1 : Int32) - (ps_a s 1166 (Int32.toNatClampNeg x2))) ||| (ps_a s 1166 (Int32.toNatClampNeg (x2 - 1))))).toInt ∧ ((((1 : Int32) - (ps_a s 1166 (Int32.toNatClampNeg x2))) ||| (ps_a s 1166 (Int32.toNatClampNeg (x2 - 1))))).toInt ≤ 1 := by first | exact and01 (by omega) (by omega) | exact or01 (by omega) (by omega)
      refine ps_nd_i (show pm_in (x2 - 1) 41 = true from xgi (show 0 ≤ (x2 - 1).toInt from by omega) (show (x2 - 1).toInt < 41 from by omega)) ?_
      have J9 := mwa_1166 (i := (Int32.toNatClampNeg (x2 - 1))) (v := (((1 : Int32) - (ps_a s 1166 (Int32.toNatClampNeg x2))) ||| (ps_a s 1166 (Int32.toNatClampNeg (x2 - 1))))) J (show 0 ≤ (((1 : Int32) - (ps_a s 1166 (Int32.toNatClampNeg x2))) ||| (ps_a s 1166 (Int32.toNatClampNeg (x2 - 1)))).toInt from by omega) (show (((1 : Int32) - (ps_a s 1166 (Int32.toNatClampNeg x2))) ||| (ps_a s 1166 (Int32.toNatClampNeg (x2 - 1)))).toInt ≤ 1 from by omega)
      have K10 := kpa' K (r := 1166) (i := (Int32.toNatClampNeg (x2 - 1))) (v := (((1 : Int32) - (ps_a s 1166 (Int32.toNatClampNeg x2))) ||| (ps_a s 1166 (Int32.toNatClampNeg (x2 - 1))))) rfl
      exact ms_279_138 (x1 := x1) (S := S) k n9 KH9 x2 x3 a c m2 _ J9 K10 hMd (by assumption) (by assumption) (i3) (i4) (i5) (show 0 ≤ x2.toInt from by omega) (show 0 ≤ x3.toInt from by omega) (show x3.toInt + 1 ≤ (n9 : Int) from by omega)
    · have f11 : x4.toInt = (2 : Int) := xeq h6
      have hv : 0 ≤ (((ps_a s 1166 (Int32.toNatClampNeg x2)) ||| (ps_a s 1166 (Int32.toNatClampNeg (x2 - 1))))).toInt ∧ (((ps_a s 1166 (Int32.toNatClampNeg x2)) ||| (ps_a s 1166 (Int32.toNatClampNeg (x2 - 1))))).toInt ≤ 1 := by first | exact and01 (by omega) (by omega) | exact or01 (by omega) (by omega)
      refine ps_nd_i (show pm_in (x2 - 1) 41 = true from xgi (show 0 ≤ (x2 - 1).toInt from by omega) (show (x2 - 1).toInt < 41 from by omega)) ?_
      have J12 := mwa_1166 (i := (Int32.toNatClampNeg (x2 - 1))) (v := ((ps_a s 1166 (Int32.toNatClampNeg x2)) ||| (ps_a s 1166 (Int32.toNatClampNeg (x2 - 1))))) J (show 0 ≤ ((ps_a s 1166 (Int32.toNatClampNeg x2)) ||| (ps_a s 1166 (Int32.toNatClampNeg (x2 - 1)))).toInt from by omega) (show ((ps_a s 1166 (Int32.toNatClampNeg x2)) ||| (ps_a s 1166 (Int32.toNatClampNeg (x2 - 1)))).toInt ≤ 1 from by omega)
      have K13 := kpa' K (r := 1166) (i := (Int32.toNatClampNeg (x2 - 1))) (v := ((ps_a s 1166 (Int32.toNatClampNeg x2)) ||| (ps_a s 1166 (Int32.toNatClampNeg (x2 - 1))))) rfl
      exact ms_279_138 (x1 := x1) (S := S) k n9 KH9 x2 x3 a c m2 _ J12 K13 hMd (by assumption) (by assumption) (i3) (i4) (i5) (show 0 ≤ x2.toInt from by omega) (show 0 ≤ x3.toInt from by omega) (show x3.toInt + 1 ≤ (n9 : Int) from by omega)
  · have f14 : x4.toInt = (1 : Int) := xeq h4
    have hv : 0 ≤ (((ps_a s 1166 (Int32.toNatClampNeg x2)) &&& (ps_a s 1166 (Int32.toNatClampNeg (x2 - 1))))).toInt ∧ (((ps_a s 1166 (Int32.toNatClampNeg x2)) &&& (ps_a s 1166 (Int32.toNatClampNeg (x2 - 1))))).toInt ≤ 1 := by first | exact and01 (by omega) (by omega) | exact or01 (by omega) (by omega)
    refine ps_nd_i (show pm_in (x2 - 1) 41 = true from xgi (show 0 ≤ (x2 - 1).toInt from by omega) (show (x2 - 1).toInt < 41 from by omega)) ?_
    have J15 := mwa_1166 (i := (Int32.toNatClampNeg (x2 - 1))) (v := ((ps_a s 1166 (Int32.toNatClampNeg x2)) &&& (ps_a s 1166 (Int32.toNatClampNeg (x2 - 1))))) J (show 0 ≤ ((ps_a s 1166 (Int32.toNatClampNeg x2)) &&& (ps_a s 1166 (Int32.toNatClampNeg (x2 - 1)))).toInt from by omega) (show ((ps_a s 1166 (Int32.toNatClampNeg x2)) &&& (ps_a s 1166 (Int32.toNatClampNeg (x2 - 1)))).toInt ≤ 1 from by omega)
    have K16 := kpa' K (r := 1166) (i := (Int32.toNatClampNeg (x2 - 1))) (v := ((ps_a s 1166 (Int32.toNatClampNeg x2)) &&& (ps_a s 1166 (Int32.toNatClampNeg (x2 - 1))))) rfl
    exact ms_279_138 (x1 := x1) (S := S) k n9 KH9 x2 x3 a c m2 _ J15 K16 hMd (by assumption) (by assumption) (i3) (i4) (i5) (show 0 ≤ x2.toInt from by omega) (show 0 ≤ x3.toInt from by omega) (show x3.toInt + 1 ≤ (n9 : Int) from by omega)

theorem ms_279_9 {x : Nat → Nat → Nat} {t : Int32} {d : Nat} {s0 : ps_S} {S : List Nat} {x1 : Int32} {Q : Option Value → ps_S → Prop} (k : ∀ (v : Int32) (s' : ps_S), mJ x t s' → kp [1166] [] s0 s' → v &&& 1 = v → Q (some (.int v)) s') : ∀ (n : Nat) (x2 : Int32) (x3 : Int32) (m1 : List Nat) (m2 : List Nat) (s : ps_S), (mJ x t s) → (kp [1166] [] s0 s) → (Md (ps_a s 1163) (ps_i s 1131 59).toInt S) → (S.length ≤ 40) → (pw S 1) → (S = m1 ++ m2) → (x3.toInt + 1 = (m1.length : Int)) → (pw m2 (x2.toInt).toNat) → (0 ≤ x2.toInt) → (-1 ≤ x3.toInt) → x3.toInt + 1 ≤ (n : Int) → ps_At d 279 9 [(0, .ref 1131), (1, .int x1), (2, .int x2), (3, .int x3)] [] s Q := by
  refine xstr (fun n ih => ?_)
  intro x2 x3 m1 m2 s J K hMd i1 i2 i3 i4 i5 i6 i7 hm
  refine pg_279_9 ?_
  have i4 : x3.toInt + 1 = (m1.length : Int) := i4
  have hle := pw_le i5
  have hl : (S.length : Int) = m1.length + m2.length := by rw [i3]; exact llen
  refine And.intro (fun h1 => ?_) (fun h1 => ?_)
  · have f2 : x3.toInt < (0 : Int) := xlt h1
    refine ps_nd_i (show pm_in (0 : Int32) 41 = true from xgi (show 0 ≤ (0 : Int) from by omega) (show (0 : Int) < 41 from by omega)) ?_
    have r3 : 0 ≤ (ps_a s 1166 (Int32.toNatClampNeg (0 : Int32))).toInt ∧ (ps_a s 1166 (Int32.toNatClampNeg (0 : Int32))).toInt ≤ 1 := ma_1166 (i := (0 : Int32)) J (show 0 ≤ (0 : Int) from by omega) (show (0 : Int) < 41 from by omega)
    refine And.intro (fun h4 => ?_) (fun h4 => ?_)
    · have f5 : (ps_a s 1166 (Int32.toNatClampNeg (0 : Int32))).toInt ≠ (1 : Int) := xne h4
      exact k (0 : Int32) _ J K (by decide)
    · have f6 : (ps_a s 1166 (Int32.toNatClampNeg (0 : Int32))).toInt = (1 : Int) := xeq h4
      exact k (1 : Int32) _ J K (by decide)
  · have f7 : (0 : Int) ≤ x3.toInt := xle h1
    obtain ⟨a, c, rfl⟩ := lsnoc (l := m1) (by omega)
    rw [l1c] at i4
    have i3 : S = a ++ c :: m2 := i3.trans (by rw [List.append_assoc]; rfl)
    have hp : (ps_a s 1163 (Int32.toNatClampNeg x3)).toInt = (c : Int) := Md_p (l1 := a) (l2 := m2) (by rw [← i3]; exact hMd) (by omega) (by omega)
    have hva := pw_val i2 i3
    refine ps_nd_i (show pm_in x3 41 = true from xgi (show 0 ≤ x3.toInt from by omega) (show x3.toInt < 41 from by omega)) ?_
    have r8 : 0 ≤ (ps_a s 1163 (Int32.toNatClampNeg x3)).toInt ∧ (ps_a s 1163 (Int32.toNatClampNeg x3)).toInt ≤ 140 := ma_1163 (i := x3) J (show 0 ≤ x3.toInt from by omega) (show x3.toInt < 41 from by omega)
    refine And.intro (fun h9 => ?_) (fun h9 => ?_)
    · have f10 : (ps_a s 1163 (Int32.toNatClampNeg x3)).toInt < (100 : Int) := xlt h9
      refine And.intro (fun h11 => ?_) (fun h11 => ?_)
      · have f12 : (ps_a s 1163 (Int32.toNatClampNeg x3)).toInt ≠ (0 : Int) := xne h11
        obtain ⟨hb2, hb3⟩ := pw_bin i2 i3 (by omega) i5
        generalize hx14 : (x2 + (Int32.ofInt (-1))) = xd13
        have a15 : xd13.toInt = x2.toInt + (-1) := by rw [← hx14]; exact xdec (show -2147483648 < x2.toInt from by omega)
        clear hx14
        exact ms_279_77 (x1 := x1) (S := S) k n (fun x2z x3z m1z m2z sz Jz Kz i0z i1z i2z i3z i4z i5z i6z i7z hm => ih (n - 1) (show n - 1 < n from by omega) x2z x3z m1z m2z sz Jz Kz i0z i1z i2z i3z i4z i5z i6z i7z (show _ ≤ ((n - 1 : Nat) : Int) from by omega)) xd13 x3 (ps_a s 1163 (Int32.toNatClampNeg x3)) a c m2 _ J K hMd (by assumption) (by assumption) (i3) ((by omega)) ((by rw [show (xd13).toInt.toNat = (x2.toInt).toNat - 1 from by omega]; exact hb3)) (show 1 ≤ xd13.toInt from by omega) (show 0 ≤ x3.toInt from by omega) (hp) ((by omega)) (show x3.toInt + 1 ≤ ((n : Nat) : Int) from by omega)
      · have f16 : (ps_a s 1163 (Int32.toNatClampNeg x3)).toInt = (0 : Int) := xeq h11
        refine ps_nd_i (show pm_in x2 41 = true from xgi (show 0 ≤ x2.toInt from by omega) (show x2.toInt < 41 from by omega)) ?_
        have J17 := mwa_1166 (i := (Int32.toNatClampNeg x2)) (v := (0 : Int32)) J (show 0 ≤ (0 : Int) from by omega) (show (0 : Int) ≤ 1 from by omega)
        have K18 := kpa' K (r := 1166) (i := (Int32.toNatClampNeg x2)) (v := (0 : Int32)) rfl
        have a19 : (x2 + 1).toInt = x2.toInt + (1 : Int) := xIa (show -2147483648 ≤ x2.toInt + (1 : Int) from by omega) (show x2.toInt + (1 : Int) < 2147483648 from by omega)
        exact ms_279_138 (x1 := x1) (S := S) k n (fun x2z x3z m1z m2z sz Jz Kz i0z i1z i2z i3z i4z i5z i6z i7z hm => ih (n - 1) (show n - 1 < n from by omega) x2z x3z m1z m2z sz Jz Kz i0z i1z i2z i3z i4z i5z i6z i7z (show _ ≤ ((n - 1 : Nat) : Int) from by omega)) (x2 + 1) x3 a c m2 _ J17 K18 hMd (by assumption) (by assumption) (i3) ((by omega)) ((by rw [show ((x2 + 1)).toInt.toNat = (x2.toInt).toNat + 1 from by omega]; exact pw_leaf i2 i3 (by omega) i5)) (show 0 ≤ (x2 + 1).toInt from by omega) (show 0 ≤ x3.toInt from by omega) (show x3.toInt + 1 ≤ ((n : Nat) : Int) from by omega)
    · have f20 : (100 : Int) ≤ (ps_a s 1163 (Int32.toNatClampNeg x3)).toInt := xle h9
      have r21 := mf_60 J
      have a22 : ((ps_i s 1131 60) - 1).toInt = (ps_i s 1131 60).toInt - (1 : Int) := xIs (show -2147483648 ≤ (ps_i s 1131 60).toInt - (1 : Int) from by omega) (show (ps_i s 1131 60).toInt - (1 : Int) < 2147483648 from by omega)
      have a23 : ((ps_a s 1163 (Int32.toNatClampNeg x3)) - 100).toInt = (ps_a s 1163 (Int32.toNatClampNeg x3)).toInt - (100 : Int) := xIs (show -2147483648 ≤ (ps_a s 1163 (Int32.toNatClampNeg x3)).toInt - (100 : Int) from by omega) (show (ps_a s 1163 (Int32.toNatClampNeg x3)).toInt - (100 : Int) < 2147483648 from by omega)
      have a24 : (((ps_i s 1131 60) - 1) - ((ps_a s 1163 (Int32.toNatClampNeg x3)) - 100)).toInt = ((ps_i s 1131 60) - 1).toInt - ((ps_a s 1163 (Int32.toNatClampNeg x3)) - 100).toInt := xIs (show -2147483648 ≤ ((ps_i s 1131 60) - 1).toInt - ((ps_a s 1163 (Int32.toNatClampNeg x3)) - 100).toInt from by omega) (show ((ps_i s 1131 60) - 1).toInt - ((ps_a s 1163 (Int32.toNatClampNeg x3)) - 100).toInt < 2147483648 from by omega)
      have n25 : 0 ≤ ((x1 >>> ((((ps_i s 1131 60) - 1) - ((ps_a s 1163 (Int32.toNatClampNeg x3)) - 100)) &&& 31)) &&& 1).toInt ∧ ((x1 >>> ((((ps_i s 1131 60) - 1) - ((ps_a s 1163 (Int32.toNatClampNeg x3)) - 100)) &&& 31)) &&& 1).toInt ≤ 1 := xN (x1 >>> ((((ps_i s 1131 60) - 1) - ((ps_a s 1163 (Int32.toNatClampNeg x3)) - 100)) &&& 31)) (c := 1) (n := 1) (by decide) (by decide)
      refine ps_nd_i (show pm_in x2 41 = true from xgi (show 0 ≤ x2.toInt from by omega) (show x2.toInt < 41 from by omega)) ?_
      have J26 := mwa_1166 (i := (Int32.toNatClampNeg x2)) (v := ((x1 >>> ((((ps_i s 1131 60) - 1) - ((ps_a s 1163 (Int32.toNatClampNeg x3)) - 100)) &&& 31)) &&& 1)) J (show 0 ≤ ((x1 >>> ((((ps_i s 1131 60) - 1) - ((ps_a s 1163 (Int32.toNatClampNeg x3)) - 100)) &&& 31)) &&& 1).toInt from by omega) (show ((x1 >>> ((((ps_i s 1131 60) - 1) - ((ps_a s 1163 (Int32.toNatClampNeg x3)) - 100)) &&& 31)) &&& 1).toInt ≤ 1 from by omega)
      have K27 := kpa' K (r := 1166) (i := (Int32.toNatClampNeg x2)) (v := ((x1 >>> ((((ps_i s 1131 60) - 1) - ((ps_a s 1163 (Int32.toNatClampNeg x3)) - 100)) &&& 31)) &&& 1)) rfl
      have a28 : (x2 + 1).toInt = x2.toInt + (1 : Int) := xIa (show -2147483648 ≤ x2.toInt + (1 : Int) from by omega) (show x2.toInt + (1 : Int) < 2147483648 from by omega)
      exact ms_279_138 (x1 := x1) (S := S) k n (fun x2z x3z m1z m2z sz Jz Kz i0z i1z i2z i3z i4z i5z i6z i7z hm => ih (n - 1) (show n - 1 < n from by omega) x2z x3z m1z m2z sz Jz Kz i0z i1z i2z i3z i4z i5z i6z i7z (show _ ≤ ((n - 1 : Nat) : Int) from by omega)) (x2 + 1) x3 a c m2 _ J26 K27 hMd (by assumption) (by assumption) (i3) ((by omega)) ((by rw [show ((x2 + 1)).toInt.toNat = (x2.toInt).toNat + 1 from by omega]; exact pw_leaf i2 i3 (by omega) i5)) (show 0 ≤ (x2 + 1).toInt from by omega) (show 0 ≤ x3.toInt from by omega) (show x3.toInt + 1 ≤ ((n : Nat) : Int) from by omega)

theorem ms_279 {x : Nat → Nat → Nat} {t : Int32} {s : ps_S} {d : Nat} {x1 : Int32} {f : Int32 → ps_S → Prop} (J : mJ x t s) {S : List Nat} (hMd : Md (ps_a s 1163) (ps_i s 1131 59).toInt S) (q1 : S.length ≤ 40) (q2 : pw S 1) (k : ∀ (v : Int32) (s' : ps_S), mJ x t s' → kp [1166] [] s s' → v &&& 1 = v → f v s') : ps_Cl d 279 [.ref 1131, .int x1] s (ps_rI f) := by
  have K : kp [1166] [] s s := kp_refl
  refine pg_279_0 ?_
  have h59 : (ps_i s 1131 59).toInt = (S.length : Int) := hMd.1
  have r1 := mf_59 J
  have a2 : ((ps_i s 1131 59) - 1).toInt = (ps_i s 1131 59).toInt - (1 : Int) := xIs (show -2147483648 ≤ (ps_i s 1131 59).toInt - (1 : Int) from by omega) (show (ps_i s 1131 59).toInt - (1 : Int) < 2147483648 from by omega)
  exact ms_279_9 (x1 := x1) (S := S) k  (((ps_i s 1131 59) - 1).toInt + 1).toNat (0) ((ps_i s 1131 59) - 1) S [] _ J K hMd (by assumption) (by assumption) ((List.append_nil S).symm) ((by omega)) (rfl) (show 0 ≤ (0 : Int) from by omega) (show -1 ≤ ((ps_i s 1131 59) - 1).toInt from by omega) (show ((ps_i s 1131 59) - 1).toInt + 1 ≤ (((((ps_i s 1131 59) - 1).toInt + 1).toNat : Nat) : Int) from by omega)

-- ProofBenchModel.letters()I
theorem pg_280_0 {d : Nat} {s : ps_S} {Q : Option Value → ps_S → Prop} (h :
  ps_Cl d 219 [.ref 1131, .int 25748] s (ps_rI (fun v1 s1 =>
    (v1 ≠ 0 →
      ps_Cl d 277 [.ref 1131] s1 (ps_rV (fun s2 =>
        Q (some (.int (ps_i s2 1131 60))) s2))) ∧
    (v1 = 0 →
      Q (some (.int (-1))) s1)))) : ps_At (d + 1) 280 0 [(0, .ref 1131)] [] s Q :=
  ps_wp_at (stops := []) (n := 13) h rfl

theorem ms_280 {x : Nat → Nat → Nat} {t : Int32} {s : ps_S} {d : Nat} {f : Int32 → ps_S → Prop} (J : mJ x t s) {σ : mSig} (hMI : MI σ (ps_a s 1134) (ps_a s 1135) (ps_a s 1136) (ps_a s 1137) (ps_a s 1138) (ps_a s 1139) (ps_a s 1157) (ps_a s 1176) (ps_i s 1131 21).toInt (ps_i s 1131 47).toInt (ps_i s 1131 54).toInt) (k : ∀ (v : Int32) (s' : ps_S), mJ x t s' → kp [1163, 1164, 1165] [59, 60] s s' → f v s') : ps_Cl (d + 4) 280 [.ref 1131] s (ps_rI f) := by
  have K : kp [1163, 1164, 1165] [59, 60] s s := kp_refl
  refine pg_280_0 (d := d + 3) ?_
  refine pg_219_0 ?_
  refine ps_nd_i (show pm_in (25748 : Int32) 27400 = true from xgi (show 0 ≤ (25748 : Int) from by omega) (show (25748 : Int) < 27400 from by omega)) ?_
  have r1 : (25748 : Int) % 41 = 0 → (25748 : Int) < 27306 → 0 ≤ (ps_a s 1134 (Int32.toNatClampNeg (25748 : Int32))).toInt ∧ (ps_a s 1134 (Int32.toNatClampNeg (25748 : Int32))).toInt ≤ 40 := fun z1 z2 => mp_row (i := (25748 : Int32)) J z1 (show 0 ≤ (25748 : Int) from by omega) z2
  refine And.intro (fun h2 => ?_) (fun h2 => ?_)
  · have f3 : (ps_a s 1134 (Int32.toNatClampNeg (25748 : Int32))).toInt ≠ (0 : Int) := xne h2
    obtain ⟨l, hl1, hl2⟩ := hMI.2.2.2.2.1.resolve_left (fun z => absurd z (show ¬ ((ps_a s 1134 (Int32.toNatClampNeg (25748 : Int32))).toInt = 0) from by omega))
    have hS := MI_S hMI
    have hR : Rw (ps_a s 1134) (25748 : Int32).toInt l := by rw [show (25748 : Int32).toInt = 25748 from by decide]; exact hl1
    refine ms_277 J (hS) (hR) ((wf_ws hl2)) (fun s4 J4 K4 p4_0 => ?_)
    have K5 := kpt K K4 rfl rfl
    have hMI : MI σ (ps_a s4 1134) (ps_a s4 1135) (ps_a s4 1136) (ps_a s4 1137) (ps_a s4 1138) (ps_a s4 1139) (ps_a s4 1157) (ps_a s4 1176) (ps_i s4 1131 21).toInt (ps_i s4 1131 47).toInt (ps_i s4 1131 54).toInt := by rw [show ps_a s4 1134 = ps_a s 1134 from (K4.2 1134 rfl).1, show ps_a s4 1135 = ps_a s 1135 from (K4.2 1135 rfl).1, show ps_a s4 1136 = ps_a s 1136 from (K4.2 1136 rfl).1, show ps_a s4 1137 = ps_a s 1137 from (K4.2 1137 rfl).1, show ps_a s4 1138 = ps_a s 1138 from (K4.2 1138 rfl).1, show ps_a s4 1139 = ps_a s 1139 from (K4.2 1139 rfl).1, show ps_a s4 1157 = ps_a s 1157 from (K4.2 1157 rfl).1, show ps_a s4 1176 = ps_a s 1176 from (K4.2 1176 rfl).1, show ps_i s4 1131 21 = ps_i s 1131 21 from kp_i K4 21 rfl, show ps_i s4 1131 47 = ps_i s 1131 47 from kp_i K4 47 rfl, show ps_i s4 1131 54 = ps_i s 1131 54 from kp_i K4 54 rfl]; exact hMI
    have hSg : ∃ S : List Nat, Md (ps_a s4 1163) (ps_i s4 1131 59).toInt S ∧ S.length ≤ 40 ∧ pw S 1 := p4_0
    have r6 := mf_60 J4
    exact k (ps_i s4 1131 60) _ J4 K5
  · have f7 : (ps_a s 1134 (Int32.toNatClampNeg (25748 : Int32))).toInt = (0 : Int) := xeq h2
    exact k (-1 : Int32) _ J K

-- ProofBenchModel.table()I
theorem pg_281_0 {d : Nat} {s : ps_S} {Q : Option Value → ps_S → Prop} (h :
  ps_Cl d 219 [.ref 1131, .int 25748] s (ps_rI (fun v1 s1 =>
    (v1 ≠ 0 →
      ps_Cl d 277 [.ref 1131] s1 (ps_rV (fun s2 =>
        ((ps_i s2 1131 60) ≤ 12 →
          ps_At (d + 1) 281 32 [(0, .ref 1131), (1, .int 0), (2, .int 0)] [] s2 Q) ∧
        (12 < (ps_i s2 1131 60) →
          Q (some (.int (-2))) s2)))) ∧
    (v1 = 0 →
      Q (some (.int (-1))) s1)))) : ps_At (d + 1) 281 0 [(0, .ref 1131)] [] s Q :=
  ps_wp_at (stops := [(32, [0, 1, 2])]) (n := 20) h rfl

theorem pg_281_32 {d : Nat} {x1 : Int32} {x2 : Int32} {s : ps_S} {Q : Option Value → ps_S → Prop} (h :
  (((1 : Int32) <<< ((ps_i s 1131 60) &&& 31)) ≤ x2 →
    Q (some (.int x1)) s) ∧
  (x2 < ((1 : Int32) <<< ((ps_i s 1131 60) &&& 31)) →
    ps_Cl d 279 [.ref 1131, .int x2] s (ps_rI (fun v1 s1 =>
      (v1 = 0 →
        ps_At (d + 1) 281 32 [(0, .ref 1131), (1, .int (x1 + 0)), (2, .int (x2 + 1))] [] s1 Q) ∧
      (v1 ≠ 0 →
        ps_At (d + 1) 281 32 [(0, .ref 1131), (1, .int (x1 + 1)), (2, .int (x2 + 1))] [] s1 Q))))) : ps_At (d + 1) 281 32 [(0, .ref 1131), (1, .int x1), (2, .int x2)] [] s Q :=
  ps_wp_at (stops := [(32, [0, 1, 2])]) (n := 26) h rfl

theorem ms_281_32 {x : Nat → Nat → Nat} {t : Int32} {d : Nat} {s0 : ps_S} {σ : mSig} {Q : Option Value → ps_S → Prop} (k : ∀ (v : Int32) (s' : ps_S), mJ x t s' → kp [1163, 1164, 1165, 1166] [59, 60] s0 s' → Q (some (.int v)) s') : ∀ (n : Nat) (x1 : Int32) (x2 : Int32) (bd : Int32) (s : ps_S), (mJ x t s) → (kp [1163, 1164, 1165, 1166] [59, 60] s0 s) → (∃ S : List Nat, Md (ps_a s 1163) (ps_i s 1131 59).toInt S ∧ S.length ≤ 40 ∧ pw S 1) → (((1 : Int32) <<< ((ps_i s 1131 60) &&& 31)) = bd) → (0 ≤ x2.toInt) → (0 ≤ x1.toInt) → (x1.toInt ≤ x2.toInt) → bd.toInt - x2.toInt ≤ (n : Int) → ps_At (d + 4) 281 32 [(0, .ref 1131), (1, .int x1), (2, .int x2)] [] s Q := by
  refine xstr (fun n ih => ?_)
  intro x1 x2 bd s J K hSg hbd i2 i3 i4 hm
  refine pg_281_32 (d := d + 3) ?_
  have r1 := mf_60 J
  have hb : ((1 : Int32) <<< ((ps_i s 1131 60) &&& 31)).toInt = bd.toInt := congrArg Int32.toInt hbd
  have hbr := Int32.toInt_lt bd
  refine And.intro (fun h2 => ?_) (fun h2 => ?_)
  · have f3 : ((1 : Int32) <<< ((ps_i s 1131 60) &&& 31)).toInt ≤ x2.toInt := xle h2
    exact k x1 _ J K
  · have f4 : x2.toInt < ((1 : Int32) <<< ((ps_i s 1131 60) &&& 31)).toInt := xlt h2
    obtain ⟨S, hS1, hS2, hS3⟩ := id hSg
    refine ms_279 J (hS1) (hS2) (hS3) (fun v5 s5 J5 K5 b5 => ?_)
    have K6 := kpt K K5 rfl rfl
    have hSg : ∃ S : List Nat, Md (ps_a s5 1163) (ps_i s5 1131 59).toInt S ∧ S.length ≤ 40 ∧ pw S 1 := by rw [show ps_a s5 1163 = ps_a s 1163 from (K5.2 1163 rfl).1, show ps_i s5 1131 59 = ps_i s 1131 59 from kp_i K5 59 rfl]; exact hSg
    have hbd : ((1 : Int32) <<< ((ps_i s5 1131 60) &&& 31)) = bd := by rw [show ps_i s5 1131 60 = ps_i s 1131 60 from kp_i K5 60 rfl]; exact hbd
    refine And.intro (fun h7 => ?_) (fun h7 => ?_)
    · have f8 : v5.toInt = (0 : Int) := xeq h7
      have a9 : (x1 + 0).toInt = x1.toInt + (0 : Int) := xIa (show -2147483648 ≤ x1.toInt + (0 : Int) from by omega) (show x1.toInt + (0 : Int) < 2147483648 from by omega)
      have a10 : (x2 + 1).toInt = x2.toInt + (1 : Int) := xIa (show -2147483648 ≤ x2.toInt + (1 : Int) from by omega) (show x2.toInt + (1 : Int) < 2147483648 from by omega)
      exact ih (n - 1) (show n - 1 < n from by omega) (x1 + 0) (x2 + 1) bd _ J5 K6 hSg hbd (show 0 ≤ (x2 + 1).toInt from by omega) (show 0 ≤ (x1 + 0).toInt from by omega) (show (x1 + 0).toInt ≤ (x2 + 1).toInt from by omega) (show bd.toInt - (x2 + 1).toInt ≤ ((n - 1 : Nat) : Int) from by omega)
    · have f11 : v5.toInt ≠ (0 : Int) := xne h7
      have a12 : (x1 + 1).toInt = x1.toInt + (1 : Int) := xIa (show -2147483648 ≤ x1.toInt + (1 : Int) from by omega) (show x1.toInt + (1 : Int) < 2147483648 from by omega)
      have a13 : (x2 + 1).toInt = x2.toInt + (1 : Int) := xIa (show -2147483648 ≤ x2.toInt + (1 : Int) from by omega) (show x2.toInt + (1 : Int) < 2147483648 from by omega)
      exact ih (n - 1) (show n - 1 < n from by omega) (x1 + 1) (x2 + 1) bd _ J5 K6 hSg hbd (show 0 ≤ (x2 + 1).toInt from by omega) (show 0 ≤ (x1 + 1).toInt from by omega) (show (x1 + 1).toInt ≤ (x2 + 1).toInt from by omega) (show bd.toInt - (x2 + 1).toInt ≤ ((n - 1 : Nat) : Int) from by omega)

theorem ms_281 {x : Nat → Nat → Nat} {t : Int32} {s : ps_S} {d : Nat} {f : Int32 → ps_S → Prop} (J : mJ x t s) {σ : mSig} (hMI : MI σ (ps_a s 1134) (ps_a s 1135) (ps_a s 1136) (ps_a s 1137) (ps_a s 1138) (ps_a s 1139) (ps_a s 1157) (ps_a s 1176) (ps_i s 1131 21).toInt (ps_i s 1131 47).toInt (ps_i s 1131 54).toInt) (k : ∀ (v : Int32) (s' : ps_S), mJ x t s' → kp [1163, 1164, 1165, 1166] [59, 60] s s' → f v s') : ps_Cl (d + 4) 281 [.ref 1131] s (ps_rI f) := by
  have K : kp [1163, 1164, 1165, 1166] [59, 60] s s := kp_refl
  refine pg_281_0 (d := d + 3) ?_
  refine pg_219_0 ?_
  refine ps_nd_i (show pm_in (25748 : Int32) 27400 = true from xgi (show 0 ≤ (25748 : Int) from by omega) (show (25748 : Int) < 27400 from by omega)) ?_
  have r1 : (25748 : Int) % 41 = 0 → (25748 : Int) < 27306 → 0 ≤ (ps_a s 1134 (Int32.toNatClampNeg (25748 : Int32))).toInt ∧ (ps_a s 1134 (Int32.toNatClampNeg (25748 : Int32))).toInt ≤ 40 := fun z1 z2 => mp_row (i := (25748 : Int32)) J z1 (show 0 ≤ (25748 : Int) from by omega) z2
  refine And.intro (fun h2 => ?_) (fun h2 => ?_)
  · have f3 : (ps_a s 1134 (Int32.toNatClampNeg (25748 : Int32))).toInt ≠ (0 : Int) := xne h2
    obtain ⟨l, hl1, hl2⟩ := hMI.2.2.2.2.1.resolve_left (fun z => absurd z (show ¬ ((ps_a s 1134 (Int32.toNatClampNeg (25748 : Int32))).toInt = 0) from by omega))
    have hS := MI_S hMI
    have hR : Rw (ps_a s 1134) (25748 : Int32).toInt l := by rw [show (25748 : Int32).toInt = 25748 from by decide]; exact hl1
    refine ms_277 J (hS) (hR) ((wf_ws hl2)) (fun s4 J4 K4 p4_0 => ?_)
    have K5 := kpt K K4 rfl rfl
    have hMI : MI σ (ps_a s4 1134) (ps_a s4 1135) (ps_a s4 1136) (ps_a s4 1137) (ps_a s4 1138) (ps_a s4 1139) (ps_a s4 1157) (ps_a s4 1176) (ps_i s4 1131 21).toInt (ps_i s4 1131 47).toInt (ps_i s4 1131 54).toInt := by rw [show ps_a s4 1134 = ps_a s 1134 from (K4.2 1134 rfl).1, show ps_a s4 1135 = ps_a s 1135 from (K4.2 1135 rfl).1, show ps_a s4 1136 = ps_a s 1136 from (K4.2 1136 rfl).1, show ps_a s4 1137 = ps_a s 1137 from (K4.2 1137 rfl).1, show ps_a s4 1138 = ps_a s 1138 from (K4.2 1138 rfl).1, show ps_a s4 1139 = ps_a s 1139 from (K4.2 1139 rfl).1, show ps_a s4 1157 = ps_a s 1157 from (K4.2 1157 rfl).1, show ps_a s4 1176 = ps_a s 1176 from (K4.2 1176 rfl).1, show ps_i s4 1131 21 = ps_i s 1131 21 from kp_i K4 21 rfl, show ps_i s4 1131 47 = ps_i s 1131 47 from kp_i K4 47 rfl, show ps_i s4 1131 54 = ps_i s 1131 54 from kp_i K4 54 rfl]; exact hMI
    have hSg : ∃ S : List Nat, Md (ps_a s4 1163) (ps_i s4 1131 59).toInt S ∧ S.length ≤ 40 ∧ pw S 1 := p4_0
    have r6 := mf_60 J4
    refine And.intro (fun h7 => ?_) (fun h7 => ?_)
    · have f8 : (ps_i s4 1131 60).toInt ≤ (12 : Int) := xle h7
      exact ms_281_32 (σ := σ) k  (((1 : Int32) <<< ((ps_i s4 1131 60) &&& 31)).toInt - (0 : Int)).toNat (0) (0) ((1 : Int32) <<< ((ps_i s4 1131 60) &&& 31)) _ J4 K5 hSg (rfl) (show 0 ≤ (0 : Int) from by omega) (show 0 ≤ (0 : Int) from by omega) (show (0 : Int) ≤ (0 : Int) from by omega) (show ((1 : Int32) <<< ((ps_i s4 1131 60) &&& 31)).toInt - (0 : Int) ≤ (((((1 : Int32) <<< ((ps_i s4 1131 60) &&& 31)).toInt - (0 : Int)).toNat : Nat) : Int) from by omega)
    · have f9 : (12 : Int) < (ps_i s4 1131 60).toInt := xlt h7
      exact k (-2 : Int32) _ J4 K5
  · have f10 : (ps_a s 1134 (Int32.toNatClampNeg (25748 : Int32))).toInt = (0 : Int) := xeq h2
    exact k (-1 : Int32) _ J K

-- ProofBenchModel.row()I
theorem pg_282_0 {d : Nat} {s : ps_S} {Q : Option Value → ps_S → Prop} (h :
  ps_Cl d 219 [.ref 1131, .int 25748] s (ps_rI (fun v1 s1 =>
    (v1 ≠ 0 →
      ps_Cl d 277 [.ref 1131] s1 (ps_rV (fun s2 =>
        ((ps_i s2 1131 60) ≤ 12 →
          ps_At (d + 1) 282 30 [(0, .ref 1131), (1, .int 0)] [] s2 Q) ∧
        (12 < (ps_i s2 1131 60) →
          Q (some (.int (-2))) s2)))) ∧
    (v1 = 0 →
      Q (some (.int (-1))) s1)))) : ps_At (d + 1) 282 0 [(0, .ref 1131)] [] s Q :=
  ps_wp_at (stops := [(30, [0, 1])]) (n := 18) h rfl

theorem pg_282_30 {d : Nat} {x1 : Int32} {s : ps_S} {Q : Option Value → ps_S → Prop} (h :
  (((1 : Int32) <<< ((ps_i s 1131 60) &&& 31)) ≤ x1 →
    Q (some (.int (-1))) s) ∧
  (x1 < ((1 : Int32) <<< ((ps_i s 1131 60) &&& 31)) →
    ps_Cl d 279 [.ref 1131, .int x1] s (ps_rI (fun v1 s1 =>
      (v1 ≠ 0 →
        ps_At (d + 1) 282 30 [(0, .ref 1131), (1, .int (x1 + 1))] [] s1 Q) ∧
      (v1 = 0 →
        Q (some (.int x1)) s1))))) : ps_At (d + 1) 282 30 [(0, .ref 1131), (1, .int x1)] [] s Q :=
  ps_wp_at (stops := [(30, [0, 1])]) (n := 18) h rfl

theorem ms_282_30 {x : Nat → Nat → Nat} {t : Int32} {d : Nat} {s0 : ps_S} {σ : mSig} {Q : Option Value → ps_S → Prop} (k : ∀ (v : Int32) (s' : ps_S), mJ x t s' → kp [1163, 1164, 1165, 1166] [59, 60] s0 s' → Q (some (.int v)) s') : ∀ (n : Nat) (x1 : Int32) (bd : Int32) (s : ps_S), (mJ x t s) → (kp [1163, 1164, 1165, 1166] [59, 60] s0 s) → (∃ S : List Nat, Md (ps_a s 1163) (ps_i s 1131 59).toInt S ∧ S.length ≤ 40 ∧ pw S 1) → (((1 : Int32) <<< ((ps_i s 1131 60) &&& 31)) = bd) → (0 ≤ x1.toInt) → bd.toInt - x1.toInt ≤ (n : Int) → ps_At (d + 4) 282 30 [(0, .ref 1131), (1, .int x1)] [] s Q := by
  refine xstr (fun n ih => ?_)
  intro x1 bd s J K hSg hbd i2 hm
  refine pg_282_30 (d := d + 3) ?_
  have r1 := mf_60 J
  have hb : ((1 : Int32) <<< ((ps_i s 1131 60) &&& 31)).toInt = bd.toInt := congrArg Int32.toInt hbd
  have hbr := Int32.toInt_lt bd
  refine And.intro (fun h2 => ?_) (fun h2 => ?_)
  · have f3 : ((1 : Int32) <<< ((ps_i s 1131 60) &&& 31)).toInt ≤ x1.toInt := xle h2
    exact k (-1 : Int32) _ J K
  · have f4 : x1.toInt < ((1 : Int32) <<< ((ps_i s 1131 60) &&& 31)).toInt := xlt h2
    obtain ⟨S, hS1, hS2, hS3⟩ := id hSg
    refine ms_279 J (hS1) (hS2) (hS3) (fun v5 s5 J5 K5 b5 => ?_)
    have K6 := kpt K K5 rfl rfl
    have hSg : ∃ S : List Nat, Md (ps_a s5 1163) (ps_i s5 1131 59).toInt S ∧ S.length ≤ 40 ∧ pw S 1 := by rw [show ps_a s5 1163 = ps_a s 1163 from (K5.2 1163 rfl).1, show ps_i s5 1131 59 = ps_i s 1131 59 from kp_i K5 59 rfl]; exact hSg
    have hbd : ((1 : Int32) <<< ((ps_i s5 1131 60) &&& 31)) = bd := by rw [show ps_i s5 1131 60 = ps_i s 1131 60 from kp_i K5 60 rfl]; exact hbd
    refine And.intro (fun h7 => ?_) (fun h7 => ?_)
    · have f8 : v5.toInt ≠ (0 : Int) := xne h7
      have a9 : (x1 + 1).toInt = x1.toInt + (1 : Int) := xIa (show -2147483648 ≤ x1.toInt + (1 : Int) from by omega) (show x1.toInt + (1 : Int) < 2147483648 from by omega)
      exact ih (n - 1) (show n - 1 < n from by omega) (x1 + 1) bd _ J5 K6 hSg hbd (show 0 ≤ (x1 + 1).toInt from by omega) (show bd.toInt - (x1 + 1).toInt ≤ ((n - 1 : Nat) : Int) from by omega)
    · have f10 : v5.toInt = (0 : Int) := xeq h7
      exact k x1 _ J5 K6

theorem ms_282 {x : Nat → Nat → Nat} {t : Int32} {s : ps_S} {d : Nat} {f : Int32 → ps_S → Prop} (J : mJ x t s) {σ : mSig} (hMI : MI σ (ps_a s 1134) (ps_a s 1135) (ps_a s 1136) (ps_a s 1137) (ps_a s 1138) (ps_a s 1139) (ps_a s 1157) (ps_a s 1176) (ps_i s 1131 21).toInt (ps_i s 1131 47).toInt (ps_i s 1131 54).toInt) (k : ∀ (v : Int32) (s' : ps_S), mJ x t s' → kp [1163, 1164, 1165, 1166] [59, 60] s s' → f v s') : ps_Cl (d + 4) 282 [.ref 1131] s (ps_rI f) := by
  have K : kp [1163, 1164, 1165, 1166] [59, 60] s s := kp_refl
  refine pg_282_0 (d := d + 3) ?_
  refine pg_219_0 ?_
  refine ps_nd_i (show pm_in (25748 : Int32) 27400 = true from xgi (show 0 ≤ (25748 : Int) from by omega) (show (25748 : Int) < 27400 from by omega)) ?_
  have r1 : (25748 : Int) % 41 = 0 → (25748 : Int) < 27306 → 0 ≤ (ps_a s 1134 (Int32.toNatClampNeg (25748 : Int32))).toInt ∧ (ps_a s 1134 (Int32.toNatClampNeg (25748 : Int32))).toInt ≤ 40 := fun z1 z2 => mp_row (i := (25748 : Int32)) J z1 (show 0 ≤ (25748 : Int) from by omega) z2
  refine And.intro (fun h2 => ?_) (fun h2 => ?_)
  · have f3 : (ps_a s 1134 (Int32.toNatClampNeg (25748 : Int32))).toInt ≠ (0 : Int) := xne h2
    obtain ⟨l, hl1, hl2⟩ := hMI.2.2.2.2.1.resolve_left (fun z => absurd z (show ¬ ((ps_a s 1134 (Int32.toNatClampNeg (25748 : Int32))).toInt = 0) from by omega))
    have hS := MI_S hMI
    have hR : Rw (ps_a s 1134) (25748 : Int32).toInt l := by rw [show (25748 : Int32).toInt = 25748 from by decide]; exact hl1
    refine ms_277 J (hS) (hR) ((wf_ws hl2)) (fun s4 J4 K4 p4_0 => ?_)
    have K5 := kpt K K4 rfl rfl
    have hMI : MI σ (ps_a s4 1134) (ps_a s4 1135) (ps_a s4 1136) (ps_a s4 1137) (ps_a s4 1138) (ps_a s4 1139) (ps_a s4 1157) (ps_a s4 1176) (ps_i s4 1131 21).toInt (ps_i s4 1131 47).toInt (ps_i s4 1131 54).toInt := by rw [show ps_a s4 1134 = ps_a s 1134 from (K4.2 1134 rfl).1, show ps_a s4 1135 = ps_a s 1135 from (K4.2 1135 rfl).1, show ps_a s4 1136 = ps_a s 1136 from (K4.2 1136 rfl).1, show ps_a s4 1137 = ps_a s 1137 from (K4.2 1137 rfl).1, show ps_a s4 1138 = ps_a s 1138 from (K4.2 1138 rfl).1, show ps_a s4 1139 = ps_a s 1139 from (K4.2 1139 rfl).1, show ps_a s4 1157 = ps_a s 1157 from (K4.2 1157 rfl).1, show ps_a s4 1176 = ps_a s 1176 from (K4.2 1176 rfl).1, show ps_i s4 1131 21 = ps_i s 1131 21 from kp_i K4 21 rfl, show ps_i s4 1131 47 = ps_i s 1131 47 from kp_i K4 47 rfl, show ps_i s4 1131 54 = ps_i s 1131 54 from kp_i K4 54 rfl]; exact hMI
    have hSg : ∃ S : List Nat, Md (ps_a s4 1163) (ps_i s4 1131 59).toInt S ∧ S.length ≤ 40 ∧ pw S 1 := p4_0
    have r6 := mf_60 J4
    refine And.intro (fun h7 => ?_) (fun h7 => ?_)
    · have f8 : (ps_i s4 1131 60).toInt ≤ (12 : Int) := xle h7
      exact ms_282_30 (σ := σ) k  (((1 : Int32) <<< ((ps_i s4 1131 60) &&& 31)).toInt - (0 : Int)).toNat (0) ((1 : Int32) <<< ((ps_i s4 1131 60) &&& 31)) _ J4 K5 hSg (rfl) (show 0 ≤ (0 : Int) from by omega) (show ((1 : Int32) <<< ((ps_i s4 1131 60) &&& 31)).toInt - (0 : Int) ≤ (((((1 : Int32) <<< ((ps_i s4 1131 60) &&& 31)).toInt - (0 : Int)).toNat : Nat) : Int) from by omega)
    · have f9 : (12 : Int) < (ps_i s4 1131 60).toInt := xlt h7
      exact k (-2 : Int32) _ J4 K5
  · have f10 : (ps_a s 1134 (Int32.toNatClampNeg (25748 : Int32))).toInt = (0 : Int) := xeq h2
    exact k (-1 : Int32) _ J K
end
section
/-! equations as rules -/
/-- the left side stands at a, the right side at b, its names stand in the left one -/
def RL (σ : mSig) (l l0 p q : List Nat) (a b : Int) : Prop := l = l0 ++ 6 :: (p ++ q) ∧ a = (l0.length : Int) + 1 ∧ b = (l0.length : Int) + 1 + (p.length : Int) ∧ ws σ p [false] ∧ ws σ q [false] ∧ ∀ x, x ∈ q → 40 ≤ x → x ∈ p
theorem ws_4 {σ : mSig} {l : List Nat} (h : ws σ (4 :: l) [true]) : ws σ l [true] := by
  obtain ⟨ks, hk, hw⟩ := ws_hd h
  rw [kS_f1 (Or.inl rfl)] at hk
  cases hk
  exact hw
theorem ws_6 {σ : mSig} {l : List Nat} (h : ws σ (6 :: l) [true]) : ∃ p q, l = p ++ q ∧ ws σ p [false] ∧ ws σ q [false] := by
  obtain ⟨ks, hk, hw⟩ := ws_hd h
  cases hk
  exact ws_split (W1 := [false]) (W2 := [false]) hw
theorem memsnoc {q1 : List Nat} {c : Nat} {P : Nat → Prop} (h : ∀ x, x ∈ q1 → P x) (hc : P c) : ∀ x, x ∈ q1 ++ [c] → P x := fun x hx => (List.mem_append.mp hx).elim (h x) (fun z => by rw [List.mem_singleton] at z; rw [z]; exact hc)
/-- what stands around a term in a term -/
theorem ws_ctx {σ : mSig} : ∀ {n1 n2 : List Nat} {W : List Bool}, (∀ b, b ∈ W → b = false) → ws σ (n1 ++ n2) W → ∃ W', (∀ b, b ∈ W' → b = false) ∧ ws σ n2 W' ∧ ∀ m, ws σ m W' → ws σ (n1 ++ m) W
  | [], n2, W, hW, h => ⟨W, hW, h, fun m hm => hm⟩
  | p :: n1, n2, W, hW, h => by
    obtain ⟨b, W', ks, rfl, hk, hw⟩ := ws_cons.mp (show ws σ (p :: (n1 ++ n2)) W from h)
    have hb : b = false := hW b List.mem_cons_self
    subst hb
    have hks : ∀ b, b ∈ ks → b = false := by
      rcases kS_cases hk with ⟨h1, -, -⟩ | ⟨h1, -, -⟩ | ⟨h1, -, -⟩ | ⟨h1, -, -⟩ | ⟨h1, -, -⟩ | ⟨-, -, -, rfl⟩ | ⟨-, -, -, rfl⟩
      · cases h1
      · cases h1
      · cases h1
      · cases h1
      · cases h1
      · exact fun b hb => (List.mem_replicate.mp hb).2
      · exact fun b hb => by cases hb
    obtain ⟨W2, h1, h2, h3⟩ := ws_ctx (n1 := n1) (n2 := n2) (W := ks ++ W') (fun b hb => (List.mem_append.mp hb).elim (hks b) (fun z => hW b (List.mem_cons_of_mem _ z))) hw
    exact ⟨W2, h1, h2, fun m hm => ws_c hk (h3 m hm)⟩
theorem ws_at {σ : mSig} {n1 n2 : List Nat} (h : ws σ (n1 ++ n2) [false]) (hn : 0 < (n2.length : Int)) : ∃ W0, ws σ n2 (false :: W0) ∧ ∀ m, ws σ m (false :: W0) → ws σ (n1 ++ m) [false] := by
  obtain ⟨W, h1, h2, h3⟩ := ws_ctx (fun b hb => by rw [List.mem_singleton] at hb; exact hb) h
  obtain ⟨c, n4, rfl⟩ := lpos hn
  obtain ⟨b, W', rfl⟩ := ws_W h2
  have : b = false := h1 b List.mem_cons_self
  subst this
  exact ⟨W', h2, h3⟩
theorem lsplit {α : Type} {l : List α} {i : Int} (h0 : 0 ≤ i) (h : i ≤ l.length) : ∃ a b, l = a ++ b ∧ i = (a.length : Int) := ⟨l.take i.toNat, l.drop i.toNat, (List.take_append_drop i.toNat l).symm, by rw [List.length_take]; omega⟩
theorem kS_x {σ : mSig} {b : Bool} {c : Nat} {ks : List Bool} (hσ : σ.1.1 ≤ 6 ∧ σ.1.2 ≤ 4) (h : kS σ b c = some ks) (hc : 40 ≤ c) : b = false ∧ ks = [] := by
  rcases kS_cases h with ⟨rfl, hp, rfl⟩ | ⟨rfl, hp, hp', rfl⟩ | ⟨rfl, hp, rfl⟩ | ⟨rfl, hp, rfl⟩ | ⟨rfl, hp, hp', rfl⟩ | ⟨rfl, hp, hp', rfl⟩ | ⟨rfl, hp, hp', rfl⟩
  · omega
  · omega
  · omega
  · omega
  · omega
  · omega
  · exact ⟨rfl, rfl⟩
/-- name b stands for a term of nl -/
def BS (σ : mSig) (nl : List Nat) (f t : Int) : Prop := ∃ a m d, nl = a ++ (m ++ d) ∧ f = (a.length : Int) ∧ t = (a.length : Int) + (m.length : Int) ∧ ws σ m [false]
def BA (σ : mSig) (nl : List Nat) (gf gt : Nat → Int32) : Prop := ∀ b : Nat, b < 20 → 0 ≤ (gf b).toInt → BS σ nl (gf b).toInt (gt b).toInt
theorem BA_0 {σ : mSig} {nl : List Nat} {gf gt : Nat → Int32} (h : ∀ i : Nat, i < 20 → (gf i).toInt = -1) : BA σ nl gf gt := fun b hb h0 => by have := h b hb; omega
theorem BA_put {σ : mSig} {nl : List Nat} {gf gt gf' gt' : Nat → Int32} {i : Nat} (h : BA σ nl gf gt) (hf : ∀ j, j ≠ i → gf' j = gf j) (ht : ∀ j, j ≠ i → gt' j = gt j) (hi : BS σ nl (gf' i).toInt (gt' i).toInt) : BA σ nl gf' gt' := fun b hb h0 => by
  by_cases e : b = i
  · rw [e]; exact hi
  · rw [hf b e] at h0 ⊢
    rw [ht b e]
    exact h b hb h0
/-- names of p1 are bound -/
def BB (gf : Nat → Int32) (p1 : List Nat) : Prop := ∀ x, x ∈ p1 → 40 ≤ x → 0 ≤ (gf (x - 40)).toInt
theorem BB_snoc {gf gf' : Nat → Int32} {p1 : List Nat} {c : Nat} (h : BB gf p1) (hg : ∀ j, 0 ≤ (gf j).toInt → 0 ≤ (gf' j).toInt) (hc : 40 ≤ c → 0 ≤ (gf' (c - 40)).toInt) : BB gf' (p1 ++ [c]) := memsnoc (P := fun x => 40 ≤ x → 0 ≤ (gf' (x - 40)).toInt) (fun x hx h4 => hg _ (h x hx h4)) hc
theorem MI_ax {σ : mSig} {g g5 g6 g7 g8 g9 ga gx : Nat → Int32} {b st th : Int} {k : Int32} {a : Int} (h : MI σ g g5 g6 g7 g8 g9 ga gx b st th) (h0 : 0 ≤ k.toInt) (hk : k.toInt < (g7 b.toNat).toInt) (h8 : k.toInt < 8) (ha : a = 21812 + 41 * (8 * b + k.toInt)) : FmC σ g a := by
  have := h.2.2.2.1 k.toInt.toNat (by omega) (by omega)
  rw [show ((k.toInt.toNat : Nat) : Int) = k.toInt from by omega] at this
  rw [ha]; exact this
theorem rp_len {σ : mSig} {q m : List Nat} {c : Nat} (h : (m.length : Int) ≤ 40 * (q.length : Int)) {r : List Nat} (hr : (r.length : Int) ≤ 40) : (((m ++ r).length : Nat) : Int) ≤ 40 * ((q ++ [c]).length : Int) := by
  rw [llen, l1c]
  omega
theorem memS {q1 p : List Nat} {c : Nat} (h : ∀ x, x ∈ q1 → 40 ≤ x → x ∈ p) (hc : c < 40 ∨ c ∈ p) : ∀ x, x ∈ q1 ++ [c] → 40 ≤ x → x ∈ p := fun x hx h4 => (List.mem_append.mp hx).elim (fun z => h x z h4) (fun z => by
  rw [List.mem_singleton] at z
  subst z
  rcases hc with q | q
  · omega
  · exact q)
theorem memD {p p1 p3 : List Nat} {c d : Nat} (h : p = p1 ++ d :: p3) (e : (c : Int) = d) : c ∈ p := by
  have : c = d := by omega
  rw [this, h]
  simp
theorem ws_4e {σ : mSig} {c : Nat} {l : List Nat} (e : (c : Int) = 4) (h : ws σ (c :: l) [true]) : ws σ l [true] := by
  have : c = 4 := by omega
  subst this
  exact ws_4 h
end
section
set_option maxRecDepth 100000
-- ProofBenchModel.isRule(I)Z
theorem pg_284_0 {d : Nat} {x1 : Int32} {s : ps_S} {Q : Option Value → ps_S → Prop} (h :
  ps_Cl d 283 [.int (ps_i s 1131 21), .int x1] s (ps_rI (fun v1 s1 =>
    ps_At (d + 1) 284 11 [(0, .ref 1131), (2, .int v1), (3, .int 0)] [] s1 Q))) : ps_At (d + 1) 284 0 [(0, .ref 1131), (1, .int x1)] [] s Q :=
  ps_wp_at (stops := [(11, [0, 2, 3]), (91, [0, 2, 4]), (126, [0, 2, 4, 5, 6]), (170, [0, 2, 4, 5])]) (n := 9) h rfl

theorem pg_284_11 {d : Nat} {x2 : Int32} {x3 : Int32} {s : ps_S} {Q : Option Value → ps_S → Prop} (h :
  ps_Cl d 220 [.ref 1131, .int x2, .int x3] s (ps_rI (fun v1 s1 =>
    (v1 ≠ 4 →
      ps_Cl d 220 [.ref 1131, .int x2, .int x3] s1 (ps_rI (fun v2 s2 =>
        (v2 ≠ 6 →
          Q (some (.int 0)) s2) ∧
        (v2 = 6 →
          ps_Cl d 220 [.ref 1131, .int x2, .int (x3 + 1)] s2 (ps_rI (fun v3 s3 =>
            (v3 < 20 →
              Q (some (.int 0)) s3) ∧
            (20 ≤ v3 →
              ps_Cl d 220 [.ref 1131, .int x2, .int (x3 + 1)] s3 (ps_rI (fun v4 s4 =>
                (v4 < 40 →
                  ps_Cl d 221 [.ref 1131, .int x2, .int (x3 + 1)] (ps_ui s4 1131 63 (x3 + 1)) (ps_rI (fun v5 s5 =>
                    ps_At (d + 1) 284 91 [(0, .ref 1131), (2, .int x2), (4, .int (ps_i (ps_ui s5 1131 64 v5) 1131 64))] [] (ps_ui s5 1131 64 v5) Q))) ∧
                (40 ≤ v4 →
                  Q (some (.int 0)) s4)))))))))) ∧
    (v1 = 4 →
      ps_At (d + 1) 284 11 [(0, .ref 1131), (2, .int x2), (3, .int (x3 + 1))] [] s1 Q)))) : ps_At (d + 1) 284 11 [(0, .ref 1131), (2, .int x2), (3, .int x3)] [] s Q :=
  ps_wp_at (stops := [(11, [0, 2, 3]), (91, [0, 2, 4]), (126, [0, 2, 4, 5, 6]), (170, [0, 2, 4, 5])]) (n := 54) h rfl

theorem pg_284_91 {d : Nat} {x2 : Int32} {x4 : Int32} {s : ps_S} {Q : Option Value → ps_S → Prop} (h :
  ps_Cl d 219 [.ref 1131, .int x2] s (ps_rI (fun v1 s1 =>
    (v1 ≤ x4 →
      Q (some (.int 1)) s1) ∧
    (x4 < v1 →
      ps_Cl d 220 [.ref 1131, .int x2, .int x4] s1 (ps_rI (fun v2 s2 =>
        (40 ≤ v2 →
          ps_At (d + 1) 284 126 [(0, .ref 1131), (2, .int x2), (4, .int x4), (5, .int 0), (6, .int (ps_i s2 1131 63))] [] s2 Q) ∧
        (v2 < 40 →
          ps_At (d + 1) 284 126 [(0, .ref 1131), (2, .int x2), (4, .int x4), (5, .int 1), (6, .int (ps_i s2 1131 63))] [] s2 Q))))))) : ps_At (d + 1) 284 91 [(0, .ref 1131), (2, .int x2), (4, .int x4)] [] s Q :=
  ps_wp_at (stops := [(11, [0, 2, 3]), (91, [0, 2, 4]), (126, [0, 2, 4, 5, 6]), (170, [0, 2, 4, 5])]) (n := 26) h rfl

theorem pg_284_126 {d : Nat} {x2 : Int32} {x4 : Int32} {x5 : Int32} {x6 : Int32} {s : ps_S} {Q : Option Value → ps_S → Prop} (h :
  ((ps_i s 1131 64) ≤ x6 →
    ps_At (d + 1) 284 170 [(0, .ref 1131), (2, .int x2), (4, .int x4), (5, .int x5)] [] s Q) ∧
  (x6 < (ps_i s 1131 64) →
    (x5 ≠ 0 →
      ps_At (d + 1) 284 170 [(0, .ref 1131), (2, .int x2), (4, .int x4), (5, .int x5)] [] s Q) ∧
    (x5 = 0 →
      ps_Cl d 220 [.ref 1131, .int x2, .int x6] s (ps_rI (fun v1 s1 =>
        ps_Cl d 220 [.ref 1131, .int x2, .int x4] s1 (ps_rI (fun v2 s2 =>
          (v1 ≠ v2 →
            ps_At (d + 1) 284 126 [(0, .ref 1131), (2, .int x2), (4, .int x4), (5, .int 0), (6, .int (x6 + 1))] [] s2 Q) ∧
          (v1 = v2 →
            ps_At (d + 1) 284 126 [(0, .ref 1131), (2, .int x2), (4, .int x4), (5, .int 1), (6, .int (x6 + 1))] [] s2 Q)))))))) : ps_At (d + 1) 284 126 [(0, .ref 1131), (2, .int x2), (4, .int x4), (5, .int x5), (6, .int x6)] [] s Q :=
  ps_wp_at (stops := [(11, [0, 2, 3]), (91, [0, 2, 4]), (126, [0, 2, 4, 5, 6]), (170, [0, 2, 4, 5])]) (n := 26) h rfl

theorem pg_284_170 {d : Nat} {x2 : Int32} {x4 : Int32} {x5 : Int32} {s : ps_S} {Q : Option Value → ps_S → Prop} (h :
  (x5 ≠ 0 →
    ps_At (d + 1) 284 91 [(0, .ref 1131), (2, .int x2), (4, .int (x4 + 1))] [] s Q) ∧
  (x5 = 0 →
    Q (some (.int 0)) s)) : ps_At (d + 1) 284 170 [(0, .ref 1131), (2, .int x2), (4, .int x4), (5, .int x5)] [] s Q :=
  ps_wp_at (stops := [(11, [0, 2, 3]), (91, [0, 2, 4]), (126, [0, 2, 4, 5, 6]), (170, [0, 2, 4, 5])]) (n := 8) h rfl

theorem ms_284_170 {x : Nat → Nat → Nat} {t : Int32} {d : Nat} {s0 : ps_S} {σ : mSig} {l : List Nat} {x1 : Int32} {Q : Option Value → ps_S → Prop} (k : ∀ (v : Int32) (s' : ps_S), mJ x t s' → kp [] [63, 64] s0 s' → (v.toInt ≠ 0 → ∃ l0 p q, RL σ l l0 p q (ps_i s' 1131 63).toInt (ps_i s' 1131 64).toInt) → v &&& 1 = v → Q (some (.int v)) s') (n91 : Nat) (KH91 : ∀ (x2 : Int32) (x4 : Int32) (l0 : List Nat) (p : List Nat) (q : List Nat) (q1 : List Nat) (q2 : List Nat) (s : ps_S), (mJ x t s) → (kp [] [63, 64] s0 s) → (Rw (ps_a s 1134) x2.toInt l) → (l = l0 ++ 6 :: (p ++ q)) → (q = q1 ++ q2) → (x4.toInt = (l0.length : Int) + 1 + (p.length : Int) + (q1.length : Int)) → ((ps_i s 1131 63).toInt = (l0.length : Int) + 1) → ((ps_i s 1131 64).toInt = (l0.length : Int) + 1 + (p.length : Int)) → (ws σ p [false]) → (ws σ q [false]) → (∀ x, x ∈ q1 → 40 ≤ x → x ∈ p) → ((q2.length : Int) ≤ (n91 : Int) - 1) → ps_At (d + 2) 284 91 [(0, .ref 1131), (2, .int x2), (4, .int x4)] [] s Q) (x2 : Int32) (x4 : Int32) (x5 : Int32) (l0 : List Nat) (p : List Nat) (q : List Nat) (q1 : List Nat) (c : Nat) (q3 : List Nat) (s : ps_S) (J : mJ x t s) (K : kp [] [63, 64] s0 s) (hR : Rw (ps_a s 1134) x2.toInt l) (i1 : l = l0 ++ 6 :: (p ++ q)) (i2 : q = q1 ++ c :: q3) (i3 : x4.toInt = (l0.length : Int) + 1 + (p.length : Int) + (q1.length : Int)) (i4 : (ps_i s 1131 63).toInt = (l0.length : Int) + 1) (i5 : (ps_i s 1131 64).toInt = (l0.length : Int) + 1 + (p.length : Int)) (i6 : ws σ p [false]) (i7 : ws σ q [false]) (i8 : ∀ x, x ∈ q1 → 40 ≤ x → x ∈ p) (i9 : x5.toInt = 0 ∨ (x5.toInt = 1 ∧ (c < 40 ∨ c ∈ p))) (hm91 : (q3.length : Int) + 1 ≤ (n91 : Int)) : ps_At (d + 2) 284 170 [(0, .ref 1131), (2, .int x2), (4, .int x4), (5, .int x5)] [] s Q := by
  refine pg_284_170 (d := d + 1) ?_
  obtain ⟨hr1, hr2, hr3, hr4, hr5, hr6⟩ := id hR
  have hr1 : x2.toInt % 41 = 0 := hr1
  have hr2 : 0 ≤ x2.toInt := hr2
  have hr3 : x2.toInt < 27306 := hr3
  have hr4 : l.length ≤ 40 := hr4
  have hn : (ps_a s 1134 (Int32.toNatClampNeg x2)).toInt = (l.length : Int) := Rw_n hR
  have hl : (l.length : Int) = l0.length + (p.length + q.length + 1) := by rw [i1, llen, llenc, llen]
  have i3 : x4.toInt = (l0.length : Int) + 1 + (p.length : Int) + (q1.length : Int) := i3
  have i4 : (ps_i s 1131 63).toInt = (l0.length : Int) + 1 := i4
  have i5 : (ps_i s 1131 64).toInt = (l0.length : Int) + 1 + (p.length : Int) := i5
  have hq : (q.length : Int) = q1.length + (q3.length + 1) := by rw [i2, llen, llenc]
  refine And.intro (fun h1 => ?_) (fun h1 => ?_)
  · have f2 : x5.toInt ≠ (0 : Int) := xne h1
    have a3 : (x4 + 1).toInt = x4.toInt + (1 : Int) := xIa (show -2147483648 ≤ x4.toInt + (1 : Int) from by omega) (show x4.toInt + (1 : Int) < 2147483648 from by omega)
    exact KH91 x2 (x4 + 1) l0 p q (q1 ++ [c]) q3 _ J K hR (by assumption) (i2.trans (lcat q1 c q3)) ((show ((x4 + 1)).toInt = (l0.length : Int) + 1 + (p.length : Int) + ((q1 ++ [c]).length : Int) from by rw [l1c]; omega)) (by assumption) (by assumption) (by assumption) (by assumption) (memS i8 (i9.elim (fun z => absurd z (by omega)) (fun z => z.2))) (show (q3.length : Int) ≤ (n91 : Int) - 1 from by omega)
  · have f4 : x5.toInt = (0 : Int) := xeq h1
    exact k (0 : Int32) _ J K (fun z => absurd Int32.toInt_zero z) (by decide)

theorem ms_284_126 {x : Nat → Nat → Nat} {t : Int32} {d : Nat} {s0 : ps_S} {σ : mSig} {l : List Nat} {x1 : Int32} {Q : Option Value → ps_S → Prop} (k : ∀ (v : Int32) (s' : ps_S), mJ x t s' → kp [] [63, 64] s0 s' → (v.toInt ≠ 0 → ∃ l0 p q, RL σ l l0 p q (ps_i s' 1131 63).toInt (ps_i s' 1131 64).toInt) → v &&& 1 = v → Q (some (.int v)) s') (n91 : Nat) (KH91 : ∀ (x2 : Int32) (x4 : Int32) (l0 : List Nat) (p : List Nat) (q : List Nat) (q1 : List Nat) (q2 : List Nat) (s : ps_S), (mJ x t s) → (kp [] [63, 64] s0 s) → (Rw (ps_a s 1134) x2.toInt l) → (l = l0 ++ 6 :: (p ++ q)) → (q = q1 ++ q2) → (x4.toInt = (l0.length : Int) + 1 + (p.length : Int) + (q1.length : Int)) → ((ps_i s 1131 63).toInt = (l0.length : Int) + 1) → ((ps_i s 1131 64).toInt = (l0.length : Int) + 1 + (p.length : Int)) → (ws σ p [false]) → (ws σ q [false]) → (∀ x, x ∈ q1 → 40 ≤ x → x ∈ p) → ((q2.length : Int) ≤ (n91 : Int) - 1) → ps_At (d + 2) 284 91 [(0, .ref 1131), (2, .int x2), (4, .int x4)] [] s Q) : ∀ (n : Nat) (x2 : Int32) (x4 : Int32) (x5 : Int32) (x6 : Int32) (l0 : List Nat) (p : List Nat) (q : List Nat) (q1 : List Nat) (c : Nat) (q3 : List Nat) (p1 : List Nat) (p2 : List Nat) (s : ps_S), (mJ x t s) → (kp [] [63, 64] s0 s) → (Rw (ps_a s 1134) x2.toInt l) → (l = l0 ++ 6 :: (p ++ q)) → (q = q1 ++ c :: q3) → (x4.toInt = (l0.length : Int) + 1 + (p.length : Int) + (q1.length : Int)) → ((ps_i s 1131 63).toInt = (l0.length : Int) + 1) → ((ps_i s 1131 64).toInt = (l0.length : Int) + 1 + (p.length : Int)) → (ws σ p [false]) → (ws σ q [false]) → (∀ x, x ∈ q1 → 40 ≤ x → x ∈ p) → (p = p1 ++ p2) → (x6.toInt = (l0.length : Int) + 1 + (p1.length : Int)) → (x5.toInt = 0 ∨ (x5.toInt = 1 ∧ (c < 40 ∨ c ∈ p))) → ((q3.length : Int) + 1 ≤ (n91 : Int)) → (p2.length : Int) ≤ (n : Int) → ps_At (d + 2) 284 126 [(0, .ref 1131), (2, .int x2), (4, .int x4), (5, .int x5), (6, .int x6)] [] s Q := by
  refine xstr (fun n ih => ?_)
  intro x2 x4 x5 x6 l0 p q q1 c q3 p1 p2 s J K hR i1 i2 i3 i4 i5 i6 i7 i8 i9 i10 i11 hm91 hm
  refine pg_284_126 (d := d + 1) ?_
  obtain ⟨hr1, hr2, hr3, hr4, hr5, hr6⟩ := id hR
  have hr1 : x2.toInt % 41 = 0 := hr1
  have hr2 : 0 ≤ x2.toInt := hr2
  have hr3 : x2.toInt < 27306 := hr3
  have hr4 : l.length ≤ 40 := hr4
  have hn : (ps_a s 1134 (Int32.toNatClampNeg x2)).toInt = (l.length : Int) := Rw_n hR
  have hl : (l.length : Int) = l0.length + (p.length + q.length + 1) := by rw [i1, llen, llenc, llen]
  have i3 : x4.toInt = (l0.length : Int) + 1 + (p.length : Int) + (q1.length : Int) := i3
  have i4 : (ps_i s 1131 63).toInt = (l0.length : Int) + 1 := i4
  have i5 : (ps_i s 1131 64).toInt = (l0.length : Int) + 1 + (p.length : Int) := i5
  have hq : (q.length : Int) = q1.length + (q3.length + 1) := by rw [i2, llen, llenc]
  have hpl : (p.length : Int) = p1.length + p2.length := by rw [i9]; exact llen
  have i10 : x6.toInt = (l0.length : Int) + 1 + (p1.length : Int) := i10
  have r1 := mf_64 J
  refine And.intro (fun h2 => ?_) (fun h2 => ?_)
  · have f3 : (ps_i s 1131 64).toInt ≤ x6.toInt := xle h2
    exact ms_284_170 (x1 := x1) (σ := σ) (l := l) k n91 KH91 x2 x4 x5 l0 p q q1 c q3 _ J K hR (by assumption) (by assumption) (by assumption) (by assumption) (by assumption) (by assumption) (by assumption) (by assumption) (i11) (show (q3.length : Int) + 1 ≤ (n91 : Int) from by omega)
  · have f4 : x6.toInt < (ps_i s 1131 64).toInt := xlt h2
    refine And.intro (fun h5 => ?_) (fun h5 => ?_)
    · have f6 : x5.toInt ≠ (0 : Int) := xne h5
      exact ms_284_170 (x1 := x1) (σ := σ) (l := l) k n91 KH91 x2 x4 x5 l0 p q q1 c q3 _ J K hR (by assumption) (by assumption) (by assumption) (by assumption) (by assumption) (by assumption) (by assumption) (by assumption) (i11) (show (q3.length : Int) + 1 ≤ (n91 : Int) from by omega)
    · have f7 : x5.toInt = (0 : Int) := xeq h5
      obtain ⟨d, p3, rfl⟩ := lpos (W := p2) (by omega)
      rw [llenc] at hpl hm
      refine pg_220_0 ?_
      have a8 : (x2 + 1).toInt = x2.toInt + (1 : Int) := xIa (show -2147483648 ≤ x2.toInt + (1 : Int) from by omega) (show x2.toInt + (1 : Int) < 2147483648 from by omega)
      have a9 : ((x2 + 1) + x6).toInt = (x2 + 1).toInt + x6.toInt := xIa (show -2147483648 ≤ (x2 + 1).toInt + x6.toInt from by omega) (show (x2 + 1).toInt + x6.toInt < 2147483648 from by omega)
      refine ps_nd_i (show pm_in ((x2 + 1) + x6) 27400 = true from xgi (show 0 ≤ ((x2 + 1) + x6).toInt from by omega) (show ((x2 + 1) + x6).toInt < 27400 from by omega)) ?_
      have r10 : ((x2 + 1) + x6).toInt % 41 = 0 → ((x2 + 1) + x6).toInt < 27306 → 0 ≤ (ps_a s 1134 (Int32.toNatClampNeg ((x2 + 1) + x6))).toInt ∧ (ps_a s 1134 (Int32.toNatClampNeg ((x2 + 1) + x6))).toInt ≤ 40 := fun z1 z2 => mp_row (i := ((x2 + 1) + x6)) J z1 (show 0 ≤ ((x2 + 1) + x6).toInt from by omega) z2
      have hp1 : ((ps_a s 1134 (Int32.toNatClampNeg ((x2 + 1) + x6)))).toInt = (d : Int) := Rw_p (l1 := l0 ++ 6 :: p1) (l2 := p3 ++ q) hR (by rw [i1, i9]; simp) (by rw [llen, llenc]; omega)
      refine pg_220_0 ?_
      have a11 : ((x2 + 1) + x4).toInt = (x2 + 1).toInt + x4.toInt := xIa (show -2147483648 ≤ (x2 + 1).toInt + x4.toInt from by omega) (show (x2 + 1).toInt + x4.toInt < 2147483648 from by omega)
      refine ps_nd_i (show pm_in ((x2 + 1) + x4) 27400 = true from xgi (show 0 ≤ ((x2 + 1) + x4).toInt from by omega) (show ((x2 + 1) + x4).toInt < 27400 from by omega)) ?_
      have r12 : ((x2 + 1) + x4).toInt % 41 = 0 → ((x2 + 1) + x4).toInt < 27306 → 0 ≤ (ps_a s 1134 (Int32.toNatClampNeg ((x2 + 1) + x4))).toInt ∧ (ps_a s 1134 (Int32.toNatClampNeg ((x2 + 1) + x4))).toInt ≤ 40 := fun z1 z2 => mp_row (i := ((x2 + 1) + x4)) J z1 (show 0 ≤ ((x2 + 1) + x4).toInt from by omega) z2
      have hp2 : ((ps_a s 1134 (Int32.toNatClampNeg ((x2 + 1) + x4)))).toInt = (c : Int) := Rw_p (l1 := l0 ++ 6 :: (p ++ q1)) (l2 := q3) hR (by rw [i1, i2]; simp) (by rw [llen, llenc, llen]; omega)
      refine And.intro (fun h13 => ?_) (fun h13 => ?_)
      · have f14 : (ps_a s 1134 (Int32.toNatClampNeg ((x2 + 1) + x6))).toInt ≠ (ps_a s 1134 (Int32.toNatClampNeg ((x2 + 1) + x4))).toInt := xne h13
        have a15 : (x6 + 1).toInt = x6.toInt + (1 : Int) := xIa (show -2147483648 ≤ x6.toInt + (1 : Int) from by omega) (show x6.toInt + (1 : Int) < 2147483648 from by omega)
        exact ih (n - 1) (show n - 1 < n from by omega) x2 x4 (0) (x6 + 1) l0 p q q1 c q3 (p1 ++ [d]) p3 _ J K hR (by assumption) (by assumption) (by assumption) (by assumption) (by assumption) (by assumption) (by assumption) (by assumption) (i9.trans (lcat p1 d p3)) ((show ((x6 + 1)).toInt = (l0.length : Int) + 1 + ((p1 ++ [d]).length : Int) from by rw [l1c]; omega)) ((by first | exact Or.inr ⟨by decide, Or.inr (memD i9 (by omega))⟩ | exact Or.inl (by decide))) (show (q3.length : Int) + 1 ≤ (n91 : Int) from by omega) (show (p3.length : Int) ≤ ((n - 1 : Nat) : Int) from by omega)
      · have f16 : (ps_a s 1134 (Int32.toNatClampNeg ((x2 + 1) + x6))).toInt = (ps_a s 1134 (Int32.toNatClampNeg ((x2 + 1) + x4))).toInt := xeq h13
        have a17 : (x6 + 1).toInt = x6.toInt + (1 : Int) := xIa (show -2147483648 ≤ x6.toInt + (1 : Int) from by omega) (show x6.toInt + (1 : Int) < 2147483648 from by omega)
        exact ih (n - 1) (show n - 1 < n from by omega) x2 x4 (1) (x6 + 1) l0 p q q1 c q3 (p1 ++ [d]) p3 _ J K hR (by assumption) (by assumption) (by assumption) (by assumption) (by assumption) (by assumption) (by assumption) (by assumption) (i9.trans (lcat p1 d p3)) ((show ((x6 + 1)).toInt = (l0.length : Int) + 1 + ((p1 ++ [d]).length : Int) from by rw [l1c]; omega)) ((by first | exact Or.inr ⟨by decide, Or.inr (memD i9 (by omega))⟩ | exact Or.inl (by decide))) (show (q3.length : Int) + 1 ≤ (n91 : Int) from by omega) (show (p3.length : Int) ≤ ((n - 1 : Nat) : Int) from by omega)

theorem ms_284_91 {x : Nat → Nat → Nat} {t : Int32} {d : Nat} {s0 : ps_S} {σ : mSig} {l : List Nat} {x1 : Int32} {Q : Option Value → ps_S → Prop} (k : ∀ (v : Int32) (s' : ps_S), mJ x t s' → kp [] [63, 64] s0 s' → (v.toInt ≠ 0 → ∃ l0 p q, RL σ l l0 p q (ps_i s' 1131 63).toInt (ps_i s' 1131 64).toInt) → v &&& 1 = v → Q (some (.int v)) s') : ∀ (n : Nat) (x2 : Int32) (x4 : Int32) (l0 : List Nat) (p : List Nat) (q : List Nat) (q1 : List Nat) (q2 : List Nat) (s : ps_S), (mJ x t s) → (kp [] [63, 64] s0 s) → (Rw (ps_a s 1134) x2.toInt l) → (l = l0 ++ 6 :: (p ++ q)) → (q = q1 ++ q2) → (x4.toInt = (l0.length : Int) + 1 + (p.length : Int) + (q1.length : Int)) → ((ps_i s 1131 63).toInt = (l0.length : Int) + 1) → ((ps_i s 1131 64).toInt = (l0.length : Int) + 1 + (p.length : Int)) → (ws σ p [false]) → (ws σ q [false]) → (∀ x, x ∈ q1 → 40 ≤ x → x ∈ p) → (q2.length : Int) ≤ (n : Int) → ps_At (d + 2) 284 91 [(0, .ref 1131), (2, .int x2), (4, .int x4)] [] s Q := by
  refine xstr (fun n ih => ?_)
  intro x2 x4 l0 p q q1 q2 s J K hR i1 i2 i3 i4 i5 i6 i7 i8 hm
  refine pg_284_91 (d := d + 1) ?_
  obtain ⟨hr1, hr2, hr3, hr4, hr5, hr6⟩ := id hR
  have hr1 : x2.toInt % 41 = 0 := hr1
  have hr2 : 0 ≤ x2.toInt := hr2
  have hr3 : x2.toInt < 27306 := hr3
  have hr4 : l.length ≤ 40 := hr4
  have hn : (ps_a s 1134 (Int32.toNatClampNeg x2)).toInt = (l.length : Int) := Rw_n hR
  have hl : (l.length : Int) = l0.length + (p.length + q.length + 1) := by rw [i1, llen, llenc, llen]
  have i3 : x4.toInt = (l0.length : Int) + 1 + (p.length : Int) + (q1.length : Int) := i3
  have i4 : (ps_i s 1131 63).toInt = (l0.length : Int) + 1 := i4
  have i5 : (ps_i s 1131 64).toInt = (l0.length : Int) + 1 + (p.length : Int) := i5
  have hq : (q.length : Int) = q1.length + q2.length := by rw [i2]; exact llen
  refine pg_219_0 ?_
  refine ps_nd_i (show pm_in x2 27400 = true from xgi (show 0 ≤ x2.toInt from by omega) (show x2.toInt < 27400 from by omega)) ?_
  have r1 : x2.toInt % 41 = 0 → x2.toInt < 27306 → 0 ≤ (ps_a s 1134 (Int32.toNatClampNeg x2)).toInt ∧ (ps_a s 1134 (Int32.toNatClampNeg x2)).toInt ≤ 40 := fun z1 z2 => mp_row (i := x2) J z1 (show 0 ≤ x2.toInt from by omega) z2
  refine And.intro (fun h2 => ?_) (fun h2 => ?_)
  · have f3 : (ps_a s 1134 (Int32.toNatClampNeg x2)).toInt ≤ x4.toInt := xle h2
    have e0 := lnil (W := q2) (by omega)
    subst e0
    rw [List.append_nil] at i2
    subst i2
    exact k (1 : Int32) _ J K (fun _ => ⟨l0, p, _, i1, i4, i5, i6, i7, i8⟩) (by decide)
  · have f4 : x4.toInt < (ps_a s 1134 (Int32.toNatClampNeg x2)).toInt := xlt h2
    obtain ⟨c, q3, rfl⟩ := lpos (W := q2) (by omega)
    rw [llenc] at hq hm
    refine pg_220_0 ?_
    have a5 : (x2 + 1).toInt = x2.toInt + (1 : Int) := xIa (show -2147483648 ≤ x2.toInt + (1 : Int) from by omega) (show x2.toInt + (1 : Int) < 2147483648 from by omega)
    have a6 : ((x2 + 1) + x4).toInt = (x2 + 1).toInt + x4.toInt := xIa (show -2147483648 ≤ (x2 + 1).toInt + x4.toInt from by omega) (show (x2 + 1).toInt + x4.toInt < 2147483648 from by omega)
    refine ps_nd_i (show pm_in ((x2 + 1) + x4) 27400 = true from xgi (show 0 ≤ ((x2 + 1) + x4).toInt from by omega) (show ((x2 + 1) + x4).toInt < 27400 from by omega)) ?_
    have r7 : ((x2 + 1) + x4).toInt % 41 = 0 → ((x2 + 1) + x4).toInt < 27306 → 0 ≤ (ps_a s 1134 (Int32.toNatClampNeg ((x2 + 1) + x4))).toInt ∧ (ps_a s 1134 (Int32.toNatClampNeg ((x2 + 1) + x4))).toInt ≤ 40 := fun z1 z2 => mp_row (i := ((x2 + 1) + x4)) J z1 (show 0 ≤ ((x2 + 1) + x4).toInt from by omega) z2
    have hp : ((ps_a s 1134 (Int32.toNatClampNeg ((x2 + 1) + x4)))).toInt = (c : Int) := Rw_p (l1 := l0 ++ 6 :: (p ++ q1)) (l2 := q3) hR (by rw [i1, i2]; simp) (by rw [llen, llenc, llen]; omega)
    refine And.intro (fun h8 => ?_) (fun h8 => ?_)
    · have f9 : (40 : Int) ≤ (ps_a s 1134 (Int32.toNatClampNeg ((x2 + 1) + x4))).toInt := xle h8
      have r10 := mf_63 J
      exact ms_284_126 (x1 := x1) (σ := σ) (l := l) k n (fun x2z x4z l0z pz qz q1z q2z sz Jz Kz i0z i1z i2z i3z i4z i5z i6z i7z i8z hm => ih (n - 1) (show n - 1 < n from by omega) x2z x4z l0z pz qz q1z q2z sz Jz Kz i0z i1z i2z i3z i4z i5z i6z i7z i8z (show _ ≤ ((n - 1 : Nat) : Int) from by omega)) ((p.length : Int)).toNat x2 x4 (0) (ps_i s 1131 63) l0 p q q1 c q3 [] p _ J K hR (by assumption) (i2) (i3) (by assumption) (by assumption) (by assumption) (by assumption) (by assumption) (rfl) ((show ((ps_i s 1131 63)).toInt = (l0.length : Int) + 1 + (([] : List Nat).length : Int) from by rw [List.length_nil]; omega)) ((by first | exact Or.inr ⟨by decide, Or.inl (by omega)⟩ | exact Or.inl (by decide))) (show (q3.length : Int) + 1 ≤ ((n : Nat) : Int) from by omega) (show (p.length : Int) ≤ ((((p.length : Int)).toNat : Nat) : Int) from by omega)
    · have f11 : (ps_a s 1134 (Int32.toNatClampNeg ((x2 + 1) + x4))).toInt < (40 : Int) := xlt h8
      have r12 := mf_63 J
      exact ms_284_126 (x1 := x1) (σ := σ) (l := l) k n (fun x2z x4z l0z pz qz q1z q2z sz Jz Kz i0z i1z i2z i3z i4z i5z i6z i7z i8z hm => ih (n - 1) (show n - 1 < n from by omega) x2z x4z l0z pz qz q1z q2z sz Jz Kz i0z i1z i2z i3z i4z i5z i6z i7z i8z (show _ ≤ ((n - 1 : Nat) : Int) from by omega)) ((p.length : Int)).toNat x2 x4 (1) (ps_i s 1131 63) l0 p q q1 c q3 [] p _ J K hR (by assumption) (i2) (i3) (by assumption) (by assumption) (by assumption) (by assumption) (by assumption) (rfl) ((show ((ps_i s 1131 63)).toInt = (l0.length : Int) + 1 + (([] : List Nat).length : Int) from by rw [List.length_nil]; omega)) ((by first | exact Or.inr ⟨by decide, Or.inl (by omega)⟩ | exact Or.inl (by decide))) (show (q3.length : Int) + 1 ≤ ((n : Nat) : Int) from by omega) (show (p.length : Int) ≤ ((((p.length : Int)).toNat : Nat) : Int) from by omega)

theorem ms_284_11 {x : Nat → Nat → Nat} {t : Int32} {d : Nat} {s0 : ps_S} {σ : mSig} {l : List Nat} {x1 : Int32} {Q : Option Value → ps_S → Prop} (k : ∀ (v : Int32) (s' : ps_S), mJ x t s' → kp [] [63, 64] s0 s' → (v.toInt ≠ 0 → ∃ l0 p q, RL σ l l0 p q (ps_i s' 1131 63).toInt (ps_i s' 1131 64).toInt) → v &&& 1 = v → Q (some (.int v)) s') : ∀ (n : Nat) (x2 : Int32) (x3 : Int32) (l1 : List Nat) (l2 : List Nat) (s : ps_S), (mJ x t s) → (kp [] [63, 64] s0 s) → (Sg (ps_a s 1135) (ps_a s 1136) (ps_a s 1138) (ps_a s 1139) (ps_i s 1131 21).toInt σ) → (Rw (ps_a s 1134) x2.toInt l) → (l = l1 ++ l2) → (x3.toInt = (l1.length : Int)) → (ws σ l2 [true]) → (0 ≤ x3.toInt) → 41 - x3.toInt ≤ (n : Int) → ps_At (d + 2) 284 11 [(0, .ref 1131), (2, .int x2), (3, .int x3)] [] s Q := by
  refine xstr (fun n ih => ?_)
  intro x2 x3 l1 l2 s J K hS hR i2 i3 i4 i5 hm
  refine pg_284_11 (d := d + 1) ?_
  obtain ⟨hr1, hr2, hr3, hr4, hr5, hr6⟩ := id hR
  have hr1 : x2.toInt % 41 = 0 := hr1
  have hr2 : 0 ≤ x2.toInt := hr2
  have hr3 : x2.toInt < 27306 := hr3
  have hr4 : l.length ≤ 40 := hr4
  have hn : (ps_a s 1134 (Int32.toNatClampNeg x2)).toInt = (l.length : Int) := Rw_n hR
  obtain ⟨c, l3, rfl⟩ := ws_ne i4
  have i3 : x3.toInt = (l1.length : Int) := i3
  have hl : (l.length : Int) = l1.length + (l3.length + 1) := by rw [i2, llen, llenc]
  refine pg_220_0 ?_
  have a1 : (x2 + 1).toInt = x2.toInt + (1 : Int) := xIa (show -2147483648 ≤ x2.toInt + (1 : Int) from by omega) (show x2.toInt + (1 : Int) < 2147483648 from by omega)
  have a2 : ((x2 + 1) + x3).toInt = (x2 + 1).toInt + x3.toInt := xIa (show -2147483648 ≤ (x2 + 1).toInt + x3.toInt from by omega) (show (x2 + 1).toInt + x3.toInt < 2147483648 from by omega)
  refine ps_nd_i (show pm_in ((x2 + 1) + x3) 27400 = true from xgi (show 0 ≤ ((x2 + 1) + x3).toInt from by omega) (show ((x2 + 1) + x3).toInt < 27400 from by omega)) ?_
  have r3 : ((x2 + 1) + x3).toInt % 41 = 0 → ((x2 + 1) + x3).toInt < 27306 → 0 ≤ (ps_a s 1134 (Int32.toNatClampNeg ((x2 + 1) + x3))).toInt ∧ (ps_a s 1134 (Int32.toNatClampNeg ((x2 + 1) + x3))).toInt ≤ 40 := fun z1 z2 => mp_row (i := ((x2 + 1) + x3)) J z1 (show 0 ≤ ((x2 + 1) + x3).toInt from by omega) z2
  have hp : ((ps_a s 1134 (Int32.toNatClampNeg ((x2 + 1) + x3)))).toInt = (c : Int) := Rw_p hR i2 i3
  refine And.intro (fun h4 => ?_) (fun h4 => ?_)
  · have f5 : (ps_a s 1134 (Int32.toNatClampNeg ((x2 + 1) + x3))).toInt ≠ (4 : Int) := xne h4
    refine pg_220_0 ?_
    refine ps_nd_i (show pm_in ((x2 + 1) + x3) 27400 = true from xgi (show 0 ≤ ((x2 + 1) + x3).toInt from by omega) (show ((x2 + 1) + x3).toInt < 27400 from by omega)) ?_
    refine And.intro (fun h6 => ?_) (fun h6 => ?_)
    · have f7 : (ps_a s 1134 (Int32.toNatClampNeg ((x2 + 1) + x3))).toInt ≠ (6 : Int) := xne h6
      exact k (0 : Int32) _ J K (fun z => absurd Int32.toInt_zero z) (by decide)
    · have f8 : (ps_a s 1134 (Int32.toNatClampNeg ((x2 + 1) + x3))).toInt = (6 : Int) := xeq h6
      have e : c = 6 := by omega
      subst e
      obtain ⟨p, q, hpq, hw1, hw2⟩ := ws_6 i4
      subst hpq
      have hp1 := ws_le hw1
      rw [List.length_cons, List.length_nil] at hp1
      rw [llen] at hl
      have a9 : (x3 + 1).toInt = x3.toInt + (1 : Int) := xIa (show -2147483648 ≤ x3.toInt + (1 : Int) from by omega) (show x3.toInt + (1 : Int) < 2147483648 from by omega)
      refine pg_220_0 ?_
      have a10 : ((x2 + 1) + (x3 + 1)).toInt = (x2 + 1).toInt + (x3 + 1).toInt := xIa (show -2147483648 ≤ (x2 + 1).toInt + (x3 + 1).toInt from by omega) (show (x2 + 1).toInt + (x3 + 1).toInt < 2147483648 from by omega)
      refine ps_nd_i (show pm_in ((x2 + 1) + (x3 + 1)) 27400 = true from xgi (show 0 ≤ ((x2 + 1) + (x3 + 1)).toInt from by omega) (show ((x2 + 1) + (x3 + 1)).toInt < 27400 from by omega)) ?_
      have r11 : ((x2 + 1) + (x3 + 1)).toInt % 41 = 0 → ((x2 + 1) + (x3 + 1)).toInt < 27306 → 0 ≤ (ps_a s 1134 (Int32.toNatClampNeg ((x2 + 1) + (x3 + 1)))).toInt ∧ (ps_a s 1134 (Int32.toNatClampNeg ((x2 + 1) + (x3 + 1)))).toInt ≤ 40 := fun z1 z2 => mp_row (i := ((x2 + 1) + (x3 + 1))) J z1 (show 0 ≤ ((x2 + 1) + (x3 + 1)).toInt from by omega) z2
      refine And.intro (fun h12 => ?_) (fun h12 => ?_)
      · have f13 : (ps_a s 1134 (Int32.toNatClampNeg ((x2 + 1) + (x3 + 1)))).toInt < (20 : Int) := xlt h12
        exact k (0 : Int32) _ J K (fun z => absurd Int32.toInt_zero z) (by decide)
      · have f14 : (20 : Int) ≤ (ps_a s 1134 (Int32.toNatClampNeg ((x2 + 1) + (x3 + 1)))).toInt := xle h12
        refine pg_220_0 ?_
        refine ps_nd_i (show pm_in ((x2 + 1) + (x3 + 1)) 27400 = true from xgi (show 0 ≤ ((x2 + 1) + (x3 + 1)).toInt from by omega) (show ((x2 + 1) + (x3 + 1)).toInt < 27400 from by omega)) ?_
        refine And.intro (fun h15 => ?_) (fun h15 => ?_)
        · have f16 : (ps_a s 1134 (Int32.toNatClampNeg ((x2 + 1) + (x3 + 1)))).toInt < (40 : Int) := xlt h15
          have J17 := mwi_63 (v := (x3 + 1)) J (show 0 ≤ (x3 + 1).toInt from by omega) (show (x3 + 1).toInt ≤ 41 from by omega)
          have K18 := kpi K (q := 63) (v := (x3 + 1)) rfl
          refine ms_221 J17 hS ((show Rw (ps_a (ps_ui s 1131 63 (x3 + 1)) 1134) (x2).toInt ((l1 ++ [6]) ++ (p ++ q)) from by rw [← lcat, ← i2]; exact hR)) ((show ((x3 + 1)).toInt = ((l1 ++ [6]).length : Int) from by rw [l1c]; omega)) (hw1) (fun v19 p19_0 => ?_)
          have hv : _ := p19_0
          have hv2 : (v19).toInt = (l1.length : Int) + 1 + (p.length : Int) := hv.trans (by rw [l1c])
          have J20 := mwi_64 (v := v19) J17 (show 0 ≤ v19.toInt from by omega) (show v19.toInt ≤ 41 from by omega)
          have K21 := kpi K18 (q := 64) (v := v19) rfl
          exact ms_284_91 (x1 := x1) (σ := σ) (l := l) k  ((q.length : Int)).toNat x2 v19 l1 p q [] q _ J20 K21 hR (i2) (rfl) ((show (v19).toInt = (l1.length : Int) + 1 + (p.length : Int) + (([] : List Nat).length : Int) from by rw [List.length_nil]; omega)) ((show (x3 + 1).toInt = (l1.length : Int) + 1 from by omega)) ((show v19.toInt = (l1.length : Int) + 1 + (p.length : Int) from by omega)) (hw1) (hw2) ((fun x hx => by cases hx)) (show (q.length : Int) ≤ ((((q.length : Int)).toNat : Nat) : Int) from by omega)
        · have f22 : (40 : Int) ≤ (ps_a s 1134 (Int32.toNatClampNeg ((x2 + 1) + (x3 + 1)))).toInt := xle h15
          exact k (0 : Int32) _ J K (fun z => absurd Int32.toInt_zero z) (by decide)
  · have f23 : (ps_a s 1134 (Int32.toNatClampNeg ((x2 + 1) + x3))).toInt = (4 : Int) := xeq h4
    have a24 : (x3 + 1).toInt = x3.toInt + (1 : Int) := xIa (show -2147483648 ≤ x3.toInt + (1 : Int) from by omega) (show x3.toInt + (1 : Int) < 2147483648 from by omega)
    exact ih (n - 1) (show n - 1 < n from by omega) x2 (x3 + 1) (l1 ++ [c]) l3 _ J K hS hR (i2.trans (lcat l1 c l3)) ((show ((x3 + 1)).toInt = ((l1 ++ [c]).length : Int) from by rw [l1c]; omega)) (ws_4e (by omega) i4) (show 0 ≤ (x3 + 1).toInt from by omega) (show 41 - (x3 + 1).toInt ≤ ((n - 1 : Nat) : Int) from by omega)

theorem ms_284 {x : Nat → Nat → Nat} {t : Int32} {s : ps_S} {d : Nat} {x1 : Int32} {f : Int32 → ps_S → Prop} (J : mJ x t s) {σ : mSig} {l : List Nat} (hS : Sg (ps_a s 1135) (ps_a s 1136) (ps_a s 1138) (ps_a s 1139) (ps_i s 1131 21).toInt σ) (q1 : Rw (ps_a s 1134) (21812 + 41 * (8 * (ps_i s 1131 21).toInt + x1.toInt)) l) (q2 : ws σ l [true]) (q3 : 0 ≤ x1.toInt) (q4 : x1.toInt ≤ 7) (k : ∀ (v : Int32) (s' : ps_S), mJ x t s' → kp [] [63, 64] s s' → (v.toInt ≠ 0 → ∃ l0 p q, RL σ l l0 p q (ps_i s' 1131 63).toInt (ps_i s' 1131 64).toInt) → v &&& 1 = v → f v s') : ps_Cl (d + 2) 284 [.ref 1131, .int x1] s (ps_rI f) := by
  have K : kp [] [63, 64] s s := kp_refl
  refine pg_284_0 (d := d + 1) ?_
  have r1 := mf_21 J
  refine pg_283_0 ?_
  have a2 : ((8 : Int32) * (ps_i s 1131 21)).toInt = (8 : Int) * (ps_i s 1131 21).toInt := xIm (show -2147483648 ≤ (8 : Int) * (ps_i s 1131 21).toInt from by omega) (show (8 : Int) * (ps_i s 1131 21).toInt < 2147483648 from by omega)
  have a3 : (((8 : Int32) * (ps_i s 1131 21)) + x1).toInt = ((8 : Int32) * (ps_i s 1131 21)).toInt + x1.toInt := xIa (show -2147483648 ≤ ((8 : Int32) * (ps_i s 1131 21)).toInt + x1.toInt from by omega) (show ((8 : Int32) * (ps_i s 1131 21)).toInt + x1.toInt < 2147483648 from by omega)
  have a4 : ((41 : Int32) * (((8 : Int32) * (ps_i s 1131 21)) + x1)).toInt = (41 : Int) * (((8 : Int32) * (ps_i s 1131 21)) + x1).toInt := xIm (show -2147483648 ≤ (41 : Int) * (((8 : Int32) * (ps_i s 1131 21)) + x1).toInt from by omega) (show (41 : Int) * (((8 : Int32) * (ps_i s 1131 21)) + x1).toInt < 2147483648 from by omega)
  have a5 : ((21812 : Int32) + ((41 : Int32) * (((8 : Int32) * (ps_i s 1131 21)) + x1))).toInt = (21812 : Int) + ((41 : Int32) * (((8 : Int32) * (ps_i s 1131 21)) + x1)).toInt := xIa (show -2147483648 ≤ (21812 : Int) + ((41 : Int32) * (((8 : Int32) * (ps_i s 1131 21)) + x1)).toInt from by omega) (show (21812 : Int) + ((41 : Int32) * (((8 : Int32) * (ps_i s 1131 21)) + x1)).toInt < 2147483648 from by omega)
  exact ms_284_11 (x1 := x1) (σ := σ) (l := l) k  (41 - (0 : Int)).toNat ((21812 : Int32) + ((41 : Int32) * (((8 : Int32) * (ps_i s 1131 21)) + x1))) (0) [] l _ J K hS ((by rw [show (((21812 : Int32) + ((41 : Int32) * (((8 : Int32) * (ps_i s 1131 21)) + x1)))).toInt = 21812 + 41 * (8 * (ps_i s 1131 21).toInt + x1.toInt) from by omega]; exact q1)) (rfl) (rfl) (q2) (show 0 ≤ (0 : Int) from by omega) (show 41 - (0 : Int) ≤ (((41 - (0 : Int)).toNat : Nat) : Int) from by omega)

-- ProofBenchModel.rules()I
theorem pg_285_0 {d : Nat} {s : ps_S} {Q : Option Value → ps_S → Prop} (h :
  ps_At (d + 1) 285 4 [(0, .ref 1131), (1, .int 0), (2, .int 0)] [] s Q) : ps_At (d + 1) 285 0 [(0, .ref 1131)] [] s Q :=
  ps_wp_at (stops := [(4, [0, 1, 2])]) (n := 6) h rfl

theorem pg_285_4 {d : Nat} {x1 : Int32} {x2 : Int32} {s : ps_S} {Q : Option Value → ps_S → Prop} (h :
  ps_nd (pm_in (ps_i s 1131 21) 2) (((ps_a s 1137 (Int32.toNatClampNeg (ps_i s 1131 21))) ≤ x2 →
    Q (some (.int x1)) s) ∧
  (x2 < (ps_a s 1137 (Int32.toNatClampNeg (ps_i s 1131 21))) →
    ps_Cl d 284 [.ref 1131, .int x2] s (ps_rI (fun v1 s1 =>
      (v1 = 0 →
        ps_At (d + 1) 285 4 [(0, .ref 1131), (1, .int (x1 ||| 0)), (2, .int (x2 + 1))] [] s1 Q) ∧
      (v1 ≠ 0 →
        ps_At (d + 1) 285 4 [(0, .ref 1131), (1, .int (x1 ||| ((1 : Int32) <<< (x2 &&& 31)))), (2, .int (x2 + 1))] [] s1 Q)))))) : ps_At (d + 1) 285 4 [(0, .ref 1131), (1, .int x1), (2, .int x2)] [] s Q :=
  ps_wp_at (stops := [(4, [0, 1, 2])]) (n := 29) h rfl

theorem ms_285_4 {x : Nat → Nat → Nat} {t : Int32} {d : Nat} {s0 : ps_S} {σ : mSig} {Q : Option Value → ps_S → Prop} (k : ∀ (v : Int32) (s' : ps_S), mJ x t s' → kp [] [63, 64] s0 s' → Q (some (.int v)) s') : ∀ (n : Nat) (x1 : Int32) (x2 : Int32) (s : ps_S), (mJ x t s) → (kp [] [63, 64] s0 s) → (MI σ (ps_a s 1134) (ps_a s 1135) (ps_a s 1136) (ps_a s 1137) (ps_a s 1138) (ps_a s 1139) (ps_a s 1157) (ps_a s 1176) (ps_i s 1131 21).toInt (ps_i s 1131 47).toInt (ps_i s 1131 54).toInt) → (0 ≤ x2.toInt) → (x2.toInt ≤ 8) → 20 - x2.toInt ≤ (n : Int) → ps_At (d + 3) 285 4 [(0, .ref 1131), (1, .int x1), (2, .int x2)] [] s Q := by
  refine xstr (fun n ih => ?_)
  intro x1 x2 s J K hMI i1 i2 hm
  refine pg_285_4 (d := d + 2) ?_
  have r1 := mf_21 J
  refine ps_nd_i (show pm_in (ps_i s 1131 21) 2 = true from xgi (show 0 ≤ (ps_i s 1131 21).toInt from by omega) (show (ps_i s 1131 21).toInt < 2 from by omega)) ?_
  have r2 : 0 ≤ (ps_a s 1137 (Int32.toNatClampNeg (ps_i s 1131 21))).toInt ∧ (ps_a s 1137 (Int32.toNatClampNeg (ps_i s 1131 21))).toInt ≤ 8 := ma_1137 (i := (ps_i s 1131 21)) J (show 0 ≤ (ps_i s 1131 21).toInt from by omega) (show (ps_i s 1131 21).toInt < 2 from by omega)
  refine And.intro (fun h3 => ?_) (fun h3 => ?_)
  · have f4 : (ps_a s 1137 (Int32.toNatClampNeg (ps_i s 1131 21))).toInt ≤ x2.toInt := xle h3
    exact k x1 _ J K
  · have f5 : x2.toInt < (ps_a s 1137 (Int32.toNatClampNeg (ps_i s 1131 21))).toInt := xlt h3
    obtain ⟨l, hl1, hl2, hl3⟩ := MI_ax (k := x2) hMI (by omega) (show (x2).toInt < (ps_a s 1137 (Int32.toNatClampNeg (ps_i s 1131 21))).toInt from by omega) (by omega) rfl
    have hS := MI_S hMI
    refine ms_284 J (hS) (hl1) ((wf_ws hl2)) (show 0 ≤ x2.toInt from by omega) (show x2.toInt ≤ 7 from by omega) (fun v6 s6 J6 K6 p6_0 b6 => ?_)
    have K7 := kpt K K6 rfl rfl
    have hMI : MI σ (ps_a s6 1134) (ps_a s6 1135) (ps_a s6 1136) (ps_a s6 1137) (ps_a s6 1138) (ps_a s6 1139) (ps_a s6 1157) (ps_a s6 1176) (ps_i s6 1131 21).toInt (ps_i s6 1131 47).toInt (ps_i s6 1131 54).toInt := by rw [show ps_a s6 1134 = ps_a s 1134 from (K6.2 1134 rfl).1, show ps_a s6 1135 = ps_a s 1135 from (K6.2 1135 rfl).1, show ps_a s6 1136 = ps_a s 1136 from (K6.2 1136 rfl).1, show ps_a s6 1137 = ps_a s 1137 from (K6.2 1137 rfl).1, show ps_a s6 1138 = ps_a s 1138 from (K6.2 1138 rfl).1, show ps_a s6 1139 = ps_a s 1139 from (K6.2 1139 rfl).1, show ps_a s6 1157 = ps_a s 1157 from (K6.2 1157 rfl).1, show ps_a s6 1176 = ps_a s 1176 from (K6.2 1176 rfl).1, show ps_i s6 1131 21 = ps_i s 1131 21 from kp_i K6 21 rfl, show ps_i s6 1131 47 = ps_i s 1131 47 from kp_i K6 47 rfl, show ps_i s6 1131 54 = ps_i s 1131 54 from kp_i K6 54 rfl]; exact hMI
    refine And.intro (fun h8 => ?_) (fun h8 => ?_)
    · have f9 : v6.toInt = (0 : Int) := xeq h8
      have a10 : (x2 + 1).toInt = x2.toInt + (1 : Int) := xIa (show -2147483648 ≤ x2.toInt + (1 : Int) from by omega) (show x2.toInt + (1 : Int) < 2147483648 from by omega)
      exact ih (n - 1) (show n - 1 < n from by omega) (x1 ||| 0) (x2 + 1) _ J6 K7 hMI (show 0 ≤ (x2 + 1).toInt from by omega) (show (x2 + 1).toInt ≤ 8 from by omega) (show 20 - (x2 + 1).toInt ≤ ((n - 1 : Nat) : Int) from by omega)
    · have f11 : v6.toInt ≠ (0 : Int) := xne h8
      have a12 : (x2 + 1).toInt = x2.toInt + (1 : Int) := xIa (show -2147483648 ≤ x2.toInt + (1 : Int) from by omega) (show x2.toInt + (1 : Int) < 2147483648 from by omega)
      exact ih (n - 1) (show n - 1 < n from by omega) (x1 ||| ((1 : Int32) <<< (x2 &&& 31))) (x2 + 1) _ J6 K7 hMI (show 0 ≤ (x2 + 1).toInt from by omega) (show (x2 + 1).toInt ≤ 8 from by omega) (show 20 - (x2 + 1).toInt ≤ ((n - 1 : Nat) : Int) from by omega)

theorem ms_285 {x : Nat → Nat → Nat} {t : Int32} {s : ps_S} {d : Nat} {f : Int32 → ps_S → Prop} (J : mJ x t s) {σ : mSig} (hMI : MI σ (ps_a s 1134) (ps_a s 1135) (ps_a s 1136) (ps_a s 1137) (ps_a s 1138) (ps_a s 1139) (ps_a s 1157) (ps_a s 1176) (ps_i s 1131 21).toInt (ps_i s 1131 47).toInt (ps_i s 1131 54).toInt) (k : ∀ (v : Int32) (s' : ps_S), mJ x t s' → kp [] [63, 64] s s' → f v s') : ps_Cl (d + 3) 285 [.ref 1131] s (ps_rI f) := by
  have K : kp [] [63, 64] s s := kp_refl
  refine pg_285_0 (d := d + 2) ?_
  exact ms_285_4 (σ := σ) k  (20 - (0 : Int)).toNat (0) (0) _ J K hMI (show 0 ≤ (0 : Int) from by omega) (show (0 : Int) ≤ 8 from by omega) (show 20 - (0 : Int) ≤ (((20 - (0 : Int)).toNat : Nat) : Int) from by omega)
end
section
set_option maxRecDepth 100000
-- ProofBenchModel.standsAt(II)Z
theorem pg_286_0 {d : Nat} {x1 : Int32} {x2 : Int32} {s : ps_S} {Q : Option Value → ps_S → Prop} (h :
  ps_Cl d 283 [.int (ps_i s 1131 21), .int x1] s (ps_rI (fun v1 s1 =>
    ps_At (d + 1) 286 12 [(0, .ref 1131), (2, .int x2), (3, .int v1), (4, .int 0)] [] s1 Q))) : ps_At (d + 1) 286 0 [(0, .ref 1131), (1, .int x1), (2, .int x2)] [] s Q :=
  ps_wp_at (stops := [(12, [0, 2, 3, 4]), (42, [0, 3, 4, 5])]) (n := 9) h rfl

theorem pg_286_12 {d : Nat} {x2 : Int32} {x3 : Int32} {x4 : Int32} {s : ps_S} {Q : Option Value → ps_S → Prop} (h :
  (20 ≤ x4 →
    ps_At (d + 1) 286 42 [(0, .ref 1131), (3, .int x3), (4, .int x2), (5, .int (ps_i s 1131 63))] [] s Q) ∧
  (x4 < 20 →
    ps_nd (pm_in x4 20) (ps_At (d + 1) 286 12 [(0, .ref 1131), (2, .int x2), (3, .int x3), (4, .int (x4 + 1))] [] (ps_ua s 1167 (Int32.toNatClampNeg x4) (-1)) Q))) : ps_At (d + 1) 286 12 [(0, .ref 1131), (2, .int x2), (3, .int x3), (4, .int x4)] [] s Q :=
  ps_wp_at (stops := [(12, [0, 2, 3, 4]), (42, [0, 3, 4, 5])]) (n := 17) h rfl

theorem pg_286_42 {d : Nat} {x3 : Int32} {x4 : Int32} {x5 : Int32} {s : ps_S} {Q : Option Value → ps_S → Prop} (h :
  ((ps_i s 1131 64) ≤ x5 →
    Q (some (.int 1)) (ps_ui s 1131 65 x4)) ∧
  (x5 < (ps_i s 1131 64) →
    ps_Cl d 220 [.ref 1131, .int x3, .int x5] s (ps_rI (fun v1 s1 =>
      (40 ≤ v1 →
        ps_Cl d 221 [.ref 1131, .int 25789, .int x4] s1 (ps_rI (fun v2 s2 =>
          ps_nd (pm_in (v1 - 40) 20) (((ps_a s2 1167 (Int32.toNatClampNeg (v1 - 40))) < 0 →
            ps_nd (pm_in (v1 - 40) 20) (ps_nd (pm_in (v1 - 40) 20) (ps_At (d + 1) 286 42 [(0, .ref 1131), (3, .int x3), (4, .int v2), (5, .int (x5 + 1))] [] (ps_ua (ps_ua s2 1167 (Int32.toNatClampNeg (v1 - 40)) x4) 1168 (Int32.toNatClampNeg (v1 - 40)) v2) Q))) ∧
          (0 ≤ (ps_a s2 1167 (Int32.toNatClampNeg (v1 - 40))) →
            ps_nd (pm_in (v1 - 40) 20) (ps_nd (pm_in (v1 - 40) 20) ((((ps_a s2 1168 (Int32.toNatClampNeg (v1 - 40))) - (ps_a s2 1167 (Int32.toNatClampNeg (v1 - 40)))) ≠ (v2 - x4) →
              Q (some (.int 0)) s2) ∧
            (((ps_a s2 1168 (Int32.toNatClampNeg (v1 - 40))) - (ps_a s2 1167 (Int32.toNatClampNeg (v1 - 40)))) = (v2 - x4) →
              ps_nd (pm_in (v1 - 40) 20) (ps_Cl d 259 [.ref 1131, .int 25789, .int x4, .int (v2 - x4), .int 25789, .int (ps_a s2 1167 (Int32.toNatClampNeg (v1 - 40)))] s2 (ps_rI (fun v3 s3 =>
                (v3 ≠ 0 →
                  ps_nd (pm_in (v1 - 40) 20) (ps_nd (pm_in (v1 - 40) 20) (ps_At (d + 1) 286 42 [(0, .ref 1131), (3, .int x3), (4, .int v2), (5, .int (x5 + 1))] [] (ps_ua (ps_ua s3 1167 (Int32.toNatClampNeg (v1 - 40)) x4) 1168 (Int32.toNatClampNeg (v1 - 40)) v2) Q))) ∧
                (v3 = 0 →
                  Q (some (.int 0)) s3)))))))))))) ∧
      (v1 < 40 →
        ps_Cl d 220 [.ref 1131, .int 25789, .int x4] s1 (ps_rI (fun v4 s4 =>
          (v4 = v1 →
            ps_At (d + 1) 286 42 [(0, .ref 1131), (3, .int x3), (4, .int (x4 + 1)), (5, .int (x5 + 1))] [] s4 Q) ∧
          (v4 ≠ v1 →
            Q (some (.int 0)) s4)))))))) : ps_At (d + 1) 286 42 [(0, .ref 1131), (3, .int x3), (4, .int x4), (5, .int x5)] [] s Q :=
  ps_wp_at (stops := [(12, [0, 2, 3, 4]), (42, [0, 3, 4, 5])]) (n := 103) h rfl

theorem ms_286_42 {x : Nat → Nat → Nat} {t : Int32} {d : Nat} {s0 : ps_S} {σ : mSig} {l nl l0 p q n1 n2 : List Nat} {W0 : List Bool} {x1 : Int32} {x2 : Int32} {Q : Option Value → ps_S → Prop} (k : ∀ (v : Int32) (s' : ps_S), mJ x t s' → kp [1167, 1168] [65] s0 s' → (v.toInt ≠ 0 → ∃ mt n3, n2 = mt ++ n3 ∧ ws σ n3 W0 ∧ (ps_i s' 1131 65).toInt = (n1.length : Int) + (mt.length : Int) ∧ BA σ nl (ps_a s' 1167) (ps_a s' 1168) ∧ BB (ps_a s' 1167) p) → v &&& 1 = v → Q (some (.int v)) s') : ∀ (n : Nat) (x3 : Int32) (x4 : Int32) (x5 : Int32) (ma : List Nat) (mb : List Nat) (p1 : List Nat) (p2 : List Nat) (W : List Bool) (s : ps_S), (mJ x t s) → (kp [1167, 1168] [65] s0 s) → (Sg (ps_a s 1135) (ps_a s 1136) (ps_a s 1138) (ps_a s 1139) (ps_i s 1131 21).toInt σ) → (Rw (ps_a s 1134) x3.toInt l) → (Rw (ps_a s 1134) (25789 : Int32).toInt nl) → (RL σ l l0 p q (ps_i s 1131 63).toInt (ps_i s 1131 64).toInt) → (∀ x, x ∈ l → x < 60) → (nl = n1 ++ n2) → (n2 = ma ++ mb) → (x4.toInt = (n1.length : Int) + (ma.length : Int)) → (p = p1 ++ p2) → (x5.toInt = (l0.length : Int) + 1 + (p1.length : Int)) → (ws σ p2 W) → (ws σ mb (W ++ W0)) → (BA σ nl (ps_a s 1167) (ps_a s 1168)) → (BB (ps_a s 1167) p1) → (p2.length : Int) ≤ (n : Int) → ps_At (d + 2) 286 42 [(0, .ref 1131), (3, .int x3), (4, .int x4), (5, .int x5)] [] s Q := by
  refine xstr (fun n ih => ?_)
  intro x3 x4 x5 ma mb p1 p2 W s J K hS hR hN i3 i4 i5 i6 i7 i8 i9 i10 i11 i12 i13 hm
  refine pg_286_42 (d := d + 1) ?_
  obtain ⟨hr1, hr2, hr3, hr4, hr5, hr6⟩ := id hR
  have hr1 : x3.toInt % 41 = 0 := hr1
  have hr2 : 0 ≤ x3.toInt := hr2
  have hr3 : x3.toInt < 27306 := hr3
  have hr4 : l.length ≤ 40 := hr4
  have hn : (ps_a s 1134 (Int32.toNatClampNeg x3)).toInt = (l.length : Int) := Rw_n hR
  obtain ⟨g1, g2, g3, g4, g5, g6⟩ := id i3
  have g2 : (ps_i s 1131 63).toInt = (l0.length : Int) + 1 := g2
  have g3 : (ps_i s 1131 64).toInt = (l0.length : Int) + 1 + (p.length : Int) := g3
  have hl : (l.length : Int) = l0.length + (p.length + q.length + 1) := by rw [g1, llen, llenc, llen]
  have hpl : (p.length : Int) = p1.length + p2.length := by rw [i8]; exact llen
  have hnl : (nl.length : Int) = n1.length + n2.length := by rw [i5]; exact llen
  have hn2 : (n2.length : Int) = ma.length + mb.length := by rw [i6]; exact llen
  have hN4 : nl.length ≤ 40 := hN.2.2.2.1
  have i7 : x4.toInt = (n1.length : Int) + (ma.length : Int) := i7
  have i9 : x5.toInt = (l0.length : Int) + 1 + (p1.length : Int) := i9
  have r1 := mf_64 J
  refine And.intro (fun h2 => ?_) (fun h2 => ?_)
  · have f3 : (ps_i s 1131 64).toInt ≤ x5.toInt := xle h2
    have e0 := lnil (W := p2) (by omega)
    subst e0
    rw [List.append_nil] at i8
    have eW : W = [] := i10
    subst eW
    have J4 := mwi_65 (v := x4) J (show 0 ≤ x4.toInt from by omega) (show x4.toInt ≤ 41 from by omega)
    have K5 := kpi K (q := 65) (v := x4) rfl
    exact k (1 : Int32) _ J4 K5 ((fun _ => ⟨ma, mb, i6, i11, (show x4.toInt = (n1.length : Int) + (ma.length : Int) from by omega), i12, (by rw [i8]; exact i13)⟩)) (by decide)
  · have f6 : x5.toInt < (ps_i s 1131 64).toInt := xlt h2
    obtain ⟨c, p3, rfl⟩ := lpos (W := p2) (by omega)
    rw [llenc] at hpl hm
    obtain ⟨bb, W2, rfl⟩ := ws_W i10
    obtain ⟨ks, hk, hw⟩ := ws_hd i10
    obtain ⟨d, mb2, hmb⟩ := ws_ne (show ws σ mb (bb :: (W2 ++ W0)) from i11)
    subst hmb
    rw [llenc] at hn2
    have hc60 : c < 60 := i4 c (by rw [g1, i8]; simp)
    refine pg_220_0 ?_
    have a7 : (x3 + 1).toInt = x3.toInt + (1 : Int) := xIa (show -2147483648 ≤ x3.toInt + (1 : Int) from by omega) (show x3.toInt + (1 : Int) < 2147483648 from by omega)
    have a8 : ((x3 + 1) + x5).toInt = (x3 + 1).toInt + x5.toInt := xIa (show -2147483648 ≤ (x3 + 1).toInt + x5.toInt from by omega) (show (x3 + 1).toInt + x5.toInt < 2147483648 from by omega)
    refine ps_nd_i (show pm_in ((x3 + 1) + x5) 27400 = true from xgi (show 0 ≤ ((x3 + 1) + x5).toInt from by omega) (show ((x3 + 1) + x5).toInt < 27400 from by omega)) ?_
    have r9 : ((x3 + 1) + x5).toInt % 41 = 0 → ((x3 + 1) + x5).toInt < 27306 → 0 ≤ (ps_a s 1134 (Int32.toNatClampNeg ((x3 + 1) + x5))).toInt ∧ (ps_a s 1134 (Int32.toNatClampNeg ((x3 + 1) + x5))).toInt ≤ 40 := fun z1 z2 => mp_row (i := ((x3 + 1) + x5)) J z1 (show 0 ≤ ((x3 + 1) + x5).toInt from by omega) z2
    have hp : ((ps_a s 1134 (Int32.toNatClampNeg ((x3 + 1) + x5)))).toInt = (c : Int) := Rw_p (l1 := l0 ++ 6 :: p1) (l2 := p3 ++ q) hR (by rw [g1, i8]; simp) (by rw [llen, llenc]; omega)
    refine And.intro (fun h10 => ?_) (fun h10 => ?_)
    · have f11 : (40 : Int) ≤ (ps_a s 1134 (Int32.toNatClampNeg ((x3 + 1) + x5))).toInt := xle h10
      obtain ⟨hbb, hks⟩ := kS_x (Sg_σ hS) hk (by omega)
      subst hbb
      subst hks
      obtain ⟨tm, mb3, htm, hw3, hw4⟩ := ws_split (W1 := [false]) (W2 := W2 ++ W0) i11
      have htl : ((d :: mb2).length : Int) = tm.length + mb3.length := by rw [htm]; exact llen
      rw [llenc] at htl
      have a12 : ((ps_a s 1134 (Int32.toNatClampNeg ((x3 + 1) + x5))) - 40).toInt = (ps_a s 1134 (Int32.toNatClampNeg ((x3 + 1) + x5))).toInt - (40 : Int) := xIs (show -2147483648 ≤ (ps_a s 1134 (Int32.toNatClampNeg ((x3 + 1) + x5))).toInt - (40 : Int) from by omega) (show (ps_a s 1134 (Int32.toNatClampNeg ((x3 + 1) + x5))).toInt - (40 : Int) < 2147483648 from by omega)
      refine ms_221 J hS ((show Rw (ps_a s 1134) ((25789 : Int32)).toInt ((n1 ++ ma) ++ (tm ++ mb3)) from by rw [← htm, List.append_assoc, ← i6, ← i5]; exact hN)) ((show (x4).toInt = ((n1 ++ ma).length : Int) from by rw [llen]; exact i7)) (hw3) (fun v13 p13_0 => ?_)
      have hv : _ := p13_0
      have hv2 : (v13).toInt = (n1.length : Int) + (ma.length : Int) + (tm.length : Int) := hv.trans (by rw [llen])
      refine ps_nd_i (show pm_in ((ps_a s 1134 (Int32.toNatClampNeg ((x3 + 1) + x5))) - 40) 20 = true from xgi (show 0 ≤ ((ps_a s 1134 (Int32.toNatClampNeg ((x3 + 1) + x5))) - 40).toInt from by omega) (show ((ps_a s 1134 (Int32.toNatClampNeg ((x3 + 1) + x5))) - 40).toInt < 20 from by omega)) ?_
      have r14 : -1 ≤ (ps_a s 1167 (Int32.toNatClampNeg ((ps_a s 1134 (Int32.toNatClampNeg ((x3 + 1) + x5))) - 40))).toInt ∧ (ps_a s 1167 (Int32.toNatClampNeg ((ps_a s 1134 (Int32.toNatClampNeg ((x3 + 1) + x5))) - 40))).toInt ≤ 40 := ma_1167 (i := ((ps_a s 1134 (Int32.toNatClampNeg ((x3 + 1) + x5))) - 40)) J (show 0 ≤ ((ps_a s 1134 (Int32.toNatClampNeg ((x3 + 1) + x5))) - 40).toInt from by omega) (show ((ps_a s 1134 (Int32.toNatClampNeg ((x3 + 1) + x5))) - 40).toInt < 20 from by omega)
      refine And.intro (fun h15 => ?_) (fun h15 => ?_)
      · have f16 : (ps_a s 1167 (Int32.toNatClampNeg ((ps_a s 1134 (Int32.toNatClampNeg ((x3 + 1) + x5))) - 40))).toInt < (0 : Int) := xlt h15
        refine ps_nd_i (show pm_in ((ps_a s 1134 (Int32.toNatClampNeg ((x3 + 1) + x5))) - 40) 20 = true from xgi (show 0 ≤ ((ps_a s 1134 (Int32.toNatClampNeg ((x3 + 1) + x5))) - 40).toInt from by omega) (show ((ps_a s 1134 (Int32.toNatClampNeg ((x3 + 1) + x5))) - 40).toInt < 20 from by omega)) ?_
        have J17 := mwa_1167 (i := (Int32.toNatClampNeg ((ps_a s 1134 (Int32.toNatClampNeg ((x3 + 1) + x5))) - 40))) (v := x4) J (show -1 ≤ x4.toInt from by omega) (show x4.toInt ≤ 40 from by omega)
        have K18 := kpa' K (r := 1167) (i := (Int32.toNatClampNeg ((ps_a s 1134 (Int32.toNatClampNeg ((x3 + 1) + x5))) - 40))) (v := x4) rfl
        have z1 : ps_a (ps_ua s 1167 (Int32.toNatClampNeg ((ps_a s 1134 (Int32.toNatClampNeg ((x3 + 1) + x5))) - 40)) x4) 1167 (Int32.toNatClampNeg ((ps_a s 1134 (Int32.toNatClampNeg ((x3 + 1) + x5))) - 40)) = x4 := ua_eq
        refine ps_nd_i (show pm_in ((ps_a s 1134 (Int32.toNatClampNeg ((x3 + 1) + x5))) - 40) 20 = true from xgi (show 0 ≤ ((ps_a s 1134 (Int32.toNatClampNeg ((x3 + 1) + x5))) - 40).toInt from by omega) (show ((ps_a s 1134 (Int32.toNatClampNeg ((x3 + 1) + x5))) - 40).toInt < 20 from by omega)) ?_
        have J19 := mwa_1168 (i := (Int32.toNatClampNeg ((ps_a s 1134 (Int32.toNatClampNeg ((x3 + 1) + x5))) - 40))) (v := v13) J17 (show 0 ≤ v13.toInt from by omega) (show v13.toInt ≤ 40 from by omega)
        have K20 := kpa' K18 (r := 1168) (i := (Int32.toNatClampNeg ((ps_a s 1134 (Int32.toNatClampNeg ((x3 + 1) + x5))) - 40))) (v := v13) rfl
        have z2 : ps_a (ps_ua (ps_ua s 1167 (Int32.toNatClampNeg ((ps_a s 1134 (Int32.toNatClampNeg ((x3 + 1) + x5))) - 40)) x4) 1168 (Int32.toNatClampNeg ((ps_a s 1134 (Int32.toNatClampNeg ((x3 + 1) + x5))) - 40)) v13) 1168 (Int32.toNatClampNeg ((ps_a s 1134 (Int32.toNatClampNeg ((x3 + 1) + x5))) - 40)) = v13 := ua_eq
        have z1b : ps_a (ps_ua (ps_ua s 1167 (Int32.toNatClampNeg ((ps_a s 1134 (Int32.toNatClampNeg ((x3 + 1) + x5))) - 40)) x4) 1168 (Int32.toNatClampNeg ((ps_a s 1134 (Int32.toNatClampNeg ((x3 + 1) + x5))) - 40)) v13) 1167 (Int32.toNatClampNeg ((ps_a s 1134 (Int32.toNatClampNeg ((x3 + 1) + x5))) - 40)) = x4 := z1
        have e7 : (Int32.toNatClampNeg ((ps_a s 1134 (Int32.toNatClampNeg ((x3 + 1) + x5))) - 40)) = c - 40 := by rw [nx (n := (c : Int) - 40) (by omega)]; omega
        have zf : ∀ j, j ≠ (Int32.toNatClampNeg ((ps_a s 1134 (Int32.toNatClampNeg ((x3 + 1) + x5))) - 40)) → ps_a (ps_ua (ps_ua s 1167 (Int32.toNatClampNeg ((ps_a s 1134 (Int32.toNatClampNeg ((x3 + 1) + x5))) - 40)) x4) 1168 (Int32.toNatClampNeg ((ps_a s 1134 (Int32.toNatClampNeg ((x3 + 1) + x5))) - 40)) v13) 1167 j = ps_a s 1167 j := fun j hj => (ua_ne hj).trans (ua_ne hj)
        have zt : ∀ j, j ≠ (Int32.toNatClampNeg ((ps_a s 1134 (Int32.toNatClampNeg ((x3 + 1) + x5))) - 40)) → ps_a (ps_ua (ps_ua s 1167 (Int32.toNatClampNeg ((ps_a s 1134 (Int32.toNatClampNeg ((x3 + 1) + x5))) - 40)) x4) 1168 (Int32.toNatClampNeg ((ps_a s 1134 (Int32.toNatClampNeg ((x3 + 1) + x5))) - 40)) v13) 1168 j = ps_a s 1168 j := fun j hj => (ua_ne hj).trans (ua_ne hj)
        have zb : BS σ nl (ps_a (ps_ua (ps_ua s 1167 (Int32.toNatClampNeg ((ps_a s 1134 (Int32.toNatClampNeg ((x3 + 1) + x5))) - 40)) x4) 1168 (Int32.toNatClampNeg ((ps_a s 1134 (Int32.toNatClampNeg ((x3 + 1) + x5))) - 40)) v13) 1167 (Int32.toNatClampNeg ((ps_a s 1134 (Int32.toNatClampNeg ((x3 + 1) + x5))) - 40))).toInt (ps_a (ps_ua (ps_ua s 1167 (Int32.toNatClampNeg ((ps_a s 1134 (Int32.toNatClampNeg ((x3 + 1) + x5))) - 40)) x4) 1168 (Int32.toNatClampNeg ((ps_a s 1134 (Int32.toNatClampNeg ((x3 + 1) + x5))) - 40)) v13) 1168 (Int32.toNatClampNeg ((ps_a s 1134 (Int32.toNatClampNeg ((x3 + 1) + x5))) - 40))).toInt := ⟨n1 ++ ma, tm, mb3, (by rw [i5, i6, htm]; simp), (by rw [z1b, llen]; exact i7), (by rw [z2, llen]; omega), hw3⟩
        have zg : ∀ j, 0 ≤ (ps_a s 1167 j).toInt → 0 ≤ (ps_a (ps_ua (ps_ua s 1167 (Int32.toNatClampNeg ((ps_a s 1134 (Int32.toNatClampNeg ((x3 + 1) + x5))) - 40)) x4) 1168 (Int32.toNatClampNeg ((ps_a s 1134 (Int32.toNatClampNeg ((x3 + 1) + x5))) - 40)) v13) 1167 j).toInt := fun j hj => (by by_cases e : j = (Int32.toNatClampNeg ((ps_a s 1134 (Int32.toNatClampNeg ((x3 + 1) + x5))) - 40)); (rw [e, z1b]; omega); (rw [zf j e]; exact hj))
        have zc : 0 ≤ (ps_a (ps_ua (ps_ua s 1167 (Int32.toNatClampNeg ((ps_a s 1134 (Int32.toNatClampNeg ((x3 + 1) + x5))) - 40)) x4) 1168 (Int32.toNatClampNeg ((ps_a s 1134 (Int32.toNatClampNeg ((x3 + 1) + x5))) - 40)) v13) 1167 (c - 40)).toInt := by rw [← e7, z1b]; omega
        have hnew : ∃ (ma9 mb9 p8 p9 : List Nat) (W9 : List Bool), n2 = ma9 ++ mb9 ∧ (n1.length : Int) + (ma9.length : Int) = v13.toInt ∧ p = p8 ++ p9 ∧ (p8.length : Int) = (p1.length : Int) + 1 ∧ ws σ p9 W9 ∧ ws σ mb9 (W9 ++ W0) ∧ BA σ nl (ps_a (ps_ua (ps_ua s 1167 (Int32.toNatClampNeg ((ps_a s 1134 (Int32.toNatClampNeg ((x3 + 1) + x5))) - 40)) x4) 1168 (Int32.toNatClampNeg ((ps_a s 1134 (Int32.toNatClampNeg ((x3 + 1) + x5))) - 40)) v13) 1167) (ps_a (ps_ua (ps_ua s 1167 (Int32.toNatClampNeg ((ps_a s 1134 (Int32.toNatClampNeg ((x3 + 1) + x5))) - 40)) x4) 1168 (Int32.toNatClampNeg ((ps_a s 1134 (Int32.toNatClampNeg ((x3 + 1) + x5))) - 40)) v13) 1168) ∧ BB (ps_a (ps_ua (ps_ua s 1167 (Int32.toNatClampNeg ((ps_a s 1134 (Int32.toNatClampNeg ((x3 + 1) + x5))) - 40)) x4) 1168 (Int32.toNatClampNeg ((ps_a s 1134 (Int32.toNatClampNeg ((x3 + 1) + x5))) - 40)) v13) 1167) p8 := ⟨ma ++ tm, mb3, p1 ++ [c], p3, W2, (by rw [i6, htm]; simp), (by rw [llen]; omega), i8.trans (lcat p1 c p3), l1c, hw, hw4, BA_put i12 zf zt zb, BB_snoc i13 zg (fun _ => zc)⟩
        have a21 : (x5 + 1).toInt = x5.toInt + (1 : Int) := xIa (show -2147483648 ≤ x5.toInt + (1 : Int) from by omega) (show x5.toInt + (1 : Int) < 2147483648 from by omega)
        obtain ⟨ma9, mb9, p8, p9, W9, e1, e2, e3, e4, e5, e6, e8, e9⟩ := hnew
        have hp9 : (p.length : Int) = p8.length + p9.length := by rw [e3]; exact llen
        exact ih (n - 1) (show n - 1 < n from by omega) x3 v13 (x5 + 1) ma9 mb9 p8 p9 W9 _ J19 K20 hS hR hN (i3) (by assumption) (by assumption) (e1) ((show (v13).toInt = (n1.length : Int) + (ma9.length : Int) from by omega)) (e3) ((show ((x5 + 1)).toInt = (l0.length : Int) + 1 + (p8.length : Int) from by omega)) (e5) (e6) (e8) (e9) (show (p9.length : Int) ≤ ((n - 1 : Nat) : Int) from by omega)
      · have f22 : (0 : Int) ≤ (ps_a s 1167 (Int32.toNatClampNeg ((ps_a s 1134 (Int32.toNatClampNeg ((x3 + 1) + x5))) - 40))).toInt := xle h15
        refine ps_nd_i (show pm_in ((ps_a s 1134 (Int32.toNatClampNeg ((x3 + 1) + x5))) - 40) 20 = true from xgi (show 0 ≤ ((ps_a s 1134 (Int32.toNatClampNeg ((x3 + 1) + x5))) - 40).toInt from by omega) (show ((ps_a s 1134 (Int32.toNatClampNeg ((x3 + 1) + x5))) - 40).toInt < 20 from by omega)) ?_
        have r23 : 0 ≤ (ps_a s 1168 (Int32.toNatClampNeg ((ps_a s 1134 (Int32.toNatClampNeg ((x3 + 1) + x5))) - 40))).toInt ∧ (ps_a s 1168 (Int32.toNatClampNeg ((ps_a s 1134 (Int32.toNatClampNeg ((x3 + 1) + x5))) - 40))).toInt ≤ 40 := ma_1168 (i := ((ps_a s 1134 (Int32.toNatClampNeg ((x3 + 1) + x5))) - 40)) J (show 0 ≤ ((ps_a s 1134 (Int32.toNatClampNeg ((x3 + 1) + x5))) - 40).toInt from by omega) (show ((ps_a s 1134 (Int32.toNatClampNeg ((x3 + 1) + x5))) - 40).toInt < 20 from by omega)
        refine ps_nd_i (show pm_in ((ps_a s 1134 (Int32.toNatClampNeg ((x3 + 1) + x5))) - 40) 20 = true from xgi (show 0 ≤ ((ps_a s 1134 (Int32.toNatClampNeg ((x3 + 1) + x5))) - 40).toInt from by omega) (show ((ps_a s 1134 (Int32.toNatClampNeg ((x3 + 1) + x5))) - 40).toInt < 20 from by omega)) ?_
        have a24 : ((ps_a s 1168 (Int32.toNatClampNeg ((ps_a s 1134 (Int32.toNatClampNeg ((x3 + 1) + x5))) - 40))) - (ps_a s 1167 (Int32.toNatClampNeg ((ps_a s 1134 (Int32.toNatClampNeg ((x3 + 1) + x5))) - 40)))).toInt = (ps_a s 1168 (Int32.toNatClampNeg ((ps_a s 1134 (Int32.toNatClampNeg ((x3 + 1) + x5))) - 40))).toInt - (ps_a s 1167 (Int32.toNatClampNeg ((ps_a s 1134 (Int32.toNatClampNeg ((x3 + 1) + x5))) - 40))).toInt := xIs (show -2147483648 ≤ (ps_a s 1168 (Int32.toNatClampNeg ((ps_a s 1134 (Int32.toNatClampNeg ((x3 + 1) + x5))) - 40))).toInt - (ps_a s 1167 (Int32.toNatClampNeg ((ps_a s 1134 (Int32.toNatClampNeg ((x3 + 1) + x5))) - 40))).toInt from by omega) (show (ps_a s 1168 (Int32.toNatClampNeg ((ps_a s 1134 (Int32.toNatClampNeg ((x3 + 1) + x5))) - 40))).toInt - (ps_a s 1167 (Int32.toNatClampNeg ((ps_a s 1134 (Int32.toNatClampNeg ((x3 + 1) + x5))) - 40))).toInt < 2147483648 from by omega)
        have a25 : (v13 - x4).toInt = v13.toInt - x4.toInt := xIs (show -2147483648 ≤ v13.toInt - x4.toInt from by omega) (show v13.toInt - x4.toInt < 2147483648 from by omega)
        refine And.intro (fun h26 => ?_) (fun h26 => ?_)
        · have f27 : ((ps_a s 1168 (Int32.toNatClampNeg ((ps_a s 1134 (Int32.toNatClampNeg ((x3 + 1) + x5))) - 40))) - (ps_a s 1167 (Int32.toNatClampNeg ((ps_a s 1134 (Int32.toNatClampNeg ((x3 + 1) + x5))) - 40)))).toInt ≠ (v13 - x4).toInt := xne h26
          exact k (0 : Int32) _ J K (fun z => absurd Int32.toInt_zero z) (by decide)
        · have f28 : ((ps_a s 1168 (Int32.toNatClampNeg ((ps_a s 1134 (Int32.toNatClampNeg ((x3 + 1) + x5))) - 40))) - (ps_a s 1167 (Int32.toNatClampNeg ((ps_a s 1134 (Int32.toNatClampNeg ((x3 + 1) + x5))) - 40)))).toInt = (v13 - x4).toInt := xeq h26
          refine ps_nd_i (show pm_in ((ps_a s 1134 (Int32.toNatClampNeg ((x3 + 1) + x5))) - 40) 20 = true from xgi (show 0 ≤ ((ps_a s 1134 (Int32.toNatClampNeg ((x3 + 1) + x5))) - 40).toInt from by omega) (show ((ps_a s 1134 (Int32.toNatClampNeg ((x3 + 1) + x5))) - 40).toInt < 20 from by omega)) ?_
          refine ms_259 J (show (25789 : Int) % 41 = 0 from by omega) (show 0 ≤ (25789 : Int) from by omega) (show (25789 : Int) < 27306 from by omega) (show (25789 : Int) % 41 = 0 from by omega) (show 0 ≤ (25789 : Int) from by omega) (show (25789 : Int) < 27306 from by omega) (show 0 ≤ x4.toInt from by omega) (show x4.toInt ≤ 41 from by omega) (show 0 ≤ (v13 - x4).toInt from by omega) (show (v13 - x4).toInt ≤ 41 from by omega) (show 0 ≤ (ps_a s 1167 (Int32.toNatClampNeg ((ps_a s 1134 (Int32.toNatClampNeg ((x3 + 1) + x5))) - 40))).toInt from by omega) (show (ps_a s 1167 (Int32.toNatClampNeg ((ps_a s 1134 (Int32.toNatClampNeg ((x3 + 1) + x5))) - 40))).toInt ≤ 41 from by omega) (fun v29 p29_0 b29 => ?_)
          have p29_0' : v29.toInt = 0 ∨ (ps_a s 1167 (Int32.toNatClampNeg ((ps_a s 1134 (Int32.toNatClampNeg ((x3 + 1) + x5))) - 40))).toInt + (v13 - x4).toInt ≤ (ps_a s 1134 (Int32.toNatClampNeg (25789 : Int32))).toInt := p29_0
          have r30 : (25789 : Int) % 41 = 0 → (25789 : Int) < 27306 → 0 ≤ (ps_a s 1134 (Int32.toNatClampNeg (25789 : Int32))).toInt ∧ (ps_a s 1134 (Int32.toNatClampNeg (25789 : Int32))).toInt ≤ 40 := fun z1 z2 => mp_row (i := (25789 : Int32)) J z1 (show 0 ≤ (25789 : Int) from by omega) z2
          refine And.intro (fun h31 => ?_) (fun h31 => ?_)
          · have f32 : v29.toInt ≠ (0 : Int) := xne h31
            refine ps_nd_i (show pm_in ((ps_a s 1134 (Int32.toNatClampNeg ((x3 + 1) + x5))) - 40) 20 = true from xgi (show 0 ≤ ((ps_a s 1134 (Int32.toNatClampNeg ((x3 + 1) + x5))) - 40).toInt from by omega) (show ((ps_a s 1134 (Int32.toNatClampNeg ((x3 + 1) + x5))) - 40).toInt < 20 from by omega)) ?_
            have J33 := mwa_1167 (i := (Int32.toNatClampNeg ((ps_a s 1134 (Int32.toNatClampNeg ((x3 + 1) + x5))) - 40))) (v := x4) J (show -1 ≤ x4.toInt from by omega) (show x4.toInt ≤ 40 from by omega)
            have K34 := kpa' K (r := 1167) (i := (Int32.toNatClampNeg ((ps_a s 1134 (Int32.toNatClampNeg ((x3 + 1) + x5))) - 40))) (v := x4) rfl
            have z1 : ps_a (ps_ua s 1167 (Int32.toNatClampNeg ((ps_a s 1134 (Int32.toNatClampNeg ((x3 + 1) + x5))) - 40)) x4) 1167 (Int32.toNatClampNeg ((ps_a s 1134 (Int32.toNatClampNeg ((x3 + 1) + x5))) - 40)) = x4 := ua_eq
            refine ps_nd_i (show pm_in ((ps_a s 1134 (Int32.toNatClampNeg ((x3 + 1) + x5))) - 40) 20 = true from xgi (show 0 ≤ ((ps_a s 1134 (Int32.toNatClampNeg ((x3 + 1) + x5))) - 40).toInt from by omega) (show ((ps_a s 1134 (Int32.toNatClampNeg ((x3 + 1) + x5))) - 40).toInt < 20 from by omega)) ?_
            have J35 := mwa_1168 (i := (Int32.toNatClampNeg ((ps_a s 1134 (Int32.toNatClampNeg ((x3 + 1) + x5))) - 40))) (v := v13) J33 (show 0 ≤ v13.toInt from by omega) (show v13.toInt ≤ 40 from by omega)
            have K36 := kpa' K34 (r := 1168) (i := (Int32.toNatClampNeg ((ps_a s 1134 (Int32.toNatClampNeg ((x3 + 1) + x5))) - 40))) (v := v13) rfl
            have z2 : ps_a (ps_ua (ps_ua s 1167 (Int32.toNatClampNeg ((ps_a s 1134 (Int32.toNatClampNeg ((x3 + 1) + x5))) - 40)) x4) 1168 (Int32.toNatClampNeg ((ps_a s 1134 (Int32.toNatClampNeg ((x3 + 1) + x5))) - 40)) v13) 1168 (Int32.toNatClampNeg ((ps_a s 1134 (Int32.toNatClampNeg ((x3 + 1) + x5))) - 40)) = v13 := ua_eq
            have z1b : ps_a (ps_ua (ps_ua s 1167 (Int32.toNatClampNeg ((ps_a s 1134 (Int32.toNatClampNeg ((x3 + 1) + x5))) - 40)) x4) 1168 (Int32.toNatClampNeg ((ps_a s 1134 (Int32.toNatClampNeg ((x3 + 1) + x5))) - 40)) v13) 1167 (Int32.toNatClampNeg ((ps_a s 1134 (Int32.toNatClampNeg ((x3 + 1) + x5))) - 40)) = x4 := z1
            have e7 : (Int32.toNatClampNeg ((ps_a s 1134 (Int32.toNatClampNeg ((x3 + 1) + x5))) - 40)) = c - 40 := by rw [nx (n := (c : Int) - 40) (by omega)]; omega
            have zf : ∀ j, j ≠ (Int32.toNatClampNeg ((ps_a s 1134 (Int32.toNatClampNeg ((x3 + 1) + x5))) - 40)) → ps_a (ps_ua (ps_ua s 1167 (Int32.toNatClampNeg ((ps_a s 1134 (Int32.toNatClampNeg ((x3 + 1) + x5))) - 40)) x4) 1168 (Int32.toNatClampNeg ((ps_a s 1134 (Int32.toNatClampNeg ((x3 + 1) + x5))) - 40)) v13) 1167 j = ps_a s 1167 j := fun j hj => (ua_ne hj).trans (ua_ne hj)
            have zt : ∀ j, j ≠ (Int32.toNatClampNeg ((ps_a s 1134 (Int32.toNatClampNeg ((x3 + 1) + x5))) - 40)) → ps_a (ps_ua (ps_ua s 1167 (Int32.toNatClampNeg ((ps_a s 1134 (Int32.toNatClampNeg ((x3 + 1) + x5))) - 40)) x4) 1168 (Int32.toNatClampNeg ((ps_a s 1134 (Int32.toNatClampNeg ((x3 + 1) + x5))) - 40)) v13) 1168 j = ps_a s 1168 j := fun j hj => (ua_ne hj).trans (ua_ne hj)
            have zb : BS σ nl (ps_a (ps_ua (ps_ua s 1167 (Int32.toNatClampNeg ((ps_a s 1134 (Int32.toNatClampNeg ((x3 + 1) + x5))) - 40)) x4) 1168 (Int32.toNatClampNeg ((ps_a s 1134 (Int32.toNatClampNeg ((x3 + 1) + x5))) - 40)) v13) 1167 (Int32.toNatClampNeg ((ps_a s 1134 (Int32.toNatClampNeg ((x3 + 1) + x5))) - 40))).toInt (ps_a (ps_ua (ps_ua s 1167 (Int32.toNatClampNeg ((ps_a s 1134 (Int32.toNatClampNeg ((x3 + 1) + x5))) - 40)) x4) 1168 (Int32.toNatClampNeg ((ps_a s 1134 (Int32.toNatClampNeg ((x3 + 1) + x5))) - 40)) v13) 1168 (Int32.toNatClampNeg ((ps_a s 1134 (Int32.toNatClampNeg ((x3 + 1) + x5))) - 40))).toInt := ⟨n1 ++ ma, tm, mb3, (by rw [i5, i6, htm]; simp), (by rw [z1b, llen]; exact i7), (by rw [z2, llen]; omega), hw3⟩
            have zg : ∀ j, 0 ≤ (ps_a s 1167 j).toInt → 0 ≤ (ps_a (ps_ua (ps_ua s 1167 (Int32.toNatClampNeg ((ps_a s 1134 (Int32.toNatClampNeg ((x3 + 1) + x5))) - 40)) x4) 1168 (Int32.toNatClampNeg ((ps_a s 1134 (Int32.toNatClampNeg ((x3 + 1) + x5))) - 40)) v13) 1167 j).toInt := fun j hj => (by by_cases e : j = (Int32.toNatClampNeg ((ps_a s 1134 (Int32.toNatClampNeg ((x3 + 1) + x5))) - 40)); (rw [e, z1b]; omega); (rw [zf j e]; exact hj))
            have zc : 0 ≤ (ps_a (ps_ua (ps_ua s 1167 (Int32.toNatClampNeg ((ps_a s 1134 (Int32.toNatClampNeg ((x3 + 1) + x5))) - 40)) x4) 1168 (Int32.toNatClampNeg ((ps_a s 1134 (Int32.toNatClampNeg ((x3 + 1) + x5))) - 40)) v13) 1167 (c - 40)).toInt := by rw [← e7, z1b]; omega
            have hnew : ∃ (ma9 mb9 p8 p9 : List Nat) (W9 : List Bool), n2 = ma9 ++ mb9 ∧ (n1.length : Int) + (ma9.length : Int) = v13.toInt ∧ p = p8 ++ p9 ∧ (p8.length : Int) = (p1.length : Int) + 1 ∧ ws σ p9 W9 ∧ ws σ mb9 (W9 ++ W0) ∧ BA σ nl (ps_a (ps_ua (ps_ua s 1167 (Int32.toNatClampNeg ((ps_a s 1134 (Int32.toNatClampNeg ((x3 + 1) + x5))) - 40)) x4) 1168 (Int32.toNatClampNeg ((ps_a s 1134 (Int32.toNatClampNeg ((x3 + 1) + x5))) - 40)) v13) 1167) (ps_a (ps_ua (ps_ua s 1167 (Int32.toNatClampNeg ((ps_a s 1134 (Int32.toNatClampNeg ((x3 + 1) + x5))) - 40)) x4) 1168 (Int32.toNatClampNeg ((ps_a s 1134 (Int32.toNatClampNeg ((x3 + 1) + x5))) - 40)) v13) 1168) ∧ BB (ps_a (ps_ua (ps_ua s 1167 (Int32.toNatClampNeg ((ps_a s 1134 (Int32.toNatClampNeg ((x3 + 1) + x5))) - 40)) x4) 1168 (Int32.toNatClampNeg ((ps_a s 1134 (Int32.toNatClampNeg ((x3 + 1) + x5))) - 40)) v13) 1167) p8 := ⟨ma ++ tm, mb3, p1 ++ [c], p3, W2, (by rw [i6, htm]; simp), (by rw [llen]; omega), i8.trans (lcat p1 c p3), l1c, hw, hw4, BA_put i12 zf zt zb, BB_snoc i13 zg (fun _ => zc)⟩
            have a37 : (x5 + 1).toInt = x5.toInt + (1 : Int) := xIa (show -2147483648 ≤ x5.toInt + (1 : Int) from by omega) (show x5.toInt + (1 : Int) < 2147483648 from by omega)
            obtain ⟨ma9, mb9, p8, p9, W9, e1, e2, e3, e4, e5, e6, e8, e9⟩ := hnew
            have hp9 : (p.length : Int) = p8.length + p9.length := by rw [e3]; exact llen
            exact ih (n - 1) (show n - 1 < n from by omega) x3 v13 (x5 + 1) ma9 mb9 p8 p9 W9 _ J35 K36 hS hR hN (i3) (by assumption) (by assumption) (e1) ((show (v13).toInt = (n1.length : Int) + (ma9.length : Int) from by omega)) (e3) ((show ((x5 + 1)).toInt = (l0.length : Int) + 1 + (p8.length : Int) from by omega)) (e5) (e6) (e8) (e9) (show (p9.length : Int) ≤ ((n - 1 : Nat) : Int) from by omega)
          · have f38 : v29.toInt = (0 : Int) := xeq h31
            exact k (0 : Int32) _ J K (fun z => absurd Int32.toInt_zero z) (by decide)
    · have f39 : (ps_a s 1134 (Int32.toNatClampNeg ((x3 + 1) + x5))).toInt < (40 : Int) := xlt h10
      refine pg_220_0 ?_
      have a40 : ((25789 : Int32) + 1).toInt = (25789 : Int) + (1 : Int) := xIa (show -2147483648 ≤ (25789 : Int) + (1 : Int) from by omega) (show (25789 : Int) + (1 : Int) < 2147483648 from by omega)
      have a41 : (((25789 : Int32) + 1) + x4).toInt = ((25789 : Int32) + 1).toInt + x4.toInt := xIa (show -2147483648 ≤ ((25789 : Int32) + 1).toInt + x4.toInt from by omega) (show ((25789 : Int32) + 1).toInt + x4.toInt < 2147483648 from by omega)
      refine ps_nd_i (show pm_in (((25789 : Int32) + 1) + x4) 27400 = true from xgi (show 0 ≤ (((25789 : Int32) + 1) + x4).toInt from by omega) (show (((25789 : Int32) + 1) + x4).toInt < 27400 from by omega)) ?_
      have r42 : (((25789 : Int32) + 1) + x4).toInt % 41 = 0 → (((25789 : Int32) + 1) + x4).toInt < 27306 → 0 ≤ (ps_a s 1134 (Int32.toNatClampNeg (((25789 : Int32) + 1) + x4))).toInt ∧ (ps_a s 1134 (Int32.toNatClampNeg (((25789 : Int32) + 1) + x4))).toInt ≤ 40 := fun z1 z2 => mp_row (i := (((25789 : Int32) + 1) + x4)) J z1 (show 0 ≤ (((25789 : Int32) + 1) + x4).toInt from by omega) z2
      have hd : ((ps_a s 1134 (Int32.toNatClampNeg (((25789 : Int32) + 1) + x4)))).toInt = (d : Int) := Rw_p (l1 := n1 ++ ma) (l2 := mb2) hN (by rw [i5, i6]; simp) (by rw [llen]; exact i7)
      refine And.intro (fun h43 => ?_) (fun h43 => ?_)
      · have f44 : (ps_a s 1134 (Int32.toNatClampNeg (((25789 : Int32) + 1) + x4))).toInt = (ps_a s 1134 (Int32.toNatClampNeg ((x3 + 1) + x5))).toInt := xeq h43
        have e : d = c := by omega
        subst e
        obtain ⟨ks2, hk2, hw2⟩ := ws_hd (show ws σ (d :: mb2) (bb :: (W2 ++ W0)) from i11)
        rw [hk] at hk2
        cases hk2
        have hnew : ∃ (ma9 mb9 p8 p9 : List Nat) (W9 : List Bool), n2 = ma9 ++ mb9 ∧ (n1.length : Int) + (ma9.length : Int) = x4.toInt + 1 ∧ p = p8 ++ p9 ∧ (p8.length : Int) = (p1.length : Int) + 1 ∧ ws σ p9 W9 ∧ ws σ mb9 (W9 ++ W0) ∧ BA σ nl (ps_a s 1167) (ps_a s 1168) ∧ BB (ps_a s 1167) p8 := ⟨ma ++ [d], mb2, p1 ++ [d], p3, ks ++ W2, i6.trans (lcat ma d mb2), (by rw [l1c]; omega), i8.trans (lcat p1 d p3), l1c, hw, (by rw [List.append_assoc]; exact hw2), i12, BB_snoc i13 (fun _ z => z) (fun z => by omega)⟩
        have a45 : (x4 + 1).toInt = x4.toInt + (1 : Int) := xIa (show -2147483648 ≤ x4.toInt + (1 : Int) from by omega) (show x4.toInt + (1 : Int) < 2147483648 from by omega)
        have a46 : (x5 + 1).toInt = x5.toInt + (1 : Int) := xIa (show -2147483648 ≤ x5.toInt + (1 : Int) from by omega) (show x5.toInt + (1 : Int) < 2147483648 from by omega)
        obtain ⟨ma9, mb9, p8, p9, W9, e1, e2, e3, e4, e5, e6, e8, e9⟩ := hnew
        have hp9 : (p.length : Int) = p8.length + p9.length := by rw [e3]; exact llen
        exact ih (n - 1) (show n - 1 < n from by omega) x3 (x4 + 1) (x5 + 1) ma9 mb9 p8 p9 W9 _ J K hS hR hN (i3) (by assumption) (by assumption) (e1) ((show ((x4 + 1)).toInt = (n1.length : Int) + (ma9.length : Int) from by omega)) (e3) ((show ((x5 + 1)).toInt = (l0.length : Int) + 1 + (p8.length : Int) from by omega)) (e5) (e6) (e8) (e9) (show (p9.length : Int) ≤ ((n - 1 : Nat) : Int) from by omega)
      · have f47 : (ps_a s 1134 (Int32.toNatClampNeg (((25789 : Int32) + 1) + x4))).toInt ≠ (ps_a s 1134 (Int32.toNatClampNeg ((x3 + 1) + x5))).toInt := xne h43
        exact k (0 : Int32) _ J K (fun z => absurd Int32.toInt_zero z) (by decide)

theorem ms_286_12 {x : Nat → Nat → Nat} {t : Int32} {d : Nat} {s0 : ps_S} {σ : mSig} {l nl l0 p q n1 n2 : List Nat} {W0 : List Bool} {x1 : Int32} {x2 : Int32} {Q : Option Value → ps_S → Prop} (k : ∀ (v : Int32) (s' : ps_S), mJ x t s' → kp [1167, 1168] [65] s0 s' → (v.toInt ≠ 0 → ∃ mt n3, n2 = mt ++ n3 ∧ ws σ n3 W0 ∧ (ps_i s' 1131 65).toInt = (n1.length : Int) + (mt.length : Int) ∧ BA σ nl (ps_a s' 1167) (ps_a s' 1168) ∧ BB (ps_a s' 1167) p) → v &&& 1 = v → Q (some (.int v)) s') : ∀ (n : Nat) (x3 : Int32) (x4 : Int32) (s : ps_S), (mJ x t s) → (kp [1167, 1168] [65] s0 s) → (Sg (ps_a s 1135) (ps_a s 1136) (ps_a s 1138) (ps_a s 1139) (ps_i s 1131 21).toInt σ) → (Rw (ps_a s 1134) x3.toInt l) → (Rw (ps_a s 1134) (25789 : Int32).toInt nl) → (RL σ l l0 p q (ps_i s 1131 63).toInt (ps_i s 1131 64).toInt) → (∀ x, x ∈ l → x < 60) → (nl = n1 ++ n2) → (x2.toInt = (n1.length : Int)) → (ws σ n2 (false :: W0)) → (0 ≤ x4.toInt) → (x4.toInt ≤ 20) → (∀ i : Nat, (i : Int) < x4.toInt → (ps_a s 1167 i).toInt = -1) → 30 - x4.toInt ≤ (n : Int) → ps_At (d + 2) 286 12 [(0, .ref 1131), (2, .int x2), (3, .int x3), (4, .int x4)] [] s Q := by
  refine xstr (fun n ih => ?_)
  intro x3 x4 s J K hS hR hN i3 i4 i5 i6 i7 i8 i9 i10 hm
  refine pg_286_12 (d := d + 1) ?_
  have ex : Int32.toNatClampNeg x4 = x4.toInt.toNat := rfl
  refine And.intro (fun h1 => ?_) (fun h1 => ?_)
  · have f2 : (20 : Int) ≤ x4.toInt := xle h1
    obtain ⟨g1, g2, g3, g4, g5, g6⟩ := id i3
    have g2 : (ps_i s 1131 63).toInt = (l0.length : Int) + 1 := g2
    have i6 : x2.toInt = (n1.length : Int) := i6
    have r3 := mf_63 J
    exact ms_286_42 (x1 := x1) (x2 := x2) (σ := σ) (l := l) (nl := nl) (l0 := l0) (p := p) (q := q) (n1 := n1) (n2 := n2) (W0 := W0) k  ((p.length : Int)).toNat x3 x2 (ps_i s 1131 63) [] n2 [] p [false] _ J K hS hR hN (i3) (by assumption) (by assumption) (rfl) ((show (x2).toInt = (n1.length : Int) + (([] : List Nat).length : Int) from by rw [List.length_nil]; omega)) (rfl) ((show ((ps_i s 1131 63)).toInt = (l0.length : Int) + 1 + (([] : List Nat).length : Int) from by rw [List.length_nil]; omega)) (g4) (i7) (BA_0 (fun i hi => i10 i (by omega))) ((fun x hx => by cases hx)) (show (p.length : Int) ≤ ((((p.length : Int)).toNat : Nat) : Int) from by omega)
  · have f4 : x4.toInt < (20 : Int) := xlt h1
    refine ps_nd_i (show pm_in x4 20 = true from xgi (show 0 ≤ x4.toInt from by omega) (show x4.toInt < 20 from by omega)) ?_
    have J5 := mwa_1167 (i := (Int32.toNatClampNeg x4)) (v := (-1 : Int32)) J (show -1 ≤ (-1 : Int) from by omega) (show (-1 : Int) ≤ 40 from by omega)
    have K6 := kpa' K (r := 1167) (i := (Int32.toNatClampNeg x4)) (v := (-1 : Int32)) rfl
    have a7 : (x4 + 1).toInt = x4.toInt + (1 : Int) := xIa (show -2147483648 ≤ x4.toInt + (1 : Int) from by omega) (show x4.toInt + (1 : Int) < 2147483648 from by omega)
    exact ih (n - 1) (show n - 1 < n from by omega) x3 (x4 + 1) _ J5 K6 hS hR hN (by assumption) (by assumption) (by assumption) (by assumption) (by assumption) (show 0 ≤ (x4 + 1).toInt from by omega) (show (x4 + 1).toInt ≤ 20 from by omega) (fun i hi => (by by_cases e : i = Int32.toNatClampNeg x4; (rw [e, ua_eq]; decide); exact (congrArg Int32.toInt (ua_ne e)).trans (i10 i (by omega)))) (show 30 - (x4 + 1).toInt ≤ ((n - 1 : Nat) : Int) from by omega)

theorem ms_286 {x : Nat → Nat → Nat} {t : Int32} {s : ps_S} {d : Nat} {x1 : Int32} {x2 : Int32} {f : Int32 → ps_S → Prop} (J : mJ x t s) {σ : mSig} {l nl l0 p q n1 n2 : List Nat} {W0 : List Bool} (hS : Sg (ps_a s 1135) (ps_a s 1136) (ps_a s 1138) (ps_a s 1139) (ps_i s 1131 21).toInt σ) (q1 : Rw (ps_a s 1134) (21812 + 41 * (8 * (ps_i s 1131 21).toInt + x1.toInt)) l) (q2 : RL σ l l0 p q (ps_i s 1131 63).toInt (ps_i s 1131 64).toInt) (q3 : ∀ x, x ∈ l → x < 60) (hN : Rw (ps_a s 1134) (25789 : Int32).toInt nl) (q5 : nl = n1 ++ n2) (q6 : x2.toInt = (n1.length : Int)) (q7 : ws σ n2 (false :: W0)) (q8 : 0 ≤ x1.toInt) (q9 : x1.toInt ≤ 7) (k : ∀ (v : Int32) (s' : ps_S), mJ x t s' → kp [1167, 1168] [65] s s' → (v.toInt ≠ 0 → ∃ mt n3, n2 = mt ++ n3 ∧ ws σ n3 W0 ∧ (ps_i s' 1131 65).toInt = (n1.length : Int) + (mt.length : Int) ∧ BA σ nl (ps_a s' 1167) (ps_a s' 1168) ∧ BB (ps_a s' 1167) p) → v &&& 1 = v → f v s') : ps_Cl (d + 2) 286 [.ref 1131, .int x1, .int x2] s (ps_rI f) := by
  have K : kp [1167, 1168] [65] s s := kp_refl
  refine pg_286_0 (d := d + 1) ?_
  have r1 := mf_21 J
  refine pg_283_0 ?_
  have a2 : ((8 : Int32) * (ps_i s 1131 21)).toInt = (8 : Int) * (ps_i s 1131 21).toInt := xIm (show -2147483648 ≤ (8 : Int) * (ps_i s 1131 21).toInt from by omega) (show (8 : Int) * (ps_i s 1131 21).toInt < 2147483648 from by omega)
  have a3 : (((8 : Int32) * (ps_i s 1131 21)) + x1).toInt = ((8 : Int32) * (ps_i s 1131 21)).toInt + x1.toInt := xIa (show -2147483648 ≤ ((8 : Int32) * (ps_i s 1131 21)).toInt + x1.toInt from by omega) (show ((8 : Int32) * (ps_i s 1131 21)).toInt + x1.toInt < 2147483648 from by omega)
  have a4 : ((41 : Int32) * (((8 : Int32) * (ps_i s 1131 21)) + x1)).toInt = (41 : Int) * (((8 : Int32) * (ps_i s 1131 21)) + x1).toInt := xIm (show -2147483648 ≤ (41 : Int) * (((8 : Int32) * (ps_i s 1131 21)) + x1).toInt from by omega) (show (41 : Int) * (((8 : Int32) * (ps_i s 1131 21)) + x1).toInt < 2147483648 from by omega)
  have a5 : ((21812 : Int32) + ((41 : Int32) * (((8 : Int32) * (ps_i s 1131 21)) + x1))).toInt = (21812 : Int) + ((41 : Int32) * (((8 : Int32) * (ps_i s 1131 21)) + x1)).toInt := xIa (show -2147483648 ≤ (21812 : Int) + ((41 : Int32) * (((8 : Int32) * (ps_i s 1131 21)) + x1)).toInt from by omega) (show (21812 : Int) + ((41 : Int32) * (((8 : Int32) * (ps_i s 1131 21)) + x1)).toInt < 2147483648 from by omega)
  exact ms_286_12 (x1 := x1) (x2 := x2) (σ := σ) (l := l) (nl := nl) (l0 := l0) (p := p) (q := q) (n1 := n1) (n2 := n2) (W0 := W0) k  (30 - (0 : Int)).toNat ((21812 : Int32) + ((41 : Int32) * (((8 : Int32) * (ps_i s 1131 21)) + x1))) (0) _ J K hS ((by rw [show (((21812 : Int32) + ((41 : Int32) * (((8 : Int32) * (ps_i s 1131 21)) + x1)))).toInt = 21812 + 41 * (8 * (ps_i s 1131 21).toInt + x1.toInt) from by omega]; exact q1)) hN (by assumption) (by assumption) (by assumption) (by assumption) (by assumption) (show 0 ≤ (0 : Int) from by omega) (show (0 : Int) ≤ 20 from by omega) (fun i hi => absurd hi (by rw [Int32.toInt_zero]; omega)) (show 30 - (0 : Int) ≤ (((30 - (0 : Int)).toNat : Nat) : Int) from by omega)
end
section
set_option maxRecDepth 100000
-- ProofBenchModel.rewrites()Z
theorem pg_287_0 {d : Nat} {s : ps_S} {Q : Option Value → ps_S → Prop} (h :
  ps_At (d + 1) 287 2 [(0, .ref 1131), (1, .int 0)] [] s Q) : ps_At (d + 1) 287 0 [(0, .ref 1131)] [] s Q :=
  ps_wp_at (stops := [(2, [0, 1]), (15, [0, 1, 2]), (77, [0, 3, 4])]) (n := 4) h rfl

theorem pg_287_2 {d : Nat} {x1 : Int32} {s : ps_S} {Q : Option Value → ps_S → Prop} (h :
  ps_Cl d 219 [.ref 1131, .int 25789] s (ps_rI (fun v1 s1 =>
    (v1 ≤ x1 →
      Q (some (.int 0)) s1) ∧
    (x1 < v1 →
      ps_At (d + 1) 287 15 [(0, .ref 1131), (1, .int x1), (2, .int 0)] [] s1 Q)))) : ps_At (d + 1) 287 2 [(0, .ref 1131), (1, .int x1)] [] s Q :=
  ps_wp_at (stops := [(2, [0, 1]), (15, [0, 1, 2]), (77, [0, 3, 4])]) (n := 11) h rfl

theorem pg_287_15 {d : Nat} {x1 : Int32} {x2 : Int32} {s : ps_S} {Q : Option Value → ps_S → Prop} (h :
  ps_nd (pm_in (ps_i s 1131 21) 2) (((ps_a s 1137 (Int32.toNatClampNeg (ps_i s 1131 21))) ≤ x2 →
    ps_At (d + 1) 287 2 [(0, .ref 1131), (1, .int (x1 + 1))] [] s Q) ∧
  (x2 < (ps_a s 1137 (Int32.toNatClampNeg (ps_i s 1131 21))) →
    ps_Cl d 284 [.ref 1131, .int x2] s (ps_rI (fun v1 s1 =>
      (v1 = 0 →
        ps_At (d + 1) 287 15 [(0, .ref 1131), (1, .int x1), (2, .int (x2 + 1))] [] s1 Q) ∧
      (v1 ≠ 0 →
        ps_Cl d 286 [.ref 1131, .int x2, .int x1] s1 (ps_rI (fun v2 s2 =>
          (v2 ≠ 0 →
            ps_Cl d 283 [.int (ps_i s2 1131 21), .int x2] s2 (ps_rI (fun v3 s3 =>
              ps_Cl d 226 [.ref 1131, .int 25789, .int 0, .int x1] (ps_ui s3 1131 34 0) (ps_rV (fun s4 =>
                ps_At (d + 1) 287 77 [(0, .ref 1131), (3, .int v3), (4, .int (ps_i s4 1131 64))] [] s4 Q))))) ∧
          (v2 = 0 →
            ps_At (d + 1) 287 15 [(0, .ref 1131), (1, .int x1), (2, .int (x2 + 1))] [] s2 Q))))))))) : ps_At (d + 1) 287 15 [(0, .ref 1131), (1, .int x1), (2, .int x2)] [] s Q :=
  ps_wp_at (stops := [(2, [0, 1]), (15, [0, 1, 2]), (77, [0, 3, 4])]) (n := 41) h rfl

theorem pg_287_77 {d : Nat} {x3 : Int32} {x4 : Int32} {s : ps_S} {Q : Option Value → ps_S → Prop} (h :
  ps_Cl d 219 [.ref 1131, .int x3] s (ps_rI (fun v1 s1 =>
    (v1 ≤ x4 →
      ps_Cl d 219 [.ref 1131, .int 25789] s1 (ps_rI (fun v2 s2 =>
        ps_Cl d 226 [.ref 1131, .int 25789, .int (ps_i s1 1131 65), .int v2] s2 (ps_rV (fun s3 =>
          Q (some (.int 1)) s3))))) ∧
    (x4 < v1 →
      ps_Cl d 220 [.ref 1131, .int x3, .int x4] s1 (ps_rI (fun v4 s4 =>
        (40 ≤ v4 →
          ps_nd (pm_in (v4 - 40) 20) (ps_nd (pm_in (v4 - 40) 20) (ps_Cl d 226 [.ref 1131, .int 25789, .int (ps_a s4 1167 (Int32.toNatClampNeg (v4 - 40))), .int (ps_a s4 1168 (Int32.toNatClampNeg (v4 - 40)))] s4 (ps_rV (fun s5 =>
            ps_At (d + 1) 287 77 [(0, .ref 1131), (3, .int x3), (4, .int (x4 + 1))] [] s5 Q))))) ∧
        (v4 < 40 →
          ps_Cl d 225 [.ref 1131, .int v4] s4 (ps_rV (fun s6 =>
            ps_At (d + 1) 287 77 [(0, .ref 1131), (3, .int x3), (4, .int (x4 + 1))] [] s6 Q))))))))) : ps_At (d + 1) 287 77 [(0, .ref 1131), (3, .int x3), (4, .int x4)] [] s Q :=
  ps_wp_at (stops := [(2, [0, 1]), (15, [0, 1, 2]), (77, [0, 3, 4])]) (n := 48) h rfl

theorem ms_287_77 {x : Nat → Nat → Nat} {t : Int32} {d : Nat} {s0 : ps_S} {σ : mSig} {nl : List Nat} {Q : Option Value → ps_S → Prop} (k : ∀ (v : Int32) (s' : ps_S), mJ x t s' → kp [1149, 1167, 1168] [34, 63, 64, 65] s0 s' → (v.toInt ≠ 0 → ∃ ml, Md (ps_a s' 1149) (ps_i s' 1131 34).toInt ml ∧ ml.length ≤ 9000 ∧ ws σ ml [false]) → v &&& 1 = v → Q (some (.int v)) s') : ∀ (n : Nat) (x3 : Int32) (x4 : Int32) (l : List Nat) (l0 : List Nat) (p : List Nat) (q : List Nat) (y1 : List Nat) (mt : List Nat) (y3 : List Nat) (W0 : List Bool) (q1 : List Nat) (q2 : List Nat) (m1 : List Nat) (s : ps_S), (mJ x t s) → (kp [1149, 1167, 1168] [34, 63, 64, 65] s0 s) → (Sg (ps_a s 1135) (ps_a s 1136) (ps_a s 1138) (ps_a s 1139) (ps_i s 1131 21).toInt σ) → (Rw (ps_a s 1134) x3.toInt l) → (Rw (ps_a s 1134) (25789 : Int32).toInt nl) → (RL σ l l0 p q (ps_i s 1131 63).toInt (ps_i s 1131 64).toInt) → (∀ x, x ∈ l → x < 60) → (nl = y1 ++ (mt ++ y3)) → ((ps_i s 1131 65).toInt = (y1.length : Int) + (mt.length : Int)) → (BA σ nl (ps_a s 1167) (ps_a s 1168)) → (BB (ps_a s 1167) p) → (q = q1 ++ q2) → (x4.toInt = (l0.length : Int) + 1 + (p.length : Int) + (q1.length : Int)) → (rp σ q1 m1) → ((m1.length : Int) ≤ 40 * (q1.length : Int)) → (Md (ps_a s 1149) (ps_i s 1131 34).toInt (y1 ++ m1)) → (ws σ y3 W0) → (∀ m, ws σ m (false :: W0) → ws σ (y1 ++ m) [false]) → (q2.length : Int) ≤ (n : Int) → ps_At (d + 3) 287 77 [(0, .ref 1131), (3, .int x3), (4, .int x4)] [] s Q := by
  refine xstr (fun n ih => ?_)
  intro x3 x4 l l0 p q y1 mt y3 W0 q1 q2 m1 s J K hS hR hN hRLf i4 i5 h65 hBA hBB i9 i10 i11 i12 i13 i14 i15 hm
  refine pg_287_77 (d := d + 2) ?_
  obtain ⟨hr1, hr2, hr3, hr4, hr5, hr6⟩ := id hR
  have hr1 : x3.toInt % 41 = 0 := hr1
  have hr2 : 0 ≤ x3.toInt := hr2
  have hr3 : x3.toInt < 27306 := hr3
  have hr4 : l.length ≤ 40 := hr4
  have hn : (ps_a s 1134 (Int32.toNatClampNeg x3)).toInt = (l.length : Int) := Rw_n hR
  obtain ⟨g1, g2, g3, g4, g5, g6⟩ := id hRLf
  have g2 : (ps_i s 1131 63).toInt = (l0.length : Int) + 1 := g2
  have g3 : (ps_i s 1131 64).toInt = (l0.length : Int) + 1 + (p.length : Int) := g3
  have hl : (l.length : Int) = l0.length + (p.length + q.length + 1) := by rw [g1, llen, llenc, llen]
  have hq : (q.length : Int) = q1.length + q2.length := by rw [i9]; exact llen
  have hnl : (nl.length : Int) = y1.length + (mt.length + y3.length) := by rw [i5, llen, llen]
  have hN4 : nl.length ≤ 40 := hN.2.2.2.1
  have i10 : x4.toInt = (l0.length : Int) + 1 + (p.length : Int) + (q1.length : Int) := i10
  have hnm : ((y1 ++ m1).length : Int) = y1.length + m1.length := llen
  have h34 := i13.1
  refine pg_219_0 ?_
  refine ps_nd_i (show pm_in x3 27400 = true from xgi (show 0 ≤ x3.toInt from by omega) (show x3.toInt < 27400 from by omega)) ?_
  have r1 : x3.toInt % 41 = 0 → x3.toInt < 27306 → 0 ≤ (ps_a s 1134 (Int32.toNatClampNeg x3)).toInt ∧ (ps_a s 1134 (Int32.toNatClampNeg x3)).toInt ≤ 40 := fun z1 z2 => mp_row (i := x3) J z1 (show 0 ≤ x3.toInt from by omega) z2
  refine And.intro (fun h2 => ?_) (fun h2 => ?_)
  · have f3 : (ps_a s 1134 (Int32.toNatClampNeg x3)).toInt ≤ x4.toInt := xle h2
    have e0 := lnil (W := q2) (by omega)
    subst e0
    rw [List.append_nil] at i9
    subst i9
    have r4 := mf_65 J
    refine pg_219_0 ?_
    refine ps_nd_i (show pm_in (25789 : Int32) 27400 = true from xgi (show 0 ≤ (25789 : Int) from by omega) (show (25789 : Int) < 27400 from by omega)) ?_
    have r5 : (25789 : Int) % 41 = 0 → (25789 : Int) < 27306 → 0 ≤ (ps_a s 1134 (Int32.toNatClampNeg (25789 : Int32))).toInt ∧ (ps_a s 1134 (Int32.toNatClampNeg (25789 : Int32))).toInt ≤ 40 := fun z1 z2 => mp_row (i := (25789 : Int32)) J z1 (show 0 ≤ (25789 : Int) from by omega) z2
    refine ms_226 J ((show Rw (ps_a s 1134) ((25789 : Int32)).toInt ((y1 ++ mt) ++ (y3 ++ [])) from by rw [List.append_nil, List.append_assoc, ← i5]; exact hN)) (i13) ((show ((ps_i s 1131 65)).toInt = ((y1 ++ mt).length : Int) from by rw [llen]; exact h65)) ((Or.inl ((Rw_n hN).trans (by rw [i5, llen, llen, llen]; omega)))) ((by omega)) (fun s6 J6 K6 p6_0 => ?_)
    have K7 := kpt K K6 rfl rfl
    have hS : Sg (ps_a s6 1135) (ps_a s6 1136) (ps_a s6 1138) (ps_a s6 1139) (ps_i s6 1131 21).toInt σ := by rw [show ps_a s6 1135 = ps_a s 1135 from (K6.2 1135 rfl).1, show ps_a s6 1136 = ps_a s 1136 from (K6.2 1136 rfl).1, show ps_a s6 1138 = ps_a s 1138 from (K6.2 1138 rfl).1, show ps_a s6 1139 = ps_a s 1139 from (K6.2 1139 rfl).1, show ps_i s6 1131 21 = ps_i s 1131 21 from kp_i K6 21 rfl]; exact hS
    have hR : Rw (ps_a s6 1134) x3.toInt l := by rw [show ps_a s6 1134 = ps_a s 1134 from (K6.2 1134 rfl).1]; exact hR
    have hN : Rw (ps_a s6 1134) (25789 : Int32).toInt nl := by rw [show ps_a s6 1134 = ps_a s 1134 from (K6.2 1134 rfl).1]; exact hN
    have hRLf : RL σ l l0 p q (ps_i s6 1131 63).toInt (ps_i s6 1131 64).toInt := by rw [show ps_i s6 1131 63 = ps_i s 1131 63 from kp_i K6 63 rfl, show ps_i s6 1131 64 = ps_i s 1131 64 from kp_i K6 64 rfl]; exact hRLf
    have h65 : (ps_i s6 1131 65).toInt = (y1.length : Int) + (mt.length : Int) := by rw [show ps_i s6 1131 65 = ps_i s 1131 65 from kp_i K6 65 rfl]; exact h65
    have hBA : BA σ nl (ps_a s6 1167) (ps_a s6 1168) := by rw [show ps_a s6 1167 = ps_a s 1167 from (K6.2 1167 rfl).1, show ps_a s6 1168 = ps_a s 1168 from (K6.2 1168 rfl).1]; exact hBA
    have hBB : BB (ps_a s6 1167) p := by rw [show ps_a s6 1167 = ps_a s 1167 from (K6.2 1167 rfl).1]; exact hBB
    have hM3 : Md (ps_a s6 1149) (ps_i s6 1131 34).toInt ((y1 ++ m1) ++ y3) := p6_0
    exact k (1 : Int32) _ J6 K7 ((fun _ => ⟨_, hM3, (by simp only [List.length_append]; omega), (by rw [List.append_assoc]; exact i15 _ (ws_app (W1 := [false]) (rp_ws (Sg_σ hS) i11 g5) i14))⟩)) (by decide)
  · have f8 : x4.toInt < (ps_a s 1134 (Int32.toNatClampNeg x3)).toInt := xlt h2
    obtain ⟨c, q3, rfl⟩ := lpos (W := q2) (by omega)
    rw [llenc] at hq hm
    have hc60 : c < 60 := i4 c (by rw [g1, i9]; simp)
    have hcq : c ∈ q := by rw [i9]; simp
    refine pg_220_0 ?_
    have a9 : (x3 + 1).toInt = x3.toInt + (1 : Int) := xIa (show -2147483648 ≤ x3.toInt + (1 : Int) from by omega) (show x3.toInt + (1 : Int) < 2147483648 from by omega)
    have a10 : ((x3 + 1) + x4).toInt = (x3 + 1).toInt + x4.toInt := xIa (show -2147483648 ≤ (x3 + 1).toInt + x4.toInt from by omega) (show (x3 + 1).toInt + x4.toInt < 2147483648 from by omega)
    refine ps_nd_i (show pm_in ((x3 + 1) + x4) 27400 = true from xgi (show 0 ≤ ((x3 + 1) + x4).toInt from by omega) (show ((x3 + 1) + x4).toInt < 27400 from by omega)) ?_
    have r11 : ((x3 + 1) + x4).toInt % 41 = 0 → ((x3 + 1) + x4).toInt < 27306 → 0 ≤ (ps_a s 1134 (Int32.toNatClampNeg ((x3 + 1) + x4))).toInt ∧ (ps_a s 1134 (Int32.toNatClampNeg ((x3 + 1) + x4))).toInt ≤ 40 := fun z1 z2 => mp_row (i := ((x3 + 1) + x4)) J z1 (show 0 ≤ ((x3 + 1) + x4).toInt from by omega) z2
    have hp : ((ps_a s 1134 (Int32.toNatClampNeg ((x3 + 1) + x4)))).toInt = (c : Int) := Rw_p (l1 := l0 ++ 6 :: (p ++ q1)) (l2 := q3) hR (by rw [g1, i9]; simp) (by rw [llen, llenc, llen]; omega)
    refine And.intro (fun h12 => ?_) (fun h12 => ?_)
    · have f13 : (40 : Int) ≤ (ps_a s 1134 (Int32.toNatClampNeg ((x3 + 1) + x4))).toInt := xle h12
      have a14 : ((ps_a s 1134 (Int32.toNatClampNeg ((x3 + 1) + x4))) - 40).toInt = (ps_a s 1134 (Int32.toNatClampNeg ((x3 + 1) + x4))).toInt - (40 : Int) := xIs (show -2147483648 ≤ (ps_a s 1134 (Int32.toNatClampNeg ((x3 + 1) + x4))).toInt - (40 : Int) from by omega) (show (ps_a s 1134 (Int32.toNatClampNeg ((x3 + 1) + x4))).toInt - (40 : Int) < 2147483648 from by omega)
      have e7 : Int32.toNatClampNeg (((ps_a s 1134 (Int32.toNatClampNeg ((x3 + 1) + x4))) - 40)) = c - 40 := by rw [nx (n := (c : Int) - 40) (by omega)]; omega
      refine ps_nd_i (show pm_in ((ps_a s 1134 (Int32.toNatClampNeg ((x3 + 1) + x4))) - 40) 20 = true from xgi (show 0 ≤ ((ps_a s 1134 (Int32.toNatClampNeg ((x3 + 1) + x4))) - 40).toInt from by omega) (show ((ps_a s 1134 (Int32.toNatClampNeg ((x3 + 1) + x4))) - 40).toInt < 20 from by omega)) ?_
      have r15 : -1 ≤ (ps_a s 1167 (Int32.toNatClampNeg ((ps_a s 1134 (Int32.toNatClampNeg ((x3 + 1) + x4))) - 40))).toInt ∧ (ps_a s 1167 (Int32.toNatClampNeg ((ps_a s 1134 (Int32.toNatClampNeg ((x3 + 1) + x4))) - 40))).toInt ≤ 40 := ma_1167 (i := ((ps_a s 1134 (Int32.toNatClampNeg ((x3 + 1) + x4))) - 40)) J (show 0 ≤ ((ps_a s 1134 (Int32.toNatClampNeg ((x3 + 1) + x4))) - 40).toInt from by omega) (show ((ps_a s 1134 (Int32.toNatClampNeg ((x3 + 1) + x4))) - 40).toInt < 20 from by omega)
      refine ps_nd_i (show pm_in ((ps_a s 1134 (Int32.toNatClampNeg ((x3 + 1) + x4))) - 40) 20 = true from xgi (show 0 ≤ ((ps_a s 1134 (Int32.toNatClampNeg ((x3 + 1) + x4))) - 40).toInt from by omega) (show ((ps_a s 1134 (Int32.toNatClampNeg ((x3 + 1) + x4))) - 40).toInt < 20 from by omega)) ?_
      have r16 : 0 ≤ (ps_a s 1168 (Int32.toNatClampNeg ((ps_a s 1134 (Int32.toNatClampNeg ((x3 + 1) + x4))) - 40))).toInt ∧ (ps_a s 1168 (Int32.toNatClampNeg ((ps_a s 1134 (Int32.toNatClampNeg ((x3 + 1) + x4))) - 40))).toInt ≤ 40 := ma_1168 (i := ((ps_a s 1134 (Int32.toNatClampNeg ((x3 + 1) + x4))) - 40)) J (show 0 ≤ ((ps_a s 1134 (Int32.toNatClampNeg ((x3 + 1) + x4))) - 40).toInt from by omega) (show ((ps_a s 1134 (Int32.toNatClampNeg ((x3 + 1) + x4))) - 40).toInt < 20 from by omega)
      obtain ⟨a, tm, d, hb1, hb2, hb3, hb4⟩ := hBA (c - 40) (by omega) (hBB c (g6 c hcq (by omega)) (by omega))
      have htd : (nl.length : Int) = a.length + (tm.length + d.length) := by rw [hb1, llen, llen]
      refine ms_226 J ((show Rw (ps_a s 1134) ((25789 : Int32)).toInt (a ++ (tm ++ d)) from by rw [← hb1]; exact hN)) (i13) ((show ((ps_a s 1167 (Int32.toNatClampNeg ((ps_a s 1134 (Int32.toNatClampNeg ((x3 + 1) + x4))) - 40)))).toInt = (a.length : Int) from by rw [e7]; exact hb2)) ((Or.inl (show ((ps_a s 1168 (Int32.toNatClampNeg ((ps_a s 1134 (Int32.toNatClampNeg ((x3 + 1) + x4))) - 40)))).toInt = (a.length : Int) + (tm.length : Int) from by rw [e7]; exact hb3))) ((by omega)) (fun s17 J17 K17 p17_0 => ?_)
      have K18 := kpt K K17 rfl rfl
      have hS : Sg (ps_a s17 1135) (ps_a s17 1136) (ps_a s17 1138) (ps_a s17 1139) (ps_i s17 1131 21).toInt σ := by rw [show ps_a s17 1135 = ps_a s 1135 from (K17.2 1135 rfl).1, show ps_a s17 1136 = ps_a s 1136 from (K17.2 1136 rfl).1, show ps_a s17 1138 = ps_a s 1138 from (K17.2 1138 rfl).1, show ps_a s17 1139 = ps_a s 1139 from (K17.2 1139 rfl).1, show ps_i s17 1131 21 = ps_i s 1131 21 from kp_i K17 21 rfl]; exact hS
      have hR : Rw (ps_a s17 1134) x3.toInt l := by rw [show ps_a s17 1134 = ps_a s 1134 from (K17.2 1134 rfl).1]; exact hR
      have hN : Rw (ps_a s17 1134) (25789 : Int32).toInt nl := by rw [show ps_a s17 1134 = ps_a s 1134 from (K17.2 1134 rfl).1]; exact hN
      have hRLf : RL σ l l0 p q (ps_i s17 1131 63).toInt (ps_i s17 1131 64).toInt := by rw [show ps_i s17 1131 63 = ps_i s 1131 63 from kp_i K17 63 rfl, show ps_i s17 1131 64 = ps_i s 1131 64 from kp_i K17 64 rfl]; exact hRLf
      have h65 : (ps_i s17 1131 65).toInt = (y1.length : Int) + (mt.length : Int) := by rw [show ps_i s17 1131 65 = ps_i s 1131 65 from kp_i K17 65 rfl]; exact h65
      have hBA : BA σ nl (ps_a s17 1167) (ps_a s17 1168) := by rw [show ps_a s17 1167 = ps_a s 1167 from (K17.2 1167 rfl).1, show ps_a s17 1168 = ps_a s 1168 from (K17.2 1168 rfl).1]; exact hBA
      have hBB : BB (ps_a s17 1167) p := by rw [show ps_a s17 1167 = ps_a s 1167 from (K17.2 1167 rfl).1]; exact hBB
      have hM2 : Md (ps_a s17 1149) (ps_i s17 1131 34).toInt ((y1 ++ m1) ++ tm) := p17_0
      have hnew : ∃ m9 : List Nat, rp σ (q1 ++ [c]) m9 ∧ (m9.length : Int) ≤ 40 * ((q1 ++ [c]).length : Int) ∧ Md (ps_a s17 1149) (ps_i s17 1131 34).toInt (y1 ++ m9) := by first | exact hnew0 | exact ⟨m1 ++ tm, rp_snoc i11 (Or.inr ⟨by omega, by omega, hb4⟩), rp_len (σ := σ) i12 (by omega), (by rw [← List.append_assoc]; exact hM2)⟩
      have a19 : (x4 + 1).toInt = x4.toInt + (1 : Int) := xIa (show -2147483648 ≤ x4.toInt + (1 : Int) from by omega) (show x4.toInt + (1 : Int) < 2147483648 from by omega)
      obtain ⟨m9, e1, e2, e3⟩ := hnew
      exact ih (n - 1) (show n - 1 < n from by omega) x3 (x4 + 1) l l0 p q y1 mt y3 W0 (q1 ++ [c]) q3 m9 _ J17 K18 hS hR hN hRLf (i4) (i5) h65 hBA hBB (i9.trans (lcat q1 c q3)) ((show ((x4 + 1)).toInt = (l0.length : Int) + 1 + (p.length : Int) + ((q1 ++ [c]).length : Int) from by rw [l1c]; omega)) (e1) (e2) (e3) (i14) (i15) (show (q3.length : Int) ≤ ((n - 1 : Nat) : Int) from by omega)
    · have f20 : (ps_a s 1134 (Int32.toNatClampNeg ((x3 + 1) + x4))).toInt < (40 : Int) := xlt h12
      refine pg_225_0 ?_
      have r21 := mf_34 J
      refine And.intro (fun h22 => ?_) (fun h22 => ?_)
      · have f23 : (260 : Int) ≤ (ps_i s 1131 34).toInt := xle h22
        have a24 : ((ps_i s 1131 34) + 1).toInt = (ps_i s 1131 34).toInt + (1 : Int) := xIa (show -2147483648 ≤ (ps_i s 1131 34).toInt + (1 : Int) from by omega) (show (ps_i s 1131 34).toInt + (1 : Int) < 2147483648 from by omega)
        have J25 := mwi_34 (v := ((ps_i s 1131 34) + 1)) J (show 0 ≤ ((ps_i s 1131 34) + 1).toInt from by omega) (show ((ps_i s 1131 34) + 1).toInt ≤ 100000 from by omega)
        have K26 := kpi K (q := 34) (v := ((ps_i s 1131 34) + 1)) rfl
        have hnew0 : ∃ m9 : List Nat, rp σ (q1 ++ [c]) m9 ∧ (m9.length : Int) ≤ 40 * ((q1 ++ [c]).length : Int) ∧ Md (ps_a (ps_ui s 1131 34 ((ps_i s 1131 34) + 1)) 1149) (ps_i (ps_ui s 1131 34 ((ps_i s 1131 34) + 1)) 1131 34).toInt (y1 ++ m9) := ⟨m1 ++ [c], rp_snoc i11 (Or.inl rfl), rp_len (σ := σ) i12 (by rw [List.length_singleton]; decide), (by rw [← List.append_assoc]; first | exact Md_make i13 hp (by omega) | exact Md_make' i13 (by omega) (by omega))⟩
        have hnew : ∃ m9 : List Nat, rp σ (q1 ++ [c]) m9 ∧ (m9.length : Int) ≤ 40 * ((q1 ++ [c]).length : Int) ∧ Md (ps_a (ps_ui s 1131 34 ((ps_i s 1131 34) + 1)) 1149) (ps_i (ps_ui s 1131 34 ((ps_i s 1131 34) + 1)) 1131 34).toInt (y1 ++ m9) := by first | exact hnew0 | exact ⟨m1 ++ tm, rp_snoc i11 (Or.inr ⟨by omega, by omega, hb4⟩), rp_len (σ := σ) i12 (by omega), (by rw [← List.append_assoc]; exact hM2)⟩
        have a27 : (x4 + 1).toInt = x4.toInt + (1 : Int) := xIa (show -2147483648 ≤ x4.toInt + (1 : Int) from by omega) (show x4.toInt + (1 : Int) < 2147483648 from by omega)
        obtain ⟨m9, e1, e2, e3⟩ := hnew
        exact ih (n - 1) (show n - 1 < n from by omega) x3 (x4 + 1) l l0 p q y1 mt y3 W0 (q1 ++ [c]) q3 m9 _ J25 K26 hS hR hN hRLf (i4) (i5) h65 hBA hBB (i9.trans (lcat q1 c q3)) ((show ((x4 + 1)).toInt = (l0.length : Int) + 1 + (p.length : Int) + ((q1 ++ [c]).length : Int) from by rw [l1c]; omega)) (e1) (e2) (e3) (i14) (i15) (show (q3.length : Int) ≤ ((n - 1 : Nat) : Int) from by omega)
      · have f28 : (ps_i s 1131 34).toInt < (260 : Int) := xlt h22
        refine ps_nd_i (show pm_in (ps_i s 1131 34) 260 = true from xgi (show 0 ≤ (ps_i s 1131 34).toInt from by omega) (show (ps_i s 1131 34).toInt < 260 from by omega)) ?_
        have J29 := mwa_n 1149 (i := (Int32.toNatClampNeg (ps_i s 1131 34))) (v := (ps_a s 1134 (Int32.toNatClampNeg ((x3 + 1) + x4)))) J rfl (by decide)
        have K30 := kpa' K (r := 1149) (i := (Int32.toNatClampNeg (ps_i s 1131 34))) (v := (ps_a s 1134 (Int32.toNatClampNeg ((x3 + 1) + x4)))) rfl
        have a31 : ((ps_i s 1131 34) + 1).toInt = (ps_i s 1131 34).toInt + (1 : Int) := xIa (show -2147483648 ≤ (ps_i s 1131 34).toInt + (1 : Int) from by omega) (show (ps_i s 1131 34).toInt + (1 : Int) < 2147483648 from by omega)
        have J32 := mwi_34 (v := ((ps_i s 1131 34) + 1)) J29 (show 0 ≤ ((ps_i s 1131 34) + 1).toInt from by omega) (show ((ps_i s 1131 34) + 1).toInt ≤ 100000 from by omega)
        have K33 := kpi K30 (q := 34) (v := ((ps_i s 1131 34) + 1)) rfl
        have hnew0 : ∃ m9 : List Nat, rp σ (q1 ++ [c]) m9 ∧ (m9.length : Int) ≤ 40 * ((q1 ++ [c]).length : Int) ∧ Md (ps_a (ps_ui (ps_ua s 1149 (Int32.toNatClampNeg (ps_i s 1131 34)) (ps_a s 1134 (Int32.toNatClampNeg ((x3 + 1) + x4)))) 1131 34 ((ps_i s 1131 34) + 1)) 1149) (ps_i (ps_ui (ps_ua s 1149 (Int32.toNatClampNeg (ps_i s 1131 34)) (ps_a s 1134 (Int32.toNatClampNeg ((x3 + 1) + x4)))) 1131 34 ((ps_i s 1131 34) + 1)) 1131 34).toInt (y1 ++ m9) := ⟨m1 ++ [c], rp_snoc i11 (Or.inl rfl), rp_len (σ := σ) i12 (by rw [List.length_singleton]; decide), (by rw [← List.append_assoc]; first | exact Md_make i13 hp (by omega) | exact Md_make' i13 (by omega) (by omega))⟩
        have hnew : ∃ m9 : List Nat, rp σ (q1 ++ [c]) m9 ∧ (m9.length : Int) ≤ 40 * ((q1 ++ [c]).length : Int) ∧ Md (ps_a (ps_ui (ps_ua s 1149 (Int32.toNatClampNeg (ps_i s 1131 34)) (ps_a s 1134 (Int32.toNatClampNeg ((x3 + 1) + x4)))) 1131 34 ((ps_i s 1131 34) + 1)) 1149) (ps_i (ps_ui (ps_ua s 1149 (Int32.toNatClampNeg (ps_i s 1131 34)) (ps_a s 1134 (Int32.toNatClampNeg ((x3 + 1) + x4)))) 1131 34 ((ps_i s 1131 34) + 1)) 1131 34).toInt (y1 ++ m9) := by first | exact hnew0 | exact ⟨m1 ++ tm, rp_snoc i11 (Or.inr ⟨by omega, by omega, hb4⟩), rp_len (σ := σ) i12 (by omega), (by rw [← List.append_assoc]; exact hM2)⟩
        have a34 : (x4 + 1).toInt = x4.toInt + (1 : Int) := xIa (show -2147483648 ≤ x4.toInt + (1 : Int) from by omega) (show x4.toInt + (1 : Int) < 2147483648 from by omega)
        obtain ⟨m9, e1, e2, e3⟩ := hnew
        exact ih (n - 1) (show n - 1 < n from by omega) x3 (x4 + 1) l l0 p q y1 mt y3 W0 (q1 ++ [c]) q3 m9 _ J32 K33 hS hR hN hRLf (i4) (i5) h65 hBA hBB (i9.trans (lcat q1 c q3)) ((show ((x4 + 1)).toInt = (l0.length : Int) + 1 + (p.length : Int) + ((q1 ++ [c]).length : Int) from by rw [l1c]; omega)) (e1) (e2) (e3) (i14) (i15) (show (q3.length : Int) ≤ ((n - 1 : Nat) : Int) from by omega)

theorem ms_287_15 {x : Nat → Nat → Nat} {t : Int32} {d : Nat} {s0 : ps_S} {σ : mSig} {nl : List Nat} {Q : Option Value → ps_S → Prop} (k : ∀ (v : Int32) (s' : ps_S), mJ x t s' → kp [1149, 1167, 1168] [34, 63, 64, 65] s0 s' → (v.toInt ≠ 0 → ∃ ml, Md (ps_a s' 1149) (ps_i s' 1131 34).toInt ml ∧ ml.length ≤ 9000 ∧ ws σ ml [false]) → v &&& 1 = v → Q (some (.int v)) s') (n2 : Nat) (KH2 : ∀ (x1 : Int32) (s : ps_S), (mJ x t s) → (kp [1149, 1167, 1168] [34, 63, 64, 65] s0 s) → (MI σ (ps_a s 1134) (ps_a s 1135) (ps_a s 1136) (ps_a s 1137) (ps_a s 1138) (ps_a s 1139) (ps_a s 1157) (ps_a s 1176) (ps_i s 1131 21).toInt (ps_i s 1131 47).toInt (ps_i s 1131 54).toInt) → (Rw (ps_a s 1134) (25789 : Int32).toInt nl) → (ws σ nl [false]) → (0 ≤ x1.toInt) → (x1.toInt ≤ 40) → (50 - x1.toInt ≤ (n2 : Int) - 1) → ps_At (d + 3) 287 2 [(0, .ref 1131), (1, .int x1)] [] s Q) : ∀ (n : Nat) (x1 : Int32) (x2 : Int32) (s : ps_S), (mJ x t s) → (kp [1149, 1167, 1168] [34, 63, 64, 65] s0 s) → (MI σ (ps_a s 1134) (ps_a s 1135) (ps_a s 1136) (ps_a s 1137) (ps_a s 1138) (ps_a s 1139) (ps_a s 1157) (ps_a s 1176) (ps_i s 1131 21).toInt (ps_i s 1131 47).toInt (ps_i s 1131 54).toInt) → (Rw (ps_a s 1134) (25789 : Int32).toInt nl) → (ws σ nl [false]) → (0 ≤ x1.toInt) → (x1.toInt ≤ 40) → (0 ≤ x2.toInt) → (x2.toInt ≤ 8) → (x1.toInt < (nl.length : Int)) → (50 - x1.toInt ≤ (n2 : Int)) → 20 - x2.toInt ≤ (n : Int) → ps_At (d + 3) 287 15 [(0, .ref 1131), (1, .int x1), (2, .int x2)] [] s Q := by
  refine xstr (fun n ih => ?_)
  intro x1 x2 s J K hMI hN i2 i3 i4 i5 i6 i7 hm2 hm
  refine pg_287_15 (d := d + 2) ?_
  have hN4 := hN.2.2.2.1
  have i7 : x1.toInt < (nl.length : Int) := i7
  have r1 := mf_21 J
  refine ps_nd_i (show pm_in (ps_i s 1131 21) 2 = true from xgi (show 0 ≤ (ps_i s 1131 21).toInt from by omega) (show (ps_i s 1131 21).toInt < 2 from by omega)) ?_
  have r2 : 0 ≤ (ps_a s 1137 (Int32.toNatClampNeg (ps_i s 1131 21))).toInt ∧ (ps_a s 1137 (Int32.toNatClampNeg (ps_i s 1131 21))).toInt ≤ 8 := ma_1137 (i := (ps_i s 1131 21)) J (show 0 ≤ (ps_i s 1131 21).toInt from by omega) (show (ps_i s 1131 21).toInt < 2 from by omega)
  refine And.intro (fun h3 => ?_) (fun h3 => ?_)
  · have f4 : (ps_a s 1137 (Int32.toNatClampNeg (ps_i s 1131 21))).toInt ≤ x2.toInt := xle h3
    have a5 : (x1 + 1).toInt = x1.toInt + (1 : Int) := xIa (show -2147483648 ≤ x1.toInt + (1 : Int) from by omega) (show x1.toInt + (1 : Int) < 2147483648 from by omega)
    exact KH2 (x1 + 1) _ J K hMI hN (by assumption) (show 0 ≤ (x1 + 1).toInt from by omega) (show (x1 + 1).toInt ≤ 40 from by omega) (show 50 - (x1 + 1).toInt ≤ (n2 : Int) - 1 from by omega)
  · have f6 : x2.toInt < (ps_a s 1137 (Int32.toNatClampNeg (ps_i s 1131 21))).toInt := xlt h3
    obtain ⟨l, hl1, hl2, hl3⟩ := MI_ax (k := x2) hMI (by omega) (show (x2).toInt < (ps_a s 1137 (Int32.toNatClampNeg (ps_i s 1131 21))).toInt from by omega) (by omega) rfl
    have hS := MI_S hMI
    have hRl : Rw (ps_a s 1134) (21812 + 41 * (8 * (ps_i s 1131 21).toInt + x2.toInt)) l := hl1
    obtain ⟨bk0, hbk⟩ : ∃ bk0 : Int, (ps_i s 1131 21).toInt = bk0 := ⟨_, rfl⟩
    refine ms_284 J hS (hRl) ((wf_ws hl2)) (show 0 ≤ x2.toInt from by omega) (show x2.toInt ≤ 7 from by omega) (fun v7 s7 J7 K7 p7_0 b7 => ?_)
    have K8 := kpt K K7 rfl rfl
    have hMI : MI σ (ps_a s7 1134) (ps_a s7 1135) (ps_a s7 1136) (ps_a s7 1137) (ps_a s7 1138) (ps_a s7 1139) (ps_a s7 1157) (ps_a s7 1176) (ps_i s7 1131 21).toInt (ps_i s7 1131 47).toInt (ps_i s7 1131 54).toInt := by rw [show ps_a s7 1134 = ps_a s 1134 from (K7.2 1134 rfl).1, show ps_a s7 1135 = ps_a s 1135 from (K7.2 1135 rfl).1, show ps_a s7 1136 = ps_a s 1136 from (K7.2 1136 rfl).1, show ps_a s7 1137 = ps_a s 1137 from (K7.2 1137 rfl).1, show ps_a s7 1138 = ps_a s 1138 from (K7.2 1138 rfl).1, show ps_a s7 1139 = ps_a s 1139 from (K7.2 1139 rfl).1, show ps_a s7 1157 = ps_a s 1157 from (K7.2 1157 rfl).1, show ps_a s7 1176 = ps_a s 1176 from (K7.2 1176 rfl).1, show ps_i s7 1131 21 = ps_i s 1131 21 from kp_i K7 21 rfl, show ps_i s7 1131 47 = ps_i s 1131 47 from kp_i K7 47 rfl, show ps_i s7 1131 54 = ps_i s 1131 54 from kp_i K7 54 rfl]; exact hMI
    have hN : Rw (ps_a s7 1134) (25789 : Int32).toInt nl := by rw [show ps_a s7 1134 = ps_a s 1134 from (K7.2 1134 rfl).1]; exact hN
    have hS : Sg (ps_a s7 1135) (ps_a s7 1136) (ps_a s7 1138) (ps_a s7 1139) (ps_i s7 1131 21).toInt σ := by rw [show ps_a s7 1135 = ps_a s 1135 from (K7.2 1135 rfl).1, show ps_a s7 1136 = ps_a s 1136 from (K7.2 1136 rfl).1, show ps_a s7 1138 = ps_a s 1138 from (K7.2 1138 rfl).1, show ps_a s7 1139 = ps_a s 1139 from (K7.2 1139 rfl).1, show ps_i s7 1131 21 = ps_i s 1131 21 from kp_i K7 21 rfl]; exact hS
    have hRl : Rw (ps_a s7 1134) (21812 + 41 * (8 * (ps_i s7 1131 21).toInt + x2.toInt)) l := by rw [show ps_a s7 1134 = ps_a s 1134 from (K7.2 1134 rfl).1, show ps_i s7 1131 21 = ps_i s 1131 21 from kp_i K7 21 rfl]; exact hRl
    have hbk : (ps_i s7 1131 21).toInt = bk0 := by rw [show ps_i s7 1131 21 = ps_i s 1131 21 from kp_i K7 21 rfl]; exact hbk
    have hrl : _ := p7_0
    refine And.intro (fun h9 => ?_) (fun h9 => ?_)
    · have f10 : v7.toInt = (0 : Int) := xeq h9
      have a11 : (x2 + 1).toInt = x2.toInt + (1 : Int) := xIa (show -2147483648 ≤ x2.toInt + (1 : Int) from by omega) (show x2.toInt + (1 : Int) < 2147483648 from by omega)
      exact ih (n - 1) (show n - 1 < n from by omega) x1 (x2 + 1) _ J7 K8 hMI hN (by assumption) (show 0 ≤ x1.toInt from by omega) (show x1.toInt ≤ 40 from by omega) (show 0 ≤ (x2 + 1).toInt from by omega) (show (x2 + 1).toInt ≤ 8 from by omega) (by assumption) (show 50 - x1.toInt ≤ (n2 : Int) from by omega) (show 20 - (x2 + 1).toInt ≤ ((n - 1 : Nat) : Int) from by omega)
    · have f12 : v7.toInt ≠ (0 : Int) := xne h9
      obtain ⟨l0, p, q, hRLf⟩ := hrl (by omega)
      obtain ⟨y1, y2, hn12, hi1⟩ := lsplit (l := nl) (i := x1.toInt) (by omega) (by omega)
      have hn2l : (nl.length : Int) = y1.length + y2.length := by rw [hn12]; exact llen
      obtain ⟨W0, hw0, hctx⟩ := ws_at (by rw [← hn12]; exact i2) (show 0 < (y2.length : Int) from by omega)
      refine ms_286 J7 hS (hRl) (hRLf) (hl3) hN (hn12) (hi1) (hw0) (show 0 ≤ x2.toInt from by omega) (show x2.toInt ≤ 7 from by omega) (fun v13 s13 J13 K13 p13_0 b13 => ?_)
      have K14 := kpt K8 K13 rfl rfl
      have hMI : MI σ (ps_a s13 1134) (ps_a s13 1135) (ps_a s13 1136) (ps_a s13 1137) (ps_a s13 1138) (ps_a s13 1139) (ps_a s13 1157) (ps_a s13 1176) (ps_i s13 1131 21).toInt (ps_i s13 1131 47).toInt (ps_i s13 1131 54).toInt := by rw [show ps_a s13 1134 = ps_a s7 1134 from (K13.2 1134 rfl).1, show ps_a s13 1135 = ps_a s7 1135 from (K13.2 1135 rfl).1, show ps_a s13 1136 = ps_a s7 1136 from (K13.2 1136 rfl).1, show ps_a s13 1137 = ps_a s7 1137 from (K13.2 1137 rfl).1, show ps_a s13 1138 = ps_a s7 1138 from (K13.2 1138 rfl).1, show ps_a s13 1139 = ps_a s7 1139 from (K13.2 1139 rfl).1, show ps_a s13 1157 = ps_a s7 1157 from (K13.2 1157 rfl).1, show ps_a s13 1176 = ps_a s7 1176 from (K13.2 1176 rfl).1, show ps_i s13 1131 21 = ps_i s7 1131 21 from kp_i K13 21 rfl, show ps_i s13 1131 47 = ps_i s7 1131 47 from kp_i K13 47 rfl, show ps_i s13 1131 54 = ps_i s7 1131 54 from kp_i K13 54 rfl]; exact hMI
      have hN : Rw (ps_a s13 1134) (25789 : Int32).toInt nl := by rw [show ps_a s13 1134 = ps_a s7 1134 from (K13.2 1134 rfl).1]; exact hN
      have hS : Sg (ps_a s13 1135) (ps_a s13 1136) (ps_a s13 1138) (ps_a s13 1139) (ps_i s13 1131 21).toInt σ := by rw [show ps_a s13 1135 = ps_a s7 1135 from (K13.2 1135 rfl).1, show ps_a s13 1136 = ps_a s7 1136 from (K13.2 1136 rfl).1, show ps_a s13 1138 = ps_a s7 1138 from (K13.2 1138 rfl).1, show ps_a s13 1139 = ps_a s7 1139 from (K13.2 1139 rfl).1, show ps_i s13 1131 21 = ps_i s7 1131 21 from kp_i K13 21 rfl]; exact hS
      have hRl : Rw (ps_a s13 1134) (21812 + 41 * (8 * (ps_i s13 1131 21).toInt + x2.toInt)) l := by rw [show ps_a s13 1134 = ps_a s7 1134 from (K13.2 1134 rfl).1, show ps_i s13 1131 21 = ps_i s7 1131 21 from kp_i K13 21 rfl]; exact hRl
      have hbk : (ps_i s13 1131 21).toInt = bk0 := by rw [show ps_i s13 1131 21 = ps_i s7 1131 21 from kp_i K13 21 rfl]; exact hbk
      have hRLf : RL σ l l0 p q (ps_i s13 1131 63).toInt (ps_i s13 1131 64).toInt := by rw [show ps_i s13 1131 63 = ps_i s7 1131 63 from kp_i K13 63 rfl, show ps_i s13 1131 64 = ps_i s7 1131 64 from kp_i K13 64 rfl]; exact hRLf
      have hst : _ := p13_0
      refine And.intro (fun h15 => ?_) (fun h15 => ?_)
      · have f16 : v13.toInt ≠ (0 : Int) := xne h15
        obtain ⟨mt, y3, hm1, hm2, h65, hBA, hBB⟩ := hst (by omega)
        have hm1l : (y2.length : Int) = mt.length + y3.length := by rw [hm1]; exact llen
        obtain ⟨g1, g2, g3, g4, g5, g6⟩ := id hRLf
        have r17 := mf_21 J13
        have u18 : (ps_i s13 1131 21).toInt = (ps_i s7 1131 21).toInt := xeq (kp_i K13 21 rfl)
        have r19 := mf_21 J7
        have u20 : (ps_i s7 1131 21).toInt = (ps_i s 1131 21).toInt := xeq (kp_i K7 21 rfl)
        refine pg_283_0 ?_
        have a21 : ((8 : Int32) * (ps_i s13 1131 21)).toInt = (8 : Int) * (ps_i s13 1131 21).toInt := xIm (show -2147483648 ≤ (8 : Int) * (ps_i s13 1131 21).toInt from by omega) (show (8 : Int) * (ps_i s13 1131 21).toInt < 2147483648 from by omega)
        have a22 : (((8 : Int32) * (ps_i s13 1131 21)) + x2).toInt = ((8 : Int32) * (ps_i s13 1131 21)).toInt + x2.toInt := xIa (show -2147483648 ≤ ((8 : Int32) * (ps_i s13 1131 21)).toInt + x2.toInt from by omega) (show ((8 : Int32) * (ps_i s13 1131 21)).toInt + x2.toInt < 2147483648 from by omega)
        have a23 : ((41 : Int32) * (((8 : Int32) * (ps_i s13 1131 21)) + x2)).toInt = (41 : Int) * (((8 : Int32) * (ps_i s13 1131 21)) + x2).toInt := xIm (show -2147483648 ≤ (41 : Int) * (((8 : Int32) * (ps_i s13 1131 21)) + x2).toInt from by omega) (show (41 : Int) * (((8 : Int32) * (ps_i s13 1131 21)) + x2).toInt < 2147483648 from by omega)
        have a24 : ((21812 : Int32) + ((41 : Int32) * (((8 : Int32) * (ps_i s13 1131 21)) + x2))).toInt = (21812 : Int) + ((41 : Int32) * (((8 : Int32) * (ps_i s13 1131 21)) + x2)).toInt := xIa (show -2147483648 ≤ (21812 : Int) + ((41 : Int32) * (((8 : Int32) * (ps_i s13 1131 21)) + x2)).toInt from by omega) (show (21812 : Int) + ((41 : Int32) * (((8 : Int32) * (ps_i s13 1131 21)) + x2)).toInt < 2147483648 from by omega)
        have J25 := mwi_34 (v := (0 : Int32)) J13 (show 0 ≤ (0 : Int) from by omega) (show (0 : Int) ≤ 100000 from by omega)
        have K26 := kpi K14 (q := 34) (v := (0 : Int32)) rfl
        have hM : Md (ps_a (ps_ui s13 1131 34 0) 1149) (ps_i (ps_ui s13 1131 34 0) 1131 34).toInt ([] : List Nat) := Md_nil rfl
        refine ms_226 J25 ((show Rw (ps_a (ps_ui s13 1131 34 0) 1134) ((25789 : Int32)).toInt ([] ++ (y1 ++ y2)) from by rw [List.nil_append, ← hn12]; exact hN)) (hM) (rfl) ((Or.inl (show (x1).toInt = (([] : List Nat).length : Int) + (y1.length : Int) from by rw [List.length_nil]; omega))) ((by rw [List.length_nil]; omega)) (fun s27 J27 K27 p27_0 => ?_)
        have K28 := kpt K26 K27 rfl rfl
        have hMI : MI σ (ps_a s27 1134) (ps_a s27 1135) (ps_a s27 1136) (ps_a s27 1137) (ps_a s27 1138) (ps_a s27 1139) (ps_a s27 1157) (ps_a s27 1176) (ps_i s27 1131 21).toInt (ps_i s27 1131 47).toInt (ps_i s27 1131 54).toInt := by rw [show ps_a s27 1134 = ps_a (ps_ui s13 1131 34 0) 1134 from (K27.2 1134 rfl).1, show ps_a s27 1135 = ps_a (ps_ui s13 1131 34 0) 1135 from (K27.2 1135 rfl).1, show ps_a s27 1136 = ps_a (ps_ui s13 1131 34 0) 1136 from (K27.2 1136 rfl).1, show ps_a s27 1137 = ps_a (ps_ui s13 1131 34 0) 1137 from (K27.2 1137 rfl).1, show ps_a s27 1138 = ps_a (ps_ui s13 1131 34 0) 1138 from (K27.2 1138 rfl).1, show ps_a s27 1139 = ps_a (ps_ui s13 1131 34 0) 1139 from (K27.2 1139 rfl).1, show ps_a s27 1157 = ps_a (ps_ui s13 1131 34 0) 1157 from (K27.2 1157 rfl).1, show ps_a s27 1176 = ps_a (ps_ui s13 1131 34 0) 1176 from (K27.2 1176 rfl).1, show ps_i s27 1131 21 = ps_i (ps_ui s13 1131 34 0) 1131 21 from kp_i K27 21 rfl, show ps_i s27 1131 47 = ps_i (ps_ui s13 1131 34 0) 1131 47 from kp_i K27 47 rfl, show ps_i s27 1131 54 = ps_i (ps_ui s13 1131 34 0) 1131 54 from kp_i K27 54 rfl]; exact hMI
        have hN : Rw (ps_a s27 1134) (25789 : Int32).toInt nl := by rw [show ps_a s27 1134 = ps_a (ps_ui s13 1131 34 0) 1134 from (K27.2 1134 rfl).1]; exact hN
        have hS : Sg (ps_a s27 1135) (ps_a s27 1136) (ps_a s27 1138) (ps_a s27 1139) (ps_i s27 1131 21).toInt σ := by rw [show ps_a s27 1135 = ps_a (ps_ui s13 1131 34 0) 1135 from (K27.2 1135 rfl).1, show ps_a s27 1136 = ps_a (ps_ui s13 1131 34 0) 1136 from (K27.2 1136 rfl).1, show ps_a s27 1138 = ps_a (ps_ui s13 1131 34 0) 1138 from (K27.2 1138 rfl).1, show ps_a s27 1139 = ps_a (ps_ui s13 1131 34 0) 1139 from (K27.2 1139 rfl).1, show ps_i s27 1131 21 = ps_i (ps_ui s13 1131 34 0) 1131 21 from kp_i K27 21 rfl]; exact hS
        have hRl : Rw (ps_a s27 1134) (21812 + 41 * (8 * (ps_i s27 1131 21).toInt + x2.toInt)) l := by rw [show ps_a s27 1134 = ps_a (ps_ui s13 1131 34 0) 1134 from (K27.2 1134 rfl).1, show ps_i s27 1131 21 = ps_i (ps_ui s13 1131 34 0) 1131 21 from kp_i K27 21 rfl]; exact hRl
        have hbk : (ps_i s27 1131 21).toInt = bk0 := by rw [show ps_i s27 1131 21 = ps_i (ps_ui s13 1131 34 0) 1131 21 from kp_i K27 21 rfl]; exact hbk
        have hRLf : RL σ l l0 p q (ps_i s27 1131 63).toInt (ps_i s27 1131 64).toInt := by rw [show ps_i s27 1131 63 = ps_i (ps_ui s13 1131 34 0) 1131 63 from kp_i K27 63 rfl, show ps_i s27 1131 64 = ps_i (ps_ui s13 1131 34 0) 1131 64 from kp_i K27 64 rfl]; exact hRLf
        have h65 : (ps_i s27 1131 65).toInt = (y1.length : Int) + (mt.length : Int) := by rw [show ps_i s27 1131 65 = ps_i (ps_ui s13 1131 34 0) 1131 65 from kp_i K27 65 rfl]; exact h65
        have hBA : BA σ nl (ps_a s27 1167) (ps_a s27 1168) := by rw [show ps_a s27 1167 = ps_a (ps_ui s13 1131 34 0) 1167 from (K27.2 1167 rfl).1, show ps_a s27 1168 = ps_a (ps_ui s13 1131 34 0) 1168 from (K27.2 1168 rfl).1]; exact hBA
        have hBB : BB (ps_a s27 1167) p := by rw [show ps_a s27 1167 = ps_a (ps_ui s13 1131 34 0) 1167 from (K27.2 1167 rfl).1]; exact hBB
        have hM1 : Md (ps_a s27 1149) (ps_i s27 1131 34).toInt ([] ++ y1) := p27_0
        have r29 := mf_64 J27
        have u30 : (ps_i s27 1131 64).toInt = (ps_i s13 1131 64).toInt := xeq (kp_i K27 64 rfl)
        have r31 := mf_64 J13
        have u32 : (ps_i s13 1131 64).toInt = (ps_i s7 1131 64).toInt := xeq (kp_i K13 64 rfl)
        have r33 := mf_64 J7
        exact ms_287_77 (σ := σ) (nl := nl) k  ((q.length : Int)).toNat ((21812 : Int32) + ((41 : Int32) * (((8 : Int32) * (ps_i s13 1131 21)) + x2))) (ps_i s27 1131 64) l l0 p q y1 mt y3 W0 [] q [] _ J27 K28 hS ((by rw [show (((21812 : Int32) + ((41 : Int32) * (((8 : Int32) * (ps_i s13 1131 21)) + x2)))).toInt = 21812 + 41 * (8 * (ps_i s27 1131 21).toInt + x2.toInt) from by omega]; exact hRl)) hN hRLf (hl3) ((by rw [hn12, hm1])) h65 hBA hBB (rfl) ((show ((ps_i s27 1131 64)).toInt = (l0.length : Int) + 1 + (p.length : Int) + (([] : List Nat).length : Int) from by rw [List.length_nil]; omega)) (rfl) ((by decide)) ((by rw [List.append_nil]; exact hM1)) (hm2) (hctx) (show (q.length : Int) ≤ ((((q.length : Int)).toNat : Nat) : Int) from by omega)
      · have f34 : v13.toInt = (0 : Int) := xeq h15
        have a35 : (x2 + 1).toInt = x2.toInt + (1 : Int) := xIa (show -2147483648 ≤ x2.toInt + (1 : Int) from by omega) (show x2.toInt + (1 : Int) < 2147483648 from by omega)
        exact ih (n - 1) (show n - 1 < n from by omega) x1 (x2 + 1) _ J13 K14 hMI hN (by assumption) (show 0 ≤ x1.toInt from by omega) (show x1.toInt ≤ 40 from by omega) (show 0 ≤ (x2 + 1).toInt from by omega) (show (x2 + 1).toInt ≤ 8 from by omega) (by assumption) (show 50 - x1.toInt ≤ (n2 : Int) from by omega) (show 20 - (x2 + 1).toInt ≤ ((n - 1 : Nat) : Int) from by omega)

theorem ms_287_2 {x : Nat → Nat → Nat} {t : Int32} {d : Nat} {s0 : ps_S} {σ : mSig} {nl : List Nat} {Q : Option Value → ps_S → Prop} (k : ∀ (v : Int32) (s' : ps_S), mJ x t s' → kp [1149, 1167, 1168] [34, 63, 64, 65] s0 s' → (v.toInt ≠ 0 → ∃ ml, Md (ps_a s' 1149) (ps_i s' 1131 34).toInt ml ∧ ml.length ≤ 9000 ∧ ws σ ml [false]) → v &&& 1 = v → Q (some (.int v)) s') : ∀ (n : Nat) (x1 : Int32) (s : ps_S), (mJ x t s) → (kp [1149, 1167, 1168] [34, 63, 64, 65] s0 s) → (MI σ (ps_a s 1134) (ps_a s 1135) (ps_a s 1136) (ps_a s 1137) (ps_a s 1138) (ps_a s 1139) (ps_a s 1157) (ps_a s 1176) (ps_i s 1131 21).toInt (ps_i s 1131 47).toInt (ps_i s 1131 54).toInt) → (Rw (ps_a s 1134) (25789 : Int32).toInt nl) → (ws σ nl [false]) → (0 ≤ x1.toInt) → (x1.toInt ≤ 40) → 50 - x1.toInt ≤ (n : Int) → ps_At (d + 3) 287 2 [(0, .ref 1131), (1, .int x1)] [] s Q := by
  refine xstr (fun n ih => ?_)
  intro x1 s J K hMI hN i2 i3 i4 hm
  refine pg_287_2 (d := d + 2) ?_
  have hn : (ps_a s 1134 (Int32.toNatClampNeg (25789 : Int32))).toInt = (nl.length : Int) := Rw_n hN
  have hN4 := hN.2.2.2.1
  refine pg_219_0 ?_
  refine ps_nd_i (show pm_in (25789 : Int32) 27400 = true from xgi (show 0 ≤ (25789 : Int) from by omega) (show (25789 : Int) < 27400 from by omega)) ?_
  have r1 : (25789 : Int) % 41 = 0 → (25789 : Int) < 27306 → 0 ≤ (ps_a s 1134 (Int32.toNatClampNeg (25789 : Int32))).toInt ∧ (ps_a s 1134 (Int32.toNatClampNeg (25789 : Int32))).toInt ≤ 40 := fun z1 z2 => mp_row (i := (25789 : Int32)) J z1 (show 0 ≤ (25789 : Int) from by omega) z2
  refine And.intro (fun h2 => ?_) (fun h2 => ?_)
  · have f3 : (ps_a s 1134 (Int32.toNatClampNeg (25789 : Int32))).toInt ≤ x1.toInt := xle h2
    exact k (0 : Int32) _ J K (fun z => absurd Int32.toInt_zero z) (by decide)
  · have f4 : x1.toInt < (ps_a s 1134 (Int32.toNatClampNeg (25789 : Int32))).toInt := xlt h2
    exact ms_287_15 (σ := σ) (nl := nl) k n (fun x1z sz Jz Kz i0z i1z i2z i3z i4z hm => ih (n - 1) (show n - 1 < n from by omega) x1z sz Jz Kz i0z i1z i2z i3z i4z (show _ ≤ ((n - 1 : Nat) : Int) from by omega)) (20 - (0 : Int)).toNat x1 (0) _ J K hMI hN (by assumption) (show 0 ≤ x1.toInt from by omega) (show x1.toInt ≤ 40 from by omega) (show 0 ≤ (0 : Int) from by omega) (show (0 : Int) ≤ 8 from by omega) ((show (x1).toInt < (nl.length : Int) from by omega)) (show 50 - x1.toInt ≤ ((n : Nat) : Int) from by omega) (show 20 - (0 : Int) ≤ (((20 - (0 : Int)).toNat : Nat) : Int) from by omega)

theorem ms_287 {x : Nat → Nat → Nat} {t : Int32} {s : ps_S} {d : Nat} {f : Int32 → ps_S → Prop} (J : mJ x t s) {σ : mSig} {nl : List Nat} (hMI : MI σ (ps_a s 1134) (ps_a s 1135) (ps_a s 1136) (ps_a s 1137) (ps_a s 1138) (ps_a s 1139) (ps_a s 1157) (ps_a s 1176) (ps_i s 1131 21).toInt (ps_i s 1131 47).toInt (ps_i s 1131 54).toInt) (hN : Rw (ps_a s 1134) (25789 : Int32).toInt nl) (q2 : ws σ nl [false]) (k : ∀ (v : Int32) (s' : ps_S), mJ x t s' → kp [1149, 1167, 1168] [34, 63, 64, 65] s s' → (v.toInt ≠ 0 → ∃ ml, Md (ps_a s' 1149) (ps_i s' 1131 34).toInt ml ∧ ml.length ≤ 9000 ∧ ws σ ml [false]) → v &&& 1 = v → f v s') : ps_Cl (d + 3) 287 [.ref 1131] s (ps_rI f) := by
  have K : kp [1149, 1167, 1168] [34, 63, 64, 65] s s := kp_refl
  refine pg_287_0 (d := d + 2) ?_
  exact ms_287_2 (σ := σ) (nl := nl) k  (50 - (0 : Int)).toNat (0) _ J K hMI hN (q2) (show 0 ≤ (0 : Int) from by omega) (show (0 : Int) ≤ 40 from by omega) (show 50 - (0 : Int) ≤ (((50 - (0 : Int)).toNat : Nat) : Int) from by omega)
end
section
set_option maxRecDepth 100000
-- ProofBenchModel.rewrite()I
theorem pg_288_0 {d : Nat} {s : ps_S} {Q : Option Value → ps_S → Prop} (h :
  ps_Cl d 198 [.ref 1131] s (ps_rV (fun s1 =>
    ps_Cl d 209 [.ref 1131, .int 25789, .int 0, .int 0] s1 (ps_rV (fun s2 =>
      ps_Cl d 192 [.ref 1131] s2 (ps_rI (fun v3 s3 =>
        (v3 = 0 →
          ps_At (d + 1) 288 31 [(0, .ref 1131)] [] s3 Q) ∧
        (v3 ≠ 0 →
          ((ps_i s3 1131 9) = 0 →
            ps_At (d + 1) 288 31 [(0, .ref 1131)] [] s3 Q) ∧
          ((ps_i s3 1131 9) ≠ 0 →
            ps_Cl d 196 [.ref 1131] s3 (ps_rV (fun s4 =>
              ps_At (d + 1) 288 31 [(0, .ref 1131)] [] s4 Q))))))))))) : ps_At (d + 1) 288 0 [(0, .ref 1131)] [] s Q :=
  ps_wp_at (stops := [(31, [0]), (51, [0, 1])]) (n := 17) h rfl

theorem pg_288_31 {d : Nat} {s : ps_S} {Q : Option Value → ps_S → Prop} (h :
  ps_Cl d 192 [.ref 1131] s (ps_rI (fun v1 s1 =>
    (v1 ≠ 0 →
      ps_At (d + 1) 288 51 [(0, .ref 1131), (1, .int 0)] [] s1 Q) ∧
    (v1 = 0 →
      ps_nd (pm_in 25789 27400) (Q (some (.int (-1))) (ps_ua s1 1134 (Int32.toNatClampNeg (25789 : Int32)) 0)))))) : ps_At (d + 1) 288 31 [(0, .ref 1131)] [] s Q :=
  ps_wp_at (stops := [(31, [0]), (51, [0, 1])]) (n := 14) h rfl

theorem pg_288_51 {d : Nat} {x1 : Int32} {s : ps_S} {Q : Option Value → ps_S → Prop} (h :
  ps_Cl d 287 [.ref 1131] s (ps_rI (fun v1 s1 =>
    (v1 = 0 →
      Q (some (.int x1)) s1) ∧
    (v1 ≠ 0 →
      (x1 = 60 →
        ps_nd (pm_in 25789 27400) (Q (some (.int (-2))) (ps_ua s1 1134 (Int32.toNatClampNeg (25789 : Int32)) 0))) ∧
      (x1 ≠ 60 →
        ps_Cl d 228 [.ref 1131] s1 (ps_rI (fun v2 s2 =>
          (v2 ≠ 0 →
            ps_Cl d 229 [.ref 1131, .int 25789] s2 (ps_rV (fun s3 =>
              ps_At (d + 1) 288 51 [(0, .ref 1131), (1, .int (x1 + 1))] [] s3 Q))) ∧
          (v2 = 0 →
            ps_nd (pm_in 25789 27400) (Q (some (.int (-2))) (ps_ua s2 1134 (Int32.toNatClampNeg (25789 : Int32)) 0)))))))))) : ps_At (d + 1) 288 51 [(0, .ref 1131), (1, .int x1)] [] s Q :=
  ps_wp_at (stops := [(31, [0]), (51, [0, 1])]) (n := 32) h rfl

theorem ms_288_51 {x : Nat → Nat → Nat} {t : Int32} {d : Nat} {s0 : ps_S} {σ : mSig} {Q : Option Value → ps_S → Prop} (k : ∀ (v : Int32) (s' : ps_S), mJ x t s' → kp [1133, 1134, 1143, 1144, 1145, 1146, 1147, 1148, 1149, 1150, 1151, 1167, 1168] [3, 4, 5, 6, 7, 8, 9, 10, 11, 22, 23, 29, 30, 31, 32, 34, 63, 64, 65] s0 s' → (MI σ (ps_a s' 1134) (ps_a s' 1135) (ps_a s' 1136) (ps_a s' 1137) (ps_a s' 1138) (ps_a s' 1139) (ps_a s' 1157) (ps_a s' 1176) (ps_i s' 1131 21).toInt (ps_i s' 1131 47).toInt (ps_i s' 1131 54).toInt) → ((ps_i s' 1131 3).toInt = 0) → Q (some (.int v)) s') : ∀ (n : Nat) (x1 : Int32) (s : ps_S), (mJ x t s) → (kp [1133, 1134, 1143, 1144, 1145, 1146, 1147, 1148, 1149, 1150, 1151, 1167, 1168] [3, 4, 5, 6, 7, 8, 9, 10, 11, 22, 23, 29, 30, 31, 32, 34, 63, 64, 65] s0 s) → (MI σ (ps_a s 1134) (ps_a s 1135) (ps_a s 1136) (ps_a s 1137) (ps_a s 1138) (ps_a s 1139) (ps_a s 1157) (ps_a s 1176) (ps_i s 1131 21).toInt (ps_i s 1131 47).toInt (ps_i s 1131 54).toInt) → (∃ nl, Rw (ps_a s 1134) (25789 : Int32).toInt nl ∧ ws σ nl [false]) → (0 ≤ x1.toInt) → (x1.toInt ≤ 60) → ((ps_i s 1131 47).toInt ≤ 40) → ((ps_i s 1131 3).toInt = 0) → 70 - x1.toInt ≤ (n : Int) → ps_At (d + 6) 288 51 [(0, .ref 1131), (1, .int x1)] [] s Q := by
  refine xstr (fun n ih => ?_)
  intro x1 s J K hMI hNl i2 i3 i4 i5 hm
  have r1 := mf_47 J
  have r2 := mf_3 J
  refine pg_288_51 (d := d + 5) ?_
  obtain ⟨nl, hN, hNw⟩ := id hNl
  have h47 : (ps_i s 1131 47).toInt ≤ 40 := (mf_47 J).2
  refine ms_287 J hMI hN (hNw) (fun v3 s3 J3 K3 p3_0 b3 => ?_)
  have K4 := kpt K K3 rfl rfl
  have hMI : MI σ (ps_a s3 1134) (ps_a s3 1135) (ps_a s3 1136) (ps_a s3 1137) (ps_a s3 1138) (ps_a s3 1139) (ps_a s3 1157) (ps_a s3 1176) (ps_i s3 1131 21).toInt (ps_i s3 1131 47).toInt (ps_i s3 1131 54).toInt := by rw [show ps_a s3 1134 = ps_a s 1134 from (K3.2 1134 rfl).1, show ps_a s3 1135 = ps_a s 1135 from (K3.2 1135 rfl).1, show ps_a s3 1136 = ps_a s 1136 from (K3.2 1136 rfl).1, show ps_a s3 1137 = ps_a s 1137 from (K3.2 1137 rfl).1, show ps_a s3 1138 = ps_a s 1138 from (K3.2 1138 rfl).1, show ps_a s3 1139 = ps_a s 1139 from (K3.2 1139 rfl).1, show ps_a s3 1157 = ps_a s 1157 from (K3.2 1157 rfl).1, show ps_a s3 1176 = ps_a s 1176 from (K3.2 1176 rfl).1, show ps_i s3 1131 21 = ps_i s 1131 21 from kp_i K3 21 rfl, show ps_i s3 1131 47 = ps_i s 1131 47 from kp_i K3 47 rfl, show ps_i s3 1131 54 = ps_i s 1131 54 from kp_i K3 54 rfl]; exact hMI
  have hNl : ∃ nl, Rw (ps_a s3 1134) (25789 : Int32).toInt nl ∧ ws σ nl [false] := by rw [show ps_a s3 1134 = ps_a s 1134 from (K3.2 1134 rfl).1]; exact hNl
  have hN : Rw (ps_a s3 1134) (25789 : Int32).toInt nl := by rw [show ps_a s3 1134 = ps_a s 1134 from (K3.2 1134 rfl).1]; exact hN
  have h47 : (ps_i s3 1131 47).toInt ≤ 40 := by rw [show ps_i s3 1131 47 = ps_i s 1131 47 from kp_i K3 47 rfl]; exact h47
  have hrw : _ := p3_0
  refine And.intro (fun h5 => ?_) (fun h5 => ?_)
  · have f6 : v3.toInt = (0 : Int) := xeq h5
    have r7 := mf_3 J3
    have u8 : (ps_i s3 1131 3).toInt = (ps_i s 1131 3).toInt := xeq (kp_i K3 3 rfl)
    exact k x1 _ J3 K4 hMI (show (ps_i s3 1131 3).toInt = 0 from by omega)
  · have f9 : v3.toInt ≠ (0 : Int) := xne h5
    refine And.intro (fun h10 => ?_) (fun h10 => ?_)
    · have f11 : x1.toInt = (60 : Int) := xeq h10
      refine ps_nd_i (show pm_in (25789 : Int32) 27400 = true from xgi (show 0 ≤ (25789 : Int) from by omega) (show (25789 : Int) < 27400 from by omega)) ?_
      have J12 := mw_p (i := (25789 : Int32)) (v := (0 : Int32)) J3 (show (25789 : Int) % 41 = 0 → 0 ≤ (0 : Int) ∧ (0 : Int) ≤ 40 from by omega) (show 0 ≤ (25789 : Int) from by omega)
      have K13 := kpa' K4 (r := 1134) (i := (Int32.toNatClampNeg (25789 : Int32))) (v := (0 : Int32)) rfl
      have r14 := mf_3 J3
      have u15 : (ps_i s3 1131 3).toInt = (ps_i s 1131 3).toInt := xeq (kp_i K3 3 rfl)
      exact k (-2 : Int32) _ J12 K13 (MI_norm hMI h47 (fun k hk => ua_ne (show k ≠ 25789 from by omega))) (show (ps_i s3 1131 3).toInt = 0 from by omega)
    · have f16 : x1.toInt ≠ (60 : Int) := xne h10
      obtain ⟨ml, hm1, hm2, hm3⟩ := hrw (by omega)
      have hS := MI_S hMI
      have hMl : Md (ps_a s3 1149) (ps_i s3 1131 34).toInt (ml) := hm1
      refine ms_228 J3 (hS) (hm1) (hm3) (fun v17 s17 J17 K17 p17_0 b17 => ?_)
      have K18 := kpt K4 K17 rfl rfl
      have hMI : MI σ (ps_a s17 1134) (ps_a s17 1135) (ps_a s17 1136) (ps_a s17 1137) (ps_a s17 1138) (ps_a s17 1139) (ps_a s17 1157) (ps_a s17 1176) (ps_i s17 1131 21).toInt (ps_i s17 1131 47).toInt (ps_i s17 1131 54).toInt := by rw [show ps_a s17 1134 = ps_a s3 1134 from (K17.2 1134 rfl).1, show ps_a s17 1135 = ps_a s3 1135 from (K17.2 1135 rfl).1, show ps_a s17 1136 = ps_a s3 1136 from (K17.2 1136 rfl).1, show ps_a s17 1137 = ps_a s3 1137 from (K17.2 1137 rfl).1, show ps_a s17 1138 = ps_a s3 1138 from (K17.2 1138 rfl).1, show ps_a s17 1139 = ps_a s3 1139 from (K17.2 1139 rfl).1, show ps_a s17 1157 = ps_a s3 1157 from (K17.2 1157 rfl).1, show ps_a s17 1176 = ps_a s3 1176 from (K17.2 1176 rfl).1, show ps_i s17 1131 21 = ps_i s3 1131 21 from kp_i K17 21 rfl, show ps_i s17 1131 47 = ps_i s3 1131 47 from kp_i K17 47 rfl, show ps_i s17 1131 54 = ps_i s3 1131 54 from kp_i K17 54 rfl]; exact hMI
      have hNl : ∃ nl, Rw (ps_a s17 1134) (25789 : Int32).toInt nl ∧ ws σ nl [false] := by rw [show ps_a s17 1134 = ps_a s3 1134 from (K17.2 1134 rfl).1]; exact hNl
      have hN : Rw (ps_a s17 1134) (25789 : Int32).toInt nl := by rw [show ps_a s17 1134 = ps_a s3 1134 from (K17.2 1134 rfl).1]; exact hN
      have h47 : (ps_i s17 1131 47).toInt ≤ 40 := by rw [show ps_i s17 1131 47 = ps_i s3 1131 47 from kp_i K17 47 rfl]; exact h47
      have hMl : Md (ps_a s17 1149) (ps_i s17 1131 34).toInt (ml) := by rw [show ps_a s17 1149 = ps_a s3 1149 from (K17.2 1149 rfl).1, show ps_i s17 1131 34 = ps_i s3 1131 34 from kp_i K17 34 rfl]; exact hMl
      have hv : _ := p17_0
      refine And.intro (fun h19 => ?_) (fun h19 => ?_)
      · have f20 : v17.toInt ≠ (0 : Int) := xne h19
        obtain ⟨g0, hg0⟩ : ∃ g0 : Nat → Int32, g0 = ps_a s17 1134 := ⟨_, rfl⟩
        have hM0 : MI σ g0 (ps_a s17 1135) (ps_a s17 1136) (ps_a s17 1137) (ps_a s17 1138) (ps_a s17 1139) (ps_a s17 1157) (ps_a s17 1176) (ps_i s17 1131 21).toInt (ps_i s17 1131 47).toInt (ps_i s17 1131 54).toInt := by rw [hg0]; exact hMI
        have e48 : (25789 : Int32).toInt = 25789 := by decide
        refine ms_229 J17 (hMl) (show (25789 : Int) % 41 = 0 from by omega) (show 0 ≤ (25789 : Int) from by omega) (show (25789 : Int) < 27306 from by omega) ((by rcases hv with z | z; omega; exact z.1)) (fun s21 J21 K21 p21_0 p21_1 => ?_)
        have K22 := kpt K18 K21 rfl rfl
        have h47 : (ps_i s21 1131 47).toInt ≤ 40 := by rw [show ps_i s21 1131 47 = ps_i s17 1131 47 from kp_i K21 47 rfl]; exact h47
        have hMl : Md (ps_a s21 1149) (ps_i s21 1131 34).toInt (ml) := by rw [show ps_a s21 1149 = ps_a s17 1149 from (K21.2 1149 rfl).1, show ps_i s21 1131 34 = ps_i s17 1131 34 from kp_i K21 34 rfl]; exact hMl
        have hM0 : MI σ g0 (ps_a s21 1135) (ps_a s21 1136) (ps_a s21 1137) (ps_a s21 1138) (ps_a s21 1139) (ps_a s21 1157) (ps_a s21 1176) (ps_i s21 1131 21).toInt (ps_i s21 1131 47).toInt (ps_i s21 1131 54).toInt := by rw [show ps_a s21 1135 = ps_a s17 1135 from (K21.2 1135 rfl).1, show ps_a s21 1136 = ps_a s17 1136 from (K21.2 1136 rfl).1, show ps_a s21 1137 = ps_a s17 1137 from (K21.2 1137 rfl).1, show ps_a s21 1138 = ps_a s17 1138 from (K21.2 1138 rfl).1, show ps_a s21 1139 = ps_a s17 1139 from (K21.2 1139 rfl).1, show ps_a s21 1157 = ps_a s17 1157 from (K21.2 1157 rfl).1, show ps_a s21 1176 = ps_a s17 1176 from (K21.2 1176 rfl).1, show ps_i s21 1131 21 = ps_i s17 1131 21 from kp_i K21 21 rfl, show ps_i s21 1131 47 = ps_i s17 1131 47 from kp_i K21 47 rfl, show ps_i s21 1131 54 = ps_i s17 1131 54 from kp_i K21 54 rfl]; exact hM0
        have hk1 : _ := p21_0
        have ho : _ := p21_1
        have a23 : (x1 + 1).toInt = x1.toInt + (1 : Int) := xIa (show -2147483648 ≤ x1.toInt + (1 : Int) from by omega) (show x1.toInt + (1 : Int) < 2147483648 from by omega)
        have r24 := mf_47 J21
        have u25 : (ps_i s21 1131 47).toInt = (ps_i s17 1131 47).toInt := xeq (kp_i K21 47 rfl)
        have r26 := mf_47 J17
        have u27 : (ps_i s17 1131 47).toInt = (ps_i s3 1131 47).toInt := xeq (kp_i K17 47 rfl)
        have r28 := mf_47 J3
        have u29 : (ps_i s3 1131 47).toInt = (ps_i s 1131 47).toInt := xeq (kp_i K3 47 rfl)
        have r30 := mf_3 J21
        have u31 : (ps_i s21 1131 3).toInt = (ps_i s17 1131 3).toInt := xeq (kp_i K21 3 rfl)
        have r32 := mf_3 J17
        have u33 : (ps_i s17 1131 3).toInt = (ps_i s3 1131 3).toInt := xeq (kp_i K17 3 rfl)
        have r34 := mf_3 J3
        have u35 : (ps_i s3 1131 3).toInt = (ps_i s 1131 3).toInt := xeq (kp_i K3 3 rfl)
        exact ih (n - 1) (show n - 1 < n from by omega) (x1 + 1) _ J21 K22 (MI_norm hM0 h47 (fun k hk => (ho k (by omega)).trans (congrFun hg0 k).symm)) (⟨ml, hk1, hm3⟩) (show 0 ≤ (x1 + 1).toInt from by omega) (show (x1 + 1).toInt ≤ 60 from by omega) (show (ps_i s21 1131 47).toInt ≤ 40 from by omega) (show (ps_i s21 1131 3).toInt = 0 from by omega) (show 70 - (x1 + 1).toInt ≤ ((n - 1 : Nat) : Int) from by omega)
      · have f36 : v17.toInt = (0 : Int) := xeq h19
        refine ps_nd_i (show pm_in (25789 : Int32) 27400 = true from xgi (show 0 ≤ (25789 : Int) from by omega) (show (25789 : Int) < 27400 from by omega)) ?_
        have J37 := mw_p (i := (25789 : Int32)) (v := (0 : Int32)) J17 (show (25789 : Int) % 41 = 0 → 0 ≤ (0 : Int) ∧ (0 : Int) ≤ 40 from by omega) (show 0 ≤ (25789 : Int) from by omega)
        have K38 := kpa' K18 (r := 1134) (i := (Int32.toNatClampNeg (25789 : Int32))) (v := (0 : Int32)) rfl
        have r39 := mf_3 J17
        have u40 : (ps_i s17 1131 3).toInt = (ps_i s3 1131 3).toInt := xeq (kp_i K17 3 rfl)
        have r41 := mf_3 J3
        have u42 : (ps_i s3 1131 3).toInt = (ps_i s 1131 3).toInt := xeq (kp_i K3 3 rfl)
        exact k (-2 : Int32) _ J37 K38 (MI_norm hMI h47 (fun k hk => ua_ne (show k ≠ 25789 from by omega))) (show (ps_i s17 1131 3).toInt = 0 from by omega)

theorem ms_288_31 {x : Nat → Nat → Nat} {t : Int32} {d : Nat} {s0 : ps_S} {σ : mSig} {Q : Option Value → ps_S → Prop} (k : ∀ (v : Int32) (s' : ps_S), mJ x t s' → kp [1133, 1134, 1143, 1144, 1145, 1146, 1147, 1148, 1149, 1150, 1151, 1167, 1168] [3, 4, 5, 6, 7, 8, 9, 10, 11, 22, 23, 29, 30, 31, 32, 34, 63, 64, 65] s0 s' → (MI σ (ps_a s' 1134) (ps_a s' 1135) (ps_a s' 1136) (ps_a s' 1137) (ps_a s' 1138) (ps_a s' 1139) (ps_a s' 1157) (ps_a s' 1176) (ps_i s' 1131 21).toInt (ps_i s' 1131 47).toInt (ps_i s' 1131 54).toInt) → ((ps_i s' 1131 3).toInt = 0) → Q (some (.int v)) s') (g0 : Nat → Int32) (s : ps_S) (J : mJ x t s) (K : kp [1133, 1134, 1143, 1144, 1145, 1146, 1147, 1148, 1149, 1150, 1151, 1167, 1168] [3, 4, 5, 6, 7, 8, 9, 10, 11, 22, 23, 29, 30, 31, 32, 34, 63, 64, 65] s0 s) (hM0 : MI σ g0 (ps_a s 1135) (ps_a s 1136) (ps_a s 1137) (ps_a s 1138) (ps_a s 1139) (ps_a s 1157) (ps_a s 1176) (ps_i s 1131 21).toInt (ps_i s 1131 47).toInt (ps_i s 1131 54).toInt) (hof : ∀ k : Nat, (k : Int) < 25789 ∨ 25830 ≤ (k : Int) → ps_a s 1134 k = g0 k) (i2 : 1 ≤ (ps_i s 1131 5).toInt ∨ ∃ nl, Rw (ps_a s 1134) (25789 : Int32).toInt nl ∧ ws σ nl [false]) (i3 : (ps_i s 1131 47).toInt ≤ 40) (i4 : (ps_i s 1131 3).toInt = 0) : ps_At (d + 6) 288 31 [(0, .ref 1131)] [] s Q := by
  have r1 := mf_47 J
  have r2 := mf_3 J
  refine pg_288_31 (d := d + 5) ?_
  refine ms_192 J  (fun v3 p3_0 b3 => ?_)
  have p3_0' : (v3.toInt = 0 ∧ 1 ≤ (ps_i s 1131 5).toInt) ∨ (v3.toInt = 1 ∧ (ps_i s 1131 5).toInt = 0) := p3_0
  have r4 := mf_5 J
  refine And.intro (fun h5 => ?_) (fun h5 => ?_)
  · have f6 : v3.toInt ≠ (0 : Int) := xne h5
    exact ms_288_51 (σ := σ) k  (70 - (0 : Int)).toNat (0) _ J K (MI_norm hM0 (show (ps_i s 1131 47).toInt ≤ 40 from by omega) hof) (i2.resolve_left (by omega)) (show 0 ≤ (0 : Int) from by omega) (show (0 : Int) ≤ 60 from by omega) (show (ps_i s 1131 47).toInt ≤ 40 from by omega) (show (ps_i s 1131 3).toInt = 0 from by omega) (show 70 - (0 : Int) ≤ (((70 - (0 : Int)).toNat : Nat) : Int) from by omega)
  · have f7 : v3.toInt = (0 : Int) := xeq h5
    refine ps_nd_i (show pm_in (25789 : Int32) 27400 = true from xgi (show 0 ≤ (25789 : Int) from by omega) (show (25789 : Int) < 27400 from by omega)) ?_
    have J8 := mw_p (i := (25789 : Int32)) (v := (0 : Int32)) J (show (25789 : Int) % 41 = 0 → 0 ≤ (0 : Int) ∧ (0 : Int) ≤ 40 from by omega) (show 0 ≤ (25789 : Int) from by omega)
    have K9 := kpa' K (r := 1134) (i := (Int32.toNatClampNeg (25789 : Int32))) (v := (0 : Int32)) rfl
    exact k (-1 : Int32) _ J8 K9 (MI_norm hM0 (show (ps_i s 1131 47).toInt ≤ 40 from by omega) (fun k hk => (ua_ne (show k ≠ 25789 from by omega)).trans (hof k hk))) (show (ps_i s 1131 3).toInt = 0 from by omega)

theorem ms_288 {x : Nat → Nat → Nat} {t : Int32} {s : ps_S} {d : Nat} {f : Int32 → ps_S → Prop} (J : mJ x t s) {σ : mSig} (hMI : MI σ (ps_a s 1134) (ps_a s 1135) (ps_a s 1136) (ps_a s 1137) (ps_a s 1138) (ps_a s 1139) (ps_a s 1157) (ps_a s 1176) (ps_i s 1131 21).toInt (ps_i s 1131 47).toInt (ps_i s 1131 54).toInt) (k : ∀ (v : Int32) (s' : ps_S), mJ x t s' → kp [1133, 1134, 1143, 1144, 1145, 1146, 1147, 1148, 1149, 1150, 1151, 1167, 1168] [3, 4, 5, 6, 7, 8, 9, 10, 11, 22, 23, 29, 30, 31, 32, 34, 63, 64, 65] s s' → (MI σ (ps_a s' 1134) (ps_a s' 1135) (ps_a s' 1136) (ps_a s' 1137) (ps_a s' 1138) (ps_a s' 1139) (ps_a s' 1157) (ps_a s' 1176) (ps_i s' 1131 21).toInt (ps_i s' 1131 47).toInt (ps_i s' 1131 54).toInt) → ((ps_i s' 1131 3).toInt = 0) → f v s') : ps_Cl (d + 6) 288 [.ref 1131] s (ps_rI f) := by
  have K : kp [1133, 1134, 1143, 1144, 1145, 1146, 1147, 1148, 1149, 1150, 1151, 1167, 1168] [3, 4, 5, 6, 7, 8, 9, 10, 11, 22, 23, 29, 30, 31, 32, 34, 63, 64, 65] s s := kp_refl
  refine pg_288_0 (d := d + 5) ?_
  refine ms_198 J  (fun s1 J1 K1 p1_0 p1_1 p1_2 p1_3 p1_4 => ?_)
  have K2 := kpt K K1 rfl rfl
  have hMI : MI σ (ps_a s1 1134) (ps_a s1 1135) (ps_a s1 1136) (ps_a s1 1137) (ps_a s1 1138) (ps_a s1 1139) (ps_a s1 1157) (ps_a s1 1176) (ps_i s1 1131 21).toInt (ps_i s1 1131 47).toInt (ps_i s1 1131 54).toInt := by rw [show ps_a s1 1134 = ps_a s 1134 from (K1.2 1134 rfl).1, show ps_a s1 1135 = ps_a s 1135 from (K1.2 1135 rfl).1, show ps_a s1 1136 = ps_a s 1136 from (K1.2 1136 rfl).1, show ps_a s1 1137 = ps_a s 1137 from (K1.2 1137 rfl).1, show ps_a s1 1138 = ps_a s 1138 from (K1.2 1138 rfl).1, show ps_a s1 1139 = ps_a s 1139 from (K1.2 1139 rfl).1, show ps_a s1 1157 = ps_a s 1157 from (K1.2 1157 rfl).1, show ps_a s1 1176 = ps_a s 1176 from (K1.2 1176 rfl).1, show ps_i s1 1131 21 = ps_i s 1131 21 from kp_i K1 21 rfl, show ps_i s1 1131 47 = ps_i s 1131 47 from kp_i K1 47 rfl, show ps_i s1 1131 54 = ps_i s 1131 54 from kp_i K1 54 rfl]; exact hMI
  have p1_0' : (ps_i s1 1131 8).toInt ≤ (ps_i s1 1131 4).toInt := p1_0
  have r3 := mf_8 J1
  have r4 := mf_4 J1
  have p1_1' : (ps_i s1 1131 5).toInt = 0 := p1_1
  have r5 := mf_5 J1
  have p1_2' : (ps_i s1 1131 3).toInt = 0 := p1_2
  have r6 := mf_3 J1
  have p1_3' : (ps_i s1 1131 23).toInt = 0 := p1_3
  have r7 := mf_23 J1
  have p1_4' : (ps_i s1 1131 22).toInt = (ps_i s1 1131 21).toInt := p1_4
  have r8 := mf_22 J1
  have r9 := mf_21 J1
  have u10 : (ps_i s1 1131 21).toInt = (ps_i s 1131 21).toInt := xeq (kp_i K1 21 rfl)
  have r11 := mf_21 J
  have hS2 : Sg (ps_a s1 1135) (ps_a s1 1136) (ps_a s1 1138) (ps_a s1 1139) (ps_i s1 1131 22).toInt σ := by rw [show (ps_i s1 1131 22).toInt = (ps_i s1 1131 21).toInt from by omega]; exact hMI.1
  obtain ⟨g0, hg0⟩ : ∃ g0 : Nat → Int32, g0 = ps_a s1 1134 := ⟨_, rfl⟩
  have hM0 : MI σ g0 (ps_a s1 1135) (ps_a s1 1136) (ps_a s1 1137) (ps_a s1 1138) (ps_a s1 1139) (ps_a s1 1157) (ps_a s1 1176) (ps_i s1 1131 21).toInt (ps_i s1 1131 47).toInt (ps_i s1 1131 54).toInt := by rw [hg0]; exact hMI
  have e48 : (25789 : Int32).toInt = 25789 := by decide
  refine ms_209 (b := false) J1 hS2 (show (25789 : Int) % 41 = 0 from by omega) (show 0 ≤ (25789 : Int) from by omega) (show (25789 : Int) < 27306 from by omega) (show (ps_i s1 1131 8).toInt ≤ (ps_i s1 1131 4).toInt from by omega) ((Or.inr ⟨by decide, rfl⟩)) ((by decide)) (fun s12 J12 K12 p12_0 p12_1 p12_2 p12_3 => ?_)
  have K13 := kpt K2 K12 rfl rfl
  have hS2 : Sg (ps_a s12 1135) (ps_a s12 1136) (ps_a s12 1138) (ps_a s12 1139) (ps_i s12 1131 22).toInt σ := by rw [show ps_a s12 1135 = ps_a s1 1135 from (K12.2 1135 rfl).1, show ps_a s12 1136 = ps_a s1 1136 from (K12.2 1136 rfl).1, show ps_a s12 1138 = ps_a s1 1138 from (K12.2 1138 rfl).1, show ps_a s12 1139 = ps_a s1 1139 from (K12.2 1139 rfl).1, show ps_i s12 1131 22 = ps_i s1 1131 22 from kp_i K12 22 rfl]; exact hS2
  have hM0 : MI σ g0 (ps_a s12 1135) (ps_a s12 1136) (ps_a s12 1137) (ps_a s12 1138) (ps_a s12 1139) (ps_a s12 1157) (ps_a s12 1176) (ps_i s12 1131 21).toInt (ps_i s12 1131 47).toInt (ps_i s12 1131 54).toInt := by rw [show ps_a s12 1135 = ps_a s1 1135 from (K12.2 1135 rfl).1, show ps_a s12 1136 = ps_a s1 1136 from (K12.2 1136 rfl).1, show ps_a s12 1137 = ps_a s1 1137 from (K12.2 1137 rfl).1, show ps_a s12 1138 = ps_a s1 1138 from (K12.2 1138 rfl).1, show ps_a s12 1139 = ps_a s1 1139 from (K12.2 1139 rfl).1, show ps_a s12 1157 = ps_a s1 1157 from (K12.2 1157 rfl).1, show ps_a s12 1176 = ps_a s1 1176 from (K12.2 1176 rfl).1, show ps_i s12 1131 21 = ps_i s1 1131 21 from kp_i K12 21 rfl, show ps_i s12 1131 47 = ps_i s1 1131 47 from kp_i K12 47 rfl, show ps_i s12 1131 54 = ps_i s1 1131 54 from kp_i K12 54 rfl]; exact hM0
  have p12_0' : (ps_i s12 1131 8).toInt ≤ (ps_i s12 1131 4).toInt := p12_0
  have r14 := mf_8 J12
  have r15 := mf_4 J12
  have u16 : (ps_i s12 1131 4).toInt = (ps_i s1 1131 4).toInt := xeq (kp_i K12 4 rfl)
  have p12_1' : 1 ≤ (ps_i s1 1131 5).toInt → 1 ≤ (ps_i s12 1131 5).toInt := p12_1
  have r17 := mf_5 J12
  have ho : _ := p12_2
  have hrow : _ := p12_3
  have hof : ∀ k : Nat, (k : Int) < 25789 ∨ 25830 ≤ (k : Int) → ps_a s12 1134 k = g0 k := fun k hk => (ho k (by omega)).trans (congrFun hg0 k).symm
  have hF : 1 ≤ (ps_i s12 1131 5).toInt ∨ ∃ nl, Rw (ps_a s12 1134) (25789 : Int32).toInt nl ∧ ws σ nl [false] := hrow.imp id (fun z => (by obtain ⟨l2, g1, g2, g3⟩ := z; exact ⟨l2, g1, wf_ws g2⟩))
  refine ms_192 J12  (fun v18 p18_0 b18 => ?_)
  have p18_0' : (v18.toInt = 0 ∧ 1 ≤ (ps_i s12 1131 5).toInt) ∨ (v18.toInt = 1 ∧ (ps_i s12 1131 5).toInt = 0) := p18_0
  refine And.intro (fun h19 => ?_) (fun h19 => ?_)
  · have f20 : v18.toInt = (0 : Int) := xeq h19
    have r21 := mf_47 J12
    have u22 : (ps_i s12 1131 47).toInt = (ps_i s1 1131 47).toInt := xeq (kp_i K12 47 rfl)
    have r23 := mf_47 J1
    have u24 : (ps_i s1 1131 47).toInt = (ps_i s 1131 47).toInt := xeq (kp_i K1 47 rfl)
    have r25 := mf_47 J
    have r26 := mf_3 J12
    have u27 : (ps_i s12 1131 3).toInt = (ps_i s1 1131 3).toInt := xeq (kp_i K12 3 rfl)
    exact ms_288_31 (σ := σ) k  g0 _ J12 K13 hM0 hof (by assumption) (show (ps_i s12 1131 47).toInt ≤ 40 from by omega) (show (ps_i s12 1131 3).toInt = 0 from by omega)
  · have f28 : v18.toInt ≠ (0 : Int) := xne h19
    have r29 := mf_9 J12
    refine And.intro (fun h30 => ?_) (fun h30 => ?_)
    · have f31 : (ps_i s12 1131 9).toInt = (0 : Int) := xeq h30
      have r32 := mf_47 J12
      have u33 : (ps_i s12 1131 47).toInt = (ps_i s1 1131 47).toInt := xeq (kp_i K12 47 rfl)
      have r34 := mf_47 J1
      have u35 : (ps_i s1 1131 47).toInt = (ps_i s 1131 47).toInt := xeq (kp_i K1 47 rfl)
      have r36 := mf_47 J
      have r37 := mf_3 J12
      have u38 : (ps_i s12 1131 3).toInt = (ps_i s1 1131 3).toInt := xeq (kp_i K12 3 rfl)
      exact ms_288_31 (σ := σ) k  g0 _ J12 K13 hM0 hof (by assumption) (show (ps_i s12 1131 47).toInt ≤ 40 from by omega) (show (ps_i s12 1131 3).toInt = 0 from by omega)
    · have f39 : (ps_i s12 1131 9).toInt ≠ (0 : Int) := xne h30
      refine ms_196 J12  (fun s40 J40 K40 p40_0 => ?_)
      have K41 := kpt K13 K40 rfl rfl
      have hS2 : Sg (ps_a s40 1135) (ps_a s40 1136) (ps_a s40 1138) (ps_a s40 1139) (ps_i s40 1131 22).toInt σ := by rw [show ps_a s40 1135 = ps_a s12 1135 from (K40.2 1135 rfl).1, show ps_a s40 1136 = ps_a s12 1136 from (K40.2 1136 rfl).1, show ps_a s40 1138 = ps_a s12 1138 from (K40.2 1138 rfl).1, show ps_a s40 1139 = ps_a s12 1139 from (K40.2 1139 rfl).1, show ps_i s40 1131 22 = ps_i s12 1131 22 from kp_i K40 22 rfl]; exact hS2
      have hM0 : MI σ g0 (ps_a s40 1135) (ps_a s40 1136) (ps_a s40 1137) (ps_a s40 1138) (ps_a s40 1139) (ps_a s40 1157) (ps_a s40 1176) (ps_i s40 1131 21).toInt (ps_i s40 1131 47).toInt (ps_i s40 1131 54).toInt := by rw [show ps_a s40 1135 = ps_a s12 1135 from (K40.2 1135 rfl).1, show ps_a s40 1136 = ps_a s12 1136 from (K40.2 1136 rfl).1, show ps_a s40 1137 = ps_a s12 1137 from (K40.2 1137 rfl).1, show ps_a s40 1138 = ps_a s12 1138 from (K40.2 1138 rfl).1, show ps_a s40 1139 = ps_a s12 1139 from (K40.2 1139 rfl).1, show ps_a s40 1157 = ps_a s12 1157 from (K40.2 1157 rfl).1, show ps_a s40 1176 = ps_a s12 1176 from (K40.2 1176 rfl).1, show ps_i s40 1131 21 = ps_i s12 1131 21 from kp_i K40 21 rfl, show ps_i s40 1131 47 = ps_i s12 1131 47 from kp_i K40 47 rfl, show ps_i s40 1131 54 = ps_i s12 1131 54 from kp_i K40 54 rfl]; exact hM0
      have hof : ∀ k : Nat, (k : Int) < 25789 ∨ 25830 ≤ (k : Int) → ps_a s40 1134 k = g0 k := by rw [show ps_a s40 1134 = ps_a s12 1134 from (K40.2 1134 rfl).1]; exact hof
      have p40_0' : 1 ≤ (ps_i s40 1131 5).toInt := p40_0
      have r42 := mf_5 J40
      have r43 := mf_47 J40
      have u44 : (ps_i s40 1131 47).toInt = (ps_i s12 1131 47).toInt := xeq (kp_i K40 47 rfl)
      have r45 := mf_47 J12
      have u46 : (ps_i s12 1131 47).toInt = (ps_i s1 1131 47).toInt := xeq (kp_i K12 47 rfl)
      have r47 := mf_47 J1
      have u48 : (ps_i s1 1131 47).toInt = (ps_i s 1131 47).toInt := xeq (kp_i K1 47 rfl)
      have r49 := mf_47 J
      have r50 := mf_3 J40
      have u51 : (ps_i s40 1131 3).toInt = (ps_i s12 1131 3).toInt := xeq (kp_i K40 3 rfl)
      have r52 := mf_3 J12
      have u53 : (ps_i s12 1131 3).toInt = (ps_i s1 1131 3).toInt := xeq (kp_i K12 3 rfl)
      exact ms_288_31 (σ := σ) k  g0 _ J40 K41 hM0 hof (Or.inl (show 1 ≤ (ps_i s40 1131 5).toInt from by omega)) (show (ps_i s40 1131 47).toInt ≤ 40 from by omega) (show (ps_i s40 1131 3).toInt = 0 from by omega)
end
section
/-! models: levels at each place, values on the stack -/
def wr (σ : mSig) : List Nat → List (Bool × Nat) → List (Bool × Nat) → Prop
  | [], W, W' => W = W'
  | p :: l, W, W' => match W with
    | [] => False
    | w :: V => match kS σ w.1 p with
      | some ks => wr σ l (kL p w.2 ks ++ V) W'
      | none => False
theorem wr_cons {σ : mSig} {p : Nat} {l : List Nat} {W W' : List (Bool × Nat)} : wr σ (p :: l) W W' ↔ ∃ b k V ks, W = (b, k) :: V ∧ kS σ b p = some ks ∧ wr σ l (kL p k ks ++ V) W' := by
  cases W with
  | nil => exact ⟨fun h => h.elim, fun ⟨_, _, _, _, h, _⟩ => by cases h⟩
  | cons w V =>
    obtain ⟨b, k⟩ := w
    constructor
    · intro h
      unfold wr at h
      dsimp only at h
      split at h
      · next ks hk => exact ⟨b, k, V, ks, rfl, hk, h⟩
      · exact h.elim
    · rintro ⟨b', k', V', ks, e, hk, h⟩
      cases e
      unfold wr
      dsimp only
      rw [hk]
      exact h
theorem wr_un {σ : mSig} : ∀ {l : List Nat} {W W1 W2 : List (Bool × Nat)}, wr σ l W W1 → wr σ l W W2 → W1 = W2
  | [], W, W1, W2, h1, h2 => by
    have h1 : W = W1 := h1
    have h2 : W = W2 := h2
    rw [← h1, ← h2]
  | p :: l, W, W1, W2, h1, h2 => by
    obtain ⟨b, k, V, ks, rfl, hk, h⟩ := wr_cons.mp h1
    obtain ⟨b', k', V', ks', e, hk', h'⟩ := wr_cons.mp h2
    cases e
    rw [hk] at hk'
    cases hk'
    exact wr_un h h'
theorem wr_snoc {σ : mSig} : ∀ {l : List Nat} {p : Nat} {W : List (Bool × Nat)} {b : Bool} {k : Nat} {V : List (Bool × Nat)} {ks : List Bool}, wr σ l W ((b, k) :: V) → kS σ b p = some ks → wr σ (l ++ [p]) W (kL p k ks ++ V)
  | [], p, W, b, k, V, ks, h, hk => by
    have h : W = (b, k) :: V := h
    subst h
    exact wr_cons.mpr ⟨b, k, V, ks, rfl, hk, rfl⟩
  | q :: l, p, W, b, k, V, ks, h, hk => by
    obtain ⟨b', k', V', ks', rfl, hk', h'⟩ := wr_cons.mp h
    exact wr_cons.mpr ⟨b', k', V', ks', rfl, hk', wr_snoc h' hk⟩
theorem wr_last {σ : mSig} : ∀ {l : List Nat} {p : Nat} {W W' : List (Bool × Nat)}, wr σ (l ++ [p]) W W' → ∃ b k V ks, wr σ l W ((b, k) :: V) ∧ kS σ b p = some ks ∧ W' = kL p k ks ++ V
  | [], p, W, W', h => by
    obtain ⟨b, k, V, ks, rfl, hk, h'⟩ := wr_cons.mp (show wr σ (p :: []) W W' from h)
    exact ⟨b, k, V, ks, rfl, hk, (show kL p k ks ++ V = W' from h').symm⟩
  | q :: l, p, W, W', h => by
    obtain ⟨b, k, V, ks, rfl, hk, h'⟩ := wr_cons.mp (show wr σ (q :: (l ++ [p])) W W' from h)
    obtain ⟨b2, k2, V2, ks2, h1, h2, h3⟩ := wr_last h'
    exact ⟨b2, k2, V2, ks2, wr_cons.mpr ⟨b, k, V, ks, rfl, hk, h1⟩, h2, h3⟩
theorem wf_wr {σ : mSig} {c : Nat} : ∀ {l m : List Nat} {W : List (Bool × Nat)}, wf σ c (l ++ m) W → ∃ W', wr σ l W W' ∧ wf σ c m W'
  | [], m, W, h => ⟨W, rfl, h⟩
  | p :: l, m, W, h => by
    obtain ⟨b, k, W', ks, rfl, hc, hk, hw⟩ := wf_cons.mp (show wf σ c (p :: (l ++ m)) W from h)
    obtain ⟨W2, h1, h2⟩ := wf_wr hw
    exact ⟨W2, wr_cons.mpr ⟨b, k, W', ks, rfl, hk, h1⟩, h2⟩
theorem wr_wf {σ : mSig} {c : Nat} {l m : List Nat} {W W' : List (Bool × Nat)} (h : wf σ c (l ++ m) W) (hr : wr σ l W W') : wf σ c m W' := by
  obtain ⟨W2, h1, h2⟩ := wf_wr h
  rw [wr_un hr h1]
  exact h2
theorem wf_nil {σ : mSig} {c : Nat} {l : List Nat} (h : wf σ c l []) : l = [] := by
  cases l with
  | nil => rfl
  | cons p l' => exact h.elim
/-- the depth at each place of l -/
def DLn (σ : mSig) (gd : Nat → Int32) (l : List Nat) (n : Int) : Prop := ∀ l1 c l2 b k V, l = l1 ++ c :: l2 → (l1.length : Int) < n → wr σ l1 [(true, 0)] ((b, k) :: V) → (gd l1.length).toInt = (k : Int)
theorem DL_0 {σ : mSig} {gd : Nat → Int32} {l : List Nat} {n : Int} (h : n = 0) : DLn σ gd l n := fun l1 c l2 b k V _ hn _ => by omega
theorem DL_put {σ : mSig} {gd gd' : Nat → Int32} {l l1 l2 : List Nat} {c : Nat} {n n' : Int} {b : Bool} {k : Nat} {V : List (Bool × Nat)} (h : DLn σ gd l n) (e : l = l1 ++ c :: l2) (hn : n = (l1.length : Int)) (hn' : n' = n + 1) (hr : wr σ l1 [(true, 0)] ((b, k) :: V)) (hd : (gd' l1.length).toInt = (k : Int)) (ho : ∀ j, j ≠ l1.length → gd' j = gd j) : DLn σ gd' l n' := by
  intro m1 d m2 b' k' V' e' hm hr'
  by_cases q : m1.length = l1.length
  · have e1 : m1 = l1 := by
      rw [e] at e'
      exact (List.append_inj e' q.symm).1.symm
    subst e1
    have := wr_un hr hr'
    cases this
    exact hd
  · rw [ho _ q]
    exact h m1 d m2 b' k' V' e' (by omega) hr'
/-- where the quantifiers around end -/
def QS (σ : mSig) (gl : Nat → Int32) : Nat → List Nat → Int → List (Bool × Nat) → Prop
  | 0, _, _, W => ∀ w, w ∈ W → w.2 = 0
  | n + 1, l, i, W => ∃ W1 W2 p q, W = W1 ++ W2 ∧ (∀ w, w ∈ W1 → w.2 = n + 1) ∧ l = p ++ q ∧ wf σ 5 p W1 ∧ (gl n).toInt = i + (p.length : Int) ∧ QS σ gl n q (i + (p.length : Int)) W2
theorem QS_ext {σ : mSig} {gl gl' : Nat → Int32} : ∀ {n : Nat} {l : List Nat} {i : Int} {W : List (Bool × Nat)}, (∀ j, j < n → gl' j = gl j) → QS σ gl n l i W → QS σ gl' n l i W
  | 0, l, i, W, _, h => h
  | n + 1, l, i, W, he, ⟨W1, W2, p, q, h1, h2, h3, h4, h5, h6⟩ => ⟨W1, W2, p, q, h1, h2, h3, h4, by rw [he n (by omega)]; exact h5, QS_ext (fun j hj => he j (by omega)) h6⟩
theorem QS_pop {σ : mSig} {gl : Nat → Int32} {n : Nat} {l : List Nat} {i : Int} {W : List (Bool × Nat)} (h : QS σ gl (n + 1) l i W) (hi : (gl n).toInt ≤ i) : QS σ gl n l i W := by
  obtain ⟨W1, W2, p, q, h1, h2, h3, h4, h5, h6⟩ := h
  have hp : p = [] := lnil (by omega)
  subst hp
  have hW : W1 = [] := h4
  subst hW
  rw [List.nil_append] at h1 h3
  rw [h1, h3]
  have : i + (([] : List Nat).length : Int) = i := by rw [List.length_nil]; omega
  rw [this] at h6
  exact h6
theorem QS_head {σ : mSig} {gl : Nat → Int32} {n : Nat} {l : List Nat} {i : Int} {b : Bool} {k : Nat} {V : List (Bool × Nat)} (h : QS σ gl n l i ((b, k) :: V)) (hn : n = 0 ∨ i < (gl (n - 1)).toInt) : k = n := by
  cases n with
  | zero => exact h (b, k) List.mem_cons_self
  | succ n =>
    obtain ⟨W1, W2, p, q, h1, h2, h3, h4, h5, h6⟩ := h
    have hi : i < (gl n).toInt := by
      rcases hn with z | z
      · omega
      · exact z
    cases W1 with
    | nil =>
      have := wf_nil h4
      rw [this, List.length_nil] at h5
      omega
    | cons w W1 =>
      cases h1
      exact h2 _ List.mem_cons_self
/-- a piece that is no quantifier -/
theorem QS_c {σ : mSig} {gl : Nat → Int32} {n c : Nat} {l : List Nat} {i i' : Int} {b : Bool} {ks : List Bool} {V : List (Bool × Nat)} (h : QS σ gl n (c :: l) i ((b, n) :: V)) (hn : n = 0 ∨ i < (gl (n - 1)).toInt) (hc : ¬ (c = 4 ∨ c = 5)) (hk : kS σ b c = some ks) (hi : i' = i + 1) : QS σ gl n l i' (kL c n ks ++ V) := by
  subst hi
  have hL : ∀ w, w ∈ kL c n ks → w.2 = n := by
    intro w hw
    unfold kL at hw
    rw [List.mem_map] at hw
    obtain ⟨a, -, rfl⟩ := hw
    exact if_neg hc
  cases n with
  | zero =>
    intro w hw
    rcases List.mem_append.mp hw with hw | hw
    · exact hL w hw
    · exact h w (List.mem_cons_of_mem _ hw)
  | succ n =>
    obtain ⟨W1, W2, p, q, h1, h2, h3, h4, h5, h6⟩ := h
    have hi : i < (gl n).toInt := by
      rcases hn with z | z
      · omega
      · exact z
    cases p with
    | nil => rw [List.length_nil] at h5; omega
    | cons d p =>
      rw [List.cons_append] at h3
      cases h3
      cases W1 with
      | nil => cases h4
      | cons w W1 =>
        rw [List.cons_append] at h1
        cases h1
        obtain ⟨b', k', W', ks', e, -, hk', hw⟩ := wf_cons.mp h4
        cases e
        rw [hk] at hk'
        cases hk'
        rw [llenc] at h5 h6
        refine ⟨kL c (n + 1) ks ++ W1, W2, p, q, by rw [List.append_assoc], fun w hw => ?_, rfl, hw, by omega, ?_⟩
        · rcases List.mem_append.mp hw with hw | hw
          · exact hL w hw
          · exact h2 w (List.mem_cons_of_mem _ hw)
        · rw [show i + 1 + (p.length : Int) = i + ((p.length : Int) + 1) from by omega]
          exact h6
/-- a quantifier -/
theorem QS_q {σ : mSig} {gl : Nat → Int32} {n c : Nat} {l : List Nat} {i : Int} {V : List (Bool × Nat)} (h : QS σ gl n (c :: l) i ((true, n) :: V)) (hn : n = 0 ∨ i < (gl (n - 1)).toInt) (hc : c = 4 ∨ c = 5) (hw : wf σ 5 (c :: l) ((true, n) :: V)) : ∃ body rest, l = body ++ rest ∧ wf σ 5 body [(true, n + 1)] ∧ n ≤ 4 ∧ ∀ gl' : Nat → Int32, (∀ j, j < n → gl' j = gl j) → (gl' n).toInt = i + 1 + (body.length : Int) → QS σ gl' (n + 1) l (i + 1) (kL c n [true] ++ V) := by
  have hkL : kL c n [true] = [(true, n + 1)] := by
    unfold kL
    rw [List.map_cons, if_pos hc]; rfl
  have h5 : ∀ {bd : List Nat}, wf σ 5 bd [(true, n + 1)] → n ≤ 4 := by
    intro bd hb
    obtain ⟨d, bd', rfl⟩ := (show ∃ d bd', bd = d :: bd' from by
      cases bd with
      | nil => cases hb
      | cons d bd' => exact ⟨d, bd', rfl⟩)
    obtain ⟨b', k', W', ks', e, h1, -, -⟩ := wf_cons.mp hb
    cases e
    omega
  cases n with
  | zero =>
    obtain ⟨b', k', W', ks', e, -, hk', hw'⟩ := wf_cons.mp hw
    cases e
    rw [kS_f1 hc] at hk'
    cases hk'
    rw [hkL] at hw'
    obtain ⟨body, rest, e1, e2, e3⟩ := wf_split hw'
    refine ⟨body, rest, e1, e2, by omega, fun gl' he hg => ⟨[(true, 1)], V, body, rest, by rw [hkL], fun w hw => ?_, e1, e2, by rw [hg], fun w hw => h w (List.mem_cons_of_mem _ hw)⟩⟩
    rw [List.mem_singleton] at hw
    rw [hw]
  | succ n =>
    obtain ⟨W1, W2, p, q, h1, h2, h3, h4, h5', h6⟩ := h
    have hi : i < (gl n).toInt := by
      rcases hn with z | z
      · omega
      · exact z
    cases p with
    | nil => rw [List.length_nil] at h5'; omega
    | cons d p =>
      rw [List.cons_append] at h3
      cases h3
      cases W1 with
      | nil => cases h4
      | cons w W1 =>
        rw [List.cons_append] at h1
        cases h1
        obtain ⟨b', k', W', ks', e, -, hk', hw'⟩ := wf_cons.mp h4
        cases e
        rw [kS_f1 hc] at hk'
        cases hk'
        rw [hkL] at hw'
        obtain ⟨body, p2, e1, e2, e3⟩ := wf_split hw'
        rw [llenc] at h5' h6
        refine ⟨body, p2 ++ q, by rw [e1, List.append_assoc], e2, h5 e2, fun gl' he hg => ⟨[(true, n + 1 + 1)], W1 ++ W2, body, p2 ++ q, by rw [hkL], fun w hw => ?_, by rw [e1, List.append_assoc], e2, by rw [hg], ?_⟩⟩
        · rw [List.mem_singleton] at hw
          rw [hw]
        · have e4 : (p.length : Int) = body.length + p2.length := by rw [e1]; exact llen
          refine ⟨W1, W2, p2, q, rfl, fun w hw => h2 w (List.mem_cons_of_mem _ hw), rfl, e3, by rw [he n (by omega)]; omega, ?_⟩
          rw [show i + 1 + (body.length : Int) + (p2.length : Int) = i + ((p.length : Int) + 1) from by omega]
          exact QS_ext (fun j hj => he j (by omega)) h6
/-- terms on the stack have values that are things -/
def VS (gv : Nat → Int32) (nn : Int) : List (Bool × Nat) → Prop
  | [] => True
  | w :: W => (w.1 = false → ∀ e : Nat, (e : Int) < nn ^ w.2 → 0 ≤ (gv (243 * W.length + e)).toInt ∧ (gv (243 * W.length + e)).toInt ≤ 2) ∧ VS gv nn W
theorem VS_ext {gv gv' : Nat → Int32} {nn : Int} : ∀ {W : List (Bool × Nat)}, (∀ j, j < 243 * W.length → gv' j = gv j) → (∀ w, w ∈ W → nn ^ w.2 ≤ 243) → VS gv nn W → VS gv' nn W
  | [], _, _, _ => trivial
  | w :: W, he, hw, ⟨h1, h2⟩ => by
    rw [List.length_cons] at he
    refine ⟨fun q e hE => ?_, VS_ext (fun j hj => he j (by omega)) (fun w' h' => hw w' (List.mem_cons_of_mem _ h')) h2⟩
    have := hw w List.mem_cons_self
    rw [he _ (by omega)]
    exact h1 q e hE
theorem VS_tail {gv : Nat → Int32} {nn : Int} : ∀ {A V : List (Bool × Nat)}, VS gv nn (A ++ V) → VS gv nn V
  | [], V, h => h
  | a :: A, V, h => VS_tail h.2
theorem xdivr {a b : Int32} (ha : 0 ≤ a.toInt) (hb : 1 ≤ b.toInt) : (a / b).toInt = a.toInt / b.toInt := by
  rw [Int32.toInt_div, Int.tdiv_eq_ediv_of_nonneg ha]
  have h1 : 0 ≤ a.toInt / b.toInt := Int.ediv_nonneg ha (by omega)
  have h2 : a.toInt / b.toInt ≤ a.toInt := Int.ediv_le_self _ ha
  have := Int32.toInt_lt a
  exact Int.bmod_eq_of_le (by omega) (by omega)
theorem xdiv0 {a b : Int32} (ha : 0 ≤ a.toInt) (hb : 1 ≤ b.toInt) : 0 ≤ (a / b).toInt := by
  rw [xdivr ha hb]
  exact Int.ediv_nonneg ha (by omega)
theorem xmodr {a b : Int32} (ha : 0 ≤ a.toInt) (hb : 1 ≤ b.toInt) : (a - (a / b) * b).toInt = a.toInt % b.toInt := by
  have e1 := xdivr ha hb
  have hm := Int.emod_add_mul_ediv a.toInt b.toInt
  have h3 : 0 ≤ a.toInt % b.toInt := Int.emod_nonneg _ (by omega)
  have h4 : 0 ≤ b.toInt * (a.toInt / b.toInt) := Int.mul_nonneg (by omega) (Int.ediv_nonneg ha (by omega))
  have h5 := Int32.toInt_lt a
  have e2 : ((a / b) * b).toInt = b.toInt * (a.toInt / b.toInt) := by
    rw [Int32.toInt_mul, e1, Int.mul_comm]
    exact Int.bmod_eq_of_le (by omega) (by omega)
  rw [Int32.toInt_sub, e2]
  rw [show a.toInt - b.toInt * (a.toInt / b.toInt) = a.toInt % b.toInt from by omega]
  have h6 : a.toInt % b.toInt < b.toInt := Int.emod_lt_of_pos _ (by omega)
  have := Int32.toInt_lt b
  exact Int.bmod_eq_of_le (by omega) (by omega)
theorem xmod2 {a b : Int32} (ha : 0 ≤ a.toInt) (hb : 1 ≤ b.toInt) (hb3 : b.toInt ≤ 3) : 0 ≤ (a - (a / b) * b).toInt ∧ (a - (a / b) * b).toInt ≤ 2 := by
  rw [xmodr ha hb]
  have h3 : 0 ≤ a.toInt % b.toInt := Int.emod_nonneg _ (by omega)
  have h6 : a.toInt % b.toInt < b.toInt := Int.emod_lt_of_pos _ (by omega)
  omega
theorem pw9 {n : Int} {k : Nat} (h1 : 1 ≤ n) (h3 : n ≤ 3) (hk : k ≤ 2) : 1 ≤ n ^ k ∧ n ^ k ≤ 9 := by
  rcases (show n = 1 ∨ n = 2 ∨ n = 3 from by omega) with z | z | z <;> rcases (show k = 0 ∨ k = 1 ∨ k = 2 from by omega) with q | q | q <;> subst z <;> subst q <;> decide
theorem pw243 {n : Int} {k : Nat} (h1 : 1 ≤ n) (h3 : n ≤ 3) (hk : k ≤ 5) : 1 ≤ n ^ k ∧ n ^ k ≤ 243 := by
  rcases (show n = 1 ∨ n = 2 ∨ n = 3 from by omega) with z | z | z <;> rcases (show k = 0 ∨ k = 1 ∨ k = 2 ∨ k = 3 ∨ k = 4 ∨ k = 5 from by omega) with q | q | q | q | q | q <;> subst z <;> subst q <;> decide
theorem pwpos {n : Int} {k : Nat} (h1 : 1 ≤ n) : 1 ≤ n ^ k := by
  have := Int.pow_pos (n := n) (m := k) (by omega)
  omega
theorem mul3 {a b : Int32} (ha : 1 ≤ a.toInt ∧ a.toInt ≤ 4096) (hb : 1 ≤ b.toInt ∧ b.toInt ≤ 3) : 1 ≤ (a * b).toInt ∧ (a * b).toInt ≤ 12288 := by
  have e : (a * b).toInt = a.toInt * b.toInt := by
    rw [Int32.toInt_mul]
    rcases (show b.toInt = 1 ∨ b.toInt = 2 ∨ b.toInt = 3 from by omega) with z | z | z <;> rw [z] <;> exact Int.bmod_eq_of_le (by omega) (by omega)
  rw [e]
  rcases (show b.toInt = 1 ∨ b.toInt = 2 ∨ b.toInt = 3 from by omega) with z | z | z <;> rw [z] <;> omega
theorem mul33 {a b : Int32} (ha : 0 ≤ a.toInt ∧ a.toInt ≤ 243) (hb : 1 ≤ b.toInt ∧ b.toInt ≤ 3) : (a * b).toInt = a.toInt * b.toInt ∧ a.toInt ≤ a.toInt * b.toInt ∧ a.toInt * b.toInt ≤ 3 * a.toInt := by
  have e : (a * b).toInt = a.toInt * b.toInt := by
    rw [Int32.toInt_mul]
    rcases (show b.toInt = 1 ∨ b.toInt = 2 ∨ b.toInt = 3 from by omega) with z | z | z <;> rw [z] <;> exact Int.bmod_eq_of_le (by omega) (by omega)
  refine ⟨e, ?_⟩
  rcases (show b.toInt = 1 ∨ b.toInt = 2 ∨ b.toInt = 3 from by omega) with z | z | z <;> rw [z] <;> constructor <;> omega
theorem Bs_put {g g' : Nat → Int32} {n n' : Int} {i : Nat} (h : ∀ j : Nat, (j : Int) < n → 1 ≤ (g j).toInt ∧ (g j).toInt ≤ 3) (hi : (i : Int) = n) (e : n' = n + 1) (h1 : 1 ≤ (g' i).toInt ∧ (g' i).toInt ≤ 3) (h2 : ∀ j, j ≠ i → g' j = g j) : ∀ j : Nat, (j : Int) < n' → 1 ≤ (g' j).toInt ∧ (g' j).toInt ≤ 3 := fun j hj => by
  by_cases q : j = i
  · rw [q]; exact h1
  · rw [h2 j q]; exact h j (by omega)
theorem Dg_put {g g' : Nat → Int32} {m i : Nat} (h : ∀ j : Nat, j < m → 0 ≤ (g j).toInt ∧ (g j).toInt ≤ 2) (h1 : 0 ≤ (g' i).toInt ∧ (g' i).toInt ≤ 2) (h2 : ∀ j, j ≠ i → g' j = g j) : ∀ j : Nat, j < m → 0 ≤ (g' j).toInt ∧ (g' j).toInt ≤ 2 := fun j hj => by
  by_cases q : j = i
  · rw [q]; exact h1
  · rw [h2 j q]; exact h j hj
theorem kS_q {σ : mSig} {b : Bool} {c : Nat} {ks : List Bool} (h : kS σ b c = some ks) (hc : c = 4 ∨ c = 5) : b = true ∧ ks = [true] := by
  rcases kS_cases h with ⟨rfl, hp, rfl⟩ | ⟨rfl, hp, hp', rfl⟩ | ⟨rfl, hp, rfl⟩ | ⟨rfl, hp, rfl⟩ | ⟨rfl, hp, hp', rfl⟩ | ⟨rfl, hp, hp', rfl⟩ | ⟨rfl, hp, hp', rfl⟩
  · omega
  · omega
  · exact ⟨rfl, rfl⟩
  · omega
  · omega
  · omega
  · omega
theorem wr_end {σ : mSig} {l : List Nat} {W : List (Bool × Nat)} (h : wf σ 5 l W) : wr σ l W [] := by
  obtain ⟨W', h1, h2⟩ := wf_wr (l := l) (m := []) (by rw [List.append_nil]; exact h)
  have h2 : W' = [] := h2
  subst h2
  exact h1
theorem wf_lev {σ : mSig} {c : Nat} : ∀ {l : List Nat} {W : List (Bool × Nat)}, wf σ c l W → ∀ w, w ∈ W → w.2 ≤ c
  | [], W, h, w, hw => by
    have h : W = [] := h
    subst h
    cases hw
  | p :: l, W, h, w, hw => by
    obtain ⟨b, k, W', ks, rfl, hc, hk, hw'⟩ := wf_cons.mp h
    rcases List.mem_cons.mp hw with rfl | hw
    · exact hc
    · exact wf_lev hw' w (List.mem_append_right _ hw)
theorem wf_le {σ : mSig} {c : Nat} {l : List Nat} {W : List (Bool × Nat)} (h : wf σ c l W) : W.length ≤ l.length := by
  have := ws_le (wf_ws h)
  rw [List.length_map] at this
  exact this
theorem kL_len {p k : Nat} {ks : List Bool} : (kL p k ks).length = ks.length := by
  unfold kL
  rw [List.length_map]
theorem kS_f20 {σ : mSig} {b : Bool} {c : Nat} {ks : List Bool} (h : kS σ b c = some ks) (hb : b = false) : 20 ≤ c := by
  subst hb
  rcases kS_cases h with ⟨h1, -, -⟩ | ⟨h1, -, -⟩ | ⟨h1, -, -⟩ | ⟨h1, -, -⟩ | ⟨h1, -, -⟩ | ⟨-, hp, -, -⟩ | ⟨-, hp, -, -⟩
  · cases h1
  · cases h1
  · cases h1
  · cases h1
  · cases h1
  · exact hp
  · omega
theorem kS_10 {σ : mSig} {b : Bool} {c : Nat} {ks : List Bool} (h : kS σ b c = some ks) (hc : 10 ≤ c) : ks = List.replicate ks.length false := by
  rcases kS_cases h with ⟨rfl, hp, rfl⟩ | ⟨rfl, hp, hp', rfl⟩ | ⟨rfl, hp, rfl⟩ | ⟨rfl, hp, rfl⟩ | ⟨rfl, hp, hp', rfl⟩ | ⟨rfl, hp, hp', rfl⟩ | ⟨rfl, hp, hp', rfl⟩
  · omega
  · omega
  · omega
  · omega
  · rw [List.length_replicate]
  · rw [List.length_replicate]
  · rfl
theorem VS_12 {σ : mSig} {gv : Nat → Int32} {nn : Int} {b : Bool} {c k : Nat} {ks : List Bool} {U : List (Bool × Nat)} (h : VS gv nn (kL c k ks ++ U)) (hk : kS σ b c = some ks) (hc : 10 ≤ c) (h2 : ks.length ≤ 2) : (ks.length ≠ 0 → ∀ e : Nat, (e : Int) < nn ^ k → 0 ≤ (gv (243 * (U.length + ks.length - 1) + e)).toInt ∧ (gv (243 * (U.length + ks.length - 1) + e)).toInt ≤ 2) ∧ (ks.length = 2 → ∀ e : Nat, (e : Int) < nn ^ k → 0 ≤ (gv (243 * U.length + e)).toInt ∧ (gv (243 * U.length + e)).toInt ≤ 2) := by
  rw [kS_10 hk hc, kL_rep, if_neg (by omega)] at h
  rcases (show ks.length = 0 ∨ ks.length = 1 ∨ ks.length = 2 from by omega) with z | z | z
  · exact ⟨fun q => absurd z q, fun q => by omega⟩
  · rw [z] at h
    rw [z]
    exact ⟨fun _ e he => h.1 rfl e he, fun q => by omega⟩
  · rw [z] at h
    rw [z]
    refine ⟨fun _ e he => ?_, fun _ e he => h.2.1 rfl e he⟩
    exact h.1 rfl e he
theorem q243 {n e : Int} {k : Nat} (h1 : 1 ≤ n) (h3 : n ≤ 3) (hk : k ≤ 4) (he : e < n ^ k) : e * n + n ≤ 243 := by
  have h81 : n ^ k ≤ 81 := by
    rcases (show n = 1 ∨ n = 2 ∨ n = 3 from by omega) with z | z | z <;> rcases (show k = 0 ∨ k = 1 ∨ k = 2 ∨ k = 3 ∨ k = 4 from by omega) with q | q | q | q | q <;> subst z <;> subst q <;> decide
  rcases (show n = 1 ∨ n = 2 ∨ n = 3 from by omega) with z | z | z <;> rw [z] <;> omega
theorem wf_qk {σ : mSig} {b : Bool} {c k : Nat} {m : List Nat} {U : List (Bool × Nat)} (h : wf σ 5 (c :: m) ((b, k) :: U)) (hc : c = 4 ∨ c = 5) : k ≤ 4 := by
  obtain ⟨b', k', W', ks, e, hk5, hk, hw⟩ := wf_cons.mp h
  cases e
  obtain ⟨rfl, rfl⟩ : b = true ∧ ks = [true] := by
    rcases kS_cases hk with ⟨rfl, hp, rfl⟩ | ⟨rfl, hp, hp', rfl⟩ | ⟨rfl, hp, rfl⟩ | ⟨rfl, hp, rfl⟩ | ⟨rfl, hp, hp', rfl⟩ | ⟨rfl, hp, hp', rfl⟩ | ⟨rfl, hp, hp', rfl⟩
    · omega
    · omega
    · exact ⟨rfl, rfl⟩
    · omega
    · omega
    · omega
    · omega
  have := wf_lev hw (true, k + 1) (by
    refine List.mem_append_left _ ?_
    unfold kL
    rw [List.map_cons, if_pos hc]
    exact List.mem_cons_self)
  have : k + 1 ≤ 5 := this
  omega
theorem EL_put {gv gv' : Nat → Int32} {u i : Nat} {n n' : Int} (h : ∀ e : Nat, (e : Int) < n → 0 ≤ (gv (243 * u + e)).toInt ∧ (gv (243 * u + e)).toInt ≤ 2) (hi : i = 243 * u + n.toNat) (hn : n' = n + 1) (h0 : 0 ≤ n) (h1 : 0 ≤ (gv' i).toInt ∧ (gv' i).toInt ≤ 2) (h2 : ∀ j, j ≠ i → gv' j = gv j) : ∀ e : Nat, (e : Int) < n' → 0 ≤ (gv' (243 * u + e)).toInt ∧ (gv' (243 * u + e)).toInt ≤ 2 := fun e he => by
  by_cases q : 243 * u + e = i
  · rw [q]; exact h1
  · rw [h2 _ q]; exact h e (by omega)
theorem EL_keep {gv gv' : Nat → Int32} {w i : Nat} {n n' m : Int} (h : ∀ e : Nat, n ≤ (e : Int) → (e : Int) < m → 0 ≤ (gv (w + e)).toInt ∧ (gv (w + e)).toInt ≤ 2) (hn : n ≤ n') (h2 : ∀ j, j ≠ i → gv' j = gv j) (hd : ∀ e : Nat, n' ≤ (e : Int) → (e : Int) < m → w + e ≠ i) : ∀ e : Nat, n' ≤ (e : Int) → (e : Int) < m → 0 ≤ (gv' (w + e)).toInt ∧ (gv' (w + e)).toInt ≤ 2 := fun e h3 h4 => by
  rw [h2 _ (hd e h3 h4)]
  exact h e (by omega) h4
end
section
set_option maxRecDepth 100000
-- ProofBenchModel.digit(II)I
theorem pg_292_0 {d : Nat} {x1 : Int32} {x2 : Int32} {s : ps_S} {Q : Option Value → ps_S → Prop} (h :
  ps_nd (pm_in (ps_i s 1131 73) 96) ((x2 ≤ 4096 →
    Q (some (.int (x2 * x1))) (ps_ui (ps_ua s 1170 (Int32.toNatClampNeg (ps_i s 1131 73)) x1) 1131 73 ((ps_i (ps_ua s 1170 (Int32.toNatClampNeg (ps_i s 1131 73)) x1) 1131 73) + 1))) ∧
  (4096 < x2 →
    Q (some (.int x2)) (ps_ui (ps_ua s 1170 (Int32.toNatClampNeg (ps_i s 1131 73)) x1) 1131 73 ((ps_i (ps_ua s 1170 (Int32.toNatClampNeg (ps_i s 1131 73)) x1) 1131 73) + 1))))) : ps_At d 292 0 [(0, .ref 1131), (1, .int x1), (2, .int x2)] [] s Q :=
  ps_wp_at (stops := []) (n := 24) h rfl

theorem ms_292 {x : Nat → Nat → Nat} {t : Int32} {s : ps_S} {d : Nat} {x1 : Int32} {x2 : Int32} {f : Int32 → ps_S → Prop} (J : mJ x t s) (q0 : 1 ≤ x1.toInt) (q1 : x1.toInt ≤ 3) (q2 : (ps_i s 1131 73).toInt ≤ 95) (q3 : 1 ≤ x2.toInt) (q4 : x2.toInt ≤ 12288) (k : ∀ (v : Int32) (s' : ps_S), mJ x t s' → kp [1170] [73] s s' → (1 ≤ v.toInt) → (v.toInt ≤ 12288) → ((ps_i s' 1131 73).toInt = (ps_i s 1131 73).toInt + 1) → (ps_a s' 1170 (Int32.toNatClampNeg (ps_i s 1131 73)) = x1) → (∀ j : Nat, j ≠ (Int32.toNatClampNeg (ps_i s 1131 73)) → ps_a s' 1170 j = ps_a s 1170 j) → f v s') : ps_Cl d 292 [.ref 1131, .int x1, .int x2] s (ps_rI f) := by
  have r1 := mf_73 J
  have K : kp [1170] [73] s s := kp_refl
  refine pg_292_0 ?_
  refine ps_nd_i (show pm_in (ps_i s 1131 73) 96 = true from xgi (show 0 ≤ (ps_i s 1131 73).toInt from by omega) (show (ps_i s 1131 73).toInt < 96 from by omega)) ?_
  have J2 := mwa_n 1170 (i := (Int32.toNatClampNeg (ps_i s 1131 73))) (v := x1) J rfl (by decide)
  have K3 := kpa' K (r := 1170) (i := (Int32.toNatClampNeg (ps_i s 1131 73))) (v := x1) rfl
  have a4 : ((ps_i s 1131 73) + 1).toInt = (ps_i s 1131 73).toInt + (1 : Int) := xIa (show -2147483648 ≤ (ps_i s 1131 73).toInt + (1 : Int) from by omega) (show (ps_i s 1131 73).toInt + (1 : Int) < 2147483648 from by omega)
  have J5 := mwi_73 (v := ((ps_i s 1131 73) + 1)) J2 (show 0 ≤ ((ps_i s 1131 73) + 1).toInt from by omega) (show ((ps_i s 1131 73) + 1).toInt ≤ 96 from by omega)
  have K6 := kpi K3 (q := 73) (v := ((ps_i s 1131 73) + 1)) rfl
  refine And.intro (fun h7 => ?_) (fun h7 => ?_)
  · have f8 : x2.toInt ≤ (4096 : Int) := xle h7
    have hv : 1 ≤ ((x2 * x1)).toInt ∧ ((x2 * x1)).toInt ≤ 12288 := by first | exact mul3 ⟨by omega, by omega⟩ ⟨by omega, by omega⟩ | exact ⟨by omega, by omega⟩
    exact k (x2 * x1) _ J5 K6 (show 1 ≤ (x2 * x1).toInt from by omega) (show (x2 * x1).toInt ≤ 12288 from by omega) (show ((ps_i s 1131 73) + 1).toInt = (ps_i s 1131 73).toInt + 1 from by omega) (ua_eq) (fun j hj => ua_ne hj)
  · have f9 : (4096 : Int) < x2.toInt := xlt h7
    have hv : 1 ≤ (x2).toInt ∧ (x2).toInt ≤ 12288 := by first | exact mul3 ⟨by omega, by omega⟩ ⟨by omega, by omega⟩ | exact ⟨by omega, by omega⟩
    exact k x2 _ J5 K6 (show 1 ≤ x2.toInt from by omega) (show x2.toInt ≤ 12288 from by omega) (show ((ps_i s 1131 73) + 1).toInt = (ps_i s 1131 73).toInt + 1 from by omega) (ua_eq) (fun j hj => ua_ne hj)

-- ProofBenchModel.layModels(I)I
theorem pg_291_0 {d : Nat} {x1 : Int32} {s : ps_S} {Q : Option Value → ps_S → Prop} (h :
  ps_At (d + 1) 291 9 [(0, .ref 1131), (1, .int x1), (2, .int 1), (3, .int 0)] [] (ps_ui s 1131 73 0) Q) : ps_At (d + 1) 291 0 [(0, .ref 1131), (1, .int x1)] [] s Q :=
  ps_wp_at (stops := [(9, [0, 1, 2, 3]), (52, [0, 1, 2, 3, 4]), (78, [0, 1, 2, 3]), (120, [0, 1, 2, 3, 4])]) (n := 9) h rfl

theorem pg_291_9 {d : Nat} {x1 : Int32} {x2 : Int32} {x3 : Int32} {s : ps_S} {Q : Option Value → ps_S → Prop} (h :
  ps_nd (pm_in (ps_i s 1131 21) 2) (((ps_a s 1135 (Int32.toNatClampNeg (ps_i s 1131 21))) ≤ x3 →
    ps_At (d + 1) 291 78 [(0, .ref 1131), (1, .int x1), (2, .int x2), (3, .int 0)] [] s Q) ∧
  (x3 < (ps_a s 1135 (Int32.toNatClampNeg (ps_i s 1131 21))) →
    ps_nd (pm_in x3 6) (ps_nd (pm_in (((6 : Int32) * (ps_i (ps_ua s 1171 (Int32.toNatClampNeg x3) (ps_i s 1131 73)) 1131 21)) + x3) 12) (ps_Cl d 290 [.int x1, .int (ps_a (ps_ua s 1171 (Int32.toNatClampNeg x3) (ps_i s 1131 73)) 1138 (Int32.toNatClampNeg (((6 : Int32) * (ps_i (ps_ua s 1171 (Int32.toNatClampNeg x3) (ps_i s 1131 73)) 1131 21)) + x3)))] (ps_ua s 1171 (Int32.toNatClampNeg x3) (ps_i s 1131 73)) (ps_rI (fun v1 s1 =>
      ps_At (d + 1) 291 52 [(0, .ref 1131), (1, .int x1), (2, .int x2), (3, .int x3), (4, .int v1)] [] s1 Q))))))) : ps_At (d + 1) 291 9 [(0, .ref 1131), (1, .int x1), (2, .int x2), (3, .int x3)] [] s Q :=
  ps_wp_at (stops := [(9, [0, 1, 2, 3]), (52, [0, 1, 2, 3, 4]), (78, [0, 1, 2, 3]), (120, [0, 1, 2, 3, 4])]) (n := 29) h rfl

theorem pg_291_52 {d : Nat} {x1 : Int32} {x2 : Int32} {x3 : Int32} {x4 : Int32} {s : ps_S} {Q : Option Value → ps_S → Prop} (h :
  (x4 ≤ 0 →
    ps_At (d + 1) 291 9 [(0, .ref 1131), (1, .int x1), (2, .int x2), (3, .int (x3 + 1))] [] s Q) ∧
  (0 < x4 →
    ps_Cl d 292 [.ref 1131, .int 2, .int x2] s (ps_rI (fun v1 s1 =>
      ps_At (d + 1) 291 52 [(0, .ref 1131), (1, .int x1), (2, .int v1), (3, .int x3), (4, .int (x4 + (Int32.ofInt (-1))))] [] s1 Q)))) : ps_At (d + 1) 291 52 [(0, .ref 1131), (1, .int x1), (2, .int x2), (3, .int x3), (4, .int x4)] [] s Q :=
  ps_wp_at (stops := [(9, [0, 1, 2, 3]), (52, [0, 1, 2, 3, 4]), (78, [0, 1, 2, 3]), (120, [0, 1, 2, 3, 4])]) (n := 13) h rfl

theorem pg_291_78 {d : Nat} {x1 : Int32} {x2 : Int32} {x3 : Int32} {s : ps_S} {Q : Option Value → ps_S → Prop} (h :
  ps_nd (pm_in (ps_i s 1131 21) 2) (((ps_a s 1136 (Int32.toNatClampNeg (ps_i s 1131 21))) ≤ x3 →
    Q (some (.int x2)) s) ∧
  (x3 < (ps_a s 1136 (Int32.toNatClampNeg (ps_i s 1131 21))) →
    ps_nd (pm_in x3 4) (ps_nd (pm_in (((4 : Int32) * (ps_i (ps_ua s 1172 (Int32.toNatClampNeg x3) (ps_i s 1131 73)) 1131 21)) + x3) 8) (ps_Cl d 290 [.int x1, .int (ps_a (ps_ua s 1172 (Int32.toNatClampNeg x3) (ps_i s 1131 73)) 1139 (Int32.toNatClampNeg (((4 : Int32) * (ps_i (ps_ua s 1172 (Int32.toNatClampNeg x3) (ps_i s 1131 73)) 1131 21)) + x3)))] (ps_ua s 1172 (Int32.toNatClampNeg x3) (ps_i s 1131 73)) (ps_rI (fun v1 s1 =>
      ps_At (d + 1) 291 120 [(0, .ref 1131), (1, .int x1), (2, .int x2), (3, .int x3), (4, .int v1)] [] s1 Q))))))) : ps_At (d + 1) 291 78 [(0, .ref 1131), (1, .int x1), (2, .int x2), (3, .int x3)] [] s Q :=
  ps_wp_at (stops := [(9, [0, 1, 2, 3]), (52, [0, 1, 2, 3, 4]), (78, [0, 1, 2, 3]), (120, [0, 1, 2, 3, 4])]) (n := 29) h rfl

theorem pg_291_120 {d : Nat} {x1 : Int32} {x2 : Int32} {x3 : Int32} {x4 : Int32} {s : ps_S} {Q : Option Value → ps_S → Prop} (h :
  (x4 ≤ 0 →
    ps_At (d + 1) 291 78 [(0, .ref 1131), (1, .int x1), (2, .int x2), (3, .int (x3 + 1))] [] s Q) ∧
  (0 < x4 →
    ps_Cl d 292 [.ref 1131, .int x1, .int x2] s (ps_rI (fun v1 s1 =>
      ps_At (d + 1) 291 120 [(0, .ref 1131), (1, .int x1), (2, .int v1), (3, .int x3), (4, .int (x4 + (Int32.ofInt (-1))))] [] s1 Q)))) : ps_At (d + 1) 291 120 [(0, .ref 1131), (1, .int x1), (2, .int x2), (3, .int x3), (4, .int x4)] [] s Q :=
  ps_wp_at (stops := [(9, [0, 1, 2, 3]), (52, [0, 1, 2, 3, 4]), (78, [0, 1, 2, 3]), (120, [0, 1, 2, 3, 4])]) (n := 13) h rfl

theorem ms_291_52 {x : Nat → Nat → Nat} {t : Int32} {d : Nat} {s0 : ps_S} {σ : mSig} {x1 : Int32} {Q : Option Value → ps_S → Prop} (k : ∀ (v : Int32) (s' : ps_S), mJ x t s' → kp [1170, 1171, 1172] [73] s0 s' → (1 ≤ v.toInt) → (v.toInt ≤ 12288) → (∀ j : Nat, (j : Int) < (ps_i s' 1131 73).toInt → 1 ≤ (ps_a s' 1170 j).toInt ∧ (ps_a s' 1170 j).toInt ≤ 3) → (∀ f : Nat, (f : Int) < (σ.1.2 : Int) → (ps_a s' 1172 f).toInt ≤ 87) → Q (some (.int v)) s') (n9 : Nat) (KH9 : ∀ (x2 : Int32) (x3 : Int32) (s : ps_S), (mJ x t s) → (kp [1170, 1171, 1172] [73] s0 s) → (Sg (ps_a s 1135) (ps_a s 1136) (ps_a s 1138) (ps_a s 1139) (ps_i s 1131 21).toInt σ) → (1 ≤ x1.toInt) → (x1.toInt ≤ 3) → (1 ≤ x2.toInt) → (x2.toInt ≤ 12288) → (0 ≤ x3.toInt) → (0 ≤ (ps_i s 1131 73).toInt) → (∀ j : Nat, (j : Int) < (ps_i s 1131 73).toInt → 1 ≤ (ps_a s 1170 j).toInt ∧ (ps_a s 1170 j).toInt ≤ 3) → (x3.toInt ≤ 6) → ((ps_i s 1131 73).toInt ≤ 9 * x3.toInt) → (10 - x3.toInt ≤ (n9 : Int) - 1) → ps_At (d + 1) 291 9 [(0, .ref 1131), (1, .int x1), (2, .int x2), (3, .int x3)] [] s Q) : ∀ (n : Nat) (x2 : Int32) (x3 : Int32) (x4 : Int32) (s : ps_S), (mJ x t s) → (kp [1170, 1171, 1172] [73] s0 s) → (Sg (ps_a s 1135) (ps_a s 1136) (ps_a s 1138) (ps_a s 1139) (ps_i s 1131 21).toInt σ) → (1 ≤ x1.toInt) → (x1.toInt ≤ 3) → (1 ≤ x2.toInt) → (x2.toInt ≤ 12288) → (0 ≤ x3.toInt) → (0 ≤ (ps_i s 1131 73).toInt) → (∀ j : Nat, (j : Int) < (ps_i s 1131 73).toInt → 1 ≤ (ps_a s 1170 j).toInt ∧ (ps_a s 1170 j).toInt ≤ 3) → (x3.toInt < 6) → (0 ≤ x4.toInt) → ((ps_i s 1131 73).toInt + x4.toInt ≤ 9 * x3.toInt + 9) → (10 - x3.toInt ≤ (n9 : Int)) → x4.toInt ≤ (n : Int) → ps_At (d + 1) 291 52 [(0, .ref 1131), (1, .int x1), (2, .int x2), (3, .int x3), (4, .int x4)] [] s Q := by
  refine xstr (fun n ih => ?_)
  intro x2 x3 x4 s J K hS i1 i2 i3 i4 i5 i6 hBs i8 i9 i10 hm9 hm
  have r1 := mf_73 J
  refine pg_291_52 (d := d) ?_
  refine And.intro (fun h2 => ?_) (fun h2 => ?_)
  · have f3 : x4.toInt ≤ (0 : Int) := xle h2
    have a4 : (x3 + 1).toInt = x3.toInt + (1 : Int) := xIa (show -2147483648 ≤ x3.toInt + (1 : Int) from by omega) (show x3.toInt + (1 : Int) < 2147483648 from by omega)
    exact KH9 x2 (x3 + 1) _ J K hS (show 1 ≤ x1.toInt from by omega) (show x1.toInt ≤ 3 from by omega) (show 1 ≤ x2.toInt from by omega) (show x2.toInt ≤ 12288 from by omega) (show 0 ≤ (x3 + 1).toInt from by omega) (show 0 ≤ (ps_i s 1131 73).toInt from by omega) hBs (show (x3 + 1).toInt ≤ 6 from by omega) (show (ps_i s 1131 73).toInt ≤ 9 * (x3 + 1).toInt from by omega) (show 10 - (x3 + 1).toInt ≤ (n9 : Int) - 1 from by omega)
  · have f5 : (0 : Int) < x4.toInt := xlt h2
    refine ms_292 J (show 1 ≤ (2 : Int) from by omega) (show (2 : Int) ≤ 3 from by omega) (show (ps_i s 1131 73).toInt ≤ 95 from by omega) (show 1 ≤ x2.toInt from by omega) (show x2.toInt ≤ 12288 from by omega) (fun v6 s6 J6 K6 p6_0 p6_1 p6_2 p6_3 p6_4 => ?_)
    have K7 := kpt K K6 rfl rfl
    have KC := K6
    have hS : Sg (ps_a s6 1135) (ps_a s6 1136) (ps_a s6 1138) (ps_a s6 1139) (ps_i s6 1131 21).toInt σ := by rw [show ps_a s6 1135 = ps_a s 1135 from (K6.2 1135 rfl).1, show ps_a s6 1136 = ps_a s 1136 from (K6.2 1136 rfl).1, show ps_a s6 1138 = ps_a s 1138 from (K6.2 1138 rfl).1, show ps_a s6 1139 = ps_a s 1139 from (K6.2 1139 rfl).1, show ps_i s6 1131 21 = ps_i s 1131 21 from kp_i K6 21 rfl]; exact hS
    have p6_0' : 1 ≤ v6.toInt := p6_0
    have p6_1' : v6.toInt ≤ 12288 := p6_1
    have p6_2' : (ps_i s6 1131 73).toInt = (ps_i s 1131 73).toInt + 1 := p6_2
    have r8 := mf_73 J6
    have hd1 : _ := p6_3
    have hd2 : _ := p6_4
    generalize hx10 : (x4 + (Int32.ofInt (-1))) = xd9
    have a11 : xd9.toInt = x4.toInt + (-1) := by rw [← hx10]; exact xdec (show -2147483648 < x4.toInt from by omega)
    clear hx10
    exact ih (n - 1) (show n - 1 < n from by omega) v6 x3 xd9 _ J6 K7 hS (show 1 ≤ x1.toInt from by omega) (show x1.toInt ≤ 3 from by omega) (show 1 ≤ v6.toInt from by omega) (show v6.toInt ≤ 12288 from by omega) (show 0 ≤ x3.toInt from by omega) (show 0 ≤ (ps_i s6 1131 73).toInt from by omega) (Bs_put (i := Int32.toNatClampNeg (ps_i s 1131 73)) hBs (show ((Int32.toNatClampNeg (ps_i s 1131 73) : Nat) : Int) = (ps_i s 1131 73).toInt from by rw [nx (n := (ps_i s 1131 73).toInt) rfl]; omega) (show (ps_i s6 1131 73).toInt = (ps_i s 1131 73).toInt + 1 from by omega) (by rw [hd1]; exact ⟨by decide, by decide⟩) hd2) (show x3.toInt < 6 from by omega) (show 0 ≤ xd9.toInt from by omega) (show (ps_i s6 1131 73).toInt + xd9.toInt ≤ 9 * x3.toInt + 9 from by omega) (show 10 - x3.toInt ≤ (n9 : Int) from by omega) (show xd9.toInt ≤ ((n - 1 : Nat) : Int) from by omega)

theorem ms_291_120 {x : Nat → Nat → Nat} {t : Int32} {d : Nat} {s0 : ps_S} {σ : mSig} {x1 : Int32} {Q : Option Value → ps_S → Prop} (k : ∀ (v : Int32) (s' : ps_S), mJ x t s' → kp [1170, 1171, 1172] [73] s0 s' → (1 ≤ v.toInt) → (v.toInt ≤ 12288) → (∀ j : Nat, (j : Int) < (ps_i s' 1131 73).toInt → 1 ≤ (ps_a s' 1170 j).toInt ∧ (ps_a s' 1170 j).toInt ≤ 3) → (∀ f : Nat, (f : Int) < (σ.1.2 : Int) → (ps_a s' 1172 f).toInt ≤ 87) → Q (some (.int v)) s') (n78 : Nat) (KH78 : ∀ (x2 : Int32) (x3 : Int32) (s : ps_S), (mJ x t s) → (kp [1170, 1171, 1172] [73] s0 s) → (Sg (ps_a s 1135) (ps_a s 1136) (ps_a s 1138) (ps_a s 1139) (ps_i s 1131 21).toInt σ) → (1 ≤ x1.toInt) → (x1.toInt ≤ 3) → (1 ≤ x2.toInt) → (x2.toInt ≤ 12288) → (0 ≤ x3.toInt) → (0 ≤ (ps_i s 1131 73).toInt) → (∀ j : Nat, (j : Int) < (ps_i s 1131 73).toInt → 1 ≤ (ps_a s 1170 j).toInt ∧ (ps_a s 1170 j).toInt ≤ 3) → (x3.toInt ≤ 4) → ((ps_i s 1131 73).toInt ≤ 54 + 9 * x3.toInt) → (∀ f : Nat, (f : Int) < x3.toInt → (ps_a s 1172 f).toInt ≤ 87) → (10 - x3.toInt ≤ (n78 : Int) - 1) → ps_At (d + 1) 291 78 [(0, .ref 1131), (1, .int x1), (2, .int x2), (3, .int x3)] [] s Q) : ∀ (n : Nat) (x2 : Int32) (x3 : Int32) (x4 : Int32) (s : ps_S), (mJ x t s) → (kp [1170, 1171, 1172] [73] s0 s) → (Sg (ps_a s 1135) (ps_a s 1136) (ps_a s 1138) (ps_a s 1139) (ps_i s 1131 21).toInt σ) → (1 ≤ x1.toInt) → (x1.toInt ≤ 3) → (1 ≤ x2.toInt) → (x2.toInt ≤ 12288) → (0 ≤ x3.toInt) → (0 ≤ (ps_i s 1131 73).toInt) → (∀ j : Nat, (j : Int) < (ps_i s 1131 73).toInt → 1 ≤ (ps_a s 1170 j).toInt ∧ (ps_a s 1170 j).toInt ≤ 3) → (x3.toInt < 4) → (0 ≤ x4.toInt) → ((ps_i s 1131 73).toInt + x4.toInt ≤ 54 + 9 * x3.toInt + 9) → (∀ f : Nat, (f : Int) < x3.toInt + 1 → (ps_a s 1172 f).toInt ≤ 87) → (10 - x3.toInt ≤ (n78 : Int)) → x4.toInt ≤ (n : Int) → ps_At (d + 1) 291 120 [(0, .ref 1131), (1, .int x1), (2, .int x2), (3, .int x3), (4, .int x4)] [] s Q := by
  refine xstr (fun n ih => ?_)
  intro x2 x3 x4 s J K hS i1 i2 i3 i4 i5 i6 hBs i8 i9 i10 i11 hm78 hm
  have r1 := mf_73 J
  refine pg_291_120 (d := d) ?_
  refine And.intro (fun h2 => ?_) (fun h2 => ?_)
  · have f3 : x4.toInt ≤ (0 : Int) := xle h2
    have a4 : (x3 + 1).toInt = x3.toInt + (1 : Int) := xIa (show -2147483648 ≤ x3.toInt + (1 : Int) from by omega) (show x3.toInt + (1 : Int) < 2147483648 from by omega)
    exact KH78 x2 (x3 + 1) _ J K hS (show 1 ≤ x1.toInt from by omega) (show x1.toInt ≤ 3 from by omega) (show 1 ≤ x2.toInt from by omega) (show x2.toInt ≤ 12288 from by omega) (show 0 ≤ (x3 + 1).toInt from by omega) (show 0 ≤ (ps_i s 1131 73).toInt from by omega) hBs (show (x3 + 1).toInt ≤ 4 from by omega) (show (ps_i s 1131 73).toInt ≤ 54 + 9 * (x3 + 1).toInt from by omega) (fun f hf => i11 f (by omega)) (show 10 - (x3 + 1).toInt ≤ (n78 : Int) - 1 from by omega)
  · have f5 : (0 : Int) < x4.toInt := xlt h2
    refine ms_292 J (show 1 ≤ x1.toInt from by omega) (show x1.toInt ≤ 3 from by omega) (show (ps_i s 1131 73).toInt ≤ 95 from by omega) (show 1 ≤ x2.toInt from by omega) (show x2.toInt ≤ 12288 from by omega) (fun v6 s6 J6 K6 p6_0 p6_1 p6_2 p6_3 p6_4 => ?_)
    have K7 := kpt K K6 rfl rfl
    have KC := K6
    have hS : Sg (ps_a s6 1135) (ps_a s6 1136) (ps_a s6 1138) (ps_a s6 1139) (ps_i s6 1131 21).toInt σ := by rw [show ps_a s6 1135 = ps_a s 1135 from (K6.2 1135 rfl).1, show ps_a s6 1136 = ps_a s 1136 from (K6.2 1136 rfl).1, show ps_a s6 1138 = ps_a s 1138 from (K6.2 1138 rfl).1, show ps_a s6 1139 = ps_a s 1139 from (K6.2 1139 rfl).1, show ps_i s6 1131 21 = ps_i s 1131 21 from kp_i K6 21 rfl]; exact hS
    have p6_0' : 1 ≤ v6.toInt := p6_0
    have p6_1' : v6.toInt ≤ 12288 := p6_1
    have p6_2' : (ps_i s6 1131 73).toInt = (ps_i s 1131 73).toInt + 1 := p6_2
    have r8 := mf_73 J6
    have hd1 : _ := p6_3
    have hd2 : _ := p6_4
    generalize hx10 : (x4 + (Int32.ofInt (-1))) = xd9
    have a11 : xd9.toInt = x4.toInt + (-1) := by rw [← hx10]; exact xdec (show -2147483648 < x4.toInt from by omega)
    clear hx10
    exact ih (n - 1) (show n - 1 < n from by omega) v6 x3 xd9 _ J6 K7 hS (show 1 ≤ x1.toInt from by omega) (show x1.toInt ≤ 3 from by omega) (show 1 ≤ v6.toInt from by omega) (show v6.toInt ≤ 12288 from by omega) (show 0 ≤ x3.toInt from by omega) (show 0 ≤ (ps_i s6 1131 73).toInt from by omega) (Bs_put (i := Int32.toNatClampNeg (ps_i s 1131 73)) hBs (show ((Int32.toNatClampNeg (ps_i s 1131 73) : Nat) : Int) = (ps_i s 1131 73).toInt from by rw [nx (n := (ps_i s 1131 73).toInt) rfl]; omega) (show (ps_i s6 1131 73).toInt = (ps_i s 1131 73).toInt + 1 from by omega) (by rw [hd1]; exact ⟨by omega, by omega⟩) hd2) (show x3.toInt < 4 from by omega) (show 0 ≤ xd9.toInt from by omega) (show (ps_i s6 1131 73).toInt + xd9.toInt ≤ 54 + 9 * x3.toInt + 9 from by omega) (fun f hf => (show (ps_a s6 1172 f).toInt ≤ 87 from by rw [show ps_a s6 1172 = ps_a s 1172 from (KC.2 1172 rfl).1]; exact i11 f hf)) (show 10 - x3.toInt ≤ (n78 : Int) from by omega) (show xd9.toInt ≤ ((n - 1 : Nat) : Int) from by omega)

theorem ms_291_78 {x : Nat → Nat → Nat} {t : Int32} {d : Nat} {s0 : ps_S} {σ : mSig} {x1 : Int32} {Q : Option Value → ps_S → Prop} (k : ∀ (v : Int32) (s' : ps_S), mJ x t s' → kp [1170, 1171, 1172] [73] s0 s' → (1 ≤ v.toInt) → (v.toInt ≤ 12288) → (∀ j : Nat, (j : Int) < (ps_i s' 1131 73).toInt → 1 ≤ (ps_a s' 1170 j).toInt ∧ (ps_a s' 1170 j).toInt ≤ 3) → (∀ f : Nat, (f : Int) < (σ.1.2 : Int) → (ps_a s' 1172 f).toInt ≤ 87) → Q (some (.int v)) s') : ∀ (n : Nat) (x2 : Int32) (x3 : Int32) (s : ps_S), (mJ x t s) → (kp [1170, 1171, 1172] [73] s0 s) → (Sg (ps_a s 1135) (ps_a s 1136) (ps_a s 1138) (ps_a s 1139) (ps_i s 1131 21).toInt σ) → (1 ≤ x1.toInt) → (x1.toInt ≤ 3) → (1 ≤ x2.toInt) → (x2.toInt ≤ 12288) → (0 ≤ x3.toInt) → (0 ≤ (ps_i s 1131 73).toInt) → (∀ j : Nat, (j : Int) < (ps_i s 1131 73).toInt → 1 ≤ (ps_a s 1170 j).toInt ∧ (ps_a s 1170 j).toInt ≤ 3) → (x3.toInt ≤ 4) → ((ps_i s 1131 73).toInt ≤ 54 + 9 * x3.toInt) → (∀ f : Nat, (f : Int) < x3.toInt → (ps_a s 1172 f).toInt ≤ 87) → 10 - x3.toInt ≤ (n : Int) → ps_At (d + 1) 291 78 [(0, .ref 1131), (1, .int x1), (2, .int x2), (3, .int x3)] [] s Q := by
  refine xstr (fun n ih => ?_)
  intro x2 x3 s J K hS i1 i2 i3 i4 i5 i6 hBs i8 i9 i10 hm
  have r1 := mf_73 J
  refine pg_291_78 (d := d) ?_
  obtain ⟨hb0, hb1, h5, hR6, h6, hF, h8, h9⟩ := id hS
  have h6x : (ps_a s 1136 (Int32.toNatClampNeg (ps_i s 1131 21))).toInt = (σ.1.2 : Int) := h6
  have r2 := mf_21 J
  refine ps_nd_i (show pm_in (ps_i s 1131 21) 2 = true from xgi (show 0 ≤ (ps_i s 1131 21).toInt from by omega) (show (ps_i s 1131 21).toInt < 2 from by omega)) ?_
  have r3 : 0 ≤ (ps_a s 1136 (Int32.toNatClampNeg (ps_i s 1131 21))).toInt ∧ (ps_a s 1136 (Int32.toNatClampNeg (ps_i s 1131 21))).toInt ≤ 4 := ma_1136 (i := (ps_i s 1131 21)) J (show 0 ≤ (ps_i s 1131 21).toInt from by omega) (show (ps_i s 1131 21).toInt < 2 from by omega)
  refine And.intro (fun h4 => ?_) (fun h4 => ?_)
  · have f5 : (ps_a s 1136 (Int32.toNatClampNeg (ps_i s 1131 21))).toInt ≤ x3.toInt := xle h4
    have h6x : (ps_a s 1136 (Int32.toNatClampNeg (ps_i s 1131 21))).toInt = (σ.1.2 : Int) := h6
    exact k x2 _ J K (show 1 ≤ x2.toInt from by omega) (show x2.toInt ≤ 12288 from by omega) hBs (fun f hf => i10 f (by omega))
  · have f6 : x3.toInt < (ps_a s 1136 (Int32.toNatClampNeg (ps_i s 1131 21))).toInt := xlt h4
    have ex : Int32.toNatClampNeg x3 = x3.toInt.toNat := rfl
    refine ps_nd_i (show pm_in x3 4 = true from xgi (show 0 ≤ x3.toInt from by omega) (show x3.toInt < 4 from by omega)) ?_
    have J7 := mwa_1172 (i := (Int32.toNatClampNeg x3)) (v := (ps_i s 1131 73)) J (show 0 ≤ (ps_i s 1131 73).toInt from by omega) (show (ps_i s 1131 73).toInt ≤ 90 from by omega)
    have K8 := kpa' K (r := 1172) (i := (Int32.toNatClampNeg x3)) (v := (ps_i s 1131 73)) rfl
    have a9 : ((4 : Int32) * (ps_i s 1131 21)).toInt = (4 : Int) * (ps_i s 1131 21).toInt := xIm (show -2147483648 ≤ (4 : Int) * (ps_i s 1131 21).toInt from by omega) (show (4 : Int) * (ps_i s 1131 21).toInt < 2147483648 from by omega)
    have a10 : (((4 : Int32) * (ps_i s 1131 21)) + x3).toInt = ((4 : Int32) * (ps_i s 1131 21)).toInt + x3.toInt := xIa (show -2147483648 ≤ ((4 : Int32) * (ps_i s 1131 21)).toInt + x3.toInt from by omega) (show ((4 : Int32) * (ps_i s 1131 21)).toInt + x3.toInt < 2147483648 from by omega)
    refine ps_nd_i (show pm_in (((4 : Int32) * (ps_i s 1131 21)) + x3) 8 = true from xgi (show 0 ≤ (((4 : Int32) * (ps_i s 1131 21)) + x3).toInt from by omega) (show (((4 : Int32) * (ps_i s 1131 21)) + x3).toInt < 8 from by omega)) ?_
    have r11 : 0 ≤ (ps_a s 1139 (Int32.toNatClampNeg (((4 : Int32) * (ps_i s 1131 21)) + x3))).toInt ∧ (ps_a s 1139 (Int32.toNatClampNeg (((4 : Int32) * (ps_i s 1131 21)) + x3))).toInt ≤ 9999 := ma_1139 (i := (((4 : Int32) * (ps_i s 1131 21)) + x3)) J (show 0 ≤ (((4 : Int32) * (ps_i s 1131 21)) + x3).toInt from by omega) (show (((4 : Int32) * (ps_i s 1131 21)) + x3).toInt < 8 from by omega)
    have ht : ((ps_a s 1139 (Int32.toNatClampNeg (((4 : Int32) * (ps_i s 1131 21)) + x3)))).toInt = σ.2.2 (x3.toInt.toNat) ∧ σ.2.2 (x3.toInt.toNat) ≤ 2 := Sg_f hS (by omega) (by omega)
    have ht2 : ((ps_a s 1139 (Int32.toNatClampNeg (((4 : Int32) * (ps_i s 1131 21)) + x3)))).toInt.toNat ≤ 2 := by omega
    refine ms_290 J7 (show 1 ≤ x1.toInt from by omega) (show x1.toInt ≤ 3 from by omega) (show 0 ≤ (ps_a s 1139 (Int32.toNatClampNeg (((4 : Int32) * (ps_i s 1131 21)) + x3))).toInt from by omega) (show (ps_a s 1139 (Int32.toNatClampNeg (((4 : Int32) * (ps_i s 1131 21)) + x3))).toInt ≤ 19 from by omega) (fun v12 p12_0 => ?_)
    have hpw : _ := p12_0
    have hv9 : 1 ≤ (v12).toInt ∧ (v12).toInt ≤ 9 := by rw [hpw]; exact pw9 (by omega) (by omega) ht2
    exact ms_291_120 (x1 := x1) (σ := σ) k n (fun x2z x3z sz Jz Kz i0z i1z i2z i3z i4z i5z i6z i7z i8z i9z i10z hm => ih (n - 1) (show n - 1 < n from by omega) x2z x3z sz Jz Kz i0z i1z i2z i3z i4z i5z i6z i7z i8z i9z i10z (show _ ≤ ((n - 1 : Nat) : Int) from by omega)) (v12.toInt).toNat x2 x3 v12 _ J7 K8 hS (show 1 ≤ x1.toInt from by omega) (show x1.toInt ≤ 3 from by omega) (show 1 ≤ x2.toInt from by omega) (show x2.toInt ≤ 12288 from by omega) (show 0 ≤ x3.toInt from by omega) (show 0 ≤ (ps_i s 1131 73).toInt from by omega) hBs (show x3.toInt < 4 from by omega) (show 0 ≤ v12.toInt from by omega) (show (ps_i s 1131 73).toInt + v12.toInt ≤ 54 + 9 * x3.toInt + 9 from by omega) (fun f hf => (by by_cases e : f = Int32.toNatClampNeg x3; (rw [e, ua_eq]; omega); exact Int.le_trans (Int.le_of_eq (congrArg Int32.toInt (ua_ne e))) (i10 f (by omega)))) (show 10 - x3.toInt ≤ ((n : Nat) : Int) from by omega) (show v12.toInt ≤ (((v12.toInt).toNat : Nat) : Int) from by omega)

theorem ms_291_9 {x : Nat → Nat → Nat} {t : Int32} {d : Nat} {s0 : ps_S} {σ : mSig} {x1 : Int32} {Q : Option Value → ps_S → Prop} (k : ∀ (v : Int32) (s' : ps_S), mJ x t s' → kp [1170, 1171, 1172] [73] s0 s' → (1 ≤ v.toInt) → (v.toInt ≤ 12288) → (∀ j : Nat, (j : Int) < (ps_i s' 1131 73).toInt → 1 ≤ (ps_a s' 1170 j).toInt ∧ (ps_a s' 1170 j).toInt ≤ 3) → (∀ f : Nat, (f : Int) < (σ.1.2 : Int) → (ps_a s' 1172 f).toInt ≤ 87) → Q (some (.int v)) s') : ∀ (n : Nat) (x2 : Int32) (x3 : Int32) (s : ps_S), (mJ x t s) → (kp [1170, 1171, 1172] [73] s0 s) → (Sg (ps_a s 1135) (ps_a s 1136) (ps_a s 1138) (ps_a s 1139) (ps_i s 1131 21).toInt σ) → (1 ≤ x1.toInt) → (x1.toInt ≤ 3) → (1 ≤ x2.toInt) → (x2.toInt ≤ 12288) → (0 ≤ x3.toInt) → (0 ≤ (ps_i s 1131 73).toInt) → (∀ j : Nat, (j : Int) < (ps_i s 1131 73).toInt → 1 ≤ (ps_a s 1170 j).toInt ∧ (ps_a s 1170 j).toInt ≤ 3) → (x3.toInt ≤ 6) → ((ps_i s 1131 73).toInt ≤ 9 * x3.toInt) → 10 - x3.toInt ≤ (n : Int) → ps_At (d + 1) 291 9 [(0, .ref 1131), (1, .int x1), (2, .int x2), (3, .int x3)] [] s Q := by
  refine xstr (fun n ih => ?_)
  intro x2 x3 s J K hS i1 i2 i3 i4 i5 i6 hBs i8 i9 hm
  have r1 := mf_73 J
  refine pg_291_9 (d := d) ?_
  obtain ⟨hb0, hb1, h5, hR6, h6, hF, h8, h9⟩ := id hS
  have h5x : (ps_a s 1135 (Int32.toNatClampNeg (ps_i s 1131 21))).toInt = (σ.1.1 : Int) := h5
  have r2 := mf_21 J
  refine ps_nd_i (show pm_in (ps_i s 1131 21) 2 = true from xgi (show 0 ≤ (ps_i s 1131 21).toInt from by omega) (show (ps_i s 1131 21).toInt < 2 from by omega)) ?_
  have r3 : 0 ≤ (ps_a s 1135 (Int32.toNatClampNeg (ps_i s 1131 21))).toInt ∧ (ps_a s 1135 (Int32.toNatClampNeg (ps_i s 1131 21))).toInt ≤ 6 := ma_1135 (i := (ps_i s 1131 21)) J (show 0 ≤ (ps_i s 1131 21).toInt from by omega) (show (ps_i s 1131 21).toInt < 2 from by omega)
  refine And.intro (fun h4 => ?_) (fun h4 => ?_)
  · have f5 : (ps_a s 1135 (Int32.toNatClampNeg (ps_i s 1131 21))).toInt ≤ x3.toInt := xle h4
    exact ms_291_78 (x1 := x1) (σ := σ) k  (10 - (0 : Int)).toNat x2 (0) _ J K hS (show 1 ≤ x1.toInt from by omega) (show x1.toInt ≤ 3 from by omega) (show 1 ≤ x2.toInt from by omega) (show x2.toInt ≤ 12288 from by omega) (show 0 ≤ (0 : Int) from by omega) (show 0 ≤ (ps_i s 1131 73).toInt from by omega) hBs (show (0 : Int) ≤ 4 from by omega) (show (ps_i s 1131 73).toInt ≤ 54 + 9 * (0 : Int) from by omega) (fun f hf => absurd hf (by rw [Int32.toInt_zero]; omega)) (show 10 - (0 : Int) ≤ (((10 - (0 : Int)).toNat : Nat) : Int) from by omega)
  · have f6 : x3.toInt < (ps_a s 1135 (Int32.toNatClampNeg (ps_i s 1131 21))).toInt := xlt h4
    refine ps_nd_i (show pm_in x3 6 = true from xgi (show 0 ≤ x3.toInt from by omega) (show x3.toInt < 6 from by omega)) ?_
    have J7 := mwa_1171 (i := (Int32.toNatClampNeg x3)) (v := (ps_i s 1131 73)) J (show 0 ≤ (ps_i s 1131 73).toInt from by omega) (show (ps_i s 1131 73).toInt ≤ 54 from by omega)
    have K8 := kpa' K (r := 1171) (i := (Int32.toNatClampNeg x3)) (v := (ps_i s 1131 73)) rfl
    have a9 : ((6 : Int32) * (ps_i s 1131 21)).toInt = (6 : Int) * (ps_i s 1131 21).toInt := xIm (show -2147483648 ≤ (6 : Int) * (ps_i s 1131 21).toInt from by omega) (show (6 : Int) * (ps_i s 1131 21).toInt < 2147483648 from by omega)
    have a10 : (((6 : Int32) * (ps_i s 1131 21)) + x3).toInt = ((6 : Int32) * (ps_i s 1131 21)).toInt + x3.toInt := xIa (show -2147483648 ≤ ((6 : Int32) * (ps_i s 1131 21)).toInt + x3.toInt from by omega) (show ((6 : Int32) * (ps_i s 1131 21)).toInt + x3.toInt < 2147483648 from by omega)
    refine ps_nd_i (show pm_in (((6 : Int32) * (ps_i s 1131 21)) + x3) 12 = true from xgi (show 0 ≤ (((6 : Int32) * (ps_i s 1131 21)) + x3).toInt from by omega) (show (((6 : Int32) * (ps_i s 1131 21)) + x3).toInt < 12 from by omega)) ?_
    have r11 : 0 ≤ (ps_a s 1138 (Int32.toNatClampNeg (((6 : Int32) * (ps_i s 1131 21)) + x3))).toInt ∧ (ps_a s 1138 (Int32.toNatClampNeg (((6 : Int32) * (ps_i s 1131 21)) + x3))).toInt ≤ 9999 := ma_1138 (i := (((6 : Int32) * (ps_i s 1131 21)) + x3)) J (show 0 ≤ (((6 : Int32) * (ps_i s 1131 21)) + x3).toInt from by omega) (show (((6 : Int32) * (ps_i s 1131 21)) + x3).toInt < 12 from by omega)
    have ht : ((ps_a s 1138 (Int32.toNatClampNeg (((6 : Int32) * (ps_i s 1131 21)) + x3)))).toInt = σ.2.1 (x3.toInt.toNat) ∧ σ.2.1 (x3.toInt.toNat) ≤ 2 := Sg_r hS (by omega) (by omega)
    have ht2 : ((ps_a s 1138 (Int32.toNatClampNeg (((6 : Int32) * (ps_i s 1131 21)) + x3)))).toInt.toNat ≤ 2 := by omega
    refine ms_290 J7 (show 1 ≤ x1.toInt from by omega) (show x1.toInt ≤ 3 from by omega) (show 0 ≤ (ps_a s 1138 (Int32.toNatClampNeg (((6 : Int32) * (ps_i s 1131 21)) + x3))).toInt from by omega) (show (ps_a s 1138 (Int32.toNatClampNeg (((6 : Int32) * (ps_i s 1131 21)) + x3))).toInt ≤ 19 from by omega) (fun v12 p12_0 => ?_)
    have hpw : _ := p12_0
    have hv9 : 1 ≤ (v12).toInt ∧ (v12).toInt ≤ 9 := by rw [hpw]; exact pw9 (by omega) (by omega) ht2
    exact ms_291_52 (x1 := x1) (σ := σ) k n (fun x2z x3z sz Jz Kz i0z i1z i2z i3z i4z i5z i6z i7z i8z i9z hm => ih (n - 1) (show n - 1 < n from by omega) x2z x3z sz Jz Kz i0z i1z i2z i3z i4z i5z i6z i7z i8z i9z (show _ ≤ ((n - 1 : Nat) : Int) from by omega)) (v12.toInt).toNat x2 x3 v12 _ J7 K8 hS (show 1 ≤ x1.toInt from by omega) (show x1.toInt ≤ 3 from by omega) (show 1 ≤ x2.toInt from by omega) (show x2.toInt ≤ 12288 from by omega) (show 0 ≤ x3.toInt from by omega) (show 0 ≤ (ps_i s 1131 73).toInt from by omega) hBs (show x3.toInt < 6 from by omega) (show 0 ≤ v12.toInt from by omega) (show (ps_i s 1131 73).toInt + v12.toInt ≤ 9 * x3.toInt + 9 from by omega) (show 10 - x3.toInt ≤ ((n : Nat) : Int) from by omega) (show v12.toInt ≤ (((v12.toInt).toNat : Nat) : Int) from by omega)

theorem ms_291 {x : Nat → Nat → Nat} {t : Int32} {s : ps_S} {d : Nat} {x1 : Int32} {f : Int32 → ps_S → Prop} (J : mJ x t s) {σ : mSig} (hS : Sg (ps_a s 1135) (ps_a s 1136) (ps_a s 1138) (ps_a s 1139) (ps_i s 1131 21).toInt σ) (q1 : 1 ≤ x1.toInt) (q2 : x1.toInt ≤ 3) (k : ∀ (v : Int32) (s' : ps_S), mJ x t s' → kp [1170, 1171, 1172] [73] s s' → (1 ≤ v.toInt) → (v.toInt ≤ 12288) → (∀ j : Nat, (j : Int) < (ps_i s' 1131 73).toInt → 1 ≤ (ps_a s' 1170 j).toInt ∧ (ps_a s' 1170 j).toInt ≤ 3) → (∀ f : Nat, (f : Int) < (σ.1.2 : Int) → (ps_a s' 1172 f).toInt ≤ 87) → f v s') : ps_Cl (d + 1) 291 [.ref 1131, .int x1] s (ps_rI f) := by
  have K : kp [1170, 1171, 1172] [73] s s := kp_refl
  refine pg_291_0 (d := d) ?_
  have J1 := mwi_73 (v := (0 : Int32)) J (show 0 ≤ (0 : Int) from by omega) (show (0 : Int) ≤ 96 from by omega)
  have K2 := kpi K (q := 73) (v := (0 : Int32)) rfl
  exact ms_291_9 (x1 := x1) (σ := σ) k  (10 - (0 : Int)).toNat (1) (0) _ J1 K2 hS (show 1 ≤ x1.toInt from by omega) (show x1.toInt ≤ 3 from by omega) (show 1 ≤ (1 : Int) from by omega) (show (1 : Int) ≤ 12288 from by omega) (show 0 ≤ (0 : Int) from by omega) (show 0 ≤ (0 : Int) from by omega) ((fun j hj => absurd hj (show ¬ ((j : Int) < (0 : Int32).toInt) from by rw [Int32.toInt_zero]; omega))) (show (0 : Int) ≤ 6 from by omega) (show (0 : Int) ≤ 9 * (0 : Int) from by omega) (show 10 - (0 : Int) ≤ (((10 - (0 : Int)).toNat : Nat) : Int) from by omega)

-- ProofBenchModel.layModel(I)V
theorem pg_293_0 {d : Nat} {x1 : Int32} {s : ps_S} {Q : Option Value → ps_S → Prop} (h :
  ps_At d 293 9 [(0, .ref 1131), (2, .int x1), (3, .int ((ps_i s 1131 73) - 1))] [] s Q) : ps_At d 293 0 [(0, .ref 1131), (1, .int x1)] [] s Q :=
  ps_wp_at (stops := [(9, [0, 2, 3])]) (n := 9) h rfl

theorem pg_293_9 {d : Nat} {x2 : Int32} {x3 : Int32} {s : ps_S} {Q : Option Value → ps_S → Prop} (h :
  (x3 < 0 →
    Q none s) ∧
  (0 ≤ x3 →
    ps_nd (pm_in x3 96) (ps_nd (!decide ((ps_a s 1170 (Int32.toNatClampNeg x3)) = 0)) (ps_nd (pm_in x3 96) (ps_nd (pm_in x3 96) (ps_nd (!decide ((ps_a (ps_ua s 1169 (Int32.toNatClampNeg x3) (x2 - (x2 / (ps_a s 1170 (Int32.toNatClampNeg x3))) * (ps_a s 1170 (Int32.toNatClampNeg x3)))) 1170 (Int32.toNatClampNeg x3)) = 0)) (ps_At d 293 9 [(0, .ref 1131), (2, .int (x2 / (ps_a (ps_ua s 1169 (Int32.toNatClampNeg x3) (x2 - (x2 / (ps_a s 1170 (Int32.toNatClampNeg x3))) * (ps_a s 1170 (Int32.toNatClampNeg x3)))) 1170 (Int32.toNatClampNeg x3)))), (3, .int (x3 + (Int32.ofInt (-1))))] [] (ps_ua s 1169 (Int32.toNatClampNeg x3) (x2 - (x2 / (ps_a s 1170 (Int32.toNatClampNeg x3))) * (ps_a s 1170 (Int32.toNatClampNeg x3)))) Q))))))) : ps_At d 293 9 [(0, .ref 1131), (2, .int x2), (3, .int x3)] [] s Q :=
  ps_wp_at (stops := [(9, [0, 2, 3])]) (n := 24) h rfl

theorem ms_293_9 {x : Nat → Nat → Nat} {t : Int32} {d : Nat} {s0 : ps_S} {x1 : Int32} {Q : Option Value → ps_S → Prop} (k : ∀ (s' : ps_S), mJ x t s' → kp [1169] [] s0 s' → (∀ j : Nat, j < 96 → 0 ≤ (ps_a s' 1169 j).toInt ∧ (ps_a s' 1169 j).toInt ≤ 2) → Q none s') : ∀ (n : Nat) (x2 : Int32) (x3 : Int32) (s : ps_S), (mJ x t s) → (kp [1169] [] s0 s) → (∀ j : Nat, (j : Int) < (ps_i s 1131 73).toInt → 1 ≤ (ps_a s 1170 j).toInt ∧ (ps_a s 1170 j).toInt ≤ 3) → (∀ j : Nat, j < 96 → 0 ≤ (ps_a s 1169 j).toInt ∧ (ps_a s 1169 j).toInt ≤ 2) → (0 ≤ x2.toInt) → (-1 ≤ x3.toInt) → (x3.toInt < (ps_i s 1131 73).toInt) → x3.toInt + 1 ≤ (n : Int) → ps_At d 293 9 [(0, .ref 1131), (2, .int x2), (3, .int x3)] [] s Q := by
  refine xstr (fun n ih => ?_)
  intro x2 x3 s J K hBs hDg i2 i3 i4 hm
  have r1 := mf_73 J
  refine pg_293_9 ?_
  refine And.intro (fun h2 => ?_) (fun h2 => ?_)
  · have f3 : x3.toInt < (0 : Int) := xlt h2
    exact k _ J K hDg
  · have f4 : (0 : Int) ≤ x3.toInt := xle h2
    refine ps_nd_i (show pm_in x3 96 = true from xgi (show 0 ≤ x3.toInt from by omega) (show x3.toInt < 96 from by omega)) ?_
    have hb : 1 ≤ ((ps_a s 1170 (Int32.toNatClampNeg x3))).toInt ∧ ((ps_a s 1170 (Int32.toNatClampNeg x3))).toInt ≤ 3 := hBs (Int32.toNatClampNeg x3) (show ((Int32.toNatClampNeg x3 : Nat) : Int) < (ps_i s 1131 73).toInt from by rw [nx (n := x3.toInt) rfl]; omega)
    refine ps_nd_i (xnz (show (ps_a s 1170 (Int32.toNatClampNeg x3)).toInt ≠ 0 from by omega)) ?_
    have hm2 : 0 ≤ ((x2 - (x2 / (ps_a s 1170 (Int32.toNatClampNeg x3))) * (ps_a s 1170 (Int32.toNatClampNeg x3)))).toInt ∧ ((x2 - (x2 / (ps_a s 1170 (Int32.toNatClampNeg x3))) * (ps_a s 1170 (Int32.toNatClampNeg x3)))).toInt ≤ 2 := xmod2 (by omega) (by omega) (by omega)
    refine ps_nd_i (show pm_in x3 96 = true from xgi (show 0 ≤ x3.toInt from by omega) (show x3.toInt < 96 from by omega)) ?_
    have J5 := mwa_n 1169 (i := (Int32.toNatClampNeg x3)) (v := (x2 - (x2 / (ps_a s 1170 (Int32.toNatClampNeg x3))) * (ps_a s 1170 (Int32.toNatClampNeg x3)))) J rfl (by decide)
    have K6 := kpa' K (r := 1169) (i := (Int32.toNatClampNeg x3)) (v := (x2 - (x2 / (ps_a s 1170 (Int32.toNatClampNeg x3))) * (ps_a s 1170 (Int32.toNatClampNeg x3)))) rfl
    refine ps_nd_i (show pm_in x3 96 = true from xgi (show 0 ≤ x3.toInt from by omega) (show x3.toInt < 96 from by omega)) ?_
    refine ps_nd_i (xnz (show (ps_a s 1170 (Int32.toNatClampNeg x3)).toInt ≠ 0 from by omega)) ?_
    have hd2 : 0 ≤ ((x2 / (ps_a s 1170 (Int32.toNatClampNeg x3)))).toInt := xdiv0 (by omega) (by omega)
    generalize hx8 : (x3 + (Int32.ofInt (-1))) = xd7
    have a9 : xd7.toInt = x3.toInt + (-1) := by rw [← hx8]; exact xdec (show -2147483648 < x3.toInt from by omega)
    clear hx8
    exact ih (n - 1) (show n - 1 < n from by omega) (x2 / (ps_a s 1170 (Int32.toNatClampNeg x3))) xd7 _ J5 K6 hBs (Dg_put (i := Int32.toNatClampNeg x3) hDg (by rw [ua_eq]; exact hm2) (fun j hj => ua_ne hj)) (show 0 ≤ (x2 / (ps_a s 1170 (Int32.toNatClampNeg x3))).toInt from by omega) (show -1 ≤ xd7.toInt from by omega) (show xd7.toInt < (ps_i s 1131 73).toInt from by omega) (show xd7.toInt + 1 ≤ ((n - 1 : Nat) : Int) from by omega)

theorem ms_293 {x : Nat → Nat → Nat} {t : Int32} {s : ps_S} {d : Nat} {x1 : Int32} {f : ps_S → Prop} (J : mJ x t s) (hBs : ∀ j : Nat, (j : Int) < (ps_i s 1131 73).toInt → 1 ≤ (ps_a s 1170 j).toInt ∧ (ps_a s 1170 j).toInt ≤ 3) (hDg : ∀ j : Nat, j < 96 → 0 ≤ (ps_a s 1169 j).toInt ∧ (ps_a s 1169 j).toInt ≤ 2) (q2 : 0 ≤ x1.toInt) (k : ∀ (s' : ps_S), mJ x t s' → kp [1169] [] s s' → (∀ j : Nat, j < 96 → 0 ≤ (ps_a s' 1169 j).toInt ∧ (ps_a s' 1169 j).toInt ≤ 2) → f s') : ps_Cl d 293 [.ref 1131, .int x1] s (ps_rV f) := by
  have K : kp [1169] [] s s := kp_refl
  refine pg_293_0 ?_
  have r1 := mf_73 J
  have a2 : ((ps_i s 1131 73) - 1).toInt = (ps_i s 1131 73).toInt - (1 : Int) := xIs (show -2147483648 ≤ (ps_i s 1131 73).toInt - (1 : Int) from by omega) (show (ps_i s 1131 73).toInt - (1 : Int) < 2147483648 from by omega)
  exact ms_293_9 (x1 := x1) k  (((ps_i s 1131 73) - 1).toInt + 1).toNat x1 ((ps_i s 1131 73) - 1) _ J K hBs hDg (show 0 ≤ x1.toInt from by omega) (show -1 ≤ ((ps_i s 1131 73) - 1).toInt from by omega) (show ((ps_i s 1131 73) - 1).toInt < (ps_i s 1131 73).toInt from by omega) (show ((ps_i s 1131 73) - 1).toInt + 1 ≤ (((((ps_i s 1131 73) - 1).toInt + 1).toNat : Nat) : Int) from by omega)
end
section
set_option maxRecDepth 100000
-- ProofBenchModel.layDepths(I)V
theorem pg_294_0 {d : Nat} {x1 : Int32} {s : ps_S} {Q : Option Value → ps_S → Prop} (h :
  ps_At (d + 1) 294 4 [(0, .ref 1131), (1, .int x1), (2, .int 0), (3, .int 0)] [] s Q) : ps_At (d + 1) 294 0 [(0, .ref 1131), (1, .int x1)] [] s Q :=
  ps_wp_at (stops := [(4, [0, 1, 2, 3]), (13, [0, 1, 2, 3]), (29, [0, 1, 2, 3]), (35, [0, 1, 2, 3]), (62, [0, 1, 2, 3])]) (n := 6) h rfl

theorem pg_294_4 {d : Nat} {x1 : Int32} {x2 : Int32} {x3 : Int32} {s : ps_S} {Q : Option Value → ps_S → Prop} (h :
  ps_Cl d 219 [.ref 1131, .int x1] s (ps_rI (fun v1 s1 =>
    (v1 ≤ x3 →
      Q none s1) ∧
    (x3 < v1 →
      ps_At (d + 1) 294 13 [(0, .ref 1131), (1, .int x1), (2, .int x2), (3, .int x3)] [] s1 Q)))) : ps_At (d + 1) 294 4 [(0, .ref 1131), (1, .int x1), (2, .int x2), (3, .int x3)] [] s Q :=
  ps_wp_at (stops := [(4, [0, 1, 2, 3]), (13, [0, 1, 2, 3]), (29, [0, 1, 2, 3]), (35, [0, 1, 2, 3]), (62, [0, 1, 2, 3])]) (n := 8) h rfl

theorem pg_294_13 {d : Nat} {x1 : Int32} {x2 : Int32} {x3 : Int32} {s : ps_S} {Q : Option Value → ps_S → Prop} (h :
  (x2 ≤ 0 →
    ps_At (d + 1) 294 35 [(0, .ref 1131), (1, .int x1), (2, .int x2), (3, .int x3)] [] s Q) ∧
  (0 < x2 →
    ps_nd (pm_in (x2 - 1) 260) ((x3 < (ps_a s 1150 (Int32.toNatClampNeg (x2 - 1))) →
      ps_At (d + 1) 294 35 [(0, .ref 1131), (1, .int x1), (2, .int x2), (3, .int x3)] [] s Q) ∧
    ((ps_a s 1150 (Int32.toNatClampNeg (x2 - 1))) ≤ x3 →
      ps_At (d + 1) 294 29 [(0, .ref 1131), (1, .int x1), (2, .int x2), (3, .int x3)] [] s Q)))) : ps_At (d + 1) 294 13 [(0, .ref 1131), (1, .int x1), (2, .int x2), (3, .int x3)] [] s Q :=
  ps_wp_at (stops := [(4, [0, 1, 2, 3]), (13, [0, 1, 2, 3]), (29, [0, 1, 2, 3]), (35, [0, 1, 2, 3]), (62, [0, 1, 2, 3])]) (n := 12) h rfl

theorem pg_294_29 {d : Nat} {x1 : Int32} {x2 : Int32} {x3 : Int32} {s : ps_S} {Q : Option Value → ps_S → Prop} (h :
  ps_At (d + 1) 294 13 [(0, .ref 1131), (1, .int x1), (2, .int (x2 + (Int32.ofInt (-1)))), (3, .int x3)] [] s Q) : ps_At (d + 1) 294 29 [(0, .ref 1131), (1, .int x1), (2, .int x2), (3, .int x3)] [] s Q :=
  ps_wp_at (stops := [(4, [0, 1, 2, 3]), (13, [0, 1, 2, 3]), (29, [0, 1, 2, 3]), (35, [0, 1, 2, 3]), (62, [0, 1, 2, 3])]) (n := 4) h rfl

theorem pg_294_35 {d : Nat} {x1 : Int32} {x2 : Int32} {x3 : Int32} {s : ps_S} {Q : Option Value → ps_S → Prop} (h :
  ps_nd (pm_in x3 41) (ps_Cl d 220 [.ref 1131, .int x1, .int x3] (ps_ua s 1173 (Int32.toNatClampNeg x3) x2) (ps_rI (fun v1 s1 =>
    (v1 = 4 →
      ps_At (d + 1) 294 62 [(0, .ref 1131), (1, .int x1), (2, .int x2), (3, .int x3)] [] s1 Q) ∧
    (v1 ≠ 4 →
      ps_Cl d 220 [.ref 1131, .int x1, .int x3] s1 (ps_rI (fun v2 s2 =>
        (v2 ≠ 5 →
          ps_At (d + 1) 294 4 [(0, .ref 1131), (1, .int x1), (2, .int x2), (3, .int (x3 + 1))] [] s2 Q) ∧
        (v2 = 5 →
          ps_At (d + 1) 294 62 [(0, .ref 1131), (1, .int x1), (2, .int x2), (3, .int x3)] [] s2 Q)))))))) : ps_At (d + 1) 294 35 [(0, .ref 1131), (1, .int x1), (2, .int x2), (3, .int x3)] [] s Q :=
  ps_wp_at (stops := [(4, [0, 1, 2, 3]), (13, [0, 1, 2, 3]), (29, [0, 1, 2, 3]), (35, [0, 1, 2, 3]), (62, [0, 1, 2, 3])]) (n := 21) h rfl

theorem pg_294_62 {d : Nat} {x1 : Int32} {x2 : Int32} {x3 : Int32} {s : ps_S} {Q : Option Value → ps_S → Prop} (h :
  ps_Cl d 221 [.ref 1131, .int x1, .int x3] s (ps_rI (fun v1 s1 =>
    ps_nd (pm_in x2 260) (ps_At (d + 1) 294 4 [(0, .ref 1131), (1, .int x1), (2, .int (x2 + 1)), (3, .int (x3 + 1))] [] (ps_ua s1 1150 (Int32.toNatClampNeg x2) v1) Q)))) : ps_At (d + 1) 294 62 [(0, .ref 1131), (1, .int x1), (2, .int x2), (3, .int x3)] [] s Q :=
  ps_wp_at (stops := [(4, [0, 1, 2, 3]), (13, [0, 1, 2, 3]), (29, [0, 1, 2, 3]), (35, [0, 1, 2, 3]), (62, [0, 1, 2, 3])]) (n := 13) h rfl

theorem ms_294_29 {x : Nat → Nat → Nat} {t : Int32} {d : Nat} {s0 : ps_S} {σ : mSig} {l : List Nat} {x1 : Int32} {Q : Option Value → ps_S → Prop} (k : ∀ (s' : ps_S), mJ x t s' → kp [1150, 1173] [] s0 s' → (DLn σ (ps_a s' 1173) l (l.length : Int)) → Q none s') (n4 : Nat) (KH4 : ∀ (x2 : Int32) (x3 : Int32) (l1 : List Nat) (l2 : List Nat) (W : List (Bool × Nat)) (s : ps_S), (mJ x t s) → (kp [1150, 1173] [] s0 s) → (Sg (ps_a s 1135) (ps_a s 1136) (ps_a s 1138) (ps_a s 1139) (ps_i s 1131 21).toInt σ) → (Rw (ps_a s 1134) x1.toInt l) → (l = l1 ++ l2) → (x3.toInt = (l1.length : Int)) → (wr σ l1 [(true, 0)] W) → (wf σ 5 l2 W) → (QS σ (ps_a s 1150) (x2.toInt).toNat l2 x3.toInt W) → (DLn σ (ps_a s 1173) l x3.toInt) → (0 ≤ x2.toInt) → (x2.toInt ≤ 5) → (41 - x3.toInt ≤ (n4 : Int) - 1) → ps_At (d + 2) 294 4 [(0, .ref 1131), (1, .int x1), (2, .int x2), (3, .int x3)] [] s Q) (n13 : Nat) (KH13 : ∀ (x2 : Int32) (x3 : Int32) (l1 : List Nat) (l2 : List Nat) (W : List (Bool × Nat)) (s : ps_S), (mJ x t s) → (kp [1150, 1173] [] s0 s) → (Sg (ps_a s 1135) (ps_a s 1136) (ps_a s 1138) (ps_a s 1139) (ps_i s 1131 21).toInt σ) → (Rw (ps_a s 1134) x1.toInt l) → (l = l1 ++ l2) → (x3.toInt = (l1.length : Int)) → (wr σ l1 [(true, 0)] W) → (wf σ 5 l2 W) → (QS σ (ps_a s 1150) (x2.toInt).toNat l2 x3.toInt W) → (DLn σ (ps_a s 1173) l x3.toInt) → (0 ≤ x2.toInt) → (x2.toInt ≤ 5) → (0 < (l2.length : Int)) → (41 - x3.toInt ≤ (n4 : Int)) → (x2.toInt ≤ (n13 : Int) - 1) → ps_At (d + 2) 294 13 [(0, .ref 1131), (1, .int x1), (2, .int x2), (3, .int x3)] [] s Q) (x2 : Int32) (x3 : Int32) (l1 : List Nat) (l2 : List Nat) (W : List (Bool × Nat)) (s : ps_S) (J : mJ x t s) (K : kp [1150, 1173] [] s0 s) (hS : Sg (ps_a s 1135) (ps_a s 1136) (ps_a s 1138) (ps_a s 1139) (ps_i s 1131 21).toInt σ) (hR : Rw (ps_a s 1134) x1.toInt l) (i2 : l = l1 ++ l2) (i3 : x3.toInt = (l1.length : Int)) (i4 : wr σ l1 [(true, 0)] W) (i5 : wf σ 5 l2 W) (i6 : QS σ (ps_a s 1150) (x2.toInt).toNat l2 x3.toInt W) (i7 : DLn σ (ps_a s 1173) l x3.toInt) (i8 : 0 ≤ x2.toInt) (i9 : x2.toInt ≤ 5) (i10 : 0 < (l2.length : Int)) (i11 : 1 ≤ x2.toInt) (i12 : (ps_a s 1150 (x2.toInt - 1).toNat).toInt ≤ x3.toInt) (hm4 : 41 - x3.toInt ≤ (n4 : Int)) (hm13 : x2.toInt ≤ (n13 : Int)) : ps_At (d + 2) 294 29 [(0, .ref 1131), (1, .int x1), (2, .int x2), (3, .int x3)] [] s Q := by
  refine pg_294_29 (d := d + 1) ?_
  obtain ⟨hr1, hr2, hr3, hr4, hr5, hr6⟩ := id hR
  have hr1 : x1.toInt % 41 = 0 := hr1
  have hr2 : 0 ≤ x1.toInt := hr2
  have hr3 : x1.toInt < 27306 := hr3
  have hr4 : l.length ≤ 40 := hr4
  have hn : (ps_a s 1134 (Int32.toNatClampNeg x1)).toInt = (l.length : Int) := Rw_n hR
  have i3 : x3.toInt = (l1.length : Int) := i3
  generalize hx2 : (x2 + (Int32.ofInt (-1))) = xd1
  have a3 : xd1.toInt = x2.toInt + (-1) := by rw [← hx2]; exact xdec (show -2147483648 < x2.toInt from by omega)
  clear hx2
  exact KH13 xd1 x3 l1 l2 W _ J K hS hR (by assumption) (by assumption) (by assumption) (by assumption) ((by rw [show (xd1).toInt.toNat = (x2.toInt - 1).toNat from by omega]; exact QS_pop (n := (x2.toInt - 1).toNat) (by rw [show (x2.toInt - 1).toNat + 1 = (x2.toInt).toNat from by omega]; exact i6) i12)) (by assumption) (show 0 ≤ xd1.toInt from by omega) (show xd1.toInt ≤ 5 from by omega) (by assumption) (show 41 - x3.toInt ≤ (n4 : Int) from by omega) (show xd1.toInt ≤ (n13 : Int) - 1 from by omega)

theorem ms_294_62 {x : Nat → Nat → Nat} {t : Int32} {d : Nat} {s0 : ps_S} {σ : mSig} {l : List Nat} {x1 : Int32} {Q : Option Value → ps_S → Prop} (k : ∀ (s' : ps_S), mJ x t s' → kp [1150, 1173] [] s0 s' → (DLn σ (ps_a s' 1173) l (l.length : Int)) → Q none s') (n4 : Nat) (KH4 : ∀ (x2 : Int32) (x3 : Int32) (l1 : List Nat) (l2 : List Nat) (W : List (Bool × Nat)) (s : ps_S), (mJ x t s) → (kp [1150, 1173] [] s0 s) → (Sg (ps_a s 1135) (ps_a s 1136) (ps_a s 1138) (ps_a s 1139) (ps_i s 1131 21).toInt σ) → (Rw (ps_a s 1134) x1.toInt l) → (l = l1 ++ l2) → (x3.toInt = (l1.length : Int)) → (wr σ l1 [(true, 0)] W) → (wf σ 5 l2 W) → (QS σ (ps_a s 1150) (x2.toInt).toNat l2 x3.toInt W) → (DLn σ (ps_a s 1173) l x3.toInt) → (0 ≤ x2.toInt) → (x2.toInt ≤ 5) → (41 - x3.toInt ≤ (n4 : Int) - 1) → ps_At (d + 2) 294 4 [(0, .ref 1131), (1, .int x1), (2, .int x2), (3, .int x3)] [] s Q) (x2 : Int32) (x3 : Int32) (l1 : List Nat) (c : Nat) (l3 : List Nat) (U : List (Bool × Nat)) (s : ps_S) (J : mJ x t s) (K : kp [1150, 1173] [] s0 s) (hS : Sg (ps_a s 1135) (ps_a s 1136) (ps_a s 1138) (ps_a s 1139) (ps_i s 1131 21).toInt σ) (hR : Rw (ps_a s 1134) x1.toInt l) (i2 : l = l1 ++ c :: l3) (i3 : x3.toInt = (l1.length : Int)) (i4 : wr σ l1 [(true, 0)] ((true, (x2.toInt).toNat) :: U)) (i5 : wf σ 5 (c :: l3) ((true, (x2.toInt).toNat) :: U)) (i6 : QS σ (ps_a s 1150) (x2.toInt).toNat (c :: l3) x3.toInt ((true, (x2.toInt).toNat) :: U)) (i7 : DLn σ (ps_a s 1173) l (x3.toInt + 1)) (i8 : 0 ≤ x2.toInt) (i9 : x2.toInt ≤ 5) (i10 : x2.toInt = 0 ∨ x3.toInt < (ps_a s 1150 (x2.toInt - 1).toNat).toInt) (i11 : c = 4 ∨ c = 5) (hm4 : 41 - x3.toInt ≤ (n4 : Int)) : ps_At (d + 2) 294 62 [(0, .ref 1131), (1, .int x1), (2, .int x2), (3, .int x3)] [] s Q := by
  refine pg_294_62 (d := d + 1) ?_
  obtain ⟨hr1, hr2, hr3, hr4, hr5, hr6⟩ := id hR
  have hr1 : x1.toInt % 41 = 0 := hr1
  have hr2 : 0 ≤ x1.toInt := hr2
  have hr3 : x1.toInt < 27306 := hr3
  have hr4 : l.length ≤ 40 := hr4
  have hn : (ps_a s 1134 (Int32.toNatClampNeg x1)).toInt = (l.length : Int) := Rw_n hR
  have i3 : x3.toInt = (l1.length : Int) := i3
  have hl : (l.length : Int) = l1.length + (l3.length + 1) := by rw [i2, llen, llenc]
  obtain ⟨body, rest, hb1, hb2, hb3, hb4⟩ := QS_q i6 (by rcases i10 with z | z; exact Or.inl (by omega); exact Or.inr (by rw [show (x2.toInt).toNat - 1 = (x2.toInt - 1).toNat from by omega]; exact z)) i11 i5
  obtain ⟨b, k_, U2, ks, hW, hk5, hk, hw⟩ := wf_cons.mp i5
  cases hW
  obtain ⟨-, hks⟩ := kS_q hk i11
  subst hks
  refine ms_221 J hS ((show Rw (ps_a s 1134) (x1).toInt (l1 ++ ((c :: body) ++ rest)) from by rw [List.cons_append, ← hb1, ← i2]; exact hR)) (i3) ((ws_c (b := true) (W' := []) (kS_f1 i11) (wf_ws hb2))) (fun v1 p1_0 => ?_)
  have hv : _ := p1_0
  have hv2 : (v1).toInt = (l1.length : Int) + ((body.length : Int) + 1) := hv.trans (by rw [llenc])
  refine ps_nd_i (show pm_in x2 260 = true from xgi (show 0 ≤ x2.toInt from by omega) (show x2.toInt < 260 from by omega)) ?_
  have J2 := mwa_n 1150 (i := (Int32.toNatClampNeg x2)) (v := v1) J rfl (by decide)
  have K3 := kpa' K (r := 1150) (i := (Int32.toNatClampNeg x2)) (v := v1) rfl
  have a4 : (x2 + 1).toInt = x2.toInt + (1 : Int) := xIa (show -2147483648 ≤ x2.toInt + (1 : Int) from by omega) (show x2.toInt + (1 : Int) < 2147483648 from by omega)
  have a5 : (x3 + 1).toInt = x3.toInt + (1 : Int) := xIa (show -2147483648 ≤ x3.toInt + (1 : Int) from by omega) (show x3.toInt + (1 : Int) < 2147483648 from by omega)
  exact KH4 (x2 + 1) (x3 + 1) (l1 ++ [c]) l3 (kL c (x2.toInt).toNat [true] ++ U) _ J2 K3 hS hR (i2.trans (lcat l1 c l3)) ((show ((x3 + 1)).toInt = ((l1 ++ [c]).length : Int) from by rw [l1c]; omega)) (wr_snoc i4 hk) (hw) ((by rw [show ((x2 + 1)).toInt.toNat = (x2.toInt).toNat + 1 from by omega, show ((x3 + 1)).toInt = x3.toInt + 1 from by omega]; exact hb4 _ (fun j hj => ua_ne (by rw [show Int32.toNatClampNeg x2 = (x2.toInt).toNat from rfl]; omega)) (show (ps_a (ps_ua s 1150 (Int32.toNatClampNeg x2) v1) 1150 (Int32.toNatClampNeg x2)).toInt = x3.toInt + 1 + (body.length : Int) from (congrArg Int32.toInt ua_eq).trans (by omega)))) ((by rw [show ((x3 + 1)).toInt = x3.toInt + 1 from by omega]; exact i7)) (show 0 ≤ (x2 + 1).toInt from by omega) (show (x2 + 1).toInt ≤ 5 from by omega) (show 41 - (x3 + 1).toInt ≤ (n4 : Int) - 1 from by omega)

theorem ms_294_35 {x : Nat → Nat → Nat} {t : Int32} {d : Nat} {s0 : ps_S} {σ : mSig} {l : List Nat} {x1 : Int32} {Q : Option Value → ps_S → Prop} (k : ∀ (s' : ps_S), mJ x t s' → kp [1150, 1173] [] s0 s' → (DLn σ (ps_a s' 1173) l (l.length : Int)) → Q none s') (n4 : Nat) (KH4 : ∀ (x2 : Int32) (x3 : Int32) (l1 : List Nat) (l2 : List Nat) (W : List (Bool × Nat)) (s : ps_S), (mJ x t s) → (kp [1150, 1173] [] s0 s) → (Sg (ps_a s 1135) (ps_a s 1136) (ps_a s 1138) (ps_a s 1139) (ps_i s 1131 21).toInt σ) → (Rw (ps_a s 1134) x1.toInt l) → (l = l1 ++ l2) → (x3.toInt = (l1.length : Int)) → (wr σ l1 [(true, 0)] W) → (wf σ 5 l2 W) → (QS σ (ps_a s 1150) (x2.toInt).toNat l2 x3.toInt W) → (DLn σ (ps_a s 1173) l x3.toInt) → (0 ≤ x2.toInt) → (x2.toInt ≤ 5) → (41 - x3.toInt ≤ (n4 : Int) - 1) → ps_At (d + 2) 294 4 [(0, .ref 1131), (1, .int x1), (2, .int x2), (3, .int x3)] [] s Q) (x2 : Int32) (x3 : Int32) (l1 : List Nat) (l2 : List Nat) (W : List (Bool × Nat)) (s : ps_S) (J : mJ x t s) (K : kp [1150, 1173] [] s0 s) (hS : Sg (ps_a s 1135) (ps_a s 1136) (ps_a s 1138) (ps_a s 1139) (ps_i s 1131 21).toInt σ) (hR : Rw (ps_a s 1134) x1.toInt l) (i2 : l = l1 ++ l2) (i3 : x3.toInt = (l1.length : Int)) (i4 : wr σ l1 [(true, 0)] W) (i5 : wf σ 5 l2 W) (i6 : QS σ (ps_a s 1150) (x2.toInt).toNat l2 x3.toInt W) (i7 : DLn σ (ps_a s 1173) l x3.toInt) (i8 : 0 ≤ x2.toInt) (i9 : x2.toInt ≤ 5) (i10 : 0 < (l2.length : Int)) (i11 : x2.toInt = 0 ∨ x3.toInt < (ps_a s 1150 (x2.toInt - 1).toNat).toInt) (hm4 : 41 - x3.toInt ≤ (n4 : Int)) : ps_At (d + 2) 294 35 [(0, .ref 1131), (1, .int x1), (2, .int x2), (3, .int x3)] [] s Q := by
  refine pg_294_35 (d := d + 1) ?_
  obtain ⟨hr1, hr2, hr3, hr4, hr5, hr6⟩ := id hR
  have hr1 : x1.toInt % 41 = 0 := hr1
  have hr2 : 0 ≤ x1.toInt := hr2
  have hr3 : x1.toInt < 27306 := hr3
  have hr4 : l.length ≤ 40 := hr4
  have hn : (ps_a s 1134 (Int32.toNatClampNeg x1)).toInt = (l.length : Int) := Rw_n hR
  have i3 : x3.toInt = (l1.length : Int) := i3
  have hl : (l.length : Int) = l1.length + l2.length := by rw [i2]; exact llen
  obtain ⟨c, l3, rfl⟩ := lpos (W := l2) i10
  obtain ⟨b, k_, U, ks, hW, hk5, hk, hw⟩ := wf_cons.mp i5
  subst hW
  have ek : k_ = (x2.toInt).toNat := QS_head i6 (by rcases i11 with z | z; exact Or.inl (by omega); exact Or.inr (by rw [show (x2.toInt).toNat - 1 = (x2.toInt - 1).toNat from by omega]; exact z))
  subst ek
  refine ps_nd_i (show pm_in x3 41 = true from xgi (show 0 ≤ x3.toInt from by omega) (show x3.toInt < 41 from by omega)) ?_
  have J1 := mwa_n 1173 (i := (Int32.toNatClampNeg x3)) (v := x2) J rfl (by decide)
  have K2 := kpa' K (r := 1173) (i := (Int32.toNatClampNeg x3)) (v := x2) rfl
  have e3 : Int32.toNatClampNeg x3 = l1.length := by rw [nx (n := (l1.length : Int)) i3]; omega
  have hDL : DLn σ (ps_a (ps_ua s 1173 (Int32.toNatClampNeg x3) x2) 1173) l (x3.toInt + 1) := DL_put i7 i2 i3 rfl i4 (show (ps_a (ps_ua s 1173 (Int32.toNatClampNeg x3) x2) 1173 l1.length).toInt = (((x2.toInt).toNat : Nat) : Int) from by rw [← e3]; exact (congrArg Int32.toInt ua_eq).trans (by omega)) (fun j hj => ua_ne (by rw [e3]; exact hj))
  refine pg_220_0 ?_
  have a3 : (x1 + 1).toInt = x1.toInt + (1 : Int) := xIa (show -2147483648 ≤ x1.toInt + (1 : Int) from by omega) (show x1.toInt + (1 : Int) < 2147483648 from by omega)
  have a4 : ((x1 + 1) + x3).toInt = (x1 + 1).toInt + x3.toInt := xIa (show -2147483648 ≤ (x1 + 1).toInt + x3.toInt from by omega) (show (x1 + 1).toInt + x3.toInt < 2147483648 from by omega)
  refine ps_nd_i (show pm_in ((x1 + 1) + x3) 27400 = true from xgi (show 0 ≤ ((x1 + 1) + x3).toInt from by omega) (show ((x1 + 1) + x3).toInt < 27400 from by omega)) ?_
  have r5 : ((x1 + 1) + x3).toInt % 41 = 0 → ((x1 + 1) + x3).toInt < 27306 → 0 ≤ (ps_a s 1134 (Int32.toNatClampNeg ((x1 + 1) + x3))).toInt ∧ (ps_a s 1134 (Int32.toNatClampNeg ((x1 + 1) + x3))).toInt ≤ 40 := fun z1 z2 => mp_row (i := ((x1 + 1) + x3)) J z1 (show 0 ≤ ((x1 + 1) + x3).toInt from by omega) z2
  have hp : ((ps_a s 1134 (Int32.toNatClampNeg ((x1 + 1) + x3)))).toInt = (c : Int) := Rw_p hR i2 i3
  refine And.intro (fun h6 => ?_) (fun h6 => ?_)
  · have f7 : (ps_a s 1134 (Int32.toNatClampNeg ((x1 + 1) + x3))).toInt = (4 : Int) := xeq h6
    obtain ⟨hq1, hq2⟩ := kS_q hk (by omega)
    subst hq1
    exact ms_294_62 (x1 := x1) (σ := σ) (l := l) k n4 KH4 x2 x3 l1 c l3 U _ J1 K2 hS hR (i2) (i3) (i4) (i5) (i6) (hDL) (show 0 ≤ x2.toInt from by omega) (show x2.toInt ≤ 5 from by omega) (i11) ((by omega)) (show 41 - x3.toInt ≤ (n4 : Int) from by omega)
  · have f8 : (ps_a s 1134 (Int32.toNatClampNeg ((x1 + 1) + x3))).toInt ≠ (4 : Int) := xne h6
    refine pg_220_0 ?_
    refine ps_nd_i (show pm_in ((x1 + 1) + x3) 27400 = true from xgi (show 0 ≤ ((x1 + 1) + x3).toInt from by omega) (show ((x1 + 1) + x3).toInt < 27400 from by omega)) ?_
    refine And.intro (fun h9 => ?_) (fun h9 => ?_)
    · have f10 : (ps_a s 1134 (Int32.toNatClampNeg ((x1 + 1) + x3))).toInt ≠ (5 : Int) := xne h9
      have a11 : (x3 + 1).toInt = x3.toInt + (1 : Int) := xIa (show -2147483648 ≤ x3.toInt + (1 : Int) from by omega) (show x3.toInt + (1 : Int) < 2147483648 from by omega)
      exact KH4 x2 (x3 + 1) (l1 ++ [c]) l3 (kL c (x2.toInt).toNat ks ++ U) _ J1 K2 hS hR (i2.trans (lcat l1 c l3)) ((show ((x3 + 1)).toInt = ((l1 ++ [c]).length : Int) from by rw [l1c]; omega)) (wr_snoc i4 hk) (hw) (QS_c i6 (by rcases i11 with z | z; exact Or.inl (by omega); exact Or.inr (by rw [show (x2.toInt).toNat - 1 = (x2.toInt - 1).toNat from by omega]; exact z)) (by omega) hk (show ((x3 + 1)).toInt = x3.toInt + 1 from by omega)) ((by rw [show ((x3 + 1)).toInt = x3.toInt + 1 from by omega]; exact hDL)) (show 0 ≤ x2.toInt from by omega) (show x2.toInt ≤ 5 from by omega) (show 41 - (x3 + 1).toInt ≤ (n4 : Int) - 1 from by omega)
    · have f12 : (ps_a s 1134 (Int32.toNatClampNeg ((x1 + 1) + x3))).toInt = (5 : Int) := xeq h9
      obtain ⟨hq1, hq2⟩ := kS_q hk (by omega)
      subst hq1
      exact ms_294_62 (x1 := x1) (σ := σ) (l := l) k n4 KH4 x2 x3 l1 c l3 U _ J1 K2 hS hR (i2) (i3) (i4) (i5) (i6) (hDL) (show 0 ≤ x2.toInt from by omega) (show x2.toInt ≤ 5 from by omega) (i11) ((by omega)) (show 41 - x3.toInt ≤ (n4 : Int) from by omega)

theorem ms_294_13 {x : Nat → Nat → Nat} {t : Int32} {d : Nat} {s0 : ps_S} {σ : mSig} {l : List Nat} {x1 : Int32} {Q : Option Value → ps_S → Prop} (k : ∀ (s' : ps_S), mJ x t s' → kp [1150, 1173] [] s0 s' → (DLn σ (ps_a s' 1173) l (l.length : Int)) → Q none s') (n4 : Nat) (KH4 : ∀ (x2 : Int32) (x3 : Int32) (l1 : List Nat) (l2 : List Nat) (W : List (Bool × Nat)) (s : ps_S), (mJ x t s) → (kp [1150, 1173] [] s0 s) → (Sg (ps_a s 1135) (ps_a s 1136) (ps_a s 1138) (ps_a s 1139) (ps_i s 1131 21).toInt σ) → (Rw (ps_a s 1134) x1.toInt l) → (l = l1 ++ l2) → (x3.toInt = (l1.length : Int)) → (wr σ l1 [(true, 0)] W) → (wf σ 5 l2 W) → (QS σ (ps_a s 1150) (x2.toInt).toNat l2 x3.toInt W) → (DLn σ (ps_a s 1173) l x3.toInt) → (0 ≤ x2.toInt) → (x2.toInt ≤ 5) → (41 - x3.toInt ≤ (n4 : Int) - 1) → ps_At (d + 2) 294 4 [(0, .ref 1131), (1, .int x1), (2, .int x2), (3, .int x3)] [] s Q) : ∀ (n : Nat) (x2 : Int32) (x3 : Int32) (l1 : List Nat) (l2 : List Nat) (W : List (Bool × Nat)) (s : ps_S), (mJ x t s) → (kp [1150, 1173] [] s0 s) → (Sg (ps_a s 1135) (ps_a s 1136) (ps_a s 1138) (ps_a s 1139) (ps_i s 1131 21).toInt σ) → (Rw (ps_a s 1134) x1.toInt l) → (l = l1 ++ l2) → (x3.toInt = (l1.length : Int)) → (wr σ l1 [(true, 0)] W) → (wf σ 5 l2 W) → (QS σ (ps_a s 1150) (x2.toInt).toNat l2 x3.toInt W) → (DLn σ (ps_a s 1173) l x3.toInt) → (0 ≤ x2.toInt) → (x2.toInt ≤ 5) → (0 < (l2.length : Int)) → (41 - x3.toInt ≤ (n4 : Int)) → x2.toInt ≤ (n : Int) → ps_At (d + 2) 294 13 [(0, .ref 1131), (1, .int x1), (2, .int x2), (3, .int x3)] [] s Q := by
  refine xstr (fun n ih => ?_)
  intro x2 x3 l1 l2 W s J K hS hR i2 i3 i4 i5 i6 i7 i8 i9 i10 hm4 hm
  refine pg_294_13 (d := d + 1) ?_
  obtain ⟨hr1, hr2, hr3, hr4, hr5, hr6⟩ := id hR
  have hr1 : x1.toInt % 41 = 0 := hr1
  have hr2 : 0 ≤ x1.toInt := hr2
  have hr3 : x1.toInt < 27306 := hr3
  have hr4 : l.length ≤ 40 := hr4
  have hn : (ps_a s 1134 (Int32.toNatClampNeg x1)).toInt = (l.length : Int) := Rw_n hR
  have i3 : x3.toInt = (l1.length : Int) := i3
  have hl : (l.length : Int) = l1.length + l2.length := by rw [i2]; exact llen
  refine And.intro (fun h1 => ?_) (fun h1 => ?_)
  · have f2 : x2.toInt ≤ (0 : Int) := xle h1
    exact ms_294_35 (x1 := x1) (σ := σ) (l := l) k n4 KH4 x2 x3 l1 l2 W _ J K hS hR (by assumption) (by assumption) (by assumption) (by assumption) (by assumption) (by assumption) (show 0 ≤ x2.toInt from by omega) (show x2.toInt ≤ 5 from by omega) (by assumption) ((by first | exact Or.inl (by omega) | exact Or.inr (by rw [← e6]; omega))) (show 41 - x3.toInt ≤ (n4 : Int) from by omega)
  · have f3 : (0 : Int) < x2.toInt := xlt h1
    have a4 : (x2 - 1).toInt = x2.toInt - (1 : Int) := xIs (show -2147483648 ≤ x2.toInt - (1 : Int) from by omega) (show x2.toInt - (1 : Int) < 2147483648 from by omega)
    have e6 : Int32.toNatClampNeg (x2 - 1) = (x2.toInt - 1).toNat := nx (by omega)
    refine ps_nd_i (show pm_in (x2 - 1) 260 = true from xgi (show 0 ≤ (x2 - 1).toInt from by omega) (show (x2 - 1).toInt < 260 from by omega)) ?_
    refine And.intro (fun h5 => ?_) (fun h5 => ?_)
    · have f6 : x3.toInt < (ps_a s 1150 (Int32.toNatClampNeg (x2 - 1))).toInt := xlt h5
      exact ms_294_35 (x1 := x1) (σ := σ) (l := l) k n4 KH4 x2 x3 l1 l2 W _ J K hS hR (by assumption) (by assumption) (by assumption) (by assumption) (by assumption) (by assumption) (show 0 ≤ x2.toInt from by omega) (show x2.toInt ≤ 5 from by omega) (by assumption) ((by first | exact Or.inl (by omega) | exact Or.inr (by rw [← e6]; omega))) (show 41 - x3.toInt ≤ (n4 : Int) from by omega)
    · have f7 : (ps_a s 1150 (Int32.toNatClampNeg (x2 - 1))).toInt ≤ x3.toInt := xle h5
      exact ms_294_29 (x1 := x1) (σ := σ) (l := l) k n4 KH4 n (fun x2z x3z l1z l2z Wz sz Jz Kz i0z i1z i2z i3z i4z i5z i6z i7z i8z i9z i10z hm4z hm => ih (n - 1) (show n - 1 < n from by omega) x2z x3z l1z l2z Wz sz Jz Kz i0z i1z i2z i3z i4z i5z i6z i7z i8z i9z i10z hm4z (show _ ≤ ((n - 1 : Nat) : Int) from by omega)) x2 x3 l1 l2 W _ J K hS hR (by assumption) (by assumption) (by assumption) (by assumption) (by assumption) (by assumption) (show 0 ≤ x2.toInt from by omega) (show x2.toInt ≤ 5 from by omega) (by assumption) (show 1 ≤ x2.toInt from by omega) ((by rw [← e6]; omega)) (show 41 - x3.toInt ≤ (n4 : Int) from by omega) (show x2.toInt ≤ ((n : Nat) : Int) from by omega)

theorem ms_294_4 {x : Nat → Nat → Nat} {t : Int32} {d : Nat} {s0 : ps_S} {σ : mSig} {l : List Nat} {x1 : Int32} {Q : Option Value → ps_S → Prop} (k : ∀ (s' : ps_S), mJ x t s' → kp [1150, 1173] [] s0 s' → (DLn σ (ps_a s' 1173) l (l.length : Int)) → Q none s') : ∀ (n : Nat) (x2 : Int32) (x3 : Int32) (l1 : List Nat) (l2 : List Nat) (W : List (Bool × Nat)) (s : ps_S), (mJ x t s) → (kp [1150, 1173] [] s0 s) → (Sg (ps_a s 1135) (ps_a s 1136) (ps_a s 1138) (ps_a s 1139) (ps_i s 1131 21).toInt σ) → (Rw (ps_a s 1134) x1.toInt l) → (l = l1 ++ l2) → (x3.toInt = (l1.length : Int)) → (wr σ l1 [(true, 0)] W) → (wf σ 5 l2 W) → (QS σ (ps_a s 1150) (x2.toInt).toNat l2 x3.toInt W) → (DLn σ (ps_a s 1173) l x3.toInt) → (0 ≤ x2.toInt) → (x2.toInt ≤ 5) → 41 - x3.toInt ≤ (n : Int) → ps_At (d + 2) 294 4 [(0, .ref 1131), (1, .int x1), (2, .int x2), (3, .int x3)] [] s Q := by
  refine xstr (fun n ih => ?_)
  intro x2 x3 l1 l2 W s J K hS hR i2 i3 i4 i5 i6 i7 i8 i9 hm
  refine pg_294_4 (d := d + 1) ?_
  obtain ⟨hr1, hr2, hr3, hr4, hr5, hr6⟩ := id hR
  have hr1 : x1.toInt % 41 = 0 := hr1
  have hr2 : 0 ≤ x1.toInt := hr2
  have hr3 : x1.toInt < 27306 := hr3
  have hr4 : l.length ≤ 40 := hr4
  have hn : (ps_a s 1134 (Int32.toNatClampNeg x1)).toInt = (l.length : Int) := Rw_n hR
  have i3 : x3.toInt = (l1.length : Int) := i3
  have hl : (l.length : Int) = l1.length + l2.length := by rw [i2]; exact llen
  refine pg_219_0 ?_
  refine ps_nd_i (show pm_in x1 27400 = true from xgi (show 0 ≤ x1.toInt from by omega) (show x1.toInt < 27400 from by omega)) ?_
  have r1 : x1.toInt % 41 = 0 → x1.toInt < 27306 → 0 ≤ (ps_a s 1134 (Int32.toNatClampNeg x1)).toInt ∧ (ps_a s 1134 (Int32.toNatClampNeg x1)).toInt ≤ 40 := fun z1 z2 => mp_row (i := x1) J z1 (show 0 ≤ x1.toInt from by omega) z2
  refine And.intro (fun h2 => ?_) (fun h2 => ?_)
  · have f3 : (ps_a s 1134 (Int32.toNatClampNeg x1)).toInt ≤ x3.toInt := xle h2
    exact k _ J K ((show DLn σ (ps_a s 1173) l (l.length : Int) from by rw [show (l.length : Int) = x3.toInt from by omega]; exact i7))
  · have f4 : x3.toInt < (ps_a s 1134 (Int32.toNatClampNeg x1)).toInt := xlt h2
    exact ms_294_13 (x1 := x1) (σ := σ) (l := l) k n (fun x2z x3z l1z l2z Wz sz Jz Kz i0z i1z i2z i3z i4z i5z i6z i7z i8z i9z hm => ih (n - 1) (show n - 1 < n from by omega) x2z x3z l1z l2z Wz sz Jz Kz i0z i1z i2z i3z i4z i5z i6z i7z i8z i9z (show _ ≤ ((n - 1 : Nat) : Int) from by omega)) (x2.toInt).toNat x2 x3 l1 l2 W _ J K hS hR (by assumption) (by assumption) (by assumption) (by assumption) (by assumption) (by assumption) (show 0 ≤ x2.toInt from by omega) (show x2.toInt ≤ 5 from by omega) ((show 0 < (l2.length : Int) from by omega)) (show 41 - x3.toInt ≤ ((n : Nat) : Int) from by omega) (show x2.toInt ≤ (((x2.toInt).toNat : Nat) : Int) from by omega)

theorem ms_294 {x : Nat → Nat → Nat} {t : Int32} {s : ps_S} {d : Nat} {x1 : Int32} {f : ps_S → Prop} (J : mJ x t s) {σ : mSig} {l : List Nat} (hS : Sg (ps_a s 1135) (ps_a s 1136) (ps_a s 1138) (ps_a s 1139) (ps_i s 1131 21).toInt σ) (hR : Rw (ps_a s 1134) x1.toInt l) (q2 : wf σ 5 l [(true, 0)]) (k : ∀ (s' : ps_S), mJ x t s' → kp [1150, 1173] [] s s' → (DLn σ (ps_a s' 1173) l (l.length : Int)) → f s') : ps_Cl (d + 2) 294 [.ref 1131, .int x1] s (ps_rV f) := by
  have K : kp [1150, 1173] [] s s := kp_refl
  refine pg_294_0 (d := d + 1) ?_
  exact ms_294_4 (x1 := x1) (σ := σ) (l := l) k  (41 - (0 : Int)).toNat (0) (0) [] l [(true, 0)] _ J K hS hR (rfl) (rfl) (rfl) (q2) ((fun w hw => by rw [List.mem_singleton] at hw; rw [hw])) (DL_0 rfl) (show 0 ≤ (0 : Int) from by omega) (show (0 : Int) ≤ 5 from by omega) (show 41 - (0 : Int) ≤ (((41 - (0 : Int)).toNat : Nat) : Int) from by omega)
end
section
set_option maxRecDepth 100000
-- ProofBenchModel.valueOf(IIIII)I
theorem pg_296_0 {d : Nat} {x1 : Int32} {x2 : Int32} {x3 : Int32} {x4 : Int32} {x5 : Int32} {s : ps_S} {Q : Option Value → ps_S → Prop} (h :
  (x2 ≠ 0 →
    ps_At (d + 1) 296 28 [(0, .ref 1131), (1, .int x1), (2, .int x2), (4, .int x4), (5, .int x5), (6, .int ((243 : Int32) * ((x3 + x2) - 2))), (7, .int ((243 : Int32) * (x3 - 1)))] [] s Q) ∧
  (x2 = 0 →
    ps_At (d + 1) 296 28 [(0, .ref 1131), (1, .int x1), (2, .int x2), (4, .int x4), (5, .int x5), (6, .int 0), (7, .int ((243 : Int32) * (x3 - 1)))] [] s Q)) : ps_At (d + 1) 296 0 [(0, .ref 1131), (1, .int x1), (2, .int x2), (3, .int x3), (4, .int x4), (5, .int x5)] [] s Q :=
  ps_wp_at (stops := [(28, [0, 1, 2, 4, 5, 6, 7]), (88, [0, 1, 2, 4, 5, 6, 7]), (127, [0, 1, 4, 5, 6]), (143, [0, 1, 2, 4, 5, 6, 7]), (178, [0, 1, 2, 4, 5, 6, 7]), (216, [0, 1, 2, 4, 5, 6, 7])]) (n := 27) h rfl

theorem pg_296_28 {d : Nat} {x1 : Int32} {x2 : Int32} {x4 : Int32} {x5 : Int32} {x6 : Int32} {x7 : Int32} {s : ps_S} {Q : Option Value → ps_S → Prop} (h :
  (x1 ≠ 0 →
    (x1 ≠ 1 →
      (x1 ≠ 2 →
        ps_At (d + 1) 296 88 [(0, .ref 1131), (1, .int x1), (2, .int x2), (4, .int x4), (5, .int x5), (6, .int x6), (7, .int x7)] [] s Q) ∧
      (x1 = 2 →
        ps_nd (pm_in (x6 + x4) 10206) (ps_nd (pm_in (x7 + x4) 10206) (Q (some (.int ((ps_a s 1174 (Int32.toNatClampNeg (x6 + x4))) ||| (ps_a s 1174 (Int32.toNatClampNeg (x7 + x4)))))) s)))) ∧
    (x1 = 1 →
      ps_nd (pm_in (x6 + x4) 10206) (ps_nd (pm_in (x7 + x4) 10206) (Q (some (.int ((ps_a s 1174 (Int32.toNatClampNeg (x6 + x4))) &&& (ps_a s 1174 (Int32.toNatClampNeg (x7 + x4)))))) s)))) ∧
  (x1 = 0 →
    Q (some (.int 0)) s)) : ps_At (d + 1) 296 28 [(0, .ref 1131), (1, .int x1), (2, .int x2), (4, .int x4), (5, .int x5), (6, .int x6), (7, .int x7)] [] s Q :=
  ps_wp_at (stops := [(28, [0, 1, 2, 4, 5, 6, 7]), (88, [0, 1, 2, 4, 5, 6, 7]), (127, [0, 1, 4, 5, 6]), (143, [0, 1, 2, 4, 5, 6, 7]), (178, [0, 1, 2, 4, 5, 6, 7]), (216, [0, 1, 2, 4, 5, 6, 7])]) (n := 40) h rfl

theorem pg_296_88 {d : Nat} {x1 : Int32} {x2 : Int32} {x4 : Int32} {x5 : Int32} {x6 : Int32} {x7 : Int32} {s : ps_S} {Q : Option Value → ps_S → Prop} (h :
  (x1 ≠ 3 →
    (x1 = 4 →
      ps_At (d + 1) 296 127 [(0, .ref 1131), (1, .int x1), (4, .int x4), (5, .int x5), (6, .int x6)] [] s Q) ∧
    (x1 ≠ 4 →
      (x1 ≠ 5 →
        ps_At (d + 1) 296 143 [(0, .ref 1131), (1, .int x1), (2, .int x2), (4, .int x4), (5, .int x5), (6, .int x6), (7, .int x7)] [] s Q) ∧
      (x1 = 5 →
        ps_At (d + 1) 296 127 [(0, .ref 1131), (1, .int x1), (4, .int x4), (5, .int x5), (6, .int x6)] [] s Q))) ∧
  (x1 = 3 →
    ps_nd (pm_in (x6 + x4) 10206) (ps_nd (pm_in (x7 + x4) 10206) (Q (some (.int (((1 : Int32) - (ps_a s 1174 (Int32.toNatClampNeg (x6 + x4)))) ||| (ps_a s 1174 (Int32.toNatClampNeg (x7 + x4)))))) s)))) : ps_At (d + 1) 296 88 [(0, .ref 1131), (1, .int x1), (2, .int x2), (4, .int x4), (5, .int x5), (6, .int x6), (7, .int x7)] [] s Q :=
  ps_wp_at (stops := [(28, [0, 1, 2, 4, 5, 6, 7]), (88, [0, 1, 2, 4, 5, 6, 7]), (127, [0, 1, 4, 5, 6]), (143, [0, 1, 2, 4, 5, 6, 7]), (178, [0, 1, 2, 4, 5, 6, 7]), (216, [0, 1, 2, 4, 5, 6, 7])]) (n := 27) h rfl

theorem pg_296_127 {d : Nat} {x1 : Int32} {x4 : Int32} {x5 : Int32} {x6 : Int32} {s : ps_S} {Q : Option Value → ps_S → Prop} (h :
  ps_Cl d 297 [.ref 1131, .int x1, .int (x6 + (x4 * x5)), .int x5] s (ps_rI (fun v1 s1 =>
    Q (some (.int v1)) s1))) : ps_At (d + 1) 296 127 [(0, .ref 1131), (1, .int x1), (4, .int x4), (5, .int x5), (6, .int x6)] [] s Q :=
  ps_wp_at (stops := [(28, [0, 1, 2, 4, 5, 6, 7]), (88, [0, 1, 2, 4, 5, 6, 7]), (127, [0, 1, 4, 5, 6]), (143, [0, 1, 2, 4, 5, 6, 7]), (178, [0, 1, 2, 4, 5, 6, 7]), (216, [0, 1, 2, 4, 5, 6, 7])]) (n := 12) h rfl

theorem pg_296_143 {d : Nat} {x1 : Int32} {x2 : Int32} {x4 : Int32} {x5 : Int32} {x6 : Int32} {x7 : Int32} {s : ps_S} {Q : Option Value → ps_S → Prop} (h :
  (x1 ≠ 6 →
    ps_At (d + 1) 296 178 [(0, .ref 1131), (1, .int x1), (2, .int x2), (4, .int x4), (5, .int x5), (6, .int x6), (7, .int x7)] [] s Q) ∧
  (x1 = 6 →
    ps_nd (pm_in (x6 + x4) 10206) (ps_nd (pm_in (x7 + x4) 10206) (((ps_a s 1174 (Int32.toNatClampNeg (x6 + x4))) ≠ (ps_a s 1174 (Int32.toNatClampNeg (x7 + x4))) →
      Q (some (.int 0)) s) ∧
    ((ps_a s 1174 (Int32.toNatClampNeg (x6 + x4))) = (ps_a s 1174 (Int32.toNatClampNeg (x7 + x4))) →
      Q (some (.int 1)) s))))) : ps_At (d + 1) 296 143 [(0, .ref 1131), (1, .int x1), (2, .int x2), (4, .int x4), (5, .int x5), (6, .int x6), (7, .int x7)] [] s Q :=
  ps_wp_at (stops := [(28, [0, 1, 2, 4, 5, 6, 7]), (88, [0, 1, 2, 4, 5, 6, 7]), (127, [0, 1, 4, 5, 6]), (143, [0, 1, 2, 4, 5, 6, 7]), (178, [0, 1, 2, 4, 5, 6, 7]), (216, [0, 1, 2, 4, 5, 6, 7])]) (n := 23) h rfl

theorem pg_296_178 {d : Nat} {x1 : Int32} {x2 : Int32} {x4 : Int32} {x5 : Int32} {x6 : Int32} {x7 : Int32} {s : ps_S} {Q : Option Value → ps_S → Prop} (h :
  (x1 < 60 →
    (x1 < 40 →
      ps_At (d + 1) 296 216 [(0, .ref 1131), (1, .int x1), (2, .int x2), (4, .int x4), (5, .int x5), (6, .int x6), (7, .int x7)] [] s Q) ∧
    (40 ≤ x1 →
      ps_Cl d 290 [.int x5, .int (x1 - 40)] s (ps_rI (fun v1 s1 =>
        ps_nd (!decide (v1 = 0)) (ps_nd (!decide (x5 = 0)) (Q (some (.int ((x4 / v1) - ((x4 / v1) / x5) * x5))) s1)))))) ∧
  (60 ≤ x1 →
    ps_nd (pm_in (x1 - 60) 12) (Q (some (.int (ps_a s 1175 (Int32.toNatClampNeg (x1 - 60))))) s))) : ps_At (d + 1) 296 178 [(0, .ref 1131), (1, .int x1), (2, .int x2), (4, .int x4), (5, .int x5), (6, .int x6), (7, .int x7)] [] s Q :=
  ps_wp_at (stops := [(28, [0, 1, 2, 4, 5, 6, 7]), (88, [0, 1, 2, 4, 5, 6, 7]), (127, [0, 1, 4, 5, 6]), (143, [0, 1, 2, 4, 5, 6, 7]), (178, [0, 1, 2, 4, 5, 6, 7]), (216, [0, 1, 2, 4, 5, 6, 7])]) (n := 25) h rfl

theorem pg_296_216 {d : Nat} {x1 : Int32} {x2 : Int32} {x4 : Int32} {x5 : Int32} {x6 : Int32} {x7 : Int32} {s : ps_S} {Q : Option Value → ps_S → Prop} (h :
  (x2 ≠ 0 →
    (x2 ≠ 1 →
      ps_nd (pm_in (x6 + x4) 10206) (ps_nd (pm_in (x7 + x4) 10206) ((20 ≤ x1 →
        ps_nd (pm_in (x1 - 20) 4) (ps_nd (pm_in ((ps_a s 1172 (Int32.toNatClampNeg (x1 - 20))) + (((ps_a s 1174 (Int32.toNatClampNeg (x6 + x4))) * x5) + (ps_a s 1174 (Int32.toNatClampNeg (x7 + x4))))) 96) (Q (some (.int (ps_a s 1169 (Int32.toNatClampNeg ((ps_a s 1172 (Int32.toNatClampNeg (x1 - 20))) + (((ps_a s 1174 (Int32.toNatClampNeg (x6 + x4))) * x5) + (ps_a s 1174 (Int32.toNatClampNeg (x7 + x4))))))))) s))) ∧
      (x1 < 20 →
        ps_nd (pm_in (x1 - 10) 6) (ps_nd (pm_in ((ps_a s 1171 (Int32.toNatClampNeg (x1 - 10))) + (((ps_a s 1174 (Int32.toNatClampNeg (x6 + x4))) * x5) + (ps_a s 1174 (Int32.toNatClampNeg (x7 + x4))))) 96) (Q (some (.int (ps_a s 1169 (Int32.toNatClampNeg ((ps_a s 1171 (Int32.toNatClampNeg (x1 - 10))) + (((ps_a s 1174 (Int32.toNatClampNeg (x6 + x4))) * x5) + (ps_a s 1174 (Int32.toNatClampNeg (x7 + x4))))))))) s)))))) ∧
    (x2 = 1 →
      ps_nd (pm_in (x6 + x4) 10206) ((20 ≤ x1 →
        ps_nd (pm_in (x1 - 20) 4) (ps_nd (pm_in ((ps_a s 1172 (Int32.toNatClampNeg (x1 - 20))) + (ps_a s 1174 (Int32.toNatClampNeg (x6 + x4)))) 96) (Q (some (.int (ps_a s 1169 (Int32.toNatClampNeg ((ps_a s 1172 (Int32.toNatClampNeg (x1 - 20))) + (ps_a s 1174 (Int32.toNatClampNeg (x6 + x4)))))))) s))) ∧
      (x1 < 20 →
        ps_nd (pm_in (x1 - 10) 6) (ps_nd (pm_in ((ps_a s 1171 (Int32.toNatClampNeg (x1 - 10))) + (ps_a s 1174 (Int32.toNatClampNeg (x6 + x4)))) 96) (Q (some (.int (ps_a s 1169 (Int32.toNatClampNeg ((ps_a s 1171 (Int32.toNatClampNeg (x1 - 10))) + (ps_a s 1174 (Int32.toNatClampNeg (x6 + x4)))))))) s)))))) ∧
  (x2 = 0 →
    (20 ≤ x1 →
      ps_nd (pm_in (x1 - 20) 4) (ps_nd (pm_in ((ps_a s 1172 (Int32.toNatClampNeg (x1 - 20))) + 0) 96) (Q (some (.int (ps_a s 1169 (Int32.toNatClampNeg ((ps_a s 1172 (Int32.toNatClampNeg (x1 - 20))) + 0))))) s))) ∧
    (x1 < 20 →
      ps_nd (pm_in (x1 - 10) 6) (ps_nd (pm_in ((ps_a s 1171 (Int32.toNatClampNeg (x1 - 10))) + 0) 96) (Q (some (.int (ps_a s 1169 (Int32.toNatClampNeg ((ps_a s 1171 (Int32.toNatClampNeg (x1 - 10))) + 0))))) s))))) : ps_At (d + 1) 296 216 [(0, .ref 1131), (1, .int x1), (2, .int x2), (4, .int x4), (5, .int x5), (6, .int x6), (7, .int x7)] [] s Q :=
  ps_wp_at (stops := [(28, [0, 1, 2, 4, 5, 6, 7]), (88, [0, 1, 2, 4, 5, 6, 7]), (127, [0, 1, 4, 5, 6]), (143, [0, 1, 2, 4, 5, 6, 7]), (178, [0, 1, 2, 4, 5, 6, 7]), (216, [0, 1, 2, 4, 5, 6, 7])]) (n := 112) h rfl

theorem ms_296_127 {x : Nat → Nat → Nat} {t : Int32} {d : Nat} {s : ps_S} {σ : mSig} {c : Nat} {b : Bool} {ks : List Bool} {x1 : Int32} {x2 : Int32} {x3 : Int32} {x4 : Int32} {x5 : Int32} {Q : Option Value → ps_S → Prop} (k : ∀ (v : Int32), (20 ≤ c → 0 ≤ v.toInt ∧ v.toInt ≤ 2) → Q (some (.int v)) s) (x6 : Int32) (J : mJ x t s) (i0 : x1.toInt = (c : Int)) (i1 : c = 4 ∨ c = 5) (i2 : 0 ≤ x6.toInt) (i3 : x6.toInt ≤ 9720) (i4 : 0 ≤ x4.toInt) (i5 : x4.toInt ≤ 242) (i6 : 1 ≤ x5.toInt) (i7 : x5.toInt ≤ 3) (i8 : x4.toInt * x5.toInt + x5.toInt ≤ 243) : ps_At (d + 1) 296 127 [(0, .ref 1131), (1, .int x1), (4, .int x4), (5, .int x5), (6, .int x6)] [] s Q := by
  refine pg_296_127 (d := d) ?_
  obtain ⟨hm1, hm2, hm3⟩ := mul33 (a := x4) (b := x5) ⟨by omega, by omega⟩ ⟨by omega, by omega⟩
  have a1 : (x6 + (x4 * x5)).toInt = x6.toInt + (x4 * x5).toInt := xIa (show -2147483648 ≤ x6.toInt + (x4 * x5).toInt from by omega) (show x6.toInt + (x4 * x5).toInt < 2147483648 from by omega)
  refine ms_297 J (show 0 ≤ (x6 + (x4 * x5)).toInt from by omega) (show 0 ≤ x5.toInt from by omega) (show x5.toInt ≤ 3 from by omega) (show (x6 + (x4 * x5)).toInt + x5.toInt ≤ 10206 from by omega) (fun v2 p2_0 p2_1 => ?_)
  have p2_0' : 0 ≤ v2.toInt := p2_0
  have p2_1' : v2.toInt ≤ 1 := p2_1
  exact k v2 (fun h => absurd h (by omega))

theorem ms_296_216 {x : Nat → Nat → Nat} {t : Int32} {d : Nat} {s : ps_S} {σ : mSig} {c : Nat} {b : Bool} {ks : List Bool} {x1 : Int32} {x2 : Int32} {x3 : Int32} {x4 : Int32} {x5 : Int32} {Q : Option Value → ps_S → Prop} (k : ∀ (v : Int32), (20 ≤ c → 0 ≤ v.toInt ∧ v.toInt ≤ 2) → Q (some (.int v)) s) (x6 : Int32) (x7 : Int32) (J : mJ x t s) (hS : Sg (ps_a s 1135) (ps_a s 1136) (ps_a s 1138) (ps_a s 1139) (ps_i s 1131 21).toInt σ) (hDg : ∀ j : Nat, j < 96 → 0 ≤ (ps_a s 1169 j).toInt ∧ (ps_a s 1169 j).toInt ≤ 2) (hFt : ∀ j : Nat, j < 12 → 0 ≤ (ps_a s 1175 j).toInt ∧ (ps_a s 1175 j).toInt ≤ 2) (hFa : ∀ f : Nat, (f : Int) < (σ.1.2 : Int) → (ps_a s 1172 f).toInt ≤ 87) (i4 : kS σ b c = some ks) (i5 : x1.toInt = (c : Int)) (i6 : x2.toInt = (ks.length : Int)) (i7 : 0 ≤ x6.toInt) (i8 : x6.toInt ≤ 9720) (i9 : 0 ≤ x7.toInt) (i10 : x7.toInt ≤ 9963) (i11 : 0 ≤ x4.toInt) (i12 : x4.toInt ≤ 242) (i13 : 1 ≤ x5.toInt) (i14 : x5.toInt ≤ 3) (i15 : c = 4 ∨ c = 5 → x4.toInt * x5.toInt + x5.toInt ≤ 243) (i16 : 10 ≤ c → ks.length ≠ 0 → 0 ≤ (ps_a s 1174 (x6.toInt + x4.toInt).toNat).toInt ∧ (ps_a s 1174 (x6.toInt + x4.toInt).toNat).toInt ≤ 2) (i17 : 10 ≤ c → ks.length = 2 → 0 ≤ (ps_a s 1174 (x7.toInt + x4.toInt).toNat).toInt ∧ (ps_a s 1174 (x7.toInt + x4.toInt).toNat).toInt ≤ 2) (i18 : x1.toInt ≠ 0) (i19 : x1.toInt ≠ 1) (i20 : x1.toInt ≠ 2) (i21 : x1.toInt ≠ 3) (i22 : x1.toInt ≠ 4) (i23 : x1.toInt ≠ 5) (i24 : x1.toInt ≠ 6) (i25 : x1.toInt < 40) : ps_At (d + 1) 296 216 [(0, .ref 1131), (1, .int x1), (2, .int x2), (4, .int x4), (5, .int x5), (6, .int x6), (7, .int x7)] [] s Q := by
  refine pg_296_216 (d := d) ?_
  have h72 := kS_72 (Sg_σ hS) i4
  have hks2 := kS_le hS i4
  have q5 : x1.toInt = (c : Int) := i5
  have q6 : x2.toInt = (ks.length : Int) := i6
  have hkn := kS_num i4
  obtain ⟨hb0, hb1, h5, hR6, h6, hF, h8, h9⟩ := id hS
  refine And.intro (fun h1 => ?_) (fun h1 => ?_)
  · have f2 : x2.toInt ≠ (0 : Int) := xne h1
    refine And.intro (fun h3 => ?_) (fun h3 => ?_)
    · have f4 : x2.toInt ≠ (1 : Int) := xne h3
      have a5 : (x6 + x4).toInt = x6.toInt + x4.toInt := xIa (show -2147483648 ≤ x6.toInt + x4.toInt from by omega) (show x6.toInt + x4.toInt < 2147483648 from by omega)
      have hi1 : Int32.toNatClampNeg ((x6 + x4)) = (x6.toInt + x4.toInt).toNat := nx (by omega)
      refine ps_nd_i (show pm_in (x6 + x4) 10206 = true from xgi (show 0 ≤ (x6 + x4).toInt from by omega) (show (x6 + x4).toInt < 10206 from by omega)) ?_
      have hr1 : 0 ≤ ((ps_a s 1174 (Int32.toNatClampNeg (x6 + x4)))).toInt ∧ ((ps_a s 1174 (Int32.toNatClampNeg (x6 + x4)))).toInt ≤ 2 := by rw [hi1]; exact i16 (by omega) (by omega)
      obtain ⟨hm1, hm2, hm3⟩ := mul33 (a := (ps_a s 1174 (Int32.toNatClampNeg (x6 + x4)))) (b := x5) ⟨by omega, by omega⟩ ⟨by omega, by omega⟩
      have a6 : (x7 + x4).toInt = x7.toInt + x4.toInt := xIa (show -2147483648 ≤ x7.toInt + x4.toInt from by omega) (show x7.toInt + x4.toInt < 2147483648 from by omega)
      have hi2 : Int32.toNatClampNeg ((x7 + x4)) = (x7.toInt + x4.toInt).toNat := nx (by omega)
      refine ps_nd_i (show pm_in (x7 + x4) 10206 = true from xgi (show 0 ≤ (x7 + x4).toInt from by omega) (show (x7 + x4).toInt < 10206 from by omega)) ?_
      have hr2 : 0 ≤ ((ps_a s 1174 (Int32.toNatClampNeg (x7 + x4)))).toInt ∧ ((ps_a s 1174 (Int32.toNatClampNeg (x7 + x4)))).toInt ≤ 2 := by rw [hi2]; exact i17 (by omega) (by omega)
      have a7 : (((ps_a s 1174 (Int32.toNatClampNeg (x6 + x4))) * x5) + (ps_a s 1174 (Int32.toNatClampNeg (x7 + x4)))).toInt = ((ps_a s 1174 (Int32.toNatClampNeg (x6 + x4))) * x5).toInt + (ps_a s 1174 (Int32.toNatClampNeg (x7 + x4))).toInt := xIa (show -2147483648 ≤ ((ps_a s 1174 (Int32.toNatClampNeg (x6 + x4))) * x5).toInt + (ps_a s 1174 (Int32.toNatClampNeg (x7 + x4))).toInt from by omega) (show ((ps_a s 1174 (Int32.toNatClampNeg (x6 + x4))) * x5).toInt + (ps_a s 1174 (Int32.toNatClampNeg (x7 + x4))).toInt < 2147483648 from by omega)
      refine And.intro (fun h8 => ?_) (fun h8 => ?_)
      · have f9 : (20 : Int) ≤ x1.toInt := xle h8
        have a10 : (x1 - 20).toInt = x1.toInt - (20 : Int) := xIs (show -2147483648 ≤ x1.toInt - (20 : Int) from by omega) (show x1.toInt - (20 : Int) < 2147483648 from by omega)
        have hfa : (ps_a s 1172 (Int32.toNatClampNeg ((x1 - 20)))).toInt ≤ 87 := by rw [nx (n := (c : Int) - 20) (by omega)]; exact hFa _ (by omega)
        refine ps_nd_i (show pm_in (x1 - 20) 4 = true from xgi (show 0 ≤ (x1 - 20).toInt from by omega) (show (x1 - 20).toInt < 4 from by omega)) ?_
        have r11 : 0 ≤ (ps_a s 1172 (Int32.toNatClampNeg (x1 - 20))).toInt ∧ (ps_a s 1172 (Int32.toNatClampNeg (x1 - 20))).toInt ≤ 90 := ma_1172 (i := (x1 - 20)) J (show 0 ≤ (x1 - 20).toInt from by omega) (show (x1 - 20).toInt < 4 from by omega)
        have a12 : ((ps_a s 1172 (Int32.toNatClampNeg (x1 - 20))) + (((ps_a s 1174 (Int32.toNatClampNeg (x6 + x4))) * x5) + (ps_a s 1174 (Int32.toNatClampNeg (x7 + x4))))).toInt = (ps_a s 1172 (Int32.toNatClampNeg (x1 - 20))).toInt + (((ps_a s 1174 (Int32.toNatClampNeg (x6 + x4))) * x5) + (ps_a s 1174 (Int32.toNatClampNeg (x7 + x4)))).toInt := xIa (show -2147483648 ≤ (ps_a s 1172 (Int32.toNatClampNeg (x1 - 20))).toInt + (((ps_a s 1174 (Int32.toNatClampNeg (x6 + x4))) * x5) + (ps_a s 1174 (Int32.toNatClampNeg (x7 + x4)))).toInt from by omega) (show (ps_a s 1172 (Int32.toNatClampNeg (x1 - 20))).toInt + (((ps_a s 1174 (Int32.toNatClampNeg (x6 + x4))) * x5) + (ps_a s 1174 (Int32.toNatClampNeg (x7 + x4)))).toInt < 2147483648 from by omega)
        have hix : Int32.toNatClampNeg (((ps_a s 1172 (Int32.toNatClampNeg (x1 - 20))) + (((ps_a s 1174 (Int32.toNatClampNeg (x6 + x4))) * x5) + (ps_a s 1174 (Int32.toNatClampNeg (x7 + x4)))))) < 96 := by rw [nx (n := (((ps_a s 1172 (Int32.toNatClampNeg (x1 - 20))) + (((ps_a s 1174 (Int32.toNatClampNeg (x6 + x4))) * x5) + (ps_a s 1174 (Int32.toNatClampNeg (x7 + x4)))))).toInt) rfl]; omega
        refine ps_nd_i (show pm_in ((ps_a s 1172 (Int32.toNatClampNeg (x1 - 20))) + (((ps_a s 1174 (Int32.toNatClampNeg (x6 + x4))) * x5) + (ps_a s 1174 (Int32.toNatClampNeg (x7 + x4))))) 96 = true from xgi (show 0 ≤ ((ps_a s 1172 (Int32.toNatClampNeg (x1 - 20))) + (((ps_a s 1174 (Int32.toNatClampNeg (x6 + x4))) * x5) + (ps_a s 1174 (Int32.toNatClampNeg (x7 + x4))))).toInt from by omega) (show ((ps_a s 1172 (Int32.toNatClampNeg (x1 - 20))) + (((ps_a s 1174 (Int32.toNatClampNeg (x6 + x4))) * x5) + (ps_a s 1174 (Int32.toNatClampNeg (x7 + x4))))).toInt < 96 from by omega)) ?_
        have hdd : 0 ≤ ((ps_a s 1169 (Int32.toNatClampNeg ((ps_a s 1172 (Int32.toNatClampNeg (x1 - 20))) + (((ps_a s 1174 (Int32.toNatClampNeg (x6 + x4))) * x5) + (ps_a s 1174 (Int32.toNatClampNeg (x7 + x4)))))))).toInt ∧ ((ps_a s 1169 (Int32.toNatClampNeg ((ps_a s 1172 (Int32.toNatClampNeg (x1 - 20))) + (((ps_a s 1174 (Int32.toNatClampNeg (x6 + x4))) * x5) + (ps_a s 1174 (Int32.toNatClampNeg (x7 + x4)))))))).toInt ≤ 2 := hDg _ hix
        exact k (ps_a s 1169 (Int32.toNatClampNeg ((ps_a s 1172 (Int32.toNatClampNeg (x1 - 20))) + (((ps_a s 1174 (Int32.toNatClampNeg (x6 + x4))) * x5) + (ps_a s 1174 (Int32.toNatClampNeg (x7 + x4))))))) (fun _ => hdd)
      · have f13 : x1.toInt < (20 : Int) := xlt h8
        have a14 : (x1 - 10).toInt = x1.toInt - (10 : Int) := xIs (show -2147483648 ≤ x1.toInt - (10 : Int) from by omega) (show x1.toInt - (10 : Int) < 2147483648 from by omega)
        refine ps_nd_i (show pm_in (x1 - 10) 6 = true from xgi (show 0 ≤ (x1 - 10).toInt from by omega) (show (x1 - 10).toInt < 6 from by omega)) ?_
        have r15 : 0 ≤ (ps_a s 1171 (Int32.toNatClampNeg (x1 - 10))).toInt ∧ (ps_a s 1171 (Int32.toNatClampNeg (x1 - 10))).toInt ≤ 54 := ma_1171 (i := (x1 - 10)) J (show 0 ≤ (x1 - 10).toInt from by omega) (show (x1 - 10).toInt < 6 from by omega)
        have a16 : ((ps_a s 1171 (Int32.toNatClampNeg (x1 - 10))) + (((ps_a s 1174 (Int32.toNatClampNeg (x6 + x4))) * x5) + (ps_a s 1174 (Int32.toNatClampNeg (x7 + x4))))).toInt = (ps_a s 1171 (Int32.toNatClampNeg (x1 - 10))).toInt + (((ps_a s 1174 (Int32.toNatClampNeg (x6 + x4))) * x5) + (ps_a s 1174 (Int32.toNatClampNeg (x7 + x4)))).toInt := xIa (show -2147483648 ≤ (ps_a s 1171 (Int32.toNatClampNeg (x1 - 10))).toInt + (((ps_a s 1174 (Int32.toNatClampNeg (x6 + x4))) * x5) + (ps_a s 1174 (Int32.toNatClampNeg (x7 + x4)))).toInt from by omega) (show (ps_a s 1171 (Int32.toNatClampNeg (x1 - 10))).toInt + (((ps_a s 1174 (Int32.toNatClampNeg (x6 + x4))) * x5) + (ps_a s 1174 (Int32.toNatClampNeg (x7 + x4)))).toInt < 2147483648 from by omega)
        have hix : Int32.toNatClampNeg (((ps_a s 1171 (Int32.toNatClampNeg (x1 - 10))) + (((ps_a s 1174 (Int32.toNatClampNeg (x6 + x4))) * x5) + (ps_a s 1174 (Int32.toNatClampNeg (x7 + x4)))))) < 96 := by rw [nx (n := (((ps_a s 1171 (Int32.toNatClampNeg (x1 - 10))) + (((ps_a s 1174 (Int32.toNatClampNeg (x6 + x4))) * x5) + (ps_a s 1174 (Int32.toNatClampNeg (x7 + x4)))))).toInt) rfl]; omega
        refine ps_nd_i (show pm_in ((ps_a s 1171 (Int32.toNatClampNeg (x1 - 10))) + (((ps_a s 1174 (Int32.toNatClampNeg (x6 + x4))) * x5) + (ps_a s 1174 (Int32.toNatClampNeg (x7 + x4))))) 96 = true from xgi (show 0 ≤ ((ps_a s 1171 (Int32.toNatClampNeg (x1 - 10))) + (((ps_a s 1174 (Int32.toNatClampNeg (x6 + x4))) * x5) + (ps_a s 1174 (Int32.toNatClampNeg (x7 + x4))))).toInt from by omega) (show ((ps_a s 1171 (Int32.toNatClampNeg (x1 - 10))) + (((ps_a s 1174 (Int32.toNatClampNeg (x6 + x4))) * x5) + (ps_a s 1174 (Int32.toNatClampNeg (x7 + x4))))).toInt < 96 from by omega)) ?_
        have hdd : 0 ≤ ((ps_a s 1169 (Int32.toNatClampNeg ((ps_a s 1171 (Int32.toNatClampNeg (x1 - 10))) + (((ps_a s 1174 (Int32.toNatClampNeg (x6 + x4))) * x5) + (ps_a s 1174 (Int32.toNatClampNeg (x7 + x4)))))))).toInt ∧ ((ps_a s 1169 (Int32.toNatClampNeg ((ps_a s 1171 (Int32.toNatClampNeg (x1 - 10))) + (((ps_a s 1174 (Int32.toNatClampNeg (x6 + x4))) * x5) + (ps_a s 1174 (Int32.toNatClampNeg (x7 + x4)))))))).toInt ≤ 2 := hDg _ hix
        exact k (ps_a s 1169 (Int32.toNatClampNeg ((ps_a s 1171 (Int32.toNatClampNeg (x1 - 10))) + (((ps_a s 1174 (Int32.toNatClampNeg (x6 + x4))) * x5) + (ps_a s 1174 (Int32.toNatClampNeg (x7 + x4))))))) (fun _ => hdd)
    · have f17 : x2.toInt = (1 : Int) := xeq h3
      have a18 : (x6 + x4).toInt = x6.toInt + x4.toInt := xIa (show -2147483648 ≤ x6.toInt + x4.toInt from by omega) (show x6.toInt + x4.toInt < 2147483648 from by omega)
      have hi1 : Int32.toNatClampNeg ((x6 + x4)) = (x6.toInt + x4.toInt).toNat := nx (by omega)
      refine ps_nd_i (show pm_in (x6 + x4) 10206 = true from xgi (show 0 ≤ (x6 + x4).toInt from by omega) (show (x6 + x4).toInt < 10206 from by omega)) ?_
      have hr1 : 0 ≤ ((ps_a s 1174 (Int32.toNatClampNeg (x6 + x4)))).toInt ∧ ((ps_a s 1174 (Int32.toNatClampNeg (x6 + x4)))).toInt ≤ 2 := by rw [hi1]; exact i16 (by omega) (by omega)
      refine And.intro (fun h19 => ?_) (fun h19 => ?_)
      · have f20 : (20 : Int) ≤ x1.toInt := xle h19
        have a21 : (x1 - 20).toInt = x1.toInt - (20 : Int) := xIs (show -2147483648 ≤ x1.toInt - (20 : Int) from by omega) (show x1.toInt - (20 : Int) < 2147483648 from by omega)
        have hfa : (ps_a s 1172 (Int32.toNatClampNeg ((x1 - 20)))).toInt ≤ 87 := by rw [nx (n := (c : Int) - 20) (by omega)]; exact hFa _ (by omega)
        refine ps_nd_i (show pm_in (x1 - 20) 4 = true from xgi (show 0 ≤ (x1 - 20).toInt from by omega) (show (x1 - 20).toInt < 4 from by omega)) ?_
        have r22 : 0 ≤ (ps_a s 1172 (Int32.toNatClampNeg (x1 - 20))).toInt ∧ (ps_a s 1172 (Int32.toNatClampNeg (x1 - 20))).toInt ≤ 90 := ma_1172 (i := (x1 - 20)) J (show 0 ≤ (x1 - 20).toInt from by omega) (show (x1 - 20).toInt < 4 from by omega)
        have a23 : ((ps_a s 1172 (Int32.toNatClampNeg (x1 - 20))) + (ps_a s 1174 (Int32.toNatClampNeg (x6 + x4)))).toInt = (ps_a s 1172 (Int32.toNatClampNeg (x1 - 20))).toInt + (ps_a s 1174 (Int32.toNatClampNeg (x6 + x4))).toInt := xIa (show -2147483648 ≤ (ps_a s 1172 (Int32.toNatClampNeg (x1 - 20))).toInt + (ps_a s 1174 (Int32.toNatClampNeg (x6 + x4))).toInt from by omega) (show (ps_a s 1172 (Int32.toNatClampNeg (x1 - 20))).toInt + (ps_a s 1174 (Int32.toNatClampNeg (x6 + x4))).toInt < 2147483648 from by omega)
        have hix : Int32.toNatClampNeg (((ps_a s 1172 (Int32.toNatClampNeg (x1 - 20))) + (ps_a s 1174 (Int32.toNatClampNeg (x6 + x4))))) < 96 := by rw [nx (n := (((ps_a s 1172 (Int32.toNatClampNeg (x1 - 20))) + (ps_a s 1174 (Int32.toNatClampNeg (x6 + x4))))).toInt) rfl]; omega
        refine ps_nd_i (show pm_in ((ps_a s 1172 (Int32.toNatClampNeg (x1 - 20))) + (ps_a s 1174 (Int32.toNatClampNeg (x6 + x4)))) 96 = true from xgi (show 0 ≤ ((ps_a s 1172 (Int32.toNatClampNeg (x1 - 20))) + (ps_a s 1174 (Int32.toNatClampNeg (x6 + x4)))).toInt from by omega) (show ((ps_a s 1172 (Int32.toNatClampNeg (x1 - 20))) + (ps_a s 1174 (Int32.toNatClampNeg (x6 + x4)))).toInt < 96 from by omega)) ?_
        have hdd : 0 ≤ ((ps_a s 1169 (Int32.toNatClampNeg ((ps_a s 1172 (Int32.toNatClampNeg (x1 - 20))) + (ps_a s 1174 (Int32.toNatClampNeg (x6 + x4))))))).toInt ∧ ((ps_a s 1169 (Int32.toNatClampNeg ((ps_a s 1172 (Int32.toNatClampNeg (x1 - 20))) + (ps_a s 1174 (Int32.toNatClampNeg (x6 + x4))))))).toInt ≤ 2 := hDg _ hix
        exact k (ps_a s 1169 (Int32.toNatClampNeg ((ps_a s 1172 (Int32.toNatClampNeg (x1 - 20))) + (ps_a s 1174 (Int32.toNatClampNeg (x6 + x4)))))) (fun _ => hdd)
      · have f24 : x1.toInt < (20 : Int) := xlt h19
        have a25 : (x1 - 10).toInt = x1.toInt - (10 : Int) := xIs (show -2147483648 ≤ x1.toInt - (10 : Int) from by omega) (show x1.toInt - (10 : Int) < 2147483648 from by omega)
        refine ps_nd_i (show pm_in (x1 - 10) 6 = true from xgi (show 0 ≤ (x1 - 10).toInt from by omega) (show (x1 - 10).toInt < 6 from by omega)) ?_
        have r26 : 0 ≤ (ps_a s 1171 (Int32.toNatClampNeg (x1 - 10))).toInt ∧ (ps_a s 1171 (Int32.toNatClampNeg (x1 - 10))).toInt ≤ 54 := ma_1171 (i := (x1 - 10)) J (show 0 ≤ (x1 - 10).toInt from by omega) (show (x1 - 10).toInt < 6 from by omega)
        have a27 : ((ps_a s 1171 (Int32.toNatClampNeg (x1 - 10))) + (ps_a s 1174 (Int32.toNatClampNeg (x6 + x4)))).toInt = (ps_a s 1171 (Int32.toNatClampNeg (x1 - 10))).toInt + (ps_a s 1174 (Int32.toNatClampNeg (x6 + x4))).toInt := xIa (show -2147483648 ≤ (ps_a s 1171 (Int32.toNatClampNeg (x1 - 10))).toInt + (ps_a s 1174 (Int32.toNatClampNeg (x6 + x4))).toInt from by omega) (show (ps_a s 1171 (Int32.toNatClampNeg (x1 - 10))).toInt + (ps_a s 1174 (Int32.toNatClampNeg (x6 + x4))).toInt < 2147483648 from by omega)
        have hix : Int32.toNatClampNeg (((ps_a s 1171 (Int32.toNatClampNeg (x1 - 10))) + (ps_a s 1174 (Int32.toNatClampNeg (x6 + x4))))) < 96 := by rw [nx (n := (((ps_a s 1171 (Int32.toNatClampNeg (x1 - 10))) + (ps_a s 1174 (Int32.toNatClampNeg (x6 + x4))))).toInt) rfl]; omega
        refine ps_nd_i (show pm_in ((ps_a s 1171 (Int32.toNatClampNeg (x1 - 10))) + (ps_a s 1174 (Int32.toNatClampNeg (x6 + x4)))) 96 = true from xgi (show 0 ≤ ((ps_a s 1171 (Int32.toNatClampNeg (x1 - 10))) + (ps_a s 1174 (Int32.toNatClampNeg (x6 + x4)))).toInt from by omega) (show ((ps_a s 1171 (Int32.toNatClampNeg (x1 - 10))) + (ps_a s 1174 (Int32.toNatClampNeg (x6 + x4)))).toInt < 96 from by omega)) ?_
        have hdd : 0 ≤ ((ps_a s 1169 (Int32.toNatClampNeg ((ps_a s 1171 (Int32.toNatClampNeg (x1 - 10))) + (ps_a s 1174 (Int32.toNatClampNeg (x6 + x4))))))).toInt ∧ ((ps_a s 1169 (Int32.toNatClampNeg ((ps_a s 1171 (Int32.toNatClampNeg (x1 - 10))) + (ps_a s 1174 (Int32.toNatClampNeg (x6 + x4))))))).toInt ≤ 2 := hDg _ hix
        exact k (ps_a s 1169 (Int32.toNatClampNeg ((ps_a s 1171 (Int32.toNatClampNeg (x1 - 10))) + (ps_a s 1174 (Int32.toNatClampNeg (x6 + x4)))))) (fun _ => hdd)
  · have f28 : x2.toInt = (0 : Int) := xeq h1
    refine And.intro (fun h29 => ?_) (fun h29 => ?_)
    · have f30 : (20 : Int) ≤ x1.toInt := xle h29
      have a31 : (x1 - 20).toInt = x1.toInt - (20 : Int) := xIs (show -2147483648 ≤ x1.toInt - (20 : Int) from by omega) (show x1.toInt - (20 : Int) < 2147483648 from by omega)
      have hfa : (ps_a s 1172 (Int32.toNatClampNeg ((x1 - 20)))).toInt ≤ 87 := by rw [nx (n := (c : Int) - 20) (by omega)]; exact hFa _ (by omega)
      refine ps_nd_i (show pm_in (x1 - 20) 4 = true from xgi (show 0 ≤ (x1 - 20).toInt from by omega) (show (x1 - 20).toInt < 4 from by omega)) ?_
      have r32 : 0 ≤ (ps_a s 1172 (Int32.toNatClampNeg (x1 - 20))).toInt ∧ (ps_a s 1172 (Int32.toNatClampNeg (x1 - 20))).toInt ≤ 90 := ma_1172 (i := (x1 - 20)) J (show 0 ≤ (x1 - 20).toInt from by omega) (show (x1 - 20).toInt < 4 from by omega)
      have a33 : ((ps_a s 1172 (Int32.toNatClampNeg (x1 - 20))) + 0).toInt = (ps_a s 1172 (Int32.toNatClampNeg (x1 - 20))).toInt + (0 : Int) := xIa (show -2147483648 ≤ (ps_a s 1172 (Int32.toNatClampNeg (x1 - 20))).toInt + (0 : Int) from by omega) (show (ps_a s 1172 (Int32.toNatClampNeg (x1 - 20))).toInt + (0 : Int) < 2147483648 from by omega)
      have hix : Int32.toNatClampNeg (((ps_a s 1172 (Int32.toNatClampNeg (x1 - 20))) + 0)) < 96 := by rw [nx (n := (((ps_a s 1172 (Int32.toNatClampNeg (x1 - 20))) + 0)).toInt) rfl]; omega
      refine ps_nd_i (show pm_in ((ps_a s 1172 (Int32.toNatClampNeg (x1 - 20))) + 0) 96 = true from xgi (show 0 ≤ ((ps_a s 1172 (Int32.toNatClampNeg (x1 - 20))) + 0).toInt from by omega) (show ((ps_a s 1172 (Int32.toNatClampNeg (x1 - 20))) + 0).toInt < 96 from by omega)) ?_
      have hdd : 0 ≤ ((ps_a s 1169 (Int32.toNatClampNeg ((ps_a s 1172 (Int32.toNatClampNeg (x1 - 20))) + 0)))).toInt ∧ ((ps_a s 1169 (Int32.toNatClampNeg ((ps_a s 1172 (Int32.toNatClampNeg (x1 - 20))) + 0)))).toInt ≤ 2 := hDg _ hix
      exact k (ps_a s 1169 (Int32.toNatClampNeg ((ps_a s 1172 (Int32.toNatClampNeg (x1 - 20))) + 0))) (fun _ => hdd)
    · have f34 : x1.toInt < (20 : Int) := xlt h29
      have a35 : (x1 - 10).toInt = x1.toInt - (10 : Int) := xIs (show -2147483648 ≤ x1.toInt - (10 : Int) from by omega) (show x1.toInt - (10 : Int) < 2147483648 from by omega)
      refine ps_nd_i (show pm_in (x1 - 10) 6 = true from xgi (show 0 ≤ (x1 - 10).toInt from by omega) (show (x1 - 10).toInt < 6 from by omega)) ?_
      have r36 : 0 ≤ (ps_a s 1171 (Int32.toNatClampNeg (x1 - 10))).toInt ∧ (ps_a s 1171 (Int32.toNatClampNeg (x1 - 10))).toInt ≤ 54 := ma_1171 (i := (x1 - 10)) J (show 0 ≤ (x1 - 10).toInt from by omega) (show (x1 - 10).toInt < 6 from by omega)
      have a37 : ((ps_a s 1171 (Int32.toNatClampNeg (x1 - 10))) + 0).toInt = (ps_a s 1171 (Int32.toNatClampNeg (x1 - 10))).toInt + (0 : Int) := xIa (show -2147483648 ≤ (ps_a s 1171 (Int32.toNatClampNeg (x1 - 10))).toInt + (0 : Int) from by omega) (show (ps_a s 1171 (Int32.toNatClampNeg (x1 - 10))).toInt + (0 : Int) < 2147483648 from by omega)
      have hix : Int32.toNatClampNeg (((ps_a s 1171 (Int32.toNatClampNeg (x1 - 10))) + 0)) < 96 := by rw [nx (n := (((ps_a s 1171 (Int32.toNatClampNeg (x1 - 10))) + 0)).toInt) rfl]; omega
      refine ps_nd_i (show pm_in ((ps_a s 1171 (Int32.toNatClampNeg (x1 - 10))) + 0) 96 = true from xgi (show 0 ≤ ((ps_a s 1171 (Int32.toNatClampNeg (x1 - 10))) + 0).toInt from by omega) (show ((ps_a s 1171 (Int32.toNatClampNeg (x1 - 10))) + 0).toInt < 96 from by omega)) ?_
      have hdd : 0 ≤ ((ps_a s 1169 (Int32.toNatClampNeg ((ps_a s 1171 (Int32.toNatClampNeg (x1 - 10))) + 0)))).toInt ∧ ((ps_a s 1169 (Int32.toNatClampNeg ((ps_a s 1171 (Int32.toNatClampNeg (x1 - 10))) + 0)))).toInt ≤ 2 := hDg _ hix
      exact k (ps_a s 1169 (Int32.toNatClampNeg ((ps_a s 1171 (Int32.toNatClampNeg (x1 - 10))) + 0))) (fun _ => hdd)

theorem ms_296_178 {x : Nat → Nat → Nat} {t : Int32} {d : Nat} {s : ps_S} {σ : mSig} {c : Nat} {b : Bool} {ks : List Bool} {x1 : Int32} {x2 : Int32} {x3 : Int32} {x4 : Int32} {x5 : Int32} {Q : Option Value → ps_S → Prop} (k : ∀ (v : Int32), (20 ≤ c → 0 ≤ v.toInt ∧ v.toInt ≤ 2) → Q (some (.int v)) s) (x6 : Int32) (x7 : Int32) (J : mJ x t s) (hS : Sg (ps_a s 1135) (ps_a s 1136) (ps_a s 1138) (ps_a s 1139) (ps_i s 1131 21).toInt σ) (hDg : ∀ j : Nat, j < 96 → 0 ≤ (ps_a s 1169 j).toInt ∧ (ps_a s 1169 j).toInt ≤ 2) (hFt : ∀ j : Nat, j < 12 → 0 ≤ (ps_a s 1175 j).toInt ∧ (ps_a s 1175 j).toInt ≤ 2) (hFa : ∀ f : Nat, (f : Int) < (σ.1.2 : Int) → (ps_a s 1172 f).toInt ≤ 87) (i4 : kS σ b c = some ks) (i5 : x1.toInt = (c : Int)) (i6 : x2.toInt = (ks.length : Int)) (i7 : 0 ≤ x6.toInt) (i8 : x6.toInt ≤ 9720) (i9 : 0 ≤ x7.toInt) (i10 : x7.toInt ≤ 9963) (i11 : 0 ≤ x4.toInt) (i12 : x4.toInt ≤ 242) (i13 : 1 ≤ x5.toInt) (i14 : x5.toInt ≤ 3) (i15 : c = 4 ∨ c = 5 → x4.toInt * x5.toInt + x5.toInt ≤ 243) (i16 : 10 ≤ c → ks.length ≠ 0 → 0 ≤ (ps_a s 1174 (x6.toInt + x4.toInt).toNat).toInt ∧ (ps_a s 1174 (x6.toInt + x4.toInt).toNat).toInt ≤ 2) (i17 : 10 ≤ c → ks.length = 2 → 0 ≤ (ps_a s 1174 (x7.toInt + x4.toInt).toNat).toInt ∧ (ps_a s 1174 (x7.toInt + x4.toInt).toNat).toInt ≤ 2) (i18 : x1.toInt ≠ 0) (i19 : x1.toInt ≠ 1) (i20 : x1.toInt ≠ 2) (i21 : x1.toInt ≠ 3) (i22 : x1.toInt ≠ 4) (i23 : x1.toInt ≠ 5) (i24 : x1.toInt ≠ 6) : ps_At (d + 1) 296 178 [(0, .ref 1131), (1, .int x1), (2, .int x2), (4, .int x4), (5, .int x5), (6, .int x6), (7, .int x7)] [] s Q := by
  refine pg_296_178 (d := d) ?_
  have h72 := kS_72 (Sg_σ hS) i4
  have hks2 := kS_le hS i4
  have q5 : x1.toInt = (c : Int) := i5
  have q6 : x2.toInt = (ks.length : Int) := i6
  have hkn := kS_num i4
  obtain ⟨hb0, hb1, h5, hR6, h6, hF, h8, h9⟩ := id hS
  refine And.intro (fun h1 => ?_) (fun h1 => ?_)
  · have f2 : x1.toInt < (60 : Int) := xlt h1
    refine And.intro (fun h3 => ?_) (fun h3 => ?_)
    · have f4 : x1.toInt < (40 : Int) := xlt h3
      exact ms_296_216 (x1 := x1) (x2 := x2) (x3 := x3) (x4 := x4) (x5 := x5) (σ := σ) (c := c) (b := b) (ks := ks) k  x6 x7 J hS hDg hFt hFa (by assumption) (by assumption) (by assumption) (show 0 ≤ x6.toInt from by omega) (show x6.toInt ≤ 9720 from by omega) (show 0 ≤ x7.toInt from by omega) (show x7.toInt ≤ 9963 from by omega) (show 0 ≤ x4.toInt from by omega) (show x4.toInt ≤ 242 from by omega) (show 1 ≤ x5.toInt from by omega) (show x5.toInt ≤ 3 from by omega) (by assumption) (by assumption) (by assumption) (show x1.toInt ≠ 0 from by omega) (show x1.toInt ≠ 1 from by omega) (show x1.toInt ≠ 2 from by omega) (show x1.toInt ≠ 3 from by omega) (show x1.toInt ≠ 4 from by omega) (show x1.toInt ≠ 5 from by omega) (show x1.toInt ≠ 6 from by omega) (show x1.toInt < 40 from by omega)
    · have f5 : (40 : Int) ≤ x1.toInt := xle h3
      have a6 : (x1 - 40).toInt = x1.toInt - (40 : Int) := xIs (show -2147483648 ≤ x1.toInt - (40 : Int) from by omega) (show x1.toInt - (40 : Int) < 2147483648 from by omega)
      refine ms_290 J (show 1 ≤ x5.toInt from by omega) (show x5.toInt ≤ 3 from by omega) (show 0 ≤ (x1 - 40).toInt from by omega) (show (x1 - 40).toInt ≤ 19 from by omega) (fun v7 p7_0 => ?_)
      have hpw : _ := p7_0
      have hp1 : 1 ≤ (v7).toInt := by rw [hpw]; exact pwpos (by omega)
      refine ps_nd_i (xnz (show v7.toInt ≠ 0 from by omega)) ?_
      have hq0 : 0 ≤ ((x4 / v7)).toInt := xdiv0 (by omega) (by omega)
      refine ps_nd_i (xnz (show x5.toInt ≠ 0 from by omega)) ?_
      have hmm : 0 ≤ (((x4 / v7) - ((x4 / v7) / x5) * x5)).toInt ∧ (((x4 / v7) - ((x4 / v7) / x5) * x5)).toInt ≤ 2 := xmod2 hq0 (by omega) (by omega)
      exact k ((x4 / v7) - ((x4 / v7) / x5) * x5) (fun _ => hmm)
  · have f8 : (60 : Int) ≤ x1.toInt := xle h1
    have a9 : (x1 - 60).toInt = x1.toInt - (60 : Int) := xIs (show -2147483648 ≤ x1.toInt - (60 : Int) from by omega) (show x1.toInt - (60 : Int) < 2147483648 from by omega)
    have hft : 0 ≤ (ps_a s 1175 (Int32.toNatClampNeg ((x1 - 60)))).toInt ∧ (ps_a s 1175 (Int32.toNatClampNeg ((x1 - 60)))).toInt ≤ 2 := hFt _ (by rw [nx (n := ((x1 - 60)).toInt) rfl]; omega)
    refine ps_nd_i (show pm_in (x1 - 60) 12 = true from xgi (show 0 ≤ (x1 - 60).toInt from by omega) (show (x1 - 60).toInt < 12 from by omega)) ?_
    exact k (ps_a s 1175 (Int32.toNatClampNeg (x1 - 60))) (fun _ => hft)

theorem ms_296_143 {x : Nat → Nat → Nat} {t : Int32} {d : Nat} {s : ps_S} {σ : mSig} {c : Nat} {b : Bool} {ks : List Bool} {x1 : Int32} {x2 : Int32} {x3 : Int32} {x4 : Int32} {x5 : Int32} {Q : Option Value → ps_S → Prop} (k : ∀ (v : Int32), (20 ≤ c → 0 ≤ v.toInt ∧ v.toInt ≤ 2) → Q (some (.int v)) s) (x6 : Int32) (x7 : Int32) (J : mJ x t s) (hS : Sg (ps_a s 1135) (ps_a s 1136) (ps_a s 1138) (ps_a s 1139) (ps_i s 1131 21).toInt σ) (hDg : ∀ j : Nat, j < 96 → 0 ≤ (ps_a s 1169 j).toInt ∧ (ps_a s 1169 j).toInt ≤ 2) (hFt : ∀ j : Nat, j < 12 → 0 ≤ (ps_a s 1175 j).toInt ∧ (ps_a s 1175 j).toInt ≤ 2) (hFa : ∀ f : Nat, (f : Int) < (σ.1.2 : Int) → (ps_a s 1172 f).toInt ≤ 87) (i4 : kS σ b c = some ks) (i5 : x1.toInt = (c : Int)) (i6 : x2.toInt = (ks.length : Int)) (i7 : 0 ≤ x6.toInt) (i8 : x6.toInt ≤ 9720) (i9 : 0 ≤ x7.toInt) (i10 : x7.toInt ≤ 9963) (i11 : 0 ≤ x4.toInt) (i12 : x4.toInt ≤ 242) (i13 : 1 ≤ x5.toInt) (i14 : x5.toInt ≤ 3) (i15 : c = 4 ∨ c = 5 → x4.toInt * x5.toInt + x5.toInt ≤ 243) (i16 : 10 ≤ c → ks.length ≠ 0 → 0 ≤ (ps_a s 1174 (x6.toInt + x4.toInt).toNat).toInt ∧ (ps_a s 1174 (x6.toInt + x4.toInt).toNat).toInt ≤ 2) (i17 : 10 ≤ c → ks.length = 2 → 0 ≤ (ps_a s 1174 (x7.toInt + x4.toInt).toNat).toInt ∧ (ps_a s 1174 (x7.toInt + x4.toInt).toNat).toInt ≤ 2) (i18 : x1.toInt ≠ 0) (i19 : x1.toInt ≠ 1) (i20 : x1.toInt ≠ 2) (i21 : x1.toInt ≠ 3) (i22 : x1.toInt ≠ 4) (i23 : x1.toInt ≠ 5) : ps_At (d + 1) 296 143 [(0, .ref 1131), (1, .int x1), (2, .int x2), (4, .int x4), (5, .int x5), (6, .int x6), (7, .int x7)] [] s Q := by
  refine pg_296_143 (d := d) ?_
  have h72 := kS_72 (Sg_σ hS) i4
  have hks2 := kS_le hS i4
  have q5 : x1.toInt = (c : Int) := i5
  have q6 : x2.toInt = (ks.length : Int) := i6
  have hkn := kS_num i4
  obtain ⟨hb0, hb1, h5, hR6, h6, hF, h8, h9⟩ := id hS
  refine And.intro (fun h1 => ?_) (fun h1 => ?_)
  · have f2 : x1.toInt ≠ (6 : Int) := xne h1
    exact ms_296_178 (x1 := x1) (x2 := x2) (x3 := x3) (x4 := x4) (x5 := x5) (σ := σ) (c := c) (b := b) (ks := ks) k  x6 x7 J hS hDg hFt hFa (by assumption) (by assumption) (by assumption) (show 0 ≤ x6.toInt from by omega) (show x6.toInt ≤ 9720 from by omega) (show 0 ≤ x7.toInt from by omega) (show x7.toInt ≤ 9963 from by omega) (show 0 ≤ x4.toInt from by omega) (show x4.toInt ≤ 242 from by omega) (show 1 ≤ x5.toInt from by omega) (show x5.toInt ≤ 3 from by omega) (by assumption) (by assumption) (by assumption) (show x1.toInt ≠ 0 from by omega) (show x1.toInt ≠ 1 from by omega) (show x1.toInt ≠ 2 from by omega) (show x1.toInt ≠ 3 from by omega) (show x1.toInt ≠ 4 from by omega) (show x1.toInt ≠ 5 from by omega) (show x1.toInt ≠ 6 from by omega)
  · have f3 : x1.toInt = (6 : Int) := xeq h1
    have a4 : (x6 + x4).toInt = x6.toInt + x4.toInt := xIa (show -2147483648 ≤ x6.toInt + x4.toInt from by omega) (show x6.toInt + x4.toInt < 2147483648 from by omega)
    refine ps_nd_i (show pm_in (x6 + x4) 10206 = true from xgi (show 0 ≤ (x6 + x4).toInt from by omega) (show (x6 + x4).toInt < 10206 from by omega)) ?_
    have a5 : (x7 + x4).toInt = x7.toInt + x4.toInt := xIa (show -2147483648 ≤ x7.toInt + x4.toInt from by omega) (show x7.toInt + x4.toInt < 2147483648 from by omega)
    refine ps_nd_i (show pm_in (x7 + x4) 10206 = true from xgi (show 0 ≤ (x7 + x4).toInt from by omega) (show (x7 + x4).toInt < 10206 from by omega)) ?_
    refine And.intro (fun h6 => ?_) (fun h6 => ?_)
    · have f7 : (ps_a s 1174 (Int32.toNatClampNeg (x6 + x4))).toInt ≠ (ps_a s 1174 (Int32.toNatClampNeg (x7 + x4))).toInt := xne h6
      exact k (0 : Int32) (fun h => absurd h (by omega))
    · have f8 : (ps_a s 1174 (Int32.toNatClampNeg (x6 + x4))).toInt = (ps_a s 1174 (Int32.toNatClampNeg (x7 + x4))).toInt := xeq h6
      exact k (1 : Int32) (fun h => absurd h (by omega))

theorem ms_296_88 {x : Nat → Nat → Nat} {t : Int32} {d : Nat} {s : ps_S} {σ : mSig} {c : Nat} {b : Bool} {ks : List Bool} {x1 : Int32} {x2 : Int32} {x3 : Int32} {x4 : Int32} {x5 : Int32} {Q : Option Value → ps_S → Prop} (k : ∀ (v : Int32), (20 ≤ c → 0 ≤ v.toInt ∧ v.toInt ≤ 2) → Q (some (.int v)) s) (x6 : Int32) (x7 : Int32) (J : mJ x t s) (hS : Sg (ps_a s 1135) (ps_a s 1136) (ps_a s 1138) (ps_a s 1139) (ps_i s 1131 21).toInt σ) (hDg : ∀ j : Nat, j < 96 → 0 ≤ (ps_a s 1169 j).toInt ∧ (ps_a s 1169 j).toInt ≤ 2) (hFt : ∀ j : Nat, j < 12 → 0 ≤ (ps_a s 1175 j).toInt ∧ (ps_a s 1175 j).toInt ≤ 2) (hFa : ∀ f : Nat, (f : Int) < (σ.1.2 : Int) → (ps_a s 1172 f).toInt ≤ 87) (i4 : kS σ b c = some ks) (i5 : x1.toInt = (c : Int)) (i6 : x2.toInt = (ks.length : Int)) (i7 : 0 ≤ x6.toInt) (i8 : x6.toInt ≤ 9720) (i9 : 0 ≤ x7.toInt) (i10 : x7.toInt ≤ 9963) (i11 : 0 ≤ x4.toInt) (i12 : x4.toInt ≤ 242) (i13 : 1 ≤ x5.toInt) (i14 : x5.toInt ≤ 3) (i15 : c = 4 ∨ c = 5 → x4.toInt * x5.toInt + x5.toInt ≤ 243) (i16 : 10 ≤ c → ks.length ≠ 0 → 0 ≤ (ps_a s 1174 (x6.toInt + x4.toInt).toNat).toInt ∧ (ps_a s 1174 (x6.toInt + x4.toInt).toNat).toInt ≤ 2) (i17 : 10 ≤ c → ks.length = 2 → 0 ≤ (ps_a s 1174 (x7.toInt + x4.toInt).toNat).toInt ∧ (ps_a s 1174 (x7.toInt + x4.toInt).toNat).toInt ≤ 2) (i18 : x1.toInt ≠ 0) (i19 : x1.toInt ≠ 1) (i20 : x1.toInt ≠ 2) : ps_At (d + 1) 296 88 [(0, .ref 1131), (1, .int x1), (2, .int x2), (4, .int x4), (5, .int x5), (6, .int x6), (7, .int x7)] [] s Q := by
  refine pg_296_88 (d := d) ?_
  have h72 := kS_72 (Sg_σ hS) i4
  have hks2 := kS_le hS i4
  have q5 : x1.toInt = (c : Int) := i5
  have q6 : x2.toInt = (ks.length : Int) := i6
  have hkn := kS_num i4
  obtain ⟨hb0, hb1, h5, hR6, h6, hF, h8, h9⟩ := id hS
  refine And.intro (fun h1 => ?_) (fun h1 => ?_)
  · have f2 : x1.toInt ≠ (3 : Int) := xne h1
    refine And.intro (fun h3 => ?_) (fun h3 => ?_)
    · have f4 : x1.toInt = (4 : Int) := xeq h3
      exact ms_296_127 (x1 := x1) (x2 := x2) (x3 := x3) (x4 := x4) (x5 := x5) (σ := σ) (c := c) (b := b) (ks := ks) k  x6 J (i5) ((by omega)) (show 0 ≤ x6.toInt from by omega) (show x6.toInt ≤ 9720 from by omega) (show 0 ≤ x4.toInt from by omega) (show x4.toInt ≤ 242 from by omega) (show 1 ≤ x5.toInt from by omega) (show x5.toInt ≤ 3 from by omega) ((i15 (by omega)))
    · have f5 : x1.toInt ≠ (4 : Int) := xne h3
      refine And.intro (fun h6 => ?_) (fun h6 => ?_)
      · have f7 : x1.toInt ≠ (5 : Int) := xne h6
        exact ms_296_143 (x1 := x1) (x2 := x2) (x3 := x3) (x4 := x4) (x5 := x5) (σ := σ) (c := c) (b := b) (ks := ks) k  x6 x7 J hS hDg hFt hFa (by assumption) (by assumption) (by assumption) (show 0 ≤ x6.toInt from by omega) (show x6.toInt ≤ 9720 from by omega) (show 0 ≤ x7.toInt from by omega) (show x7.toInt ≤ 9963 from by omega) (show 0 ≤ x4.toInt from by omega) (show x4.toInt ≤ 242 from by omega) (show 1 ≤ x5.toInt from by omega) (show x5.toInt ≤ 3 from by omega) (by assumption) (by assumption) (by assumption) (show x1.toInt ≠ 0 from by omega) (show x1.toInt ≠ 1 from by omega) (show x1.toInt ≠ 2 from by omega) (show x1.toInt ≠ 3 from by omega) (show x1.toInt ≠ 4 from by omega) (show x1.toInt ≠ 5 from by omega)
      · have f8 : x1.toInt = (5 : Int) := xeq h6
        exact ms_296_127 (x1 := x1) (x2 := x2) (x3 := x3) (x4 := x4) (x5 := x5) (σ := σ) (c := c) (b := b) (ks := ks) k  x6 J (i5) ((by omega)) (show 0 ≤ x6.toInt from by omega) (show x6.toInt ≤ 9720 from by omega) (show 0 ≤ x4.toInt from by omega) (show x4.toInt ≤ 242 from by omega) (show 1 ≤ x5.toInt from by omega) (show x5.toInt ≤ 3 from by omega) ((i15 (by omega)))
  · have f9 : x1.toInt = (3 : Int) := xeq h1
    have a10 : (x6 + x4).toInt = x6.toInt + x4.toInt := xIa (show -2147483648 ≤ x6.toInt + x4.toInt from by omega) (show x6.toInt + x4.toInt < 2147483648 from by omega)
    refine ps_nd_i (show pm_in (x6 + x4) 10206 = true from xgi (show 0 ≤ (x6 + x4).toInt from by omega) (show (x6 + x4).toInt < 10206 from by omega)) ?_
    have a11 : (x7 + x4).toInt = x7.toInt + x4.toInt := xIa (show -2147483648 ≤ x7.toInt + x4.toInt from by omega) (show x7.toInt + x4.toInt < 2147483648 from by omega)
    refine ps_nd_i (show pm_in (x7 + x4) 10206 = true from xgi (show 0 ≤ (x7 + x4).toInt from by omega) (show (x7 + x4).toInt < 10206 from by omega)) ?_
    exact k (((1 : Int32) - (ps_a s 1174 (Int32.toNatClampNeg (x6 + x4)))) ||| (ps_a s 1174 (Int32.toNatClampNeg (x7 + x4)))) (fun h => absurd h (by omega))

theorem ms_296_28 {x : Nat → Nat → Nat} {t : Int32} {d : Nat} {s : ps_S} {σ : mSig} {c : Nat} {b : Bool} {ks : List Bool} {x1 : Int32} {x2 : Int32} {x3 : Int32} {x4 : Int32} {x5 : Int32} {Q : Option Value → ps_S → Prop} (k : ∀ (v : Int32), (20 ≤ c → 0 ≤ v.toInt ∧ v.toInt ≤ 2) → Q (some (.int v)) s) (x6 : Int32) (x7 : Int32) (J : mJ x t s) (hS : Sg (ps_a s 1135) (ps_a s 1136) (ps_a s 1138) (ps_a s 1139) (ps_i s 1131 21).toInt σ) (hDg : ∀ j : Nat, j < 96 → 0 ≤ (ps_a s 1169 j).toInt ∧ (ps_a s 1169 j).toInt ≤ 2) (hFt : ∀ j : Nat, j < 12 → 0 ≤ (ps_a s 1175 j).toInt ∧ (ps_a s 1175 j).toInt ≤ 2) (hFa : ∀ f : Nat, (f : Int) < (σ.1.2 : Int) → (ps_a s 1172 f).toInt ≤ 87) (i4 : kS σ b c = some ks) (i5 : x1.toInt = (c : Int)) (i6 : x2.toInt = (ks.length : Int)) (i7 : 0 ≤ x6.toInt) (i8 : x6.toInt ≤ 9720) (i9 : 0 ≤ x7.toInt) (i10 : x7.toInt ≤ 9963) (i11 : 0 ≤ x4.toInt) (i12 : x4.toInt ≤ 242) (i13 : 1 ≤ x5.toInt) (i14 : x5.toInt ≤ 3) (i15 : c = 4 ∨ c = 5 → x4.toInt * x5.toInt + x5.toInt ≤ 243) (i16 : 10 ≤ c → ks.length ≠ 0 → 0 ≤ (ps_a s 1174 (x6.toInt + x4.toInt).toNat).toInt ∧ (ps_a s 1174 (x6.toInt + x4.toInt).toNat).toInt ≤ 2) (i17 : 10 ≤ c → ks.length = 2 → 0 ≤ (ps_a s 1174 (x7.toInt + x4.toInt).toNat).toInt ∧ (ps_a s 1174 (x7.toInt + x4.toInt).toNat).toInt ≤ 2) : ps_At (d + 1) 296 28 [(0, .ref 1131), (1, .int x1), (2, .int x2), (4, .int x4), (5, .int x5), (6, .int x6), (7, .int x7)] [] s Q := by
  refine pg_296_28 (d := d) ?_
  have h72 := kS_72 (Sg_σ hS) i4
  have hks2 := kS_le hS i4
  have q5 : x1.toInt = (c : Int) := i5
  have q6 : x2.toInt = (ks.length : Int) := i6
  have hkn := kS_num i4
  obtain ⟨hb0, hb1, h5, hR6, h6, hF, h8, h9⟩ := id hS
  refine And.intro (fun h1 => ?_) (fun h1 => ?_)
  · have f2 : x1.toInt ≠ (0 : Int) := xne h1
    refine And.intro (fun h3 => ?_) (fun h3 => ?_)
    · have f4 : x1.toInt ≠ (1 : Int) := xne h3
      refine And.intro (fun h5 => ?_) (fun h5 => ?_)
      · have f6 : x1.toInt ≠ (2 : Int) := xne h5
        exact ms_296_88 (x1 := x1) (x2 := x2) (x3 := x3) (x4 := x4) (x5 := x5) (σ := σ) (c := c) (b := b) (ks := ks) k  x6 x7 J hS hDg hFt hFa (by assumption) (by assumption) (by assumption) (show 0 ≤ x6.toInt from by omega) (show x6.toInt ≤ 9720 from by omega) (show 0 ≤ x7.toInt from by omega) (show x7.toInt ≤ 9963 from by omega) (show 0 ≤ x4.toInt from by omega) (show x4.toInt ≤ 242 from by omega) (show 1 ≤ x5.toInt from by omega) (show x5.toInt ≤ 3 from by omega) (by assumption) (by assumption) (by assumption) (show x1.toInt ≠ 0 from by omega) (show x1.toInt ≠ 1 from by omega) (show x1.toInt ≠ 2 from by omega)
      · have f7 : x1.toInt = (2 : Int) := xeq h5
        have a8 : (x6 + x4).toInt = x6.toInt + x4.toInt := xIa (show -2147483648 ≤ x6.toInt + x4.toInt from by omega) (show x6.toInt + x4.toInt < 2147483648 from by omega)
        refine ps_nd_i (show pm_in (x6 + x4) 10206 = true from xgi (show 0 ≤ (x6 + x4).toInt from by omega) (show (x6 + x4).toInt < 10206 from by omega)) ?_
        have a9 : (x7 + x4).toInt = x7.toInt + x4.toInt := xIa (show -2147483648 ≤ x7.toInt + x4.toInt from by omega) (show x7.toInt + x4.toInt < 2147483648 from by omega)
        refine ps_nd_i (show pm_in (x7 + x4) 10206 = true from xgi (show 0 ≤ (x7 + x4).toInt from by omega) (show (x7 + x4).toInt < 10206 from by omega)) ?_
        exact k ((ps_a s 1174 (Int32.toNatClampNeg (x6 + x4))) ||| (ps_a s 1174 (Int32.toNatClampNeg (x7 + x4)))) (fun h => absurd h (by omega))
    · have f10 : x1.toInt = (1 : Int) := xeq h3
      have a11 : (x6 + x4).toInt = x6.toInt + x4.toInt := xIa (show -2147483648 ≤ x6.toInt + x4.toInt from by omega) (show x6.toInt + x4.toInt < 2147483648 from by omega)
      refine ps_nd_i (show pm_in (x6 + x4) 10206 = true from xgi (show 0 ≤ (x6 + x4).toInt from by omega) (show (x6 + x4).toInt < 10206 from by omega)) ?_
      have a12 : (x7 + x4).toInt = x7.toInt + x4.toInt := xIa (show -2147483648 ≤ x7.toInt + x4.toInt from by omega) (show x7.toInt + x4.toInt < 2147483648 from by omega)
      refine ps_nd_i (show pm_in (x7 + x4) 10206 = true from xgi (show 0 ≤ (x7 + x4).toInt from by omega) (show (x7 + x4).toInt < 10206 from by omega)) ?_
      exact k ((ps_a s 1174 (Int32.toNatClampNeg (x6 + x4))) &&& (ps_a s 1174 (Int32.toNatClampNeg (x7 + x4)))) (fun h => absurd h (by omega))
  · have f13 : x1.toInt = (0 : Int) := xeq h1
    exact k (0 : Int32) (fun h => absurd h (by omega))

theorem ms_296 {x : Nat → Nat → Nat} {t : Int32} {s : ps_S} {d : Nat} {x1 : Int32} {x2 : Int32} {x3 : Int32} {x4 : Int32} {x5 : Int32} {f : Int32 → ps_S → Prop} (J : mJ x t s) {σ : mSig} {c : Nat} {b : Bool} {ks : List Bool} (hS : Sg (ps_a s 1135) (ps_a s 1136) (ps_a s 1138) (ps_a s 1139) (ps_i s 1131 21).toInt σ) (hDg : ∀ j : Nat, j < 96 → 0 ≤ (ps_a s 1169 j).toInt ∧ (ps_a s 1169 j).toInt ≤ 2) (hFt : ∀ j : Nat, j < 12 → 0 ≤ (ps_a s 1175 j).toInt ∧ (ps_a s 1175 j).toInt ≤ 2) (hFa : ∀ f : Nat, (f : Int) < (σ.1.2 : Int) → (ps_a s 1172 f).toInt ≤ 87) (q4 : kS σ b c = some ks) (q5 : x1.toInt = (c : Int)) (q6 : x2.toInt = (ks.length : Int)) (q7 : 1 ≤ x3.toInt) (q8 : x3.toInt + x2.toInt ≤ 42) (q9 : 0 ≤ x4.toInt) (q10 : x4.toInt ≤ 242) (q11 : 1 ≤ x5.toInt) (q12 : x5.toInt ≤ 3) (q13 : c = 4 ∨ c = 5 → x4.toInt * x5.toInt + x5.toInt ≤ 243) (q14 : 10 ≤ c → ks.length ≠ 0 → 0 ≤ (ps_a s 1174 (243 * (x3.toInt + x2.toInt - 2) + x4.toInt).toNat).toInt ∧ (ps_a s 1174 (243 * (x3.toInt + x2.toInt - 2) + x4.toInt).toNat).toInt ≤ 2) (q15 : 10 ≤ c → ks.length = 2 → 0 ≤ (ps_a s 1174 (243 * (x3.toInt - 1) + x4.toInt).toNat).toInt ∧ (ps_a s 1174 (243 * (x3.toInt - 1) + x4.toInt).toNat).toInt ≤ 2) (k : ∀ (v : Int32), (20 ≤ c → 0 ≤ v.toInt ∧ v.toInt ≤ 2) → f v s) : ps_Cl (d + 1) 296 [.ref 1131, .int x1, .int x2, .int x3, .int x4, .int x5] s (ps_rI f) := by
  refine pg_296_0 (d := d) ?_
  have h72 := kS_72 (Sg_σ hS) q4
  have hks2 := kS_le hS q4
  have q5 : x1.toInt = (c : Int) := q5
  have q6 : x2.toInt = (ks.length : Int) := q6
  have hkn := kS_num q4
  obtain ⟨hb0, hb1, h5, hR6, h6, hF, h8, h9⟩ := id hS
  refine And.intro (fun h1 => ?_) (fun h1 => ?_)
  · have f2 : x2.toInt ≠ (0 : Int) := xne h1
    have a3 : (x3 + x2).toInt = x3.toInt + x2.toInt := xIa (show -2147483648 ≤ x3.toInt + x2.toInt from by omega) (show x3.toInt + x2.toInt < 2147483648 from by omega)
    have a4 : ((x3 + x2) - 2).toInt = (x3 + x2).toInt - (2 : Int) := xIs (show -2147483648 ≤ (x3 + x2).toInt - (2 : Int) from by omega) (show (x3 + x2).toInt - (2 : Int) < 2147483648 from by omega)
    have a5 : ((243 : Int32) * ((x3 + x2) - 2)).toInt = (243 : Int) * ((x3 + x2) - 2).toInt := xIm (show -2147483648 ≤ (243 : Int) * ((x3 + x2) - 2).toInt from by omega) (show (243 : Int) * ((x3 + x2) - 2).toInt < 2147483648 from by omega)
    have a6 : (x3 - 1).toInt = x3.toInt - (1 : Int) := xIs (show -2147483648 ≤ x3.toInt - (1 : Int) from by omega) (show x3.toInt - (1 : Int) < 2147483648 from by omega)
    have a7 : ((243 : Int32) * (x3 - 1)).toInt = (243 : Int) * (x3 - 1).toInt := xIm (show -2147483648 ≤ (243 : Int) * (x3 - 1).toInt from by omega) (show (243 : Int) * (x3 - 1).toInt < 2147483648 from by omega)
    exact ms_296_28 (x1 := x1) (x2 := x2) (x3 := x3) (x4 := x4) (x5 := x5) (σ := σ) (c := c) (b := b) (ks := ks) k  ((243 : Int32) * ((x3 + x2) - 2)) ((243 : Int32) * (x3 - 1)) J hS hDg hFt hFa (by assumption) (by assumption) (by assumption) (show 0 ≤ ((243 : Int32) * ((x3 + x2) - 2)).toInt from by omega) (show ((243 : Int32) * ((x3 + x2) - 2)).toInt ≤ 9720 from by omega) (show 0 ≤ ((243 : Int32) * (x3 - 1)).toInt from by omega) (show ((243 : Int32) * (x3 - 1)).toInt ≤ 9963 from by omega) (show 0 ≤ x4.toInt from by omega) (show x4.toInt ≤ 242 from by omega) (show 1 ≤ x5.toInt from by omega) (show x5.toInt ≤ 3 from by omega) (q13) ((by first | (intro h1 h2; exfalso; omega) | (intro h1 h2; rw [show ((((243 : Int32) * ((x3 + x2) - 2))).toInt + (x4).toInt).toNat = (243 * (x3.toInt + x2.toInt - 2) + x4.toInt).toNat from by omega]; exact q14 h1 h2))) ((fun h1 h2 => by rw [show ((((243 : Int32) * (x3 - 1))).toInt + (x4).toInt).toNat = (243 * (x3.toInt - 1) + x4.toInt).toNat from by omega]; exact q15 h1 h2))
  · have f8 : x2.toInt = (0 : Int) := xeq h1
    have a9 : (x3 - 1).toInt = x3.toInt - (1 : Int) := xIs (show -2147483648 ≤ x3.toInt - (1 : Int) from by omega) (show x3.toInt - (1 : Int) < 2147483648 from by omega)
    have a10 : ((243 : Int32) * (x3 - 1)).toInt = (243 : Int) * (x3 - 1).toInt := xIm (show -2147483648 ≤ (243 : Int) * (x3 - 1).toInt from by omega) (show (243 : Int) * (x3 - 1).toInt < 2147483648 from by omega)
    exact ms_296_28 (x1 := x1) (x2 := x2) (x3 := x3) (x4 := x4) (x5 := x5) (σ := σ) (c := c) (b := b) (ks := ks) k  (0) ((243 : Int32) * (x3 - 1)) J hS hDg hFt hFa (by assumption) (by assumption) (by assumption) (show 0 ≤ (0 : Int) from by omega) (show (0 : Int) ≤ 9720 from by omega) (show 0 ≤ ((243 : Int32) * (x3 - 1)).toInt from by omega) (show ((243 : Int32) * (x3 - 1)).toInt ≤ 9963 from by omega) (show 0 ≤ x4.toInt from by omega) (show x4.toInt ≤ 242 from by omega) (show 1 ≤ x5.toInt from by omega) (show x5.toInt ≤ 3 from by omega) (q13) ((by first | (intro h1 h2; exfalso; omega) | (intro h1 h2; rw [show (((0 : Int32)).toInt + (x4).toInt).toNat = (243 * (x3.toInt + x2.toInt - 2) + x4.toInt).toNat from by omega]; exact q14 h1 h2))) ((fun h1 h2 => by rw [show ((((243 : Int32) * (x3 - 1))).toInt + (x4).toInt).toNat = (243 * (x3.toInt - 1) + x4.toInt).toNat from by omega]; exact q15 h1 h2))
end
section
set_option maxRecDepth 100000
-- ProofBenchModel.isSo(II)Z
theorem pg_295_0 {d : Nat} {x1 : Int32} {x2 : Int32} {s : ps_S} {Q : Option Value → ps_S → Prop} (h :
  ps_Cl d 294 [.ref 1131, .int x1] s (ps_rV (fun s1 =>
    ps_Cl d 219 [.ref 1131, .int x1] s1 (ps_rI (fun v2 s2 =>
      ps_At (d + 1) 295 16 [(0, .ref 1131), (1, .int x1), (2, .int x2), (3, .int 0), (4, .int (v2 - 1))] [] s2 Q))))) : ps_At (d + 1) 295 0 [(0, .ref 1131), (1, .int x1), (2, .int x2)] [] s Q :=
  ps_wp_at (stops := [(16, [0, 1, 2, 3, 4]), (70, [0, 1, 2, 3, 4, 5, 6, 7, 8, 9])]) (n := 13) h rfl

theorem pg_295_16 {d : Nat} {x1 : Int32} {x2 : Int32} {x3 : Int32} {x4 : Int32} {s : ps_S} {Q : Option Value → ps_S → Prop} (h :
  (x4 < 0 →
    ps_nd (pm_in 0 10206) (((ps_a s 1174 (Int32.toNatClampNeg (0 : Int32))) ≠ 1 →
      Q (some (.int 0)) s) ∧
    ((ps_a s 1174 (Int32.toNatClampNeg (0 : Int32))) = 1 →
      Q (some (.int 1)) s))) ∧
  (0 ≤ x4 →
    ps_Cl d 220 [.ref 1131, .int x1, .int x4] s (ps_rI (fun v1 s1 =>
      ps_Cl d 218 [.ref 1131, .int v1] s1 (ps_rI (fun v2 s2 =>
        ps_nd (pm_in x4 41) (ps_Cl d 290 [.int x2, .int (ps_a s2 1173 (Int32.toNatClampNeg x4))] s2 (ps_rI (fun v3 s3 =>
          ps_At (d + 1) 295 70 [(0, .ref 1131), (1, .int x1), (2, .int x2), (3, .int (x3 + ((1 : Int32) - v2))), (4, .int x4), (5, .int v1), (6, .int v2), (7, .int ((243 : Int32) * ((x3 + ((1 : Int32) - v2)) - 1))), (8, .int v3), (9, .int 0)] [] s3 Q))))))))) : ps_At (d + 1) 295 16 [(0, .ref 1131), (1, .int x1), (2, .int x2), (3, .int x3), (4, .int x4)] [] s Q :=
  ps_wp_at (stops := [(16, [0, 1, 2, 3, 4]), (70, [0, 1, 2, 3, 4, 5, 6, 7, 8, 9])]) (n := 45) h rfl

theorem pg_295_70 {d : Nat} {x1 : Int32} {x2 : Int32} {x3 : Int32} {x4 : Int32} {x5 : Int32} {x6 : Int32} {x7 : Int32} {x8 : Int32} {x9 : Int32} {s : ps_S} {Q : Option Value → ps_S → Prop} (h :
  (x8 ≤ x9 →
    ps_At (d + 1) 295 16 [(0, .ref 1131), (1, .int x1), (2, .int x2), (3, .int x3), (4, .int (x4 + (Int32.ofInt (-1))))] [] s Q) ∧
  (x9 < x8 →
    ps_Cl d 296 [.ref 1131, .int x5, .int x6, .int x3, .int x9, .int x2] s (ps_rI (fun v1 s1 =>
      ps_nd (pm_in (x7 + x9) 10206) (ps_At (d + 1) 295 70 [(0, .ref 1131), (1, .int x1), (2, .int x2), (3, .int x3), (4, .int x4), (5, .int x5), (6, .int x6), (7, .int x7), (8, .int x8), (9, .int (x9 + 1))] [] (ps_ua s1 1174 (Int32.toNatClampNeg (x7 + x9)) v1) Q))))) : ps_At (d + 1) 295 70 [(0, .ref 1131), (1, .int x1), (2, .int x2), (3, .int x3), (4, .int x4), (5, .int x5), (6, .int x6), (7, .int x7), (8, .int x8), (9, .int x9)] [] s Q :=
  ps_wp_at (stops := [(16, [0, 1, 2, 3, 4]), (70, [0, 1, 2, 3, 4, 5, 6, 7, 8, 9])]) (n := 22) h rfl

theorem ms_295_70 {x : Nat → Nat → Nat} {t : Int32} {d : Nat} {s0 : ps_S} {σ : mSig} {l : List Nat} {x1 : Int32} {x2 : Int32} {Q : Option Value → ps_S → Prop} (k : ∀ (v : Int32) (s' : ps_S), mJ x t s' → kp [1150, 1173, 1174] [] s0 s' → v &&& 1 = v → Q (some (.int v)) s') (n16 : Nat) (KH16 : ∀ (x3 : Int32) (x4 : Int32) (l1 : List Nat) (m2 : List Nat) (W : List (Bool × Nat)) (s : ps_S), (mJ x t s) → (kp [1150, 1173, 1174] [] s0 s) → (Sg (ps_a s 1135) (ps_a s 1136) (ps_a s 1138) (ps_a s 1139) (ps_i s 1131 21).toInt σ) → (Rw (ps_a s 1134) x1.toInt l) → (DLn σ (ps_a s 1173) l (l.length : Int)) → (∀ j : Nat, j < 96 → 0 ≤ (ps_a s 1169 j).toInt ∧ (ps_a s 1169 j).toInt ≤ 2) → (∀ j : Nat, j < 12 → 0 ≤ (ps_a s 1175 j).toInt ∧ (ps_a s 1175 j).toInt ≤ 2) → (∀ f : Nat, (f : Int) < (σ.1.2 : Int) → (ps_a s 1172 f).toInt ≤ 87) → (l = l1 ++ m2) → (wf σ 5 l [(true, 0)]) → (x4.toInt + 1 = (l1.length : Int)) → (wr σ l1 [(true, 0)] W) → (x3.toInt = (W.length : Int)) → (W.length ≤ 40) → (VS (ps_a s 1174) x2.toInt W) → (1 ≤ x2.toInt) → (x2.toInt ≤ 3) → (-1 ≤ x4.toInt) → (x4.toInt + 1 ≤ (n16 : Int) - 1) → ps_At (d + 3) 295 16 [(0, .ref 1131), (1, .int x1), (2, .int x2), (3, .int x3), (4, .int x4)] [] s Q) : ∀ (n : Nat) (x3 : Int32) (x4 : Int32) (x5 : Int32) (x6 : Int32) (x7 : Int32) (x8 : Int32) (x9 : Int32) (a : List Nat) (c : Nat) (m2 : List Nat) (b : Bool) (kk : Nat) (U : List (Bool × Nat)) (ks : List Bool) (s : ps_S), (mJ x t s) → (kp [1150, 1173, 1174] [] s0 s) → (Sg (ps_a s 1135) (ps_a s 1136) (ps_a s 1138) (ps_a s 1139) (ps_i s 1131 21).toInt σ) → (Rw (ps_a s 1134) x1.toInt l) → (DLn σ (ps_a s 1173) l (l.length : Int)) → (∀ j : Nat, j < 96 → 0 ≤ (ps_a s 1169 j).toInt ∧ (ps_a s 1169 j).toInt ≤ 2) → (∀ j : Nat, j < 12 → 0 ≤ (ps_a s 1175 j).toInt ∧ (ps_a s 1175 j).toInt ≤ 2) → (∀ f : Nat, (f : Int) < (σ.1.2 : Int) → (ps_a s 1172 f).toInt ≤ 87) → (l = a ++ c :: m2) → (wf σ 5 l [(true, 0)]) → (x4.toInt = (a.length : Int)) → (wr σ a [(true, 0)] ((b, kk) :: U)) → (kS σ b c = some ks) → (x3.toInt = (U.length : Int) + 1) → (U.length + ks.length ≤ 40) → (1 ≤ x2.toInt) → (x2.toInt ≤ 3) → (x5.toInt = (c : Int)) → (x6.toInt = (ks.length : Int)) → (x7.toInt = 243 * (U.length : Int)) → (x8.toInt = x2.toInt ^ kk) → (kk ≤ 5) → (0 ≤ x9.toInt) → (VS (ps_a s 1174) x2.toInt U) → (b = false → ∀ e : Nat, (e : Int) < x9.toInt → 0 ≤ (ps_a s 1174 (243 * U.length + e)).toInt ∧ (ps_a s 1174 (243 * U.length + e)).toInt ≤ 2) → (10 ≤ c → ks.length ≠ 0 → ∀ e : Nat, x9.toInt ≤ (e : Int) → (e : Int) < x2.toInt ^ kk → 0 ≤ (ps_a s 1174 (243 * (U.length + ks.length - 1) + e)).toInt ∧ (ps_a s 1174 (243 * (U.length + ks.length - 1) + e)).toInt ≤ 2) → (10 ≤ c → ks.length = 2 → ∀ e : Nat, x9.toInt ≤ (e : Int) → (e : Int) < x2.toInt ^ kk → 0 ≤ (ps_a s 1174 (243 * U.length + e)).toInt ∧ (ps_a s 1174 (243 * U.length + e)).toInt ≤ 2) → (U.length ≤ 39) → (x4.toInt + 1 ≤ (n16 : Int)) → x8.toInt - x9.toInt ≤ (n : Int) → ps_At (d + 3) 295 70 [(0, .ref 1131), (1, .int x1), (2, .int x2), (3, .int x3), (4, .int x4), (5, .int x5), (6, .int x6), (7, .int x7), (8, .int x8), (9, .int x9)] [] s Q := by
  refine xstr (fun n ih => ?_)
  intro x3 x4 x5 x6 x7 x8 x9 a c m2 b kk U ks s J K hS hR hDL hDg hFt hFa i6 i7 i8 i9 i10 i11 i12 i13 i14 i15 i16 i17 i18 i19 i20 i21 i22 i23 i24 i25 hm16 hm
  refine pg_295_70 (d := d + 2) ?_
  obtain ⟨hr1, hr2, hr3, hr4, hr5, hr6⟩ := id hR
  have hr1 : x1.toInt % 41 = 0 := hr1
  have hr2 : 0 ≤ x1.toInt := hr2
  have hr3 : x1.toInt < 27306 := hr3
  have hr4 : l.length ≤ 40 := hr4
  have hn : (ps_a s 1134 (Int32.toNatClampNeg x1)).toInt = (l.length : Int) := Rw_n hR
  have i8 : x4.toInt = (a.length : Int) := i8
  have i11 : x3.toInt = (U.length : Int) + 1 := i11
  have i15 : x5.toInt = (c : Int) := i15
  have i16 : x6.toInt = (ks.length : Int) := i16
  have i17 : x7.toInt = 243 * (U.length : Int) := i17
  have i18 : x8.toInt = x2.toInt ^ kk := i18
  have h243 := pw243 (n := x2.toInt) (k := kk) (by omega) (by omega) i19
  have hwf : wf σ 5 (c :: m2) ((b, kk) :: U) := wr_wf (by rw [← i6]; exact i7) i9
  have hks2 := kS_le hS i10
  refine And.intro (fun h1 => ?_) (fun h1 => ?_)
  · have f2 : x8.toInt ≤ x9.toInt := xle h1
    generalize hx4 : (x4 + (Int32.ofInt (-1))) = xd3
    have a5 : xd3.toInt = x4.toInt + (-1) := by rw [← hx4]; exact xdec (show -2147483648 < x4.toInt from by omega)
    clear hx4
    exact KH16 x3 xd3 a (c :: m2) ((b, kk) :: U) _ J K hS hR hDL hDg hFt hFa (i6) (i7) ((show (xd3).toInt + 1 = (a.length : Int) from by omega)) (i9) ((show (x3).toInt = (((b, kk) :: U).length : Int) from by rw [llenc]; omega)) ((by rw [List.length_cons]; omega)) ((show VS (ps_a s 1174) x2.toInt ((b, kk) :: U) from ⟨fun hb e he => i22 hb e (show (e : Int) < x9.toInt from by have he : (e : Int) < x2.toInt ^ kk := he; omega), i21⟩)) (show 1 ≤ x2.toInt from by omega) (show x2.toInt ≤ 3 from by omega) (show -1 ≤ xd3.toInt from by omega) (show xd3.toInt + 1 ≤ (n16 : Int) - 1 from by omega)
  · have f6 : x9.toInt < x8.toInt := xlt h1
    have he9 : ((x9.toInt.toNat : Nat) : Int) = x9.toInt := by omega
    have a7 : (x7 + x9).toInt = x7.toInt + x9.toInt := xIa (show -2147483648 ≤ x7.toInt + x9.toInt from by omega) (show x7.toInt + x9.toInt < 2147483648 from by omega)
    refine ms_296 J hS hDg hFt hFa (i10) (i15) (i16) (show 1 ≤ x3.toInt from by omega) (show x3.toInt + x6.toInt ≤ 42 from by omega) (show 0 ≤ x9.toInt from by omega) (show x9.toInt ≤ 242 from by omega) (show 1 ≤ x2.toInt from by omega) (show x2.toInt ≤ 3 from by omega) ((fun hc => q243 (by omega) (by omega) (wf_qk hwf hc) (by omega))) ((fun h10 hz => (by rw [show (243 * ((x3).toInt + (x6).toInt - 2) + (x9).toInt).toNat = 243 * (U.length + ks.length - 1) + ((x9).toInt).toNat from by omega]; exact i23 h10 hz _ (by omega) (by omega)))) ((fun h10 hz => (by rw [show (243 * ((x3).toInt - 1) + (x9).toInt).toNat = 243 * U.length + ((x9).toInt).toNat from by omega]; exact i24 h10 hz _ (by omega) (by omega)))) (fun v8 p8_0 => ?_)
    have hv : _ := p8_0
    have hvf : b = false → 0 ≤ (v8).toInt ∧ (v8).toInt ≤ 2 := fun z => hv (kS_f20 i10 z)
    refine ps_nd_i (show pm_in (x7 + x9) 10206 = true from xgi (show 0 ≤ (x7 + x9).toInt from by omega) (show (x7 + x9).toInt < 10206 from by omega)) ?_
    have J9 := mwa_n 1174 (i := (Int32.toNatClampNeg (x7 + x9))) (v := v8) J rfl (by decide)
    have K10 := kpa' K (r := 1174) (i := (Int32.toNatClampNeg (x7 + x9))) (v := v8) rfl
    have e7 : Int32.toNatClampNeg (x7 + x9) = 243 * U.length + x9.toInt.toNat := by rw [nx (n := 243 * (U.length : Int) + x9.toInt) (by omega)]; omega
    have a11 : (x9 + 1).toInt = x9.toInt + (1 : Int) := xIa (show -2147483648 ≤ x9.toInt + (1 : Int) from by omega) (show x9.toInt + (1 : Int) < 2147483648 from by omega)
    exact ih (n - 1) (show n - 1 < n from by omega) x3 x4 x5 x6 x7 x8 (x9 + 1) a c m2 b kk U ks _ J9 K10 hS hR hDL hDg hFt hFa (by assumption) (by assumption) (by assumption) (by assumption) (by assumption) (by assumption) (by assumption) (show 1 ≤ x2.toInt from by omega) (show x2.toInt ≤ 3 from by omega) (by assumption) (by assumption) (by assumption) (by assumption) (by assumption) (show 0 ≤ (x9 + 1).toInt from by omega) (VS_ext (fun j hj => ua_ne (by omega)) (fun w hw => (pw243 (by omega) (by omega) (wf_lev hwf w (List.mem_cons_of_mem _ hw))).2) i21) ((fun hb => EL_put (i := Int32.toNatClampNeg (x7 + x9)) (i22 hb) e7 (show ((x9 + 1)).toInt = x9.toInt + 1 from by omega) (by omega) (by rw [ua_eq]; exact hvf hb) (fun j hj => ua_ne hj))) ((fun h10 hz => EL_keep (i := Int32.toNatClampNeg (x7 + x9)) (i23 h10 hz) (show x9.toInt ≤ ((x9 + 1)).toInt from by omega) (fun j hj => ua_ne hj) (fun e h1 h2 => by rw [e7]; omega))) ((fun h10 hz => EL_keep (i := Int32.toNatClampNeg (x7 + x9)) (i24 h10 hz) (show x9.toInt ≤ ((x9 + 1)).toInt from by omega) (fun j hj => ua_ne hj) (fun e h1 h2 => by rw [e7]; omega))) (by assumption) (show x4.toInt + 1 ≤ (n16 : Int) from by omega) (show x8.toInt - (x9 + 1).toInt ≤ ((n - 1 : Nat) : Int) from by omega)

theorem ms_295_16 {x : Nat → Nat → Nat} {t : Int32} {d : Nat} {s0 : ps_S} {σ : mSig} {l : List Nat} {x1 : Int32} {x2 : Int32} {Q : Option Value → ps_S → Prop} (k : ∀ (v : Int32) (s' : ps_S), mJ x t s' → kp [1150, 1173, 1174] [] s0 s' → v &&& 1 = v → Q (some (.int v)) s') : ∀ (n : Nat) (x3 : Int32) (x4 : Int32) (l1 : List Nat) (m2 : List Nat) (W : List (Bool × Nat)) (s : ps_S), (mJ x t s) → (kp [1150, 1173, 1174] [] s0 s) → (Sg (ps_a s 1135) (ps_a s 1136) (ps_a s 1138) (ps_a s 1139) (ps_i s 1131 21).toInt σ) → (Rw (ps_a s 1134) x1.toInt l) → (DLn σ (ps_a s 1173) l (l.length : Int)) → (∀ j : Nat, j < 96 → 0 ≤ (ps_a s 1169 j).toInt ∧ (ps_a s 1169 j).toInt ≤ 2) → (∀ j : Nat, j < 12 → 0 ≤ (ps_a s 1175 j).toInt ∧ (ps_a s 1175 j).toInt ≤ 2) → (∀ f : Nat, (f : Int) < (σ.1.2 : Int) → (ps_a s 1172 f).toInt ≤ 87) → (l = l1 ++ m2) → (wf σ 5 l [(true, 0)]) → (x4.toInt + 1 = (l1.length : Int)) → (wr σ l1 [(true, 0)] W) → (x3.toInt = (W.length : Int)) → (W.length ≤ 40) → (VS (ps_a s 1174) x2.toInt W) → (1 ≤ x2.toInt) → (x2.toInt ≤ 3) → (-1 ≤ x4.toInt) → x4.toInt + 1 ≤ (n : Int) → ps_At (d + 3) 295 16 [(0, .ref 1131), (1, .int x1), (2, .int x2), (3, .int x3), (4, .int x4)] [] s Q := by
  refine xstr (fun n ih => ?_)
  intro x3 x4 l1 m2 W s J K hS hR hDL hDg hFt hFa i6 i7 i8 i9 i10 i11 i12 i13 i14 i15 hm
  refine pg_295_16 (d := d + 2) ?_
  obtain ⟨hr1, hr2, hr3, hr4, hr5, hr6⟩ := id hR
  have hr1 : x1.toInt % 41 = 0 := hr1
  have hr2 : 0 ≤ x1.toInt := hr2
  have hr3 : x1.toInt < 27306 := hr3
  have hr4 : l.length ≤ 40 := hr4
  have hn : (ps_a s 1134 (Int32.toNatClampNeg x1)).toInt = (l.length : Int) := Rw_n hR
  have i8 : x4.toInt + 1 = (l1.length : Int) := i8
  have i10 : x3.toInt = (W.length : Int) := i10
  have hl : (l.length : Int) = l1.length + m2.length := by rw [i6]; exact llen
  refine And.intro (fun h1 => ?_) (fun h1 => ?_)
  · have f2 : x4.toInt < (0 : Int) := xlt h1
    refine ps_nd_i (show pm_in (0 : Int32) 10206 = true from xgi (show 0 ≤ (0 : Int) from by omega) (show (0 : Int) < 10206 from by omega)) ?_
    refine And.intro (fun h3 => ?_) (fun h3 => ?_)
    · have f4 : (ps_a s 1174 (Int32.toNatClampNeg (0 : Int32))).toInt ≠ (1 : Int) := xne h3
      exact k (0 : Int32) _ J K (by decide)
    · have f5 : (ps_a s 1174 (Int32.toNatClampNeg (0 : Int32))).toInt = (1 : Int) := xeq h3
      exact k (1 : Int32) _ J K (by decide)
  · have f6 : (0 : Int) ≤ x4.toInt := xle h1
    obtain ⟨a, c, rfl⟩ := lsnoc (l := l1) (by omega)
    rw [l1c] at i8 hl
    have hl6 : l = a ++ c :: m2 := i6.trans (by rw [List.append_assoc]; rfl)
    obtain ⟨b, kk, U, ks, hr, hk, hW⟩ := wr_last i9
    subst hW
    have hwf : wf σ 5 (c :: m2) ((b, kk) :: U) := wr_wf (by rw [← hl6]; exact i7) hr
    have hk5 : kk ≤ 5 := wf_lev hwf (b, kk) List.mem_cons_self
    have hwl := wf_le hwf
    rw [List.length_cons, List.length_cons] at hwl
    have hks2 := kS_le hS hk
    rw [List.length_append, kL_len] at i10 i11
    have h243 := pw243 (n := x2.toInt) (k := kk) (by omega) (by omega) hk5
    refine pg_220_0 ?_
    have a7 : (x1 + 1).toInt = x1.toInt + (1 : Int) := xIa (show -2147483648 ≤ x1.toInt + (1 : Int) from by omega) (show x1.toInt + (1 : Int) < 2147483648 from by omega)
    have a8 : ((x1 + 1) + x4).toInt = (x1 + 1).toInt + x4.toInt := xIa (show -2147483648 ≤ (x1 + 1).toInt + x4.toInt from by omega) (show (x1 + 1).toInt + x4.toInt < 2147483648 from by omega)
    refine ps_nd_i (show pm_in ((x1 + 1) + x4) 27400 = true from xgi (show 0 ≤ ((x1 + 1) + x4).toInt from by omega) (show ((x1 + 1) + x4).toInt < 27400 from by omega)) ?_
    have r9 : ((x1 + 1) + x4).toInt % 41 = 0 → ((x1 + 1) + x4).toInt < 27306 → 0 ≤ (ps_a s 1134 (Int32.toNatClampNeg ((x1 + 1) + x4))).toInt ∧ (ps_a s 1134 (Int32.toNatClampNeg ((x1 + 1) + x4))).toInt ≤ 40 := fun z1 z2 => mp_row (i := ((x1 + 1) + x4)) J z1 (show 0 ≤ ((x1 + 1) + x4).toInt from by omega) z2
    have hp : ((ps_a s 1134 (Int32.toNatClampNeg ((x1 + 1) + x4)))).toInt = (c : Int) := Rw_p hR hl6 (show (x4).toInt = (a.length : Int) from by omega)
    refine ms_218 J hS (hk) (hp) (fun v10 p10_0 => ?_)
    have hv : _ := p10_0
    have hv2 : (v10).toInt = (ks.length : Int) := hv
    have a11 : ((1 : Int32) - v10).toInt = (1 : Int) - v10.toInt := xIs (show -2147483648 ≤ (1 : Int) - v10.toInt from by omega) (show (1 : Int) - v10.toInt < 2147483648 from by omega)
    have a12 : (x3 + ((1 : Int32) - v10)).toInt = x3.toInt + ((1 : Int32) - v10).toInt := xIa (show -2147483648 ≤ x3.toInt + ((1 : Int32) - v10).toInt from by omega) (show x3.toInt + ((1 : Int32) - v10).toInt < 2147483648 from by omega)
    have a13 : ((x3 + ((1 : Int32) - v10)) - 1).toInt = (x3 + ((1 : Int32) - v10)).toInt - (1 : Int) := xIs (show -2147483648 ≤ (x3 + ((1 : Int32) - v10)).toInt - (1 : Int) from by omega) (show (x3 + ((1 : Int32) - v10)).toInt - (1 : Int) < 2147483648 from by omega)
    have a14 : ((243 : Int32) * ((x3 + ((1 : Int32) - v10)) - 1)).toInt = (243 : Int) * ((x3 + ((1 : Int32) - v10)) - 1).toInt := xIm (show -2147483648 ≤ (243 : Int) * ((x3 + ((1 : Int32) - v10)) - 1).toInt from by omega) (show (243 : Int) * ((x3 + ((1 : Int32) - v10)) - 1).toInt < 2147483648 from by omega)
    refine ps_nd_i (show pm_in x4 41 = true from xgi (show 0 ≤ x4.toInt from by omega) (show x4.toInt < 41 from by omega)) ?_
    have hkd : ((ps_a s 1173 (Int32.toNatClampNeg x4))).toInt = (kk : Int) := by rw [nx (n := (a.length : Int)) (show (x4).toInt = (a.length : Int) from by omega)]; exact hDL a c m2 b kk U hl6 (by omega) hr
    have hkt : ((ps_a s 1173 (Int32.toNatClampNeg x4))).toInt.toNat = kk := by omega
    refine ms_290 J (show 1 ≤ x2.toInt from by omega) (show x2.toInt ≤ 3 from by omega) (show 0 ≤ (ps_a s 1173 (Int32.toNatClampNeg x4)).toInt from by omega) (show (ps_a s 1173 (Int32.toNatClampNeg x4)).toInt ≤ 19 from by omega) (fun v15 p15_0 => ?_)
    have hpw : _ := p15_0
    have hpw2 : (v15).toInt = x2.toInt ^ kk := hpw.trans (by rw [hkt])
    exact ms_295_70 (x1 := x1) (x2 := x2) (σ := σ) (l := l) k n (fun x3z x4z l1z m2z Wz sz Jz Kz i0z i1z i2z i3z i4z i5z i6z i7z i8z i9z i10z i11z i12z i13z i14z i15z hm => ih (n - 1) (show n - 1 < n from by omega) x3z x4z l1z m2z Wz sz Jz Kz i0z i1z i2z i3z i4z i5z i6z i7z i8z i9z i10z i11z i12z i13z i14z i15z (show _ ≤ ((n - 1 : Nat) : Int) from by omega)) (v15.toInt - (0 : Int)).toNat (x3 + ((1 : Int32) - v10)) x4 (ps_a s 1134 (Int32.toNatClampNeg ((x1 + 1) + x4))) v10 ((243 : Int32) * ((x3 + ((1 : Int32) - v10)) - 1)) v15 (0) a c m2 b kk U ks _ J K hS hR hDL hDg hFt hFa (hl6) (i7) ((show (x4).toInt = (a.length : Int) from by omega)) (hr) (hk) ((show ((x3 + ((1 : Int32) - v10))).toInt = (U.length : Int) + 1 from by omega)) ((by omega)) (show 1 ≤ x2.toInt from by omega) (show x2.toInt ≤ 3 from by omega) (hp) (hv2) ((show (((243 : Int32) * ((x3 + ((1 : Int32) - v10)) - 1))).toInt = 243 * (U.length : Int) from by omega)) (hpw2) (hk5) (show 0 ≤ (0 : Int) from by omega) (VS_tail i12) ((fun _ e he => absurd he (by rw [Int32.toInt_zero]; omega))) ((fun h10 hz e _ he => (VS_12 i12 hk h10 hks2).1 hz e he)) ((fun h10 hz e _ he => (VS_12 i12 hk h10 hks2).2 hz e he)) ((by omega)) (show x4.toInt + 1 ≤ ((n : Nat) : Int) from by omega) (show v15.toInt - (0 : Int) ≤ (((v15.toInt - (0 : Int)).toNat : Nat) : Int) from by omega)

theorem ms_295 {x : Nat → Nat → Nat} {t : Int32} {s : ps_S} {d : Nat} {x1 : Int32} {x2 : Int32} {f : Int32 → ps_S → Prop} (J : mJ x t s) {σ : mSig} {l : List Nat} (hS : Sg (ps_a s 1135) (ps_a s 1136) (ps_a s 1138) (ps_a s 1139) (ps_i s 1131 21).toInt σ) (hR : Rw (ps_a s 1134) x1.toInt l) (q2 : wf σ 5 l [(true, 0)]) (q3 : 1 ≤ x2.toInt) (q4 : x2.toInt ≤ 3) (hDg : ∀ j : Nat, j < 96 → 0 ≤ (ps_a s 1169 j).toInt ∧ (ps_a s 1169 j).toInt ≤ 2) (hFt : ∀ j : Nat, j < 12 → 0 ≤ (ps_a s 1175 j).toInt ∧ (ps_a s 1175 j).toInt ≤ 2) (hFa : ∀ f : Nat, (f : Int) < (σ.1.2 : Int) → (ps_a s 1172 f).toInt ≤ 87) (k : ∀ (v : Int32) (s' : ps_S), mJ x t s' → kp [1150, 1173, 1174] [] s s' → v &&& 1 = v → f v s') : ps_Cl (d + 3) 295 [.ref 1131, .int x1, .int x2] s (ps_rI f) := by
  have K : kp [1150, 1173, 1174] [] s s := kp_refl
  refine pg_295_0 (d := d + 2) ?_
  obtain ⟨hr1, hr2, hr3, hr4, hr5, hr6⟩ := id hR
  have hr1 : x1.toInt % 41 = 0 := hr1
  have hr2 : 0 ≤ x1.toInt := hr2
  have hr3 : x1.toInt < 27306 := hr3
  have hr4 : l.length ≤ 40 := hr4
  have hn : (ps_a s 1134 (Int32.toNatClampNeg x1)).toInt = (l.length : Int) := Rw_n hR
  refine ms_294 J hS hR (q2) (fun s1 J1 K1 p1_0 => ?_)
  have K2 := kpt K K1 rfl rfl
  have hS : Sg (ps_a s1 1135) (ps_a s1 1136) (ps_a s1 1138) (ps_a s1 1139) (ps_i s1 1131 21).toInt σ := by rw [show ps_a s1 1135 = ps_a s 1135 from (K1.2 1135 rfl).1, show ps_a s1 1136 = ps_a s 1136 from (K1.2 1136 rfl).1, show ps_a s1 1138 = ps_a s 1138 from (K1.2 1138 rfl).1, show ps_a s1 1139 = ps_a s 1139 from (K1.2 1139 rfl).1, show ps_i s1 1131 21 = ps_i s 1131 21 from kp_i K1 21 rfl]; exact hS
  have hR : Rw (ps_a s1 1134) x1.toInt l := by rw [show ps_a s1 1134 = ps_a s 1134 from (K1.2 1134 rfl).1]; exact hR
  have hDg : ∀ j : Nat, j < 96 → 0 ≤ (ps_a s1 1169 j).toInt ∧ (ps_a s1 1169 j).toInt ≤ 2 := by rw [show ps_a s1 1169 = ps_a s 1169 from (K1.2 1169 rfl).1]; exact hDg
  have hFt : ∀ j : Nat, j < 12 → 0 ≤ (ps_a s1 1175 j).toInt ∧ (ps_a s1 1175 j).toInt ≤ 2 := by rw [show ps_a s1 1175 = ps_a s 1175 from (K1.2 1175 rfl).1]; exact hFt
  have hFa : ∀ f : Nat, (f : Int) < (σ.1.2 : Int) → (ps_a s1 1172 f).toInt ≤ 87 := by rw [show ps_a s1 1172 = ps_a s 1172 from (K1.2 1172 rfl).1]; exact hFa
  have hDL : DLn σ (ps_a s1 1173) l (l.length : Int) := p1_0
  refine pg_219_0 ?_
  refine ps_nd_i (show pm_in x1 27400 = true from xgi (show 0 ≤ x1.toInt from by omega) (show x1.toInt < 27400 from by omega)) ?_
  have r3 : x1.toInt % 41 = 0 → x1.toInt < 27306 → 0 ≤ (ps_a s1 1134 (Int32.toNatClampNeg x1)).toInt ∧ (ps_a s1 1134 (Int32.toNatClampNeg x1)).toInt ≤ 40 := fun z1 z2 => mp_row (i := x1) J1 z1 (show 0 ≤ x1.toInt from by omega) z2
  have u4 : (ps_a s1 1134 (Int32.toNatClampNeg x1)).toInt = (ps_a s 1134 (Int32.toNatClampNeg x1)).toInt := xeq (kp_a K1 1134 rfl _)
  have r5 : x1.toInt % 41 = 0 → x1.toInt < 27306 → 0 ≤ (ps_a s 1134 (Int32.toNatClampNeg x1)).toInt ∧ (ps_a s 1134 (Int32.toNatClampNeg x1)).toInt ≤ 40 := fun z1 z2 => mp_row (i := x1) J z1 (show 0 ≤ x1.toInt from by omega) z2
  have a6 : ((ps_a s1 1134 (Int32.toNatClampNeg x1)) - 1).toInt = (ps_a s1 1134 (Int32.toNatClampNeg x1)).toInt - (1 : Int) := xIs (show -2147483648 ≤ (ps_a s1 1134 (Int32.toNatClampNeg x1)).toInt - (1 : Int) from by omega) (show (ps_a s1 1134 (Int32.toNatClampNeg x1)).toInt - (1 : Int) < 2147483648 from by omega)
  exact ms_295_16 (x1 := x1) (x2 := x2) (σ := σ) (l := l) k  (((ps_a s1 1134 (Int32.toNatClampNeg x1)) - 1).toInt + 1).toNat (0) ((ps_a s1 1134 (Int32.toNatClampNeg x1)) - 1) l [] [] _ J1 K2 hS hR hDL hDg hFt hFa ((List.append_nil l).symm) (q2) ((show (((ps_a s1 1134 (Int32.toNatClampNeg x1)) - 1)).toInt + 1 = (l.length : Int) from by omega)) (wr_end q2) (rfl) ((by decide)) (trivial) (show 1 ≤ x2.toInt from by omega) (show x2.toInt ≤ 3 from by omega) (show -1 ≤ ((ps_a s1 1134 (Int32.toNatClampNeg x1)) - 1).toInt from by omega) (show ((ps_a s1 1134 (Int32.toNatClampNeg x1)) - 1).toInt + 1 ≤ (((((ps_a s1 1134 (Int32.toNatClampNeg x1)) - 1).toInt + 1).toNat : Nat) : Int) from by omega)
end
section
set_option maxRecDepth 100000
-- ProofBenchModel.doesHold(II)Z
theorem pg_299_0 {d : Nat} {x1 : Int32} {x2 : Int32} {s : ps_S} {Q : Option Value → ps_S → Prop} (h :
  ps_Cl d 298 [.ref 1131, .int x1] s (ps_rI (fun v1 s1 =>
    ps_Cl d 290 [.int x2, .int v1] s1 (ps_rI (fun v2 s2 =>
      ps_At (d + 1) 299 13 [(0, .ref 1131), (1, .int x1), (2, .int x2), (3, .int v2), (4, .int 0)] [] s2 Q))))) : ps_At (d + 1) 299 0 [(0, .ref 1131), (1, .int x1), (2, .int x2)] [] s Q :=
  ps_wp_at (stops := [(13, [0, 1, 2, 3, 4]), (26, [0, 1, 2, 3, 4, 5, 6])]) (n := 10) h rfl

theorem pg_299_13 {d : Nat} {x1 : Int32} {x2 : Int32} {x3 : Int32} {x4 : Int32} {s : ps_S} {Q : Option Value → ps_S → Prop} (h :
  (x3 ≤ x4 →
    Q (some (.int 1)) s) ∧
  (x4 < x3 →
    ps_At (d + 1) 299 26 [(0, .ref 1131), (1, .int x1), (2, .int x2), (3, .int x3), (4, .int x4), (5, .int x4), (6, .int 0)] [] s Q)) : ps_At (d + 1) 299 13 [(0, .ref 1131), (1, .int x1), (2, .int x2), (3, .int x3), (4, .int x4)] [] s Q :=
  ps_wp_at (stops := [(13, [0, 1, 2, 3, 4]), (26, [0, 1, 2, 3, 4, 5, 6])]) (n := 11) h rfl

theorem pg_299_26 {d : Nat} {x1 : Int32} {x2 : Int32} {x3 : Int32} {x4 : Int32} {x5 : Int32} {x6 : Int32} {s : ps_S} {Q : Option Value → ps_S → Prop} (h :
  (12 ≤ x6 →
    ps_Cl d 295 [.ref 1131, .int x1, .int x2] s (ps_rI (fun v1 s1 =>
      (v1 ≠ 0 →
        ps_At (d + 1) 299 13 [(0, .ref 1131), (1, .int x1), (2, .int x2), (3, .int x3), (4, .int (x4 + 1))] [] s1 Q) ∧
      (v1 = 0 →
        Q (some (.int 0)) s1)))) ∧
  (x6 < 12 →
    ps_Cl d 223 [.ref 1131, .int x1, .int x6] s (ps_rI (fun v2 s2 =>
      (v2 ≠ 0 →
        ps_nd (!decide (x2 = 0)) (ps_nd (pm_in x6 12) (ps_nd (!decide (x2 = 0)) (ps_At (d + 1) 299 26 [(0, .ref 1131), (1, .int x1), (2, .int x2), (3, .int x3), (4, .int x4), (5, .int (x5 / x2)), (6, .int (x6 + 1))] [] (ps_ua s2 1175 (Int32.toNatClampNeg x6) (x5 - (x5 / x2) * x2)) Q)))) ∧
      (v2 = 0 →
        ps_At (d + 1) 299 26 [(0, .ref 1131), (1, .int x1), (2, .int x2), (3, .int x3), (4, .int x4), (5, .int x5), (6, .int (x6 + 1))] [] s2 Q))))) : ps_At (d + 1) 299 26 [(0, .ref 1131), (1, .int x1), (2, .int x2), (3, .int x3), (4, .int x4), (5, .int x5), (6, .int x6)] [] s Q :=
  ps_wp_at (stops := [(13, [0, 1, 2, 3, 4]), (26, [0, 1, 2, 3, 4, 5, 6])]) (n := 35) h rfl

theorem ms_299_26 {x : Nat → Nat → Nat} {t : Int32} {d : Nat} {s0 : ps_S} {σ : mSig} {l : List Nat} {x1 : Int32} {x2 : Int32} {Q : Option Value → ps_S → Prop} (k : ∀ (v : Int32) (s' : ps_S), mJ x t s' → kp [1150, 1173, 1174, 1175] [] s0 s' → (∀ j : Nat, j < 12 → 0 ≤ (ps_a s' 1175 j).toInt ∧ (ps_a s' 1175 j).toInt ≤ 2) → v &&& 1 = v → Q (some (.int v)) s') (n13 : Nat) (KH13 : ∀ (x3 : Int32) (x4 : Int32) (s : ps_S), (mJ x t s) → (kp [1150, 1173, 1174, 1175] [] s0 s) → (Sg (ps_a s 1135) (ps_a s 1136) (ps_a s 1138) (ps_a s 1139) (ps_i s 1131 21).toInt σ) → (Rw (ps_a s 1134) x1.toInt l) → (wf σ 5 l [(true, 0)]) → (1 ≤ x2.toInt) → (x2.toInt ≤ 3) → (∀ j : Nat, j < 96 → 0 ≤ (ps_a s 1169 j).toInt ∧ (ps_a s 1169 j).toInt ≤ 2) → (∀ j : Nat, j < 12 → 0 ≤ (ps_a s 1175 j).toInt ∧ (ps_a s 1175 j).toInt ≤ 2) → (∀ f : Nat, (f : Int) < (σ.1.2 : Int) → (ps_a s 1172 f).toInt ≤ 87) → (0 ≤ x4.toInt) → (x3.toInt - x4.toInt ≤ (n13 : Int) - 1) → ps_At (d + 4) 299 13 [(0, .ref 1131), (1, .int x1), (2, .int x2), (3, .int x3), (4, .int x4)] [] s Q) : ∀ (n : Nat) (x3 : Int32) (x4 : Int32) (x5 : Int32) (x6 : Int32) (s : ps_S), (mJ x t s) → (kp [1150, 1173, 1174, 1175] [] s0 s) → (Sg (ps_a s 1135) (ps_a s 1136) (ps_a s 1138) (ps_a s 1139) (ps_i s 1131 21).toInt σ) → (Rw (ps_a s 1134) x1.toInt l) → (wf σ 5 l [(true, 0)]) → (1 ≤ x2.toInt) → (x2.toInt ≤ 3) → (∀ j : Nat, j < 96 → 0 ≤ (ps_a s 1169 j).toInt ∧ (ps_a s 1169 j).toInt ≤ 2) → (∀ j : Nat, j < 12 → 0 ≤ (ps_a s 1175 j).toInt ∧ (ps_a s 1175 j).toInt ≤ 2) → (∀ f : Nat, (f : Int) < (σ.1.2 : Int) → (ps_a s 1172 f).toInt ≤ 87) → (0 ≤ x4.toInt) → (x4.toInt < x3.toInt) → (0 ≤ x5.toInt) → (0 ≤ x6.toInt) → (x6.toInt ≤ 12) → (x3.toInt - x4.toInt ≤ (n13 : Int)) → 20 - x6.toInt ≤ (n : Int) → ps_At (d + 4) 299 26 [(0, .ref 1131), (1, .int x1), (2, .int x2), (3, .int x3), (4, .int x4), (5, .int x5), (6, .int x6)] [] s Q := by
  refine xstr (fun n ih => ?_)
  intro x3 x4 x5 x6 s J K hS hR i2 i3 i4 hDg hFt hFa i8 i9 i10 i11 i12 hm13 hm
  refine pg_299_26 (d := d + 3) ?_
  have hx3 := Int32.toInt_lt x3
  refine And.intro (fun h1 => ?_) (fun h1 => ?_)
  · have f2 : (12 : Int) ≤ x6.toInt := xle h1
    refine ms_295 J hS hR (i2) (show 1 ≤ x2.toInt from by omega) (show x2.toInt ≤ 3 from by omega) hDg hFt hFa (fun v3 s3 J3 K3 b3 => ?_)
    have K4 := kpt K K3 rfl rfl
    have hS : Sg (ps_a s3 1135) (ps_a s3 1136) (ps_a s3 1138) (ps_a s3 1139) (ps_i s3 1131 21).toInt σ := by rw [show ps_a s3 1135 = ps_a s 1135 from (K3.2 1135 rfl).1, show ps_a s3 1136 = ps_a s 1136 from (K3.2 1136 rfl).1, show ps_a s3 1138 = ps_a s 1138 from (K3.2 1138 rfl).1, show ps_a s3 1139 = ps_a s 1139 from (K3.2 1139 rfl).1, show ps_i s3 1131 21 = ps_i s 1131 21 from kp_i K3 21 rfl]; exact hS
    have hR : Rw (ps_a s3 1134) x1.toInt l := by rw [show ps_a s3 1134 = ps_a s 1134 from (K3.2 1134 rfl).1]; exact hR
    have hDg : ∀ j : Nat, j < 96 → 0 ≤ (ps_a s3 1169 j).toInt ∧ (ps_a s3 1169 j).toInt ≤ 2 := by rw [show ps_a s3 1169 = ps_a s 1169 from (K3.2 1169 rfl).1]; exact hDg
    have hFt : ∀ j : Nat, j < 12 → 0 ≤ (ps_a s3 1175 j).toInt ∧ (ps_a s3 1175 j).toInt ≤ 2 := by rw [show ps_a s3 1175 = ps_a s 1175 from (K3.2 1175 rfl).1]; exact hFt
    have hFa : ∀ f : Nat, (f : Int) < (σ.1.2 : Int) → (ps_a s3 1172 f).toInt ≤ 87 := by rw [show ps_a s3 1172 = ps_a s 1172 from (K3.2 1172 rfl).1]; exact hFa
    refine And.intro (fun h5 => ?_) (fun h5 => ?_)
    · have f6 : v3.toInt ≠ (0 : Int) := xne h5
      have a7 : (x4 + 1).toInt = x4.toInt + (1 : Int) := xIa (show -2147483648 ≤ x4.toInt + (1 : Int) from by omega) (show x4.toInt + (1 : Int) < 2147483648 from by omega)
      exact KH13 x3 (x4 + 1) _ J3 K4 hS hR (by assumption) (show 1 ≤ x2.toInt from by omega) (show x2.toInt ≤ 3 from by omega) hDg hFt hFa (show 0 ≤ (x4 + 1).toInt from by omega) (show x3.toInt - (x4 + 1).toInt ≤ (n13 : Int) - 1 from by omega)
    · have f8 : v3.toInt = (0 : Int) := xeq h5
      exact k (0 : Int32) _ J3 K4 hFt (by decide)
  · have f9 : x6.toInt < (12 : Int) := xlt h1
    refine ms_223 J hR (show 0 ≤ x6.toInt from by omega) (show x6.toInt ≤ 11 from by omega) (fun v10 p10_0 b10 => ?_)
    refine And.intro (fun h11 => ?_) (fun h11 => ?_)
    · have f12 : v10.toInt ≠ (0 : Int) := xne h11
      refine ps_nd_i (xnz (show x2.toInt ≠ 0 from by omega)) ?_
      have hmm : 0 ≤ ((x5 - (x5 / x2) * x2)).toInt ∧ ((x5 - (x5 / x2) * x2)).toInt ≤ 2 := xmod2 (by omega) (by omega) (by omega)
      refine ps_nd_i (show pm_in x6 12 = true from xgi (show 0 ≤ x6.toInt from by omega) (show x6.toInt < 12 from by omega)) ?_
      have J13 := mwa_n 1175 (i := (Int32.toNatClampNeg x6)) (v := (x5 - (x5 / x2) * x2)) J rfl (by decide)
      have K14 := kpa' K (r := 1175) (i := (Int32.toNatClampNeg x6)) (v := (x5 - (x5 / x2) * x2)) rfl
      have hFt : ∀ j : Nat, j < 12 → 0 ≤ (ps_a (ps_ua s 1175 (Int32.toNatClampNeg x6) (x5 - (x5 / x2) * x2)) 1175 j).toInt ∧ (ps_a (ps_ua s 1175 (Int32.toNatClampNeg x6) (x5 - (x5 / x2) * x2)) 1175 j).toInt ≤ 2 := Dg_put (i := Int32.toNatClampNeg x6) hFt (by rw [ua_eq]; exact hmm) (fun j hj => ua_ne hj)
      refine ps_nd_i (xnz (show x2.toInt ≠ 0 from by omega)) ?_
      have hd0 : 0 ≤ ((x5 / x2)).toInt := xdiv0 (by omega) (by omega)
      have a15 : (x6 + 1).toInt = x6.toInt + (1 : Int) := xIa (show -2147483648 ≤ x6.toInt + (1 : Int) from by omega) (show x6.toInt + (1 : Int) < 2147483648 from by omega)
      exact ih (n - 1) (show n - 1 < n from by omega) x3 x4 (x5 / x2) (x6 + 1) _ J13 K14 hS hR (by assumption) (show 1 ≤ x2.toInt from by omega) (show x2.toInt ≤ 3 from by omega) hDg hFt hFa (show 0 ≤ x4.toInt from by omega) (show x4.toInt < x3.toInt from by omega) (show 0 ≤ (x5 / x2).toInt from by omega) (show 0 ≤ (x6 + 1).toInt from by omega) (show (x6 + 1).toInt ≤ 12 from by omega) (show x3.toInt - x4.toInt ≤ (n13 : Int) from by omega) (show 20 - (x6 + 1).toInt ≤ ((n - 1 : Nat) : Int) from by omega)
    · have f16 : v10.toInt = (0 : Int) := xeq h11
      have a17 : (x6 + 1).toInt = x6.toInt + (1 : Int) := xIa (show -2147483648 ≤ x6.toInt + (1 : Int) from by omega) (show x6.toInt + (1 : Int) < 2147483648 from by omega)
      exact ih (n - 1) (show n - 1 < n from by omega) x3 x4 x5 (x6 + 1) _ J K hS hR (by assumption) (show 1 ≤ x2.toInt from by omega) (show x2.toInt ≤ 3 from by omega) hDg hFt hFa (show 0 ≤ x4.toInt from by omega) (show x4.toInt < x3.toInt from by omega) (show 0 ≤ x5.toInt from by omega) (show 0 ≤ (x6 + 1).toInt from by omega) (show (x6 + 1).toInt ≤ 12 from by omega) (show x3.toInt - x4.toInt ≤ (n13 : Int) from by omega) (show 20 - (x6 + 1).toInt ≤ ((n - 1 : Nat) : Int) from by omega)

theorem ms_299_13 {x : Nat → Nat → Nat} {t : Int32} {d : Nat} {s0 : ps_S} {σ : mSig} {l : List Nat} {x1 : Int32} {x2 : Int32} {Q : Option Value → ps_S → Prop} (k : ∀ (v : Int32) (s' : ps_S), mJ x t s' → kp [1150, 1173, 1174, 1175] [] s0 s' → (∀ j : Nat, j < 12 → 0 ≤ (ps_a s' 1175 j).toInt ∧ (ps_a s' 1175 j).toInt ≤ 2) → v &&& 1 = v → Q (some (.int v)) s') : ∀ (n : Nat) (x3 : Int32) (x4 : Int32) (s : ps_S), (mJ x t s) → (kp [1150, 1173, 1174, 1175] [] s0 s) → (Sg (ps_a s 1135) (ps_a s 1136) (ps_a s 1138) (ps_a s 1139) (ps_i s 1131 21).toInt σ) → (Rw (ps_a s 1134) x1.toInt l) → (wf σ 5 l [(true, 0)]) → (1 ≤ x2.toInt) → (x2.toInt ≤ 3) → (∀ j : Nat, j < 96 → 0 ≤ (ps_a s 1169 j).toInt ∧ (ps_a s 1169 j).toInt ≤ 2) → (∀ j : Nat, j < 12 → 0 ≤ (ps_a s 1175 j).toInt ∧ (ps_a s 1175 j).toInt ≤ 2) → (∀ f : Nat, (f : Int) < (σ.1.2 : Int) → (ps_a s 1172 f).toInt ≤ 87) → (0 ≤ x4.toInt) → x3.toInt - x4.toInt ≤ (n : Int) → ps_At (d + 4) 299 13 [(0, .ref 1131), (1, .int x1), (2, .int x2), (3, .int x3), (4, .int x4)] [] s Q := by
  refine xstr (fun n ih => ?_)
  intro x3 x4 s J K hS hR i2 i3 i4 hDg hFt hFa i8 hm
  refine pg_299_13 (d := d + 3) ?_
  refine And.intro (fun h1 => ?_) (fun h1 => ?_)
  · have f2 : x3.toInt ≤ x4.toInt := xle h1
    exact k (1 : Int32) _ J K hFt (by decide)
  · have f3 : x4.toInt < x3.toInt := xlt h1
    exact ms_299_26 (x1 := x1) (x2 := x2) (σ := σ) (l := l) k n (fun x3z x4z sz Jz Kz i0z i1z i2z i3z i4z i5z i6z i7z i8z hm => ih (n - 1) (show n - 1 < n from by omega) x3z x4z sz Jz Kz i0z i1z i2z i3z i4z i5z i6z i7z i8z (show _ ≤ ((n - 1 : Nat) : Int) from by omega)) (20 - (0 : Int)).toNat x3 x4 x4 (0) _ J K hS hR (by assumption) (show 1 ≤ x2.toInt from by omega) (show x2.toInt ≤ 3 from by omega) hDg hFt hFa (show 0 ≤ x4.toInt from by omega) (show x4.toInt < x3.toInt from by omega) (show 0 ≤ x4.toInt from by omega) (show 0 ≤ (0 : Int) from by omega) (show (0 : Int) ≤ 12 from by omega) (show x3.toInt - x4.toInt ≤ ((n : Nat) : Int) from by omega) (show 20 - (0 : Int) ≤ (((20 - (0 : Int)).toNat : Nat) : Int) from by omega)

theorem ms_299 {x : Nat → Nat → Nat} {t : Int32} {s : ps_S} {d : Nat} {x1 : Int32} {x2 : Int32} {f : Int32 → ps_S → Prop} (J : mJ x t s) {σ : mSig} {l : List Nat} (hS : Sg (ps_a s 1135) (ps_a s 1136) (ps_a s 1138) (ps_a s 1139) (ps_i s 1131 21).toInt σ) (hR : Rw (ps_a s 1134) x1.toInt l) (q2 : wf σ 5 l [(true, 0)]) (q3 : 1 ≤ x2.toInt) (q4 : x2.toInt ≤ 3) (hDg : ∀ j : Nat, j < 96 → 0 ≤ (ps_a s 1169 j).toInt ∧ (ps_a s 1169 j).toInt ≤ 2) (hFt : ∀ j : Nat, j < 12 → 0 ≤ (ps_a s 1175 j).toInt ∧ (ps_a s 1175 j).toInt ≤ 2) (hFa : ∀ f : Nat, (f : Int) < (σ.1.2 : Int) → (ps_a s 1172 f).toInt ≤ 87) (k : ∀ (v : Int32) (s' : ps_S), mJ x t s' → kp [1150, 1173, 1174, 1175] [] s s' → (∀ j : Nat, j < 12 → 0 ≤ (ps_a s' 1175 j).toInt ∧ (ps_a s' 1175 j).toInt ≤ 2) → v &&& 1 = v → f v s') : ps_Cl (d + 4) 299 [.ref 1131, .int x1, .int x2] s (ps_rI f) := by
  have K : kp [1150, 1173, 1174, 1175] [] s s := kp_refl
  refine pg_299_0 (d := d + 3) ?_
  refine ms_298 J hR (fun v1 p1_0 p1_1 => ?_)
  have p1_0' : 0 ≤ v1.toInt := p1_0
  have p1_1' : v1.toInt ≤ 12 := p1_1
  refine ms_290 J (show 1 ≤ x2.toInt from by omega) (show x2.toInt ≤ 3 from by omega) (show 0 ≤ v1.toInt from by omega) (show v1.toInt ≤ 19 from by omega) (fun v2 p2_0 => ?_)
  exact ms_299_13 (x1 := x1) (x2 := x2) (σ := σ) (l := l) k  (v2.toInt - (0 : Int)).toNat v2 (0) _ J K hS hR (q2) (show 1 ≤ x2.toInt from by omega) (show x2.toInt ≤ 3 from by omega) hDg hFt hFa (show 0 ≤ (0 : Int) from by omega) (show v2.toInt - (0 : Int) ≤ (((v2.toInt - (0 : Int)).toNat : Nat) : Int) from by omega)

-- ProofBenchModel.doAxiomsHold(I)Z
theorem pg_300_0 {d : Nat} {x1 : Int32} {s : ps_S} {Q : Option Value → ps_S → Prop} (h :
  ps_At (d + 1) 300 2 [(0, .ref 1131), (1, .int x1), (2, .int 0)] [] s Q) : ps_At (d + 1) 300 0 [(0, .ref 1131), (1, .int x1)] [] s Q :=
  ps_wp_at (stops := [(2, [0, 1, 2])]) (n := 4) h rfl

theorem pg_300_2 {d : Nat} {x1 : Int32} {x2 : Int32} {s : ps_S} {Q : Option Value → ps_S → Prop} (h :
  ps_nd (pm_in (ps_i s 1131 21) 2) (((ps_a s 1137 (Int32.toNatClampNeg (ps_i s 1131 21))) ≤ x2 →
    Q (some (.int 1)) s) ∧
  (x2 < (ps_a s 1137 (Int32.toNatClampNeg (ps_i s 1131 21))) →
    ps_Cl d 283 [.int (ps_i s 1131 21), .int x2] s (ps_rI (fun v1 s1 =>
      ps_Cl d 299 [.ref 1131, .int v1, .int x1] s1 (ps_rI (fun v2 s2 =>
        (v2 ≠ 0 →
          ps_At (d + 1) 300 2 [(0, .ref 1131), (1, .int x1), (2, .int (x2 + 1))] [] s2 Q) ∧
        (v2 = 0 →
          Q (some (.int 0)) s2)))))))) : ps_At (d + 1) 300 2 [(0, .ref 1131), (1, .int x1), (2, .int x2)] [] s Q :=
  ps_wp_at (stops := [(2, [0, 1, 2])]) (n := 23) h rfl

theorem ms_300_2 {x : Nat → Nat → Nat} {t : Int32} {d : Nat} {s0 : ps_S} {σ : mSig} {x1 : Int32} {Q : Option Value → ps_S → Prop} (k : ∀ (v : Int32) (s' : ps_S), mJ x t s' → kp [1150, 1173, 1174, 1175] [] s0 s' → (∀ j : Nat, j < 12 → 0 ≤ (ps_a s' 1175 j).toInt ∧ (ps_a s' 1175 j).toInt ≤ 2) → v &&& 1 = v → Q (some (.int v)) s') : ∀ (n : Nat) (x2 : Int32) (s : ps_S), (mJ x t s) → (kp [1150, 1173, 1174, 1175] [] s0 s) → (MI σ (ps_a s 1134) (ps_a s 1135) (ps_a s 1136) (ps_a s 1137) (ps_a s 1138) (ps_a s 1139) (ps_a s 1157) (ps_a s 1176) (ps_i s 1131 21).toInt (ps_i s 1131 47).toInt (ps_i s 1131 54).toInt) → (∀ j : Nat, j < 96 → 0 ≤ (ps_a s 1169 j).toInt ∧ (ps_a s 1169 j).toInt ≤ 2) → (∀ j : Nat, j < 12 → 0 ≤ (ps_a s 1175 j).toInt ∧ (ps_a s 1175 j).toInt ≤ 2) → (∀ f : Nat, (f : Int) < (σ.1.2 : Int) → (ps_a s 1172 f).toInt ≤ 87) → (0 ≤ x2.toInt) → (x2.toInt ≤ 8) → (1 ≤ x1.toInt) → (x1.toInt ≤ 3) → 20 - x2.toInt ≤ (n : Int) → ps_At (d + 5) 300 2 [(0, .ref 1131), (1, .int x1), (2, .int x2)] [] s Q := by
  refine xstr (fun n ih => ?_)
  intro x2 s J K hMI hDg hFt hFa i4 i5 i6 i7 hm
  refine pg_300_2 (d := d + 4) ?_
  have r1 := mf_21 J
  refine ps_nd_i (show pm_in (ps_i s 1131 21) 2 = true from xgi (show 0 ≤ (ps_i s 1131 21).toInt from by omega) (show (ps_i s 1131 21).toInt < 2 from by omega)) ?_
  have r2 : 0 ≤ (ps_a s 1137 (Int32.toNatClampNeg (ps_i s 1131 21))).toInt ∧ (ps_a s 1137 (Int32.toNatClampNeg (ps_i s 1131 21))).toInt ≤ 8 := ma_1137 (i := (ps_i s 1131 21)) J (show 0 ≤ (ps_i s 1131 21).toInt from by omega) (show (ps_i s 1131 21).toInt < 2 from by omega)
  refine And.intro (fun h3 => ?_) (fun h3 => ?_)
  · have f4 : (ps_a s 1137 (Int32.toNatClampNeg (ps_i s 1131 21))).toInt ≤ x2.toInt := xle h3
    exact k (1 : Int32) _ J K hFt (by decide)
  · have f5 : x2.toInt < (ps_a s 1137 (Int32.toNatClampNeg (ps_i s 1131 21))).toInt := xlt h3
    refine pg_283_0 ?_
    have a6 : ((8 : Int32) * (ps_i s 1131 21)).toInt = (8 : Int) * (ps_i s 1131 21).toInt := xIm (show -2147483648 ≤ (8 : Int) * (ps_i s 1131 21).toInt from by omega) (show (8 : Int) * (ps_i s 1131 21).toInt < 2147483648 from by omega)
    have a7 : (((8 : Int32) * (ps_i s 1131 21)) + x2).toInt = ((8 : Int32) * (ps_i s 1131 21)).toInt + x2.toInt := xIa (show -2147483648 ≤ ((8 : Int32) * (ps_i s 1131 21)).toInt + x2.toInt from by omega) (show ((8 : Int32) * (ps_i s 1131 21)).toInt + x2.toInt < 2147483648 from by omega)
    have a8 : ((41 : Int32) * (((8 : Int32) * (ps_i s 1131 21)) + x2)).toInt = (41 : Int) * (((8 : Int32) * (ps_i s 1131 21)) + x2).toInt := xIm (show -2147483648 ≤ (41 : Int) * (((8 : Int32) * (ps_i s 1131 21)) + x2).toInt from by omega) (show (41 : Int) * (((8 : Int32) * (ps_i s 1131 21)) + x2).toInt < 2147483648 from by omega)
    have a9 : ((21812 : Int32) + ((41 : Int32) * (((8 : Int32) * (ps_i s 1131 21)) + x2))).toInt = (21812 : Int) + ((41 : Int32) * (((8 : Int32) * (ps_i s 1131 21)) + x2)).toInt := xIa (show -2147483648 ≤ (21812 : Int) + ((41 : Int32) * (((8 : Int32) * (ps_i s 1131 21)) + x2)).toInt from by omega) (show (21812 : Int) + ((41 : Int32) * (((8 : Int32) * (ps_i s 1131 21)) + x2)).toInt < 2147483648 from by omega)
    obtain ⟨l, hl1, hl2, hl3⟩ := MI_ax (k := x2) hMI (by omega) (show x2.toInt < (ps_a s 1137 (Int32.toNatClampNeg (ps_i s 1131 21))).toInt from by omega) (by omega) rfl
    have hS := MI_S hMI
    refine ms_299 J (hS) ((by rw [show (((21812 : Int32) + ((41 : Int32) * (((8 : Int32) * (ps_i s 1131 21)) + x2)))).toInt = 21812 + 41 * (8 * (ps_i s 1131 21).toInt + x2.toInt) from by omega]; exact hl1)) (hl2) (show 1 ≤ x1.toInt from by omega) (show x1.toInt ≤ 3 from by omega) hDg hFt hFa (fun v10 s10 J10 K10 p10_0 b10 => ?_)
    have K11 := kpt K K10 rfl rfl
    have hMI : MI σ (ps_a s10 1134) (ps_a s10 1135) (ps_a s10 1136) (ps_a s10 1137) (ps_a s10 1138) (ps_a s10 1139) (ps_a s10 1157) (ps_a s10 1176) (ps_i s10 1131 21).toInt (ps_i s10 1131 47).toInt (ps_i s10 1131 54).toInt := by rw [show ps_a s10 1134 = ps_a s 1134 from (K10.2 1134 rfl).1, show ps_a s10 1135 = ps_a s 1135 from (K10.2 1135 rfl).1, show ps_a s10 1136 = ps_a s 1136 from (K10.2 1136 rfl).1, show ps_a s10 1137 = ps_a s 1137 from (K10.2 1137 rfl).1, show ps_a s10 1138 = ps_a s 1138 from (K10.2 1138 rfl).1, show ps_a s10 1139 = ps_a s 1139 from (K10.2 1139 rfl).1, show ps_a s10 1157 = ps_a s 1157 from (K10.2 1157 rfl).1, show ps_a s10 1176 = ps_a s 1176 from (K10.2 1176 rfl).1, show ps_i s10 1131 21 = ps_i s 1131 21 from kp_i K10 21 rfl, show ps_i s10 1131 47 = ps_i s 1131 47 from kp_i K10 47 rfl, show ps_i s10 1131 54 = ps_i s 1131 54 from kp_i K10 54 rfl]; exact hMI
    have hDg : ∀ j : Nat, j < 96 → 0 ≤ (ps_a s10 1169 j).toInt ∧ (ps_a s10 1169 j).toInt ≤ 2 := by rw [show ps_a s10 1169 = ps_a s 1169 from (K10.2 1169 rfl).1]; exact hDg
    have hFa : ∀ f : Nat, (f : Int) < (σ.1.2 : Int) → (ps_a s10 1172 f).toInt ≤ 87 := by rw [show ps_a s10 1172 = ps_a s 1172 from (K10.2 1172 rfl).1]; exact hFa
    have hFt : ∀ j : Nat, j < 12 → 0 ≤ (ps_a s10 1175 j).toInt ∧ (ps_a s10 1175 j).toInt ≤ 2 := p10_0
    refine And.intro (fun h12 => ?_) (fun h12 => ?_)
    · have f13 : v10.toInt ≠ (0 : Int) := xne h12
      have a14 : (x2 + 1).toInt = x2.toInt + (1 : Int) := xIa (show -2147483648 ≤ x2.toInt + (1 : Int) from by omega) (show x2.toInt + (1 : Int) < 2147483648 from by omega)
      exact ih (n - 1) (show n - 1 < n from by omega) (x2 + 1) _ J10 K11 hMI hDg hFt hFa (show 0 ≤ (x2 + 1).toInt from by omega) (show (x2 + 1).toInt ≤ 8 from by omega) (show 1 ≤ x1.toInt from by omega) (show x1.toInt ≤ 3 from by omega) (show 20 - (x2 + 1).toInt ≤ ((n - 1 : Nat) : Int) from by omega)
    · have f15 : v10.toInt = (0 : Int) := xeq h12
      exact k (0 : Int32) _ J10 K11 hFt (by decide)

theorem ms_300 {x : Nat → Nat → Nat} {t : Int32} {s : ps_S} {d : Nat} {x1 : Int32} {f : Int32 → ps_S → Prop} (J : mJ x t s) {σ : mSig} (hMI : MI σ (ps_a s 1134) (ps_a s 1135) (ps_a s 1136) (ps_a s 1137) (ps_a s 1138) (ps_a s 1139) (ps_a s 1157) (ps_a s 1176) (ps_i s 1131 21).toInt (ps_i s 1131 47).toInt (ps_i s 1131 54).toInt) (q1 : 1 ≤ x1.toInt) (q2 : x1.toInt ≤ 3) (hDg : ∀ j : Nat, j < 96 → 0 ≤ (ps_a s 1169 j).toInt ∧ (ps_a s 1169 j).toInt ≤ 2) (hFt : ∀ j : Nat, j < 12 → 0 ≤ (ps_a s 1175 j).toInt ∧ (ps_a s 1175 j).toInt ≤ 2) (hFa : ∀ f : Nat, (f : Int) < (σ.1.2 : Int) → (ps_a s 1172 f).toInt ≤ 87) (k : ∀ (v : Int32) (s' : ps_S), mJ x t s' → kp [1150, 1173, 1174, 1175] [] s s' → (∀ j : Nat, j < 12 → 0 ≤ (ps_a s' 1175 j).toInt ∧ (ps_a s' 1175 j).toInt ≤ 2) → v &&& 1 = v → f v s') : ps_Cl (d + 5) 300 [.ref 1131, .int x1] s (ps_rI f) := by
  have K : kp [1150, 1173, 1174, 1175] [] s s := kp_refl
  refine pg_300_0 (d := d + 4) ?_
  exact ms_300_2 (x1 := x1) (σ := σ) k  (20 - (0 : Int)).toNat (0) _ J K hMI hDg hFt hFa (show 0 ≤ (0 : Int) from by omega) (show (0 : Int) ≤ 8 from by omega) (show 1 ≤ x1.toInt from by omega) (show x1.toInt ≤ 3 from by omega) (show 20 - (0 : Int) ≤ (((20 - (0 : Int)).toNat : Nat) : Int) from by omega)

-- ProofBenchModel.models(I)I
theorem pg_301_0 {d : Nat} {x1 : Int32} {s : ps_S} {Q : Option Value → ps_S → Prop} (h :
  ps_Cl d 200 [.int x1, .int 1, .int 3] s (ps_rI (fun v1 s1 =>
    (v1 ≠ 0 →
      ps_Cl d 291 [.ref 1131, .int x1] s1 (ps_rI (fun v2 s2 =>
        (v2 ≤ 4096 →
          Q (some (.int v2)) s2) ∧
        (4096 < v2 →
          Q (some (.int (-2))) s2)))) ∧
    (v1 = 0 →
      Q (some (.int (-1))) s1)))) : ps_At (d + 1) 301 0 [(0, .ref 1131), (1, .int x1)] [] s Q :=
  ps_wp_at (stops := []) (n := 21) h rfl

theorem ms_301 {x : Nat → Nat → Nat} {t : Int32} {s : ps_S} {d : Nat} {x1 : Int32} {f : Int32 → ps_S → Prop} (J : mJ x t s) {σ : mSig} (hS : Sg (ps_a s 1135) (ps_a s 1136) (ps_a s 1138) (ps_a s 1139) (ps_i s 1131 21).toInt σ) (k : ∀ (v : Int32) (s' : ps_S), mJ x t s' → kp [1170, 1171, 1172] [73] s s' → (v.toInt ≤ 4096) → (v.toInt < 0 ∨ (1 ≤ x1.toInt ∧ x1.toInt ≤ 3)) → (0 ≤ v.toInt → (∀ j : Nat, (j : Int) < (ps_i s' 1131 73).toInt → 1 ≤ (ps_a s' 1170 j).toInt ∧ (ps_a s' 1170 j).toInt ≤ 3) ∧ (∀ f : Nat, (f : Int) < (σ.1.2 : Int) → (ps_a s' 1172 f).toInt ≤ 87)) → f v s') : ps_Cl (d + 2) 301 [.ref 1131, .int x1] s (ps_rI f) := by
  have K : kp [1170, 1171, 1172] [73] s s := kp_refl
  refine pg_301_0 (d := d + 1) ?_
  refine ms_200 J  (fun v1 p1_0 b1 => ?_)
  have p1_0' : v1.toInt = 0 ∨ ((1 : Int) ≤ x1.toInt ∧ x1.toInt ≤ (3 : Int)) := p1_0
  refine And.intro (fun h2 => ?_) (fun h2 => ?_)
  · have f3 : v1.toInt ≠ (0 : Int) := xne h2
    refine ms_291 J hS (show 1 ≤ x1.toInt from by omega) (show x1.toInt ≤ 3 from by omega) (fun v4 s4 J4 K4 p4_0 p4_1 p4_2 p4_3 => ?_)
    have K5 := kpt K K4 rfl rfl
    have hS : Sg (ps_a s4 1135) (ps_a s4 1136) (ps_a s4 1138) (ps_a s4 1139) (ps_i s4 1131 21).toInt σ := by rw [show ps_a s4 1135 = ps_a s 1135 from (K4.2 1135 rfl).1, show ps_a s4 1136 = ps_a s 1136 from (K4.2 1136 rfl).1, show ps_a s4 1138 = ps_a s 1138 from (K4.2 1138 rfl).1, show ps_a s4 1139 = ps_a s 1139 from (K4.2 1139 rfl).1, show ps_i s4 1131 21 = ps_i s 1131 21 from kp_i K4 21 rfl]; exact hS
    have p4_0' : 1 ≤ v4.toInt := p4_0
    have p4_1' : v4.toInt ≤ 12288 := p4_1
    have hBs : ∀ j : Nat, (j : Int) < (ps_i s4 1131 73).toInt → 1 ≤ (ps_a s4 1170 j).toInt ∧ (ps_a s4 1170 j).toInt ≤ 3 := p4_2
    have hFa : ∀ f : Nat, (f : Int) < (σ.1.2 : Int) → (ps_a s4 1172 f).toInt ≤ 87 := p4_3
    refine And.intro (fun h6 => ?_) (fun h6 => ?_)
    · have f7 : v4.toInt ≤ (4096 : Int) := xle h6
      exact k v4 _ J4 K5 (show v4.toInt ≤ 4096 from by omega) (show v4.toInt < 0 ∨ (1 ≤ x1.toInt ∧ x1.toInt ≤ 3) from by omega) ((by first | exact fun h => absurd h (by decide) | exact fun _ => ⟨hBs, hFa⟩))
    · have f8 : (4096 : Int) < v4.toInt := xlt h6
      exact k (-2 : Int32) _ J4 K5 (show (-2 : Int) ≤ 4096 from by omega) (show (-2 : Int) < 0 ∨ (1 ≤ x1.toInt ∧ x1.toInt ≤ 3) from by omega) ((by first | exact fun h => absurd h (by decide) | exact fun _ => ⟨hBs, hFa⟩))
  · have f9 : v1.toInt = (0 : Int) := xeq h2
    exact k (-1 : Int32) _ J K (show (-1 : Int) ≤ 4096 from by omega) (show (-1 : Int) < 0 ∨ (1 ≤ x1.toInt ∧ x1.toInt ≤ 3) from by omega) (fun h => absurd h (by decide))

-- ProofBenchModel.hold(I)I
theorem pg_302_0 {d : Nat} {x1 : Int32} {s : ps_S} {Q : Option Value → ps_S → Prop} (h :
  ps_Cl d 301 [.ref 1131, .int x1] s (ps_rI (fun v1 s1 =>
    ps_At (d + 1) 302 11 [(0, .ref 1131), (1, .int x1), (2, .int v1), (3, .int 0), (4, .int 0)] [] s1 Q))) : ps_At (d + 1) 302 0 [(0, .ref 1131), (1, .int x1)] [] s Q :=
  ps_wp_at (stops := [(11, [0, 1, 2, 3, 4])]) (n := 10) h rfl

theorem pg_302_11 {d : Nat} {x1 : Int32} {x2 : Int32} {x3 : Int32} {x4 : Int32} {s : ps_S} {Q : Option Value → ps_S → Prop} (h :
  (x2 ≤ x4 →
    (0 ≤ x2 →
      Q (some (.int x3)) s) ∧
    (x2 < 0 →
      Q (some (.int x2)) s)) ∧
  (x4 < x2 →
    ps_Cl d 293 [.ref 1131, .int x4] s (ps_rV (fun s1 =>
      ps_Cl d 300 [.ref 1131, .int x1] s1 (ps_rI (fun v2 s2 =>
        (v2 = 0 →
          ps_At (d + 1) 302 11 [(0, .ref 1131), (1, .int x1), (2, .int x2), (3, .int (x3 + 0)), (4, .int (x4 + 1))] [] s2 Q) ∧
        (v2 ≠ 0 →
          ps_At (d + 1) 302 11 [(0, .ref 1131), (1, .int x1), (2, .int x2), (3, .int (x3 + 1)), (4, .int (x4 + 1))] [] s2 Q))))))) : ps_At (d + 1) 302 11 [(0, .ref 1131), (1, .int x1), (2, .int x2), (3, .int x3), (4, .int x4)] [] s Q :=
  ps_wp_at (stops := [(11, [0, 1, 2, 3, 4])]) (n := 31) h rfl

theorem ms_302_11 {x : Nat → Nat → Nat} {t : Int32} {d : Nat} {s0 : ps_S} {σ : mSig} {x1 : Int32} {Q : Option Value → ps_S → Prop} (k : ∀ (v : Int32) (s' : ps_S), mJ x t s' → kp [1150, 1169, 1170, 1171, 1172, 1173, 1174, 1175] [73] s0 s' → (∀ j : Nat, j < 96 → 0 ≤ (ps_a s' 1169 j).toInt ∧ (ps_a s' 1169 j).toInt ≤ 2) → (∀ j : Nat, j < 12 → 0 ≤ (ps_a s' 1175 j).toInt ∧ (ps_a s' 1175 j).toInt ≤ 2) → Q (some (.int v)) s') : ∀ (n : Nat) (x2 : Int32) (x3 : Int32) (x4 : Int32) (s : ps_S), (mJ x t s) → (kp [1150, 1169, 1170, 1171, 1172, 1173, 1174, 1175] [73] s0 s) → (MI σ (ps_a s 1134) (ps_a s 1135) (ps_a s 1136) (ps_a s 1137) (ps_a s 1138) (ps_a s 1139) (ps_a s 1157) (ps_a s 1176) (ps_i s 1131 21).toInt (ps_i s 1131 47).toInt (ps_i s 1131 54).toInt) → (∀ j : Nat, j < 96 → 0 ≤ (ps_a s 1169 j).toInt ∧ (ps_a s 1169 j).toInt ≤ 2) → (∀ j : Nat, j < 12 → 0 ≤ (ps_a s 1175 j).toInt ∧ (ps_a s 1175 j).toInt ≤ 2) → (0 ≤ x2.toInt → (∀ j : Nat, (j : Int) < (ps_i s 1131 73).toInt → 1 ≤ (ps_a s 1170 j).toInt ∧ (ps_a s 1170 j).toInt ≤ 3) ∧ (∀ f : Nat, (f : Int) < (σ.1.2 : Int) → (ps_a s 1172 f).toInt ≤ 87)) → (x2.toInt < 0 ∨ (1 ≤ x1.toInt ∧ x1.toInt ≤ 3)) → (0 ≤ x4.toInt) → (0 ≤ x3.toInt) → (x3.toInt ≤ x4.toInt) → (x2.toInt ≤ 4096) → x2.toInt - x4.toInt ≤ (n : Int) → ps_At (d + 6) 302 11 [(0, .ref 1131), (1, .int x1), (2, .int x2), (3, .int x3), (4, .int x4)] [] s Q := by
  refine xstr (fun n ih => ?_)
  intro x2 x3 x4 s J K hMI hDg hFt hmo i4 i5 i6 i7 i8 hm
  refine pg_302_11 (d := d + 5) ?_
  refine And.intro (fun h1 => ?_) (fun h1 => ?_)
  · have f2 : x2.toInt ≤ x4.toInt := xle h1
    refine And.intro (fun h3 => ?_) (fun h3 => ?_)
    · have f4 : (0 : Int) ≤ x2.toInt := xle h3
      exact k x3 _ J K hDg hFt
    · have f5 : x2.toInt < (0 : Int) := xlt h3
      exact k x2 _ J K hDg hFt
  · have f6 : x4.toInt < x2.toInt := xlt h1
    obtain ⟨hBs, hFa⟩ := hmo (by omega)
    refine ms_293 J hBs hDg (show 0 ≤ x4.toInt from by omega) (fun s7 J7 K7 p7_0 => ?_)
    have K8 := kpt K K7 rfl rfl
    have hMI : MI σ (ps_a s7 1134) (ps_a s7 1135) (ps_a s7 1136) (ps_a s7 1137) (ps_a s7 1138) (ps_a s7 1139) (ps_a s7 1157) (ps_a s7 1176) (ps_i s7 1131 21).toInt (ps_i s7 1131 47).toInt (ps_i s7 1131 54).toInt := by rw [show ps_a s7 1134 = ps_a s 1134 from (K7.2 1134 rfl).1, show ps_a s7 1135 = ps_a s 1135 from (K7.2 1135 rfl).1, show ps_a s7 1136 = ps_a s 1136 from (K7.2 1136 rfl).1, show ps_a s7 1137 = ps_a s 1137 from (K7.2 1137 rfl).1, show ps_a s7 1138 = ps_a s 1138 from (K7.2 1138 rfl).1, show ps_a s7 1139 = ps_a s 1139 from (K7.2 1139 rfl).1, show ps_a s7 1157 = ps_a s 1157 from (K7.2 1157 rfl).1, show ps_a s7 1176 = ps_a s 1176 from (K7.2 1176 rfl).1, show ps_i s7 1131 21 = ps_i s 1131 21 from kp_i K7 21 rfl, show ps_i s7 1131 47 = ps_i s 1131 47 from kp_i K7 47 rfl, show ps_i s7 1131 54 = ps_i s 1131 54 from kp_i K7 54 rfl]; exact hMI
    have hFt : ∀ j : Nat, j < 12 → 0 ≤ (ps_a s7 1175 j).toInt ∧ (ps_a s7 1175 j).toInt ≤ 2 := by rw [show ps_a s7 1175 = ps_a s 1175 from (K7.2 1175 rfl).1]; exact hFt
    have hmo : 0 ≤ x2.toInt → (∀ j : Nat, (j : Int) < (ps_i s7 1131 73).toInt → 1 ≤ (ps_a s7 1170 j).toInt ∧ (ps_a s7 1170 j).toInt ≤ 3) ∧ (∀ f : Nat, (f : Int) < (σ.1.2 : Int) → (ps_a s7 1172 f).toInt ≤ 87) := by rw [show ps_a s7 1170 = ps_a s 1170 from (K7.2 1170 rfl).1, show ps_a s7 1172 = ps_a s 1172 from (K7.2 1172 rfl).1, show ps_i s7 1131 73 = ps_i s 1131 73 from kp_i K7 73 rfl]; exact hmo
    have hBs : ∀ j : Nat, (j : Int) < (ps_i s7 1131 73).toInt → 1 ≤ (ps_a s7 1170 j).toInt ∧ (ps_a s7 1170 j).toInt ≤ 3 := by rw [show ps_a s7 1170 = ps_a s 1170 from (K7.2 1170 rfl).1, show ps_i s7 1131 73 = ps_i s 1131 73 from kp_i K7 73 rfl]; exact hBs
    have hFa : ∀ f : Nat, (f : Int) < (σ.1.2 : Int) → (ps_a s7 1172 f).toInt ≤ 87 := by rw [show ps_a s7 1172 = ps_a s 1172 from (K7.2 1172 rfl).1]; exact hFa
    have hDg : ∀ j : Nat, j < 96 → 0 ≤ (ps_a s7 1169 j).toInt ∧ (ps_a s7 1169 j).toInt ≤ 2 := p7_0
    refine ms_300 J7 hMI (show 1 ≤ x1.toInt from by omega) (show x1.toInt ≤ 3 from by omega) hDg hFt hFa (fun v9 s9 J9 K9 p9_0 b9 => ?_)
    have K10 := kpt K8 K9 rfl rfl
    have hMI : MI σ (ps_a s9 1134) (ps_a s9 1135) (ps_a s9 1136) (ps_a s9 1137) (ps_a s9 1138) (ps_a s9 1139) (ps_a s9 1157) (ps_a s9 1176) (ps_i s9 1131 21).toInt (ps_i s9 1131 47).toInt (ps_i s9 1131 54).toInt := by rw [show ps_a s9 1134 = ps_a s7 1134 from (K9.2 1134 rfl).1, show ps_a s9 1135 = ps_a s7 1135 from (K9.2 1135 rfl).1, show ps_a s9 1136 = ps_a s7 1136 from (K9.2 1136 rfl).1, show ps_a s9 1137 = ps_a s7 1137 from (K9.2 1137 rfl).1, show ps_a s9 1138 = ps_a s7 1138 from (K9.2 1138 rfl).1, show ps_a s9 1139 = ps_a s7 1139 from (K9.2 1139 rfl).1, show ps_a s9 1157 = ps_a s7 1157 from (K9.2 1157 rfl).1, show ps_a s9 1176 = ps_a s7 1176 from (K9.2 1176 rfl).1, show ps_i s9 1131 21 = ps_i s7 1131 21 from kp_i K9 21 rfl, show ps_i s9 1131 47 = ps_i s7 1131 47 from kp_i K9 47 rfl, show ps_i s9 1131 54 = ps_i s7 1131 54 from kp_i K9 54 rfl]; exact hMI
    have hmo : 0 ≤ x2.toInt → (∀ j : Nat, (j : Int) < (ps_i s9 1131 73).toInt → 1 ≤ (ps_a s9 1170 j).toInt ∧ (ps_a s9 1170 j).toInt ≤ 3) ∧ (∀ f : Nat, (f : Int) < (σ.1.2 : Int) → (ps_a s9 1172 f).toInt ≤ 87) := by rw [show ps_a s9 1170 = ps_a s7 1170 from (K9.2 1170 rfl).1, show ps_a s9 1172 = ps_a s7 1172 from (K9.2 1172 rfl).1, show ps_i s9 1131 73 = ps_i s7 1131 73 from kp_i K9 73 rfl]; exact hmo
    have hBs : ∀ j : Nat, (j : Int) < (ps_i s9 1131 73).toInt → 1 ≤ (ps_a s9 1170 j).toInt ∧ (ps_a s9 1170 j).toInt ≤ 3 := by rw [show ps_a s9 1170 = ps_a s7 1170 from (K9.2 1170 rfl).1, show ps_i s9 1131 73 = ps_i s7 1131 73 from kp_i K9 73 rfl]; exact hBs
    have hFa : ∀ f : Nat, (f : Int) < (σ.1.2 : Int) → (ps_a s9 1172 f).toInt ≤ 87 := by rw [show ps_a s9 1172 = ps_a s7 1172 from (K9.2 1172 rfl).1]; exact hFa
    have hDg : ∀ j : Nat, j < 96 → 0 ≤ (ps_a s9 1169 j).toInt ∧ (ps_a s9 1169 j).toInt ≤ 2 := by rw [show ps_a s9 1169 = ps_a s7 1169 from (K9.2 1169 rfl).1]; exact hDg
    have hFt : ∀ j : Nat, j < 12 → 0 ≤ (ps_a s9 1175 j).toInt ∧ (ps_a s9 1175 j).toInt ≤ 2 := p9_0
    refine And.intro (fun h11 => ?_) (fun h11 => ?_)
    · have f12 : v9.toInt = (0 : Int) := xeq h11
      have a13 : (x3 + 0).toInt = x3.toInt + (0 : Int) := xIa (show -2147483648 ≤ x3.toInt + (0 : Int) from by omega) (show x3.toInt + (0 : Int) < 2147483648 from by omega)
      have a14 : (x4 + 1).toInt = x4.toInt + (1 : Int) := xIa (show -2147483648 ≤ x4.toInt + (1 : Int) from by omega) (show x4.toInt + (1 : Int) < 2147483648 from by omega)
      exact ih (n - 1) (show n - 1 < n from by omega) x2 (x3 + 0) (x4 + 1) _ J9 K10 hMI hDg hFt hmo (show x2.toInt < 0 ∨ (1 ≤ x1.toInt ∧ x1.toInt ≤ 3) from by omega) (show 0 ≤ (x4 + 1).toInt from by omega) (show 0 ≤ (x3 + 0).toInt from by omega) (show (x3 + 0).toInt ≤ (x4 + 1).toInt from by omega) (show x2.toInt ≤ 4096 from by omega) (show x2.toInt - (x4 + 1).toInt ≤ ((n - 1 : Nat) : Int) from by omega)
    · have f15 : v9.toInt ≠ (0 : Int) := xne h11
      have a16 : (x3 + 1).toInt = x3.toInt + (1 : Int) := xIa (show -2147483648 ≤ x3.toInt + (1 : Int) from by omega) (show x3.toInt + (1 : Int) < 2147483648 from by omega)
      have a17 : (x4 + 1).toInt = x4.toInt + (1 : Int) := xIa (show -2147483648 ≤ x4.toInt + (1 : Int) from by omega) (show x4.toInt + (1 : Int) < 2147483648 from by omega)
      exact ih (n - 1) (show n - 1 < n from by omega) x2 (x3 + 1) (x4 + 1) _ J9 K10 hMI hDg hFt hmo (show x2.toInt < 0 ∨ (1 ≤ x1.toInt ∧ x1.toInt ≤ 3) from by omega) (show 0 ≤ (x4 + 1).toInt from by omega) (show 0 ≤ (x3 + 1).toInt from by omega) (show (x3 + 1).toInt ≤ (x4 + 1).toInt from by omega) (show x2.toInt ≤ 4096 from by omega) (show x2.toInt - (x4 + 1).toInt ≤ ((n - 1 : Nat) : Int) from by omega)

theorem ms_302 {x : Nat → Nat → Nat} {t : Int32} {s : ps_S} {d : Nat} {x1 : Int32} {f : Int32 → ps_S → Prop} (J : mJ x t s) {σ : mSig} (hMI : MI σ (ps_a s 1134) (ps_a s 1135) (ps_a s 1136) (ps_a s 1137) (ps_a s 1138) (ps_a s 1139) (ps_a s 1157) (ps_a s 1176) (ps_i s 1131 21).toInt (ps_i s 1131 47).toInt (ps_i s 1131 54).toInt) (hDg : ∀ j : Nat, j < 96 → 0 ≤ (ps_a s 1169 j).toInt ∧ (ps_a s 1169 j).toInt ≤ 2) (hFt : ∀ j : Nat, j < 12 → 0 ≤ (ps_a s 1175 j).toInt ∧ (ps_a s 1175 j).toInt ≤ 2) (k : ∀ (v : Int32) (s' : ps_S), mJ x t s' → kp [1150, 1169, 1170, 1171, 1172, 1173, 1174, 1175] [73] s s' → (∀ j : Nat, j < 96 → 0 ≤ (ps_a s' 1169 j).toInt ∧ (ps_a s' 1169 j).toInt ≤ 2) → (∀ j : Nat, j < 12 → 0 ≤ (ps_a s' 1175 j).toInt ∧ (ps_a s' 1175 j).toInt ≤ 2) → f v s') : ps_Cl (d + 6) 302 [.ref 1131, .int x1] s (ps_rI f) := by
  have K : kp [1150, 1169, 1170, 1171, 1172, 1173, 1174, 1175] [73] s s := kp_refl
  refine pg_302_0 (d := d + 5) ?_
  have hS := MI_S hMI
  refine ms_301 J (hS) (fun v1 s1 J1 K1 p1_0 p1_1 p1_2 => ?_)
  have K2 := kpt K K1 rfl rfl
  have hMI : MI σ (ps_a s1 1134) (ps_a s1 1135) (ps_a s1 1136) (ps_a s1 1137) (ps_a s1 1138) (ps_a s1 1139) (ps_a s1 1157) (ps_a s1 1176) (ps_i s1 1131 21).toInt (ps_i s1 1131 47).toInt (ps_i s1 1131 54).toInt := by rw [show ps_a s1 1134 = ps_a s 1134 from (K1.2 1134 rfl).1, show ps_a s1 1135 = ps_a s 1135 from (K1.2 1135 rfl).1, show ps_a s1 1136 = ps_a s 1136 from (K1.2 1136 rfl).1, show ps_a s1 1137 = ps_a s 1137 from (K1.2 1137 rfl).1, show ps_a s1 1138 = ps_a s 1138 from (K1.2 1138 rfl).1, show ps_a s1 1139 = ps_a s 1139 from (K1.2 1139 rfl).1, show ps_a s1 1157 = ps_a s 1157 from (K1.2 1157 rfl).1, show ps_a s1 1176 = ps_a s 1176 from (K1.2 1176 rfl).1, show ps_i s1 1131 21 = ps_i s 1131 21 from kp_i K1 21 rfl, show ps_i s1 1131 47 = ps_i s 1131 47 from kp_i K1 47 rfl, show ps_i s1 1131 54 = ps_i s 1131 54 from kp_i K1 54 rfl]; exact hMI
  have hDg : ∀ j : Nat, j < 96 → 0 ≤ (ps_a s1 1169 j).toInt ∧ (ps_a s1 1169 j).toInt ≤ 2 := by rw [show ps_a s1 1169 = ps_a s 1169 from (K1.2 1169 rfl).1]; exact hDg
  have hFt : ∀ j : Nat, j < 12 → 0 ≤ (ps_a s1 1175 j).toInt ∧ (ps_a s1 1175 j).toInt ≤ 2 := by rw [show ps_a s1 1175 = ps_a s 1175 from (K1.2 1175 rfl).1]; exact hFt
  have p1_0' : v1.toInt ≤ 4096 := p1_0
  have p1_1' : v1.toInt < 0 ∨ (1 ≤ x1.toInt ∧ x1.toInt ≤ 3) := p1_1
  have hm0 : _ := p1_2
  exact ms_302_11 (x1 := x1) (σ := σ) k  (v1.toInt - (0 : Int)).toNat v1 (0) (0) _ J1 K2 hMI hDg hFt (hm0) (show v1.toInt < 0 ∨ (1 ≤ x1.toInt ∧ x1.toInt ≤ 3) from by omega) (show 0 ≤ (0 : Int) from by omega) (show 0 ≤ (0 : Int) from by omega) (show (0 : Int) ≤ (0 : Int) from by omega) (show v1.toInt ≤ 4096 from by omega) (show v1.toInt - (0 : Int) ≤ (((v1.toInt - (0 : Int)).toNat : Nat) : Int) from by omega)

-- ProofBenchModel.holds(II)I
theorem pg_303_0 {d : Nat} {x1 : Int32} {x2 : Int32} {s : ps_S} {Q : Option Value → ps_S → Prop} (h :
  ps_Cl d 200 [.int x1, .int 1, .int 3] s (ps_rI (fun v1 s1 =>
    (v1 = 0 →
      Q (some (.int (-1))) s1) ∧
    (v1 ≠ 0 →
      ps_Cl d 219 [.ref 1131, .int 25748] s1 (ps_rI (fun v2 s2 =>
        (v2 ≠ 0 →
          ps_Cl d 301 [.ref 1131, .int x1] s2 (ps_rI (fun v3 s3 =>
            (v3 < 0 →
              Q (some (.int (-2))) s3) ∧
            (0 ≤ v3 →
              ps_Cl d 298 [.ref 1131, .int 25748] s3 (ps_rI (fun v4 s4 =>
                (v4 ≤ 4 →
                  ps_Cl d 200 [.int x2, .int 0, .int (v3 - 1)] s4 (ps_rI (fun v5 s5 =>
                    (v5 ≠ 0 →
                      ps_Cl d 293 [.ref 1131, .int x2] s5 (ps_rV (fun s6 =>
                        ps_Cl d 299 [.ref 1131, .int 25748, .int x1] s6 (ps_rI (fun v7 s7 =>
                          (v7 = 0 →
                            Q (some (.int 0)) s7) ∧
                          (v7 ≠ 0 →
                            Q (some (.int 1)) s7)))))) ∧
                    (v5 = 0 →
                      Q (some (.int (-1))) s5)))) ∧
                (4 < v4 →
                  Q (some (.int (-2))) s4))))))) ∧
        (v2 = 0 →
          Q (some (.int (-1))) s2))))))) : ps_At (d + 1) 303 0 [(0, .ref 1131), (1, .int x1), (2, .int x2)] [] s Q :=
  ps_wp_at (stops := []) (n := 52) h rfl

theorem ms_303 {x : Nat → Nat → Nat} {t : Int32} {s : ps_S} {d : Nat} {x1 : Int32} {x2 : Int32} {f : Int32 → ps_S → Prop} (J : mJ x t s) {σ : mSig} (hMI : MI σ (ps_a s 1134) (ps_a s 1135) (ps_a s 1136) (ps_a s 1137) (ps_a s 1138) (ps_a s 1139) (ps_a s 1157) (ps_a s 1176) (ps_i s 1131 21).toInt (ps_i s 1131 47).toInt (ps_i s 1131 54).toInt) (hDg : ∀ j : Nat, j < 96 → 0 ≤ (ps_a s 1169 j).toInt ∧ (ps_a s 1169 j).toInt ≤ 2) (hFt : ∀ j : Nat, j < 12 → 0 ≤ (ps_a s 1175 j).toInt ∧ (ps_a s 1175 j).toInt ≤ 2) (k : ∀ (v : Int32) (s' : ps_S), mJ x t s' → kp [1150, 1169, 1170, 1171, 1172, 1173, 1174, 1175] [73] s s' → (∀ j : Nat, j < 96 → 0 ≤ (ps_a s' 1169 j).toInt ∧ (ps_a s' 1169 j).toInt ≤ 2) → (∀ j : Nat, j < 12 → 0 ≤ (ps_a s' 1175 j).toInt ∧ (ps_a s' 1175 j).toInt ≤ 2) → f v s') : ps_Cl (d + 5) 303 [.ref 1131, .int x1, .int x2] s (ps_rI f) := by
  have K : kp [1150, 1169, 1170, 1171, 1172, 1173, 1174, 1175] [73] s s := kp_refl
  refine pg_303_0 (d := d + 4) ?_
  refine ms_200 J  (fun v1 p1_0 b1 => ?_)
  have p1_0' : v1.toInt = 0 ∨ ((1 : Int) ≤ x1.toInt ∧ x1.toInt ≤ (3 : Int)) := p1_0
  refine And.intro (fun h2 => ?_) (fun h2 => ?_)
  · have f3 : v1.toInt = (0 : Int) := xeq h2
    exact k (-1 : Int32) _ J K hDg hFt
  · have f4 : v1.toInt ≠ (0 : Int) := xne h2
    refine pg_219_0 ?_
    refine ps_nd_i (show pm_in (25748 : Int32) 27400 = true from xgi (show 0 ≤ (25748 : Int) from by omega) (show (25748 : Int) < 27400 from by omega)) ?_
    have r5 : (25748 : Int) % 41 = 0 → (25748 : Int) < 27306 → 0 ≤ (ps_a s 1134 (Int32.toNatClampNeg (25748 : Int32))).toInt ∧ (ps_a s 1134 (Int32.toNatClampNeg (25748 : Int32))).toInt ≤ 40 := fun z1 z2 => mp_row (i := (25748 : Int32)) J z1 (show 0 ≤ (25748 : Int) from by omega) z2
    refine And.intro (fun h6 => ?_) (fun h6 => ?_)
    · have f7 : (ps_a s 1134 (Int32.toNatClampNeg (25748 : Int32))).toInt ≠ (0 : Int) := xne h6
      obtain ⟨l, hl1, hl2⟩ := hMI.2.2.2.2.1.resolve_left (fun z => absurd z (show ¬ ((ps_a s 1134 (Int32.toNatClampNeg (25748 : Int32))).toInt = 0) from by omega))
      have hS := MI_S hMI
      have hR : Rw (ps_a s 1134) (25748 : Int32).toInt l := by rw [show (25748 : Int32).toInt = 25748 from by decide]; exact hl1
      refine ms_301 J hS (fun v8 s8 J8 K8 p8_0 p8_1 p8_2 => ?_)
      have K9 := kpt K K8 rfl rfl
      have hMI : MI σ (ps_a s8 1134) (ps_a s8 1135) (ps_a s8 1136) (ps_a s8 1137) (ps_a s8 1138) (ps_a s8 1139) (ps_a s8 1157) (ps_a s8 1176) (ps_i s8 1131 21).toInt (ps_i s8 1131 47).toInt (ps_i s8 1131 54).toInt := by rw [show ps_a s8 1134 = ps_a s 1134 from (K8.2 1134 rfl).1, show ps_a s8 1135 = ps_a s 1135 from (K8.2 1135 rfl).1, show ps_a s8 1136 = ps_a s 1136 from (K8.2 1136 rfl).1, show ps_a s8 1137 = ps_a s 1137 from (K8.2 1137 rfl).1, show ps_a s8 1138 = ps_a s 1138 from (K8.2 1138 rfl).1, show ps_a s8 1139 = ps_a s 1139 from (K8.2 1139 rfl).1, show ps_a s8 1157 = ps_a s 1157 from (K8.2 1157 rfl).1, show ps_a s8 1176 = ps_a s 1176 from (K8.2 1176 rfl).1, show ps_i s8 1131 21 = ps_i s 1131 21 from kp_i K8 21 rfl, show ps_i s8 1131 47 = ps_i s 1131 47 from kp_i K8 47 rfl, show ps_i s8 1131 54 = ps_i s 1131 54 from kp_i K8 54 rfl]; exact hMI
      have hDg : ∀ j : Nat, j < 96 → 0 ≤ (ps_a s8 1169 j).toInt ∧ (ps_a s8 1169 j).toInt ≤ 2 := by rw [show ps_a s8 1169 = ps_a s 1169 from (K8.2 1169 rfl).1]; exact hDg
      have hFt : ∀ j : Nat, j < 12 → 0 ≤ (ps_a s8 1175 j).toInt ∧ (ps_a s8 1175 j).toInt ≤ 2 := by rw [show ps_a s8 1175 = ps_a s 1175 from (K8.2 1175 rfl).1]; exact hFt
      have hS : Sg (ps_a s8 1135) (ps_a s8 1136) (ps_a s8 1138) (ps_a s8 1139) (ps_i s8 1131 21).toInt σ := by rw [show ps_a s8 1135 = ps_a s 1135 from (K8.2 1135 rfl).1, show ps_a s8 1136 = ps_a s 1136 from (K8.2 1136 rfl).1, show ps_a s8 1138 = ps_a s 1138 from (K8.2 1138 rfl).1, show ps_a s8 1139 = ps_a s 1139 from (K8.2 1139 rfl).1, show ps_i s8 1131 21 = ps_i s 1131 21 from kp_i K8 21 rfl]; exact hS
      have hR : Rw (ps_a s8 1134) (25748 : Int32).toInt l := by rw [show ps_a s8 1134 = ps_a s 1134 from (K8.2 1134 rfl).1]; exact hR
      have p8_0' : v8.toInt ≤ 4096 := p8_0
      have p8_1' : v8.toInt < 0 ∨ (1 ≤ x1.toInt ∧ x1.toInt ≤ 3) := p8_1
      have hm0 : _ := p8_2
      refine And.intro (fun h10 => ?_) (fun h10 => ?_)
      · have f11 : v8.toInt < (0 : Int) := xlt h10
        exact k (-2 : Int32) _ J8 K9 hDg hFt
      · have f12 : (0 : Int) ≤ v8.toInt := xle h10
        refine ms_298 J8 hR (fun v13 p13_0 p13_1 => ?_)
        have p13_0' : 0 ≤ v13.toInt := p13_0
        have p13_1' : v13.toInt ≤ 12 := p13_1
        refine And.intro (fun h14 => ?_) (fun h14 => ?_)
        · have f15 : v13.toInt ≤ (4 : Int) := xle h14
          have a16 : (v8 - 1).toInt = v8.toInt - (1 : Int) := xIs (show -2147483648 ≤ v8.toInt - (1 : Int) from by omega) (show v8.toInt - (1 : Int) < 2147483648 from by omega)
          refine ms_200 J8  (fun v17 p17_0 b17 => ?_)
          have p17_0' : v17.toInt = 0 ∨ ((0 : Int) ≤ x2.toInt ∧ x2.toInt ≤ (v8 - 1).toInt) := p17_0
          refine And.intro (fun h18 => ?_) (fun h18 => ?_)
          · have f19 : v17.toInt ≠ (0 : Int) := xne h18
            obtain ⟨hBs, hFa⟩ := hm0 (by omega)
            refine ms_293 J8 hBs hDg (show 0 ≤ x2.toInt from by omega) (fun s20 J20 K20 p20_0 => ?_)
            have K21 := kpt K9 K20 rfl rfl
            have hMI : MI σ (ps_a s20 1134) (ps_a s20 1135) (ps_a s20 1136) (ps_a s20 1137) (ps_a s20 1138) (ps_a s20 1139) (ps_a s20 1157) (ps_a s20 1176) (ps_i s20 1131 21).toInt (ps_i s20 1131 47).toInt (ps_i s20 1131 54).toInt := by rw [show ps_a s20 1134 = ps_a s8 1134 from (K20.2 1134 rfl).1, show ps_a s20 1135 = ps_a s8 1135 from (K20.2 1135 rfl).1, show ps_a s20 1136 = ps_a s8 1136 from (K20.2 1136 rfl).1, show ps_a s20 1137 = ps_a s8 1137 from (K20.2 1137 rfl).1, show ps_a s20 1138 = ps_a s8 1138 from (K20.2 1138 rfl).1, show ps_a s20 1139 = ps_a s8 1139 from (K20.2 1139 rfl).1, show ps_a s20 1157 = ps_a s8 1157 from (K20.2 1157 rfl).1, show ps_a s20 1176 = ps_a s8 1176 from (K20.2 1176 rfl).1, show ps_i s20 1131 21 = ps_i s8 1131 21 from kp_i K20 21 rfl, show ps_i s20 1131 47 = ps_i s8 1131 47 from kp_i K20 47 rfl, show ps_i s20 1131 54 = ps_i s8 1131 54 from kp_i K20 54 rfl]; exact hMI
            have hFt : ∀ j : Nat, j < 12 → 0 ≤ (ps_a s20 1175 j).toInt ∧ (ps_a s20 1175 j).toInt ≤ 2 := by rw [show ps_a s20 1175 = ps_a s8 1175 from (K20.2 1175 rfl).1]; exact hFt
            have hS : Sg (ps_a s20 1135) (ps_a s20 1136) (ps_a s20 1138) (ps_a s20 1139) (ps_i s20 1131 21).toInt σ := by rw [show ps_a s20 1135 = ps_a s8 1135 from (K20.2 1135 rfl).1, show ps_a s20 1136 = ps_a s8 1136 from (K20.2 1136 rfl).1, show ps_a s20 1138 = ps_a s8 1138 from (K20.2 1138 rfl).1, show ps_a s20 1139 = ps_a s8 1139 from (K20.2 1139 rfl).1, show ps_i s20 1131 21 = ps_i s8 1131 21 from kp_i K20 21 rfl]; exact hS
            have hR : Rw (ps_a s20 1134) (25748 : Int32).toInt l := by rw [show ps_a s20 1134 = ps_a s8 1134 from (K20.2 1134 rfl).1]; exact hR
            have hBs : ∀ j : Nat, (j : Int) < (ps_i s20 1131 73).toInt → 1 ≤ (ps_a s20 1170 j).toInt ∧ (ps_a s20 1170 j).toInt ≤ 3 := by rw [show ps_a s20 1170 = ps_a s8 1170 from (K20.2 1170 rfl).1, show ps_i s20 1131 73 = ps_i s8 1131 73 from kp_i K20 73 rfl]; exact hBs
            have hFa : ∀ f : Nat, (f : Int) < (σ.1.2 : Int) → (ps_a s20 1172 f).toInt ≤ 87 := by rw [show ps_a s20 1172 = ps_a s8 1172 from (K20.2 1172 rfl).1]; exact hFa
            have hDg : ∀ j : Nat, j < 96 → 0 ≤ (ps_a s20 1169 j).toInt ∧ (ps_a s20 1169 j).toInt ≤ 2 := p20_0
            refine ms_299 J20 hS hR (hl2) (show 1 ≤ x1.toInt from by omega) (show x1.toInt ≤ 3 from by omega) hDg hFt hFa (fun v22 s22 J22 K22 p22_0 b22 => ?_)
            have K23 := kpt K21 K22 rfl rfl
            have hMI : MI σ (ps_a s22 1134) (ps_a s22 1135) (ps_a s22 1136) (ps_a s22 1137) (ps_a s22 1138) (ps_a s22 1139) (ps_a s22 1157) (ps_a s22 1176) (ps_i s22 1131 21).toInt (ps_i s22 1131 47).toInt (ps_i s22 1131 54).toInt := by rw [show ps_a s22 1134 = ps_a s20 1134 from (K22.2 1134 rfl).1, show ps_a s22 1135 = ps_a s20 1135 from (K22.2 1135 rfl).1, show ps_a s22 1136 = ps_a s20 1136 from (K22.2 1136 rfl).1, show ps_a s22 1137 = ps_a s20 1137 from (K22.2 1137 rfl).1, show ps_a s22 1138 = ps_a s20 1138 from (K22.2 1138 rfl).1, show ps_a s22 1139 = ps_a s20 1139 from (K22.2 1139 rfl).1, show ps_a s22 1157 = ps_a s20 1157 from (K22.2 1157 rfl).1, show ps_a s22 1176 = ps_a s20 1176 from (K22.2 1176 rfl).1, show ps_i s22 1131 21 = ps_i s20 1131 21 from kp_i K22 21 rfl, show ps_i s22 1131 47 = ps_i s20 1131 47 from kp_i K22 47 rfl, show ps_i s22 1131 54 = ps_i s20 1131 54 from kp_i K22 54 rfl]; exact hMI
            have hS : Sg (ps_a s22 1135) (ps_a s22 1136) (ps_a s22 1138) (ps_a s22 1139) (ps_i s22 1131 21).toInt σ := by rw [show ps_a s22 1135 = ps_a s20 1135 from (K22.2 1135 rfl).1, show ps_a s22 1136 = ps_a s20 1136 from (K22.2 1136 rfl).1, show ps_a s22 1138 = ps_a s20 1138 from (K22.2 1138 rfl).1, show ps_a s22 1139 = ps_a s20 1139 from (K22.2 1139 rfl).1, show ps_i s22 1131 21 = ps_i s20 1131 21 from kp_i K22 21 rfl]; exact hS
            have hR : Rw (ps_a s22 1134) (25748 : Int32).toInt l := by rw [show ps_a s22 1134 = ps_a s20 1134 from (K22.2 1134 rfl).1]; exact hR
            have hBs : ∀ j : Nat, (j : Int) < (ps_i s22 1131 73).toInt → 1 ≤ (ps_a s22 1170 j).toInt ∧ (ps_a s22 1170 j).toInt ≤ 3 := by rw [show ps_a s22 1170 = ps_a s20 1170 from (K22.2 1170 rfl).1, show ps_i s22 1131 73 = ps_i s20 1131 73 from kp_i K22 73 rfl]; exact hBs
            have hFa : ∀ f : Nat, (f : Int) < (σ.1.2 : Int) → (ps_a s22 1172 f).toInt ≤ 87 := by rw [show ps_a s22 1172 = ps_a s20 1172 from (K22.2 1172 rfl).1]; exact hFa
            have hDg : ∀ j : Nat, j < 96 → 0 ≤ (ps_a s22 1169 j).toInt ∧ (ps_a s22 1169 j).toInt ≤ 2 := by rw [show ps_a s22 1169 = ps_a s20 1169 from (K22.2 1169 rfl).1]; exact hDg
            have hFt : ∀ j : Nat, j < 12 → 0 ≤ (ps_a s22 1175 j).toInt ∧ (ps_a s22 1175 j).toInt ≤ 2 := p22_0
            refine And.intro (fun h24 => ?_) (fun h24 => ?_)
            · have f25 : v22.toInt = (0 : Int) := xeq h24
              exact k (0 : Int32) _ J22 K23 hDg hFt
            · have f26 : v22.toInt ≠ (0 : Int) := xne h24
              exact k (1 : Int32) _ J22 K23 hDg hFt
          · have f27 : v17.toInt = (0 : Int) := xeq h18
            exact k (-1 : Int32) _ J8 K9 hDg hFt
        · have f28 : (4 : Int) < v13.toInt := xlt h14
          exact k (-2 : Int32) _ J8 K9 hDg hFt
    · have f29 : (ps_a s 1134 (Int32.toNatClampNeg (25748 : Int32))).toInt = (0 : Int) := xeq h6
      exact k (-1 : Int32) _ J K hDg hFt

-- ProofBenchModel.counter(I)I
theorem pg_304_0 {d : Nat} {x1 : Int32} {s : ps_S} {Q : Option Value → ps_S → Prop} (h :
  ps_Cl d 200 [.int x1, .int 1, .int 3] s (ps_rI (fun v1 s1 =>
    (v1 = 0 →
      Q (some (.int (-1))) s1) ∧
    (v1 ≠ 0 →
      ps_Cl d 219 [.ref 1131, .int 25748] s1 (ps_rI (fun v2 s2 =>
        (v2 ≠ 0 →
          ps_Cl d 301 [.ref 1131, .int x1] s2 (ps_rI (fun v3 s3 =>
            (v3 < 0 →
              Q (some (.int (-2))) s3) ∧
            (0 ≤ v3 →
              ps_Cl d 298 [.ref 1131, .int 25748] s3 (ps_rI (fun v4 s4 =>
                (v4 ≤ 4 →
                  ps_At (d + 1) 304 47 [(0, .ref 1131), (1, .int x1), (2, .int v3), (3, .int 0)] [] s4 Q) ∧
                (4 < v4 →
                  Q (some (.int (-2))) s4))))))) ∧
        (v2 = 0 →
          Q (some (.int (-1))) s2))))))) : ps_At (d + 1) 304 0 [(0, .ref 1131), (1, .int x1)] [] s Q :=
  ps_wp_at (stops := [(47, [0, 1, 2, 3])]) (n := 32) h rfl

theorem pg_304_47 {d : Nat} {x1 : Int32} {x2 : Int32} {x3 : Int32} {s : ps_S} {Q : Option Value → ps_S → Prop} (h :
  (x2 ≤ x3 →
    Q (some (.int (-1))) s) ∧
  (x3 < x2 →
    ps_Cl d 293 [.ref 1131, .int x3] s (ps_rV (fun s1 =>
      ps_Cl d 300 [.ref 1131, .int x1] s1 (ps_rI (fun v2 s2 =>
        (v2 = 0 →
          ps_At (d + 1) 304 47 [(0, .ref 1131), (1, .int x1), (2, .int x2), (3, .int (x3 + 1))] [] s2 Q) ∧
        (v2 ≠ 0 →
          ps_Cl d 299 [.ref 1131, .int 25748, .int x1] s2 (ps_rI (fun v3 s3 =>
            (v3 ≠ 0 →
              ps_At (d + 1) 304 47 [(0, .ref 1131), (1, .int x1), (2, .int x2), (3, .int (x3 + 1))] [] s3 Q) ∧
            (v3 = 0 →
              Q (some (.int x3)) s3)))))))))) : ps_At (d + 1) 304 47 [(0, .ref 1131), (1, .int x1), (2, .int x2), (3, .int x3)] [] s Q :=
  ps_wp_at (stops := [(47, [0, 1, 2, 3])]) (n := 25) h rfl

theorem ms_304_47 {x : Nat → Nat → Nat} {t : Int32} {d : Nat} {s0 : ps_S} {σ : mSig} {x1 : Int32} {Q : Option Value → ps_S → Prop} (k : ∀ (v : Int32) (s' : ps_S), mJ x t s' → kp [1150, 1169, 1170, 1171, 1172, 1173, 1174, 1175] [73] s0 s' → (∀ j : Nat, j < 96 → 0 ≤ (ps_a s' 1169 j).toInt ∧ (ps_a s' 1169 j).toInt ≤ 2) → (∀ j : Nat, j < 12 → 0 ≤ (ps_a s' 1175 j).toInt ∧ (ps_a s' 1175 j).toInt ≤ 2) → Q (some (.int v)) s') : ∀ (n : Nat) (x2 : Int32) (x3 : Int32) (l : List Nat) (s : ps_S), (mJ x t s) → (kp [1150, 1169, 1170, 1171, 1172, 1173, 1174, 1175] [73] s0 s) → (MI σ (ps_a s 1134) (ps_a s 1135) (ps_a s 1136) (ps_a s 1137) (ps_a s 1138) (ps_a s 1139) (ps_a s 1157) (ps_a s 1176) (ps_i s 1131 21).toInt (ps_i s 1131 47).toInt (ps_i s 1131 54).toInt) → (∀ j : Nat, j < 96 → 0 ≤ (ps_a s 1169 j).toInt ∧ (ps_a s 1169 j).toInt ≤ 2) → (∀ j : Nat, j < 12 → 0 ≤ (ps_a s 1175 j).toInt ∧ (ps_a s 1175 j).toInt ≤ 2) → (0 ≤ x2.toInt → (∀ j : Nat, (j : Int) < (ps_i s 1131 73).toInt → 1 ≤ (ps_a s 1170 j).toInt ∧ (ps_a s 1170 j).toInt ≤ 3) ∧ (∀ f : Nat, (f : Int) < (σ.1.2 : Int) → (ps_a s 1172 f).toInt ≤ 87)) → (Rw (ps_a s 1134) (25748 : Int32).toInt l) → (wf σ 5 l [(true, 0)]) → (1 ≤ x1.toInt) → (x1.toInt ≤ 3) → (0 ≤ x3.toInt) → (Sg (ps_a s 1135) (ps_a s 1136) (ps_a s 1138) (ps_a s 1139) (ps_i s 1131 21).toInt σ) → x2.toInt - x3.toInt ≤ (n : Int) → ps_At (d + 6) 304 47 [(0, .ref 1131), (1, .int x1), (2, .int x2), (3, .int x3)] [] s Q := by
  refine xstr (fun n ih => ?_)
  intro x2 x3 l s J K hMI hDg hFt hmo hR i5 i6 i7 i8 hS hm
  refine pg_304_47 (d := d + 5) ?_
  have hx2 := Int32.toInt_lt x2
  refine And.intro (fun h1 => ?_) (fun h1 => ?_)
  · have f2 : x2.toInt ≤ x3.toInt := xle h1
    exact k (-1 : Int32) _ J K hDg hFt
  · have f3 : x3.toInt < x2.toInt := xlt h1
    obtain ⟨hBs, hFa⟩ := hmo (by omega)
    refine ms_293 J hBs hDg (show 0 ≤ x3.toInt from by omega) (fun s4 J4 K4 p4_0 => ?_)
    have K5 := kpt K K4 rfl rfl
    have hMI : MI σ (ps_a s4 1134) (ps_a s4 1135) (ps_a s4 1136) (ps_a s4 1137) (ps_a s4 1138) (ps_a s4 1139) (ps_a s4 1157) (ps_a s4 1176) (ps_i s4 1131 21).toInt (ps_i s4 1131 47).toInt (ps_i s4 1131 54).toInt := by rw [show ps_a s4 1134 = ps_a s 1134 from (K4.2 1134 rfl).1, show ps_a s4 1135 = ps_a s 1135 from (K4.2 1135 rfl).1, show ps_a s4 1136 = ps_a s 1136 from (K4.2 1136 rfl).1, show ps_a s4 1137 = ps_a s 1137 from (K4.2 1137 rfl).1, show ps_a s4 1138 = ps_a s 1138 from (K4.2 1138 rfl).1, show ps_a s4 1139 = ps_a s 1139 from (K4.2 1139 rfl).1, show ps_a s4 1157 = ps_a s 1157 from (K4.2 1157 rfl).1, show ps_a s4 1176 = ps_a s 1176 from (K4.2 1176 rfl).1, show ps_i s4 1131 21 = ps_i s 1131 21 from kp_i K4 21 rfl, show ps_i s4 1131 47 = ps_i s 1131 47 from kp_i K4 47 rfl, show ps_i s4 1131 54 = ps_i s 1131 54 from kp_i K4 54 rfl]; exact hMI
    have hFt : ∀ j : Nat, j < 12 → 0 ≤ (ps_a s4 1175 j).toInt ∧ (ps_a s4 1175 j).toInt ≤ 2 := by rw [show ps_a s4 1175 = ps_a s 1175 from (K4.2 1175 rfl).1]; exact hFt
    have hmo : 0 ≤ x2.toInt → (∀ j : Nat, (j : Int) < (ps_i s4 1131 73).toInt → 1 ≤ (ps_a s4 1170 j).toInt ∧ (ps_a s4 1170 j).toInt ≤ 3) ∧ (∀ f : Nat, (f : Int) < (σ.1.2 : Int) → (ps_a s4 1172 f).toInt ≤ 87) := by rw [show ps_a s4 1170 = ps_a s 1170 from (K4.2 1170 rfl).1, show ps_a s4 1172 = ps_a s 1172 from (K4.2 1172 rfl).1, show ps_i s4 1131 73 = ps_i s 1131 73 from kp_i K4 73 rfl]; exact hmo
    have hR : Rw (ps_a s4 1134) (25748 : Int32).toInt l := by rw [show ps_a s4 1134 = ps_a s 1134 from (K4.2 1134 rfl).1]; exact hR
    have hS : Sg (ps_a s4 1135) (ps_a s4 1136) (ps_a s4 1138) (ps_a s4 1139) (ps_i s4 1131 21).toInt σ := by rw [show ps_a s4 1135 = ps_a s 1135 from (K4.2 1135 rfl).1, show ps_a s4 1136 = ps_a s 1136 from (K4.2 1136 rfl).1, show ps_a s4 1138 = ps_a s 1138 from (K4.2 1138 rfl).1, show ps_a s4 1139 = ps_a s 1139 from (K4.2 1139 rfl).1, show ps_i s4 1131 21 = ps_i s 1131 21 from kp_i K4 21 rfl]; exact hS
    have hBs : ∀ j : Nat, (j : Int) < (ps_i s4 1131 73).toInt → 1 ≤ (ps_a s4 1170 j).toInt ∧ (ps_a s4 1170 j).toInt ≤ 3 := by rw [show ps_a s4 1170 = ps_a s 1170 from (K4.2 1170 rfl).1, show ps_i s4 1131 73 = ps_i s 1131 73 from kp_i K4 73 rfl]; exact hBs
    have hFa : ∀ f : Nat, (f : Int) < (σ.1.2 : Int) → (ps_a s4 1172 f).toInt ≤ 87 := by rw [show ps_a s4 1172 = ps_a s 1172 from (K4.2 1172 rfl).1]; exact hFa
    have hDg : ∀ j : Nat, j < 96 → 0 ≤ (ps_a s4 1169 j).toInt ∧ (ps_a s4 1169 j).toInt ≤ 2 := p4_0
    refine ms_300 J4 hMI (show 1 ≤ x1.toInt from by omega) (show x1.toInt ≤ 3 from by omega) hDg hFt hFa (fun v6 s6 J6 K6 p6_0 b6 => ?_)
    have K7 := kpt K5 K6 rfl rfl
    have hMI : MI σ (ps_a s6 1134) (ps_a s6 1135) (ps_a s6 1136) (ps_a s6 1137) (ps_a s6 1138) (ps_a s6 1139) (ps_a s6 1157) (ps_a s6 1176) (ps_i s6 1131 21).toInt (ps_i s6 1131 47).toInt (ps_i s6 1131 54).toInt := by rw [show ps_a s6 1134 = ps_a s4 1134 from (K6.2 1134 rfl).1, show ps_a s6 1135 = ps_a s4 1135 from (K6.2 1135 rfl).1, show ps_a s6 1136 = ps_a s4 1136 from (K6.2 1136 rfl).1, show ps_a s6 1137 = ps_a s4 1137 from (K6.2 1137 rfl).1, show ps_a s6 1138 = ps_a s4 1138 from (K6.2 1138 rfl).1, show ps_a s6 1139 = ps_a s4 1139 from (K6.2 1139 rfl).1, show ps_a s6 1157 = ps_a s4 1157 from (K6.2 1157 rfl).1, show ps_a s6 1176 = ps_a s4 1176 from (K6.2 1176 rfl).1, show ps_i s6 1131 21 = ps_i s4 1131 21 from kp_i K6 21 rfl, show ps_i s6 1131 47 = ps_i s4 1131 47 from kp_i K6 47 rfl, show ps_i s6 1131 54 = ps_i s4 1131 54 from kp_i K6 54 rfl]; exact hMI
    have hmo : 0 ≤ x2.toInt → (∀ j : Nat, (j : Int) < (ps_i s6 1131 73).toInt → 1 ≤ (ps_a s6 1170 j).toInt ∧ (ps_a s6 1170 j).toInt ≤ 3) ∧ (∀ f : Nat, (f : Int) < (σ.1.2 : Int) → (ps_a s6 1172 f).toInt ≤ 87) := by rw [show ps_a s6 1170 = ps_a s4 1170 from (K6.2 1170 rfl).1, show ps_a s6 1172 = ps_a s4 1172 from (K6.2 1172 rfl).1, show ps_i s6 1131 73 = ps_i s4 1131 73 from kp_i K6 73 rfl]; exact hmo
    have hR : Rw (ps_a s6 1134) (25748 : Int32).toInt l := by rw [show ps_a s6 1134 = ps_a s4 1134 from (K6.2 1134 rfl).1]; exact hR
    have hS : Sg (ps_a s6 1135) (ps_a s6 1136) (ps_a s6 1138) (ps_a s6 1139) (ps_i s6 1131 21).toInt σ := by rw [show ps_a s6 1135 = ps_a s4 1135 from (K6.2 1135 rfl).1, show ps_a s6 1136 = ps_a s4 1136 from (K6.2 1136 rfl).1, show ps_a s6 1138 = ps_a s4 1138 from (K6.2 1138 rfl).1, show ps_a s6 1139 = ps_a s4 1139 from (K6.2 1139 rfl).1, show ps_i s6 1131 21 = ps_i s4 1131 21 from kp_i K6 21 rfl]; exact hS
    have hBs : ∀ j : Nat, (j : Int) < (ps_i s6 1131 73).toInt → 1 ≤ (ps_a s6 1170 j).toInt ∧ (ps_a s6 1170 j).toInt ≤ 3 := by rw [show ps_a s6 1170 = ps_a s4 1170 from (K6.2 1170 rfl).1, show ps_i s6 1131 73 = ps_i s4 1131 73 from kp_i K6 73 rfl]; exact hBs
    have hFa : ∀ f : Nat, (f : Int) < (σ.1.2 : Int) → (ps_a s6 1172 f).toInt ≤ 87 := by rw [show ps_a s6 1172 = ps_a s4 1172 from (K6.2 1172 rfl).1]; exact hFa
    have hDg : ∀ j : Nat, j < 96 → 0 ≤ (ps_a s6 1169 j).toInt ∧ (ps_a s6 1169 j).toInt ≤ 2 := by rw [show ps_a s6 1169 = ps_a s4 1169 from (K6.2 1169 rfl).1]; exact hDg
    have hFt : ∀ j : Nat, j < 12 → 0 ≤ (ps_a s6 1175 j).toInt ∧ (ps_a s6 1175 j).toInt ≤ 2 := p6_0
    refine And.intro (fun h8 => ?_) (fun h8 => ?_)
    · have f9 : v6.toInt = (0 : Int) := xeq h8
      have a10 : (x3 + 1).toInt = x3.toInt + (1 : Int) := xIa (show -2147483648 ≤ x3.toInt + (1 : Int) from by omega) (show x3.toInt + (1 : Int) < 2147483648 from by omega)
      exact ih (n - 1) (show n - 1 < n from by omega) x2 (x3 + 1) l _ J6 K7 hMI hDg hFt hmo hR (by assumption) (show 1 ≤ x1.toInt from by omega) (show x1.toInt ≤ 3 from by omega) (show 0 ≤ (x3 + 1).toInt from by omega) hS (show x2.toInt - (x3 + 1).toInt ≤ ((n - 1 : Nat) : Int) from by omega)
    · have f11 : v6.toInt ≠ (0 : Int) := xne h8
      refine ms_299 J6 hS hR (i5) (show 1 ≤ x1.toInt from by omega) (show x1.toInt ≤ 3 from by omega) hDg hFt hFa (fun v12 s12 J12 K12 p12_0 b12 => ?_)
      have K13 := kpt K7 K12 rfl rfl
      have hMI : MI σ (ps_a s12 1134) (ps_a s12 1135) (ps_a s12 1136) (ps_a s12 1137) (ps_a s12 1138) (ps_a s12 1139) (ps_a s12 1157) (ps_a s12 1176) (ps_i s12 1131 21).toInt (ps_i s12 1131 47).toInt (ps_i s12 1131 54).toInt := by rw [show ps_a s12 1134 = ps_a s6 1134 from (K12.2 1134 rfl).1, show ps_a s12 1135 = ps_a s6 1135 from (K12.2 1135 rfl).1, show ps_a s12 1136 = ps_a s6 1136 from (K12.2 1136 rfl).1, show ps_a s12 1137 = ps_a s6 1137 from (K12.2 1137 rfl).1, show ps_a s12 1138 = ps_a s6 1138 from (K12.2 1138 rfl).1, show ps_a s12 1139 = ps_a s6 1139 from (K12.2 1139 rfl).1, show ps_a s12 1157 = ps_a s6 1157 from (K12.2 1157 rfl).1, show ps_a s12 1176 = ps_a s6 1176 from (K12.2 1176 rfl).1, show ps_i s12 1131 21 = ps_i s6 1131 21 from kp_i K12 21 rfl, show ps_i s12 1131 47 = ps_i s6 1131 47 from kp_i K12 47 rfl, show ps_i s12 1131 54 = ps_i s6 1131 54 from kp_i K12 54 rfl]; exact hMI
      have hmo : 0 ≤ x2.toInt → (∀ j : Nat, (j : Int) < (ps_i s12 1131 73).toInt → 1 ≤ (ps_a s12 1170 j).toInt ∧ (ps_a s12 1170 j).toInt ≤ 3) ∧ (∀ f : Nat, (f : Int) < (σ.1.2 : Int) → (ps_a s12 1172 f).toInt ≤ 87) := by rw [show ps_a s12 1170 = ps_a s6 1170 from (K12.2 1170 rfl).1, show ps_a s12 1172 = ps_a s6 1172 from (K12.2 1172 rfl).1, show ps_i s12 1131 73 = ps_i s6 1131 73 from kp_i K12 73 rfl]; exact hmo
      have hR : Rw (ps_a s12 1134) (25748 : Int32).toInt l := by rw [show ps_a s12 1134 = ps_a s6 1134 from (K12.2 1134 rfl).1]; exact hR
      have hS : Sg (ps_a s12 1135) (ps_a s12 1136) (ps_a s12 1138) (ps_a s12 1139) (ps_i s12 1131 21).toInt σ := by rw [show ps_a s12 1135 = ps_a s6 1135 from (K12.2 1135 rfl).1, show ps_a s12 1136 = ps_a s6 1136 from (K12.2 1136 rfl).1, show ps_a s12 1138 = ps_a s6 1138 from (K12.2 1138 rfl).1, show ps_a s12 1139 = ps_a s6 1139 from (K12.2 1139 rfl).1, show ps_i s12 1131 21 = ps_i s6 1131 21 from kp_i K12 21 rfl]; exact hS
      have hBs : ∀ j : Nat, (j : Int) < (ps_i s12 1131 73).toInt → 1 ≤ (ps_a s12 1170 j).toInt ∧ (ps_a s12 1170 j).toInt ≤ 3 := by rw [show ps_a s12 1170 = ps_a s6 1170 from (K12.2 1170 rfl).1, show ps_i s12 1131 73 = ps_i s6 1131 73 from kp_i K12 73 rfl]; exact hBs
      have hFa : ∀ f : Nat, (f : Int) < (σ.1.2 : Int) → (ps_a s12 1172 f).toInt ≤ 87 := by rw [show ps_a s12 1172 = ps_a s6 1172 from (K12.2 1172 rfl).1]; exact hFa
      have hDg : ∀ j : Nat, j < 96 → 0 ≤ (ps_a s12 1169 j).toInt ∧ (ps_a s12 1169 j).toInt ≤ 2 := by rw [show ps_a s12 1169 = ps_a s6 1169 from (K12.2 1169 rfl).1]; exact hDg
      have hFt : ∀ j : Nat, j < 12 → 0 ≤ (ps_a s12 1175 j).toInt ∧ (ps_a s12 1175 j).toInt ≤ 2 := p12_0
      refine And.intro (fun h14 => ?_) (fun h14 => ?_)
      · have f15 : v12.toInt ≠ (0 : Int) := xne h14
        have a16 : (x3 + 1).toInt = x3.toInt + (1 : Int) := xIa (show -2147483648 ≤ x3.toInt + (1 : Int) from by omega) (show x3.toInt + (1 : Int) < 2147483648 from by omega)
        exact ih (n - 1) (show n - 1 < n from by omega) x2 (x3 + 1) l _ J12 K13 hMI hDg hFt hmo hR (by assumption) (show 1 ≤ x1.toInt from by omega) (show x1.toInt ≤ 3 from by omega) (show 0 ≤ (x3 + 1).toInt from by omega) hS (show x2.toInt - (x3 + 1).toInt ≤ ((n - 1 : Nat) : Int) from by omega)
      · have f17 : v12.toInt = (0 : Int) := xeq h14
        exact k x3 _ J12 K13 hDg hFt

theorem ms_304 {x : Nat → Nat → Nat} {t : Int32} {s : ps_S} {d : Nat} {x1 : Int32} {f : Int32 → ps_S → Prop} (J : mJ x t s) {σ : mSig} (hMI : MI σ (ps_a s 1134) (ps_a s 1135) (ps_a s 1136) (ps_a s 1137) (ps_a s 1138) (ps_a s 1139) (ps_a s 1157) (ps_a s 1176) (ps_i s 1131 21).toInt (ps_i s 1131 47).toInt (ps_i s 1131 54).toInt) (hDg : ∀ j : Nat, j < 96 → 0 ≤ (ps_a s 1169 j).toInt ∧ (ps_a s 1169 j).toInt ≤ 2) (hFt : ∀ j : Nat, j < 12 → 0 ≤ (ps_a s 1175 j).toInt ∧ (ps_a s 1175 j).toInt ≤ 2) (k : ∀ (v : Int32) (s' : ps_S), mJ x t s' → kp [1150, 1169, 1170, 1171, 1172, 1173, 1174, 1175] [73] s s' → (∀ j : Nat, j < 96 → 0 ≤ (ps_a s' 1169 j).toInt ∧ (ps_a s' 1169 j).toInt ≤ 2) → (∀ j : Nat, j < 12 → 0 ≤ (ps_a s' 1175 j).toInt ∧ (ps_a s' 1175 j).toInt ≤ 2) → f v s') : ps_Cl (d + 6) 304 [.ref 1131, .int x1] s (ps_rI f) := by
  have K : kp [1150, 1169, 1170, 1171, 1172, 1173, 1174, 1175] [73] s s := kp_refl
  refine pg_304_0 (d := d + 5) ?_
  refine ms_200 J  (fun v1 p1_0 b1 => ?_)
  have p1_0' : v1.toInt = 0 ∨ ((1 : Int) ≤ x1.toInt ∧ x1.toInt ≤ (3 : Int)) := p1_0
  refine And.intro (fun h2 => ?_) (fun h2 => ?_)
  · have f3 : v1.toInt = (0 : Int) := xeq h2
    exact k (-1 : Int32) _ J K hDg hFt
  · have f4 : v1.toInt ≠ (0 : Int) := xne h2
    refine pg_219_0 ?_
    refine ps_nd_i (show pm_in (25748 : Int32) 27400 = true from xgi (show 0 ≤ (25748 : Int) from by omega) (show (25748 : Int) < 27400 from by omega)) ?_
    have r5 : (25748 : Int) % 41 = 0 → (25748 : Int) < 27306 → 0 ≤ (ps_a s 1134 (Int32.toNatClampNeg (25748 : Int32))).toInt ∧ (ps_a s 1134 (Int32.toNatClampNeg (25748 : Int32))).toInt ≤ 40 := fun z1 z2 => mp_row (i := (25748 : Int32)) J z1 (show 0 ≤ (25748 : Int) from by omega) z2
    refine And.intro (fun h6 => ?_) (fun h6 => ?_)
    · have f7 : (ps_a s 1134 (Int32.toNatClampNeg (25748 : Int32))).toInt ≠ (0 : Int) := xne h6
      obtain ⟨l, hl1, hl2⟩ := hMI.2.2.2.2.1.resolve_left (fun z => absurd z (show ¬ ((ps_a s 1134 (Int32.toNatClampNeg (25748 : Int32))).toInt = 0) from by omega))
      have hS := MI_S hMI
      have hR : Rw (ps_a s 1134) (25748 : Int32).toInt l := by rw [show (25748 : Int32).toInt = 25748 from by decide]; exact hl1
      refine ms_301 J hS (fun v8 s8 J8 K8 p8_0 p8_1 p8_2 => ?_)
      have K9 := kpt K K8 rfl rfl
      have hMI : MI σ (ps_a s8 1134) (ps_a s8 1135) (ps_a s8 1136) (ps_a s8 1137) (ps_a s8 1138) (ps_a s8 1139) (ps_a s8 1157) (ps_a s8 1176) (ps_i s8 1131 21).toInt (ps_i s8 1131 47).toInt (ps_i s8 1131 54).toInt := by rw [show ps_a s8 1134 = ps_a s 1134 from (K8.2 1134 rfl).1, show ps_a s8 1135 = ps_a s 1135 from (K8.2 1135 rfl).1, show ps_a s8 1136 = ps_a s 1136 from (K8.2 1136 rfl).1, show ps_a s8 1137 = ps_a s 1137 from (K8.2 1137 rfl).1, show ps_a s8 1138 = ps_a s 1138 from (K8.2 1138 rfl).1, show ps_a s8 1139 = ps_a s 1139 from (K8.2 1139 rfl).1, show ps_a s8 1157 = ps_a s 1157 from (K8.2 1157 rfl).1, show ps_a s8 1176 = ps_a s 1176 from (K8.2 1176 rfl).1, show ps_i s8 1131 21 = ps_i s 1131 21 from kp_i K8 21 rfl, show ps_i s8 1131 47 = ps_i s 1131 47 from kp_i K8 47 rfl, show ps_i s8 1131 54 = ps_i s 1131 54 from kp_i K8 54 rfl]; exact hMI
      have hDg : ∀ j : Nat, j < 96 → 0 ≤ (ps_a s8 1169 j).toInt ∧ (ps_a s8 1169 j).toInt ≤ 2 := by rw [show ps_a s8 1169 = ps_a s 1169 from (K8.2 1169 rfl).1]; exact hDg
      have hFt : ∀ j : Nat, j < 12 → 0 ≤ (ps_a s8 1175 j).toInt ∧ (ps_a s8 1175 j).toInt ≤ 2 := by rw [show ps_a s8 1175 = ps_a s 1175 from (K8.2 1175 rfl).1]; exact hFt
      have hS : Sg (ps_a s8 1135) (ps_a s8 1136) (ps_a s8 1138) (ps_a s8 1139) (ps_i s8 1131 21).toInt σ := by rw [show ps_a s8 1135 = ps_a s 1135 from (K8.2 1135 rfl).1, show ps_a s8 1136 = ps_a s 1136 from (K8.2 1136 rfl).1, show ps_a s8 1138 = ps_a s 1138 from (K8.2 1138 rfl).1, show ps_a s8 1139 = ps_a s 1139 from (K8.2 1139 rfl).1, show ps_i s8 1131 21 = ps_i s 1131 21 from kp_i K8 21 rfl]; exact hS
      have hR : Rw (ps_a s8 1134) (25748 : Int32).toInt l := by rw [show ps_a s8 1134 = ps_a s 1134 from (K8.2 1134 rfl).1]; exact hR
      have p8_0' : v8.toInt ≤ 4096 := p8_0
      have p8_1' : v8.toInt < 0 ∨ (1 ≤ x1.toInt ∧ x1.toInt ≤ 3) := p8_1
      have hm0 : _ := p8_2
      refine And.intro (fun h10 => ?_) (fun h10 => ?_)
      · have f11 : v8.toInt < (0 : Int) := xlt h10
        exact k (-2 : Int32) _ J8 K9 hDg hFt
      · have f12 : (0 : Int) ≤ v8.toInt := xle h10
        refine ms_298 J8 hR (fun v13 p13_0 p13_1 => ?_)
        have p13_0' : 0 ≤ v13.toInt := p13_0
        have p13_1' : v13.toInt ≤ 12 := p13_1
        refine And.intro (fun h14 => ?_) (fun h14 => ?_)
        · have f15 : v13.toInt ≤ (4 : Int) := xle h14
          exact ms_304_47 (x1 := x1) (σ := σ) k  (v8.toInt - (0 : Int)).toNat v8 (0) l _ J8 K9 hMI hDg hFt (hm0) hR (hl2) (show 1 ≤ x1.toInt from by omega) (show x1.toInt ≤ 3 from by omega) (show 0 ≤ (0 : Int) from by omega) hS (show v8.toInt - (0 : Int) ≤ (((v8.toInt - (0 : Int)).toNat : Nat) : Int) from by omega)
        · have f16 : (4 : Int) < v13.toInt := xlt h14
          exact k (-2 : Int32) _ J8 K9 hDg hFt
    · have f17 : (ps_a s 1134 (Int32.toNatClampNeg (25748 : Int32))).toInt = (0 : Int) := xeq h6
      exact k (-1 : Int32) _ J K hDg hFt
end
section
/-! THE START: the state behind the two constructors -/
def ps_s1 : ps_S := (((fun r q => match pm_wx r with
  | .inr (_, fs) => (match fs[q]? with
    | some (.int v) => v
    | _ => 0)
  | _ => 0), ((fun r q => match pm_wx r with
  | .inr (_, fs) => (match fs[q]? with
    | some (.long v) => v
    | _ => 0)
  | _ => 0), (fun r q => match pm_wx r with
  | .inr (_, fs) => (match fs[q]? with
    | some (.ref v) => v
    | _ => 0)
  | _ => 0))), ((fun r i => match pm_wx r with
  | .inl (_, _, .inl f) => pm_rd 0 f i
  | _ => 0), (fun r i => match pm_wx r with
  | .inl (_, _, .inr (.inl f)) => pm_rd 0 f i
  | _ => 0)))
def s1_v (c q : Nat) (v : Value) : Bool := match (pm_Ts c).getD q .int with
  | .long => (match v with
    | .long _ => true
    | _ => false)
  | .object _ => (match v with
    | .ref _ => true
    | _ => false)
  | .array _ => (match v with
    | .ref _ => true
    | _ => false)
  | _ => (match v with
    | .int _ => true
    | _ => false)
def s1_fs (c : Nat) : Nat → List Value → Bool
  | _, [] => true
  | q, v :: l => s1_v c q v && s1_fs c (q + 1) l
theorem s1_fs_ok {c : Nat} : ∀ {l : List Value} {q j : Nat} {v : Value}, s1_fs c q l = true → l[j]? = some v → s1_v c (q + j) v = true
  | [], q, j, v, _, h => by simp at h
  | u :: l, q, 0, v, h, hj => by
    unfold s1_fs at h
    rw [Bool.and_eq_true] at h
    simp at hj
    subst hj
    exact h.1
  | u :: l, q, j + 1, v, h, hj => by
    unfold s1_fs at h
    rw [Bool.and_eq_true] at h
    have := s1_fs_ok (j := j) h.2 (by simpa using hj)
    rw [show q + (j + 1) = q + 1 + j from by omega]
    exact this
def s1_so (f : List (Nat × Option Nat)) : Nat → Bool
  | 0 => true
  | n + 1 => (pm_rd none f n).isSome && s1_so f n
theorem s1_so_ok {f : List (Nat × Option Nat)} : ∀ {n i : Nat}, s1_so f n = true → i < n → (pm_rd none f i).isSome = true
  | 0, i, _, h => by omega
  | n + 1, i, h, hi => by
    unfold s1_so at h
    rw [Bool.and_eq_true] at h
    by_cases e : i = n
    · rw [e]; exact h.1
    · exact s1_so_ok h.2 (by omega)
def s1_xF : Nat → List (Nat × Nat)
  | 0 => [(14, 5), (15, 6), (16, 9)]
  | 2 => [(6, 9)]
  | 3 => [(5, 9), (6, 5)]
  | 10 => [(1, 101)]
  | 11 => [(2, 9), (3, 9), (4, 2), (5, 2)]
  | _ => []
theorem s1_xF_ok {c q k : Nat} (h : xF c q = some k) : (q, k) ∈ s1_xF c := by
  unfold xF at h
  split at h <;> first | (cases h; decide) | cases h
def s1_ok (r : Nat) : Bool := match pm_wx r with
  | .inl (t, _, .inl _) => Nat.blt t 3
  | .inl (t, _, .inr (.inl _)) => Nat.beq t 3
  | .inl (t, n, .inr (.inr f)) => Nat.blt 3 t && (Nat.blt t 8 && s1_so f n)
  | .inr (c, fs) => Nat.beq fs.length (pm_Ts c).length && (s1_fs c 0 fs && (s1_xF c).all (fun p => xKb p.2 (ps_r ps_s1 r p.1)))
def s1_all (a : Nat) : Nat → Bool
  | 0 => true
  | n + 1 => s1_ok (a + n) && s1_all a n
theorem s1_all_ok {a : Nat} : ∀ {n : Nat}, s1_all a n = true → ∀ r, a ≤ r → r < a + n → s1_ok r = true
  | 0, _, r, h1, h2 => by omega
  | n + 1, h, r, h1, h2 => by
    unfold s1_all at h
    rw [Bool.and_eq_true] at h
    by_cases e : r = a + n
    · rw [e]; exact h.1
    · exact s1_all_ok h.2 r h1 (by omega)
set_option maxRecDepth 1000000
theorem s1_c0 : s1_all 0 200 = true := by decide +kernel
theorem s1_c1 : s1_all 200 200 = true := by decide +kernel
theorem s1_c2 : s1_all 400 200 = true := by decide +kernel
theorem s1_c3 : s1_all 600 200 = true := by decide +kernel
theorem s1_c4 : s1_all 800 200 = true := by decide +kernel
theorem s1_c5 : s1_all 1000 179 = true := by decide +kernel
theorem s1_every {r : Nat} (h : r < 1179) : s1_ok r = true := by
  rcases Nat.lt_or_ge r 200 with g | g
  · exact s1_all_ok s1_c0 r (by omega) (by omega)
  rcases Nat.lt_or_ge r 400 with g2 | g2
  · exact s1_all_ok s1_c1 r (by omega) (by omega)
  rcases Nat.lt_or_ge r 600 with g3 | g3
  · exact s1_all_ok s1_c2 r (by omega) (by omega)
  rcases Nat.lt_or_ge r 800 with g4 | g4
  · exact s1_all_ok s1_c3 r (by omega) (by omega)
  rcases Nat.lt_or_ge r 1000 with g5 | g5
  · exact s1_all_ok s1_c4 r (by omega) (by omega)
  · exact s1_all_ok s1_c5 r (by omega) (by omega)
theorem s1_R : ps_R pm_w1 ps_s1 := by
  refine ⟨rfl, fun r hr => ⟨rfl, ?_⟩⟩
  have h := s1_every hr
  show ps_Ok r (pm_wx r) ps_s1
  unfold s1_ok at h
  unfold ps_Ok
  split
  · next t n f e =>
    rw [e] at h
    exact ⟨Nat.le_of_ble_eq_true h, fun i _ => by
      show _ = (match pm_wx r with
        | .inl (_, _, .inl f) => pm_rd 0 f i
        | _ => 0)
      rw [e]⟩
  · next t n f e =>
    rw [e] at h
    exact ⟨Nat.eq_of_beq_eq_true h, fun i _ => by
      show _ = (match pm_wx r with
        | .inl (_, _, .inr (.inl f)) => pm_rd 0 f i
        | _ => 0)
      rw [e]⟩
  · next t n f e =>
    rw [e] at h
    dsimp only at h
    rw [Bool.and_eq_true, Bool.and_eq_true] at h
    refine ⟨⟨Nat.le_of_ble_eq_true h.1, Nat.le_of_ble_eq_true h.2.1⟩, fun i hi => ?_⟩
    have := s1_so_ok h.2.2 hi
    unfold ps_e0
    rw [e]
    dsimp only
    cases g : pm_rd none f i with
    | none => rw [g] at this; cases this
    | some x => rfl
  · next c fs e =>
    rw [e] at h
    dsimp only at h
    rw [Bool.and_eq_true, Bool.and_eq_true] at h
    have hl := Nat.eq_of_beq_eq_true h.1
    refine ⟨hl, fun q hq => ?_⟩
    have hq2 : q < fs.length := by omega
    obtain ⟨v, hv⟩ : ∃ v, fs[q]? = some v := ⟨fs[q], List.getElem?_eq_getElem hq2⟩
    have k := s1_fs_ok h.2.1 hv
    rw [Nat.zero_add] at k
    rw [hv]
    have e1 : ∀ x, v = .int x → ps_i ps_s1 r q = x := fun x z => by
      show (match pm_wx r with
        | .inr (_, fs) => (match fs[q]? with
          | some (.int v) => v
          | _ => 0)
        | _ => 0) = x
      rw [e]; dsimp only; rw [hv, z]
    have e2 : ∀ x, v = .long x → ps_j ps_s1 r q = x := fun x z => by
      show (match pm_wx r with
        | .inr (_, fs) => (match fs[q]? with
          | some (.long v) => v
          | _ => 0)
        | _ => 0) = x
      rw [e]; dsimp only; rw [hv, z]
    have e3 : ∀ x, v = .ref x → ps_r ps_s1 r q = x ∧ ps_c0 r q = x := fun x z => by
      constructor
      · show (match pm_wx r with
          | .inr (_, fs) => (match fs[q]? with
            | some (.ref v) => v
            | _ => 0)
          | _ => 0) = x
        rw [e]; dsimp only; rw [hv, z]
      · unfold ps_c0
        rw [e]; dsimp only; rw [hv, z]
    have er : ∀ x, v = .ref x → cond (ps_fin c q) (ps_c0 r q) (ps_r ps_s1 r q) = x := fun x z => by
      rw [(e3 x z).1, (e3 x z).2]
      cases ps_fin c q <;> rfl
    unfold s1_v at k
    unfold ps_fv
    split at k
    · next hT =>
      split at k
      · next x => (try rw [hT]); (try dsimp only); rw [e2 x rfl]
      · cases k
    · next hT =>
      split at k
      · next x => (try rw [hT]); (try dsimp only); rw [er x rfl]
      · cases k
    · next hT =>
      split at k
      · next x => (try rw [hT]); (try dsimp only); rw [er x rfl]
      · cases k
    · next h1 h2 h3 =>
      split at k
      · next x =>
        first
        | (rw [e1 x rfl]; done)
        | (split
           · next hT => exact (h1 hT).elim
           · next hT => exact (h2 _ hT).elim
           · next hT => exact (h3 _ hT).elim
           · rw [e1 x rfl])
      · cases k
end
section
theorem s1_T : xT ps_s1.1.2.2 := by
  intro r c q k h hF
  obtain ⟨hr, hk⟩ := ps_is_lt (c := c) (by
    unfold xF at hF
    split at hF <;> first | omega | cases hF) h
  have g := s1_every hr
  unfold s1_ok at g
  unfold ps_K pm_kind at hk
  split at hk
  · cases hk
  · next c' fs e =>
    cases hk
    rw [e] at g
    dsimp only at g
    rw [Bool.and_eq_true, Bool.and_eq_true] at g
    exact List.all_eq_true.mp g.2.2 _ (s1_xF_ok hF)
def s1_ra (r n : Nat) (a b : Int) : Bool := (List.range n).all (fun i => decide (a ≤ (ps_a ps_s1 r i).toInt) && decide ((ps_a ps_s1 r i).toInt ≤ b))
theorem s1_ra_ok {r n : Nat} {a b : Int} (h : s1_ra r n a b = true) : ∀ i, i < n → a ≤ (ps_a ps_s1 r i).toInt ∧ (ps_a ps_s1 r i).toInt ≤ b := fun i hi => by
  have := List.all_eq_true.mp h i (List.mem_range.mpr hi)
  rw [Bool.and_eq_true] at this
  exact ⟨of_decide_eq_true this.1, of_decide_eq_true this.2⟩
def s1_rf (q : Nat) (a b : Int) : Bool := decide (a ≤ (ps_i ps_s1 1131 q).toInt) && decide ((ps_i ps_s1 1131 q).toInt ≤ b)
theorem s1_rf_ok {q : Nat} {a b : Int} (h : s1_rf q a b = true) : a ≤ (ps_i ps_s1 1131 q).toInt ∧ (ps_i ps_s1 1131 q).toInt ≤ b := by
  unfold s1_rf at h
  rw [Bool.and_eq_true] at h
  exact ⟨of_decide_eq_true h.1, of_decide_eq_true h.2⟩
set_option maxRecDepth 1000000
theorem s1_pool : (List.range 666).all (fun k => decide (0 ≤ (ps_a ps_s1 1134 (41 * k)).toInt) && decide ((ps_a ps_s1 1134 (41 * k)).toInt ≤ 40)) = true := by decide +kernel
theorem s1_J : mJ ps_s1.1.2.2 0 ps_s1 := by
  refine ⟨rfl, by decide +kernel, fun q a b h => ?_, fun r n a b h => ?_, fun k hk => ?_⟩
  · unfold m_fr at h
    split at h <;> first | (cases h; exact s1_rf_ok (by decide +kernel)) | cases h
  · unfold m_ar at h
    split at h <;> first | (cases h; exact s1_ra_ok (by decide +kernel)) | cases h
  · have := List.all_eq_true.mp s1_pool k (List.mem_range.mpr hk)
    rw [Bool.and_eq_true] at this
    exact ⟨of_decide_eq_true this.1, of_decide_eq_true this.2⟩
theorem s1_MI : ∃ σ, MI σ (ps_a ps_s1 1134) (ps_a ps_s1 1135) (ps_a ps_s1 1136) (ps_a ps_s1 1137) (ps_a ps_s1 1138) (ps_a ps_s1 1139) (ps_a ps_s1 1157) (ps_a ps_s1 1176) (ps_i ps_s1 1131 21).toInt (ps_i ps_s1 1131 47).toInt (ps_i ps_s1 1131 54).toInt := ⟨_, MI_new (TH_0 (by decide +kernel) (by decide +kernel) (by decide +kernel) (by decide +kernel) (by decide +kernel)) (by decide +kernel) (by decide +kernel) (by decide +kernel) (fun i hi => by
  rcases (show i = 0 ∨ i = 1 ∨ i = 2 from by omega) with rfl | rfl | rfl <;> decide +kernel)⟩
/-- what holds between two calls of the law: t is both tapes' count -/
def LI (s : ps_S) (t : Int32) : Prop := xT s.1.2.2 ∧ mJ s.1.2.2 t s ∧ (ps_i s 1131 3).toInt = t.toInt ∧ (∃ σ, MI σ (ps_a s 1134) (ps_a s 1135) (ps_a s 1136) (ps_a s 1137) (ps_a s 1138) (ps_a s 1139) (ps_a s 1157) (ps_a s 1176) (ps_i s 1131 21).toInt (ps_i s 1131 47).toInt (ps_i s 1131 54).toInt) ∧ (∀ j : Nat, j < 96 → 0 ≤ (ps_a s 1169 j).toInt ∧ (ps_a s 1169 j).toInt ≤ 2) ∧ (∀ j : Nat, j < 12 → 0 ≤ (ps_a s 1175 j).toInt ∧ (ps_a s 1175 j).toInt ≤ 2)
theorem s1_LI : LI ps_s1 0 := ⟨s1_T, s1_J, by decide +kernel, s1_MI, s1_ra_ok (by decide +kernel), s1_ra_ok (by decide +kernel)⟩
end
section
set_option maxRecDepth 100000
/-! what a call of the law keeps -/
/-- t the class's tape, u the reference's -/
def LX (s : ps_S) (t : Int32) (u : Int) : Prop := xT s.1.2.2 ∧ mJ s.1.2.2 t s ∧ (ps_i s 1131 3).toInt = u ∧ (∃ σ, MI σ (ps_a s 1134) (ps_a s 1135) (ps_a s 1136) (ps_a s 1137) (ps_a s 1138) (ps_a s 1139) (ps_a s 1157) (ps_a s 1176) (ps_i s 1131 21).toInt (ps_i s 1131 47).toInt (ps_i s 1131 54).toInt) ∧ (∀ j : Nat, j < 96 → 0 ≤ (ps_a s 1169 j).toInt ∧ (ps_a s 1169 j).toInt ≤ 2) ∧ (∀ j : Nat, j < 12 → 0 ≤ (ps_a s 1175 j).toInt ∧ (ps_a s 1175 j).toInt ≤ 2)
theorem LI_LX {s : ps_S} {t : Int32} (h : LI s t) : LX s t t.toInt := h
theorem LX_LI {s : ps_S} {t : Int32} {u : Int} (h : LX s t u) (e : u = t.toInt) : LI s t := by subst e; exact h
theorem LI_J {s : ps_S} {t : Int32} (h : LI s t) : xJ s t s := xJ_refl h.1 h.2.1.2.1
theorem LI_t {s : ps_S} {t : Int32} (h : LI s t) : 0 ≤ t.toInt ∧ t.toInt ≤ 1600 := by
  have := mf_3 h.2.1
  have e := h.2.2.1
  omega
theorem m_ar_ge {r n : Nat} {a b : Int} (h : m_ar r = some (n, a, b)) : 1131 ≤ r := by
  unfold m_ar at h
  split at h <;> first | omega | cases h
theorem LI_x {s s' : ps_S} {t t' : Int32} (h : LI s t) (J : xJ s t' s') : LX s' t' t.toInt := by
  obtain ⟨h1, ⟨g1, g2, g3, g4, g5⟩, h3, ⟨σ, h4⟩, h5, h6⟩ := h
  obtain ⟨j1, j2, j3⟩ := J
  have ei := (j3 1131 (Nat.le_refl _)).1
  have ea : ∀ r, 1131 ≤ r → ps_a s' r = ps_a s r := fun r hr => (j3 r hr).2.2.1
  refine ⟨j1, ⟨rfl, j2, fun q a b e => ?_, fun r n a b e i hi => ?_, fun k hk => ?_⟩, ?_, ⟨σ, ?_⟩, ?_, ?_⟩
  · rw [ei]; exact g3 q a b e
  · rw [ea r (m_ar_ge e)]; exact g4 r n a b e i hi
  · rw [ea 1134 (by decide)]; exact g5 k hk
  · rw [ei]; exact h3
  · rw [ea 1134 (by decide), ea 1135 (by decide), ea 1136 (by decide), ea 1137 (by decide), ea 1138 (by decide), ea 1139 (by decide), ea 1157 (by decide), ea 1176 (by decide), ei]; exact h4
  · rw [ea 1169 (by decide)]; exact h5
  · rw [ea 1175 (by decide)]; exact h6
theorem LX_mk {s s' : ps_S} {t : Int32} {u u' : Int} (h : LX s t u) (J : mJ s.1.2.2 t s') (h3 : (ps_i s' 1131 3).toInt = u') (hM : ∃ σ, MI σ (ps_a s' 1134) (ps_a s' 1135) (ps_a s' 1136) (ps_a s' 1137) (ps_a s' 1138) (ps_a s' 1139) (ps_a s' 1157) (ps_a s' 1176) (ps_i s' 1131 21).toInt (ps_i s' 1131 47).toInt (ps_i s' 1131 54).toInt) (hD : (∀ j : Nat, j < 96 → 0 ≤ (ps_a s' 1169 j).toInt ∧ (ps_a s' 1169 j).toInt ≤ 2)) (hF : (∀ j : Nat, j < 12 → 0 ≤ (ps_a s' 1175 j).toInt ∧ (ps_a s' 1175 j).toInt ≤ 2)) : LX s' t u' := ⟨by rw [J.1]; exact h.1, by rw [J.1]; exact J, h3, hM, hD, hF⟩
theorem LX_3 {s s' : ps_S} {t : Int32} {u : Int} {A F : List Nat} (h : LX s t u) (K : kp A F s s') (f : F.contains 3 = false) : (ps_i s' 1131 3).toInt = u := by rw [kp_i K 3 f]; exact h.2.2.1
theorem LX_D {s s' : ps_S} {t : Int32} {u : Int} {A F : List Nat} (h : LX s t u) (K : kp A F s s') (f : A.contains 1169 = false) : (∀ j : Nat, j < 96 → 0 ≤ (ps_a s' 1169 j).toInt ∧ (ps_a s' 1169 j).toInt ≤ 2) := by rw [(K.2 1169 f).1]; exact h.2.2.2.2.1
theorem LX_F {s s' : ps_S} {t : Int32} {u : Int} {A F : List Nat} (h : LX s t u) (K : kp A F s s') (f : A.contains 1175 = false) : (∀ j : Nat, j < 12 → 0 ≤ (ps_a s' 1175 j).toInt ∧ (ps_a s' 1175 j).toInt ≤ 2) := by rw [(K.2 1175 f).1]; exact h.2.2.2.2.2
theorem LX_M {s s' : ps_S} {t : Int32} {u : Int} {A F : List Nat} (h : LX s t u) (K : kp A F s s') (a1134 : A.contains 1134 = false) (a1135 : A.contains 1135 = false) (a1136 : A.contains 1136 = false) (a1137 : A.contains 1137 = false) (a1138 : A.contains 1138 = false) (a1139 : A.contains 1139 = false) (a1157 : A.contains 1157 = false) (a1176 : A.contains 1176 = false) (f21 : F.contains 21 = false) (f47 : F.contains 47 = false) (f54 : F.contains 54 = false) : ∃ σ, MI σ (ps_a s' 1134) (ps_a s' 1135) (ps_a s' 1136) (ps_a s' 1137) (ps_a s' 1138) (ps_a s' 1139) (ps_a s' 1157) (ps_a s' 1176) (ps_i s' 1131 21).toInt (ps_i s' 1131 47).toInt (ps_i s' 1131 54).toInt := by
  obtain ⟨σ, h4⟩ := h.2.2.2.1
  exact ⟨σ, MI_kp h4 K a1134 a1135 a1136 a1137 a1138 a1139 a1157 a1176 f21 f47 f54⟩
theorem ps_cls {w : pm_W} {s : ps_S} (h : ps_R w s) {r c : Nat} (hc : c < 13) (hi : ps_is r c = true) : pm_cls w (some (.ref r)) = some c := by
  obtain ⟨fs, h1, -, -⟩ := ps_get_ob h hc hi
  unfold pm_cls
  dsimp only
  rw [h1]
theorem l2_ckd {kd mm nest c q : Nat} {st : List Value} {w : pm_W} (hc : pm_cls w (some (.ref q)) = some c) (hh : (st.take (pm_na kd mm)).reverse.head? = some (.ref q)) (h : (Nat.ble (pm_na kd mm) st.length && Nat.ble (pm_cats (st.drop (pm_na kd mm))) 8 && Nat.ble (lg_sl (st.take (pm_na kd mm)).reverse).length (pm_ml (mm - 6)) && (cond (Nat.beq kd 3) (pm_st (mm - 6)) (!pm_st (mm - 6) && Nat.beq c (pm_own (mm - 6)) && (cond (Nat.beq kd 2) (pm_ini (mm - 6)) (Nat.beq nest 0 && !pm_ini (mm - 6)))))) = true) : pm_ckd kd mm nest st w = true := by
  unfold pm_ckd
  rw [hh, hc, h]
  rfl
theorem pm_H.sld {d y pc k n : Nat} {L : pm_L} {rest st : List Value} {w : pm_W} {xs : Nat → Int32} {i : Int32} {Q : Option Value → pm_W → Prop} (hc : pm_code y pc = some (.iaload, k)) (hst : st = .int i :: .ref pm_SC :: rest) (hi : pm_in i n = true) (h : pm_H (some (n, xs)) d y (pc + 1) L (.int (xs (Int32.toNatClampNeg i)) :: rest) w Q) : pm_H (some (n, xs)) d y pc L st w Q := by
  refine pm_H.go hc rfl rfl (w' := w) ?_ h
  subst hst
  unfold pm_op
  dsimp only
  rw [Nat.beq_refl, hi]
  rfl
theorem l2_call {X : Option (Nat × (Nat → Int32))} {y pc k kd j a mm pl nest c q : Nat} {Lc : pm_L} {st : List Value} {w : pm_W} {s : ps_S} {i : Instr} {P : Option Value → ps_S → Prop} {Q : Option Value → pm_W → Prop} (hc : pm_code y pc = some (i, k)) (hR : pm_isR i = false) (hcal : pm_cal i = (kd, j)) (hkd : kd ≠ 0) (hl : pm_l4 (pm_ML (pm_own y)) j = some (a, mm, pl, nest)) (h6 : 5 < mm) (hw : ps_R w s) (h13 : c < 13) (hi : ps_is q c = true) (hh : (st.take (pm_na kd mm)).reverse.head? = some (.ref q)) (hb : (Nat.ble (pm_na kd mm) st.length && Nat.ble (pm_cats (st.drop (pm_na kd mm))) 8 && Nat.ble (lg_sl (st.take (pm_na kd mm)).reverse).length (pm_ml (mm - 6)) && (cond (Nat.beq kd 3) (pm_st (mm - 6)) (!pm_st (mm - 6) && Nat.beq c (pm_own (mm - 6)) && (cond (Nat.beq kd 2) (pm_ini (mm - 6)) (Nat.beq nest 0 && !pm_ini (mm - 6)))))) = true)
    (hC : ps_Cl 299 (mm - 6) (st.take (pm_na kd mm)).reverse s P) (K : ∀ (o : Option Value) (w' : pm_W) (s' : ps_S), ps_R w' s' → P o s' → pm_H X 300 y (pc + 3) Lc (o.toList ++ st.drop (pm_na kd mm)) w' Q) : pm_H X 300 y pc Lc st w Q := by
  refine pm_H.call (d' := 299) (Q1 := fun o w' => ∃ s', ps_R w' s' ∧ P o s') hc hR hcal hkd hl h6 rfl (l2_ckd (ps_cls hw h13 hi) hh hb) ?_ (fun o w' hh => ?_)
  · obtain ⟨o, w', h1, h2⟩ := hC w _ hw (ps_le_refl _)
    exact ⟨o, w', h1.lift, h2⟩
  · obtain ⟨s', h1, h2⟩ := hh
    exact K o w' s' h1 h2
theorem l2_int {f : Int32 → ps_S → Prop} {o : Option Value} {s : ps_S} (h : ps_rI f o s) : ∃ v, o = some (.int v) ∧ f v s := by
  unfold ps_rI at h
  split at h
  · exact ⟨_, rfl, h⟩
  · exact h.elim
theorem l2_lng {f : Int64 → ps_S → Prop} {o : Option Value} {s : ps_S} (h : ps_rJ f o s) : ∃ v, o = some (.long v) ∧ f v s := by
  unfold ps_rJ at h
  split at h
  · exact ⟨_, rfl, h⟩
  · exact h.elim
end
section
/-! PARTIAL RUNS: what holds behind a run, should it end: no test is asked for, each is given -/
def pl_At (n y pc : Nat) (L : pm_L) (st : List Value) (s : ps_S) (Q : Option Value → ps_S → Prop) : Prop := ∀ (m d : Nat) (w : pm_W) (Lp : pm_L) (o : Option Value) (w' : pm_W), m < n → ps_R w s → ps_le L Lp → pm_run none m d y pc Lp st w = some (o, w') → ∃ s', ps_R w' s' ∧ Q o s'
def pl_Cl (n t : Nat) (args : List Value) (s : ps_S) (Q : Option Value → ps_S → Prop) : Prop := pl_At n t 0 (lv_args 0 args) [] s Q
theorem pl_At.mono {n y pc : Nat} {L : pm_L} {st : List Value} {s : ps_S} {Q Q' : Option Value → ps_S → Prop} (h : pl_At n y pc L st s Q) (k : ∀ o s', Q o s' → Q' o s') : pl_At n y pc L st s Q' := by
  intro m d w Lp o w' hm hR hL hr
  obtain ⟨s', h1, h2⟩ := h m d w Lp o w' hm hR hL hr
  exact ⟨s', h1, k o s' h2⟩
theorem pl_At.le {n n' y pc : Nat} {L : pm_L} {st : List Value} {s : ps_S} {Q : Option Value → ps_S → Prop} (hn : n' ≤ n) (h : pl_At n y pc L st s Q) : pl_At n' y pc L st s Q := fun m d w Lp o w' hm hR hL hr => h m d w Lp o w' (Nat.lt_of_lt_of_le hm hn) hR hL hr
theorem pl_At_0 {y pc : Nat} {L : pm_L} {st : List Value} {s : ps_S} {Q : Option Value → ps_S → Prop} : pl_At 0 y pc L st s Q := fun _ _ _ _ _ _ hm => absurd hm (Nat.not_lt_zero _)
theorem pl_get {w : pm_W} {s : ps_S} (hR : ps_R w s) {r : Nat} {e : pm_E} (h : pm_get w r = some e) : r < 1179 ∧ pm_kind e = ps_K r := by
  obtain ⟨h1, h2⟩ := pm_get_ok h
  have hr : r < 1179 := by rw [hR.1] at h1; exact h1
  exact ⟨hr, by rw [← h2]; exact (hR.2 r hr).1⟩
theorem pl_is {w : pm_W} {s : ps_S} (hR : ps_R w s) {r c : Nat} {fs : List Value} (h : pm_get w r = some (.inr (c, fs))) : ps_is r c = true := by
  have k := (pl_get hR h).2
  unfold ps_is
  rw [← k]
  exact Nat.beq_refl c
theorem pl_ar {w : pm_W} {s : ps_S} (hR : ps_R w s) {r t n : Nat} {f : pm_C} (h : pm_get w r = some (.inl (t, n, f))) : ps_ar r t = true ∧ ps_ln r = n ∧ (ps_K r).1 = 0 := by
  have k := (pl_get hR h).2
  unfold ps_ar ps_ln
  rw [← k]
  exact ⟨Nat.beq_refl t, rfl, rfl⟩
/-- what is given: where it isn't so, nothing is asked -/
def pl_nk (b : Bool) (P : Prop) : Prop := cond b P True
theorem pl_nk_i {b : Bool} {P : Prop} (h : b = true → P) : pl_nk b P := by
  cases b
  · exact trivial
  · exact h rfl
theorem pl_nk_e {b : Bool} {P : Prop} (hb : b = true) (h : pl_nk b P) : P := by rw [hb] at h; exact h
def pl_op (own nL : Nat) (i : Instr) (pc : Nat) (L : pm_L) (st : List Value) (s : ps_S) (k : ps_k) : Prop :=
  match i with
  | .idiv => match st with
    | .int y :: .int x :: rest => pl_nk (!decide (y = 0)) (k (pc + 1) L (.int (x / y) :: rest) s)
    | _ => False
  | .irem => match st with
    | .int y :: .int x :: rest => pl_nk (!decide (y = 0)) (k (pc + 1) L (.int (x - (x / y) * y) :: rest) s)
    | _ => False
  | .getfield j => match st with
    | .ref r :: rest => match pm_l4 (pm_FL own) j with
      | some (_, c, q, _) => cond (Nat.blt c 13 && Nat.blt q (pm_Ts c).length) (pl_nk (ps_is r c) (k (pc + 3) L (ps_fv s c r q :: rest) s)) False
      | none => False
    | _ => False
  | .putfield j => match st with
    | v :: .ref r :: rest => match pm_l4 (pm_FL own) j with
      | some (_, c, q, _) => cond (Nat.blt c 13 && Nat.blt q (pm_Ts c).length && !ps_fin c q) (pl_nk (ps_is r c) (match (pm_Ts c).getD q .int, v with
        | .int, .int x => k (pc + 3) L rest (ps_ui s r q x)
        | .boolean, .int x => pl_nk (decide (x &&& 1 = x)) (k (pc + 3) L rest (ps_ui s r q x))
        | .long, .long x => k (pc + 3) L rest (ps_uj s r q x)
        | .object _, .ref x => k (pc + 3) L rest (ps_ur s r q x)
        | .array _, .ref x => k (pc + 3) L rest (ps_ur s r q x)
        | _, _ => False)) False
      | none => False
    | _ => False
  | .iaload => match st with
    | .int i :: .ref r :: rest => pl_nk (ps_ar r 0) (pm_in i (ps_ln r) = true → k (pc + 1) L (.int (ps_a s r i.toNatClampNeg) :: rest) s)
    | _ => False
  | .baload => match st with
    | .int i :: .ref r :: rest => pl_nk (ps_ar r 1 || ps_ar r 2) (pm_in i (ps_ln r) = true → k (pc + 1) L (.int (ps_a s r i.toNatClampNeg) :: rest) s)
    | _ => False
  | .laload => match st with
    | .int i :: .ref r :: rest => pl_nk (ps_ar r 3) (pm_in i (ps_ln r) = true → k (pc + 1) L (.long (ps_b s r i.toNatClampNeg) :: rest) s)
    | _ => False
  | .aaload => match st with
    | .int i :: .ref r :: rest => pl_nk (ps_ar r 4 || ps_ar r 5 || ps_ar r 6 || ps_ar r 7) (pm_in i (ps_ln r) = true → k (pc + 1) L (.ref (ps_e0 r i.toNatClampNeg) :: rest) s)
    | _ => False
  | .iastore => match st with
    | .int x :: .int i :: .ref r :: rest => pl_nk (ps_ar r 0) (pm_in i (ps_ln r) = true → k (pc + 1) L rest (ps_ua s r i.toNatClampNeg x))
    | _ => False
  | .bastore => match st with
    | .int x :: .int i :: .ref r :: rest => pl_nk (ps_ar r 1 || ps_ar r 2) (pm_in i (ps_ln r) = true → k (pc + 1) L rest (ps_ua s r i.toNatClampNeg (cond (ps_ar r 1) x.toInt8.toInt32 (x &&& 1))))
    | _ => False
  | .lastore => match st with
    | .long x :: .int i :: .ref r :: rest => pl_nk (ps_ar r 3) (pm_in i (ps_ln r) = true → k (pc + 1) L rest (ps_ub s r i.toNatClampNeg x))
    | _ => False
  | .arraylength => match st with
    | .ref r :: rest => pl_nk (Nat.beq (ps_K r).1 0) (k (pc + 1) L (.int (nI (ps_ln r)) :: rest) s)
    | _ => False
  | i => ps_op own nL i pc L st s k
section PLO
variable {own nL pc : Nat} {b : Bool} {L Lp : pm_L} {st : List Value} {s : ps_S} {w : pm_W} {k : ps_k}
theorem pl_cc {b : Bool} {P : Prop} (h : cond b P False) : b = true ∧ P := ps_nd_e h
theorem pl_cb {b : Bool} {P : Prop} (h1 : b = true) (h : P) : cond b P False := by rw [h1]; exact h
set_option maxHeartbeats 4000000 in
theorem pl_op_ok {i : Instr} {q : Nat × pm_L × List Value × pm_W} (hR : ps_R w s) (ho : pm_op none own nL b i pc Lp st w = some q) (h : pl_op own nL i pc L st s k) : ps_op own nL i pc L st s k := by
  unfold pl_op at h
  split at h
  · split at h
    · next y x rest =>
      have hy : (!decide (y = 0)) = true := by
        cases e : decide (y = 0) with
        | false => rfl
        | true =>
          unfold pm_op at ho
          dsimp only at ho
          rw [e] at ho
          cases ho
      exact ps_nd_i hy (pl_nk_e hy h)
    · exact h.elim
  · split at h
    · next y x rest =>
      have hy : (!decide (y = 0)) = true := by
        cases e : decide (y = 0) with
        | false => rfl
        | true =>
          unfold pm_op at ho
          dsimp only at ho
          rw [e] at ho
          cases ho
      exact ps_nd_i hy (pl_nk_e hy h)
    · exact h.elim
  · -- getfield
    next j =>
    split at h
    · next r rest =>
      split at h
      · next a c q pl hl =>
        obtain ⟨h1, h⟩ := pl_cc h
        have e1 : ps_is r c = true := by
          unfold pm_op at ho
          dsimp only at ho
          rw [hl] at ho
          dsimp only at ho
          split at ho
          · next c' fs g =>
            obtain ⟨hc, -⟩ := pm_ct ho
            rw [Nat.eq_of_beq_eq_true hc]
            exact pl_is hR g
          · cases ho
        unfold ps_op
        dsimp only
        rw [hl]
        exact pl_cb h1 (ps_nk_i e1 (pl_nk_e e1 h))
      · exact h.elim
    · exact h.elim
  · -- putfield
    next j =>
    split at h
    · next v r rest =>
      split at h
      · next a c q pl hl =>
        obtain ⟨h1, h⟩ := pl_cc h
        have e1 : ps_is r c = true ∧ pm_okv ((pm_Ts c).getD q .int) v = true := by
          unfold pm_op at ho
          dsimp only at ho
          rw [hl] at ho
          dsimp only at ho
          split at ho
          · next c' fs g =>
            obtain ⟨hc, -⟩ := pm_ct ho
            rw [Bool.and_eq_true, Bool.and_eq_true, Bool.and_eq_true] at hc
            obtain ⟨⟨⟨hc, -⟩, hv⟩, -⟩ := hc
            have hc := Nat.eq_of_beq_eq_true hc
            subst hc
            exact ⟨pl_is hR g, hv⟩
          · cases ho
        obtain ⟨e1, e2⟩ := e1
        have h := pl_nk_e e1 h
        unfold ps_op
        dsimp only
        rw [hl]
        refine pl_cb h1 (ps_nk_i e1 ?_)
        generalize (pm_Ts c).getD q .int = ty at h e2 ⊢
        split at h
        · exact h
        · exact ps_nd_i e2 (pl_nk_e e2 h)
        · exact h
        · exact h
        · exact h
        · exact h.elim
      · exact h.elim
    · exact h.elim
  · -- iaload
    split at h
    · next i r rest =>
      have e1 : ps_ar r 0 = true ∧ pm_in i (ps_ln r) = true := by
        unfold pm_op at ho
        dsimp only at ho
        cases hb : Nat.beq r pm_SC with
        | true => rw [hb] at ho; cases ho
        | false =>
          rw [hb, cond_false] at ho
          split at ho
          · next t n f g =>
            obtain ⟨hc, -⟩ := pm_ct ho
            rw [Bool.and_eq_true] at hc
            have ht := Nat.eq_of_beq_eq_true hc.1
            subst ht
            obtain ⟨g1, g2, -⟩ := pl_ar hR g
            rw [g2]
            exact ⟨g1, hc.2⟩
          · cases ho
      exact ps_nk_i e1.1 (ps_nd_i e1.2 (pl_nk_e e1.1 h e1.2))
    · exact h.elim
  · -- baload
    split at h
    · next i r rest =>
      have e1 : (ps_ar r 1 || ps_ar r 2) = true ∧ pm_in i (ps_ln r) = true := by
        unfold pm_op at ho
        dsimp only at ho
        split at ho
        · next t n f g =>
          obtain ⟨hc, -⟩ := pm_ct ho
          rw [Bool.and_eq_true, Bool.or_eq_true] at hc
          obtain ⟨g1, g2, -⟩ := pl_ar hR g
          rw [g2]
          refine ⟨?_, hc.2⟩
          rcases hc.1 with ht | ht
          · rw [Nat.eq_of_beq_eq_true ht] at g1; rw [g1]; rfl
          · rw [Nat.eq_of_beq_eq_true ht] at g1; rw [g1, Bool.or_true]
        · cases ho
      exact ps_nk_i e1.1 (ps_nd_i e1.2 (pl_nk_e e1.1 h e1.2))
    · exact h.elim
  · -- laload
    split at h
    · next i r rest =>
      have e1 : ps_ar r 3 = true ∧ pm_in i (ps_ln r) = true := by
        unfold pm_op at ho
        dsimp only at ho
        split at ho
        · next t n f g =>
          obtain ⟨hc, -⟩ := pm_ct ho
          rw [Bool.and_eq_true] at hc
          obtain ⟨g1, g2, -⟩ := pl_ar hR g
          rw [g2]
          rw [Nat.eq_of_beq_eq_true hc.1] at g1
          exact ⟨g1, hc.2⟩
        · cases ho
      exact ps_nk_i e1.1 (ps_nd_i e1.2 (pl_nk_e e1.1 h e1.2))
    · exact h.elim
  · -- aaload
    split at h
    · next i r rest =>
      have e1 : (ps_ar r 4 || ps_ar r 5 || ps_ar r 6 || ps_ar r 7) = true ∧ pm_in i (ps_ln r) = true := by
        unfold pm_op at ho
        dsimp only at ho
        split at ho
        · next t n f g =>
          obtain ⟨hc, -⟩ := pm_ct ho
          rw [Bool.and_eq_true, Bool.and_eq_true] at hc
          obtain ⟨g1, g2, -⟩ := pl_ar hR g
          rw [g2]
          refine ⟨?_, hc.2⟩
          have t1 := Nat.le_of_ble_eq_true hc.1.1
          have t2 := Nat.le_of_ble_eq_true hc.1.2
          rcases (show t = 4 ∨ t = 5 ∨ t = 6 ∨ t = 7 from by omega) with rfl | rfl | rfl | rfl
          · rw [g1]; rfl
          · rw [g1]; simp
          · rw [g1]; simp
          · rw [g1]; simp
        · cases ho
      exact ps_nk_i e1.1 (ps_nd_i e1.2 (pl_nk_e e1.1 h e1.2))
    · exact h.elim
  · -- iastore
    split at h
    · next x i r rest =>
      have e1 : ps_ar r 0 = true ∧ pm_in i (ps_ln r) = true := by
        unfold pm_op at ho
        dsimp only at ho
        split at ho
        · next t n f g =>
          obtain ⟨hc, -⟩ := pm_ct ho
          rw [Bool.and_eq_true] at hc
          obtain ⟨g1, g2, -⟩ := pl_ar hR g
          rw [g2]
          rw [Nat.eq_of_beq_eq_true hc.1] at g1
          exact ⟨g1, hc.2⟩
        · cases ho
      exact ps_nk_i e1.1 (ps_nd_i e1.2 (pl_nk_e e1.1 h e1.2))
    · exact h.elim
  · -- bastore
    split at h
    · next x i r rest =>
      have e1 : (ps_ar r 1 || ps_ar r 2) = true ∧ pm_in i (ps_ln r) = true := by
        unfold pm_op at ho
        dsimp only at ho
        split at ho
        · next t n f g =>
          obtain ⟨hc, -⟩ := pm_ct ho
          rw [Bool.and_eq_true, Bool.or_eq_true] at hc
          obtain ⟨g1, g2, -⟩ := pl_ar hR g
          rw [g2]
          refine ⟨?_, hc.2⟩
          rcases hc.1 with ht | ht
          · rw [Nat.eq_of_beq_eq_true ht] at g1; rw [g1]; rfl
          · rw [Nat.eq_of_beq_eq_true ht] at g1; rw [g1, Bool.or_true]
        · cases ho
      exact ps_nk_i e1.1 (ps_nd_i e1.2 (pl_nk_e e1.1 h e1.2))
    · exact h.elim
  · -- lastore
    split at h
    · next x i r rest =>
      have e1 : ps_ar r 3 = true ∧ pm_in i (ps_ln r) = true := by
        unfold pm_op at ho
        dsimp only at ho
        split at ho
        · next t n f g =>
          obtain ⟨hc, -⟩ := pm_ct ho
          rw [Bool.and_eq_true] at hc
          obtain ⟨g1, g2, -⟩ := pl_ar hR g
          rw [g2]
          rw [Nat.eq_of_beq_eq_true hc.1] at g1
          exact ⟨g1, hc.2⟩
        · cases ho
      exact ps_nk_i e1.1 (ps_nd_i e1.2 (pl_nk_e e1.1 h e1.2))
    · exact h.elim
  · -- arraylength
    split at h
    · next r rest =>
      have e1 : Nat.beq (ps_K r).1 0 = true := by
        unfold pm_op at ho
        dsimp only at ho
        cases hb : Nat.beq r pm_SC with
        | true => rw [hb] at ho; cases ho
        | false =>
          rw [hb, cond_false] at ho
          split at ho
          · next t a g =>
            obtain ⟨n, f⟩ := a
            rw [(pl_ar hR g).2.2]
            rfl
          · cases ho
      exact ps_nk_i e1 (pl_nk_e e1 h)
    · exact h.elim
  · exact h
end PLO
def pl_ret (ret : Option FieldType) (i : Instr) (st : List Value) (s : ps_S) (Q : Option Value → ps_S → Prop) : Prop := match i, st with
  | .ireturn, [.int x] => (match ret with
    | some .int => Q (some (.int x)) s
    | some .boolean => pl_nk (decide (x &&& 1 = x)) (Q (some (.int x)) s)
    | _ => False)
  | .lreturn, [.long x] => (match ret with
    | some .long => Q (some (.long x)) s
    | _ => False)
  | .areturn, [.ref x] => (match ret with
    | some (.object _) => Q (some (.ref x)) s
    | _ => False)
  | .return_, [] => (match ret with
    | none => Q none s
    | _ => False)
  | _, _ => False
def pl_body (n : Nat) (k : ps_k) (y : Nat) (Q : Option Value → ps_S → Prop) (pc : Nat) (L : pm_L) (st : List Value) (s : ps_S) : Prop := match pm_code y pc with
  | none => False
  | some (i, _) => cond (pm_isR i) (pl_ret (pm_ret y) i st s Q) (match pm_cal i with
    | (0, _) => pl_op (pm_own y) (pm_ml y) i pc L st s k
    | (kd, j) => match pm_l4 (pm_ML (pm_own y)) j with
      | none => False
      | some (_, mm, _, _) => cond (Nat.blt mm 6) (cond (Nat.blt 2 mm) (match pm_mathOp mm st with
          | some q => k (pc + 3) L (q.1 :: q.2) s
          | none => False) False) (pl_Cl n (mm - 6) (st.take (pm_na kd mm)).reverse s (ps_rk (pm_ret (mm - 6)) (fun v s' => k (pc + 3) L (v ++ st.drop (pm_na kd mm)) s'))))
theorem pl_body_ok {k : ps_k} {n m d y pc : Nat} {L Lp : pm_L} {st : List Value} {s : ps_S} {w w' : pm_W} {o : Option Value} {Q : Option Value → ps_S → Prop} (hn : ps_nu L) (hR : ps_R w s) (hL : ps_le L Lp) (h : pl_body n k y Q pc L st s) (hm : m < n) (hr : pm_run none (m + 1) d y pc Lp st w = some (o, w')) (hk : ∀ (pc' : Nat) (L' Lp' : pm_L) (st' : List Value) (s' : ps_S) (w2 : pm_W), ps_nu L' → k pc' L' st' s' → ps_R w2 s' → ps_le L' Lp' → pm_run none m d y pc' Lp' st' w2 = some (o, w') → ∃ s', ps_R w' s' ∧ Q o s') : ∃ s', ps_R w' s' ∧ Q o s' := by
  rw [pm_run_succ] at hr
  unfold pm_body at hr
  unfold pl_body at h
  split at h
  · exact h.elim
  next i z hcd =>
  rw [hcd] at hr
  (try dsimp only at hr)
  cases hRt : pm_isR i with
  | true =>
    rw [hRt, cond_true] at h hr
    unfold pl_ret at h
    split at h
    · next x =>
      unfold pm_rtn at hr
      split at h
      · next e => rw [e] at hr; (try dsimp only at hr); cases hr; exact ⟨s, hR, h⟩
      · next e =>
        rw [e] at hr
        (try dsimp only at hr)
        cases e2 : decide (x &&& 1 = x) with
        | true => rw [e2] at hr; cases hr; exact ⟨s, hR, pl_nk_e e2 h⟩
        | false => rw [e2] at hr; cases hr
      · exact h.elim
    · split at h
      · next e => rw [e] at hr; cases hr; exact ⟨s, hR, h⟩
      · exact h.elim
    · split at h
      · next e => rw [e] at hr; cases hr; exact ⟨s, hR, h⟩
      · exact h.elim
    · split at h
      · next e => rw [e] at hr; cases hr; exact ⟨s, hR, h⟩
      · exact h.elim
    · exact h.elim
  | false =>
    rw [hRt, cond_false] at h hr
    split at h
    · next z hcal =>
      rw [hcal] at hr
      split at hr
      · next z2 hz =>
        split at hr
        · next pc' L' st' c n' k' hop =>
          have hp := pl_op_ok hR hop h
          obtain ⟨pc2, L2, Lp2, st2, w2, s2, hop2, hw2, hL2, hn2, hk2⟩ := ps_op_ok (b := pm_ini y) hR hL hn hp
          rw [hop] at hop2
          cases hop2
          exact hk _ _ _ _ _ _ hn2 hk2 hw2 hL2 hr
        · cases hr
      · next kd2 j2 hne2 hz =>
        cases hz
        exact (hne2 rfl).elim
    · next kd j hne hcal =>
      rw [hcal] at hr
      split at hr
      · next z hz => cases hz; exact (hne rfl).elim
      next kd2 j2 hne2 hz =>
      cases hz
      split at h
      · exact h.elim
      next a mm pl nest hl =>
      rw [hl] at hr
      (try dsimp only at hr)
      cases g6 : Nat.blt mm 6 with
      | true =>
        rw [g6, cond_true] at h
        obtain ⟨g2, h⟩ := pl_cc h
        have t2 : 2 < mm := Nat.le_of_ble_eq_true g2
        have t6 : mm < 6 := Nat.le_of_ble_eq_true g6
        split at h
        · next q hq =>
          rw [pm_beq_f (show mm ≠ 0 by omega), show Nat.blt mm 3 = false from by rw [Bool.eq_false_iff]; intro q; have := Nat.le_of_ble_eq_true q; omega, g6, cond_false, cond_false, cond_true, hq] at hr
          dsimp only at hr
          obtain ⟨-, hr⟩ := pm_ct hr
          exact hk _ _ _ _ _ _ hn h hR hL hr
        · exact h.elim
      | false =>
        rw [g6, cond_false] at h
        have t6 : 6 ≤ mm := by
          refine Nat.le_of_not_lt (fun q => ?_)
          rw [show Nat.blt mm 6 = true from Nat.ble_eq_true_of_le q] at g6
          cases g6
        rw [pm_beq_f (show mm ≠ 0 by omega), show Nat.blt mm 3 = false from by rw [Bool.eq_false_iff]; intro q; have := Nat.le_of_ble_eq_true q; omega, g6, cond_false, cond_false, cond_false] at hr
        split at hr
        · cases hr
        next d' =>
        obtain ⟨-, hr⟩ := pm_ct hr
        split at hr
        · next o1 c n1 k1 hc =>
          obtain ⟨s1, r1, r2⟩ := h m d' w _ o1 (c, (n1, k1)) hm hR (ps_le_refl _) hc
          have r3 : k (pc + 3) L (o1.toList ++ st.drop (pm_na kd mm)) s1 := ps_rk_ok r2
          exact hk _ _ _ _ _ _ hn r3 r1 hL hr
        · cases hr
/-- a run of at most f steps; it ends at the stops -/
def pl_wp (stops : List (Nat × List Nat)) : Nat → Nat → Nat → (Option Value → ps_S → Prop) → Nat → pm_L → List Value → ps_S → Prop
  | 0, _, _, _, _, _, _, _ => False
  | f + 1, n, y, Q, pc, L, st, s => pl_body n (fun pc L st s => match stops.find? (fun q => Nat.beq pc q.1) with
    | some q => (match ps_sel L q.2 with
      | some L' => pl_At n y pc L' st s Q
      | none => False)
    | none => pl_wp stops f n y Q pc L st s) y Q pc L st s
theorem pl_wp_ok {stops : List (Nat × List Nat)} : ∀ {f n y : Nat} {Q : Option Value → ps_S → Prop} {pc : Nat} {L : pm_L} {st : List Value} {s : ps_S}, ps_nu L → pl_wp stops f n y Q pc L st s → pl_At (n + 1) y pc L st s Q
  | 0, _, _, _, _, _, _, _, _, h => h.elim
  | f + 1, n, y, Q, pc, L, st, s, hn, h => by
    intro m d w Lp o w' hm hR hL hr
    cases m with
    | zero => cases hr
    | succ m =>
      refine pl_body_ok (n := n) hn hR hL h (by omega) hr (fun pc' L' Lp' st' s' w2 hn' h' hR' hL' hr' => ?_)
      split at h'
      · next q hq =>
        split at h'
        · next L2 h2 => exact h' m d w2 Lp' o w' (by omega) hR' (fun i v hv => hL' i v (ps_sel_ok h2 i v hv)) hr'
        · exact h'.elim
      · exact pl_wp_ok hn' h' m d w2 Lp' o w' (by omega) hR' hL' hr'
theorem pl_wp_at {stops : List (Nat × List Nat)} {f n y pc : Nat} {Q : Option Value → ps_S → Prop} {L : pm_L} {st : List Value} {s : ps_S} (h : pl_wp stops f n y Q pc L st s) (hn : ps_nub L = true) : pl_At (n + 1) y pc L st s Q := pl_wp_ok (ps_nu_of hn) h
end
section
/-! TEXTS, as pure functions of their bytes T 0 .. T (n - 1) -/
def tx_B (c : Nat) : Bool := Nat.beq c 32 || Nat.beq c 10
def tx_L (c : Nat) : Bool := Nat.ble 97 c && Nat.ble c 122
def tx_D (c : Nat) : Bool := Nat.ble 48 c && Nat.ble c 57
/-- from p on, the first place where P fails or the text ends -/
def tx_run (P : Nat → Bool) (T : Nat → Nat) (n : Nat) : Nat → Nat → Nat
  | 0, p => p
  | f + 1, p => cond (Nat.blt p n && P (T p)) (tx_run P T n f (p + 1)) p
def tx_to (P : Nat → Bool) (T : Nat → Nat) (n p : Nat) : Nat := tx_run P T n (n - p) p
theorem tx_blt {a b : Nat} (h : a < b) : Nat.blt a b = true := Nat.ble_eq_true_of_le h
theorem tx_to_go {P : Nat → Bool} {T : Nat → Nat} {n p : Nat} (h : p < n) (hP : P (T p) = true) : tx_to P T n p = tx_to P T n (p + 1) := by
  unfold tx_to
  obtain ⟨k, hk⟩ : ∃ k, n - p = k + 1 := ⟨n - p - 1, by omega⟩
  rw [hk, show n - (p + 1) = k from by omega]
  show cond (Nat.blt p n && P (T p)) _ _ = _
  rw [hP, tx_blt h]
  rfl
theorem tx_to_end {P : Nat → Bool} {T : Nat → Nat} {n p : Nat} (h : n ≤ p ∨ P (T p) = false) : tx_to P T n p = p := by
  unfold tx_to
  cases e : n - p with
  | zero => rfl
  | succ k =>
    show cond (Nat.blt p n && P (T p)) _ _ = _
    rcases h with h | h
    · omega
    · rw [h, Bool.and_false]
      rfl
theorem tx_run_ge {P : Nat → Bool} {T : Nat → Nat} {n : Nat} : ∀ (f p : Nat), p ≤ tx_run P T n f p
  | 0, p => Nat.le_refl _
  | f + 1, p => by
    show p ≤ cond (Nat.blt p n && P (T p)) (tx_run P T n f (p + 1)) p
    cases Nat.blt p n && P (T p)
    · exact Nat.le_refl _
    · exact Nat.le_trans (Nat.le_succ _) (tx_run_ge f (p + 1))
theorem tx_to_ge {P : Nat → Bool} {T : Nat → Nat} {n p : Nat} : p ≤ tx_to P T n p := tx_run_ge _ _
theorem tx_run_le {P : Nat → Bool} {T : Nat → Nat} {n : Nat} : ∀ (f p : Nat), p ≤ n → tx_run P T n f p ≤ n
  | 0, p, h => h
  | f + 1, p, h => by
    show cond (Nat.blt p n && P (T p)) (tx_run P T n f (p + 1)) p ≤ n
    cases e : Nat.blt p n && P (T p)
    · exact h
    · rw [Bool.and_eq_true] at e
      exact tx_run_le f (p + 1) (Nat.le_of_ble_eq_true e.1)
theorem tx_to_le {P : Nat → Bool} {T : Nat → Nat} {n p : Nat} (h : p ≤ n) : tx_to P T n p ≤ n := tx_run_le _ _ h
/-- a loop over the places that have P, up to the first that hasn't -/
theorem tx_to_is {P : Nat → Bool} {T : Nat → Nat} {n p q : Nat} (h : p ≤ q) (hP : ∀ k, p ≤ k → k < q → k < n ∧ P (T k) = true) (he : n ≤ q ∨ P (T q) = false) : tx_to P T n p = q := by
  obtain ⟨k, rfl⟩ : ∃ k, q = p + k := ⟨q - p, by omega⟩
  induction k generalizing p with
  | zero => exact tx_to_end he
  | succ k ih =>
    obtain ⟨h1, h2⟩ := hP p (Nat.le_refl _) (by omega)
    rw [tx_to_go h1 h2, ih (p := p + 1) (by omega) (fun j a b => hP j (by omega) (by omega)) (by rw [show p + 1 + k = p + (k + 1) from by omega]; exact he)]
    omega
/-- the letters from a on, up to b -/
def tx_wd (T : Nat → Nat) (a : Nat) : Nat → List Nat
  | 0 => []
  | k + 1 => tx_wd T a k ++ [T (a + k)]
theorem tx_wd_len {T : Nat → Nat} {a : Nat} : ∀ {k : Nat}, (tx_wd T a k).length = k
  | 0 => rfl
  | k + 1 => by
    show (tx_wd T a k ++ [T (a + k)]).length = _
    rw [List.length_append, tx_wd_len]
    rfl
theorem tx_wd_cons {T : Nat → Nat} {a : Nat} : ∀ {k : Nat}, tx_wd T a (k + 1) = T a :: tx_wd T (a + 1) k
  | 0 => rfl
  | k + 1 => by
    show tx_wd T a (k + 1) ++ [T (a + (k + 1))] = T a :: (tx_wd T (a + 1) k ++ [T (a + 1 + k)])
    rw [tx_wd_cons, show a + (k + 1) = a + 1 + k from by omega]
    rfl
theorem tx_wd_mem {T : Nat → Nat} {a c : Nat} : ∀ {k : Nat}, c ∈ tx_wd T a k → ∃ j, j < k ∧ c = T (a + j)
  | 0, h => by cases h
  | k + 1, h => by
    rcases List.mem_append.mp h with h | h
    · obtain ⟨j, h1, h2⟩ := tx_wd_mem h
      exact ⟨j, by omega, h2⟩
    · rw [List.mem_singleton] at h
      exact ⟨k, by omega, h⟩
/-- a word's number to the base b, a letter's sign less o -/
def tx_en (b o : Nat) (l : List Nat) : Nat := l.foldl (fun x c => x * b + (c - o)) 0
theorem tx_en_snoc {b o c : Nat} {l : List Nat} : tx_en b o (l ++ [c]) = tx_en b o l * b + (c - o) := by
  unfold tx_en
  rw [List.foldl_append]
  rfl
/-- the same from the last letter on -/
def tx_er (b o : Nat) : List Nat → Nat
  | [] => 0
  | c :: l => tx_er b o l * b + (c - o)
theorem tx_er_snoc {b o c : Nat} : ∀ {l : List Nat}, tx_en b o (l.reverse) = tx_er b o l
  | [] => rfl
  | c :: l => by
    rw [List.reverse_cons, tx_en_snoc, tx_er_snoc (c := c)]
    rfl
theorem tx_en_er {b o : Nat} {l : List Nat} : tx_en b o l = tx_er b o l.reverse := by
  rw [← tx_er_snoc (c := 0), List.reverse_reverse]
def tx_ok (l : List Nat) : Prop := ∀ c, c ∈ l → 97 ≤ c ∧ c ≤ 122
theorem tx_er_inj {b o : Nat} (ho : o < 97) (hb : 122 < b + o) : ∀ {l l' : List Nat}, tx_ok l → tx_ok l' → tx_er b o l = tx_er b o l' → l = l'
  | [], [], _, _, _ => rfl
  | [], c :: l', _, h', e => by
    have := h' c List.mem_cons_self
    have e : 0 = tx_er b o l' * b + (c - o) := e
    omega
  | c :: l, [], h, _, e => by
    have := h c List.mem_cons_self
    have e : tx_er b o l * b + (c - o) = 0 := e
    omega
  | c :: l, c' :: l', h, h', e => by
    have h1 := h c List.mem_cons_self
    have h2 := h' c' List.mem_cons_self
    have e : tx_er b o l * b + (c - o) = tx_er b o l' * b + (c' - o) := e
    have hm : (c - o) % b = (c' - o) % b := by
      have := congrArg (fun x => x % b) e
      (try dsimp only at this)
      rw [Nat.mul_add_mod_self_right, Nat.mul_add_mod_self_right] at this
      exact this
    rw [Nat.mod_eq_of_lt (by omega), Nat.mod_eq_of_lt (by omega)] at hm
    have hq : tx_er b o l = tx_er b o l' := by
      have e2 : tx_er b o l * b = tx_er b o l' * b := by omega
      exact Nat.eq_of_mul_eq_mul_right (by omega) e2
    rw [tx_er_inj ho hb (fun x hx => h x (List.mem_cons_of_mem _ hx)) (fun x hx => h' x (List.mem_cons_of_mem _ hx)) hq, show c = c' from by omega]
theorem tx_en_inj {b o : Nat} (ho : o < 97) (hb : 122 < b + o) {l l' : List Nat} (h : tx_ok l) (h' : tx_ok l') (e : tx_en b o l = tx_en b o l') : l = l' := by
  rw [tx_en_er, tx_en_er] at e
  have := tx_er_inj ho hb (fun c hc => h c (List.mem_reverse.mp hc)) (fun c hc => h' c (List.mem_reverse.mp hc)) e
  exact List.reverse_inj.mp this
theorem tx_er_lt {b o : Nat} (hb : 122 < b + o) (ho : 0 < b) : ∀ {l : List Nat}, tx_ok l → tx_er b o l < b ^ l.length
  | [], _ => by show 0 < b ^ 0; rw [Nat.pow_zero]; omega
  | c :: l, h => by
    have h1 := h c List.mem_cons_self
    have ih := tx_er_lt hb ho (fun x hx => h x (List.mem_cons_of_mem _ hx))
    show tx_er b o l * b + (c - o) < b ^ (l.length + 1)
    rw [Nat.pow_succ]
    have h2 : (tx_er b o l + 1) * b ≤ b ^ l.length * b := Nat.mul_le_mul_right b ih
    rw [Nat.add_mul, Nat.one_mul] at h2
    omega
theorem tx_en_lt {b o k : Nat} (hb : 122 < b + o) (ho : 0 < b) {l : List Nat} (h : tx_ok l) (hk : l.length ≤ k) : tx_en b o l < b ^ k := by
  rw [tx_en_er]
  have := tx_er_lt hb ho (l := l.reverse) (fun c hc => h c (List.mem_reverse.mp hc))
  rw [List.length_reverse] at this
  exact Nat.lt_of_lt_of_le this (Nat.pow_le_pow_right ho hk)
theorem tx_j64 {a b : Nat} (ha : a < 18446744073709551616) (hb : b < 18446744073709551616) (h : Int64.ofNat a = Int64.ofNat b) : a = b := by
  have e := congrArg (fun x : Int64 => x.toBitVec.toNat) h
  simp only [Int64.toBitVec_ofNat', BitVec.toNat_ofNat] at e
  omega
/-- the words' numbers as the two sides have them -/
def tx_x (l : List Nat) : Int64 := Int64.ofNat (tx_en 32 96 l)
def tx_m (l : List Nat) : Int64 := Int64.ofNat (tx_en 256 0 l)
def tx_w (l : List Nat) : Prop := tx_ok l ∧ l.length ≤ 8
theorem tx_x_inj {l l' : List Nat} (h : tx_w l) (h' : tx_w l') (e : tx_x l = tx_x l') : l = l' := by
  have b1 := tx_en_lt (b := 32) (o := 96) (by decide) (by decide) h.1 h.2
  have b2 := tx_en_lt (b := 32) (o := 96) (by decide) (by decide) h'.1 h'.2
  exact tx_en_inj (by decide) (by decide) h.1 h'.1 (tx_j64 (by omega) (by omega) e)
theorem tx_m_inj {l l' : List Nat} (h : tx_w l) (h' : tx_w l') (e : tx_m l = tx_m l') : l = l' := by
  have b1 := tx_en_lt (b := 256) (o := 0) (by decide) (by decide) h.1 h.2
  have b2 := tx_en_lt (b := 256) (o := 0) (by decide) (by decide) h'.1 h'.2
  exact tx_en_inj (by decide) (by decide) h.1 h'.1 (tx_j64 (by omega) (by omega) e)
/-- the number that digits make -/
def tx_dec (T : Nat → Nat) (a : Nat) : Nat → Nat
  | 0 => 0
  | k + 1 => tx_dec T a k * 10 + (T (a + k) - 48)
/-- the words that stand for themselves: false is the first, classic the last -/
def tx_keys : List (List Nat) := [[102, 97, 108, 115, 101], [97, 110, 100], [111, 114], [105, 109, 112], [97, 108, 108], [115, 111, 109, 101], [115, 97, 109, 101], [110, 111, 116], [114, 101, 108], [102, 117, 110], [97, 120, 105, 111, 109],
  [97, 115, 115, 117, 109, 101], [116, 104, 101, 111, 114, 101, 109], [98, 111, 116, 104], [108, 101, 102, 116], [114, 105, 103, 104, 116], [111, 114, 108, 101, 102, 116], [111, 114, 114, 105, 103, 104, 116], [99, 97, 115, 101], [97, 112, 112, 108, 121], [100, 101, 100, 117, 99, 101],
  [103, 101, 110, 101, 114, 97, 108], [115, 112, 101, 99, 105, 97, 108], [101, 120, 105, 115, 116], [111, 112, 101, 110], [114, 101, 112, 108, 97, 99, 101], [97, 98, 115, 117, 114, 100], [99, 108, 97, 115, 115, 105, 99]]
/-- the first place of a word in a list -/
def tx_ix : List (List Nat) → List Nat → Nat → Option Nat
  | [], _, _ => none
  | k :: l, w, i => if k = w then some i else tx_ix l w (i + 1)
def tx_at (l : List (List Nat)) (w : List Nat) : Option Nat := tx_ix l w 0
theorem tx_ix_some : ∀ {l : List (List Nat)} {w : List Nat} {i k : Nat}, tx_ix l w i = some k → i ≤ k ∧ k < i + l.length ∧ l[k - i]? = some w ∧ ∀ j, j < k - i → l[j]? ≠ some w
  | [], w, i, k, h => by cases h
  | a :: l, w, i, k, h => by
    unfold tx_ix at h
    split at h
    · next e =>
      cases h
      refine ⟨Nat.le_refl _, by rw [List.length_cons]; omega, by rw [Nat.sub_self, e]; rfl, fun j hj => by omega⟩
    · next e =>
      obtain ⟨h1, h2, h3, h4⟩ := tx_ix_some h
      refine ⟨by omega, by rw [List.length_cons]; omega, ?_, fun j hj => ?_⟩
      · rw [show k - i = (k - (i + 1)) + 1 from by omega, List.getElem?_cons_succ]
        exact h3
      · cases j with
        | zero => rw [List.getElem?_cons_zero]; exact fun z => e (Option.some.inj z)
        | succ j => rw [List.getElem?_cons_succ]; exact h4 j (by omega)
theorem tx_ix_none : ∀ {l : List (List Nat)} {w : List Nat} {i : Nat}, tx_ix l w i = none → ∀ j : Nat, l[j]? ≠ some w
  | [], w, i, h, j => by intro z; cases z
  | a :: l, w, i, h, j => by
    unfold tx_ix at h
    split at h
    · cases h
    · next e =>
      cases j with
      | zero => rw [List.getElem?_cons_zero]; exact fun z => e (Option.some.inj z)
      | succ j => rw [List.getElem?_cons_succ]; exact tx_ix_none h j
/-- what a loop over a list finds -/
theorem tx_at_is {l : List (List Nat)} {w : List Nat} {k : Nat} (h : l[k]? = some w) (hj : ∀ j, j < k → l[j]? ≠ some w) : tx_at l w = some k := by
  unfold tx_at
  cases e : tx_ix l w 0 with
  | none => exact absurd h (tx_ix_none e k)
  | some q =>
    obtain ⟨-, -, h3, h4⟩ := tx_ix_some e
    rw [Nat.sub_zero] at h3 h4
    rcases Nat.lt_trichotomy q k with z | z | z
    · exact absurd h3 (hj q z)
    · rw [z]
    · exact absurd h (h4 k z)
theorem tx_at_no {l : List (List Nat)} {w : List Nat} (h : ∀ j, j < l.length → l[j]? ≠ some w) : tx_at l w = none := by
  unfold tx_at
  cases e : tx_ix l w 0 with
  | none => rfl
  | some q =>
    obtain ⟨-, h2, h3, -⟩ := tx_ix_some e
    exact absurd h3 (h _ (by omega))
/-- a token, from the place p on: kind (0 end, 1 none, 2 name, 3 word, 4 number, 5 sign), place, place behind, the word's letters, the key word's or the digits' number -/
abbrev tx_K : Type := Nat × Nat × Nat × List Nat × Nat
def tx_tok (T : Nat → Nat) (n p : Nat) : tx_K :=
  let a := tx_to tx_B T n p
  if n ≤ a then (0, a, a, [], 0)
  else if tx_L (T a) = true then
    let e := tx_to tx_L T n a
    if 8 < e - a then (1, a, e, [], 0)
    else match tx_at tx_keys (tx_wd T a (e - a)) with
      | some k => (3, a, e, tx_wd T a (e - a), k)
      | none => (2, a, e, tx_wd T a (e - a), 0)
  else if tx_D (T a) = true then
    let e := tx_to tx_D T n a
    if 4 < e - a ∨ (e < n ∧ tx_L (T e) = true) then (1, a, e, [], 0) else (4, a, e, [], tx_dec T a (e - a))
  else if T a = 59 then (5, a, a + 1, [], 0) else (1, a, a + 1, [], 0)
end
section
/-! THE READER of formulas and terms, as a machine of frames: a frame is what it still wants (how many, formulas?), whether it is a not's, the name that it binds -/
/-- names with what they take: relations, functions; whether no name may be free -/
abbrev tx_E : Type := (List (List Nat × Nat) × List (List Nat × Nat)) × Bool
def tx_R (E : tx_E) : List (List Nat) := E.1.1.map Prod.fst
def tx_G (E : tx_E) : List (List Nat) := E.1.2.map Prod.fst
abbrev tx_F : Type := Nat × Bool × Bool × Option (List Nat)
/-- phase (0 a term begins, 1 a formula begins, 2 what is ended ends, 3 done, 4 a fault), frames, place, row, free names, the fault's kind -/
abbrev tx_C : Type := Nat × List tx_F × Nat × List Nat × List (List Nat) × Nat
def tx_bs : List tx_F → List (List Nat)
  | [] => []
  | (_, _, _, none) :: S => tx_bs S
  | (_, _, _, some w) :: S => w :: tx_bs S
def tx_due : List tx_F → Nat
  | [] => 0
  | (_, _, nt, _) :: S => (if nt then 1 else 0) + tx_due S
def tx_bk (tk : tx_K) : Nat := if tk.1 = 1 then 1 else 2
def tx_isX (E : tx_E) (tk : tx_K) : Prop := tk.1 = 2 ∧ tx_at (tx_R E) tk.2.2.2.1 = none ∧ tx_at (tx_G E) tk.2.2.2.1 = none
/-- the piece that a formula begins with here, but for a not -/
def tx_pc (E : tx_E) (tk : tx_K) : Option Nat :=
  if tk.1 = 3 then (if tk.2.2.2.2 ≤ 6 then some tk.2.2.2.2 else none)
  else if tk.1 = 2 then (match tx_at (tx_R E) tk.2.2.2.1 with
    | some r => some (10 + r)
    | none => none)
  else none
def tx_ra (E : tx_E) (r : Nat) : Nat := (E.1.1.getD r ([], 0)).2
def tx_fa (E : tx_E) (f : Nat) : Nat := (E.1.2.getD f ([], 0)).2
/-- how many parts stand behind a formula's piece -/
def tx_ar (E : tx_E) (c : Nat) : Nat := if c = 0 then 0 else if c < 4 then 2 else if c < 6 then 1 else if c = 6 then 2 else tx_ra E (c - 10)
def tx_room (S : List tx_F) (l : List Nat) (d k : Nat) : Prop := S.length + d ≤ 12 ∧ l.length + tx_due S + k ≤ 40
/-- the piece of a name: bound ones (the nearest is 40), then free ones; none: it may not be free, or is one too many -/
def tx_nm (E : tx_E) (S : List tx_F) (fr : List (List Nat)) (w : List Nat) : Option (Nat × List (List Nat)) := match tx_at (tx_bs S) w with
  | some i => some (40 + i, fr)
  | none => if E.2 = true then none else match tx_at fr w with
    | some i => some (60 + i, fr)
    | none => if fr.length < 12 then some (60 + fr.length, fr ++ [w]) else none
section TXM
variable (T : Nat → Nat) (n : Nat) (E : tx_E)
def tx_bf (S : List tx_F) (p : Nat) (l : List Nat) (fr : List (List Nat)) : tx_C :=
  let tk := tx_tok T n p
  if tk.1 = 3 ∧ tk.2.2.2.2 = 7 then
    if S.length + 1 ≤ 12 ∧ l.length + tx_due S + 2 ≤ 40 then (2, (1, true, true, none) :: S, tk.2.2.1, l ++ [3], fr, 0) else (4, S, tk.2.1, l, fr, tx_bk tk)
  else match tx_pc E tk with
    | none => (4, S, tk.2.1, l, fr, tx_bk tk)
    | some c =>
      if S.length ≤ 12 ∧ l.length + tx_due S + 1 ≤ 40 ∧ ((c = 4 ∨ c = 5) → (tx_bs S).length ≤ 4) then
        if c = 4 ∨ c = 5 then
          if (tx_tok T n tk.2.2.1).1 = 2 ∧ tx_at (tx_R E) (tx_tok T n tk.2.2.1).2.2.2.1 = none ∧ tx_at (tx_G E) (tx_tok T n tk.2.2.1).2.2.2.1 = none then
            (2, (1, true, false, some (tx_tok T n tk.2.2.1).2.2.2.1) :: S, (tx_tok T n tk.2.2.1).2.2.1, l ++ [c], fr, 0)
          else (4, S, (tx_tok T n tk.2.2.1).2.1, l ++ [c], fr, tx_bk (tx_tok T n tk.2.2.1))
        else (2, (tx_ar E c, decide (c < 6), false, none) :: S, tk.2.2.1, l ++ [c], fr, 0)
      else (4, S, tk.2.1, l, fr, tx_bk tk)
def tx_bt (S : List tx_F) (p : Nat) (l : List Nat) (fr : List (List Nat)) : tx_C :=
  let tk := tx_tok T n p
  if tk.1 = 2 ∧ tx_at (tx_R E) tk.2.2.2.1 = none ∧ S.length ≤ 12 ∧ l.length + tx_due S + 1 ≤ 40 then
    match tx_at (tx_G E) tk.2.2.2.1 with
    | some g => (2, (tx_fa E g, false, false, none) :: S, tk.2.2.1, l ++ [20 + g], fr, 0)
    | none => match tx_nm E S fr tk.2.2.2.1 with
      | some (c, fr2) => (2, (0, false, false, none) :: S, tk.2.2.1, l ++ [c], fr2, 0)
      | none => (4, S, tk.2.1, l, fr, if E.2 = true then 5 else 2)
  else (4, S, tk.2.1, l, fr, tx_bk tk)
def tx_st : tx_C → tx_C
  | (0, S, p, l, fr, _) => tx_bt T n E S p l fr
  | (1, S, p, l, fr, _) => tx_bf T n E S p l fr
  | (2, [], p, l, fr, _) => (3, [], p, l, fr, 0)
  | (2, (0, _, nt, _) :: S, p, l, fr, _) => (2, S, p, if nt then l ++ [0] else l, fr, 0)
  | (2, (k + 1, b, nt, w) :: S, p, l, fr, _) => (if b then 1 else 0, (k, b, nt, w) :: S, p, l, fr, 0)
  | c => c
end TXM
/-! runs of steps -/
def gt_it {α : Type} (f : α → α) : Nat → α → α
  | 0, c => c
  | m + 1, c => gt_it f m (f c)
def gt_go {α : Type} (f : α → α) (c c' : α) : Prop := ∃ m, gt_it f m c = c'
theorem gt_refl {α : Type} {f : α → α} {c : α} : gt_go f c c := ⟨0, rfl⟩
theorem gt_step {α : Type} {f : α → α} {c c1 c' : α} (h : f c = c1) (g : gt_go f c1 c') : gt_go f c c' := by
  obtain ⟨m, hm⟩ := g
  exact ⟨m + 1, by show gt_it f m (f c) = c'; rw [h]; exact hm⟩
theorem gt_one {α : Type} {f : α → α} {c c1 : α} (h : f c = c1) : gt_go f c c1 := gt_step h gt_refl
theorem gt_it_add {α : Type} {f : α → α} : ∀ {a b : Nat} {c : α}, gt_it f (a + b) c = gt_it f b (gt_it f a c)
  | 0, b, c => by rw [Nat.zero_add]; rfl
  | a + 1, b, c => by
    rw [show a + 1 + b = (a + b) + 1 from by omega]
    show gt_it f (a + b) (f c) = gt_it f b (gt_it f a (f c))
    exact gt_it_add
theorem gt_trans {α : Type} {f : α → α} {c c1 c2 : α} (h : gt_go f c c1) (g : gt_go f c1 c2) : gt_go f c c2 := by
  obtain ⟨a, ha⟩ := h
  obtain ⟨b, hb⟩ := g
  exact ⟨a + b, by rw [gt_it_add, ha, hb]⟩
theorem gt_fix {α : Type} {f : α → α} {c : α} (h : f c = c) : ∀ {m : Nat}, gt_it f m c = c
  | 0 => rfl
  | m + 1 => by
    show gt_it f m (f c) = c
    rw [h]
    exact gt_fix h
/-- ends are the same -/
theorem gt_det {α : Type} {f : α → α} {c a b : α} (ha : gt_go f c a) (hb : gt_go f c b) (fa : f a = a) (fb : f b = b) : a = b := by
  obtain ⟨k, rfl⟩ := ha
  obtain ⟨j, rfl⟩ := hb
  rcases Nat.le_total k j with h | h
  · obtain ⟨q, rfl⟩ : ∃ q, j = k + q := ⟨j - k, by omega⟩
    rw [gt_it_add, gt_fix fa]
  · obtain ⟨q, rfl⟩ : ∃ q, k = j + q := ⟨k - j, by omega⟩
    rw [gt_it_add, gt_fix fb]
/-- the end that a run comes to, if there is one -/
noncomputable def gt_end {α : Type} (f : α → α) (c : α) : α := @Classical.epsilon α ⟨c⟩ (fun e => gt_go f c e ∧ f e = e)
theorem gt_end_is {α : Type} {f : α → α} {c a : α} (ha : gt_go f c a) (fa : f a = a) : gt_end f c = a := by
  have h : gt_go f c (gt_end f c) ∧ f (gt_end f c) = gt_end f c := @Classical.epsilon_spec α (fun e => gt_go f c e ∧ f e = e) ⟨a, ha, fa⟩
  exact gt_det h.1 ha h.2 fa
/-! A THEORY: relations, functions with what they take, axioms with their rows -/
abbrev tx_H : Type := (List (List Nat × Nat) × List (List Nat × Nat)) × List (List Nat × List Nat)
/-- phase (0 a line begins, 3 done, 4 a fault), the theory so far, the place, the fault's kind -/
abbrev tx_D4 : Type := Nat × tx_H × Nat × Nat
def tx_A (h : tx_H) : List (List Nat) := h.2.map Prod.fst
section TXT
variable (T : Nat → Nat) (n : Nat)
def tx_semi (h : tx_H) (p : Nat) : tx_D4 := if (tx_tok T n p).1 = 5 then (0, h, (tx_tok T n p).2.2.1, 0) else (4, h, (tx_tok T n p).2.1, tx_bk (tx_tok T n p))
/-- a relation or a function told: its name stands at p -/
def tx_sym (rel : Bool) (h : tx_H) (p : Nat) : tx_D4 :=
  let tk := tx_tok T n p
  if tk.1 = 2 then
    if tx_at (h.1.1.map Prod.fst) tk.2.2.2.1 = none ∧ tx_at (h.1.2.map Prod.fst) tk.2.2.2.1 = none then
      if (tx_tok T n tk.2.2.1).1 = 4 then
        if (tx_tok T n tk.2.2.1).2.2.2.2 ≤ 2 then
          tx_semi T n (if rel then ((h.1.1 ++ [(tk.2.2.2.1, (tx_tok T n tk.2.2.1).2.2.2.2)], h.1.2), h.2) else ((h.1.1, h.1.2 ++ [(tk.2.2.2.1, (tx_tok T n tk.2.2.1).2.2.2.2)]), h.2)) (tx_tok T n tk.2.2.1).2.2.1
        else (4, h, (tx_tok T n tk.2.2.1).2.1, 4)
      else (4, h, (tx_tok T n tk.2.2.1).2.1, tx_bk (tx_tok T n tk.2.2.1))
    else (4, h, tk.2.1, 3)
  else (4, h, tk.2.1, tx_bk tk)
noncomputable def tx_axm (h : tx_H) (p : Nat) : tx_D4 :=
  let tk := tx_tok T n p
  if tk.1 = 2 then
    if tx_at (tx_A h) tk.2.2.2.1 = none then
      match gt_end (tx_st T n (h.1, true)) (1, [], tk.2.2.1, [], [], 0) with
      | (4, _, q, _, _, k) => (4, h, q, k)
      | (_, _, q, l, _, _) => tx_semi T n (h.1, h.2 ++ [(tk.2.2.2.1, l)]) q
    else (4, h, tk.2.1, 3)
  else (4, h, tk.2.1, tx_bk tk)
noncomputable def tx_lb (h : tx_H) (p : Nat) : tx_D4 :=
  if (tx_tok T n p).1 = 0 then (3, h, p, 0)
  else if (tx_tok T n p).1 = 3 ∧ (tx_tok T n p).2.2.2.2 = 8 ∧ h.1.1.length < 6 then tx_sym T n true h (tx_tok T n p).2.2.1
  else if (tx_tok T n p).1 = 3 ∧ (tx_tok T n p).2.2.2.2 = 9 ∧ h.1.2.length < 4 then tx_sym T n false h (tx_tok T n p).2.2.1
  else if (tx_tok T n p).1 = 3 ∧ (tx_tok T n p).2.2.2.2 = 10 ∧ h.2.length < 8 then tx_axm T n h (tx_tok T n p).2.2.1
  else (4, h, (tx_tok T n p).2.1, tx_bk (tx_tok T n p))
noncomputable def tx_ln : tx_D4 → tx_D4
  | (0, h, p, _) => tx_lb T n h p
  | c => c
end TXT
end
section
/-! helpers of partial runs -/
theorem pl_in {i : Int32} {n : Nat} (h : pm_in i n = true) : 0 ≤ i.toInt ∧ i.toInt < n := by
  unfold pm_in at h
  rw [Bool.and_eq_true] at h
  have h1 := xle (of_decide_eq_true h.1)
  rw [Int32.toInt_zero] at h1
  have h2 : i.toInt.toNat < n := Nat.le_of_ble_eq_true h.2
  omega
theorem lg_z {a b : Int64} (h : lg_cmp a b = 0) : a = b := lg_eq (by rw [h]; rfl)
theorem lg_self (a : Int64) : lg_cmp a a = 0 := by
  unfold lg_cmp
  rw [if_neg (Int64.lt_irrefl), if_pos rfl]
theorem lg_nz {a b : Int64} (h : lg_cmp a b ≠ 0) : a ≠ b := fun e => h (by rw [e]; exact lg_self b)
theorem xtn {x : Int32} {a : Nat} (h : x.toInt = a) : x.toNatClampNeg = a := by
  show x.toInt.toNat = a
  omega
theorem xz {x : Int32} (h : 0 ≤ x.toInt) : (x.toNatClampNeg : Int) = x.toInt := by
  show ((x.toInt.toNat : Nat) : Int) = x.toInt
  omega
theorem nI_i {n : Nat} (h : n < 2147483648) : (nI n).toInt = n := Int32.toInt_ofNat_of_lt h
theorem xnI {x : Int32} {n : Nat} (h : x.toInt = n) : x = nI n := by
  have := xR x
  exact Int32.toInt_inj.mp (by rw [nI_i (by omega)]; exact h)
theorem xj1 {x : Int32} {a : Nat} (h : x.toInt = a) (ha : a < 2147483647) : (x + 1).toInt = (a + 1 : Nat) := by
  have h1 : (1 : Int32).toInt = 1 := by decide
  rw [xIa (by omega) (by omega), h, h1]
  omega
/-- the frame of the lexer of the class -/
def cv_fl (s s' : ps_S) : Prop := (∀ q f, (q ≠ 903 ∨ f = 2) → ps_i s' q f = ps_i s q f) ∧ (∀ q f, q ≠ 903 → ps_j s' q f = ps_j s q f) ∧ ps_r s' = ps_r s ∧ ps_a s' = ps_a s ∧ ps_b s' = ps_b s
theorem cv_fl_refl {s : ps_S} : cv_fl s s := ⟨fun _ _ _ => rfl, fun _ _ _ => rfl, rfl, rfl, rfl⟩
theorem cv_fl_tr {s s1 s2 : ps_S} (h : cv_fl s s1) (g : cv_fl s1 s2) : cv_fl s s2 := ⟨fun q f e => (g.1 q f e).trans (h.1 q f e), fun q f e => (g.2.1 q f e).trans (h.2.1 q f e), g.2.2.1.trans h.2.2.1, g.2.2.2.1.trans h.2.2.2.1, g.2.2.2.2.trans h.2.2.2.2⟩
theorem cv_fl_i {s s' : ps_S} {q : Nat} {v : Int32} (h : cv_fl s s') (hq : q ≠ 2) : cv_fl s (ps_ui s' 903 q v) := by
  refine ⟨fun q' f e => ?_, h.2.1, h.2.2.1, h.2.2.2.1, h.2.2.2.2⟩
  rw [ps_i_ui, if_neg (by omega)]
  exact h.1 q' f e
theorem cv_fl_j {s s' : ps_S} {q : Nat} {v : Int64} (h : cv_fl s s') : cv_fl s (ps_uj s' 903 q v) := by
  refine ⟨h.1, fun q' f e => ?_, h.2.2.1, h.2.2.2.1, h.2.2.2.2⟩
  rw [ps_j_uj, if_neg (by omega)]
  exact h.2.1 q' f e
/-- the class's text: T its bytes, n how many -/
def cv_T (s : ps_S) (T : Nat → Nat) (n : Nat) : Prop := ps_r s 903 1 = 1 ∧ (ps_i s 903 2).toInt = n ∧ n ≤ 1600 ∧ (∀ k, k < n → (ps_a s 1 k &&& 255).toInt = T k) ∧ ∀ (k : Nat) (w : List Nat), tx_keys[k]? = some w → ps_b s 904 k = tx_x w
theorem cv_T_fl {s s' : ps_S} {T : Nat → Nat} {n : Nat} (h : cv_T s T n) (g : cv_fl s s') : cv_T s' T n := by
  obtain ⟨h1, h2, h3, h4, h5⟩ := h
  obtain ⟨g1, g2, g3, g4, g5⟩ := g
  exact ⟨by rw [g3]; exact h1, by rw [g1 903 2 (Or.inr rfl)]; exact h2, h3, by rw [g4]; exact h4, by rw [g5]; exact h5⟩
/-- the class's token -/
def cv_K (s : ps_S) (tk : tx_K) : Prop := (ps_i s 903 4).toInt = tk.1 ∧ (ps_i s 903 5).toInt = tk.2.1 ∧ (ps_i s 903 3).toInt = tk.2.2.1 ∧ (tk.1 = 2 → ps_j s 903 8 = tx_x tk.2.2.2.1) ∧ (ps_i s 903 6).toInt = (if tk.1 = 3 then (tk.2.2.2.2 : Int) else -1) ∧ (tk.1 = 4 → (ps_i s 903 7).toInt = tk.2.2.2.2)
theorem ps_ln1 : ps_ln 1 = 1600 := by decide +kernel
theorem ps_ar1 : (ps_ar 1 1 || ps_ar 1 2) = true := by decide +kernel
theorem tx_B_c {c : Nat} : tx_B c = true ↔ c = 32 ∨ c = 10 := by
  unfold tx_B
  rw [Bool.or_eq_true, Nat.beq_eq, Nat.beq_eq]
theorem tx_L_c {c : Nat} : tx_L c = true ↔ 97 ≤ c ∧ c ≤ 122 := by
  unfold tx_L
  rw [Bool.and_eq_true, Nat.ble_eq, Nat.ble_eq]
theorem tx_D_c {c : Nat} : tx_D c = true ↔ 48 ≤ c ∧ c ≤ 57 := by
  unfold tx_D
  rw [Bool.and_eq_true, Nat.ble_eq, Nat.ble_eq]
end
section
/-! the arithmetic of words and numbers; what a token is -/
theorem xon {v : Int32} {t : Nat} (h : v.toInt = t) : v.toInt64 = Int64.ofNat t := by
  have := xR v
  refine Int64.toInt_inj.mp ?_
  rw [Int32.toInt_toInt64, Int64.toInt_ofNat_of_lt (by omega), h]
theorem xwl {c t : Nat} {l : Int64} {v : Int32} (hl : l = Int64.ofNat c) (hv : v.toInt = t) (ht : 97 ≤ t) : ((l * (32 : Int64) + Int32.toInt64 v) - (97 : Int64)) + 1 = Int64.ofNat (c * 32 + (t - 96)) := by
  rw [xon hv, hl]
  obtain ⟨u, rfl⟩ : ∃ u, t = u + 97 := ⟨t - 97, by omega⟩
  rw [show u + 97 - 96 = u + 1 from by omega, Int64.ofNat_add, Int64.ofNat_add, Int64.ofNat_mul, Int64.ofNat_add]
  show Int64.ofNat c * (32 : Int64) + (Int64.ofNat u + (97 : Int64)) - (97 : Int64) + 1 = Int64.ofNat c * (32 : Int64) + (Int64.ofNat u + 1)
  rw [← Int64.add_assoc, Int64.add_sub_cancel, Int64.add_assoc]
theorem xdg {c t : Nat} {l v : Int32} (hl : l = Int32.ofNat c) (hv : v.toInt = t) (ht : 48 ≤ t) : ((l * 10) + v) - 48 = Int32.ofNat (c * 10 + (t - 48)) := by
  rw [show v = Int32.ofNat t from xnI hv, hl]
  obtain ⟨u, rfl⟩ : ∃ u, t = u + 48 := ⟨t - 48, by omega⟩
  rw [show u + 48 - 48 = u from by omega, Int32.ofNat_add, Int32.ofNat_add, Int32.ofNat_mul]
  show Int32.ofNat c * (10 : Int32) + (Int32.ofNat u + (48 : Int32)) - (48 : Int32) = Int32.ofNat c * (10 : Int32) + Int32.ofNat u
  rw [← Int32.add_assoc, Int32.add_sub_cancel]
theorem tx_dec_lt {T : Nat → Nat} {a : Nat} : ∀ {k : Nat}, (∀ j, j < k → tx_D (T (a + j)) = true) → tx_dec T a k < 10 ^ k
  | 0, _ => by show 0 < 1; omega
  | k + 1, h => by
    have h1 := tx_D_c.mp (h k (Nat.lt_succ_self k))
    have ih := tx_dec_lt (k := k) (fun j hj => h j (by omega))
    show tx_dec T a k * 10 + (T (a + k) - 48) < 10 ^ (k + 1)
    rw [Nat.pow_succ]
    omega
theorem tx_keys_w : ∀ w, w ∈ tx_keys → tx_w w := by
  have h : tx_keys.all (fun w => w.all (fun c => Nat.ble 97 c && Nat.ble c 122) && Nat.ble w.length 8) = true := by decide +kernel
  intro w hw
  have k := List.all_eq_true.mp h w hw
  rw [Bool.and_eq_true] at k
  refine ⟨fun c hc => ?_, Nat.le_of_ble_eq_true k.2⟩
  have k2 := List.all_eq_true.mp k.1 c hc
  rw [Bool.and_eq_true] at k2
  exact ⟨Nat.le_of_ble_eq_true k2.1, Nat.le_of_ble_eq_true k2.2⟩
theorem tx_keys_get {i : Nat} (h : i < 28) : ∃ w, tx_keys[i]? = some w ∧ tx_w w := by
  have hl : tx_keys.length = 28 := by decide
  refine ⟨tx_keys[i]'(by omega), List.getElem?_eq_getElem _, tx_keys_w _ (List.getElem_mem _)⟩
theorem tx_wd_w {T : Nat → Nat} {a k : Nat} (h : ∀ j, j < k → tx_L (T (a + j)) = true) (hk : k ≤ 8) : tx_w (tx_wd T a k) := by
  refine ⟨fun c hc => ?_, by rw [tx_wd_len]; exact hk⟩
  obtain ⟨j, h1, h2⟩ := tx_wd_mem hc
  rw [h2]
  exact tx_L_c.mp (h j h1)
section TXK
variable {T : Nat → Nat} {n p a : Nat}
theorem tx_tok_end (ha : tx_to tx_B T n p = a) (h : n ≤ a) : tx_tok T n p = (0, a, a, [], 0) := by
  unfold tx_tok
  dsimp only
  rw [ha, if_pos h]
theorem tx_tok_word (ha : tx_to tx_B T n p = a) (h : a < n) (hL : tx_L (T a) = true) : tx_tok T n p = (if 8 < tx_to tx_L T n a - a then (1, a, tx_to tx_L T n a, [], 0) else match tx_at tx_keys (tx_wd T a (tx_to tx_L T n a - a)) with
      | some k => (3, a, tx_to tx_L T n a, tx_wd T a (tx_to tx_L T n a - a), k)
      | none => (2, a, tx_to tx_L T n a, tx_wd T a (tx_to tx_L T n a - a), 0)) := by
  unfold tx_tok
  dsimp only
  rw [ha, if_neg (by omega), if_pos hL]
  all_goals rfl
theorem tx_tok_num (ha : tx_to tx_B T n p = a) (h : a < n) (hL : ¬ tx_L (T a) = true) (hD : tx_D (T a) = true) : tx_tok T n p = (if 4 < tx_to tx_D T n a - a ∨ (tx_to tx_D T n a < n ∧ tx_L (T (tx_to tx_D T n a)) = true) then (1, a, tx_to tx_D T n a, [], 0) else (4, a, tx_to tx_D T n a, [], tx_dec T a (tx_to tx_D T n a - a))) := by
  unfold tx_tok
  dsimp only
  rw [ha, if_neg (by omega), if_neg hL, if_pos hD]
theorem tx_tok_sign (ha : tx_to tx_B T n p = a) (h : a < n) (hL : ¬ tx_L (T a) = true) (hD : ¬ tx_D (T a) = true) : tx_tok T n p = (if T a = 59 then (5, a, a + 1, [], 0) else (1, a, a + 1, [], 0)) := by
  unfold tx_tok
  dsimp only
  rw [ha, if_neg (by omega), if_neg hL, if_neg hD]
theorem tx_to_all {P : Nat → Bool} : ∀ {k : Nat}, p ≤ k → k < tx_to P T n p → k < n ∧ P (T k) = true := by
  have key : ∀ (f p : Nat), ∀ k, p ≤ k → k < tx_run P T n f p → k < n ∧ P (T k) = true := by
    intro f
    induction f with
    | zero =>
      intro p k h1 h2
      have h2 : k < p := h2
      omega
    | succ f ih =>
      intro p k h1 h2
      have h2 : k < cond (Nat.blt p n && P (T p)) (tx_run P T n f (p + 1)) p := h2
      cases e : Nat.blt p n && P (T p) with
      | false =>
        rw [e] at h2
        have h2 : k < p := h2
        omega
      | true =>
        rw [e] at h2
        rw [Bool.and_eq_true] at e
        by_cases hk : k = p
        · rw [hk]
          exact ⟨Nat.le_of_ble_eq_true e.1, e.2⟩
        · exact ih (p + 1) k (by omega) h2
  exact fun {k} h1 h2 => key (n - p) p k h1 h2
/-- what a token is, at least -/
theorem tx_tok_ok (hp : p ≤ n) : (tx_tok T n p).2.1 ≤ n ∧ (tx_tok T n p).2.2.1 ≤ n ∧ (tx_tok T n p).1 ≤ 5 ∧ ((tx_tok T n p).1 = 2 → tx_w (tx_tok T n p).2.2.2.1) ∧ ((tx_tok T n p).1 = 3 → (tx_tok T n p).2.2.2.2 < 28) ∧ ((tx_tok T n p).1 = 4 → (tx_tok T n p).2.2.2.2 < 10000) := by
  have ha : tx_to tx_B T n p ≤ n := tx_to_le hp
  generalize e : tx_to tx_B T n p = a at ha
  by_cases h : n ≤ a
  · rw [tx_tok_end e h]
    exact ⟨ha, ha, Nat.zero_le _, (fun z => by cases z), (fun z => by cases z), (fun z => by cases z)⟩
  by_cases hL : tx_L (T a) = true
  · have hle : tx_to tx_L T n a ≤ n := tx_to_le ha
    rw [tx_tok_word e (by omega) hL]
    split
    · exact ⟨ha, hle, Nat.le_of_ble_eq_true rfl, (fun z => by cases z), (fun z => by cases z), (fun z => by cases z)⟩
    · next h8 =>
      split
      · next k hk =>
        refine ⟨ha, hle, Nat.le_of_ble_eq_true rfl, (fun z => by cases z), fun _ => ?_, (fun z => by cases z)⟩
        have hl : tx_keys.length = 28 := by decide
        have := (tx_ix_some hk).2.1
        show k < 28
        omega
      · refine ⟨ha, hle, Nat.le_of_ble_eq_true rfl, fun _ => tx_wd_w (fun j hj => (tx_to_all (n := n) (p := a) (Nat.le_add_right a j) (by omega)).2) (by omega), (fun z => by cases z), (fun z => by cases z)⟩
  by_cases hD : tx_D (T a) = true
  · have hle : tx_to tx_D T n a ≤ n := tx_to_le ha
    rw [tx_tok_num e (by omega) hL hD]
    split
    · exact ⟨ha, hle, Nat.le_of_ble_eq_true rfl, (fun z => by cases z), (fun z => by cases z), (fun z => by cases z)⟩
    · next h4 =>
      refine ⟨ha, hle, Nat.le_of_ble_eq_true rfl, (fun z => by cases z), (fun z => by cases z), fun _ => ?_⟩
      have h5 := tx_dec_lt (T := T) (a := a) (k := tx_to tx_D T n a - a) (fun j hj => (tx_to_all (n := n) (p := a) (Nat.le_add_right a j) (by omega)).2)
      exact Nat.lt_of_lt_of_le h5 (Nat.le_trans (Nat.pow_le_pow_right (by decide) (show tx_to tx_D T n a - a ≤ 4 by omega)) (by decide))
  · rw [tx_tok_sign e (by omega) hL hD]
    split
    · exact ⟨ha, (by show a + 1 ≤ n; omega), Nat.le_of_ble_eq_true rfl, (fun z => by cases z), (fun z => by cases z), (fun z => by cases z)⟩
    · exact ⟨ha, (by show a + 1 ≤ n; omega), Nat.le_of_ble_eq_true rfl, (fun z => by cases z), (fun z => by cases z), (fun z => by cases z)⟩
end TXK
end
