set_option maxRecDepth 100000
/-! letters(), table(), row(): the reference -/
-- ProofBenchModel.letterOf(II)I
theorem pl_278_0 {n : Nat} {x1 : Int32} {x2 : Int32} {s : ps_S} {Q : Option Value → ps_S → Prop} (h :
  pl_At n 278 2 [(0, .ref 1131), (1, .int x1), (2, .int x2), (3, .int 0)] [] s Q) : pl_At (n + 1) 278 0 [(0, .ref 1131), (1, .int x1), (2, .int x2)] [] s Q :=
  pl_wp_at (stops := [(2, [0, 1, 2, 3])]) (f := 4) h rfl

theorem pl_278_2 {n : Nat} {x1 : Int32} {x2 : Int32} {x3 : Int32} {s : ps_S} {Q : Option Value → ps_S → Prop} (h :
  ((ps_i s 1131 60) ≤ x3 →
    (pm_in (ps_i s 1131 60) 41 = true →
      (pm_in (ps_i (ps_ua s 1164 (Int32.toNatClampNeg (ps_i s 1131 60)) x1) 1131 60) 41 = true →
        Q (some (.int ((ps_i (ps_ui (ps_ua (ps_ua s 1164 (Int32.toNatClampNeg (ps_i s 1131 60)) x1) 1165 (Int32.toNatClampNeg (ps_i (ps_ua s 1164 (Int32.toNatClampNeg (ps_i s 1131 60)) x1) 1131 60)) x2) 1131 60 ((ps_i (ps_ua (ps_ua s 1164 (Int32.toNatClampNeg (ps_i s 1131 60)) x1) 1165 (Int32.toNatClampNeg (ps_i (ps_ua s 1164 (Int32.toNatClampNeg (ps_i s 1131 60)) x1) 1131 60)) x2) 1131 60) + 1)) 1131 60) - 1))) (ps_ui (ps_ua (ps_ua s 1164 (Int32.toNatClampNeg (ps_i s 1131 60)) x1) 1165 (Int32.toNatClampNeg (ps_i (ps_ua s 1164 (Int32.toNatClampNeg (ps_i s 1131 60)) x1) 1131 60)) x2) 1131 60 ((ps_i (ps_ua (ps_ua s 1164 (Int32.toNatClampNeg (ps_i s 1131 60)) x1) 1165 (Int32.toNatClampNeg (ps_i (ps_ua s 1164 (Int32.toNatClampNeg (ps_i s 1131 60)) x1) 1131 60)) x2) 1131 60) + 1))))) ∧
  (x3 < (ps_i s 1131 60) →
    (pm_in x3 41 = true →
      (pm_in x3 41 = true →
        (((ps_a s 1165 (Int32.toNatClampNeg x3)) - (ps_a s 1164 (Int32.toNatClampNeg x3))) ≠ (x2 - x1) →
          pl_At n 278 2 [(0, .ref 1131), (1, .int x1), (2, .int x2), (3, .int (x3 + 1))] [] s Q) ∧
        (((ps_a s 1165 (Int32.toNatClampNeg x3)) - (ps_a s 1164 (Int32.toNatClampNeg x3))) = (x2 - x1) →
          (pm_in x3 41 = true →
            pl_Cl n 259 [.ref 1131, .int 25748, .int x1, .int (x2 - x1), .int 25748, .int (ps_a s 1164 (Int32.toNatClampNeg x3))] s (ps_rI (fun v1 s1 =>
              (v1 = 0 →
                pl_At n 278 2 [(0, .ref 1131), (1, .int x1), (2, .int x2), (3, .int (x3 + 1))] [] s1 Q) ∧
              (v1 ≠ 0 →
                Q (some (.int x3)) s1))))))))) : pl_At (n + 1) 278 2 [(0, .ref 1131), (1, .int x1), (2, .int x2), (3, .int x3)] [] s Q :=
  pl_wp_at (stops := [(2, [0, 1, 2, 3])]) (f := 61) h rfl

-- ProofBenchModel.layLetters()V
theorem pl_277_0 {n : Nat} {s : ps_S} {Q : Option Value → ps_S → Prop} (h :
  pl_At n 277 12 [(0, .ref 1131), (1, .int 0)] [] (ps_ui (ps_ui s 1131 59 0) 1131 60 0) Q) : pl_At (n + 1) 277 0 [(0, .ref 1131)] [] s Q :=
  pl_wp_at (stops := [(12, [0, 1])]) (f := 10) h rfl

theorem pl_277_12 {n : Nat} {x1 : Int32} {s : ps_S} {Q : Option Value → ps_S → Prop} (h :
  pl_Cl n 219 [.ref 1131, .int 25748] s (ps_rI (fun v1 s1 =>
    (v1 ≤ x1 →
      Q none s1) ∧
    (x1 < v1 →
      pl_Cl n 220 [.ref 1131, .int 25748, .int x1] s1 (ps_rI (fun v2 s2 =>
        (3 < v2 →
          pl_Cl n 221 [.ref 1131, .int 25748, .int x1] s2 (ps_rI (fun v3 s3 =>
            pl_Cl n 278 [.ref 1131, .int x1, .int v3] s3 (ps_rI (fun v4 s4 =>
              (pm_in (ps_i s3 1131 59) 41 = true →
                pl_At n 277 12 [(0, .ref 1131), (1, .int v3)] [] (ps_ui (ps_ua s4 1163 (Int32.toNatClampNeg (ps_i s3 1131 59)) ((100 : Int32) + v4)) 1131 59 ((ps_i (ps_ua s4 1163 (Int32.toNatClampNeg (ps_i s3 1131 59)) ((100 : Int32) + v4)) 1131 59) + 1)) Q)))))) ∧
        (v2 ≤ 3 →
          (pm_in (ps_i s2 1131 59) 41 = true →
            pl_At n 277 12 [(0, .ref 1131), (1, .int (x1 + 1))] [] (ps_ui (ps_ua s2 1163 (Int32.toNatClampNeg (ps_i s2 1131 59)) v2) 1131 59 ((ps_i (ps_ua s2 1163 (Int32.toNatClampNeg (ps_i s2 1131 59)) v2) 1131 59) + 1)) Q)))))))) : pl_At (n + 1) 277 12 [(0, .ref 1131), (1, .int x1)] [] s Q :=
  pl_wp_at (stops := [(12, [0, 1])]) (f := 56) h rfl

-- ProofBenchModel.isSoIn(I)Z
theorem pl_279_0 {n : Nat} {x1 : Int32} {s : ps_S} {Q : Option Value → ps_S → Prop} (h :
  pl_At n 279 9 [(0, .ref 1131), (1, .int x1), (2, .int 0), (3, .int ((ps_i s 1131 59) - 1))] [] s Q) : pl_At (n + 1) 279 0 [(0, .ref 1131), (1, .int x1)] [] s Q :=
  pl_wp_at (stops := [(9, [0, 1, 2, 3]), (77, [0, 1, 2, 3, 4]), (138, [0, 1, 2, 3])]) (f := 9) h rfl

theorem pl_279_9 {n : Nat} {x1 : Int32} {x2 : Int32} {x3 : Int32} {s : ps_S} {Q : Option Value → ps_S → Prop} (h :
  (x3 < 0 →
    (pm_in (0 : Int32) 41 = true →
      ((ps_a s 1166 (Int32.toNatClampNeg (0 : Int32))) ≠ 1 →
        Q (some (.int 0)) s) ∧
      ((ps_a s 1166 (Int32.toNatClampNeg (0 : Int32))) = 1 →
        Q (some (.int 1)) s))) ∧
  (0 ≤ x3 →
    (pm_in x3 41 = true →
      ((ps_a s 1163 (Int32.toNatClampNeg x3)) < 100 →
        ((ps_a s 1163 (Int32.toNatClampNeg x3)) ≠ 0 →
          pl_At n 279 77 [(0, .ref 1131), (1, .int x1), (2, .int (x2 + (Int32.ofInt (-1)))), (3, .int x3), (4, .int (ps_a s 1163 (Int32.toNatClampNeg x3)))] [] s Q) ∧
        ((ps_a s 1163 (Int32.toNatClampNeg x3)) = 0 →
          (pm_in x2 41 = true →
            pl_At n 279 138 [(0, .ref 1131), (1, .int x1), (2, .int (x2 + 1)), (3, .int x3)] [] (ps_ua s 1166 (Int32.toNatClampNeg x2) 0) Q))) ∧
      (100 ≤ (ps_a s 1163 (Int32.toNatClampNeg x3)) →
        (pm_in x2 41 = true →
          pl_At n 279 138 [(0, .ref 1131), (1, .int x1), (2, .int (x2 + 1)), (3, .int x3)] [] (ps_ua s 1166 (Int32.toNatClampNeg x2) ((x1 >>> ((((ps_i s 1131 60) - 1) - ((ps_a s 1163 (Int32.toNatClampNeg x3)) - 100)) &&& 31)) &&& 1)) Q))))) : pl_At (n + 1) 279 9 [(0, .ref 1131), (1, .int x1), (2, .int x2), (3, .int x3)] [] s Q :=
  pl_wp_at (stops := [(9, [0, 1, 2, 3]), (77, [0, 1, 2, 3, 4]), (138, [0, 1, 2, 3])]) (f := 51) h rfl

theorem pl_279_77 {n : Nat} {x1 : Int32} {x2 : Int32} {x3 : Int32} {x4 : Int32} {s : ps_S} {Q : Option Value → ps_S → Prop} (h :
  (pm_in x2 41 = true →
    (pm_in (x2 - 1) 41 = true →
      (x4 ≠ 1 →
        (x4 ≠ 2 →
          (pm_in (x2 - 1) 41 = true →
            pl_At n 279 138 [(0, .ref 1131), (1, .int x1), (2, .int x2), (3, .int x3)] [] (ps_ua s 1166 (Int32.toNatClampNeg (x2 - 1)) (((1 : Int32) - (ps_a s 1166 (Int32.toNatClampNeg x2))) ||| (ps_a s 1166 (Int32.toNatClampNeg (x2 - 1))))) Q)) ∧
        (x4 = 2 →
          (pm_in (x2 - 1) 41 = true →
            pl_At n 279 138 [(0, .ref 1131), (1, .int x1), (2, .int x2), (3, .int x3)] [] (ps_ua s 1166 (Int32.toNatClampNeg (x2 - 1)) ((ps_a s 1166 (Int32.toNatClampNeg x2)) ||| (ps_a s 1166 (Int32.toNatClampNeg (x2 - 1))))) Q))) ∧
      (x4 = 1 →
        (pm_in (x2 - 1) 41 = true →
          pl_At n 279 138 [(0, .ref 1131), (1, .int x1), (2, .int x2), (3, .int x3)] [] (ps_ua s 1166 (Int32.toNatClampNeg (x2 - 1)) ((ps_a s 1166 (Int32.toNatClampNeg x2)) &&& (ps_a s 1166 (Int32.toNatClampNeg (x2 - 1))))) Q))))) : pl_At (n + 1) 279 77 [(0, .ref 1131), (1, .int x1), (2, .int x2), (3, .int x3), (4, .int x4)] [] s Q :=
  pl_wp_at (stops := [(9, [0, 1, 2, 3]), (77, [0, 1, 2, 3, 4]), (138, [0, 1, 2, 3])]) (f := 41) h rfl

theorem pl_279_138 {n : Nat} {x1 : Int32} {x2 : Int32} {x3 : Int32} {s : ps_S} {Q : Option Value → ps_S → Prop} (h :
  pl_At n 279 9 [(0, .ref 1131), (1, .int x1), (2, .int x2), (3, .int (x3 + (Int32.ofInt (-1))))] [] s Q) : pl_At (n + 1) 279 138 [(0, .ref 1131), (1, .int x1), (2, .int x2), (3, .int x3)] [] s Q :=
  pl_wp_at (stops := [(9, [0, 1, 2, 3]), (77, [0, 1, 2, 3, 4]), (138, [0, 1, 2, 3])]) (f := 4) h rfl

-- ProofBenchModel.letters()I
theorem pl_280_0 {n : Nat} {s : ps_S} {Q : Option Value → ps_S → Prop} (h :
  pl_Cl n 219 [.ref 1131, .int 25748] s (ps_rI (fun v1 s1 =>
    (v1 ≠ 0 →
      pl_Cl n 277 [.ref 1131] s1 (ps_rV (fun s2 =>
        Q (some (.int (ps_i s2 1131 60))) s2))) ∧
    (v1 = 0 →
      Q (some (.int (-1))) s1)))) : pl_At (n + 1) 280 0 [(0, .ref 1131)] [] s Q :=
  pl_wp_at (stops := []) (f := 13) h rfl

-- ProofBenchModel.table()I
theorem pl_281_0 {n : Nat} {s : ps_S} {Q : Option Value → ps_S → Prop} (h :
  pl_Cl n 219 [.ref 1131, .int 25748] s (ps_rI (fun v1 s1 =>
    (v1 ≠ 0 →
      pl_Cl n 277 [.ref 1131] s1 (ps_rV (fun s2 =>
        ((ps_i s2 1131 60) ≤ 12 →
          pl_At n 281 32 [(0, .ref 1131), (1, .int 0), (2, .int 0)] [] s2 Q) ∧
        (12 < (ps_i s2 1131 60) →
          Q (some (.int (-2))) s2)))) ∧
    (v1 = 0 →
      Q (some (.int (-1))) s1)))) : pl_At (n + 1) 281 0 [(0, .ref 1131)] [] s Q :=
  pl_wp_at (stops := [(32, [0, 1, 2])]) (f := 20) h rfl

theorem pl_281_32 {n : Nat} {x1 : Int32} {x2 : Int32} {s : ps_S} {Q : Option Value → ps_S → Prop} (h :
  (((1 : Int32) <<< ((ps_i s 1131 60) &&& 31)) ≤ x2 →
    Q (some (.int x1)) s) ∧
  (x2 < ((1 : Int32) <<< ((ps_i s 1131 60) &&& 31)) →
    pl_Cl n 279 [.ref 1131, .int x2] s (ps_rI (fun v1 s1 =>
      (v1 = 0 →
        pl_At n 281 32 [(0, .ref 1131), (1, .int (x1 + 0)), (2, .int (x2 + 1))] [] s1 Q) ∧
      (v1 ≠ 0 →
        pl_At n 281 32 [(0, .ref 1131), (1, .int (x1 + 1)), (2, .int (x2 + 1))] [] s1 Q))))) : pl_At (n + 1) 281 32 [(0, .ref 1131), (1, .int x1), (2, .int x2)] [] s Q :=
  pl_wp_at (stops := [(32, [0, 1, 2])]) (f := 26) h rfl

-- ProofBenchModel.row()I
theorem pl_282_0 {n : Nat} {s : ps_S} {Q : Option Value → ps_S → Prop} (h :
  pl_Cl n 219 [.ref 1131, .int 25748] s (ps_rI (fun v1 s1 =>
    (v1 ≠ 0 →
      pl_Cl n 277 [.ref 1131] s1 (ps_rV (fun s2 =>
        ((ps_i s2 1131 60) ≤ 12 →
          pl_At n 282 30 [(0, .ref 1131), (1, .int 0)] [] s2 Q) ∧
        (12 < (ps_i s2 1131 60) →
          Q (some (.int (-2))) s2)))) ∧
    (v1 = 0 →
      Q (some (.int (-1))) s1)))) : pl_At (n + 1) 282 0 [(0, .ref 1131)] [] s Q :=
  pl_wp_at (stops := [(30, [0, 1])]) (f := 18) h rfl

theorem pl_282_30 {n : Nat} {x1 : Int32} {s : ps_S} {Q : Option Value → ps_S → Prop} (h :
  (((1 : Int32) <<< ((ps_i s 1131 60) &&& 31)) ≤ x1 →
    Q (some (.int (-1))) s) ∧
  (x1 < ((1 : Int32) <<< ((ps_i s 1131 60) &&& 31)) →
    pl_Cl n 279 [.ref 1131, .int x1] s (ps_rI (fun v1 s1 =>
      (v1 ≠ 0 →
        pl_At n 282 30 [(0, .ref 1131), (1, .int (x1 + 1))] [] s1 Q) ∧
      (v1 = 0 →
        Q (some (.int x1)) s1))))) : pl_At (n + 1) 282 30 [(0, .ref 1131), (1, .int x1)] [] s Q :=
  pl_wp_at (stops := [(30, [0, 1])]) (f := 18) h rfl

/-- the reference's signs: letters from 100 on -/
def lt_r (c : Nat) : Nat := if c < 4 then c else c + 96
def lt_m (s : ps_S) (ar : Nat → Nat) (l : List Nat) (L : List (List Nat)) (S : List Nat) : Prop := ((ps_i s 1131 59).toInt = S.length ∧ ar_L s 1163 (S.map lt_r)) ∧ (ps_i s 1131 60).toInt = L.length ∧ ∀ (k : Nat) (m : List Nat), L[k]? = some m → ∃ b, (ps_a s 1164 k).toInt = (b : Nat) ∧ (ps_a s 1165 k).toInt = (b + m.length : Nat) ∧ lt_bg ar l m b
def LMA : List Nat := [1163, 1164, 1165]
def LMF : List Nat := [59, 60]
theorem fm_278_2 {l m : List Nat} {L : List (List Nat)} {S : List Nat} {i : Nat} {bb : Bool} {σ : mSig} {ar : Nat → Nat} {x1 x2 : Int32} {s : ps_S} {R : Int32 → ps_S → Prop} (hA : ArW σ ar) (W0 : mv_W s 25748 l) (hL : lt_m s ar l L S) (hLn : L.length ≤ i) (hx : x1.toInt = i) (hx2 : x2.toInt = (i + m.length : Nat)) (hi : i < l.length) (hm : m = (l.drop i).take (en ar (l.drop i) 1)) (hw : ws σ m [bb]) (hml : i + m.length ≤ l.length) (k : ∀ (v : Int32) s', v.toInt = (lt_ix L m).1 → lt_m s' ar l (lt_ix L m).2 S → kq [1164, 1165] [60] s s' → R v s') : ∀ (n : Nat) {x3 : Int32} {j : Nat}, x3.toInt = j → j ≤ L.length → (∀ j', j' < j → L[j']? ≠ some m) → pl_At n 278 2 [(0, .ref 1131), (1, .int x1), (2, .int x2), (3, .int x3)] [] s (ps_rI R)
  | 0, _, _, _, _, _ => pl_At_0
  | n + 1, x3, j, hj, hjl, hn => by
    have h40 := W0.2.1
    have hl4 := hL.2.1
    have emm : (l.drop i).take m.length = m := tk_len hm
    have c25 : (25748 : Int32).toInt = (25748 : Nat) := by decide
    have e21 : (x2 - x1).toInt = (m.length : Nat) := by rw [xIs (by omega) (by omega), hx2, hx]; omega
    have nx : ∀ (m' : List Nat) (b : Nat), L[j]? = some m' → (m' = m → False) → pl_At n 278 2 [(0, .ref 1131), (1, .int x1), (2, .int x2), (3, .int (x3 + 1))] [] s (ps_rI R) := fun m' b hmj hne => by
      have hjl2 := (List.getElem?_eq_some_iff.mp hmj).1
      refine fm_278_2 hA W0 hL hLn hx hx2 hi hm hw hml k n (xj1 hj (by omega)) (by omega) (fun j' hj' z => ?_)
      rcases Nat.lt_or_ge j' j with y | y
      · exact hn j' y z
      · rw [show j' = j from by omega, hmj] at z
        exact hne (Option.some.inj z)
    refine pl_278_2 ⟨fun h7 => ?_, fun h7 => ?_⟩
    · have h7 := xle h7
      intro b1 b2
      have e : j = L.length := by omega
      subst e
      have e60 : (ps_i (ps_ua s 1164 (Int32.toNatClampNeg (ps_i s 1131 60)) x1) 1131 60) = ps_i s 1131 60 := rfl
      rw [e60, xtn hl4] at *
      refine k _ _ ?_ ?_ (kqi (kqa (kqa kq_refl rfl) rfl) rfl)
      · rw [lt_no hn]
        show ((ps_i s 1131 60 + 1) - 1).toInt = _
        have e1 : (ps_i s 1131 60 + 1).toInt = (L.length + 1 : Nat) := xj1 hl4 (by omega)
        have c1 : (1 : Int32).toInt = 1 := by decide
        rw [xIs (by omega) (by omega), e1, c1]
        omega
      · rw [lt_no hn]
        obtain ⟨⟨a1, a2⟩, a3, a4⟩ := hL
        refine ⟨⟨a1, a2⟩, ?_, fun k2 m2 hk2 => ?_⟩
        · show (ps_i s 1131 60 + 1).toInt = ((L ++ [m]).length : Nat)
          rw [List.length_append, List.length_singleton]
          exact xj1 a3 (by omega)
        · show ∃ b, (ps_a (ps_ua (ps_ua s 1164 L.length x1) 1165 L.length x2) 1164 k2).toInt = _ ∧ (ps_a (ps_ua (ps_ua s 1164 L.length x1) 1165 L.length x2) 1165 k2).toInt = _ ∧ _
          rcases Nat.lt_or_ge k2 L.length with z | z
          · rw [List.getElem?_append_left z] at hk2
            rw [ps_a_ua, if_neg (by omega), ps_a_ua, if_neg (by omega), ps_a_ua, if_neg (by omega), ps_a_ua, if_neg (by omega)]
            exact a4 k2 m2 hk2
          · have hkl := (List.getElem?_eq_some_iff.mp hk2).1
            rw [List.length_append, List.length_singleton] at hkl
            rw [show k2 = L.length from by omega, List.getElem?_append_right (Nat.le_refl _), Nat.sub_self] at hk2
            cases hk2
            rw [show k2 = L.length from by omega, ps_a_ua, if_neg (by omega), ps_a_ua, if_pos ⟨rfl, rfl⟩, ps_a_ua, if_pos ⟨rfl, rfl⟩]
            exact ⟨i, hx, hx2, hi, hm.symm⟩
    · have h7 := xlt h7
      obtain ⟨m', hmj⟩ : ∃ m', L[j]? = some m' := ⟨_, List.getElem?_eq_getElem (by omega)⟩
      obtain ⟨b, eb, ee, hb⟩ := hL.2.2 j m' hmj
      intro b1 b2
      rw [xtn hj]
      have hbl := hb.1
      have hme : m'.length ≤ l.length := by rw [← hb.2, List.length_take, List.length_drop]; omega
      have ed : ((ps_a s 1165 j) - (ps_a s 1164 j)).toInt = (m'.length : Nat) := by rw [xIs (by omega) (by omega), ee, eb]; omega
      refine ⟨fun h29 => ?_, fun h29 => ?_⟩
      · have h29 := xne h29
        exact nx m' b hmj (fun z => by rw [z] at ed; omega)
      · have h29 := xeq h29
        intro b3
        refine fm_259 c25 (by decide) W0 c25 (by decide) W0 hx e21 eb hml (by omega) (fun q => ⟨fun z => absurd z (by decide), fun _ => ?_⟩) (fun q => ⟨fun _ => ?_, fun z => absurd rfl z⟩)
        · rw [emm] at q
          have z2 := (lt_same hA hw hb).mp q
          rw [z2] at hmj
          have y := lt_at hmj hn
          exact k _ _ (by rw [y]; exact hj) (by rw [y]; exact hL) kq_refl
        · refine nx m' b hmj (fun z => q ?_)
          rw [emm]
          exact (lt_same hA hw hb).mpr z
theorem fm_278 {n : Nat} {l m : List Nat} {L : List (List Nat)} {S : List Nat} {i : Nat} {bb : Bool} {σ : mSig} {ar : Nat → Nat} {x1 x2 : Int32} {s : ps_S} {R : Int32 → ps_S → Prop} (hA : ArW σ ar) (W0 : mv_W s 25748 l) (hL : lt_m s ar l L S) (hLn : L.length ≤ i) (hx : x1.toInt = i) (hx2 : x2.toInt = (i + m.length : Nat)) (hi : i < l.length) (hm : m = (l.drop i).take (en ar (l.drop i) 1)) (hw : ws σ m [bb]) (hml : i + m.length ≤ l.length) (k : ∀ (v : Int32) s', (v.toInt = (lt_ix L m).1 ∧ lt_m s' ar l (lt_ix L m).2 S ∧ kq [1164, 1165] [60] s s') → R v s') : pl_Cl n 278 [.ref 1131, .int x1, .int x2] s (ps_rI R) := by
  cases n with
  | zero => exact pl_At_0
  | succ n =>
  show pl_At (n + 1) 278 0 [(0, .ref 1131), (1, .int x1), (2, .int x2)] [] s (ps_rI R)
  refine pl_278_0 ?_
  exact fm_278_2 hA W0 hL hLn hx hx2 hi hm hw hml (fun v s' a b c => k v s' ⟨a, b, c⟩) n rfl (Nat.zero_le _) (fun j hj => absurd hj (Nat.not_lt_zero _))
/-- the letters laid -/
def LTm (s : ps_S) (L : List (List Nat)) (S : List Nat) : Prop := (ps_i s 1131 59).toInt = S.length ∧ ar_L s 1163 (S.map lt_r) ∧ (ps_i s 1131 60).toInt = L.length ∧ S.length ≤ 40 ∧ L.length ≤ 40 ∧ cw S 1 ∧ ∀ c, c ∈ S → c < 4 + L.length
theorem ar_snocr {s : ps_S} {r c : Nat} {S : List Nat} {x : Int32} (h : ar_L s r (S.map lt_r)) (hx : x.toInt = (lt_r c : Nat)) : ar_L (ps_ua s r S.length x) r ((S ++ [c]).map lt_r) := by
  have := ar_snoc h hx
  rw [List.length_map] at this
  rw [List.map_append]
  exact this
theorem fm_277_12 {b : Nat} {l : List Nat} {g : tx_g} {s0 : ps_S} {R : ps_S → Prop} (hb : b < 2) (h21 : (ps_i s0 1131 21).toInt = b) (H : mv_E s0 b g) (W : mv_W s0 25748 l) (k : ∀ s' L S, lt_go (arh g) l L S → LTm s' L S → R s') : ∀ (n : Nat) {s : ps_S} {x1 : Int32} {i : Nat} {L : List (List Nat)} {S : List Nat}, kq LMA LMF s0 s → lt_m s (arh g) l L S → L.length ≤ i → S.length ≤ i → x1.toInt = i → i ≤ l.length → lt_W (sg g) (l.drop i) S → (∀ c, c ∈ S → c < 4 + L.length) → gt_go (lt_st (arh g)) (l, [], []) (l.drop i, L, S) → pl_At n 277 12 [(0, .ref 1131), (1, .int x1)] [] s (ps_rV R)
  | 0, _, _, _, _, _, _, _, _, _, _, _, _, _, _ => pl_At_0
  | n + 1, s, x1, i, L, S, K, hL, hLn, hSn, hx, hi, hW, hS4, hg => by
    have W0 : mv_W s 25748 l := by unfold mv_W at *; rw [kq_a K 1134 (by decide)]; exact W
    have h21' : (ps_i s 1131 21).toInt = b := by rw [kq_i K 21 (by decide)]; exact h21
    have H' := mv_E_kq H K (by decide)
    have h40 := W0.2.1
    have c25 : (25748 : Int32).toInt = (25748 : Nat) := by decide
    have c3 : (3 : Int32).toInt = 3 := by decide
    have hA := arh_k H.2.2.1 H.2.2.2.1
    obtain ⟨⟨a1, a2⟩, a3, a4⟩ := id hL
    refine pl_277_12 ?_
    refine fm_219c c25 W0 (fun v17 q17 => ⟨fun h20 => ?_, fun h20 => ?_⟩)
    · have h20 := xle h20
      have e : i = l.length := by omega
      subst e
      rw [List.drop_length] at hW hg
      exact k s L S hg ⟨a1, a2, a3, by omega, by omega, lt_W_end hW, hS4⟩
    · have h20 := xlt h20
      obtain ⟨c, hc⟩ : ∃ c, l[i]? = some c := ⟨_, List.getElem?_eq_getElem (by omega)⟩
      have hcd := drop_c hc
      refine fm_220c c25 (by decide) W0 hx hc (fun v28 q28 => ⟨fun h33 => ?_, fun h33 => ?_⟩)
      · have h33 := xlt h33
        obtain ⟨m, hm⟩ : ∃ m, m = (l.drop i).take (en (arh g) (l.drop i) 1) := ⟨_, rfl⟩
        obtain ⟨-, bb, hwm⟩ := lt_W_p hA (k := 0) hW (by rw [hcd]; exact List.cons_ne_nil _ _)
        obtain ⟨b0, Wi, hwi⟩ : ∃ b0 Wi, ws (sg g) (l.drop i) (b0 :: Wi) := by
          obtain ⟨W1, w1, -⟩ := hW
          cases W1 with
          | nil => rw [hcd] at w1; exact w1.elim
          | cons b0 W' => exact ⟨b0, W', w1⟩
        have hml0 : en (arh g) (l.drop i) 1 ≤ (l.drop i).length := en_le hA hwi (by rw [List.length_cons]; omega)
        have em : m.length = en (arh g) (l.drop i) 1 := by rw [hm, List.length_take]; omega
        rw [List.length_drop] at hml0
        refine fm_221 hb h21' H' c25 (by decide) W0 hx hwi (fun v58 q58 => ?_)
        refine fm_278 (m := m) hA W0 hL hLn hx (by rw [em]; exact q58) (by omega) hm (by rw [hm]; exact hwm) (by omega) (fun v75 s75 q75 => ?_)
        obtain ⟨ev, hL2, K2⟩ := q75
        intro b80
        have e59 : (ps_i s 1131 59) = (ps_i s75 1131 59) := (kq_i K2 59 (by decide)).symm
        rw [e59, xtn hL2.1.1]
        have hix := lt_ix_le (L := L) (m := m)
        have hpos := en_pos (ar := arh g) (t := l.drop i) (p := 1) (by rw [List.length_drop]; omega) (by decide)
        obtain ⟨⟨d1, d2⟩, d3, d4⟩ := hL2
        have c100 : (100 : Int32).toInt = 100 := by decide
        have e100 : ((100 : Int32) + v75).toInt = (lt_r (4 + (lt_ix L m).1) : Nat) := by
          unfold lt_r
          rw [if_neg (by omega), xIa (by omega) (by omega), c100, ev]
          omega
        refine fm_277_12 hb h21 H W k n (kqi (kqa (kqt K K2 (by decide) (by decide)) rfl) rfl) ⟨⟨?_, ar_snocr d2 e100⟩, d3, d4⟩ (by omega) (by rw [List.length_append, List.length_singleton]; omega) q58 (by omega) ?_ (fun y hy => ?_) (gt_trans hg (gt_one ?_))
        · rw [List.length_append, List.length_singleton]
          exact xj1 d1 (by omega)
        · rw [← List.drop_drop]
          exact (lt_W_p hA (k := (lt_ix L m).1) hW (by rw [hcd]; exact List.cons_ne_nil _ _)).1
        · rcases List.mem_append.mp hy with hy | hy
          · have := hS4 y hy
            have h2 : L.length ≤ (lt_ix L m).2.length := by
              unfold lt_ix
              cases tx_at L m with
              | none => rw [List.length_append]; omega
              | some k => exact Nat.le_refl _
            omega
          · rw [List.mem_singleton] at hy
            omega
        · rw [← List.drop_drop, hm, hcd]
          show (if c < 4 then _ else _) = _
          rw [if_neg (by omega)]
      · have h33 := xle h33
        intro b40
        rw [xtn a1]
        refine fm_277_12 hb h21 H W k n (L := L) (S := S ++ [c]) (kqi (kqa K rfl) rfl) ⟨⟨?_, ar_snocr a2 ?_⟩, a3, a4⟩ (by omega) (by rw [List.length_append, List.length_singleton]; omega) (xj1 hx (by omega)) (by omega) (lt_W_c (by rw [← hcd]; exact hW) (by omega)) (fun y hy => ?_) (gt_trans hg (gt_one ?_))
        · rw [List.length_append, List.length_singleton]
          exact xj1 a1 (by omega)
        · unfold lt_r
          rw [if_pos (by omega)]
          exact q28
        · rcases List.mem_append.mp hy with hy | hy
          · exact hS4 y hy
          · rw [List.mem_singleton] at hy
            omega
        · rw [hcd]
          show (if c < 4 then _ else _) = _
          rw [if_pos (by omega)]
theorem fm_277 {n b : Nat} {l : List Nat} {g : tx_g} {s : ps_S} {bb : Bool} {R : ps_S → Prop} (hb : b < 2) (h21 : (ps_i s 1131 21).toInt = b) (H : mv_E s b g) (W : mv_W s 25748 l) (hw : ws (sg g) l [bb]) (k : ∀ s' L S, lt_go (arh g) l L S → LTm s' L S → R s') : pl_Cl n 277 [.ref 1131] s (ps_rV R) := by
  cases n with
  | zero => exact pl_At_0
  | succ n =>
  show pl_At (n + 1) 277 0 [(0, .ref 1131)] [] s (ps_rV R)
  refine pl_277_0 ?_
  exact fm_277_12 hb h21 H W k n (i := 0) (L := []) (S := []) (kqi (kqi kq_refl rfl) rfl) ⟨⟨rfl, fun k c hk => by cases hk⟩, rfl, fun k m hk => by cases hk⟩ (Nat.zero_le _) (Nat.zero_le _) rfl (Nat.zero_le _) (by rw [List.drop_zero]; exact lt_W_0 hw) (fun c hc => by cases hc) gt_refl
/-! the worth of signs -/
theorem LTm_kq {s s' : ps_S} {L : List (List Nat)} {S : List Nat} (h : LTm s L S) (K : kq [1166] [] s s') : LTm s' L S := by
  unfold LTm ar_L at *
  rw [kq_i K 59 rfl, kq_i K 60 rfl, kq_a K 1163 (by decide)]
  exact h
section M279
variable {L : List (List Nat)} {S : List Nat} {x1 : Int32} {R : Int32 → ps_S → Prop}
theorem xof1 {x : Int32} {b : Nat} (h : x.toInt = b) (hb : 1 ≤ b) : (x + Int32.ofInt (-1)).toInt = (b : Int) - 1 := by
  have e : (Int32.ofInt (-1)).toInt = -1 := by decide
  have hr := xR x
  rw [xIa (by omega) (by omega), e, h]
  omega
theorem fm_279_end {s : ps_S} {i : Nat} (k1 : ∀ s', lt_so L S x1 → LTm s' L S → R 1 s') (k0 : ∀ s', ¬ lt_so L S x1 → LTm s' L S → R 0 s') (hL : LTm s L S) (hi : i ≤ S.length) (h0 : i = 0) (hs : stk (ps_a s 1166) (lt_ev (lt_f x1 L.length) (S.drop i))) : pm_in (0 : Int32) 41 = true → ((ps_a s 1166 (Int32.toNatClampNeg (0 : Int32))) ≠ 1 → ps_rI R (some (.int 0)) s) ∧ ((ps_a s 1166 (Int32.toNatClampNeg (0 : Int32))) = 1 → ps_rI R (some (.int 1)) s) := by
  intro _
  subst h0
  rw [List.drop_zero] at hs
  obtain ⟨a, e0⟩ : ∃ a, lt_ev (lt_f x1 L.length) S = [a] := by
    have := lt_ev_len (f := lt_f x1 L.length) hL.2.2.2.2.2.1
    match hq : lt_ev (lt_f x1 L.length) S, this with
    | [a], _ => exact ⟨a, rfl⟩
    | [], h => rw [List.length_nil] at h; omega
    | a :: b :: r, h => rw [List.length_cons, List.length_cons] at h; omega
  rw [e0] at hs
  have ea : ps_a s 1166 (Int32.toNatClampNeg (0 : Int32)) = a := hs.1
  rw [ea]
  refine ⟨fun h => k0 s (fun z => ?_) hL, fun h => k1 s ?_ hL⟩
  · unfold lt_so at z
    rw [e0] at z
    exact h (Option.some.inj z)
  · unfold lt_so
    rw [e0, h]
    rfl
theorem fm_279_9 (k1 : ∀ s', lt_so L S x1 → LTm s' L S → R 1 s') (k0 : ∀ s', ¬ lt_so L S x1 → LTm s' L S → R 0 s') : ∀ (n : Nat) {s : ps_S} {x2 x3 : Int32} {i : Nat}, LTm s L S → i ≤ S.length → x3.toInt = (i : Int) - 1 → x2.toInt = (lt_ev (lt_f x1 L.length) (S.drop i)).length → stk (ps_a s 1166) (lt_ev (lt_f x1 L.length) (S.drop i)) → pl_At n 279 9 [(0, .ref 1131), (1, .int x1), (2, .int x2), (3, .int x3)] [] s (ps_rI R)
  | 0, _, _, _, _, _, _, _, _, _ => pl_At_0
  | 1, s, x2, x3, i, hL, hi, hx, hx2, hs => by
    refine pl_279_9 ⟨fun h => ?_, fun h => ?_⟩
    · exact fm_279_end k1 k0 hL hi (by have := xlt h; have c0 : (0 : Int32).toInt = 0 := by decide
                                       omega) hs
    · intro b
      exact ⟨fun _ => ⟨fun _ => pl_At_0, fun _ _ => pl_At_0⟩, fun _ _ => pl_At_0⟩
  | n + 2, s, x2, x3, i, hL, hi, hx, hx2, hs => by
    obtain ⟨l1, l2, l3, l4, l5, l6, l7⟩ := id hL
    have c0 : (0 : Int32).toInt = 0 := by decide
    refine pl_279_9 ⟨fun h => ?_, fun h => ?_⟩
    · exact fm_279_end k1 k0 hL hi (by have := xlt h; omega) hs
    · have h := xle h
      have hx3 : x3.toInt = (i - 1 : Nat) := by omega
      obtain ⟨c, hc⟩ : ∃ c, S[i - 1]? = some c := ⟨_, List.getElem?_eq_getElem (by omega)⟩
      obtain ⟨nn, hcw⟩ := cw_drop (i - 1) l6
      rw [drop_c hc] at hcw
      obtain ⟨n', rfl, hcw⟩ := hcw
      have hev := lt_ev_len (f := lt_f x1 L.length) hcw
      have hcl := cw_le hcw
      rw [List.length_drop] at hcl
      have hi1 : i - 1 + 1 = i := by omega
      rw [← hi1] at hs hx2
      have hcS := l7 c (List.mem_of_getElem? hc)
      have er : (ps_a s 1163 (i - 1)).toInt = (lt_r c : Nat) := l2 _ _ (by rw [List.getElem?_map, hc]; rfl)
      have nx : ∀ {s' : ps_S} {y2 : Int32}, kq [1166] [] s s' → y2.toInt = (lt_ev (lt_f x1 L.length) (S.drop (i - 1))).length → stk (ps_a s' 1166) (lt_ev (lt_f x1 L.length) (S.drop (i - 1))) → pl_At (n + 1) 279 138 [(0, .ref 1131), (1, .int x1), (2, .int y2), (3, .int x3)] [] s' (ps_rI R) := fun K h2 h3 => by
        refine pl_279_138 ?_
        exact fm_279_9 k1 k0 n (LTm_kq hL K) (i := i - 1) (by omega) (xmin1 hx3) h2 h3
      intro b22
      rw [xtn hx3]
      have e100 : (100 : Int32).toInt = 100 := by decide
      refine ⟨fun h29 => ⟨fun h31 => ?_, fun h31 => ?_⟩, fun h29 => ?_⟩
      · -- two are taken
        have h29 := xlt h29
        have h31 := xne h31
        have hc4 : c < 4 := by unfold lt_r at er; split at er <;> omega
        have er2 : lt_r c = c := by unfold lt_r; rw [if_pos hc4]
        rw [er2] at er
        rw [if_pos (by omega)] at hev hcl
        obtain ⟨a, b, r, eq⟩ : ∃ a b r, lt_ev (lt_f x1 L.length) (S.drop (i - 1 + 1)) = a :: b :: r := by
          match hq : lt_ev (lt_f x1 L.length) (S.drop (i - 1 + 1)), hev with
          | [], h => rw [List.length_nil] at h; omega
          | [a], h => rw [List.length_singleton] at h; omega
          | a :: b :: r, h => exact ⟨a, b, r, rfl⟩
        rw [eq] at hs hx2 hev
        rw [List.length_cons, List.length_cons] at hx2 hev
        obtain ⟨s1, s2, s3⟩ := hs
        have y2 : (x2 + Int32.ofInt (-1)).toInt = (r.length + 1 : Nat) := by rw [xof1 (b := r.length + 2) hx2 (by omega)]; omega
        generalize hy2 : x2 + Int32.ofInt (-1) = z2 at y2 ⊢
        have c1 : (1 : Int32).toInt = 1 := by decide
        have c2 : (2 : Int32).toInt = 2 := by decide
        have y1 : (z2 - 1).toInt = (r.length : Nat) := by rw [xIs (by omega) (by omega), y2, c1]; omega
        have ew : lt_ev (lt_f x1 L.length) (S.drop (i - 1)) = lt_j c a b :: r := by rw [drop_c hc]; exact lt_evc (by omega) (by omega) eq
        have fin : ∀ {w : Int32}, w = lt_j c a b → pl_At (n + 1) 279 138 [(0, .ref 1131), (1, .int x1), (2, .int z2), (3, .int x3)] [] (ps_ua s 1166 r.length w) (ps_rI R) := fun hw => by
          refine nx (kqa kq_refl rfl) (by rw [ew, List.length_cons]; exact y2) ?_
          rw [ew, ← hw]
          exact stk_push s3
        rw [List.length_cons] at s1
        refine pl_279_77 (fun b84 b92 => ?_)
        rw [xtn y2, xtn y1, s1, s2]
        refine ⟨fun g1 => ⟨fun g2 => ?_, fun g2 => ?_⟩, fun g1 => ?_⟩
        · have g1 := xne g1
          have g2 := xne g2
          intro _
          refine (fin ?_).le (Nat.le_succ _)
          unfold lt_j
          rw [if_neg (by omega), if_neg (by omega)]
        · have g1 := xne g1
          have g2 := xeq g2
          intro _
          refine (fin ?_).le (Nat.le_succ _)
          unfold lt_j
          rw [if_neg (by omega), if_pos (by omega)]
        · have g1 := xeq g1
          intro _
          refine (fin ?_).le (Nat.le_succ _)
          unfold lt_j
          rw [if_pos (by omega)]
      · have h31 := xeq h31
        have hc0 : c = 0 := by unfold lt_r at er; split at er <;> omega
        intro b47
        rw [xtn hx2]
        have ew : lt_ev (lt_f x1 L.length) (S.drop (i - 1)) = 0 :: lt_ev (lt_f x1 L.length) (S.drop (i - 1 + 1)) := by
          rw [drop_c hc]
          show (if 4 ≤ c then _ else if c = 0 then _ else _) = _
          rw [if_neg (by omega), if_pos hc0]
        rw [if_neg (by omega)] at hcl hev
        refine nx (kqa kq_refl rfl) ?_ ?_
        · rw [ew, List.length_cons]
          exact xj1 hx2 (by omega)
        · rw [ew]
          exact stk_push hs
      · have h29 := xle h29
        have hc4 : 4 ≤ c := by unfold lt_r at er; split at er <;> omega
        intro b47
        rw [xtn hx2]
        have ew : lt_ev (lt_f x1 L.length) (S.drop (i - 1)) = lt_f x1 L.length (c - 4) :: lt_ev (lt_f x1 L.length) (S.drop (i - 1 + 1)) := by
          rw [drop_c hc]
          show (if 4 ≤ c then _ else _) = _
          rw [if_pos hc4]
        have ef : (x1 >>> ((((ps_i s 1131 60) - 1) - ((ps_a s 1163 (i - 1)) - 100)) &&& 31)) &&& 1 = lt_f x1 L.length (c - 4) := by
          unfold lt_f
          rw [xnI l3, xnI (x := (ps_a s 1163 (i - 1)) - 100) (n := c - 4) (by have hr9 := xR (ps_a s 1163 (i - 1)); rw [er] at hr9; unfold lt_r at hr9; rw [if_neg (by omega)] at hr9; rw [xIs (by rw [er, e100]; unfold lt_r; rw [if_neg (by omega)]; omega) (by rw [er, e100]; unfold lt_r; rw [if_neg (by omega)]; omega), er, e100]; unfold lt_r; rw [if_neg (by omega)]; omega)]
        rw [if_neg (by omega)] at hcl hev
        rw [ef]
        refine nx (kqa kq_refl rfl) ?_ ?_
        · rw [ew, List.length_cons]
          exact xj1 hx2 (by omega)
        · rw [ew]
          exact stk_push hs
end M279
theorem fm_279 {n : Nat} {L : List (List Nat)} {S : List Nat} {x1 : Int32} {s : ps_S} {R : Int32 → ps_S → Prop} (hL : LTm s L S) (k1 : ∀ s', lt_so L S x1 ∧ LTm s' L S → R 1 s') (k0 : ∀ s', ¬ lt_so L S x1 ∧ LTm s' L S → R 0 s') : pl_Cl n 279 [.ref 1131, .int x1] s (ps_rI R) := by
  cases n with
  | zero => exact pl_At_0
  | succ n =>
  show pl_At (n + 1) 279 0 [(0, .ref 1131), (1, .int x1)] [] s (ps_rI R)
  refine pl_279_0 ?_
  have c1 : (1 : Int32).toInt = 1 := by decide
  have e : ((ps_i s 1131 59) - 1).toInt = (S.length : Int) - 1 := by
    have := hL.1
    have := hL.2.2.2.1
    rw [xIs (by omega) (by omega), hL.1, c1]
  refine fm_279_9 (fun s' a b => k1 s' ⟨a, b⟩) (fun s' a b => k0 s' ⟨a, b⟩) n hL (Nat.le_refl _) e ?_ ?_
  · rw [List.drop_length]
    rfl
  · rw [List.drop_length]
    trivial
theorem fm_281_32 {L : List (List Nat)} {S : List Nat} {R : Int32 → ps_S → Prop} (k : ∀ (v : Int32) s', v.toInt = lt_n (fun i => lt_so L S (nI i)) (lt_N L).toInt.toNat → R v s') : ∀ (n : Nat) {s : ps_S} {x1 x2 : Int32} {i : Nat}, LTm s L S → x2.toInt = i → (i : Int) ≤ max 0 (lt_N L).toInt → x1.toInt = lt_n (fun i => lt_so L S (nI i)) i → pl_At n 281 32 [(0, .ref 1131), (1, .int x1), (2, .int x2)] [] s (ps_rI R)
  | 0, _, _, _, _, _, _, _, _ => pl_At_0
  | n + 1, s, x1, x2, i, hL, hx, hi, h1 => by
    have hr := xR (lt_N L)
    have hle := lt_n_le (P := fun i => lt_so L S (nI i)) (k := i)
    have c0 : (0 : Int32).toInt = 0 := by decide
    have eN : (1 : Int32) <<< ((ps_i s 1131 60) &&& 31) = lt_N L := by unfold lt_N; rw [xnI hL.2.2.1]
    refine pl_281_32 ?_
    rw [eN]
    refine ⟨fun h => ?_, fun h => ?_⟩
    · have h := xle h
      have e : i = (lt_N L).toInt.toNat := by omega
      exact k _ _ (by rw [h1, e])
    · have h := xlt h
      refine fm_279 hL (fun s3 q => ⟨fun z => absurd z (by decide), fun _ => ?_⟩) (fun s3 q => ⟨fun _ => ?_, fun z => absurd rfl z⟩)
      · refine fm_281_32 k n q.2 (xj1 hx (by omega)) (by omega) ?_
        rw [lt_n_1 (by rw [← xnI hx]; exact q.1)]
        exact xj1 h1 (by omega)
      · refine fm_281_32 k n q.2 (xj1 hx (by omega)) (by omega) ?_
        rw [lt_n_0 (fun z => by rw [← xnI hx] at z; exact q.1 z), xIa (by omega) (by omega), h1, c0]
        omega
theorem fm_282_30 {L : List (List Nat)} {S : List Nat} {R : Int32 → ps_S → Prop} (k : ∀ (v : Int32) s', ((∃ i : Nat, v.toInt = i ∧ (i : Int) < (lt_N L).toInt ∧ ¬ lt_so L S (nI i) ∧ ∀ j, j < i → lt_so L S (nI j)) ∨ (v.toInt = -1 ∧ ∀ j : Nat, (j : Int) < (lt_N L).toInt → lt_so L S (nI j))) → R v s') : ∀ (n : Nat) {s : ps_S} {x1 : Int32} {i : Nat}, LTm s L S → x1.toInt = i → (∀ j, j < i → lt_so L S (nI j)) → pl_At n 282 30 [(0, .ref 1131), (1, .int x1)] [] s (ps_rI R)
  | 0, _, _, _, _, _, _ => pl_At_0
  | n + 1, s, x1, i, hL, hx, hj => by
    have hr := xR (lt_N L)
    have eN : (1 : Int32) <<< ((ps_i s 1131 60) &&& 31) = lt_N L := by unfold lt_N; rw [xnI hL.2.2.1]
    refine pl_282_30 ?_
    rw [eN]
    refine ⟨fun h => ?_, fun h => ?_⟩
    · have h := xle h
      exact k _ _ (Or.inr ⟨by decide, fun j h => hj j (by omega)⟩)
    · have h := xlt h
      refine fm_279 hL (fun s3 q => ⟨fun _ => ?_, fun z => absurd z (by decide)⟩) (fun s3 q => ⟨fun z => absurd rfl z, fun _ => ?_⟩)
      · refine fm_282_30 k n q.2 (xj1 hx (by omega)) (fun j h => ?_)
        rcases Nat.lt_or_ge j i with z | z
        · exact hj j z
        · rw [show j = i from by omega, ← xnI hx]
          exact q.1
      · exact k _ _ (Or.inl ⟨i, hx, by omega, by rw [← xnI hx]; exact q.1, hj⟩)

theorem fm_280 {n : Nat} {s : ps_S} {h : tx_H} {l : List Nat} (m : TRm s h l) (hw : WFf h.1 l) : pl_Cl n 280 [.ref 1131] s (ps_rI (fun v _ => lt_A 0 h.1 l v)) := by
  cases n with
  | zero => exact pl_At_0
  | succ n =>
  show pl_At (n + 1) 280 0 [(0, .ref 1131)] [] s _
  refine pl_280_0 ?_
  obtain ⟨b, m1, m2, m3, m4⟩ := m
  have c25 : (25748 : Int32).toInt = (25748 : Nat) := by decide
  refine fm_219c c25 m4 (fun v1 q1 => ⟨fun z => ?_, fun z => ?_⟩)
  · have z := xne z
    have c0 : (0 : Int32).toInt = 0 := by decide
    have hl : l ≠ [] := fun y => by rw [y, List.length_nil] at q1; omega
    rcases hw with hw | hw
    · exact absurd hw hl
    refine fm_277 m1 m2 m3.1 m4 (wf_ws hw) (fun s2 L S hg hL => ?_)
    have h4 := hL.2.2.1
    exact Or.inr ⟨hl, L, S, hg, Or.inl ⟨rfl, h4⟩⟩
  · have z := xeq z
    have c0 : (0 : Int32).toInt = 0 := by decide
    exact Or.inl ⟨List.eq_nil_of_length_eq_zero (by omega), by decide⟩

theorem fm_281 {n : Nat} {s : ps_S} {h : tx_H} {l : List Nat} (m : TRm s h l) (hw : WFf h.1 l) : pl_Cl n 281 [.ref 1131] s (ps_rI (fun v _ => lt_A 1 h.1 l v)) := by
  cases n with
  | zero => exact pl_At_0
  | succ n =>
  show pl_At (n + 1) 281 0 [(0, .ref 1131)] [] s _
  refine pl_281_0 ?_
  obtain ⟨b, m1, m2, m3, m4⟩ := m
  have c25 : (25748 : Int32).toInt = (25748 : Nat) := by decide
  refine fm_219c c25 m4 (fun v1 q1 => ⟨fun z => ?_, fun z => ?_⟩)
  · have z := xne z
    have c0 : (0 : Int32).toInt = 0 := by decide
    have hl : l ≠ [] := fun y => by rw [y, List.length_nil] at q1; omega
    rcases hw with hw | hw
    · exact absurd hw hl
    refine fm_277 m1 m2 m3.1 m4 (wf_ws hw) (fun s2 L S hg hL => ?_)
    have h4 := hL.2.2.1
    have c12 : (12 : Int32).toInt = 12 := by decide
    refine ⟨fun z2 => ?_, fun z2 => ?_⟩
    · have z2 := xle z2
      exact fm_281_32 (fun v s3 e => Or.inr ⟨hl, L, S, hg, Or.inr (Or.inr (Or.inl ⟨rfl, by omega, e⟩))⟩) n (i := 0) hL rfl (by omega) rfl
    · have z2 := xlt z2
      exact Or.inr ⟨hl, L, S, hg, Or.inr (Or.inl ⟨by decide, by omega, by decide⟩)⟩
  · have z := xeq z
    have c0 : (0 : Int32).toInt = 0 := by decide
    exact Or.inl ⟨List.eq_nil_of_length_eq_zero (by omega), by decide⟩

theorem fm_282 {n : Nat} {s : ps_S} {h : tx_H} {l : List Nat} (m : TRm s h l) (hw : WFf h.1 l) : pl_Cl n 282 [.ref 1131] s (ps_rI (fun v _ => lt_A 2 h.1 l v)) := by
  cases n with
  | zero => exact pl_At_0
  | succ n =>
  show pl_At (n + 1) 282 0 [(0, .ref 1131)] [] s _
  refine pl_282_0 ?_
  obtain ⟨b, m1, m2, m3, m4⟩ := m
  have c25 : (25748 : Int32).toInt = (25748 : Nat) := by decide
  refine fm_219c c25 m4 (fun v1 q1 => ⟨fun z => ?_, fun z => ?_⟩)
  · have z := xne z
    have c0 : (0 : Int32).toInt = 0 := by decide
    have hl : l ≠ [] := fun y => by rw [y, List.length_nil] at q1; omega
    rcases hw with hw | hw
    · exact absurd hw hl
    refine fm_277 m1 m2 m3.1 m4 (wf_ws hw) (fun s2 L S hg hL => ?_)
    have h4 := hL.2.2.1
    have c12 : (12 : Int32).toInt = 12 := by decide
    refine ⟨fun z2 => ?_, fun z2 => ?_⟩
    · have z2 := xle z2
      exact fm_282_30 (fun v s3 e => Or.inr ⟨hl, L, S, hg, Or.inr (Or.inr (Or.inr ⟨rfl, by omega, e⟩))⟩) n (i := 0) hL rfl (fun j hj => absurd hj (Nat.not_lt_zero _))
    · have z2 := xlt z2
      exact Or.inr ⟨hl, L, S, hg, Or.inr (Or.inl ⟨by decide, by omega, by decide⟩)⟩
  · have z := xeq z
    have c0 : (0 : Int32).toInt = 0 := by decide
    exact Or.inl ⟨List.eq_nil_of_length_eq_zero (by omega), by decide⟩

