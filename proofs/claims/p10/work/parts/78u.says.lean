set_option maxRecDepth 100000
/-! what a proof says: refused, step, line, needs, on both sides -/
-- ProofBench.refused(I)I
theorem pl_154_0 {n : Nat} {x1 : Int32} {s : ps_S} {Q : Option Value → ps_S → Prop} (h :
  pl_nk (ps_is (ps_r s 0 4) 2) (((ps_i s (ps_r s 0 4) 9) ≠ 0 →
    (x1 = 0 →
      pl_nk (ps_is (ps_r s 0 4) 2) (Q (some (.int (ps_i s (ps_r s 0 4) 8))) s)) ∧
    (x1 ≠ 0 →
      (x1 = 1 →
      pl_nk (ps_is (ps_r s 0 4) 2) (Q (some (.int (ps_i s (ps_r s 0 4) 9))) s)) ∧
    (x1 ≠ 1 →
      Q (some (.int (-1))) s))) ∧
  ((ps_i s (ps_r s 0 4) 9) = 0 →
    Q (some (.int (-1))) s))) : pl_At (n + 1) 154 0 [(0, .ref 0), (1, .int x1)] [] s Q :=
  pl_wp_at (stops := []) (f := 20) h rfl

-- ProofBench.step(II)I
theorem pl_155_0 {n : Nat} {x1 : Int32} {x2 : Int32} {s : ps_S} {Q : Option Value → ps_S → Prop} (h :
  pl_Cl n 32 [.ref (ps_r s 0 4), .int x1] s (ps_rI (fun v1 s1 =>
    (v1 ≠ 0 →
      pl_Cl n 33 [.ref (ps_r s1 0 4), .int x1] s1 (ps_rA (fun v2 s2 =>
        (x2 = 0 →
          pl_nk (ps_is v2 8) (pl_nk (ps_is (ps_c0 v2 6) 5) (Q (some (.int (ps_i s2 (ps_c0 v2 6) 1))) s2))) ∧
        (x2 ≠ 0 →
          (x2 = 1 →
          pl_nk (ps_is v2 8) (Q (some (.int (ps_i s2 v2 8))) s2)) ∧
        (x2 ≠ 1 →
          (x2 = 2 →
          pl_nk (ps_is v2 8) (Q (some (.int (ps_i s2 v2 10))) s2)) ∧
        (x2 ≠ 2 →
          (x2 = 3 →
          pl_nk (ps_is v2 8) (Q (some (.int (ps_i s2 v2 11))) s2)) ∧
        (x2 ≠ 3 →
          Q (some (.int (-1))) s2))))))) ∧
    (v1 = 0 →
      Q (some (.int (-1))) s1)))) : pl_At (n + 1) 155 0 [(0, .ref 0), (1, .int x1), (2, .int x2)] [] s Q :=
  pl_wp_at (stops := []) (f := 31) h rfl

-- ProofBench.line(II)I
theorem pl_156_0 {n : Nat} {x1 : Int32} {x2 : Int32} {s : ps_S} {Q : Option Value → ps_S → Prop} (h :
  pl_Cl n 32 [.ref (ps_r s 0 4), .int x1] s (ps_rI (fun v1 s1 =>
    (v1 = 0 →
      Q (some (.int (-1))) s1) ∧
    (v1 ≠ 0 →
      pl_Cl n 33 [.ref (ps_r s1 0 4), .int x1] s1 (ps_rA (fun v2 s2 =>
        pl_nk (ps_is v2 8) (pl_Cl n 92 [.ref (ps_c0 v2 6), .int x2] s2 (ps_rI (fun v3 s3 =>
          Q (some (.int v3)) s3))))))))) : pl_At (n + 1) 156 0 [(0, .ref 0), (1, .int x1), (2, .int x2)] [] s Q :=
  pl_wp_at (stops := []) (f := 18) h rfl

-- ProofBench.needs(I)J
theorem pl_165_0 {n : Nat} {x1 : Int32} {s : ps_S} {Q : Option Value → ps_S → Prop} (h :
  pl_Cl n 32 [.ref (ps_r s 0 4), .int x1] s (ps_rI (fun v1 s1 =>
    (v1 = 0 →
      Q (some (.long (-1 : Int64))) s1) ∧
    (v1 ≠ 0 →
      pl_Cl n 33 [.ref (ps_r s1 0 4), .int x1] s1 (ps_rA (fun v2 s2 =>
        pl_nk (ps_is v2 8) (Q (some (.long (ps_j s2 v2 12))) s2))))))) : pl_At (n + 1) 165 0 [(0, .ref 0), (1, .int x1)] [] s Q :=
  pl_wp_at (stops := []) (f := 16) h rfl

-- ProofBenchModel.refused(I)I
theorem pl_261_0 {n : Nat} {x1 : Int32} {s : ps_S} {Q : Option Value → ps_S → Prop} (h :
  (x1 ≠ 0 →
    (x1 ≠ 1 →
      Q (some (.int (-1))) s) ∧
    (x1 = 1 →
      Q (some (.int (ps_i s 1131 49))) s)) ∧
  (x1 = 0 →
    Q (some (.int (ps_i s 1131 48))) s)) : pl_At (n + 1) 261 0 [(0, .ref 1131), (1, .int x1)] [] s Q :=
  pl_wp_at (stops := []) (f := 17) h rfl

-- ProofBenchModel.isStep(I)Z
theorem pl_262_0 {n : Nat} {x1 : Int32} {s : ps_S} {Q : Option Value → ps_S → Prop} (h :
  pl_Cl n 200 [.int x1, .int 0, .int ((ps_i s 1131 47) - 1)] s (ps_rI (fun v1 s1 =>
    pl_nk (decide (v1 &&& 1 = v1)) (Q (some (.int v1)) s1)))) : pl_At (n + 1) 262 0 [(0, .ref 1131), (1, .int x1)] [] s Q :=
  pl_wp_at (stops := []) (f := 10) h rfl

-- ProofBenchModel.step(II)I
theorem pl_263_0 {n : Nat} {x1 : Int32} {x2 : Int32} {s : ps_S} {Q : Option Value → ps_S → Prop} (h :
  pl_Cl n 262 [.ref 1131, .int x1] s (ps_rI (fun v1 s1 =>
    (v1 ≠ 0 →
      (x2 = 0 →
        pl_Cl n 242 [.int x1] s1 (ps_rI (fun v2 s2 =>
          pl_Cl n 219 [.ref 1131, .int v2] s2 (ps_rI (fun v3 s3 =>
            Q (some (.int v3)) s3))))) ∧
      (x2 ≠ 0 →
        (x2 = 1 →
        (pm_in x1 41 = true →
          Q (some (.int (ps_a s1 1157 (Int32.toNatClampNeg x1)))) s1)) ∧
      (x2 ≠ 1 →
        (x2 = 2 →
        (pm_in x1 40 = true →
          Q (some (.int (ps_a s1 1158 (Int32.toNatClampNeg x1)))) s1)) ∧
      (x2 ≠ 2 →
        (x2 = 3 →
        (pm_in x1 40 = true →
          Q (some (.int (ps_a s1 1159 (Int32.toNatClampNeg x1)))) s1)) ∧
      (x2 ≠ 3 →
        Q (some (.int (-1))) s1))))) ∧
    (v1 = 0 →
      Q (some (.int (-1))) s1)))) : pl_At (n + 1) 263 0 [(0, .ref 1131), (1, .int x1), (2, .int x2)] [] s Q :=
  pl_wp_at (stops := []) (f := 32) h rfl

-- ProofBenchModel.line(II)I
theorem pl_265_0 {n : Nat} {x1 : Int32} {x2 : Int32} {s : ps_S} {Q : Option Value → ps_S → Prop} (h :
  pl_Cl n 262 [.ref 1131, .int x1] s (ps_rI (fun v1 s1 =>
    (v1 = 0 →
      Q (some (.int (-1))) s1) ∧
    (v1 ≠ 0 →
      pl_Cl n 242 [.int x1] s1 (ps_rI (fun v2 s2 =>
        pl_Cl n 264 [.ref 1131, .int v2, .int x2] s2 (ps_rI (fun v3 s3 =>
          Q (some (.int v3)) s3)))))))) : pl_At (n + 1) 265 0 [(0, .ref 1131), (1, .int x1), (2, .int x2)] [] s Q :=
  pl_wp_at (stops := []) (f := 15) h rfl

-- ProofBenchModel.needs(I)J
theorem pl_267_0 {n : Nat} {x1 : Int32} {s : ps_S} {Q : Option Value → ps_S → Prop} (h :
  pl_Cl n 262 [.ref 1131, .int x1] s (ps_rI (fun v1 s1 =>
    (v1 = 0 →
      Q (some (.long (-1 : Int64))) s1) ∧
    (v1 ≠ 0 →
      (pm_in x1 40 = true →
        Q (some (.long (ps_b s1 1160 (Int32.toNatClampNeg x1)))) s1))))) : pl_At (n + 1) 267 0 [(0, .ref 1131), (1, .int x1)] [] s Q :=
  pl_wp_at (stops := []) (f := 14) h rfl

/-- what refused, step, line, needs answer -/
def rf_is (D : List tq_R) (c : Nat) (x v : Int32) : Prop := v.toInt = if c = 0 then (-1 : Int) else if x.toInt = 0 then (D.length : Int) else if x.toInt = 1 then (c : Int) else -1
theorem rf_eq {D : List tq_R} {c : Nat} {x v v' : Int32} (h : rf_is D c x v) (h' : rf_is D c x v') : v = v' := Int32.toInt_inj.mp (h.trans h'.symm)
def sp_is (D : List tq_R) (x : Int32) (P : tq_R → Prop) (N : Prop) : Prop := (∀ (i : Nat) (Ri : tq_R), x.toInt = i → D[i]? = some Ri → P Ri) ∧ (¬ (0 ≤ x.toInt ∧ x.toInt < D.length) → N)
theorem sp_c {D : List tq_R} {x : Int32} {P P' : tq_R → Prop} {N N' Q : Prop} (h : sp_is D x P N) (h' : sp_is D x P' N') (hP : ∀ Ri, P Ri → P' Ri → Q) (hN : N → N' → Q) : Q := by
  by_cases y : 0 ≤ x.toInt ∧ x.toInt < D.length
  · obtain ⟨Ri, hk⟩ : ∃ Ri, D[x.toInt.toNat]? = some Ri := ⟨_, List.getElem?_eq_getElem (by omega)⟩
    exact hP Ri (h.1 _ Ri (by omega) hk) (h'.1 _ Ri (by omega) hk)
  · exact hN (h.2 y) (h'.2 y)
def st_P (x v : Int32) (Ri : tq_R) : Prop := (x.toInt = 0 → v.toInt = Ri.1.length) ∧ (x.toInt = 1 → v.toInt = Ri.2.1.length) ∧ (x.toInt = 2 → v = Ri.2.2.1) ∧ (x.toInt = 3 → v = Ri.2.2.2.1) ∧ (¬ (0 ≤ x.toInt ∧ x.toInt ≤ 3) → v = -1)
theorem st_eq {x v v' : Int32} {Ri : tq_R} (h : st_P x v Ri) (h' : st_P x v' Ri) : v = v' := by
  obtain ⟨a0, a1, a2, a3, a4⟩ := h
  obtain ⟨b0, b1, b2, b3, b4⟩ := h'
  by_cases y : 0 ≤ x.toInt ∧ x.toInt ≤ 3
  · rcases (show x.toInt = 0 ∨ x.toInt = 1 ∨ x.toInt = 2 ∨ x.toInt = 3 by omega) with e | e | e | e
    · exact Int32.toInt_inj.mp ((a0 e).trans (b0 e).symm)
    · exact Int32.toInt_inj.mp ((a1 e).trans (b1 e).symm)
    · exact (a2 e).trans (b2 e).symm
    · exact (a3 e).trans (b3 e).symm
  · exact (a4 y).trans (b4 y).symm
section SAC
variable {p c : Nat} {D : List tq_R} {x1 x2 : Int32} {s : ps_S}
theorem fs_154 {n : Nat} {R : Int32 → ps_S → Prop} (hr : ps_r s 0 4 = p) (P : cpP s p D c) (k : ∀ v, rf_is D c x1 v → R v s) : pl_Cl n 154 [.ref 0, .int x1] s (ps_rI R) := by
  cases n with
  | zero => exact pl_At_0
  | succ n =>
  show pl_At (n + 1) 154 0 [(0, .ref 0), (1, .int x1)] [] s (ps_rI R)
  obtain ⟨-, p8, p9⟩ := P
  have c0 : (0 : Int32).toInt = 0 := Int32.toInt_zero
  have c1 : (1 : Int32).toInt = 1 := by decide
  have cm : (-1 : Int32).toInt = -1 := by decide
  refine pl_154_0 (pl_nk_i (fun _ => ?_))
  rw [hr]
  unfold rf_is at k
  refine ⟨fun z => ⟨fun y => pl_nk_i (fun _ => k _ ?_), fun y => ⟨fun w => pl_nk_i (fun _ => k _ ?_), fun w => k _ ?_⟩⟩, fun z => k _ ?_⟩
  · have z := xne z
    have y := xeq y
    rw [if_neg (by omega), if_pos (by omega)]
    exact p8
  · have z := xne z
    have y := xne y
    have w := xeq w
    rw [if_neg (by omega), if_neg (by omega), if_pos (by omega)]
    exact p9
  · have z := xne z
    have y := xne y
    have w := xne w
    rw [if_neg (by omega), if_neg (by omega), if_neg (by omega)]
    exact cm
  · have z := xeq z
    rw [if_pos (by omega)]
    exact cm
theorem fs_155 {n : Nat} {R : Int32 → ps_S → Prop} (hp : p = 50 ∨ p = 460) (hr : ps_r s 0 4 = p) (P : cpP s p D c) (k : ∀ v, sp_is D x1 (st_P x2 v) (v = -1) → R v s) : pl_Cl n 155 [.ref 0, .int x1, .int x2] s (ps_rI R) := by
  cases n with
  | zero => exact pl_At_0
  | succ n =>
  show pl_At (n + 1) 155 0 [(0, .ref 0), (1, .int x1), (2, .int x2)] [] s (ps_rI R)
  obtain ⟨pD, p8, -⟩ := P
  have d40 := pD.1
  have c0 : (0 : Int32).toInt = 0 := Int32.toInt_zero
  have c1 : (1 : Int32).toInt = 1 := by decide
  have c2 : (2 : Int32).toInt = 2 := by decide
  have c3 : (3 : Int32).toInt = 3 := by decide
  refine pl_155_0 ?_
  rw [hr]
  refine fs_32 (fun y1 y2 => ⟨fun _ => ?_, fun w => absurd w (by decide)⟩) (fun y => ⟨fun w => absurd rfl w, fun _ => k _ ⟨fun i Ri hi hk => absurd (show 0 ≤ x1.toInt ∧ x1.toInt < (ps_i s p 8).toInt from by have := (List.getElem?_eq_some_iff.mp hk).1; omega) y, fun _ => rfl⟩⟩)
  rw [hr]
  obtain ⟨i, hi⟩ : ∃ i : Nat, x1.toInt = i := ⟨x1.toInt.toNat, by omega⟩
  have hiD : i < D.length := by omega
  obtain ⟨Ri, hk⟩ : ∃ Ri, D[i]? = some Ri := ⟨_, List.getElem?_eq_getElem hiD⟩
  obtain ⟨r1, r2, r3, r4, r5, r6, r7⟩ := pD.2 i Ri hk
  have mk : ∀ v, st_P x2 v Ri → sp_is D x1 (st_P x2 v) (v = -1) := fun v hv => ⟨fun j Rj hj hkj => by
    have e : j = i := by omega
    rw [e, hk] at hkj
    cases hkj
    exact hv, fun y => absurd (show 0 ≤ x1.toInt ∧ x1.toInt < D.length from by omega) y⟩
  have e6 := (stc_c hp (i := i) (by omega)).2.2.2.1
  refine fs_33 hp hi (by omega) ⟨fun z => pl_nk_i (fun _ => pl_nk_i (fun _ => k _ (mk _ ?_))), fun z => ⟨fun z1 => pl_nk_i (fun _ => k _ (mk _ ?_)), fun z1 => ⟨fun z2 => pl_nk_i (fun _ => k _ (mk _ ?_)), fun z2 => ⟨fun z3 => pl_nk_i (fun _ => k _ (mk _ ?_)), fun z3 => k _ (mk _ ?_)⟩⟩⟩⟩
  · have z := xeq z
    rw [e6]
    exact ⟨fun _ => r1.1, fun w => by omega, fun w => by omega, fun w => by omega, fun w => by omega⟩
  · have z1 := xeq z1
    exact ⟨fun w => by omega, fun _ => r2, fun w => by omega, fun w => by omega, fun w => by omega⟩
  · have z2 := xeq z2
    exact ⟨fun w => by omega, fun w => by omega, fun _ => r5, fun w => by omega, fun w => by omega⟩
  · have z3 := xeq z3
    exact ⟨fun w => by omega, fun w => by omega, fun w => by omega, fun _ => r6, fun w => by omega⟩
  · have z := xne z
    have z1 := xne z1
    have z2 := xne z2
    have z3 := xne z3
    exact ⟨fun w => by omega, fun w => by omega, fun w => by omega, fun w => by omega, fun _ => rfl⟩
theorem fs_156 {n : Nat} {R : Int32 → ps_S → Prop} (hp : p = 50 ∨ p = 460) (hr : ps_r s 0 4 = p) (P : cpP s p D c) (k : ∀ v, sp_is D x1 (fun Ri => pc_is Ri.1 x2 v) (v = -1) → R v s) : pl_Cl n 156 [.ref 0, .int x1, .int x2] s (ps_rI R) := by
  cases n with
  | zero => exact pl_At_0
  | succ n =>
  show pl_At (n + 1) 156 0 [(0, .ref 0), (1, .int x1), (2, .int x2)] [] s (ps_rI R)
  obtain ⟨pD, p8, -⟩ := P
  have d40 := pD.1
  refine pl_156_0 ?_
  rw [hr]
  refine fs_32 (fun y1 y2 => ⟨fun w => absurd w (by decide), fun _ => ?_⟩) (fun y => ⟨fun _ => k _ ⟨fun i Ri hi hk => absurd (show 0 ≤ x1.toInt ∧ x1.toInt < (ps_i s p 8).toInt from by have := (List.getElem?_eq_some_iff.mp hk).1; omega) y, fun _ => rfl⟩, fun w => absurd rfl w⟩)
  rw [hr]
  obtain ⟨i, hi⟩ : ∃ i : Nat, x1.toInt = i := ⟨x1.toInt.toNat, by omega⟩
  have hiD : i < D.length := by omega
  obtain ⟨Ri, hk⟩ : ∃ Ri, D[i]? = some Ri := ⟨_, List.getElem?_eq_getElem hiD⟩
  obtain ⟨r1, -⟩ := pD.2 i Ri hk
  have e6 := (stc_c hp (i := i) (by omega)).2.2.2.1
  have r5 := (stc_row hp (i := i) (by omega)).2.2
  obtain ⟨t1, t2, -⟩ := cv_row r5
  refine fs_33 hp hi (by omega) (pl_nk_i (fun _ => ?_))
  rw [e6]
  refine fs_92 r5 t1 (by rw [t1]; exact t2) r1 (fun v z => k v ⟨fun j Rj hj hkj => ?_, fun y => absurd (show 0 ≤ x1.toInt ∧ x1.toInt < D.length from by omega) y⟩)
  have e : j = i := by omega
  rw [e, hk] at hkj
  cases hkj
  refine ⟨fun c' hc hl => ?_, fun y => z.2 (by omega)⟩
  have := (List.getElem?_eq_some_iff.mp hl).1
  exact z.1 ⟨hc, by omega⟩ c' hl
end SAC
section SAM
variable {c : Nat} {D : List tq_R} {x1 x2 : Int32} {s : ps_S}
theorem fm_261 {n : Nat} {R : Int32 → ps_S → Prop} (P : mpP s D c) (k : ∀ v, rf_is D c x1 v → R v s) : pl_Cl n 261 [.ref 1131, .int x1] s (ps_rI R) := by
  cases n with
  | zero => exact pl_At_0
  | succ n =>
  show pl_At (n + 1) 261 0 [(0, .ref 1131), (1, .int x1)] [] s (ps_rI R)
  obtain ⟨-, -, p8, p9⟩ := P
  have c0 : (0 : Int32).toInt = 0 := Int32.toInt_zero
  have c1 : (1 : Int32).toInt = 1 := by decide
  have cm : (-1 : Int32).toInt = -1 := by decide
  unfold rf_is at k
  refine pl_261_0 ⟨fun z => ⟨fun y => k _ ?_, fun y => k _ ?_⟩, fun z => k _ ?_⟩
  · have z := xne z
    have y := xne y
    rw [if_neg (show ¬ x1.toInt = 0 from by omega), if_neg (show ¬ x1.toInt = 1 from by omega)]
    split <;> exact cm
  · have z := xne z
    have y := xeq y
    rw [if_neg (show ¬ x1.toInt = 0 from by omega), if_pos (show x1.toInt = 1 from by omega)]
    split
    · next e => rw [(p8 e).2]; exact cm
    · next e => exact (p9 e).2
  · have z := xeq z
    rw [if_pos (show x1.toInt = 0 from by omega)]
    split
    · next e => rw [(p8 e).1]; exact cm
    · next e => exact (p9 e).1
theorem fm_262 {n : Nat} {R : Int32 → ps_S → Prop} (P : mpP s D c) (k1 : 0 ≤ x1.toInt → x1.toInt < D.length → R 1 s) (k0 : ¬ (0 ≤ x1.toInt ∧ x1.toInt < D.length) → R 0 s) : pl_Cl n 262 [.ref 1131, .int x1] s (ps_rI R) := by
  cases n with
  | zero => exact pl_At_0
  | succ n =>
  show pl_At (n + 1) 262 0 [(0, .ref 1131), (1, .int x1)] [] s (ps_rI R)
  obtain ⟨pD, p7, -⟩ := P
  have d40 := pD.1
  have c0 : (0 : Int32).toInt = 0 := Int32.toInt_zero
  have c1 : (1 : Int32).toInt = 1 := by decide
  have e : ((ps_i s 1131 47) - 1).toInt = (D.length : Int) - 1 := by rw [xIs (by omega) (by omega), p7, c1]
  exact pl_262_0 (fm_200 (fun y1 y2 => pl_nk_i (fun _ => k1 (by omega) (by omega))) (fun y => pl_nk_i (fun _ => k0 (fun w => y (by omega)))))
theorem fm_263 {n : Nat} {R : Int32 → ps_S → Prop} (P : mpP s D c) (k : ∀ v, sp_is D x1 (st_P x2 v) (v = -1) → R v s) : pl_Cl n 263 [.ref 1131, .int x1, .int x2] s (ps_rI R) := by
  cases n with
  | zero => exact pl_At_0
  | succ n =>
  show pl_At (n + 1) 263 0 [(0, .ref 1131), (1, .int x1), (2, .int x2)] [] s (ps_rI R)
  have pD := P.1
  have d40 := pD.1
  have c0 : (0 : Int32).toInt = 0 := Int32.toInt_zero
  have c1 : (1 : Int32).toInt = 1 := by decide
  have c2 : (2 : Int32).toInt = 2 := by decide
  have c3 : (3 : Int32).toInt = 3 := by decide
  refine pl_263_0 (fm_262 P (fun y1 y2 => ⟨fun _ => ?_, fun w => absurd w (by decide)⟩) (fun y => ⟨fun w => absurd rfl w, fun _ => k _ ⟨fun i Ri hi hk => absurd (show 0 ≤ x1.toInt ∧ x1.toInt < D.length from by have := (List.getElem?_eq_some_iff.mp hk).1; omega) y, fun _ => rfl⟩⟩))
  obtain ⟨i, hi⟩ : ∃ i : Nat, x1.toInt = i := ⟨x1.toInt.toNat, by omega⟩
  have hiD : i < D.length := by omega
  obtain ⟨Ri, hk⟩ : ∃ Ri, D[i]? = some Ri := ⟨_, List.getElem?_eq_getElem hiD⟩
  obtain ⟨r1, r2, r3, r4, r5, r6, r7⟩ := pD.2 i Ri hk
  have mk : ∀ v, st_P x2 v Ri → sp_is D x1 (st_P x2 v) (v = -1) := fun v hv => ⟨fun j Rj hj hkj => by
    have e : j = i := by omega
    rw [e, hk] at hkj
    cases hkj
    exact hv, fun y => absurd (show 0 ≤ x1.toInt ∧ x1.toInt < D.length from by omega) y⟩
  rw [xtn hi]
  refine ⟨fun z => fm_242 hi (by omega) (fun v2 q2 => fm_219c q2 r1 (fun v3 q3 => k _ (mk _ ?_))), fun z => ⟨fun z1 => fun _ => k _ (mk _ ?_), fun z1 => ⟨fun z2 => fun _ => k _ (mk _ ?_), fun z2 => ⟨fun z3 => fun _ => k _ (mk _ ?_), fun z3 => k _ (mk _ ?_)⟩⟩⟩⟩
  · have z := xeq z
    exact ⟨fun _ => q3, fun w => by omega, fun w => by omega, fun w => by omega, fun w => by omega⟩
  · have z1 := xeq z1
    exact ⟨fun w => by omega, fun _ => r2, fun w => by omega, fun w => by omega, fun w => by omega⟩
  · have z2 := xeq z2
    exact ⟨fun w => by omega, fun w => by omega, fun _ => r5, fun w => by omega, fun w => by omega⟩
  · have z3 := xeq z3
    exact ⟨fun w => by omega, fun w => by omega, fun w => by omega, fun _ => r6, fun w => by omega⟩
  · have z := xne z
    have z1 := xne z1
    have z2 := xne z2
    have z3 := xne z3
    exact ⟨fun w => by omega, fun w => by omega, fun w => by omega, fun w => by omega, fun _ => rfl⟩
theorem fm_265 {n : Nat} {R : Int32 → ps_S → Prop} (P : mpP s D c) (k : ∀ v, sp_is D x1 (fun Ri => pc_is Ri.1 x2 v) (v = -1) → R v s) : pl_Cl n 265 [.ref 1131, .int x1, .int x2] s (ps_rI R) := by
  cases n with
  | zero => exact pl_At_0
  | succ n =>
  show pl_At (n + 1) 265 0 [(0, .ref 1131), (1, .int x1), (2, .int x2)] [] s (ps_rI R)
  have pD := P.1
  have d40 := pD.1
  refine pl_265_0 (fm_262 P (fun y1 y2 => ⟨fun w => absurd w (by decide), fun _ => ?_⟩) (fun y => ⟨fun _ => k _ ⟨fun i Ri hi hk => absurd (show 0 ≤ x1.toInt ∧ x1.toInt < D.length from by have := (List.getElem?_eq_some_iff.mp hk).1; omega) y, fun _ => rfl⟩, fun w => absurd rfl w⟩))
  obtain ⟨i, hi⟩ : ∃ i : Nat, x1.toInt = i := ⟨x1.toInt.toNat, by omega⟩
  have hiD : i < D.length := by omega
  obtain ⟨Ri, hk⟩ : ∃ Ri, D[i]? = some Ri := ⟨_, List.getElem?_eq_getElem hiD⟩
  obtain ⟨r1, -⟩ := pD.2 i Ri hk
  refine fm_242 hi (by omega) (fun v2 q2 => fm_264 q2 (by omega) r1 (fun v3 q3 => k _ ⟨fun j Rj hj hkj => ?_, fun y => absurd (show 0 ≤ x1.toInt ∧ x1.toInt < D.length from by omega) y⟩))
  have e : j = i := by omega
  rw [e, hk] at hkj
  cases hkj
  exact q3
end SAM

