set_option maxRecDepth 100000
/-! what a proof says: assumed, needs, on both sides -/
-- ProofBench.assumed(III)I
theorem pl_157_0 {n : Nat} {x1 : Int32} {x2 : Int32} {x3 : Int32} {s : ps_S} {Q : Option Value → ps_S → Prop} (h :
  pl_Cl n 32 [.ref (ps_r s 0 4), .int x1] s (ps_rI (fun v1 s1 =>
    (v1 ≠ 0 →
      pl_Cl n 33 [.ref (ps_r s1 0 4), .int x1] s1 (ps_rA (fun v2 s2 =>
        pl_Cl n 122 [.ref v2, .int x2] s2 (ps_rI (fun v3 s3 =>
          (v3 ≠ (-1) →
            pl_Cl n 33 [.ref (ps_r s3 0 4), .int v3] s3 (ps_rA (fun v4 s4 =>
              pl_nk (ps_is v4 8) (pl_Cl n 92 [.ref (ps_c0 v4 6), .int x3] s4 (ps_rI (fun v5 s5 =>
                Q (some (.int v5)) s5)))))) ∧
          (v3 = (-1) →
            Q (some (.int (-1))) s3)))))) ∧
    (v1 = 0 →
      Q (some (.int (-1))) s1)))) : pl_At (n + 1) 157 0 [(0, .ref 0), (1, .int x1), (2, .int x2), (3, .int x3)] [] s Q :=
  pl_wp_at (stops := []) (f := 30) h rfl

-- ProofBench.needs(I)J
-- ProofBenchModel.assumed(III)I
theorem pl_266_0 {n : Nat} {x1 : Int32} {x2 : Int32} {x3 : Int32} {s : ps_S} {Q : Option Value → ps_S → Prop} (h :
  pl_Cl n 262 [.ref 1131, .int x1] s (ps_rI (fun v1 s1 =>
    (v1 = 0 →
      Q (some (.int (-1))) s1) ∧
    (v1 ≠ 0 →
      (pm_in x1 41 = true →
        pl_Cl n 200 [.int x2, .int 0, .int ((ps_a s1 1157 (Int32.toNatClampNeg x1)) - 1)] s1 (ps_rI (fun v2 s2 =>
          (v2 = 0 →
            Q (some (.int (-1))) s2) ∧
          (v2 ≠ 0 →
            pl_Cl n 243 [.int x1, .int x2] s2 (ps_rI (fun v3 s3 =>
              pl_Cl n 264 [.ref 1131, .int v3, .int x3] s3 (ps_rI (fun v4 s4 =>
                Q (some (.int v4)) s4)))))))))))) : pl_At (n + 1) 266 0 [(0, .ref 1131), (1, .int x1), (2, .int x2), (3, .int x3)] [] s Q :=
  pl_wp_at (stops := []) (f := 28) h rfl

-- ProofBenchModel.needs(I)J
def as_P (x2 x3 v : Int32) (Ri : tq_R) : Prop := (∀ (m : Nat) (y : List Nat), x2.toInt = m → Ri.2.1[m]? = some y → pc_is y x3 v) ∧ (¬ (0 ≤ x2.toInt ∧ x2.toInt < Ri.2.1.length) → v = -1)
theorem as_eq {x2 x3 v v' : Int32} {Ri : tq_R} (h : as_P x2 x3 v Ri) (h' : as_P x2 x3 v' Ri) : v = v' := by
  by_cases y : 0 ≤ x2.toInt ∧ x2.toInt < Ri.2.1.length
  · obtain ⟨w, hw⟩ : ∃ w, Ri.2.1[x2.toInt.toNat]? = some w := ⟨_, List.getElem?_eq_getElem (by omega)⟩
    exact pc_eq (h.1 _ w (by omega) hw) (h'.1 _ w (by omega) hw)
  · exact (h.2 y).trans (h'.2 y).symm
/-- nothing is assumed there -/
theorem fs_122o {n t : Nat} {x1 : Int32} {s : ps_S} {R : Int32 → ps_S → Prop} (ht : ps_is t 8 = true) (h9 : t < 900) (hc : ¬ (0 ≤ x1.toInt ∧ x1.toInt < (ps_i s t 8).toInt)) (k : R (-1) s) : pl_Cl n 122 [.ref t, .int x1] s (ps_rI R) := by
  cases n with
  | zero => exact pl_At_0
  | succ n =>
  show pl_At (n + 1) 122 0 [(0, .ref t), (1, .int x1)] [] s (ps_rI R)
  have c0 : (0 : Int32).toInt = 0 := Int32.toInt_zero
  refine pl_122_0 (pl_nk_i (fun _ => ⟨fun h => k, fun h => pl_nk_i (fun _ => ?_)⟩))
  have h := xlt h
  cases n with
  | zero => exact pl_At_0
  | succ n =>
  show pl_At (n + 1) 182 0 [(0, .ref (ps_c0 t 7)), (1, .int x1)] [] s (ps_rI _)
  refine pl_182_0 ⟨fun _ => k, fun w => ?_⟩
  have w := xle w
  omega
section SBC
variable {p c : Nat} {D : List tq_R} {x1 x2 x3 : Int32} {s : ps_S}
theorem fs_165 {n : Nat} {R : Int64 → ps_S → Prop} (hp : p = 50 ∨ p = 460) (hr : ps_r s 0 4 = p) (P : cpP s p D c) (k : ∀ v, sp_is D x1 (fun Ri => v = Ri.2.2.2.2) (v = -1) → R v s) : pl_Cl n 165 [.ref 0, .int x1] s (ps_rJ R) := by
  cases n with
  | zero => exact pl_At_0
  | succ n =>
  show pl_At (n + 1) 165 0 [(0, .ref 0), (1, .int x1)] [] s (ps_rJ R)
  obtain ⟨pD, p8, -⟩ := P
  have d40 := pD.1
  refine pl_165_0 ?_
  rw [hr]
  refine fs_32 (fun y1 y2 => ⟨fun w => absurd w (by decide), fun _ => ?_⟩) (fun y => ⟨fun _ => k _ ⟨fun i Ri hi hk => absurd (show 0 ≤ x1.toInt ∧ x1.toInt < (ps_i s p 8).toInt from by have := (List.getElem?_eq_some_iff.mp hk).1; omega) y, fun _ => rfl⟩, fun w => absurd rfl w⟩)
  rw [hr]
  obtain ⟨i, hi⟩ : ∃ i : Nat, x1.toInt = i := ⟨x1.toInt.toNat, by omega⟩
  have hiD : i < D.length := by omega
  obtain ⟨Ri, hk⟩ : ∃ Ri, D[i]? = some Ri := ⟨_, List.getElem?_eq_getElem hiD⟩
  obtain ⟨r1, r2, r3, r4, r5, r6, r7⟩ := pD.2 i Ri hk
  refine fs_33 hp hi (by omega) (pl_nk_i (fun _ => k _ ⟨fun j Rj hj hkj => ?_, fun y => absurd (show 0 ≤ x1.toInt ∧ x1.toInt < D.length from by omega) y⟩))
  have e : j = i := by omega
  rw [e, hk] at hkj
  cases hkj
  exact r7
theorem fs_157 {n : Nat} {R : Int32 → ps_S → Prop} (hp : p = 50 ∨ p = 460) (hr : ps_r s 0 4 = p) (P : cpP s p D c) (k : ∀ v, sp_is D x1 (as_P x2 x3 v) (v = -1) → R v s) : pl_Cl n 157 [.ref 0, .int x1, .int x2, .int x3] s (ps_rI R) := by
  cases n with
  | zero => exact pl_At_0
  | succ n =>
  show pl_At (n + 1) 157 0 [(0, .ref 0), (1, .int x1), (2, .int x2), (3, .int x3)] [] s (ps_rI R)
  obtain ⟨pD, p8, -⟩ := P
  have d40 := pD.1
  have cm : (-1 : Int32).toInt = -1 := by decide
  refine pl_157_0 ?_
  rw [hr]
  refine fs_32 (fun y1 y2 => ⟨fun _ => ?_, fun w => absurd w (by decide)⟩) (fun y => ⟨fun w => absurd rfl w, fun _ => k _ ⟨fun i Ri hi hk => absurd (show 0 ≤ x1.toInt ∧ x1.toInt < (ps_i s p 8).toInt from by have := (List.getElem?_eq_some_iff.mp hk).1; omega) y, fun _ => rfl⟩⟩)
  rw [hr]
  obtain ⟨i, hi⟩ : ∃ i : Nat, x1.toInt = i := ⟨x1.toInt.toNat, by omega⟩
  have hiD : i < D.length := by omega
  obtain ⟨Ri, hk⟩ : ∃ Ri, D[i]? = some Ri := ⟨_, List.getElem?_eq_getElem hiD⟩
  obtain ⟨r1, r2, r3, r4, r5, r6, r7⟩ := pD.2 i Ri hk
  have mk : ∀ v, as_P x2 x3 v Ri → sp_is D x1 (as_P x2 x3 v) (v = -1) := fun v hv => ⟨fun j Rj hj hkj => by
    have e : j = i := by omega
    rw [e, hk] at hkj
    cases hkj
    exact hv, fun y => absurd (show 0 ≤ x1.toInt ∧ x1.toInt < D.length from by omega) y⟩
  have hl := stc_lt hp (i := i) (by omega)
  refine fs_33 hp hi (by omega) ?_
  by_cases y : 0 ≤ x2.toInt ∧ x2.toInt < Ri.2.1.length
  · obtain ⟨m, hm⟩ : ∃ m : Nat, x2.toInt = m := ⟨x2.toInt.toNat, by omega⟩
    obtain ⟨w, hw⟩ : ∃ w, Ri.2.1[m]? = some w := ⟨_, List.getElem?_eq_getElem (by omega)⟩
    obtain ⟨oo, q, e1, e2, e3⟩ := r4 m w hw
    have hol := (List.getElem?_eq_some_iff.mp e2).1
    refine fs_122 (stc_is hp (i := i) (by omega)) hl.2.1 hm (by omega) (by omega) ⟨fun _ => ?_, fun z => ?_⟩
    · rw [hr]
      obtain ⟨q1, -⟩ := pD.2 oo q e2
      have e6 := (stc_c hp (i := oo) (by omega)).2.2.2.1
      have r5' := (stc_row hp (i := oo) (by omega)).2.2
      obtain ⟨t1, t2, -⟩ := cv_row r5'
      refine fs_33 hp e1 (by omega) (pl_nk_i (fun _ => ?_))
      rw [e6]
      refine fs_92 r5' t1 (by rw [t1]; exact t2) q1 (fun v z => k v (mk v ⟨fun m' w' hm' hw' => ?_, fun y' => absurd y y'⟩))
      have em : m' = m := by omega
      rw [em, hw] at hw'
      cases hw'
      rw [← e3]
      refine ⟨fun c' hc hl' => ?_, fun y3 => z.2 (by omega)⟩
      have := (List.getElem?_eq_some_iff.mp hl').1
      exact z.1 ⟨hc, by omega⟩ c' hl'
    · have z := xeq z
      omega
  · refine fs_122o (stc_is hp (i := i) (by omega)) hl.2.1 (fun w => y (by omega)) ⟨fun z => absurd rfl z, fun _ => k _ (mk _ ⟨fun m' w' hm' hw' => ?_, fun _ => rfl⟩)⟩
    have := (List.getElem?_eq_some_iff.mp hw').1
    omega
end SBC
section SBM
variable {c : Nat} {D : List tq_R} {x1 x2 x3 : Int32} {s : ps_S}
theorem fm_267 {n : Nat} {R : Int64 → ps_S → Prop} (P : mpP s D c) (k : ∀ v, sp_is D x1 (fun Ri => v = Ri.2.2.2.2) (v = -1) → R v s) : pl_Cl n 267 [.ref 1131, .int x1] s (ps_rJ R) := by
  cases n with
  | zero => exact pl_At_0
  | succ n =>
  show pl_At (n + 1) 267 0 [(0, .ref 1131), (1, .int x1)] [] s (ps_rJ R)
  have pD := P.1
  have d40 := pD.1
  refine pl_267_0 (fm_262 P (fun y1 y2 => ⟨fun w => absurd w (by decide), fun _ => ?_⟩) (fun y => ⟨fun _ => k _ ⟨fun i Ri hi hk => absurd (show 0 ≤ x1.toInt ∧ x1.toInt < D.length from by have := (List.getElem?_eq_some_iff.mp hk).1; omega) y, fun _ => rfl⟩, fun w => absurd rfl w⟩))
  obtain ⟨i, hi⟩ : ∃ i : Nat, x1.toInt = i := ⟨x1.toInt.toNat, by omega⟩
  have hiD : i < D.length := by omega
  obtain ⟨Ri, hk⟩ : ∃ Ri, D[i]? = some Ri := ⟨_, List.getElem?_eq_getElem hiD⟩
  obtain ⟨r1, r2, r3, r4, r5, r6, r7⟩ := pD.2 i Ri hk
  rw [xtn hi]
  intro _
  refine k _ ⟨fun j Rj hj hkj => ?_, fun y => absurd (show 0 ≤ x1.toInt ∧ x1.toInt < D.length from by omega) y⟩
  have e : j = i := by omega
  rw [e, hk] at hkj
  cases hkj
  exact r7
theorem fm_266 {n : Nat} {R : Int32 → ps_S → Prop} (P : mpP s D c) (k : ∀ v, sp_is D x1 (as_P x2 x3 v) (v = -1) → R v s) : pl_Cl n 266 [.ref 1131, .int x1, .int x2, .int x3] s (ps_rI R) := by
  cases n with
  | zero => exact pl_At_0
  | succ n =>
  show pl_At (n + 1) 266 0 [(0, .ref 1131), (1, .int x1), (2, .int x2), (3, .int x3)] [] s (ps_rI R)
  have pD := P.1
  have d40 := pD.1
  have c0 : (0 : Int32).toInt = 0 := Int32.toInt_zero
  have c1 : (1 : Int32).toInt = 1 := by decide
  refine pl_266_0 (fm_262 P (fun y1 y2 => ⟨fun w => absurd w (by decide), fun _ => ?_⟩) (fun y => ⟨fun _ => k _ ⟨fun i Ri hi hk => absurd (show 0 ≤ x1.toInt ∧ x1.toInt < D.length from by have := (List.getElem?_eq_some_iff.mp hk).1; omega) y, fun _ => rfl⟩, fun w => absurd rfl w⟩))
  obtain ⟨i, hi⟩ : ∃ i : Nat, x1.toInt = i := ⟨x1.toInt.toNat, by omega⟩
  have hiD : i < D.length := by omega
  obtain ⟨Ri, hk⟩ : ∃ Ri, D[i]? = some Ri := ⟨_, List.getElem?_eq_getElem hiD⟩
  obtain ⟨r1, r2, r3, r4, r5, r6, r7⟩ := pD.2 i Ri hk
  have mk : ∀ v, as_P x2 x3 v Ri → sp_is D x1 (as_P x2 x3 v) (v = -1) := fun v hv => ⟨fun j Rj hj hkj => by
    have e : j = i := by omega
    rw [e, hk] at hkj
    cases hkj
    exact hv, fun y => absurd (show 0 ≤ x1.toInt ∧ x1.toInt < D.length from by omega) y⟩
  rw [xtn hi]
  intro _
  have e : ((ps_a s 1157 i) - 1).toInt = (Ri.2.1.length : Int) - 1 := by rw [xIs (by omega) (by omega), r2, c1]
  refine fm_200 (fun z1 z2 => ⟨fun w => absurd w (by decide), fun _ => ?_⟩) (fun z => ⟨fun _ => k _ (mk _ ⟨fun m' w' hm' hw' => ?_, fun _ => rfl⟩), fun w => absurd rfl w⟩)
  · obtain ⟨m, hm⟩ : ∃ m : Nat, x2.toInt = m := ⟨x2.toInt.toNat, by omega⟩
    obtain ⟨w, hw⟩ : ∃ w, Ri.2.1[m]? = some w := ⟨_, List.getElem?_eq_getElem (by omega)⟩
    refine fm_243 (i := i) (m := m) hi (by omega) hm (by omega) (fun v3 q3 => fm_264 q3 (by omega) (r4 m w hw) (fun v4 q4 => k _ (mk _ ⟨fun m' w' hm' hw' => ?_, fun y' => absurd (show 0 ≤ x2.toInt ∧ x2.toInt < Ri.2.1.length from by omega) y'⟩)))
    have em : m' = m := by omega
    rw [em, hw] at hw'
    cases hw'
    exact q4
  · have := (List.getElem?_eq_some_iff.mp hw').1
    exact absurd ⟨by omega, by omega⟩ z
end SBM

