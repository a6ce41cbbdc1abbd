set_option maxRecDepth 100000
/-! what the shelf says: theorem, on both sides -/
-- ProofBench.theorem(II)I
theorem pl_159_0 {n : Nat} {x1 : Int32} {x2 : Int32} {s : ps_S} {Q : Option Value → ps_S → Prop} (h :
  pl_Cl n 109 [.ref 870, .int x1] s (ps_rI (fun v1 s1 =>
    (v1 = 0 →
      Q (some (.int (-1))) s1) ∧
    (v1 ≠ 0 →
      pl_Cl n 110 [.ref 870, .int x1] s1 (ps_rA (fun v2 s2 =>
        pl_Cl n 92 [.ref v2, .int x2] s2 (ps_rI (fun v3 s3 =>
          Q (some (.int v3)) s3)))))))) : pl_At (n + 1) 159 0 [(0, .ref 0), (1, .int x1), (2, .int x2)] [] s Q :=
  pl_wp_at (stops := []) (f := 17) h rfl

-- ProofBenchModel.theorem(II)I
theorem pl_269_0 {n : Nat} {x1 : Int32} {x2 : Int32} {s : ps_S} {Q : Option Value → ps_S → Prop} (h :
  pl_Cl n 200 [.int x1, .int 0, .int ((ps_i s 1131 54) - 1)] s (ps_rI (fun v1 s1 =>
    (v1 = 0 →
      Q (some (.int (-1))) s1) ∧
    (v1 ≠ 0 →
      pl_Cl n 264 [.ref 1131, .int ((21320 : Int32) + ((41 : Int32) * x1)), .int x2] s1 (ps_rI (fun v2 s2 =>
        Q (some (.int v2)) s2)))))) : pl_At (n + 1) 269 0 [(0, .ref 1131), (1, .int x1), (2, .int x2)] [] s Q :=
  pl_wp_at (stops := []) (f := 22) h rfl

def sh_is (Θ : List tq_H) (x : Int32) (P : tq_H → Prop) (N : Prop) : Prop := (∀ (i : Nat) (q : tq_H), x.toInt = i → Θ[i]? = some q → P q) ∧ (¬ (0 ≤ x.toInt ∧ x.toInt < Θ.length) → N)
theorem sh_c {Θ : List tq_H} {x : Int32} {P P' : tq_H → Prop} {N N' Q : Prop} (h : sh_is Θ x P N) (h' : sh_is Θ x P' N') (hP : ∀ q, P q → P' q → Q) (hN : N → N' → Q) : Q := by
  by_cases y : 0 ≤ x.toInt ∧ x.toInt < Θ.length
  · obtain ⟨q, hk⟩ : ∃ q, Θ[x.toInt.toNat]? = some q := ⟨_, List.getElem?_eq_getElem (by omega)⟩
    exact hP q (h.1 _ q (by omega) hk) (h'.1 _ q (by omega) hk)
  · exact hN (h.2 y) (h'.2 y)
section SCC
variable {Θ : List tq_H} {x1 x2 : Int32} {s : ps_S}
theorem fs_159 {n : Nat} {R : Int32 → ps_S → Prop} (S : cSh s 870 Θ) (k : ∀ v, sh_is Θ x1 (fun q => pc_is q.1 x2 v) (v = -1) → R v s) : pl_Cl n 159 [.ref 0, .int x1, .int x2] s (ps_rI R) := by
  cases n with
  | zero => exact pl_At_0
  | succ n =>
  show pl_At (n + 1) 159 0 [(0, .ref 0), (1, .int x1), (2, .int x2)] [] s (ps_rI R)
  obtain ⟨z1, z2, z3⟩ := S
  refine pl_159_0 (fs_109 (fun y1 y2 => ⟨fun w => absurd w (by decide), fun _ => ?_⟩) (fun y => ⟨fun _ => k _ ⟨fun i q hi hk => absurd (show 0 ≤ x1.toInt ∧ x1.toInt < (ps_i s 870 5).toInt from by have := (List.getElem?_eq_some_iff.mp hk).1; omega) y, fun _ => rfl⟩, fun w => absurd rfl w⟩))
  obtain ⟨i, hi⟩ : ∃ i : Nat, x1.toInt = i := ⟨x1.toInt.toNat, by omega⟩
  have hiD : i < Θ.length := by omega
  obtain ⟨q, hk⟩ : ∃ q, Θ[i]? = some q := ⟨_, List.getElem?_eq_getElem hiD⟩
  obtain ⟨W, -⟩ := z3 i q hk
  have r5 := r12_is (n1 := i) (by omega)
  obtain ⟨t1, t2, -⟩ := cv_row r5
  refine fs_110 (q := 870) (Or.inl rfl) hi (by omega) ?_
  refine fs_92 r5 t1 (by rw [t1]; exact t2) W (fun v z => k v ⟨fun j q' hj hkj => ?_, fun y => absurd (show 0 ≤ x1.toInt ∧ x1.toInt < Θ.length from by omega) y⟩)
  have e : j = i := by omega
  rw [e, hk] at hkj
  cases hkj
  refine ⟨fun c' hc hl => ?_, fun y => z.2 (by omega)⟩
  have := (List.getElem?_eq_some_iff.mp hl).1
  exact z.1 ⟨hc, by omega⟩ c' hl
theorem fm_269 {n : Nat} {R : Int32 → ps_S → Prop} (S : mSh s Θ) (k : ∀ v, sh_is Θ x1 (fun q => pc_is q.1 x2 v) (v = -1) → R v s) : pl_Cl n 269 [.ref 1131, .int x1, .int x2] s (ps_rI R) := by
  cases n with
  | zero => exact pl_At_0
  | succ n =>
  show pl_At (n + 1) 269 0 [(0, .ref 1131), (1, .int x1), (2, .int x2)] [] s (ps_rI R)
  obtain ⟨z1, z2, z3⟩ := S
  have c0 : (0 : Int32).toInt = 0 := Int32.toInt_zero
  have c1 : (1 : Int32).toInt = 1 := by decide
  have e : ((ps_i s 1131 54) - 1).toInt = (Θ.length : Int) - 1 := by rw [xIs (by omega) (by omega), z1, c1]
  refine pl_269_0 (fm_200 (fun y1 y2 => ⟨fun w => absurd w (by decide), fun _ => ?_⟩) (fun y => ⟨fun _ => k _ ⟨fun i q hi hk => ?_, fun _ => rfl⟩, fun w => absurd rfl w⟩))
  · obtain ⟨i, hi⟩ : ∃ i : Nat, x1.toInt = i := ⟨x1.toInt.toNat, by omega⟩
    have hiD : i < Θ.length := by omega
    obtain ⟨q, hk⟩ : ∃ q, Θ[i]? = some q := ⟨_, List.getElem?_eq_getElem hiD⟩
    obtain ⟨W, -⟩ := z3 i q hk
    refine fm_264 (rowH hi (by omega)) (by omega) W (fun v z => k v ⟨fun j q' hj hkj => ?_, fun y => absurd (show 0 ≤ x1.toInt ∧ x1.toInt < Θ.length from by omega) y⟩)
    have e : j = i := by omega
    rw [e, hk] at hkj
    cases hkj
    exact z
  · have := (List.getElem?_eq_some_iff.mp hk).1
    exact absurd ⟨by omega, by omega⟩ y
end SCC

