set_option maxRecDepth 100000
/-! theorems lean on axioms through theorems: leans on both sides -/
-- ProofBench.leans(II)I
theorem pl_160_0 {n : Nat} {x1 : Int32} {x2 : Int32} {s : ps_S} {Q : Option Value → ps_S → Prop} (h :
  pl_Cl n 109 [.ref 870, .int x1] s (ps_rI (fun v1 s1 =>
    (v1 ≠ 0 →
      (x2 = 0 →
        pl_Cl n 182 [.ref 874, .int x1] s1 (ps_rI (fun v2 s2 =>
          Q (some (.int v2)) s2))) ∧
      (x2 ≠ 0 →
        (x2 = 1 →
        pl_Cl n 182 [.ref 875, .int x1] s1 (ps_rI (fun v3 s3 =>
          Q (some (.int v3)) s3))) ∧
      (x2 ≠ 1 →
        (x2 = 2 →
        pl_Cl n 182 [.ref 876, .int x1] s1 (ps_rI (fun v4 s4 =>
          Q (some (.int v4)) s4))) ∧
      (x2 ≠ 2 →
        Q (some (.int (-1))) s1)))) ∧
    (v1 = 0 →
      Q (some (.int (-1))) s1)))) : pl_At (n + 1) 160 0 [(0, .ref 0), (1, .int x1), (2, .int x2)] [] s Q :=
  pl_wp_at (stops := []) (f := 31) h rfl

-- ProofBenchModel.through(I)I
theorem pl_270_0 {n : Nat} {x1 : Int32} {s : ps_S} {Q : Option Value → ps_S → Prop} (h :
  pl_At n 270 9 [(0, .ref 1131), (2, .int ((1 : Int32) <<< (x1 &&& 31))), (3, .int 0), (4, .int x1)] [] s Q) : pl_At (n + 1) 270 0 [(0, .ref 1131), (1, .int x1)] [] s Q :=
  pl_wp_at (stops := [(9, [0, 2, 3, 4])]) (f := 10) h rfl

theorem pl_270_9 {n : Nat} {x2 : Int32} {x3 : Int32} {x4 : Int32} {s : ps_S} {Q : Option Value → ps_S → Prop} (h :
  (x4 < 0 →
    Q (some (.int x3)) s) ∧
  (0 ≤ x4 →
    (((x2 >>> (x4 &&& 31)) &&& 1) ≠ 0 →
      (pm_in x4 12 = true →
        (pm_in x4 12 = true →
          pl_At n 270 9 [(0, .ref 1131), (2, .int (x2 ||| (ps_a s 1162 (Int32.toNatClampNeg x4)))), (3, .int (x3 ||| (ps_a s 1161 (Int32.toNatClampNeg x4)))), (4, .int (x4 + (-1)))] [] s Q))) ∧
    (((x2 >>> (x4 &&& 31)) &&& 1) = 0 →
      pl_At n 270 9 [(0, .ref 1131), (2, .int x2), (3, .int x3), (4, .int (x4 + (-1)))] [] s Q))) : pl_At (n + 1) 270 9 [(0, .ref 1131), (2, .int x2), (3, .int x3), (4, .int x4)] [] s Q :=
  pl_wp_at (stops := [(9, [0, 2, 3, 4])]) (f := 31) h rfl

-- ProofBenchModel.leans(II)I
theorem pl_271_0 {n : Nat} {x1 : Int32} {x2 : Int32} {s : ps_S} {Q : Option Value → ps_S → Prop} (h :
  pl_Cl n 200 [.int x1, .int 0, .int ((ps_i s 1131 54) - 1)] s (ps_rI (fun v1 s1 =>
    (v1 ≠ 0 →
      (x2 ≠ 0 →
        (x2 ≠ 1 →
          (x2 ≠ 2 →
            Q (some (.int (-1))) s1) ∧
          (x2 = 2 →
            pl_Cl n 270 [.ref 1131, .int x1] s1 (ps_rI (fun v2 s2 =>
              Q (some (.int v2)) s2)))) ∧
        (x2 = 1 →
          (pm_in x1 12 = true →
            Q (some (.int (ps_a s1 1162 (Int32.toNatClampNeg x1)))) s1))) ∧
      (x2 = 0 →
        (pm_in x1 12 = true →
          Q (some (.int (ps_a s1 1161 (Int32.toNatClampNeg x1)))) s1))) ∧
    (v1 = 0 →
      Q (some (.int (-1))) s1)))) : pl_At (n + 1) 271 0 [(0, .ref 1131), (1, .int x1), (2, .int x2)] [] s Q :=
  pl_wp_at (stops := []) (f := 40) h rfl

/-- a bit -/
def bt (x : Int32) (j : Nat) : Bool := !decide (((x >>> (nI j &&& 31)) &&& 1) = 0)
theorem dor (A B : Int32) : (!decide (A ||| B = 0)) = (!decide (A = 0) || !decide (B = 0)) := by
  by_cases h1 : A = 0
  · rw [h1, Int32.zero_or, show decide ((0 : Int32) = 0) = true from rfl]
    rfl
  · have h3 : ¬ (A ||| B = 0) := fun z => h1 (Int32.or_eq_zero_iff.mp z).1
    rw [decide_eq_false h3, decide_eq_false h1]
    rfl
theorem bt_or (a b : Int32) (j : Nat) : bt (a ||| b) j = (bt a j || bt b j) := by
  have e : (((a ||| b) >>> (nI j &&& 31)) &&& 1) = ((a >>> (nI j &&& 31)) &&& 1) ||| ((b >>> (nI j &&& 31)) &&& 1) := by
    apply Int32.toBitVec_inj.mp
    rw [Int32.toBitVec_and, Int32.toBitVec_or, Int32.toBitVec_and, Int32.toBitVec_and, Int32.toBitVec_shiftRight, Int32.toBitVec_shiftRight, Int32.toBitVec_shiftRight, Int32.toBitVec_or]
    generalize ((nI j &&& 31).toBitVec.smod 32) = k
    unfold BitVec.sshiftRight'
    rw [BitVec.sshiftRight_or_distrib, BitVec.and_or_distrib_right]
  unfold bt
  rw [e]
  exact dor _ _
theorem bt_0 : ∀ j : Nat, j < 32 → bt 0 j = false := fun j hj => by
  have h : ∀ i : Fin 32, bt 0 i.val = false := by decide +kernel
  exact h ⟨j, hj⟩
theorem bt_b {k j : Nat} (hk : k < 32) (hj : j < 32) : bt (tq_b k) j = decide (j = k) := by
  have h : ∀ i : Fin 32, ∀ m : Fin 32, bt (tq_b i.val) m.val = decide (m.val = i.val) := by decide +kernel
  exact h ⟨k, hk⟩ ⟨j, hj⟩
theorem bt_1 {x : Int32} {j : Nat} (h : ((x >>> (nI j &&& 31)) &&& 1) ≠ 0) : bt x j = true := by
  unfold bt
  rw [decide_eq_false h]
  rfl
theorem bt_no {x : Int32} {j : Nat} (h : ((x >>> (nI j &&& 31)) &&& 1) = 0) : bt x j = false := by
  unfold bt
  rw [decide_eq_true h]
  rfl
/-- all of those below m that a set has -/
def orb (f : Nat → Int32) (S : Int32) : Nat → Int32
  | 0 => 0
  | m + 1 => orb f S m ||| (if bt S m = true then f m else 0)
theorem or4 (a b c d : Int32) : (a ||| b) ||| (c ||| d) = (a ||| c) ||| (b ||| d) := by
  rw [Int32.or_assoc, Int32.or_assoc, ← Int32.or_assoc b c d, ← Int32.or_assoc c b d, Int32.or_comm b c]
theorem orb_or {f : Nat → Int32} {S S' : Int32} : ∀ m : Nat, orb f (S ||| S') m = orb f S m ||| orb f S' m
  | 0 => by
    show (0 : Int32) = 0 ||| 0
    rw [Int32.or_zero]
  | m + 1 => by
    show orb f (S ||| S') m ||| (if bt (S ||| S') m = true then f m else 0) = (orb f S m ||| (if bt S m = true then f m else 0)) ||| (orb f S' m ||| (if bt S' m = true then f m else 0))
    rw [orb_or m, or4 (orb f S m), bt_or]
    congr 1
    cases bt S m <;> cases bt S' m
    · show (0 : Int32) = 0 ||| 0
      rw [Int32.or_zero]
    · show f m = 0 ||| f m
      rw [Int32.zero_or]
    · show f m = f m ||| 0
      rw [Int32.or_zero]
    · show f m = f m ||| f m
      rw [Int32.or_self]
theorem orb_0 {f : Nat → Int32} {S : Int32} : ∀ m : Nat, (∀ j, j < m → bt S j = false) → orb f S m = 0
  | 0, _ => rfl
  | m + 1, h => by
    show orb f S m ||| (if bt S m = true then f m else 0) = 0
    rw [orb_0 m (fun j hj => h j (by omega)), h m (by omega)]
    show (0 : Int32) ||| 0 = 0
    rw [Int32.or_zero]
theorem orb_b {f : Nat → Int32} {k : Nat} (hk : k < 31) : orb f (tq_b k) (k + 1) = f k := by
  show orb f (tq_b k) k ||| (if bt (tq_b k) k = true then f k else 0) = f k
  rw [orb_0 k (fun j hj => by rw [bt_b (by omega) (by omega)]; exact decide_eq_false (by omega)), bt_b (by omega) (by omega), decide_eq_true rfl, if_pos rfl, Int32.zero_or]
theorem orb_congr {f f' : Nat → Int32} {S : Int32} : ∀ m : Nat, (∀ j, j < m → f j = f' j) → orb f S m = orb f' S m
  | 0, _ => rfl
  | m + 1, h => by
    show orb f S m ||| (if bt S m = true then f m else 0) = orb f' S m ||| (if bt S m = true then f' m else 0)
    rw [orb_congr m (fun j hj => h j (by omega)), h m (by omega)]
/-- a theorem's axioms, theorems, axioms through all -/
def tq_hA (Θ : List tq_H) (k : Nat) : Int32 := (Θ.getD k ([], 0, 0, 0)).2.1
def tq_hU (Θ : List tq_H) (k : Nat) : Int32 := (Θ.getD k ([], 0, 0, 0)).2.2.1
def tq_hT (Θ : List tq_H) (k : Nat) : Int32 := (Θ.getD k ([], 0, 0, 0)).2.2.2
/-- each is what it is by those ahead of it -/
def THI (Θ : List tq_H) : Prop := ∀ k, k < Θ.length → tq_hT Θ k = tq_hA Θ k ||| orb (tq_hT Θ) (tq_hU Θ k) k ∧ ∀ j, k ≤ j → j < 12 → bt (tq_hU Θ k) j = false
theorem tq_h_at {Θ : List tq_H} {k : Nat} {q : tq_H} (h : Θ[k]? = some q) : tq_hA Θ k = q.2.1 ∧ tq_hU Θ k = q.2.2.1 ∧ tq_hT Θ k = q.2.2.2 := by
  unfold tq_hA tq_hU tq_hT
  rw [List.getD_eq_getElem?_getD, h]
  exact ⟨rfl, rfl, rfl⟩
theorem orb_top {f : Nat → Int32} {S : Int32} {k : Nat} : ∀ m : Nat, k ≤ m → (∀ j, k ≤ j → j < m → bt S j = false) → orb f S m = orb f S k
  | 0, h, _ => by
    have e : k = 0 := by omega
    rw [e]
  | m + 1, h, hb => by
    by_cases e : k = m + 1
    · rw [e]
    · show orb f S m ||| (if bt S m = true then f m else 0) = orb f S k
      rw [hb m (by omega) (by omega), orb_top m (by omega) (fun j a b => hb j a (by omega))]
      show orb f S k ||| 0 = orb f S k
      rw [Int32.or_zero]
/-- what leans answers -/
def ln_P (x v : Int32) (q : tq_H) : Prop := (x.toInt = 0 → v = q.2.1) ∧ (x.toInt = 1 → v = q.2.2.1) ∧ (x.toInt = 2 → v = q.2.2.2) ∧ (¬ (0 ≤ x.toInt ∧ x.toInt ≤ 2) → v = -1)
theorem ln_eq {x v v' : Int32} {q : tq_H} (h : ln_P x v q) (h' : ln_P x v' q) : v = v' := by
  obtain ⟨a0, a1, a2, a3⟩ := h
  obtain ⟨b0, b1, b2, b3⟩ := h'
  by_cases y : 0 ≤ x.toInt ∧ x.toInt ≤ 2
  · by_cases y0 : x.toInt = 0
    · rw [a0 y0, b0 y0]
    · by_cases y1 : x.toInt = 1
      · rw [a1 y1, b1 y1]
      · rw [a2 (by omega), b2 (by omega)]
  · rw [a3 y, b3 y]
section LNS
variable {Θ : List tq_H} {x1 x2 : Int32} {s : ps_S}
theorem fs_160 {n : Nat} {R : Int32 → ps_S → Prop} (S : cSh s 870 Θ) (k : ∀ v, sh_is Θ x1 (ln_P x2 v) (v = -1) → R v s) : pl_Cl n 160 [.ref 0, .int x1, .int x2] s (ps_rI R) := by
  cases n with
  | zero => exact pl_At_0
  | succ n =>
  show pl_At (n + 1) 160 0 [(0, .ref 0), (1, .int x1), (2, .int x2)] [] s (ps_rI R)
  obtain ⟨z1, z2, z3⟩ := S
  have c0 : (0 : Int32).toInt = 0 := Int32.toInt_zero
  have c1 : (1 : Int32).toInt = 1 := by decide
  have c2 : (2 : Int32).toInt = 2 := by decide
  refine pl_160_0 (fs_109 (fun y1 y2 => ⟨fun _ => ?_, fun w => absurd w (by decide)⟩) (fun y => ⟨fun w => absurd rfl w, fun _ => k _ ⟨fun i q hi hk => absurd (show 0 ≤ x1.toInt ∧ x1.toInt < (ps_i s 870 5).toInt from by have := (List.getElem?_eq_some_iff.mp hk).1; omega) y, fun _ => rfl⟩⟩))
  obtain ⟨i, hi⟩ : ∃ i : Nat, x1.toInt = i := ⟨x1.toInt.toNat, by omega⟩
  have hiD : i < Θ.length := by omega
  obtain ⟨q, hk⟩ : ∃ q, Θ[i]? = some q := ⟨_, List.getElem?_eq_getElem hiD⟩
  obtain ⟨-, e1, e2, e3⟩ := z3 i q hk
  have KK : ∀ v : Int32, ln_P x2 v q → R v s := fun v z => k v ⟨fun j q' hj hkj => by
    have e : j = i := by omega
    rw [e, hk] at hkj
    cases hkj
    exact z, fun y => absurd (show 0 ≤ x1.toInt ∧ x1.toInt < Θ.length from by omega) y⟩
  refine ⟨fun w => ?_, fun w => ⟨fun w1 => ?_, fun w1 => ⟨fun w2 => ?_, fun w2 => ?_⟩⟩⟩
  · have w := xeq w
    refine fs_182 (r0 := 874) hi (show i < 12 by omega) (show (12 : Nat) ≤ 20000 by decide) (KK _ ⟨fun _ => e1, fun y => by omega, fun y => by omega, fun y => by omega⟩)
  · have w := xne w
    have w1 := xeq w1
    refine fs_182 (r0 := 875) hi (show i < 12 by omega) (show (12 : Nat) ≤ 20000 by decide) (KK _ ⟨fun y => by omega, fun _ => e2, fun y => by omega, fun y => by omega⟩)
  · have w := xne w
    have w1 := xne w1
    have w2 := xeq w2
    refine fs_182 (r0 := 876) hi (show i < 12 by omega) (show (12 : Nat) ≤ 20000 by decide) (KK _ ⟨fun y => by omega, fun y => by omega, fun _ => e3, fun y => by omega⟩)
  · have w := xne w
    have w1 := xne w1
    have w2 := xne w2
    exact KK _ ⟨fun y => by omega, fun y => by omega, fun y => by omega, fun _ => rfl⟩
theorem fm_270_9 {n0 : Nat} {R : Int32 → ps_S → Prop} (S : mSh s Θ) (hT : THI Θ) (h12 : n0 < Θ.length) (k : R (tq_hT Θ n0) s) : ∀ (n : Nat) {x2 x3 x4 : Int32} {m : Nat}, x4.toInt = (m : Int) - 1 → m ≤ n0 + 1 → x3 ||| orb (tq_hT Θ) x2 m = tq_hT Θ n0 → pl_At n 270 9 [(0, .ref 1131), (2, .int x2), (3, .int x3), (4, .int x4)] [] s (ps_rI R)
  | 0, _, _, _, _, _, _, _ => pl_At_0
  | n + 1, x2, x3, x4, m, h4, hm, he => by
    have c0 : (0 : Int32).toInt = 0 := Int32.toInt_zero
    refine pl_270_9 ⟨fun w => ?_, fun w => ?_⟩
    · have w := xlt w
      have e : m = 0 := by omega
      subst e
      have he : x3 ||| 0 = tq_hT Θ n0 := he
      rw [Int32.or_zero] at he
      rw [he]
      exact k
    · have w := xle w
      obtain ⟨j, rfl⟩ : ∃ j, m = j + 1 := ⟨m - 1, by omega⟩
      have h4 : x4.toInt = j := by omega
      have hj : j < Θ.length := by omega
      obtain ⟨q, hk⟩ : ∃ q, Θ[j]? = some q := ⟨_, List.getElem?_eq_getElem hj⟩
      obtain ⟨z1, z2, z3⟩ := S
      obtain ⟨-, e1, e2⟩ := z3 j q hk
      obtain ⟨t1, t2, t3⟩ := tq_h_at hk
      obtain ⟨i1, -⟩ := hT j hj
      have h4' : (x4 + (-1)).toInt = (j : Int) - 1 := xmin1 h4
      have e4 : x4 = nI j := xnI h4
      have et : x4.toNatClampNeg = j := xtn h4
      have he : x3 ||| (orb (tq_hT Θ) x2 j ||| (if bt x2 j = true then tq_hT Θ j else 0)) = tq_hT Θ n0 := he
      refine ⟨fun y => fun _ _ => ?_, fun y => ?_⟩
      · rw [e4] at y
        rw [bt_1 y, if_pos rfl] at he
        refine fm_270_9 ⟨z1, z2, z3⟩ hT h12 k n (m := j) h4' (by omega) ?_
        rw [et, e2, e1, ← t1, ← t2, orb_or, ← he, i1]
        rw [or4 x3 (tq_hA Θ j) (orb (tq_hT Θ) x2 j), Int32.or_assoc x3 (orb (tq_hT Θ) x2 j)]
      · rw [e4] at y
        rw [bt_no y] at he
        have he : x3 ||| (orb (tq_hT Θ) x2 j ||| 0) = tq_hT Θ n0 := he
        rw [Int32.or_zero] at he
        exact fm_270_9 ⟨z1, z2, z3⟩ hT h12 k n (m := j) h4' (by omega) he
theorem fm_270 {n i : Nat} {R : Int32 → ps_S → Prop} (S : mSh s Θ) (hT : THI Θ) (h1 : x1.toInt = i) (hi : i < Θ.length) (k : R (tq_hT Θ i) s) : pl_Cl n 270 [.ref 1131, .int x1] s (ps_rI R) := by
  cases n with
  | zero => exact pl_At_0
  | succ n =>
  show pl_At (n + 1) 270 0 [(0, .ref 1131), (1, .int x1)] [] s (ps_rI R)
  have h12 := S.2.1
  refine pl_270_0 (fm_270_9 S hT hi k n (m := i + 1) (by omega) (by omega) ?_)
  rw [xnI h1]
  show 0 ||| orb (tq_hT Θ) (tq_b i) (i + 1) = _
  rw [orb_b (by omega), Int32.zero_or]
theorem fm_271 {n : Nat} {R : Int32 → ps_S → Prop} (S : mSh s Θ) (hT : THI Θ) (k : ∀ v, sh_is Θ x1 (ln_P x2 v) (v = -1) → R v s) : pl_Cl n 271 [.ref 1131, .int x1, .int x2] s (ps_rI R) := by
  cases n with
  | zero => exact pl_At_0
  | succ n =>
  show pl_At (n + 1) 271 0 [(0, .ref 1131), (1, .int x1), (2, .int x2)] [] s (ps_rI R)
  obtain ⟨z1, z2, z3⟩ := id S
  have c0 : (0 : Int32).toInt = 0 := Int32.toInt_zero
  have c1 : (1 : Int32).toInt = 1 := by decide
  have c2 : (2 : Int32).toInt = 2 := by decide
  have e : ((ps_i s 1131 54) - 1).toInt = (Θ.length : Int) - 1 := by rw [xIs (by omega) (by omega), z1, c1]
  refine pl_271_0 (fm_200 (fun y1 y2 => ⟨fun _ => ?_, fun w => absurd w (by decide)⟩) (fun y => ⟨fun w => absurd rfl w, fun _ => k _ ⟨fun i q hi hk => ?_, fun _ => rfl⟩⟩))
  · obtain ⟨i, hi⟩ : ∃ i : Nat, x1.toInt = i := ⟨x1.toInt.toNat, by omega⟩
    have hiD : i < Θ.length := by omega
    obtain ⟨q, hk⟩ : ∃ q, Θ[i]? = some q := ⟨_, List.getElem?_eq_getElem hiD⟩
    obtain ⟨-, e1, e2⟩ := z3 i q hk
    obtain ⟨-, -, t3⟩ := tq_h_at hk
    have KK : ∀ v : Int32, ln_P x2 v q → R v s := fun v z => k v ⟨fun j q' hj hkj => by
      have e : j = i := by omega
      rw [e, hk] at hkj
      cases hkj
      exact z, fun y => absurd (show 0 ≤ x1.toInt ∧ x1.toInt < Θ.length from by omega) y⟩
    have et : x1.toNatClampNeg = i := xtn hi
    refine ⟨fun w => ⟨fun w1 => ⟨fun w2 => ?_, fun w2 => ?_⟩, fun w1 => ?_⟩, fun w => ?_⟩
    · have w := xne w
      have w1 := xne w1
      have w2 := xne w2
      exact KK _ ⟨fun y => by omega, fun y => by omega, fun y => by omega, fun _ => rfl⟩
    · have w := xne w
      have w1 := xne w1
      have w2 := xeq w2
      exact fm_270 S hT hi hiD (KK _ ⟨fun y => by omega, fun y => by omega, fun _ => t3, fun y => by omega⟩)
    · have w := xne w
      have w1 := xeq w1
      intro _
      rw [et]
      exact KK _ ⟨fun y => by omega, fun _ => e2, fun y => by omega, fun y => by omega⟩
    · have w := xeq w
      intro _
      rw [et]
      exact KK _ ⟨fun _ => e1, fun y => by omega, fun y => by omega, fun y => by omega⟩
  · have := (List.getElem?_eq_some_iff.mp hk).1
    exact absurd ⟨by omega, by omega⟩ y
end LNS

