set_option maxRecDepth 100000
theorem fm_229 {n to : Nat} {L : List Nat} {x1 : Int32} {s : ps_S} {R : ps_S → Prop} (M : mk_M s L) (h40 : L.length ≤ 40) (h1 : x1.toInt = to) (ht : to + 41 ≤ 27400) (k : ∀ s', mv_W s' to L → kq [1134] [] s s' → mv_po to s s' → R s') : pl_Cl n 229 [.ref 1131, .int x1] s (ps_rV R) := by
  cases n with
  | zero => exact pl_At_0
  | succ n =>
  show pl_At (n + 1) 229 0 [(0, .ref 1131), (1, .int x1)] [] s (ps_rV R)
  refine pl_229_0 ?_
  intro b
  rw [xtn h1]
  refine fm_229_12 M h40 h1 ht k n (i := 0) rfl (Nat.zero_le _) ?_ (fun j c hj => absurd hj (Nat.not_lt_zero _)) (kqa kq_refl rfl) (fun q hq => ?_)
  · rw [ps_a_ua, if_pos ⟨rfl, rfl⟩]
    exact M.1
  · rw [ps_a_ua, if_neg (by omega)]

/-! isRow: the stack of parts that are still to come -/
def bnF : List (Nat × Bool) → Nat
  | [] => 0
  | (_, b) :: F => (if b = true then 1 else 0) + bnF F

def fSF : List (Nat × Bool) → List (Nat × Nat)
  | [] => []
  | (k, b) :: F => List.replicate k (F.length + 1, (if b = true then 1 else 0) + bnF F) ++ fSF F

def skR (s : ps_S) : List (Nat × Bool) → Prop
  | [] => True
  | (k, b) :: F => ((ps_a s 1150 F.length).toInt = k ∧ (b = true → ps_a s 1151 F.length ≠ 0) ∧ (b = false → ps_a s 1151 F.length = 0)) ∧ skR s F

theorem skR_ext {s s' : ps_S} : ∀ {F : List (Nat × Bool)}, skR s F → (∀ i, i < F.length → ps_a s' 1150 i = ps_a s 1150 i ∧ ps_a s' 1151 i = ps_a s 1151 i) → skR s' F
  | [], _, _ => trivial
  | (k, b) :: F, h, e => by
    have e0 := e F.length (by rw [List.length_cons]; omega)
    refine ⟨?_, skR_ext h.2 (fun i hi => e i (by rw [List.length_cons]; omega))⟩
    rw [e0.1, e0.2]
    exact h.1
