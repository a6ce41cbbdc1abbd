set_option maxRecDepth 100000
theorem fm_228_110 {n0 : Nat} {P : List (Nat × Nat)} {x3 : Int32} {s0 : ps_S} {R : Int32 → ps_S → Prop} (kk : ∀ {s : ps_S} {x1 x2 : Int32} {F : List (Nat × Bool)}, x1.toInt = F.length → F.length ≤ 13 → x2.toInt = bnF F → bnF F ≤ 5 → skR s F → (F = [] ∨ ∃ k b G, F = (k + 1, b) :: G) → fSF F = P → KL s0 s → pl_At n0 228 148 [(0, .ref 1131), (1, .int x1), (2, .int x2), (3, .int x3)] [] s (ps_rI R)) : ∀ (n : Nat) {s : ps_S} {x1 x2 : Int32} {F : List (Nat × Bool)}, n ≤ n0 → x1.toInt = F.length → F.length ≤ 13 → x2.toInt = bnF F → bnF F ≤ 5 → skR s F → fSF F = P → KL s0 s → pl_At n 228 110 [(0, .ref 1131), (1, .int x1), (2, .int x2), (3, .int x3)] [] s (ps_rI R)
  | 0, _, _, _, _, _, _, _, _, _, _, _, _ => pl_At_0
  | n + 1, s, x1, x2, F, hn, h1, hF, h2, hb5, hS, hP, K => by
    have c0 : (0 : Int32).toInt = 0 := Int32.toInt_zero
    have c1 : (1 : Int32).toInt = 1 := by decide
    refine pl_228_110 ⟨fun z => ?_, fun z => ?_⟩
    · have z := xle z
      have e : F = [] := by
        cases F with
        | nil => rfl
        | cons a G => rw [List.length_cons] at h1; omega
      exact (kk h1 hF h2 hb5 hS (Or.inl e) hP K).le (by omega)
    · have z := xlt z
      cases F with
      | nil =>
        rw [List.length_nil] at h1
        omega
      | cons a G =>
        obtain ⟨k, b⟩ := a
        rw [List.length_cons] at h1 hF
        have e1 : (x1 - 1).toInt = (G.length : Nat) := by rw [xIs (by omega) (by omega), h1, c1]; omega
        obtain ⟨⟨s1, s2, s3⟩, hS2⟩ := id hS
        intro b1
        rw [xtn e1]
        refine ⟨fun y => ?_, fun y => ?_⟩
        · have y := xne y
          refine (kk (F := (k, b) :: G) (by rw [List.length_cons]; exact h1) (by rw [List.length_cons]; exact hF) h2 hb5 hS (Or.inr ?_) hP K).le (by omega)
          cases k with
          | zero => exact absurd s1 y
          | succ k => exact ⟨k, b, G, rfl⟩
        · have y := xeq y
          have hk : k = 0 := by omega
          subst hk
          cases n with
          | zero => exact pl_At_0
          | succ n =>
          clear e1 b1
          have e2 : (x1 + Int32.ofInt (-1)).toInt = (G.length : Nat) := by
            rw [xof1 (b := G.length + 1) h1 (by omega)]
            omega
          generalize x1 + Int32.ofInt (-1) = x9 at e2 ⊢
          have hP2 : fSF G = P := hP
          have h2 : x2.toInt = ((if b = true then 1 else 0) + bnF G : Nat) := h2
          have hbn := bnF_le (F := G)
          have hb5 : (if b = true then 1 else 0) + bnF G ≤ 5 := hb5
          refine pl_228_128 ?_
          intro b2
          rw [xtn e2]
          refine ⟨fun w => ?_, fun w => ?_⟩
          · have hb : b = false := by
              cases b
              · rfl
              · exact absurd w (s2 rfl)
            rw [hb, if_neg (by decide), Nat.zero_add] at h2
            exact fm_228_110 kk n (F := G) (by omega) e2 (by omega) (by rw [xIs (by rw [Int32.toInt_zero]; omega) (by rw [Int32.toInt_zero]; omega), Int32.toInt_zero, h2]; omega) (by omega) hS2 hP2 K
          · have hb : b = true := by
              cases b
              · exact absurd (s3 rfl) w
              · rfl
            rw [hb, if_pos rfl] at h2
            exact fm_228_110 kk n (F := G) (by omega) e2 (by omega) (by rw [xIs (by omega) (by omega), c1, h2]; omega) (by omega) hS2 hP2 K
