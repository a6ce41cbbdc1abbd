set_option maxRecDepth 100000
theorem tq_pi_len {t : List Nat} (ht : t.length ≤ 40) : ∀ {D : List (Nat × Nat)} {l : List Nat}, (tq_pi t D l).length ≤ 40 * l.length
  | [], [] => Nat.zero_le _
  | [], _ :: _ => Nat.zero_le _
  | _ :: _, [] => Nat.zero_le _
  | d :: D, c :: l => by
    have ih := tq_pi_len ht (D := D) (l := l)
    show ((if c + 1 = 40 + d.2 then t else [c]) ++ tq_pi t D l).length ≤ _
    rw [List.length_append, List.length_cons]
    split
    · omega
    · rw [List.length_singleton]
      omega

theorem tq_in_len {ar : Nat → Nat} {l t : List Nat} (ht : t.length ≤ 40) (hl : l.length ≤ 40) : (tq_in ar l t).length ≤ 1600 := by
  have := tq_pi_len ht (D := (ly ar [(0, 0)] l).drop 1) (l := l.drop 1)
  rw [List.length_drop] at this
  unfold tq_in
  omega

theorem tq_gi_len {x : Nat} : ∀ {D : List (Nat × Nat)} {l : List Nat}, (tq_gi x D l).length ≤ l.length
  | [], _ => by
    cases ‹List Nat› <;> exact Nat.zero_le _
  | _ :: _, [] => Nat.zero_le _
  | d :: D, c :: l => by
    have ih := tq_gi_len (x := x) (D := D) (l := l)
    show (_ :: tq_gi x D l).length ≤ _
    rw [List.length_cons, List.length_cons]
    omega

theorem ws_60 {σ : mSig} (hF : σ.1.2 ≤ 4) {x : Nat} (hx : x < 12) : ws σ [60 + x] [false] := ws_c (kS_tx hF (by omega) (by omega)) (show ws σ [] [] from rfl)
