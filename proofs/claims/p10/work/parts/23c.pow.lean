theorem pw3 {n : Int} (h1 : 1 ≤ n) (h3 : n ≤ 3) : ∀ k : Nat, 1 ≤ n ^ k ∧ n ^ k ≤ 3 ^ k
  | 0 => ⟨by rw [Int.pow_zero]; omega, by rw [Int.pow_zero, Int.pow_zero]; omega⟩
  | k + 1 => by
    obtain ⟨a, b⟩ := pw3 h1 h3 k
    have e1 := Int.mul_le_mul a h1 (by omega) (by omega)
    have e2 := Int.mul_le_mul b h3 (by omega) (by omega)
    rw [Int.pow_succ, Int.pow_succ]
    omega
theorem pw18 {k : Nat} (h : k ≤ 18) : (3 : Int) ^ k ≤ 387420489 := by
  have h2 : ∀ j : Fin 19, (3 : Int) ^ j.val ≤ 387420489 := by decide
  exact h2 ⟨k, by omega⟩
