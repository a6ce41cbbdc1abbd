set_option maxRecDepth 100000
theorem bnF_le : ∀ {F : List (Nat × Bool)}, bnF F ≤ F.length
  | [] => Nat.le_refl _
  | (k, b) :: F => by
    have := bnF_le (F := F)
    show (if b = true then 1 else 0) + bnF F ≤ F.length + 1
    cases b
    · rw [if_neg (by decide)]; omega
    · rw [if_pos rfl]; omega

def KL (s0 s : ps_S) : Prop := kq [1150, 1151] [] s0 s

theorem of_m1 : (Int32.ofInt (-1)).toInt = -1 := by decide
