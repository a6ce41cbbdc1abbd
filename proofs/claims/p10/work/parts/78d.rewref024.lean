set_option maxRecDepth 100000
/-- how long a row that is made can be -/
theorem rw_r_len {B : Nat → Option (List Nat)} (hB : ∀ k U, B k = some U → U.length ≤ 40) : ∀ {t : List Nat}, (rw_r B t).length ≤ 40 * t.length
  | [] => Nat.zero_le _
  | c :: t => by
    have ih := rw_r_len hB (t := t)
    show ((if 40 ≤ c then (B (c - 40)).getD [] else [c]) ++ rw_r B t).length ≤ _
    rw [List.length_append, List.length_cons]
    have : (if 40 ≤ c then (B (c - 40)).getD [] else [c]).length ≤ 40 := by
      split
      · cases e : B (c - 40) with
        | none => exact Nat.zero_le _
        | some U => exact hB _ U e
      · exact (by decide : 1 ≤ 40)
    omega

def KW8 (s0 s : ps_S) : Prop := kq [1134, 1149, 1150, 1151, 1167, 1168] [34, 63, 64, 65] s0 s ∧ mv_po 25789 s0 s
