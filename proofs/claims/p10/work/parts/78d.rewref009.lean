set_option maxRecDepth 100000
theorem fm_226 {n to a b : Nat} {l L : List Nat} {x1 x2 x3 : Int32} {s : ps_S} {R : ps_S → Prop} (h1 : x1.toInt = to) (ht : to < 27400) (W : mv_W s to l) (M : mk_M s L) (h2 : x2.toInt = a) (h3 : x3.toInt = b) (hb : b ≤ l.length) (hL : L.length < 50000) (k : ∀ s', mk_M s' (L ++ (l.drop a).take (b - a)) → kq [1149] [34] s s' → R s') : pl_Cl n 226 [.ref 1131, .int x1, .int x2, .int x3] s (ps_rV R) := by
  cases n with
  | zero => exact pl_At_0
  | succ n =>
  show pl_At (n + 1) 226 0 [(0, .ref 1131), (1, .int x1), (2, .int x2), (3, .int x3)] [] s (ps_rV R)
  refine pl_226_0 (fm_226_3 h1 ht W h3 hb hL k n h2 (Nat.le_refl _) (Or.inr rfl) ?_ kq_refl)
  rw [Nat.sub_self, List.take_zero, List.append_nil]
  exact M
