set_option maxRecDepth 100000
section
variable {b : Nat} {h : tx_H} {l r : List Nat} {i : Nat} {s0 : ps_S} {R : Int32 → ps_S → Prop} {x3 : Int32} {lf rt : Nat}
theorem fm_286_12 {x2 : Int32} (k : ∀ n s', BNm s' l (fun _ => none) → KBm s0 s' → pl_At n 286 42 [(0, .ref 1131), (3, .int x3), (4, .int x2), (5, .int (ps_i s0 1131 63))] [] s' (ps_rI R)) : ∀ (n : Nat) {s : ps_S} {x4 : Int32} {j : Nat}, x4.toInt = j → j ≤ 20 → (∀ q, q < j → (ps_a s 1167 q).toInt = -1) → KBm s0 s → pl_At n 286 12 [(0, .ref 1131), (2, .int x2), (3, .int x3), (4, .int x4)] [] s (ps_rI R)
  | 0, _, _, _, _, _, _, _ => pl_At_0
  | n + 1, s, x4, j, h4, hj, hq, K => by
    have c20 : (20 : Int32).toInt = 20 := by decide
    refine pl_286_12 ⟨fun z => ?_, fun z => ?_⟩
    · have z := xle z
      rw [show ps_i s 1131 63 = ps_i s0 1131 63 from kq_i K 63 rfl]
      exact k n s (fun q hq20 => Or.inl ⟨rfl, hq q (by omega)⟩) K
    · have z := xlt z
      intro b1
      rw [xtn h4]
      refine fm_286_12 k n (xj1 h4 (by omega)) (by omega) (fun q hq2 => ?_) (kqa K rfl)
      rw [ps_a_ua]
      by_cases e : q = j
      · rw [if_pos ⟨rfl, e⟩]
        decide
      · rw [if_neg (fun w => e w.2)]
        exact hq q (by omega)

theorem fm_286 {n : Nat} {x1 x2 : Int32} {p : Nat} {W W1 : List Bool} (hb : b < 2) (h21 : (ps_i s0 1131 21).toInt = b) (H0 : mv_E s0 b h.1) (hi8 : i < 8) (W0 : mv_W s0 25789 l) (Wr0 : mv_W s0 (21812 + 41 * (8 * b + i)) r) (h1 : x1.toInt = i) (h2 : x2.toInt = p) (hv : ∀ c, c ∈ r → c < 60) (h63 : (ps_i s0 1131 63).toInt = lf) (h64 : (ps_i s0 1131 64).toInt = rt) (hlr : lf ≤ rt) (hrt : rt ≤ r.length) (hp : p ≤ l.length) (hw : ws (sg h.1) ((r.drop lf).take (rt - lf)) W) (hw1 : ws (sg h.1) (l.drop p) W1) (hle : W.length ≤ W1.length) (k1 : ∀ s', (∃ e B, rw_m (arh h.1) l ((r.drop lf).take (rt - lf)) p (fun _ => none) = some (e, B) ∧ BNm s' l B ∧ (ps_i s' 1131 65).toInt = (e : Nat) ∧ KBm s0 s') → R 1 s') (k0 : ∀ s', (rw_m (arh h.1) l ((r.drop lf).take (rt - lf)) p (fun _ => none) = none ∧ KBm s0 s') → R 0 s') : pl_Cl n 286 [.ref 1131, .int x1, .int x2] s0 (ps_rI R) := by
  cases n with
  | zero => exact pl_At_0
  | succ n =>
  show pl_At (n + 1) 286 0 [(0, .ref 1131), (1, .int x1), (2, .int x2)] [] s0 (ps_rI R)
  refine pl_286_0 ?_
  refine fm_283 h21 hb h1 hi8 (fun v1 q1 => ?_)
  exact fm_286_12 (l := l) (s0 := s0) (fun n s1 bn K => fm_286_42 hb h21 H0 hi8 W0 Wr0 q1 hv h64 hrt (fun s' e B a c d f => k1 s' ⟨e, B, a, c, d, f⟩) (fun s' a c => k0 s' ⟨a, c⟩) n h2 h63 hlr bn K hw hw1 hle hp rfl) n (j := 0) rfl (Nat.zero_le _) (fun q hq => absurd hq (Nat.not_lt_zero _)) kq_refl

end
