set_option maxRecDepth 100000
theorem fm_226_3 {to a b : Nat} {l L : List Nat} {x1 x3 : Int32} {s0 : ps_S} {R : ps_S → Prop} (h1 : x1.toInt = to) (ht : to < 27400) (W0 : mv_W s0 to l) (h3 : x3.toInt = b) (hb : b ≤ l.length) (hL : L.length < 50000) (k : ∀ s', mk_M s' (L ++ (l.drop a).take (b - a)) → kq [1149] [34] s0 s' → R s') : ∀ (n : Nat) {s : ps_S} {x4 : Int32} {i : Nat}, x4.toInt = i → a ≤ i → (i ≤ b ∨ i = a) → mk_M s (L ++ (l.drop a).take (i - a)) → kq [1149] [34] s0 s → pl_At n 226 3 [(0, .ref 1131), (1, .int x1), (3, .int x3), (4, .int x4)] [] s (ps_rV R)
  | 0, _, _, _, _, _, _, _, _ => pl_At_0
  | n + 1, s, x4, i, h4, hi, hib, M, K => by
    have h40 := W0.2.1
    refine pl_226_3 ⟨fun z => ?_, fun z => ?_⟩
    · have z := xle z
      have e : (l.drop a).take (b - a) = (l.drop a).take (i - a) := by
        rcases hib with y | y
        · rw [show i = b from by omega]
        · rw [show b - a = 0 from by omega, show i - a = 0 from by omega]
      exact k s (by rw [e]; exact M) K
    · have z := xlt z
      obtain ⟨c, hc⟩ : ∃ c, l[i]? = some c := ⟨_, List.getElem?_eq_getElem (by omega)⟩
      have W := mv_W_kq W0 K (by decide)
      have hlen : (L ++ (l.drop a).take (i - a)).length < 100000 := by
        rw [List.length_append, List.length_take, List.length_drop]
        omega
      refine fm_220c h1 ht W h4 hc (fun v q => ?_)
      refine fm_225 M q hlen (fun s2 M2 K2 => ?_)
      refine fm_226_3 h1 ht W0 h3 hb hL k n (xj1 h4 (by omega)) (by omega) (Or.inl (by omega)) ?_ (kqt K K2 (by decide) (by decide))
      have e : (l.drop a).take (i + 1 - a) = (l.drop a).take (i - a) ++ [c] := by
        rw [show i + 1 - a = (i - a) + 1 from by omega, List.take_succ, List.getElem?_drop, show a + (i - a) = i from by omega, hc]
        rfl
      rw [e, ← List.append_assoc]
      exact M2
