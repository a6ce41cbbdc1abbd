set_option maxRecDepth 100000
/-- the row made is kept -/
theorem fm_229_12 {to : Nat} {L : List Nat} {x1 : Int32} {s0 : ps_S} {R : ps_S → Prop} (M0 : mk_M s0 L) (h40 : L.length ≤ 40) (h1 : x1.toInt = to) (ht : to + 41 ≤ 27400) (k : ∀ s', mv_W s' to L → kq [1134] [] s0 s' → mv_po to s0 s' → R s') : ∀ (n : Nat) {s : ps_S} {x2 : Int32} {i : Nat}, x2.toInt = i → i ≤ L.length → (ps_a s 1134 to).toInt = L.length → (∀ j c, j < i → L[j]? = some c → (ps_a s 1134 (to + 1 + j)).toInt = c) → kq [1134] [] s0 s → mv_po to s0 s → pl_At n 229 12 [(0, .ref 1131), (1, .int x1), (2, .int x2)] [] s (ps_rV R)
  | 0, _, _, _, _, _, _, _, _, _ => pl_At_0
  | n + 1, s, x2, i, h2, hi, hsz, hj, K, P => by
    have M := mk_M_kq M0 K (by decide) (by decide)
    have m1 := M.1
    refine pl_229_12 ⟨fun z => ?_, fun z => ?_⟩
    · have z := xle z
      exact k s ⟨hsz, h40, fun j c hc => hj j c (by have := (List.getElem?_eq_some_iff.mp hc).1; omega) hc⟩ K P
    · have z := xlt z
      obtain ⟨c, hc⟩ : ∃ c, L[i]? = some c := ⟨_, List.getElem?_eq_getElem (by omega)⟩
      have e1 : (x1 + 1).toInt = (to + 1 : Nat) := xj1 h1 (by omega)
      have e2 : (x1 + 1 + x2).toInt = (to + 1 + i : Nat) := by
        rw [xIa (by omega) (by omega), e1, h2]
        omega
      intro b1 b2
      rw [xtn e2, xtn h2]
      refine fm_229_12 M0 h40 h1 ht k n (xj1 h2 (by omega)) (by omega) ?_ (fun j c2 hj2 hc2 => ?_) (kqa K rfl) (fun q hq => ?_)
      · rw [ps_a_ua, if_neg (by omega)]
        exact hsz
      · rw [ps_a_ua]
        by_cases e : j = i
        · subst e
          rw [if_pos ⟨rfl, rfl⟩]
          exact M.2 j c2 (by omega) hc2
        · rw [if_neg (by omega)]
          exact hj j c2 (by omega) hc2
      · rw [ps_a_ua, if_neg (by omega)]
        exact P q hq
