set_option maxRecDepth 100000
/-! the reference: equals replaced -/
-- ProofBenchModel.isReplaced(III)Z
theorem pl_260_0 {n : Nat} {x1 : Int32} {x2 : Int32} {x3 : Int32} {s : ps_S} {Q : Option Value → ps_S → Prop} (h :
  pl_Cl n 221 [.ref 1131, .int x1, .int 1] s (ps_rI (fun v1 s1 =>
    pl_At n 260 14 [(0, .ref 1131), (1, .int x1), (2, .int x2), (3, .int x3), (4, .int v1), (5, .int 0), (6, .int 0)] [] s1 Q))) : pl_At (n + 1) 260 0 [(0, .ref 1131), (1, .int x1), (2, .int x2), (3, .int x3)] [] s Q :=
  pl_wp_at (stops := [(14, [0, 1, 2, 3, 4, 5, 6]), (66, [0, 1, 2, 3, 4, 5, 6]), (111, [0, 1, 2, 3, 4, 5, 6, 7]), (162, [0, 1, 2, 3, 4, 5, 6]), (190, [0, 2, 3, 5, 6])]) (f := 11) h rfl

theorem pl_260_14 {n : Nat} {x1 : Int32} {x2 : Int32} {x3 : Int32} {x4 : Int32} {x5 : Int32} {x6 : Int32} {s : ps_S} {Q : Option Value → ps_S → Prop} (h :
  pl_Cl n 219 [.ref 1131, .int x2] s (ps_rI (fun v1 s1 =>
    (v1 ≤ x5 →
      pl_At n 260 190 [(0, .ref 1131), (2, .int x2), (3, .int x3), (5, .int x5), (6, .int x6)] [] s1 Q) ∧
    (x5 < v1 →
      pl_Cl n 219 [.ref 1131, .int x3] s1 (ps_rI (fun v2 s2 =>
        (v2 ≤ x6 →
          pl_At n 260 190 [(0, .ref 1131), (2, .int x2), (3, .int x3), (5, .int x5), (6, .int x6)] [] s2 Q) ∧
        (x6 < v2 →
          pl_Cl n 220 [.ref 1131, .int x2, .int x5] s2 (ps_rI (fun v3 s3 =>
            (v3 < 20 →
              pl_At n 260 66 [(0, .ref 1131), (1, .int x1), (2, .int x2), (3, .int x3), (4, .int x4), (5, .int x5), (6, .int x6)] [] s3 Q) ∧
            (20 ≤ v3 →
              pl_Cl n 259 [.ref 1131, .int x1, .int 1, .int (x4 - 1), .int x2, .int x5] s3 (ps_rI (fun v4 s4 =>
                (v4 = 0 →
                  pl_At n 260 66 [(0, .ref 1131), (1, .int x1), (2, .int x2), (3, .int x3), (4, .int x4), (5, .int x5), (6, .int x6)] [] s4 Q) ∧
                (v4 ≠ 0 →
                  ((1 : Int32) = 0 →
                    pl_At n 260 111 [(0, .ref 1131), (1, .int x1), (2, .int x2), (3, .int x3), (4, .int x4), (5, .int x5), (6, .int x6), (7, .int 1)] [] s4 Q) ∧
                  ((1 : Int32) ≠ 0 →
                    pl_Cl n 259 [.ref 1131, .int x1, .int 1, .int (x4 - 1), .int x3, .int x6] s4 (ps_rI (fun v5 s5 =>
                      (v5 = 0 →
                        pl_At n 260 111 [(0, .ref 1131), (1, .int x1), (2, .int x2), (3, .int x3), (4, .int x4), (5, .int x5), (6, .int x6), (7, .int 1)] [] s5 Q) ∧
                      (v5 ≠ 0 →
                        pl_At n 260 14 [(0, .ref 1131), (1, .int x1), (2, .int x2), (3, .int x3), (4, .int x4), (5, .int (x5 + (x4 - 1))), (6, .int (x6 + (x4 - 1)))] [] s5 Q))))))))))))))))) : pl_At (n + 1) 260 14 [(0, .ref 1131), (1, .int x1), (2, .int x2), (3, .int x3), (4, .int x4), (5, .int x5), (6, .int x6)] [] s Q :=
  pl_wp_at (stops := [(14, [0, 1, 2, 3, 4, 5, 6]), (66, [0, 1, 2, 3, 4, 5, 6]), (111, [0, 1, 2, 3, 4, 5, 6, 7]), (162, [0, 1, 2, 3, 4, 5, 6]), (190, [0, 2, 3, 5, 6])]) (f := 57) h rfl

theorem pl_260_66 {n : Nat} {x1 : Int32} {x2 : Int32} {x3 : Int32} {x4 : Int32} {x5 : Int32} {x6 : Int32} {s : ps_S} {Q : Option Value → ps_S → Prop} (h :
  ((0 : Int32) = 0 →
    pl_At n 260 111 [(0, .ref 1131), (1, .int x1), (2, .int x2), (3, .int x3), (4, .int x4), (5, .int x5), (6, .int x6), (7, .int 0)] [] s Q) ∧
  ((0 : Int32) ≠ 0 →
    pl_Cl n 259 [.ref 1131, .int x1, .int 1, .int (x4 - 1), .int x3, .int x6] s (ps_rI (fun v1 s1 =>
      (v1 = 0 →
        pl_At n 260 111 [(0, .ref 1131), (1, .int x1), (2, .int x2), (3, .int x3), (4, .int x4), (5, .int x5), (6, .int x6), (7, .int 0)] [] s1 Q) ∧
      (v1 ≠ 0 →
        pl_At n 260 14 [(0, .ref 1131), (1, .int x1), (2, .int x2), (3, .int x3), (4, .int x4), (5, .int (x5 + (x4 - 1))), (6, .int (x6 + (x4 - 1)))] [] s1 Q))))) : pl_At (n + 1) 260 66 [(0, .ref 1131), (1, .int x1), (2, .int x2), (3, .int x3), (4, .int x4), (5, .int x5), (6, .int x6)] [] s Q :=
  pl_wp_at (stops := [(14, [0, 1, 2, 3, 4, 5, 6]), (66, [0, 1, 2, 3, 4, 5, 6]), (111, [0, 1, 2, 3, 4, 5, 6, 7]), (162, [0, 1, 2, 3, 4, 5, 6]), (190, [0, 2, 3, 5, 6])]) (f := 30) h rfl

theorem pl_260_111 {n : Nat} {x1 : Int32} {x2 : Int32} {x3 : Int32} {x4 : Int32} {x5 : Int32} {x6 : Int32} {x7 : Int32} {s : ps_S} {Q : Option Value → ps_S → Prop} (h :
  (x7 = 0 →
    pl_At n 260 162 [(0, .ref 1131), (1, .int x1), (2, .int x2), (3, .int x3), (4, .int x4), (5, .int x5), (6, .int x6)] [] s Q) ∧
  (x7 ≠ 0 →
    pl_Cl n 219 [.ref 1131, .int x1] s (ps_rI (fun v1 s1 =>
      pl_Cl n 259 [.ref 1131, .int x1, .int x4, .int (v1 - x4), .int x3, .int x6] s1 (ps_rI (fun v2 s2 =>
        (v2 = 0 →
          pl_At n 260 162 [(0, .ref 1131), (1, .int x1), (2, .int x2), (3, .int x3), (4, .int x4), (5, .int x5), (6, .int x6)] [] s2 Q) ∧
        (v2 ≠ 0 →
          pl_Cl n 219 [.ref 1131, .int x1] s2 (ps_rI (fun v3 s3 =>
            pl_At n 260 14 [(0, .ref 1131), (1, .int x1), (2, .int x2), (3, .int x3), (4, .int x4), (5, .int (x5 + (x4 - 1))), (6, .int (x6 + (v3 - x4)))] [] s3 Q))))))))) : pl_At (n + 1) 260 111 [(0, .ref 1131), (1, .int x1), (2, .int x2), (3, .int x3), (4, .int x4), (5, .int x5), (6, .int x6), (7, .int x7)] [] s Q :=
  pl_wp_at (stops := [(14, [0, 1, 2, 3, 4, 5, 6]), (66, [0, 1, 2, 3, 4, 5, 6]), (111, [0, 1, 2, 3, 4, 5, 6, 7]), (162, [0, 1, 2, 3, 4, 5, 6]), (190, [0, 2, 3, 5, 6])]) (f := 32) h rfl

theorem pl_260_162 {n : Nat} {x1 : Int32} {x2 : Int32} {x3 : Int32} {x4 : Int32} {x5 : Int32} {x6 : Int32} {s : ps_S} {Q : Option Value → ps_S → Prop} (h :
  pl_Cl n 220 [.ref 1131, .int x2, .int x5] s (ps_rI (fun v1 s1 =>
    pl_Cl n 220 [.ref 1131, .int x3, .int x6] s1 (ps_rI (fun v2 s2 =>
      (v1 = v2 →
        pl_At n 260 14 [(0, .ref 1131), (1, .int x1), (2, .int x2), (3, .int x3), (4, .int x4), (5, .int (x5 + 1)), (6, .int (x6 + 1))] [] s2 Q) ∧
      (v1 ≠ v2 →
        Q (some (.int 0)) s2)))))) : pl_At (n + 1) 260 162 [(0, .ref 1131), (1, .int x1), (2, .int x2), (3, .int x3), (4, .int x4), (5, .int x5), (6, .int x6)] [] s Q :=
  pl_wp_at (stops := [(14, [0, 1, 2, 3, 4, 5, 6]), (66, [0, 1, 2, 3, 4, 5, 6]), (111, [0, 1, 2, 3, 4, 5, 6, 7]), (162, [0, 1, 2, 3, 4, 5, 6]), (190, [0, 2, 3, 5, 6])]) (f := 16) h rfl

theorem pl_260_190 {n : Nat} {x2 : Int32} {x3 : Int32} {x5 : Int32} {x6 : Int32} {s : ps_S} {Q : Option Value → ps_S → Prop} (h :
  pl_Cl n 219 [.ref 1131, .int x2] s (ps_rI (fun v1 s1 =>
    (x5 ≠ v1 →
      Q (some (.int 0)) s1) ∧
    (x5 = v1 →
      pl_Cl n 219 [.ref 1131, .int x3] s1 (ps_rI (fun v2 s2 =>
        (x6 ≠ v2 →
          Q (some (.int 0)) s2) ∧
        (x6 = v2 →
          Q (some (.int 1)) s2))))))) : pl_At (n + 1) 260 190 [(0, .ref 1131), (2, .int x2), (3, .int x3), (5, .int x5), (6, .int x6)] [] s Q :=
  pl_wp_at (stops := [(14, [0, 1, 2, 3, 4, 5, 6]), (66, [0, 1, 2, 3, 4, 5, 6]), (111, [0, 1, 2, 3, 4, 5, 6, 7]), (162, [0, 1, 2, 3, 4, 5, 6]), (190, [0, 2, 3, 5, 6])]) (f := 19) h rfl

section RPL
variable {s t : List Nat}
theorem tq_rp_fuel (hs : 1 ≤ s.length) : ∀ {n m : Nat} {b f : List Nat}, b.length ≤ n → b.length ≤ m → tq_rp s t n b f → tq_rp s t m b f
  | 0, 0, _, _, _, _, q => q
  | 0, _ + 1, _, _, _, _, q => Or.inl q
  | _ + 1, 0, b, _, _, h', q => by
    rcases q with q | ⟨q, -⟩
    · exact q
    · cases b with
      | nil => exact absurd rfl q
      | cons c b => rw [List.length_cons] at h'; omega
  | n + 1, m + 1, b, f, h, h', q => by
    rcases q with q | ⟨q1, q2, q3⟩
    · exact Or.inl q
    · have hb : 1 ≤ b.length := by
        cases b with
        | nil => exact absurd rfl q1
        | cons c b => rw [List.length_cons]; omega
      refine Or.inr ⟨q1, q2, ?_⟩
      rcases q3 with ⟨a1, a2, a3⟩ | ⟨a1, a2, a3⟩
      · exact Or.inl ⟨a1, a2, tq_rp_fuel hs (by rw [List.length_drop]; omega) (by rw [List.length_drop]; omega) a3⟩
      · exact Or.inr ⟨a1, a2, tq_rp_fuel hs (by rw [List.length_drop]; omega) (by rw [List.length_drop]; omega) a3⟩
theorem tq_rp_end {n : Nat} {b f : List Nat} (h : b = [] ∨ f = []) : tq_rp s t n b f ↔ b = [] ∧ f = [] := by
  cases n with
  | zero => exact Iff.rfl
  | succ n =>
    constructor
    · intro q
      rcases q with q | ⟨q1, q2, -⟩
      · exact q
      · rcases h with h | h
        · exact absurd h q1
        · exact absurd h q2
    · exact Or.inl
theorem tq_rp_one (hs : 1 ≤ s.length) {b f : List Nat} (h40 : b.length ≤ 40) (hb : b ≠ []) (hf : f ≠ []) (hh : b.head? = f.head?) (hn : ¬ (b.take s.length = s ∧ f.take t.length = t)) : tq_rp s t 40 b f ↔ tq_rp s t 40 (b.drop 1) (f.drop 1) := by
  have hl : 1 ≤ b.length := by
    cases b with
    | nil => exact absurd rfl hb
    | cons c b => rw [List.length_cons]; omega
  constructor
  · intro q
    have q : tq_rp s t (39 + 1) b f := q
    rcases q with q | ⟨-, -, q⟩
    · exact absurd q.1 hb
    · rcases q with ⟨a1, a2, -⟩ | ⟨-, -, a3⟩
      · exact absurd ⟨a1, a2⟩ hn
      · exact tq_rp_fuel (n := 39) (m := 40) hs (by rw [List.length_drop]; omega) (by rw [List.length_drop]; omega) a3
  · intro q
    show tq_rp s t (39 + 1) b f
    exact Or.inr ⟨hb, hf, Or.inr ⟨hn, hh, tq_rp_fuel (n := 40) (m := 39) hs (by rw [List.length_drop]; omega) (by rw [List.length_drop]; omega) q⟩⟩
theorem tq_rp_ne {b f : List Nat} (hb : b ≠ []) (hh : b.head? ≠ f.head?) (hn : ¬ (b.take s.length = s ∧ f.take t.length = t)) : ¬ tq_rp s t 40 b f := fun q => by
  have q : tq_rp s t (39 + 1) b f := q
  rcases q with q | ⟨-, -, q⟩
  · exact absurd q.1 hb
  · rcases q with ⟨a1, a2, -⟩ | ⟨-, a2, -⟩
    · exact hn ⟨a1, a2⟩
    · exact hh a2
theorem tq_rp_two (hs : 1 ≤ s.length) {b f : List Nat} (h40 : b.length ≤ 40) (hb : b ≠ []) (hf : f ≠ []) (h1 : b.take s.length = s) (h2 : f.take t.length = t) : tq_rp s t 40 b f ↔ tq_rp s t 40 (b.drop s.length) (f.drop t.length) := by
  constructor
  · intro q
    have q : tq_rp s t (39 + 1) b f := q
    rcases q with q | ⟨-, -, q⟩
    · exact absurd q.1 hb
    · rcases q with ⟨-, -, a3⟩ | ⟨a1, -, -⟩
      · exact tq_rp_fuel (n := 39) (m := 40) hs (by rw [List.length_drop]; omega) (by rw [List.length_drop]; omega) a3
      · exact absurd ⟨h1, h2⟩ a1
  · intro q
    show tq_rp s t (39 + 1) b f
    exact Or.inr ⟨hb, hf, Or.inl ⟨h1, h2, tq_rp_fuel (n := 40) (m := 39) hs (by rw [List.length_drop]; omega) (by rw [List.length_drop]; omega) q⟩⟩
end RPL
theorem en_app1 {σ : mSig} {ar : Nat → Nat} (hA : ArW σ ar) {l r : List Nat} {W : List Bool} (h : ws σ l W) (hW : 1 ≤ W.length) : en ar (l ++ r) 1 = en ar l 1 := by
  cases W with
  | nil => exact absurd hW (by decide)
  | cons b W =>
    have g2 : ws σ (l.take (en ar l 1)) [b] := (en_rest hA (k := 1) h hW).2
    have e := en_p1 hA (r := l.drop (en ar l 1) ++ r) g2
    rw [← List.append_assoc, List.take_append_drop] at e
    rw [e, List.length_take]
    have := en_le hA (k := 1) h hW
    omega
/-- no row of one term begins with another -/
theorem ws_pre {σ : mSig} {ar : Nat → Nat} (hA : ArW σ ar) {s t f : List Nat} {a b : Bool} (hs : ws σ s [a]) (ht : ws σ t [b]) (h1 : f.take s.length = s) (h2 : f.take t.length = t) : s = t := by
  have e1 := en_p1 hA (r := f.drop s.length) hs
  have e2 := en_p1 hA (r := f.drop t.length) ht
  have d1 : s ++ f.drop s.length = f := by
    conv => lhs; lhs; rw [← h1]
    exact List.take_append_drop _ _
  have d2 : t ++ f.drop t.length = f := by
    conv => lhs; lhs; rw [← h2]
    exact List.take_append_drop _ _
  rw [d1] at e1
  rw [d2] at e2
  rw [← h1, ← h2, ← e1, ← e2]
theorem tq_rp_skip {σ : mSig} {ar : Nat → Nat} (hA : ArW σ ar) {s t : List Nat} (hs : ws σ s [false]) (ht : ws σ t [false]) {b f : List Nat} (h40 : b.length ≤ 40) (hb : b.take s.length = s) (hf : f.take s.length = s) : tq_rp s t 40 b f ↔ tq_rp s t 40 (b.drop s.length) (f.drop s.length) := by
  obtain ⟨c0, s0, es⟩ := ws_ne hs
  have hs1 : 1 ≤ s.length := by rw [es, List.length_cons]; omega
  have lb : s.length ≤ b.length := by
    have := congrArg List.length hb
    rw [List.length_take] at this
    omega
  have lf : s.length ≤ f.length := by
    have := congrArg List.length hf
    rw [List.length_take] at this
    omega
  have ne : ∀ {l : List Nat} {k : Nat}, k < l.length → l.drop k ≠ [] := fun {l k} h z => by
    have := congrArg List.length z
    rw [List.length_drop] at this
    have e0 : ([] : List Nat).length = 0 := rfl
    omega
  by_cases hne : s = t
  · subst hne
    have b0 := ne (l := b) (k := 0) (by omega)
    have f0 := ne (l := f) (k := 0) (by omega)
    rw [List.drop_zero] at b0 f0
    exact tq_rp_two hs1 h40 b0 f0 hb hf
  · have key : ∀ k, k ≤ s.length → (tq_rp s t 40 b f ↔ tq_rp s t 40 (b.drop k) (f.drop k)) := by
      intro k
      induction k with
      | zero =>
        intro _
        rw [List.drop_zero, List.drop_zero]
      | succ k ih =>
        intro hk
        refine (ih (by omega)).trans ?_
        have hsk : k < s.length := hk
        obtain ⟨c, hc⟩ : ∃ c, s[k]? = some c := ⟨_, List.getElem?_eq_getElem hsk⟩
        have gb : b[k]? = some c := by
          rw [← hb, List.getElem?_take, if_pos hsk] at hc
          exact hc
        have gf : f[k]? = some c := by
          rw [← hf, List.getElem?_take, if_pos hsk] at hc
          exact hc
        have st := tq_rp_one (t := t) hs1 (b := b.drop k) (f := f.drop k) (by rw [List.length_drop]; omega) (ne (by omega)) (ne (by omega)) (by rw [drop_g gb, drop_g gf]; rfl) (fun z => ?_)
        · rw [List.drop_drop, List.drop_drop] at st
          exact st
        · obtain ⟨z1, z2⟩ := z
          rcases Nat.eq_zero_or_pos k with k0 | k0
          · rw [k0, List.drop_zero] at z2
            exact hne (ws_pre hA hs ht hf z2)
          · obtain ⟨W', hW⟩ := ws_drop k hs
            have hc' := drop_g hc
            rw [hc'] at hW
            obtain ⟨bb, W2, ks, e, -, -⟩ := ws_cons.mp hW
            rw [← hc'] at hW
            have q1 := en_app1 hA (r := b.drop s.length) hW (by rw [e, List.length_cons]; omega)
            have q2 := en_le hA (k := 1) hW (by rw [e, List.length_cons]; omega)
            rw [List.length_drop] at q2
            have d1 : s.drop k ++ b.drop s.length = b.drop k := by
              have d0 : s ++ b.drop s.length = b := by
                conv => lhs; lhs; rw [← hb]
                exact List.take_append_drop _ _
              conv => rhs; rw [← d0]
              rw [List.drop_append_of_le_length (by omega)]
            have d2 : s ++ (b.drop k).drop s.length = b.drop k := by
              conv => lhs; lhs; rw [← z1]
              exact List.take_append_drop _ _
            have q3 := en_p1 hA (r := (b.drop k).drop s.length) hs
            rw [d2] at q3
            rw [d1] at q1
            omega
    exact key s.length (Nat.le_refl _)
section RP
variable {ta tb tf bk : Nat} {g : tx_g} {u v lb lf : List Nat} {x1 x2 x3 x4 : Int32} {s : ps_S} {R : Int32 → ps_S → Prop}
theorem fm_260_14 (hA : ArW (sg g) (arh g)) (hu : ws (sg g) u [false]) (hv : ws (sg g) v [false]) (h1 : x1.toInt = ta) (hta : ta < 27400) (Wa : mv_W s ta (6 :: (u ++ v))) (h2 : x2.toInt = tb) (htb : tb < 27400) (Wb : mv_W s tb lb) (h3 : x3.toInt = tf) (htf : tf < 27400) (Wf : mv_W s tf lf) (h4 : x4.toInt = (1 + u.length : Nat)) (k1 : tq_rp u v 40 lb lf → R 1 s) (k0 : ¬ tq_rp u v 40 lb lf → R 0 s) : ∀ (n : Nat) {x5 x6 : Int32} {i j : Nat}, x5.toInt = i → x6.toInt = j → i ≤ lb.length → j ≤ lf.length → (tq_rp u v 40 lb lf ↔ tq_rp u v 40 (lb.drop i) (lf.drop j)) → pl_At n 260 14 [(0, .ref 1131), (1, .int x1), (2, .int x2), (3, .int x3), (4, .int x4), (5, .int x5), (6, .int x6)] [] s (ps_rI R)
  | 0, _, _, _, _, _, _, _, _, _ => pl_At_0
  | n + 1, x5, x6, i, j, h5, h6, hi, hj, hrp => by
    have b40 := Wb.2.1
    have f40 := Wf.2.1
    have a40 := Wa.2.1
    have c1 : (1 : Int32).toInt = 1 := by decide
    have c20 : (20 : Int32).toInt = 20 := by decide
    have la : (6 :: (u ++ v)).length = 1 + u.length + v.length := by
      rw [List.length_cons, List.length_append]
      omega
    rw [la] at a40
    obtain ⟨cu, u0, eu⟩ := ws_ne hu
    have hu1 : 1 ≤ u.length := by rw [eu, List.length_cons]; omega
    have e4 : (x4 - 1).toInt = (u.length : Nat) := by rw [xIs (by omega) (by omega), h4, c1]; omega
    have ea1 : ((6 :: (u ++ v)).drop 1).take u.length = u := by
      show (u ++ v).take u.length = u
      rw [List.take_append_of_le_length (Nat.le_refl _), List.take_length]
    have ea2 : ((6 :: (u ++ v)).drop (1 + u.length)).take v.length = v := by
      rw [Nat.add_comm]
      show ((u ++ v).drop u.length).take v.length = v
      rw [List.drop_append_of_le_length (Nat.le_refl _), List.drop_length, List.nil_append, List.take_length]
    have at190 : (lb.length ≤ i ∨ lf.length ≤ j) → ∀ {n' : Nat}, pl_At n' 260 190 [(0, .ref 1131), (2, .int x2), (3, .int x3), (5, .int x5), (6, .int x6)] [] s (ps_rI R) := fun hh {n'} => by
      cases n' with
      | zero => exact pl_At_0
      | succ n' =>
      have e : tq_rp u v 40 lb lf ↔ (lb.length ≤ i ∧ lf.length ≤ j) := by
        refine hrp.trans ((tq_rp_end ?_).trans ?_)
        · exact hh.imp (fun z => List.drop_eq_nil_of_le z) (fun z => List.drop_eq_nil_of_le z)
        · rw [List.drop_eq_nil_iff, List.drop_eq_nil_iff]
      refine pl_260_190 (fm_219c h2 Wb (fun v1 q1 => ⟨fun z => k0 (fun w => ?_), fun z => fm_219c h3 Wf (fun v2 q2 => ⟨fun z2 => k0 (fun w => ?_), fun z2 => k1 (e.mpr ?_)⟩)⟩))
      · have z := xne z
        have := e.mp w
        omega
      · have z2 := xne z2
        have := e.mp w
        omega
      · have z := xeq z
        have z2 := xeq z2
        omega
    refine pl_260_14 (fm_219c h2 Wb (fun v1 q1 => ⟨fun z => at190 (Or.inl ?_), fun z => fm_219c h3 Wf (fun v2 q2 => ⟨fun z2 => at190 (Or.inr ?_), fun z2 => ?_⟩)⟩))
    · have z := xle z
      omega
    · have z2 := xle z2
      omega
    have z := xlt z
    have z2 := xlt z2
    obtain ⟨c, hc⟩ : ∃ c, lb[i]? = some c := ⟨_, List.getElem?_eq_getElem (by omega)⟩
    obtain ⟨d, hd⟩ : ∃ d, lf[j]? = some d := ⟨_, List.getElem?_eq_getElem (by omega)⟩
    have hb0 : lb.drop i ≠ [] := fun w => by rw [drop_g hc] at w; cases w
    have hf0 : lf.drop j ≠ [] := fun w => by rw [drop_g hd] at w; cases w
    have bl : (lb.drop i).length ≤ 40 := by rw [List.length_drop]; omega
    have at162 : ¬ ((lb.drop i).take u.length = u ∧ (lf.drop j).take v.length = v) → ∀ {n' : Nat}, n' ≤ n → pl_At n' 260 162 [(0, .ref 1131), (1, .int x1), (2, .int x2), (3, .int x3), (4, .int x4), (5, .int x5), (6, .int x6)] [] s (ps_rI R) := fun hn {n'} hn' => by
      cases n' with
      | zero => exact pl_At_0
      | succ n' =>
      refine pl_260_162 (fm_220c h2 htb Wb h5 hc (fun v3 q3 => fm_220c h3 htf Wf h6 hd (fun v4 q4 => ⟨fun y => ?_, fun y => k0 (fun w => ?_)⟩)))
      · have y := xeq y
        have e : c = d := by omega
        have st := tq_rp_one (t := v) hu1 bl hb0 hf0 (by rw [drop_g hc, drop_g hd, e]; rfl) hn
        rw [List.drop_drop, List.drop_drop] at st
        exact (fm_260_14 hA hu hv h1 hta Wa h2 htb Wb h3 htf Wf h4 k1 k0 n (xj1 h5 (by omega)) (xj1 h6 (by omega)) (by omega) (by omega) (hrp.trans st)).le (by omega)
      · have y := xne y
        refine tq_rp_ne (t := v) hb0 (fun e => ?_) hn (hrp.mp w)
        rw [drop_g hc, drop_g hd] at e
        have e : some c = some d := e
        cases e
        exact y (by rw [q3, q4])
    have at111 : ¬ (lb.drop i).take u.length = u → ∀ {n' : Nat}, n' ≤ n → pl_At n' 260 66 [(0, .ref 1131), (1, .int x1), (2, .int x2), (3, .int x3), (4, .int x4), (5, .int x5), (6, .int x6)] [] s (ps_rI R) := fun hn {n'} hn' => by
      cases n' with
      | zero => exact pl_At_0
      | succ n' =>
      refine pl_260_66 ⟨fun _ => ?_, fun y => absurd rfl y⟩
      cases n' with
      | zero => exact pl_At_0
      | succ n' =>
      exact pl_260_111 ⟨fun _ => at162 (fun w => hn w.1) (by omega), fun y => absurd rfl y⟩
    refine fm_220c h2 htb Wb h5 hc (fun v3 q3 => ⟨fun y => at111 (fun w => ?_) (Nat.le_refl _), fun y => ?_⟩)
    · have y := xlt y
      rw [drop_g hc, eu] at w
      have e : c = cu := (List.cons.inj w).1
      rw [eu] at hu
      obtain ⟨bb, W', ks, e2, hk, -⟩ := ws_cons.mp hu
      cases e2
      rcases kS_cases hk with y2 | y2 | y2 | y2 | y2 | y2 | y2
      · cases y2.1
      · cases y2.1
      · cases y2.1
      · cases y2.1
      · cases y2.1
      · omega
      · omega
    · refine fm_259 (f := 1) (m := u.length) (p := i) h1 hta Wa h2 htb Wb rfl e4 h5 (by omega) (by omega) (fun e => ⟨fun w => absurd w (by decide), fun _ => ⟨fun w => absurd w (by decide), fun _ => ?_⟩⟩) (fun e => ⟨fun _ => at111 (fun w => e (ea1.trans w.symm)) (Nat.le_refl _), fun w => absurd rfl w⟩)
      have eb : (lb.drop i).take u.length = u := e.symm.trans ea1
      have lub : u.length ≤ (lb.drop i).length := by
        have := congrArg List.length eb
        rw [List.length_take] at this
        omega
      rw [List.length_drop] at lub
      have e5 : (x5 + (x4 - 1)).toInt = (i + u.length : Nat) := by rw [xIa (by omega) (by omega), h5, e4]; omega
      refine fm_259 (f := 1) (m := u.length) (p := j) h1 hta Wa h3 htf Wf rfl e4 h6 (by omega) (by omega) (fun e2 => ⟨fun w => absurd w (by decide), fun _ => ?_⟩) (fun e2 => ⟨fun _ => ?_, fun w => absurd rfl w⟩)
      · have ef : (lf.drop j).take u.length = u := e2.symm.trans ea1
        have luf : u.length ≤ (lf.drop j).length := by
          have := congrArg List.length ef
          rw [List.length_take] at this
          omega
        rw [List.length_drop] at luf
        have e6 : (x6 + (x4 - 1)).toInt = (j + u.length : Nat) := by rw [xIa (by omega) (by omega), h6, e4]; omega
        have st := tq_rp_skip hA hu hv bl eb ef
        rw [List.drop_drop, List.drop_drop] at st
        exact fm_260_14 hA hu hv h1 hta Wa h2 htb Wb h3 htf Wf h4 k1 k0 n e5 e6 (by omega) (by omega) (hrp.trans st)
      · cases n with
        | zero => exact pl_At_0
        | succ n =>
        refine pl_260_111 ⟨fun w => absurd w (by decide), fun _ => fm_219c h1 Wa (fun v4 q4 => ?_)⟩
        rw [la] at q4
        have e7 : (v4 - x4).toInt = (v.length : Nat) := by rw [xIs (by omega) (by omega), q4, h4]; omega
        refine fm_259 (f := 1 + u.length) (m := v.length) (p := j) h1 hta Wa h3 htf Wf h4 e7 h6 (by rw [la]; omega) (by omega) (fun e3 => ⟨fun w => absurd w (by decide), fun _ => fm_219c h1 Wa (fun v5 q5 => ?_)⟩) (fun e3 => ⟨fun _ => at162 (fun w => e3 (ea2.trans w.2.symm)) (Nat.le_succ _), fun w => absurd rfl w⟩)
        rw [la] at q5
        have ef : (lf.drop j).take v.length = v := e3.symm.trans ea2
        have luf : v.length ≤ (lf.drop j).length := by
          have := congrArg List.length ef
          rw [List.length_take] at this
          omega
        rw [List.length_drop] at luf
        have e8 : (v5 - x4).toInt = (v.length : Nat) := by rw [xIs (by omega) (by omega), q5, h4]; omega
        have e6 : (x6 + (v5 - x4)).toInt = (j + v.length : Nat) := by rw [xIa (by omega) (by omega), h6, e8]; omega
        have st := tq_rp_two (t := v) hu1 bl hb0 hf0 eb ef
        rw [List.drop_drop, List.drop_drop] at st
        exact (fm_260_14 hA hu hv h1 hta Wa h2 htb Wb h3 htf Wf h4 k1 k0 (n + 1) e5 e6 (by omega) (by omega) (hrp.trans st)).le (Nat.le_succ _)
theorem fm_260 {n : Nat} (hbk : bk < 2) (h21 : (ps_i s 1131 21).toInt = bk) (H : mv_E s bk g) (hu : ws (sg g) u [false]) (hv : ws (sg g) v [false]) (h1 : x1.toInt = ta) (hta : ta < 27400) (Wa : mv_W s ta (6 :: (u ++ v))) (h2 : x2.toInt = tb) (htb : tb < 27400) (Wb : mv_W s tb lb) (h3 : x3.toInt = tf) (htf : tf < 27400) (Wf : mv_W s tf lf) (k1 : tq_rp u v 40 lb lf → R 1 s) (k0 : ¬ tq_rp u v 40 lb lf → R 0 s) : pl_Cl n 260 [.ref 1131, .int x1, .int x2, .int x3] s (ps_rI R) := by
  cases n with
  | zero => exact pl_At_0
  | succ n =>
  show pl_At (n + 1) 260 0 [(0, .ref 1131), (1, .int x1), (2, .int x2), (3, .int x3)] [] s (ps_rI R)
  have hA := arh_k H.2.2.1 H.2.2.2.1
  refine pl_260_0 (fm_221 (i := 1) hbk h21 H h1 hta Wa rfl (show ws (sg g) (u ++ v) [false, false] from ws_app (W1 := [false]) hu hv) (fun v1 q1 => ?_))
  have e : en (arh g) ((6 :: (u ++ v)).drop 1) 1 = u.length := en_p1 hA hu
  rw [e] at q1
  exact fm_260_14 hA hu hv h1 hta Wa h2 htb Wb h3 htf Wf q1 k1 k0 n (i := 0) (j := 0) rfl rfl (Nat.zero_le _) (Nat.zero_le _) (by rw [List.drop_zero, List.drop_zero])
end RP

