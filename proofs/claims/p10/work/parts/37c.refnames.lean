set_option maxRecDepth 100000
/-! the reference's reader: pieces, names, frames -/
theorem tx_opt_n {o : Option Nat} {v : Int32} (h : tx_opt o v) : v.toInt < 0 ↔ o = none := by
  constructor
  · intro z
    cases e : o with
    | none => rfl
    | some c =>
      have := h.1 c e
      omega
  · intro z
    have := h.2 z
    omega
theorem fm_208 {n : Nat} {rb : Nat} {s : ps_S} {T : Nat → Nat} {N : Nat} {E : tx_E} {p : Nat} {R : Int32 → ps_S → Prop} (HS : mv_S rb s T N E) (hp : p ≤ N) (hK : mv_K s (tx_tok T N p)) (k1 : tx_isX E (tx_tok T N p) → R 1 s) (k0 : ¬ tx_isX E (tx_tok T N p) → R 0 s) : pl_Cl n 208 [.ref 1131] s (ps_rI R) := by
  cases n with
  | zero => exact pl_At_0
  | succ n =>
  show pl_At (n + 1) 208 0 [(0, .ref 1131)] [] s (ps_rI R)
  have h9 := hK.1
  refine pl_208_0 ?_
  refine ⟨fun h5 => ?_, fun h5 => ?_⟩
  · have h5 : (ps_i s 1131 9).toInt ≠ (2 : Int) := xne h5
    exact k0 (fun z => by have := z.1; omega)
  · have h5 : (ps_i s 1131 9).toInt = (2 : Int) := xeq h5
    refine fm_206 HS.1 HS.2.1 HS.2.2.2.2 hp hK (fun v9 q9 => ?_)
    refine ⟨fun h12 => ?_, fun h12 => ?_⟩
    · have h12 : (0 : Int) ≤ v9.toInt := xle h12
      refine k0 (fun z => ?_)
      have e := (tx_opt_n q9).mpr (by rw [if_pos z.1]; exact z.2.1)
      omega
    · have h12 : v9.toInt < (0 : Int) := xlt h12
      refine fm_207 HS.1 HS.2.1 HS.2.2.2.2 hp hK (fun v16 q16 => ?_)
      refine ⟨fun h19 => ?_, fun h19 => ?_⟩
      · have h19 : (0 : Int) ≤ v16.toInt := xle h19
        refine k0 (fun z => ?_)
        have e := (tx_opt_n q16).mpr (by rw [if_pos z.1]; exact z.2.2)
        omega
      · have h19 : v16.toInt < (0 : Int) := xlt h19
        have h2 : (tx_tok T N p).1 = 2 := by omega
        have a := (tx_opt_n q9).mp (by omega)
        have b := (tx_opt_n q16).mp (by omega)
        rw [if_pos h2] at a b
        exact k1 ⟨h2, a, b⟩

theorem fm_210 {n to c : Nat} {l : List Nat} {s : ps_S} {x1 x2 : Int32} {R : ps_S → Prop} (hx : x1.toInt = to) (hc : x2.toInt = c) (hW : mv_W s to l) (hl : l.length < 40) (k : ∀ s', mv_W s' to (l ++ [c]) ∧ kq [1134] [] s s' ∧ mv_po to s s' → R s') : pl_Cl n 210 [.ref 1131, .int x1, .int x2] s (ps_rV R) := by
  cases n with
  | zero => exact pl_At_0
  | succ n =>
  show pl_At (n + 1) 210 0 [(0, .ref 1131), (1, .int x1), (2, .int x2)] [] s (ps_rV R)
  obtain ⟨w1, w2, w3⟩ := hW
  refine pl_210_0 ?_
  intro b6
  obtain ⟨b6, c6⟩ := pl_in b6
  intro b9
  obtain ⟨b9, c9⟩ := pl_in b9
  intro b20
  obtain ⟨b20, c20⟩ := pl_in b20
  intro b23
  obtain ⟨b23, c23⟩ := pl_in b23
  rw [xtn hx]
  have e0 : ps_a (ps_ua s 1134 to (ps_a s 1134 to + 1)) 1134 to = ps_a s 1134 to + 1 := by rw [ps_a_ua, if_pos ⟨rfl, rfl⟩]
  have e1 : (ps_a s 1134 to + 1).toInt = (l.length + 1 : Nat) := xj1 w1 (by omega)
  have e2 : (x1 + (ps_a s 1134 to + 1)).toInt = (to + (l.length + 1) : Nat) := by rw [xIa (by omega) (by omega)]; omega
  rw [e0, xtn e2]
  refine k _ ⟨⟨?_, ?_, fun j c' hj => ?_⟩, kqa (kqa kq_refl rfl) rfl, fun i hi => ?_⟩
  · rw [ps_a_ua, if_neg (by omega), e0, List.length_append]
    exact e1
  · rw [List.length_append]
    show l.length + 1 ≤ 40
    omega
  · rw [ps_a_ua]
    rcases tx_snoc hj with ⟨z1, z2⟩ | ⟨z1, z2⟩
    · rw [if_neg (by omega), ps_a_ua, if_neg (by omega)]
      exact w3 j c' z2
    · rw [if_pos ⟨rfl, by omega⟩, z2]
      exact hc
  · rw [ps_a_ua, if_neg (by omega), ps_a_ua, if_neg (by omega)]

theorem fm_211 {n m : Nat} {b : Bool} {S : List tx_F} {s : ps_S} {x1 x2 : Int32} {R : ps_S → Prop} (hx : x1.toInt = m) (hb : x2.toInt = (if b = true then 0 else 1)) (hB : mv_B s S) (hS : S.length ≤ 15) (k : ∀ s', mv_B s' ((m, b, false, none) :: S) ∧ kq [1144, 1145, 1146, 1147] [29] s s' → R s') : pl_Cl n 211 [.ref 1131, .int x1, .int x2] s (ps_rV R) := by
  cases n with
  | zero => exact pl_At_0
  | succ n =>
  show pl_At (n + 1) 211 0 [(0, .ref 1131), (1, .int x1), (2, .int x2)] [] s (ps_rV R)
  obtain ⟨b1, b2⟩ := hB
  have hx2 : (x2 &&& 1).toInt = (if b = true then 0 else 1) := by
    cases b with
    | true => rw [show x2 = 0 from Int32.toInt_inj.mp hb]; decide
    | false => rw [show x2 = 1 from Int32.toInt_inj.mp hb]; decide
  refine pl_211_0 ?_
  intro b9
  obtain ⟨b9, c9⟩ := pl_in b9
  intro b19
  obtain ⟨b19, c19⟩ := pl_in b19
  intro b29
  obtain ⟨b29, c29⟩ := pl_in b29
  intro b39
  obtain ⟨b39, c39⟩ := pl_in b39
  refine k _ ⟨⟨?_, fun j f hj => ?_⟩, kqi (kqa (kqa (kqa (kqa kq_refl rfl) rfl) rfl) rfl) rfl⟩
  · show (ps_i s 1131 29 + 1).toInt = _
    exact xj1 b1 (by omega)
  · show mv_f (ps_ui (ps_ua (ps_ua (ps_ua (ps_ua s 1144 (Int32.toNatClampNeg (ps_i s 1131 29)) x1) 1145 (Int32.toNatClampNeg (ps_i s 1131 29)) (x2 &&& 1)) 1146 (Int32.toNatClampNeg (ps_i s 1131 29)) ((0 : Int32) &&& 1)) 1147 (Int32.toNatClampNeg (ps_i s 1131 29)) ((0 : Int32) &&& 1)) 1131 29 (ps_i s 1131 29 + 1)) (S.length + 1 - 1 - j) f
    rw [xtn b1]
    cases j with
    | zero =>
      have hj : some (m, b, false, none) = some f := hj
      cases hj
      rw [show S.length + 1 - 1 - 0 = S.length from by omega]
      exact ⟨by show (ps_a _ 1144 S.length).toInt = _; rw [ps_a_ui, ps_a_ua, if_neg (by omega), ps_a_ua, if_neg (by omega), ps_a_ua, if_neg (by omega), ps_a_ua, if_pos ⟨rfl, rfl⟩]; exact hx, by rw [ps_a_ui, ps_a_ua, if_neg (by omega), ps_a_ua, if_neg (by omega), ps_a_ua, if_pos ⟨rfl, rfl⟩]; exact hx2, by rw [ps_a_ui, ps_a_ua, if_neg (by omega), ps_a_ua, if_pos ⟨rfl, rfl⟩]; rfl, Or.inl ⟨rfl, by rw [ps_a_ui, ps_a_ua, if_pos ⟨rfl, rfl⟩]; rfl⟩⟩
    | succ j =>
      have hj : S[j]? = some f := hj
      have hl := (List.getElem?_eq_some_iff.mp hj).1
      have g := b2 j f hj
      rw [show S.length + 1 - 1 - (j + 1) = S.length - 1 - j from by omega]
      unfold mv_f at *
      have a4 : ps_a (ps_ui (ps_ua (ps_ua (ps_ua (ps_ua s 1144 S.length x1) 1145 S.length (x2 &&& 1)) 1146 S.length ((0 : Int32) &&& 1)) 1147 S.length ((0 : Int32) &&& 1)) 1131 29 (ps_i s 1131 29 + 1)) 1144 (S.length - 1 - j) = ps_a s 1144 (S.length - 1 - j) := by rw [ps_a_ui, ps_a_ua, if_neg (by omega), ps_a_ua, if_neg (by omega), ps_a_ua, if_neg (by omega), ps_a_ua, if_neg (by omega)]
      have a5 : ps_a (ps_ui (ps_ua (ps_ua (ps_ua (ps_ua s 1144 S.length x1) 1145 S.length (x2 &&& 1)) 1146 S.length ((0 : Int32) &&& 1)) 1147 S.length ((0 : Int32) &&& 1)) 1131 29 (ps_i s 1131 29 + 1)) 1145 (S.length - 1 - j) = ps_a s 1145 (S.length - 1 - j) := by rw [ps_a_ui, ps_a_ua, if_neg (by omega), ps_a_ua, if_neg (by omega), ps_a_ua, if_neg (by omega), ps_a_ua, if_neg (by omega)]
      have a6 : ps_a (ps_ui (ps_ua (ps_ua (ps_ua (ps_ua s 1144 S.length x1) 1145 S.length (x2 &&& 1)) 1146 S.length ((0 : Int32) &&& 1)) 1147 S.length ((0 : Int32) &&& 1)) 1131 29 (ps_i s 1131 29 + 1)) 1146 (S.length - 1 - j) = ps_a s 1146 (S.length - 1 - j) := by rw [ps_a_ui, ps_a_ua, if_neg (by omega), ps_a_ua, if_neg (by omega), ps_a_ua, if_neg (by omega), ps_a_ua, if_neg (by omega)]
      have a7 : ps_a (ps_ui (ps_ua (ps_ua (ps_ua (ps_ua s 1144 S.length x1) 1145 S.length (x2 &&& 1)) 1146 S.length ((0 : Int32) &&& 1)) 1147 S.length ((0 : Int32) &&& 1)) 1131 29 (ps_i s 1131 29 + 1)) 1147 (S.length - 1 - j) = ps_a s 1147 (S.length - 1 - j) := by rw [ps_a_ui, ps_a_ua, if_neg (by omega), ps_a_ua, if_neg (by omega), ps_a_ua, if_neg (by omega), ps_a_ua, if_neg (by omega)]
      rw [a4, a5, a6, a7]
      exact g

