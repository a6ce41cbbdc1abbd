set_option maxRecDepth 100000
section
variable {g : tx_g} {L : List Nat} {b : Nat} {s0 : ps_S} {R : Int32 → ps_S → Prop}
theorem fm_228_17 (hb : b < 2) (h21 : (ps_i s0 1131 21).toInt = b) (H0 : mv_E s0 b g) (M0 : mk_M s0 L) (h40 : L.length ≤ 40) (hA : ArW (sg g) (arh g)) (k1 : ∀ s', dp (arh g) L → KL s0 s' → R 1 s') (k0 : ∀ s', ¬ dp (arh g) L → KL s0 s' → R 0 s') : ∀ (n : Nat) {s : ps_S} {x1 x2 x3 : Int32} {j : Nat} {F : List (Nat × Bool)} {D P : List (Nat × Nat)} {W : List Bool}, x3.toInt = j → j ≤ L.length → x1.toInt = F.length → F.length ≤ 13 → x2.toInt = bnF F → bnF F ≤ 5 → skR s F → (P = (F.length, bnF F) :: fSF F ∨ P = []) → ws (sg g) (L.drop j) W → P.length = W.length → ly (arh g) [(0, 0)] L = D ++ ly (arh g) P (L.drop j) → D.length = j → (∀ (i : Nat) (d : Nat × Nat) (x : Nat), D[i]? = some d → L[i]? = some x → d.1 ≤ 12 ∧ d.2 + qb x ≤ 5) → KL s0 s → pl_At n 228 17 [(0, .ref 1131), (1, .int x1), (2, .int x2), (3, .int x3)] [] s (ps_rI R)
  | 0, _, _, _, _, _, _, _, _, _, _, _, _, _, _, _, _, _, _, _, _, _, _, _ => pl_At_0
  | n + 1, s, x1, x2, x3, j, F, D, P, W, h3, hj, h1, hF, h2, hbn, hS, hP, hw, hPW, hD, hDj, hd, K => by
    have M := mk_M_kq M0 K (by decide) (by decide)
    have m1 := M.1
    have c0 : (0 : Int32).toInt = 0 := Int32.toInt_zero
    have c12 : (12 : Int32).toInt = 12 := by decide
    have c4 : (4 : Int32).toInt = 4 := by decide
    have c5 : (5 : Int32).toInt = 5 := by decide
    have c1 : (1 : Int32).toInt = 1 := by decide
    refine pl_228_17 ⟨fun z => ?_, fun z => ?_⟩
    · have z := xle z
      have e : j = L.length := by omega
      refine k1 s (fun i d x hx1 hx2 => hd i d x ?_ hx2) K
      rw [e, List.drop_length] at hD
      rw [hD] at hx1
      have hil := (List.getElem?_eq_some_iff.mp hx2).1
      rw [List.getElem?_append_left (by omega)] at hx1
      exact hx1
    · have z := xlt z
      obtain ⟨c, hc⟩ : ∃ c, L[j]? = some c := ⟨_, List.getElem?_eq_getElem (by omega)⟩
      have ec : (ps_a s 1149 j).toInt = c := M.2 j c (by omega) hc
      rw [drop_c hc] at hw hD
      obtain ⟨bb, W', ks, rfl, hk, hw'⟩ := ws_cons.mp hw
      have ha := hA bb c ks hk
      have hPc : P = (F.length, bnF F) :: fSF F := by
        rcases hP with y | y
        · exact y
        · rw [y] at hPW; cases hPW
      subst hPc
      have hly : ly (arh g) ((F.length, bnF F) :: fSF F) (c :: L.drop (j + 1)) = (F.length, bnF F) :: ly (arh g) (List.replicate (arh g c) (F.length + 1, bnF F + qb c) ++ fSF F) (L.drop (j + 1)) := rfl
      rw [hly] at hD
      have hDj2 : (ly (arh g) [(0, 0)] L)[j]? = some (F.length, bnF F) := by
        rw [hD, List.getElem?_append_right (by omega), hDj, Nat.sub_self]
        rfl
      have bad : (¬ (F.length ≤ 12 ∧ bnF F + qb c ≤ 5)) → R 0 s := fun y => k0 s (fun w => y (w j _ c hDj2 hc)) K
      have fin : ∀ {x4 : Int32} {isq : Bool}, x4 = (if isq = true then 1 else 0) → qb c = (if isq = true then 1 else 0) → F.length ≤ 12 → bnF F + qb c ≤ 5 → ∀ {n' : Nat}, n' ≤ n → pl_At n' 228 70 [(0, .ref 1131), (1, .int x1), (2, .int x2), (3, .int x3), (4, .int x4)] [] s (ps_rI R) := fun {x4 isq} h4 hq hF12 hb5 {n'} hn' => by
        refine fm_228_70 (n0 := n) (j := j) (isq := isq) hb h21 H0 M0 h40 hc hk h3 h1 hF12 h2 h4 hq hb5 hS K (fun {s2 y1 y2 G} g1 g2 g3 hGb g4 g5 g6 K2 => ?_) hn'
        cases n with
        | zero => exact pl_At_0
        | succ n =>
        have e3 : (x3 + 1).toInt = (j + 1 : Nat) := xj1 h3 (by omega)
        have hlen : ∀ {P' : List (Nat × Nat)}, P' = List.replicate (arh g c) (F.length + 1, bnF F + qb c) ++ fSF F → P'.length = (ks ++ W').length := fun {P'} e => by
          rw [e, List.length_append, List.length_append, List.length_replicate, ha]
          rw [List.length_cons, List.length_cons] at hPW
          omega
        have hD2 : (D ++ [(F.length, bnF F)]).length = j + 1 := by rw [List.length_append, hDj]; rfl
        have hd2 : ∀ (i : Nat) (d : Nat × Nat) (x : Nat), (D ++ [(F.length, bnF F)])[i]? = some d → L[i]? = some x → d.1 ≤ 12 ∧ d.2 + qb x ≤ 5 := fun i d x hi hx => by
          rcases Nat.lt_or_ge i j with y | y
          · rw [List.getElem?_append_left (by omega)] at hi
            exact hd i d x hi hx
          · have := (List.getElem?_eq_some_iff.mp hi).1
            have ei : i = j := by omega
            rw [ei, List.getElem?_append_right (by omega), hDj, Nat.sub_self] at hi
            cases hi
            rw [ei, hc] at hx
            cases hx
            exact ⟨hF12, hb5⟩
        have hD3 : ∀ {P' : List (Nat × Nat)}, P' = List.replicate (arh g c) (F.length + 1, bnF F + qb c) ++ fSF F → ly (arh g) [(0, 0)] L = (D ++ [(F.length, bnF F)]) ++ ly (arh g) P' (L.drop (j + 1)) := fun {P'} e => by
          rw [e, hD, List.append_assoc]
          rfl
        refine pl_228_148 ⟨fun y => ?_, fun y => ?_⟩
        · have y := xle y
          have eG : G = [] := by
            cases G with
            | nil => rfl
            | cons a G => rw [List.length_cons] at g1; omega
          subst eG
          exact fm_228_17 hb h21 H0 M0 h40 hA k1 k0 n (F := []) (P := []) e3 (by omega) g1 g2 g3 (Nat.zero_le _) trivial (Or.inr rfl) hw' (hlen g6) (hD3 g6) hD2 hd2 K2
        · have y := xlt y
          rcases g5 with rfl | ⟨k, bG, G', rfl⟩
          · rw [g1] at y
            exact absurd y (by decide)
          · have g1' : y1.toInt = (G'.length + 1 : Nat) := g1
            have e1 : (y1 - 1).toInt = (G'.length : Nat) := by rw [xIs (by omega) (by omega), g1', c1]; omega
            obtain ⟨⟨t1, t2, t3⟩, t4⟩ := g4
            intro b1 b2
            rw [xtn e1]
            have hv : (ps_a s2 1150 G'.length - 1).toInt = (k : Nat) := by
              have hk99 := xR (ps_a s2 1150 G'.length)
              rw [xIs (by omega) (by omega), t1, c1]
              omega
            have eP : fSF ((k + 1, bG) :: G') = (G'.length + 1, (if bG = true then 1 else 0) + bnF G') :: fSF ((k, bG) :: G') := by
              show List.replicate (k + 1) _ ++ _ = _ :: (List.replicate k _ ++ _)
              rw [List.replicate_succ]
              rfl
            refine fm_228_17 hb h21 H0 M0 h40 hA k1 k0 n (F := (k, bG) :: G') (P := fSF ((k + 1, bG) :: G')) e3 (by omega) g1 g2 g3 hGb ⟨⟨?_, fun w => ?_, fun w => ?_⟩, skR_ext t4 (fun i hi => ⟨?_, ?_⟩)⟩ (Or.inl eP) hw' (hlen g6) (hD3 g6) hD2 hd2 (kqa K2 rfl)
            · rw [ps_a_ua, if_pos ⟨rfl, rfl⟩]
              exact hv
            · rw [ps_a_ua, if_neg (by omega)]
              exact t2 w
            · rw [ps_a_ua, if_neg (by omega)]
              exact t3 w
            · rw [ps_a_ua, if_neg (by omega)]
            · rw [ps_a_ua, if_neg (by omega)]
      intro b1
      rw [xtn h3]
      have quant : c = 4 ∨ c = 5 → pl_At n 228 45 [(0, .ref 1131), (1, .int x1), (2, .int x2), (3, .int x3)] [] s (ps_rI R) := fun h45 => by
        cases n with
        | zero => exact pl_At_0
        | succ n =>
        have q1 := qb_1 h45
        refine pl_228_45 ⟨fun y => ?_, fun y => ⟨fun w => absurd w (by decide), fun _ => ⟨fun w => ?_, fun w => ?_⟩⟩⟩
        · have y := xlt y
          exact bad (fun w => by omega)
        · have y := xle y
          have w := xle w
          exact fin (isq := true) rfl q1 (by omega) (by omega) (Nat.le_succ _)
        · have w := xlt w
          exact bad (fun v => by omega)
      refine ⟨fun y => ?_, fun y => ?_⟩
      · have y := xeq y
        exact quant (Or.inl (by omega))
      · have y := xne y
        intro b2
        refine ⟨fun y2 => ?_, fun y2 => ?_⟩
        · have y2 := xne y2
          have q0 := qb_0 (c := c) (by omega)
          refine ⟨fun w => ?_, fun w => ⟨fun _ => ?_, fun v => absurd rfl v⟩⟩
          · have w := xlt w
            exact bad (fun v => by omega)
          · have w := xle w
            exact fin (isq := false) rfl q0 (by omega) (by omega) (Nat.le_refl _)
        · have y2 := xeq y2
          exact quant (Or.inr (by omega))

end
