set_option maxRecDepth 100000
section
variable {g : tx_g} {L : List Nat} {b : Nat} {s0 : ps_S} {R : Int32 → ps_S → Prop}
theorem fm_228_70 {n0 c j : Nat} {bb : Bool} {ks : List Bool} {F : List (Nat × Bool)} {x1 x2 x3 x4 : Int32} {s : ps_S} {isq : Bool} (hb : b < 2) (h21 : (ps_i s0 1131 21).toInt = b) (H0 : mv_E s0 b g) (M0 : mk_M s0 L) (h40 : L.length ≤ 40) (hc : L[j]? = some c) (hk : kS (sg g) bb c = some ks) (h3 : x3.toInt = j) (h1 : x1.toInt = F.length) (hF : F.length ≤ 12) (h2 : x2.toInt = bnF F) (h4 : x4 = (if isq = true then 1 else 0)) (hq : qb c = (if isq = true then 1 else 0)) (h5 : bnF F + qb c ≤ 5) (hS : skR s F) (K : KL s0 s) (kk : ∀ {s : ps_S} {x1 x2 : Int32} {G : List (Nat × Bool)}, x1.toInt = G.length → G.length ≤ 13 → x2.toInt = bnF G → bnF G ≤ 5 → skR s G → (G = [] ∨ ∃ k b G', G = (k + 1, b) :: G') → fSF G = List.replicate (arh g c) (F.length + 1, bnF F + qb c) ++ fSF F → KL s0 s → pl_At n0 228 148 [(0, .ref 1131), (1, .int x1), (2, .int x2), (3, .int x3)] [] s (ps_rI R)) {n : Nat} (hn : n ≤ n0) : pl_At n 228 70 [(0, .ref 1131), (1, .int x1), (2, .int x2), (3, .int x3), (4, .int x4)] [] s (ps_rI R) := by
  cases n with
  | zero => exact pl_At_0
  | succ n =>
  have hjl := (List.getElem?_eq_some_iff.mp hc).1
  have hbn := bnF_le (F := F)
  have c1 : (1 : Int32).toInt = 1 := by decide
  have h21' : (ps_i s 1131 21).toInt = b := by rw [kq_i K 21 rfl]; exact h21
  have H := mv_E_kq H0 K (by decide)
  refine pl_228_70 ?_
  intro b1
  rw [xtn h3]
  have ec : (ps_a s 1149 j).toInt = c := by
    rw [kq_a K 1149 (by decide)]
    exact M0.2 j c (by omega) hc
  refine fm_218 hb h21' H hk ec (fun v1 q1 => ?_)
  intro b2 b3
  rw [xtn h1]
  have e1 : (x1 + 1).toInt = (F.length + 1 : Nat) := xj1 h1 (by omega)
  have K2 : KL s0 (ps_ua (ps_ua s 1150 F.length v1) 1151 F.length (x4 &&& 1)) := kqa (kqa K rfl) rfl
  have hS2 : skR (ps_ua (ps_ua s 1150 F.length v1) 1151 F.length (x4 &&& 1)) ((arh g c, isq) :: F) := by
    refine ⟨⟨?_, fun z => ?_, fun z => ?_⟩, skR_ext hS (fun i hi => ⟨?_, ?_⟩)⟩
    · rw [ps_a_ua, if_neg (by omega), ps_a_ua, if_pos ⟨rfl, rfl⟩]
      exact q1
    · rw [ps_a_ua, if_pos ⟨rfl, rfl⟩, h4, z, if_pos rfl]
      decide
    · rw [ps_a_ua, if_pos ⟨rfl, rfl⟩, h4, z, if_neg (by decide)]
      decide
    · rw [ps_a_ua, if_neg (by omega), ps_a_ua, if_neg (by omega)]
    · rw [ps_a_ua, if_neg (by omega), ps_a_ua, if_neg (by omega)]
  have hP : fSF ((arh g c, isq) :: F) = List.replicate (arh g c) (F.length + 1, bnF F + qb c) ++ fSF F := by
    show List.replicate (arh g c) (F.length + 1, (if isq = true then 1 else 0) + bnF F) ++ fSF F = _
    rw [hq, Nat.add_comm (bnF F)]
  refine ⟨fun z => ?_, fun z => ?_⟩
  · have hi : isq = false := by
      cases isq
      · rfl
      · rw [z, if_pos rfl] at h4
        exact absurd h4 (by decide)
    subst hi
    exact fm_228_110 kk n (F := (arh g c, false) :: F) (by omega) e1 (by rw [List.length_cons]; omega) (by rw [xIa (by rw [Int32.toInt_zero]; omega) (by rw [Int32.toInt_zero]; omega), Int32.toInt_zero, h2]; show _ = ((0 + bnF F : Nat) : Int); omega) (by show 0 + bnF F ≤ 5; omega) hS2 hP K2
  · have hi : isq = true := by
      cases isq
      · rw [if_neg (by decide)] at h4
        exact absurd h4 z
      · rfl
    subst hi
    exact fm_228_110 kk n (F := (arh g c, true) :: F) (by omega) e1 (by rw [List.length_cons]; omega) (by rw [xj1 h2 (by omega)]; show _ = ((1 + bnF F : Nat) : Int); omega) (by rw [if_pos rfl] at hq; show 1 + bnF F ≤ 5; omega) hS2 hP K2

end
