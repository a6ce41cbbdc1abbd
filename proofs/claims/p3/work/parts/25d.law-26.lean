section
set_option maxRecDepth 100000
theorem l2_op0 {L : Nat} {xs : Nat → Int32} {x3 t : Int32} {w : pm_W} {s : ps_S} {Q : Option Value → pm_W → Prop} (ha : ∀ (k : Int32) (_ : pm_in k 6 = true), pm_in (x3 + k) L = true) (hw : ps_R w s) (hI : LI s t) (K : ∀ (w' : pm_W) (s' : ps_S) (t' : Int32), ps_R w' s' → LI s' t' → pm_H (some (L, xs)) 300 310 858 [(3, .int x3), (2, .ref 1131), (1, .ref 0), (0, .ref pm_SC)] [] w' Q) : pm_H (some (L, xs)) 300 310 168 [(3, .int x3), (2, .ref 1131), (1, .ref 0), (0, .ref pm_SC)] [] w Q := by
  have hb := LI_t hI
  refine pm_H.go (pc' := 169) (st' := [.ref 0]) rfl rfl rfl rfl ?_
  refine pm_H.go (pc' := 170) (st' := [.ref pm_SC, .ref 0]) rfl rfl rfl rfl ?_
  refine pm_H.go (pc' := 171) (st' := [.int x3, .ref pm_SC, .ref 0]) rfl rfl rfl rfl ?_
  refine pm_H.go (pc' := 172) (st' := [.int 1, .int x3, .ref pm_SC, .ref 0]) rfl rfl rfl rfl ?_
  refine pm_H.go (pc' := 173) (st' := [.int (x3 + 1), .ref pm_SC, .ref 0]) rfl rfl rfl rfl ?_
  refine pm_H.sld (i := (x3 + 1)) rfl rfl (ha 1 rfl) ?_
  refine pm_H.go (pc' := 175) (st' := [.ref pm_SC, .int (xs (Int32.toNatClampNeg (x3 + 1))), .ref 0]) rfl rfl rfl rfl ?_
  refine pm_H.go (pc' := 176) (st' := [.int x3, .ref pm_SC, .int (xs (Int32.toNatClampNeg (x3 + 1))), .ref 0]) rfl rfl rfl rfl ?_
  refine pm_H.go (pc' := 177) (st' := [.int 2, .int x3, .ref pm_SC, .int (xs (Int32.toNatClampNeg (x3 + 1))), .ref 0]) rfl rfl rfl rfl ?_
  refine pm_H.go (pc' := 178) (st' := [.int (x3 + 2), .ref pm_SC, .int (xs (Int32.toNatClampNeg (x3 + 1))), .ref 0]) rfl rfl rfl rfl ?_
  refine pm_H.sld (i := (x3 + 2)) rfl rfl (ha 2 rfl) ?_
  refine pm_H.go (pc' := 180) (st' := [.ref pm_SC, .int (xs (Int32.toNatClampNeg (x3 + 2))), .int (xs (Int32.toNatClampNeg (x3 + 1))), .ref 0]) rfl rfl rfl rfl ?_
  refine pm_H.go (pc' := 181) (st' := [.int x3, .ref pm_SC, .int (xs (Int32.toNatClampNeg (x3 + 2))), .int (xs (Int32.toNatClampNeg (x3 + 1))), .ref 0]) rfl rfl rfl rfl ?_
  refine pm_H.go (pc' := 182) (st' := [.int 3, .int x3, .ref pm_SC, .int (xs (Int32.toNatClampNeg (x3 + 2))), .int (xs (Int32.toNatClampNeg (x3 + 1))), .ref 0]) rfl rfl rfl rfl ?_
  refine pm_H.go (pc' := 183) (st' := [.int (x3 + 3), .ref pm_SC, .int (xs (Int32.toNatClampNeg (x3 + 2))), .int (xs (Int32.toNatClampNeg (x3 + 1))), .ref 0]) rfl rfl rfl rfl ?_
  refine pm_H.sld (i := (x3 + 3)) rfl rfl (ha 3 rfl) ?_
  refine pm_H.go (pc' := 185) (st' := [.ref pm_SC, .int (xs (Int32.toNatClampNeg (x3 + 3))), .int (xs (Int32.toNatClampNeg (x3 + 2))), .int (xs (Int32.toNatClampNeg (x3 + 1))), .ref 0]) rfl rfl rfl rfl ?_
  refine pm_H.go (pc' := 186) (st' := [.int x3, .ref pm_SC, .int (xs (Int32.toNatClampNeg (x3 + 3))), .int (xs (Int32.toNatClampNeg (x3 + 2))), .int (xs (Int32.toNatClampNeg (x3 + 1))), .ref 0]) rfl rfl rfl rfl ?_
  refine pm_H.go (pc' := 187) (st' := [.int 4, .int x3, .ref pm_SC, .int (xs (Int32.toNatClampNeg (x3 + 3))), .int (xs (Int32.toNatClampNeg (x3 + 2))), .int (xs (Int32.toNatClampNeg (x3 + 1))), .ref 0]) rfl rfl rfl rfl ?_
  refine pm_H.go (pc' := 188) (st' := [.int (x3 + 4), .ref pm_SC, .int (xs (Int32.toNatClampNeg (x3 + 3))), .int (xs (Int32.toNatClampNeg (x3 + 2))), .int (xs (Int32.toNatClampNeg (x3 + 1))), .ref 0]) rfl rfl rfl rfl ?_
  refine pm_H.sld (i := (x3 + 4)) rfl rfl (ha 4 rfl) ?_
  refine pm_H.go (pc' := 190) (st' := [.ref pm_SC, .int (xs (Int32.toNatClampNeg (x3 + 4))), .int (xs (Int32.toNatClampNeg (x3 + 3))), .int (xs (Int32.toNatClampNeg (x3 + 2))), .int (xs (Int32.toNatClampNeg (x3 + 1))), .ref 0]) rfl rfl rfl rfl ?_
  refine pm_H.go (pc' := 191) (st' := [.int x3, .ref pm_SC, .int (xs (Int32.toNatClampNeg (x3 + 4))), .int (xs (Int32.toNatClampNeg (x3 + 3))), .int (xs (Int32.toNatClampNeg (x3 + 2))), .int (xs (Int32.toNatClampNeg (x3 + 1))), .ref 0]) rfl rfl rfl rfl ?_
  refine pm_H.go (pc' := 192) (st' := [.int 5, .int x3, .ref pm_SC, .int (xs (Int32.toNatClampNeg (x3 + 4))), .int (xs (Int32.toNatClampNeg (x3 + 3))), .int (xs (Int32.toNatClampNeg (x3 + 2))), .int (xs (Int32.toNatClampNeg (x3 + 1))), .ref 0]) rfl rfl rfl rfl ?_
  refine pm_H.go (pc' := 193) (st' := [.int (x3 + 5), .ref pm_SC, .int (xs (Int32.toNatClampNeg (x3 + 4))), .int (xs (Int32.toNatClampNeg (x3 + 3))), .int (xs (Int32.toNatClampNeg (x3 + 2))), .int (xs (Int32.toNatClampNeg (x3 + 1))), .ref 0]) rfl rfl rfl rfl ?_
  refine pm_H.sld (i := (x3 + 5)) rfl rfl (ha 5 rfl) ?_
  refine l2_call (c := 11) (q := 0) (P := ps_rI (fun v s1 => ∃ t1, xJ s t1 s1 ∧ ((v.toInt = -1 ∧ t1 = t ∧ 1580 < t.toInt) ∨ (v = t1 ∧ t1.toInt = t.toInt + 20 ∧ t.toInt ≤ 1580)))) rfl rfl rfl (by decide) rfl (by decide) hw (by decide) rfl rfl rfl (xs_149 (d := 298) (LI_J hI) hb.1 hb.2 (fun v s1 t1 J1 p => ⟨t1, J1, p⟩)) (fun o w1 s1 hw1 hp => ?_)
  obtain ⟨v1, rfl, hp⟩ := l2_int hp
  obtain ⟨t1, J1, q1⟩ := hp
  have hX := LI_x hI J1
  obtain ⟨σ, h4⟩ := hX.2.2.2.1
  show pm_H (some (L, xs)) 300 310 197 [(3, .int x3), (2, .ref 1131), (1, .ref 0), (0, .ref pm_SC)] [.int v1] w1 Q
  refine pm_H.go (pc' := 198) (st' := []) rfl rfl rfl rfl ?_
  refine pm_H.go (pc' := 199) (st' := [.ref 1131]) rfl rfl rfl rfl ?_
  refine pm_H.go (pc' := 200) (st' := [.ref pm_SC, .ref 1131]) rfl rfl rfl rfl ?_
  refine pm_H.go (pc' := 201) (st' := [.int x3, .ref pm_SC, .ref 1131]) rfl rfl rfl rfl ?_
  refine pm_H.go (pc' := 202) (st' := [.int 1, .int x3, .ref pm_SC, .ref 1131]) rfl rfl rfl rfl ?_
  refine pm_H.go (pc' := 203) (st' := [.int (x3 + 1), .ref pm_SC, .ref 1131]) rfl rfl rfl rfl ?_
  refine pm_H.sld (i := (x3 + 1)) rfl rfl (ha 1 rfl) ?_
  refine pm_H.go (pc' := 205) (st' := [.ref pm_SC, .int (xs (Int32.toNatClampNeg (x3 + 1))), .ref 1131]) rfl rfl rfl rfl ?_
  refine pm_H.go (pc' := 206) (st' := [.int x3, .ref pm_SC, .int (xs (Int32.toNatClampNeg (x3 + 1))), .ref 1131]) rfl rfl rfl rfl ?_
  refine pm_H.go (pc' := 207) (st' := [.int 2, .int x3, .ref pm_SC, .int (xs (Int32.toNatClampNeg (x3 + 1))), .ref 1131]) rfl rfl rfl rfl ?_
  refine pm_H.go (pc' := 208) (st' := [.int (x3 + 2), .ref pm_SC, .int (xs (Int32.toNatClampNeg (x3 + 1))), .ref 1131]) rfl rfl rfl rfl ?_
  refine pm_H.sld (i := (x3 + 2)) rfl rfl (ha 2 rfl) ?_
  refine pm_H.go (pc' := 210) (st' := [.ref pm_SC, .int (xs (Int32.toNatClampNeg (x3 + 2))), .int (xs (Int32.toNatClampNeg (x3 + 1))), .ref 1131]) rfl rfl rfl rfl ?_
  refine pm_H.go (pc' := 211) (st' := [.int x3, .ref pm_SC, .int (xs (Int32.toNatClampNeg (x3 + 2))), .int (xs (Int32.toNatClampNeg (x3 + 1))), .ref 1131]) rfl rfl rfl rfl ?_
  refine pm_H.go (pc' := 212) (st' := [.int 3, .int x3, .ref pm_SC, .int (xs (Int32.toNatClampNeg (x3 + 2))), .int (xs (Int32.toNatClampNeg (x3 + 1))), .ref 1131]) rfl rfl rfl rfl ?_
  refine pm_H.go (pc' := 213) (st' := [.int (x3 + 3), .ref pm_SC, .int (xs (Int32.toNatClampNeg (x3 + 2))), .int (xs (Int32.toNatClampNeg (x3 + 1))), .ref 1131]) rfl rfl rfl rfl ?_
  refine pm_H.sld (i := (x3 + 3)) rfl rfl (ha 3 rfl) ?_
  refine pm_H.go (pc' := 215) (st' := [.ref pm_SC, .int (xs (Int32.toNatClampNeg (x3 + 3))), .int (xs (Int32.toNatClampNeg (x3 + 2))), .int (xs (Int32.toNatClampNeg (x3 + 1))), .ref 1131]) rfl rfl rfl rfl ?_
  refine pm_H.go (pc' := 216) (st' := [.int x3, .ref pm_SC, .int (xs (Int32.toNatClampNeg (x3 + 3))), .int (xs (Int32.toNatClampNeg (x3 + 2))), .int (xs (Int32.toNatClampNeg (x3 + 1))), .ref 1131]) rfl rfl rfl rfl ?_
  refine pm_H.go (pc' := 217) (st' := [.int 4, .int x3, .ref pm_SC, .int (xs (Int32.toNatClampNeg (x3 + 3))), .int (xs (Int32.toNatClampNeg (x3 + 2))), .int (xs (Int32.toNatClampNeg (x3 + 1))), .ref 1131]) rfl rfl rfl rfl ?_
  refine pm_H.go (pc' := 218) (st' := [.int (x3 + 4), .ref pm_SC, .int (xs (Int32.toNatClampNeg (x3 + 3))), .int (xs (Int32.toNatClampNeg (x3 + 2))), .int (xs (Int32.toNatClampNeg (x3 + 1))), .ref 1131]) rfl rfl rfl rfl ?_
  refine pm_H.sld (i := (x3 + 4)) rfl rfl (ha 4 rfl) ?_
  refine pm_H.go (pc' := 220) (st' := [.ref pm_SC, .int (xs (Int32.toNatClampNeg (x3 + 4))), .int (xs (Int32.toNatClampNeg (x3 + 3))), .int (xs (Int32.toNatClampNeg (x3 + 2))), .int (xs (Int32.toNatClampNeg (x3 + 1))), .ref 1131]) rfl rfl rfl rfl ?_
  refine pm_H.go (pc' := 221) (st' := [.int x3, .ref pm_SC, .int (xs (Int32.toNatClampNeg (x3 + 4))), .int (xs (Int32.toNatClampNeg (x3 + 3))), .int (xs (Int32.toNatClampNeg (x3 + 2))), .int (xs (Int32.toNatClampNeg (x3 + 1))), .ref 1131]) rfl rfl rfl rfl ?_
  refine pm_H.go (pc' := 222) (st' := [.int 5, .int x3, .ref pm_SC, .int (xs (Int32.toNatClampNeg (x3 + 4))), .int (xs (Int32.toNatClampNeg (x3 + 3))), .int (xs (Int32.toNatClampNeg (x3 + 2))), .int (xs (Int32.toNatClampNeg (x3 + 1))), .ref 1131]) rfl rfl rfl rfl ?_
  refine pm_H.go (pc' := 223) (st' := [.int (x3 + 5), .ref pm_SC, .int (xs (Int32.toNatClampNeg (x3 + 4))), .int (xs (Int32.toNatClampNeg (x3 + 3))), .int (xs (Int32.toNatClampNeg (x3 + 2))), .int (xs (Int32.toNatClampNeg (x3 + 1))), .ref 1131]) rfl rfl rfl rfl ?_
  refine pm_H.sld (i := (x3 + 5)) rfl rfl (ha 5 rfl) ?_
  refine l2_call (c := 12) (q := 1131) (P := ps_rI (fun v s2 => ∃ u2, LX s2 t1 u2 ∧ ((v.toInt = -1 ∧ u2 = t.toInt ∧ 1580 < t.toInt) ∨ (v.toInt = t.toInt + 20 ∧ u2 = t.toInt + 20 ∧ t.toInt ≤ 1580)))) rfl rfl rfl (by decide) rfl (by decide) hw1 (by decide) rfl rfl rfl (ms_308 (d := 299) hX.2.1 (fun v s2 J2 K2 p0 => ⟨_, LX_mk hX J2 rfl (LX_M hX K2 rfl rfl rfl rfl rfl rfl rfl rfl rfl rfl rfl) (LX_D hX K2 rfl) (LX_F hX K2 rfl), by have e3 := hX.2.2.1; omega⟩)) (fun o w2 s2 hw2 hp2 => ?_)
  obtain ⟨v2, rfl, hp2⟩ := l2_int hp2
  show pm_H (some (L, xs)) 300 310 227 [(3, .int x3), (2, .ref 1131), (1, .ref 0), (0, .ref pm_SC)] [.int v2] w2 Q
  refine pm_H.go (pc' := 228) (st' := []) rfl rfl rfl rfl ?_
  refine pm_H.go (pc' := 858) (st' := []) rfl rfl rfl rfl ?_
  obtain ⟨u2, hL2, q2⟩ := hp2
  exact K w2 s2 t1 hw2 (LX_LI hL2 (by rcases q1 with ⟨a1, a2, a3⟩ | ⟨a1, a2, a3⟩ <;> rcases q2 with ⟨b1, b2, b3⟩ | ⟨b1, b2, b3⟩ <;> (try rw [a2]) <;> omega))

theorem l2_op1 {L : Nat} {xs : Nat → Int32} {x3 t : Int32} {w : pm_W} {s : ps_S} {Q : Option Value → pm_W → Prop} (ha : ∀ (k : Int32) (_ : pm_in k 6 = true), pm_in (x3 + k) L = true) (hw : ps_R w s) (hI : LI s t) (K : ∀ (w' : pm_W) (s' : ps_S) (t' : Int32), ps_R w' s' → LI s' t' → pm_H (some (L, xs)) 300 310 858 [(3, .int x3), (2, .ref 1131), (1, .ref 0), (0, .ref pm_SC)] [] w' Q) : pm_H (some (L, xs)) 300 310 231 [(3, .int x3), (2, .ref 1131), (1, .ref 0), (0, .ref pm_SC)] [] w Q := by
  refine pm_H.go (pc' := 232) (st' := [.ref 0]) rfl rfl rfl rfl ?_
  refine pm_H.go (pc' := 233) (st' := [.ref pm_SC, .ref 0]) rfl rfl rfl rfl ?_
  refine pm_H.go (pc' := 234) (st' := [.int x3, .ref pm_SC, .ref 0]) rfl rfl rfl rfl ?_
  refine pm_H.go (pc' := 235) (st' := [.int 1, .int x3, .ref pm_SC, .ref 0]) rfl rfl rfl rfl ?_
  refine pm_H.go (pc' := 236) (st' := [.int (x3 + 1), .ref pm_SC, .ref 0]) rfl rfl rfl rfl ?_
  refine pm_H.sld (i := (x3 + 1)) rfl rfl (ha 1 rfl) ?_
  refine l2_call (c := 11) (q := 0) (P := ps_rI (fun v s1 => ∃ t1, xJ s t1 s1 ∧ ((v.toInt = -1 ∧ t1 = t ∧ (((xs (Int32.toNatClampNeg (x3 + 1)))).toInt < 0 ∨ t.toInt < ((xs (Int32.toNatClampNeg (x3 + 1)))).toInt)) ∨ (v = ((xs (Int32.toNatClampNeg (x3 + 1)))) ∧ t1 = ((xs (Int32.toNatClampNeg (x3 + 1)))) ∧ 0 ≤ ((xs (Int32.toNatClampNeg (x3 + 1)))).toInt ∧ ((xs (Int32.toNatClampNeg (x3 + 1)))).toInt ≤ t.toInt)))) rfl rfl rfl (by decide) rfl (by decide) hw (by decide) rfl rfl rfl (xs_150 (d := 299) (LI_J hI) (fun v s1 t1 J1 p => ⟨t1, J1, p⟩)) (fun o w1 s1 hw1 hp => ?_)
  obtain ⟨v1, rfl, hp⟩ := l2_int hp
  obtain ⟨t1, J1, q1⟩ := hp
  have hX := LI_x hI J1
  obtain ⟨σ, h4⟩ := hX.2.2.2.1
  show pm_H (some (L, xs)) 300 310 240 [(3, .int x3), (2, .ref 1131), (1, .ref 0), (0, .ref pm_SC)] [.int v1] w1 Q
  refine pm_H.go (pc' := 241) (st' := [.ref 1131, .int v1]) rfl rfl rfl rfl ?_
  refine pm_H.go (pc' := 242) (st' := [.ref pm_SC, .ref 1131, .int v1]) rfl rfl rfl rfl ?_
  refine pm_H.go (pc' := 243) (st' := [.int x3, .ref pm_SC, .ref 1131, .int v1]) rfl rfl rfl rfl ?_
  refine pm_H.go (pc' := 244) (st' := [.int 1, .int x3, .ref pm_SC, .ref 1131, .int v1]) rfl rfl rfl rfl ?_
  refine pm_H.go (pc' := 245) (st' := [.int (x3 + 1), .ref pm_SC, .ref 1131, .int v1]) rfl rfl rfl rfl ?_
  refine pm_H.sld (i := (x3 + 1)) rfl rfl (ha 1 rfl) ?_
  refine l2_call (c := 12) (q := 1131) (P := ps_rI (fun v s2 => ∃ u2, LX s2 t1 u2 ∧ ((v.toInt = -1 ∧ u2 = t.toInt ∧ (((xs (Int32.toNatClampNeg (x3 + 1)))).toInt < 0 ∨ t.toInt < ((xs (Int32.toNatClampNeg (x3 + 1)))).toInt)) ∨ (v.toInt = ((xs (Int32.toNatClampNeg (x3 + 1)))).toInt ∧ u2 = ((xs (Int32.toNatClampNeg (x3 + 1)))).toInt ∧ 0 ≤ ((xs (Int32.toNatClampNeg (x3 + 1)))).toInt ∧ ((xs (Int32.toNatClampNeg (x3 + 1)))).toInt ≤ t.toInt)))) rfl rfl rfl (by decide) rfl (by decide) hw1 (by decide) rfl rfl rfl (ms_309 (d := 299) hX.2.1 (fun v s2 J2 K2 p0 => ⟨_, LX_mk hX J2 rfl (LX_M hX K2 rfl rfl rfl rfl rfl rfl rfl rfl rfl rfl rfl) (LX_D hX K2 rfl) (LX_F hX K2 rfl), by have e3 := hX.2.2.1; omega⟩)) (fun o w2 s2 hw2 hp2 => ?_)
  obtain ⟨v2, rfl, hp2⟩ := l2_int hp2
  show pm_H (some (L, xs)) 300 310 249 [(3, .int x3), (2, .ref 1131), (1, .ref 0), (0, .ref pm_SC)] [.int v2, .int v1] w2 Q
  obtain ⟨u2, hL2, q2⟩ := hp2
  have ev : v1 = v2 := Int32.toInt_inj.mp (by rcases q1 with ⟨a1, a2, a3⟩ | ⟨a1, a2, a3⟩ <;> rcases q2 with ⟨b1, b2, b3⟩ | ⟨b1, b2, b3⟩ <;> (try rw [a1]) <;> omega)
  refine pm_H.bricmp (b := true) (pc' := 858) rfl rfl (decide_eq_true ev) rfl rfl ?_
  exact K w2 s2 t1 hw2 (LX_LI hL2 (by rcases q1 with ⟨a1, a2, a3⟩ | ⟨a1, a2, a3⟩ <;> rcases q2 with ⟨b1, b2, b3⟩ | ⟨b1, b2, b3⟩ <;> (try rw [a2]) <;> omega))

theorem l2_op2 {L : Nat} {xs : Nat → Int32} {x3 t : Int32} {w : pm_W} {s : ps_S} {Q : Option Value → pm_W → Prop} (ha : ∀ (k : Int32) (_ : pm_in k 6 = true), pm_in (x3 + k) L = true) (hw : ps_R w s) (hI : LI s t) (K : ∀ (w' : pm_W) (s' : ps_S) (t' : Int32), ps_R w' s' → LI s' t' → pm_H (some (L, xs)) 300 310 858 [(3, .int x3), (2, .ref 1131), (1, .ref 0), (0, .ref pm_SC)] [] w' Q) : pm_H (some (L, xs)) 300 310 254 [(3, .int x3), (2, .ref 1131), (1, .ref 0), (0, .ref pm_SC)] [] w Q := by
  refine pm_H.go (pc' := 255) (st' := [.ref 0]) rfl rfl rfl rfl ?_
  refine l2_call (c := 11) (q := 0) (P := ps_rI (fun v s1 => xJ s 0 s1)) rfl rfl rfl (by decide) rfl (by decide) hw (by decide) rfl rfl rfl (xs_151 (d := 259) (LI_J hI) (fun v s1 J1 => J1)) (fun o w1 s1 hw1 hp => ?_)
  obtain ⟨v1, rfl, hp⟩ := l2_int hp
  obtain ⟨t1, ht1⟩ : ∃ t1 : Int32, t1 = 0 := ⟨_, rfl⟩
  have hX : LX s1 t1 t.toInt := by rw [ht1]; exact LI_x hI hp
  obtain ⟨σ, h4⟩ := hX.2.2.2.1
  show pm_H (some (L, xs)) 300 310 258 [(3, .int x3), (2, .ref 1131), (1, .ref 0), (0, .ref pm_SC)] [.int v1] w1 Q
  refine pm_H.go (pc' := 259) (st' := []) rfl rfl rfl rfl ?_
  refine pm_H.go (pc' := 260) (st' := [.ref 1131]) rfl rfl rfl rfl ?_
  refine l2_call (c := 12) (q := 1131) (P := ps_rI (fun v s2 => LX s2 t1 0)) rfl rfl rfl (by decide) rfl (by decide) hw1 (by decide) rfl rfl rfl (ms_201 (d := 292) hX.2.1 h4 (fun v s2 J2 K2 p0 p1 => LX_mk hX J2 (p1) (p0) (LX_D hX K2 rfl) (LX_F hX K2 rfl))) (fun o w2 s2 hw2 hp2 => ?_)
  obtain ⟨v2, rfl, hp2⟩ := l2_int hp2
  show pm_H (some (L, xs)) 300 310 263 [(3, .int x3), (2, .ref 1131), (1, .ref 0), (0, .ref pm_SC)] [.int v2] w2 Q
  refine pm_H.go (pc' := 264) (st' := []) rfl rfl rfl rfl ?_
  refine pm_H.go (pc' := 858) (st' := []) rfl rfl rfl rfl ?_
  exact K w2 s2 t1 hw2 (LX_LI hp2 (by rw [ht1]; rfl))

theorem l2_op3 {L : Nat} {xs : Nat → Int32} {x3 t : Int32} {w : pm_W} {s : ps_S} {Q : Option Value → pm_W → Prop} (ha : ∀ (k : Int32) (_ : pm_in k 6 = true), pm_in (x3 + k) L = true) (hw : ps_R w s) (hI : LI s t) (K : ∀ (w' : pm_W) (s' : ps_S) (t' : Int32), ps_R w' s' → LI s' t' → pm_H (some (L, xs)) 300 310 858 [(3, .int x3), (2, .ref 1131), (1, .ref 0), (0, .ref pm_SC)] [] w' Q) : pm_H (some (L, xs)) 300 310 267 [(3, .int x3), (2, .ref 1131), (1, .ref 0), (0, .ref pm_SC)] [] w Q := by
  refine pm_H.go (pc' := 268) (st' := [.ref 0]) rfl rfl rfl rfl ?_
  refine pm_H.go (pc' := 269) (st' := [.ref pm_SC, .ref 0]) rfl rfl rfl rfl ?_
  refine pm_H.go (pc' := 270) (st' := [.int x3, .ref pm_SC, .ref 0]) rfl rfl rfl rfl ?_
  refine pm_H.go (pc' := 271) (st' := [.int 1, .int x3, .ref pm_SC, .ref 0]) rfl rfl rfl rfl ?_
  refine pm_H.go (pc' := 272) (st' := [.int (x3 + 1), .ref pm_SC, .ref 0]) rfl rfl rfl rfl ?_
  refine pm_H.sld (i := (x3 + 1)) rfl rfl (ha 1 rfl) ?_
  refine l2_call (c := 11) (q := 0) (P := ps_rI (fun v s1 => xJ s t s1)) rfl rfl rfl (by decide) rfl (by decide) hw (by decide) rfl rfl rfl (xs_152 (d := 299) (LI_J hI) (fun v => LI_J hI)) (fun o w1 s1 hw1 hp => ?_)
  obtain ⟨v1, rfl, hp⟩ := l2_int hp
  obtain ⟨t1, ht1⟩ : ∃ t1 : Int32, t1 = t := ⟨_, rfl⟩
  have hX : LX s1 t1 t.toInt := by rw [ht1]; exact LI_x hI hp
  obtain ⟨σ, h4⟩ := hX.2.2.2.1
  show pm_H (some (L, xs)) 300 310 276 [(3, .int x3), (2, .ref 1131), (1, .ref 0), (0, .ref pm_SC)] [.int v1] w1 Q
  refine pm_H.go (pc' := 277) (st' := []) rfl rfl rfl rfl ?_
  refine pm_H.go (pc' := 278) (st' := [.ref 1131]) rfl rfl rfl rfl ?_
  refine pm_H.go (pc' := 279) (st' := [.ref pm_SC, .ref 1131]) rfl rfl rfl rfl ?_
  refine pm_H.go (pc' := 280) (st' := [.int x3, .ref pm_SC, .ref 1131]) rfl rfl rfl rfl ?_
  refine pm_H.go (pc' := 281) (st' := [.int 1, .int x3, .ref pm_SC, .ref 1131]) rfl rfl rfl rfl ?_
  refine pm_H.go (pc' := 282) (st' := [.int (x3 + 1), .ref pm_SC, .ref 1131]) rfl rfl rfl rfl ?_
  refine pm_H.sld (i := (x3 + 1)) rfl rfl (ha 1 rfl) ?_
  refine l2_call (c := 12) (q := 1131) (P := ps_rI (fun v s2 => LX s2 t1 t.toInt)) rfl rfl rfl (by decide) rfl (by decide) hw1 (by decide) rfl rfl rfl (ms_199 (d := 299) hX.2.1 (fun v => hX)) (fun o w2 s2 hw2 hp2 => ?_)
  obtain ⟨v2, rfl, hp2⟩ := l2_int hp2
  show pm_H (some (L, xs)) 300 310 286 [(3, .int x3), (2, .ref 1131), (1, .ref 0), (0, .ref pm_SC)] [.int v2] w2 Q
  refine pm_H.go (pc' := 287) (st' := []) rfl rfl rfl rfl ?_
  refine pm_H.go (pc' := 858) (st' := []) rfl rfl rfl rfl ?_
  exact K w2 s2 t1 hw2 (LX_LI hp2 (by rw [ht1]))

theorem l2_op4 {L : Nat} {xs : Nat → Int32} {x3 t : Int32} {w : pm_W} {s : ps_S} {Q : Option Value → pm_W → Prop} (ha : ∀ (k : Int32) (_ : pm_in k 6 = true), pm_in (x3 + k) L = true) (hw : ps_R w s) (hI : LI s t) (K : ∀ (w' : pm_W) (s' : ps_S) (t' : Int32), ps_R w' s' → LI s' t' → pm_H (some (L, xs)) 300 310 858 [(3, .int x3), (2, .ref 1131), (1, .ref 0), (0, .ref pm_SC)] [] w' Q) : pm_H (some (L, xs)) 300 310 290 [(3, .int x3), (2, .ref 1131), (1, .ref 0), (0, .ref pm_SC)] [] w Q := by
  refine pm_H.go (pc' := 291) (st' := [.ref 0]) rfl rfl rfl rfl ?_
  refine l2_call (c := 11) (q := 0) (P := ps_rI (fun v s1 => xJ s 0 s1)) rfl rfl rfl (by decide) rfl (by decide) hw (by decide) rfl rfl rfl (xs_153 (d := 259) (LI_J hI) (fun v s1 J1 => J1)) (fun o w1 s1 hw1 hp => ?_)
  obtain ⟨v1, rfl, hp⟩ := l2_int hp
  obtain ⟨t1, ht1⟩ : ∃ t1 : Int32, t1 = 0 := ⟨_, rfl⟩
  have hX : LX s1 t1 t.toInt := by rw [ht1]; exact LI_x hI hp
  obtain ⟨σ, h4⟩ := hX.2.2.2.1
  show pm_H (some (L, xs)) 300 310 294 [(3, .int x3), (2, .ref 1131), (1, .ref 0), (0, .ref pm_SC)] [.int v1] w1 Q
  refine pm_H.go (pc' := 295) (st' := []) rfl rfl rfl rfl ?_
  refine pm_H.go (pc' := 296) (st' := [.ref 1131]) rfl rfl rfl rfl ?_
  refine l2_call (c := 12) (q := 1131) (P := ps_rI (fun v s2 => LX s2 t1 0)) rfl rfl rfl (by decide) rfl (by decide) hw1 (by decide) rfl rfl rfl (ms_240 (d := 292) hX.2.1 h4 (fun v s2 J2 K2 p0 p1 => LX_mk hX J2 (p1) (⟨σ, p0⟩) (LX_D hX K2 rfl) (LX_F hX K2 rfl))) (fun o w2 s2 hw2 hp2 => ?_)
  obtain ⟨v2, rfl, hp2⟩ := l2_int hp2
  show pm_H (some (L, xs)) 300 310 299 [(3, .int x3), (2, .ref 1131), (1, .ref 0), (0, .ref pm_SC)] [.int v2] w2 Q
  refine pm_H.go (pc' := 300) (st' := []) rfl rfl rfl rfl ?_
  refine pm_H.go (pc' := 858) (st' := []) rfl rfl rfl rfl ?_
  exact K w2 s2 t1 hw2 (LX_LI hp2 (by rw [ht1]; rfl))

theorem l2_op5 {L : Nat} {xs : Nat → Int32} {x3 t : Int32} {w : pm_W} {s : ps_S} {Q : Option Value → pm_W → Prop} (ha : ∀ (k : Int32) (_ : pm_in k 6 = true), pm_in (x3 + k) L = true) (hw : ps_R w s) (hI : LI s t) (K : ∀ (w' : pm_W) (s' : ps_S) (t' : Int32), ps_R w' s' → LI s' t' → pm_H (some (L, xs)) 300 310 858 [(3, .int x3), (2, .ref 1131), (1, .ref 0), (0, .ref pm_SC)] [] w' Q) : pm_H (some (L, xs)) 300 310 303 [(3, .int x3), (2, .ref 1131), (1, .ref 0), (0, .ref pm_SC)] [] w Q := by
  refine pm_H.go (pc' := 304) (st' := [.ref 0]) rfl rfl rfl rfl ?_
  refine pm_H.go (pc' := 305) (st' := [.ref pm_SC, .ref 0]) rfl rfl rfl rfl ?_
  refine pm_H.go (pc' := 306) (st' := [.int x3, .ref pm_SC, .ref 0]) rfl rfl rfl rfl ?_
  refine pm_H.go (pc' := 307) (st' := [.int 1, .int x3, .ref pm_SC, .ref 0]) rfl rfl rfl rfl ?_
  refine pm_H.go (pc' := 308) (st' := [.int (x3 + 1), .ref pm_SC, .ref 0]) rfl rfl rfl rfl ?_
  refine pm_H.sld (i := (x3 + 1)) rfl rfl (ha 1 rfl) ?_
  refine l2_call (c := 11) (q := 0) (P := ps_rI (fun v s1 => xJ s t s1)) rfl rfl rfl (by decide) rfl (by decide) hw (by decide) rfl rfl rfl (xs_154 (d := 299) (LI_J hI) (fun v => LI_J hI)) (fun o w1 s1 hw1 hp => ?_)
  obtain ⟨v1, rfl, hp⟩ := l2_int hp
  obtain ⟨t1, ht1⟩ : ∃ t1 : Int32, t1 = t := ⟨_, rfl⟩
  have hX : LX s1 t1 t.toInt := by rw [ht1]; exact LI_x hI hp
  obtain ⟨σ, h4⟩ := hX.2.2.2.1
  show pm_H (some (L, xs)) 300 310 312 [(3, .int x3), (2, .ref 1131), (1, .ref 0), (0, .ref pm_SC)] [.int v1] w1 Q
  refine pm_H.go (pc' := 313) (st' := []) rfl rfl rfl rfl ?_
  refine pm_H.go (pc' := 314) (st' := [.ref 1131]) rfl rfl rfl rfl ?_
  refine pm_H.go (pc' := 315) (st' := [.ref pm_SC, .ref 1131]) rfl rfl rfl rfl ?_
  refine pm_H.go (pc' := 316) (st' := [.int x3, .ref pm_SC, .ref 1131]) rfl rfl rfl rfl ?_
  refine pm_H.go (pc' := 317) (st' := [.int 1, .int x3, .ref pm_SC, .ref 1131]) rfl rfl rfl rfl ?_
  refine pm_H.go (pc' := 318) (st' := [.int (x3 + 1), .ref pm_SC, .ref 1131]) rfl rfl rfl rfl ?_
  refine pm_H.sld (i := (x3 + 1)) rfl rfl (ha 1 rfl) ?_
  refine l2_call (c := 12) (q := 1131) (P := ps_rI (fun v s2 => LX s2 t1 t.toInt)) rfl rfl rfl (by decide) rfl (by decide) hw1 (by decide) rfl rfl rfl (ms_261 (d := 299) hX.2.1 (fun v => hX)) (fun o w2 s2 hw2 hp2 => ?_)
  obtain ⟨v2, rfl, hp2⟩ := l2_int hp2
  show pm_H (some (L, xs)) 300 310 322 [(3, .int x3), (2, .ref 1131), (1, .ref 0), (0, .ref pm_SC)] [.int v2] w2 Q
  refine pm_H.go (pc' := 323) (st' := []) rfl rfl rfl rfl ?_
  refine pm_H.go (pc' := 858) (st' := []) rfl rfl rfl rfl ?_
  exact K w2 s2 t1 hw2 (LX_LI hp2 (by rw [ht1]))

theorem l2_op6 {L : Nat} {xs : Nat → Int32} {x3 t : Int32} {w : pm_W} {s : ps_S} {Q : Option Value → pm_W → Prop} (ha : ∀ (k : Int32) (_ : pm_in k 6 = true), pm_in (x3 + k) L = true) (hw : ps_R w s) (hI : LI s t) (K : ∀ (w' : pm_W) (s' : ps_S) (t' : Int32), ps_R w' s' → LI s' t' → pm_H (some (L, xs)) 300 310 858 [(3, .int x3), (2, .ref 1131), (1, .ref 0), (0, .ref pm_SC)] [] w' Q) : pm_H (some (L, xs)) 300 310 326 [(3, .int x3), (2, .ref 1131), (1, .ref 0), (0, .ref pm_SC)] [] w Q := by
  refine pm_H.go (pc' := 327) (st' := [.ref 0]) rfl rfl rfl rfl ?_
  refine pm_H.go (pc' := 328) (st' := [.ref pm_SC, .ref 0]) rfl rfl rfl rfl ?_
  refine pm_H.go (pc' := 329) (st' := [.int x3, .ref pm_SC, .ref 0]) rfl rfl rfl rfl ?_
  refine pm_H.go (pc' := 330) (st' := [.int 1, .int x3, .ref pm_SC, .ref 0]) rfl rfl rfl rfl ?_
  refine pm_H.go (pc' := 331) (st' := [.int (x3 + 1), .ref pm_SC, .ref 0]) rfl rfl rfl rfl ?_
  refine pm_H.sld (i := (x3 + 1)) rfl rfl (ha 1 rfl) ?_
  refine pm_H.go (pc' := 333) (st' := [.ref pm_SC, .int (xs (Int32.toNatClampNeg (x3 + 1))), .ref 0]) rfl rfl rfl rfl ?_
  refine pm_H.go (pc' := 334) (st' := [.int x3, .ref pm_SC, .int (xs (Int32.toNatClampNeg (x3 + 1))), .ref 0]) rfl rfl rfl rfl ?_
  refine pm_H.go (pc' := 335) (st' := [.int 2, .int x3, .ref pm_SC, .int (xs (Int32.toNatClampNeg (x3 + 1))), .ref 0]) rfl rfl rfl rfl ?_
  refine pm_H.go (pc' := 336) (st' := [.int (x3 + 2), .ref pm_SC, .int (xs (Int32.toNatClampNeg (x3 + 1))), .ref 0]) rfl rfl rfl rfl ?_
  refine pm_H.sld (i := (x3 + 2)) rfl rfl (ha 2 rfl) ?_
  refine l2_call (c := 11) (q := 0) (P := ps_rI (fun v s1 => xJ s t s1)) rfl rfl rfl (by decide) rfl (by decide) hw (by decide) rfl rfl rfl (xs_155 (d := 298) (LI_J hI) (fun v => LI_J hI)) (fun o w1 s1 hw1 hp => ?_)
  obtain ⟨v1, rfl, hp⟩ := l2_int hp
  obtain ⟨t1, ht1⟩ : ∃ t1 : Int32, t1 = t := ⟨_, rfl⟩
  have hX : LX s1 t1 t.toInt := by rw [ht1]; exact LI_x hI hp
  obtain ⟨σ, h4⟩ := hX.2.2.2.1
  show pm_H (some (L, xs)) 300 310 340 [(3, .int x3), (2, .ref 1131), (1, .ref 0), (0, .ref pm_SC)] [.int v1] w1 Q
  refine pm_H.go (pc' := 341) (st' := []) rfl rfl rfl rfl ?_
  refine pm_H.go (pc' := 342) (st' := [.ref 1131]) rfl rfl rfl rfl ?_
  refine pm_H.go (pc' := 343) (st' := [.ref pm_SC, .ref 1131]) rfl rfl rfl rfl ?_
  refine pm_H.go (pc' := 344) (st' := [.int x3, .ref pm_SC, .ref 1131]) rfl rfl rfl rfl ?_
  refine pm_H.go (pc' := 345) (st' := [.int 1, .int x3, .ref pm_SC, .ref 1131]) rfl rfl rfl rfl ?_
  refine pm_H.go (pc' := 346) (st' := [.int (x3 + 1), .ref pm_SC, .ref 1131]) rfl rfl rfl rfl ?_
  refine pm_H.sld (i := (x3 + 1)) rfl rfl (ha 1 rfl) ?_
  refine pm_H.go (pc' := 348) (st' := [.ref pm_SC, .int (xs (Int32.toNatClampNeg (x3 + 1))), .ref 1131]) rfl rfl rfl rfl ?_
  refine pm_H.go (pc' := 349) (st' := [.int x3, .ref pm_SC, .int (xs (Int32.toNatClampNeg (x3 + 1))), .ref 1131]) rfl rfl rfl rfl ?_
  refine pm_H.go (pc' := 350) (st' := [.int 2, .int x3, .ref pm_SC, .int (xs (Int32.toNatClampNeg (x3 + 1))), .ref 1131]) rfl rfl rfl rfl ?_
  refine pm_H.go (pc' := 351) (st' := [.int (x3 + 2), .ref pm_SC, .int (xs (Int32.toNatClampNeg (x3 + 1))), .ref 1131]) rfl rfl rfl rfl ?_
  refine pm_H.sld (i := (x3 + 2)) rfl rfl (ha 2 rfl) ?_
  refine l2_call (c := 12) (q := 1131) (P := ps_rI (fun v s2 => LX s2 t1 t.toInt)) rfl rfl rfl (by decide) rfl (by decide) hw1 (by decide) rfl rfl rfl (ms_263 (d := 297) hX.2.1 (fun v => hX)) (fun o w2 s2 hw2 hp2 => ?_)
  obtain ⟨v2, rfl, hp2⟩ := l2_int hp2
  show pm_H (some (L, xs)) 300 310 355 [(3, .int x3), (2, .ref 1131), (1, .ref 0), (0, .ref pm_SC)] [.int v2] w2 Q
  refine pm_H.go (pc' := 356) (st' := []) rfl rfl rfl rfl ?_
  refine pm_H.go (pc' := 858) (st' := []) rfl rfl rfl rfl ?_
  exact K w2 s2 t1 hw2 (LX_LI hp2 (by rw [ht1]))

theorem l2_op7 {L : Nat} {xs : Nat → Int32} {x3 t : Int32} {w : pm_W} {s : ps_S} {Q : Option Value → pm_W → Prop} (ha : ∀ (k : Int32) (_ : pm_in k 6 = true), pm_in (x3 + k) L = true) (hw : ps_R w s) (hI : LI s t) (K : ∀ (w' : pm_W) (s' : ps_S) (t' : Int32), ps_R w' s' → LI s' t' → pm_H (some (L, xs)) 300 310 858 [(3, .int x3), (2, .ref 1131), (1, .ref 0), (0, .ref pm_SC)] [] w' Q) : pm_H (some (L, xs)) 300 310 359 [(3, .int x3), (2, .ref 1131), (1, .ref 0), (0, .ref pm_SC)] [] w Q := by
  refine pm_H.go (pc' := 360) (st' := [.ref 0]) rfl rfl rfl rfl ?_
  refine pm_H.go (pc' := 361) (st' := [.ref pm_SC, .ref 0]) rfl rfl rfl rfl ?_
  refine pm_H.go (pc' := 362) (st' := [.int x3, .ref pm_SC, .ref 0]) rfl rfl rfl rfl ?_
  refine pm_H.go (pc' := 363) (st' := [.int 1, .int x3, .ref pm_SC, .ref 0]) rfl rfl rfl rfl ?_
  refine pm_H.go (pc' := 364) (st' := [.int (x3 + 1), .ref pm_SC, .ref 0]) rfl rfl rfl rfl ?_
  refine pm_H.sld (i := (x3 + 1)) rfl rfl (ha 1 rfl) ?_
  refine pm_H.go (pc' := 366) (st' := [.ref pm_SC, .int (xs (Int32.toNatClampNeg (x3 + 1))), .ref 0]) rfl rfl rfl rfl ?_
  refine pm_H.go (pc' := 367) (st' := [.int x3, .ref pm_SC, .int (xs (Int32.toNatClampNeg (x3 + 1))), .ref 0]) rfl rfl rfl rfl ?_
  refine pm_H.go (pc' := 368) (st' := [.int 2, .int x3, .ref pm_SC, .int (xs (Int32.toNatClampNeg (x3 + 1))), .ref 0]) rfl rfl rfl rfl ?_
  refine pm_H.go (pc' := 369) (st' := [.int (x3 + 2), .ref pm_SC, .int (xs (Int32.toNatClampNeg (x3 + 1))), .ref 0]) rfl rfl rfl rfl ?_
  refine pm_H.sld (i := (x3 + 2)) rfl rfl (ha 2 rfl) ?_
  refine l2_call (c := 11) (q := 0) (P := ps_rI (fun v s1 => xJ s t s1)) rfl rfl rfl (by decide) rfl (by decide) hw (by decide) rfl rfl rfl (xs_156 (d := 298) (LI_J hI) (fun v => LI_J hI)) (fun o w1 s1 hw1 hp => ?_)
  obtain ⟨v1, rfl, hp⟩ := l2_int hp
  obtain ⟨t1, ht1⟩ : ∃ t1 : Int32, t1 = t := ⟨_, rfl⟩
  have hX : LX s1 t1 t.toInt := by rw [ht1]; exact LI_x hI hp
  obtain ⟨σ, h4⟩ := hX.2.2.2.1
  show pm_H (some (L, xs)) 300 310 373 [(3, .int x3), (2, .ref 1131), (1, .ref 0), (0, .ref pm_SC)] [.int v1] w1 Q
  refine pm_H.go (pc' := 374) (st' := []) rfl rfl rfl rfl ?_
  refine pm_H.go (pc' := 375) (st' := [.ref 1131]) rfl rfl rfl rfl ?_
  refine pm_H.go (pc' := 376) (st' := [.ref pm_SC, .ref 1131]) rfl rfl rfl rfl ?_
  refine pm_H.go (pc' := 377) (st' := [.int x3, .ref pm_SC, .ref 1131]) rfl rfl rfl rfl ?_
  refine pm_H.go (pc' := 378) (st' := [.int 1, .int x3, .ref pm_SC, .ref 1131]) rfl rfl rfl rfl ?_
  refine pm_H.go (pc' := 379) (st' := [.int (x3 + 1), .ref pm_SC, .ref 1131]) rfl rfl rfl rfl ?_
  refine pm_H.sld (i := (x3 + 1)) rfl rfl (ha 1 rfl) ?_
  refine pm_H.go (pc' := 381) (st' := [.ref pm_SC, .int (xs (Int32.toNatClampNeg (x3 + 1))), .ref 1131]) rfl rfl rfl rfl ?_
  refine pm_H.go (pc' := 382) (st' := [.int x3, .ref pm_SC, .int (xs (Int32.toNatClampNeg (x3 + 1))), .ref 1131]) rfl rfl rfl rfl ?_
  refine pm_H.go (pc' := 383) (st' := [.int 2, .int x3, .ref pm_SC, .int (xs (Int32.toNatClampNeg (x3 + 1))), .ref 1131]) rfl rfl rfl rfl ?_
  refine pm_H.go (pc' := 384) (st' := [.int (x3 + 2), .ref pm_SC, .int (xs (Int32.toNatClampNeg (x3 + 1))), .ref 1131]) rfl rfl rfl rfl ?_
  refine pm_H.sld (i := (x3 + 2)) rfl rfl (ha 2 rfl) ?_
  refine l2_call (c := 12) (q := 1131) (P := ps_rI (fun v s2 => LX s2 t1 t.toInt)) rfl rfl rfl (by decide) rfl (by decide) hw1 (by decide) rfl rfl rfl (ms_265 (d := 297) hX.2.1 (fun v => hX)) (fun o w2 s2 hw2 hp2 => ?_)
  obtain ⟨v2, rfl, hp2⟩ := l2_int hp2
  show pm_H (some (L, xs)) 300 310 388 [(3, .int x3), (2, .ref 1131), (1, .ref 0), (0, .ref pm_SC)] [.int v2] w2 Q
  refine pm_H.go (pc' := 389) (st' := []) rfl rfl rfl rfl ?_
  refine pm_H.go (pc' := 858) (st' := []) rfl rfl rfl rfl ?_
  exact K w2 s2 t1 hw2 (LX_LI hp2 (by rw [ht1]))

theorem l2_op8 {L : Nat} {xs : Nat → Int32} {x3 t : Int32} {w : pm_W} {s : ps_S} {Q : Option Value → pm_W → Prop} (ha : ∀ (k : Int32) (_ : pm_in k 6 = true), pm_in (x3 + k) L = true) (hw : ps_R w s) (hI : LI s t) (K : ∀ (w' : pm_W) (s' : ps_S) (t' : Int32), ps_R w' s' → LI s' t' → pm_H (some (L, xs)) 300 310 858 [(3, .int x3), (2, .ref 1131), (1, .ref 0), (0, .ref pm_SC)] [] w' Q) : pm_H (some (L, xs)) 300 310 392 [(3, .int x3), (2, .ref 1131), (1, .ref 0), (0, .ref pm_SC)] [] w Q := by
  refine pm_H.go (pc' := 393) (st' := [.ref 0]) rfl rfl rfl rfl ?_
  refine pm_H.go (pc' := 394) (st' := [.ref pm_SC, .ref 0]) rfl rfl rfl rfl ?_
  refine pm_H.go (pc' := 395) (st' := [.int x3, .ref pm_SC, .ref 0]) rfl rfl rfl rfl ?_
  refine pm_H.go (pc' := 396) (st' := [.int 1, .int x3, .ref pm_SC, .ref 0]) rfl rfl rfl rfl ?_
  refine pm_H.go (pc' := 397) (st' := [.int (x3 + 1), .ref pm_SC, .ref 0]) rfl rfl rfl rfl ?_
  refine pm_H.sld (i := (x3 + 1)) rfl rfl (ha 1 rfl) ?_
  refine pm_H.go (pc' := 399) (st' := [.ref pm_SC, .int (xs (Int32.toNatClampNeg (x3 + 1))), .ref 0]) rfl rfl rfl rfl ?_
  refine pm_H.go (pc' := 400) (st' := [.int x3, .ref pm_SC, .int (xs (Int32.toNatClampNeg (x3 + 1))), .ref 0]) rfl rfl rfl rfl ?_
  refine pm_H.go (pc' := 401) (st' := [.int 2, .int x3, .ref pm_SC, .int (xs (Int32.toNatClampNeg (x3 + 1))), .ref 0]) rfl rfl rfl rfl ?_
  refine pm_H.go (pc' := 402) (st' := [.int (x3 + 2), .ref pm_SC, .int (xs (Int32.toNatClampNeg (x3 + 1))), .ref 0]) rfl rfl rfl rfl ?_
  refine pm_H.sld (i := (x3 + 2)) rfl rfl (ha 2 rfl) ?_
  refine pm_H.go (pc' := 404) (st' := [.ref pm_SC, .int (xs (Int32.toNatClampNeg (x3 + 2))), .int (xs (Int32.toNatClampNeg (x3 + 1))), .ref 0]) rfl rfl rfl rfl ?_
  refine pm_H.go (pc' := 405) (st' := [.int x3, .ref pm_SC, .int (xs (Int32.toNatClampNeg (x3 + 2))), .int (xs (Int32.toNatClampNeg (x3 + 1))), .ref 0]) rfl rfl rfl rfl ?_
  refine pm_H.go (pc' := 406) (st' := [.int 3, .int x3, .ref pm_SC, .int (xs (Int32.toNatClampNeg (x3 + 2))), .int (xs (Int32.toNatClampNeg (x3 + 1))), .ref 0]) rfl rfl rfl rfl ?_
  refine pm_H.go (pc' := 407) (st' := [.int (x3 + 3), .ref pm_SC, .int (xs (Int32.toNatClampNeg (x3 + 2))), .int (xs (Int32.toNatClampNeg (x3 + 1))), .ref 0]) rfl rfl rfl rfl ?_
  refine pm_H.sld (i := (x3 + 3)) rfl rfl (ha 3 rfl) ?_
  refine l2_call (c := 11) (q := 0) (P := ps_rI (fun v s1 => xJ s t s1)) rfl rfl rfl (by decide) rfl (by decide) hw (by decide) rfl rfl rfl (xs_157 (d := 297) (LI_J hI) (fun v => LI_J hI)) (fun o w1 s1 hw1 hp => ?_)
  obtain ⟨v1, rfl, hp⟩ := l2_int hp
  obtain ⟨t1, ht1⟩ : ∃ t1 : Int32, t1 = t := ⟨_, rfl⟩
  have hX : LX s1 t1 t.toInt := by rw [ht1]; exact LI_x hI hp
  obtain ⟨σ, h4⟩ := hX.2.2.2.1
  show pm_H (some (L, xs)) 300 310 411 [(3, .int x3), (2, .ref 1131), (1, .ref 0), (0, .ref pm_SC)] [.int v1] w1 Q
  refine pm_H.go (pc' := 412) (st' := []) rfl rfl rfl rfl ?_
  refine pm_H.go (pc' := 413) (st' := [.ref 1131]) rfl rfl rfl rfl ?_
  refine pm_H.go (pc' := 414) (st' := [.ref pm_SC, .ref 1131]) rfl rfl rfl rfl ?_
  refine pm_H.go (pc' := 415) (st' := [.int x3, .ref pm_SC, .ref 1131]) rfl rfl rfl rfl ?_
  refine pm_H.go (pc' := 416) (st' := [.int 1, .int x3, .ref pm_SC, .ref 1131]) rfl rfl rfl rfl ?_
  refine pm_H.go (pc' := 417) (st' := [.int (x3 + 1), .ref pm_SC, .ref 1131]) rfl rfl rfl rfl ?_
  refine pm_H.sld (i := (x3 + 1)) rfl rfl (ha 1 rfl) ?_
  refine pm_H.go (pc' := 419) (st' := [.ref pm_SC, .int (xs (Int32.toNatClampNeg (x3 + 1))), .ref 1131]) rfl rfl rfl rfl ?_
  refine pm_H.go (pc' := 420) (st' := [.int x3, .ref pm_SC, .int (xs (Int32.toNatClampNeg (x3 + 1))), .ref 1131]) rfl rfl rfl rfl ?_
  refine pm_H.go (pc' := 421) (st' := [.int 2, .int x3, .ref pm_SC, .int (xs (Int32.toNatClampNeg (x3 + 1))), .ref 1131]) rfl rfl rfl rfl ?_
  refine pm_H.go (pc' := 422) (st' := [.int (x3 + 2), .ref pm_SC, .int (xs (Int32.toNatClampNeg (x3 + 1))), .ref 1131]) rfl rfl rfl rfl ?_
  refine pm_H.sld (i := (x3 + 2)) rfl rfl (ha 2 rfl) ?_
  refine pm_H.go (pc' := 424) (st' := [.ref pm_SC, .int (xs (Int32.toNatClampNeg (x3 + 2))), .int (xs (Int32.toNatClampNeg (x3 + 1))), .ref 1131]) rfl rfl rfl rfl ?_
  refine pm_H.go (pc' := 425) (st' := [.int x3, .ref pm_SC, .int (xs (Int32.toNatClampNeg (x3 + 2))), .int (xs (Int32.toNatClampNeg (x3 + 1))), .ref 1131]) rfl rfl rfl rfl ?_
  refine pm_H.go (pc' := 426) (st' := [.int 3, .int x3, .ref pm_SC, .int (xs (Int32.toNatClampNeg (x3 + 2))), .int (xs (Int32.toNatClampNeg (x3 + 1))), .ref 1131]) rfl rfl rfl rfl ?_
  refine pm_H.go (pc' := 427) (st' := [.int (x3 + 3), .ref pm_SC, .int (xs (Int32.toNatClampNeg (x3 + 2))), .int (xs (Int32.toNatClampNeg (x3 + 1))), .ref 1131]) rfl rfl rfl rfl ?_
  refine pm_H.sld (i := (x3 + 3)) rfl rfl (ha 3 rfl) ?_
  refine l2_call (c := 12) (q := 1131) (P := ps_rI (fun v s2 => LX s2 t1 t.toInt)) rfl rfl rfl (by decide) rfl (by decide) hw1 (by decide) rfl rfl rfl (ms_266 (d := 297) hX.2.1 (fun v => hX)) (fun o w2 s2 hw2 hp2 => ?_)
  obtain ⟨v2, rfl, hp2⟩ := l2_int hp2
  show pm_H (some (L, xs)) 300 310 431 [(3, .int x3), (2, .ref 1131), (1, .ref 0), (0, .ref pm_SC)] [.int v2] w2 Q
  refine pm_H.go (pc' := 432) (st' := []) rfl rfl rfl rfl ?_
  refine pm_H.go (pc' := 858) (st' := []) rfl rfl rfl rfl ?_
  exact K w2 s2 t1 hw2 (LX_LI hp2 (by rw [ht1]))

theorem l2_op9 {L : Nat} {xs : Nat → Int32} {x3 t : Int32} {w : pm_W} {s : ps_S} {Q : Option Value → pm_W → Prop} (ha : ∀ (k : Int32) (_ : pm_in k 6 = true), pm_in (x3 + k) L = true) (hw : ps_R w s) (hI : LI s t) (K : ∀ (w' : pm_W) (s' : ps_S) (t' : Int32), ps_R w' s' → LI s' t' → pm_H (some (L, xs)) 300 310 858 [(3, .int x3), (2, .ref 1131), (1, .ref 0), (0, .ref pm_SC)] [] w' Q) : pm_H (some (L, xs)) 300 310 435 [(3, .int x3), (2, .ref 1131), (1, .ref 0), (0, .ref pm_SC)] [] w Q := by
  refine pm_H.go (pc' := 436) (st' := [.ref 0]) rfl rfl rfl rfl ?_
  refine l2_call (c := 11) (q := 0) (P := ps_rI (fun v s1 => xJ s t s1)) rfl rfl rfl (by decide) rfl (by decide) hw (by decide) rfl rfl rfl (xs_158 (d := 295) (LI_J hI) (fun v s1 J1 => J1)) (fun o w1 s1 hw1 hp => ?_)
  obtain ⟨v1, rfl, hp⟩ := l2_int hp
  obtain ⟨t1, ht1⟩ : ∃ t1 : Int32, t1 = t := ⟨_, rfl⟩
  have hX : LX s1 t1 t.toInt := by rw [ht1]; exact LI_x hI hp
  obtain ⟨σ, h4⟩ := hX.2.2.2.1
  show pm_H (some (L, xs)) 300 310 439 [(3, .int x3), (2, .ref 1131), (1, .ref 0), (0, .ref pm_SC)] [.int v1] w1 Q
  refine pm_H.go (pc' := 440) (st' := []) rfl rfl rfl rfl ?_
  refine pm_H.go (pc' := 441) (st' := [.ref 1131]) rfl rfl rfl rfl ?_
  refine l2_call (c := 12) (q := 1131) (P := ps_rI (fun v s2 => LX s2 t1 t.toInt)) rfl rfl rfl (by decide) rfl (by decide) hw1 (by decide) rfl rfl rfl (ms_268 (d := 298) hX.2.1 h4 (fun v s2 J2 K2 p0 => LX_mk hX J2 (LX_3 hX K2 rfl) (⟨σ, p0⟩) (LX_D hX K2 rfl) (LX_F hX K2 rfl))) (fun o w2 s2 hw2 hp2 => ?_)
  obtain ⟨v2, rfl, hp2⟩ := l2_int hp2
  show pm_H (some (L, xs)) 300 310 444 [(3, .int x3), (2, .ref 1131), (1, .ref 0), (0, .ref pm_SC)] [.int v2] w2 Q
  refine pm_H.go (pc' := 445) (st' := []) rfl rfl rfl rfl ?_
  refine pm_H.go (pc' := 858) (st' := []) rfl rfl rfl rfl ?_
  exact K w2 s2 t1 hw2 (LX_LI hp2 (by rw [ht1]))

theorem l2_op10 {L : Nat} {xs : Nat → Int32} {x3 t : Int32} {w : pm_W} {s : ps_S} {Q : Option Value → pm_W → Prop} (ha : ∀ (k : Int32) (_ : pm_in k 6 = true), pm_in (x3 + k) L = true) (hw : ps_R w s) (hI : LI s t) (K : ∀ (w' : pm_W) (s' : ps_S) (t' : Int32), ps_R w' s' → LI s' t' → pm_H (some (L, xs)) 300 310 858 [(3, .int x3), (2, .ref 1131), (1, .ref 0), (0, .ref pm_SC)] [] w' Q) : pm_H (some (L, xs)) 300 310 448 [(3, .int x3), (2, .ref 1131), (1, .ref 0), (0, .ref pm_SC)] [] w Q := by
  refine pm_H.go (pc' := 449) (st' := [.ref 0]) rfl rfl rfl rfl ?_
  refine pm_H.go (pc' := 450) (st' := [.ref pm_SC, .ref 0]) rfl rfl rfl rfl ?_
  refine pm_H.go (pc' := 451) (st' := [.int x3, .ref pm_SC, .ref 0]) rfl rfl rfl rfl ?_
  refine pm_H.go (pc' := 452) (st' := [.int 1, .int x3, .ref pm_SC, .ref 0]) rfl rfl rfl rfl ?_
  refine pm_H.go (pc' := 453) (st' := [.int (x3 + 1), .ref pm_SC, .ref 0]) rfl rfl rfl rfl ?_
  refine pm_H.sld (i := (x3 + 1)) rfl rfl (ha 1 rfl) ?_
  refine pm_H.go (pc' := 455) (st' := [.ref pm_SC, .int (xs (Int32.toNatClampNeg (x3 + 1))), .ref 0]) rfl rfl rfl rfl ?_
  refine pm_H.go (pc' := 456) (st' := [.int x3, .ref pm_SC, .int (xs (Int32.toNatClampNeg (x3 + 1))), .ref 0]) rfl rfl rfl rfl ?_
  refine pm_H.go (pc' := 457) (st' := [.int 2, .int x3, .ref pm_SC, .int (xs (Int32.toNatClampNeg (x3 + 1))), .ref 0]) rfl rfl rfl rfl ?_
  refine pm_H.go (pc' := 458) (st' := [.int (x3 + 2), .ref pm_SC, .int (xs (Int32.toNatClampNeg (x3 + 1))), .ref 0]) rfl rfl rfl rfl ?_
  refine pm_H.sld (i := (x3 + 2)) rfl rfl (ha 2 rfl) ?_
  refine l2_call (c := 11) (q := 0) (P := ps_rI (fun v s1 => xJ s t s1)) rfl rfl rfl (by decide) rfl (by decide) hw (by decide) rfl rfl rfl (xs_159 (d := 298) (LI_J hI) (fun v => LI_J hI)) (fun o w1 s1 hw1 hp => ?_)
  obtain ⟨v1, rfl, hp⟩ := l2_int hp
  obtain ⟨t1, ht1⟩ : ∃ t1 : Int32, t1 = t := ⟨_, rfl⟩
  have hX : LX s1 t1 t.toInt := by rw [ht1]; exact LI_x hI hp
  obtain ⟨σ, h4⟩ := hX.2.2.2.1
  show pm_H (some (L, xs)) 300 310 462 [(3, .int x3), (2, .ref 1131), (1, .ref 0), (0, .ref pm_SC)] [.int v1] w1 Q
  refine pm_H.go (pc' := 463) (st' := []) rfl rfl rfl rfl ?_
  refine pm_H.go (pc' := 464) (st' := [.ref 1131]) rfl rfl rfl rfl ?_
  refine pm_H.go (pc' := 465) (st' := [.ref pm_SC, .ref 1131]) rfl rfl rfl rfl ?_
  refine pm_H.go (pc' := 466) (st' := [.int x3, .ref pm_SC, .ref 1131]) rfl rfl rfl rfl ?_
  refine pm_H.go (pc' := 467) (st' := [.int 1, .int x3, .ref pm_SC, .ref 1131]) rfl rfl rfl rfl ?_
  refine pm_H.go (pc' := 468) (st' := [.int (x3 + 1), .ref pm_SC, .ref 1131]) rfl rfl rfl rfl ?_
  refine pm_H.sld (i := (x3 + 1)) rfl rfl (ha 1 rfl) ?_
  refine pm_H.go (pc' := 470) (st' := [.ref pm_SC, .int (xs (Int32.toNatClampNeg (x3 + 1))), .ref 1131]) rfl rfl rfl rfl ?_
  refine pm_H.go (pc' := 471) (st' := [.int x3, .ref pm_SC, .int (xs (Int32.toNatClampNeg (x3 + 1))), .ref 1131]) rfl rfl rfl rfl ?_
  refine pm_H.go (pc' := 472) (st' := [.int 2, .int x3, .ref pm_SC, .int (xs (Int32.toNatClampNeg (x3 + 1))), .ref 1131]) rfl rfl rfl rfl ?_
  refine pm_H.go (pc' := 473) (st' := [.int (x3 + 2), .ref pm_SC, .int (xs (Int32.toNatClampNeg (x3 + 1))), .ref 1131]) rfl rfl rfl rfl ?_
  refine pm_H.sld (i := (x3 + 2)) rfl rfl (ha 2 rfl) ?_
  refine l2_call (c := 12) (q := 1131) (P := ps_rI (fun v s2 => LX s2 t1 t.toInt)) rfl rfl rfl (by decide) rfl (by decide) hw1 (by decide) rfl rfl rfl (ms_269 (d := 297) hX.2.1 (fun v => hX)) (fun o w2 s2 hw2 hp2 => ?_)
  obtain ⟨v2, rfl, hp2⟩ := l2_int hp2
  show pm_H (some (L, xs)) 300 310 477 [(3, .int x3), (2, .ref 1131), (1, .ref 0), (0, .ref pm_SC)] [.int v2] w2 Q
  refine pm_H.go (pc' := 478) (st' := []) rfl rfl rfl rfl ?_
  refine pm_H.go (pc' := 858) (st' := []) rfl rfl rfl rfl ?_
  exact K w2 s2 t1 hw2 (LX_LI hp2 (by rw [ht1]))

theorem l2_op11 {L : Nat} {xs : Nat → Int32} {x3 t : Int32} {w : pm_W} {s : ps_S} {Q : Option Value → pm_W → Prop} (ha : ∀ (k : Int32) (_ : pm_in k 6 = true), pm_in (x3 + k) L = true) (hw : ps_R w s) (hI : LI s t) (K : ∀ (w' : pm_W) (s' : ps_S) (t' : Int32), ps_R w' s' → LI s' t' → pm_H (some (L, xs)) 300 310 858 [(3, .int x3), (2, .ref 1131), (1, .ref 0), (0, .ref pm_SC)] [] w' Q) : pm_H (some (L, xs)) 300 310 481 [(3, .int x3), (2, .ref 1131), (1, .ref 0), (0, .ref pm_SC)] [] w Q := by
  refine pm_H.go (pc' := 482) (st' := [.ref 0]) rfl rfl rfl rfl ?_
  refine pm_H.go (pc' := 483) (st' := [.ref pm_SC, .ref 0]) rfl rfl rfl rfl ?_
  refine pm_H.go (pc' := 484) (st' := [.int x3, .ref pm_SC, .ref 0]) rfl rfl rfl rfl ?_
  refine pm_H.go (pc' := 485) (st' := [.int 1, .int x3, .ref pm_SC, .ref 0]) rfl rfl rfl rfl ?_
  refine pm_H.go (pc' := 486) (st' := [.int (x3 + 1), .ref pm_SC, .ref 0]) rfl rfl rfl rfl ?_
  refine pm_H.sld (i := (x3 + 1)) rfl rfl (ha 1 rfl) ?_
  refine pm_H.go (pc' := 488) (st' := [.ref pm_SC, .int (xs (Int32.toNatClampNeg (x3 + 1))), .ref 0]) rfl rfl rfl rfl ?_
  refine pm_H.go (pc' := 489) (st' := [.int x3, .ref pm_SC, .int (xs (Int32.toNatClampNeg (x3 + 1))), .ref 0]) rfl rfl rfl rfl ?_
  refine pm_H.go (pc' := 490) (st' := [.int 2, .int x3, .ref pm_SC, .int (xs (Int32.toNatClampNeg (x3 + 1))), .ref 0]) rfl rfl rfl rfl ?_
  refine pm_H.go (pc' := 491) (st' := [.int (x3 + 2), .ref pm_SC, .int (xs (Int32.toNatClampNeg (x3 + 1))), .ref 0]) rfl rfl rfl rfl ?_
  refine pm_H.sld (i := (x3 + 2)) rfl rfl (ha 2 rfl) ?_
  refine l2_call (c := 11) (q := 0) (P := ps_rI (fun v s1 => xJ s t s1)) rfl rfl rfl (by decide) rfl (by decide) hw (by decide) rfl rfl rfl (xs_160 (d := 298) (LI_J hI) (fun v => LI_J hI)) (fun o w1 s1 hw1 hp => ?_)
  obtain ⟨v1, rfl, hp⟩ := l2_int hp
  obtain ⟨t1, ht1⟩ : ∃ t1 : Int32, t1 = t := ⟨_, rfl⟩
  have hX : LX s1 t1 t.toInt := by rw [ht1]; exact LI_x hI hp
  obtain ⟨σ, h4⟩ := hX.2.2.2.1
  show pm_H (some (L, xs)) 300 310 495 [(3, .int x3), (2, .ref 1131), (1, .ref 0), (0, .ref pm_SC)] [.int v1] w1 Q
  refine pm_H.go (pc' := 496) (st' := []) rfl rfl rfl rfl ?_
  refine pm_H.go (pc' := 497) (st' := [.ref 1131]) rfl rfl rfl rfl ?_
  refine pm_H.go (pc' := 498) (st' := [.ref pm_SC, .ref 1131]) rfl rfl rfl rfl ?_
  refine pm_H.go (pc' := 499) (st' := [.int x3, .ref pm_SC, .ref 1131]) rfl rfl rfl rfl ?_
  refine pm_H.go (pc' := 500) (st' := [.int 1, .int x3, .ref pm_SC, .ref 1131]) rfl rfl rfl rfl ?_
  refine pm_H.go (pc' := 501) (st' := [.int (x3 + 1), .ref pm_SC, .ref 1131]) rfl rfl rfl rfl ?_
  refine pm_H.sld (i := (x3 + 1)) rfl rfl (ha 1 rfl) ?_
  refine pm_H.go (pc' := 503) (st' := [.ref pm_SC, .int (xs (Int32.toNatClampNeg (x3 + 1))), .ref 1131]) rfl rfl rfl rfl ?_
  refine pm_H.go (pc' := 504) (st' := [.int x3, .ref pm_SC, .int (xs (Int32.toNatClampNeg (x3 + 1))), .ref 1131]) rfl rfl rfl rfl ?_
  refine pm_H.go (pc' := 505) (st' := [.int 2, .int x3, .ref pm_SC, .int (xs (Int32.toNatClampNeg (x3 + 1))), .ref 1131]) rfl rfl rfl rfl ?_
  refine pm_H.go (pc' := 506) (st' := [.int (x3 + 2), .ref pm_SC, .int (xs (Int32.toNatClampNeg (x3 + 1))), .ref 1131]) rfl rfl rfl rfl ?_
  refine pm_H.sld (i := (x3 + 2)) rfl rfl (ha 2 rfl) ?_
  refine l2_call (c := 12) (q := 1131) (P := ps_rI (fun v s2 => LX s2 t1 t.toInt)) rfl rfl rfl (by decide) rfl (by decide) hw1 (by decide) rfl rfl rfl (ms_271 (d := 298) hX.2.1 (fun v => hX)) (fun o w2 s2 hw2 hp2 => ?_)
  obtain ⟨v2, rfl, hp2⟩ := l2_int hp2
  show pm_H (some (L, xs)) 300 310 510 [(3, .int x3), (2, .ref 1131), (1, .ref 0), (0, .ref pm_SC)] [.int v2] w2 Q
  refine pm_H.go (pc' := 511) (st' := []) rfl rfl rfl rfl ?_
  refine pm_H.go (pc' := 858) (st' := []) rfl rfl rfl rfl ?_
  exact K w2 s2 t1 hw2 (LX_LI hp2 (by rw [ht1]))

theorem l2_op12 {L : Nat} {xs : Nat → Int32} {x3 t : Int32} {w : pm_W} {s : ps_S} {Q : Option Value → pm_W → Prop} (ha : ∀ (k : Int32) (_ : pm_in k 6 = true), pm_in (x3 + k) L = true) (hw : ps_R w s) (hI : LI s t) (K : ∀ (w' : pm_W) (s' : ps_S) (t' : Int32), ps_R w' s' → LI s' t' → pm_H (some (L, xs)) 300 310 858 [(3, .int x3), (2, .ref 1131), (1, .ref 0), (0, .ref pm_SC)] [] w' Q) : pm_H (some (L, xs)) 300 310 514 [(3, .int x3), (2, .ref 1131), (1, .ref 0), (0, .ref pm_SC)] [] w Q := by
  refine pm_H.go (pc' := 515) (st' := [.ref 0]) rfl rfl rfl rfl ?_
  refine l2_call (c := 11) (q := 0) (P := ps_rI (fun v s1 => xJ s t s1)) rfl rfl rfl (by decide) rfl (by decide) hw (by decide) rfl rfl rfl (xs_161 (d := 298) (LI_J hI) (fun v s1 J1 => J1)) (fun o w1 s1 hw1 hp => ?_)
  obtain ⟨v1, rfl, hp⟩ := l2_int hp
  obtain ⟨t1, ht1⟩ : ∃ t1 : Int32, t1 = t := ⟨_, rfl⟩
  have hX : LX s1 t1 t.toInt := by rw [ht1]; exact LI_x hI hp
  obtain ⟨σ, h4⟩ := hX.2.2.2.1
  show pm_H (some (L, xs)) 300 310 518 [(3, .int x3), (2, .ref 1131), (1, .ref 0), (0, .ref pm_SC)] [.int v1] w1 Q
  refine pm_H.go (pc' := 519) (st' := []) rfl rfl rfl rfl ?_
  refine pm_H.go (pc' := 520) (st' := [.ref 1131]) rfl rfl rfl rfl ?_
  refine l2_call (c := 12) (q := 1131) (P := ps_rI (fun v s2 => LX s2 t1 t.toInt)) rfl rfl rfl (by decide) rfl (by decide) hw1 (by decide) rfl rfl rfl (ms_273 (d := 298) hX.2.1 h4 (fun v s2 J2 K2 p0 => LX_mk hX J2 (LX_3 hX K2 rfl) (⟨σ, p0⟩) (LX_D hX K2 rfl) (LX_F hX K2 rfl))) (fun o w2 s2 hw2 hp2 => ?_)
  obtain ⟨v2, rfl, hp2⟩ := l2_int hp2
  show pm_H (some (L, xs)) 300 310 523 [(3, .int x3), (2, .ref 1131), (1, .ref 0), (0, .ref pm_SC)] [.int v2] w2 Q
  refine pm_H.go (pc' := 524) (st' := []) rfl rfl rfl rfl ?_
  refine pm_H.go (pc' := 858) (st' := []) rfl rfl rfl rfl ?_
  exact K w2 s2 t1 hw2 (LX_LI hp2 (by rw [ht1]))

theorem l2_op13 {L : Nat} {xs : Nat → Int32} {x3 t : Int32} {w : pm_W} {s : ps_S} {Q : Option Value → pm_W → Prop} (ha : ∀ (k : Int32) (_ : pm_in k 6 = true), pm_in (x3 + k) L = true) (hw : ps_R w s) (hI : LI s t) (K : ∀ (w' : pm_W) (s' : ps_S) (t' : Int32), ps_R w' s' → LI s' t' → pm_H (some (L, xs)) 300 310 858 [(3, .int x3), (2, .ref 1131), (1, .ref 0), (0, .ref pm_SC)] [] w' Q) : pm_H (some (L, xs)) 300 310 527 [(3, .int x3), (2, .ref 1131), (1, .ref 0), (0, .ref pm_SC)] [] w Q := by
  refine pm_H.go (pc' := 528) (st' := [.ref 0]) rfl rfl rfl rfl ?_
  refine l2_call (c := 11) (q := 0) (P := ps_rI (fun v s1 => xJ s 0 s1)) rfl rfl rfl (by decide) rfl (by decide) hw (by decide) rfl rfl rfl (xs_162 (d := 260) (LI_J hI) (fun v s1 J1 => J1)) (fun o w1 s1 hw1 hp => ?_)
  obtain ⟨v1, rfl, hp⟩ := l2_int hp
  obtain ⟨t1, ht1⟩ : ∃ t1 : Int32, t1 = 0 := ⟨_, rfl⟩
  have hX : LX s1 t1 t.toInt := by rw [ht1]; exact LI_x hI hp
  obtain ⟨σ, h4⟩ := hX.2.2.2.1
  show pm_H (some (L, xs)) 300 310 531 [(3, .int x3), (2, .ref 1131), (1, .ref 0), (0, .ref pm_SC)] [.int v1] w1 Q
  refine pm_H.go (pc' := 532) (st' := []) rfl rfl rfl rfl ?_
  refine pm_H.go (pc' := 533) (st' := [.ref 1131]) rfl rfl rfl rfl ?_
  refine l2_call (c := 12) (q := 1131) (P := ps_rI (fun v s2 => LX s2 t1 0)) rfl rfl rfl (by decide) rfl (by decide) hw1 (by decide) rfl rfl rfl (ms_274 (d := 293) hX.2.1 h4 (fun v s2 J2 K2 p0 p1 => LX_mk hX J2 (p1) (⟨σ, p0⟩) (LX_D hX K2 rfl) (LX_F hX K2 rfl))) (fun o w2 s2 hw2 hp2 => ?_)
  obtain ⟨v2, rfl, hp2⟩ := l2_int hp2
  show pm_H (some (L, xs)) 300 310 536 [(3, .int x3), (2, .ref 1131), (1, .ref 0), (0, .ref pm_SC)] [.int v2] w2 Q
  refine pm_H.go (pc' := 537) (st' := []) rfl rfl rfl rfl ?_
  refine pm_H.go (pc' := 858) (st' := []) rfl rfl rfl rfl ?_
  exact K w2 s2 t1 hw2 (LX_LI hp2 (by rw [ht1]; rfl))

theorem l2_op14 {L : Nat} {xs : Nat → Int32} {x3 t : Int32} {w : pm_W} {s : ps_S} {Q : Option Value → pm_W → Prop} (ha : ∀ (k : Int32) (_ : pm_in k 6 = true), pm_in (x3 + k) L = true) (hw : ps_R w s) (hI : LI s t) (K : ∀ (w' : pm_W) (s' : ps_S) (t' : Int32), ps_R w' s' → LI s' t' → pm_H (some (L, xs)) 300 310 858 [(3, .int x3), (2, .ref 1131), (1, .ref 0), (0, .ref pm_SC)] [] w' Q) : pm_H (some (L, xs)) 300 310 540 [(3, .int x3), (2, .ref 1131), (1, .ref 0), (0, .ref pm_SC)] [] w Q := by
  refine pm_H.go (pc' := 541) (st' := [.ref 0]) rfl rfl rfl rfl ?_
  refine pm_H.go (pc' := 542) (st' := [.ref pm_SC, .ref 0]) rfl rfl rfl rfl ?_
  refine pm_H.go (pc' := 543) (st' := [.int x3, .ref pm_SC, .ref 0]) rfl rfl rfl rfl ?_
  refine pm_H.go (pc' := 544) (st' := [.int 1, .int x3, .ref pm_SC, .ref 0]) rfl rfl rfl rfl ?_
  refine pm_H.go (pc' := 545) (st' := [.int (x3 + 1), .ref pm_SC, .ref 0]) rfl rfl rfl rfl ?_
  refine pm_H.sld (i := (x3 + 1)) rfl rfl (ha 1 rfl) ?_
  refine l2_call (c := 11) (q := 0) (P := ps_rI (fun v s1 => xJ s t s1)) rfl rfl rfl (by decide) rfl (by decide) hw (by decide) rfl rfl rfl (xs_163 (d := 298) (LI_J hI) (fun v => LI_J hI)) (fun o w1 s1 hw1 hp => ?_)
  obtain ⟨v1, rfl, hp⟩ := l2_int hp
  obtain ⟨t1, ht1⟩ : ∃ t1 : Int32, t1 = t := ⟨_, rfl⟩
  have hX : LX s1 t1 t.toInt := by rw [ht1]; exact LI_x hI hp
  obtain ⟨σ, h4⟩ := hX.2.2.2.1
  show pm_H (some (L, xs)) 300 310 549 [(3, .int x3), (2, .ref 1131), (1, .ref 0), (0, .ref pm_SC)] [.int v1] w1 Q
  refine pm_H.go (pc' := 550) (st' := []) rfl rfl rfl rfl ?_
  refine pm_H.go (pc' := 551) (st' := [.ref 1131]) rfl rfl rfl rfl ?_
  refine pm_H.go (pc' := 552) (st' := [.ref pm_SC, .ref 1131]) rfl rfl rfl rfl ?_
  refine pm_H.go (pc' := 553) (st' := [.int x3, .ref pm_SC, .ref 1131]) rfl rfl rfl rfl ?_
  refine pm_H.go (pc' := 554) (st' := [.int 1, .int x3, .ref pm_SC, .ref 1131]) rfl rfl rfl rfl ?_
  refine pm_H.go (pc' := 555) (st' := [.int (x3 + 1), .ref pm_SC, .ref 1131]) rfl rfl rfl rfl ?_
  refine pm_H.sld (i := (x3 + 1)) rfl rfl (ha 1 rfl) ?_
  refine l2_call (c := 12) (q := 1131) (P := ps_rI (fun v s2 => LX s2 t1 t.toInt)) rfl rfl rfl (by decide) rfl (by decide) hw1 (by decide) rfl rfl rfl (ms_275 (d := 297) hX.2.1 (fun v => hX)) (fun o w2 s2 hw2 hp2 => ?_)
  obtain ⟨v2, rfl, hp2⟩ := l2_int hp2
  show pm_H (some (L, xs)) 300 310 559 [(3, .int x3), (2, .ref 1131), (1, .ref 0), (0, .ref pm_SC)] [.int v2] w2 Q
  refine pm_H.go (pc' := 560) (st' := []) rfl rfl rfl rfl ?_
  refine pm_H.go (pc' := 858) (st' := []) rfl rfl rfl rfl ?_
  exact K w2 s2 t1 hw2 (LX_LI hp2 (by rw [ht1]))

theorem l2_op15 {L : Nat} {xs : Nat → Int32} {x3 t : Int32} {w : pm_W} {s : ps_S} {Q : Option Value → pm_W → Prop} (ha : ∀ (k : Int32) (_ : pm_in k 6 = true), pm_in (x3 + k) L = true) (hw : ps_R w s) (hI : LI s t) (K : ∀ (w' : pm_W) (s' : ps_S) (t' : Int32), ps_R w' s' → LI s' t' → pm_H (some (L, xs)) 300 310 858 [(3, .int x3), (2, .ref 1131), (1, .ref 0), (0, .ref pm_SC)] [] w' Q) : pm_H (some (L, xs)) 300 310 563 [(3, .int x3), (2, .ref 1131), (1, .ref 0), (0, .ref pm_SC)] [] w Q := by
  refine pm_H.go (pc' := 564) (st' := [.ref 0]) rfl rfl rfl rfl ?_
  refine l2_call (c := 11) (q := 0) (P := ps_rI (fun v s1 => xJ s t s1)) rfl rfl rfl (by decide) rfl (by decide) hw (by decide) rfl rfl rfl (xs_164 (d := 297) (LI_J hI) (fun v => LI_J hI)) (fun o w1 s1 hw1 hp => ?_)
  obtain ⟨v1, rfl, hp⟩ := l2_int hp
  obtain ⟨t1, ht1⟩ : ∃ t1 : Int32, t1 = t := ⟨_, rfl⟩
  have hX : LX s1 t1 t.toInt := by rw [ht1]; exact LI_x hI hp
  obtain ⟨σ, h4⟩ := hX.2.2.2.1
  show pm_H (some (L, xs)) 300 310 567 [(3, .int x3), (2, .ref 1131), (1, .ref 0), (0, .ref pm_SC)] [.int v1] w1 Q
  refine pm_H.go (pc' := 568) (st' := []) rfl rfl rfl rfl ?_
  refine pm_H.go (pc' := 569) (st' := [.ref 1131]) rfl rfl rfl rfl ?_
  refine l2_call (c := 12) (q := 1131) (P := ps_rI (fun v s2 => LX s2 t1 t.toInt)) rfl rfl rfl (by decide) rfl (by decide) hw1 (by decide) rfl rfl rfl (ms_276 (d := 297) hX.2.1 (fun v => hX)) (fun o w2 s2 hw2 hp2 => ?_)
  obtain ⟨v2, rfl, hp2⟩ := l2_int hp2
  show pm_H (some (L, xs)) 300 310 572 [(3, .int x3), (2, .ref 1131), (1, .ref 0), (0, .ref pm_SC)] [.int v2] w2 Q
  refine pm_H.go (pc' := 573) (st' := []) rfl rfl rfl rfl ?_
  refine pm_H.go (pc' := 858) (st' := []) rfl rfl rfl rfl ?_
  exact K w2 s2 t1 hw2 (LX_LI hp2 (by rw [ht1]))

theorem l2_op16 {L : Nat} {xs : Nat → Int32} {x3 t : Int32} {w : pm_W} {s : ps_S} {Q : Option Value → pm_W → Prop} (ha : ∀ (k : Int32) (_ : pm_in k 6 = true), pm_in (x3 + k) L = true) (hw : ps_R w s) (hI : LI s t) (K : ∀ (w' : pm_W) (s' : ps_S) (t' : Int32), ps_R w' s' → LI s' t' → pm_H (some (L, xs)) 300 310 858 [(3, .int x3), (2, .ref 1131), (1, .ref 0), (0, .ref pm_SC)] [] w' Q) : pm_H (some (L, xs)) 300 310 576 [(3, .int x3), (2, .ref 1131), (1, .ref 0), (0, .ref pm_SC)] [] w Q := by
  refine pm_H.go (pc' := 577) (st' := [.ref 0]) rfl rfl rfl rfl ?_
  refine pm_H.go (pc' := 578) (st' := [.ref pm_SC, .ref 0]) rfl rfl rfl rfl ?_
  refine pm_H.go (pc' := 579) (st' := [.int x3, .ref pm_SC, .ref 0]) rfl rfl rfl rfl ?_
  refine pm_H.go (pc' := 580) (st' := [.int 1, .int x3, .ref pm_SC, .ref 0]) rfl rfl rfl rfl ?_
  refine pm_H.go (pc' := 581) (st' := [.int (x3 + 1), .ref pm_SC, .ref 0]) rfl rfl rfl rfl ?_
  refine pm_H.sld (i := (x3 + 1)) rfl rfl (ha 1 rfl) ?_
  refine l2_call (c := 11) (q := 0) (P := ps_rJ (fun v s1 => xJ s t s1)) rfl rfl rfl (by decide) rfl (by decide) hw (by decide) rfl rfl rfl (xs_165 (d := 298) (LI_J hI) (fun v => LI_J hI)) (fun o w1 s1 hw1 hp => ?_)
  obtain ⟨v1, rfl, hp⟩ := l2_lng hp
  obtain ⟨t1, ht1⟩ : ∃ t1 : Int32, t1 = t := ⟨_, rfl⟩
  have hX : LX s1 t1 t.toInt := by rw [ht1]; exact LI_x hI hp
  obtain ⟨σ, h4⟩ := hX.2.2.2.1
  show pm_H (some (L, xs)) 300 310 585 [(3, .int x3), (2, .ref 1131), (1, .ref 0), (0, .ref pm_SC)] [.long v1] w1 Q
  refine pm_H.go (pc' := 586) (st' := []) rfl rfl rfl rfl ?_
  refine pm_H.go (pc' := 587) (st' := [.ref 1131]) rfl rfl rfl rfl ?_
  refine pm_H.go (pc' := 588) (st' := [.ref pm_SC, .ref 1131]) rfl rfl rfl rfl ?_
  refine pm_H.go (pc' := 589) (st' := [.int x3, .ref pm_SC, .ref 1131]) rfl rfl rfl rfl ?_
  refine pm_H.go (pc' := 590) (st' := [.int 1, .int x3, .ref pm_SC, .ref 1131]) rfl rfl rfl rfl ?_
  refine pm_H.go (pc' := 591) (st' := [.int (x3 + 1), .ref pm_SC, .ref 1131]) rfl rfl rfl rfl ?_
  refine pm_H.sld (i := (x3 + 1)) rfl rfl (ha 1 rfl) ?_
  refine l2_call (c := 12) (q := 1131) (P := ps_rJ (fun v s2 => LX s2 t1 t.toInt)) rfl rfl rfl (by decide) rfl (by decide) hw1 (by decide) rfl rfl rfl (ms_267 (d := 297) hX.2.1 (fun v => hX)) (fun o w2 s2 hw2 hp2 => ?_)
  obtain ⟨v2, rfl, hp2⟩ := l2_lng hp2
  show pm_H (some (L, xs)) 300 310 595 [(3, .int x3), (2, .ref 1131), (1, .ref 0), (0, .ref pm_SC)] [.long v2] w2 Q
  refine pm_H.go (pc' := 596) (st' := []) rfl rfl rfl rfl ?_
  refine pm_H.go (pc' := 858) (st' := []) rfl rfl rfl rfl ?_
  exact K w2 s2 t1 hw2 (LX_LI hp2 (by rw [ht1]))

theorem l2_op17 {L : Nat} {xs : Nat → Int32} {x3 t : Int32} {w : pm_W} {s : ps_S} {Q : Option Value → pm_W → Prop} (ha : ∀ (k : Int32) (_ : pm_in k 6 = true), pm_in (x3 + k) L = true) (hw : ps_R w s) (hI : LI s t) (K : ∀ (w' : pm_W) (s' : ps_S) (t' : Int32), ps_R w' s' → LI s' t' → pm_H (some (L, xs)) 300 310 858 [(3, .int x3), (2, .ref 1131), (1, .ref 0), (0, .ref pm_SC)] [] w' Q) : pm_H (some (L, xs)) 300 310 599 [(3, .int x3), (2, .ref 1131), (1, .ref 0), (0, .ref pm_SC)] [] w Q := by
  refine pm_H.go (pc' := 600) (st' := [.ref 0]) rfl rfl rfl rfl ?_
  refine l2_call (c := 11) (q := 0) (P := ps_rI (fun v s1 => xJ s t s1)) rfl rfl rfl (by decide) rfl (by decide) hw (by decide) rfl rfl rfl (xs_166 (d := 295) (LI_J hI) (fun v s1 J1 => J1)) (fun o w1 s1 hw1 hp => ?_)
  obtain ⟨v1, rfl, hp⟩ := l2_int hp
  obtain ⟨t1, ht1⟩ : ∃ t1 : Int32, t1 = t := ⟨_, rfl⟩
  have hX : LX s1 t1 t.toInt := by rw [ht1]; exact LI_x hI hp
  obtain ⟨σ, h4⟩ := hX.2.2.2.1
  show pm_H (some (L, xs)) 300 310 603 [(3, .int x3), (2, .ref 1131), (1, .ref 0), (0, .ref pm_SC)] [.int v1] w1 Q
  refine pm_H.go (pc' := 604) (st' := []) rfl rfl rfl rfl ?_
  refine pm_H.go (pc' := 605) (st' := [.ref 1131]) rfl rfl rfl rfl ?_
  refine l2_call (c := 12) (q := 1131) (P := ps_rI (fun v s2 => LX s2 t1 t.toInt)) rfl rfl rfl (by decide) rfl (by decide) hw1 (by decide) rfl rfl rfl (ms_280 (d := 295) hX.2.1 h4 (fun v s2 J2 K2 => LX_mk hX J2 (LX_3 hX K2 rfl) (LX_M hX K2 rfl rfl rfl rfl rfl rfl rfl rfl rfl rfl rfl) (LX_D hX K2 rfl) (LX_F hX K2 rfl))) (fun o w2 s2 hw2 hp2 => ?_)
  obtain ⟨v2, rfl, hp2⟩ := l2_int hp2
  show pm_H (some (L, xs)) 300 310 608 [(3, .int x3), (2, .ref 1131), (1, .ref 0), (0, .ref pm_SC)] [.int v2] w2 Q
  refine pm_H.go (pc' := 609) (st' := []) rfl rfl rfl rfl ?_
  refine pm_H.go (pc' := 858) (st' := []) rfl rfl rfl rfl ?_
  exact K w2 s2 t1 hw2 (LX_LI hp2 (by rw [ht1]))

theorem l2_op18 {L : Nat} {xs : Nat → Int32} {x3 t : Int32} {w : pm_W} {s : ps_S} {Q : Option Value → pm_W → Prop} (ha : ∀ (k : Int32) (_ : pm_in k 6 = true), pm_in (x3 + k) L = true) (hw : ps_R w s) (hI : LI s t) (K : ∀ (w' : pm_W) (s' : ps_S) (t' : Int32), ps_R w' s' → LI s' t' → pm_H (some (L, xs)) 300 310 858 [(3, .int x3), (2, .ref 1131), (1, .ref 0), (0, .ref pm_SC)] [] w' Q) : pm_H (some (L, xs)) 300 310 612 [(3, .int x3), (2, .ref 1131), (1, .ref 0), (0, .ref pm_SC)] [] w Q := by
  refine pm_H.go (pc' := 613) (st' := [.ref 0]) rfl rfl rfl rfl ?_
  refine l2_call (c := 11) (q := 0) (P := ps_rI (fun v s1 => xJ s t s1)) rfl rfl rfl (by decide) rfl (by decide) hw (by decide) rfl rfl rfl (xs_167 (d := 295) (LI_J hI) (fun v s1 J1 => J1)) (fun o w1 s1 hw1 hp => ?_)
  obtain ⟨v1, rfl, hp⟩ := l2_int hp
  obtain ⟨t1, ht1⟩ : ∃ t1 : Int32, t1 = t := ⟨_, rfl⟩
  have hX : LX s1 t1 t.toInt := by rw [ht1]; exact LI_x hI hp
  obtain ⟨σ, h4⟩ := hX.2.2.2.1
  show pm_H (some (L, xs)) 300 310 616 [(3, .int x3), (2, .ref 1131), (1, .ref 0), (0, .ref pm_SC)] [.int v1] w1 Q
  refine pm_H.go (pc' := 617) (st' := []) rfl rfl rfl rfl ?_
  refine pm_H.go (pc' := 618) (st' := [.ref 1131]) rfl rfl rfl rfl ?_
  refine l2_call (c := 12) (q := 1131) (P := ps_rI (fun v s2 => LX s2 t1 t.toInt)) rfl rfl rfl (by decide) rfl (by decide) hw1 (by decide) rfl rfl rfl (ms_281 (d := 295) hX.2.1 h4 (fun v s2 J2 K2 => LX_mk hX J2 (LX_3 hX K2 rfl) (LX_M hX K2 rfl rfl rfl rfl rfl rfl rfl rfl rfl rfl rfl) (LX_D hX K2 rfl) (LX_F hX K2 rfl))) (fun o w2 s2 hw2 hp2 => ?_)
  obtain ⟨v2, rfl, hp2⟩ := l2_int hp2
  show pm_H (some (L, xs)) 300 310 621 [(3, .int x3), (2, .ref 1131), (1, .ref 0), (0, .ref pm_SC)] [.int v2] w2 Q
  refine pm_H.go (pc' := 622) (st' := []) rfl rfl rfl rfl ?_
  refine pm_H.go (pc' := 858) (st' := []) rfl rfl rfl rfl ?_
  exact K w2 s2 t1 hw2 (LX_LI hp2 (by rw [ht1]))

theorem l2_op19 {L : Nat} {xs : Nat → Int32} {x3 t : Int32} {w : pm_W} {s : ps_S} {Q : Option Value → pm_W → Prop} (ha : ∀ (k : Int32) (_ : pm_in k 6 = true), pm_in (x3 + k) L = true) (hw : ps_R w s) (hI : LI s t) (K : ∀ (w' : pm_W) (s' : ps_S) (t' : Int32), ps_R w' s' → LI s' t' → pm_H (some (L, xs)) 300 310 858 [(3, .int x3), (2, .ref 1131), (1, .ref 0), (0, .ref pm_SC)] [] w' Q) : pm_H (some (L, xs)) 300 310 625 [(3, .int x3), (2, .ref 1131), (1, .ref 0), (0, .ref pm_SC)] [] w Q := by
  refine pm_H.go (pc' := 626) (st' := [.ref 0]) rfl rfl rfl rfl ?_
  refine l2_call (c := 11) (q := 0) (P := ps_rI (fun v s1 => xJ s t s1)) rfl rfl rfl (by decide) rfl (by decide) hw (by decide) rfl rfl rfl (xs_168 (d := 295) (LI_J hI) (fun v s1 J1 => J1)) (fun o w1 s1 hw1 hp => ?_)
  obtain ⟨v1, rfl, hp⟩ := l2_int hp
  obtain ⟨t1, ht1⟩ : ∃ t1 : Int32, t1 = t := ⟨_, rfl⟩
  have hX : LX s1 t1 t.toInt := by rw [ht1]; exact LI_x hI hp
  obtain ⟨σ, h4⟩ := hX.2.2.2.1
  show pm_H (some (L, xs)) 300 310 629 [(3, .int x3), (2, .ref 1131), (1, .ref 0), (0, .ref pm_SC)] [.int v1] w1 Q
  refine pm_H.go (pc' := 630) (st' := []) rfl rfl rfl rfl ?_
  refine pm_H.go (pc' := 631) (st' := [.ref 1131]) rfl rfl rfl rfl ?_
  refine l2_call (c := 12) (q := 1131) (P := ps_rI (fun v s2 => LX s2 t1 t.toInt)) rfl rfl rfl (by decide) rfl (by decide) hw1 (by decide) rfl rfl rfl (ms_282 (d := 295) hX.2.1 h4 (fun v s2 J2 K2 => LX_mk hX J2 (LX_3 hX K2 rfl) (LX_M hX K2 rfl rfl rfl rfl rfl rfl rfl rfl rfl rfl rfl) (LX_D hX K2 rfl) (LX_F hX K2 rfl))) (fun o w2 s2 hw2 hp2 => ?_)
  obtain ⟨v2, rfl, hp2⟩ := l2_int hp2
  show pm_H (some (L, xs)) 300 310 634 [(3, .int x3), (2, .ref 1131), (1, .ref 0), (0, .ref pm_SC)] [.int v2] w2 Q
  refine pm_H.go (pc' := 635) (st' := []) rfl rfl rfl rfl ?_
  refine pm_H.go (pc' := 858) (st' := []) rfl rfl rfl rfl ?_
  exact K w2 s2 t1 hw2 (LX_LI hp2 (by rw [ht1]))

theorem l2_op20 {L : Nat} {xs : Nat → Int32} {x3 t : Int32} {w : pm_W} {s : ps_S} {Q : Option Value → pm_W → Prop} (ha : ∀ (k : Int32) (_ : pm_in k 6 = true), pm_in (x3 + k) L = true) (hw : ps_R w s) (hI : LI s t) (K : ∀ (w' : pm_W) (s' : ps_S) (t' : Int32), ps_R w' s' → LI s' t' → pm_H (some (L, xs)) 300 310 858 [(3, .int x3), (2, .ref 1131), (1, .ref 0), (0, .ref pm_SC)] [] w' Q) : pm_H (some (L, xs)) 300 310 638 [(3, .int x3), (2, .ref 1131), (1, .ref 0), (0, .ref pm_SC)] [] w Q := by
  refine pm_H.go (pc' := 639) (st' := [.ref 0]) rfl rfl rfl rfl ?_
  refine l2_call (c := 11) (q := 0) (P := ps_rI (fun v s1 => xJ s 0 s1)) rfl rfl rfl (by decide) rfl (by decide) hw (by decide) rfl rfl rfl (xs_169 (d := 260) (LI_J hI) (fun v s1 J1 => J1)) (fun o w1 s1 hw1 hp => ?_)
  obtain ⟨v1, rfl, hp⟩ := l2_int hp
  obtain ⟨t1, ht1⟩ : ∃ t1 : Int32, t1 = 0 := ⟨_, rfl⟩
  have hX : LX s1 t1 t.toInt := by rw [ht1]; exact LI_x hI hp
  obtain ⟨σ, h4⟩ := hX.2.2.2.1
  show pm_H (some (L, xs)) 300 310 642 [(3, .int x3), (2, .ref 1131), (1, .ref 0), (0, .ref pm_SC)] [.int v1] w1 Q
  refine pm_H.go (pc' := 643) (st' := []) rfl rfl rfl rfl ?_
  refine pm_H.go (pc' := 644) (st' := [.ref 1131]) rfl rfl rfl rfl ?_
  refine l2_call (c := 12) (q := 1131) (P := ps_rI (fun v s2 => LX s2 t1 0)) rfl rfl rfl (by decide) rfl (by decide) hw1 (by decide) rfl rfl rfl (ms_288 (d := 293) hX.2.1 h4 (fun v s2 J2 K2 p0 p1 => LX_mk hX J2 (p1) (⟨σ, p0⟩) (LX_D hX K2 rfl) (LX_F hX K2 rfl))) (fun o w2 s2 hw2 hp2 => ?_)
  obtain ⟨v2, rfl, hp2⟩ := l2_int hp2
  show pm_H (some (L, xs)) 300 310 647 [(3, .int x3), (2, .ref 1131), (1, .ref 0), (0, .ref pm_SC)] [.int v2] w2 Q
  refine pm_H.go (pc' := 648) (st' := []) rfl rfl rfl rfl ?_
  refine pm_H.go (pc' := 858) (st' := []) rfl rfl rfl rfl ?_
  exact K w2 s2 t1 hw2 (LX_LI hp2 (by rw [ht1]; rfl))

theorem l2_op21 {L : Nat} {xs : Nat → Int32} {x3 t : Int32} {w : pm_W} {s : ps_S} {Q : Option Value → pm_W → Prop} (ha : ∀ (k : Int32) (_ : pm_in k 6 = true), pm_in (x3 + k) L = true) (hw : ps_R w s) (hI : LI s t) (K : ∀ (w' : pm_W) (s' : ps_S) (t' : Int32), ps_R w' s' → LI s' t' → pm_H (some (L, xs)) 300 310 858 [(3, .int x3), (2, .ref 1131), (1, .ref 0), (0, .ref pm_SC)] [] w' Q) : pm_H (some (L, xs)) 300 310 651 [(3, .int x3), (2, .ref 1131), (1, .ref 0), (0, .ref pm_SC)] [] w Q := by
  refine pm_H.go (pc' := 652) (st' := [.ref 0]) rfl rfl rfl rfl ?_
  refine pm_H.go (pc' := 653) (st' := [.ref pm_SC, .ref 0]) rfl rfl rfl rfl ?_
  refine pm_H.go (pc' := 654) (st' := [.int x3, .ref pm_SC, .ref 0]) rfl rfl rfl rfl ?_
  refine pm_H.go (pc' := 655) (st' := [.int 1, .int x3, .ref pm_SC, .ref 0]) rfl rfl rfl rfl ?_
  refine pm_H.go (pc' := 656) (st' := [.int (x3 + 1), .ref pm_SC, .ref 0]) rfl rfl rfl rfl ?_
  refine pm_H.sld (i := (x3 + 1)) rfl rfl (ha 1 rfl) ?_
  refine l2_call (c := 11) (q := 0) (P := ps_rI (fun v s1 => xJ s t s1)) rfl rfl rfl (by decide) rfl (by decide) hw (by decide) rfl rfl rfl (xs_170 (d := 298) (LI_J hI) (fun v => LI_J hI)) (fun o w1 s1 hw1 hp => ?_)
  obtain ⟨v1, rfl, hp⟩ := l2_int hp
  obtain ⟨t1, ht1⟩ : ∃ t1 : Int32, t1 = t := ⟨_, rfl⟩
  have hX : LX s1 t1 t.toInt := by rw [ht1]; exact LI_x hI hp
  obtain ⟨σ, h4⟩ := hX.2.2.2.1
  show pm_H (some (L, xs)) 300 310 660 [(3, .int x3), (2, .ref 1131), (1, .ref 0), (0, .ref pm_SC)] [.int v1] w1 Q
  refine pm_H.go (pc' := 661) (st' := []) rfl rfl rfl rfl ?_
  refine pm_H.go (pc' := 662) (st' := [.ref 1131]) rfl rfl rfl rfl ?_
  refine pm_H.go (pc' := 663) (st' := [.ref pm_SC, .ref 1131]) rfl rfl rfl rfl ?_
  refine pm_H.go (pc' := 664) (st' := [.int x3, .ref pm_SC, .ref 1131]) rfl rfl rfl rfl ?_
  refine pm_H.go (pc' := 665) (st' := [.int 1, .int x3, .ref pm_SC, .ref 1131]) rfl rfl rfl rfl ?_
  refine pm_H.go (pc' := 666) (st' := [.int (x3 + 1), .ref pm_SC, .ref 1131]) rfl rfl rfl rfl ?_
  refine pm_H.sld (i := (x3 + 1)) rfl rfl (ha 1 rfl) ?_
  refine l2_call (c := 12) (q := 1131) (P := ps_rI (fun v s2 => LX s2 t1 t.toInt)) rfl rfl rfl (by decide) rfl (by decide) hw1 (by decide) rfl rfl rfl (ms_289 (d := 297) hX.2.1 (fun v => hX)) (fun o w2 s2 hw2 hp2 => ?_)
  obtain ⟨v2, rfl, hp2⟩ := l2_int hp2
  show pm_H (some (L, xs)) 300 310 670 [(3, .int x3), (2, .ref 1131), (1, .ref 0), (0, .ref pm_SC)] [.int v2] w2 Q
  refine pm_H.go (pc' := 671) (st' := []) rfl rfl rfl rfl ?_
  refine pm_H.go (pc' := 858) (st' := []) rfl rfl rfl rfl ?_
  exact K w2 s2 t1 hw2 (LX_LI hp2 (by rw [ht1]))

theorem l2_op22 {L : Nat} {xs : Nat → Int32} {x3 t : Int32} {w : pm_W} {s : ps_S} {Q : Option Value → pm_W → Prop} (ha : ∀ (k : Int32) (_ : pm_in k 6 = true), pm_in (x3 + k) L = true) (hw : ps_R w s) (hI : LI s t) (K : ∀ (w' : pm_W) (s' : ps_S) (t' : Int32), ps_R w' s' → LI s' t' → pm_H (some (L, xs)) 300 310 858 [(3, .int x3), (2, .ref 1131), (1, .ref 0), (0, .ref pm_SC)] [] w' Q) : pm_H (some (L, xs)) 300 310 674 [(3, .int x3), (2, .ref 1131), (1, .ref 0), (0, .ref pm_SC)] [] w Q := by
  refine pm_H.go (pc' := 675) (st' := [.ref 0]) rfl rfl rfl rfl ?_
  refine l2_call (c := 11) (q := 0) (P := ps_rI (fun v s1 => xJ s t s1)) rfl rfl rfl (by decide) rfl (by decide) hw (by decide) rfl rfl rfl (xs_171 (d := 295) (LI_J hI) (fun v s1 J1 => J1)) (fun o w1 s1 hw1 hp => ?_)
  obtain ⟨v1, rfl, hp⟩ := l2_int hp
  obtain ⟨t1, ht1⟩ : ∃ t1 : Int32, t1 = t := ⟨_, rfl⟩
  have hX : LX s1 t1 t.toInt := by rw [ht1]; exact LI_x hI hp
  obtain ⟨σ, h4⟩ := hX.2.2.2.1
  show pm_H (some (L, xs)) 300 310 678 [(3, .int x3), (2, .ref 1131), (1, .ref 0), (0, .ref pm_SC)] [.int v1] w1 Q
  refine pm_H.go (pc' := 679) (st' := []) rfl rfl rfl rfl ?_
  refine pm_H.go (pc' := 680) (st' := [.ref 1131]) rfl rfl rfl rfl ?_
  refine l2_call (c := 12) (q := 1131) (P := ps_rI (fun v s2 => LX s2 t1 t.toInt)) rfl rfl rfl (by decide) rfl (by decide) hw1 (by decide) rfl rfl rfl (ms_285 (d := 296) hX.2.1 h4 (fun v s2 J2 K2 => LX_mk hX J2 (LX_3 hX K2 rfl) (LX_M hX K2 rfl rfl rfl rfl rfl rfl rfl rfl rfl rfl rfl) (LX_D hX K2 rfl) (LX_F hX K2 rfl))) (fun o w2 s2 hw2 hp2 => ?_)
  obtain ⟨v2, rfl, hp2⟩ := l2_int hp2
  show pm_H (some (L, xs)) 300 310 683 [(3, .int x3), (2, .ref 1131), (1, .ref 0), (0, .ref pm_SC)] [.int v2] w2 Q
  refine pm_H.go (pc' := 684) (st' := []) rfl rfl rfl rfl ?_
  refine pm_H.go (pc' := 858) (st' := []) rfl rfl rfl rfl ?_
  exact K w2 s2 t1 hw2 (LX_LI hp2 (by rw [ht1]))

theorem l2_op23 {L : Nat} {xs : Nat → Int32} {x3 t : Int32} {w : pm_W} {s : ps_S} {Q : Option Value → pm_W → Prop} (ha : ∀ (k : Int32) (_ : pm_in k 6 = true), pm_in (x3 + k) L = true) (hw : ps_R w s) (hI : LI s t) (K : ∀ (w' : pm_W) (s' : ps_S) (t' : Int32), ps_R w' s' → LI s' t' → pm_H (some (L, xs)) 300 310 858 [(3, .int x3), (2, .ref 1131), (1, .ref 0), (0, .ref pm_SC)] [] w' Q) : pm_H (some (L, xs)) 300 310 687 [(3, .int x3), (2, .ref 1131), (1, .ref 0), (0, .ref pm_SC)] [] w Q := by
  refine pm_H.go (pc' := 688) (st' := [.ref 0]) rfl rfl rfl rfl ?_
  refine pm_H.go (pc' := 689) (st' := [.ref pm_SC, .ref 0]) rfl rfl rfl rfl ?_
  refine pm_H.go (pc' := 690) (st' := [.int x3, .ref pm_SC, .ref 0]) rfl rfl rfl rfl ?_
  refine pm_H.go (pc' := 691) (st' := [.int 1, .int x3, .ref pm_SC, .ref 0]) rfl rfl rfl rfl ?_
  refine pm_H.go (pc' := 692) (st' := [.int (x3 + 1), .ref pm_SC, .ref 0]) rfl rfl rfl rfl ?_
  refine pm_H.sld (i := (x3 + 1)) rfl rfl (ha 1 rfl) ?_
  refine l2_call (c := 11) (q := 0) (P := ps_rI (fun v s1 => xJ s t s1)) rfl rfl rfl (by decide) rfl (by decide) hw (by decide) rfl rfl rfl (xs_172 (d := 295) (LI_J hI) (fun v s1 J1 => J1)) (fun o w1 s1 hw1 hp => ?_)
  obtain ⟨v1, rfl, hp⟩ := l2_int hp
  obtain ⟨t1, ht1⟩ : ∃ t1 : Int32, t1 = t := ⟨_, rfl⟩
  have hX : LX s1 t1 t.toInt := by rw [ht1]; exact LI_x hI hp
  obtain ⟨σ, h4⟩ := hX.2.2.2.1
  show pm_H (some (L, xs)) 300 310 696 [(3, .int x3), (2, .ref 1131), (1, .ref 0), (0, .ref pm_SC)] [.int v1] w1 Q
  refine pm_H.go (pc' := 697) (st' := []) rfl rfl rfl rfl ?_
  refine pm_H.go (pc' := 698) (st' := [.ref 1131]) rfl rfl rfl rfl ?_
  refine pm_H.go (pc' := 699) (st' := [.ref pm_SC, .ref 1131]) rfl rfl rfl rfl ?_
  refine pm_H.go (pc' := 700) (st' := [.int x3, .ref pm_SC, .ref 1131]) rfl rfl rfl rfl ?_
  refine pm_H.go (pc' := 701) (st' := [.int 1, .int x3, .ref pm_SC, .ref 1131]) rfl rfl rfl rfl ?_
  refine pm_H.go (pc' := 702) (st' := [.int (x3 + 1), .ref pm_SC, .ref 1131]) rfl rfl rfl rfl ?_
  refine pm_H.sld (i := (x3 + 1)) rfl rfl (ha 1 rfl) ?_
  refine l2_call (c := 12) (q := 1131) (P := ps_rI (fun v s2 => LX s2 t1 t.toInt)) rfl rfl rfl (by decide) rfl (by decide) hw1 (by decide) rfl rfl rfl (ms_301 (d := 297) hX.2.1 (MI_S h4) (fun v s2 J2 K2 p0 p1 p2 => LX_mk hX J2 (LX_3 hX K2 rfl) (LX_M hX K2 rfl rfl rfl rfl rfl rfl rfl rfl rfl rfl rfl) (LX_D hX K2 rfl) (LX_F hX K2 rfl))) (fun o w2 s2 hw2 hp2 => ?_)
  obtain ⟨v2, rfl, hp2⟩ := l2_int hp2
  show pm_H (some (L, xs)) 300 310 706 [(3, .int x3), (2, .ref 1131), (1, .ref 0), (0, .ref pm_SC)] [.int v2] w2 Q
  refine pm_H.go (pc' := 707) (st' := []) rfl rfl rfl rfl ?_
  refine pm_H.go (pc' := 858) (st' := []) rfl rfl rfl rfl ?_
  exact K w2 s2 t1 hw2 (LX_LI hp2 (by rw [ht1]))

theorem l2_op24 {L : Nat} {xs : Nat → Int32} {x3 t : Int32} {w : pm_W} {s : ps_S} {Q : Option Value → pm_W → Prop} (ha : ∀ (k : Int32) (_ : pm_in k 6 = true), pm_in (x3 + k) L = true) (hw : ps_R w s) (hI : LI s t) (K : ∀ (w' : pm_W) (s' : ps_S) (t' : Int32), ps_R w' s' → LI s' t' → pm_H (some (L, xs)) 300 310 858 [(3, .int x3), (2, .ref 1131), (1, .ref 0), (0, .ref pm_SC)] [] w' Q) : pm_H (some (L, xs)) 300 310 710 [(3, .int x3), (2, .ref 1131), (1, .ref 0), (0, .ref pm_SC)] [] w Q := by
  refine pm_H.go (pc' := 711) (st' := [.ref 0]) rfl rfl rfl rfl ?_
  refine pm_H.go (pc' := 712) (st' := [.ref pm_SC, .ref 0]) rfl rfl rfl rfl ?_
  refine pm_H.go (pc' := 713) (st' := [.int x3, .ref pm_SC, .ref 0]) rfl rfl rfl rfl ?_
  refine pm_H.go (pc' := 714) (st' := [.int 1, .int x3, .ref pm_SC, .ref 0]) rfl rfl rfl rfl ?_
  refine pm_H.go (pc' := 715) (st' := [.int (x3 + 1), .ref pm_SC, .ref 0]) rfl rfl rfl rfl ?_
  refine pm_H.sld (i := (x3 + 1)) rfl rfl (ha 1 rfl) ?_
  refine l2_call (c := 11) (q := 0) (P := ps_rI (fun v s1 => xJ s t s1)) rfl rfl rfl (by decide) rfl (by decide) hw (by decide) rfl rfl rfl (xs_173 (d := 259) (LI_J hI) (fun v s1 J1 => J1)) (fun o w1 s1 hw1 hp => ?_)
  obtain ⟨v1, rfl, hp⟩ := l2_int hp
  obtain ⟨t1, ht1⟩ : ∃ t1 : Int32, t1 = t := ⟨_, rfl⟩
  have hX : LX s1 t1 t.toInt := by rw [ht1]; exact LI_x hI hp
  obtain ⟨σ, h4⟩ := hX.2.2.2.1
  show pm_H (some (L, xs)) 300 310 719 [(3, .int x3), (2, .ref 1131), (1, .ref 0), (0, .ref pm_SC)] [.int v1] w1 Q
  refine pm_H.go (pc' := 720) (st' := []) rfl rfl rfl rfl ?_
  refine pm_H.go (pc' := 721) (st' := [.ref 1131]) rfl rfl rfl rfl ?_
  refine pm_H.go (pc' := 722) (st' := [.ref pm_SC, .ref 1131]) rfl rfl rfl rfl ?_
  refine pm_H.go (pc' := 723) (st' := [.int x3, .ref pm_SC, .ref 1131]) rfl rfl rfl rfl ?_
  refine pm_H.go (pc' := 724) (st' := [.int 1, .int x3, .ref pm_SC, .ref 1131]) rfl rfl rfl rfl ?_
  refine pm_H.go (pc' := 725) (st' := [.int (x3 + 1), .ref pm_SC, .ref 1131]) rfl rfl rfl rfl ?_
  refine pm_H.sld (i := (x3 + 1)) rfl rfl (ha 1 rfl) ?_
  refine l2_call (c := 12) (q := 1131) (P := ps_rI (fun v s2 => LX s2 t1 t.toInt)) rfl rfl rfl (by decide) rfl (by decide) hw1 (by decide) rfl rfl rfl (ms_302 (d := 293) hX.2.1 h4 hX.2.2.2.2.1 hX.2.2.2.2.2 (fun v s2 J2 K2 p0 p1 => LX_mk hX J2 (LX_3 hX K2 rfl) (LX_M hX K2 rfl rfl rfl rfl rfl rfl rfl rfl rfl rfl rfl) (p0) (p1))) (fun o w2 s2 hw2 hp2 => ?_)
  obtain ⟨v2, rfl, hp2⟩ := l2_int hp2
  show pm_H (some (L, xs)) 300 310 729 [(3, .int x3), (2, .ref 1131), (1, .ref 0), (0, .ref pm_SC)] [.int v2] w2 Q
  refine pm_H.go (pc' := 730) (st' := []) rfl rfl rfl rfl ?_
  refine pm_H.go (pc' := 858) (st' := []) rfl rfl rfl rfl ?_
  exact K w2 s2 t1 hw2 (LX_LI hp2 (by rw [ht1]))

theorem l2_op25 {L : Nat} {xs : Nat → Int32} {x3 t : Int32} {w : pm_W} {s : ps_S} {Q : Option Value → pm_W → Prop} (ha : ∀ (k : Int32) (_ : pm_in k 6 = true), pm_in (x3 + k) L = true) (hw : ps_R w s) (hI : LI s t) (K : ∀ (w' : pm_W) (s' : ps_S) (t' : Int32), ps_R w' s' → LI s' t' → pm_H (some (L, xs)) 300 310 858 [(3, .int x3), (2, .ref 1131), (1, .ref 0), (0, .ref pm_SC)] [] w' Q) : pm_H (some (L, xs)) 300 310 733 [(3, .int x3), (2, .ref 1131), (1, .ref 0), (0, .ref pm_SC)] [] w Q := by
  refine pm_H.go (pc' := 734) (st' := [.ref 0]) rfl rfl rfl rfl ?_
  refine pm_H.go (pc' := 735) (st' := [.ref pm_SC, .ref 0]) rfl rfl rfl rfl ?_
  refine pm_H.go (pc' := 736) (st' := [.int x3, .ref pm_SC, .ref 0]) rfl rfl rfl rfl ?_
  refine pm_H.go (pc' := 737) (st' := [.int 1, .int x3, .ref pm_SC, .ref 0]) rfl rfl rfl rfl ?_
  refine pm_H.go (pc' := 738) (st' := [.int (x3 + 1), .ref pm_SC, .ref 0]) rfl rfl rfl rfl ?_
  refine pm_H.sld (i := (x3 + 1)) rfl rfl (ha 1 rfl) ?_
  refine pm_H.go (pc' := 740) (st' := [.ref pm_SC, .int (xs (Int32.toNatClampNeg (x3 + 1))), .ref 0]) rfl rfl rfl rfl ?_
  refine pm_H.go (pc' := 741) (st' := [.int x3, .ref pm_SC, .int (xs (Int32.toNatClampNeg (x3 + 1))), .ref 0]) rfl rfl rfl rfl ?_
  refine pm_H.go (pc' := 742) (st' := [.int 2, .int x3, .ref pm_SC, .int (xs (Int32.toNatClampNeg (x3 + 1))), .ref 0]) rfl rfl rfl rfl ?_
  refine pm_H.go (pc' := 743) (st' := [.int (x3 + 2), .ref pm_SC, .int (xs (Int32.toNatClampNeg (x3 + 1))), .ref 0]) rfl rfl rfl rfl ?_
  refine pm_H.sld (i := (x3 + 2)) rfl rfl (ha 2 rfl) ?_
  refine l2_call (c := 11) (q := 0) (P := ps_rI (fun v s1 => xJ s t s1)) rfl rfl rfl (by decide) rfl (by decide) hw (by decide) rfl rfl rfl (xs_174 (d := 260) (LI_J hI) (fun v s1 J1 => J1)) (fun o w1 s1 hw1 hp => ?_)
  obtain ⟨v1, rfl, hp⟩ := l2_int hp
  obtain ⟨t1, ht1⟩ : ∃ t1 : Int32, t1 = t := ⟨_, rfl⟩
  have hX : LX s1 t1 t.toInt := by rw [ht1]; exact LI_x hI hp
  obtain ⟨σ, h4⟩ := hX.2.2.2.1
  show pm_H (some (L, xs)) 300 310 747 [(3, .int x3), (2, .ref 1131), (1, .ref 0), (0, .ref pm_SC)] [.int v1] w1 Q
  refine pm_H.go (pc' := 748) (st' := []) rfl rfl rfl rfl ?_
  refine pm_H.go (pc' := 749) (st' := [.ref 1131]) rfl rfl rfl rfl ?_
  refine pm_H.go (pc' := 750) (st' := [.ref pm_SC, .ref 1131]) rfl rfl rfl rfl ?_
  refine pm_H.go (pc' := 751) (st' := [.int x3, .ref pm_SC, .ref 1131]) rfl rfl rfl rfl ?_
  refine pm_H.go (pc' := 752) (st' := [.int 1, .int x3, .ref pm_SC, .ref 1131]) rfl rfl rfl rfl ?_
  refine pm_H.go (pc' := 753) (st' := [.int (x3 + 1), .ref pm_SC, .ref 1131]) rfl rfl rfl rfl ?_
  refine pm_H.sld (i := (x3 + 1)) rfl rfl (ha 1 rfl) ?_
  refine pm_H.go (pc' := 755) (st' := [.ref pm_SC, .int (xs (Int32.toNatClampNeg (x3 + 1))), .ref 1131]) rfl rfl rfl rfl ?_
  refine pm_H.go (pc' := 756) (st' := [.int x3, .ref pm_SC, .int (xs (Int32.toNatClampNeg (x3 + 1))), .ref 1131]) rfl rfl rfl rfl ?_
  refine pm_H.go (pc' := 757) (st' := [.int 2, .int x3, .ref pm_SC, .int (xs (Int32.toNatClampNeg (x3 + 1))), .ref 1131]) rfl rfl rfl rfl ?_
  refine pm_H.go (pc' := 758) (st' := [.int (x3 + 2), .ref pm_SC, .int (xs (Int32.toNatClampNeg (x3 + 1))), .ref 1131]) rfl rfl rfl rfl ?_
  refine pm_H.sld (i := (x3 + 2)) rfl rfl (ha 2 rfl) ?_
  refine l2_call (c := 12) (q := 1131) (P := ps_rI (fun v s2 => LX s2 t1 t.toInt)) rfl rfl rfl (by decide) rfl (by decide) hw1 (by decide) rfl rfl rfl (ms_303 (d := 294) hX.2.1 h4 hX.2.2.2.2.1 hX.2.2.2.2.2 (fun v s2 J2 K2 p0 p1 => LX_mk hX J2 (LX_3 hX K2 rfl) (LX_M hX K2 rfl rfl rfl rfl rfl rfl rfl rfl rfl rfl rfl) (p0) (p1))) (fun o w2 s2 hw2 hp2 => ?_)
  obtain ⟨v2, rfl, hp2⟩ := l2_int hp2
  show pm_H (some (L, xs)) 300 310 762 [(3, .int x3), (2, .ref 1131), (1, .ref 0), (0, .ref pm_SC)] [.int v2] w2 Q
  refine pm_H.go (pc' := 763) (st' := []) rfl rfl rfl rfl ?_
  refine pm_H.go (pc' := 858) (st' := []) rfl rfl rfl rfl ?_
  exact K w2 s2 t1 hw2 (LX_LI hp2 (by rw [ht1]))

theorem l2_op26 {L : Nat} {xs : Nat → Int32} {x3 t : Int32} {w : pm_W} {s : ps_S} {Q : Option Value → pm_W → Prop} (ha : ∀ (k : Int32) (_ : pm_in k 6 = true), pm_in (x3 + k) L = true) (hw : ps_R w s) (hI : LI s t) (K : ∀ (w' : pm_W) (s' : ps_S) (t' : Int32), ps_R w' s' → LI s' t' → pm_H (some (L, xs)) 300 310 858 [(3, .int x3), (2, .ref 1131), (1, .ref 0), (0, .ref pm_SC)] [] w' Q) : pm_H (some (L, xs)) 300 310 766 [(3, .int x3), (2, .ref 1131), (1, .ref 0), (0, .ref pm_SC)] [] w Q := by
  refine pm_H.go (pc' := 767) (st' := [.ref 0]) rfl rfl rfl rfl ?_
  refine pm_H.go (pc' := 768) (st' := [.ref pm_SC, .ref 0]) rfl rfl rfl rfl ?_
  refine pm_H.go (pc' := 769) (st' := [.int x3, .ref pm_SC, .ref 0]) rfl rfl rfl rfl ?_
  refine pm_H.go (pc' := 770) (st' := [.int 1, .int x3, .ref pm_SC, .ref 0]) rfl rfl rfl rfl ?_
  refine pm_H.go (pc' := 771) (st' := [.int (x3 + 1), .ref pm_SC, .ref 0]) rfl rfl rfl rfl ?_
  refine pm_H.sld (i := (x3 + 1)) rfl rfl (ha 1 rfl) ?_
  refine l2_call (c := 11) (q := 0) (P := ps_rI (fun v s1 => xJ s t s1)) rfl rfl rfl (by decide) rfl (by decide) hw (by decide) rfl rfl rfl (xs_175 (d := 259) (LI_J hI) (fun v s1 J1 => J1)) (fun o w1 s1 hw1 hp => ?_)
  obtain ⟨v1, rfl, hp⟩ := l2_int hp
  obtain ⟨t1, ht1⟩ : ∃ t1 : Int32, t1 = t := ⟨_, rfl⟩
  have hX : LX s1 t1 t.toInt := by rw [ht1]; exact LI_x hI hp
  obtain ⟨σ, h4⟩ := hX.2.2.2.1
  show pm_H (some (L, xs)) 300 310 775 [(3, .int x3), (2, .ref 1131), (1, .ref 0), (0, .ref pm_SC)] [.int v1] w1 Q
  refine pm_H.go (pc' := 776) (st' := []) rfl rfl rfl rfl ?_
  refine pm_H.go (pc' := 777) (st' := [.ref 1131]) rfl rfl rfl rfl ?_
  refine pm_H.go (pc' := 778) (st' := [.ref pm_SC, .ref 1131]) rfl rfl rfl rfl ?_
  refine pm_H.go (pc' := 779) (st' := [.int x3, .ref pm_SC, .ref 1131]) rfl rfl rfl rfl ?_
  refine pm_H.go (pc' := 780) (st' := [.int 1, .int x3, .ref pm_SC, .ref 1131]) rfl rfl rfl rfl ?_
  refine pm_H.go (pc' := 781) (st' := [.int (x3 + 1), .ref pm_SC, .ref 1131]) rfl rfl rfl rfl ?_
  refine pm_H.sld (i := (x3 + 1)) rfl rfl (ha 1 rfl) ?_
  refine l2_call (c := 12) (q := 1131) (P := ps_rI (fun v s2 => LX s2 t1 t.toInt)) rfl rfl rfl (by decide) rfl (by decide) hw1 (by decide) rfl rfl rfl (ms_304 (d := 293) hX.2.1 h4 hX.2.2.2.2.1 hX.2.2.2.2.2 (fun v s2 J2 K2 p0 p1 => LX_mk hX J2 (LX_3 hX K2 rfl) (LX_M hX K2 rfl rfl rfl rfl rfl rfl rfl rfl rfl rfl rfl) (p0) (p1))) (fun o w2 s2 hw2 hp2 => ?_)
  obtain ⟨v2, rfl, hp2⟩ := l2_int hp2
  show pm_H (some (L, xs)) 300 310 785 [(3, .int x3), (2, .ref 1131), (1, .ref 0), (0, .ref pm_SC)] [.int v2] w2 Q
  refine pm_H.go (pc' := 786) (st' := []) rfl rfl rfl rfl ?_
  refine pm_H.go (pc' := 858) (st' := []) rfl rfl rfl rfl ?_
  exact K w2 s2 t1 hw2 (LX_LI hp2 (by rw [ht1]))

theorem l2_op27 {L : Nat} {xs : Nat → Int32} {x3 t : Int32} {w : pm_W} {s : ps_S} {Q : Option Value → pm_W → Prop} (ha : ∀ (k : Int32) (_ : pm_in k 6 = true), pm_in (x3 + k) L = true) (hw : ps_R w s) (hI : LI s t) (K : ∀ (w' : pm_W) (s' : ps_S) (t' : Int32), ps_R w' s' → LI s' t' → pm_H (some (L, xs)) 300 310 858 [(3, .int x3), (2, .ref 1131), (1, .ref 0), (0, .ref pm_SC)] [] w' Q) : pm_H (some (L, xs)) 300 310 789 [(3, .int x3), (2, .ref 1131), (1, .ref 0), (0, .ref pm_SC)] [] w Q := by
  refine pm_H.go (pc' := 790) (st' := [.ref 0]) rfl rfl rfl rfl ?_
  refine pm_H.go (pc' := 791) (st' := [.ref pm_SC, .ref 0]) rfl rfl rfl rfl ?_
  refine pm_H.go (pc' := 792) (st' := [.int x3, .ref pm_SC, .ref 0]) rfl rfl rfl rfl ?_
  refine pm_H.go (pc' := 793) (st' := [.int 1, .int x3, .ref pm_SC, .ref 0]) rfl rfl rfl rfl ?_
  refine pm_H.go (pc' := 794) (st' := [.int (x3 + 1), .ref pm_SC, .ref 0]) rfl rfl rfl rfl ?_
  refine pm_H.sld (i := (x3 + 1)) rfl rfl (ha 1 rfl) ?_
  refine l2_call (c := 11) (q := 0) (P := ps_rI (fun v s1 => xJ s t s1)) rfl rfl rfl (by decide) rfl (by decide) hw (by decide) rfl rfl rfl (xs_176 (d := 295) (LI_J hI) (fun v s1 J1 => J1)) (fun o w1 s1 hw1 hp => ?_)
  obtain ⟨v1, rfl, hp⟩ := l2_int hp
  obtain ⟨t1, ht1⟩ : ∃ t1 : Int32, t1 = t := ⟨_, rfl⟩
  have hX : LX s1 t1 t.toInt := by rw [ht1]; exact LI_x hI hp
  obtain ⟨σ, h4⟩ := hX.2.2.2.1
  show pm_H (some (L, xs)) 300 310 798 [(3, .int x3), (2, .ref 1131), (1, .ref 0), (0, .ref pm_SC)] [.int v1] w1 Q
  refine pm_H.go (pc' := 799) (st' := []) rfl rfl rfl rfl ?_
  refine pm_H.go (pc' := 800) (st' := [.ref 1131]) rfl rfl rfl rfl ?_
  refine pm_H.go (pc' := 801) (st' := [.ref pm_SC, .ref 1131]) rfl rfl rfl rfl ?_
  refine pm_H.go (pc' := 802) (st' := [.int x3, .ref pm_SC, .ref 1131]) rfl rfl rfl rfl ?_
  refine pm_H.go (pc' := 803) (st' := [.int 1, .int x3, .ref pm_SC, .ref 1131]) rfl rfl rfl rfl ?_
  refine pm_H.go (pc' := 804) (st' := [.int (x3 + 1), .ref pm_SC, .ref 1131]) rfl rfl rfl rfl ?_
  refine pm_H.sld (i := (x3 + 1)) rfl rfl (ha 1 rfl) ?_
  refine l2_call (c := 12) (q := 1131) (P := ps_rI (fun v s2 => LX s2 t1 t.toInt)) rfl rfl rfl (by decide) rfl (by decide) hw1 (by decide) rfl rfl rfl (ms_305 (d := 298) hX.2.1 h4 (fun v s2 J2 K2 p0 => LX_mk hX J2 (LX_3 hX K2 rfl) (⟨σ, p0⟩) (LX_D hX K2 rfl) (LX_F hX K2 rfl))) (fun o w2 s2 hw2 hp2 => ?_)
  obtain ⟨v2, rfl, hp2⟩ := l2_int hp2
  show pm_H (some (L, xs)) 300 310 808 [(3, .int x3), (2, .ref 1131), (1, .ref 0), (0, .ref pm_SC)] [.int v2] w2 Q
  refine pm_H.go (pc' := 809) (st' := []) rfl rfl rfl rfl ?_
  refine pm_H.go (pc' := 858) (st' := []) rfl rfl rfl rfl ?_
  exact K w2 s2 t1 hw2 (LX_LI hp2 (by rw [ht1]))

theorem l2_op28 {L : Nat} {xs : Nat → Int32} {x3 t : Int32} {w : pm_W} {s : ps_S} {Q : Option Value → pm_W → Prop} (ha : ∀ (k : Int32) (_ : pm_in k 6 = true), pm_in (x3 + k) L = true) (hw : ps_R w s) (hI : LI s t) (K : ∀ (w' : pm_W) (s' : ps_S) (t' : Int32), ps_R w' s' → LI s' t' → pm_H (some (L, xs)) 300 310 858 [(3, .int x3), (2, .ref 1131), (1, .ref 0), (0, .ref pm_SC)] [] w' Q) : pm_H (some (L, xs)) 300 310 812 [(3, .int x3), (2, .ref 1131), (1, .ref 0), (0, .ref pm_SC)] [] w Q := by
  refine pm_H.go (pc' := 813) (st' := [.ref 0]) rfl rfl rfl rfl ?_
  refine pm_H.go (pc' := 814) (st' := [.ref pm_SC, .ref 0]) rfl rfl rfl rfl ?_
  refine pm_H.go (pc' := 815) (st' := [.int x3, .ref pm_SC, .ref 0]) rfl rfl rfl rfl ?_
  refine pm_H.go (pc' := 816) (st' := [.int 1, .int x3, .ref pm_SC, .ref 0]) rfl rfl rfl rfl ?_
  refine pm_H.go (pc' := 817) (st' := [.int (x3 + 1), .ref pm_SC, .ref 0]) rfl rfl rfl rfl ?_
  refine pm_H.sld (i := (x3 + 1)) rfl rfl (ha 1 rfl) ?_
  refine l2_call (c := 11) (q := 0) (P := ps_rI (fun v s1 => xJ s t s1)) rfl rfl rfl (by decide) rfl (by decide) hw (by decide) rfl rfl rfl (xs_177 (d := 295) (LI_J hI) (fun v s1 J1 => J1)) (fun o w1 s1 hw1 hp => ?_)
  obtain ⟨v1, rfl, hp⟩ := l2_int hp
  obtain ⟨t1, ht1⟩ : ∃ t1 : Int32, t1 = t := ⟨_, rfl⟩
  have hX : LX s1 t1 t.toInt := by rw [ht1]; exact LI_x hI hp
  obtain ⟨σ, h4⟩ := hX.2.2.2.1
  show pm_H (some (L, xs)) 300 310 821 [(3, .int x3), (2, .ref 1131), (1, .ref 0), (0, .ref pm_SC)] [.int v1] w1 Q
  refine pm_H.go (pc' := 822) (st' := []) rfl rfl rfl rfl ?_
  refine pm_H.go (pc' := 823) (st' := [.ref 1131]) rfl rfl rfl rfl ?_
  refine pm_H.go (pc' := 824) (st' := [.ref pm_SC, .ref 1131]) rfl rfl rfl rfl ?_
  refine pm_H.go (pc' := 825) (st' := [.int x3, .ref pm_SC, .ref 1131]) rfl rfl rfl rfl ?_
  refine pm_H.go (pc' := 826) (st' := [.int 1, .int x3, .ref pm_SC, .ref 1131]) rfl rfl rfl rfl ?_
  refine pm_H.go (pc' := 827) (st' := [.int (x3 + 1), .ref pm_SC, .ref 1131]) rfl rfl rfl rfl ?_
  refine pm_H.sld (i := (x3 + 1)) rfl rfl (ha 1 rfl) ?_
  refine l2_call (c := 12) (q := 1131) (P := ps_rI (fun v s2 => LX s2 t1 t.toInt)) rfl rfl rfl (by decide) rfl (by decide) hw1 (by decide) rfl rfl rfl (ms_306 (d := 298) hX.2.1 h4 (fun v s2 J2 K2 p0 => LX_mk hX J2 (LX_3 hX K2 rfl) (⟨σ, p0⟩) (LX_D hX K2 rfl) (LX_F hX K2 rfl))) (fun o w2 s2 hw2 hp2 => ?_)
  obtain ⟨v2, rfl, hp2⟩ := l2_int hp2
  show pm_H (some (L, xs)) 300 310 831 [(3, .int x3), (2, .ref 1131), (1, .ref 0), (0, .ref pm_SC)] [.int v2] w2 Q
  refine pm_H.go (pc' := 832) (st' := []) rfl rfl rfl rfl ?_
  refine pm_H.go (pc' := 858) (st' := []) rfl rfl rfl rfl ?_
  exact K w2 s2 t1 hw2 (LX_LI hp2 (by rw [ht1]))

theorem l2_op29 {L : Nat} {xs : Nat → Int32} {x3 t : Int32} {w : pm_W} {s : ps_S} {Q : Option Value → pm_W → Prop} (ha : ∀ (k : Int32) (_ : pm_in k 6 = true), pm_in (x3 + k) L = true) (hw : ps_R w s) (hI : LI s t) (K : ∀ (w' : pm_W) (s' : ps_S) (t' : Int32), ps_R w' s' → LI s' t' → pm_H (some (L, xs)) 300 310 858 [(3, .int x3), (2, .ref 1131), (1, .ref 0), (0, .ref pm_SC)] [] w' Q) : pm_H (some (L, xs)) 300 310 835 [(3, .int x3), (2, .ref 1131), (1, .ref 0), (0, .ref pm_SC)] [] w Q := by
  refine pm_H.go (pc' := 836) (st' := [.ref 0]) rfl rfl rfl rfl ?_
  refine pm_H.go (pc' := 837) (st' := [.ref pm_SC, .ref 0]) rfl rfl rfl rfl ?_
  refine pm_H.go (pc' := 838) (st' := [.int x3, .ref pm_SC, .ref 0]) rfl rfl rfl rfl ?_
  refine pm_H.go (pc' := 839) (st' := [.int 1, .int x3, .ref pm_SC, .ref 0]) rfl rfl rfl rfl ?_
  refine pm_H.go (pc' := 840) (st' := [.int (x3 + 1), .ref pm_SC, .ref 0]) rfl rfl rfl rfl ?_
  refine pm_H.sld (i := (x3 + 1)) rfl rfl (ha 1 rfl) ?_
  refine l2_call (c := 11) (q := 0) (P := ps_rI (fun v s1 => xJ s t s1)) rfl rfl rfl (by decide) rfl (by decide) hw (by decide) rfl rfl rfl (xs_178 (d := 299) (LI_J hI) (fun v => LI_J hI)) (fun o w1 s1 hw1 hp => ?_)
  obtain ⟨v1, rfl, hp⟩ := l2_int hp
  obtain ⟨t1, ht1⟩ : ∃ t1 : Int32, t1 = t := ⟨_, rfl⟩
  have hX : LX s1 t1 t.toInt := by rw [ht1]; exact LI_x hI hp
  obtain ⟨σ, h4⟩ := hX.2.2.2.1
  show pm_H (some (L, xs)) 300 310 844 [(3, .int x3), (2, .ref 1131), (1, .ref 0), (0, .ref pm_SC)] [.int v1] w1 Q
  refine pm_H.go (pc' := 845) (st' := []) rfl rfl rfl rfl ?_
  refine pm_H.go (pc' := 846) (st' := [.ref 1131]) rfl rfl rfl rfl ?_
  refine pm_H.go (pc' := 847) (st' := [.ref pm_SC, .ref 1131]) rfl rfl rfl rfl ?_
  refine pm_H.go (pc' := 848) (st' := [.int x3, .ref pm_SC, .ref 1131]) rfl rfl rfl rfl ?_
  refine pm_H.go (pc' := 849) (st' := [.int 1, .int x3, .ref pm_SC, .ref 1131]) rfl rfl rfl rfl ?_
  refine pm_H.go (pc' := 850) (st' := [.int (x3 + 1), .ref pm_SC, .ref 1131]) rfl rfl rfl rfl ?_
  refine pm_H.sld (i := (x3 + 1)) rfl rfl (ha 1 rfl) ?_
  refine l2_call (c := 12) (q := 1131) (P := ps_rI (fun v s2 => LX s2 t1 t.toInt)) rfl rfl rfl (by decide) rfl (by decide) hw1 (by decide) rfl rfl rfl (ms_307 (d := 298) hX.2.1 (fun v => hX)) (fun o w2 s2 hw2 hp2 => ?_)
  obtain ⟨v2, rfl, hp2⟩ := l2_int hp2
  show pm_H (some (L, xs)) 300 310 854 [(3, .int x3), (2, .ref 1131), (1, .ref 0), (0, .ref pm_SC)] [.int v2] w2 Q
  refine pm_H.go (pc' := 855) (st' := []) rfl rfl rfl rfl ?_
  refine pm_H.go (pc' := 858) (st' := []) rfl rfl rfl rfl ?_
  exact K w2 s2 t1 hw2 (LX_LI hp2 (by rw [ht1]))
end
section
/-! the law: both constructors, then call by call -/
theorem pm_Tk {X : Option (Nat × (Nat → Int32))} {d y pc k d' kd j a mm pl nest : Nat} {L : pm_L} {st : List Value} {w w1 : pm_W} {o1 : Option Value} {i : Instr} {Q : Option Value → pm_W → Prop} (hc : pm_code y pc = some (i, k)) (hR : pm_isR i = false) (hcal : pm_cal i = (kd, j)) (hkd : kd ≠ 0) (hl : pm_l4 (pm_ML (pm_own y)) j = some (a, mm, pl, nest)) (h6 : 5 < mm) (hd : d = d' + 1)
    (hck : pm_ckd kd mm nest st w = true) (hcall : pm_T none d' (mm - 6) 0 (lv_args 0 (st.take (pm_na kd mm)).reverse) [] w (o1, w1)) (h : pm_H X d y (pc + 3) L (o1.toList ++ st.drop (pm_na kd mm)) w1 Q) : pm_H X d y pc L st w Q :=
  pm_H.call (Q1 := fun o w' => o = o1 ∧ w' = w1) hc hR hcal hkd hl h6 hd hck ⟨o1, w1, hcall.lift, rfl, rfl⟩ (fun o w' hh => by obtain ⟨rfl, rfl⟩ := hh; exact h)
theorem pin_i {k : Int32} {n : Nat} (h : pm_in k n = true) : 0 ≤ k.toInt ∧ k.toInt < n := by
  unfold pm_in at h
  rw [Bool.and_eq_true] at h
  have h1 := Int32.le_iff_toInt_le.mp (of_decide_eq_true h.1)
  have h2 : k.toInt.toNat < n := Nat.le_of_ble_eq_true h.2
  rw [Int32.toInt_zero] at h1
  omega
set_option maxRecDepth 100000
theorem l2_loop {L : Nat} (hL : L ≤ 3072) {xs : Nat → Int32} : ∀ (n : Nat) (x3 t : Int32) (w : pm_W) (s : ps_S), 0 ≤ x3.toInt → x3.toInt ≤ 3078 → 3100 - x3.toInt ≤ (n : Int) → ps_R w s → LI s t → pm_H (some (L, xs)) 300 310 18 [(3, .int x3), (2, .ref 1131), (1, .ref 0), (0, .ref pm_SC)] [] w (fun o w' => o = some (.int 1) ∧ w'.2 = (1179, 65954)) := by
  intro n
  induction n with
  | zero =>
    intro x3 t w s h0 h1 hn _ _
    omega
  | succ n ih =>
    intro x3 t w s h0 h1 hn hw hI
    have eL : (nI L).toInt = (L : Int) := nI_toInt (by omega)
    have e6 : (6 : Int32).toInt = 6 := by decide
    have eL6 : (nI L - 6).toInt = (L : Int) - 6 := by rw [xIs (by omega) (by omega), eL, e6]
    refine pm_H.go (pc' := 19) rfl rfl rfl rfl ?_
    refine pm_H.go (pc' := 20) rfl rfl rfl rfl ?_
    refine pm_H.go (pc' := 21) (st' := [.int (nI L), .int x3]) rfl rfl rfl rfl ?_
    refine pm_H.go (pc' := 23) (st' := [.int 6, .int (nI L), .int x3]) rfl rfl rfl rfl ?_
    refine pm_H.go (pc' := 24) (st' := [.int (nI L - 6), .int x3]) rfl rfl rfl rfl ?_
    by_cases h : (nI L - 6) < x3
    · refine pm_H.bricmp (b := true) (pc' := 864) rfl rfl (decide_eq_true h) rfl rfl ?_
      refine pm_H.go (pc' := 865) (st' := [.int 1]) rfl rfl rfl rfl ?_
      exact pm_H.ret rfl rfl rfl ⟨rfl, hw.1⟩
    · have h2 : x3.toInt + 6 ≤ (L : Int) := by
        have : ¬ ((nI L - 6).toInt < x3.toInt) := fun q => h (Int32.lt_iff_toInt_lt.mpr q)
        omega
      have ha : ∀ (k : Int32) (_ : pm_in k 6 = true), pm_in (x3 + k) L = true := fun k hk => by
        have q := pin_i hk
        have ek : (x3 + k).toInt = x3.toInt + k.toInt := xIa (by omega) (by omega)
        exact xgi (by omega) (by omega)
      have kk : ∀ (w' : pm_W) (s' : ps_S) (t' : Int32), ps_R w' s' → LI s' t' → pm_H (some (L, xs)) 300 310 858 [(3, .int x3), (2, .ref 1131), (1, .ref 0), (0, .ref pm_SC)] [] w' (fun o w' => o = some (.int 1) ∧ w'.2 = (1179, 65954)) := fun w' s' t' hw' hI' => by
        have e36 : (x3 + 6).toInt = x3.toInt + 6 := by rw [xIa (by omega) (by omega), e6]
        refine pm_H.go (pc' := 861) (L' := [(3, .int (x3 + 6)), (2, .ref 1131), (1, .ref 0), (0, .ref pm_SC)]) rfl rfl rfl rfl ?_
        refine pm_H.go (pc' := 18) rfl rfl rfl rfl ?_
        exact ih (x3 + 6) t' w' s' (by omega) (by omega) (by omega) hw' hI'
      refine pm_H.bricmp (b := false) (pc' := 27) rfl rfl (decide_eq_false h) rfl rfl ?_
      refine pm_H.go (pc' := 28) (st' := [.ref pm_SC]) rfl rfl rfl rfl ?_
      refine pm_H.go (pc' := 29) (st' := [.int x3, .ref pm_SC]) rfl rfl rfl rfl ?_
      refine pm_H.sld (i := x3) rfl rfl (xgi h0 (by omega)) ?_
      refine pm_H.go (pc' := 32) (st' := [.int 31, .int (xs (Int32.toNatClampNeg x3))]) rfl rfl rfl rfl ?_
      refine pm_H.go (pc' := 33) (st' := [.int (xs (Int32.toNatClampNeg x3) &&& 31)]) rfl rfl rfl rfl ?_
      obtain ⟨j, hj, ej⟩ := pk_andE (xs (Int32.toNatClampNeg x3)) (m := 31) 5 (by decide)
      rw [ej]
      have hj' : j < 32 := hj
      rcases (show j = 0 ∨ j = 1 ∨ j = 2 ∨ j = 3 ∨ j = 4 ∨ j = 5 ∨ j = 6 ∨ j = 7 ∨ j = 8 ∨ j = 9 ∨ j = 10 ∨ j = 11 ∨ j = 12 ∨ j = 13 ∨ j = 14 ∨ j = 15 ∨ j = 16 ∨ j = 17 ∨ j = 18 ∨ j = 19 ∨ j = 20 ∨ j = 21 ∨ j = 22 ∨ j = 23 ∨ j = 24 ∨ j = 25 ∨ j = 26 ∨ j = 27 ∨ j = 28 ∨ j = 29 ∨ j = 30 ∨ j = 31 by omega) with rfl | rfl | rfl | rfl | rfl | rfl | rfl | rfl | rfl | rfl | rfl | rfl | rfl | rfl | rfl | rfl | rfl | rfl | rfl | rfl | rfl | rfl | rfl | rfl | rfl | rfl | rfl | rfl | rfl | rfl | rfl | rfl
      · exact pm_H.go (pc' := 168) rfl rfl rfl rfl (l2_op0 ha hw hI kk)
      · exact pm_H.go (pc' := 231) rfl rfl rfl rfl (l2_op1 ha hw hI kk)
      · exact pm_H.go (pc' := 254) rfl rfl rfl rfl (l2_op2 ha hw hI kk)
      · exact pm_H.go (pc' := 267) rfl rfl rfl rfl (l2_op3 ha hw hI kk)
      · exact pm_H.go (pc' := 290) rfl rfl rfl rfl (l2_op4 ha hw hI kk)
      · exact pm_H.go (pc' := 303) rfl rfl rfl rfl (l2_op5 ha hw hI kk)
      · exact pm_H.go (pc' := 326) rfl rfl rfl rfl (l2_op6 ha hw hI kk)
      · exact pm_H.go (pc' := 359) rfl rfl rfl rfl (l2_op7 ha hw hI kk)
      · exact pm_H.go (pc' := 392) rfl rfl rfl rfl (l2_op8 ha hw hI kk)
      · exact pm_H.go (pc' := 435) rfl rfl rfl rfl (l2_op9 ha hw hI kk)
      · exact pm_H.go (pc' := 448) rfl rfl rfl rfl (l2_op10 ha hw hI kk)
      · exact pm_H.go (pc' := 481) rfl rfl rfl rfl (l2_op11 ha hw hI kk)
      · exact pm_H.go (pc' := 514) rfl rfl rfl rfl (l2_op12 ha hw hI kk)
      · exact pm_H.go (pc' := 527) rfl rfl rfl rfl (l2_op13 ha hw hI kk)
      · exact pm_H.go (pc' := 540) rfl rfl rfl rfl (l2_op14 ha hw hI kk)
      · exact pm_H.go (pc' := 563) rfl rfl rfl rfl (l2_op15 ha hw hI kk)
      · exact pm_H.go (pc' := 576) rfl rfl rfl rfl (l2_op16 ha hw hI kk)
      · exact pm_H.go (pc' := 599) rfl rfl rfl rfl (l2_op17 ha hw hI kk)
      · exact pm_H.go (pc' := 612) rfl rfl rfl rfl (l2_op18 ha hw hI kk)
      · exact pm_H.go (pc' := 625) rfl rfl rfl rfl (l2_op19 ha hw hI kk)
      · exact pm_H.go (pc' := 638) rfl rfl rfl rfl (l2_op20 ha hw hI kk)
      · exact pm_H.go (pc' := 651) rfl rfl rfl rfl (l2_op21 ha hw hI kk)
      · exact pm_H.go (pc' := 674) rfl rfl rfl rfl (l2_op22 ha hw hI kk)
      · exact pm_H.go (pc' := 687) rfl rfl rfl rfl (l2_op23 ha hw hI kk)
      · exact pm_H.go (pc' := 710) rfl rfl rfl rfl (l2_op24 ha hw hI kk)
      · exact pm_H.go (pc' := 733) rfl rfl rfl rfl (l2_op25 ha hw hI kk)
      · exact pm_H.go (pc' := 766) rfl rfl rfl rfl (l2_op26 ha hw hI kk)
      · exact pm_H.go (pc' := 789) rfl rfl rfl rfl (l2_op27 ha hw hI kk)
      · exact pm_H.go (pc' := 812) rfl rfl rfl rfl (l2_op28 ha hw hI kk)
      · exact pm_H.go (pc' := 835) rfl rfl rfl rfl (l2_op29 ha hw hI kk)
      · exact pm_H.go (pc' := 858) rfl rfl rfl rfl (kk w s t hw hI)
      · exact pm_H.go (pc' := 858) rfl rfl rfl rfl (kk w s t hw hI)
theorem pm_law {L : Nat} (hL : L ≤ 3072) (xs : Nat → Int32) : ∃ (n : Nat) (w' : pm_W), pm_run (some (L, xs)) n 300 310 0 [(0, .ref pm_SC)] [] pm_w0 = some (some (.int 1), w') ∧ w'.2.1 - 0 ≤ room_1.cells ∧ w'.2.2 - 0 ≤ room_1.slots := by
  have key : pm_H (some (L, xs)) 300 310 0 [(0, .ref pm_SC)] [] pm_w0 (fun o w' => o = some (.int 1) ∧ w'.2 = (1179, 65954)) := by
    refine pm_H.go (pc' := 3) rfl rfl rfl rfl ?_
    refine pm_H.go (pc' := 4) rfl rfl rfl rfl ?_
    refine pm_Tk (d' := 299) rfl rfl rfl (by decide) rfl (by decide) rfl rfl ⟨_, pm_mA⟩ ?_
    refine pm_H.go (pc' := 8) (L' := [(1, .ref 0), (0, .ref pm_SC)]) (st' := []) rfl rfl rfl rfl ?_
    refine pm_H.go (pc' := 11) rfl rfl rfl rfl ?_
    refine pm_H.go (pc' := 12) rfl rfl rfl rfl ?_
    refine pm_Tk (d' := 299) rfl rfl rfl (by decide) rfl (by decide) rfl rfl ⟨_, pm_mB⟩ ?_
    refine pm_H.go (pc' := 16) (L' := [(2, .ref 1131), (1, .ref 0), (0, .ref pm_SC)]) (st' := []) rfl rfl rfl rfl ?_
    refine pm_H.go (pc' := 17) rfl rfl rfl rfl ?_
    refine pm_H.go (pc' := 18) (L' := [(3, .int 0), (2, .ref 1131), (1, .ref 0), (0, .ref pm_SC)]) (st' := []) rfl rfl rfl rfl ?_
    exact l2_loop hL 3100 0 0 pm_w1 ps_s1 (by decide) (by decide) (by decide) s1_R s1_LI
  obtain ⟨o, w', ⟨n, hn⟩, rfl, hz⟩ := key
  refine ⟨n, w', hn, ?_, ?_⟩
  · rw [hz]
    decide
  · rw [hz]
    decide
end
section
def R_law : String := "ProofBenchLaw"
def lw_P (b : Addr) (xs : List Int32) (args : Array Value) (s : State) : Prop := args = #[.ref b] ∧ s.IntsAt b xs ∧ xs.length ≤ 3072 ∧ (Jvm.Cond.and given_1 narrow_1).before args s = true
def lw_Q (_ : Array Value) (s : State) (o : Outcome) (t : State) : Prop := o = .returned (some (.int 1)) ∧ Framed s o t [] 600000 7302250
def lw_Z (below : List Frame) (a : Array Value) (s : State) : State → Prop := fun t => ∃ o, t.status = .running ∧ Ended t below o ∧ lw_Q a s o t
/-- the law's own end, with 1 on the stack, nothing written that was there before, its room as the claim has it -/
theorem lw_ret {p : Program} {l : Launch} {e : Env} {s : State} {m : MethodId} {below : List Frame} {meth : Method} {c : Code} {b : Nat} (hx : p.tables.exec = Jvm.exec) (hb : c.code = code) (hr : meth.sig.returnType = ret) (hlocks : meth.locks = false) {pc : Nat} {H : Heap} {ls : Array Slot} (hdg : decode code pc = .ok (.ireturn, 1)) : W p l e room_1 s m #[Value.ref b] below meth c H [] 600000 7302250 (lw_Z below #[Value.ref b] s) (F0 m pc ls [.int 1]) := by
  intro T hT X
  obtain ⟨fs, hret, hrun, hended, hW, hframe⟩ := X.leave (v := some (.int 1)) (hlocks := hlocks) (fun h => by rw [hr] at h; cases h)
  have hmeth' : T.vm.method? m = some meth := X.method'
  refine ⟨T.setFrames fs, ?_, .returned (some (.int 1)), hrun, hended, rfl, ⟨_, rfl⟩, hW, hframe⟩
  jvm_step X.here [X.here.top, hx, hb, hdg, hmeth', hr, ret, narrow_b1]
  (try refine ⟨rfl, ?_⟩); (try refine ⟨rfl, ?_⟩)
  first | (intro acts; rw [hret _ acts rfl rfl rfl]) | rw [hret _ _ rfl rfl rfl]
  exact Steps.refl _
/-- what holds at the law's entry: the machine, the code, the tables' words (any of lw_tbl by 'hts w (by decide +kernel)'), the script of L ints xs at the cell b, what the Statement gives of the start (any of its parts by flat_of_before) -/
def lw_At (p : Program) (s : State) (m : MethodId) (meth : Method) (c : Code) (b L : Nat) (xs : Nat → Int32) : Prop :=
  p.tables.exec = Jvm.exec ∧ c.code = code ∧ meth.sig.returnType = ret ∧ c.maxLocals = 4 ∧ s.vm.findClass R_law = some m.cls ∧ (∀ w ∈ lw_tbl, w.before #[Value.ref b] s = true) ∧ va_X b L xs s s.heap ∧ b < s.heap.size ∧ meth.locks = false ∧ (Jvm.Cond.and given_1 narrow_1).before #[Value.ref b] s = true
set_option maxRecDepth 20000 in
theorem whole_start {p : Program} {e : Env} {s : State} {m : MethodId} {below : List Frame} {meth : Method} {c : Code} (l : Launch) (hflags : l.flags = flags0) {b L : Nat} {xs : Nat → Int32} (hL : L ≤ 3072) (C0 : lw_At p s m meth c b L xs) : W p l e room_1 s m #[Value.ref b] below meth c s.heap [] 0 0 (lw_Z below #[Value.ref b] s) (entryFrame m ([Value.ref b] : List Value).toArray 4) := by
  obtain ⟨hx, hb, hr, hml, hown, hts, hX, hbl, hlocks, hgv⟩ := id C0
  obtain ⟨G, g1, g2, g3, T⟩ := pm_start hts hX hbl hgv
  obtain ⟨n, w', hrun, hsz1, hsz2⟩ := pm_law hL xs
  have F : pm_Fr 310 300 p room_1 s m #[Value.ref b] meth c := ⟨hx, hb, hr, hml, hown, pm_gw_of hts, hlocks, fun h => absurd h (by decide), by decide, by decide, by decide +kernel⟩
  have hl := lv_entry ([.ref b]) (n := 4) (Nat.le_of_ble_eq_true rfl)
  rw [lg_entry_eq]
  generalize (lg_sl ([.ref b]) ++ List.replicate (4 - (lg_sl ([.ref b])).length) Slot.unset).toArray = ls at hl ⊢
  have hl : lv_has ls (pm_ml 310) (pm_ph G [(0, .ref pm_SC)]) := by
    have e : pm_ph G [(0, .ref pm_SC)] = [(0, .ref b)] := by
      show [(0, Value.ref (G.2.1 100))] = _
      rw [g2]
    rw [e]
    exact hl
  rw [← g3] at hrun
  have K := pm_run_ok l G n 300 310 0 [(0, .ref pm_SC)] [] pm_w0 (some (.int 1)) w' hrun p e room_1 s m #[Value.ref b] below meth c s.heap [] ls 0 0 (lw_Z below #[Value.ref b] s) F T hl (Nat.le_refl _) (Nat.le_refl _) hsz1 hsz2 (fun pc k i ls st H locs h1 h2 h3 h4 => by
    unfold pm_rtn at h3
    split at h3
    · have D := pm_dec h1 1 rfl (by decide)
      have ex : ∀ x : Int32, (match pm_ret 310 with | some .int => some (some (Value.int x)) | some .boolean => cond (decide (x &&& 1 = x)) (some (some (Value.int x))) none | _ => none) = some (some (Value.int 1)) → x = 1 := by
        intro x hx
        have e : pm_ret 310 = some .boolean := rfl
        rw [e] at hx
        dsimp only at hx
        obtain ⟨-, hx⟩ := pm_ct hx
        cases hx
        rfl
      have e1 := ex _ h3
      subst e1
      refine va_forget (fun q hq => by rw [← g1]; exact h4.2.2.1.2.2 q hq) ?_
      refine W.widen (k := 600000) (n := 7302250) hsz1 hsz2 ?_
      exact lw_ret hx hb hr hlocks D
    · split at h3 <;> cases h3
    · split at h3 <;> cases h3
    · split at h3 <;> cases h3
    · cases h3)
  exact K
-- ===== YOUR PART ENDS =====
set_option maxHeartbeats 4000000 in
theorem lw_walk (l : Launch) (hflags : l.flags = flags0) (b : Addr) (xs : List Int32) : MetFree l x (headSpec (Jvm.Cond.code x code maxLocals ret :: tables_1) room_1) (lw_P b xs) (fun _ _ _ _ _ => True) lw_Q := by
  refine MetFree.of_bodyS (code := code) (maxLocals := maxLocals) (ret := ret) (by decide) ?_ ?_
  · intro args s m h hn
    obtain ⟨meth, c, h1, h2, h3, h4, h5, h6, -, -⟩ := Cond.code_spec hn (atoms_spec (ws := Jvm.Cond.code x code maxLocals ret :: tables_1) h _ List.mem_cons_self)
    exact ⟨meth, c, h1, h2, h3, h4, h5, h6⟩
  · intro p e s m args below meth c s₁ B hml0 hP _
    obtain ⟨rfl, hx, hbd, hgv⟩ := hP
    obtain ⟨scr, harrAt, hlist, hof, hsmall⟩ := hx
    obtain ⟨hcb, hkn, -, -⟩ := State.arrayAt?_spec harrAt
    have hown : s.vm.findClass R_law = some m.cls := findClass_of_methodNamed B.named
    have hts0 : ∀ c ∈ (Jvm.Cond.code x code maxLocals ret :: tables_1), c.before #[Value.ref b] s = true := atoms_spec (ws := Jvm.Cond.code x code maxLocals ret :: tables_1) B.pre
    have hts : ∀ w ∈ lw_tbl, w.before #[Value.ref b] s = true := k2_hts_sels lw_privs (fun w hw => hts0 w (List.mem_cons_of_mem _ hw)) lw_privs_ok
    have hml : c.maxLocals = 4 := B.maxLocals_eq (hts0 _ List.mem_cons_self)
    have X₀ : Stand p l e room_1 s m #[Value.ref b] below meth c s₁ [] 0 0 := Stand.of_body B
    have hh0 : s₁.heap = s.heap := by rw [B.state]; rfl
    have hsz : scr.slots.size = xs.length := by rw [← Array.length_toList, hlist, List.length_map]
    have hval : ∀ j : Nat, j < xs.length → scr.slots[j]? = some (.int (xs.getD j 0)) := fun j hj => by
      rw [← Array.getElem?_toList, hlist]
      simp [hj]
    have hbl : b < s.heap.size := (Array.getElem?_eq_some_iff.mp hcb).1
    have hX : va_X b xs.length (fun j => xs.getD j 0) s s.heap := ⟨scr, hcb, hof, hkn, hsz, hval⟩
    have K : W p l e room_1 s m #[Value.ref b] below meth c s₁.heap [] 0 0 (lw_Z below #[Value.ref b] s) (entryFrame m ([Value.ref b] : List Value).toArray 4) := by
      rw [hh0]
      exact whole_start l hflags hbd ⟨B.exec, B.bytes, B.returns, hml, hown, hts, hX, hbl, B.notSynchronized, hgv⟩
    obtain ⟨t, a1, o, b1, b2, b3⟩ := K s₁ rfl X₀
    exact ⟨t, o, a1, b1, b2, b3⟩
theorem lw_pre_spec {args : Array Value} {s : State} (h : (Jvm.Cond.and given_1 narrow_1).before args s = true) (hr : rest_1_c.before args s = true) : ∃ (b : Addr) (xs : List Int32), lw_P b xs args s := by
  have hs := flat_of_before _ h
  have hq := flat_of_before _ hr
  have hc : (Cond.count 1).before args s = true := hs _ (by decide +kernel)
  have harr : (Cond.arrayOf (.arg 0) .int).before args s = true := hs _ (by decide +kernel)
  have hle : (Cond.le (.length (.arg 0)) (.int 3072)).before args s = true := hs _ (by decide +kernel)
  have hlen : (Cond.isInt (.length (.arg 0))).before args s = true := hq _ (by decide +kernel)
  have hall : (Cond.all (.arg 0) (.isInt (.elem (.arg 0) (.index 0)))).before args s = true := hq _ (by decide +kernel)
  obtain ⟨b, xs, hb, hx⟩ := State.ints_of_pre rfl harr hlen hall
  have hsm : xs.length < 2 ^ 31 := hx.choose_spec.2.2.2
  have hev : (Term.length (.arg 0)).eval args s none [] s = some (.int xs.length.toInt32) := hx.length_eval hb
  have hv := Cond.le_ints hev (show (Term.int 3072).eval args s none [] s = some (.int 3072) from rfl)
  have hd : xs.length.toInt32 ≤ 3072 := by
    simpa [Cond.before, Cond.holds, hv] using hle
  have hN : xs.length ≤ 3072 := (Int32.ofNat_le_ofNat hsm (by decide)).mp (show Int32.ofNat xs.length ≤ Int32.ofNat 3072 from hd)
  exact ⟨b, xs, Cond.one_arg hc (show args[0]? = some (.ref b) from hb), hx, hN, h⟩
theorem lw_comes (l : Launch) (hflags : l.flags = flags0) : Comes l x (Jvm.Cond.code x code maxLocals ret :: tables_1) room_1 (fun tb e args s => Calls_1 tb e args s ∧ rest_1 tb e args s ∧ Pre_1 tb e args s)
    (fun _ _ args s o t => lw_Q args s o t) := by
  intro p e ha hc hk s m args below hf hfit hheap happ hpre
  obtain ⟨b, xs, hP⟩ := lw_pre_spec hpre.2.2 hpre.2.1
  obtain ⟨k, o, h1, h2, h3, hQ⟩ := lw_walk l hflags b xs p e ha hc hk s m args below hf ((Spec.applies_iff_loose hf).mp happ).1 hP trivial
  exact ⟨k, o, h1, h2, h3, hQ⟩
theorem lw_frame {s t : State} {o : Outcome} {args : Array Value} (h : Framed s o t [] 600000 7302250) :
    Framed s o t (fieldLocs frame_1_writes args s ++ arrayLocs frame_1_arrays args s ++ staticLocs frame_1_statics s) 600000 7302250 := h
theorem lw_limb (L : Cond) (hL : ∀ (args : Array Value) (s t : State), L.after args s (.returned (some (.int 1))) t = true) :
    ArmFor flags0 classFile x code maxLocals ret World_1 tables_1 room_1 Calls_1 rest_1 Pre_1
      (fun tb e a s o t => postC L tb e a s o t ∧ Framed s o t (fieldLocs frame_1_writes a s ++ arrayLocs frame_1_arrays a s ++ staticLocs frame_1_statics s) 600000 7302250) := by
  intro l hflags _ _ p e ha hc hk s m args below hf hfit hheap happ hpre
  obtain ⟨k, o, h1, h2, h3, rfl, hF⟩ := lw_comes l hflags p e ha hc hk s m args below hf hfit hheap happ hpre
  exact ⟨k, _, h1, h2, h3, hL args s _, lw_frame hF⟩
theorem i_vc : Claimed_1_1 ∧ Claimed_1_2 := ⟨lw_limb limb_1_1 (fun args s t => by simp [limb_1_1, Cond.after, Cond.holds, Cond.value]), lw_limb limb_1_2 (fun args s t => Cond.after_iff.mpr (by
  first | (rw [show limb_1_2 = Cond.eq .result (.int 1) from rfl, Cond.eq_ints (x := 1) (y := 1) rfl rfl]; simp; done) | (simp [limb_1_2, Cond.value, Term.eval]; done)))⟩
end
