set_option maxRecDepth 100000
theorem l7_op0 {L : Nat} {xs : Nat → Int32} {x3 t : Int32} {w : pm_W} {s : ps_S} {Q : Option Value → pm_W → Prop} (ha : ∀ (k : Int32) (_ : pm_in k 6 = true), pm_in (x3 + k) L = true) (hw : ps_R w s) (h : FSt s t) (K : ∀ (w' : pm_W) (s' : ps_S) (t' : Int32), ps_R w' s' → FSt s' t' → pm_H (some (L, xs)) 300 310 858 [(3, .int x3), (2, .ref 1131), (1, .ref 0), (0, .ref pm_SC)] [] w' Q) : pm_H (some (L, xs)) 300 310 168 [(3, .int x3), (2, .ref 1131), (1, .ref 0), (0, .ref pm_SC)] [] w Q := by
  refine pm_H.go (pc' := 169) (st' := [.ref 0]) rfl rfl rfl rfl ?_
  refine pm_H.go (pc' := 170) (st' := [.ref pm_SC, .ref 0]) rfl rfl rfl rfl ?_
  refine pm_H.go (pc' := 171) (st' := [.int x3, .ref pm_SC, .ref 0]) rfl rfl rfl rfl ?_
  refine pm_H.go (pc' := 172) (st' := [.int 1, .int x3, .ref pm_SC, .ref 0]) rfl rfl rfl rfl ?_
  refine pm_H.go (pc' := 173) (st' := [.int (x3 + 1), .ref pm_SC, .ref 0]) rfl rfl rfl rfl ?_
  refine pm_H.sld (i := (x3 + 1)) rfl rfl (ha 1 rfl) ?_
  refine pm_H.go (pc' := 175) (st' := [.ref pm_SC, .int (xs (Int32.toNatClampNeg (x3 + 1))), .ref 0]) rfl rfl rfl rfl ?_
  refine pm_H.go (pc' := 176) (st' := [.int x3, .ref pm_SC, .int (xs (Int32.toNatClampNeg (x3 + 1))), .ref 0]) rfl rfl rfl rfl ?_
  refine pm_H.go (pc' := 177) (st' := [.int 2, .int x3, .ref pm_SC, .int (xs (Int32.toNatClampNeg (x3 + 1))), .ref 0]) rfl rfl rfl rfl ?_
  refine pm_H.go (pc' := 178) (st' := [.int (x3 + 2), .ref pm_SC, .int (xs (Int32.toNatClampNeg (x3 + 1))), .ref 0]) rfl rfl rfl rfl ?_
  refine pm_H.sld (i := (x3 + 2)) rfl rfl (ha 2 rfl) ?_
  refine pm_H.go (pc' := 180) (st' := [.ref pm_SC, .int (xs (Int32.toNatClampNeg (x3 + 2))), .int (xs (Int32.toNatClampNeg (x3 + 1))), .ref 0]) rfl rfl rfl rfl ?_
  refine pm_H.go (pc' := 181) (st' := [.int x3, .ref pm_SC, .int (xs (Int32.toNatClampNeg (x3 + 2))), .int (xs (Int32.toNatClampNeg (x3 + 1))), .ref 0]) rfl rfl rfl rfl ?_
  refine pm_H.go (pc' := 182) (st' := [.int 3, .int x3, .ref pm_SC, .int (xs (Int32.toNatClampNeg (x3 + 2))), .int (xs (Int32.toNatClampNeg (x3 + 1))), .ref 0]) rfl rfl rfl rfl ?_
  refine pm_H.go (pc' := 183) (st' := [.int (x3 + 3), .ref pm_SC, .int (xs (Int32.toNatClampNeg (x3 + 2))), .int (xs (Int32.toNatClampNeg (x3 + 1))), .ref 0]) rfl rfl rfl rfl ?_
  refine pm_H.sld (i := (x3 + 3)) rfl rfl (ha 3 rfl) ?_
  refine pm_H.go (pc' := 185) (st' := [.ref pm_SC, .int (xs (Int32.toNatClampNeg (x3 + 3))), .int (xs (Int32.toNatClampNeg (x3 + 2))), .int (xs (Int32.toNatClampNeg (x3 + 1))), .ref 0]) rfl rfl rfl rfl ?_
  refine pm_H.go (pc' := 186) (st' := [.int x3, .ref pm_SC, .int (xs (Int32.toNatClampNeg (x3 + 3))), .int (xs (Int32.toNatClampNeg (x3 + 2))), .int (xs (Int32.toNatClampNeg (x3 + 1))), .ref 0]) rfl rfl rfl rfl ?_
  refine pm_H.go (pc' := 187) (st' := [.int 4, .int x3, .ref pm_SC, .int (xs (Int32.toNatClampNeg (x3 + 3))), .int (xs (Int32.toNatClampNeg (x3 + 2))), .int (xs (Int32.toNatClampNeg (x3 + 1))), .ref 0]) rfl rfl rfl rfl ?_
  refine pm_H.go (pc' := 188) (st' := [.int (x3 + 4), .ref pm_SC, .int (xs (Int32.toNatClampNeg (x3 + 3))), .int (xs (Int32.toNatClampNeg (x3 + 2))), .int (xs (Int32.toNatClampNeg (x3 + 1))), .ref 0]) rfl rfl rfl rfl ?_
  refine pm_H.sld (i := (x3 + 4)) rfl rfl (ha 4 rfl) ?_
  refine pm_H.go (pc' := 190) (st' := [.ref pm_SC, .int (xs (Int32.toNatClampNeg (x3 + 4))), .int (xs (Int32.toNatClampNeg (x3 + 3))), .int (xs (Int32.toNatClampNeg (x3 + 2))), .int (xs (Int32.toNatClampNeg (x3 + 1))), .ref 0]) rfl rfl rfl rfl ?_
  refine pm_H.go (pc' := 191) (st' := [.int x3, .ref pm_SC, .int (xs (Int32.toNatClampNeg (x3 + 4))), .int (xs (Int32.toNatClampNeg (x3 + 3))), .int (xs (Int32.toNatClampNeg (x3 + 2))), .int (xs (Int32.toNatClampNeg (x3 + 1))), .ref 0]) rfl rfl rfl rfl ?_
  refine pm_H.go (pc' := 192) (st' := [.int 5, .int x3, .ref pm_SC, .int (xs (Int32.toNatClampNeg (x3 + 4))), .int (xs (Int32.toNatClampNeg (x3 + 3))), .int (xs (Int32.toNatClampNeg (x3 + 2))), .int (xs (Int32.toNatClampNeg (x3 + 1))), .ref 0]) rfl rfl rfl rfl ?_
  refine pm_H.go (pc' := 193) (st' := [.int (x3 + 5), .ref pm_SC, .int (xs (Int32.toNatClampNeg (x3 + 4))), .int (xs (Int32.toNatClampNeg (x3 + 3))), .int (xs (Int32.toNatClampNeg (x3 + 2))), .int (xs (Int32.toNatClampNeg (x3 + 1))), .ref 0]) rfl rfl rfl rfl ?_
  refine pm_H.sld (i := (x3 + 5)) rfl rfl (ha 5 rfl) ?_
  refine l2_call (c := 11) (q := 0) rfl rfl rfl (by decide) rfl (by decide) hw (by decide) rfl rfl rfl (FP_0 h) (fun o w1 s1 hw1 hp => ?_)
  obtain ⟨v1, rfl, hp⟩ := l2_int hp
  show pm_H (some (L, xs)) 300 310 197 [(3, .int x3), (2, .ref 1131), (1, .ref 0), (0, .ref pm_SC)] [.int v1] w1 Q
  refine pm_H.go (pc' := 198) (st' := []) rfl rfl rfl rfl ?_
  refine pm_H.go (pc' := 199) (st' := [.ref 1131]) rfl rfl rfl rfl ?_
  refine pm_H.go (pc' := 200) (st' := [.ref pm_SC, .ref 1131]) rfl rfl rfl rfl ?_
  refine pm_H.go (pc' := 201) (st' := [.int x3, .ref pm_SC, .ref 1131]) rfl rfl rfl rfl ?_
  refine pm_H.go (pc' := 202) (st' := [.int 1, .int x3, .ref pm_SC, .ref 1131]) rfl rfl rfl rfl ?_
  refine pm_H.go (pc' := 203) (st' := [.int (x3 + 1), .ref pm_SC, .ref 1131]) rfl rfl rfl rfl ?_
  refine pm_H.sld (i := (x3 + 1)) rfl rfl (ha 1 rfl) ?_
  refine pm_H.go (pc' := 205) (st' := [.ref pm_SC, .int (xs (Int32.toNatClampNeg (x3 + 1))), .ref 1131]) rfl rfl rfl rfl ?_
  refine pm_H.go (pc' := 206) (st' := [.int x3, .ref pm_SC, .int (xs (Int32.toNatClampNeg (x3 + 1))), .ref 1131]) rfl rfl rfl rfl ?_
  refine pm_H.go (pc' := 207) (st' := [.int 2, .int x3, .ref pm_SC, .int (xs (Int32.toNatClampNeg (x3 + 1))), .ref 1131]) rfl rfl rfl rfl ?_
  refine pm_H.go (pc' := 208) (st' := [.int (x3 + 2), .ref pm_SC, .int (xs (Int32.toNatClampNeg (x3 + 1))), .ref 1131]) rfl rfl rfl rfl ?_
  refine pm_H.sld (i := (x3 + 2)) rfl rfl (ha 2 rfl) ?_
  refine pm_H.go (pc' := 210) (st' := [.ref pm_SC, .int (xs (Int32.toNatClampNeg (x3 + 2))), .int (xs (Int32.toNatClampNeg (x3 + 1))), .ref 1131]) rfl rfl rfl rfl ?_
  refine pm_H.go (pc' := 211) (st' := [.int x3, .ref pm_SC, .int (xs (Int32.toNatClampNeg (x3 + 2))), .int (xs (Int32.toNatClampNeg (x3 + 1))), .ref 1131]) rfl rfl rfl rfl ?_
  refine pm_H.go (pc' := 212) (st' := [.int 3, .int x3, .ref pm_SC, .int (xs (Int32.toNatClampNeg (x3 + 2))), .int (xs (Int32.toNatClampNeg (x3 + 1))), .ref 1131]) rfl rfl rfl rfl ?_
  refine pm_H.go (pc' := 213) (st' := [.int (x3 + 3), .ref pm_SC, .int (xs (Int32.toNatClampNeg (x3 + 2))), .int (xs (Int32.toNatClampNeg (x3 + 1))), .ref 1131]) rfl rfl rfl rfl ?_
  refine pm_H.sld (i := (x3 + 3)) rfl rfl (ha 3 rfl) ?_
  refine pm_H.go (pc' := 215) (st' := [.ref pm_SC, .int (xs (Int32.toNatClampNeg (x3 + 3))), .int (xs (Int32.toNatClampNeg (x3 + 2))), .int (xs (Int32.toNatClampNeg (x3 + 1))), .ref 1131]) rfl rfl rfl rfl ?_
  refine pm_H.go (pc' := 216) (st' := [.int x3, .ref pm_SC, .int (xs (Int32.toNatClampNeg (x3 + 3))), .int (xs (Int32.toNatClampNeg (x3 + 2))), .int (xs (Int32.toNatClampNeg (x3 + 1))), .ref 1131]) rfl rfl rfl rfl ?_
  refine pm_H.go (pc' := 217) (st' := [.int 4, .int x3, .ref pm_SC, .int (xs (Int32.toNatClampNeg (x3 + 3))), .int (xs (Int32.toNatClampNeg (x3 + 2))), .int (xs (Int32.toNatClampNeg (x3 + 1))), .ref 1131]) rfl rfl rfl rfl ?_
  refine pm_H.go (pc' := 218) (st' := [.int (x3 + 4), .ref pm_SC, .int (xs (Int32.toNatClampNeg (x3 + 3))), .int (xs (Int32.toNatClampNeg (x3 + 2))), .int (xs (Int32.toNatClampNeg (x3 + 1))), .ref 1131]) rfl rfl rfl rfl ?_
  refine pm_H.sld (i := (x3 + 4)) rfl rfl (ha 4 rfl) ?_
  refine pm_H.go (pc' := 220) (st' := [.ref pm_SC, .int (xs (Int32.toNatClampNeg (x3 + 4))), .int (xs (Int32.toNatClampNeg (x3 + 3))), .int (xs (Int32.toNatClampNeg (x3 + 2))), .int (xs (Int32.toNatClampNeg (x3 + 1))), .ref 1131]) rfl rfl rfl rfl ?_
  refine pm_H.go (pc' := 221) (st' := [.int x3, .ref pm_SC, .int (xs (Int32.toNatClampNeg (x3 + 4))), .int (xs (Int32.toNatClampNeg (x3 + 3))), .int (xs (Int32.toNatClampNeg (x3 + 2))), .int (xs (Int32.toNatClampNeg (x3 + 1))), .ref 1131]) rfl rfl rfl rfl ?_
  refine pm_H.go (pc' := 222) (st' := [.int 5, .int x3, .ref pm_SC, .int (xs (Int32.toNatClampNeg (x3 + 4))), .int (xs (Int32.toNatClampNeg (x3 + 3))), .int (xs (Int32.toNatClampNeg (x3 + 2))), .int (xs (Int32.toNatClampNeg (x3 + 1))), .ref 1131]) rfl rfl rfl rfl ?_
  refine pm_H.go (pc' := 223) (st' := [.int (x3 + 5), .ref pm_SC, .int (xs (Int32.toNatClampNeg (x3 + 4))), .int (xs (Int32.toNatClampNeg (x3 + 3))), .int (xs (Int32.toNatClampNeg (x3 + 2))), .int (xs (Int32.toNatClampNeg (x3 + 1))), .ref 1131]) rfl rfl rfl rfl ?_
  refine pm_H.sld (i := (x3 + 5)) rfl rfl (ha 5 rfl) ?_
  refine l2_call (c := 12) (q := 1131) rfl rfl rfl (by decide) rfl (by decide) hw1 (by decide) rfl rfl rfl hp (fun o w2 s2 hw2 hp2 => ?_)
  obtain ⟨v2, rfl, hp2⟩ := l2_int hp2
  show pm_H (some (L, xs)) 300 310 227 [(3, .int x3), (2, .ref 1131), (1, .ref 0), (0, .ref pm_SC)] [.int v2] w2 Q
  refine pm_H.go (pc' := 228) (st' := []) rfl rfl rfl rfl ?_
  refine pm_H.go (pc' := 858) (st' := []) rfl rfl rfl rfl ?_
  obtain ⟨t2, hS⟩ := hp2.2
  exact K w2 s2 t2 hw2 hS

theorem l7_op1 {L : Nat} {xs : Nat → Int32} {x3 t : Int32} {w : pm_W} {s : ps_S} {Q : Option Value → pm_W → Prop} (ha : ∀ (k : Int32) (_ : pm_in k 6 = true), pm_in (x3 + k) L = true) (hw : ps_R w s) (h : FSt s t) (K : ∀ (w' : pm_W) (s' : ps_S) (t' : Int32), ps_R w' s' → FSt s' t' → pm_H (some (L, xs)) 300 310 858 [(3, .int x3), (2, .ref 1131), (1, .ref 0), (0, .ref pm_SC)] [] w' Q) : pm_H (some (L, xs)) 300 310 231 [(3, .int x3), (2, .ref 1131), (1, .ref 0), (0, .ref pm_SC)] [] w Q := by
  refine pm_H.go (pc' := 232) (st' := [.ref 0]) rfl rfl rfl rfl ?_
  refine pm_H.go (pc' := 233) (st' := [.ref pm_SC, .ref 0]) rfl rfl rfl rfl ?_
  refine pm_H.go (pc' := 234) (st' := [.int x3, .ref pm_SC, .ref 0]) rfl rfl rfl rfl ?_
  refine pm_H.go (pc' := 235) (st' := [.int 1, .int x3, .ref pm_SC, .ref 0]) rfl rfl rfl rfl ?_
  refine pm_H.go (pc' := 236) (st' := [.int (x3 + 1), .ref pm_SC, .ref 0]) rfl rfl rfl rfl ?_
  refine pm_H.sld (i := (x3 + 1)) rfl rfl (ha 1 rfl) ?_
  refine l2_call (c := 11) (q := 0) rfl rfl rfl (by decide) rfl (by decide) hw (by decide) rfl rfl rfl (FP_1 h) (fun o w1 s1 hw1 hp => ?_)
  obtain ⟨v1, rfl, hp⟩ := l2_int hp
  show pm_H (some (L, xs)) 300 310 240 [(3, .int x3), (2, .ref 1131), (1, .ref 0), (0, .ref pm_SC)] [.int v1] w1 Q
  refine pm_H.go (pc' := 241) (st' := []) rfl rfl rfl rfl ?_
  refine pm_H.go (pc' := 242) (st' := [.ref 1131]) rfl rfl rfl rfl ?_
  refine pm_H.go (pc' := 243) (st' := [.ref pm_SC, .ref 1131]) rfl rfl rfl rfl ?_
  refine pm_H.go (pc' := 244) (st' := [.int x3, .ref pm_SC, .ref 1131]) rfl rfl rfl rfl ?_
  refine pm_H.go (pc' := 245) (st' := [.int 1, .int x3, .ref pm_SC, .ref 1131]) rfl rfl rfl rfl ?_
  refine pm_H.go (pc' := 246) (st' := [.int (x3 + 1), .ref pm_SC, .ref 1131]) rfl rfl rfl rfl ?_
  refine pm_H.sld (i := (x3 + 1)) rfl rfl (ha 1 rfl) ?_
  refine l2_call (c := 12) (q := 1131) rfl rfl rfl (by decide) rfl (by decide) hw1 (by decide) rfl rfl rfl hp (fun o w2 s2 hw2 hp2 => ?_)
  obtain ⟨v2, rfl, hp2⟩ := l2_int hp2
  show pm_H (some (L, xs)) 300 310 250 [(3, .int x3), (2, .ref 1131), (1, .ref 0), (0, .ref pm_SC)] [.int v2] w2 Q
  refine pm_H.go (pc' := 251) (st' := []) rfl rfl rfl rfl ?_
  refine pm_H.go (pc' := 858) (st' := []) rfl rfl rfl rfl ?_
  obtain ⟨t2, hS⟩ := hp2.2
  exact K w2 s2 t2 hw2 hS

theorem l7_op2 {L : Nat} {xs : Nat → Int32} {x3 t : Int32} {w : pm_W} {s : ps_S} {Q : Option Value → pm_W → Prop} (ha : ∀ (k : Int32) (_ : pm_in k 6 = true), pm_in (x3 + k) L = true) (hw : ps_R w s) (h : FSt s t) (K : ∀ (w' : pm_W) (s' : ps_S) (t' : Int32), ps_R w' s' → FSt s' t' → pm_H (some (L, xs)) 300 310 858 [(3, .int x3), (2, .ref 1131), (1, .ref 0), (0, .ref pm_SC)] [] w' Q) : pm_H (some (L, xs)) 300 310 254 [(3, .int x3), (2, .ref 1131), (1, .ref 0), (0, .ref pm_SC)] [] w Q := by
  refine pm_H.go (pc' := 255) (st' := [.ref 0]) rfl rfl rfl rfl ?_
  refine l2_call (c := 11) (q := 0) rfl rfl rfl (by decide) rfl (by decide) hw (by decide) rfl rfl rfl (FP_2 h) (fun o w1 s1 hw1 hp => ?_)
  obtain ⟨v1, rfl, hp⟩ := l2_int hp
  show pm_H (some (L, xs)) 300 310 258 [(3, .int x3), (2, .ref 1131), (1, .ref 0), (0, .ref pm_SC)] [.int v1] w1 Q
  refine pm_H.go (pc' := 259) (st' := []) rfl rfl rfl rfl ?_
  refine pm_H.go (pc' := 260) (st' := [.ref 1131]) rfl rfl rfl rfl ?_
  refine l2_call (c := 12) (q := 1131) rfl rfl rfl (by decide) rfl (by decide) hw1 (by decide) rfl rfl rfl hp (fun o w2 s2 hw2 hp2 => ?_)
  obtain ⟨v2, rfl, hp2⟩ := l2_int hp2
  show pm_H (some (L, xs)) 300 310 263 [(3, .int x3), (2, .ref 1131), (1, .ref 0), (0, .ref pm_SC)] [.int v2] w2 Q
  refine pm_H.go (pc' := 264) (st' := []) rfl rfl rfl rfl ?_
  refine pm_H.go (pc' := 858) (st' := []) rfl rfl rfl rfl ?_
  obtain ⟨t2, hS⟩ := hp2.2
  exact K w2 s2 t2 hw2 hS

theorem l7_op3 {L : Nat} {xs : Nat → Int32} {x3 t : Int32} {w : pm_W} {s : ps_S} {Q : Option Value → pm_W → Prop} (ha : ∀ (k : Int32) (_ : pm_in k 6 = true), pm_in (x3 + k) L = true) (hw : ps_R w s) (h : FSt s t) (K : ∀ (w' : pm_W) (s' : ps_S) (t' : Int32), ps_R w' s' → FSt s' t' → pm_H (some (L, xs)) 300 310 858 [(3, .int x3), (2, .ref 1131), (1, .ref 0), (0, .ref pm_SC)] [] w' Q) : pm_H (some (L, xs)) 300 310 267 [(3, .int x3), (2, .ref 1131), (1, .ref 0), (0, .ref pm_SC)] [] w Q := by
  refine pm_H.go (pc' := 268) (st' := [.ref 0]) rfl rfl rfl rfl ?_
  refine pm_H.go (pc' := 269) (st' := [.ref pm_SC, .ref 0]) rfl rfl rfl rfl ?_
  refine pm_H.go (pc' := 270) (st' := [.int x3, .ref pm_SC, .ref 0]) rfl rfl rfl rfl ?_
  refine pm_H.go (pc' := 271) (st' := [.int 1, .int x3, .ref pm_SC, .ref 0]) rfl rfl rfl rfl ?_
  refine pm_H.go (pc' := 272) (st' := [.int (x3 + 1), .ref pm_SC, .ref 0]) rfl rfl rfl rfl ?_
  refine pm_H.sld (i := (x3 + 1)) rfl rfl (ha 1 rfl) ?_
  refine l2_call (c := 11) (q := 0) rfl rfl rfl (by decide) rfl (by decide) hw (by decide) rfl rfl rfl (FP_3 h) (fun o w1 s1 hw1 hp => ?_)
  obtain ⟨v1, rfl, hp⟩ := l2_int hp
  show pm_H (some (L, xs)) 300 310 276 [(3, .int x3), (2, .ref 1131), (1, .ref 0), (0, .ref pm_SC)] [.int v1] w1 Q
  refine pm_H.go (pc' := 277) (st' := []) rfl rfl rfl rfl ?_
  refine pm_H.go (pc' := 278) (st' := [.ref 1131]) rfl rfl rfl rfl ?_
  refine pm_H.go (pc' := 279) (st' := [.ref pm_SC, .ref 1131]) rfl rfl rfl rfl ?_
  refine pm_H.go (pc' := 280) (st' := [.int x3, .ref pm_SC, .ref 1131]) rfl rfl rfl rfl ?_
  refine pm_H.go (pc' := 281) (st' := [.int 1, .int x3, .ref pm_SC, .ref 1131]) rfl rfl rfl rfl ?_
  refine pm_H.go (pc' := 282) (st' := [.int (x3 + 1), .ref pm_SC, .ref 1131]) rfl rfl rfl rfl ?_
  refine pm_H.sld (i := (x3 + 1)) rfl rfl (ha 1 rfl) ?_
  refine l2_call (c := 12) (q := 1131) rfl rfl rfl (by decide) rfl (by decide) hw1 (by decide) rfl rfl rfl hp (fun o w2 s2 hw2 hp2 => ?_)
  obtain ⟨v2, rfl, hp2⟩ := l2_int hp2
  show pm_H (some (L, xs)) 300 310 286 [(3, .int x3), (2, .ref 1131), (1, .ref 0), (0, .ref pm_SC)] [.int v2] w2 Q
  refine pm_H.go (pc' := 287) (st' := []) rfl rfl rfl rfl ?_
  refine pm_H.go (pc' := 858) (st' := []) rfl rfl rfl rfl ?_
  obtain ⟨t2, hS⟩ := hp2.2
  exact K w2 s2 t2 hw2 hS

theorem l7_op4 {L : Nat} {xs : Nat → Int32} {x3 t : Int32} {w : pm_W} {s : ps_S} {Q : Option Value → pm_W → Prop} (ha : ∀ (k : Int32) (_ : pm_in k 6 = true), pm_in (x3 + k) L = true) (hw : ps_R w s) (h : FSt s t) (K : ∀ (w' : pm_W) (s' : ps_S) (t' : Int32), ps_R w' s' → FSt s' t' → pm_H (some (L, xs)) 300 310 858 [(3, .int x3), (2, .ref 1131), (1, .ref 0), (0, .ref pm_SC)] [] w' Q) : pm_H (some (L, xs)) 300 310 290 [(3, .int x3), (2, .ref 1131), (1, .ref 0), (0, .ref pm_SC)] [] w Q := by
  refine pm_H.go (pc' := 291) (st' := [.ref 0]) rfl rfl rfl rfl ?_
  refine l2_call (c := 11) (q := 0) rfl rfl rfl (by decide) rfl (by decide) hw (by decide) rfl rfl rfl (FP_4 h) (fun o w1 s1 hw1 hp => ?_)
  obtain ⟨v1, rfl, hp⟩ := l2_int hp
  show pm_H (some (L, xs)) 300 310 294 [(3, .int x3), (2, .ref 1131), (1, .ref 0), (0, .ref pm_SC)] [.int v1] w1 Q
  refine pm_H.go (pc' := 295) (st' := []) rfl rfl rfl rfl ?_
  refine pm_H.go (pc' := 296) (st' := [.ref 1131]) rfl rfl rfl rfl ?_
  refine l2_call (c := 12) (q := 1131) rfl rfl rfl (by decide) rfl (by decide) hw1 (by decide) rfl rfl rfl hp (fun o w2 s2 hw2 hp2 => ?_)
  obtain ⟨v2, rfl, hp2⟩ := l2_int hp2
  show pm_H (some (L, xs)) 300 310 299 [(3, .int x3), (2, .ref 1131), (1, .ref 0), (0, .ref pm_SC)] [.int v2] w2 Q
  refine pm_H.go (pc' := 300) (st' := []) rfl rfl rfl rfl ?_
  refine pm_H.go (pc' := 858) (st' := []) rfl rfl rfl rfl ?_
  obtain ⟨t2, hS⟩ := hp2.2
  exact K w2 s2 t2 hw2 hS

theorem l7_op5 {L : Nat} {xs : Nat → Int32} {x3 t : Int32} {w : pm_W} {s : ps_S} {Q : Option Value → pm_W → Prop} (ha : ∀ (k : Int32) (_ : pm_in k 6 = true), pm_in (x3 + k) L = true) (hw : ps_R w s) (h : FSt s t) (K : ∀ (w' : pm_W) (s' : ps_S) (t' : Int32), ps_R w' s' → FSt s' t' → pm_H (some (L, xs)) 300 310 858 [(3, .int x3), (2, .ref 1131), (1, .ref 0), (0, .ref pm_SC)] [] w' Q) : pm_H (some (L, xs)) 300 310 303 [(3, .int x3), (2, .ref 1131), (1, .ref 0), (0, .ref pm_SC)] [] w Q := by
  refine pm_H.go (pc' := 304) (st' := [.ref 0]) rfl rfl rfl rfl ?_
  refine pm_H.go (pc' := 305) (st' := [.ref pm_SC, .ref 0]) rfl rfl rfl rfl ?_
  refine pm_H.go (pc' := 306) (st' := [.int x3, .ref pm_SC, .ref 0]) rfl rfl rfl rfl ?_
  refine pm_H.go (pc' := 307) (st' := [.int 1, .int x3, .ref pm_SC, .ref 0]) rfl rfl rfl rfl ?_
  refine pm_H.go (pc' := 308) (st' := [.int (x3 + 1), .ref pm_SC, .ref 0]) rfl rfl rfl rfl ?_
  refine pm_H.sld (i := (x3 + 1)) rfl rfl (ha 1 rfl) ?_
  refine l2_call (c := 11) (q := 0) rfl rfl rfl (by decide) rfl (by decide) hw (by decide) rfl rfl rfl (FP_5 h) (fun o w1 s1 hw1 hp => ?_)
  obtain ⟨v1, rfl, hp⟩ := l2_int hp
  show pm_H (some (L, xs)) 300 310 312 [(3, .int x3), (2, .ref 1131), (1, .ref 0), (0, .ref pm_SC)] [.int v1] w1 Q
  refine pm_H.go (pc' := 313) (st' := []) rfl rfl rfl rfl ?_
  refine pm_H.go (pc' := 314) (st' := [.ref 1131]) rfl rfl rfl rfl ?_
  refine pm_H.go (pc' := 315) (st' := [.ref pm_SC, .ref 1131]) rfl rfl rfl rfl ?_
  refine pm_H.go (pc' := 316) (st' := [.int x3, .ref pm_SC, .ref 1131]) rfl rfl rfl rfl ?_
  refine pm_H.go (pc' := 317) (st' := [.int 1, .int x3, .ref pm_SC, .ref 1131]) rfl rfl rfl rfl ?_
  refine pm_H.go (pc' := 318) (st' := [.int (x3 + 1), .ref pm_SC, .ref 1131]) rfl rfl rfl rfl ?_
  refine pm_H.sld (i := (x3 + 1)) rfl rfl (ha 1 rfl) ?_
  refine l2_call (c := 12) (q := 1131) rfl rfl rfl (by decide) rfl (by decide) hw1 (by decide) rfl rfl rfl hp (fun o w2 s2 hw2 hp2 => ?_)
  obtain ⟨v2, rfl, hp2⟩ := l2_int hp2
  show pm_H (some (L, xs)) 300 310 322 [(3, .int x3), (2, .ref 1131), (1, .ref 0), (0, .ref pm_SC)] [.int v2] w2 Q
  refine pm_H.go (pc' := 323) (st' := []) rfl rfl rfl rfl ?_
  refine pm_H.go (pc' := 858) (st' := []) rfl rfl rfl rfl ?_
  obtain ⟨t2, hS⟩ := hp2.2
  exact K w2 s2 t2 hw2 hS

theorem l7_op6 {L : Nat} {xs : Nat → Int32} {x3 t : Int32} {w : pm_W} {s : ps_S} {Q : Option Value → pm_W → Prop} (ha : ∀ (k : Int32) (_ : pm_in k 6 = true), pm_in (x3 + k) L = true) (hw : ps_R w s) (h : FSt s t) (K : ∀ (w' : pm_W) (s' : ps_S) (t' : Int32), ps_R w' s' → FSt s' t' → pm_H (some (L, xs)) 300 310 858 [(3, .int x3), (2, .ref 1131), (1, .ref 0), (0, .ref pm_SC)] [] w' Q) : pm_H (some (L, xs)) 300 310 326 [(3, .int x3), (2, .ref 1131), (1, .ref 0), (0, .ref pm_SC)] [] w Q := by
  refine pm_H.go (pc' := 327) (st' := [.ref 0]) rfl rfl rfl rfl ?_
  refine pm_H.go (pc' := 328) (st' := [.ref pm_SC, .ref 0]) rfl rfl rfl rfl ?_
  refine pm_H.go (pc' := 329) (st' := [.int x3, .ref pm_SC, .ref 0]) rfl rfl rfl rfl ?_
  refine pm_H.go (pc' := 330) (st' := [.int 1, .int x3, .ref pm_SC, .ref 0]) rfl rfl rfl rfl ?_
  refine pm_H.go (pc' := 331) (st' := [.int (x3 + 1), .ref pm_SC, .ref 0]) rfl rfl rfl rfl ?_
  refine pm_H.sld (i := (x3 + 1)) rfl rfl (ha 1 rfl) ?_
  refine pm_H.go (pc' := 333) (st' := [.ref pm_SC, .int (xs (Int32.toNatClampNeg (x3 + 1))), .ref 0]) rfl rfl rfl rfl ?_
  refine pm_H.go (pc' := 334) (st' := [.int x3, .ref pm_SC, .int (xs (Int32.toNatClampNeg (x3 + 1))), .ref 0]) rfl rfl rfl rfl ?_
  refine pm_H.go (pc' := 335) (st' := [.int 2, .int x3, .ref pm_SC, .int (xs (Int32.toNatClampNeg (x3 + 1))), .ref 0]) rfl rfl rfl rfl ?_
  refine pm_H.go (pc' := 336) (st' := [.int (x3 + 2), .ref pm_SC, .int (xs (Int32.toNatClampNeg (x3 + 1))), .ref 0]) rfl rfl rfl rfl ?_
  refine pm_H.sld (i := (x3 + 2)) rfl rfl (ha 2 rfl) ?_
  refine l2_call (c := 11) (q := 0) rfl rfl rfl (by decide) rfl (by decide) hw (by decide) rfl rfl rfl (FP_6 h) (fun o w1 s1 hw1 hp => ?_)
  obtain ⟨v1, rfl, hp⟩ := l2_int hp
  show pm_H (some (L, xs)) 300 310 340 [(3, .int x3), (2, .ref 1131), (1, .ref 0), (0, .ref pm_SC)] [.int v1] w1 Q
  refine pm_H.go (pc' := 341) (st' := []) rfl rfl rfl rfl ?_
  refine pm_H.go (pc' := 342) (st' := [.ref 1131]) rfl rfl rfl rfl ?_
  refine pm_H.go (pc' := 343) (st' := [.ref pm_SC, .ref 1131]) rfl rfl rfl rfl ?_
  refine pm_H.go (pc' := 344) (st' := [.int x3, .ref pm_SC, .ref 1131]) rfl rfl rfl rfl ?_
  refine pm_H.go (pc' := 345) (st' := [.int 1, .int x3, .ref pm_SC, .ref 1131]) rfl rfl rfl rfl ?_
  refine pm_H.go (pc' := 346) (st' := [.int (x3 + 1), .ref pm_SC, .ref 1131]) rfl rfl rfl rfl ?_
  refine pm_H.sld (i := (x3 + 1)) rfl rfl (ha 1 rfl) ?_
  refine pm_H.go (pc' := 348) (st' := [.ref pm_SC, .int (xs (Int32.toNatClampNeg (x3 + 1))), .ref 1131]) rfl rfl rfl rfl ?_
  refine pm_H.go (pc' := 349) (st' := [.int x3, .ref pm_SC, .int (xs (Int32.toNatClampNeg (x3 + 1))), .ref 1131]) rfl rfl rfl rfl ?_
  refine pm_H.go (pc' := 350) (st' := [.int 2, .int x3, .ref pm_SC, .int (xs (Int32.toNatClampNeg (x3 + 1))), .ref 1131]) rfl rfl rfl rfl ?_
  refine pm_H.go (pc' := 351) (st' := [.int (x3 + 2), .ref pm_SC, .int (xs (Int32.toNatClampNeg (x3 + 1))), .ref 1131]) rfl rfl rfl rfl ?_
  refine pm_H.sld (i := (x3 + 2)) rfl rfl (ha 2 rfl) ?_
  refine l2_call (c := 12) (q := 1131) rfl rfl rfl (by decide) rfl (by decide) hw1 (by decide) rfl rfl rfl hp (fun o w2 s2 hw2 hp2 => ?_)
  obtain ⟨v2, rfl, hp2⟩ := l2_int hp2
  show pm_H (some (L, xs)) 300 310 355 [(3, .int x3), (2, .ref 1131), (1, .ref 0), (0, .ref pm_SC)] [.int v2] w2 Q
  refine pm_H.go (pc' := 356) (st' := []) rfl rfl rfl rfl ?_
  refine pm_H.go (pc' := 858) (st' := []) rfl rfl rfl rfl ?_
  obtain ⟨t2, hS⟩ := hp2.2
  exact K w2 s2 t2 hw2 hS

theorem l7_op7 {L : Nat} {xs : Nat → Int32} {x3 t : Int32} {w : pm_W} {s : ps_S} {Q : Option Value → pm_W → Prop} (ha : ∀ (k : Int32) (_ : pm_in k 6 = true), pm_in (x3 + k) L = true) (hw : ps_R w s) (h : FSt s t) (K : ∀ (w' : pm_W) (s' : ps_S) (t' : Int32), ps_R w' s' → FSt s' t' → pm_H (some (L, xs)) 300 310 858 [(3, .int x3), (2, .ref 1131), (1, .ref 0), (0, .ref pm_SC)] [] w' Q) : pm_H (some (L, xs)) 300 310 359 [(3, .int x3), (2, .ref 1131), (1, .ref 0), (0, .ref pm_SC)] [] w Q := by
  refine pm_H.go (pc' := 360) (st' := [.ref 0]) rfl rfl rfl rfl ?_
  refine pm_H.go (pc' := 361) (st' := [.ref pm_SC, .ref 0]) rfl rfl rfl rfl ?_
  refine pm_H.go (pc' := 362) (st' := [.int x3, .ref pm_SC, .ref 0]) rfl rfl rfl rfl ?_
  refine pm_H.go (pc' := 363) (st' := [.int 1, .int x3, .ref pm_SC, .ref 0]) rfl rfl rfl rfl ?_
  refine pm_H.go (pc' := 364) (st' := [.int (x3 + 1), .ref pm_SC, .ref 0]) rfl rfl rfl rfl ?_
  refine pm_H.sld (i := (x3 + 1)) rfl rfl (ha 1 rfl) ?_
  refine pm_H.go (pc' := 366) (st' := [.ref pm_SC, .int (xs (Int32.toNatClampNeg (x3 + 1))), .ref 0]) rfl rfl rfl rfl ?_
  refine pm_H.go (pc' := 367) (st' := [.int x3, .ref pm_SC, .int (xs (Int32.toNatClampNeg (x3 + 1))), .ref 0]) rfl rfl rfl rfl ?_
  refine pm_H.go (pc' := 368) (st' := [.int 2, .int x3, .ref pm_SC, .int (xs (Int32.toNatClampNeg (x3 + 1))), .ref 0]) rfl rfl rfl rfl ?_
  refine pm_H.go (pc' := 369) (st' := [.int (x3 + 2), .ref pm_SC, .int (xs (Int32.toNatClampNeg (x3 + 1))), .ref 0]) rfl rfl rfl rfl ?_
  refine pm_H.sld (i := (x3 + 2)) rfl rfl (ha 2 rfl) ?_
  refine l2_call (c := 11) (q := 0) rfl rfl rfl (by decide) rfl (by decide) hw (by decide) rfl rfl rfl (FP_7 h) (fun o w1 s1 hw1 hp => ?_)
  obtain ⟨v1, rfl, hp⟩ := l2_int hp
  show pm_H (some (L, xs)) 300 310 373 [(3, .int x3), (2, .ref 1131), (1, .ref 0), (0, .ref pm_SC)] [.int v1] w1 Q
  refine pm_H.go (pc' := 374) (st' := []) rfl rfl rfl rfl ?_
  refine pm_H.go (pc' := 375) (st' := [.ref 1131]) rfl rfl rfl rfl ?_
  refine pm_H.go (pc' := 376) (st' := [.ref pm_SC, .ref 1131]) rfl rfl rfl rfl ?_
  refine pm_H.go (pc' := 377) (st' := [.int x3, .ref pm_SC, .ref 1131]) rfl rfl rfl rfl ?_
  refine pm_H.go (pc' := 378) (st' := [.int 1, .int x3, .ref pm_SC, .ref 1131]) rfl rfl rfl rfl ?_
  refine pm_H.go (pc' := 379) (st' := [.int (x3 + 1), .ref pm_SC, .ref 1131]) rfl rfl rfl rfl ?_
  refine pm_H.sld (i := (x3 + 1)) rfl rfl (ha 1 rfl) ?_
  refine pm_H.go (pc' := 381) (st' := [.ref pm_SC, .int (xs (Int32.toNatClampNeg (x3 + 1))), .ref 1131]) rfl rfl rfl rfl ?_
  refine pm_H.go (pc' := 382) (st' := [.int x3, .ref pm_SC, .int (xs (Int32.toNatClampNeg (x3 + 1))), .ref 1131]) rfl rfl rfl rfl ?_
  refine pm_H.go (pc' := 383) (st' := [.int 2, .int x3, .ref pm_SC, .int (xs (Int32.toNatClampNeg (x3 + 1))), .ref 1131]) rfl rfl rfl rfl ?_
  refine pm_H.go (pc' := 384) (st' := [.int (x3 + 2), .ref pm_SC, .int (xs (Int32.toNatClampNeg (x3 + 1))), .ref 1131]) rfl rfl rfl rfl ?_
  refine pm_H.sld (i := (x3 + 2)) rfl rfl (ha 2 rfl) ?_
  refine l2_call (c := 12) (q := 1131) rfl rfl rfl (by decide) rfl (by decide) hw1 (by decide) rfl rfl rfl hp (fun o w2 s2 hw2 hp2 => ?_)
  obtain ⟨v2, rfl, hp2⟩ := l2_int hp2
  show pm_H (some (L, xs)) 300 310 388 [(3, .int x3), (2, .ref 1131), (1, .ref 0), (0, .ref pm_SC)] [.int v2] w2 Q
  refine pm_H.go (pc' := 389) (st' := []) rfl rfl rfl rfl ?_
  refine pm_H.go (pc' := 858) (st' := []) rfl rfl rfl rfl ?_
  obtain ⟨t2, hS⟩ := hp2.2
  exact K w2 s2 t2 hw2 hS

theorem l7_op8 {L : Nat} {xs : Nat → Int32} {x3 t : Int32} {w : pm_W} {s : ps_S} {Q : Option Value → pm_W → Prop} (ha : ∀ (k : Int32) (_ : pm_in k 6 = true), pm_in (x3 + k) L = true) (hw : ps_R w s) (h : FSt s t) (K : ∀ (w' : pm_W) (s' : ps_S) (t' : Int32), ps_R w' s' → FSt s' t' → pm_H (some (L, xs)) 300 310 858 [(3, .int x3), (2, .ref 1131), (1, .ref 0), (0, .ref pm_SC)] [] w' Q) : pm_H (some (L, xs)) 300 310 392 [(3, .int x3), (2, .ref 1131), (1, .ref 0), (0, .ref pm_SC)] [] w Q := by
  refine pm_H.go (pc' := 393) (st' := [.ref 0]) rfl rfl rfl rfl ?_
  refine pm_H.go (pc' := 394) (st' := [.ref pm_SC, .ref 0]) rfl rfl rfl rfl ?_
  refine pm_H.go (pc' := 395) (st' := [.int x3, .ref pm_SC, .ref 0]) rfl rfl rfl rfl ?_
  refine pm_H.go (pc' := 396) (st' := [.int 1, .int x3, .ref pm_SC, .ref 0]) rfl rfl rfl rfl ?_
  refine pm_H.go (pc' := 397) (st' := [.int (x3 + 1), .ref pm_SC, .ref 0]) rfl rfl rfl rfl ?_
  refine pm_H.sld (i := (x3 + 1)) rfl rfl (ha 1 rfl) ?_
  refine pm_H.go (pc' := 399) (st' := [.ref pm_SC, .int (xs (Int32.toNatClampNeg (x3 + 1))), .ref 0]) rfl rfl rfl rfl ?_
  refine pm_H.go (pc' := 400) (st' := [.int x3, .ref pm_SC, .int (xs (Int32.toNatClampNeg (x3 + 1))), .ref 0]) rfl rfl rfl rfl ?_
  refine pm_H.go (pc' := 401) (st' := [.int 2, .int x3, .ref pm_SC, .int (xs (Int32.toNatClampNeg (x3 + 1))), .ref 0]) rfl rfl rfl rfl ?_
  refine pm_H.go (pc' := 402) (st' := [.int (x3 + 2), .ref pm_SC, .int (xs (Int32.toNatClampNeg (x3 + 1))), .ref 0]) rfl rfl rfl rfl ?_
  refine pm_H.sld (i := (x3 + 2)) rfl rfl (ha 2 rfl) ?_
  refine pm_H.go (pc' := 404) (st' := [.ref pm_SC, .int (xs (Int32.toNatClampNeg (x3 + 2))), .int (xs (Int32.toNatClampNeg (x3 + 1))), .ref 0]) rfl rfl rfl rfl ?_
  refine pm_H.go (pc' := 405) (st' := [.int x3, .ref pm_SC, .int (xs (Int32.toNatClampNeg (x3 + 2))), .int (xs (Int32.toNatClampNeg (x3 + 1))), .ref 0]) rfl rfl rfl rfl ?_
  refine pm_H.go (pc' := 406) (st' := [.int 3, .int x3, .ref pm_SC, .int (xs (Int32.toNatClampNeg (x3 + 2))), .int (xs (Int32.toNatClampNeg (x3 + 1))), .ref 0]) rfl rfl rfl rfl ?_
  refine pm_H.go (pc' := 407) (st' := [.int (x3 + 3), .ref pm_SC, .int (xs (Int32.toNatClampNeg (x3 + 2))), .int (xs (Int32.toNatClampNeg (x3 + 1))), .ref 0]) rfl rfl rfl rfl ?_
  refine pm_H.sld (i := (x3 + 3)) rfl rfl (ha 3 rfl) ?_
  refine l2_call (c := 11) (q := 0) rfl rfl rfl (by decide) rfl (by decide) hw (by decide) rfl rfl rfl (FP_8 h) (fun o w1 s1 hw1 hp => ?_)
  obtain ⟨v1, rfl, hp⟩ := l2_int hp
  show pm_H (some (L, xs)) 300 310 411 [(3, .int x3), (2, .ref 1131), (1, .ref 0), (0, .ref pm_SC)] [.int v1] w1 Q
  refine pm_H.go (pc' := 412) (st' := [.ref 1131, .int v1]) rfl rfl rfl rfl ?_
  refine pm_H.go (pc' := 413) (st' := [.ref pm_SC, .ref 1131, .int v1]) rfl rfl rfl rfl ?_
  refine pm_H.go (pc' := 414) (st' := [.int x3, .ref pm_SC, .ref 1131, .int v1]) rfl rfl rfl rfl ?_
  refine pm_H.go (pc' := 415) (st' := [.int 1, .int x3, .ref pm_SC, .ref 1131, .int v1]) rfl rfl rfl rfl ?_
  refine pm_H.go (pc' := 416) (st' := [.int (x3 + 1), .ref pm_SC, .ref 1131, .int v1]) rfl rfl rfl rfl ?_
  refine pm_H.sld (i := (x3 + 1)) rfl rfl (ha 1 rfl) ?_
  refine pm_H.go (pc' := 418) (st' := [.ref pm_SC, .int (xs (Int32.toNatClampNeg (x3 + 1))), .ref 1131, .int v1]) rfl rfl rfl rfl ?_
  refine pm_H.go (pc' := 419) (st' := [.int x3, .ref pm_SC, .int (xs (Int32.toNatClampNeg (x3 + 1))), .ref 1131, .int v1]) rfl rfl rfl rfl ?_
  refine pm_H.go (pc' := 420) (st' := [.int 2, .int x3, .ref pm_SC, .int (xs (Int32.toNatClampNeg (x3 + 1))), .ref 1131, .int v1]) rfl rfl rfl rfl ?_
  refine pm_H.go (pc' := 421) (st' := [.int (x3 + 2), .ref pm_SC, .int (xs (Int32.toNatClampNeg (x3 + 1))), .ref 1131, .int v1]) rfl rfl rfl rfl ?_
  refine pm_H.sld (i := (x3 + 2)) rfl rfl (ha 2 rfl) ?_
  refine pm_H.go (pc' := 423) (st' := [.ref pm_SC, .int (xs (Int32.toNatClampNeg (x3 + 2))), .int (xs (Int32.toNatClampNeg (x3 + 1))), .ref 1131, .int v1]) rfl rfl rfl rfl ?_
  refine pm_H.go (pc' := 424) (st' := [.int x3, .ref pm_SC, .int (xs (Int32.toNatClampNeg (x3 + 2))), .int (xs (Int32.toNatClampNeg (x3 + 1))), .ref 1131, .int v1]) rfl rfl rfl rfl ?_
  refine pm_H.go (pc' := 425) (st' := [.int 3, .int x3, .ref pm_SC, .int (xs (Int32.toNatClampNeg (x3 + 2))), .int (xs (Int32.toNatClampNeg (x3 + 1))), .ref 1131, .int v1]) rfl rfl rfl rfl ?_
  refine pm_H.go (pc' := 426) (st' := [.int (x3 + 3), .ref pm_SC, .int (xs (Int32.toNatClampNeg (x3 + 2))), .int (xs (Int32.toNatClampNeg (x3 + 1))), .ref 1131, .int v1]) rfl rfl rfl rfl ?_
  refine pm_H.sld (i := (x3 + 3)) rfl rfl (ha 3 rfl) ?_
  refine l2_call (c := 12) (q := 1131) rfl rfl rfl (by decide) rfl (by decide) hw1 (by decide) rfl rfl rfl hp (fun o w2 s2 hw2 hp2 => ?_)
  obtain ⟨v2, rfl, hp2⟩ := l2_int hp2
  show pm_H (some (L, xs)) 300 310 430 [(3, .int x3), (2, .ref 1131), (1, .ref 0), (0, .ref pm_SC)] [.int v2, .int v1] w2 Q
  refine pm_H.bricmp (b := true) (pc' := 858) rfl rfl (decide_eq_true hp2.1) rfl rfl ?_
  obtain ⟨t2, hS⟩ := hp2.2
  exact K w2 s2 t2 hw2 hS

theorem l7_op9 {L : Nat} {xs : Nat → Int32} {x3 t : Int32} {w : pm_W} {s : ps_S} {Q : Option Value → pm_W → Prop} (ha : ∀ (k : Int32) (_ : pm_in k 6 = true), pm_in (x3 + k) L = true) (hw : ps_R w s) (h : FSt s t) (K : ∀ (w' : pm_W) (s' : ps_S) (t' : Int32), ps_R w' s' → FSt s' t' → pm_H (some (L, xs)) 300 310 858 [(3, .int x3), (2, .ref 1131), (1, .ref 0), (0, .ref pm_SC)] [] w' Q) : pm_H (some (L, xs)) 300 310 435 [(3, .int x3), (2, .ref 1131), (1, .ref 0), (0, .ref pm_SC)] [] w Q := by
  refine pm_H.go (pc' := 436) (st' := [.ref 0]) rfl rfl rfl rfl ?_
  refine l2_call (c := 11) (q := 0) rfl rfl rfl (by decide) rfl (by decide) hw (by decide) rfl rfl rfl (FP_9 h) (fun o w1 s1 hw1 hp => ?_)
  obtain ⟨v1, rfl, hp⟩ := l2_int hp
  show pm_H (some (L, xs)) 300 310 439 [(3, .int x3), (2, .ref 1131), (1, .ref 0), (0, .ref pm_SC)] [.int v1] w1 Q
  refine pm_H.go (pc' := 440) (st' := []) rfl rfl rfl rfl ?_
  refine pm_H.go (pc' := 441) (st' := [.ref 1131]) rfl rfl rfl rfl ?_
  refine l2_call (c := 12) (q := 1131) rfl rfl rfl (by decide) rfl (by decide) hw1 (by decide) rfl rfl rfl hp (fun o w2 s2 hw2 hp2 => ?_)
  obtain ⟨v2, rfl, hp2⟩ := l2_int hp2
  show pm_H (some (L, xs)) 300 310 444 [(3, .int x3), (2, .ref 1131), (1, .ref 0), (0, .ref pm_SC)] [.int v2] w2 Q
  refine pm_H.go (pc' := 445) (st' := []) rfl rfl rfl rfl ?_
  refine pm_H.go (pc' := 858) (st' := []) rfl rfl rfl rfl ?_
  obtain ⟨t2, hS⟩ := hp2.2
  exact K w2 s2 t2 hw2 hS

theorem l7_op10 {L : Nat} {xs : Nat → Int32} {x3 t : Int32} {w : pm_W} {s : ps_S} {Q : Option Value → pm_W → Prop} (ha : ∀ (k : Int32) (_ : pm_in k 6 = true), pm_in (x3 + k) L = true) (hw : ps_R w s) (h : FSt s t) (K : ∀ (w' : pm_W) (s' : ps_S) (t' : Int32), ps_R w' s' → FSt s' t' → pm_H (some (L, xs)) 300 310 858 [(3, .int x3), (2, .ref 1131), (1, .ref 0), (0, .ref pm_SC)] [] w' Q) : pm_H (some (L, xs)) 300 310 448 [(3, .int x3), (2, .ref 1131), (1, .ref 0), (0, .ref pm_SC)] [] w Q := by
  refine pm_H.go (pc' := 449) (st' := [.ref 0]) rfl rfl rfl rfl ?_
  refine pm_H.go (pc' := 450) (st' := [.ref pm_SC, .ref 0]) rfl rfl rfl rfl ?_
  refine pm_H.go (pc' := 451) (st' := [.int x3, .ref pm_SC, .ref 0]) rfl rfl rfl rfl ?_
  refine pm_H.go (pc' := 452) (st' := [.int 1, .int x3, .ref pm_SC, .ref 0]) rfl rfl rfl rfl ?_
  refine pm_H.go (pc' := 453) (st' := [.int (x3 + 1), .ref pm_SC, .ref 0]) rfl rfl rfl rfl ?_
  refine pm_H.sld (i := (x3 + 1)) rfl rfl (ha 1 rfl) ?_
  refine pm_H.go (pc' := 455) (st' := [.ref pm_SC, .int (xs (Int32.toNatClampNeg (x3 + 1))), .ref 0]) rfl rfl rfl rfl ?_
  refine pm_H.go (pc' := 456) (st' := [.int x3, .ref pm_SC, .int (xs (Int32.toNatClampNeg (x3 + 1))), .ref 0]) rfl rfl rfl rfl ?_
  refine pm_H.go (pc' := 457) (st' := [.int 2, .int x3, .ref pm_SC, .int (xs (Int32.toNatClampNeg (x3 + 1))), .ref 0]) rfl rfl rfl rfl ?_
  refine pm_H.go (pc' := 458) (st' := [.int (x3 + 2), .ref pm_SC, .int (xs (Int32.toNatClampNeg (x3 + 1))), .ref 0]) rfl rfl rfl rfl ?_
  refine pm_H.sld (i := (x3 + 2)) rfl rfl (ha 2 rfl) ?_
  refine l2_call (c := 11) (q := 0) rfl rfl rfl (by decide) rfl (by decide) hw (by decide) rfl rfl rfl (FP_10 h) (fun o w1 s1 hw1 hp => ?_)
  obtain ⟨v1, rfl, hp⟩ := l2_int hp
  show pm_H (some (L, xs)) 300 310 462 [(3, .int x3), (2, .ref 1131), (1, .ref 0), (0, .ref pm_SC)] [.int v1] w1 Q
  refine pm_H.go (pc' := 463) (st' := []) rfl rfl rfl rfl ?_
  refine pm_H.go (pc' := 464) (st' := [.ref 1131]) rfl rfl rfl rfl ?_
  refine pm_H.go (pc' := 465) (st' := [.ref pm_SC, .ref 1131]) rfl rfl rfl rfl ?_
  refine pm_H.go (pc' := 466) (st' := [.int x3, .ref pm_SC, .ref 1131]) rfl rfl rfl rfl ?_
  refine pm_H.go (pc' := 467) (st' := [.int 1, .int x3, .ref pm_SC, .ref 1131]) rfl rfl rfl rfl ?_
  refine pm_H.go (pc' := 468) (st' := [.int (x3 + 1), .ref pm_SC, .ref 1131]) rfl rfl rfl rfl ?_
  refine pm_H.sld (i := (x3 + 1)) rfl rfl (ha 1 rfl) ?_
  refine pm_H.go (pc' := 470) (st' := [.ref pm_SC, .int (xs (Int32.toNatClampNeg (x3 + 1))), .ref 1131]) rfl rfl rfl rfl ?_
  refine pm_H.go (pc' := 471) (st' := [.int x3, .ref pm_SC, .int (xs (Int32.toNatClampNeg (x3 + 1))), .ref 1131]) rfl rfl rfl rfl ?_
  refine pm_H.go (pc' := 472) (st' := [.int 2, .int x3, .ref pm_SC, .int (xs (Int32.toNatClampNeg (x3 + 1))), .ref 1131]) rfl rfl rfl rfl ?_
  refine pm_H.go (pc' := 473) (st' := [.int (x3 + 2), .ref pm_SC, .int (xs (Int32.toNatClampNeg (x3 + 1))), .ref 1131]) rfl rfl rfl rfl ?_
  refine pm_H.sld (i := (x3 + 2)) rfl rfl (ha 2 rfl) ?_
  refine l2_call (c := 12) (q := 1131) rfl rfl rfl (by decide) rfl (by decide) hw1 (by decide) rfl rfl rfl hp (fun o w2 s2 hw2 hp2 => ?_)
  obtain ⟨v2, rfl, hp2⟩ := l2_int hp2
  show pm_H (some (L, xs)) 300 310 477 [(3, .int x3), (2, .ref 1131), (1, .ref 0), (0, .ref pm_SC)] [.int v2] w2 Q
  refine pm_H.go (pc' := 478) (st' := []) rfl rfl rfl rfl ?_
  refine pm_H.go (pc' := 858) (st' := []) rfl rfl rfl rfl ?_
  obtain ⟨t2, hS⟩ := hp2.2
  exact K w2 s2 t2 hw2 hS

theorem l7_op11 {L : Nat} {xs : Nat → Int32} {x3 t : Int32} {w : pm_W} {s : ps_S} {Q : Option Value → pm_W → Prop} (ha : ∀ (k : Int32) (_ : pm_in k 6 = true), pm_in (x3 + k) L = true) (hw : ps_R w s) (h : FSt s t) (K : ∀ (w' : pm_W) (s' : ps_S) (t' : Int32), ps_R w' s' → FSt s' t' → pm_H (some (L, xs)) 300 310 858 [(3, .int x3), (2, .ref 1131), (1, .ref 0), (0, .ref pm_SC)] [] w' Q) : pm_H (some (L, xs)) 300 310 481 [(3, .int x3), (2, .ref 1131), (1, .ref 0), (0, .ref pm_SC)] [] w Q := by
  refine pm_H.go (pc' := 482) (st' := [.ref 0]) rfl rfl rfl rfl ?_
  refine pm_H.go (pc' := 483) (st' := [.ref pm_SC, .ref 0]) rfl rfl rfl rfl ?_
  refine pm_H.go (pc' := 484) (st' := [.int x3, .ref pm_SC, .ref 0]) rfl rfl rfl rfl ?_
  refine pm_H.go (pc' := 485) (st' := [.int 1, .int x3, .ref pm_SC, .ref 0]) rfl rfl rfl rfl ?_
  refine pm_H.go (pc' := 486) (st' := [.int (x3 + 1), .ref pm_SC, .ref 0]) rfl rfl rfl rfl ?_
  refine pm_H.sld (i := (x3 + 1)) rfl rfl (ha 1 rfl) ?_
  refine pm_H.go (pc' := 488) (st' := [.ref pm_SC, .int (xs (Int32.toNatClampNeg (x3 + 1))), .ref 0]) rfl rfl rfl rfl ?_
  refine pm_H.go (pc' := 489) (st' := [.int x3, .ref pm_SC, .int (xs (Int32.toNatClampNeg (x3 + 1))), .ref 0]) rfl rfl rfl rfl ?_
  refine pm_H.go (pc' := 490) (st' := [.int 2, .int x3, .ref pm_SC, .int (xs (Int32.toNatClampNeg (x3 + 1))), .ref 0]) rfl rfl rfl rfl ?_
  refine pm_H.go (pc' := 491) (st' := [.int (x3 + 2), .ref pm_SC, .int (xs (Int32.toNatClampNeg (x3 + 1))), .ref 0]) rfl rfl rfl rfl ?_
  refine pm_H.sld (i := (x3 + 2)) rfl rfl (ha 2 rfl) ?_
  refine l2_call (c := 11) (q := 0) rfl rfl rfl (by decide) rfl (by decide) hw (by decide) rfl rfl rfl (FP_11 h) (fun o w1 s1 hw1 hp => ?_)
  obtain ⟨v1, rfl, hp⟩ := l2_int hp
  show pm_H (some (L, xs)) 300 310 495 [(3, .int x3), (2, .ref 1131), (1, .ref 0), (0, .ref pm_SC)] [.int v1] w1 Q
  refine pm_H.go (pc' := 496) (st' := []) rfl rfl rfl rfl ?_
  refine pm_H.go (pc' := 497) (st' := [.ref 1131]) rfl rfl rfl rfl ?_
  refine pm_H.go (pc' := 498) (st' := [.ref pm_SC, .ref 1131]) rfl rfl rfl rfl ?_
  refine pm_H.go (pc' := 499) (st' := [.int x3, .ref pm_SC, .ref 1131]) rfl rfl rfl rfl ?_
  refine pm_H.go (pc' := 500) (st' := [.int 1, .int x3, .ref pm_SC, .ref 1131]) rfl rfl rfl rfl ?_
  refine pm_H.go (pc' := 501) (st' := [.int (x3 + 1), .ref pm_SC, .ref 1131]) rfl rfl rfl rfl ?_
  refine pm_H.sld (i := (x3 + 1)) rfl rfl (ha 1 rfl) ?_
  refine pm_H.go (pc' := 503) (st' := [.ref pm_SC, .int (xs (Int32.toNatClampNeg (x3 + 1))), .ref 1131]) rfl rfl rfl rfl ?_
  refine pm_H.go (pc' := 504) (st' := [.int x3, .ref pm_SC, .int (xs (Int32.toNatClampNeg (x3 + 1))), .ref 1131]) rfl rfl rfl rfl ?_
  refine pm_H.go (pc' := 505) (st' := [.int 2, .int x3, .ref pm_SC, .int (xs (Int32.toNatClampNeg (x3 + 1))), .ref 1131]) rfl rfl rfl rfl ?_
  refine pm_H.go (pc' := 506) (st' := [.int (x3 + 2), .ref pm_SC, .int (xs (Int32.toNatClampNeg (x3 + 1))), .ref 1131]) rfl rfl rfl rfl ?_
  refine pm_H.sld (i := (x3 + 2)) rfl rfl (ha 2 rfl) ?_
  refine l2_call (c := 12) (q := 1131) rfl rfl rfl (by decide) rfl (by decide) hw1 (by decide) rfl rfl rfl hp (fun o w2 s2 hw2 hp2 => ?_)
  obtain ⟨v2, rfl, hp2⟩ := l2_int hp2
  show pm_H (some (L, xs)) 300 310 510 [(3, .int x3), (2, .ref 1131), (1, .ref 0), (0, .ref pm_SC)] [.int v2] w2 Q
  refine pm_H.go (pc' := 511) (st' := []) rfl rfl rfl rfl ?_
  refine pm_H.go (pc' := 858) (st' := []) rfl rfl rfl rfl ?_
  obtain ⟨t2, hS⟩ := hp2.2
  exact K w2 s2 t2 hw2 hS

theorem l7_op12 {L : Nat} {xs : Nat → Int32} {x3 t : Int32} {w : pm_W} {s : ps_S} {Q : Option Value → pm_W → Prop} (ha : ∀ (k : Int32) (_ : pm_in k 6 = true), pm_in (x3 + k) L = true) (hw : ps_R w s) (h : FSt s t) (K : ∀ (w' : pm_W) (s' : ps_S) (t' : Int32), ps_R w' s' → FSt s' t' → pm_H (some (L, xs)) 300 310 858 [(3, .int x3), (2, .ref 1131), (1, .ref 0), (0, .ref pm_SC)] [] w' Q) : pm_H (some (L, xs)) 300 310 514 [(3, .int x3), (2, .ref 1131), (1, .ref 0), (0, .ref pm_SC)] [] w Q := by
  refine pm_H.go (pc' := 515) (st' := [.ref 0]) rfl rfl rfl rfl ?_
  refine l2_call (c := 11) (q := 0) rfl rfl rfl (by decide) rfl (by decide) hw (by decide) rfl rfl rfl (FP_12 h) (fun o w1 s1 hw1 hp => ?_)
  obtain ⟨v1, rfl, hp⟩ := l2_int hp
  show pm_H (some (L, xs)) 300 310 518 [(3, .int x3), (2, .ref 1131), (1, .ref 0), (0, .ref pm_SC)] [.int v1] w1 Q
  refine pm_H.go (pc' := 519) (st' := []) rfl rfl rfl rfl ?_
  refine pm_H.go (pc' := 520) (st' := [.ref 1131]) rfl rfl rfl rfl ?_
  refine l2_call (c := 12) (q := 1131) rfl rfl rfl (by decide) rfl (by decide) hw1 (by decide) rfl rfl rfl hp (fun o w2 s2 hw2 hp2 => ?_)
  obtain ⟨v2, rfl, hp2⟩ := l2_int hp2
  show pm_H (some (L, xs)) 300 310 523 [(3, .int x3), (2, .ref 1131), (1, .ref 0), (0, .ref pm_SC)] [.int v2] w2 Q
  refine pm_H.go (pc' := 524) (st' := []) rfl rfl rfl rfl ?_
  refine pm_H.go (pc' := 858) (st' := []) rfl rfl rfl rfl ?_
  obtain ⟨t2, hS⟩ := hp2.2
  exact K w2 s2 t2 hw2 hS

theorem l7_op13 {L : Nat} {xs : Nat → Int32} {x3 t : Int32} {w : pm_W} {s : ps_S} {Q : Option Value → pm_W → Prop} (ha : ∀ (k : Int32) (_ : pm_in k 6 = true), pm_in (x3 + k) L = true) (hw : ps_R w s) (h : FSt s t) (K : ∀ (w' : pm_W) (s' : ps_S) (t' : Int32), ps_R w' s' → FSt s' t' → pm_H (some (L, xs)) 300 310 858 [(3, .int x3), (2, .ref 1131), (1, .ref 0), (0, .ref pm_SC)] [] w' Q) : pm_H (some (L, xs)) 300 310 527 [(3, .int x3), (2, .ref 1131), (1, .ref 0), (0, .ref pm_SC)] [] w Q := by
  refine pm_H.go (pc' := 528) (st' := [.ref 0]) rfl rfl rfl rfl ?_
  refine l2_call (c := 11) (q := 0) rfl rfl rfl (by decide) rfl (by decide) hw (by decide) rfl rfl rfl (FP_13 h) (fun o w1 s1 hw1 hp => ?_)
  obtain ⟨v1, rfl, hp⟩ := l2_int hp
  show pm_H (some (L, xs)) 300 310 531 [(3, .int x3), (2, .ref 1131), (1, .ref 0), (0, .ref pm_SC)] [.int v1] w1 Q
  refine pm_H.go (pc' := 532) (st' := []) rfl rfl rfl rfl ?_
  refine pm_H.go (pc' := 533) (st' := [.ref 1131]) rfl rfl rfl rfl ?_
  refine l2_call (c := 12) (q := 1131) rfl rfl rfl (by decide) rfl (by decide) hw1 (by decide) rfl rfl rfl hp (fun o w2 s2 hw2 hp2 => ?_)
  obtain ⟨v2, rfl, hp2⟩ := l2_int hp2
  show pm_H (some (L, xs)) 300 310 536 [(3, .int x3), (2, .ref 1131), (1, .ref 0), (0, .ref pm_SC)] [.int v2] w2 Q
  refine pm_H.go (pc' := 537) (st' := []) rfl rfl rfl rfl ?_
  refine pm_H.go (pc' := 858) (st' := []) rfl rfl rfl rfl ?_
  obtain ⟨t2, hS⟩ := hp2.2
  exact K w2 s2 t2 hw2 hS

theorem l7_op14 {L : Nat} {xs : Nat → Int32} {x3 t : Int32} {w : pm_W} {s : ps_S} {Q : Option Value → pm_W → Prop} (ha : ∀ (k : Int32) (_ : pm_in k 6 = true), pm_in (x3 + k) L = true) (hw : ps_R w s) (h : FSt s t) (K : ∀ (w' : pm_W) (s' : ps_S) (t' : Int32), ps_R w' s' → FSt s' t' → pm_H (some (L, xs)) 300 310 858 [(3, .int x3), (2, .ref 1131), (1, .ref 0), (0, .ref pm_SC)] [] w' Q) : pm_H (some (L, xs)) 300 310 540 [(3, .int x3), (2, .ref 1131), (1, .ref 0), (0, .ref pm_SC)] [] w Q := by
  refine pm_H.go (pc' := 541) (st' := [.ref 0]) rfl rfl rfl rfl ?_
  refine pm_H.go (pc' := 542) (st' := [.ref pm_SC, .ref 0]) rfl rfl rfl rfl ?_
  refine pm_H.go (pc' := 543) (st' := [.int x3, .ref pm_SC, .ref 0]) rfl rfl rfl rfl ?_
  refine pm_H.go (pc' := 544) (st' := [.int 1, .int x3, .ref pm_SC, .ref 0]) rfl rfl rfl rfl ?_
  refine pm_H.go (pc' := 545) (st' := [.int (x3 + 1), .ref pm_SC, .ref 0]) rfl rfl rfl rfl ?_
  refine pm_H.sld (i := (x3 + 1)) rfl rfl (ha 1 rfl) ?_
  refine l2_call (c := 11) (q := 0) rfl rfl rfl (by decide) rfl (by decide) hw (by decide) rfl rfl rfl (FP_14 h) (fun o w1 s1 hw1 hp => ?_)
  obtain ⟨v1, rfl, hp⟩ := l2_int hp
  show pm_H (some (L, xs)) 300 310 549 [(3, .int x3), (2, .ref 1131), (1, .ref 0), (0, .ref pm_SC)] [.int v1] w1 Q
  refine pm_H.go (pc' := 550) (st' := []) rfl rfl rfl rfl ?_
  refine pm_H.go (pc' := 551) (st' := [.ref 1131]) rfl rfl rfl rfl ?_
  refine pm_H.go (pc' := 552) (st' := [.ref pm_SC, .ref 1131]) rfl rfl rfl rfl ?_
  refine pm_H.go (pc' := 553) (st' := [.int x3, .ref pm_SC, .ref 1131]) rfl rfl rfl rfl ?_
  refine pm_H.go (pc' := 554) (st' := [.int 1, .int x3, .ref pm_SC, .ref 1131]) rfl rfl rfl rfl ?_
  refine pm_H.go (pc' := 555) (st' := [.int (x3 + 1), .ref pm_SC, .ref 1131]) rfl rfl rfl rfl ?_
  refine pm_H.sld (i := (x3 + 1)) rfl rfl (ha 1 rfl) ?_
  refine l2_call (c := 12) (q := 1131) rfl rfl rfl (by decide) rfl (by decide) hw1 (by decide) rfl rfl rfl hp (fun o w2 s2 hw2 hp2 => ?_)
  obtain ⟨v2, rfl, hp2⟩ := l2_int hp2
  show pm_H (some (L, xs)) 300 310 559 [(3, .int x3), (2, .ref 1131), (1, .ref 0), (0, .ref pm_SC)] [.int v2] w2 Q
  refine pm_H.go (pc' := 560) (st' := []) rfl rfl rfl rfl ?_
  refine pm_H.go (pc' := 858) (st' := []) rfl rfl rfl rfl ?_
  obtain ⟨t2, hS⟩ := hp2.2
  exact K w2 s2 t2 hw2 hS

theorem l7_op15 {L : Nat} {xs : Nat → Int32} {x3 t : Int32} {w : pm_W} {s : ps_S} {Q : Option Value → pm_W → Prop} (ha : ∀ (k : Int32) (_ : pm_in k 6 = true), pm_in (x3 + k) L = true) (hw : ps_R w s) (h : FSt s t) (K : ∀ (w' : pm_W) (s' : ps_S) (t' : Int32), ps_R w' s' → FSt s' t' → pm_H (some (L, xs)) 300 310 858 [(3, .int x3), (2, .ref 1131), (1, .ref 0), (0, .ref pm_SC)] [] w' Q) : pm_H (some (L, xs)) 300 310 563 [(3, .int x3), (2, .ref 1131), (1, .ref 0), (0, .ref pm_SC)] [] w Q := by
  refine pm_H.go (pc' := 564) (st' := [.ref 0]) rfl rfl rfl rfl ?_
  refine l2_call (c := 11) (q := 0) rfl rfl rfl (by decide) rfl (by decide) hw (by decide) rfl rfl rfl (FP_15 h) (fun o w1 s1 hw1 hp => ?_)
  obtain ⟨v1, rfl, hp⟩ := l2_int hp
  show pm_H (some (L, xs)) 300 310 567 [(3, .int x3), (2, .ref 1131), (1, .ref 0), (0, .ref pm_SC)] [.int v1] w1 Q
  refine pm_H.go (pc' := 568) (st' := []) rfl rfl rfl rfl ?_
  refine pm_H.go (pc' := 569) (st' := [.ref 1131]) rfl rfl rfl rfl ?_
  refine l2_call (c := 12) (q := 1131) rfl rfl rfl (by decide) rfl (by decide) hw1 (by decide) rfl rfl rfl hp (fun o w2 s2 hw2 hp2 => ?_)
  obtain ⟨v2, rfl, hp2⟩ := l2_int hp2
  show pm_H (some (L, xs)) 300 310 572 [(3, .int x3), (2, .ref 1131), (1, .ref 0), (0, .ref pm_SC)] [.int v2] w2 Q
  refine pm_H.go (pc' := 573) (st' := []) rfl rfl rfl rfl ?_
  refine pm_H.go (pc' := 858) (st' := []) rfl rfl rfl rfl ?_
  obtain ⟨t2, hS⟩ := hp2.2
  exact K w2 s2 t2 hw2 hS

theorem l7_op16 {L : Nat} {xs : Nat → Int32} {x3 t : Int32} {w : pm_W} {s : ps_S} {Q : Option Value → pm_W → Prop} (ha : ∀ (k : Int32) (_ : pm_in k 6 = true), pm_in (x3 + k) L = true) (hw : ps_R w s) (h : FSt s t) (K : ∀ (w' : pm_W) (s' : ps_S) (t' : Int32), ps_R w' s' → FSt s' t' → pm_H (some (L, xs)) 300 310 858 [(3, .int x3), (2, .ref 1131), (1, .ref 0), (0, .ref pm_SC)] [] w' Q) : pm_H (some (L, xs)) 300 310 576 [(3, .int x3), (2, .ref 1131), (1, .ref 0), (0, .ref pm_SC)] [] w Q := by
  refine pm_H.go (pc' := 577) (st' := [.ref 0]) rfl rfl rfl rfl ?_
  refine pm_H.go (pc' := 578) (st' := [.ref pm_SC, .ref 0]) rfl rfl rfl rfl ?_
  refine pm_H.go (pc' := 579) (st' := [.int x3, .ref pm_SC, .ref 0]) rfl rfl rfl rfl ?_
  refine pm_H.go (pc' := 580) (st' := [.int 1, .int x3, .ref pm_SC, .ref 0]) rfl rfl rfl rfl ?_
  refine pm_H.go (pc' := 581) (st' := [.int (x3 + 1), .ref pm_SC, .ref 0]) rfl rfl rfl rfl ?_
  refine pm_H.sld (i := (x3 + 1)) rfl rfl (ha 1 rfl) ?_
  refine l2_call (c := 11) (q := 0) rfl rfl rfl (by decide) rfl (by decide) hw (by decide) rfl rfl rfl (FP_16 h) (fun o w1 s1 hw1 hp => ?_)
  obtain ⟨v1, rfl, hp⟩ := l2_lng hp
  show pm_H (some (L, xs)) 300 310 585 [(3, .int x3), (2, .ref 1131), (1, .ref 0), (0, .ref pm_SC)] [.long v1] w1 Q
  refine pm_H.go (pc' := 586) (st' := []) rfl rfl rfl rfl ?_
  refine pm_H.go (pc' := 587) (st' := [.ref 1131]) rfl rfl rfl rfl ?_
  refine pm_H.go (pc' := 588) (st' := [.ref pm_SC, .ref 1131]) rfl rfl rfl rfl ?_
  refine pm_H.go (pc' := 589) (st' := [.int x3, .ref pm_SC, .ref 1131]) rfl rfl rfl rfl ?_
  refine pm_H.go (pc' := 590) (st' := [.int 1, .int x3, .ref pm_SC, .ref 1131]) rfl rfl rfl rfl ?_
  refine pm_H.go (pc' := 591) (st' := [.int (x3 + 1), .ref pm_SC, .ref 1131]) rfl rfl rfl rfl ?_
  refine pm_H.sld (i := (x3 + 1)) rfl rfl (ha 1 rfl) ?_
  refine l2_call (c := 12) (q := 1131) rfl rfl rfl (by decide) rfl (by decide) hw1 (by decide) rfl rfl rfl hp (fun o w2 s2 hw2 hp2 => ?_)
  obtain ⟨v2, rfl, hp2⟩ := l2_lng hp2
  show pm_H (some (L, xs)) 300 310 595 [(3, .int x3), (2, .ref 1131), (1, .ref 0), (0, .ref pm_SC)] [.long v2] w2 Q
  refine pm_H.go (pc' := 596) (st' := []) rfl rfl rfl rfl ?_
  refine pm_H.go (pc' := 858) (st' := []) rfl rfl rfl rfl ?_
  obtain ⟨t2, hS⟩ := hp2.2
  exact K w2 s2 t2 hw2 hS

theorem l7_op17 {L : Nat} {xs : Nat → Int32} {x3 t : Int32} {w : pm_W} {s : ps_S} {Q : Option Value → pm_W → Prop} (ha : ∀ (k : Int32) (_ : pm_in k 6 = true), pm_in (x3 + k) L = true) (hw : ps_R w s) (h : FSt s t) (K : ∀ (w' : pm_W) (s' : ps_S) (t' : Int32), ps_R w' s' → FSt s' t' → pm_H (some (L, xs)) 300 310 858 [(3, .int x3), (2, .ref 1131), (1, .ref 0), (0, .ref pm_SC)] [] w' Q) : pm_H (some (L, xs)) 300 310 599 [(3, .int x3), (2, .ref 1131), (1, .ref 0), (0, .ref pm_SC)] [] w Q := by
  refine pm_H.go (pc' := 600) (st' := [.ref 0]) rfl rfl rfl rfl ?_
  refine l2_call (c := 11) (q := 0) rfl rfl rfl (by decide) rfl (by decide) hw (by decide) rfl rfl rfl (FP_17 h) (fun o w1 s1 hw1 hp => ?_)
  obtain ⟨v1, rfl, hp⟩ := l2_int hp
  show pm_H (some (L, xs)) 300 310 603 [(3, .int x3), (2, .ref 1131), (1, .ref 0), (0, .ref pm_SC)] [.int v1] w1 Q
  refine pm_H.go (pc' := 604) (st' := []) rfl rfl rfl rfl ?_
  refine pm_H.go (pc' := 605) (st' := [.ref 1131]) rfl rfl rfl rfl ?_
  refine l2_call (c := 12) (q := 1131) rfl rfl rfl (by decide) rfl (by decide) hw1 (by decide) rfl rfl rfl hp (fun o w2 s2 hw2 hp2 => ?_)
  obtain ⟨v2, rfl, hp2⟩ := l2_int hp2
  show pm_H (some (L, xs)) 300 310 608 [(3, .int x3), (2, .ref 1131), (1, .ref 0), (0, .ref pm_SC)] [.int v2] w2 Q
  refine pm_H.go (pc' := 609) (st' := []) rfl rfl rfl rfl ?_
  refine pm_H.go (pc' := 858) (st' := []) rfl rfl rfl rfl ?_
  obtain ⟨t2, hS⟩ := hp2.2
  exact K w2 s2 t2 hw2 hS

theorem l7_op18 {L : Nat} {xs : Nat → Int32} {x3 t : Int32} {w : pm_W} {s : ps_S} {Q : Option Value → pm_W → Prop} (ha : ∀ (k : Int32) (_ : pm_in k 6 = true), pm_in (x3 + k) L = true) (hw : ps_R w s) (h : FSt s t) (K : ∀ (w' : pm_W) (s' : ps_S) (t' : Int32), ps_R w' s' → FSt s' t' → pm_H (some (L, xs)) 300 310 858 [(3, .int x3), (2, .ref 1131), (1, .ref 0), (0, .ref pm_SC)] [] w' Q) : pm_H (some (L, xs)) 300 310 612 [(3, .int x3), (2, .ref 1131), (1, .ref 0), (0, .ref pm_SC)] [] w Q := by
  refine pm_H.go (pc' := 613) (st' := [.ref 0]) rfl rfl rfl rfl ?_
  refine l2_call (c := 11) (q := 0) rfl rfl rfl (by decide) rfl (by decide) hw (by decide) rfl rfl rfl (FP_18 h) (fun o w1 s1 hw1 hp => ?_)
  obtain ⟨v1, rfl, hp⟩ := l2_int hp
  show pm_H (some (L, xs)) 300 310 616 [(3, .int x3), (2, .ref 1131), (1, .ref 0), (0, .ref pm_SC)] [.int v1] w1 Q
  refine pm_H.go (pc' := 617) (st' := []) rfl rfl rfl rfl ?_
  refine pm_H.go (pc' := 618) (st' := [.ref 1131]) rfl rfl rfl rfl ?_
  refine l2_call (c := 12) (q := 1131) rfl rfl rfl (by decide) rfl (by decide) hw1 (by decide) rfl rfl rfl hp (fun o w2 s2 hw2 hp2 => ?_)
  obtain ⟨v2, rfl, hp2⟩ := l2_int hp2
  show pm_H (some (L, xs)) 300 310 621 [(3, .int x3), (2, .ref 1131), (1, .ref 0), (0, .ref pm_SC)] [.int v2] w2 Q
  refine pm_H.go (pc' := 622) (st' := []) rfl rfl rfl rfl ?_
  refine pm_H.go (pc' := 858) (st' := []) rfl rfl rfl rfl ?_
  obtain ⟨t2, hS⟩ := hp2.2
  exact K w2 s2 t2 hw2 hS

theorem l7_op19 {L : Nat} {xs : Nat → Int32} {x3 t : Int32} {w : pm_W} {s : ps_S} {Q : Option Value → pm_W → Prop} (ha : ∀ (k : Int32) (_ : pm_in k 6 = true), pm_in (x3 + k) L = true) (hw : ps_R w s) (h : FSt s t) (K : ∀ (w' : pm_W) (s' : ps_S) (t' : Int32), ps_R w' s' → FSt s' t' → pm_H (some (L, xs)) 300 310 858 [(3, .int x3), (2, .ref 1131), (1, .ref 0), (0, .ref pm_SC)] [] w' Q) : pm_H (some (L, xs)) 300 310 625 [(3, .int x3), (2, .ref 1131), (1, .ref 0), (0, .ref pm_SC)] [] w Q := by
  refine pm_H.go (pc' := 626) (st' := [.ref 0]) rfl rfl rfl rfl ?_
  refine l2_call (c := 11) (q := 0) rfl rfl rfl (by decide) rfl (by decide) hw (by decide) rfl rfl rfl (FP_19 h) (fun o w1 s1 hw1 hp => ?_)
  obtain ⟨v1, rfl, hp⟩ := l2_int hp
  show pm_H (some (L, xs)) 300 310 629 [(3, .int x3), (2, .ref 1131), (1, .ref 0), (0, .ref pm_SC)] [.int v1] w1 Q
  refine pm_H.go (pc' := 630) (st' := []) rfl rfl rfl rfl ?_
  refine pm_H.go (pc' := 631) (st' := [.ref 1131]) rfl rfl rfl rfl ?_
  refine l2_call (c := 12) (q := 1131) rfl rfl rfl (by decide) rfl (by decide) hw1 (by decide) rfl rfl rfl hp (fun o w2 s2 hw2 hp2 => ?_)
  obtain ⟨v2, rfl, hp2⟩ := l2_int hp2
  show pm_H (some (L, xs)) 300 310 634 [(3, .int x3), (2, .ref 1131), (1, .ref 0), (0, .ref pm_SC)] [.int v2] w2 Q
  refine pm_H.go (pc' := 635) (st' := []) rfl rfl rfl rfl ?_
  refine pm_H.go (pc' := 858) (st' := []) rfl rfl rfl rfl ?_
  obtain ⟨t2, hS⟩ := hp2.2
  exact K w2 s2 t2 hw2 hS

theorem l7_op20 {L : Nat} {xs : Nat → Int32} {x3 t : Int32} {w : pm_W} {s : ps_S} {Q : Option Value → pm_W → Prop} (ha : ∀ (k : Int32) (_ : pm_in k 6 = true), pm_in (x3 + k) L = true) (hw : ps_R w s) (h : FSt s t) (K : ∀ (w' : pm_W) (s' : ps_S) (t' : Int32), ps_R w' s' → FSt s' t' → pm_H (some (L, xs)) 300 310 858 [(3, .int x3), (2, .ref 1131), (1, .ref 0), (0, .ref pm_SC)] [] w' Q) : pm_H (some (L, xs)) 300 310 638 [(3, .int x3), (2, .ref 1131), (1, .ref 0), (0, .ref pm_SC)] [] w Q := by
  refine pm_H.go (pc' := 639) (st' := [.ref 0]) rfl rfl rfl rfl ?_
  refine l2_call (c := 11) (q := 0) rfl rfl rfl (by decide) rfl (by decide) hw (by decide) rfl rfl rfl (FP_20 h) (fun o w1 s1 hw1 hp => ?_)
  obtain ⟨v1, rfl, hp⟩ := l2_int hp
  show pm_H (some (L, xs)) 300 310 642 [(3, .int x3), (2, .ref 1131), (1, .ref 0), (0, .ref pm_SC)] [.int v1] w1 Q
  refine pm_H.go (pc' := 643) (st' := []) rfl rfl rfl rfl ?_
  refine pm_H.go (pc' := 644) (st' := [.ref 1131]) rfl rfl rfl rfl ?_
  refine l2_call (c := 12) (q := 1131) rfl rfl rfl (by decide) rfl (by decide) hw1 (by decide) rfl rfl rfl hp (fun o w2 s2 hw2 hp2 => ?_)
  obtain ⟨v2, rfl, hp2⟩ := l2_int hp2
  show pm_H (some (L, xs)) 300 310 647 [(3, .int x3), (2, .ref 1131), (1, .ref 0), (0, .ref pm_SC)] [.int v2] w2 Q
  refine pm_H.go (pc' := 648) (st' := []) rfl rfl rfl rfl ?_
  refine pm_H.go (pc' := 858) (st' := []) rfl rfl rfl rfl ?_
  obtain ⟨t2, hS⟩ := hp2.2
  exact K w2 s2 t2 hw2 hS

theorem l7_op21 {L : Nat} {xs : Nat → Int32} {x3 t : Int32} {w : pm_W} {s : ps_S} {Q : Option Value → pm_W → Prop} (ha : ∀ (k : Int32) (_ : pm_in k 6 = true), pm_in (x3 + k) L = true) (hw : ps_R w s) (h : FSt s t) (K : ∀ (w' : pm_W) (s' : ps_S) (t' : Int32), ps_R w' s' → FSt s' t' → pm_H (some (L, xs)) 300 310 858 [(3, .int x3), (2, .ref 1131), (1, .ref 0), (0, .ref pm_SC)] [] w' Q) : pm_H (some (L, xs)) 300 310 651 [(3, .int x3), (2, .ref 1131), (1, .ref 0), (0, .ref pm_SC)] [] w Q := by
  refine pm_H.go (pc' := 652) (st' := [.ref 0]) rfl rfl rfl rfl ?_
  refine pm_H.go (pc' := 653) (st' := [.ref pm_SC, .ref 0]) rfl rfl rfl rfl ?_
  refine pm_H.go (pc' := 654) (st' := [.int x3, .ref pm_SC, .ref 0]) rfl rfl rfl rfl ?_
  refine pm_H.go (pc' := 655) (st' := [.int 1, .int x3, .ref pm_SC, .ref 0]) rfl rfl rfl rfl ?_
  refine pm_H.go (pc' := 656) (st' := [.int (x3 + 1), .ref pm_SC, .ref 0]) rfl rfl rfl rfl ?_
  refine pm_H.sld (i := (x3 + 1)) rfl rfl (ha 1 rfl) ?_
  refine l2_call (c := 11) (q := 0) rfl rfl rfl (by decide) rfl (by decide) hw (by decide) rfl rfl rfl (FP_21 h) (fun o w1 s1 hw1 hp => ?_)
  obtain ⟨v1, rfl, hp⟩ := l2_int hp
  show pm_H (some (L, xs)) 300 310 660 [(3, .int x3), (2, .ref 1131), (1, .ref 0), (0, .ref pm_SC)] [.int v1] w1 Q
  refine pm_H.go (pc' := 661) (st' := []) rfl rfl rfl rfl ?_
  refine pm_H.go (pc' := 662) (st' := [.ref 1131]) rfl rfl rfl rfl ?_
  refine pm_H.go (pc' := 663) (st' := [.ref pm_SC, .ref 1131]) rfl rfl rfl rfl ?_
  refine pm_H.go (pc' := 664) (st' := [.int x3, .ref pm_SC, .ref 1131]) rfl rfl rfl rfl ?_
  refine pm_H.go (pc' := 665) (st' := [.int 1, .int x3, .ref pm_SC, .ref 1131]) rfl rfl rfl rfl ?_
  refine pm_H.go (pc' := 666) (st' := [.int (x3 + 1), .ref pm_SC, .ref 1131]) rfl rfl rfl rfl ?_
  refine pm_H.sld (i := (x3 + 1)) rfl rfl (ha 1 rfl) ?_
  refine l2_call (c := 12) (q := 1131) rfl rfl rfl (by decide) rfl (by decide) hw1 (by decide) rfl rfl rfl hp (fun o w2 s2 hw2 hp2 => ?_)
  obtain ⟨v2, rfl, hp2⟩ := l2_int hp2
  show pm_H (some (L, xs)) 300 310 670 [(3, .int x3), (2, .ref 1131), (1, .ref 0), (0, .ref pm_SC)] [.int v2] w2 Q
  refine pm_H.go (pc' := 671) (st' := []) rfl rfl rfl rfl ?_
  refine pm_H.go (pc' := 858) (st' := []) rfl rfl rfl rfl ?_
  obtain ⟨t2, hS⟩ := hp2.2
  exact K w2 s2 t2 hw2 hS

theorem l7_op22 {L : Nat} {xs : Nat → Int32} {x3 t : Int32} {w : pm_W} {s : ps_S} {Q : Option Value → pm_W → Prop} (ha : ∀ (k : Int32) (_ : pm_in k 6 = true), pm_in (x3 + k) L = true) (hw : ps_R w s) (h : FSt s t) (K : ∀ (w' : pm_W) (s' : ps_S) (t' : Int32), ps_R w' s' → FSt s' t' → pm_H (some (L, xs)) 300 310 858 [(3, .int x3), (2, .ref 1131), (1, .ref 0), (0, .ref pm_SC)] [] w' Q) : pm_H (some (L, xs)) 300 310 674 [(3, .int x3), (2, .ref 1131), (1, .ref 0), (0, .ref pm_SC)] [] w Q := by
  refine pm_H.go (pc' := 675) (st' := [.ref 0]) rfl rfl rfl rfl ?_
  refine l2_call (c := 11) (q := 0) rfl rfl rfl (by decide) rfl (by decide) hw (by decide) rfl rfl rfl (FP_22 h) (fun o w1 s1 hw1 hp => ?_)
  obtain ⟨v1, rfl, hp⟩ := l2_int hp
  show pm_H (some (L, xs)) 300 310 678 [(3, .int x3), (2, .ref 1131), (1, .ref 0), (0, .ref pm_SC)] [.int v1] w1 Q
  refine pm_H.go (pc' := 679) (st' := []) rfl rfl rfl rfl ?_
  refine pm_H.go (pc' := 680) (st' := [.ref 1131]) rfl rfl rfl rfl ?_
  refine l2_call (c := 12) (q := 1131) rfl rfl rfl (by decide) rfl (by decide) hw1 (by decide) rfl rfl rfl hp (fun o w2 s2 hw2 hp2 => ?_)
  obtain ⟨v2, rfl, hp2⟩ := l2_int hp2
  show pm_H (some (L, xs)) 300 310 683 [(3, .int x3), (2, .ref 1131), (1, .ref 0), (0, .ref pm_SC)] [.int v2] w2 Q
  refine pm_H.go (pc' := 684) (st' := []) rfl rfl rfl rfl ?_
  refine pm_H.go (pc' := 858) (st' := []) rfl rfl rfl rfl ?_
  obtain ⟨t2, hS⟩ := hp2.2
  exact K w2 s2 t2 hw2 hS

theorem l7_op23 {L : Nat} {xs : Nat → Int32} {x3 t : Int32} {w : pm_W} {s : ps_S} {Q : Option Value → pm_W → Prop} (ha : ∀ (k : Int32) (_ : pm_in k 6 = true), pm_in (x3 + k) L = true) (hw : ps_R w s) (h : FSt s t) (K : ∀ (w' : pm_W) (s' : ps_S) (t' : Int32), ps_R w' s' → FSt s' t' → pm_H (some (L, xs)) 300 310 858 [(3, .int x3), (2, .ref 1131), (1, .ref 0), (0, .ref pm_SC)] [] w' Q) : pm_H (some (L, xs)) 300 310 687 [(3, .int x3), (2, .ref 1131), (1, .ref 0), (0, .ref pm_SC)] [] w Q := by
  refine pm_H.go (pc' := 688) (st' := [.ref 0]) rfl rfl rfl rfl ?_
  refine pm_H.go (pc' := 689) (st' := [.ref pm_SC, .ref 0]) rfl rfl rfl rfl ?_
  refine pm_H.go (pc' := 690) (st' := [.int x3, .ref pm_SC, .ref 0]) rfl rfl rfl rfl ?_
  refine pm_H.go (pc' := 691) (st' := [.int 1, .int x3, .ref pm_SC, .ref 0]) rfl rfl rfl rfl ?_
  refine pm_H.go (pc' := 692) (st' := [.int (x3 + 1), .ref pm_SC, .ref 0]) rfl rfl rfl rfl ?_
  refine pm_H.sld (i := (x3 + 1)) rfl rfl (ha 1 rfl) ?_
  refine l2_call (c := 11) (q := 0) rfl rfl rfl (by decide) rfl (by decide) hw (by decide) rfl rfl rfl (FP_23 h) (fun o w1 s1 hw1 hp => ?_)
  obtain ⟨v1, rfl, hp⟩ := l2_int hp
  show pm_H (some (L, xs)) 300 310 696 [(3, .int x3), (2, .ref 1131), (1, .ref 0), (0, .ref pm_SC)] [.int v1] w1 Q
  refine pm_H.go (pc' := 697) (st' := []) rfl rfl rfl rfl ?_
  refine pm_H.go (pc' := 698) (st' := [.ref 1131]) rfl rfl rfl rfl ?_
  refine pm_H.go (pc' := 699) (st' := [.ref pm_SC, .ref 1131]) rfl rfl rfl rfl ?_
  refine pm_H.go (pc' := 700) (st' := [.int x3, .ref pm_SC, .ref 1131]) rfl rfl rfl rfl ?_
  refine pm_H.go (pc' := 701) (st' := [.int 1, .int x3, .ref pm_SC, .ref 1131]) rfl rfl rfl rfl ?_
  refine pm_H.go (pc' := 702) (st' := [.int (x3 + 1), .ref pm_SC, .ref 1131]) rfl rfl rfl rfl ?_
  refine pm_H.sld (i := (x3 + 1)) rfl rfl (ha 1 rfl) ?_
  refine l2_call (c := 12) (q := 1131) rfl rfl rfl (by decide) rfl (by decide) hw1 (by decide) rfl rfl rfl hp (fun o w2 s2 hw2 hp2 => ?_)
  obtain ⟨v2, rfl, hp2⟩ := l2_int hp2
  show pm_H (some (L, xs)) 300 310 706 [(3, .int x3), (2, .ref 1131), (1, .ref 0), (0, .ref pm_SC)] [.int v2] w2 Q
  refine pm_H.go (pc' := 707) (st' := []) rfl rfl rfl rfl ?_
  refine pm_H.go (pc' := 858) (st' := []) rfl rfl rfl rfl ?_
  obtain ⟨t2, hS⟩ := hp2.2
  exact K w2 s2 t2 hw2 hS

theorem l7_op24 {L : Nat} {xs : Nat → Int32} {x3 t : Int32} {w : pm_W} {s : ps_S} {Q : Option Value → pm_W → Prop} (ha : ∀ (k : Int32) (_ : pm_in k 6 = true), pm_in (x3 + k) L = true) (hw : ps_R w s) (h : FSt s t) (K : ∀ (w' : pm_W) (s' : ps_S) (t' : Int32), ps_R w' s' → FSt s' t' → pm_H (some (L, xs)) 300 310 858 [(3, .int x3), (2, .ref 1131), (1, .ref 0), (0, .ref pm_SC)] [] w' Q) : pm_H (some (L, xs)) 300 310 710 [(3, .int x3), (2, .ref 1131), (1, .ref 0), (0, .ref pm_SC)] [] w Q := by
  refine pm_H.go (pc' := 711) (st' := [.ref 0]) rfl rfl rfl rfl ?_
  refine pm_H.go (pc' := 712) (st' := [.ref pm_SC, .ref 0]) rfl rfl rfl rfl ?_
  refine pm_H.go (pc' := 713) (st' := [.int x3, .ref pm_SC, .ref 0]) rfl rfl rfl rfl ?_
  refine pm_H.go (pc' := 714) (st' := [.int 1, .int x3, .ref pm_SC, .ref 0]) rfl rfl rfl rfl ?_
  refine pm_H.go (pc' := 715) (st' := [.int (x3 + 1), .ref pm_SC, .ref 0]) rfl rfl rfl rfl ?_
  refine pm_H.sld (i := (x3 + 1)) rfl rfl (ha 1 rfl) ?_
  refine l2_call (c := 11) (q := 0) rfl rfl rfl (by decide) rfl (by decide) hw (by decide) rfl rfl rfl (FP_24 h) (fun o w1 s1 hw1 hp => ?_)
  obtain ⟨v1, rfl, hp⟩ := l2_int hp
  show pm_H (some (L, xs)) 300 310 719 [(3, .int x3), (2, .ref 1131), (1, .ref 0), (0, .ref pm_SC)] [.int v1] w1 Q
  refine pm_H.go (pc' := 720) (st' := []) rfl rfl rfl rfl ?_
  refine pm_H.go (pc' := 721) (st' := [.ref 1131]) rfl rfl rfl rfl ?_
  refine pm_H.go (pc' := 722) (st' := [.ref pm_SC, .ref 1131]) rfl rfl rfl rfl ?_
  refine pm_H.go (pc' := 723) (st' := [.int x3, .ref pm_SC, .ref 1131]) rfl rfl rfl rfl ?_
  refine pm_H.go (pc' := 724) (st' := [.int 1, .int x3, .ref pm_SC, .ref 1131]) rfl rfl rfl rfl ?_
  refine pm_H.go (pc' := 725) (st' := [.int (x3 + 1), .ref pm_SC, .ref 1131]) rfl rfl rfl rfl ?_
  refine pm_H.sld (i := (x3 + 1)) rfl rfl (ha 1 rfl) ?_
  refine l2_call (c := 12) (q := 1131) rfl rfl rfl (by decide) rfl (by decide) hw1 (by decide) rfl rfl rfl hp (fun o w2 s2 hw2 hp2 => ?_)
  obtain ⟨v2, rfl, hp2⟩ := l2_int hp2
  show pm_H (some (L, xs)) 300 310 729 [(3, .int x3), (2, .ref 1131), (1, .ref 0), (0, .ref pm_SC)] [.int v2] w2 Q
  refine pm_H.go (pc' := 730) (st' := []) rfl rfl rfl rfl ?_
  refine pm_H.go (pc' := 858) (st' := []) rfl rfl rfl rfl ?_
  obtain ⟨t2, hS⟩ := hp2
  exact K w2 s2 t2 hw2 hS

theorem l7_op25 {L : Nat} {xs : Nat → Int32} {x3 t : Int32} {w : pm_W} {s : ps_S} {Q : Option Value → pm_W → Prop} (ha : ∀ (k : Int32) (_ : pm_in k 6 = true), pm_in (x3 + k) L = true) (hw : ps_R w s) (h : FSt s t) (K : ∀ (w' : pm_W) (s' : ps_S) (t' : Int32), ps_R w' s' → FSt s' t' → pm_H (some (L, xs)) 300 310 858 [(3, .int x3), (2, .ref 1131), (1, .ref 0), (0, .ref pm_SC)] [] w' Q) : pm_H (some (L, xs)) 300 310 733 [(3, .int x3), (2, .ref 1131), (1, .ref 0), (0, .ref pm_SC)] [] w Q := by
  refine pm_H.go (pc' := 734) (st' := [.ref 0]) rfl rfl rfl rfl ?_
  refine pm_H.go (pc' := 735) (st' := [.ref pm_SC, .ref 0]) rfl rfl rfl rfl ?_
  refine pm_H.go (pc' := 736) (st' := [.int x3, .ref pm_SC, .ref 0]) rfl rfl rfl rfl ?_
  refine pm_H.go (pc' := 737) (st' := [.int 1, .int x3, .ref pm_SC, .ref 0]) rfl rfl rfl rfl ?_
  refine pm_H.go (pc' := 738) (st' := [.int (x3 + 1), .ref pm_SC, .ref 0]) rfl rfl rfl rfl ?_
  refine pm_H.sld (i := (x3 + 1)) rfl rfl (ha 1 rfl) ?_
  refine pm_H.go (pc' := 740) (st' := [.ref pm_SC, .int (xs (Int32.toNatClampNeg (x3 + 1))), .ref 0]) rfl rfl rfl rfl ?_
  refine pm_H.go (pc' := 741) (st' := [.int x3, .ref pm_SC, .int (xs (Int32.toNatClampNeg (x3 + 1))), .ref 0]) rfl rfl rfl rfl ?_
  refine pm_H.go (pc' := 742) (st' := [.int 2, .int x3, .ref pm_SC, .int (xs (Int32.toNatClampNeg (x3 + 1))), .ref 0]) rfl rfl rfl rfl ?_
  refine pm_H.go (pc' := 743) (st' := [.int (x3 + 2), .ref pm_SC, .int (xs (Int32.toNatClampNeg (x3 + 1))), .ref 0]) rfl rfl rfl rfl ?_
  refine pm_H.sld (i := (x3 + 2)) rfl rfl (ha 2 rfl) ?_
  refine l2_call (c := 11) (q := 0) rfl rfl rfl (by decide) rfl (by decide) hw (by decide) rfl rfl rfl (FP_25 h) (fun o w1 s1 hw1 hp => ?_)
  obtain ⟨v1, rfl, hp⟩ := l2_int hp
  show pm_H (some (L, xs)) 300 310 747 [(3, .int x3), (2, .ref 1131), (1, .ref 0), (0, .ref pm_SC)] [.int v1] w1 Q
  refine pm_H.go (pc' := 748) (st' := []) rfl rfl rfl rfl ?_
  refine pm_H.go (pc' := 749) (st' := [.ref 1131]) rfl rfl rfl rfl ?_
  refine pm_H.go (pc' := 750) (st' := [.ref pm_SC, .ref 1131]) rfl rfl rfl rfl ?_
  refine pm_H.go (pc' := 751) (st' := [.int x3, .ref pm_SC, .ref 1131]) rfl rfl rfl rfl ?_
  refine pm_H.go (pc' := 752) (st' := [.int 1, .int x3, .ref pm_SC, .ref 1131]) rfl rfl rfl rfl ?_
  refine pm_H.go (pc' := 753) (st' := [.int (x3 + 1), .ref pm_SC, .ref 1131]) rfl rfl rfl rfl ?_
  refine pm_H.sld (i := (x3 + 1)) rfl rfl (ha 1 rfl) ?_
  refine pm_H.go (pc' := 755) (st' := [.ref pm_SC, .int (xs (Int32.toNatClampNeg (x3 + 1))), .ref 1131]) rfl rfl rfl rfl ?_
  refine pm_H.go (pc' := 756) (st' := [.int x3, .ref pm_SC, .int (xs (Int32.toNatClampNeg (x3 + 1))), .ref 1131]) rfl rfl rfl rfl ?_
  refine pm_H.go (pc' := 757) (st' := [.int 2, .int x3, .ref pm_SC, .int (xs (Int32.toNatClampNeg (x3 + 1))), .ref 1131]) rfl rfl rfl rfl ?_
  refine pm_H.go (pc' := 758) (st' := [.int (x3 + 2), .ref pm_SC, .int (xs (Int32.toNatClampNeg (x3 + 1))), .ref 1131]) rfl rfl rfl rfl ?_
  refine pm_H.sld (i := (x3 + 2)) rfl rfl (ha 2 rfl) ?_
  refine l2_call (c := 12) (q := 1131) rfl rfl rfl (by decide) rfl (by decide) hw1 (by decide) rfl rfl rfl hp (fun o w2 s2 hw2 hp2 => ?_)
  obtain ⟨v2, rfl, hp2⟩ := l2_int hp2
  show pm_H (some (L, xs)) 300 310 762 [(3, .int x3), (2, .ref 1131), (1, .ref 0), (0, .ref pm_SC)] [.int v2] w2 Q
  refine pm_H.go (pc' := 763) (st' := []) rfl rfl rfl rfl ?_
  refine pm_H.go (pc' := 858) (st' := []) rfl rfl rfl rfl ?_
  obtain ⟨t2, hS⟩ := hp2
  exact K w2 s2 t2 hw2 hS

theorem l7_op26 {L : Nat} {xs : Nat → Int32} {x3 t : Int32} {w : pm_W} {s : ps_S} {Q : Option Value → pm_W → Prop} (ha : ∀ (k : Int32) (_ : pm_in k 6 = true), pm_in (x3 + k) L = true) (hw : ps_R w s) (h : FSt s t) (K : ∀ (w' : pm_W) (s' : ps_S) (t' : Int32), ps_R w' s' → FSt s' t' → pm_H (some (L, xs)) 300 310 858 [(3, .int x3), (2, .ref 1131), (1, .ref 0), (0, .ref pm_SC)] [] w' Q) : pm_H (some (L, xs)) 300 310 766 [(3, .int x3), (2, .ref 1131), (1, .ref 0), (0, .ref pm_SC)] [] w Q := by
  refine pm_H.go (pc' := 767) (st' := [.ref 0]) rfl rfl rfl rfl ?_
  refine pm_H.go (pc' := 768) (st' := [.ref pm_SC, .ref 0]) rfl rfl rfl rfl ?_
  refine pm_H.go (pc' := 769) (st' := [.int x3, .ref pm_SC, .ref 0]) rfl rfl rfl rfl ?_
  refine pm_H.go (pc' := 770) (st' := [.int 1, .int x3, .ref pm_SC, .ref 0]) rfl rfl rfl rfl ?_
  refine pm_H.go (pc' := 771) (st' := [.int (x3 + 1), .ref pm_SC, .ref 0]) rfl rfl rfl rfl ?_
  refine pm_H.sld (i := (x3 + 1)) rfl rfl (ha 1 rfl) ?_
  refine l2_call (c := 11) (q := 0) rfl rfl rfl (by decide) rfl (by decide) hw (by decide) rfl rfl rfl (FP_26 h) (fun o w1 s1 hw1 hp => ?_)
  obtain ⟨v1, rfl, hp⟩ := l2_int hp
  show pm_H (some (L, xs)) 300 310 775 [(3, .int x3), (2, .ref 1131), (1, .ref 0), (0, .ref pm_SC)] [.int v1] w1 Q
  refine pm_H.go (pc' := 776) (st' := []) rfl rfl rfl rfl ?_
  refine pm_H.go (pc' := 777) (st' := [.ref 1131]) rfl rfl rfl rfl ?_
  refine pm_H.go (pc' := 778) (st' := [.ref pm_SC, .ref 1131]) rfl rfl rfl rfl ?_
  refine pm_H.go (pc' := 779) (st' := [.int x3, .ref pm_SC, .ref 1131]) rfl rfl rfl rfl ?_
  refine pm_H.go (pc' := 780) (st' := [.int 1, .int x3, .ref pm_SC, .ref 1131]) rfl rfl rfl rfl ?_
  refine pm_H.go (pc' := 781) (st' := [.int (x3 + 1), .ref pm_SC, .ref 1131]) rfl rfl rfl rfl ?_
  refine pm_H.sld (i := (x3 + 1)) rfl rfl (ha 1 rfl) ?_
  refine l2_call (c := 12) (q := 1131) rfl rfl rfl (by decide) rfl (by decide) hw1 (by decide) rfl rfl rfl hp (fun o w2 s2 hw2 hp2 => ?_)
  obtain ⟨v2, rfl, hp2⟩ := l2_int hp2
  show pm_H (some (L, xs)) 300 310 785 [(3, .int x3), (2, .ref 1131), (1, .ref 0), (0, .ref pm_SC)] [.int v2] w2 Q
  refine pm_H.go (pc' := 786) (st' := []) rfl rfl rfl rfl ?_
  refine pm_H.go (pc' := 858) (st' := []) rfl rfl rfl rfl ?_
  obtain ⟨t2, hS⟩ := hp2
  exact K w2 s2 t2 hw2 hS

theorem l7_op27 {L : Nat} {xs : Nat → Int32} {x3 t : Int32} {w : pm_W} {s : ps_S} {Q : Option Value → pm_W → Prop} (ha : ∀ (k : Int32) (_ : pm_in k 6 = true), pm_in (x3 + k) L = true) (hw : ps_R w s) (h : FSt s t) (K : ∀ (w' : pm_W) (s' : ps_S) (t' : Int32), ps_R w' s' → FSt s' t' → pm_H (some (L, xs)) 300 310 858 [(3, .int x3), (2, .ref 1131), (1, .ref 0), (0, .ref pm_SC)] [] w' Q) : pm_H (some (L, xs)) 300 310 789 [(3, .int x3), (2, .ref 1131), (1, .ref 0), (0, .ref pm_SC)] [] w Q := by
  refine pm_H.go (pc' := 790) (st' := [.ref 0]) rfl rfl rfl rfl ?_
  refine pm_H.go (pc' := 791) (st' := [.ref pm_SC, .ref 0]) rfl rfl rfl rfl ?_
  refine pm_H.go (pc' := 792) (st' := [.int x3, .ref pm_SC, .ref 0]) rfl rfl rfl rfl ?_
  refine pm_H.go (pc' := 793) (st' := [.int 1, .int x3, .ref pm_SC, .ref 0]) rfl rfl rfl rfl ?_
  refine pm_H.go (pc' := 794) (st' := [.int (x3 + 1), .ref pm_SC, .ref 0]) rfl rfl rfl rfl ?_
  refine pm_H.sld (i := (x3 + 1)) rfl rfl (ha 1 rfl) ?_
  refine l2_call (c := 11) (q := 0) rfl rfl rfl (by decide) rfl (by decide) hw (by decide) rfl rfl rfl (FP_27 h) (fun o w1 s1 hw1 hp => ?_)
  obtain ⟨v1, rfl, hp⟩ := l2_int hp
  show pm_H (some (L, xs)) 300 310 798 [(3, .int x3), (2, .ref 1131), (1, .ref 0), (0, .ref pm_SC)] [.int v1] w1 Q
  refine pm_H.go (pc' := 799) (st' := []) rfl rfl rfl rfl ?_
  refine pm_H.go (pc' := 800) (st' := [.ref 1131]) rfl rfl rfl rfl ?_
  refine pm_H.go (pc' := 801) (st' := [.ref pm_SC, .ref 1131]) rfl rfl rfl rfl ?_
  refine pm_H.go (pc' := 802) (st' := [.int x3, .ref pm_SC, .ref 1131]) rfl rfl rfl rfl ?_
  refine pm_H.go (pc' := 803) (st' := [.int 1, .int x3, .ref pm_SC, .ref 1131]) rfl rfl rfl rfl ?_
  refine pm_H.go (pc' := 804) (st' := [.int (x3 + 1), .ref pm_SC, .ref 1131]) rfl rfl rfl rfl ?_
  refine pm_H.sld (i := (x3 + 1)) rfl rfl (ha 1 rfl) ?_
  refine l2_call (c := 12) (q := 1131) rfl rfl rfl (by decide) rfl (by decide) hw1 (by decide) rfl rfl rfl hp (fun o w2 s2 hw2 hp2 => ?_)
  obtain ⟨v2, rfl, hp2⟩ := l2_int hp2
  show pm_H (some (L, xs)) 300 310 808 [(3, .int x3), (2, .ref 1131), (1, .ref 0), (0, .ref pm_SC)] [.int v2] w2 Q
  refine pm_H.go (pc' := 809) (st' := []) rfl rfl rfl rfl ?_
  refine pm_H.go (pc' := 858) (st' := []) rfl rfl rfl rfl ?_
  obtain ⟨t2, hS⟩ := hp2.2
  exact K w2 s2 t2 hw2 hS

theorem l7_op28 {L : Nat} {xs : Nat → Int32} {x3 t : Int32} {w : pm_W} {s : ps_S} {Q : Option Value → pm_W → Prop} (ha : ∀ (k : Int32) (_ : pm_in k 6 = true), pm_in (x3 + k) L = true) (hw : ps_R w s) (h : FSt s t) (K : ∀ (w' : pm_W) (s' : ps_S) (t' : Int32), ps_R w' s' → FSt s' t' → pm_H (some (L, xs)) 300 310 858 [(3, .int x3), (2, .ref 1131), (1, .ref 0), (0, .ref pm_SC)] [] w' Q) : pm_H (some (L, xs)) 300 310 812 [(3, .int x3), (2, .ref 1131), (1, .ref 0), (0, .ref pm_SC)] [] w Q := by
  refine pm_H.go (pc' := 813) (st' := [.ref 0]) rfl rfl rfl rfl ?_
  refine pm_H.go (pc' := 814) (st' := [.ref pm_SC, .ref 0]) rfl rfl rfl rfl ?_
  refine pm_H.go (pc' := 815) (st' := [.int x3, .ref pm_SC, .ref 0]) rfl rfl rfl rfl ?_
  refine pm_H.go (pc' := 816) (st' := [.int 1, .int x3, .ref pm_SC, .ref 0]) rfl rfl rfl rfl ?_
  refine pm_H.go (pc' := 817) (st' := [.int (x3 + 1), .ref pm_SC, .ref 0]) rfl rfl rfl rfl ?_
  refine pm_H.sld (i := (x3 + 1)) rfl rfl (ha 1 rfl) ?_
  refine l2_call (c := 11) (q := 0) rfl rfl rfl (by decide) rfl (by decide) hw (by decide) rfl rfl rfl (FP_28 h) (fun o w1 s1 hw1 hp => ?_)
  obtain ⟨v1, rfl, hp⟩ := l2_int hp
  show pm_H (some (L, xs)) 300 310 821 [(3, .int x3), (2, .ref 1131), (1, .ref 0), (0, .ref pm_SC)] [.int v1] w1 Q
  refine pm_H.go (pc' := 822) (st' := []) rfl rfl rfl rfl ?_
  refine pm_H.go (pc' := 823) (st' := [.ref 1131]) rfl rfl rfl rfl ?_
  refine pm_H.go (pc' := 824) (st' := [.ref pm_SC, .ref 1131]) rfl rfl rfl rfl ?_
  refine pm_H.go (pc' := 825) (st' := [.int x3, .ref pm_SC, .ref 1131]) rfl rfl rfl rfl ?_
  refine pm_H.go (pc' := 826) (st' := [.int 1, .int x3, .ref pm_SC, .ref 1131]) rfl rfl rfl rfl ?_
  refine pm_H.go (pc' := 827) (st' := [.int (x3 + 1), .ref pm_SC, .ref 1131]) rfl rfl rfl rfl ?_
  refine pm_H.sld (i := (x3 + 1)) rfl rfl (ha 1 rfl) ?_
  refine l2_call (c := 12) (q := 1131) rfl rfl rfl (by decide) rfl (by decide) hw1 (by decide) rfl rfl rfl hp (fun o w2 s2 hw2 hp2 => ?_)
  obtain ⟨v2, rfl, hp2⟩ := l2_int hp2
  show pm_H (some (L, xs)) 300 310 831 [(3, .int x3), (2, .ref 1131), (1, .ref 0), (0, .ref pm_SC)] [.int v2] w2 Q
  refine pm_H.go (pc' := 832) (st' := []) rfl rfl rfl rfl ?_
  refine pm_H.go (pc' := 858) (st' := []) rfl rfl rfl rfl ?_
  obtain ⟨t2, hS⟩ := hp2.2
  exact K w2 s2 t2 hw2 hS

theorem l7_op29 {L : Nat} {xs : Nat → Int32} {x3 t : Int32} {w : pm_W} {s : ps_S} {Q : Option Value → pm_W → Prop} (ha : ∀ (k : Int32) (_ : pm_in k 6 = true), pm_in (x3 + k) L = true) (hw : ps_R w s) (h : FSt s t) (K : ∀ (w' : pm_W) (s' : ps_S) (t' : Int32), ps_R w' s' → FSt s' t' → pm_H (some (L, xs)) 300 310 858 [(3, .int x3), (2, .ref 1131), (1, .ref 0), (0, .ref pm_SC)] [] w' Q) : pm_H (some (L, xs)) 300 310 835 [(3, .int x3), (2, .ref 1131), (1, .ref 0), (0, .ref pm_SC)] [] w Q := by
  refine pm_H.go (pc' := 836) (st' := [.ref 0]) rfl rfl rfl rfl ?_
  refine pm_H.go (pc' := 837) (st' := [.ref pm_SC, .ref 0]) rfl rfl rfl rfl ?_
  refine pm_H.go (pc' := 838) (st' := [.int x3, .ref pm_SC, .ref 0]) rfl rfl rfl rfl ?_
  refine pm_H.go (pc' := 839) (st' := [.int 1, .int x3, .ref pm_SC, .ref 0]) rfl rfl rfl rfl ?_
  refine pm_H.go (pc' := 840) (st' := [.int (x3 + 1), .ref pm_SC, .ref 0]) rfl rfl rfl rfl ?_
  refine pm_H.sld (i := (x3 + 1)) rfl rfl (ha 1 rfl) ?_
  refine l2_call (c := 11) (q := 0) rfl rfl rfl (by decide) rfl (by decide) hw (by decide) rfl rfl rfl (FP_29 h) (fun o w1 s1 hw1 hp => ?_)
  obtain ⟨v1, rfl, hp⟩ := l2_int hp
  show pm_H (some (L, xs)) 300 310 844 [(3, .int x3), (2, .ref 1131), (1, .ref 0), (0, .ref pm_SC)] [.int v1] w1 Q
  refine pm_H.go (pc' := 845) (st' := []) rfl rfl rfl rfl ?_
  refine pm_H.go (pc' := 846) (st' := [.ref 1131]) rfl rfl rfl rfl ?_
  refine pm_H.go (pc' := 847) (st' := [.ref pm_SC, .ref 1131]) rfl rfl rfl rfl ?_
  refine pm_H.go (pc' := 848) (st' := [.int x3, .ref pm_SC, .ref 1131]) rfl rfl rfl rfl ?_
  refine pm_H.go (pc' := 849) (st' := [.int 1, .int x3, .ref pm_SC, .ref 1131]) rfl rfl rfl rfl ?_
  refine pm_H.go (pc' := 850) (st' := [.int (x3 + 1), .ref pm_SC, .ref 1131]) rfl rfl rfl rfl ?_
  refine pm_H.sld (i := (x3 + 1)) rfl rfl (ha 1 rfl) ?_
  refine l2_call (c := 12) (q := 1131) rfl rfl rfl (by decide) rfl (by decide) hw1 (by decide) rfl rfl rfl hp (fun o w2 s2 hw2 hp2 => ?_)
  obtain ⟨v2, rfl, hp2⟩ := l2_int hp2
  show pm_H (some (L, xs)) 300 310 854 [(3, .int x3), (2, .ref 1131), (1, .ref 0), (0, .ref pm_SC)] [.int v2] w2 Q
  refine pm_H.go (pc' := 855) (st' := []) rfl rfl rfl rfl ?_
  refine pm_H.go (pc' := 858) (st' := []) rfl rfl rfl rfl ?_
  obtain ⟨t2, hS⟩ := hp2.2
  exact K w2 s2 t2 hw2 hS
