/-! the law on scripts of at most six ints -/
theorem pm_Tk {X : Option (Nat × (Nat → Int32))} {d y pc k d' kd j a mm pl nest : Nat} {L : pm_L} {st : List Value} {w w1 : pm_W} {o1 : Option Value} {i : Instr} {Q : Option Value → pm_W → Prop} (hc : pm_code y pc = some (i, k)) (hR : pm_isR i = false) (hcal : pm_cal i = (kd, j)) (hkd : kd ≠ 0) (hl : pm_l4 (pm_ML (pm_own y)) j = some (a, mm, pl, nest)) (h6 : 5 < mm) (hd : d = d' + 1)
    (hck : pm_ckd kd mm nest st w = true) (hcall : pm_T none d' (mm - 6) 0 (lv_args 0 (st.take (pm_na kd mm)).reverse) [] w (o1, w1)) (h : pm_H X d y (pc + 3) L (o1.toList ++ st.drop (pm_na kd mm)) w1 Q) : pm_H X d y pc L st w Q :=
  pm_H.call (Q1 := fun o w' => o = o1 ∧ w' = w1) hc hR hcal hkd hl h6 hd hck ⟨o1, w1, hcall.lift, rfl, rfl⟩ (fun o w' hh => by obtain ⟨rfl, rfl⟩ := hh; exact h)
theorem pm_ckd_of {kd mm nest c q : Nat} {st : List Value} {w : pm_W} (hc : pm_cls w (some (.ref q)) = some c) (hh : (st.take (pm_na kd mm)).reverse.head? = some (.ref q)) (h : (Nat.ble (pm_na kd mm) st.length && Nat.ble (pm_cats (st.drop (pm_na kd mm))) 8 && Nat.ble (lg_sl (st.take (pm_na kd mm)).reverse).length (pm_ml (mm - 6)) && (cond (Nat.beq kd 3) (pm_st (mm - 6)) (!pm_st (mm - 6) && Nat.beq c (pm_own (mm - 6)) && (cond (Nat.beq kd 2) (pm_ini (mm - 6)) (Nat.beq nest 0 && !pm_ini (mm - 6)))))) = true) : pm_ckd kd mm nest st w = true := by
  unfold pm_ckd
  rw [hh, hc, h]
  rfl
theorem pm_lg0 (x : Int64) : lg_cmp x x = 0 := by simp [lg_cmp]
set_option maxRecDepth 100000
theorem p1_end6 {xs : Nat → Int32} {w : pm_W} (hz : w.2 = pm_w1.2) : pm_H (some (6, xs)) 300 310 859 [(3, .int 0), (2, .ref 1131), (1, .ref 0), (0, .ref pm_SC)] [] w (fun o w' => o = some (.int 1) ∧ w'.2 = pm_w1.2) := by
  refine pm_H.go (pc' := 862) (L' := [(3, .int 6), (2, .ref 1131), (1, .ref 0), (0, .ref pm_SC)]) rfl rfl rfl rfl ?_
  refine pm_H.go (pc' := 18) rfl rfl rfl rfl ?_
  refine pm_H.go (pc' := 19) rfl rfl rfl rfl ?_
  refine pm_H.go (pc' := 20) rfl rfl rfl rfl ?_
  refine pm_H.go (pc' := 21) (st' := [.int 6, .int 6]) rfl rfl rfl rfl ?_
  refine pm_H.go (pc' := 23) (st' := [.int 6, .int 6, .int 6]) rfl rfl rfl rfl ?_
  refine pm_H.go (pc' := 24) (st' := [.int 0, .int 6]) rfl rfl rfl rfl ?_
  refine pm_H.bricmp (b := true) (pc' := 865) rfl rfl (by decide) rfl rfl ?_
  refine pm_H.go (pc' := 866) (st' := [.int 1]) rfl rfl rfl rfl ?_
  exact pm_H.ret rfl rfl rfl ⟨rfl, hz⟩
theorem p1_op0 (xs : Nat → Int32) : pm_H (some (6, xs)) 300 310 168 [(3, .int 0), (2, .ref 1131), (1, .ref 0), (0, .ref pm_SC)] [] pm_w1 (fun o w' => o = some (.int 1) ∧ w'.2 = pm_w1.2) := by
  obtain ⟨v, w2, w3, hx, hm, hz⟩ := p1_feed (xs 1) (xs 2) (xs 3) (xs 4) (xs 5)
  refine pm_H.go (pc' := 169) (st' := [.ref 0]) rfl rfl rfl rfl ?_
  refine pm_H.go (pc' := 170) (st' := [.ref pm_SC, .ref 0]) rfl rfl rfl rfl ?_
  refine pm_H.go (pc' := 171) (st' := [.int 0, .ref pm_SC, .ref 0]) rfl rfl rfl rfl ?_
  refine pm_H.go (pc' := 172) (st' := [.int 1, .int 0, .ref pm_SC, .ref 0]) rfl rfl rfl rfl ?_
  refine pm_H.go (pc' := 173) (st' := [.int 1, .ref pm_SC, .ref 0]) rfl rfl rfl rfl ?_
  refine pm_H.go (pc' := 174) (st' := [.int (xs 1), .ref 0]) rfl rfl rfl rfl ?_
  refine pm_H.go (pc' := 175) (st' := [.ref pm_SC, .int (xs 1), .ref 0]) rfl rfl rfl rfl ?_
  refine pm_H.go (pc' := 176) (st' := [.int 0, .ref pm_SC, .int (xs 1), .ref 0]) rfl rfl rfl rfl ?_
  refine pm_H.go (pc' := 177) (st' := [.int 2, .int 0, .ref pm_SC, .int (xs 1), .ref 0]) rfl rfl rfl rfl ?_
  refine pm_H.go (pc' := 178) (st' := [.int 2, .ref pm_SC, .int (xs 1), .ref 0]) rfl rfl rfl rfl ?_
  refine pm_H.go (pc' := 179) (st' := [.int (xs 2), .int (xs 1), .ref 0]) rfl rfl rfl rfl ?_
  refine pm_H.go (pc' := 180) (st' := [.ref pm_SC, .int (xs 2), .int (xs 1), .ref 0]) rfl rfl rfl rfl ?_
  refine pm_H.go (pc' := 181) (st' := [.int 0, .ref pm_SC, .int (xs 2), .int (xs 1), .ref 0]) rfl rfl rfl rfl ?_
  refine pm_H.go (pc' := 182) (st' := [.int 3, .int 0, .ref pm_SC, .int (xs 2), .int (xs 1), .ref 0]) rfl rfl rfl rfl ?_
  refine pm_H.go (pc' := 183) (st' := [.int 3, .ref pm_SC, .int (xs 2), .int (xs 1), .ref 0]) rfl rfl rfl rfl ?_
  refine pm_H.go (pc' := 184) (st' := [.int (xs 3), .int (xs 2), .int (xs 1), .ref 0]) rfl rfl rfl rfl ?_
  refine pm_H.go (pc' := 185) (st' := [.ref pm_SC, .int (xs 3), .int (xs 2), .int (xs 1), .ref 0]) rfl rfl rfl rfl ?_
  refine pm_H.go (pc' := 186) (st' := [.int 0, .ref pm_SC, .int (xs 3), .int (xs 2), .int (xs 1), .ref 0]) rfl rfl rfl rfl ?_
  refine pm_H.go (pc' := 187) (st' := [.int 4, .int 0, .ref pm_SC, .int (xs 3), .int (xs 2), .int (xs 1), .ref 0]) rfl rfl rfl rfl ?_
  refine pm_H.go (pc' := 188) (st' := [.int 4, .ref pm_SC, .int (xs 3), .int (xs 2), .int (xs 1), .ref 0]) rfl rfl rfl rfl ?_
  refine pm_H.go (pc' := 189) (st' := [.int (xs 4), .int (xs 3), .int (xs 2), .int (xs 1), .ref 0]) rfl rfl rfl rfl ?_
  refine pm_H.go (pc' := 190) (st' := [.ref pm_SC, .int (xs 4), .int (xs 3), .int (xs 2), .int (xs 1), .ref 0]) rfl rfl rfl rfl ?_
  refine pm_H.go (pc' := 191) (st' := [.int 0, .ref pm_SC, .int (xs 4), .int (xs 3), .int (xs 2), .int (xs 1), .ref 0]) rfl rfl rfl rfl ?_
  refine pm_H.go (pc' := 192) (st' := [.int 5, .int 0, .ref pm_SC, .int (xs 4), .int (xs 3), .int (xs 2), .int (xs 1), .ref 0]) rfl rfl rfl rfl ?_
  refine pm_H.go (pc' := 193) (st' := [.int 5, .ref pm_SC, .int (xs 4), .int (xs 3), .int (xs 2), .int (xs 1), .ref 0]) rfl rfl rfl rfl ?_
  refine pm_H.go (pc' := 194) (st' := [.int (xs 5), .int (xs 4), .int (xs 3), .int (xs 2), .int (xs 1), .ref 0]) rfl rfl rfl rfl ?_
  refine pm_Tk (d' := 299) rfl rfl rfl (by decide) rfl (by decide) rfl rfl hx ?_
  refine pm_H.go (pc' := 198) (st' := [.ref 1131, .int v]) rfl rfl rfl rfl ?_
  refine pm_H.go (pc' := 199) (st' := [.ref pm_SC, .ref 1131, .int v]) rfl rfl rfl rfl ?_
  refine pm_H.go (pc' := 200) (st' := [.int 0, .ref pm_SC, .ref 1131, .int v]) rfl rfl rfl rfl ?_
  refine pm_H.go (pc' := 201) (st' := [.int 1, .int 0, .ref pm_SC, .ref 1131, .int v]) rfl rfl rfl rfl ?_
  refine pm_H.go (pc' := 202) (st' := [.int 1, .ref pm_SC, .ref 1131, .int v]) rfl rfl rfl rfl ?_
  refine pm_H.go (pc' := 203) (st' := [.int (xs 1), .ref 1131, .int v]) rfl rfl rfl rfl ?_
  refine pm_H.go (pc' := 204) (st' := [.ref pm_SC, .int (xs 1), .ref 1131, .int v]) rfl rfl rfl rfl ?_
  refine pm_H.go (pc' := 205) (st' := [.int 0, .ref pm_SC, .int (xs 1), .ref 1131, .int v]) rfl rfl rfl rfl ?_
  refine pm_H.go (pc' := 206) (st' := [.int 2, .int 0, .ref pm_SC, .int (xs 1), .ref 1131, .int v]) rfl rfl rfl rfl ?_
  refine pm_H.go (pc' := 207) (st' := [.int 2, .ref pm_SC, .int (xs 1), .ref 1131, .int v]) rfl rfl rfl rfl ?_
  refine pm_H.go (pc' := 208) (st' := [.int (xs 2), .int (xs 1), .ref 1131, .int v]) rfl rfl rfl rfl ?_
  refine pm_H.go (pc' := 209) (st' := [.ref pm_SC, .int (xs 2), .int (xs 1), .ref 1131, .int v]) rfl rfl rfl rfl ?_
  refine pm_H.go (pc' := 210) (st' := [.int 0, .ref pm_SC, .int (xs 2), .int (xs 1), .ref 1131, .int v]) rfl rfl rfl rfl ?_
  refine pm_H.go (pc' := 211) (st' := [.int 3, .int 0, .ref pm_SC, .int (xs 2), .int (xs 1), .ref 1131, .int v]) rfl rfl rfl rfl ?_
  refine pm_H.go (pc' := 212) (st' := [.int 3, .ref pm_SC, .int (xs 2), .int (xs 1), .ref 1131, .int v]) rfl rfl rfl rfl ?_
  refine pm_H.go (pc' := 213) (st' := [.int (xs 3), .int (xs 2), .int (xs 1), .ref 1131, .int v]) rfl rfl rfl rfl ?_
  refine pm_H.go (pc' := 214) (st' := [.ref pm_SC, .int (xs 3), .int (xs 2), .int (xs 1), .ref 1131, .int v]) rfl rfl rfl rfl ?_
  refine pm_H.go (pc' := 215) (st' := [.int 0, .ref pm_SC, .int (xs 3), .int (xs 2), .int (xs 1), .ref 1131, .int v]) rfl rfl rfl rfl ?_
  refine pm_H.go (pc' := 216) (st' := [.int 4, .int 0, .ref pm_SC, .int (xs 3), .int (xs 2), .int (xs 1), .ref 1131, .int v]) rfl rfl rfl rfl ?_
  refine pm_H.go (pc' := 217) (st' := [.int 4, .ref pm_SC, .int (xs 3), .int (xs 2), .int (xs 1), .ref 1131, .int v]) rfl rfl rfl rfl ?_
  refine pm_H.go (pc' := 218) (st' := [.int (xs 4), .int (xs 3), .int (xs 2), .int (xs 1), .ref 1131, .int v]) rfl rfl rfl rfl ?_
  refine pm_H.go (pc' := 219) (st' := [.ref pm_SC, .int (xs 4), .int (xs 3), .int (xs 2), .int (xs 1), .ref 1131, .int v]) rfl rfl rfl rfl ?_
  refine pm_H.go (pc' := 220) (st' := [.int 0, .ref pm_SC, .int (xs 4), .int (xs 3), .int (xs 2), .int (xs 1), .ref 1131, .int v]) rfl rfl rfl rfl ?_
  refine pm_H.go (pc' := 221) (st' := [.int 5, .int 0, .ref pm_SC, .int (xs 4), .int (xs 3), .int (xs 2), .int (xs 1), .ref 1131, .int v]) rfl rfl rfl rfl ?_
  refine pm_H.go (pc' := 222) (st' := [.int 5, .ref pm_SC, .int (xs 4), .int (xs 3), .int (xs 2), .int (xs 1), .ref 1131, .int v]) rfl rfl rfl rfl ?_
  refine pm_H.go (pc' := 223) (st' := [.int (xs 5), .int (xs 4), .int (xs 3), .int (xs 2), .int (xs 1), .ref 1131, .int v]) rfl rfl rfl rfl ?_
  refine pm_Tk (d' := 299) rfl rfl rfl (by decide) rfl (by decide) rfl (pm_ckd_of (pm_T_cls hx (q := 1131) (c := 12) rfl) rfl rfl) hm ?_
  refine pm_H.bricmp (b := true) (pc' := 859) rfl rfl (decide_eq_true rfl) rfl rfl ?_
  exact p1_end6 hz
theorem p1_op1 (xs : Nat → Int32) : pm_H (some (6, xs)) 300 310 231 [(3, .int 0), (2, .ref 1131), (1, .ref 0), (0, .ref pm_SC)] [] pm_w1 (fun o w' => o = some (.int 1) ∧ w'.2 = pm_w1.2) := by
  obtain ⟨v, w2, w3, hx, hm, hz⟩ := p1_end (xs 1)
  refine pm_H.go (pc' := 232) (st' := [.ref 0]) rfl rfl rfl rfl ?_
  refine pm_H.go (pc' := 233) (st' := [.ref pm_SC, .ref 0]) rfl rfl rfl rfl ?_
  refine pm_H.go (pc' := 234) (st' := [.int 0, .ref pm_SC, .ref 0]) rfl rfl rfl rfl ?_
  refine pm_H.go (pc' := 235) (st' := [.int 1, .int 0, .ref pm_SC, .ref 0]) rfl rfl rfl rfl ?_
  refine pm_H.go (pc' := 236) (st' := [.int 1, .ref pm_SC, .ref 0]) rfl rfl rfl rfl ?_
  refine pm_H.go (pc' := 237) (st' := [.int (xs 1), .ref 0]) rfl rfl rfl rfl ?_
  refine pm_Tk (d' := 299) rfl rfl rfl (by decide) rfl (by decide) rfl rfl hx ?_
  refine pm_H.go (pc' := 241) (st' := [.ref 1131, .int v]) rfl rfl rfl rfl ?_
  refine pm_H.go (pc' := 242) (st' := [.ref pm_SC, .ref 1131, .int v]) rfl rfl rfl rfl ?_
  refine pm_H.go (pc' := 243) (st' := [.int 0, .ref pm_SC, .ref 1131, .int v]) rfl rfl rfl rfl ?_
  refine pm_H.go (pc' := 244) (st' := [.int 1, .int 0, .ref pm_SC, .ref 1131, .int v]) rfl rfl rfl rfl ?_
  refine pm_H.go (pc' := 245) (st' := [.int 1, .ref pm_SC, .ref 1131, .int v]) rfl rfl rfl rfl ?_
  refine pm_H.go (pc' := 246) (st' := [.int (xs 1), .ref 1131, .int v]) rfl rfl rfl rfl ?_
  refine pm_Tk (d' := 299) rfl rfl rfl (by decide) rfl (by decide) rfl (pm_ckd_of (pm_T_cls hx (q := 1131) (c := 12) rfl) rfl rfl) hm ?_
  refine pm_H.bricmp (b := true) (pc' := 859) rfl rfl (decide_eq_true rfl) rfl rfl ?_
  exact p1_end6 hz
theorem p1_op2 (xs : Nat → Int32) : pm_H (some (6, xs)) 300 310 254 [(3, .int 0), (2, .ref 1131), (1, .ref 0), (0, .ref pm_SC)] [] pm_w1 (fun o w' => o = some (.int 1) ∧ w'.2 = pm_w1.2) := by
  obtain ⟨v, w2, w3, hx, hm, hz⟩ := p1_theory
  refine pm_H.go (pc' := 255) (st' := [.ref 0]) rfl rfl rfl rfl ?_
  refine pm_Tk (d' := 299) rfl rfl rfl (by decide) rfl (by decide) rfl rfl hx ?_
  refine pm_H.go (pc' := 259) (st' := [.ref 1131, .int v]) rfl rfl rfl rfl ?_
  refine pm_Tk (d' := 299) rfl rfl rfl (by decide) rfl (by decide) rfl (pm_ckd_of (pm_T_cls hx (q := 1131) (c := 12) rfl) rfl rfl) hm ?_
  refine pm_H.bricmp (b := true) (pc' := 859) rfl rfl (decide_eq_true rfl) rfl rfl ?_
  exact p1_end6 hz
theorem p1_op3 (xs : Nat → Int32) : pm_H (some (6, xs)) 300 310 267 [(3, .int 0), (2, .ref 1131), (1, .ref 0), (0, .ref pm_SC)] [] pm_w1 (fun o w' => o = some (.int 1) ∧ w'.2 = pm_w1.2) := by
  obtain ⟨v, w2, w3, hx, hm, hz⟩ := p1_fault (xs 1)
  refine pm_H.go (pc' := 268) (st' := [.ref 0]) rfl rfl rfl rfl ?_
  refine pm_H.go (pc' := 269) (st' := [.ref pm_SC, .ref 0]) rfl rfl rfl rfl ?_
  refine pm_H.go (pc' := 270) (st' := [.int 0, .ref pm_SC, .ref 0]) rfl rfl rfl rfl ?_
  refine pm_H.go (pc' := 271) (st' := [.int 1, .int 0, .ref pm_SC, .ref 0]) rfl rfl rfl rfl ?_
  refine pm_H.go (pc' := 272) (st' := [.int 1, .ref pm_SC, .ref 0]) rfl rfl rfl rfl ?_
  refine pm_H.go (pc' := 273) (st' := [.int (xs 1), .ref 0]) rfl rfl rfl rfl ?_
  refine pm_Tk (d' := 299) rfl rfl rfl (by decide) rfl (by decide) rfl rfl hx ?_
  refine pm_H.go (pc' := 277) (st' := [.ref 1131, .int v]) rfl rfl rfl rfl ?_
  refine pm_H.go (pc' := 278) (st' := [.ref pm_SC, .ref 1131, .int v]) rfl rfl rfl rfl ?_
  refine pm_H.go (pc' := 279) (st' := [.int 0, .ref pm_SC, .ref 1131, .int v]) rfl rfl rfl rfl ?_
  refine pm_H.go (pc' := 280) (st' := [.int 1, .int 0, .ref pm_SC, .ref 1131, .int v]) rfl rfl rfl rfl ?_
  refine pm_H.go (pc' := 281) (st' := [.int 1, .ref pm_SC, .ref 1131, .int v]) rfl rfl rfl rfl ?_
  refine pm_H.go (pc' := 282) (st' := [.int (xs 1), .ref 1131, .int v]) rfl rfl rfl rfl ?_
  refine pm_Tk (d' := 299) rfl rfl rfl (by decide) rfl (by decide) rfl (pm_ckd_of (pm_T_cls hx (q := 1131) (c := 12) rfl) rfl rfl) hm ?_
  refine pm_H.bricmp (b := true) (pc' := 859) rfl rfl (decide_eq_true rfl) rfl rfl ?_
  exact p1_end6 hz
theorem p1_op4 (xs : Nat → Int32) : pm_H (some (6, xs)) 300 310 290 [(3, .int 0), (2, .ref 1131), (1, .ref 0), (0, .ref pm_SC)] [] pm_w1 (fun o w' => o = some (.int 1) ∧ w'.2 = pm_w1.2) := by
  obtain ⟨v, w2, w3, hx, hm, hz⟩ := p1_prove
  refine pm_H.go (pc' := 291) (st' := [.ref 0]) rfl rfl rfl rfl ?_
  refine pm_Tk (d' := 299) rfl rfl rfl (by decide) rfl (by decide) rfl rfl hx ?_
  refine pm_H.go (pc' := 295) (st' := [.ref 1131, .int v]) rfl rfl rfl rfl ?_
  refine pm_Tk (d' := 299) rfl rfl rfl (by decide) rfl (by decide) rfl (pm_ckd_of (pm_T_cls hx (q := 1131) (c := 12) rfl) rfl rfl) hm ?_
  refine pm_H.bricmp (b := true) (pc' := 859) rfl rfl (decide_eq_true rfl) rfl rfl ?_
  exact p1_end6 hz
theorem p1_op5 (xs : Nat → Int32) : pm_H (some (6, xs)) 300 310 303 [(3, .int 0), (2, .ref 1131), (1, .ref 0), (0, .ref pm_SC)] [] pm_w1 (fun o w' => o = some (.int 1) ∧ w'.2 = pm_w1.2) := by
  obtain ⟨v, w2, w3, hx, hm, hz⟩ := p1_refused (xs 1)
  refine pm_H.go (pc' := 304) (st' := [.ref 0]) rfl rfl rfl rfl ?_
  refine pm_H.go (pc' := 305) (st' := [.ref pm_SC, .ref 0]) rfl rfl rfl rfl ?_
  refine pm_H.go (pc' := 306) (st' := [.int 0, .ref pm_SC, .ref 0]) rfl rfl rfl rfl ?_
  refine pm_H.go (pc' := 307) (st' := [.int 1, .int 0, .ref pm_SC, .ref 0]) rfl rfl rfl rfl ?_
  refine pm_H.go (pc' := 308) (st' := [.int 1, .ref pm_SC, .ref 0]) rfl rfl rfl rfl ?_
  refine pm_H.go (pc' := 309) (st' := [.int (xs 1), .ref 0]) rfl rfl rfl rfl ?_
  refine pm_Tk (d' := 299) rfl rfl rfl (by decide) rfl (by decide) rfl rfl hx ?_
  refine pm_H.go (pc' := 313) (st' := [.ref 1131, .int v]) rfl rfl rfl rfl ?_
  refine pm_H.go (pc' := 314) (st' := [.ref pm_SC, .ref 1131, .int v]) rfl rfl rfl rfl ?_
  refine pm_H.go (pc' := 315) (st' := [.int 0, .ref pm_SC, .ref 1131, .int v]) rfl rfl rfl rfl ?_
  refine pm_H.go (pc' := 316) (st' := [.int 1, .int 0, .ref pm_SC, .ref 1131, .int v]) rfl rfl rfl rfl ?_
  refine pm_H.go (pc' := 317) (st' := [.int 1, .ref pm_SC, .ref 1131, .int v]) rfl rfl rfl rfl ?_
  refine pm_H.go (pc' := 318) (st' := [.int (xs 1), .ref 1131, .int v]) rfl rfl rfl rfl ?_
  refine pm_Tk (d' := 299) rfl rfl rfl (by decide) rfl (by decide) rfl (pm_ckd_of (pm_T_cls hx (q := 1131) (c := 12) rfl) rfl rfl) hm ?_
  refine pm_H.bricmp (b := true) (pc' := 859) rfl rfl (decide_eq_true rfl) rfl rfl ?_
  exact p1_end6 hz
theorem p1_op6 (xs : Nat → Int32) : pm_H (some (6, xs)) 300 310 326 [(3, .int 0), (2, .ref 1131), (1, .ref 0), (0, .ref pm_SC)] [] pm_w1 (fun o w' => o = some (.int 1) ∧ w'.2 = pm_w1.2) := by
  obtain ⟨v, w2, w3, hx, hm, hz⟩ := p1_step (xs 1) (xs 2)
  refine pm_H.go (pc' := 327) (st' := [.ref 0]) rfl rfl rfl rfl ?_
  refine pm_H.go (pc' := 328) (st' := [.ref pm_SC, .ref 0]) rfl rfl rfl rfl ?_
  refine pm_H.go (pc' := 329) (st' := [.int 0, .ref pm_SC, .ref 0]) rfl rfl rfl rfl ?_
  refine pm_H.go (pc' := 330) (st' := [.int 1, .int 0, .ref pm_SC, .ref 0]) rfl rfl rfl rfl ?_
  refine pm_H.go (pc' := 331) (st' := [.int 1, .ref pm_SC, .ref 0]) rfl rfl rfl rfl ?_
  refine pm_H.go (pc' := 332) (st' := [.int (xs 1), .ref 0]) rfl rfl rfl rfl ?_
  refine pm_H.go (pc' := 333) (st' := [.ref pm_SC, .int (xs 1), .ref 0]) rfl rfl rfl rfl ?_
  refine pm_H.go (pc' := 334) (st' := [.int 0, .ref pm_SC, .int (xs 1), .ref 0]) rfl rfl rfl rfl ?_
  refine pm_H.go (pc' := 335) (st' := [.int 2, .int 0, .ref pm_SC, .int (xs 1), .ref 0]) rfl rfl rfl rfl ?_
  refine pm_H.go (pc' := 336) (st' := [.int 2, .ref pm_SC, .int (xs 1), .ref 0]) rfl rfl rfl rfl ?_
  refine pm_H.go (pc' := 337) (st' := [.int (xs 2), .int (xs 1), .ref 0]) rfl rfl rfl rfl ?_
  refine pm_Tk (d' := 299) rfl rfl rfl (by decide) rfl (by decide) rfl rfl hx ?_
  refine pm_H.go (pc' := 341) (st' := [.ref 1131, .int v]) rfl rfl rfl rfl ?_
  refine pm_H.go (pc' := 342) (st' := [.ref pm_SC, .ref 1131, .int v]) rfl rfl rfl rfl ?_
  refine pm_H.go (pc' := 343) (st' := [.int 0, .ref pm_SC, .ref 1131, .int v]) rfl rfl rfl rfl ?_
  refine pm_H.go (pc' := 344) (st' := [.int 1, .int 0, .ref pm_SC, .ref 1131, .int v]) rfl rfl rfl rfl ?_
  refine pm_H.go (pc' := 345) (st' := [.int 1, .ref pm_SC, .ref 1131, .int v]) rfl rfl rfl rfl ?_
  refine pm_H.go (pc' := 346) (st' := [.int (xs 1), .ref 1131, .int v]) rfl rfl rfl rfl ?_
  refine pm_H.go (pc' := 347) (st' := [.ref pm_SC, .int (xs 1), .ref 1131, .int v]) rfl rfl rfl rfl ?_
  refine pm_H.go (pc' := 348) (st' := [.int 0, .ref pm_SC, .int (xs 1), .ref 1131, .int v]) rfl rfl rfl rfl ?_
  refine pm_H.go (pc' := 349) (st' := [.int 2, .int 0, .ref pm_SC, .int (xs 1), .ref 1131, .int v]) rfl rfl rfl rfl ?_
  refine pm_H.go (pc' := 350) (st' := [.int 2, .ref pm_SC, .int (xs 1), .ref 1131, .int v]) rfl rfl rfl rfl ?_
  refine pm_H.go (pc' := 351) (st' := [.int (xs 2), .int (xs 1), .ref 1131, .int v]) rfl rfl rfl rfl ?_
  refine pm_Tk (d' := 299) rfl rfl rfl (by decide) rfl (by decide) rfl (pm_ckd_of (pm_T_cls hx (q := 1131) (c := 12) rfl) rfl rfl) hm ?_
  refine pm_H.bricmp (b := true) (pc' := 859) rfl rfl (decide_eq_true rfl) rfl rfl ?_
  exact p1_end6 hz
theorem p1_op7 (xs : Nat → Int32) : pm_H (some (6, xs)) 300 310 359 [(3, .int 0), (2, .ref 1131), (1, .ref 0), (0, .ref pm_SC)] [] pm_w1 (fun o w' => o = some (.int 1) ∧ w'.2 = pm_w1.2) := by
  obtain ⟨v, w2, w3, hx, hm, hz⟩ := p1_line (xs 1) (xs 2)
  refine pm_H.go (pc' := 360) (st' := [.ref 0]) rfl rfl rfl rfl ?_
  refine pm_H.go (pc' := 361) (st' := [.ref pm_SC, .ref 0]) rfl rfl rfl rfl ?_
  refine pm_H.go (pc' := 362) (st' := [.int 0, .ref pm_SC, .ref 0]) rfl rfl rfl rfl ?_
  refine pm_H.go (pc' := 363) (st' := [.int 1, .int 0, .ref pm_SC, .ref 0]) rfl rfl rfl rfl ?_
  refine pm_H.go (pc' := 364) (st' := [.int 1, .ref pm_SC, .ref 0]) rfl rfl rfl rfl ?_
  refine pm_H.go (pc' := 365) (st' := [.int (xs 1), .ref 0]) rfl rfl rfl rfl ?_
  refine pm_H.go (pc' := 366) (st' := [.ref pm_SC, .int (xs 1), .ref 0]) rfl rfl rfl rfl ?_
  refine pm_H.go (pc' := 367) (st' := [.int 0, .ref pm_SC, .int (xs 1), .ref 0]) rfl rfl rfl rfl ?_
  refine pm_H.go (pc' := 368) (st' := [.int 2, .int 0, .ref pm_SC, .int (xs 1), .ref 0]) rfl rfl rfl rfl ?_
  refine pm_H.go (pc' := 369) (st' := [.int 2, .ref pm_SC, .int (xs 1), .ref 0]) rfl rfl rfl rfl ?_
  refine pm_H.go (pc' := 370) (st' := [.int (xs 2), .int (xs 1), .ref 0]) rfl rfl rfl rfl ?_
  refine pm_Tk (d' := 299) rfl rfl rfl (by decide) rfl (by decide) rfl rfl hx ?_
  refine pm_H.go (pc' := 374) (st' := [.ref 1131, .int v]) rfl rfl rfl rfl ?_
  refine pm_H.go (pc' := 375) (st' := [.ref pm_SC, .ref 1131, .int v]) rfl rfl rfl rfl ?_
  refine pm_H.go (pc' := 376) (st' := [.int 0, .ref pm_SC, .ref 1131, .int v]) rfl rfl rfl rfl ?_
  refine pm_H.go (pc' := 377) (st' := [.int 1, .int 0, .ref pm_SC, .ref 1131, .int v]) rfl rfl rfl rfl ?_
  refine pm_H.go (pc' := 378) (st' := [.int 1, .ref pm_SC, .ref 1131, .int v]) rfl rfl rfl rfl ?_
  refine pm_H.go (pc' := 379) (st' := [.int (xs 1), .ref 1131, .int v]) rfl rfl rfl rfl ?_
  refine pm_H.go (pc' := 380) (st' := [.ref pm_SC, .int (xs 1), .ref 1131, .int v]) rfl rfl rfl rfl ?_
  refine pm_H.go (pc' := 381) (st' := [.int 0, .ref pm_SC, .int (xs 1), .ref 1131, .int v]) rfl rfl rfl rfl ?_
  refine pm_H.go (pc' := 382) (st' := [.int 2, .int 0, .ref pm_SC, .int (xs 1), .ref 1131, .int v]) rfl rfl rfl rfl ?_
  refine pm_H.go (pc' := 383) (st' := [.int 2, .ref pm_SC, .int (xs 1), .ref 1131, .int v]) rfl rfl rfl rfl ?_
  refine pm_H.go (pc' := 384) (st' := [.int (xs 2), .int (xs 1), .ref 1131, .int v]) rfl rfl rfl rfl ?_
  refine pm_Tk (d' := 299) rfl rfl rfl (by decide) rfl (by decide) rfl (pm_ckd_of (pm_T_cls hx (q := 1131) (c := 12) rfl) rfl rfl) hm ?_
  refine pm_H.bricmp (b := true) (pc' := 859) rfl rfl (decide_eq_true rfl) rfl rfl ?_
  exact p1_end6 hz
theorem p1_op8 (xs : Nat → Int32) : pm_H (some (6, xs)) 300 310 392 [(3, .int 0), (2, .ref 1131), (1, .ref 0), (0, .ref pm_SC)] [] pm_w1 (fun o w' => o = some (.int 1) ∧ w'.2 = pm_w1.2) := by
  obtain ⟨v, w2, w3, hx, hm, hz⟩ := p1_assumed (xs 1) (xs 2) (xs 3)
  refine pm_H.go (pc' := 393) (st' := [.ref 0]) rfl rfl rfl rfl ?_
  refine pm_H.go (pc' := 394) (st' := [.ref pm_SC, .ref 0]) rfl rfl rfl rfl ?_
  refine pm_H.go (pc' := 395) (st' := [.int 0, .ref pm_SC, .ref 0]) rfl rfl rfl rfl ?_
  refine pm_H.go (pc' := 396) (st' := [.int 1, .int 0, .ref pm_SC, .ref 0]) rfl rfl rfl rfl ?_
  refine pm_H.go (pc' := 397) (st' := [.int 1, .ref pm_SC, .ref 0]) rfl rfl rfl rfl ?_
  refine pm_H.go (pc' := 398) (st' := [.int (xs 1), .ref 0]) rfl rfl rfl rfl ?_
  refine pm_H.go (pc' := 399) (st' := [.ref pm_SC, .int (xs 1), .ref 0]) rfl rfl rfl rfl ?_
  refine pm_H.go (pc' := 400) (st' := [.int 0, .ref pm_SC, .int (xs 1), .ref 0]) rfl rfl rfl rfl ?_
  refine pm_H.go (pc' := 401) (st' := [.int 2, .int 0, .ref pm_SC, .int (xs 1), .ref 0]) rfl rfl rfl rfl ?_
  refine pm_H.go (pc' := 402) (st' := [.int 2, .ref pm_SC, .int (xs 1), .ref 0]) rfl rfl rfl rfl ?_
  refine pm_H.go (pc' := 403) (st' := [.int (xs 2), .int (xs 1), .ref 0]) rfl rfl rfl rfl ?_
  refine pm_H.go (pc' := 404) (st' := [.ref pm_SC, .int (xs 2), .int (xs 1), .ref 0]) rfl rfl rfl rfl ?_
  refine pm_H.go (pc' := 405) (st' := [.int 0, .ref pm_SC, .int (xs 2), .int (xs 1), .ref 0]) rfl rfl rfl rfl ?_
  refine pm_H.go (pc' := 406) (st' := [.int 3, .int 0, .ref pm_SC, .int (xs 2), .int (xs 1), .ref 0]) rfl rfl rfl rfl ?_
  refine pm_H.go (pc' := 407) (st' := [.int 3, .ref pm_SC, .int (xs 2), .int (xs 1), .ref 0]) rfl rfl rfl rfl ?_
  refine pm_H.go (pc' := 408) (st' := [.int (xs 3), .int (xs 2), .int (xs 1), .ref 0]) rfl rfl rfl rfl ?_
  refine pm_Tk (d' := 299) rfl rfl rfl (by decide) rfl (by decide) rfl rfl hx ?_
  refine pm_H.go (pc' := 412) (st' := [.ref 1131, .int v]) rfl rfl rfl rfl ?_
  refine pm_H.go (pc' := 413) (st' := [.ref pm_SC, .ref 1131, .int v]) rfl rfl rfl rfl ?_
  refine pm_H.go (pc' := 414) (st' := [.int 0, .ref pm_SC, .ref 1131, .int v]) rfl rfl rfl rfl ?_
  refine pm_H.go (pc' := 415) (st' := [.int 1, .int 0, .ref pm_SC, .ref 1131, .int v]) rfl rfl rfl rfl ?_
  refine pm_H.go (pc' := 416) (st' := [.int 1, .ref pm_SC, .ref 1131, .int v]) rfl rfl rfl rfl ?_
  refine pm_H.go (pc' := 417) (st' := [.int (xs 1), .ref 1131, .int v]) rfl rfl rfl rfl ?_
  refine pm_H.go (pc' := 418) (st' := [.ref pm_SC, .int (xs 1), .ref 1131, .int v]) rfl rfl rfl rfl ?_
  refine pm_H.go (pc' := 419) (st' := [.int 0, .ref pm_SC, .int (xs 1), .ref 1131, .int v]) rfl rfl rfl rfl ?_
  refine pm_H.go (pc' := 420) (st' := [.int 2, .int 0, .ref pm_SC, .int (xs 1), .ref 1131, .int v]) rfl rfl rfl rfl ?_
  refine pm_H.go (pc' := 421) (st' := [.int 2, .ref pm_SC, .int (xs 1), .ref 1131, .int v]) rfl rfl rfl rfl ?_
  refine pm_H.go (pc' := 422) (st' := [.int (xs 2), .int (xs 1), .ref 1131, .int v]) rfl rfl rfl rfl ?_
  refine pm_H.go (pc' := 423) (st' := [.ref pm_SC, .int (xs 2), .int (xs 1), .ref 1131, .int v]) rfl rfl rfl rfl ?_
  refine pm_H.go (pc' := 424) (st' := [.int 0, .ref pm_SC, .int (xs 2), .int (xs 1), .ref 1131, .int v]) rfl rfl rfl rfl ?_
  refine pm_H.go (pc' := 425) (st' := [.int 3, .int 0, .ref pm_SC, .int (xs 2), .int (xs 1), .ref 1131, .int v]) rfl rfl rfl rfl ?_
  refine pm_H.go (pc' := 426) (st' := [.int 3, .ref pm_SC, .int (xs 2), .int (xs 1), .ref 1131, .int v]) rfl rfl rfl rfl ?_
  refine pm_H.go (pc' := 427) (st' := [.int (xs 3), .int (xs 2), .int (xs 1), .ref 1131, .int v]) rfl rfl rfl rfl ?_
  refine pm_Tk (d' := 299) rfl rfl rfl (by decide) rfl (by decide) rfl (pm_ckd_of (pm_T_cls hx (q := 1131) (c := 12) rfl) rfl rfl) hm ?_
  refine pm_H.bricmp (b := true) (pc' := 859) rfl rfl (decide_eq_true rfl) rfl rfl ?_
  exact p1_end6 hz
theorem p1_op9 (xs : Nat → Int32) : pm_H (some (6, xs)) 300 310 435 [(3, .int 0), (2, .ref 1131), (1, .ref 0), (0, .ref pm_SC)] [] pm_w1 (fun o w' => o = some (.int 1) ∧ w'.2 = pm_w1.2) := by
  obtain ⟨v, w2, w3, hx, hm, hz⟩ := p1_keep
  refine pm_H.go (pc' := 436) (st' := [.ref 0]) rfl rfl rfl rfl ?_
  refine pm_Tk (d' := 299) rfl rfl rfl (by decide) rfl (by decide) rfl rfl hx ?_
  refine pm_H.go (pc' := 440) (st' := [.ref 1131, .int v]) rfl rfl rfl rfl ?_
  refine pm_Tk (d' := 299) rfl rfl rfl (by decide) rfl (by decide) rfl (pm_ckd_of (pm_T_cls hx (q := 1131) (c := 12) rfl) rfl rfl) hm ?_
  refine pm_H.bricmp (b := true) (pc' := 859) rfl rfl (decide_eq_true rfl) rfl rfl ?_
  exact p1_end6 hz
theorem p1_op10 (xs : Nat → Int32) : pm_H (some (6, xs)) 300 310 448 [(3, .int 0), (2, .ref 1131), (1, .ref 0), (0, .ref pm_SC)] [] pm_w1 (fun o w' => o = some (.int 1) ∧ w'.2 = pm_w1.2) := by
  obtain ⟨v, w2, w3, hx, hm, hz⟩ := p1_theorem (xs 1) (xs 2)
  refine pm_H.go (pc' := 449) (st' := [.ref 0]) rfl rfl rfl rfl ?_
  refine pm_H.go (pc' := 450) (st' := [.ref pm_SC, .ref 0]) rfl rfl rfl rfl ?_
  refine pm_H.go (pc' := 451) (st' := [.int 0, .ref pm_SC, .ref 0]) rfl rfl rfl rfl ?_
  refine pm_H.go (pc' := 452) (st' := [.int 1, .int 0, .ref pm_SC, .ref 0]) rfl rfl rfl rfl ?_
  refine pm_H.go (pc' := 453) (st' := [.int 1, .ref pm_SC, .ref 0]) rfl rfl rfl rfl ?_
  refine pm_H.go (pc' := 454) (st' := [.int (xs 1), .ref 0]) rfl rfl rfl rfl ?_
  refine pm_H.go (pc' := 455) (st' := [.ref pm_SC, .int (xs 1), .ref 0]) rfl rfl rfl rfl ?_
  refine pm_H.go (pc' := 456) (st' := [.int 0, .ref pm_SC, .int (xs 1), .ref 0]) rfl rfl rfl rfl ?_
  refine pm_H.go (pc' := 457) (st' := [.int 2, .int 0, .ref pm_SC, .int (xs 1), .ref 0]) rfl rfl rfl rfl ?_
  refine pm_H.go (pc' := 458) (st' := [.int 2, .ref pm_SC, .int (xs 1), .ref 0]) rfl rfl rfl rfl ?_
  refine pm_H.go (pc' := 459) (st' := [.int (xs 2), .int (xs 1), .ref 0]) rfl rfl rfl rfl ?_
  refine pm_Tk (d' := 299) rfl rfl rfl (by decide) rfl (by decide) rfl rfl hx ?_
  refine pm_H.go (pc' := 463) (st' := [.ref 1131, .int v]) rfl rfl rfl rfl ?_
  refine pm_H.go (pc' := 464) (st' := [.ref pm_SC, .ref 1131, .int v]) rfl rfl rfl rfl ?_
  refine pm_H.go (pc' := 465) (st' := [.int 0, .ref pm_SC, .ref 1131, .int v]) rfl rfl rfl rfl ?_
  refine pm_H.go (pc' := 466) (st' := [.int 1, .int 0, .ref pm_SC, .ref 1131, .int v]) rfl rfl rfl rfl ?_
  refine pm_H.go (pc' := 467) (st' := [.int 1, .ref pm_SC, .ref 1131, .int v]) rfl rfl rfl rfl ?_
  refine pm_H.go (pc' := 468) (st' := [.int (xs 1), .ref 1131, .int v]) rfl rfl rfl rfl ?_
  refine pm_H.go (pc' := 469) (st' := [.ref pm_SC, .int (xs 1), .ref 1131, .int v]) rfl rfl rfl rfl ?_
  refine pm_H.go (pc' := 470) (st' := [.int 0, .ref pm_SC, .int (xs 1), .ref 1131, .int v]) rfl rfl rfl rfl ?_
  refine pm_H.go (pc' := 471) (st' := [.int 2, .int 0, .ref pm_SC, .int (xs 1), .ref 1131, .int v]) rfl rfl rfl rfl ?_
  refine pm_H.go (pc' := 472) (st' := [.int 2, .ref pm_SC, .int (xs 1), .ref 1131, .int v]) rfl rfl rfl rfl ?_
  refine pm_H.go (pc' := 473) (st' := [.int (xs 2), .int (xs 1), .ref 1131, .int v]) rfl rfl rfl rfl ?_
  refine pm_Tk (d' := 299) rfl rfl rfl (by decide) rfl (by decide) rfl (pm_ckd_of (pm_T_cls hx (q := 1131) (c := 12) rfl) rfl rfl) hm ?_
  refine pm_H.bricmp (b := true) (pc' := 859) rfl rfl (decide_eq_true rfl) rfl rfl ?_
  exact p1_end6 hz
theorem p1_op11 (xs : Nat → Int32) : pm_H (some (6, xs)) 300 310 481 [(3, .int 0), (2, .ref 1131), (1, .ref 0), (0, .ref pm_SC)] [] pm_w1 (fun o w' => o = some (.int 1) ∧ w'.2 = pm_w1.2) := by
  obtain ⟨v, w2, w3, hx, hm, hz⟩ := p1_leans (xs 1) (xs 2)
  refine pm_H.go (pc' := 482) (st' := [.ref 0]) rfl rfl rfl rfl ?_
  refine pm_H.go (pc' := 483) (st' := [.ref pm_SC, .ref 0]) rfl rfl rfl rfl ?_
  refine pm_H.go (pc' := 484) (st' := [.int 0, .ref pm_SC, .ref 0]) rfl rfl rfl rfl ?_
  refine pm_H.go (pc' := 485) (st' := [.int 1, .int 0, .ref pm_SC, .ref 0]) rfl rfl rfl rfl ?_
  refine pm_H.go (pc' := 486) (st' := [.int 1, .ref pm_SC, .ref 0]) rfl rfl rfl rfl ?_
  refine pm_H.go (pc' := 487) (st' := [.int (xs 1), .ref 0]) rfl rfl rfl rfl ?_
  refine pm_H.go (pc' := 488) (st' := [.ref pm_SC, .int (xs 1), .ref 0]) rfl rfl rfl rfl ?_
  refine pm_H.go (pc' := 489) (st' := [.int 0, .ref pm_SC, .int (xs 1), .ref 0]) rfl rfl rfl rfl ?_
  refine pm_H.go (pc' := 490) (st' := [.int 2, .int 0, .ref pm_SC, .int (xs 1), .ref 0]) rfl rfl rfl rfl ?_
  refine pm_H.go (pc' := 491) (st' := [.int 2, .ref pm_SC, .int (xs 1), .ref 0]) rfl rfl rfl rfl ?_
  refine pm_H.go (pc' := 492) (st' := [.int (xs 2), .int (xs 1), .ref 0]) rfl rfl rfl rfl ?_
  refine pm_Tk (d' := 299) rfl rfl rfl (by decide) rfl (by decide) rfl rfl hx ?_
  refine pm_H.go (pc' := 496) (st' := [.ref 1131, .int v]) rfl rfl rfl rfl ?_
  refine pm_H.go (pc' := 497) (st' := [.ref pm_SC, .ref 1131, .int v]) rfl rfl rfl rfl ?_
  refine pm_H.go (pc' := 498) (st' := [.int 0, .ref pm_SC, .ref 1131, .int v]) rfl rfl rfl rfl ?_
  refine pm_H.go (pc' := 499) (st' := [.int 1, .int 0, .ref pm_SC, .ref 1131, .int v]) rfl rfl rfl rfl ?_
  refine pm_H.go (pc' := 500) (st' := [.int 1, .ref pm_SC, .ref 1131, .int v]) rfl rfl rfl rfl ?_
  refine pm_H.go (pc' := 501) (st' := [.int (xs 1), .ref 1131, .int v]) rfl rfl rfl rfl ?_
  refine pm_H.go (pc' := 502) (st' := [.ref pm_SC, .int (xs 1), .ref 1131, .int v]) rfl rfl rfl rfl ?_
  refine pm_H.go (pc' := 503) (st' := [.int 0, .ref pm_SC, .int (xs 1), .ref 1131, .int v]) rfl rfl rfl rfl ?_
  refine pm_H.go (pc' := 504) (st' := [.int 2, .int 0, .ref pm_SC, .int (xs 1), .ref 1131, .int v]) rfl rfl rfl rfl ?_
  refine pm_H.go (pc' := 505) (st' := [.int 2, .ref pm_SC, .int (xs 1), .ref 1131, .int v]) rfl rfl rfl rfl ?_
  refine pm_H.go (pc' := 506) (st' := [.int (xs 2), .int (xs 1), .ref 1131, .int v]) rfl rfl rfl rfl ?_
  refine pm_Tk (d' := 299) rfl rfl rfl (by decide) rfl (by decide) rfl (pm_ckd_of (pm_T_cls hx (q := 1131) (c := 12) rfl) rfl rfl) hm ?_
  refine pm_H.bricmp (b := true) (pc' := 859) rfl rfl (decide_eq_true rfl) rfl rfl ?_
  exact p1_end6 hz
theorem p1_op12 (xs : Nat → Int32) : pm_H (some (6, xs)) 300 310 514 [(3, .int 0), (2, .ref 1131), (1, .ref 0), (0, .ref pm_SC)] [] pm_w1 (fun o w' => o = some (.int 1) ∧ w'.2 = pm_w1.2) := by
  obtain ⟨v, w2, w3, hx, hm, hz⟩ := p1_drop
  refine pm_H.go (pc' := 515) (st' := [.ref 0]) rfl rfl rfl rfl ?_
  refine pm_Tk (d' := 299) rfl rfl rfl (by decide) rfl (by decide) rfl rfl hx ?_
  refine pm_H.go (pc' := 519) (st' := [.ref 1131, .int v]) rfl rfl rfl rfl ?_
  refine pm_Tk (d' := 299) rfl rfl rfl (by decide) rfl (by decide) rfl (pm_ckd_of (pm_T_cls hx (q := 1131) (c := 12) rfl) rfl rfl) hm ?_
  refine pm_H.bricmp (b := true) (pc' := 859) rfl rfl (decide_eq_true rfl) rfl rfl ?_
  exact p1_end6 hz
theorem p1_op13 (xs : Nat → Int32) : pm_H (some (6, xs)) 300 310 527 [(3, .int 0), (2, .ref 1131), (1, .ref 0), (0, .ref pm_SC)] [] pm_w1 (fun o w' => o = some (.int 1) ∧ w'.2 = pm_w1.2) := by
  obtain ⟨v, w2, w3, hx, hm, hz⟩ := p1_read
  refine pm_H.go (pc' := 528) (st' := [.ref 0]) rfl rfl rfl rfl ?_
  refine pm_Tk (d' := 299) rfl rfl rfl (by decide) rfl (by decide) rfl rfl hx ?_
  refine pm_H.go (pc' := 532) (st' := [.ref 1131, .int v]) rfl rfl rfl rfl ?_
  refine pm_Tk (d' := 299) rfl rfl rfl (by decide) rfl (by decide) rfl (pm_ckd_of (pm_T_cls hx (q := 1131) (c := 12) rfl) rfl rfl) hm ?_
  refine pm_H.bricmp (b := true) (pc' := 859) rfl rfl (decide_eq_true rfl) rfl rfl ?_
  exact p1_end6 hz
theorem p1_op14 (xs : Nat → Int32) : pm_H (some (6, xs)) 300 310 540 [(3, .int 0), (2, .ref 1131), (1, .ref 0), (0, .ref pm_SC)] [] pm_w1 (fun o w' => o = some (.int 1) ∧ w'.2 = pm_w1.2) := by
  obtain ⟨v, w2, w3, hx, hm, hz⟩ := p1_piece (xs 1)
  refine pm_H.go (pc' := 541) (st' := [.ref 0]) rfl rfl rfl rfl ?_
  refine pm_H.go (pc' := 542) (st' := [.ref pm_SC, .ref 0]) rfl rfl rfl rfl ?_
  refine pm_H.go (pc' := 543) (st' := [.int 0, .ref pm_SC, .ref 0]) rfl rfl rfl rfl ?_
  refine pm_H.go (pc' := 544) (st' := [.int 1, .int 0, .ref pm_SC, .ref 0]) rfl rfl rfl rfl ?_
  refine pm_H.go (pc' := 545) (st' := [.int 1, .ref pm_SC, .ref 0]) rfl rfl rfl rfl ?_
  refine pm_H.go (pc' := 546) (st' := [.int (xs 1), .ref 0]) rfl rfl rfl rfl ?_
  refine pm_Tk (d' := 299) rfl rfl rfl (by decide) rfl (by decide) rfl rfl hx ?_
  refine pm_H.go (pc' := 550) (st' := [.ref 1131, .int v]) rfl rfl rfl rfl ?_
  refine pm_H.go (pc' := 551) (st' := [.ref pm_SC, .ref 1131, .int v]) rfl rfl rfl rfl ?_
  refine pm_H.go (pc' := 552) (st' := [.int 0, .ref pm_SC, .ref 1131, .int v]) rfl rfl rfl rfl ?_
  refine pm_H.go (pc' := 553) (st' := [.int 1, .int 0, .ref pm_SC, .ref 1131, .int v]) rfl rfl rfl rfl ?_
  refine pm_H.go (pc' := 554) (st' := [.int 1, .ref pm_SC, .ref 1131, .int v]) rfl rfl rfl rfl ?_
  refine pm_H.go (pc' := 555) (st' := [.int (xs 1), .ref 1131, .int v]) rfl rfl rfl rfl ?_
  refine pm_Tk (d' := 299) rfl rfl rfl (by decide) rfl (by decide) rfl (pm_ckd_of (pm_T_cls hx (q := 1131) (c := 12) rfl) rfl rfl) hm ?_
  refine pm_H.bricmp (b := true) (pc' := 859) rfl rfl (decide_eq_true rfl) rfl rfl ?_
  exact p1_end6 hz
theorem p1_op15 (xs : Nat → Int32) : pm_H (some (6, xs)) 300 310 563 [(3, .int 0), (2, .ref 1131), (1, .ref 0), (0, .ref pm_SC)] [] pm_w1 (fun o w' => o = some (.int 1) ∧ w'.2 = pm_w1.2) := by
  obtain ⟨v, w2, w3, hx, hm, hz⟩ := p1_alike
  refine pm_H.go (pc' := 564) (st' := [.ref 0]) rfl rfl rfl rfl ?_
  refine pm_Tk (d' := 299) rfl rfl rfl (by decide) rfl (by decide) rfl rfl hx ?_
  refine pm_H.go (pc' := 568) (st' := [.ref 1131, .int v]) rfl rfl rfl rfl ?_
  refine pm_Tk (d' := 299) rfl rfl rfl (by decide) rfl (by decide) rfl (pm_ckd_of (pm_T_cls hx (q := 1131) (c := 12) rfl) rfl rfl) hm ?_
  refine pm_H.bricmp (b := true) (pc' := 859) rfl rfl (decide_eq_true rfl) rfl rfl ?_
  exact p1_end6 hz
theorem p1_op16 (xs : Nat → Int32) : pm_H (some (6, xs)) 300 310 576 [(3, .int 0), (2, .ref 1131), (1, .ref 0), (0, .ref pm_SC)] [] pm_w1 (fun o w' => o = some (.int 1) ∧ w'.2 = pm_w1.2) := by
  obtain ⟨v, w2, w3, hx, hm, hz⟩ := p1_needs (xs 1)
  refine pm_H.go (pc' := 577) (st' := [.ref 0]) rfl rfl rfl rfl ?_
  refine pm_H.go (pc' := 578) (st' := [.ref pm_SC, .ref 0]) rfl rfl rfl rfl ?_
  refine pm_H.go (pc' := 579) (st' := [.int 0, .ref pm_SC, .ref 0]) rfl rfl rfl rfl ?_
  refine pm_H.go (pc' := 580) (st' := [.int 1, .int 0, .ref pm_SC, .ref 0]) rfl rfl rfl rfl ?_
  refine pm_H.go (pc' := 581) (st' := [.int 1, .ref pm_SC, .ref 0]) rfl rfl rfl rfl ?_
  refine pm_H.go (pc' := 582) (st' := [.int (xs 1), .ref 0]) rfl rfl rfl rfl ?_
  refine pm_Tk (d' := 299) rfl rfl rfl (by decide) rfl (by decide) rfl rfl hx ?_
  refine pm_H.go (pc' := 586) (st' := [.ref 1131, .long v]) rfl rfl rfl rfl ?_
  refine pm_H.go (pc' := 587) (st' := [.ref pm_SC, .ref 1131, .long v]) rfl rfl rfl rfl ?_
  refine pm_H.go (pc' := 588) (st' := [.int 0, .ref pm_SC, .ref 1131, .long v]) rfl rfl rfl rfl ?_
  refine pm_H.go (pc' := 589) (st' := [.int 1, .int 0, .ref pm_SC, .ref 1131, .long v]) rfl rfl rfl rfl ?_
  refine pm_H.go (pc' := 590) (st' := [.int 1, .ref pm_SC, .ref 1131, .long v]) rfl rfl rfl rfl ?_
  refine pm_H.go (pc' := 591) (st' := [.int (xs 1), .ref 1131, .long v]) rfl rfl rfl rfl ?_
  refine pm_Tk (d' := 299) rfl rfl rfl (by decide) rfl (by decide) rfl (pm_ckd_of (pm_T_cls hx (q := 1131) (c := 12) rfl) rfl rfl) hm ?_
  refine pm_H.go (pc' := 595) rfl rfl rfl rfl ?_
  refine pm_H.brif (b := true) (pc' := 859) rfl rfl (by rw [pm_lg0]; decide) rfl rfl ?_
  exact p1_end6 hz
theorem p1_op17 (xs : Nat → Int32) : pm_H (some (6, xs)) 300 310 600 [(3, .int 0), (2, .ref 1131), (1, .ref 0), (0, .ref pm_SC)] [] pm_w1 (fun o w' => o = some (.int 1) ∧ w'.2 = pm_w1.2) := by
  obtain ⟨v, w2, w3, hx, hm, hz⟩ := p1_letters
  refine pm_H.go (pc' := 601) (st' := [.ref 0]) rfl rfl rfl rfl ?_
  refine pm_Tk (d' := 299) rfl rfl rfl (by decide) rfl (by decide) rfl rfl hx ?_
  refine pm_H.go (pc' := 605) (st' := [.ref 1131, .int v]) rfl rfl rfl rfl ?_
  refine pm_Tk (d' := 299) rfl rfl rfl (by decide) rfl (by decide) rfl (pm_ckd_of (pm_T_cls hx (q := 1131) (c := 12) rfl) rfl rfl) hm ?_
  refine pm_H.bricmp (b := true) (pc' := 859) rfl rfl (decide_eq_true rfl) rfl rfl ?_
  exact p1_end6 hz
theorem p1_op18 (xs : Nat → Int32) : pm_H (some (6, xs)) 300 310 613 [(3, .int 0), (2, .ref 1131), (1, .ref 0), (0, .ref pm_SC)] [] pm_w1 (fun o w' => o = some (.int 1) ∧ w'.2 = pm_w1.2) := by
  obtain ⟨v, w2, w3, hx, hm, hz⟩ := p1_table
  refine pm_H.go (pc' := 614) (st' := [.ref 0]) rfl rfl rfl rfl ?_
  refine pm_Tk (d' := 299) rfl rfl rfl (by decide) rfl (by decide) rfl rfl hx ?_
  refine pm_H.go (pc' := 618) (st' := [.ref 1131, .int v]) rfl rfl rfl rfl ?_
  refine pm_Tk (d' := 299) rfl rfl rfl (by decide) rfl (by decide) rfl (pm_ckd_of (pm_T_cls hx (q := 1131) (c := 12) rfl) rfl rfl) hm ?_
  refine pm_H.bricmp (b := true) (pc' := 859) rfl rfl (decide_eq_true rfl) rfl rfl ?_
  exact p1_end6 hz
theorem p1_op19 (xs : Nat → Int32) : pm_H (some (6, xs)) 300 310 626 [(3, .int 0), (2, .ref 1131), (1, .ref 0), (0, .ref pm_SC)] [] pm_w1 (fun o w' => o = some (.int 1) ∧ w'.2 = pm_w1.2) := by
  obtain ⟨v, w2, w3, hx, hm, hz⟩ := p1_row
  refine pm_H.go (pc' := 627) (st' := [.ref 0]) rfl rfl rfl rfl ?_
  refine pm_Tk (d' := 299) rfl rfl rfl (by decide) rfl (by decide) rfl rfl hx ?_
  refine pm_H.go (pc' := 631) (st' := [.ref 1131, .int v]) rfl rfl rfl rfl ?_
  refine pm_Tk (d' := 299) rfl rfl rfl (by decide) rfl (by decide) rfl (pm_ckd_of (pm_T_cls hx (q := 1131) (c := 12) rfl) rfl rfl) hm ?_
  refine pm_H.bricmp (b := true) (pc' := 859) rfl rfl (decide_eq_true rfl) rfl rfl ?_
  exact p1_end6 hz
theorem p1_op20 (xs : Nat → Int32) : pm_H (some (6, xs)) 300 310 639 [(3, .int 0), (2, .ref 1131), (1, .ref 0), (0, .ref pm_SC)] [] pm_w1 (fun o w' => o = some (.int 1) ∧ w'.2 = pm_w1.2) := by
  obtain ⟨v, w2, w3, hx, hm, hz⟩ := p1_rewrite
  refine pm_H.go (pc' := 640) (st' := [.ref 0]) rfl rfl rfl rfl ?_
  refine pm_Tk (d' := 299) rfl rfl rfl (by decide) rfl (by decide) rfl rfl hx ?_
  refine pm_H.go (pc' := 644) (st' := [.ref 1131, .int v]) rfl rfl rfl rfl ?_
  refine pm_Tk (d' := 299) rfl rfl rfl (by decide) rfl (by decide) rfl (pm_ckd_of (pm_T_cls hx (q := 1131) (c := 12) rfl) rfl rfl) hm ?_
  refine pm_H.bricmp (b := true) (pc' := 859) rfl rfl (decide_eq_true rfl) rfl rfl ?_
  exact p1_end6 hz
theorem p1_op21 (xs : Nat → Int32) : pm_H (some (6, xs)) 300 310 652 [(3, .int 0), (2, .ref 1131), (1, .ref 0), (0, .ref pm_SC)] [] pm_w1 (fun o w' => o = some (.int 1) ∧ w'.2 = pm_w1.2) := by
  obtain ⟨v, w2, w3, hx, hm, hz⟩ := p1_normal (xs 1)
  refine pm_H.go (pc' := 653) (st' := [.ref 0]) rfl rfl rfl rfl ?_
  refine pm_H.go (pc' := 654) (st' := [.ref pm_SC, .ref 0]) rfl rfl rfl rfl ?_
  refine pm_H.go (pc' := 655) (st' := [.int 0, .ref pm_SC, .ref 0]) rfl rfl rfl rfl ?_
  refine pm_H.go (pc' := 656) (st' := [.int 1, .int 0, .ref pm_SC, .ref 0]) rfl rfl rfl rfl ?_
  refine pm_H.go (pc' := 657) (st' := [.int 1, .ref pm_SC, .ref 0]) rfl rfl rfl rfl ?_
  refine pm_H.go (pc' := 658) (st' := [.int (xs 1), .ref 0]) rfl rfl rfl rfl ?_
  refine pm_Tk (d' := 299) rfl rfl rfl (by decide) rfl (by decide) rfl rfl hx ?_
  refine pm_H.go (pc' := 662) (st' := [.ref 1131, .int v]) rfl rfl rfl rfl ?_
  refine pm_H.go (pc' := 663) (st' := [.ref pm_SC, .ref 1131, .int v]) rfl rfl rfl rfl ?_
  refine pm_H.go (pc' := 664) (st' := [.int 0, .ref pm_SC, .ref 1131, .int v]) rfl rfl rfl rfl ?_
  refine pm_H.go (pc' := 665) (st' := [.int 1, .int 0, .ref pm_SC, .ref 1131, .int v]) rfl rfl rfl rfl ?_
  refine pm_H.go (pc' := 666) (st' := [.int 1, .ref pm_SC, .ref 1131, .int v]) rfl rfl rfl rfl ?_
  refine pm_H.go (pc' := 667) (st' := [.int (xs 1), .ref 1131, .int v]) rfl rfl rfl rfl ?_
  refine pm_Tk (d' := 299) rfl rfl rfl (by decide) rfl (by decide) rfl (pm_ckd_of (pm_T_cls hx (q := 1131) (c := 12) rfl) rfl rfl) hm ?_
  refine pm_H.bricmp (b := true) (pc' := 859) rfl rfl (decide_eq_true rfl) rfl rfl ?_
  exact p1_end6 hz
theorem p1_op22 (xs : Nat → Int32) : pm_H (some (6, xs)) 300 310 675 [(3, .int 0), (2, .ref 1131), (1, .ref 0), (0, .ref pm_SC)] [] pm_w1 (fun o w' => o = some (.int 1) ∧ w'.2 = pm_w1.2) := by
  obtain ⟨v, w2, w3, hx, hm, hz⟩ := p1_rules
  refine pm_H.go (pc' := 676) (st' := [.ref 0]) rfl rfl rfl rfl ?_
  refine pm_Tk (d' := 299) rfl rfl rfl (by decide) rfl (by decide) rfl rfl hx ?_
  refine pm_H.go (pc' := 680) (st' := [.ref 1131, .int v]) rfl rfl rfl rfl ?_
  refine pm_Tk (d' := 299) rfl rfl rfl (by decide) rfl (by decide) rfl (pm_ckd_of (pm_T_cls hx (q := 1131) (c := 12) rfl) rfl rfl) hm ?_
  refine pm_H.bricmp (b := true) (pc' := 859) rfl rfl (decide_eq_true rfl) rfl rfl ?_
  exact p1_end6 hz
theorem p1_op23 (xs : Nat → Int32) : pm_H (some (6, xs)) 300 310 688 [(3, .int 0), (2, .ref 1131), (1, .ref 0), (0, .ref pm_SC)] [] pm_w1 (fun o w' => o = some (.int 1) ∧ w'.2 = pm_w1.2) := by
  obtain ⟨v, w2, w3, hx, hm, hz⟩ := p1_models (xs 1)
  refine pm_H.go (pc' := 689) (st' := [.ref 0]) rfl rfl rfl rfl ?_
  refine pm_H.go (pc' := 690) (st' := [.ref pm_SC, .ref 0]) rfl rfl rfl rfl ?_
  refine pm_H.go (pc' := 691) (st' := [.int 0, .ref pm_SC, .ref 0]) rfl rfl rfl rfl ?_
  refine pm_H.go (pc' := 692) (st' := [.int 1, .int 0, .ref pm_SC, .ref 0]) rfl rfl rfl rfl ?_
  refine pm_H.go (pc' := 693) (st' := [.int 1, .ref pm_SC, .ref 0]) rfl rfl rfl rfl ?_
  refine pm_H.go (pc' := 694) (st' := [.int (xs 1), .ref 0]) rfl rfl rfl rfl ?_
  refine pm_Tk (d' := 299) rfl rfl rfl (by decide) rfl (by decide) rfl rfl hx ?_
  refine pm_H.go (pc' := 698) (st' := [.ref 1131, .int v]) rfl rfl rfl rfl ?_
  refine pm_H.go (pc' := 699) (st' := [.ref pm_SC, .ref 1131, .int v]) rfl rfl rfl rfl ?_
  refine pm_H.go (pc' := 700) (st' := [.int 0, .ref pm_SC, .ref 1131, .int v]) rfl rfl rfl rfl ?_
  refine pm_H.go (pc' := 701) (st' := [.int 1, .int 0, .ref pm_SC, .ref 1131, .int v]) rfl rfl rfl rfl ?_
  refine pm_H.go (pc' := 702) (st' := [.int 1, .ref pm_SC, .ref 1131, .int v]) rfl rfl rfl rfl ?_
  refine pm_H.go (pc' := 703) (st' := [.int (xs 1), .ref 1131, .int v]) rfl rfl rfl rfl ?_
  refine pm_Tk (d' := 299) rfl rfl rfl (by decide) rfl (by decide) rfl (pm_ckd_of (pm_T_cls hx (q := 1131) (c := 12) rfl) rfl rfl) hm ?_
  refine pm_H.bricmp (b := true) (pc' := 859) rfl rfl (decide_eq_true rfl) rfl rfl ?_
  exact p1_end6 hz
theorem p1_op24 (xs : Nat → Int32) : pm_H (some (6, xs)) 300 310 711 [(3, .int 0), (2, .ref 1131), (1, .ref 0), (0, .ref pm_SC)] [] pm_w1 (fun o w' => o = some (.int 1) ∧ w'.2 = pm_w1.2) := by
  obtain ⟨v, w2, w3, hx, hm, hz⟩ := p1_hold (xs 1)
  refine pm_H.go (pc' := 712) (st' := [.ref 0]) rfl rfl rfl rfl ?_
  refine pm_H.go (pc' := 713) (st' := [.ref pm_SC, .ref 0]) rfl rfl rfl rfl ?_
  refine pm_H.go (pc' := 714) (st' := [.int 0, .ref pm_SC, .ref 0]) rfl rfl rfl rfl ?_
  refine pm_H.go (pc' := 715) (st' := [.int 1, .int 0, .ref pm_SC, .ref 0]) rfl rfl rfl rfl ?_
  refine pm_H.go (pc' := 716) (st' := [.int 1, .ref pm_SC, .ref 0]) rfl rfl rfl rfl ?_
  refine pm_H.go (pc' := 717) (st' := [.int (xs 1), .ref 0]) rfl rfl rfl rfl ?_
  refine pm_Tk (d' := 299) rfl rfl rfl (by decide) rfl (by decide) rfl rfl hx ?_
  refine pm_H.go (pc' := 721) (st' := [.ref 1131, .int v]) rfl rfl rfl rfl ?_
  refine pm_H.go (pc' := 722) (st' := [.ref pm_SC, .ref 1131, .int v]) rfl rfl rfl rfl ?_
  refine pm_H.go (pc' := 723) (st' := [.int 0, .ref pm_SC, .ref 1131, .int v]) rfl rfl rfl rfl ?_
  refine pm_H.go (pc' := 724) (st' := [.int 1, .int 0, .ref pm_SC, .ref 1131, .int v]) rfl rfl rfl rfl ?_
  refine pm_H.go (pc' := 725) (st' := [.int 1, .ref pm_SC, .ref 1131, .int v]) rfl rfl rfl rfl ?_
  refine pm_H.go (pc' := 726) (st' := [.int (xs 1), .ref 1131, .int v]) rfl rfl rfl rfl ?_
  refine pm_Tk (d' := 299) rfl rfl rfl (by decide) rfl (by decide) rfl (pm_ckd_of (pm_T_cls hx (q := 1131) (c := 12) rfl) rfl rfl) hm ?_
  refine pm_H.bricmp (b := true) (pc' := 859) rfl rfl (decide_eq_true rfl) rfl rfl ?_
  exact p1_end6 hz
theorem p1_op25 (xs : Nat → Int32) : pm_H (some (6, xs)) 300 310 734 [(3, .int 0), (2, .ref 1131), (1, .ref 0), (0, .ref pm_SC)] [] pm_w1 (fun o w' => o = some (.int 1) ∧ w'.2 = pm_w1.2) := by
  obtain ⟨v, w2, w3, hx, hm, hz⟩ := p1_holds (xs 1) (xs 2)
  refine pm_H.go (pc' := 735) (st' := [.ref 0]) rfl rfl rfl rfl ?_
  refine pm_H.go (pc' := 736) (st' := [.ref pm_SC, .ref 0]) rfl rfl rfl rfl ?_
  refine pm_H.go (pc' := 737) (st' := [.int 0, .ref pm_SC, .ref 0]) rfl rfl rfl rfl ?_
  refine pm_H.go (pc' := 738) (st' := [.int 1, .int 0, .ref pm_SC, .ref 0]) rfl rfl rfl rfl ?_
  refine pm_H.go (pc' := 739) (st' := [.int 1, .ref pm_SC, .ref 0]) rfl rfl rfl rfl ?_
  refine pm_H.go (pc' := 740) (st' := [.int (xs 1), .ref 0]) rfl rfl rfl rfl ?_
  refine pm_H.go (pc' := 741) (st' := [.ref pm_SC, .int (xs 1), .ref 0]) rfl rfl rfl rfl ?_
  refine pm_H.go (pc' := 742) (st' := [.int 0, .ref pm_SC, .int (xs 1), .ref 0]) rfl rfl rfl rfl ?_
  refine pm_H.go (pc' := 743) (st' := [.int 2, .int 0, .ref pm_SC, .int (xs 1), .ref 0]) rfl rfl rfl rfl ?_
  refine pm_H.go (pc' := 744) (st' := [.int 2, .ref pm_SC, .int (xs 1), .ref 0]) rfl rfl rfl rfl ?_
  refine pm_H.go (pc' := 745) (st' := [.int (xs 2), .int (xs 1), .ref 0]) rfl rfl rfl rfl ?_
  refine pm_Tk (d' := 299) rfl rfl rfl (by decide) rfl (by decide) rfl rfl hx ?_
  refine pm_H.go (pc' := 749) (st' := [.ref 1131, .int v]) rfl rfl rfl rfl ?_
  refine pm_H.go (pc' := 750) (st' := [.ref pm_SC, .ref 1131, .int v]) rfl rfl rfl rfl ?_
  refine pm_H.go (pc' := 751) (st' := [.int 0, .ref pm_SC, .ref 1131, .int v]) rfl rfl rfl rfl ?_
  refine pm_H.go (pc' := 752) (st' := [.int 1, .int 0, .ref pm_SC, .ref 1131, .int v]) rfl rfl rfl rfl ?_
  refine pm_H.go (pc' := 753) (st' := [.int 1, .ref pm_SC, .ref 1131, .int v]) rfl rfl rfl rfl ?_
  refine pm_H.go (pc' := 754) (st' := [.int (xs 1), .ref 1131, .int v]) rfl rfl rfl rfl ?_
  refine pm_H.go (pc' := 755) (st' := [.ref pm_SC, .int (xs 1), .ref 1131, .int v]) rfl rfl rfl rfl ?_
  refine pm_H.go (pc' := 756) (st' := [.int 0, .ref pm_SC, .int (xs 1), .ref 1131, .int v]) rfl rfl rfl rfl ?_
  refine pm_H.go (pc' := 757) (st' := [.int 2, .int 0, .ref pm_SC, .int (xs 1), .ref 1131, .int v]) rfl rfl rfl rfl ?_
  refine pm_H.go (pc' := 758) (st' := [.int 2, .ref pm_SC, .int (xs 1), .ref 1131, .int v]) rfl rfl rfl rfl ?_
  refine pm_H.go (pc' := 759) (st' := [.int (xs 2), .int (xs 1), .ref 1131, .int v]) rfl rfl rfl rfl ?_
  refine pm_Tk (d' := 299) rfl rfl rfl (by decide) rfl (by decide) rfl (pm_ckd_of (pm_T_cls hx (q := 1131) (c := 12) rfl) rfl rfl) hm ?_
  refine pm_H.bricmp (b := true) (pc' := 859) rfl rfl (decide_eq_true rfl) rfl rfl ?_
  exact p1_end6 hz
theorem p1_op26 (xs : Nat → Int32) : pm_H (some (6, xs)) 300 310 767 [(3, .int 0), (2, .ref 1131), (1, .ref 0), (0, .ref pm_SC)] [] pm_w1 (fun o w' => o = some (.int 1) ∧ w'.2 = pm_w1.2) := by
  obtain ⟨v, w2, w3, hx, hm, hz⟩ := p1_counter (xs 1)
  refine pm_H.go (pc' := 768) (st' := [.ref 0]) rfl rfl rfl rfl ?_
  refine pm_H.go (pc' := 769) (st' := [.ref pm_SC, .ref 0]) rfl rfl rfl rfl ?_
  refine pm_H.go (pc' := 770) (st' := [.int 0, .ref pm_SC, .ref 0]) rfl rfl rfl rfl ?_
  refine pm_H.go (pc' := 771) (st' := [.int 1, .int 0, .ref pm_SC, .ref 0]) rfl rfl rfl rfl ?_
  refine pm_H.go (pc' := 772) (st' := [.int 1, .ref pm_SC, .ref 0]) rfl rfl rfl rfl ?_
  refine pm_H.go (pc' := 773) (st' := [.int (xs 1), .ref 0]) rfl rfl rfl rfl ?_
  refine pm_Tk (d' := 299) rfl rfl rfl (by decide) rfl (by decide) rfl rfl hx ?_
  refine pm_H.go (pc' := 777) (st' := [.ref 1131, .int v]) rfl rfl rfl rfl ?_
  refine pm_H.go (pc' := 778) (st' := [.ref pm_SC, .ref 1131, .int v]) rfl rfl rfl rfl ?_
  refine pm_H.go (pc' := 779) (st' := [.int 0, .ref pm_SC, .ref 1131, .int v]) rfl rfl rfl rfl ?_
  refine pm_H.go (pc' := 780) (st' := [.int 1, .int 0, .ref pm_SC, .ref 1131, .int v]) rfl rfl rfl rfl ?_
  refine pm_H.go (pc' := 781) (st' := [.int 1, .ref pm_SC, .ref 1131, .int v]) rfl rfl rfl rfl ?_
  refine pm_H.go (pc' := 782) (st' := [.int (xs 1), .ref 1131, .int v]) rfl rfl rfl rfl ?_
  refine pm_Tk (d' := 299) rfl rfl rfl (by decide) rfl (by decide) rfl (pm_ckd_of (pm_T_cls hx (q := 1131) (c := 12) rfl) rfl rfl) hm ?_
  refine pm_H.bricmp (b := true) (pc' := 859) rfl rfl (decide_eq_true rfl) rfl rfl ?_
  exact p1_end6 hz
theorem p1_op27 (xs : Nat → Int32) : pm_H (some (6, xs)) 300 310 790 [(3, .int 0), (2, .ref 1131), (1, .ref 0), (0, .ref pm_SC)] [] pm_w1 (fun o w' => o = some (.int 1) ∧ w'.2 = pm_w1.2) := by
  obtain ⟨v, w2, w3, hx, hm, hz⟩ := p1_image (xs 1)
  refine pm_H.go (pc' := 791) (st' := [.ref 0]) rfl rfl rfl rfl ?_
  refine pm_H.go (pc' := 792) (st' := [.ref pm_SC, .ref 0]) rfl rfl rfl rfl ?_
  refine pm_H.go (pc' := 793) (st' := [.int 0, .ref pm_SC, .ref 0]) rfl rfl rfl rfl ?_
  refine pm_H.go (pc' := 794) (st' := [.int 1, .int 0, .ref pm_SC, .ref 0]) rfl rfl rfl rfl ?_
  refine pm_H.go (pc' := 795) (st' := [.int 1, .ref pm_SC, .ref 0]) rfl rfl rfl rfl ?_
  refine pm_H.go (pc' := 796) (st' := [.int (xs 1), .ref 0]) rfl rfl rfl rfl ?_
  refine pm_Tk (d' := 299) rfl rfl rfl (by decide) rfl (by decide) rfl rfl hx ?_
  refine pm_H.go (pc' := 800) (st' := [.ref 1131, .int v]) rfl rfl rfl rfl ?_
  refine pm_H.go (pc' := 801) (st' := [.ref pm_SC, .ref 1131, .int v]) rfl rfl rfl rfl ?_
  refine pm_H.go (pc' := 802) (st' := [.int 0, .ref pm_SC, .ref 1131, .int v]) rfl rfl rfl rfl ?_
  refine pm_H.go (pc' := 803) (st' := [.int 1, .int 0, .ref pm_SC, .ref 1131, .int v]) rfl rfl rfl rfl ?_
  refine pm_H.go (pc' := 804) (st' := [.int 1, .ref pm_SC, .ref 1131, .int v]) rfl rfl rfl rfl ?_
  refine pm_H.go (pc' := 805) (st' := [.int (xs 1), .ref 1131, .int v]) rfl rfl rfl rfl ?_
  refine pm_Tk (d' := 299) rfl rfl rfl (by decide) rfl (by decide) rfl (pm_ckd_of (pm_T_cls hx (q := 1131) (c := 12) rfl) rfl rfl) hm ?_
  refine pm_H.bricmp (b := true) (pc' := 859) rfl rfl (decide_eq_true rfl) rfl rfl ?_
  exact p1_end6 hz
theorem p1_op28 (xs : Nat → Int32) : pm_H (some (6, xs)) 300 310 813 [(3, .int 0), (2, .ref 1131), (1, .ref 0), (0, .ref pm_SC)] [] pm_w1 (fun o w' => o = some (.int 1) ∧ w'.2 = pm_w1.2) := by
  obtain ⟨v, w2, w3, hx, hm, hz⟩ := p1_back (xs 1)
  refine pm_H.go (pc' := 814) (st' := [.ref 0]) rfl rfl rfl rfl ?_
  refine pm_H.go (pc' := 815) (st' := [.ref pm_SC, .ref 0]) rfl rfl rfl rfl ?_
  refine pm_H.go (pc' := 816) (st' := [.int 0, .ref pm_SC, .ref 0]) rfl rfl rfl rfl ?_
  refine pm_H.go (pc' := 817) (st' := [.int 1, .int 0, .ref pm_SC, .ref 0]) rfl rfl rfl rfl ?_
  refine pm_H.go (pc' := 818) (st' := [.int 1, .ref pm_SC, .ref 0]) rfl rfl rfl rfl ?_
  refine pm_H.go (pc' := 819) (st' := [.int (xs 1), .ref 0]) rfl rfl rfl rfl ?_
  refine pm_Tk (d' := 299) rfl rfl rfl (by decide) rfl (by decide) rfl rfl hx ?_
  refine pm_H.go (pc' := 823) (st' := [.ref 1131, .int v]) rfl rfl rfl rfl ?_
  refine pm_H.go (pc' := 824) (st' := [.ref pm_SC, .ref 1131, .int v]) rfl rfl rfl rfl ?_
  refine pm_H.go (pc' := 825) (st' := [.int 0, .ref pm_SC, .ref 1131, .int v]) rfl rfl rfl rfl ?_
  refine pm_H.go (pc' := 826) (st' := [.int 1, .int 0, .ref pm_SC, .ref 1131, .int v]) rfl rfl rfl rfl ?_
  refine pm_H.go (pc' := 827) (st' := [.int 1, .ref pm_SC, .ref 1131, .int v]) rfl rfl rfl rfl ?_
  refine pm_H.go (pc' := 828) (st' := [.int (xs 1), .ref 1131, .int v]) rfl rfl rfl rfl ?_
  refine pm_Tk (d' := 299) rfl rfl rfl (by decide) rfl (by decide) rfl (pm_ckd_of (pm_T_cls hx (q := 1131) (c := 12) rfl) rfl rfl) hm ?_
  refine pm_H.bricmp (b := true) (pc' := 859) rfl rfl (decide_eq_true rfl) rfl rfl ?_
  exact p1_end6 hz
theorem p1_op29 (xs : Nat → Int32) : pm_H (some (6, xs)) 300 310 836 [(3, .int 0), (2, .ref 1131), (1, .ref 0), (0, .ref pm_SC)] [] pm_w1 (fun o w' => o = some (.int 1) ∧ w'.2 = pm_w1.2) := by
  obtain ⟨v, w2, w3, hx, hm, hz⟩ := p1_about (xs 1)
  refine pm_H.go (pc' := 837) (st' := [.ref 0]) rfl rfl rfl rfl ?_
  refine pm_H.go (pc' := 838) (st' := [.ref pm_SC, .ref 0]) rfl rfl rfl rfl ?_
  refine pm_H.go (pc' := 839) (st' := [.int 0, .ref pm_SC, .ref 0]) rfl rfl rfl rfl ?_
  refine pm_H.go (pc' := 840) (st' := [.int 1, .int 0, .ref pm_SC, .ref 0]) rfl rfl rfl rfl ?_
  refine pm_H.go (pc' := 841) (st' := [.int 1, .ref pm_SC, .ref 0]) rfl rfl rfl rfl ?_
  refine pm_H.go (pc' := 842) (st' := [.int (xs 1), .ref 0]) rfl rfl rfl rfl ?_
  refine pm_Tk (d' := 299) rfl rfl rfl (by decide) rfl (by decide) rfl rfl hx ?_
  refine pm_H.go (pc' := 846) (st' := [.ref 1131, .int v]) rfl rfl rfl rfl ?_
  refine pm_H.go (pc' := 847) (st' := [.ref pm_SC, .ref 1131, .int v]) rfl rfl rfl rfl ?_
  refine pm_H.go (pc' := 848) (st' := [.int 0, .ref pm_SC, .ref 1131, .int v]) rfl rfl rfl rfl ?_
  refine pm_H.go (pc' := 849) (st' := [.int 1, .int 0, .ref pm_SC, .ref 1131, .int v]) rfl rfl rfl rfl ?_
  refine pm_H.go (pc' := 850) (st' := [.int 1, .ref pm_SC, .ref 1131, .int v]) rfl rfl rfl rfl ?_
  refine pm_H.go (pc' := 851) (st' := [.int (xs 1), .ref 1131, .int v]) rfl rfl rfl rfl ?_
  refine pm_Tk (d' := 299) rfl rfl rfl (by decide) rfl (by decide) rfl (pm_ckd_of (pm_T_cls hx (q := 1131) (c := 12) rfl) rfl rfl) hm ?_
  refine pm_H.bricmp (b := true) (pc' := 859) rfl rfl (decide_eq_true rfl) rfl rfl ?_
  exact p1_end6 hz
theorem pm_law {L : Nat} (hL : L ≤ 6) (xs : Nat → Int32) : ∃ (n : Nat) (w' : pm_W), pm_run (some (L, xs)) n 300 310 0 [(0, .ref pm_SC)] [] pm_w0 = some (some (.int 1), w') ∧ w'.2.1 - 0 ≤ room_1.cells ∧ w'.2.2 - 0 ≤ room_1.slots := by
  have key : pm_H (some (L, xs)) 300 310 0 [(0, .ref pm_SC)] [] pm_w0 (fun o w' => o = some (.int 1) ∧ w'.2 = pm_w1.2) := by
    refine pm_H.go (pc' := 3) rfl rfl rfl rfl ?_
    refine pm_H.go (pc' := 4) rfl rfl rfl rfl ?_
    refine pm_Tk (d' := 299) rfl rfl rfl (by decide) rfl (by decide) rfl rfl ⟨_, pm_mA⟩ ?_
    refine pm_H.go (pc' := 8) (L' := [(1, .ref 0), (0, .ref pm_SC)]) (st' := []) rfl rfl rfl rfl ?_
    refine pm_H.go (pc' := 11) rfl rfl rfl rfl ?_
    refine pm_H.go (pc' := 12) rfl rfl rfl rfl ?_
    refine pm_Tk (d' := 299) rfl rfl rfl (by decide) rfl (by decide) rfl rfl ⟨_, pm_mB⟩ ?_
    refine pm_H.go (pc' := 16) (L' := [(2, .ref 1131), (1, .ref 0), (0, .ref pm_SC)]) (st' := []) rfl rfl rfl rfl ?_
    refine pm_H.go (pc' := 17) rfl rfl rfl rfl ?_
    refine pm_H.go (pc' := 18) (L' := [(3, .int 0), (2, .ref 1131), (1, .ref 0), (0, .ref pm_SC)]) (st' := []) rfl rfl rfl rfl ?_
    refine pm_H.go (pc' := 19) rfl rfl rfl rfl ?_
    refine pm_H.go (pc' := 20) rfl rfl rfl rfl ?_
    refine pm_H.go (pc' := 21) (st' := [.int (nI L), .int 0]) rfl rfl rfl rfl ?_
    refine pm_H.go (pc' := 23) (st' := [.int 6, .int (nI L), .int 0]) rfl rfl rfl rfl ?_
    refine pm_H.go (pc' := 24) (st' := [.int (nI L - 6), .int 0]) rfl rfl rfl rfl ?_
    rcases Nat.lt_or_ge L 6 with h | h
    · have hb : pm_cnd .gt 0 (nI L - 6) = true := by
        rcases (show L = 0 ∨ L = 1 ∨ L = 2 ∨ L = 3 ∨ L = 4 ∨ L = 5 by omega) with rfl | rfl | rfl | rfl | rfl | rfl <;> decide
      refine pm_H.bricmp (b := true) (pc' := 865) rfl rfl hb rfl rfl ?_
      refine pm_H.go (pc' := 866) (st' := [.int 1]) rfl rfl rfl rfl ?_
      exact pm_H.ret rfl rfl rfl ⟨rfl, rfl⟩
    · have e : L = 6 := by omega
      subst e
      refine pm_H.bricmp (b := false) (pc' := 27) rfl rfl (by decide) rfl rfl ?_
      refine pm_H.go (pc' := 28) rfl rfl rfl rfl ?_
      refine pm_H.go (pc' := 29) rfl rfl rfl rfl ?_
      refine pm_H.go (pc' := 30) (st' := [.int (xs 0)]) rfl rfl rfl rfl ?_
      refine pm_H.go (pc' := 32) (st' := [.int 31, .int (xs 0)]) rfl rfl rfl rfl ?_
      refine pm_H.go (pc' := 33) (st' := [.int (xs 0 &&& 31)]) rfl rfl rfl rfl ?_
      obtain ⟨j, hj, ej⟩ := pk_andE (xs 0) (m := 31) 5 (by decide)
      rw [ej]
      have hj' : j < 32 := hj
      rcases (show j = 0 ∨ j = 1 ∨ j = 2 ∨ j = 3 ∨ j = 4 ∨ j = 5 ∨ j = 6 ∨ j = 7 ∨ j = 8 ∨ j = 9 ∨ j = 10 ∨ j = 11 ∨ j = 12 ∨ j = 13 ∨ j = 14 ∨ j = 15 ∨ j = 16 ∨ j = 17 ∨ j = 18 ∨ j = 19 ∨ j = 20 ∨ j = 21 ∨ j = 22 ∨ j = 23 ∨ j = 24 ∨ j = 25 ∨ j = 26 ∨ j = 27 ∨ j = 28 ∨ j = 29 ∨ j = 30 ∨ j = 31 by omega) with rfl | rfl | rfl | rfl | rfl | rfl | rfl | rfl | rfl | rfl | rfl | rfl | rfl | rfl | rfl | rfl | rfl | rfl | rfl | rfl | rfl | rfl | rfl | rfl | rfl | rfl | rfl | rfl | rfl | rfl | rfl | rfl
      · exact pm_H.go (pc' := 168) rfl rfl rfl rfl (p1_op0 xs)
      · exact pm_H.go (pc' := 231) rfl rfl rfl rfl (p1_op1 xs)
      · exact pm_H.go (pc' := 254) rfl rfl rfl rfl (p1_op2 xs)
      · exact pm_H.go (pc' := 267) rfl rfl rfl rfl (p1_op3 xs)
      · exact pm_H.go (pc' := 290) rfl rfl rfl rfl (p1_op4 xs)
      · exact pm_H.go (pc' := 303) rfl rfl rfl rfl (p1_op5 xs)
      · exact pm_H.go (pc' := 326) rfl rfl rfl rfl (p1_op6 xs)
      · exact pm_H.go (pc' := 359) rfl rfl rfl rfl (p1_op7 xs)
      · exact pm_H.go (pc' := 392) rfl rfl rfl rfl (p1_op8 xs)
      · exact pm_H.go (pc' := 435) rfl rfl rfl rfl (p1_op9 xs)
      · exact pm_H.go (pc' := 448) rfl rfl rfl rfl (p1_op10 xs)
      · exact pm_H.go (pc' := 481) rfl rfl rfl rfl (p1_op11 xs)
      · exact pm_H.go (pc' := 514) rfl rfl rfl rfl (p1_op12 xs)
      · exact pm_H.go (pc' := 527) rfl rfl rfl rfl (p1_op13 xs)
      · exact pm_H.go (pc' := 540) rfl rfl rfl rfl (p1_op14 xs)
      · exact pm_H.go (pc' := 563) rfl rfl rfl rfl (p1_op15 xs)
      · exact pm_H.go (pc' := 576) rfl rfl rfl rfl (p1_op16 xs)
      · exact pm_H.go (pc' := 600) rfl rfl rfl rfl (p1_op17 xs)
      · exact pm_H.go (pc' := 613) rfl rfl rfl rfl (p1_op18 xs)
      · exact pm_H.go (pc' := 626) rfl rfl rfl rfl (p1_op19 xs)
      · exact pm_H.go (pc' := 639) rfl rfl rfl rfl (p1_op20 xs)
      · exact pm_H.go (pc' := 652) rfl rfl rfl rfl (p1_op21 xs)
      · exact pm_H.go (pc' := 675) rfl rfl rfl rfl (p1_op22 xs)
      · exact pm_H.go (pc' := 688) rfl rfl rfl rfl (p1_op23 xs)
      · exact pm_H.go (pc' := 711) rfl rfl rfl rfl (p1_op24 xs)
      · exact pm_H.go (pc' := 734) rfl rfl rfl rfl (p1_op25 xs)
      · exact pm_H.go (pc' := 767) rfl rfl rfl rfl (p1_op26 xs)
      · exact pm_H.go (pc' := 790) rfl rfl rfl rfl (p1_op27 xs)
      · exact pm_H.go (pc' := 813) rfl rfl rfl rfl (p1_op28 xs)
      · exact pm_H.go (pc' := 836) rfl rfl rfl rfl (p1_op29 xs)
      · exact pm_H.go (pc' := 859) rfl rfl rfl rfl (p1_end6 rfl)
      · exact pm_H.go (pc' := 859) rfl rfl rfl rfl (p1_end6 rfl)
  obtain ⟨o, w', ⟨n, hn⟩, rfl, hz⟩ := key
  refine ⟨n, w', hn, ?_, ?_⟩
  · rw [hz]
    decide
  · rw [hz]
    decide
