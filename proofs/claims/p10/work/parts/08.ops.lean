theorem pm_dec {y pc k : Nat} {i : Instr} (h : pm_code y pc = some (i, k)) (n : Nat) (hn : pm_il i = n) (h0 : n ≠ 0) : decode (pm_bytes y) pc = .ok (i, n) := by
  have q := pm_code_ok h
  rcases pm_il_ok h with z | z
  · exact absurd (hn.symm.trans z) h0
  · rw [z, hn] at q
    exact q
theorem pm_beq_f {a b : Nat} (h : a ≠ b) : Nat.beq a b = false := by
  rw [Bool.eq_false_iff]
  exact fun q => h (Nat.eq_of_beq_eq_true q)
theorem pm_ty_q {t : Nat} (h : 3 < t) : pm_ty t = .object (pm_nm (t + 1)) := by
  unfold pm_ty
  rw [pm_beq_f (by omega), pm_beq_f (by omega), pm_beq_f (by omega), pm_beq_f (by omega)]
  rfl
theorem pm_rf_v (G : pm_G) (r : Option Nat) : pm_v G (va_rf r) = va_rf (r.map (pm_al G)) := by cases r <;> rfl
theorem pm_c_1 (G : pm_G) (n : Nat) (f : pm_C) : (pm_c G n f).1 = n := by
  obtain f | f | f := f <;> rfl
theorem pm_cb (ty : ArrayType) : componentBytes (newarray.typeOf ty) ≤ 8 := by cases ty <;> decide
theorem pm_at_ok {ty : ArrayType} {t : Nat} (h : pm_at ty = some t) : t < 4 ∧ newarray.typeOf ty = pm_ty t ∧ Jvm.Cond.arrayClass (newarray.typeOf ty) ∈ lw_tbl := by
  cases ty <;> cases h
  · exact ⟨by decide, rfl, pm_isAt_in pm_ac2⟩
  · exact ⟨by decide, rfl, pm_isAt_in pm_ac1⟩
  · exact ⟨by decide, rfl, pm_isAt_in pm_ac0⟩
  · exact ⟨by decide, rfl, pm_isAt_in pm_ac3⟩
theorem pm_AO_in {c : Nat} (h1 : 4 < c) (h2 : c < 9) : Jvm.Cond.arrayOver (.object (pm_nm c)) ∈ lw_tbl := by
  rcases (show c = 5 ∨ c = 6 ∨ c = 7 ∨ c = 8 by omega) with rfl | rfl | rfl | rfl
  · exact pm_isAt_in pm_ac4
  · exact pm_isAt_in pm_ac5
  · exact pm_isAt_in pm_ac6
  · exact pm_isAt_in pm_ac7
theorem pm_zero_cell {ty : ArrayType} {t N : Nat} {cA : ClassId} {G : pm_G} (h : pm_at ty = some t) : vp_cell cA (pm_c G (pm_zero t N).1 (pm_zero t N).2) = arrV cA N (fun _ => defaultValue (newarray.typeOf ty)) := by
  cases ty <;> cases h <;> rfl
theorem pm_dv_ok (G : pm_G) {c j : Nat} (hj : j < (pm_Ts c).length) : defaultValue ((pm_Ts c).getD j .int) = vp_V (((pm_Ts c).map defaultValue).map (pm_v G)) j := by
  have e : ∀ t : FieldType, pm_v G (defaultValue t) = defaultValue t := fun t => by cases t <;> rfl
  unfold vp_V
  rw [List.map_map, List.getD_eq_getElem?_getD, List.getD_eq_getElem?_getD, List.getElem?_map, List.getElem?_eq_getElem hj]
  exact (e _).symm
section PMO
variable {p : Program} {l : Launch} {e : Env} {R : Room} {s : State} {m : MethodId} {args : Array Value} {below : List Frame} {meth : Method} {c : Code} {H : Heap} {locs : List Loc} {Q : State → Prop}
variable {y d pc k : Nat} {ls : Array Slot} {L L' : pm_L} {st st' : List Value} {w w' : pm_W} {G : pm_G} {c0 s0 pc' : Nat} {i : Instr}
/-- what an instruction comes to: the machine at the next place -/
abbrev pm_Nx (p : Program) (l : Launch) (e : Env) (R : Room) (s : State) (m : MethodId) (args : Array Value) (below : List Frame) (meth : Method) (c : Code) (Q : State → Prop) (y c0 s0 : Nat) (G : pm_G) (pc' : Nat) (L' : pm_L) (st' : List Value) (w' : pm_W) : Prop :=
  ∀ (H' : Heap) (locs' : List Loc) (ls' : Array Slot), pm_At G s w' H' locs' → lv_has ls' (pm_ml y) (pm_ph G L') → W p l e R s m args below meth c H' locs' (w'.2.1 - c0) (w'.2.2 - s0) Q (F0 m pc' ls' (st'.map (pm_v G)))
theorem pm_br_if {cc : ByteArray} {cells slots : Nat} {rest : List Value} (hx : p.tables.exec = Jvm.exec) (hb : c.code = cc) {cd : ClassFile.Cond} {off : Int} {x : Int32} {t : Nat} (D : decode cc pc = .ok (.ifCond cd off, 3)) (ht : (pc : Int) + off = (t : Int)) (kk : W p l e R s m args below meth c H locs cells slots Q (F0 m (cond (pm_cnd cd x 0) t (pc + 3)) ls rest)) : W p l e R s m args below meth c H locs cells slots Q (F0 m pc ls (.int x :: rest)) := by
  cases cd
  · exact lv_if_eq hx hb D ht (fun z => by rwa [show pm_cnd .eq x 0 = true from decide_eq_true z] at kk) (fun z => by rwa [show pm_cnd .eq x 0 = false from decide_eq_false z] at kk)
  · refine lv_if_ne hx hb D ht (fun z => ?_) (fun z => ?_)
    · have g : pm_cnd .ne x 0 = true := by show (!decide (x = 0)) = true; simp_all
      rwa [g] at kk
    · have g : pm_cnd .ne x 0 = false := by show (!decide (x = 0)) = false; simp_all
      rwa [g] at kk
  · exact lv_if_lt hx hb D ht (fun z => by rwa [show pm_cnd .lt x 0 = true from decide_eq_true z] at kk) (fun z => by rwa [show pm_cnd .lt x 0 = false from decide_eq_false z] at kk)
  · exact lv_if_ge hx hb D ht (fun z => by rwa [show pm_cnd .ge x 0 = true from decide_eq_true z] at kk) (fun z => by rwa [show pm_cnd .ge x 0 = false from decide_eq_false z] at kk)
  · exact lv_if_gt hx hb D ht (fun z => by rwa [show pm_cnd .gt x 0 = true from decide_eq_true z] at kk) (fun z => by rwa [show pm_cnd .gt x 0 = false from decide_eq_false z] at kk)
  · exact lv_if_le hx hb D ht (fun z => by rwa [show pm_cnd .le x 0 = true from decide_eq_true z] at kk) (fun z => by rwa [show pm_cnd .le x 0 = false from decide_eq_false z] at kk)
theorem pm_br_icmp {cc : ByteArray} {cells slots : Nat} {rest : List Value} (hx : p.tables.exec = Jvm.exec) (hb : c.code = cc) {cd : ClassFile.Cond} {off : Int} {x x2 : Int32} {t : Nat} (D : decode cc pc = .ok (.if_icmp cd off, 3)) (ht : (pc : Int) + off = (t : Int)) (kk : W p l e R s m args below meth c H locs cells slots Q (F0 m (cond (pm_cnd cd x x2) t (pc + 3)) ls rest)) : W p l e R s m args below meth c H locs cells slots Q (F0 m pc ls (.int x2 :: .int x :: rest)) := by
  cases cd
  · exact lv_icmp_eq hx hb D ht (fun z => by rwa [show pm_cnd .eq x x2 = true from decide_eq_true z] at kk) (fun z => by rwa [show pm_cnd .eq x x2 = false from decide_eq_false z] at kk)
  · refine lv_icmp_ne hx hb D ht (fun z => ?_) (fun z => ?_)
    · have g : pm_cnd .ne x x2 = true := by show (!decide (x = x2)) = true; simp_all
      rwa [g] at kk
    · have g : pm_cnd .ne x x2 = false := by show (!decide (x = x2)) = false; simp_all
      rwa [g] at kk
  · exact lv_icmp_lt hx hb D ht (fun z => by rwa [show pm_cnd .lt x x2 = true from decide_eq_true z] at kk) (fun z => by rwa [show pm_cnd .lt x x2 = false from decide_eq_false z] at kk)
  · exact lv_icmp_ge hx hb D ht (fun z => by rwa [show pm_cnd .ge x x2 = true from decide_eq_true z] at kk) (fun z => by rwa [show pm_cnd .ge x x2 = false from decide_eq_false z] at kk)
  · exact lv_icmp_gt hx hb D ht (fun z => by rwa [show pm_cnd .gt x x2 = true from decide_eq_true z] at kk) (fun z => by rwa [show pm_cnd .gt x x2 = false from decide_eq_false z] at kk)
  · exact lv_icmp_le hx hb D ht (fun z => by rwa [show pm_cnd .le x x2 = true from decide_eq_true z] at kk) (fun z => by rwa [show pm_cnd .le x x2 = false from decide_eq_false z] at kk)
theorem pm_load_eq {j kk : Nat} {is : Value → Bool} (h : pm_load L j pc st w kk is = some (pc', L', st', w')) : ∃ v, pm_lk L j = some v ∧ is v = true ∧ pc' = pc + kk ∧ L' = L ∧ st' = v :: st ∧ w' = w := by
  unfold pm_load at h
  split at h
  · next v hv =>
    obtain ⟨h1, h2⟩ := pm_ct h
    cases h2
    exact ⟨v, hv, h1, rfl, rfl, rfl, rfl⟩
  · cases h
theorem pm_sto_eq {nL j kk : Nat} {is : Value → Bool} (h : pm_sto nL L j pc st w kk is = some (pc', L', st', w')) : ∃ v, st = v :: st' ∧ is v = true ∧ j < nL ∧ pc' = pc + kk ∧ L' = pm_st1 L j v ∧ w' = w := by
  unfold pm_sto at h
  split at h
  · next v rest =>
    obtain ⟨h1, h2⟩ := pm_ct h
    cases h2
    rw [Bool.and_eq_true] at h1
    exact ⟨v, rfl, h1.1, Nat.le_of_ble_eq_true h1.2, rfl, rfl, rfl⟩
  · cases h
theorem pm_stoJ_eq {nL j kk : Nat} (h : pm_stoJ nL L j pc st w kk = some (pc', L', st', w')) : ∃ x, st = .long x :: st' ∧ j + 1 < nL ∧ pc' = pc + kk ∧ L' = pm_st2 L j (.long x) ∧ w' = w := by
  unfold pm_stoJ at h
  split at h
  · next x rest =>
    obtain ⟨h1, h2⟩ := pm_ct h
    cases h2
    exact ⟨x, rfl, Nat.le_of_ble_eq_true h1, rfl, rfl, rfl⟩
  · cases h
theorem pm_bin_eq {f : Int32 → Int32 → Int32} (h : pm_bin f L pc st w = some (pc', L', st', w')) : ∃ x y rest, st = .int y :: .int x :: rest ∧ pc' = pc + 1 ∧ L' = L ∧ st' = .int (f x y) :: rest ∧ w' = w := by
  unfold pm_bin at h
  split at h
  · cases h
    exact ⟨_, _, _, rfl, rfl, rfl, rfl, rfl⟩
  · cases h
theorem pm_binJ_eq {f : Int64 → Int64 → Int64} (h : pm_binJ f L pc st w = some (pc', L', st', w')) : ∃ x y rest, st = .long y :: .long x :: rest ∧ pc' = pc + 1 ∧ L' = L ∧ st' = .long (f x y) :: rest ∧ w' = w := by
  unfold pm_binJ at h
  split at h
  · cases h
    exact ⟨_, _, _, rfl, rfl, rfl, rfl, rfl⟩
  · cases h
theorem pm_isI_eq {v : Value} (h : pm_isI v = true) : ∃ x, v = .int x := by cases v <;> first | exact ⟨_, rfl⟩ | cases h
theorem pm_isJ_eq {v : Value} (h : pm_isJ v = true) : ∃ x, v = .long x := by cases v <;> first | exact ⟨_, rfl⟩ | cases h
theorem pm_isA_eq {v : Value} (h : pm_isA v = true) : ∃ x, v = .ref x := by cases v <;> first | exact ⟨_, rfl⟩ | cases h
theorem pm_o_aload_n {j : Fin 4} (F : pm_Fr y d p R s m args meth c) (T : pm_At G s w H locs) (hl : lv_has ls (pm_ml y) (pm_ph G L)) (hd : pm_code y pc = some (.aload_n j, k)) (h : pm_op (some G.2.2.2.2) (pm_own y) (pm_ml y) (pm_ini y) (.aload_n j) pc L st w = some (pc', L', st', w')) (hc : w'.2.1 - c0 ≤ R.cells) (hs : w'.2.2 - s0 ≤ R.slots) (hc0 : c0 ≤ w.2.1) (hs0 : s0 ≤ w.2.2) (kk : pm_Nx p l e R s m args below meth c Q y c0 s0 G pc' L' st' w') : W p l e R s m args below meth c H locs (w.2.1 - c0) (w.2.2 - s0) Q (F0 m pc ls (st.map (pm_v G))) := by
  have D := pm_dec hd 1 rfl (by decide)
  obtain ⟨hx, hb, hr, hml, hown, hts, hlk, hnm, hfr, hlo, hy⟩ := F
  obtain ⟨v, h1, h2, rfl, rfl, rfl, rfl⟩ := pm_load_eq h
  obtain ⟨x, rfl⟩ := pm_isA_eq h2
  exact lv_aload_n hx hb D rfl (pm_lv hl h1) (kk _ _ _ T hl)

theorem pm_o_aload {j : Nat} (F : pm_Fr y d p R s m args meth c) (T : pm_At G s w H locs) (hl : lv_has ls (pm_ml y) (pm_ph G L)) (hd : pm_code y pc = some (.aload j, k)) (h : pm_op (some G.2.2.2.2) (pm_own y) (pm_ml y) (pm_ini y) (.aload j) pc L st w = some (pc', L', st', w')) (hc : w'.2.1 - c0 ≤ R.cells) (hs : w'.2.2 - s0 ≤ R.slots) (hc0 : c0 ≤ w.2.1) (hs0 : s0 ≤ w.2.2) (kk : pm_Nx p l e R s m args below meth c Q y c0 s0 G pc' L' st' w') : W p l e R s m args below meth c H locs (w.2.1 - c0) (w.2.2 - s0) Q (F0 m pc ls (st.map (pm_v G))) := by
  have D := pm_dec hd 2 rfl (by decide)
  obtain ⟨hx, hb, hr, hml, hown, hts, hlk, hnm, hfr, hlo, hy⟩ := F
  obtain ⟨v, h1, h2, rfl, rfl, rfl, rfl⟩ := pm_load_eq h
  obtain ⟨x, rfl⟩ := pm_isA_eq h2
  exact lv_aload hx hb D (pm_lv hl h1) (kk _ _ _ T hl)

theorem pm_o_iload_n {j : Fin 4} (F : pm_Fr y d p R s m args meth c) (T : pm_At G s w H locs) (hl : lv_has ls (pm_ml y) (pm_ph G L)) (hd : pm_code y pc = some (.iload_n j, k)) (h : pm_op (some G.2.2.2.2) (pm_own y) (pm_ml y) (pm_ini y) (.iload_n j) pc L st w = some (pc', L', st', w')) (hc : w'.2.1 - c0 ≤ R.cells) (hs : w'.2.2 - s0 ≤ R.slots) (hc0 : c0 ≤ w.2.1) (hs0 : s0 ≤ w.2.2) (kk : pm_Nx p l e R s m args below meth c Q y c0 s0 G pc' L' st' w') : W p l e R s m args below meth c H locs (w.2.1 - c0) (w.2.2 - s0) Q (F0 m pc ls (st.map (pm_v G))) := by
  have D := pm_dec hd 1 rfl (by decide)
  obtain ⟨hx, hb, hr, hml, hown, hts, hlk, hnm, hfr, hlo, hy⟩ := F
  obtain ⟨v, h1, h2, rfl, rfl, rfl, rfl⟩ := pm_load_eq h
  obtain ⟨x, rfl⟩ := pm_isI_eq h2
  exact lv_iload_n hx hb D rfl (pm_lv hl h1) (kk _ _ _ T hl)

theorem pm_o_iload {j : Nat} (F : pm_Fr y d p R s m args meth c) (T : pm_At G s w H locs) (hl : lv_has ls (pm_ml y) (pm_ph G L)) (hd : pm_code y pc = some (.iload j, k)) (h : pm_op (some G.2.2.2.2) (pm_own y) (pm_ml y) (pm_ini y) (.iload j) pc L st w = some (pc', L', st', w')) (hc : w'.2.1 - c0 ≤ R.cells) (hs : w'.2.2 - s0 ≤ R.slots) (hc0 : c0 ≤ w.2.1) (hs0 : s0 ≤ w.2.2) (kk : pm_Nx p l e R s m args below meth c Q y c0 s0 G pc' L' st' w') : W p l e R s m args below meth c H locs (w.2.1 - c0) (w.2.2 - s0) Q (F0 m pc ls (st.map (pm_v G))) := by
  have D := pm_dec hd 2 rfl (by decide)
  obtain ⟨hx, hb, hr, hml, hown, hts, hlk, hnm, hfr, hlo, hy⟩ := F
  obtain ⟨v, h1, h2, rfl, rfl, rfl, rfl⟩ := pm_load_eq h
  obtain ⟨x, rfl⟩ := pm_isI_eq h2
  exact lv_iload hx hb D (pm_lv hl h1) (kk _ _ _ T hl)

theorem pm_o_lload_n {j : Fin 4} (F : pm_Fr y d p R s m args meth c) (T : pm_At G s w H locs) (hl : lv_has ls (pm_ml y) (pm_ph G L)) (hd : pm_code y pc = some (.lload_n j, k)) (h : pm_op (some G.2.2.2.2) (pm_own y) (pm_ml y) (pm_ini y) (.lload_n j) pc L st w = some (pc', L', st', w')) (hc : w'.2.1 - c0 ≤ R.cells) (hs : w'.2.2 - s0 ≤ R.slots) (hc0 : c0 ≤ w.2.1) (hs0 : s0 ≤ w.2.2) (kk : pm_Nx p l e R s m args below meth c Q y c0 s0 G pc' L' st' w') : W p l e R s m args below meth c H locs (w.2.1 - c0) (w.2.2 - s0) Q (F0 m pc ls (st.map (pm_v G))) := by
  have D := pm_dec hd 1 rfl (by decide)
  obtain ⟨hx, hb, hr, hml, hown, hts, hlk, hnm, hfr, hlo, hy⟩ := F
  obtain ⟨v, h1, h2, rfl, rfl, rfl, rfl⟩ := pm_load_eq h
  obtain ⟨x, rfl⟩ := pm_isJ_eq h2
  exact lv_lload_n hx hb D rfl (pm_lv hl h1) (kk _ _ _ T hl)

theorem pm_o_lload {j : Nat} (F : pm_Fr y d p R s m args meth c) (T : pm_At G s w H locs) (hl : lv_has ls (pm_ml y) (pm_ph G L)) (hd : pm_code y pc = some (.lload j, k)) (h : pm_op (some G.2.2.2.2) (pm_own y) (pm_ml y) (pm_ini y) (.lload j) pc L st w = some (pc', L', st', w')) (hc : w'.2.1 - c0 ≤ R.cells) (hs : w'.2.2 - s0 ≤ R.slots) (hc0 : c0 ≤ w.2.1) (hs0 : s0 ≤ w.2.2) (kk : pm_Nx p l e R s m args below meth c Q y c0 s0 G pc' L' st' w') : W p l e R s m args below meth c H locs (w.2.1 - c0) (w.2.2 - s0) Q (F0 m pc ls (st.map (pm_v G))) := by
  have D := pm_dec hd 2 rfl (by decide)
  obtain ⟨hx, hb, hr, hml, hown, hts, hlk, hnm, hfr, hlo, hy⟩ := F
  obtain ⟨v, h1, h2, rfl, rfl, rfl, rfl⟩ := pm_load_eq h
  obtain ⟨x, rfl⟩ := pm_isJ_eq h2
  exact lv_lload hx hb D (pm_lv hl h1) (kk _ _ _ T hl)

theorem pm_o_astore_n {j : Fin 4} (F : pm_Fr y d p R s m args meth c) (T : pm_At G s w H locs) (hl : lv_has ls (pm_ml y) (pm_ph G L)) (hd : pm_code y pc = some (.astore_n j, k)) (h : pm_op (some G.2.2.2.2) (pm_own y) (pm_ml y) (pm_ini y) (.astore_n j) pc L st w = some (pc', L', st', w')) (hc : w'.2.1 - c0 ≤ R.cells) (hs : w'.2.2 - s0 ≤ R.slots) (hc0 : c0 ≤ w.2.1) (hs0 : s0 ≤ w.2.2) (kk : pm_Nx p l e R s m args below meth c Q y c0 s0 G pc' L' st' w') : W p l e R s m args below meth c H locs (w.2.1 - c0) (w.2.2 - s0) Q (F0 m pc ls (st.map (pm_v G))) := by
  have D := pm_dec hd 1 rfl (by decide)
  obtain ⟨hx, hb, hr, hml, hown, hts, hlk, hnm, hfr, hlo, hy⟩ := F
  obtain ⟨v, rfl, h1, h2, rfl, rfl, rfl⟩ := pm_sto_eq h
  obtain ⟨x, rfl⟩ := pm_isA_eq h1
  exact lv_astore_n hx hb D rfl hl h2 (pm_ph_st1 G L _ (.ref x)) (fun ls' hl' => kk _ _ _ T hl')

theorem pm_o_astore {j : Nat} (F : pm_Fr y d p R s m args meth c) (T : pm_At G s w H locs) (hl : lv_has ls (pm_ml y) (pm_ph G L)) (hd : pm_code y pc = some (.astore j, k)) (h : pm_op (some G.2.2.2.2) (pm_own y) (pm_ml y) (pm_ini y) (.astore j) pc L st w = some (pc', L', st', w')) (hc : w'.2.1 - c0 ≤ R.cells) (hs : w'.2.2 - s0 ≤ R.slots) (hc0 : c0 ≤ w.2.1) (hs0 : s0 ≤ w.2.2) (kk : pm_Nx p l e R s m args below meth c Q y c0 s0 G pc' L' st' w') : W p l e R s m args below meth c H locs (w.2.1 - c0) (w.2.2 - s0) Q (F0 m pc ls (st.map (pm_v G))) := by
  have D := pm_dec hd 2 rfl (by decide)
  obtain ⟨hx, hb, hr, hml, hown, hts, hlk, hnm, hfr, hlo, hy⟩ := F
  obtain ⟨v, rfl, h1, h2, rfl, rfl, rfl⟩ := pm_sto_eq h
  obtain ⟨x, rfl⟩ := pm_isA_eq h1
  exact lv_astore hx hb D hl h2 (pm_ph_st1 G L _ (.ref x)) (fun ls' hl' => kk _ _ _ T hl')

theorem pm_o_istore_n {j : Fin 4} (F : pm_Fr y d p R s m args meth c) (T : pm_At G s w H locs) (hl : lv_has ls (pm_ml y) (pm_ph G L)) (hd : pm_code y pc = some (.istore_n j, k)) (h : pm_op (some G.2.2.2.2) (pm_own y) (pm_ml y) (pm_ini y) (.istore_n j) pc L st w = some (pc', L', st', w')) (hc : w'.2.1 - c0 ≤ R.cells) (hs : w'.2.2 - s0 ≤ R.slots) (hc0 : c0 ≤ w.2.1) (hs0 : s0 ≤ w.2.2) (kk : pm_Nx p l e R s m args below meth c Q y c0 s0 G pc' L' st' w') : W p l e R s m args below meth c H locs (w.2.1 - c0) (w.2.2 - s0) Q (F0 m pc ls (st.map (pm_v G))) := by
  have D := pm_dec hd 1 rfl (by decide)
  obtain ⟨hx, hb, hr, hml, hown, hts, hlk, hnm, hfr, hlo, hy⟩ := F
  obtain ⟨v, rfl, h1, h2, rfl, rfl, rfl⟩ := pm_sto_eq h
  obtain ⟨x, rfl⟩ := pm_isI_eq h1
  exact lv_istore_n hx hb D rfl hl h2 (pm_ph_st1 G L _ (.int x)) (fun ls' hl' => kk _ _ _ T hl')

theorem pm_o_istore {j : Nat} (F : pm_Fr y d p R s m args meth c) (T : pm_At G s w H locs) (hl : lv_has ls (pm_ml y) (pm_ph G L)) (hd : pm_code y pc = some (.istore j, k)) (h : pm_op (some G.2.2.2.2) (pm_own y) (pm_ml y) (pm_ini y) (.istore j) pc L st w = some (pc', L', st', w')) (hc : w'.2.1 - c0 ≤ R.cells) (hs : w'.2.2 - s0 ≤ R.slots) (hc0 : c0 ≤ w.2.1) (hs0 : s0 ≤ w.2.2) (kk : pm_Nx p l e R s m args below meth c Q y c0 s0 G pc' L' st' w') : W p l e R s m args below meth c H locs (w.2.1 - c0) (w.2.2 - s0) Q (F0 m pc ls (st.map (pm_v G))) := by
  have D := pm_dec hd 2 rfl (by decide)
  obtain ⟨hx, hb, hr, hml, hown, hts, hlk, hnm, hfr, hlo, hy⟩ := F
  obtain ⟨v, rfl, h1, h2, rfl, rfl, rfl⟩ := pm_sto_eq h
  obtain ⟨x, rfl⟩ := pm_isI_eq h1
  exact lv_istore hx hb D hl h2 (pm_ph_st1 G L _ (.int x)) (fun ls' hl' => kk _ _ _ T hl')

theorem pm_o_lstore_n {j : Fin 4} (F : pm_Fr y d p R s m args meth c) (T : pm_At G s w H locs) (hl : lv_has ls (pm_ml y) (pm_ph G L)) (hd : pm_code y pc = some (.lstore_n j, k)) (h : pm_op (some G.2.2.2.2) (pm_own y) (pm_ml y) (pm_ini y) (.lstore_n j) pc L st w = some (pc', L', st', w')) (hc : w'.2.1 - c0 ≤ R.cells) (hs : w'.2.2 - s0 ≤ R.slots) (hc0 : c0 ≤ w.2.1) (hs0 : s0 ≤ w.2.2) (kk : pm_Nx p l e R s m args below meth c Q y c0 s0 G pc' L' st' w') : W p l e R s m args below meth c H locs (w.2.1 - c0) (w.2.2 - s0) Q (F0 m pc ls (st.map (pm_v G))) := by
  have D := pm_dec hd 1 rfl (by decide)
  obtain ⟨hx, hb, hr, hml, hown, hts, hlk, hnm, hfr, hlo, hy⟩ := F
  obtain ⟨x, rfl, h2, rfl, rfl, rfl⟩ := pm_stoJ_eq h
  exact lv_lstore_n hx hb D rfl hl h2 (pm_ph_st2 G L _ (.long x)) (fun ls' hl' => kk _ _ _ T hl')

theorem pm_o_lstore {j : Nat} (F : pm_Fr y d p R s m args meth c) (T : pm_At G s w H locs) (hl : lv_has ls (pm_ml y) (pm_ph G L)) (hd : pm_code y pc = some (.lstore j, k)) (h : pm_op (some G.2.2.2.2) (pm_own y) (pm_ml y) (pm_ini y) (.lstore j) pc L st w = some (pc', L', st', w')) (hc : w'.2.1 - c0 ≤ R.cells) (hs : w'.2.2 - s0 ≤ R.slots) (hc0 : c0 ≤ w.2.1) (hs0 : s0 ≤ w.2.2) (kk : pm_Nx p l e R s m args below meth c Q y c0 s0 G pc' L' st' w') : W p l e R s m args below meth c H locs (w.2.1 - c0) (w.2.2 - s0) Q (F0 m pc ls (st.map (pm_v G))) := by
  have D := pm_dec hd 2 rfl (by decide)
  obtain ⟨hx, hb, hr, hml, hown, hts, hlk, hnm, hfr, hlo, hy⟩ := F
  obtain ⟨x, rfl, h2, rfl, rfl, rfl⟩ := pm_stoJ_eq h
  exact lv_lstore hx hb D hl h2 (pm_ph_st2 G L _ (.long x)) (fun ls' hl' => kk _ _ _ T hl')

theorem pm_o_iinc {j : Nat} {n : Int} (F : pm_Fr y d p R s m args meth c) (T : pm_At G s w H locs) (hl : lv_has ls (pm_ml y) (pm_ph G L)) (hd : pm_code y pc = some (.iinc j n, k)) (h : pm_op (some G.2.2.2.2) (pm_own y) (pm_ml y) (pm_ini y) (.iinc j n) pc L st w = some (pc', L', st', w')) (hc : w'.2.1 - c0 ≤ R.cells) (hs : w'.2.2 - s0 ≤ R.slots) (hc0 : c0 ≤ w.2.1) (hs0 : s0 ≤ w.2.2) (kk : pm_Nx p l e R s m args below meth c Q y c0 s0 G pc' L' st' w') : W p l e R s m args below meth c H locs (w.2.1 - c0) (w.2.2 - s0) Q (F0 m pc ls (st.map (pm_v G))) := by
  have D := pm_dec hd 3 rfl (by decide)
  obtain ⟨hx, hb, hr, hml, hown, hts, hlk, hnm, hfr, hlo, hy⟩ := F
  unfold pm_op at h
  dsimp only at h
  split at h
  · next x hv =>
    obtain ⟨h1, h2⟩ := pm_ct h
    cases h2
    obtain ⟨q, hq⟩ := pm_lvk (G := G) hv
    exact lv_iinc hx hb D hl hq rfl (Nat.le_of_ble_eq_true h1) (pm_ph_st1 G L _ (.int (x + Int32.ofInt n))) (fun ls' hl' => kk _ _ _ T hl')
  · cases h

theorem pm_o_iconst {n : Int} (F : pm_Fr y d p R s m args meth c) (T : pm_At G s w H locs) (hl : lv_has ls (pm_ml y) (pm_ph G L)) (hd : pm_code y pc = some (.iconst n, k)) (h : pm_op (some G.2.2.2.2) (pm_own y) (pm_ml y) (pm_ini y) (.iconst n) pc L st w = some (pc', L', st', w')) (hc : w'.2.1 - c0 ≤ R.cells) (hs : w'.2.2 - s0 ≤ R.slots) (hc0 : c0 ≤ w.2.1) (hs0 : s0 ≤ w.2.2) (kk : pm_Nx p l e R s m args below meth c Q y c0 s0 G pc' L' st' w') : W p l e R s m args below meth c H locs (w.2.1 - c0) (w.2.2 - s0) Q (F0 m pc ls (st.map (pm_v G))) := by
  have D := pm_dec hd 1 rfl (by decide)
  obtain ⟨hx, hb, hr, hml, hown, hts, hlk, hnm, hfr, hlo, hy⟩ := F
  cases h
  exact lv_iconst hx hb D rfl (kk _ _ _ T hl)

theorem pm_o_bipush {n : Int} (F : pm_Fr y d p R s m args meth c) (T : pm_At G s w H locs) (hl : lv_has ls (pm_ml y) (pm_ph G L)) (hd : pm_code y pc = some (.bipush n, k)) (h : pm_op (some G.2.2.2.2) (pm_own y) (pm_ml y) (pm_ini y) (.bipush n) pc L st w = some (pc', L', st', w')) (hc : w'.2.1 - c0 ≤ R.cells) (hs : w'.2.2 - s0 ≤ R.slots) (hc0 : c0 ≤ w.2.1) (hs0 : s0 ≤ w.2.2) (kk : pm_Nx p l e R s m args below meth c Q y c0 s0 G pc' L' st' w') : W p l e R s m args below meth c H locs (w.2.1 - c0) (w.2.2 - s0) Q (F0 m pc ls (st.map (pm_v G))) := by
  have D := pm_dec hd 2 rfl (by decide)
  obtain ⟨hx, hb, hr, hml, hown, hts, hlk, hnm, hfr, hlo, hy⟩ := F
  cases h
  exact lv_bipush hx hb D rfl (kk _ _ _ T hl)

theorem pm_o_sipush {n : Int} (F : pm_Fr y d p R s m args meth c) (T : pm_At G s w H locs) (hl : lv_has ls (pm_ml y) (pm_ph G L)) (hd : pm_code y pc = some (.sipush n, k)) (h : pm_op (some G.2.2.2.2) (pm_own y) (pm_ml y) (pm_ini y) (.sipush n) pc L st w = some (pc', L', st', w')) (hc : w'.2.1 - c0 ≤ R.cells) (hs : w'.2.2 - s0 ≤ R.slots) (hc0 : c0 ≤ w.2.1) (hs0 : s0 ≤ w.2.2) (kk : pm_Nx p l e R s m args below meth c Q y c0 s0 G pc' L' st' w') : W p l e R s m args below meth c H locs (w.2.1 - c0) (w.2.2 - s0) Q (F0 m pc ls (st.map (pm_v G))) := by
  have D := pm_dec hd 3 rfl (by decide)
  obtain ⟨hx, hb, hr, hml, hown, hts, hlk, hnm, hfr, hlo, hy⟩ := F
  cases h
  exact lv_sipush hx hb D rfl (kk _ _ _ T hl)

theorem pm_o_lconst {j : Fin 2} (F : pm_Fr y d p R s m args meth c) (T : pm_At G s w H locs) (hl : lv_has ls (pm_ml y) (pm_ph G L)) (hd : pm_code y pc = some (.lconst j, k)) (h : pm_op (some G.2.2.2.2) (pm_own y) (pm_ml y) (pm_ini y) (.lconst j) pc L st w = some (pc', L', st', w')) (hc : w'.2.1 - c0 ≤ R.cells) (hs : w'.2.2 - s0 ≤ R.slots) (hc0 : c0 ≤ w.2.1) (hs0 : s0 ≤ w.2.2) (kk : pm_Nx p l e R s m args below meth c Q y c0 s0 G pc' L' st' w') : W p l e R s m args below meth c H locs (w.2.1 - c0) (w.2.2 - s0) Q (F0 m pc ls (st.map (pm_v G))) := by
  have D := pm_dec hd 1 rfl (by decide)
  obtain ⟨hx, hb, hr, hml, hown, hts, hlk, hnm, hfr, hlo, hy⟩ := F
  cases h
  exact lv_lconst hx hb D rfl (kk _ _ _ T hl)

theorem pm_o_ldc2_w {j : Nat} (F : pm_Fr y d p R s m args meth c) (T : pm_At G s w H locs) (hl : lv_has ls (pm_ml y) (pm_ph G L)) (hd : pm_code y pc = some (.ldc2_w j, k)) (h : pm_op (some G.2.2.2.2) (pm_own y) (pm_ml y) (pm_ini y) (.ldc2_w j) pc L st w = some (pc', L', st', w')) (hc : w'.2.1 - c0 ≤ R.cells) (hs : w'.2.2 - s0 ≤ R.slots) (hc0 : c0 ≤ w.2.1) (hs0 : s0 ≤ w.2.2) (kk : pm_Nx p l e R s m args below meth c Q y c0 s0 G pc' L' st' w') : W p l e R s m args below meth c H locs (w.2.1 - c0) (w.2.2 - s0) Q (F0 m pc ls (st.map (pm_v G))) := by
  have D := pm_dec hd 3 rfl (by decide)
  obtain ⟨hx, hb, hr, hml, hown, hts, hlk, hnm, hfr, hlo, hy⟩ := F
  unfold pm_op at h
  dsimp only at h
  split at h
  · next a x q hv =>
    cases h
    exact lv_ldc2 hx hb hown (hts _ (pm_gw_in (pm_J_words hy hv) rfl)) D (kk _ _ _ T hl)
  · cases h

theorem pm_o_ldc {j : Nat} (F : pm_Fr y d p R s m args meth c) (T : pm_At G s w H locs) (hl : lv_has ls (pm_ml y) (pm_ph G L)) (hd : pm_code y pc = some (.ldc j, k)) (h : pm_op (some G.2.2.2.2) (pm_own y) (pm_ml y) (pm_ini y) (.ldc j) pc L st w = some (pc', L', st', w')) (hc : w'.2.1 - c0 ≤ R.cells) (hs : w'.2.2 - s0 ≤ R.slots) (hc0 : c0 ≤ w.2.1) (hs0 : s0 ≤ w.2.2) (kk : pm_Nx p l e R s m args below meth c Q y c0 s0 G pc' L' st' w') : W p l e R s m args below meth c H locs (w.2.1 - c0) (w.2.2 - s0) Q (F0 m pc ls (st.map (pm_v G))) := by
  have D := pm_dec hd 2 rfl (by decide)
  obtain ⟨hx, hb, hr, hml, hown, hts, hlk, hnm, hfr, hlo, hy⟩ := F
  unfold pm_op at h
  dsimp only at h
  obtain ⟨h1, h⟩ := pm_ct h
  have ho : pm_own y = 10 := Nat.eq_of_beq_eq_true h1
  rw [ho] at hown
  obtain ⟨-, -, -, -, -, -, z1, z2, z3, -⟩ := id T
  cases g1 : Nat.beq j 19 with
  | true =>
    rw [g1] at h
    cases h
    rw [Nat.eq_of_beq_eq_true g1] at D
    exact va_ldcS hx hb hown z1 D (kk _ _ _ T hl)
  | false =>
    rw [g1] at h
    cases g2 : Nat.beq j 25 with
    | true =>
      rw [g2] at h
      cases h
      rw [Nat.eq_of_beq_eq_true g2] at D
      exact va_ldcS hx hb hown z2 D (kk _ _ _ T hl)
    | false =>
      rw [g2] at h
      obtain ⟨g3, h⟩ := pm_ct h
      cases h
      rw [Nat.eq_of_beq_eq_true g3] at D
      exact va_ldcS hx hb hown z3 D (kk _ _ _ T hl)

theorem pm_o_iadd (F : pm_Fr y d p R s m args meth c) (T : pm_At G s w H locs) (hl : lv_has ls (pm_ml y) (pm_ph G L)) (hd : pm_code y pc = some (.iadd, k)) (h : pm_op (some G.2.2.2.2) (pm_own y) (pm_ml y) (pm_ini y) (.iadd) pc L st w = some (pc', L', st', w')) (hc : w'.2.1 - c0 ≤ R.cells) (hs : w'.2.2 - s0 ≤ R.slots) (hc0 : c0 ≤ w.2.1) (hs0 : s0 ≤ w.2.2) (kk : pm_Nx p l e R s m args below meth c Q y c0 s0 G pc' L' st' w') : W p l e R s m args below meth c H locs (w.2.1 - c0) (w.2.2 - s0) Q (F0 m pc ls (st.map (pm_v G))) := by
  have D := pm_dec hd 1 rfl (by decide)
  obtain ⟨hx, hb, hr, hml, hown, hts, hlk, hnm, hfr, hlo, hy⟩ := F
  obtain ⟨x, x2, rest, rfl, rfl, rfl, rfl, rfl⟩ := pm_bin_eq h
  exact lv_iadd hx hb D (kk _ _ _ T hl)

theorem pm_o_isub (F : pm_Fr y d p R s m args meth c) (T : pm_At G s w H locs) (hl : lv_has ls (pm_ml y) (pm_ph G L)) (hd : pm_code y pc = some (.isub, k)) (h : pm_op (some G.2.2.2.2) (pm_own y) (pm_ml y) (pm_ini y) (.isub) pc L st w = some (pc', L', st', w')) (hc : w'.2.1 - c0 ≤ R.cells) (hs : w'.2.2 - s0 ≤ R.slots) (hc0 : c0 ≤ w.2.1) (hs0 : s0 ≤ w.2.2) (kk : pm_Nx p l e R s m args below meth c Q y c0 s0 G pc' L' st' w') : W p l e R s m args below meth c H locs (w.2.1 - c0) (w.2.2 - s0) Q (F0 m pc ls (st.map (pm_v G))) := by
  have D := pm_dec hd 1 rfl (by decide)
  obtain ⟨hx, hb, hr, hml, hown, hts, hlk, hnm, hfr, hlo, hy⟩ := F
  obtain ⟨x, x2, rest, rfl, rfl, rfl, rfl, rfl⟩ := pm_bin_eq h
  exact lv_isub hx hb D (kk _ _ _ T hl)

theorem pm_o_imul (F : pm_Fr y d p R s m args meth c) (T : pm_At G s w H locs) (hl : lv_has ls (pm_ml y) (pm_ph G L)) (hd : pm_code y pc = some (.imul, k)) (h : pm_op (some G.2.2.2.2) (pm_own y) (pm_ml y) (pm_ini y) (.imul) pc L st w = some (pc', L', st', w')) (hc : w'.2.1 - c0 ≤ R.cells) (hs : w'.2.2 - s0 ≤ R.slots) (hc0 : c0 ≤ w.2.1) (hs0 : s0 ≤ w.2.2) (kk : pm_Nx p l e R s m args below meth c Q y c0 s0 G pc' L' st' w') : W p l e R s m args below meth c H locs (w.2.1 - c0) (w.2.2 - s0) Q (F0 m pc ls (st.map (pm_v G))) := by
  have D := pm_dec hd 1 rfl (by decide)
  obtain ⟨hx, hb, hr, hml, hown, hts, hlk, hnm, hfr, hlo, hy⟩ := F
  obtain ⟨x, x2, rest, rfl, rfl, rfl, rfl, rfl⟩ := pm_bin_eq h
  exact lv_imul hx hb D (kk _ _ _ T hl)

theorem pm_o_iand (F : pm_Fr y d p R s m args meth c) (T : pm_At G s w H locs) (hl : lv_has ls (pm_ml y) (pm_ph G L)) (hd : pm_code y pc = some (.iand, k)) (h : pm_op (some G.2.2.2.2) (pm_own y) (pm_ml y) (pm_ini y) (.iand) pc L st w = some (pc', L', st', w')) (hc : w'.2.1 - c0 ≤ R.cells) (hs : w'.2.2 - s0 ≤ R.slots) (hc0 : c0 ≤ w.2.1) (hs0 : s0 ≤ w.2.2) (kk : pm_Nx p l e R s m args below meth c Q y c0 s0 G pc' L' st' w') : W p l e R s m args below meth c H locs (w.2.1 - c0) (w.2.2 - s0) Q (F0 m pc ls (st.map (pm_v G))) := by
  have D := pm_dec hd 1 rfl (by decide)
  obtain ⟨hx, hb, hr, hml, hown, hts, hlk, hnm, hfr, hlo, hy⟩ := F
  obtain ⟨x, x2, rest, rfl, rfl, rfl, rfl, rfl⟩ := pm_bin_eq h
  exact lv_iand hx hb D (kk _ _ _ T hl)

theorem pm_o_ior (F : pm_Fr y d p R s m args meth c) (T : pm_At G s w H locs) (hl : lv_has ls (pm_ml y) (pm_ph G L)) (hd : pm_code y pc = some (.ior, k)) (h : pm_op (some G.2.2.2.2) (pm_own y) (pm_ml y) (pm_ini y) (.ior) pc L st w = some (pc', L', st', w')) (hc : w'.2.1 - c0 ≤ R.cells) (hs : w'.2.2 - s0 ≤ R.slots) (hc0 : c0 ≤ w.2.1) (hs0 : s0 ≤ w.2.2) (kk : pm_Nx p l e R s m args below meth c Q y c0 s0 G pc' L' st' w') : W p l e R s m args below meth c H locs (w.2.1 - c0) (w.2.2 - s0) Q (F0 m pc ls (st.map (pm_v G))) := by
  have D := pm_dec hd 1 rfl (by decide)
  obtain ⟨hx, hb, hr, hml, hown, hts, hlk, hnm, hfr, hlo, hy⟩ := F
  obtain ⟨x, x2, rest, rfl, rfl, rfl, rfl, rfl⟩ := pm_bin_eq h
  exact lv_ior hx hb D (kk _ _ _ T hl)

theorem pm_o_ishl (F : pm_Fr y d p R s m args meth c) (T : pm_At G s w H locs) (hl : lv_has ls (pm_ml y) (pm_ph G L)) (hd : pm_code y pc = some (.ishl, k)) (h : pm_op (some G.2.2.2.2) (pm_own y) (pm_ml y) (pm_ini y) (.ishl) pc L st w = some (pc', L', st', w')) (hc : w'.2.1 - c0 ≤ R.cells) (hs : w'.2.2 - s0 ≤ R.slots) (hc0 : c0 ≤ w.2.1) (hs0 : s0 ≤ w.2.2) (kk : pm_Nx p l e R s m args below meth c Q y c0 s0 G pc' L' st' w') : W p l e R s m args below meth c H locs (w.2.1 - c0) (w.2.2 - s0) Q (F0 m pc ls (st.map (pm_v G))) := by
  have D := pm_dec hd 1 rfl (by decide)
  obtain ⟨hx, hb, hr, hml, hown, hts, hlk, hnm, hfr, hlo, hy⟩ := F
  obtain ⟨x, x2, rest, rfl, rfl, rfl, rfl, rfl⟩ := pm_bin_eq h
  exact lv_ishl hx hb D (kk _ _ _ T hl)

theorem pm_o_ishr (F : pm_Fr y d p R s m args meth c) (T : pm_At G s w H locs) (hl : lv_has ls (pm_ml y) (pm_ph G L)) (hd : pm_code y pc = some (.ishr, k)) (h : pm_op (some G.2.2.2.2) (pm_own y) (pm_ml y) (pm_ini y) (.ishr) pc L st w = some (pc', L', st', w')) (hc : w'.2.1 - c0 ≤ R.cells) (hs : w'.2.2 - s0 ≤ R.slots) (hc0 : c0 ≤ w.2.1) (hs0 : s0 ≤ w.2.2) (kk : pm_Nx p l e R s m args below meth c Q y c0 s0 G pc' L' st' w') : W p l e R s m args below meth c H locs (w.2.1 - c0) (w.2.2 - s0) Q (F0 m pc ls (st.map (pm_v G))) := by
  have D := pm_dec hd 1 rfl (by decide)
  obtain ⟨hx, hb, hr, hml, hown, hts, hlk, hnm, hfr, hlo, hy⟩ := F
  obtain ⟨x, x2, rest, rfl, rfl, rfl, rfl, rfl⟩ := pm_bin_eq h
  exact lv_ishr hx hb D (kk _ _ _ T hl)

theorem pm_o_ladd (F : pm_Fr y d p R s m args meth c) (T : pm_At G s w H locs) (hl : lv_has ls (pm_ml y) (pm_ph G L)) (hd : pm_code y pc = some (.ladd, k)) (h : pm_op (some G.2.2.2.2) (pm_own y) (pm_ml y) (pm_ini y) (.ladd) pc L st w = some (pc', L', st', w')) (hc : w'.2.1 - c0 ≤ R.cells) (hs : w'.2.2 - s0 ≤ R.slots) (hc0 : c0 ≤ w.2.1) (hs0 : s0 ≤ w.2.2) (kk : pm_Nx p l e R s m args below meth c Q y c0 s0 G pc' L' st' w') : W p l e R s m args below meth c H locs (w.2.1 - c0) (w.2.2 - s0) Q (F0 m pc ls (st.map (pm_v G))) := by
  have D := pm_dec hd 1 rfl (by decide)
  obtain ⟨hx, hb, hr, hml, hown, hts, hlk, hnm, hfr, hlo, hy⟩ := F
  obtain ⟨x, x2, rest, rfl, rfl, rfl, rfl, rfl⟩ := pm_binJ_eq h
  exact lv_ladd hx hb D (kk _ _ _ T hl)

theorem pm_o_lsub (F : pm_Fr y d p R s m args meth c) (T : pm_At G s w H locs) (hl : lv_has ls (pm_ml y) (pm_ph G L)) (hd : pm_code y pc = some (.lsub, k)) (h : pm_op (some G.2.2.2.2) (pm_own y) (pm_ml y) (pm_ini y) (.lsub) pc L st w = some (pc', L', st', w')) (hc : w'.2.1 - c0 ≤ R.cells) (hs : w'.2.2 - s0 ≤ R.slots) (hc0 : c0 ≤ w.2.1) (hs0 : s0 ≤ w.2.2) (kk : pm_Nx p l e R s m args below meth c Q y c0 s0 G pc' L' st' w') : W p l e R s m args below meth c H locs (w.2.1 - c0) (w.2.2 - s0) Q (F0 m pc ls (st.map (pm_v G))) := by
  have D := pm_dec hd 1 rfl (by decide)
  obtain ⟨hx, hb, hr, hml, hown, hts, hlk, hnm, hfr, hlo, hy⟩ := F
  obtain ⟨x, x2, rest, rfl, rfl, rfl, rfl, rfl⟩ := pm_binJ_eq h
  exact lv_lsub hx hb D (kk _ _ _ T hl)

theorem pm_o_lmul (F : pm_Fr y d p R s m args meth c) (T : pm_At G s w H locs) (hl : lv_has ls (pm_ml y) (pm_ph G L)) (hd : pm_code y pc = some (.lmul, k)) (h : pm_op (some G.2.2.2.2) (pm_own y) (pm_ml y) (pm_ini y) (.lmul) pc L st w = some (pc', L', st', w')) (hc : w'.2.1 - c0 ≤ R.cells) (hs : w'.2.2 - s0 ≤ R.slots) (hc0 : c0 ≤ w.2.1) (hs0 : s0 ≤ w.2.2) (kk : pm_Nx p l e R s m args below meth c Q y c0 s0 G pc' L' st' w') : W p l e R s m args below meth c H locs (w.2.1 - c0) (w.2.2 - s0) Q (F0 m pc ls (st.map (pm_v G))) := by
  have D := pm_dec hd 1 rfl (by decide)
  obtain ⟨hx, hb, hr, hml, hown, hts, hlk, hnm, hfr, hlo, hy⟩ := F
  obtain ⟨x, x2, rest, rfl, rfl, rfl, rfl, rfl⟩ := pm_binJ_eq h
  exact lv_lmul hx hb D (kk _ _ _ T hl)

theorem pm_o_land (F : pm_Fr y d p R s m args meth c) (T : pm_At G s w H locs) (hl : lv_has ls (pm_ml y) (pm_ph G L)) (hd : pm_code y pc = some (.land, k)) (h : pm_op (some G.2.2.2.2) (pm_own y) (pm_ml y) (pm_ini y) (.land) pc L st w = some (pc', L', st', w')) (hc : w'.2.1 - c0 ≤ R.cells) (hs : w'.2.2 - s0 ≤ R.slots) (hc0 : c0 ≤ w.2.1) (hs0 : s0 ≤ w.2.2) (kk : pm_Nx p l e R s m args below meth c Q y c0 s0 G pc' L' st' w') : W p l e R s m args below meth c H locs (w.2.1 - c0) (w.2.2 - s0) Q (F0 m pc ls (st.map (pm_v G))) := by
  have D := pm_dec hd 1 rfl (by decide)
  obtain ⟨hx, hb, hr, hml, hown, hts, hlk, hnm, hfr, hlo, hy⟩ := F
  obtain ⟨x, x2, rest, rfl, rfl, rfl, rfl, rfl⟩ := pm_binJ_eq h
  exact lv_land hx hb D (kk _ _ _ T hl)

theorem pm_o_lor (F : pm_Fr y d p R s m args meth c) (T : pm_At G s w H locs) (hl : lv_has ls (pm_ml y) (pm_ph G L)) (hd : pm_code y pc = some (.lor, k)) (h : pm_op (some G.2.2.2.2) (pm_own y) (pm_ml y) (pm_ini y) (.lor) pc L st w = some (pc', L', st', w')) (hc : w'.2.1 - c0 ≤ R.cells) (hs : w'.2.2 - s0 ≤ R.slots) (hc0 : c0 ≤ w.2.1) (hs0 : s0 ≤ w.2.2) (kk : pm_Nx p l e R s m args below meth c Q y c0 s0 G pc' L' st' w') : W p l e R s m args below meth c H locs (w.2.1 - c0) (w.2.2 - s0) Q (F0 m pc ls (st.map (pm_v G))) := by
  have D := pm_dec hd 1 rfl (by decide)
  obtain ⟨hx, hb, hr, hml, hown, hts, hlk, hnm, hfr, hlo, hy⟩ := F
  obtain ⟨x, x2, rest, rfl, rfl, rfl, rfl, rfl⟩ := pm_binJ_eq h
  exact lv_lor hx hb D (kk _ _ _ T hl)

theorem pm_o_lxor (F : pm_Fr y d p R s m args meth c) (T : pm_At G s w H locs) (hl : lv_has ls (pm_ml y) (pm_ph G L)) (hd : pm_code y pc = some (.lxor, k)) (h : pm_op (some G.2.2.2.2) (pm_own y) (pm_ml y) (pm_ini y) (.lxor) pc L st w = some (pc', L', st', w')) (hc : w'.2.1 - c0 ≤ R.cells) (hs : w'.2.2 - s0 ≤ R.slots) (hc0 : c0 ≤ w.2.1) (hs0 : s0 ≤ w.2.2) (kk : pm_Nx p l e R s m args below meth c Q y c0 s0 G pc' L' st' w') : W p l e R s m args below meth c H locs (w.2.1 - c0) (w.2.2 - s0) Q (F0 m pc ls (st.map (pm_v G))) := by
  have D := pm_dec hd 1 rfl (by decide)
  obtain ⟨hx, hb, hr, hml, hown, hts, hlk, hnm, hfr, hlo, hy⟩ := F
  obtain ⟨x, x2, rest, rfl, rfl, rfl, rfl, rfl⟩ := pm_binJ_eq h
  exact lv_lxor hx hb D (kk _ _ _ T hl)

theorem pm_o_idiv (F : pm_Fr y d p R s m args meth c) (T : pm_At G s w H locs) (hl : lv_has ls (pm_ml y) (pm_ph G L)) (hd : pm_code y pc = some (.idiv, k)) (h : pm_op (some G.2.2.2.2) (pm_own y) (pm_ml y) (pm_ini y) (.idiv) pc L st w = some (pc', L', st', w')) (hc : w'.2.1 - c0 ≤ R.cells) (hs : w'.2.2 - s0 ≤ R.slots) (hc0 : c0 ≤ w.2.1) (hs0 : s0 ≤ w.2.2) (kk : pm_Nx p l e R s m args below meth c Q y c0 s0 G pc' L' st' w') : W p l e R s m args below meth c H locs (w.2.1 - c0) (w.2.2 - s0) Q (F0 m pc ls (st.map (pm_v G))) := by
  have D := pm_dec hd 1 rfl (by decide)
  obtain ⟨hx, hb, hr, hml, hown, hts, hlk, hnm, hfr, hlo, hy⟩ := F
  unfold pm_op at h
  dsimp only at h
  split at h
  · obtain ⟨h1, h⟩ := pm_cf h
    cases h
    exact lv_idiv hx hb D (of_decide_eq_false h1) (kk _ _ _ T hl)
  · cases h

theorem pm_o_irem (F : pm_Fr y d p R s m args meth c) (T : pm_At G s w H locs) (hl : lv_has ls (pm_ml y) (pm_ph G L)) (hd : pm_code y pc = some (.irem, k)) (h : pm_op (some G.2.2.2.2) (pm_own y) (pm_ml y) (pm_ini y) (.irem) pc L st w = some (pc', L', st', w')) (hc : w'.2.1 - c0 ≤ R.cells) (hs : w'.2.2 - s0 ≤ R.slots) (hc0 : c0 ≤ w.2.1) (hs0 : s0 ≤ w.2.2) (kk : pm_Nx p l e R s m args below meth c Q y c0 s0 G pc' L' st' w') : W p l e R s m args below meth c H locs (w.2.1 - c0) (w.2.2 - s0) Q (F0 m pc ls (st.map (pm_v G))) := by
  have D := pm_dec hd 1 rfl (by decide)
  obtain ⟨hx, hb, hr, hml, hown, hts, hlk, hnm, hfr, hlo, hy⟩ := F
  unfold pm_op at h
  dsimp only at h
  split at h
  · obtain ⟨h1, h⟩ := pm_cf h
    cases h
    exact lv_irem hx hb D (of_decide_eq_false h1) (kk _ _ _ T hl)
  · cases h

theorem pm_o_lshl (F : pm_Fr y d p R s m args meth c) (T : pm_At G s w H locs) (hl : lv_has ls (pm_ml y) (pm_ph G L)) (hd : pm_code y pc = some (.lshl, k)) (h : pm_op (some G.2.2.2.2) (pm_own y) (pm_ml y) (pm_ini y) (.lshl) pc L st w = some (pc', L', st', w')) (hc : w'.2.1 - c0 ≤ R.cells) (hs : w'.2.2 - s0 ≤ R.slots) (hc0 : c0 ≤ w.2.1) (hs0 : s0 ≤ w.2.2) (kk : pm_Nx p l e R s m args below meth c Q y c0 s0 G pc' L' st' w') : W p l e R s m args below meth c H locs (w.2.1 - c0) (w.2.2 - s0) Q (F0 m pc ls (st.map (pm_v G))) := by
  have D := pm_dec hd 1 rfl (by decide)
  obtain ⟨hx, hb, hr, hml, hown, hts, hlk, hnm, hfr, hlo, hy⟩ := F
  unfold pm_op at h
  dsimp only at h
  split at h
  · cases h
    exact lv_lshl hx hb D rfl (kk _ _ _ T hl)
  · cases h

theorem pm_o_lcmp (F : pm_Fr y d p R s m args meth c) (T : pm_At G s w H locs) (hl : lv_has ls (pm_ml y) (pm_ph G L)) (hd : pm_code y pc = some (.lcmp, k)) (h : pm_op (some G.2.2.2.2) (pm_own y) (pm_ml y) (pm_ini y) (.lcmp) pc L st w = some (pc', L', st', w')) (hc : w'.2.1 - c0 ≤ R.cells) (hs : w'.2.2 - s0 ≤ R.slots) (hc0 : c0 ≤ w.2.1) (hs0 : s0 ≤ w.2.2) (kk : pm_Nx p l e R s m args below meth c Q y c0 s0 G pc' L' st' w') : W p l e R s m args below meth c H locs (w.2.1 - c0) (w.2.2 - s0) Q (F0 m pc ls (st.map (pm_v G))) := by
  have D := pm_dec hd 1 rfl (by decide)
  obtain ⟨hx, hb, hr, hml, hown, hts, hlk, hnm, hfr, hlo, hy⟩ := F
  unfold pm_op at h
  dsimp only at h
  split at h
  · cases h
    exact W.lcmp hx hb D (kk _ _ _ T hl)
  · cases h

theorem pm_o_i2l (F : pm_Fr y d p R s m args meth c) (T : pm_At G s w H locs) (hl : lv_has ls (pm_ml y) (pm_ph G L)) (hd : pm_code y pc = some (.i2l, k)) (h : pm_op (some G.2.2.2.2) (pm_own y) (pm_ml y) (pm_ini y) (.i2l) pc L st w = some (pc', L', st', w')) (hc : w'.2.1 - c0 ≤ R.cells) (hs : w'.2.2 - s0 ≤ R.slots) (hc0 : c0 ≤ w.2.1) (hs0 : s0 ≤ w.2.2) (kk : pm_Nx p l e R s m args below meth c Q y c0 s0 G pc' L' st' w') : W p l e R s m args below meth c H locs (w.2.1 - c0) (w.2.2 - s0) Q (F0 m pc ls (st.map (pm_v G))) := by
  have D := pm_dec hd 1 rfl (by decide)
  obtain ⟨hx, hb, hr, hml, hown, hts, hlk, hnm, hfr, hlo, hy⟩ := F
  unfold pm_op at h
  dsimp only at h
  split at h
  · cases h
    exact lv_i2l hx hb D rfl (kk _ _ _ T hl)
  · cases h

theorem pm_o_l2i (F : pm_Fr y d p R s m args meth c) (T : pm_At G s w H locs) (hl : lv_has ls (pm_ml y) (pm_ph G L)) (hd : pm_code y pc = some (.l2i, k)) (h : pm_op (some G.2.2.2.2) (pm_own y) (pm_ml y) (pm_ini y) (.l2i) pc L st w = some (pc', L', st', w')) (hc : w'.2.1 - c0 ≤ R.cells) (hs : w'.2.2 - s0 ≤ R.slots) (hc0 : c0 ≤ w.2.1) (hs0 : s0 ≤ w.2.2) (kk : pm_Nx p l e R s m args below meth c Q y c0 s0 G pc' L' st' w') : W p l e R s m args below meth c H locs (w.2.1 - c0) (w.2.2 - s0) Q (F0 m pc ls (st.map (pm_v G))) := by
  have D := pm_dec hd 1 rfl (by decide)
  obtain ⟨hx, hb, hr, hml, hown, hts, hlk, hnm, hfr, hlo, hy⟩ := F
  unfold pm_op at h
  dsimp only at h
  split at h
  · cases h
    exact lv_l2i hx hb D rfl (kk _ _ _ T hl)
  · cases h

theorem pm_o_i2b (F : pm_Fr y d p R s m args meth c) (T : pm_At G s w H locs) (hl : lv_has ls (pm_ml y) (pm_ph G L)) (hd : pm_code y pc = some (.i2b, k)) (h : pm_op (some G.2.2.2.2) (pm_own y) (pm_ml y) (pm_ini y) (.i2b) pc L st w = some (pc', L', st', w')) (hc : w'.2.1 - c0 ≤ R.cells) (hs : w'.2.2 - s0 ≤ R.slots) (hc0 : c0 ≤ w.2.1) (hs0 : s0 ≤ w.2.2) (kk : pm_Nx p l e R s m args below meth c Q y c0 s0 G pc' L' st' w') : W p l e R s m args below meth c H locs (w.2.1 - c0) (w.2.2 - s0) Q (F0 m pc ls (st.map (pm_v G))) := by
  have D := pm_dec hd 1 rfl (by decide)
  obtain ⟨hx, hb, hr, hml, hown, hts, hlk, hnm, hfr, hlo, hy⟩ := F
  unfold pm_op at h
  dsimp only at h
  split at h
  · cases h
    exact lv_i2b hx hb D rfl (kk _ _ _ T hl)
  · cases h

theorem pm_o_pop (F : pm_Fr y d p R s m args meth c) (T : pm_At G s w H locs) (hl : lv_has ls (pm_ml y) (pm_ph G L)) (hd : pm_code y pc = some (.pop, k)) (h : pm_op (some G.2.2.2.2) (pm_own y) (pm_ml y) (pm_ini y) (.pop) pc L st w = some (pc', L', st', w')) (hc : w'.2.1 - c0 ≤ R.cells) (hs : w'.2.2 - s0 ≤ R.slots) (hc0 : c0 ≤ w.2.1) (hs0 : s0 ≤ w.2.2) (kk : pm_Nx p l e R s m args below meth c Q y c0 s0 G pc' L' st' w') : W p l e R s m args below meth c H locs (w.2.1 - c0) (w.2.2 - s0) Q (F0 m pc ls (st.map (pm_v G))) := by
  have D := pm_dec hd 1 rfl (by decide)
  obtain ⟨hx, hb, hr, hml, hown, hts, hlk, hnm, hfr, hlo, hy⟩ := F
  unfold pm_op at h
  dsimp only at h
  split at h
  · cases h
    exact lv_pop hx hb D rfl (kk _ _ _ T hl)
  · cases h

theorem pm_o_pop2 (F : pm_Fr y d p R s m args meth c) (T : pm_At G s w H locs) (hl : lv_has ls (pm_ml y) (pm_ph G L)) (hd : pm_code y pc = some (.pop2, k)) (h : pm_op (some G.2.2.2.2) (pm_own y) (pm_ml y) (pm_ini y) (.pop2) pc L st w = some (pc', L', st', w')) (hc : w'.2.1 - c0 ≤ R.cells) (hs : w'.2.2 - s0 ≤ R.slots) (hc0 : c0 ≤ w.2.1) (hs0 : s0 ≤ w.2.2) (kk : pm_Nx p l e R s m args below meth c Q y c0 s0 G pc' L' st' w') : W p l e R s m args below meth c H locs (w.2.1 - c0) (w.2.2 - s0) Q (F0 m pc ls (st.map (pm_v G))) := by
  have D := pm_dec hd 1 rfl (by decide)
  obtain ⟨hx, hb, hr, hml, hown, hts, hlk, hnm, hfr, hlo, hy⟩ := F
  unfold pm_op at h
  dsimp only at h
  split at h
  · cases h
    exact lv_pop2_2 hx hb D rfl (kk _ _ _ T hl)
  · cases h

theorem pm_o_dup2 (F : pm_Fr y d p R s m args meth c) (T : pm_At G s w H locs) (hl : lv_has ls (pm_ml y) (pm_ph G L)) (hd : pm_code y pc = some (.dup2, k)) (h : pm_op (some G.2.2.2.2) (pm_own y) (pm_ml y) (pm_ini y) (.dup2) pc L st w = some (pc', L', st', w')) (hc : w'.2.1 - c0 ≤ R.cells) (hs : w'.2.2 - s0 ≤ R.slots) (hc0 : c0 ≤ w.2.1) (hs0 : s0 ≤ w.2.2) (kk : pm_Nx p l e R s m args below meth c Q y c0 s0 G pc' L' st' w') : W p l e R s m args below meth c H locs (w.2.1 - c0) (w.2.2 - s0) Q (F0 m pc ls (st.map (pm_v G))) := by
  have D := pm_dec hd 1 rfl (by decide)
  obtain ⟨hx, hb, hr, hml, hown, hts, hlk, hnm, hfr, hlo, hy⟩ := F
  unfold pm_op at h
  dsimp only at h
  split at h
  · cases h
    exact lv_dup2_11 hx hb D rfl rfl (kk _ _ _ T hl)
  · cases h

theorem pm_o_dup (F : pm_Fr y d p R s m args meth c) (T : pm_At G s w H locs) (hl : lv_has ls (pm_ml y) (pm_ph G L)) (hd : pm_code y pc = some (.dup, k)) (h : pm_op (some G.2.2.2.2) (pm_own y) (pm_ml y) (pm_ini y) (.dup) pc L st w = some (pc', L', st', w')) (hc : w'.2.1 - c0 ≤ R.cells) (hs : w'.2.2 - s0 ≤ R.slots) (hc0 : c0 ≤ w.2.1) (hs0 : s0 ≤ w.2.2) (kk : pm_Nx p l e R s m args below meth c Q y c0 s0 G pc' L' st' w') : W p l e R s m args below meth c H locs (w.2.1 - c0) (w.2.2 - s0) Q (F0 m pc ls (st.map (pm_v G))) := by
  have D := pm_dec hd 1 rfl (by decide)
  obtain ⟨hx, hb, hr, hml, hown, hts, hlk, hnm, hfr, hlo, hy⟩ := F
  unfold pm_op at h
  dsimp only at h
  split at h
  · cases h
    exact lv_dup hx hb D rfl (kk _ _ _ T hl)
  · cases h
    exact lv_dup hx hb D rfl (kk _ _ _ T hl)
  · cases h

theorem pm_o_ifCond {cd : ClassFile.Cond} {off : Int} (F : pm_Fr y d p R s m args meth c) (T : pm_At G s w H locs) (hl : lv_has ls (pm_ml y) (pm_ph G L)) (hd : pm_code y pc = some (.ifCond cd off, k)) (h : pm_op (some G.2.2.2.2) (pm_own y) (pm_ml y) (pm_ini y) (.ifCond cd off) pc L st w = some (pc', L', st', w')) (hc : w'.2.1 - c0 ≤ R.cells) (hs : w'.2.2 - s0 ≤ R.slots) (hc0 : c0 ≤ w.2.1) (hs0 : s0 ≤ w.2.2) (kk : pm_Nx p l e R s m args below meth c Q y c0 s0 G pc' L' st' w') : W p l e R s m args below meth c H locs (w.2.1 - c0) (w.2.2 - s0) Q (F0 m pc ls (st.map (pm_v G))) := by
  have D := pm_dec hd 3 rfl (by decide)
  obtain ⟨hx, hb, hr, hml, hown, hts, hlk, hnm, hfr, hlo, hy⟩ := F
  unfold pm_op at h
  dsimp only at h
  split at h
  · obtain ⟨h1, h⟩ := pm_ct h
    cases h
    exact pm_br_if hx hb D (of_decide_eq_true h1) (kk _ _ _ T hl)
  · cases h

theorem pm_o_if_icmp {cd : ClassFile.Cond} {off : Int} (F : pm_Fr y d p R s m args meth c) (T : pm_At G s w H locs) (hl : lv_has ls (pm_ml y) (pm_ph G L)) (hd : pm_code y pc = some (.if_icmp cd off, k)) (h : pm_op (some G.2.2.2.2) (pm_own y) (pm_ml y) (pm_ini y) (.if_icmp cd off) pc L st w = some (pc', L', st', w')) (hc : w'.2.1 - c0 ≤ R.cells) (hs : w'.2.2 - s0 ≤ R.slots) (hc0 : c0 ≤ w.2.1) (hs0 : s0 ≤ w.2.2) (kk : pm_Nx p l e R s m args below meth c Q y c0 s0 G pc' L' st' w') : W p l e R s m args below meth c H locs (w.2.1 - c0) (w.2.2 - s0) Q (F0 m pc ls (st.map (pm_v G))) := by
  have D := pm_dec hd 3 rfl (by decide)
  obtain ⟨hx, hb, hr, hml, hown, hts, hlk, hnm, hfr, hlo, hy⟩ := F
  unfold pm_op at h
  dsimp only at h
  split at h
  · obtain ⟨h1, h⟩ := pm_ct h
    cases h
    exact pm_br_icmp hx hb D (of_decide_eq_true h1) (kk _ _ _ T hl)
  · cases h

theorem pm_o_goto {off : Int} (F : pm_Fr y d p R s m args meth c) (T : pm_At G s w H locs) (hl : lv_has ls (pm_ml y) (pm_ph G L)) (hd : pm_code y pc = some (.goto off, k)) (h : pm_op (some G.2.2.2.2) (pm_own y) (pm_ml y) (pm_ini y) (.goto off) pc L st w = some (pc', L', st', w')) (hc : w'.2.1 - c0 ≤ R.cells) (hs : w'.2.2 - s0 ≤ R.slots) (hc0 : c0 ≤ w.2.1) (hs0 : s0 ≤ w.2.2) (kk : pm_Nx p l e R s m args below meth c Q y c0 s0 G pc' L' st' w') : W p l e R s m args below meth c H locs (w.2.1 - c0) (w.2.2 - s0) Q (F0 m pc ls (st.map (pm_v G))) := by
  have D := pm_dec hd 3 rfl (by decide)
  obtain ⟨hx, hb, hr, hml, hown, hts, hlk, hnm, hfr, hlo, hy⟩ := F
  unfold pm_op at h
  dsimp only at h
  obtain ⟨h1, h⟩ := pm_ct h
  cases h
  exact lv_goto hx hb D (of_decide_eq_true h1) (kk _ _ _ T hl)

theorem pm_o_tableswitch {dflt lo hi : Int} {offs : Array Int} (F : pm_Fr y d p R s m args meth c) (T : pm_At G s w H locs) (hl : lv_has ls (pm_ml y) (pm_ph G L)) (hd : pm_code y pc = some (.tableswitch dflt lo hi offs, k)) (h : pm_op (some G.2.2.2.2) (pm_own y) (pm_ml y) (pm_ini y) (.tableswitch dflt lo hi offs) pc L st w = some (pc', L', st', w')) (hc : w'.2.1 - c0 ≤ R.cells) (hs : w'.2.2 - s0 ≤ R.slots) (hc0 : c0 ≤ w.2.1) (hs0 : s0 ≤ w.2.2) (kk : pm_Nx p l e R s m args below meth c Q y c0 s0 G pc' L' st' w') : W p l e R s m args below meth c H locs (w.2.1 - c0) (w.2.2 - s0) Q (F0 m pc ls (st.map (pm_v G))) := by
  obtain ⟨hx, hb, hr, hml, hown, hts, hlk, hnm, hfr, hlo, hy⟩ := F
  have D := pm_code_ok hd
  unfold pm_op at h
  dsimp only at h
  split at h
  · next x rest =>
    cases g : decide (x.toInt < lo ∨ hi < x.toInt) with
    | true =>
      rw [g] at h
      obtain ⟨h1, h⟩ := pm_ct h
      cases h
      exact lv_tableOut hx hb D (of_decide_eq_true g) (of_decide_eq_true h1) (kk _ _ _ T hl)
    | false =>
      rw [g] at h
      have g' := of_decide_eq_false g
      dsimp only [cond] at h
      split at h
      · next off ho =>
        obtain ⟨h1, h⟩ := pm_ct h
        cases h
        exact lv_tableIn hx hb D (fun z => g' (Or.inl z)) (fun z => g' (Or.inr z)) (by rw [← Array.getElem?_toList]; exact ho) (of_decide_eq_true h1) (kk _ _ _ T hl)
      · cases h
  · cases h

theorem pm_o_lookupswitch {dflt : Int} {ps : Array (Int × Int)} (F : pm_Fr y d p R s m args meth c) (T : pm_At G s w H locs) (hl : lv_has ls (pm_ml y) (pm_ph G L)) (hd : pm_code y pc = some (.lookupswitch dflt ps, k)) (h : pm_op (some G.2.2.2.2) (pm_own y) (pm_ml y) (pm_ini y) (.lookupswitch dflt ps) pc L st w = some (pc', L', st', w')) (hc : w'.2.1 - c0 ≤ R.cells) (hs : w'.2.2 - s0 ≤ R.slots) (hc0 : c0 ≤ w.2.1) (hs0 : s0 ≤ w.2.2) (kk : pm_Nx p l e R s m args below meth c Q y c0 s0 G pc' L' st' w') : W p l e R s m args below meth c H locs (w.2.1 - c0) (w.2.2 - s0) Q (F0 m pc ls (st.map (pm_v G))) := by
  obtain ⟨hx, hb, hr, hml, hown, hts, hlk, hnm, hfr, hlo, hy⟩ := F
  have D := pm_code_ok hd
  unfold pm_op at h
  dsimp only at h
  split at h
  · next x rest =>
    obtain ⟨h1, h⟩ := pm_ct h
    obtain ⟨h2, h⟩ := pm_ct h
    cases h
    exact lv_lookup hx hb D h1 rfl (of_decide_eq_true h2) (kk _ _ _ T hl)
  · cases h

theorem pm_o_getfield {j : Nat} (F : pm_Fr y d p R s m args meth c) (T : pm_At G s w H locs) (hl : lv_has ls (pm_ml y) (pm_ph G L)) (hd : pm_code y pc = some (.getfield j, k)) (h : pm_op (some G.2.2.2.2) (pm_own y) (pm_ml y) (pm_ini y) (.getfield j) pc L st w = some (pc', L', st', w')) (hc : w'.2.1 - c0 ≤ R.cells) (hs : w'.2.2 - s0 ≤ R.slots) (hc0 : c0 ≤ w.2.1) (hs0 : s0 ≤ w.2.2) (kk : pm_Nx p l e R s m args below meth c Q y c0 s0 G pc' L' st' w') : W p l e R s m args below meth c H locs (w.2.1 - c0) (w.2.2 - s0) Q (F0 m pc ls (st.map (pm_v G))) := by
  have D := pm_dec hd 3 rfl (by decide)
  obtain ⟨hx, hb, hr, hml, hown, hts, hlk, hnm, hfr, hlo, hy⟩ := F
  unfold pm_op at h
  dsimp only at h
  split at h
  · next r rest =>
    split at h
    · next a cc q pl hv =>
      split at h
      · next c' fs hg =>
        obtain ⟨h1, h⟩ := pm_ct h
        rw [← Nat.eq_of_beq_eq_true h1] at hg
        split at h
        · next v hf =>
          cases h
          obtain ⟨w1, w2, w3⟩ := pm_F_words hy hv
          have O := pm_O_words w1
          refine va_get hx hb (T := pm_clT cc) hts (pm_uws w1) hown T.1 (pm_cell T.2.1 hg) 0 rfl O.2.1 q w2 (hts _ (pm_gw_in w3 rfl)) (fun x hx2 => by rw [(O.2.2.1 q w2).2.1] at hx2; rw [(O.2.2.1 q w2).2.1]; rw [(O.2.2.1 q w2).2.2.2] at hx2; exact hx2) (v := pm_v G v) (by rw [List.getElem?_map, hf]; rfl) D (kk _ _ _ T hl)
        · cases h
      · cases h
    · cases h
  · cases h

theorem pm_o_putfield {j : Nat} (F : pm_Fr y d p R s m args meth c) (T : pm_At G s w H locs) (hl : lv_has ls (pm_ml y) (pm_ph G L)) (hd : pm_code y pc = some (.putfield j, k)) (h : pm_op (some G.2.2.2.2) (pm_own y) (pm_ml y) (pm_ini y) (.putfield j) pc L st w = some (pc', L', st', w')) (hc : w'.2.1 - c0 ≤ R.cells) (hs : w'.2.2 - s0 ≤ R.slots) (hc0 : c0 ≤ w.2.1) (hs0 : s0 ≤ w.2.2) (kk : pm_Nx p l e R s m args below meth c Q y c0 s0 G pc' L' st' w') : W p l e R s m args below meth c H locs (w.2.1 - c0) (w.2.2 - s0) Q (F0 m pc ls (st.map (pm_v G))) := by
  have D := pm_dec hd 3 rfl (by decide)
  obtain ⟨hx, hb, hr, hml, hown, hts, hlk, hnm, hfr, hlo, hy⟩ := F
  unfold pm_op at h
  dsimp only at h
  split at h
  · next v r rest =>
    split at h
    · next a cc q pl hv =>
      split at h
      · next c' fs hg =>
        obtain ⟨h1, h⟩ := pm_ct h
        cases h
        rw [Bool.and_eq_true, Bool.and_eq_true, Bool.and_eq_true, Bool.or_eq_true] at h1
        obtain ⟨⟨⟨h1, h2⟩, h3⟩, h4⟩ := h1
        have hcc := Nat.eq_of_beq_eq_true h1
        rw [← hcc] at hg kk
        obtain ⟨w1, w2, w3⟩ := pm_F_words hy hv
        have O := pm_O_words w1
        have OT := O.2.2.1 q w2
        have hq : q < fs.length := Nat.le_of_ble_eq_true h2
        obtain ⟨n1, n2⟩ := pm_okv_n G h3
        have hsame : ∀ x, s.fieldFound? (pm_clT cc q).1 (pm_clT cc q).2.1 (pm_clT cc q).2.2.1 = some x → s.fieldFound? (pm_nm cc) (pm_clT cc q).2.1 (pm_clT cc q).2.2.1 = some x := fun x hx2 => by
          rw [OT.2.1] at hx2 ⊢
          rw [OT.2.2.2] at hx2
          exact hx2
        have hap := va_apart (own := pm_nm cc) (D := G.2.2.2.1) (cl := pm_cl) (tys := pm_tys G) (ci := cc) hts (pm_uws w1) (fun k => (pm_Ts cc).getD k .int) (fun k hk => by rw [(O.2.2.1 k hk).2.1]; exact (O.2.2.1 k hk).2.2.1) (fun a ha b hb2 hne => by rw [(O.2.2.1 a ha).2.1, (O.2.2.1 b hb2).2.1]; exact O.2.2.2.1 a ha b hb2 hne) T.1 O.2.1
        have hdesc : parseFieldDescriptor (pm_clT cc q).2.2.1 = some ((pm_Ts cc).getD q .int) := by rw [OT.2.1]; exact OT.2.2.1
        obtain ⟨r', e1, cell, q1, q2, q3, q4⟩ := pm_cell T.2.1 hg 0 _ rfl
        have hr' : r' = (pm_nm cc, pm_clT cc, (pm_Fs cc).length) := Option.some.inj (e1.symm.trans O.2.1)
        subst hr'
        obtain ⟨hS, hfc, kC, hkC, hkind⟩ := T.1.1 cc _ O.2.1
        obtain ⟨cf, kf, fi, f, hi, hsl⟩ := hS q w2
        have hst := (u_facts hfc hkC (u_lays hts (pm_uws w1) w2) hi).1
        have done : ∀ (H' : Heap), H'[pm_al G r]? = some (cell.setSlot f.slot (pm_v G v)) → H'.size = H.size → (∀ z, z ≠ pm_al G r → H'[z]? = H[z]?) → W p l e R s m args below meth c H' (locs ++ [⟨pm_al G r, f.slot⟩]) (w.2.1 - c0) (w.2.2 - s0) Q (F0 m (pc + 3) ls (st'.map (pm_v G))) := by
          intro H' e1 e2 e3
          rw [hsl] at e1 ⊢
          refine kk H' _ ls ⟨T.1, T.2.1.put hg e2 e3 ⟨_, O.2.1, ?_⟩, T.2.2.1.put e2 e3 (pm_al_A T.2.1 hg), T.2.2.2⟩ hl
          show t_OB _ _ _ _ _ (vp_V ((fs.set q v).map (pm_v G)))
          rw [List.map_set]
          exact t_OB.to (V := updV (vp_V (fs.map (pm_v G))) q (pm_v G v)) ⟨_, e1, q2, q3, t_set q4 hap w2 (pm_v G v)⟩ (fun j _ => vp_updV_set (by rw [List.length_map]; exact hq) (pm_v G v) j)
        by_cases hfin : (pm_clT cc q).2.2.2 = true
        · have h5 : ((pm_ini y) && Nat.beq cc (pm_own y)) = true := by
            rcases h4 with h4 | h4
            · rw [← OT.2.1, hfin] at h4
              cases h4
            · exact h4
          rw [Bool.and_eq_true] at h5
          have hlay := hts _ (pm_uws w1 _ (u_in_lay w2))
          unfold u_lay at hlay
          rw [if_pos hfin] at hlay
          have ho2 : pm_nm cc = pm_on (pm_own y) := by
            rw [← Nat.eq_of_beq_eq_true h5.2]
            unfold pm_on
            rw [pm_beq_f (by omega)]
            rfl
          have hcf : m.cls = cf := by
            obtain ⟨_, _, c', _, _, _, -, -, hf', -, -, -, hown2, -⟩ := Cond.laysFinal_spec hlay
            have e1 : c' = cf := by have := hi.symm.trans hf'; simp at this; exact this.1.symm
            rw [OT.2.1, OT.2.2.2, ho2] at hown2
            rw [← e1]; exact Option.some.inj (hown.symm.trans hown2)
          exact W.putFinK hx hb hown (hts _ (pm_gw_in w3 rfl)) (hsame _ hi) hst hcf (hnm h5.1) (by rw [q2]; exact u_fits hfc hkC hkind (Or.inr hlay) hi hdesc n1 n2) q1 q3 (by rw [hsl]; exact k2_hasslot (q4 q w2)) rfl rfl D done
        · have hlay := hts _ (pm_uws w1 _ (u_in_lay w2))
          unfold u_lay at hlay
          rw [if_neg hfin] at hlay
          exact W.putK hx hb (f := f) ⟨hown, hts _ (pm_gw_in w3 rfl), ⟨_, _, _, hsame _ hi⟩, hst⟩ (by rw [q2]; exact u_store hfc hkC hkind hlay hi hdesc n1 n2) q1 q3 (by rw [hsl]; exact k2_hasslot (q4 q w2)) rfl rfl D done
      · cases h
    · cases h
  · cases h

theorem pm_o_iaload (F : pm_Fr y d p R s m args meth c) (T : pm_At G s w H locs) (hl : lv_has ls (pm_ml y) (pm_ph G L)) (hd : pm_code y pc = some (.iaload, k)) (h : pm_op (some G.2.2.2.2) (pm_own y) (pm_ml y) (pm_ini y) (.iaload) pc L st w = some (pc', L', st', w')) (hc : w'.2.1 - c0 ≤ R.cells) (hs : w'.2.2 - s0 ≤ R.slots) (hc0 : c0 ≤ w.2.1) (hs0 : s0 ≤ w.2.2) (kk : pm_Nx p l e R s m args below meth c Q y c0 s0 G pc' L' st' w') : W p l e R s m args below meth c H locs (w.2.1 - c0) (w.2.2 - s0) Q (F0 m pc ls (st.map (pm_v G))) := by
  have D := pm_dec hd 1 rfl (by decide)
  obtain ⟨hx, hb, hr, hml, hown, hts, hlk, hnm, hfr, hlo, hy⟩ := F
  unfold pm_op at h
  dsimp only at h
  split at h
  · next i r rest =>
    cases gs : Nat.beq r pm_SC with
    | true =>
      rw [gs] at h
      dsimp only [cond] at h
      obtain ⟨h1, h⟩ := pm_ct h
      cases h
      have Z := T.2.2.2.2.2.2.2.2.2.2
      have ea : pm_v G (.ref r) = .ref (G.2.1 100) := by rw [Nat.eq_of_beq_eq_true gs]; rfl
      rw [List.map_cons, List.map_cons, ea]
      exact va_sld hx hb Z.1 (pm_Xlt Z.1) Z.2 T.2.2.1 (pm_in_ok h1) D (kk _ _ _ T hl)
    | false =>
      rw [gs] at h
      dsimp only [cond] at h
      split at h
      · next t n f hg =>
        obtain ⟨h1, h⟩ := pm_ct h
        cases h
        rw [Bool.and_eq_true] at h1
        rw [Nat.eq_of_beq_eq_true h1.1] at hg
        exact va_iald hx hb T.1 (pm_cell T.2.1 hg) 0 0 rfl (pm_tys_at (by decide)) (pm_in_ok h1.2) D (kk _ _ _ T hl)
      · cases h
  · cases h

theorem pm_o_laload (F : pm_Fr y d p R s m args meth c) (T : pm_At G s w H locs) (hl : lv_has ls (pm_ml y) (pm_ph G L)) (hd : pm_code y pc = some (.laload, k)) (h : pm_op (some G.2.2.2.2) (pm_own y) (pm_ml y) (pm_ini y) (.laload) pc L st w = some (pc', L', st', w')) (hc : w'.2.1 - c0 ≤ R.cells) (hs : w'.2.2 - s0 ≤ R.slots) (hc0 : c0 ≤ w.2.1) (hs0 : s0 ≤ w.2.2) (kk : pm_Nx p l e R s m args below meth c Q y c0 s0 G pc' L' st' w') : W p l e R s m args below meth c H locs (w.2.1 - c0) (w.2.2 - s0) Q (F0 m pc ls (st.map (pm_v G))) := by
  have D := pm_dec hd 1 rfl (by decide)
  obtain ⟨hx, hb, hr, hml, hown, hts, hlk, hnm, hfr, hlo, hy⟩ := F
  unfold pm_op at h
  dsimp only at h
  split at h
  · next i r rest =>
    split at h
    · next t n f hg =>
      obtain ⟨h1, h⟩ := pm_ct h
      cases h
      rw [Bool.and_eq_true] at h1
      rw [Nat.eq_of_beq_eq_true h1.1] at hg
      exact va_lald hx hb T.1 (pm_cell T.2.1 hg) 0 3 rfl (pm_tys_at (by decide)) (pm_in_ok h1.2) D (kk _ _ _ T hl)
    · cases h
  · cases h

theorem pm_o_baload (F : pm_Fr y d p R s m args meth c) (T : pm_At G s w H locs) (hl : lv_has ls (pm_ml y) (pm_ph G L)) (hd : pm_code y pc = some (.baload, k)) (h : pm_op (some G.2.2.2.2) (pm_own y) (pm_ml y) (pm_ini y) (.baload) pc L st w = some (pc', L', st', w')) (hc : w'.2.1 - c0 ≤ R.cells) (hs : w'.2.2 - s0 ≤ R.slots) (hc0 : c0 ≤ w.2.1) (hs0 : s0 ≤ w.2.2) (kk : pm_Nx p l e R s m args below meth c Q y c0 s0 G pc' L' st' w') : W p l e R s m args below meth c H locs (w.2.1 - c0) (w.2.2 - s0) Q (F0 m pc ls (st.map (pm_v G))) := by
  have D := pm_dec hd 1 rfl (by decide)
  obtain ⟨hx, hb, hr, hml, hown, hts, hlk, hnm, hfr, hlo, hy⟩ := F
  unfold pm_op at h
  dsimp only at h
  split at h
  · next i r rest =>
    split at h
    · next t n f hg =>
      obtain ⟨h1, h⟩ := pm_ct h
      cases h
      rw [Bool.and_eq_true] at h1
      rcases (Bool.or_eq_true _ _).mp h1.1 with z | z
      · rw [Nat.eq_of_beq_eq_true z] at hg
        exact va_bald hx hb T.1 (pm_cell T.2.1 hg) 0 1 rfl (pm_tys_at (by decide)) (pm_in_ok h1.2) D (kk _ _ _ T hl)
      · rw [Nat.eq_of_beq_eq_true z] at hg
        exact va_zald hx hb T.1 (pm_cell T.2.1 hg) 0 2 rfl (pm_tys_at (by decide)) (pm_in_ok h1.2) D (kk _ _ _ T hl)
    · cases h
  · cases h

theorem pm_o_aaload (F : pm_Fr y d p R s m args meth c) (T : pm_At G s w H locs) (hl : lv_has ls (pm_ml y) (pm_ph G L)) (hd : pm_code y pc = some (.aaload, k)) (h : pm_op (some G.2.2.2.2) (pm_own y) (pm_ml y) (pm_ini y) (.aaload) pc L st w = some (pc', L', st', w')) (hc : w'.2.1 - c0 ≤ R.cells) (hs : w'.2.2 - s0 ≤ R.slots) (hc0 : c0 ≤ w.2.1) (hs0 : s0 ≤ w.2.2) (kk : pm_Nx p l e R s m args below meth c Q y c0 s0 G pc' L' st' w') : W p l e R s m args below meth c H locs (w.2.1 - c0) (w.2.2 - s0) Q (F0 m pc ls (st.map (pm_v G))) := by
  have D := pm_dec hd 1 rfl (by decide)
  obtain ⟨hx, hb, hr, hml, hown, hts, hlk, hnm, hfr, hlo, hy⟩ := F
  unfold pm_op at h
  dsimp only at h
  split at h
  · next i r rest =>
    split at h
    · next t n f hg =>
      obtain ⟨h1, h⟩ := pm_ct h
      cases h
      rw [Bool.and_eq_true] at h1
      rw [Bool.and_eq_true] at h1
      have t1 : 3 < t := Nat.le_of_ble_eq_true h1.1.1
      have t2 : t < 8 := Nat.le_of_ble_eq_true h1.1.2
      have hty := pm_tys_at (G := G) t2
      rw [pm_ty_q t1] at hty
      have hk := kk _ _ _ T hl
      rw [List.map_cons, pm_rf_v] at hk
      exact va_aldq hx hb T.1 (pm_cell T.2.1 hg) 0 t rfl hty (pm_in_ok h1.2) D hk
    · cases h
  · cases h

theorem pm_o_iastore (F : pm_Fr y d p R s m args meth c) (T : pm_At G s w H locs) (hl : lv_has ls (pm_ml y) (pm_ph G L)) (hd : pm_code y pc = some (.iastore, k)) (h : pm_op (some G.2.2.2.2) (pm_own y) (pm_ml y) (pm_ini y) (.iastore) pc L st w = some (pc', L', st', w')) (hc : w'.2.1 - c0 ≤ R.cells) (hs : w'.2.2 - s0 ≤ R.slots) (hc0 : c0 ≤ w.2.1) (hs0 : s0 ≤ w.2.2) (kk : pm_Nx p l e R s m args below meth c Q y c0 s0 G pc' L' st' w') : W p l e R s m args below meth c H locs (w.2.1 - c0) (w.2.2 - s0) Q (F0 m pc ls (st.map (pm_v G))) := by
  have D := pm_dec hd 1 rfl (by decide)
  obtain ⟨hx, hb, hr, hml, hown, hts, hlk, hnm, hfr, hlo, hy⟩ := F
  unfold pm_op at h
  dsimp only at h
  split at h
  · next x i r rest =>
    split at h
    · next t n f hg =>
      obtain ⟨h1, h⟩ := pm_ct h
      cases h
      rw [Bool.and_eq_true] at h1
      have ht := Nat.eq_of_beq_eq_true h1.1
      subst ht
      have hin := pm_in_ok h1.2
      have hlt : i.toNatClampNeg < n := Nat.not_le.mp fun q => hin (Or.inr q)
      refine W.iast hx hb (pm_cell T.2.1 hg 0 _ rfl) ((T.1.2 0 _ (pm_tys_at (by decide))).1 n (fun j => .int (pm_rd 0 f j))) (fun q => by cases q) (by show ¬ (i < 0 ∨ (arrV _ _ _).slots.size ≤ _); rw [arrV_size]; exact hin) rfl rfl D fun H1 e1 z oq => ?_
      refine kk H1 _ ls ⟨T.1, T.2.1.put hg z oq ?_, T.2.2.1.put z oq (pm_al_A T.2.1 hg), T.2.2.2⟩ hl
      show H1[_]? = some (vp_cell _ (n, Sum.inl (pm_rd 0 ((i.toNatClampNeg, x) :: f))))
      rw [e1, pm_rd_upd]
      show some ((vp_cell _ (n, Sum.inl (pm_rd 0 f))).setSlot _ _) = some _
      rw [vp_cell_i, vp_cell_i, arrV_store]
      congr 2
      funext q
      by_cases hq : q = i.toNatClampNeg
      · subst hq
        simp [updV, upd]
      · simp [updV, upd, hq]
    · cases h
  · cases h

theorem pm_o_lastore (F : pm_Fr y d p R s m args meth c) (T : pm_At G s w H locs) (hl : lv_has ls (pm_ml y) (pm_ph G L)) (hd : pm_code y pc = some (.lastore, k)) (h : pm_op (some G.2.2.2.2) (pm_own y) (pm_ml y) (pm_ini y) (.lastore) pc L st w = some (pc', L', st', w')) (hc : w'.2.1 - c0 ≤ R.cells) (hs : w'.2.2 - s0 ≤ R.slots) (hc0 : c0 ≤ w.2.1) (hs0 : s0 ≤ w.2.2) (kk : pm_Nx p l e R s m args below meth c Q y c0 s0 G pc' L' st' w') : W p l e R s m args below meth c H locs (w.2.1 - c0) (w.2.2 - s0) Q (F0 m pc ls (st.map (pm_v G))) := by
  have D := pm_dec hd 1 rfl (by decide)
  obtain ⟨hx, hb, hr, hml, hown, hts, hlk, hnm, hfr, hlo, hy⟩ := F
  unfold pm_op at h
  dsimp only at h
  split at h
  · next x i r rest =>
    split at h
    · next t n f hg =>
      obtain ⟨h1, h⟩ := pm_ct h
      cases h
      rw [Bool.and_eq_true] at h1
      have ht := Nat.eq_of_beq_eq_true h1.1
      subst ht
      have hin := pm_in_ok h1.2
      have hlt : i.toNatClampNeg < n := Nat.not_le.mp fun q => hin (Or.inr q)
      refine W.last hx hb (pm_cell T.2.1 hg 0 _ rfl) ((T.1.2 3 _ (pm_tys_at (by decide))).1 n (fun j => .long (pm_rd 0 f j))) (fun q => by cases q) (by show ¬ (i < 0 ∨ (arrV _ _ _).slots.size ≤ _); rw [arrV_size]; exact hin) rfl rfl D fun H1 e1 z oq => ?_
      refine kk H1 _ ls ⟨T.1, T.2.1.put hg z oq ?_, T.2.2.1.put z oq (pm_al_A T.2.1 hg), T.2.2.2⟩ hl
      show H1[_]? = some (vp_cell _ (n, Sum.inr (Sum.inl (pm_rd 0 ((i.toNatClampNeg, x) :: f)))))
      rw [e1, pm_rd_updL]
      show some ((vp_cell _ (n, Sum.inr (Sum.inl (pm_rd 0 f)))).setSlot _ _) = some _
      rw [vp_cell_l, vp_cell_l, arrV_store]
      congr 2
      funext q
      by_cases hq : q = i.toNatClampNeg
      · subst hq
        simp [updV, vp_updL]
      · simp [updV, vp_updL, hq]
    · cases h
  · cases h

theorem pm_o_bastore (F : pm_Fr y d p R s m args meth c) (T : pm_At G s w H locs) (hl : lv_has ls (pm_ml y) (pm_ph G L)) (hd : pm_code y pc = some (.bastore, k)) (h : pm_op (some G.2.2.2.2) (pm_own y) (pm_ml y) (pm_ini y) (.bastore) pc L st w = some (pc', L', st', w')) (hc : w'.2.1 - c0 ≤ R.cells) (hs : w'.2.2 - s0 ≤ R.slots) (hc0 : c0 ≤ w.2.1) (hs0 : s0 ≤ w.2.2) (kk : pm_Nx p l e R s m args below meth c Q y c0 s0 G pc' L' st' w') : W p l e R s m args below meth c H locs (w.2.1 - c0) (w.2.2 - s0) Q (F0 m pc ls (st.map (pm_v G))) := by
  have D := pm_dec hd 1 rfl (by decide)
  obtain ⟨hx, hb, hr, hml, hown, hts, hlk, hnm, hfr, hlo, hy⟩ := F
  unfold pm_op at h
  dsimp only at h
  split at h
  · next x i r rest =>
    split at h
    · next t n f hg =>
      obtain ⟨h1, h⟩ := pm_ct h
      cases h
      rw [Bool.and_eq_true] at h1
      rcases (Bool.or_eq_true _ _).mp h1.1 with z | z
      · have ht := Nat.eq_of_beq_eq_true z
        subst ht
        have hin := pm_in_ok h1.2
        have hlt : i.toNatClampNeg < n := Nat.not_le.mp fun q => hin (Or.inr q)
        refine W.bast hx hb (pm_cell T.2.1 hg 0 _ rfl) ((T.1.2 1 _ (pm_tys_at (by decide))).1 n (fun j => .int (pm_rd 0 f j))) (fun q => by cases q) (by show ¬ (i < 0 ∨ (arrV _ _ _).slots.size ≤ _); rw [arrV_size]; exact hin) rfl rfl D fun H1 e1 z oq => ?_
        refine kk H1 _ ls ⟨T.1, T.2.1.put hg z oq ?_, T.2.2.1.put z oq (pm_al_A T.2.1 hg), T.2.2.2⟩ hl
        show H1[_]? = some (vp_cell _ (n, Sum.inl (pm_rd 0 ((i.toNatClampNeg, vp_nar (pm_ty 1) x) :: f))))
        rw [e1, pm_rd_upd]
        show some ((vp_cell _ (n, Sum.inl (pm_rd 0 f))).setSlot _ _) = some _
        rw [vp_cell_i, vp_cell_i, arrV_store]
        congr 2
        funext q
        by_cases hq : q = i.toNatClampNeg
        · subst hq
          simp [updV, upd, vp_nar]
          try rfl
        · simp [updV, upd, hq]
      · have ht := Nat.eq_of_beq_eq_true z
        subst ht
        have hin := pm_in_ok h1.2
        have hlt : i.toNatClampNeg < n := Nat.not_le.mp fun q => hin (Or.inr q)
        refine W.zast hx hb (pm_cell T.2.1 hg 0 _ rfl) ((T.1.2 2 _ (pm_tys_at (by decide))).1 n (fun j => .int (pm_rd 0 f j))) (fun q => by cases q) (by show ¬ (i < 0 ∨ (arrV _ _ _).slots.size ≤ _); rw [arrV_size]; exact hin) rfl rfl D fun H1 e1 z oq => ?_
        refine kk H1 _ ls ⟨T.1, T.2.1.put hg z oq ?_, T.2.2.1.put z oq (pm_al_A T.2.1 hg), T.2.2.2⟩ hl
        show H1[_]? = some (vp_cell _ (n, Sum.inl (pm_rd 0 ((i.toNatClampNeg, vp_nar (pm_ty 2) x) :: f))))
        rw [e1, pm_rd_upd]
        show some ((vp_cell _ (n, Sum.inl (pm_rd 0 f))).setSlot _ _) = some _
        rw [vp_cell_i, vp_cell_i, arrV_store]
        congr 2
        funext q
        by_cases hq : q = i.toNatClampNeg
        · subst hq
          simp [updV, upd, vp_nar]
          try rfl
        · simp [updV, upd, hq]
    · cases h
  · cases h

theorem pm_o_aastore (F : pm_Fr y d p R s m args meth c) (T : pm_At G s w H locs) (hl : lv_has ls (pm_ml y) (pm_ph G L)) (hd : pm_code y pc = some (.aastore, k)) (h : pm_op (some G.2.2.2.2) (pm_own y) (pm_ml y) (pm_ini y) (.aastore) pc L st w = some (pc', L', st', w')) (hc : w'.2.1 - c0 ≤ R.cells) (hs : w'.2.2 - s0 ≤ R.slots) (hc0 : c0 ≤ w.2.1) (hs0 : s0 ≤ w.2.2) (kk : pm_Nx p l e R s m args below meth c Q y c0 s0 G pc' L' st' w') : W p l e R s m args below meth c H locs (w.2.1 - c0) (w.2.2 - s0) Q (F0 m pc ls (st.map (pm_v G))) := by
  have D := pm_dec hd 1 rfl (by decide)
  obtain ⟨hx, hb, hr, hml, hown, hts, hlk, hnm, hfr, hlo, hy⟩ := F
  unfold pm_op at h
  dsimp only at h
  split at h
  · next v i r rest =>
    split at h
    · next t n f hg =>
      split at h
      · next cv vs hv =>
        obtain ⟨h1, h⟩ := pm_ct h
        cases h
        rw [Bool.and_eq_true, Bool.and_eq_true, Bool.and_eq_true] at h1
        obtain ⟨⟨⟨t1, t2⟩, t3⟩, h1⟩ := h1
        have t1 : 3 < t := Nat.le_of_ble_eq_true t1
        have t2 : t < 8 := Nat.le_of_ble_eq_true t2
        have t3 : cv = t + 1 := Nat.eq_of_beq_eq_true t3
        subst t3
        have hty := pm_tys_at (G := G) t2
        rw [pm_ty_q t1] at hty
        have O := pm_O_words (c := t + 1) (by omega)
        have hin := pm_in_ok h1
        have hlt : i.toNatClampNeg < n := Nat.not_le.mp fun q => hin (Or.inr q)
        have h0 : ¬ i < 0 := fun q => hin (Or.inl q)
        obtain ⟨r', hr', cellV, g1, g2, g3, -⟩ := pm_cell T.2.1 hv 0 _ rfl
        have hcls := (T.1.1 (t + 1) _ O.2.1).2
        obtain ⟨kA, comp, k1, k2, k3, -⟩ := (T.1.2 t _ hty).2
        have hcomp : comp = G.2.2.2.1.1 (t + 1) := Option.some.inj (k3.symm.trans hcls.1)
        subst hcomp
        obtain ⟨kC, hkC, -⟩ := hcls.2
        refine W.aast hx hb (pm_cell T.2.1 hg 0 _ rfl) (fun q h => by cases h) (fun h => by cases h) k1 k2 rfl hkC ⟨h0, by show _ < (arrV _ _ _).slots.size; rw [arrV_size]; exact hlt⟩ g1 (fun q h => by rw [g3] at h; cases h) (by rw [g2]; exact hkC) (by rw [g2]; exact va_assign hcls) rfl rfl D fun H1 e1 z oq => ?_
        refine kk H1 _ ls ⟨T.1, T.2.1.put hg z oq ?_, T.2.2.1.put z oq (pm_al_A T.2.1 hg), T.2.2.2⟩ hl
        show H1[_]? = some (vp_cell _ (n, .inr (.inr (.inr (.inr (fun j => (pm_rd none ((i.toNatClampNeg, some v) :: f) j).map (pm_al G)))))))
        rw [e1, pm_rd_up]
        show some ((vp_cell _ (n, .inr (.inr (.inr (.inr (fun j => (pm_rd none f j).map (pm_al G))))))).setSlot _ _) = some _
        rw [vp_cell_q, vp_cell_q, arrV_store]
        congr 2
        funext q
        by_cases hq : q = i.toNatClampNeg
        · subst hq
          simp [updV, va_up, va_rf]
        · simp [updV, va_up, hq]
      · cases h
    · cases h
  · cases h

theorem pm_o_arraylength (F : pm_Fr y d p R s m args meth c) (T : pm_At G s w H locs) (hl : lv_has ls (pm_ml y) (pm_ph G L)) (hd : pm_code y pc = some (.arraylength, k)) (h : pm_op (some G.2.2.2.2) (pm_own y) (pm_ml y) (pm_ini y) (.arraylength) pc L st w = some (pc', L', st', w')) (hc : w'.2.1 - c0 ≤ R.cells) (hs : w'.2.2 - s0 ≤ R.slots) (hc0 : c0 ≤ w.2.1) (hs0 : s0 ≤ w.2.2) (kk : pm_Nx p l e R s m args below meth c Q y c0 s0 G pc' L' st' w') : W p l e R s m args below meth c H locs (w.2.1 - c0) (w.2.2 - s0) Q (F0 m pc ls (st.map (pm_v G))) := by
  have D := pm_dec hd 1 rfl (by decide)
  obtain ⟨hx, hb, hr, hml, hown, hts, hlk, hnm, hfr, hlo, hy⟩ := F
  unfold pm_op at h
  dsimp only at h
  split at h
  · next r rest =>
    cases gs : Nat.beq r pm_SC with
    | true =>
      rw [gs] at h
      dsimp only [cond] at h
      cases h
      have Z := T.2.2.2.2.2.2.2.2.2.2
      have ea : pm_v G (.ref r) = .ref (G.2.1 100) := by rw [Nat.eq_of_beq_eq_true gs]; rfl
      rw [List.map_cons, ea]
      exact va_slen hx hb Z.1 (pm_Xlt Z.1) Z.2 T.2.2.1 D (kk _ _ _ T hl)
    | false =>
      rw [gs] at h
      dsimp only [cond] at h
      split at h
      · next t a hg =>
        obtain ⟨n, f⟩ := a
        obtain ⟨h1, h⟩ := pm_ct h
        cases h
        exact va_alen hx hb T.1 (pm_cell T.2.1 hg) 0 t rfl (pm_tys_at (Nat.le_of_ble_eq_true h1)) (by rw [pm_c_1]) D (kk _ _ _ T hl)
      · cases h
  · cases h

theorem pm_o_newarray {ty : ArrayType} (F : pm_Fr y d p R s m args meth c) (T : pm_At G s w H locs) (hl : lv_has ls (pm_ml y) (pm_ph G L)) (hd : pm_code y pc = some (.newarray ty, k)) (h : pm_op (some G.2.2.2.2) (pm_own y) (pm_ml y) (pm_ini y) (.newarray ty) pc L st w = some (pc', L', st', w')) (hc : w'.2.1 - c0 ≤ R.cells) (hs : w'.2.2 - s0 ≤ R.slots) (hc0 : c0 ≤ w.2.1) (hs0 : s0 ≤ w.2.2) (kk : pm_Nx p l e R s m args below meth c Q y c0 s0 G pc' L' st' w') : W p l e R s m args below meth c H locs (w.2.1 - c0) (w.2.2 - s0) Q (F0 m pc ls (st.map (pm_v G))) := by
  have D := pm_dec hd 2 rfl (by decide)
  obtain ⟨hx, hb, hr, hml, hown, hts, hlk, hnm, hfr, hlo, hy⟩ := F
  unfold pm_op at h
  dsimp only at h
  split at h
  · next n rest =>
    split at h
    · next t ht =>
      obtain ⟨h1, h⟩ := pm_ct h
      cases h
      rw [Bool.and_eq_true, Bool.and_eq_true] at h1
      obtain ⟨⟨h1, h2⟩, h3⟩ := h1
      have h2 : n.toNatClampNeg < 100000 := Nat.le_of_ble_eq_true h2
      have h3 : w.2.1 < pm_S0 := Nat.le_of_ble_eq_true h3
      have hR := T.2.1
      have hc' : (w.2.1 + 1) - c0 ≤ R.cells := hc
      have hs' : (w.2.2 + n.toNatClampNeg) - s0 ≤ R.slots := hs
      obtain ⟨t4, e4, wd⟩ := pm_at_ok ht
      refine va_newaK hx hb (hts _ (pm_gw_in wd rfl)) rfl D rfl (Int32.not_lt.mpr (of_decide_eq_true h1)) rfl (Nat.le_trans (Nat.mul_le_mul_left _ (pm_cb ty)) (by omega)) (by omega) (by omega) rfl fun H1 cA e1 z1 o1 hAr hNm => ?_
      have ecA : cA = G.2.2.1 t := by
        have q := (T.1.2 t _ (pm_tys_at (by omega))).2
        rw [← e4] at q
        exact Option.some.inj (hNm.symm.trans (by cases ty <;> first | exact q | cases ht))
      subst ecA
      have hk := kk H1 locs ls ⟨T.1, hR.new h3 z1 o1 ?_, pm_S.new T.2.2.1 z1 o1, T.2.2.2⟩ hl
      · refine W.cs (by show w.2.1 - c0 + 1 = w.2.1 + 1 - c0; omega) (by show w.2.2 - s0 + n.toNatClampNeg = w.2.2 + n.toNatClampNeg - s0; omega) ?_
        have ea : (pm_v G (.ref w.2.1)) = .ref H.size := by
          show Value.ref _ = _
          rw [pm_al_lt h3, hR.1]
        rw [List.map_cons, ea] at hk
        exact hk
      · show H1[H.size]? = some (vp_cell _ _)
        rw [e1]
        exact congrArg some (pm_zero_cell ht).symm
    · cases h
  · cases h

theorem pm_o_anewarray {j : Nat} (F : pm_Fr y d p R s m args meth c) (T : pm_At G s w H locs) (hl : lv_has ls (pm_ml y) (pm_ph G L)) (hd : pm_code y pc = some (.anewarray j, k)) (h : pm_op (some G.2.2.2.2) (pm_own y) (pm_ml y) (pm_ini y) (.anewarray j) pc L st w = some (pc', L', st', w')) (hc : w'.2.1 - c0 ≤ R.cells) (hs : w'.2.2 - s0 ≤ R.slots) (hc0 : c0 ≤ w.2.1) (hs0 : s0 ≤ w.2.2) (kk : pm_Nx p l e R s m args below meth c Q y c0 s0 G pc' L' st' w') : W p l e R s m args below meth c H locs (w.2.1 - c0) (w.2.2 - s0) Q (F0 m pc ls (st.map (pm_v G))) := by
  have D := pm_dec hd 3 rfl (by decide)
  obtain ⟨hx, hb, hr, hml, hown, hts, hlk, hnm, hfr, hlo, hy⟩ := F
  unfold pm_op at h
  dsimp only at h
  split at h
  · next n rest =>
    split at h
    · next a cc pl hv =>
      obtain ⟨h1, h⟩ := pm_ct h
      cases h
      rw [Bool.and_eq_true, Bool.and_eq_true, Bool.and_eq_true, Bool.and_eq_true] at h1
      obtain ⟨⟨⟨⟨h1, h2⟩, h3⟩, h4⟩, h5⟩ := h1
      have h2 : n.toNatClampNeg < 100000 := Nat.le_of_ble_eq_true h2
      have h3 : w.2.1 < pm_S0 := Nat.le_of_ble_eq_true h3
      have h4 : 4 < cc := Nat.le_of_ble_eq_true h4
      have h5 : cc < 9 := Nat.le_of_ble_eq_true h5
      have hR := T.2.1
      have hc' : (w.2.1 + 1) - c0 ≤ R.cells := hc
      have hs' : (w.2.2 + n.toNatClampNeg) - s0 ≤ R.slots := hs
      obtain ⟨-, wd⟩ := pm_C_words hy hv
      have hty := pm_tys_at (G := G) (t := cc - 1) (by omega)
      rw [pm_ty_q (by omega), show cc - 1 + 1 = cc by omega] at hty
      refine W.anew hx hb hown (hts _ (pm_gw_in wd rfl)) (va_AO.use (A := args) (T.2.2.2.2.2.2.2.2.2.1 _ (pm_AO_in h4 h5) rfl)) rfl D rfl (Int32.not_lt.mpr (of_decide_eq_true h1)) (by omega) (by omega) (by omega) fun cA kA comp f1 f2 f3 f4 => ?_
      have ecA : cA = G.2.2.1 (cc - 1) := by
        obtain ⟨_, _, -, -, -, q⟩ := (T.1.2 _ _ hty).2
        exact Option.some.inj (f1.symm.trans q)
      subst ecA
      generalize hH1 : H.push ({ cls := G.2.2.1 (cc - 1), slots := Array.replicate n.toNatClampNeg .null, vm := .none } : Cell) = H1
      have z1 : H1.size = H.size + 1 := by rw [← hH1, Array.size_push]
      have e1 : H1[H.size]? = some (arrV (G.2.2.1 (cc - 1)) n.toNatClampNeg (fun _ => .null)) := by rw [← hH1, Array.getElem?_push_size, ← arrV_new]
      have o1 : ∀ q : Nat, q < H.size → H1[q]? = H[q]? := fun q hq => by rw [← hH1, Array.getElem?_push, if_neg (Nat.ne_of_lt hq)]
      have hk := kk H1 locs ls ⟨T.1, hR.new h3 z1 o1 ?_, pm_S.new T.2.2.1 z1 o1, T.2.2.2⟩ hl
      · refine W.cs (by show w.2.1 - c0 + 1 = w.2.1 + 1 - c0; omega) (by show w.2.2 - s0 + n.toNatClampNeg = w.2.2 + n.toNatClampNeg - s0; omega) ?_
        have ea : (pm_v G (.ref w.2.1)) = .ref H.size := by
          show Value.ref _ = _
          rw [pm_al_lt h3, hR.1]
        rw [List.map_cons, ea] at hk
        exact hk
      · show H1[H.size]? = some (vp_cell _ _)
        rw [e1]
        show some _ = some (vp_cell _ (n.toNatClampNeg, .inr (.inr (.inr (.inr _)))))
        rw [vp_cell_q]
        rfl
    · cases h
  · cases h

theorem pm_o_new {j : Nat} (F : pm_Fr y d p R s m args meth c) (T : pm_At G s w H locs) (hl : lv_has ls (pm_ml y) (pm_ph G L)) (hd : pm_code y pc = some (.new j, k)) (h : pm_op (some G.2.2.2.2) (pm_own y) (pm_ml y) (pm_ini y) (.new j) pc L st w = some (pc', L', st', w')) (hc : w'.2.1 - c0 ≤ R.cells) (hs : w'.2.2 - s0 ≤ R.slots) (hc0 : c0 ≤ w.2.1) (hs0 : s0 ≤ w.2.2) (kk : pm_Nx p l e R s m args below meth c Q y c0 s0 G pc' L' st' w') : W p l e R s m args below meth c H locs (w.2.1 - c0) (w.2.2 - s0) Q (F0 m pc ls (st.map (pm_v G))) := by
  have D := pm_dec hd 3 rfl (by decide)
  obtain ⟨hx, hb, hr, hml, hown, hts, hlk, hnm, hfr, hlo, hy⟩ := F
  unfold pm_op at h
  dsimp only at h
  split at h
  · next a cc pl hv =>
    obtain ⟨h1, h⟩ := pm_ct h
    cases h
    have h3 : w.2.1 < pm_S0 := Nat.le_of_ble_eq_true h1
    have hR := T.2.1
    obtain ⟨w1, w2⟩ := pm_C_words hy hv
    have O := pm_O_words w1
    have hc' : (w.2.1 + 1) - c0 ≤ R.cells := hc
    have hs' : (w.2.2 + (pm_Ts cc).length) - s0 ≤ R.slots := hs
    have hKn := T.1.1 cc _ O.2.1
    refine W.newcK hx hb hown (hts _ (pm_gw_in w2 rfl)) (hts _ (pm_gw_in O.2.2.2.2.1 rfl)) (hts _ (pm_gw_in O.2.2.2.2.2 rfl)) rfl D (by omega) (by have := O.1; omega) hKn.2.1 rfl fun H1 kC hkC e1 z1 o1 => ?_
    have hk := kk H1 locs ls ⟨T.1, hR.new h3 z1 o1 ?_, pm_S.new T.2.2.1 z1 o1, T.2.2.2⟩ hl
    · have ea : (pm_v G (.ref w.2.1)) = .ref H.size := by
        show Value.ref _ = _
        rw [pm_al_lt h3, hR.1]
      rw [List.map_cons, ea] at hk
      exact W.cs (cells' := w.2.1 + 1 - c0) (slots' := w.2.2 + (pm_Ts cc).length - s0) (by omega) (by have := O.1; omega) hk
    · refine ⟨_, O.2.1, (u_born (fun k => (pm_Ts cc).getD k .int) hts (pm_uws w1) hKn hkC e1 (fun k hk => by rw [(O.2.2.1 k hk).2.1]; exact (O.2.2.1 k hk).2.2.1)).to (fun j hj => ?_)⟩
      exact pm_dv_ok G (by rw [← O.1]; exact hj)
  · cases h

theorem pm_op_ok (hd : pm_code y pc = some (i, k)) (h : pm_op (some G.2.2.2.2) (pm_own y) (pm_ml y) (pm_ini y) i pc L st w = some (pc', L', st', w')) (hc : w'.2.1 - c0 ≤ R.cells) (hs : w'.2.2 - s0 ≤ R.slots) (hc0 : c0 ≤ w.2.1) (hs0 : s0 ≤ w.2.2) (F : pm_Fr y d p R s m args meth c) (T : pm_At G s w H locs) (hl : lv_has ls (pm_ml y) (pm_ph G L)) (kk : pm_Nx p l e R s m args below meth c Q y c0 s0 G pc' L' st' w') : W p l e R s m args below meth c H locs (w.2.1 - c0) (w.2.2 - s0) Q (F0 m pc ls (st.map (pm_v G))) := by
  cases i
  case aload_n => exact pm_o_aload_n F T hl hd h hc hs hc0 hs0 kk
  case aload => exact pm_o_aload F T hl hd h hc hs hc0 hs0 kk
  case iload_n => exact pm_o_iload_n F T hl hd h hc hs hc0 hs0 kk
  case iload => exact pm_o_iload F T hl hd h hc hs hc0 hs0 kk
  case lload_n => exact pm_o_lload_n F T hl hd h hc hs hc0 hs0 kk
  case lload => exact pm_o_lload F T hl hd h hc hs hc0 hs0 kk
  case astore_n => exact pm_o_astore_n F T hl hd h hc hs hc0 hs0 kk
  case astore => exact pm_o_astore F T hl hd h hc hs hc0 hs0 kk
  case istore_n => exact pm_o_istore_n F T hl hd h hc hs hc0 hs0 kk
  case istore => exact pm_o_istore F T hl hd h hc hs hc0 hs0 kk
  case lstore_n => exact pm_o_lstore_n F T hl hd h hc hs hc0 hs0 kk
  case lstore => exact pm_o_lstore F T hl hd h hc hs hc0 hs0 kk
  case iinc => exact pm_o_iinc F T hl hd h hc hs hc0 hs0 kk
  case iconst => exact pm_o_iconst F T hl hd h hc hs hc0 hs0 kk
  case bipush => exact pm_o_bipush F T hl hd h hc hs hc0 hs0 kk
  case sipush => exact pm_o_sipush F T hl hd h hc hs hc0 hs0 kk
  case lconst => exact pm_o_lconst F T hl hd h hc hs hc0 hs0 kk
  case ldc2_w => exact pm_o_ldc2_w F T hl hd h hc hs hc0 hs0 kk
  case ldc => exact pm_o_ldc F T hl hd h hc hs hc0 hs0 kk
  case iadd => exact pm_o_iadd F T hl hd h hc hs hc0 hs0 kk
  case isub => exact pm_o_isub F T hl hd h hc hs hc0 hs0 kk
  case imul => exact pm_o_imul F T hl hd h hc hs hc0 hs0 kk
  case iand => exact pm_o_iand F T hl hd h hc hs hc0 hs0 kk
  case ior => exact pm_o_ior F T hl hd h hc hs hc0 hs0 kk
  case ishl => exact pm_o_ishl F T hl hd h hc hs hc0 hs0 kk
  case ishr => exact pm_o_ishr F T hl hd h hc hs hc0 hs0 kk
  case ladd => exact pm_o_ladd F T hl hd h hc hs hc0 hs0 kk
  case lsub => exact pm_o_lsub F T hl hd h hc hs hc0 hs0 kk
  case lmul => exact pm_o_lmul F T hl hd h hc hs hc0 hs0 kk
  case land => exact pm_o_land F T hl hd h hc hs hc0 hs0 kk
  case lor => exact pm_o_lor F T hl hd h hc hs hc0 hs0 kk
  case lxor => exact pm_o_lxor F T hl hd h hc hs hc0 hs0 kk
  case idiv => exact pm_o_idiv F T hl hd h hc hs hc0 hs0 kk
  case irem => exact pm_o_irem F T hl hd h hc hs hc0 hs0 kk
  case lshl => exact pm_o_lshl F T hl hd h hc hs hc0 hs0 kk
  case lcmp => exact pm_o_lcmp F T hl hd h hc hs hc0 hs0 kk
  case i2l => exact pm_o_i2l F T hl hd h hc hs hc0 hs0 kk
  case l2i => exact pm_o_l2i F T hl hd h hc hs hc0 hs0 kk
  case i2b => exact pm_o_i2b F T hl hd h hc hs hc0 hs0 kk
  case pop => exact pm_o_pop F T hl hd h hc hs hc0 hs0 kk
  case pop2 => exact pm_o_pop2 F T hl hd h hc hs hc0 hs0 kk
  case dup2 => exact pm_o_dup2 F T hl hd h hc hs hc0 hs0 kk
  case dup => exact pm_o_dup F T hl hd h hc hs hc0 hs0 kk
  case ifCond => exact pm_o_ifCond F T hl hd h hc hs hc0 hs0 kk
  case if_icmp => exact pm_o_if_icmp F T hl hd h hc hs hc0 hs0 kk
  case goto => exact pm_o_goto F T hl hd h hc hs hc0 hs0 kk
  case tableswitch => exact pm_o_tableswitch F T hl hd h hc hs hc0 hs0 kk
  case lookupswitch => exact pm_o_lookupswitch F T hl hd h hc hs hc0 hs0 kk
  case getfield => exact pm_o_getfield F T hl hd h hc hs hc0 hs0 kk
  case putfield => exact pm_o_putfield F T hl hd h hc hs hc0 hs0 kk
  case iaload => exact pm_o_iaload F T hl hd h hc hs hc0 hs0 kk
  case laload => exact pm_o_laload F T hl hd h hc hs hc0 hs0 kk
  case baload => exact pm_o_baload F T hl hd h hc hs hc0 hs0 kk
  case aaload => exact pm_o_aaload F T hl hd h hc hs hc0 hs0 kk
  case iastore => exact pm_o_iastore F T hl hd h hc hs hc0 hs0 kk
  case lastore => exact pm_o_lastore F T hl hd h hc hs hc0 hs0 kk
  case bastore => exact pm_o_bastore F T hl hd h hc hs hc0 hs0 kk
  case aastore => exact pm_o_aastore F T hl hd h hc hs hc0 hs0 kk
  case arraylength => exact pm_o_arraylength F T hl hd h hc hs hc0 hs0 kk
  case newarray => exact pm_o_newarray F T hl hd h hc hs hc0 hs0 kk
  case anewarray => exact pm_o_anewarray F T hl hd h hc hs hc0 hs0 kk
  case new => exact pm_o_new F T hl hd h hc hs hc0 hs0 kk
  all_goals cases h
end PMO
