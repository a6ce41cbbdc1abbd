theorem pm_lens_len : pm_lens.length = 311 := by decide +kernel
/-! what the decided checks give, word by word -/
abbrev pm_d4 : String × String × String × Bool := ("", "", "", false)
def pm_clT (c : Nat) : u_T := (pm_cl.getD c ("", (fun _ => ("", "", "", false)), 0)).2.1
theorem pm_ckM_ok {y : Nat} (h : y < pm_nM) : pm_ckM y = true := by
  have h' : y < 310 := h
  rcases Nat.lt_or_ge y 20 with a0 | a0
  · exact pm_rng_ok pm_d0 (by omega) (by omega)
  rcases Nat.lt_or_ge y 40 with a20 | a20
  · exact pm_rng_ok pm_d20 (by omega) (by omega)
  rcases Nat.lt_or_ge y 60 with a40 | a40
  · exact pm_rng_ok pm_d40 (by omega) (by omega)
  rcases Nat.lt_or_ge y 80 with a60 | a60
  · exact pm_rng_ok pm_d60 (by omega) (by omega)
  rcases Nat.lt_or_ge y 100 with a80 | a80
  · exact pm_rng_ok pm_d80 (by omega) (by omega)
  rcases Nat.lt_or_ge y 120 with a100 | a100
  · exact pm_rng_ok pm_d100 (by omega) (by omega)
  rcases Nat.lt_or_ge y 140 with a120 | a120
  · exact pm_rng_ok pm_d120 (by omega) (by omega)
  rcases Nat.lt_or_ge y 160 with a140 | a140
  · exact pm_rng_ok pm_d140 (by omega) (by omega)
  rcases Nat.lt_or_ge y 170 with a160 | a160
  · exact pm_rng_ok pm_d160 (by omega) (by omega)
  rcases Nat.lt_or_ge y 180 with a170 | a170
  · exact pm_rng_ok pm_d170 (by omega) (by omega)
  rcases Nat.lt_or_ge y 190 with a180 | a180
  · exact pm_rng_ok pm_d180 (by omega) (by omega)
  rcases Nat.lt_or_ge y 200 with a190 | a190
  · exact pm_rng_ok pm_d190 (by omega) (by omega)
  rcases Nat.lt_or_ge y 210 with a200 | a200
  · exact pm_rng_ok pm_d200 (by omega) (by omega)
  rcases Nat.lt_or_ge y 220 with a210 | a210
  · exact pm_rng_ok pm_d210 (by omega) (by omega)
  rcases Nat.lt_or_ge y 230 with a220 | a220
  · exact pm_rng_ok pm_d220 (by omega) (by omega)
  rcases Nat.lt_or_ge y 240 with a230 | a230
  · exact pm_rng_ok pm_d230 (by omega) (by omega)
  rcases Nat.lt_or_ge y 245 with a240 | a240
  · exact pm_rng_ok pm_d240 (by omega) (by omega)
  rcases Nat.lt_or_ge y 250 with a245 | a245
  · exact pm_rng_ok pm_d245 (by omega) (by omega)
  rcases Nat.lt_or_ge y 255 with a250 | a250
  · exact pm_rng_ok pm_d250 (by omega) (by omega)
  rcases Nat.lt_or_ge y 260 with a255 | a255
  · exact pm_rng_ok pm_d255 (by omega) (by omega)
  rcases Nat.lt_or_ge y 265 with a260 | a260
  · exact pm_rng_ok pm_d260 (by omega) (by omega)
  rcases Nat.lt_or_ge y 270 with a265 | a265
  · exact pm_rng_ok pm_d265 (by omega) (by omega)
  rcases Nat.lt_or_ge y 275 with a270 | a270
  · exact pm_rng_ok pm_d270 (by omega) (by omega)
  rcases Nat.lt_or_ge y 280 with a275 | a275
  · exact pm_rng_ok pm_d275 (by omega) (by omega)
  rcases Nat.lt_or_ge y 285 with a280 | a280
  · exact pm_rng_ok pm_d280 (by omega) (by omega)
  rcases Nat.lt_or_ge y 290 with a285 | a285
  · exact pm_rng_ok pm_d285 (by omega) (by omega)
  rcases Nat.lt_or_ge y 295 with a290 | a290
  · exact pm_rng_ok pm_d290 (by omega) (by omega)
  rcases Nat.lt_or_ge y 300 with a295 | a295
  · exact pm_rng_ok pm_d295 (by omega) (by omega)
  rcases Nat.lt_or_ge y 305 with a300 | a300
  · exact pm_rng_ok pm_d300 (by omega) (by omega)
  exact pm_rng_ok pm_d305 (by omega) (by omega)
theorem pm_own_lt {y : Nat} (h : y ≤ pm_nM) : pm_own y < 14 := Nat.le_of_ble_eq_true (pm_rng_ok pm_e5 (Nat.zero_le _) (by have : y ≤ 310 := h; omega))
theorem pm_own_lt13 {y : Nat} (h : y < pm_nM) : pm_own y < 13 := Nat.le_of_ble_eq_true (pm_rng_ok pm_e6 (Nat.zero_le _) (by have : y < 310 := h; omega))
theorem pm_M_words {y : Nat} (h : y < pm_nM) : Jvm.Cond.code (pm_name y) (pm_bytes y) (pm_ml y) (pm_ret y) ∈ lw_tbl ∧ (cond (pm_st y) (Jvm.Cond.static (pm_name y)) (Jvm.Cond.instanceMethod (pm_name y))) ∈ lw_tbl ∧ Jvm.Cond.initialized (pm_name y).cls ∈ lw_tbl
    ∧ (pm_st y = false → (pm_name y).name ≠ "<init>" → Jvm.Cond.selects (pm_name y).cls (pm_name y) (pm_name y) ∈ lw_tbl) ∧ plainName (pm_name y).cls = true
    ∧ ((pm_name y).cls ≠ "java/lang/invoke/MethodHandle" ∧ (pm_name y).cls ≠ "java/lang/invoke/VarHandle" ∧ (parseMethodDescriptor (pm_name y).desc).map (fun d => d.parameters.length) = some (pm_np y))
    ∧ pm_ml y ≤ 10 ∧ (pm_name y).cls = pm_on (pm_own y) ∧ ((pm_name y).name = "<init>" → pm_ret y = none) := by
  have q := pm_ckM_ok h
  unfold pm_ckM at q
  simp only [Bool.and_eq_true] at q
  obtain ⟨q1, q2, q3, q4, q5, q6, q7, q8, q9⟩ := q
  refine ⟨pm_isAt_in q1, pm_isAt_in q2, pm_isAt_in q3, fun a b => ?_, of_decide_eq_true q5, of_decide_eq_true q6, Nat.le_of_ble_eq_true q7, of_decide_eq_true q8, fun b => ?_⟩
  · rw [a, Bool.false_or] at q4
    rcases (Bool.or_eq_true _ _).mp q4 with q4 | q4
    · exact absurd (eq_of_beq q4) b
    · exact pm_isAt_in q4
  · rcases (Bool.or_eq_true _ _).mp q9 with q9 | q9
    · rw [b] at q9
      exact absurd q9 (by decide)
    · exact of_decide_eq_true q9
theorem pm_l4_mem {l : List (Nat × Nat × Nat × Nat)} {j a b c d : Nat} (h : pm_l4 l j = some (a, b, c, d)) : (j, b, c, d) ∈ l := by
  have h1 := List.mem_of_find?_eq_some h
  have h2 := List.find?_some h
  rw [show a = j from Nat.eq_of_beq_eq_true h2] at h1
  exact h1
theorem pm_l3_mem {l : List (Nat × Nat × Nat)} {j a b c : Nat} (h : pm_l3 l j = some (a, b, c)) : (j, b, c) ∈ l := by
  have h1 := List.mem_of_find?_eq_some h
  have h2 := List.find?_some h
  rw [show a = j from Nat.eq_of_beq_eq_true h2] at h1
  exact h1
theorem pm_lj_mem {l : List (Nat × Int64 × Nat)} {j a c : Nat} {b : Int64} (h : pm_lj l j = some (a, b, c)) : (j, b, c) ∈ l := by
  have h1 := List.mem_of_find?_eq_some h
  have h2 := List.find?_some h
  rw [show a = j from Nat.eq_of_beq_eq_true h2] at h1
  exact h1
theorem pm_ckF_ok {c : Nat} (h : c < 14) : pm_ckF c = true := by
  rcases Nat.lt_or_ge c 2 with a0 | a0
  · exact pm_rng_ok pm_eF0 (by omega) (by omega)
  rcases Nat.lt_or_ge c 4 with a2 | a2
  · exact pm_rng_ok pm_eF2 (by omega) (by omega)
  rcases Nat.lt_or_ge c 6 with a4 | a4
  · exact pm_rng_ok pm_eF4 (by omega) (by omega)
  rcases Nat.lt_or_ge c 8 with a6 | a6
  · exact pm_rng_ok pm_eF6 (by omega) (by omega)
  rcases Nat.lt_or_ge c 10 with a8 | a8
  · exact pm_rng_ok pm_eF8 (by omega) (by omega)
  rcases Nat.lt_or_ge c 12 with a10 | a10
  · exact pm_rng_ok pm_eF10 (by omega) (by omega)
  exact pm_rng_ok pm_eF12 (by omega) (by omega)
theorem pm_ckL_ok {c : Nat} (h : c < 14) : pm_ckL c = true := by
  rcases Nat.lt_or_ge c 1 with a0 | a0
  · exact pm_rng_ok pm_eL0 (by omega) (by omega)
  rcases Nat.lt_or_ge c 2 with a1 | a1
  · exact pm_rng_ok pm_eL1 (by omega) (by omega)
  rcases Nat.lt_or_ge c 3 with a2 | a2
  · exact pm_rng_ok pm_eL2 (by omega) (by omega)
  rcases Nat.lt_or_ge c 4 with a3 | a3
  · exact pm_rng_ok pm_eL3 (by omega) (by omega)
  rcases Nat.lt_or_ge c 5 with a4 | a4
  · exact pm_rng_ok pm_eL4 (by omega) (by omega)
  rcases Nat.lt_or_ge c 6 with a5 | a5
  · exact pm_rng_ok pm_eL5 (by omega) (by omega)
  rcases Nat.lt_or_ge c 7 with a6 | a6
  · exact pm_rng_ok pm_eL6 (by omega) (by omega)
  rcases Nat.lt_or_ge c 8 with a7 | a7
  · exact pm_rng_ok pm_eL7 (by omega) (by omega)
  rcases Nat.lt_or_ge c 9 with a8 | a8
  · exact pm_rng_ok pm_eL8 (by omega) (by omega)
  rcases Nat.lt_or_ge c 10 with a9 | a9
  · exact pm_rng_ok pm_eL9 (by omega) (by omega)
  rcases Nat.lt_or_ge c 11 with a10 | a10
  · exact pm_rng_ok pm_eL10 (by omega) (by omega)
  rcases Nat.lt_or_ge c 12 with a11 | a11
  · exact pm_rng_ok pm_eL11 (by omega) (by omega)
  rcases Nat.lt_or_ge c 13 with a12 | a12
  · exact pm_rng_ok pm_eL12 (by omega) (by omega)
  exact pm_rng_ok pm_eL13 (by omega) (by omega)
theorem pm_O_ok {c : Nat} (h : c < 13) : pm_ckO c = true := by
  rcases Nat.lt_or_ge c 1 with a0 | a0
  · exact pm_rng_ok pm_eO0 (by omega) (by omega)
  rcases Nat.lt_or_ge c 2 with a1 | a1
  · exact pm_rng_ok pm_eO1 (by omega) (by omega)
  rcases Nat.lt_or_ge c 3 with a2 | a2
  · exact pm_rng_ok pm_eO2 (by omega) (by omega)
  rcases Nat.lt_or_ge c 4 with a3 | a3
  · exact pm_rng_ok pm_eO3 (by omega) (by omega)
  rcases Nat.lt_or_ge c 5 with a4 | a4
  · exact pm_rng_ok pm_eO4 (by omega) (by omega)
  rcases Nat.lt_or_ge c 6 with a5 | a5
  · exact pm_rng_ok pm_eO5 (by omega) (by omega)
  rcases Nat.lt_or_ge c 7 with a6 | a6
  · exact pm_rng_ok pm_eO6 (by omega) (by omega)
  rcases Nat.lt_or_ge c 8 with a7 | a7
  · exact pm_rng_ok pm_eO7 (by omega) (by omega)
  rcases Nat.lt_or_ge c 9 with a8 | a8
  · exact pm_rng_ok pm_eO8 (by omega) (by omega)
  rcases Nat.lt_or_ge c 10 with a9 | a9
  · exact pm_rng_ok pm_eO9 (by omega) (by omega)
  rcases Nat.lt_or_ge c 11 with a10 | a10
  · exact pm_rng_ok pm_eO10 (by omega) (by omega)
  rcases Nat.lt_or_ge c 12 with a11 | a11
  · exact pm_rng_ok pm_eO11 (by omega) (by omega)
  exact pm_rng_ok pm_eO12 (by omega) (by omega)
theorem pm_O_words {c : Nat} (h : c < 13) : (pm_Fs c).length = (pm_Ts c).length ∧ pm_cl[c]? = some (pm_nm c, pm_clT c, (pm_Fs c).length)
    ∧ (∀ k, k < (pm_Fs c).length → u_lay (pm_nm c) (pm_clT c) k ∈ lw_tbl ∧ pm_clT c k = (pm_Fs c).getD k pm_d4 ∧ parseFieldDescriptor ((pm_Fs c).getD k pm_d4).2.2.1 = some ((pm_Ts c).getD k .int) ∧ ((pm_Fs c).getD k pm_d4).1 = pm_nm c)
    ∧ (∀ a, a < (pm_Fs c).length → ∀ b, b < (pm_Fs c).length → a ≠ b → ((pm_Fs c).getD a pm_d4).2.1 ≠ ((pm_Fs c).getD b pm_d4).2.1)
    ∧ Jvm.Cond.instantiable (pm_nm c) (pm_Fs c).length ∈ lw_tbl ∧ Jvm.Cond.initialized (pm_nm c) ∈ lw_tbl := by
  have q := pm_O_ok h
  unfold pm_ckO at q
  simp only [Bool.and_eq_true] at q
  obtain ⟨q1, q2, q3, q4, q5, q6, q7⟩ := q
  have hl : c < pm_cl.length := h
  have e : pm_cl[c]? = some (pm_cl.getD c ("", (fun _ => ("", "", "", false)), 0)) := by
    rw [List.getD_eq_getElem?_getD, List.getElem?_eq_getElem hl, Option.getD_some]
  refine ⟨Nat.eq_of_beq_eq_true q1, ?_, fun k hk => ?_, of_decide_eq_true q4, pm_isAt_in q5, pm_isAt_in q6⟩
  · rw [e, Nat.eq_of_beq_eq_true q2, ← of_decide_eq_true q7]
    rfl
  · have r := List.all_eq_true.mp q3 k (List.mem_range.mpr hk)
    simp only [Bool.and_eq_true] at r
    obtain ⟨r1, r2, r3, r4⟩ := r
    exact ⟨pm_isAt_in r1, of_decide_eq_true r2, of_decide_eq_true r3, of_decide_eq_true r4⟩
theorem pm_F_words {o j a c k p : Nat} (ho : o < 14) (h : pm_l4 (pm_FL o) j = some (a, c, k, p)) : c < 13 ∧ k < (pm_Fs c).length ∧ Jvm.Cond.fieldLink (pm_on o) j (pm_nm c) (pm_clT c k).2.1 (pm_clT c k).2.2.1 ∈ lw_tbl := by
  have q := pm_ckF_ok ho
  have r := List.all_eq_true.mp q _ (pm_l4_mem h)
  simp only [Bool.and_eq_true] at r
  obtain ⟨r1, r2, r3⟩ := r
  have h1 : c < 13 := Nat.le_of_ble_eq_true r1
  have h2 : k < (pm_Fs c).length := Nat.le_of_ble_eq_true r2
  refine ⟨h1, h2, ?_⟩
  rw [((pm_O_words h1).2.2.1 k h2).2.1]
  exact pm_isAt_in r3
theorem pm_L_words {o j a m p n : Nat} (ho : o < 14) (h : pm_l4 (pm_ML o) j = some (a, m, p, n)) : (cond (Nat.beq n 0) (Jvm.Cond.methodLink (pm_on o) j (pm_mnm m)) (Jvm.Cond.methodLinkNest (pm_on o) j (pm_mnm m) "ProofBench")) ∈ lw_tbl ∧ (m ≤ 5 ∨ m - 6 < pm_nM) := by
  have q := pm_ckL_ok ho
  have r := List.all_eq_true.mp q _ (pm_l4_mem h)
  simp only [Bool.and_eq_true, Bool.or_eq_true] at r
  refine ⟨pm_isAt_in r.1, r.2.imp Nat.le_of_ble_eq_true Nat.le_of_ble_eq_true⟩
theorem pm_C_words {o j a c p : Nat} (ho : o < 14) (h : pm_l3 (pm_CL o) j = some (a, c, p)) : c < 13 ∧ Jvm.Cond.classLink (pm_on o) j (pm_nm c) ∈ lw_tbl := by
  have q := pm_rng_ok pm_e2 (Nat.zero_le o) (by omega)
  unfold pm_ckK at q
  simp only [Bool.and_eq_true] at q
  have r := List.all_eq_true.mp q.1 _ (pm_l3_mem h)
  simp only [Bool.and_eq_true] at r
  exact ⟨Nat.le_of_ble_eq_true r.1, pm_isAt_in r.2⟩
theorem pm_J_words {o j a p : Nat} {x : Int64} (ho : o < 14) (h : pm_lj (pm_LL o) j = some (a, x, p)) : Jvm.Cond.constantLong (pm_on o) j x ∈ lw_tbl := by
  have q := pm_rng_ok pm_e2 (Nat.zero_le o) (by omega)
  unfold pm_ckK at q
  simp only [Bool.and_eq_true] at q
  exact pm_isAt_in (List.all_eq_true.mp q.2 _ (pm_lj_mem h))
/-- the words that any state of the run keeps -/
def pm_gw : List Jvm.Cond := lw_tbl.filter goodWord
theorem pm_gw_in {w : Jvm.Cond} (h : w ∈ lw_tbl) (g : goodWord w = true) : w ∈ pm_gw := List.mem_filter.mpr ⟨h, g⟩
theorem pm_good : GoodIn pm_gw pm_gw := fun w hw => ⟨hw, good_of_word (List.mem_filter.mp hw).2⟩
theorem pm_uws {c : Nat} (h : c < 13) : ∀ w ∈ u_ws (pm_nm c) (pm_clT c) (pm_Fs c).length, w ∈ pm_gw := by
  intro w hw
  obtain ⟨k, hk, rfl⟩ := List.mem_map.mp hw
  refine pm_gw_in ((pm_O_words h).2.2.1 k (List.mem_range.mp hk)).1 ?_
  unfold u_lay
  split <;> rfl
def pm_wl (y : Nat) : List Jvm.Cond := Jvm.Cond.code (pm_name y) (pm_bytes y) (pm_ml y) (pm_ret y) :: pm_gw
theorem pm_wl_good {y : Nat} (h : y < pm_nM) : GoodIn pm_gw (pm_wl y) := by
  intro w hw
  rcases List.mem_cons.mp hw with e | e
  · rw [e]
    exact pm_good _ (pm_gw_in (pm_M_words h).1 rfl)
  · exact pm_good _ e
/-- words that are kept, but not by the tables alone -/
def pm_isN : Jvm.Cond → Bool
  | .methodLinkNest _ _ _ _ => true
  | .arrayOver (.object _) => true
  | _ => false
theorem pm_il_ok {y pc k : Nat} {i : Instr} (h : pm_code y pc = some (i, k)) : pm_il i = 0 ∨ k = pm_il i := by
  unfold pm_code at h
  cases hb : Nat.blt pc (pm_lens.getD y 0) with
  | false => rw [hb] at h; cases h
  | true =>
    rw [hb] at h
    have h1 : pm_codeT y pc = some (i, k) := h
    have hpc : pc < pm_lens.getD y 0 := Nat.le_of_ble_eq_true hb
    have key : pm_ckI y = true → pm_il i = 0 ∨ k = pm_il i := by
      intro q
      have r := List.all_eq_true.mp q pc (List.mem_range.mpr hpc)
      rw [h1] at r
      exact ((Bool.or_eq_true _ _).mp r).imp Nat.eq_of_beq_eq_true Nat.eq_of_beq_eq_true
    apply key
    rcases Nat.lt_or_ge y 100 with g | g
    · exact pm_rng_ok pm_f0 (by omega) (by omega)
    rcases Nat.lt_or_ge y 187 with g1 | g1
    · exact pm_rng_ok pm_f1 (by omega) (by omega)
    rcases Nat.lt_or_ge y 250 with g2 | g2
    · exact pm_rng_ok pm_f2 (by omega) (by omega)
    rcases Nat.lt_or_ge y 311 with g3 | g3
    · exact pm_rng_ok pm_f3 (by omega) (by omega)
    · have e : pm_lens.getD y 0 = 0 := by rw [List.getD_eq_getElem?_getD, List.getElem?_eq_none (by rw [pm_lens_len]; omega)]; rfl
      omega
theorem pm_code_ok {y pc k : Nat} {i : Instr} (h : pm_code y pc = some (i, k)) : decode (pm_bytes y) pc = .ok (i, k) := by
  unfold pm_code at h
  cases hb : Nat.blt pc (pm_lens.getD y 0) with
  | false => rw [hb] at h; cases h
  | true =>
    rw [hb] at h
    have h1 : pm_codeT y pc = some (i, k) := h
    have hpc : pc < pm_lens.getD y 0 := Nat.le_of_ble_eq_true hb
    have key : pm_ckC y = true → decode (pm_bytes y) pc = .ok (i, k) := fun q => pe_ckC_ok q hpc h1
    rcases Nat.lt_or_ge y 40 with g0 | g0
    · exact key (pm_rng_ok pm_cc0 (by omega) (by omega))
    rcases Nat.lt_or_ge y 80 with g1 | g1
    · exact key (pm_rng_ok pm_cc40 (by omega) (by omega))
    rcases Nat.lt_or_ge y 120 with g2 | g2
    · exact key (pm_rng_ok pm_cc80 (by omega) (by omega))
    rcases Nat.lt_or_ge y 187 with g3 | g3
    · exact key (pm_rng_ok pm_cc120 (by omega) (by omega))
    rcases Nat.lt_or_ge y 217 with g4 | g4
    · exact key (pm_rng_ok pm_cc187 (by omega) (by omega))
    rcases Nat.lt_or_ge y 247 with g5 | g5
    · exact key (pm_rng_ok pm_cc217 (by omega) (by omega))
    rcases Nat.lt_or_ge y 277 with g6 | g6
    · exact key (pm_rng_ok pm_cc247 (by omega) (by omega))
    rcases Nat.lt_or_ge y 310 with g7 | g7
    · exact key (pm_rng_ok pm_cc277 (by omega) (by omega))
    rcases Nat.lt_or_ge y 311 with g8 | g8
    · exact key (pm_rng_ok pm_cc310 (by omega) (by omega))
    have e : pm_lens.getD y 0 = 0 := by rw [List.getD_eq_getElem?_getD, List.getElem?_eq_none (by rw [pm_lens_len]; omega)]; rfl
    omega
theorem pm_ini_ok {y : Nat} (h : y < pm_nM) : pm_ini y = decide ((pm_name y).name = "<init>") := by
  have h' : y < 310 := h
  rcases Nat.lt_or_ge y 80 with a | a
  · exact eq_of_beq (pm_rng_ok pm_in0 (by omega) (by omega))
  rcases Nat.lt_or_ge y 160 with b | b
  · exact eq_of_beq (pm_rng_ok pm_in1 (by omega) (by omega))
  rcases Nat.lt_or_ge y 240 with c | c
  · exact eq_of_beq (pm_rng_ok pm_in2 (by omega) (by omega))
  · exact eq_of_beq (pm_rng_ok pm_in3 (by omega) (by omega))
theorem pm_ini_lt {y : Nat} (q : pm_ini y = true) : y < pm_nM := by
  unfold pm_ini at q
  simp only [Bool.or_eq_true] at q
  show y < 310
  have e : ∀ {a : Nat}, Nat.beq y a = true → y = a := fun h => Nat.eq_of_beq_eq_true h
  rcases q with ((((((((((((q | q) | q) | q) | q) | q) | q) | q) | q) | q) | q) | q) | q) <;> (have := e q; omega)
theorem pm_ini_t {y : Nat} (q : pm_ini y = true) : (pm_name y).name = "<init>" := of_decide_eq_true ((pm_ini_ok (pm_ini_lt q)).symm.trans q)
theorem pm_ini_f {y : Nat} (h : y < pm_nM) (q : pm_ini y = false) : (pm_name y).name ≠ "<init>" := of_decide_eq_false ((pm_ini_ok h).symm.trans q)
