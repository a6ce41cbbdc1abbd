def pm_AP : List Nat := [1060, 1058, 7142, 1059, 1034, 2217, 2031, 1104]
def pm_OI : List Nat := [1025, 1026]
def pm_MW : List (Nat × Nat × Nat) := [(4213, 1018, 4214), (5171, 1018, 5172), (6041, 1018, 6042)]
/-! what the tables say is so: decided once -/
def pm_blk (b : Nat) : List Jvm.Cond := cond (Nat.blt b 5) (cond (Nat.blt b 2) (cond (Nat.blt b 1) (k2_sels lw_privs) tables_1_1) (cond (Nat.blt b 3) tables_1_2 (cond (Nat.blt b 4) tables_1_3 tables_1_4))) (cond (Nat.blt b 7) (cond (Nat.blt b 6) tables_1_5 tables_1_6) (cond (Nat.blt b 8) tables_1_7 (cond (Nat.blt b 9) tables_1_8 tables_1_9)))
theorem pm_blk_in {b : Nat} {w : Jvm.Cond} (h : w ∈ pm_blk b) : w ∈ lw_tbl := by
  unfold pm_blk at h
  unfold lw_tbl tables_1
  simp only [List.mem_append]
  rcases Nat.lt_or_ge b 9 with hb | hb
  · rcases (show b = 0 ∨ b = 1 ∨ b = 2 ∨ b = 3 ∨ b = 4 ∨ b = 5 ∨ b = 6 ∨ b = 7 ∨ b = 8 by omega) with rfl | rfl | rfl | rfl | rfl | rfl | rfl | rfl | rfl <;> simp only [Nat.blt, Nat.ble, cond] at h <;> simp only [h, true_or, or_true]
  · have e5 : Nat.blt b 5 = false := by rw [Bool.eq_false_iff]; intro q; have := Nat.le_of_ble_eq_true q; omega
    have e7 : Nat.blt b 7 = false := by rw [Bool.eq_false_iff]; intro q; have := Nat.le_of_ble_eq_true q; omega
    have e8 : Nat.blt b 8 = false := by rw [Bool.eq_false_iff]; intro q; have := Nat.le_of_ble_eq_true q; omega
    have e9 : Nat.blt b 9 = false := by rw [Bool.eq_false_iff]; intro q; have := Nat.le_of_ble_eq_true q; omega
    rw [e5, e7, e8, e9] at h
    simp only [cond] at h
    simp only [h, true_or, or_true]
def pm_eqM (a b : MethodName) : Bool := decide (a.name = b.name) && (decide (a.desc = b.desc) && decide (a.cls = b.cls))
theorem pm_eqM_ok {a b : MethodName} (h : pm_eqM a b = true) : a = b := by
  obtain ⟨a1, a2, a3⟩ := a
  obtain ⟨b1, b2, b3⟩ := b
  unfold pm_eqM at h
  simp only [Bool.and_eq_true, decide_eq_true_eq] at h
  obtain ⟨rfl, rfl, rfl⟩ := h
  rfl
/-- codes compared byte by byte -/
def pe_eqL : List UInt8 → List UInt8 → Bool
  | [], [] => true
  | a :: s, b :: t => Nat.beq a.toNat b.toNat && pe_eqL s t
  | _, _ => false
theorem pe_eqL_ok : ∀ {s t : List UInt8}, pe_eqL s t = true → s = t
  | [], [], _ => rfl
  | [], _ :: _, h => by
    have h' : false = true := h
    cases h'
  | _ :: _, [], h => by
    have h' : false = true := h
    cases h'
  | a :: s, b :: t, h => by
    have h' : (Nat.beq a.toNat b.toNat && pe_eqL s t) = true := h
    rw [Bool.and_eq_true] at h'
    rw [UInt8.toNat_inj.mp (Nat.eq_of_beq_eq_true h'.1), pe_eqL_ok h'.2]
def pe_eqB (a b : ByteArray) : Bool := pe_eqL a.data.toList b.data.toList
theorem pe_eqB_ok {a b : ByteArray} (h : pe_eqB a b = true) : a = b := by
  obtain ⟨⟨x⟩⟩ := a
  obtain ⟨⟨y⟩⟩ := b
  have h' : x = y := pe_eqL_ok h
  rw [h']
/-- two words are one, compared part by part -/
def pm_eqW (a b : Jvm.Cond) : Bool := match a, b with
  | .code n x k r, .code n' x' k' r' => pm_eqM n n' && (Nat.beq k k' && (decide (r = r') && pe_eqB x x'))
  | .static n, .static n' => pm_eqM n n'
  | .instanceMethod n, .instanceMethod n' => pm_eqM n n'
  | .initialized c, .initialized c' => decide (c = c')
  | .selects c n o, .selects c' n' o' => decide (c = c') && (pm_eqM n n' && pm_eqM o o')
  | .fieldLink c i r n d, .fieldLink c' i' r' n' d' => Nat.beq i i' && (decide (n = n') && (decide (d = d') && (decide (c = c') && decide (r = r'))))
  | .methodLink c i n, .methodLink c' i' n' => Nat.beq i i' && (decide (c = c') && pm_eqM n n')
  | .methodLinkNest c i n h, .methodLinkNest c' i' n' h' => Nat.beq i i' && (decide (c = c') && (pm_eqM n n' && decide (h = h')))
  | .classLink c i n, .classLink c' i' n' => Nat.beq i i' && (decide (c = c') && decide (n = n'))
  | .constantLong c i x, .constantLong c' i' x' => Nat.beq i i' && (decide (c = c') && decide (x = x'))
  | .lays c o n d, .lays c' o' n' d' => decide (n = n') && (decide (c = c') && (decide (o = o') && decide (d = d')))
  | .laysFinal c o n d, .laysFinal c' o' n' d' => decide (n = n') && (decide (c = c') && (decide (o = o') && decide (d = d')))
  | .instantiable c n, .instantiable c' n' => Nat.beq n n' && decide (c = c')
  | .arrayClass t, .arrayClass t' => decide (t = t')
  | .arrayOver t, .arrayOver t' => decide (t = t')
  | _, _ => false
theorem pm_eqW_ok {a b : Jvm.Cond} (h : pm_eqW a b = true) : a = b := by
  unfold pm_eqW at h
  split at h <;> first | (cases h; done) | skip
  all_goals (try simp only [Bool.and_eq_true, decide_eq_true_eq] at h)
  · obtain ⟨h1, h2, rfl, h4⟩ := h
    rw [pm_eqM_ok h1, Nat.eq_of_beq_eq_true h2, pe_eqB_ok h4]
  · rw [pm_eqM_ok h]
  · rw [pm_eqM_ok h]
  · rw [h]
  · obtain ⟨rfl, h1, h2⟩ := h
    rw [pm_eqM_ok h1, pm_eqM_ok h2]
  · obtain ⟨h1, rfl, rfl, rfl, rfl⟩ := h
    rw [Nat.eq_of_beq_eq_true h1]
  · obtain ⟨h1, rfl, h2⟩ := h
    rw [Nat.eq_of_beq_eq_true h1, pm_eqM_ok h2]
  · obtain ⟨h1, rfl, h2, rfl⟩ := h
    rw [Nat.eq_of_beq_eq_true h1, pm_eqM_ok h2]
  · obtain ⟨h1, rfl, rfl⟩ := h
    rw [Nat.eq_of_beq_eq_true h1]
  · obtain ⟨h1, rfl, rfl⟩ := h
    rw [Nat.eq_of_beq_eq_true h1]
  · obtain ⟨rfl, rfl, rfl, rfl⟩ := h
    rfl
  · obtain ⟨rfl, rfl, rfl, rfl⟩ := h
    rfl
  · obtain ⟨h1, rfl⟩ := h
    rw [Nat.eq_of_beq_eq_true h1]
  · rw [h]
  · rw [h]
def pm_isAt (p : Nat) (w : Jvm.Cond) : Bool := match (pm_blk (p / 1000))[p % 1000]? with
  | some v => pm_eqW v w
  | none => false
theorem pm_isAt_in {p : Nat} {w : Jvm.Cond} (h : pm_isAt p w = true) : w ∈ lw_tbl := by
  unfold pm_isAt at h
  split at h
  · next v hv =>
    rw [← pm_eqW_ok h]
    exact pm_blk_in (List.mem_of_getElem? hv)
  · cases h
def pm_ckM (y : Nat) : Bool :=
  pm_isAt (pm_p y).1 (.code (pm_name y) (pm_bytes y) (pm_ml y) (pm_ret y)) && (pm_isAt (pm_p y).2.1 (cond (pm_st y) (.static (pm_name y)) (.instanceMethod (pm_name y)))
  && (pm_isAt (pm_p y).2.2.1 (.initialized (pm_name y).cls) && ((pm_st y || ((pm_name y).name == "<init>") || pm_isAt (pm_p y).2.2.2 (.selects (pm_name y).cls (pm_name y) (pm_name y)))
  && (decide (plainName (pm_name y).cls = true) && (decide ((pm_name y).cls ≠ "java/lang/invoke/MethodHandle" ∧ (pm_name y).cls ≠ "java/lang/invoke/VarHandle" ∧ (parseMethodDescriptor (pm_name y).desc).map (fun d => d.parameters.length) = some (pm_np y))
  && (Nat.ble (pm_ml y) 10 && (decide ((pm_name y).cls = pm_on (pm_own y)) && (((pm_name y).name == "<init>") == false || decide (pm_ret y = none))))))))) 
def pm_ckF (c : Nat) : Bool := (pm_FL c).all (fun q => Nat.blt q.2.1 13 && (Nat.blt q.2.2.1 (pm_Fs q.2.1).length && pm_isAt q.2.2.2 (.fieldLink (pm_on c) q.1 (pm_nm q.2.1) ((pm_Fs q.2.1).getD q.2.2.1 ("", "", "", false)).2.1 ((pm_Fs q.2.1).getD q.2.2.1 ("", "", "", false)).2.2.1)))
def pm_mnm (m : Nat) : MethodName := cond (Nat.beq m 0) objectInit (cond (Nat.beq m 1) ⟨"java/lang/String", "length", "()I"⟩ (cond (Nat.beq m 2) ⟨"java/lang/String", "charAt", "(I)C"⟩ (cond (Nat.beq m 3) ⟨"java/lang/Math", "max", "(II)I"⟩ (cond (Nat.beq m 4) ⟨"java/lang/Math", "min", "(II)I"⟩ (cond (Nat.beq m 5) ⟨"java/lang/Math", "min", "(JJ)J"⟩ (pm_name (m - 6)))))))
def pm_ckL (c : Nat) : Bool := (pm_ML c).all (fun q => pm_isAt q.2.2.1 (cond (Nat.beq q.2.2.2 0) (.methodLink (pm_on c) q.1 (pm_mnm q.2.1)) (.methodLinkNest (pm_on c) q.1 (pm_mnm q.2.1) "ProofBench")) && (Nat.ble q.2.1 5 || Nat.blt (q.2.1 - 6) pm_nM))
def pm_ckK (c : Nat) : Bool := (pm_CL c).all (fun q => Nat.blt q.2.1 13 && pm_isAt q.2.2 (.classLink (pm_on c) q.1 (pm_nm q.2.1))) && (pm_LL c).all (fun q => pm_isAt q.2.2 (.constantLong (pm_on c) q.1 q.2.1))
def pm_ckO (c : Nat) : Bool := Nat.beq (pm_Fs c).length (pm_Ts c).length && (Nat.beq (pm_Fs c).length (pm_cl.getD c ("", (fun _ => ("", "", "", false)), 0)).2.2
  && ((List.range (pm_Fs c).length).all (fun k => pm_isAt ((pm_Gs c).getD k 0) (u_lay (pm_nm c) (pm_cl.getD c ("", (fun _ => ("", "", "", false)), 0)).2.1 k) && (decide ((pm_cl.getD c ("", (fun _ => ("", "", "", false)), 0)).2.1 k = (pm_Fs c).getD k ("", "", "", false)) && (decide (parseFieldDescriptor ((pm_Fs c).getD k ("", "", "", false)).2.2.1 = some ((pm_Ts c).getD k .int)) && decide (((pm_Fs c).getD k ("", "", "", false)).1 = pm_nm c))))
  && (decide (∀ a, a < (pm_Fs c).length → ∀ b, b < (pm_Fs c).length → a ≠ b → ((pm_Fs c).getD a ("", "", "", false)).2.1 ≠ ((pm_Fs c).getD b ("", "", "", false)).2.1)
  && (pm_isAt (pm_I.getD c (0, 0)).1 (.instantiable (pm_nm c) (pm_Fs c).length) && (pm_isAt (pm_I.getD c (0, 0)).2 (.initialized (pm_nm c)) && decide ((pm_cl.getD c ("", (fun _ => ("", "", "", false)), 0)).1 = pm_nm c))))))
set_option maxRecDepth 100000
theorem pm_d0 : pm_rng 0 20 pm_ckM = true := by decide +kernel
theorem pm_d20 : pm_rng 20 20 pm_ckM = true := by decide +kernel
theorem pm_d40 : pm_rng 40 20 pm_ckM = true := by decide +kernel
theorem pm_d60 : pm_rng 60 20 pm_ckM = true := by decide +kernel
theorem pm_d80 : pm_rng 80 20 pm_ckM = true := by decide +kernel
theorem pm_d100 : pm_rng 100 20 pm_ckM = true := by decide +kernel
theorem pm_d120 : pm_rng 120 20 pm_ckM = true := by decide +kernel
theorem pm_d140 : pm_rng 140 20 pm_ckM = true := by decide +kernel
