/-! THE REFERENCE'S TEXTS: what its cells hold while it reads -/
def kq (A F : List Nat) (s s' : ps_S) : Prop := kp A F s s' ∧ ps_r s' = ps_r s
theorem kq_refl {A F : List Nat} {s : ps_S} : kq A F s s := ⟨kp_refl, rfl⟩
theorem kqi {A F : List Nat} {s s' : ps_S} (h : kq A F s s') {q : Nat} {v : Int32} (hq : F.contains q = true) : kq A F s (ps_ui s' 1131 q v) := ⟨kpi h.1 hq, h.2⟩
theorem kqj {A F : List Nat} {s s' : ps_S} (h : kq A F s s') {q : Nat} {v : Int64} (hq : F.contains q = true) : kq A F s (ps_uj s' 1131 q v) := ⟨kpj h.1 hq, h.2⟩
theorem kqa {A F : List Nat} {s s' : ps_S} (h : kq A F s s') {r i : Nat} {v : Int32} (hq : A.contains r = true) : kq A F s (ps_ua s' r i v) := ⟨kpa' h.1 hq, h.2⟩
theorem kqb {A F : List Nat} {s s' : ps_S} (h : kq A F s s') {r i : Nat} {v : Int64} (hq : A.contains r = true) : kq A F s (ps_ub s' r i v) := ⟨kpb' h.1 hq, h.2⟩
theorem kqt {A F A' F' : List Nat} {s s' s'' : ps_S} (h : kq A F s s') (h' : kq A' F' s' s'') (hA : A'.all (fun a => A.contains a) = true) (hF : F'.all (fun a => F.contains a) = true) : kq A F s s'' := ⟨kpt h.1 h'.1 hA hF, h'.2.trans h.2⟩
theorem kq_i {A F : List Nat} {s s' : ps_S} (h : kq A F s s') (q : Nat) (hq : F.contains q = false) : ps_i s' 1131 q = ps_i s 1131 q := kp_i h.1 q hq
theorem kq_j {A F : List Nat} {s s' : ps_S} (h : kq A F s s') (q : Nat) (hq : F.contains q = false) : ps_j s' 1131 q = ps_j s 1131 q := kp_j h.1 q hq
theorem kq_a {A F : List Nat} {s s' : ps_S} (h : kq A F s s') (r : Nat) (hr : A.contains r = false) : ps_a s' r = ps_a s r := (h.1.2 r hr).1
theorem kq_b {A F : List Nat} {s s' : ps_S} (h : kq A F s s') (r : Nat) (hr : A.contains r = false) : ps_b s' r = ps_b s r := (h.1.2 r hr).2
/-- the reference's text -/
def mv_T (s : ps_S) (T : Nat → Nat) (N : Nat) : Prop := (ps_i s 1131 4).toInt = N ∧ N ≤ 1600 ∧ ∀ k, k < N → (ps_a s 1133 k &&& 255).toInt = T k
theorem mv_T_kq {A F : List Nat} {s s' : ps_S} {T : Nat → Nat} {N : Nat} (h : mv_T s T N) (K : kq A F s s') (hF : F.contains 4 = false) (hA : A.contains 1133 = false) : mv_T s' T N := by
  unfold mv_T at *
  rw [kq_i K 4 hF, kq_a K 1133 hA]
  exact h
/-- the reference's token -/
def mv_K (s : ps_S) (tk : tx_K) : Prop := (ps_i s 1131 9).toInt = tk.1 ∧ (ps_i s 1131 7).toInt = tk.2.1 ∧ (ps_i s 1131 8).toInt = tk.2.2.1 ∧ (tk.1 = 2 ∨ tk.1 = 3 → ps_j s 1131 11 = tx_m tk.2.2.2.1) ∧ (tk.1 = 4 → (ps_i s 1131 10).toInt = tk.2.2.2.2)
theorem mv_K_kq {A F : List Nat} {s s' : ps_S} {tk : tx_K} (h : mv_K s tk) (K : kq A F s s') (hF : [7, 8, 9, 10, 11].all (fun q => !F.contains q) = true) : mv_K s' tk := by
  rw [List.all_eq_true] at hF
  have f : ∀ q, q ∈ [7, 8, 9, 10, 11] → F.contains q = false := fun q hq => by
    have := hF q hq
    rw [Bool.not_eq_true'] at this
    exact this
  unfold mv_K at *
  rw [kq_i K 7 (f 7 (by decide)), kq_i K 8 (f 8 (by decide)), kq_i K 9 (f 9 (by decide)), kq_i K 10 (f 10 (by decide)), kq_j K 11 (f 11 (by decide))]
  exact h
theorem tx_at_mem0 {L : List (List Nat)} {w : List Nat} (h : tx_at L w = none) : ¬ w ∈ L := fun z => by
  obtain ⟨k, hk, e⟩ := List.getElem_of_mem z
  exact tx_ix_none h k (by rw [List.getElem?_eq_getElem hk, e])
/-- the key words' numbers as the reference has them -/
theorem tx_kept {w : List Nat} {l : Int64} (hl : l = tx_m w) (h : ¬ l ∈ tx_keys.map tx_m) : tx_at tx_keys w = none := tx_at_no (fun j hj z => h (by rw [hl]; exact List.mem_map.mpr ⟨w, List.mem_of_getElem? z, rfl⟩))
theorem tx_kept_mem {w : List Nat} {l : Int64} (hw : tx_w w) (hl : l = tx_m w) (h : l ∈ tx_keys.map tx_m) : tx_at tx_keys w ≠ none := fun e => by
  obtain ⟨w', h1, h2⟩ := List.mem_map.mp h
  have := tx_m_inj (tx_keys_w w' h1) hw (h2.trans hl)
  rw [this] at h1
  exact tx_at_mem0 e h1
/-- a token's word -/
theorem tx_tok_key {T : Nat → Nat} {n p : Nat} : ((tx_tok T n p).1 = 3 → tx_at tx_keys (tx_tok T n p).2.2.2.1 = some (tx_tok T n p).2.2.2.2 ∧ tx_w (tx_tok T n p).2.2.2.1) ∧ ((tx_tok T n p).1 = 2 → tx_at tx_keys (tx_tok T n p).2.2.2.1 = none) := by
  generalize e : tx_to tx_B T n p = a
  by_cases h : n ≤ a
  · rw [tx_tok_end e h]
    exact ⟨(fun z => by cases z), (fun z => by cases z)⟩
  by_cases hL : tx_L (T a) = true
  · rw [tx_tok_word e (by omega) hL]
    split
    · exact ⟨(fun z => by cases z), (fun z => by cases z)⟩
    · next h8 =>
      split
      · next k hk => exact ⟨fun _ => ⟨hk, tx_wd_w (fun j hj => (tx_to_all (n := n) (p := a) (Nat.le_add_right a j) (by omega)).2) (by omega)⟩, (fun z => by cases z)⟩
      · next hk => exact ⟨(fun z => by cases z), fun _ => hk⟩
  by_cases hD : tx_D (T a) = true
  · rw [tx_tok_num e (by omega) hL hD]
    split
    · exact ⟨(fun z => by cases z), (fun z => by cases z)⟩
    · exact ⟨(fun z => by cases z), (fun z => by cases z)⟩
  · rw [tx_tok_sign e (by omega) hL hD]
    split
    · exact ⟨(fun z => by cases z), (fun z => by cases z)⟩
    · exact ⟨(fun z => by cases z), (fun z => by cases z)⟩
theorem xsh {m c : Nat} {l : Int64} {v : Int32} (hl : l = Int64.ofNat m) (hv : v.toInt = c) (hm : m < 72057594037927936) (hc : c < 256) : (l <<< (Int32.toInt64 (8 : Int32) &&& 63)) ||| Int32.toInt64 v = Int64.ofNat (m * 256 + c) := by
  rw [xon hv, hl, show (Int32.toInt64 (8 : Int32) &&& 63) = (8 : Int64) from by decide]
  refine Int64.toBitVec_inj.mp ?_
  rw [Int64.toBitVec_or, Int64.toBitVec_shiftLeft]
  refine BitVec.eq_of_toNat_eq ?_
  rw [BitVec.toNat_or, show ((8 : Int64).toBitVec.smod 64) = (8 : BitVec 64) from by decide, Int64.toBitVec_ofNat', Int64.toBitVec_ofNat', Int64.toBitVec_ofNat', BitVec.shiftLeft_eq', BitVec.toNat_shiftLeft, BitVec.toNat_ofNat, BitVec.toNat_ofNat, BitVec.toNat_ofNat]
  rw [show (8 : BitVec 64).toNat = 8 from rfl, Nat.mod_eq_of_lt (show m < 2 ^ 64 by omega), Nat.mod_eq_of_lt (show c < 2 ^ 64 by omega), Nat.mod_eq_of_lt (show m * 256 + c < 2 ^ 64 by omega), Nat.shiftLeft_eq, Nat.mod_eq_of_lt (show m * 2 ^ 8 < 2 ^ 64 by omega)]
  rw [← Nat.shiftLeft_eq, ← Nat.shiftLeft_add_eq_or_of_lt (show c < 2 ^ 8 by omega), Nat.shiftLeft_eq]
