set_option maxRecDepth 100000
/-! what a method changes of one object (o) and of rows (A); models() -/
theorem xImN {a b : Int32} {x y : Nat} (ha : a.toInt = x) (hb : b.toInt = y) (h : x * y ≤ 2147483647) : (a * b).toInt = (x * y : Nat) := by
  have e : a.toInt * b.toInt = ((x * y : Nat) : Int) := by rw [ha, hb, Int.natCast_mul]
  generalize x * y = q at e h ⊢
  rw [xIm (by rw [e]; omega) (by rw [e]; omega), e]
def jq (o : Nat) (A F : List Nat) (s s' : ps_S) : Prop := (∀ r q, (r = o → F.contains q = false) → ps_i s' r q = ps_i s r q) ∧ ps_j s' = ps_j s ∧ ps_r s' = ps_r s ∧ ∀ r, A.contains r = false → ps_a s' r = ps_a s r ∧ ps_b s' r = ps_b s r
theorem jq_refl {o : Nat} {A F : List Nat} {s : ps_S} : jq o A F s s := ⟨fun _ _ _ => rfl, rfl, rfl, fun _ _ => ⟨rfl, rfl⟩⟩
theorem jqi {o : Nat} {A F : List Nat} {s s' : ps_S} (h : jq o A F s s') {q : Nat} {v : Int32} (hq : F.contains q = true) : jq o A F s (ps_ui s' o q v) := by
  obtain ⟨a1, a2, a3, a4⟩ := h
  refine ⟨fun r f hf => ?_, a2, a3, a4⟩
  rw [ps_i_ui, if_neg (fun z => ?_)]
  · exact a1 r f hf
  · have := hf z.1
    rw [z.2, hq] at this
    cases this
theorem jqa {o : Nat} {A F : List Nat} {s s' : ps_S} (h : jq o A F s s') {r i : Nat} {v : Int32} (hr : A.contains r = true) : jq o A F s (ps_ua s' r i v) := by
  obtain ⟨a1, a2, a3, a4⟩ := h
  refine ⟨a1, a2, a3, fun q hq => ⟨?_, (a4 q hq).2⟩⟩
  rw [← (a4 q hq).1]
  funext k
  rw [ps_a_ua, if_neg (fun z => ?_)]
  rw [z.1, hr] at hq
  cases hq
theorem jqb {o : Nat} {A F : List Nat} {s s' : ps_S} (h : jq o A F s s') {r i : Nat} {v : Int64} (hr : A.contains r = true) : jq o A F s (ps_ub s' r i v) := by
  obtain ⟨a1, a2, a3, a4⟩ := h
  refine ⟨a1, a2, a3, fun q hq => ⟨(a4 q hq).1, ?_⟩⟩
  rw [← (a4 q hq).2]
  funext k
  rw [ps_b_ub, if_neg (fun z => ?_)]
  rw [z.1, hr] at hq
  cases hq
theorem jq_sub {A' A : List Nat} (h : A'.all (fun a => A.contains a) = true) {r : Nat} (hr : A.contains r = false) : A'.contains r = false := by
  cases e : A'.contains r with
  | false => rfl
  | true =>
    rw [List.all_eq_true] at h
    have := h r (List.contains_iff_mem.mp e)
    rw [hr] at this
    cases this
theorem jqt {o : Nat} {A F A' F' : List Nat} {s s' s'' : ps_S} (h : jq o A F s s') (g : jq o A' F' s' s'') (hA : A'.all (fun a => A.contains a) = true) (hF : F'.all (fun a => F.contains a) = true) : jq o A F s s'' :=
  ⟨fun r q hq => (g.1 r q (fun z => jq_sub hF (hq z))).trans (h.1 r q hq), g.2.1.trans h.2.1, g.2.2.1.trans h.2.2.1, fun r hr => ⟨(g.2.2.2 r (jq_sub hA hr)).1.trans (h.2.2.2 r hr).1, (g.2.2.2 r (jq_sub hA hr)).2.trans (h.2.2.2 r hr).2⟩⟩
theorem jq_i {o : Nat} {A F : List Nat} {s s' : ps_S} (h : jq o A F s s') (q : Nat) (hq : F.contains q = false) : ps_i s' o q = ps_i s o q := h.1 o q (fun _ => hq)
theorem jq_io {o : Nat} {A F : List Nat} {s s' : ps_S} (h : jq o A F s s') {r : Nat} (hr : r ≠ o) (q : Nat) : ps_i s' r q = ps_i s r q := h.1 r q (fun z => absurd z hr)
theorem jq_r {o : Nat} {A F : List Nat} {s s' : ps_S} (h : jq o A F s s') : ps_r s' = ps_r s := h.2.2.1
theorem jq_a {o : Nat} {A F : List Nat} {s s' : ps_S} (h : jq o A F s s') (r : Nat) (hr : A.contains r = false) : ps_a s' r = ps_a s r := (h.2.2.2 r hr).1
theorem jq_b {o : Nat} {A F : List Nat} {s s' : ps_S} (h : jq o A F s s') (r : Nat) (hr : A.contains r = false) : ps_b s' r = ps_b s r := (h.2.2.2 r hr).2
theorem jq_cfr {o : Nat} {A F : List Nat} {s s' : ps_S} (h : jq o A F s s') : cfr (fun q => q = o ∨ A.contains q = true) s s' := fun q hq => by
  have n1 : q ≠ o := fun z => hq (Or.inl z)
  have n2 : A.contains q = false := by
    cases e : A.contains q with
    | false => rfl
    | true => exact absurd (Or.inr e) hq
  exact ⟨fun f => jq_io h n1 f, fun f => by rw [h.2.1], fun f => by rw [h.2.2.1], jq_a h q n2, jq_b h q n2⟩
theorem jq_ge {A : List Nat} {b q : Nat} (hA : A.all (fun a => Nat.ble b a) = true) (hq : q < b) : A.contains q = false := by
  cases e : A.contains q with
  | false => rfl
  | true =>
    rw [List.all_eq_true] at hA
    have := Nat.le_of_ble_eq_true (hA q (List.contains_iff_mem.mp e))
    omega
/-- the theories' cells stand below 50 -/
theorem cv_E_jq {o : Nat} {A F : List Nat} {s s' : ps_S} {th : Nat} {g : tx_g} (H : cv_E s th g) (K : jq o A F s s') (hth : th = 2 ∨ th = 26) (ho : 50 ≤ o) (hA : A.all (fun a => Nat.ble 50 a) = true) : cv_E s' th g := by
  have z : ∀ q, q < 50 → ¬ (q = o ∨ A.contains q = true) := fun q hq c => by
    rcases c with c | c
    · omega
    · rw [jq_ge hA hq] at c
      cases c
  exact cv_E_cfr H (jq_cfr K) (z _ (by omega)) (z _ (by omega)) (z _ (by omega)) (z _ (by omega))
theorem cv_H_jq {o : Nat} {A F : List Nat} {s s' : ps_S} {th : Nat} {g : tx_H} (H : cv_H s th g) (K : jq o A F s s') (hth : th = 2 ∨ th = 26) (ho : 50 ≤ o) (hA : A.all (fun a => Nat.ble 50 a) = true) : cv_H s' th g := by
  have z : ∀ q, q < 50 → ¬ (q = o ∨ A.contains q = true) := fun q hq c => by
    rcases c with c | c
    · omega
    · rw [jq_ge hA hq] at c
      cases c
  have hl := H.2.2.1
  exact cv_H_cfr H (jq_cfr K) (fun q a b => z q (by omega))
theorem cv_W_jq {o : Nat} {A F : List Nat} {s s' : ps_S} {r : Nat} {l : List Nat} (H : cv_W s r l) (K : jq o A F s s') (hr : r ≠ o) (h1 : A.contains (r + 1) = false) : cv_W s' r l := by
  unfold cv_W at *
  rw [jq_io K hr, jq_io K hr, jq_a K _ h1]
  exact H
/-- elements of a row of ints -/
def ar_L (s : ps_S) (r : Nat) (l : List Nat) : Prop := ∀ (k c : Nat), l[k]? = some c → (ps_a s r k).toInt = c
theorem ar_snoc {s : ps_S} {r b : Nat} {l : List Nat} {x : Int32} (h : ar_L s r l) (hx : x.toInt = b) : ar_L (ps_ua s r l.length x) r (l ++ [b]) := fun k c hk => by
  rw [ps_a_ua]
  by_cases e : k = l.length
  · rw [if_pos ⟨rfl, e⟩]
    rw [e, List.getElem?_append_right (Nat.le_refl _), Nat.sub_self] at hk
    cases hk
    exact hx
  · rw [if_neg (fun z => e z.2)]
    have hl := (List.getElem?_eq_some_iff.mp hk).1
    rw [List.length_append, List.length_singleton] at hl
    rw [List.getElem?_append_left (by omega)] at hk
    exact h k c hk
/-- a model's digits: symbols with what they take and how many values they have; the digits' bases -/
def md_sy (m : Nat) (g : tx_g) : List (Nat × Nat) := g.1.map (fun p => (p.2, 2)) ++ g.2.map (fun p => (p.2, m))
def md_B (m : Nat) (L : List (Nat × Nat)) : List Nat := (L.map fun q => List.replicate (m ^ q.1) q.2).flatten
def md_p (l : List Nat) : Nat := l.foldl (fun a b => a * b) 1
theorem md_B_snoc {m : Nat} {L : List (Nat × Nat)} {q : Nat × Nat} : md_B m (L ++ [q]) = md_B m L ++ List.replicate (m ^ q.1) q.2 := by
  unfold md_B
  rw [List.map_append, List.flatten_append]
  simp
theorem md_p_snoc {l : List Nat} {b : Nat} : md_p (l ++ [b]) = md_p l * b := by
  unfold md_p
  rw [List.foldl_append]
  rfl
theorem md_take {α : Type} {L : List α} {i : Nat} {q : α} (h : L[i]? = some q) : L.take (i + 1) = L.take i ++ [q] := by
  rw [List.take_add_one, h]
  rfl
theorem md_sy_1 {m k a : Nat} {g : tx_g} {w : List Nat} (h : g.1[k]? = some (w, a)) : (md_sy m g)[k]? = some (a, 2) := by
  have hl := (List.getElem?_eq_some_iff.mp h).1
  unfold md_sy
  rw [List.getElem?_append_left (by rw [List.length_map]; exact hl), List.getElem?_map, h]
  rfl
theorem md_sy_2 {m k a : Nat} {g : tx_g} {w : List Nat} (h : g.2[k]? = some (w, a)) : (md_sy m g)[g.1.length + k]? = some (a, m) := by
  unfold md_sy
  rw [List.getElem?_append_right (by rw [List.length_map]; omega), List.length_map, Nat.add_sub_cancel_left, List.getElem?_map, h]
  rfl
theorem md_sy_len {m : Nat} {g : tx_g} : (md_sy m g).length = g.1.length + g.2.length := by
  unfold md_sy
  rw [List.length_append, List.length_map, List.length_map]
theorem md_pow9 {m a : Nat} (hm : m ≤ 3) (ha : a ≤ 2) : m ^ a ≤ 9 := by
  have h1 : m ^ a ≤ 3 ^ a := Nat.pow_le_pow_left hm a
  have h2 : 3 ^ a ≤ 3 ^ 2 := Nat.pow_le_pow_right (by decide) ha
  have h3 : 3 ^ 2 = 9 := by decide
  omega
/-- where the i-th symbol's digits begin -/
def md_o (m : Nat) (g : tx_g) (i : Nat) : Nat := (md_B m ((md_sy m g).take i)).length
theorem md_o_le {m : Nat} {g : tx_g} (hm : m ≤ 3) (hg : ∀ q, q ∈ md_sy m g → q.1 ≤ 2) : ∀ i, i ≤ (md_sy m g).length → md_o m g i ≤ 9 * i
  | 0, _ => by unfold md_o md_B; simp
  | i + 1, h => by
    have ih := md_o_le hm hg i (by omega)
    have e := List.getElem?_eq_getElem (l := md_sy m g) (i := i) (by omega)
    unfold md_o at *
    rw [md_take e, md_B_snoc, List.length_append, List.length_replicate]
    have := md_pow9 hm (hg _ (List.mem_of_getElem? e))
    omega
theorem md_sy_ar {s : ps_S} {th m : Nat} {g : tx_g} (H : cv_E s th g) : ∀ q, q ∈ md_sy m g → q.1 ≤ 2 := fun q hq => by
  unfold md_sy at hq
  rcases List.mem_append.mp hq with hq | hq
  · obtain ⟨p, hp, rfl⟩ := List.mem_map.mp hq
    obtain ⟨k, hk⟩ := List.mem_iff_getElem?.mp hp
    exact (H.2.2.2.2.1 k p.1 p.2 hk).2.1
  · obtain ⟨p, hp, rfl⟩ := List.mem_map.mp hq
    obtain ⟨k, hk⟩ := List.mem_iff_getElem?.mp hp
    exact (H.2.2.2.2.2.1 k p.1 p.2 hk).2.1
theorem md_b3 {m : Nat} {g : tx_g} (hm : 1 ≤ m ∧ m ≤ 3) {b : Nat} (hb : b ∈ md_B m (md_sy m g)) : 1 ≤ b ∧ b ≤ 3 := by
  unfold md_B at hb
  obtain ⟨l, hl, hb⟩ := List.mem_flatten.mp hb
  obtain ⟨q, hq, rfl⟩ := List.mem_map.mp hl
  have e := (List.mem_replicate.mp hb).2
  unfold md_sy at hq
  rcases List.mem_append.mp hq with hq | hq
  · obtain ⟨p, hp, rfl⟩ := List.mem_map.mp hq
    have e : b = 2 := e
    omega
  · obtain ⟨p, hp, rfl⟩ := List.mem_map.mp hq
    have e : b = m := e
    omega
/-! the class -/
def jv_D (s : ps_S) (l : List Nat) : Prop := (ps_i s 944 2).toInt = l.length ∧ ar_L s 945 l
theorem jv_D_snoc {s : ps_S} {l : List Nat} {b : Nat} {x : Int32} (D : jv_D s l) (hx : x.toInt = b) (hl : l.length < 90) : jv_D (ps_ui (ps_ua s 945 l.length x) 944 2 (ps_i (ps_ua s 945 l.length x) 944 2 + 1)) (l ++ [b]) := by
  refine ⟨?_, ar_snoc D.2 hx⟩
  rw [ps_i_ui, if_pos ⟨rfl, rfl⟩, List.length_append, List.length_singleton]
  exact xj1 D.1 (by omega)
theorem jv_D_jq {A F : List Nat} {s s' : ps_S} {l : List Nat} (D : jv_D s l) (K : jq 944 A F s s') (hF : F.contains 2 = false) (hA : A.contains 945 = false) : jv_D s' l := by
  unfold jv_D ar_L at *
  rw [jq_i K 2 hF, jq_a K 945 hA]
  exact D

-- ProofBench.valueAt([II)I
theorem pl_182_0 {n : Nat} {r0 : Nat} {x1 : Int32} {s : ps_S} {Q : Option Value → ps_S → Prop} (h :
  (x1 < 0 →
    Q (some (.int (-1))) s) ∧
  (0 ≤ x1 →
    pl_nk (Nat.beq (ps_K r0).1 0) (((nI (ps_ln r0)) ≤ x1 →
      Q (some (.int (-1))) s) ∧
    (x1 < (nI (ps_ln r0)) →
      pl_nk (ps_ar r0 0) ((pm_in x1 (ps_ln r0) = true →
        Q (some (.int (ps_a s r0 (Int32.toNatClampNeg x1)))) s)))))) : pl_At (n + 1) 182 0 [(0, .ref r0), (1, .int x1)] [] s Q :=
  pl_wp_at (stops := []) (f := 17) h rfl

-- ProofBench.areThings(I)Z
theorem pl_181_0 {n : Nat} {x0 : Int32} {s : ps_S} {Q : Option Value → ps_S → Prop} (h :
  (x0 < 1 →
    Q (some (.int 0)) s) ∧
  (1 ≤ x0 →
    (3 < x0 →
      Q (some (.int 0)) s) ∧
    (x0 ≤ 3 →
      Q (some (.int 1)) s))) : pl_At (n + 1) 181 0 [(0, .int x0)] [] s Q :=
  pl_wp_at (stops := []) (f := 15) h rfl

-- ProofBench$Judge.addDigits(II)V
theorem pl_7_0 {n : Nat} {x1 : Int32} {x2 : Int32} {s : ps_S} {Q : Option Value → ps_S → Prop} (h :
  (x2 ≠ 0 →
    (x2 ≠ 1 →
      pl_At n 7 33 [(0, .ref 944), (1, .int x1), (3, .int ((ps_i s 944 11) * (ps_i s 944 11))), (4, .int 0)] [] s Q) ∧
    (x2 = 1 →
      pl_At n 7 33 [(0, .ref 944), (1, .int x1), (3, .int (ps_i s 944 11)), (4, .int 0)] [] s Q)) ∧
  (x2 = 0 →
    pl_At n 7 33 [(0, .ref 944), (1, .int x1), (3, .int 1), (4, .int 0)] [] s Q)) : pl_At (n + 1) 7 0 [(0, .ref 944), (1, .int x1), (2, .int x2)] [] s Q :=
  pl_wp_at (stops := [(33, [0, 1, 3, 4])]) (f := 26) h rfl

theorem pl_7_33 {n : Nat} {x1 : Int32} {x3 : Int32} {x4 : Int32} {s : ps_S} {Q : Option Value → ps_S → Prop} (h :
  (x3 ≤ x4 →
    Q none s) ∧
  (x4 < x3 →
    pl_Cl n 183 [.ref 945, .int (ps_i s 944 2), .int x1] s (ps_rV (fun s1 =>
      pl_At n 7 33 [(0, .ref 944), (1, .int x1), (3, .int x3), (4, .int (x4 + 1))] [] (ps_ui s1 944 2 ((ps_i s1 944 2) + 1)) Q)))) : pl_At (n + 1) 7 33 [(0, .ref 944), (1, .int x1), (3, .int x3), (4, .int x4)] [] s Q :=
  pl_wp_at (stops := [(33, [0, 1, 3, 4])]) (f := 20) h rfl

-- ProofBench$Judge.layTables(LProofBench$Theory;I)J
theorem pl_6_0 {n : Nat} {r1 : Nat} {x2 : Int32} {s : ps_S} {Q : Option Value → ps_S → Prop} (h :
  pl_At n 6 17 [(0, .ref 944), (2, .int x2), (3, .int 0)] [] (ps_ui (ps_ui (ps_ur s 944 16 r1) 944 11 x2) 944 2 0) Q) : pl_At (n + 1) 6 0 [(0, .ref 944), (1, .ref r1), (2, .int x2)] [] s Q :=
  pl_wp_at (stops := [(17, [0, 2, 3]), (64, [0, 2, 3]), (114, [0, 3, 5])]) (f := 13) h rfl

theorem pl_6_17 {n : Nat} {x2 : Int32} {x3 : Int32} {s : ps_S} {Q : Option Value → ps_S → Prop} (h :
  pl_nk (ps_is (ps_r s 944 16) 9) (((ps_i s (ps_r s 944 16) 6) ≤ x3 →
    pl_At n 6 64 [(0, .ref 944), (2, .int x2), (3, .int 0)] [] s Q) ∧
  (x3 < (ps_i s (ps_r s 944 16) 6) →
    pl_Cl n 183 [.ref 947, .int x3, .int (ps_i s 944 2)] s (ps_rV (fun s1 =>
      pl_Cl n 136 [.ref (ps_r s1 944 16), .int ((10 : Int32) + x3)] s1 (ps_rI (fun v2 s2 =>
        pl_Cl n 7 [.ref 944, .int 2, .int v2] s2 (ps_rV (fun s3 =>
          pl_At n 6 17 [(0, .ref 944), (2, .int x2), (3, .int (x3 + 1))] [] s3 Q))))))))) : pl_At (n + 1) 6 17 [(0, .ref 944), (2, .int x2), (3, .int x3)] [] s Q :=
  pl_wp_at (stops := [(17, [0, 2, 3]), (64, [0, 2, 3]), (114, [0, 3, 5])]) (f := 26) h rfl

theorem pl_6_64 {n : Nat} {x2 : Int32} {x3 : Int32} {s : ps_S} {Q : Option Value → ps_S → Prop} (h :
  pl_nk (ps_is (ps_r s 944 16) 9) (((ps_i s (ps_r s 944 16) 7) ≤ x3 →
    pl_At n 6 114 [(0, .ref 944), (3, .long 1), (5, .int 0)] [] s Q) ∧
  (x3 < (ps_i s (ps_r s 944 16) 7) →
    pl_Cl n 183 [.ref 948, .int x3, .int (ps_i s 944 2)] s (ps_rV (fun s1 =>
      pl_Cl n 136 [.ref (ps_r s1 944 16), .int ((20 : Int32) + x3)] s1 (ps_rI (fun v2 s2 =>
        pl_Cl n 7 [.ref 944, .int x2, .int v2] s2 (ps_rV (fun s3 =>
          pl_At n 6 64 [(0, .ref 944), (2, .int x2), (3, .int (x3 + 1))] [] s3 Q))))))))) : pl_At (n + 1) 6 64 [(0, .ref 944), (2, .int x2), (3, .int x3)] [] s Q :=
  pl_wp_at (stops := [(17, [0, 2, 3]), (64, [0, 2, 3]), (114, [0, 3, 5])]) (f := 28) h rfl

theorem pl_6_114 {n : Nat} {l3 : Int64} {x5 : Int32} {s : ps_S} {Q : Option Value → ps_S → Prop} (h :
  ((ps_i s 944 2) ≤ x5 →
    Q (some (.long l3)) s) ∧
  (x5 < (ps_i s 944 2) →
    pl_Cl n 182 [.ref 945, .int x5] s (ps_rI (fun v1 s1 =>
      pl_At n 6 114 [(0, .ref 944), (3, .long (if (1099511627776 : Int64) < (l3 * (Int32.toInt64 v1)) then (1099511627776 : Int64) else (l3 * (Int32.toInt64 v1)))), (5, .int (x5 + 1))] [] s1 Q)))) : pl_At (n + 1) 6 114 [(0, .ref 944), (3, .long l3), (5, .int x5)] [] s Q :=
  pl_wp_at (stops := [(17, [0, 2, 3]), (64, [0, 2, 3]), (114, [0, 3, 5])]) (f := 20) h rfl

-- ProofBench$Judge.modelCount(LProofBench$Theory;I)I
theorem pl_2_0 {n : Nat} {r1 : Nat} {x2 : Int32} {s : ps_S} {Q : Option Value → ps_S → Prop} (h :
  pl_Cl n 6 [.ref 944, .ref r1, .int x2] s (ps_rJ (fun v1 s1 =>
    ((lg_cmp v1 (4096 : Int64)) ≤ 0 →
      Q (some (.int (Int64.toInt32 v1))) s1) ∧
    (0 < (lg_cmp v1 (4096 : Int64)) →
      Q (some (.int (-2))) s1)))) : pl_At (n + 1) 2 0 [(0, .ref 944), (1, .ref r1), (2, .int x2)] [] s Q :=
  pl_wp_at (stops := []) (f := 17) h rfl

-- ProofBench.models(I)I
theorem pl_172_0 {n : Nat} {x1 : Int32} {s : ps_S} {Q : Option Value → ps_S → Prop} (h :
  pl_Cl n 181 [.int x1] s (ps_rI (fun v1 s1 =>
    (v1 = 0 →
      Q (some (.int (-1))) s1) ∧
    (v1 ≠ 0 →
      pl_Cl n 2 [.ref 944, .ref (ps_r s1 0 2), .int x1] s1 (ps_rI (fun v2 s2 =>
        Q (some (.int v2)) s2)))))) : pl_At (n + 1) 172 0 [(0, .ref 0), (1, .int x1)] [] s Q :=
  pl_wp_at (stops := []) (f := 15) h rfl

theorem fs_182 {n r0 a : Nat} {x1 : Int32} {s : ps_S} {R : Int32 → ps_S → Prop} (hx : x1.toInt = a) (ha : a < ps_ln r0) (hl : ps_ln r0 ≤ 20000) (k : R (ps_a s r0 a) s) : pl_Cl n 182 [.ref r0, .int x1] s (ps_rI R) := by
  cases n with
  | zero => exact pl_At_0
  | succ n =>
  show pl_At (n + 1) 182 0 [(0, .ref r0), (1, .int x1)] [] s (ps_rI R)
  have h40 : (nI (ps_ln r0)).toInt = (ps_ln r0 : Nat) := nI_i (by omega)
  refine pl_182_0 ?_
  refine ⟨fun h1 => ?_, fun h1 => ?_⟩
  · have h1 : x1.toInt < (0 : Int) := xlt h1
    exfalso; omega
  · have h1 : (0 : Int) ≤ x1.toInt := xle h1
    refine pl_nk_i (fun nk6 => ?_)
    refine ⟨fun h7 => ?_, fun h7 => ?_⟩
    · have h7 : (nI (ps_ln r0)).toInt ≤ x1.toInt := xle h7
      exfalso; omega
    · have h7 : x1.toInt < (nI (ps_ln r0)).toInt := xlt h7
      refine pl_nk_i (fun nk12 => ?_)
      intro b12
      obtain ⟨b12, c12⟩ := pl_in b12
      rw [xtn hx]
      exact k
theorem fs_181 {n : Nat} {x0 : Int32} {s : ps_S} {R : Int32 → ps_S → Prop} (k1 : 1 ≤ x0.toInt → x0.toInt ≤ 3 → R 1 s) (k0 : ¬ (1 ≤ x0.toInt ∧ x0.toInt ≤ 3) → R 0 s) : pl_Cl n 181 [.int x0] s (ps_rI R) := by
  cases n with
  | zero => exact pl_At_0
  | succ n =>
  show pl_At (n + 1) 181 0 [(0, .int x0)] [] s (ps_rI R)
  refine pl_181_0 ?_
  refine ⟨fun h2 => ?_, fun h2 => ?_⟩
  · have h2 : x0.toInt < (1 : Int) := xlt h2
    exact k0 (by omega)
  · have h2 : (1 : Int) ≤ x0.toInt := xle h2
    refine ⟨fun h7 => ?_, fun h7 => ?_⟩
    · have h7 : (3 : Int) < x0.toInt := xlt h7
      exact k0 (by omega)
    · have h7 : x0.toInt ≤ (3 : Int) := xle h7
      exact k1 (by omega) (by omega)
theorem fs_7_33 {b c : Nat} {l : List Nat} {s0 : ps_S} {x1 x3 : Int32} {R : ps_S → Prop} (hb : x1.toInt = b) (hc : x3.toInt = c) (hl : l.length + c ≤ 90) (k : ∀ s', jv_D s' (l ++ List.replicate c b) → jq 944 [945] [2] s0 s' → R s') : ∀ (n : Nat) {s : ps_S} {x4 : Int32} {j : Nat}, x4.toInt = j → j ≤ c → jv_D s (l ++ List.replicate j b) → jq 944 [945] [2] s0 s → pl_At n 7 33 [(0, .ref 944), (1, .int x1), (3, .int x3), (4, .int x4)] [] s (ps_rV R)
  | 0, _, _, _, _, _, _, _ => pl_At_0
  | n + 1, s, x4, j, hx, hj, D, K => by
    have hlen : (l ++ List.replicate j b).length = l.length + j := by rw [List.length_append, List.length_replicate]
    refine pl_7_33 ?_
    refine ⟨fun h36 => ?_, fun h36 => ?_⟩
    · have h36 : x3.toInt ≤ x4.toInt := xle h36
      have e : j = c := by omega
      subst e
      exact k _ D K
    · have h36 : x4.toInt < x3.toInt := xlt h36
      refine fs_183 (a := (l ++ List.replicate j b).length) D.1 (show (l ++ List.replicate j b).length < 90 from by omega) (by decide) ?_
      refine fs_7_33 hb hc hl k n (xj1 hx (by omega)) (by omega) ?_ (jqi (jqa K rfl) rfl)
      rw [List.replicate_succ', ← List.append_assoc]
      exact jv_D_snoc D hb (by omega)
theorem fs_7 {n a b m : Nat} {l : List Nat} {s : ps_S} {x1 x2 : Int32} {R : ps_S → Prop} (hb : x1.toInt = b) (hx2 : x2.toInt = a) (ha : a ≤ 2) (hm : (ps_i s 944 11).toInt = m) (hm3 : m ≤ 3) (D : jv_D s l) (hl : l.length + m ^ a ≤ 90) (k : ∀ s', jv_D s' (l ++ List.replicate (m ^ a) b) → jq 944 [945] [2] s s' → R s') : pl_Cl n 7 [.ref 944, .int x1, .int x2] s (ps_rV R) := by
  cases n with
  | zero => exact pl_At_0
  | succ n =>
  show pl_At (n + 1) 7 0 [(0, .ref 944), (1, .int x1), (2, .int x2)] [] s (ps_rV R)
  have c1 : (1 : Int32).toInt = 1 := by decide
  have hD0 : jv_D s (l ++ List.replicate 0 b) := by rw [List.replicate_zero, List.append_nil]; exact D
  refine pl_7_0 ?_
  refine ⟨fun h1 => ?_, fun h1 => ?_⟩
  · have h1 : x2.toInt ≠ (0 : Int) := xne h1
    refine ⟨fun h10 => ?_, fun h10 => ?_⟩
    · have h10 : x2.toInt ≠ (1 : Int) := xne h10
      have ea : a = 2 := by omega
      subst ea
      have hmm : m ^ 2 = m * m := by rw [Nat.pow_succ, Nat.pow_one]
      have h9 : m * m ≤ 3 * 3 := Nat.mul_le_mul hm3 hm3
      refine fs_7_33 (c := m ^ 2) hb ?_ hl k n rfl (Nat.zero_le _) hD0 jq_refl
      rw [xIm (by rw [hm, ← Int.natCast_mul]; omega) (by rw [hm, ← Int.natCast_mul]; omega), hm, hmm, Int.natCast_mul]
    · have h10 : x2.toInt = (1 : Int) := xeq h10
      have ea : a = 1 := by omega
      subst ea
      exact fs_7_33 (c := m ^ 1) hb (by rw [Nat.pow_one]; exact hm) hl k n rfl (Nat.zero_le _) hD0 jq_refl
  · have h1 : x2.toInt = (0 : Int) := xeq h1
    have ea : a = 0 := by omega
    subst ea
    exact fs_7_33 (c := m ^ 0) hb (by rw [Nat.pow_zero]; exact c1) hl k n rfl (Nat.zero_le _) hD0 jq_refl
/-- the tables are laid -/
def JL (s : ps_S) (th m : Nat) (g : tx_g) : Prop := ps_r s 944 16 = th ∧ (ps_i s 944 11).toInt = m ∧ jv_D s (md_B m (md_sy m g)) ∧ (∀ k, k < g.1.length → (ps_a s 947 k).toInt = md_o m g k) ∧ ∀ k, k < g.2.length → (ps_a s 948 k).toInt = md_o m g (g.1.length + k)
theorem jm1 {c b : Nat} {l : Int64} {v : Int32} (hl : l = Int64.ofNat c) (hv : v.toInt = b) (hc : c ≤ 1099511627776) (hb : b ≤ 3) : (if (1099511627776 : Int64) < (l * (Int32.toInt64 v)) then (1099511627776 : Int64) else (l * (Int32.toInt64 v))) = Int64.ofNat (min (c * b) 1099511627776) := by
  rw [hl, xon hv, ← Int64.ofNat_mul]
  have h3 : c * b ≤ 1099511627776 * 3 := Nat.mul_le_mul hc hb
  have e1 : (Int64.ofNat (c * b)).toInt = (c * b : Nat) := Int64.toInt_ofNat_of_lt (by omega)
  have e2 : (1099511627776 : Int64).toInt = 1099511627776 := by decide
  by_cases h : 1099511627776 < c * b
  · rw [if_pos (Int64.lt_iff_toInt_lt.mpr (by rw [e1, e2]; omega)), Nat.min_eq_right (by omega)]
    rfl
  · rw [if_neg (fun z => by have := Int64.lt_iff_toInt_lt.mp z; rw [e1, e2] at this; omega), Nat.min_eq_left (by omega)]
theorem md_min {p b : Nat} (hb : 1 ≤ b) : min (min p 1099511627776 * b) 1099511627776 = min (p * b) 1099511627776 := by
  by_cases h : p ≤ 1099511627776
  · rw [Nat.min_eq_left h]
  · rw [Nat.min_eq_right (a := p) (by omega)]
    have h1 : 1099511627776 * 1 ≤ 1099511627776 * b := Nat.mul_le_mul_left _ hb
    have h2 : p * 1 ≤ p * b := Nat.mul_le_mul_left _ hb
    rw [Nat.min_eq_right (by omega), Nat.min_eq_right (by omega)]
section J6
variable {th m : Nat} {g : tx_g} {s0 : ps_S} {R : Int64 → ps_S → Prop}
theorem fs_6_114 (hm : 1 ≤ m ∧ m ≤ 3) (h90 : (md_B m (md_sy m g)).length ≤ 90) (J : JL s0 th m g) (k : R (Int64.ofNat (min (md_p (md_B m (md_sy m g))) 1099511627776)) s0) : ∀ (n : Nat) {l3 : Int64} {x5 : Int32} {i : Nat}, x5.toInt = i → i ≤ (md_B m (md_sy m g)).length → l3 = Int64.ofNat (min (md_p ((md_B m (md_sy m g)).take i)) 1099511627776) → pl_At n 6 114 [(0, .ref 944), (3, .long l3), (5, .int x5)] [] s0 (ps_rJ R)
  | 0, _, _, _, _, _, _ => pl_At_0
  | n + 1, l3, x5, i, hx, hi, hl => by
    have hD := J.2.2.1
    refine pl_6_114 ?_
    refine ⟨fun h120 => ?_, fun h120 => ?_⟩
    · have h120 : (ps_i s0 944 2).toInt ≤ x5.toInt := xle h120
      have e : i = (md_B m (md_sy m g)).length := by have := hD.1; omega
      rw [hl, e, List.take_length]
      exact k
    · have h120 : x5.toInt < (ps_i s0 944 2).toInt := xlt h120
      refine fs_182 (a := i) hx (show i < 90 from by have := hD.1; omega) (by decide) ?_
      have hi2 : i < (md_B m (md_sy m g)).length := by have := hD.1; omega
      have e := List.getElem?_eq_getElem hi2
      have hb := md_b3 hm (List.mem_of_getElem? e)
      have hv := hD.2 i _ e
      refine fs_6_114 hm h90 J k n (xj1 hx (by omega)) (by omega) ?_
      rw [jm1 hl hv (Nat.min_le_right _ _) hb.2, md_take e, md_p_snoc, md_min hb.1]
theorem fs_6_64 (hm : 1 ≤ m ∧ m ≤ 3) (hth : th = 2 ∨ th = 26) (H0 : cv_E s0 th g) (hr : ps_r s0 944 16 = th) (h11 : (ps_i s0 944 11).toInt = m) (k : ∀ s', JL s' th m g → jq 944 [945, 947, 948] [2] s0 s' → R (Int64.ofNat (min (md_p (md_B m (md_sy m g))) 1099511627776)) s') : ∀ (n : Nat) {s : ps_S} {x2 x3 : Int32} {i : Nat}, x2.toInt = m → x3.toInt = i → i ≤ g.2.length → jv_D s (md_B m ((md_sy m g).take (g.1.length + i))) → (∀ k, k < g.1.length → (ps_a s 947 k).toInt = md_o m g k) → (∀ k, k < i → (ps_a s 948 k).toInt = md_o m g (g.1.length + k)) → jq 944 [945, 947, 948] [2] s0 s → pl_At n 6 64 [(0, .ref 944), (2, .int x2), (3, .int x3)] [] s (ps_rJ R)
  | 0, _, _, _, _, _, _, _, _, _, _, _ => pl_At_0
  | n + 1, s, x2, x3, i, hx2, hx, hi, D, h7, h8, K => by
    have H := cv_E_jq H0 K hth (by decide) rfl
    have er : ps_r s 944 16 = th := by rw [jq_r K]; exact hr
    have e11 : (ps_i s 944 11).toInt = m := by rw [jq_i K 11 rfl]; exact h11
    have hsl : (md_sy m g).length = g.1.length + g.2.length := md_sy_len
    have h9 := md_o_le hm.2 (md_sy_ar H)
    have g1 := H.2.2.1
    have g2 := H.2.2.2.1
    have f7 := H.2.1
    have c20 : (20 : Int32).toInt = 20 := by decide
    refine pl_6_64 ?_
    rw [er]
    refine pl_nk_i (fun nk69 => ?_)
    refine ⟨fun h72 => ?_, fun h72 => ?_⟩
    · have h72 : (ps_i s th 7).toInt ≤ x3.toInt := xle h72
      have e : g.1.length + i = (md_sy m g).length := by omega
      rw [e, List.take_length] at D
      have ei : i = g.2.length := by omega
      rw [ei] at h8
      have hlo : (md_B m ((md_sy m g).take (md_sy m g).length)).length ≤ 9 * (md_sy m g).length := h9 _ (Nat.le_refl _)
      rw [List.take_length] at hlo
      exact fs_6_114 hm (by omega) ⟨er, e11, D, h7, h8⟩ (k _ ⟨er, e11, D, h7, h8⟩ K) n (i := 0) rfl (Nat.zero_le _) (by rw [List.take_zero]; rfl)
    · have h72 : x3.toInt < (ps_i s th 7).toInt := xlt h72
      refine fs_183 (a := i) hx (show i < 4 from by omega) (by decide) ?_
      rw [show ps_r (ps_ua s 948 i (ps_i s 944 2)) 944 16 = th from er]
      refine fs_136 (th := th) (c := 20 + i) hth (by rw [xIa (by omega) (by omega), c20, hx]; omega) (fun v97 q97 => ?_)
      have hi2 : i < g.2.length := by omega
      obtain ⟨q, e⟩ : ∃ q, g.2[i]? = some q := ⟨_, List.getElem?_eq_getElem hi2⟩
      have hq := H.2.2.2.2.2.1 i q.1 q.2 e
      have ev : v97.toInt = q.2 := by rw [q97, if_pos (by omega), ps_a_ua, if_neg (by omega)]; exact hq.2.2.2
      have es := md_sy_2 (m := m) e
      have D1 : jv_D (ps_ua s 948 i (ps_i s 944 2)) (md_B m ((md_sy m g).take (g.1.length + i))) := jv_D_jq D (jqa jq_refl rfl : jq 944 [948] [] s _) rfl rfl
      have hlo : (md_B m ((md_sy m g).take (g.1.length + i))).length ≤ 9 * (g.1.length + i) := h9 _ (by omega)
      have hb9 : (md_B m ((md_sy m g).take (g.1.length + i))).length + m ^ q.2 ≤ 90 := by have := md_pow9 hm.2 hq.2.1; omega
      refine fs_7 (m := m) (a := q.2) (b := m) hx2 ev hq.2.1 e11 hm.2 D1 hb9 (fun s100 q100 K100 => ?_)
      refine fs_6_64 hm hth H0 hr h11 k n hx2 (xj1 hx (by omega)) (by omega) ?_ (fun k hk => ?_) (fun k hk => ?_) (jqt (jqa K rfl) K100 (by decide) (by decide))
      · rw [← Nat.add_assoc, md_take es, md_B_snoc]
        exact q100
      · rw [jq_a K100 947 (by decide)]
        exact h7 k hk
      · rw [jq_a K100 948 (by decide), ps_a_ua]
        by_cases ek : k = i
        · rw [if_pos ⟨rfl, ek⟩, ek, D.1]
          rfl
        · rw [if_neg (fun z => ek z.2)]
          exact h8 k (by omega)
theorem fs_6_17 (hm : 1 ≤ m ∧ m ≤ 3) (hth : th = 2 ∨ th = 26) (H0 : cv_E s0 th g) (hr : ps_r s0 944 16 = th) (h11 : (ps_i s0 944 11).toInt = m) (k : ∀ s', JL s' th m g → jq 944 [945, 947, 948] [2] s0 s' → R (Int64.ofNat (min (md_p (md_B m (md_sy m g))) 1099511627776)) s') : ∀ (n : Nat) {s : ps_S} {x2 x3 : Int32} {i : Nat}, x2.toInt = m → x3.toInt = i → i ≤ g.1.length → jv_D s (md_B m ((md_sy m g).take i)) → (∀ k, k < i → (ps_a s 947 k).toInt = md_o m g k) → jq 944 [945, 947, 948] [2] s0 s → pl_At n 6 17 [(0, .ref 944), (2, .int x2), (3, .int x3)] [] s (ps_rJ R)
  | 0, _, _, _, _, _, _, _, _, _, _ => pl_At_0
  | n + 1, s, x2, x3, i, hx2, hx, hi, D, h7, K => by
    have H := cv_E_jq H0 K hth (by decide) rfl
    have er : ps_r s 944 16 = th := by rw [jq_r K]; exact hr
    have e11 : (ps_i s 944 11).toInt = m := by rw [jq_i K 11 rfl]; exact h11
    have hsl : (md_sy m g).length = g.1.length + g.2.length := md_sy_len
    have h9 := md_o_le hm.2 (md_sy_ar H)
    have g1 := H.2.2.1
    have g2 := H.2.2.2.1
    have f6 := H.1
    have c10 : (10 : Int32).toInt = 10 := by decide
    refine pl_6_17 ?_
    rw [er]
    refine pl_nk_i (fun nk22 => ?_)
    refine ⟨fun h25 => ?_, fun h25 => ?_⟩
    · have h25 : (ps_i s th 6).toInt ≤ x3.toInt := xle h25
      have e : i = g.1.length := by omega
      rw [e] at D h7
      exact fs_6_64 hm hth H0 hr h11 k n hx2 (i := 0) rfl (Nat.zero_le _) D h7 (fun k hk => absurd hk (Nat.not_lt_zero _)) K
    · have h25 : x3.toInt < (ps_i s th 6).toInt := xlt h25
      refine fs_183 (a := i) hx (show i < 6 from by omega) (by decide) ?_
      rw [show ps_r (ps_ua s 947 i (ps_i s 944 2)) 944 16 = th from er]
      refine fs_136 (th := th) (c := 10 + i) hth (by rw [xIa (by omega) (by omega), c10, hx]; omega) (fun v50 q50 => ?_)
      have hi2 : i < g.1.length := by omega
      obtain ⟨q, e⟩ : ∃ q, g.1[i]? = some q := ⟨_, List.getElem?_eq_getElem hi2⟩
      have hq := H.2.2.2.2.1 i q.1 q.2 e
      have ev : v50.toInt = q.2 := by rw [q50, if_pos (by omega), ps_a_ua, if_neg (by omega)]; exact hq.2.2.2
      have es := md_sy_1 (m := m) e
      have D1 : jv_D (ps_ua s 947 i (ps_i s 944 2)) (md_B m ((md_sy m g).take (i))) := jv_D_jq D (jqa jq_refl rfl : jq 944 [947] [] s _) rfl rfl
      have hlo : (md_B m ((md_sy m g).take (i))).length ≤ 9 * (i) := h9 _ (by omega)
      have hb9 : (md_B m ((md_sy m g).take (i))).length + m ^ q.2 ≤ 90 := by have := md_pow9 hm.2 hq.2.1; omega
      refine fs_7 (m := m) (a := q.2) (b := 2) (by decide) ev hq.2.1 e11 hm.2 D1 hb9 (fun s53 q53 K53 => ?_)
      refine fs_6_17 hm hth H0 hr h11 k n hx2 (xj1 hx (by omega)) (by omega) ?_ (fun k hk => ?_) (jqt (jqa K rfl) K53 (by decide) (by decide))
      · rw [md_take es, md_B_snoc]
        exact q53
      · rw [jq_a K53 947 (by decide), ps_a_ua]
        by_cases ek : k = i
        · rw [if_pos ⟨rfl, ek⟩, ek, D.1]
          rfl
        · rw [if_neg (fun z => ek z.2)]
          exact h7 k (by omega)
end J6

theorem fs_6 {n th m : Nat} {g : tx_g} {s : ps_S} {x2 : Int32} {R : Int64 → ps_S → Prop} (hm : 1 ≤ m ∧ m ≤ 3) (hth : th = 2 ∨ th = 26) (H : cv_E s th g) (hx : x2.toInt = m) (k : ∀ s', JL s' th m g → jq 944 [945, 947, 948] [2] (ps_ui (ps_ui (ps_ur s 944 16 th) 944 11 x2) 944 2 0) s' → R (Int64.ofNat (min (md_p (md_B m (md_sy m g))) 1099511627776)) s') : pl_Cl n 6 [.ref 944, .ref th, .int x2] s (ps_rJ R) := by
  cases n with
  | zero => exact pl_At_0
  | succ n =>
  show pl_At (n + 1) 6 0 [(0, .ref 944), (1, .ref th), (2, .int x2)] [] s (ps_rJ R)
  refine pl_6_0 ?_
  have C : cfr (fun q => q = 944) s (ps_ui (ps_ui (ps_ur s 944 16 th) 944 11 x2) 944 2 0) := cfr_i (cfr_i (cfr_r cfr_refl rfl) rfl) rfl
  exact fs_6_17 hm hth (cv_E_cfr H C (by omega) (by omega) (by omega) (by omega)) rfl hx k n hx (i := 0) rfl (Nat.zero_le _) ⟨rfl, fun k c hk => by cases hk⟩ (fun k hk => absurd hk (Nat.not_lt_zero _)) jq_refl
/-- how many models, as the answer tells it -/
def md_v (p : Nat) : Int := if p ≤ 4096 then p else -2
theorem lg4096 {c : Nat} (hc : c ≤ 1099511627776) : (lg_cmp (Int64.ofNat c) (4096 : Int64) ≤ 0 ↔ c ≤ 4096) ∧ (0 < lg_cmp (Int64.ofNat c) (4096 : Int64) ↔ 4096 < c) := by
  have e1 : (Int64.ofNat c).toInt = (c : Nat) := Int64.toInt_ofNat_of_lt (by omega)
  have e2 : (4096 : Int64).toInt = 4096 := by decide
  unfold lg_cmp
  by_cases h : 4096 < c
  · have g : (Int64.ofNat c) > (4096 : Int64) := Int64.lt_iff_toInt_lt.mpr (by rw [e1, e2]; omega)
    rw [if_pos g]
    exact ⟨⟨fun z => absurd z (by decide), fun z => absurd z (by omega)⟩, fun _ => h, fun _ => by decide⟩
  · have g : ¬ (Int64.ofNat c) > (4096 : Int64) := fun z => by have := Int64.lt_iff_toInt_lt.mp z; rw [e1, e2] at this; omega
    rw [if_neg g]
    by_cases e : Int64.ofNat c = 4096
    · rw [if_pos e]
      exact ⟨⟨fun _ => by omega, fun _ => by decide⟩, fun z => absurd z (by decide), fun z => absurd z (by omega)⟩
    · rw [if_neg e]
      exact ⟨⟨fun _ => by omega, fun _ => by decide⟩, fun z => absurd z (by decide), fun z => absurd z (by omega)⟩
/-- what laying the tables changes -/
def JC (q : Nat) : Prop := q = 944 ∨ q = 945 ∨ q = 947 ∨ q = 948
theorem JC_of {th : Nat} {x2 : Int32} {s s' : ps_S} (K : jq 944 [945, 947, 948] [2] (ps_ui (ps_ui (ps_ur s 944 16 th) 944 11 x2) 944 2 0) s') : cfr JC s s' := cfr_tr (cfr_i (cfr_i (cfr_r cfr_refl (Or.inl rfl)) (Or.inl rfl)) (Or.inl rfl)) (cfr_mono (jq_cfr K) (fun q z => by
  rcases z with z | z
  · exact Or.inl z
  · have := List.contains_iff_mem.mp z
    simp only [List.mem_cons, List.not_mem_nil, or_false] at this
    unfold JC
    omega))
theorem fs_2 {n th m : Nat} {g : tx_g} {s : ps_S} {x2 : Int32} {R : Int32 → ps_S → Prop} (hm : 1 ≤ m ∧ m ≤ 3) (hth : th = 2 ∨ th = 26) (H : cv_E s th g) (hx : x2.toInt = m) (k : ∀ (v : Int32) s', v.toInt = md_v (md_p (md_B m (md_sy m g))) → JL s' th m g → cfr JC s s' → R v s') : pl_Cl n 2 [.ref 944, .ref th, .int x2] s (ps_rI R) := by
  cases n with
  | zero => exact pl_At_0
  | succ n =>
  show pl_At (n + 1) 2 0 [(0, .ref 944), (1, .ref th), (2, .int x2)] [] s (ps_rI R)
  refine pl_2_0 ?_
  refine fs_6 hm hth H hx (fun s3 J K => ?_)
  generalize hp : md_p (md_B m (md_sy m g)) = p at k ⊢
  have hq := lg4096 (c := min p 1099511627776) (Nat.min_le_right _ _)
  have hmin : min p 1099511627776 ≤ 4096 ↔ p ≤ 4096 := by omega
  refine ⟨fun z => ?_, fun z => ?_⟩
  · have h4 : p ≤ 4096 := hmin.mp (hq.1.mp z)
    refine k _ _ ?_ J (JC_of K)
    rw [Nat.min_eq_left (by omega)]
    unfold md_v
    rw [if_pos h4]
    have e1 : (Int64.ofNat p).toInt = (p : Nat) := Int64.toInt_ofNat_of_lt (by omega)
    rw [Int64.toInt_toInt32, e1, Int.bmod_eq_of_le (by omega) (by omega)]
  · have h4 : ¬ p ≤ 4096 := fun y => by have := hq.2.mp z; omega
    refine k _ _ ?_ J (JC_of K)
    unfold md_v
    rw [if_neg h4]
    rfl
/-- models()'s answer -/
def md_A (g : tx_g) (x v : Int32) : Prop := (1 ≤ x.toInt ∧ x.toInt ≤ 3 → v.toInt = md_v (md_p (md_B x.toInt.toNat (md_sy x.toInt.toNat g)))) ∧ (¬ (1 ≤ x.toInt ∧ x.toInt ≤ 3) → v.toInt = -1)
theorem md_A_eq {g : tx_g} {x v v' : Int32} (h : md_A g x v) (h' : md_A g x v') : v = v' := by
  apply Int32.toInt_inj.mp
  by_cases z : 1 ≤ x.toInt ∧ x.toInt ≤ 3
  · rw [h.1 z, h'.1 z]
  · rw [h.2 z, h'.2 z]
theorem fs_172 {n : Nat} {s : ps_S} {h : tx_H} {l : List Nat} {x1 : Int32} (c : TRc s h l) : pl_Cl n 172 [.ref 0, .int x1] s (ps_rI (fun v _ => md_A h.1 x1 v)) := by
  cases n with
  | zero => exact pl_At_0
  | succ n =>
  show pl_At (n + 1) 172 0 [(0, .ref 0), (1, .int x1)] [] s _
  refine pl_172_0 ?_
  have hth : ps_r s 0 2 = 2 ∨ ps_r s 0 2 = 26 := by have := c.2.1; omega
  refine fs_181 (fun h1 h2 => ⟨fun z => absurd z (by decide), fun _ => ?_⟩) (fun h0 => ⟨fun _ => ⟨fun z => absurd z h0, fun _ => by decide⟩, fun z => absurd rfl z⟩)
  exact fs_2 (m := x1.toInt.toNat) (by omega) hth c.1.1 (by omega) (fun v s2 e _ _ => ⟨fun _ => e, fun z => absurd ⟨h1, h2⟩ z⟩)
/-! the reference -/

-- ProofBenchModel.power(II)I
theorem pl_290_0 {n : Nat} {x0 : Int32} {x1 : Int32} {s : ps_S} {Q : Option Value → ps_S → Prop} (h :
  pl_At n 290 4 [(0, .int x0), (1, .int x1), (2, .int 1), (3, .int 0)] [] s Q) : pl_At (n + 1) 290 0 [(0, .int x0), (1, .int x1)] [] s Q :=
  pl_wp_at (stops := [(4, [0, 1, 2, 3])]) (f := 6) h rfl

theorem pl_290_4 {n : Nat} {x0 : Int32} {x1 : Int32} {x2 : Int32} {x3 : Int32} {s : ps_S} {Q : Option Value → ps_S → Prop} (h :
  (x1 ≤ x3 →
    Q (some (.int x2)) s) ∧
  (x3 < x1 →
    pl_At n 290 4 [(0, .int x0), (1, .int x1), (2, .int (x2 * x0)), (3, .int (x3 + 1))] [] s Q)) : pl_At (n + 1) 290 4 [(0, .int x0), (1, .int x1), (2, .int x2), (3, .int x3)] [] s Q :=
  pl_wp_at (stops := [(4, [0, 1, 2, 3])]) (f := 13) h rfl

-- ProofBenchModel.digit(II)I
theorem pl_292_0 {n : Nat} {x1 : Int32} {x2 : Int32} {s : ps_S} {Q : Option Value → ps_S → Prop} (h :
  (pm_in (ps_i s 1131 73) 96 = true →
    (x2 ≤ 4096 →
      Q (some (.int (x2 * x1))) (ps_ui (ps_ua s 1170 (Int32.toNatClampNeg (ps_i s 1131 73)) x1) 1131 73 ((ps_i (ps_ua s 1170 (Int32.toNatClampNeg (ps_i s 1131 73)) x1) 1131 73) + 1))) ∧
    (4096 < x2 →
      Q (some (.int x2)) (ps_ui (ps_ua s 1170 (Int32.toNatClampNeg (ps_i s 1131 73)) x1) 1131 73 ((ps_i (ps_ua s 1170 (Int32.toNatClampNeg (ps_i s 1131 73)) x1) 1131 73) + 1))))) : pl_At (n + 1) 292 0 [(0, .ref 1131), (1, .int x1), (2, .int x2)] [] s Q :=
  pl_wp_at (stops := []) (f := 24) h rfl

-- ProofBenchModel.layModels(I)I
theorem pl_291_0 {n : Nat} {x1 : Int32} {s : ps_S} {Q : Option Value → ps_S → Prop} (h :
  pl_At n 291 9 [(0, .ref 1131), (1, .int x1), (2, .int 1), (3, .int 0)] [] (ps_ui s 1131 73 0) Q) : pl_At (n + 1) 291 0 [(0, .ref 1131), (1, .int x1)] [] s Q :=
  pl_wp_at (stops := [(9, [0, 1, 2, 3]), (52, [0, 1, 2, 3, 4]), (78, [0, 1, 2, 3]), (120, [0, 1, 2, 3, 4])]) (f := 9) h rfl

theorem pl_291_9 {n : Nat} {x1 : Int32} {x2 : Int32} {x3 : Int32} {s : ps_S} {Q : Option Value → ps_S → Prop} (h :
  (pm_in (ps_i s 1131 21) 2 = true →
    ((ps_a s 1135 (Int32.toNatClampNeg (ps_i s 1131 21))) ≤ x3 →
      pl_At n 291 78 [(0, .ref 1131), (1, .int x1), (2, .int x2), (3, .int 0)] [] s Q) ∧
    (x3 < (ps_a s 1135 (Int32.toNatClampNeg (ps_i s 1131 21))) →
      (pm_in x3 6 = true →
        (pm_in (((6 : Int32) * (ps_i (ps_ua s 1171 (Int32.toNatClampNeg x3) (ps_i s 1131 73)) 1131 21)) + x3) 12 = true →
          pl_Cl n 290 [.int x1, .int (ps_a (ps_ua s 1171 (Int32.toNatClampNeg x3) (ps_i s 1131 73)) 1138 (Int32.toNatClampNeg (((6 : Int32) * (ps_i (ps_ua s 1171 (Int32.toNatClampNeg x3) (ps_i s 1131 73)) 1131 21)) + x3)))] (ps_ua s 1171 (Int32.toNatClampNeg x3) (ps_i s 1131 73)) (ps_rI (fun v1 s1 =>
            pl_At n 291 52 [(0, .ref 1131), (1, .int x1), (2, .int x2), (3, .int x3), (4, .int v1)] [] s1 Q))))))) : pl_At (n + 1) 291 9 [(0, .ref 1131), (1, .int x1), (2, .int x2), (3, .int x3)] [] s Q :=
  pl_wp_at (stops := [(9, [0, 1, 2, 3]), (52, [0, 1, 2, 3, 4]), (78, [0, 1, 2, 3]), (120, [0, 1, 2, 3, 4])]) (f := 29) h rfl

theorem pl_291_52 {n : Nat} {x1 : Int32} {x2 : Int32} {x3 : Int32} {x4 : Int32} {s : ps_S} {Q : Option Value → ps_S → Prop} (h :
  (x4 ≤ 0 →
    pl_At n 291 9 [(0, .ref 1131), (1, .int x1), (2, .int x2), (3, .int (x3 + 1))] [] s Q) ∧
  (0 < x4 →
    pl_Cl n 292 [.ref 1131, .int 2, .int x2] s (ps_rI (fun v1 s1 =>
      pl_At n 291 52 [(0, .ref 1131), (1, .int x1), (2, .int v1), (3, .int x3), (4, .int (x4 + (Int32.ofInt (-1))))] [] s1 Q)))) : pl_At (n + 1) 291 52 [(0, .ref 1131), (1, .int x1), (2, .int x2), (3, .int x3), (4, .int x4)] [] s Q :=
  pl_wp_at (stops := [(9, [0, 1, 2, 3]), (52, [0, 1, 2, 3, 4]), (78, [0, 1, 2, 3]), (120, [0, 1, 2, 3, 4])]) (f := 13) h rfl

theorem pl_291_78 {n : Nat} {x1 : Int32} {x2 : Int32} {x3 : Int32} {s : ps_S} {Q : Option Value → ps_S → Prop} (h :
  (pm_in (ps_i s 1131 21) 2 = true →
    ((ps_a s 1136 (Int32.toNatClampNeg (ps_i s 1131 21))) ≤ x3 →
      Q (some (.int x2)) s) ∧
    (x3 < (ps_a s 1136 (Int32.toNatClampNeg (ps_i s 1131 21))) →
      (pm_in x3 4 = true →
        (pm_in (((4 : Int32) * (ps_i (ps_ua s 1172 (Int32.toNatClampNeg x3) (ps_i s 1131 73)) 1131 21)) + x3) 8 = true →
          pl_Cl n 290 [.int x1, .int (ps_a (ps_ua s 1172 (Int32.toNatClampNeg x3) (ps_i s 1131 73)) 1139 (Int32.toNatClampNeg (((4 : Int32) * (ps_i (ps_ua s 1172 (Int32.toNatClampNeg x3) (ps_i s 1131 73)) 1131 21)) + x3)))] (ps_ua s 1172 (Int32.toNatClampNeg x3) (ps_i s 1131 73)) (ps_rI (fun v1 s1 =>
            pl_At n 291 120 [(0, .ref 1131), (1, .int x1), (2, .int x2), (3, .int x3), (4, .int v1)] [] s1 Q))))))) : pl_At (n + 1) 291 78 [(0, .ref 1131), (1, .int x1), (2, .int x2), (3, .int x3)] [] s Q :=
  pl_wp_at (stops := [(9, [0, 1, 2, 3]), (52, [0, 1, 2, 3, 4]), (78, [0, 1, 2, 3]), (120, [0, 1, 2, 3, 4])]) (f := 29) h rfl

theorem pl_291_120 {n : Nat} {x1 : Int32} {x2 : Int32} {x3 : Int32} {x4 : Int32} {s : ps_S} {Q : Option Value → ps_S → Prop} (h :
  (x4 ≤ 0 →
    pl_At n 291 78 [(0, .ref 1131), (1, .int x1), (2, .int x2), (3, .int (x3 + 1))] [] s Q) ∧
  (0 < x4 →
    pl_Cl n 292 [.ref 1131, .int x1, .int x2] s (ps_rI (fun v1 s1 =>
      pl_At n 291 120 [(0, .ref 1131), (1, .int x1), (2, .int v1), (3, .int x3), (4, .int (x4 + (Int32.ofInt (-1))))] [] s1 Q)))) : pl_At (n + 1) 291 120 [(0, .ref 1131), (1, .int x1), (2, .int x2), (3, .int x3), (4, .int x4)] [] s Q :=
  pl_wp_at (stops := [(9, [0, 1, 2, 3]), (52, [0, 1, 2, 3, 4]), (78, [0, 1, 2, 3]), (120, [0, 1, 2, 3, 4])]) (f := 13) h rfl

-- ProofBenchModel.models(I)I
theorem pl_301_0 {n : Nat} {x1 : Int32} {s : ps_S} {Q : Option Value → ps_S → Prop} (h :
  pl_Cl n 200 [.int x1, .int 1, .int 3] s (ps_rI (fun v1 s1 =>
    (v1 ≠ 0 →
      pl_Cl n 291 [.ref 1131, .int x1] s1 (ps_rI (fun v2 s2 =>
        (v2 ≤ 4096 →
          Q (some (.int v2)) s2) ∧
        (4096 < v2 →
          Q (some (.int (-2))) s2)))) ∧
    (v1 = 0 →
      Q (some (.int (-1))) s1)))) : pl_At (n + 1) 301 0 [(0, .ref 1131), (1, .int x1)] [] s Q :=
  pl_wp_at (stops := []) (f := 21) h rfl

theorem md_pow {m i : Nat} (hm : m ≤ 3) (hi : i ≤ 19) : m ^ i ≤ 1162261467 := by
  have h1 : m ^ i ≤ 3 ^ i := Nat.pow_le_pow_left hm i
  have h2 : 3 ^ i ≤ 3 ^ 19 := Nat.pow_le_pow_right (by decide) hi
  have h3 : 3 ^ 19 = 1162261467 := by decide
  omega
theorem fm_290_4 {m a : Nat} {x0 x1 : Int32} {s : ps_S} {R : Int32 → ps_S → Prop} (h0 : x0.toInt = m) (h1 : x1.toInt = a) (hm : m ≤ 3) (ha : a ≤ 19) (k : ∀ v : Int32, v.toInt = (m ^ a : Nat) → R v s) : ∀ (n : Nat) {x2 x3 : Int32} {i : Nat}, x3.toInt = i → i ≤ a → x2.toInt = (m ^ i : Nat) → pl_At n 290 4 [(0, .int x0), (1, .int x1), (2, .int x2), (3, .int x3)] [] s (ps_rI R)
  | 0, _, _, _, _, _, _ => pl_At_0
  | n + 1, x2, x3, i, hx, hi, h2 => by
    refine pl_290_4 ?_
    refine ⟨fun h6 => ?_, fun h6 => ?_⟩
    · have h6 : x1.toInt ≤ x3.toInt := xle h6
      have e : i = a := by omega
      subst e
      exact k _ h2
    · have h6 : x3.toInt < x1.toInt := xlt h6
      refine fm_290_4 h0 h1 hm ha k n (xj1 hx (by omega)) (by omega) ?_
      have hp := md_pow (i := i + 1) hm (by omega)
      rw [Nat.pow_succ] at hp ⊢
      exact xImN h2 h0 (by omega)
theorem fm_290 {n m a : Nat} {x0 x1 : Int32} {s : ps_S} {R : Int32 → ps_S → Prop} (h0 : x0.toInt = m) (h1 : x1.toInt = a) (hm : m ≤ 3) (ha : a ≤ 19) (k : ∀ v : Int32, v.toInt = (m ^ a : Nat) → R v s) : pl_Cl n 290 [.int x0, .int x1] s (ps_rI R) := by
  cases n with
  | zero => exact pl_At_0
  | succ n =>
  show pl_At (n + 1) 290 0 [(0, .int x0), (1, .int x1)] [] s (ps_rI R)
  refine pl_290_0 ?_
  exact fm_290_4 h0 h1 hm ha k n (i := 0) rfl (Nat.zero_le _) (by rw [Nat.pow_zero]; rfl)
/-- the digits so far, and their product as far as it is told -/
def mv_Dg (s : ps_S) (l : List Nat) : Prop := (ps_i s 1131 73).toInt = l.length ∧ ar_L s 1170 l
def md_r (l : List Nat) (a : Int) : Prop := (a ≤ 4096 ∧ a = md_p l) ∨ (4096 < a ∧ a ≤ 12288 ∧ 4096 < md_p l)
theorem md_r_snoc {l : List Nat} {b : Nat} {x1 x2 : Int32} (h : md_r l x2.toInt) (hx : x1.toInt = b) (hb : 1 ≤ b ∧ b ≤ 3) : (x2.toInt ≤ 4096 → md_r (l ++ [b]) (x2 * x1).toInt) ∧ (4096 < x2.toInt → md_r (l ++ [b]) x2.toInt) := by
  unfold md_r at h ⊢
  rw [md_p_snoc]
  have e1 : md_p l * 1 ≤ md_p l * b := Nat.mul_le_mul_left _ hb.1
  have e3 : md_p l * b ≤ md_p l * 3 := Nat.mul_le_mul_left _ hb.2
  rcases h with ⟨h1, h2⟩ | ⟨h1, h2, h3⟩
  · refine ⟨fun _ => ?_, fun z => absurd z (by omega)⟩
    have ex : (x2 * x1).toInt = (md_p l * b : Nat) := by
      exact xImN h2 hx (by omega)
    rw [ex]
    generalize md_p l * b = q at e1 e3 ⊢
    omega
  · exact ⟨fun z => absurd z (by omega), fun _ => Or.inr ⟨h1, h2, by omega⟩⟩
theorem mv_Dg_snoc {s : ps_S} {l : List Nat} {b : Nat} {x : Int32} (D : mv_Dg s l) (hx : x.toInt = b) (hl : l.length < 96) : mv_Dg (ps_ui (ps_ua s 1170 l.length x) 1131 73 (ps_i (ps_ua s 1170 l.length x) 1131 73 + 1)) (l ++ [b]) := by
  refine ⟨?_, ar_snoc D.2 hx⟩
  rw [ps_i_ui, if_pos ⟨rfl, rfl⟩, List.length_append, List.length_singleton]
  exact xj1 D.1 (by omega)
theorem fm_292 {n b : Nat} {l : List Nat} {x1 x2 : Int32} {s : ps_S} {R : Int32 → ps_S → Prop} (D : mv_Dg s l) (h : md_r l x2.toInt) (hx : x1.toInt = b) (hb : 1 ≤ b ∧ b ≤ 3) (k : ∀ (v : Int32) s', mv_Dg s' (l ++ [b]) ∧ md_r (l ++ [b]) v.toInt ∧ kq [1170] [73] s s' → R v s') : pl_Cl n 292 [.ref 1131, .int x1, .int x2] s (ps_rI R) := by
  cases n with
  | zero => exact pl_At_0
  | succ n =>
  show pl_At (n + 1) 292 0 [(0, .ref 1131), (1, .int x1), (2, .int x2)] [] s (ps_rI R)
  have hr := md_r_snoc h hx hb
  have c4 : (4096 : Int32).toInt = 4096 := by decide
  refine pl_292_0 ?_
  intro b9
  obtain ⟨b9, c9⟩ := pl_in b9
  refine ⟨fun h24 => ?_, fun h24 => ?_⟩
  · have h24 : x2.toInt ≤ (4096 : Int) := xle h24
    rw [xtn D.1] at *
    exact k _ _ ⟨mv_Dg_snoc D hx (by have := D.1; omega), hr.1 (by omega), kqi (kqa kq_refl rfl) rfl⟩
  · have h24 : (4096 : Int) < x2.toInt := xlt h24
    rw [xtn D.1] at *
    exact k _ _ ⟨mv_Dg_snoc D hx (by have := D.1; omega), hr.2 (by omega), kqi (kqa kq_refl rfl) rfl⟩
def ML (s : ps_S) (m : Nat) (g : tx_g) : Prop := mv_Dg s (md_B m (md_sy m g)) ∧ (∀ k, k < g.1.length → (ps_a s 1171 k).toInt = md_o m g k) ∧ ∀ k, k < g.2.length → (ps_a s 1172 k).toInt = md_o m g (g.1.length + k)
section M291
variable {b m : Nat} {g : tx_g} {s0 : ps_S} {R : Int32 → ps_S → Prop}
def MK (b m : Nat) (g : tx_g) (s0 : ps_S) (R : Int32 → ps_S → Prop) : Prop := ∀ (v : Int32) s', ML s' m g → md_r (md_B m (md_sy m g)) v.toInt → kq [1170, 1171, 1172] [73] s0 s' → R v s'
/-- what holds at the loops' heads -/
def MH (b m : Nat) (g : tx_g) (s0 s : ps_S) : Prop := kq [1170, 1171, 1172] [73] s0 s ∧ b < 2 ∧ (ps_i s 1131 21).toInt = b ∧ mv_E s b g
theorem MH_k {b m : Nat} {g : tx_g} {s0 s s' : ps_S} {A F : List Nat} (H : MH b m g s0 s) (K : kq A F s s') (hA : A.all (fun a => [1170, 1171, 1172].contains a) = true) (hF : F.all (fun a => [73].contains a) = true) : MH b m g s0 s' := by
  obtain ⟨h1, h2, h3, h4⟩ := H
  have K2 : kq [1170, 1171, 1172] [73] s s' := kqt kq_refl K hA hF
  exact ⟨kqt h1 K hA hF, h2, by rw [kq_i K2 21 rfl]; exact h3, mv_E_kq h4 K2 (by decide)⟩
theorem mv_E_ar {s : ps_S} {b m : Nat} {g : tx_g} (H : mv_E s b g) : ∀ q, q ∈ md_sy m g → q.1 ≤ 2 := fun q hq => by
  unfold md_sy at hq
  rcases List.mem_append.mp hq with hq | hq
  · obtain ⟨p, hp, rfl⟩ := List.mem_map.mp hq
    obtain ⟨k, hk⟩ := List.mem_iff_getElem?.mp hp
    exact (H.2.2.2.2.1 k p.1 p.2 hk).2.1
  · obtain ⟨p, hp, rfl⟩ := List.mem_map.mp hq
    obtain ⟨k, hk⟩ := List.mem_iff_getElem?.mp hp
    exact (H.2.2.2.2.2 k p.1 p.2 hk).2.1
theorem fm_291_52 {n0 : Nat} {L : List Nat} {j0 : Nat} {x1 x3 : Int32} (hm : 1 ≤ m ∧ m ≤ 3) (hx1 : x1.toInt = m) (k : ∀ (s' : ps_S) (v : Int32), mv_Dg s' (L ++ List.replicate j0 2) → md_r (L ++ List.replicate j0 2) v.toInt → kq [1170] [73] s0 s' → pl_At n0 291 9 [(0, .ref 1131), (1, .int x1), (2, .int v), (3, .int (x3 + 1))] [] s' (ps_rI R)) : ∀ (n : Nat) {s : ps_S} {x2 x4 : Int32} {j : Nat}, n ≤ n0 → x4.toInt = (j0 : Int) - j → j ≤ j0 → j0 ≤ 9 → mv_Dg s (L ++ List.replicate j 2) → md_r (L ++ List.replicate j 2) x2.toInt → kq [1170] [73] s0 s → pl_At n 291 52 [(0, .ref 1131), (1, .int x1), (2, .int x2), (3, .int x3), (4, .int x4)] [] s (ps_rI R)
  | 0, _, _, _, _, _, _, _, _, _, _, _ => pl_At_0
  | n + 1, s, x2, x4, j, hn, hx4, hj, h9, D, r, K => by
    have cm : (Int32.ofInt (-1)).toInt = -1 := by decide
    refine pl_291_52 ?_
    refine ⟨fun h54 => ?_, fun h54 => ?_⟩
    · have h54 : x4.toInt ≤ (0 : Int) := xle h54
      have e : j = j0 := by omega
      subst e
      exact (k s x2 D r K).le (by omega)
    · have h54 : (0 : Int) < x4.toInt := xlt h54
      refine fm_292 (b := 2) D r (by decide) (by decide) (fun v60 s60 q60 => ?_)
      refine fm_291_52 hm hx1 k n (j := j + 1) (by omega) ?_ (by omega) h9 (by rw [List.replicate_succ', ← List.append_assoc]; exact q60.1) (by rw [List.replicate_succ', ← List.append_assoc]; exact q60.2.1) (kqt K q60.2.2 (by decide) (by decide))
      clear q60
      rw [xIa (by omega) (by omega), cm, hx4]
      omega

theorem fm_291_120 {n0 : Nat} {L : List Nat} {j0 : Nat} {x1 x3 : Int32} (hm : 1 ≤ m ∧ m ≤ 3) (hx1 : x1.toInt = m) (k : ∀ (s' : ps_S) (v : Int32), mv_Dg s' (L ++ List.replicate j0 m) → md_r (L ++ List.replicate j0 m) v.toInt → kq [1170] [73] s0 s' → pl_At n0 291 78 [(0, .ref 1131), (1, .int x1), (2, .int v), (3, .int (x3 + 1))] [] s' (ps_rI R)) : ∀ (n : Nat) {s : ps_S} {x2 x4 : Int32} {j : Nat}, n ≤ n0 → x4.toInt = (j0 : Int) - j → j ≤ j0 → j0 ≤ 9 → mv_Dg s (L ++ List.replicate j m) → md_r (L ++ List.replicate j m) x2.toInt → kq [1170] [73] s0 s → pl_At n 291 120 [(0, .ref 1131), (1, .int x1), (2, .int x2), (3, .int x3), (4, .int x4)] [] s (ps_rI R)
  | 0, _, _, _, _, _, _, _, _, _, _, _ => pl_At_0
  | n + 1, s, x2, x4, j, hn, hx4, hj, h9, D, r, K => by
    have cm : (Int32.ofInt (-1)).toInt = -1 := by decide
    refine pl_291_120 ?_
    refine ⟨fun h122 => ?_, fun h122 => ?_⟩
    · have h122 : x4.toInt ≤ (0 : Int) := xle h122
      have e : j = j0 := by omega
      subst e
      exact (k s x2 D r K).le (by omega)
    · have h122 : (0 : Int) < x4.toInt := xlt h122
      refine fm_292 (b := m) D r hx1 hm (fun v128 s128 q128 => ?_)
      refine fm_291_120 hm hx1 k n (j := j + 1) (by omega) ?_ (by omega) h9 (by rw [List.replicate_succ', ← List.append_assoc]; exact q128.1) (by rw [List.replicate_succ', ← List.append_assoc]; exact q128.2.1) (kqt K q128.2.2 (by decide) (by decide))
      clear q128
      rw [xIa (by omega) (by omega), cm, hx4]
      omega

theorem fm_291_78 (hm : 1 ≤ m ∧ m ≤ 3) (k : MK b m g s0 R) : ∀ (n : Nat) {s : ps_S} {x1 x2 x3 : Int32} {i : Nat}, x1.toInt = m → x3.toInt = i → i ≤ g.2.length → mv_Dg s (md_B m ((md_sy m g).take (g.1.length + i))) → md_r (md_B m ((md_sy m g).take (g.1.length + i))) x2.toInt → (∀ k, k < g.1.length → (ps_a s 1171 k).toInt = md_o m g k) → (∀ k, k < i → (ps_a s 1172 k).toInt = md_o m g (g.1.length + k)) → MH b m g s0 s → pl_At n 291 78 [(0, .ref 1131), (1, .int x1), (2, .int x2), (3, .int x3)] [] s (ps_rI R)
  | 0, _, _, _, _, _, _, _, _, _, _, _, _, _ => pl_At_0
  | n + 1, s, x1, x2, x3, i, hx1, hx, hi, D, r, h7, h8, HH => by
    obtain ⟨K, hb, h21, H⟩ := id HH
    have hsl : (md_sy m g).length = g.1.length + g.2.length := md_sy_len
    have h9 := md_o_le hm.2 (mv_E_ar (m := m) H)
    have g1 := H.2.2.1
    have g2 := H.2.2.2.1
    have f1 := H.2.1
    have cw : (4 : Int32).toInt = 4 := by decide
    refine pl_291_78 ?_
    rw [xtn h21]
    intro bb
    refine ⟨fun z => ?_, fun z => ?_⟩
    · have z := xle z
      have e : g.1.length + i = (md_sy m g).length := by omega
      have ei : i = g.2.length := by omega
      rw [e, List.take_length] at D r
      rw [ei] at h8
      exact k _ _ ⟨D, h7, h8⟩ r K
    · have z := xlt z
      have hi2 : i < g.2.length := by omega
      obtain ⟨q, e⟩ : ∃ q, g.2[i]? = some q := ⟨_, List.getElem?_eq_getElem hi2⟩
      have hq := H.2.2.2.2.2 i q.1 q.2 e
      have es := md_sy_2 (m := m) e
      intro b1 b2
      rw [xtn hx] at *
      have K1 : kq [1172] [] s (ps_ua s 1172 i (ps_i s 1131 73)) := kqa kq_refl rfl
      have ex : (((4 : Int32) * (ps_i (ps_ua s 1172 i (ps_i s 1131 73)) 1131 21)) + x3).toInt = (4 * b + i : Nat) := by
        show (((4 : Int32) * (ps_i s 1131 21)) + x3).toInt = _
        have e1 : ((4 : Int32) * (ps_i s 1131 21)).toInt = 4 * b := by rw [xIm (by rw [cw, h21]; omega) (by rw [cw, h21]; omega), cw, h21]
        rw [xIa (by omega) (by omega), e1, hx]
        omega
      rw [xtn ex]
      refine fm_290 (m := m) (a := q.2) hx1 (by rw [ps_a_ua, if_neg (by omega)]; exact hq.2.2.2) hm.2 (by omega) (fun v ev => ?_)
      have h9a := md_pow9 hm.2 hq.2.1
      have D1 : mv_Dg (ps_ua s 1172 i (ps_i s 1131 73)) (md_B m ((md_sy m g).take (g.1.length + i))) := by
        unfold mv_Dg ar_L at *
        rw [kq_i K1 73 rfl, kq_a K1 1170 (by decide)]
        exact D
      refine fm_291_120 (n0 := n) (s0 := ps_ua s 1172 i (ps_i s 1131 73)) (L := md_B m ((md_sy m g).take (g.1.length + i))) (j0 := m ^ q.2) hm hx1 (fun s' v' D' r' K' => ?_) n (j := 0) (Nat.le_refl _) (by omega) (Nat.zero_le _) h9a (by rw [List.replicate_zero, List.append_nil]; exact D1) (by rw [List.replicate_zero, List.append_nil]; exact r) kq_refl
      refine fm_291_78 hm k n hx1 (xj1 hx (by omega)) (by omega) (by rw [← Nat.add_assoc, md_take es, md_B_snoc]; exact D') (by rw [← Nat.add_assoc, md_take es, md_B_snoc]; exact r') (fun k hk => ?_) (fun k hk => ?_) (MH_k (MH_k HH K1 (by decide) (by decide)) K' (by decide) (by decide))
      · rw [kq_a K' 1171 (by decide), ps_a_ua, if_neg (fun z => absurd z.1 (by decide))]
        exact h7 k hk
      · rw [kq_a K' 1172 (by decide), ps_a_ua]
        by_cases ek : k = i
        · rw [if_pos ⟨rfl, ek⟩, ek, D.1]
          rfl
        · rw [if_neg (fun z => ek z.2)]
          exact h8 k (by omega)

theorem fm_291_9 (hm : 1 ≤ m ∧ m ≤ 3) (k : MK b m g s0 R) : ∀ (n : Nat) {s : ps_S} {x1 x2 x3 : Int32} {i : Nat}, x1.toInt = m → x3.toInt = i → i ≤ g.1.length → mv_Dg s (md_B m ((md_sy m g).take (i))) → md_r (md_B m ((md_sy m g).take (i))) x2.toInt → (∀ k, k < i → (ps_a s 1171 k).toInt = md_o m g k) → MH b m g s0 s → pl_At n 291 9 [(0, .ref 1131), (1, .int x1), (2, .int x2), (3, .int x3)] [] s (ps_rI R)
  | 0, _, _, _, _, _, _, _, _, _, _, _, _ => pl_At_0
  | n + 1, s, x1, x2, x3, i, hx1, hx, hi, D, r, h7, HH => by
    obtain ⟨K, hb, h21, H⟩ := id HH
    have hsl : (md_sy m g).length = g.1.length + g.2.length := md_sy_len
    have h9 := md_o_le hm.2 (mv_E_ar (m := m) H)
    have g1 := H.2.2.1
    have g2 := H.2.2.2.1
    have f1 := H.1
    have cw : (6 : Int32).toInt = 6 := by decide
    refine pl_291_9 ?_
    rw [xtn h21]
    intro bb
    refine ⟨fun z => ?_, fun z => ?_⟩
    · have z := xle z
      have e : i = g.1.length := by omega
      rw [e] at D r h7
      exact fm_291_78 hm k n hx1 (i := 0) rfl (Nat.zero_le _) D r h7 (fun k hk => absurd hk (Nat.not_lt_zero _)) HH
    · have z := xlt z
      have hi2 : i < g.1.length := by omega
      obtain ⟨q, e⟩ : ∃ q, g.1[i]? = some q := ⟨_, List.getElem?_eq_getElem hi2⟩
      have hq := H.2.2.2.2.1 i q.1 q.2 e
      have es := md_sy_1 (m := m) e
      intro b1 b2
      rw [xtn hx] at *
      have K1 : kq [1171] [] s (ps_ua s 1171 i (ps_i s 1131 73)) := kqa kq_refl rfl
      have ex : (((6 : Int32) * (ps_i (ps_ua s 1171 i (ps_i s 1131 73)) 1131 21)) + x3).toInt = (6 * b + i : Nat) := by
        show (((6 : Int32) * (ps_i s 1131 21)) + x3).toInt = _
        have e1 : ((6 : Int32) * (ps_i s 1131 21)).toInt = 6 * b := by rw [xIm (by rw [cw, h21]; omega) (by rw [cw, h21]; omega), cw, h21]
        rw [xIa (by omega) (by omega), e1, hx]
        omega
      rw [xtn ex]
      refine fm_290 (m := m) (a := q.2) hx1 (by rw [ps_a_ua, if_neg (by omega)]; exact hq.2.2.2) hm.2 (by omega) (fun v ev => ?_)
      have h9a := md_pow9 hm.2 hq.2.1
      have D1 : mv_Dg (ps_ua s 1171 i (ps_i s 1131 73)) (md_B m ((md_sy m g).take (i))) := by
        unfold mv_Dg ar_L at *
        rw [kq_i K1 73 rfl, kq_a K1 1170 (by decide)]
        exact D
      refine fm_291_52 (n0 := n) (s0 := ps_ua s 1171 i (ps_i s 1131 73)) (L := md_B m ((md_sy m g).take (i))) (j0 := m ^ q.2) hm hx1 (fun s' v' D' r' K' => ?_) n (j := 0) (Nat.le_refl _) (by omega) (Nat.zero_le _) h9a (by rw [List.replicate_zero, List.append_nil]; exact D1) (by rw [List.replicate_zero, List.append_nil]; exact r) kq_refl
      refine fm_291_9 hm k n hx1 (xj1 hx (by omega)) (by omega) (by rw [md_take es, md_B_snoc]; exact D') (by rw [md_take es, md_B_snoc]; exact r') (fun k hk => ?_) (MH_k (MH_k HH K1 (by decide) (by decide)) K' (by decide) (by decide))
      · rw [kq_a K' 1171 (by decide), ps_a_ua]
        by_cases ek : k = i
        · rw [if_pos ⟨rfl, ek⟩, ek, D.1]
          rfl
        · rw [if_neg (fun z => ek z.2)]
          exact h7 k (by omega)

end M291

theorem fm_291 {n b m : Nat} {g : tx_g} {s : ps_S} {x1 : Int32} {R : Int32 → ps_S → Prop} (hm : 1 ≤ m ∧ m ≤ 3) (hb : b < 2) (h21 : (ps_i s 1131 21).toInt = b) (H : mv_E s b g) (hx : x1.toInt = m) (k : ∀ (v : Int32) s', ML s' m g → md_r (md_B m (md_sy m g)) v.toInt → kq [1170, 1171, 1172] [73] s s' → R v s') : pl_Cl n 291 [.ref 1131, .int x1] s (ps_rI R) := by
  cases n with
  | zero => exact pl_At_0
  | succ n =>
  show pl_At (n + 1) 291 0 [(0, .ref 1131), (1, .int x1)] [] s (ps_rI R)
  refine pl_291_0 ?_
  have K : kq [] [73] s (ps_ui s 1131 73 0) := kqi kq_refl rfl
  exact fm_291_9 (b := b) (m := m) (g := g) (s0 := s) hm (fun v s' a b c => k v s' a b c) n hx (i := 0) rfl (Nat.zero_le _) ⟨rfl, fun k c hk => by cases hk⟩ (Or.inl ⟨by decide, rfl⟩) (fun k hk => absurd hk (Nat.not_lt_zero _)) ⟨kqt kq_refl K (by decide) (by decide), hb, h21, mv_E_kq H K (by decide)⟩
/-- models() of the reference: what it leaves, what it answers -/
theorem fm_301 {n b : Nat} {g : tx_g} {s : ps_S} {x1 : Int32} {R : Int32 → ps_S → Prop} (hb : b < 2) (h21 : (ps_i s 1131 21).toInt = b) (H : mv_E s b g) (k1 : ∀ (v : Int32) s', 1 ≤ x1.toInt → x1.toInt ≤ 3 → v.toInt = md_v (md_p (md_B x1.toInt.toNat (md_sy x1.toInt.toNat g))) → ML s' x1.toInt.toNat g → kq [1170, 1171, 1172] [73] s s' → R v s') (k0 : ¬ (1 ≤ x1.toInt ∧ x1.toInt ≤ 3) → R (-1) s) : pl_Cl n 301 [.ref 1131, .int x1] s (ps_rI R) := by
  cases n with
  | zero => exact pl_At_0
  | succ n =>
  show pl_At (n + 1) 301 0 [(0, .ref 1131), (1, .int x1)] [] s (ps_rI R)
  refine pl_301_0 ?_
  have c3 : (3 : Int32).toInt = 3 := by decide
  have c1 : (1 : Int32).toInt = 1 := by decide
  have c4 : (4096 : Int32).toInt = 4096 := by decide
  refine fm_200 (fun h1 h2 => ⟨fun _ => ?_, fun z => absurd z (by decide)⟩) (fun h => ⟨fun z => absurd rfl z, fun _ => k0 (by omega)⟩)
  refine fm_291 (m := x1.toInt.toNat) (by omega) hb h21 H (by omega) (fun v s' L r K => ⟨fun z => ?_, fun z => ?_⟩)
  · have z := xle z
    refine k1 _ _ (by omega) (by omega) ?_ L K
    rcases r with ⟨r1, r2⟩ | ⟨r1, r2, r3⟩
    · unfold md_v
      rw [if_pos (by omega)]
      exact r2
    · omega
  · have z := xlt z
    refine k1 _ _ (by omega) (by omega) ?_ L K
    rcases r with ⟨r1, r2⟩ | ⟨r1, r2, r3⟩
    · omega
    · unfold md_v
      rw [if_neg (by omega)]
      rfl
theorem fm_301a {n : Nat} {s : ps_S} {h : tx_H} {l : List Nat} {x1 : Int32} (m : TRm s h l) : pl_Cl n 301 [.ref 1131, .int x1] s (ps_rI (fun v _ => md_A h.1 x1 v)) := by
  obtain ⟨b, m1, m2, m3, -⟩ := m
  exact fm_301 m1 m2 m3.1 (fun v s' a b e _ _ => ⟨fun _ => e, fun z => absurd ⟨a, b⟩ z⟩) (fun z => ⟨fun y => absurd y z, fun _ => by decide⟩)

