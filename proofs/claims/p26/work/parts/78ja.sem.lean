set_option maxRecDepth 100000
/-! the class: what a formula is worth in the model that is set -/
-- ProofBench$Judge.isSo(III)Z
theorem pl_15_0 {n : Nat} {x1 : Int32} {x2 : Int32} {x3 : Int32} {s : ps_S} {Q : Option Value → ps_S → Prop} (h :
  (x3 ≤ 12 →
    pl_Cl n 92 [.ref (ps_r s 944 14), .int x1] s (ps_rI (fun v1 s1 =>
      (v1 = 0 →
        Q (some (.int 0)) s1) ∧
      (v1 ≠ 0 →
        (v1 = 1 →
        pl_Cl n 16 [.ref 944, .int x1, .int x2, .int (x3 + 1)] s1 (ps_rI (fun v2 s2 =>
          pl_nk (decide (v2 &&& 1 = v2)) (Q (some (.int v2)) s2)))) ∧
      (v1 ≠ 1 →
        (v1 = 2 →
        pl_Cl n 16 [.ref 944, .int x1, .int x2, .int (x3 + 1)] s1 (ps_rI (fun v3 s3 =>
          pl_nk (decide (v3 &&& 1 = v3)) (Q (some (.int v3)) s3)))) ∧
      (v1 ≠ 2 →
        (v1 = 3 →
        pl_Cl n 16 [.ref 944, .int x1, .int x2, .int (x3 + 1)] s1 (ps_rI (fun v4 s4 =>
          pl_nk (decide (v4 &&& 1 = v4)) (Q (some (.int v4)) s4)))) ∧
      (v1 ≠ 3 →
        (v1 = 4 →
        pl_Cl n 17 [.ref 944, .int x1, .int x2, .int x3] s1 (ps_rI (fun v5 s5 =>
          pl_nk (decide (v5 &&& 1 = v5)) (Q (some (.int v5)) s5)))) ∧
      (v1 ≠ 4 →
        (v1 = 5 →
        pl_Cl n 17 [.ref 944, .int x1, .int x2, .int x3] s1 (ps_rI (fun v6 s6 =>
          pl_nk (decide (v6 &&& 1 = v6)) (Q (some (.int v6)) s6)))) ∧
      (v1 ≠ 5 →
        (v1 = 6 →
        pl_Cl n 18 [.ref 944, .int (x1 + 1), .int x2, .int (x3 + 1)] s1 (ps_rI (fun v7 s7 =>
          pl_Cl n 104 [.ref (ps_r s7 944 15), .int (x1 + 1)] s7 (ps_rI (fun v8 s8 =>
            pl_Cl n 18 [.ref 944, .int v8, .int x2, .int (x3 + 1)] s8 (ps_rI (fun v9 s9 =>
              (v7 ≠ v9 →
                Q (some (.int 0)) s9) ∧
              (v7 = v9 →
                Q (some (.int 1)) s9)))))))) ∧
      (v1 ≠ 6 →
        pl_Cl n 182 [.ref 947, .int (v1 - 10)] s1 (ps_rI (fun v10 s10 =>
        pl_Cl n 19 [.ref 944, .int x1, .int x2, .int x3] s10 (ps_rI (fun v11 s11 =>
          pl_Cl n 182 [.ref 946, .int (v10 + v11)] s11 (ps_rI (fun v12 s12 =>
            (v12 ≠ 1 →
              Q (some (.int 0)) s12) ∧
            (v12 = 1 →
              Q (some (.int 1)) s12))))))))))))))))) ∧
  (12 < x3 →
    Q (some (.int 0)) s)) : pl_At (n + 1) 15 0 [(0, .ref 944), (1, .int x1), (2, .int x2), (3, .int x3)] [] s Q :=
  pl_wp_at (stops := []) (f := 101) h rfl

-- ProofBench$Judge.isSoOfTwo(III)Z
theorem pl_16_0 {n : Nat} {x1 : Int32} {x2 : Int32} {x3 : Int32} {s : ps_S} {Q : Option Value → ps_S → Prop} (h :
  pl_Cl n 15 [.ref 944, .int (x1 + 1), .int x2, .int x3] s (ps_rI (fun v1 s1 =>
    pl_Cl n 92 [.ref (ps_r s1 944 14), .int x1] s1 (ps_rI (fun v2 s2 =>
      (v2 = 1 →
        (v1 = 0 →
          Q (some (.int 0)) s2) ∧
        (v1 ≠ 0 →
          pl_Cl n 104 [.ref (ps_r s2 944 15), .int (x1 + 1)] s2 (ps_rI (fun v3 s3 =>
            pl_Cl n 15 [.ref 944, .int v3, .int x2, .int x3] s3 (ps_rI (fun v4 s4 =>
              (v4 = 0 →
                Q (some (.int 0)) s4) ∧
              (v4 ≠ 0 →
                Q (some (.int 1)) s4))))))) ∧
      (v2 ≠ 1 →
        (v2 = 2 →
        (v1 ≠ 0 →
          Q (some (.int 1)) s2) ∧
        (v1 = 0 →
          pl_Cl n 104 [.ref (ps_r s2 944 15), .int (x1 + 1)] s2 (ps_rI (fun v5 s5 =>
            pl_Cl n 15 [.ref 944, .int v5, .int x2, .int x3] s5 (ps_rI (fun v6 s6 =>
              (v6 = 0 →
                Q (some (.int 0)) s6) ∧
              (v6 ≠ 0 →
                Q (some (.int 1)) s6))))))) ∧
      (v2 ≠ 2 →
        (v1 = 0 →
        Q (some (.int 1)) s2) ∧
      (v1 ≠ 0 →
        pl_Cl n 104 [.ref (ps_r s2 944 15), .int (x1 + 1)] s2 (ps_rI (fun v7 s7 =>
          pl_Cl n 15 [.ref 944, .int v7, .int x2, .int x3] s7 (ps_rI (fun v8 s8 =>
            (v8 = 0 →
              Q (some (.int 0)) s8) ∧
            (v8 ≠ 0 →
              Q (some (.int 1)) s8))))))))))))) : pl_At (n + 1) 16 0 [(0, .ref 944), (1, .int x1), (2, .int x2), (3, .int x3)] [] s Q :=
  pl_wp_at (stops := []) (f := 77) h rfl

-- ProofBench$Judge.isSoForThings(III)Z
theorem pl_17_0 {n : Nat} {x1 : Int32} {x2 : Int32} {x3 : Int32} {s : ps_S} {Q : Option Value → ps_S → Prop} (h :
  pl_Cl n 92 [.ref (ps_r s 944 14), .int x1] s (ps_rI (fun v1 s1 =>
    (v1 ≠ 4 →
      pl_At n 17 22 [(0, .ref 944), (1, .int x1), (2, .int x2), (3, .int x3), (4, .int 0), (5, .int 0)] [] s1 Q) ∧
    (v1 = 4 →
      pl_At n 17 22 [(0, .ref 944), (1, .int x1), (2, .int x2), (3, .int x3), (4, .int 1), (5, .int 0)] [] s1 Q)))) : pl_At (n + 1) 17 0 [(0, .ref 944), (1, .int x1), (2, .int x2), (3, .int x3)] [] s Q :=
  pl_wp_at (stops := [(22, [0, 1, 2, 3, 4, 5])]) (f := 17) h rfl

theorem pl_17_22 {n : Nat} {x1 : Int32} {x2 : Int32} {x3 : Int32} {x4 : Int32} {x5 : Int32} {s : ps_S} {Q : Option Value → ps_S → Prop} (h :
  ((ps_i s 944 11) ≤ x5 →
    pl_nk (decide (x4 &&& 1 = x4)) (Q (some (.int x4)) s)) ∧
  (x5 < (ps_i s 944 11) →
    pl_Cl n 183 [.ref 954, .int x2, .int x5] s (ps_rV (fun s1 =>
      pl_Cl n 15 [.ref 944, .int (x1 + 1), .int (x2 + 1), .int (x3 + 1)] s1 (ps_rI (fun v2 s2 =>
        (v2 = x4 →
          pl_At n 17 22 [(0, .ref 944), (1, .int x1), (2, .int x2), (3, .int x3), (4, .int x4), (5, .int (x5 + 1))] [] s2 Q) ∧
        (v2 ≠ x4 →
          (x4 ≠ 0 →
            Q (some (.int 0)) s2) ∧
          (x4 = 0 →
            Q (some (.int 1)) s2)))))))) : pl_At (n + 1) 17 22 [(0, .ref 944), (1, .int x1), (2, .int x2), (3, .int x3), (4, .int x4), (5, .int x5)] [] s Q :=
  pl_wp_at (stops := [(22, [0, 1, 2, 3, 4, 5])]) (f := 35) h rfl

-- ProofBench$Judge.thingOf(III)I
theorem pl_18_0 {n : Nat} {x1 : Int32} {x2 : Int32} {x3 : Int32} {s : ps_S} {Q : Option Value → ps_S → Prop} (h :
  (x3 ≤ 12 →
    pl_Cl n 92 [.ref (ps_r s 944 14), .int x1] s (ps_rI (fun v1 s1 =>
      (v1 < 60 →
        pl_Cl n 185 [.int v1] s1 (ps_rI (fun v2 s2 =>
          (v2 = 0 →
            pl_Cl n 182 [.ref 948, .int (v1 - 20)] s2 (ps_rI (fun v3 s3 =>
              pl_Cl n 19 [.ref 944, .int x1, .int x2, .int x3] s3 (ps_rI (fun v4 s4 =>
                pl_Cl n 182 [.ref 946, .int (v3 + v4)] s4 (ps_rI (fun v5 s5 =>
                  Q (some (.int v5)) s5))))))) ∧
          (v2 ≠ 0 →
            pl_Cl n 182 [.ref 954, .int ((x2 - 1) - (v1 - 40))] s2 (ps_rI (fun v6 s6 =>
              Q (some (.int v6)) s6)))))) ∧
      (60 ≤ v1 →
        pl_Cl n 182 [.ref 955, .int (v1 - 60)] s1 (ps_rI (fun v7 s7 =>
          Q (some (.int v7)) s7)))))) ∧
  (12 < x3 →
    Q (some (.int 0)) s)) : pl_At (n + 1) 18 0 [(0, .ref 944), (1, .int x1), (2, .int x2), (3, .int x3)] [] s Q :=
  pl_wp_at (stops := []) (f := 52) h rfl

-- ProofBench$Judge.place(III)I
theorem pl_19_0 {n : Nat} {x1 : Int32} {x2 : Int32} {x3 : Int32} {s : ps_S} {Q : Option Value → ps_S → Prop} (h :
  pl_Cl n 92 [.ref (ps_r s 944 14), .int x1] s (ps_rI (fun v1 s1 =>
    pl_Cl n 136 [.ref (ps_r s 944 16), .int v1] s1 (ps_rI (fun v2 s2 =>
      (v2 ≠ 0 →
        pl_Cl n 18 [.ref 944, .int (x1 + 1), .int x2, .int (x3 + 1)] s2 (ps_rI (fun v3 s3 =>
          (v2 ≠ 1 →
            pl_Cl n 104 [.ref (ps_r s3 944 15), .int (x1 + 1)] s3 (ps_rI (fun v4 s4 =>
              pl_Cl n 18 [.ref 944, .int v4, .int x2, .int (x3 + 1)] s4 (ps_rI (fun v5 s5 =>
                Q (some (.int ((v3 * (ps_i s3 944 11)) + v5))) s5))))) ∧
          (v2 = 1 →
            Q (some (.int v3)) s3)))) ∧
      (v2 = 0 →
        Q (some (.int 0)) s2)))))) : pl_At (n + 1) 19 0 [(0, .ref 944), (1, .int x1), (2, .int x2), (3, .int x3)] [] s Q :=
  pl_wp_at (stops := []) (f := 48) h rfl

/-- what is set: row, shape, tables, digits, free things -/
def JE (s : ps_S) (rr sh th m : Nat) (g : tx_g) (l : List Nat) (D fr : Nat → Nat) : Prop := (ps_r s 944 14 = rr ∧ ps_r s 944 15 = sh) ∧ cv_W s rr l ∧ shE s sh (arh g) l 0 ∧ cv_E s th g ∧ JL s th m g ∧ (∀ (j b : Nat), (md_B m (md_sy m g))[j]? = some b → (ps_a s 946 j).toInt = D j ∧ D j < b) ∧ ∀ v, 60 + v ∈ l → v < 12 ∧ (ps_a s 955 v).toInt = fr v ∧ fr v < m
/-- what stands fixed -/
def JF (rr sh th m : Nat) (g : tx_g) (l : List Nat) : Prop := ps_is rr 5 = true ∧ ps_is sh 6 = true ∧ (th = 2 ∨ th = 26) ∧ (rr ≠ 944 ∧ rr + 1 ≠ 954 ∧ sh + 1 ≠ 954) ∧ (1 ≤ m ∧ m ≤ 3) ∧ l.length ≤ 40
theorem JE_jq {s s' : ps_S} {rr sh th m : Nat} {g : tx_g} {l : List Nat} {D fr : Nat → Nat} (F : JF rr sh th m g l) (H : JE s rr sh th m g l D fr) (K : jq 944 [954] [] s s') : JE s' rr sh th m g l D fr := by
  obtain ⟨f1, f2, f3, ⟨f4, f5, f6⟩, f7, f8⟩ := F
  obtain ⟨⟨h1, h2⟩, h3, h4, h5, ⟨j1, j2, j3, j4, j5⟩, h7, h8⟩ := H
  have hc : ∀ r, r ≠ 954 → [954].contains r = false := fun r hr => by
    rw [Bool.eq_false_iff]
    intro z
    have := List.contains_iff_mem.mp z
    rw [List.mem_singleton] at this
    exact hr this
  refine ⟨⟨by rw [jq_r K]; exact h1, by rw [jq_r K]; exact h2⟩, cv_W_jq h3 K f4 (hc _ f5), ?_, cv_E_jq h5 K f3 (by decide) rfl, ⟨by rw [jq_r K]; exact j1, by rw [jq_i K 11 rfl]; exact j2, jv_D_jq j3 K rfl (by decide), by rw [jq_a K 947 (by decide)]; exact j4, by rw [jq_a K 948 (by decide)]; exact j5⟩, ?_, ?_⟩
  · intro j a b
    rw [jq_a K _ (hc _ f6)]
    exact h4 j a b
  · rw [jq_a K 946 (by decide)]
    exact h7
  · rw [jq_a K 955 (by decide)]
    exact h8
/-- bound things, the nearest first -/
def EB (s : ps_S) (m : Nat) (env : List Nat) : Prop := ∀ (k x : Nat), env[k]? = some x → (ps_a s 954 (env.length - 1 - k)).toInt = x ∧ x < m
def JP (rr sh th m : Nat) (g : tx_g) (l : List Nat) (D fr : Nat → Nat) (env : List Nat) (s s' : ps_S) : Prop := JE s' rr sh th m g l D fr ∧ EB s' m env ∧ jq 944 [954] [] s s' ∧ ∀ j, j < env.length → ps_a s' 954 j = ps_a s 954 j
section J15
variable {rr sh th m : Nat} {g : tx_g} {l : List Nat} {D fr : Nat → Nat}
def J15P (rr sh th m : Nat) (g : tx_g) (l : List Nat) (D fr : Nat → Nat) (n : Nat) : Prop := ∀ {s : ps_S} {x1 x2 x3 : Int32} {i p : Nat} {env : List Nat} {R : Int32 → ps_S → Prop}, JE s rr sh th m g l D fr → EB s m env → pt g true p env.length (l.drop i) → x1.toInt = i → x2.toInt = env.length → x3.toInt = p → (∀ (v : Int32) (s' : ps_S), (v.toInt = 0 ∨ v.toInt = 1) ∧ (v.toInt = 1 ↔ svg m g D fr (13 - p) env (l.drop i) = 1) ∧ JP rr sh th m g l D fr env s s' → R v s') → pl_Cl n 15 [.ref 944, .int x1, .int x2, .int x3] s (ps_rI R)
def J18P (rr sh th m : Nat) (g : tx_g) (l : List Nat) (D fr : Nat → Nat) (n : Nat) : Prop := ∀ {s : ps_S} {x1 x2 x3 : Int32} {i p : Nat} {env : List Nat} {R : Int32 → ps_S → Prop}, JE s rr sh th m g l D fr → EB s m env → pt g false p env.length (l.drop i) → x1.toInt = i → x2.toInt = env.length → x3.toInt = p → (∀ (v : Int32) (s' : ps_S), v.toInt = (svg m g D fr (13 - p) env (l.drop i) : Nat) ∧ JP rr sh th m g l D fr env s s' → R v s') → pl_Cl n 18 [.ref 944, .int x1, .int x2, .int x3] s (ps_rI R)
def J19P (rr sh th m : Nat) (g : tx_g) (l : List Nat) (D fr : Nat → Nat) (n : Nat) : Prop := ∀ {s : ps_S} {x1 x2 x3 : Int32} {i p c : Nat} {b : Bool} {t : List Nat} {env : List Nat} {R : Int32 → ps_S → Prop}, JE s rr sh th m g l D fr → EB s m env → pt g b p env.length (c :: t) → l.drop i = c :: t → 10 ≤ c → c < 40 → x1.toInt = i → x2.toInt = env.length → x3.toInt = p → (∀ (v : Int32) (s' : ps_S), v.toInt = (svi m g D fr (12 - p) env c t : Nat) ∧ JP rr sh th m g l D fr env s s' → R v s') → pl_Cl n 19 [.ref 944, .int x1, .int x2, .int x3] s (ps_rI R)
theorem JP_refl {s : ps_S} {env : List Nat} (H : JE s rr sh th m g l D fr) (E : EB s m env) : JP rr sh th m g l D fr env s s := ⟨H, E, jq_refl, fun _ _ => rfl⟩
theorem JP_tr {s s1 s2 : ps_S} {env : List Nat} (H : JP rr sh th m g l D fr env s s1) (G : JP rr sh th m g l D fr env s1 s2) : JP rr sh th m g l D fr env s s2 := ⟨G.1, G.2.1, jqt H.2.2.1 G.2.2.1 (by decide) (by decide), fun j hj => (G.2.2.2 j hj).trans (H.2.2.2 j hj)⟩
theorem dr_c {i c : Nat} {t : List Nat} (h : l.drop i = c :: t) : l[i]? = some c ∧ t = l.drop (i + 1) ∧ i < l.length := by
  have hi : i < l.length := by
    rcases Nat.lt_or_ge i l.length with z | z
    · exact z
    · rw [List.drop_eq_nil_of_le z] at h
      cases h
  obtain ⟨c', hc'⟩ : ∃ c', l[i]? = some c' := ⟨_, List.getElem?_eq_getElem hi⟩
  rw [drop_c hc'] at h
  cases h
  exact ⟨hc', rfl, hi⟩
theorem pt_ne {b : Bool} {p q i : Nat} (h : pt g b p q (l.drop i)) : ∃ c t, l.drop i = c :: t := by
  obtain ⟨S, W, h1, -⟩ := h
  match e : l.drop i with
  | [] => rw [e] at h1; exact h1.elim
  | c :: t => exact ⟨c, t, rfl⟩
/-- what the sort forces -/
theorem kS_t {b : Bool} {c : Nat} {ks : List Bool} (h1 : g.1.length ≤ 6) (h2 : g.2.length ≤ 4) (hk : kS (sg g) b c = some ks) : (b = true → c < 16 ∧ ¬ (7 ≤ c ∧ c < 10) ∧ (1 ≤ c → c < 4 → ks = [true, true]) ∧ (c = 4 ∨ c = 5 → ks = [true]) ∧ (c = 6 → ks = [false, false])) ∧ (b = false → 20 ≤ c ∧ (c < 24 ∨ 40 ≤ c) ∧ c < 72) := by
  have hg := kS_gap hk
  rcases kS_cases hk with ⟨z, a, e⟩ | ⟨z, a, a2, e⟩ | ⟨z, a, e⟩ | ⟨z, a, e⟩ | ⟨z, a, a2, e⟩ | ⟨z, a, a2, e⟩ | ⟨z, a, a2, e⟩
  · subst z; exact ⟨fun _ => ⟨by omega, hg, fun _ _ => by omega, fun _ => by omega, fun _ => by omega⟩, fun y => by cases y⟩
  · subst z; exact ⟨fun _ => ⟨by omega, hg, fun _ _ => e, fun _ => by omega, fun _ => by omega⟩, fun y => by cases y⟩
  · subst z; exact ⟨fun _ => ⟨by omega, hg, fun _ _ => by omega, fun _ => e, fun _ => by omega⟩, fun y => by cases y⟩
  · subst z; exact ⟨fun _ => ⟨by omega, hg, fun _ _ => by omega, fun _ => by omega, fun _ => e⟩, fun y => by cases y⟩
  · have a2 : c < 10 + g.1.length := a2
    subst z; exact ⟨fun _ => ⟨by omega, hg, fun _ _ => by omega, fun _ => by omega, fun _ => by omega⟩, fun y => by cases y⟩
  · have a2 : c < 20 + g.2.length := a2
    subst z; exact ⟨(fun y => by cases y), fun _ => ⟨by omega, by omega, by omega⟩⟩
  · subst z; exact ⟨(fun y => by cases y), fun _ => ⟨by omega, by omega, by omega⟩⟩
theorem JE_ok {s : ps_S} (F : JF rr sh th m g l) (H : JE s rr sh th m g l D fr) : g.1.length ≤ 6 ∧ g.2.length ≤ 4 ∧ ArW (sg g) (arh g) ∧ dgo m g D ∧ (∀ p, p < g.1.length → (g.1.getD p ([], 0)).2 ≤ 2) ∧ (∀ p, p < g.2.length → (g.2.getD p ([], 0)).2 ≤ 2) ∧ (∀ (i v : Nat), 60 + v ∈ l.drop i → fr v < m) ∧ (md_B m (md_sy m g)).length ≤ 90 := by
  obtain ⟨-, h3, h4, h5, h6, h7, h8⟩ := H
  have hl := md_o_le F.2.2.2.2.1.2 (md_sy_ar (m := m) h5) (md_sy m g).length (Nat.le_refl _)
  unfold md_o at hl
  rw [List.take_length, md_sy_len] at hl
  have g1 := h5.2.2.1
  have g2 := h5.2.2.2.1
  refine ⟨g1, g2, arh_k g1 g2, fun j b hb => (h7 j b hb).2, fun p hp => ?_, fun p hp => ?_, fun i v hv => (h8 v (List.mem_of_mem_drop hv)).2.2, by omega⟩
  · obtain ⟨w, hw⟩ := getD_2 (α := Nat) hp
    exact (h5.2.2.2.2.1 _ _ _ hw).2.1
  · obtain ⟨w, hw⟩ := getD_2 (α := Nat) hp
    exact (h5.2.2.2.2.2.1 _ _ _ hw).2.1
theorem EB_lt {s : ps_S} {env : List Nat} (E : EB s m env) : ∀ x, x ∈ env → x < m := fun x hx => by
  obtain ⟨k, hk⟩ := List.mem_iff_getElem?.mp hx
  exact (E k x hk).2
/-- the second part's place -/
theorem fs_104e {n i : Nat} {x1 : Int32} {s : ps_S} {R : Int32 → ps_S → Prop} (F : JF rr sh th m g l) (H : JE s rr sh th m g l D fr) (hx : x1.toInt = i) (hi : i < l.length) (k : ∀ v : Int32, v.toInt = (i + en (arh g) (l.drop i) 1 : Nat) → R v s) : pl_Cl n 104 [.ref (ps_r s 944 15), .int x1] s (ps_rI R) := by
  rw [H.1.2]
  exact fs_104 F.2.1 hx (by have := F.2.2.2.2.2; omega) (fun v q => k v (by rw [q]; exact H.2.2.1 i (Nat.zero_le _) hi))
theorem fs_92e {n i c : Nat} {x1 : Int32} {s : ps_S} {R : Int32 → ps_S → Prop} (F : JF rr sh th m g l) (H : JE s rr sh th m g l D fr) (hx : x1.toInt = i) (hc : l[i]? = some c) (k : ∀ v : Int32, v.toInt = c → R v s) : pl_Cl n 92 [.ref (ps_r s 944 14), .int x1] s (ps_rI R) := by
  rw [H.1.1]
  exact fs_92c F.1 H.2.1 hx hc k
theorem J19_ok {n : Nat} (F : JF rr sh th m g l) (h18 : J18P rr sh th m g l D fr n) : J19P rr sh th m g l D fr (n + 1) := by
  intro s x1 x2 x3 i p c b t env R H E h hd hc10 hc40 hx1 hx2 hx3 k
  obtain ⟨g1, g2, hA, hD, hr2, hf2, hfr, h90⟩ := JE_ok F H
  obtain ⟨hci, ht, hil⟩ := dr_c hd
  obtain ⟨hp, hq, hb, ks, hk⟩ := pt_c h
  have ha := hA b c ks hk
  have hks := kS_tms hk hc10
  have h40 := F.2.2.2.2.2
  have c1 : (1 : Int32).toInt = 1 := by decide
  have e13 : 13 - (p + 1) = 12 - p := by omega
  have hth := F.2.2.1
  show pl_At (n + 1) 19 0 [(0, .ref 944), (1, .int x1), (2, .int x2), (3, .int x3)] [] s (ps_rI R)
  refine pl_19_0 ?_
  refine fs_92e F H hx1 hci (fun v1 q1 => ?_)
  rw [H.2.2.2.2.1.1]
  refine fs_136c hth H.2.2.2.1 hk q1 (fun v2 q2 => ⟨fun z => ?_, fun z => ?_⟩)
  · have z := xne z
    have c0 : (0 : Int32).toInt = 0 := by decide
    match ks, ha, hk, hks with
    | [], ha, _, _ => rw [List.length_nil] at ha; omega
    | b1 :: ks', ha, hk, hks =>
      rw [List.length_cons, List.replicate_succ] at hks
      have hb1 : b1 = false := (List.cons.inj hks).1
      subst hb1
      have k1 := pt_1 hA h hk
      rw [qb_0 (by omega), Nat.add_zero, ht] at k1
      refine h18 H E k1 (xj1 hx1 (by omega)) hx2 (xj1 hx3 (by omega)) (fun v3 s3 q3 => ⟨fun z2 => ?_, fun z2 => ?_⟩)
      · have z2 := xne z2
        rw [List.length_cons] at ha
        match ks', ha, hk, hks with
        | [], ha, _, _ => rw [List.length_nil] at ha; omega
        | b2 :: ks'', ha, hk, hks =>
          rw [List.length_cons, List.replicate_succ] at hks
          have hb2 : b2 = false := (List.cons.inj (List.cons.inj hks).2).1
          subst hb2
          have h3 : ks''.length = 0 := by
            have a2 : arh g c ≤ 2 := by
              rcases kS_num hk with ⟨a, e⟩ | ⟨a, a2, e⟩ | ⟨a, e⟩ | ⟨a, e⟩ | ⟨a, a2, e⟩ | ⟨a, a2, e⟩ | ⟨a, a2, e⟩
              · omega
              · omega
              · omega
              · omega
              · have a2 : c < 10 + g.1.length := a2
                have e : _ = (g.1.getD (c - 10) ([], 0)).2 := e
                have := hr2 (c - 10) (by omega)
                rw [List.length_cons, List.length_cons] at e
                rw [List.length_cons] at ha
                omega
              · have a2 : c < 20 + g.2.length := a2
                have e : _ = (g.2.getD (c - 20) ([], 0)).2 := e
                have := hf2 (c - 20) (by omega)
                rw [List.length_cons, List.length_cons] at e
                rw [List.length_cons] at ha
                omega
              · omega
            rw [List.length_cons] at ha
            omega
          have h3 : ks'' = [] := List.eq_nil_of_length_eq_zero h3
          subst h3
          have k2 := pt_2 hA h hk (qb_0 (by omega))
          rw [ht, List.drop_drop] at k2
          obtain ⟨c', t', hd'⟩ := pt_ne k1
          have hil' := (dr_c hd').2.2
          refine fs_104e F q3.2.1 (xj1 hx1 (by omega)) hil' (fun v4 q4 => ?_)
          refine h18 q3.2.1 q3.2.2.1 k2 q4 hx2 (xj1 hx3 (by omega)) (fun v5 s5 q5 => ?_)
          rw [e13] at q3 q5
          have e11 : (ps_i s3 944 11).toInt = m := q3.2.1.2.2.2.2.1.2.1
          have hm3 := F.2.2.2.2.1
          have l3 := (sv_lt (k := 12 - p) g1 g2 hm3.1 hD hr2 hf2 k1 (hfr _) (EB_lt E)).2 rfl
          have l5 := (sv_lt (k := 12 - p) g1 g2 hm3.1 hD hr2 hf2 k2 (hfr _) (EB_lt E)).2 rfl
          refine k _ _ ⟨?_, JP_tr q3.2 q5.2⟩
          have hpr := pr_lt l3 l5
          have h9 : m * m ≤ 3 * 3 := Nat.mul_le_mul hm3.2 hm3.2
          have em : (v3 * (ps_i s3 944 11)).toInt = (svg m g D fr (12 - p) env (l.drop (i + 1)) * m : Nat) := by
            rw [xIm (by rw [q3.1, e11, ← Int.natCast_mul]; omega) (by rw [q3.1, e11, ← Int.natCast_mul]; omega), q3.1, e11, Int.natCast_mul]
          rw [xIa (by rw [em, q5.1]; omega) (by rw [em, q5.1]; omega), em, q5.1]
          unfold svi sv_i
          rw [List.length_cons, List.length_nil] at ha
          rw [if_neg (by omega), if_neg (by omega), ht, List.drop_drop]
          rfl
      · have z2 := xeq z2
        refine k _ _ ⟨?_, q3.2⟩
        rw [q3.1, e13]
        unfold svi sv_i
        rw [if_neg (by omega), if_pos (by omega), ht]
  · have z := xeq z
    have c0 : (0 : Int32).toInt = 0 := by decide
    refine k _ _ ⟨?_, JP_refl H E⟩
    unfold svi sv_i
    rw [if_pos (by omega)]
    rfl
theorem svi_lt {s : ps_S} {p c : Nat} {b : Bool} {t env : List Nat} {q : Nat} (F : JF rr sh th m g l) (H : JE s rr sh th m g l D fr) (E : EB s m env) (h : pt g b p env.length (c :: t)) (hc10 : 10 ≤ c) (hc40 : c < 40) (hsub : ∀ v, 60 + v ∈ t → fr v < m) : svi m g D fr q env c t < m ^ arh g c := by
  obtain ⟨g1, g2, hA, hD, hr2, hf2, hfr, h90⟩ := JE_ok F H
  obtain ⟨hp, hq, hb, ks, hk⟩ := pt_c h
  have ha := hA b c ks hk
  have ht := kS_tms hk hc10
  have hm3 := F.2.2.2.2.1
  have ha2 : arh g c ≤ 2 := by
    rcases kS_num hk with ⟨a, e⟩ | ⟨a, a2, e⟩ | ⟨a, e⟩ | ⟨a, e⟩ | ⟨a, a2, e⟩ | ⟨a, a2, e⟩ | ⟨a, a2, e⟩
    · omega
    · omega
    · omega
    · omega
    · have a2 : c < 10 + g.1.length := a2
      have e : ks.length = (g.1.getD (c - 10) ([], 0)).2 := e
      have := hr2 (c - 10) (by omega)
      omega
    · have a2 : c < 20 + g.2.length := a2
      have e : ks.length = (g.2.getD (c - 20) ([], 0)).2 := e
      have := hf2 (c - 20) (by omega)
      omega
    · omega
  unfold svi sv_i
  rw [← ha] at ht
  rcases (show arh g c = 0 ∨ arh g c = 1 ∨ arh g c = 2 by omega) with e | e | e
  · rw [if_pos e, e, Nat.pow_zero]
    exact Nat.one_pos
  · rw [if_neg (by omega), if_pos e, e, Nat.pow_one]
    rw [e] at ht
    rw [ht] at hk
    have k1 := pt_1 hA h hk
    rw [qb_0 (by omega), Nat.add_zero] at k1
    exact (sv_lt g1 g2 hm3.1 hD hr2 hf2 k1 hsub (EB_lt E)).2 rfl
  · rw [if_neg (by omega), if_neg (by omega), e]
    rw [e] at ht
    rw [ht] at hk
    have k1 := pt_1 hA h hk
    rw [qb_0 (by omega), Nat.add_zero] at k1
    have k2 := pt_2 hA h hk (qb_0 (by omega))
    rw [Nat.pow_succ, Nat.pow_one]
    exact pr_lt ((sv_lt g1 g2 hm3.1 hD hr2 hf2 k1 hsub (EB_lt E)).2 rfl) ((sv_lt g1 g2 hm3.1 hD hr2 hf2 k2 (fun v hv => hsub v (List.mem_of_mem_drop hv)) (EB_lt E)).2 rfl)
theorem J18_ok {n : Nat} (F : JF rr sh th m g l) (h19 : J19P rr sh th m g l D fr n) : J18P rr sh th m g l D fr (n + 1) := by
  intro s x1 x2 x3 i p env R H E h hx1 hx2 hx3 k
  obtain ⟨g1, g2, hA, hD, hr2, hf2, hfr, h90⟩ := JE_ok F H
  obtain ⟨c, t, hd⟩ := pt_ne h
  rw [hd] at h
  obtain ⟨hci, ht, hil⟩ := dr_c hd
  obtain ⟨hp, hq, hb, ks, hk⟩ := pt_c h
  have hs := (kS_t g1 g2 hk).2 rfl
  have c12 : (12 : Int32).toInt = 12 := by decide
  have c60 : (60 : Int32).toInt = 60 := by decide
  have c40 : (40 : Int32).toInt = 40 := by decide
  have c20 : (20 : Int32).toInt = 20 := by decide
  have c1 : (1 : Int32).toInt = 1 := by decide
  obtain ⟨q, eq⟩ : ∃ q, 13 - p = q + 1 := ⟨12 - p, by omega⟩
  have eq2 : q = 12 - p := by omega
  rw [hd, eq] at k
  have hm3 := F.2.2.2.2.1
  show pl_At (n + 1) 18 0 [(0, .ref 944), (1, .int x1), (2, .int x2), (3, .int x3)] [] s (ps_rI R)
  refine pl_18_0 ⟨fun z => ?_, fun z => absurd (xlt z) (by omega)⟩
  refine fs_92e F H hx1 hci (fun v1 q1 => ⟨fun z1 => ?_, fun z1 => ?_⟩)
  · have z1 := xlt z1
    refine fs_185 (fun y => ⟨fun w => absurd w (by decide), fun _ => ?_⟩) (fun y => ⟨fun _ => ?_, fun w => absurd rfl w⟩)
    · have hlt := hb (by omega) (by omega)
      obtain ⟨x, hx⟩ : ∃ x, env[c - 40]? = some x := ⟨_, List.getElem?_eq_getElem hlt⟩
      obtain ⟨e1, e2⟩ := E _ _ hx
      have ei : ((x2 - 1) - (v1 - 40)).toInt = (env.length - 1 - (c - 40) : Nat) := by
        have a1 : (x2 - 1).toInt = (env.length : Int) - 1 := by rw [xIs (by omega) (by omega), hx2, c1]
        have a2 : (v1 - 40).toInt = (c : Int) - 40 := by rw [xIs (by omega) (by omega), q1, c40]
        rw [xIs (by omega) (by omega), a1, a2]
        omega
      refine fs_182 (a := env.length - 1 - (c - 40)) ei (show _ < 5 from by omega) (by decide) ?_
      refine k _ _ ⟨?_, JP_refl H E⟩
      rw [svg, sv_y (by omega) (by omega), List.getD_eq_getElem?_getD, hx, e1]
      rfl
    · have hc24 : c < 24 := by omega
      have e20 : (v1 - 20).toInt = (c - 20 : Nat) := by rw [xIs (by omega) (by omega), q1, c20]; omega
      have hcl : c - 20 < g.2.length := by
        rcases kS_num hk with ⟨a, e⟩ | ⟨a, a2, e⟩ | ⟨a, e⟩ | ⟨a, e⟩ | ⟨a, a2, e⟩ | ⟨a, a2, e⟩ | ⟨a, a2, e⟩
        · omega
        · omega
        · omega
        · omega
        · have a2 : c < 10 + g.1.length := a2
          omega
        · have a2 : c < 20 + g.2.length := a2
          omega
        · omega
      refine fs_182v (a := c - 20) e20 (show c - 20 < 4 from by omega) (by decide) (fun v3 q3 => ?_)
      refine h19 H E h hd (by omega) (by omega) hx1 hx2 hx3 (fun v4 s4 q4 => ?_)
      have e3 : v3.toInt = (tfa m g (c - 20) : Nat) := by rw [q3]; exact H.2.2.2.2.1.2.2.2.2 (c - 20) hcl
      have l4 : svi m g D fr (12 - p) env c t < m ^ arh g c := svi_lt F H E h (by omega) (by omega) (by rw [ht]; exact hfr _)
      rcases tb_at g1 g2 hk (by omega) (by omega) l4 with ⟨w, -⟩ | ⟨-, w2, w3, w4⟩
      · cases w
      have hlt := (List.getElem?_eq_some_iff.mp w4).1
      have e5 : (v3 + v4).toInt = (tfa m g (c - 20) + svi m g D fr (12 - p) env c t : Nat) := by
        rw [xIa (by rw [e3, q4.1]; omega) (by rw [e3, q4.1]; omega), e3, q4.1]
        rfl
      refine fs_182 (a := tfa m g (c - 20) + svi m g D fr (12 - p) env c t) e5 (show _ < 90 from by omega) (by decide) ?_
      refine k _ _ ⟨?_, q4.2⟩
      rw [(q4.2.1.2.2.2.2.2.1 _ _ w4).1, svg, sv_f (by omega) (by omega), if_neg (by omega), eq2]
  · have z1 := xle z1
    have hv : 60 + (c - 60) ∈ l := by
      rw [show 60 + (c - 60) = c from by omega]
      exact List.mem_of_getElem? hci
    obtain ⟨y1, y2, y3⟩ := H.2.2.2.2.2.2 _ hv
    have e60 : (v1 - 60).toInt = (c - 60 : Nat) := by rw [xIs (by omega) (by omega), q1, c60]; omega
    refine fs_182 (a := c - 60) e60 (show c - 60 < 12 from y1) (by decide) ?_
    refine k _ _ ⟨?_, JP_refl H E⟩
    rw [svg, sv_x (by omega)]
    exact y2
/-- a formula of two -/
def J16P (rr sh th m : Nat) (g : tx_g) (l : List Nat) (D fr : Nat → Nat) (n : Nat) : Prop := ∀ {s : ps_S} {x1 x2 x3 : Int32} {i p c : Nat} {t : List Nat} {env : List Nat} {R : Int32 → ps_S → Prop}, JE s rr sh th m g l D fr → EB s m env → pt g true p env.length (c :: t) → l.drop i = c :: t → 1 ≤ c → c < 4 → x1.toInt = i → x2.toInt = env.length → x3.toInt = (p + 1 : Nat) → (∀ (v : Int32) (s' : ps_S), (v.toInt = 0 ∨ v.toInt = 1) ∧ (v.toInt = 1 ↔ svg m g D fr (13 - p) env (c :: t) = 1) ∧ JP rr sh th m g l D fr env s s' → R v s') → pl_Cl n 16 [.ref 944, .int x1, .int x2, .int x3] s (ps_rI R)
theorem sv_b1 {c a b : Nat} : (c = 1 → (sv_b c a b = 1 ↔ a = 1 ∧ b = 1)) ∧ (c = 2 → (sv_b c a b = 1 ↔ a = 1 ∨ b = 1)) ∧ (¬ c = 1 → ¬ c = 2 → (sv_b c a b = 1 ↔ (a = 1 → b = 1))) := by
  unfold sv_b
  refine ⟨fun h => ?_, fun h => ?_, fun h h' => ?_⟩
  · rw [if_pos h]
    by_cases z : a = 1 ∧ b = 1
    · rw [if_pos z]; exact ⟨fun _ => z, fun _ => rfl⟩
    · rw [if_neg z]; exact ⟨(fun y => by cases y), fun y => absurd y z⟩
  · rw [if_neg (by omega), if_pos h]
    by_cases z : a = 1 ∨ b = 1
    · rw [if_pos z]; exact ⟨fun _ => z, fun _ => rfl⟩
    · rw [if_neg z]; exact ⟨(fun y => by cases y), fun y => absurd y z⟩
  · rw [if_neg h, if_neg h']
    by_cases z : a = 1 ∧ ¬ b = 1
    · rw [if_pos z]; exact ⟨(fun y => by cases y), fun y => absurd (y z.1) z.2⟩
    · rw [if_neg z]; exact ⟨fun _ y => by omega, fun _ => rfl⟩
theorem J16_ok {n : Nat} (F : JF rr sh th m g l) (h15 : J15P rr sh th m g l D fr n) : J16P rr sh th m g l D fr (n + 1) := by
  intro s x1 x2 x3 i p c t env R H E h hd hc1 hc4 hx1 hx2 hx3 k
  obtain ⟨g1, g2, hA, hD, hr2, hf2, hfr, h90⟩ := JE_ok F H
  obtain ⟨hci, ht, hil⟩ := dr_c hd
  obtain ⟨hp, hq, hb, ks, hk⟩ := pt_c h
  have h40 := F.2.2.2.2.2
  have hks := ((kS_t g1 g2 hk).1 rfl).2.2.1 hc1 hc4
  subst hks
  have k1 := pt_1 hA h hk
  rw [qb_0 (by omega), Nat.add_zero, ht] at k1
  have k2 := pt_2 hA h hk (qb_0 (by omega))
  rw [ht, List.drop_drop] at k2
  obtain ⟨q, eq⟩ : ∃ q, 13 - p = q + 1 := ⟨12 - p, by omega⟩
  have eq2 : 13 - (p + 1) = q := by omega
  rw [eq, svg, sv_2 hc1 hc4, ht, List.drop_drop] at k
  have c1 : (1 : Int32).toInt = 1 := by decide
  have c2 : (2 : Int32).toInt = 2 := by decide
  have c0 : (0 : Int32).toInt = 0 := by decide
  obtain ⟨c', t', hd'⟩ := pt_ne k1
  have hil' := (dr_c hd').2.2
  obtain ⟨w1, w2, w3⟩ := sv_b1 (c := c) (a := svg m g D fr q env (l.drop (i + 1))) (b := svg m g D fr q env (l.drop (i + 1 + en (arh g) (l.drop (i + 1)) 1)))
  show pl_At (n + 1) 16 0 [(0, .ref 944), (1, .int x1), (2, .int x2), (3, .int x3)] [] s (ps_rI R)
  refine pl_16_0 ?_
  refine h15 H E k1 (xj1 hx1 (by omega)) hx2 hx3 (fun v1 s1 q1 => ?_)
  obtain ⟨b1, i1, P1⟩ := q1
  rw [eq2] at i1
  refine fs_92e F P1.1 hx1 hci (fun v2 q2 => ?_)
  have two : ∀ {R' : Int32 → ps_S → Prop}, (∀ (v : Int32) (s' : ps_S), (v.toInt = 0 ∨ v.toInt = 1) ∧ (v.toInt = 1 ↔ svg m g D fr q env (l.drop (i + 1 + en (arh g) (l.drop (i + 1)) 1)) = 1) ∧ JP rr sh th m g l D fr env s s' → R' v s') → pl_Cl n 104 [.ref (ps_r s1 944 15), .int (x1 + 1)] s1 (ps_rI (fun v3 s3 => pl_Cl n 15 [.ref 944, .int v3, .int x2, .int x3] s3 (ps_rI R'))) := fun kk => by
    refine fs_104e F P1.1 (xj1 hx1 (by omega)) hil' (fun v3 q3 => ?_)
    refine h15 P1.1 P1.2.1 k2 q3 hx2 hx3 (fun v s' q => kk v s' ?_)
    rw [eq2] at q
    exact ⟨q.1, q.2.1, JP_tr P1 q.2.2⟩
  refine ⟨fun z => ⟨fun y => ?_, fun y => ?_⟩, fun z => ⟨fun z2 => ⟨fun y => ?_, fun y => ?_⟩, fun z2 => ⟨fun y => ?_, fun y => ?_⟩⟩⟩
  · have y := xeq y
    have z := xeq z
    refine k _ _ ⟨Or.inl rfl, ⟨fun a => absurd a (by decide), fun a => absurd ((w1 (by omega)).mp a).1 (fun a2 => by have := i1.mpr a2; omega)⟩, P1⟩
  · have y := xne y
    have z := xeq z
    refine two (fun v s' q => ⟨fun a => ?_, fun a => ?_⟩)
    · have a := xeq a
      refine k _ _ ⟨Or.inl rfl, ⟨fun a2 => absurd a2 (by decide), fun a2 => absurd ((w1 (by omega)).mp a2).2 (fun a3 => by have := q.2.1.mpr a3; omega)⟩, q.2.2⟩
    · have a := xne a
      refine k _ _ ⟨Or.inr rfl, ⟨fun _ => (w1 (by omega)).mpr ⟨i1.mp (by omega), q.2.1.mp (by omega)⟩, fun _ => rfl⟩, q.2.2⟩
  · have y := xne y
    have z2 := xeq z2
    refine k _ _ ⟨Or.inr rfl, ⟨fun _ => (w2 (by omega)).mpr (Or.inl (i1.mp (by omega))), fun _ => rfl⟩, P1⟩
  · have y := xeq y
    have z2 := xeq z2
    refine two (fun v s' q => ⟨fun a => ?_, fun a => ?_⟩)
    · have a := xeq a
      refine k _ _ ⟨Or.inl rfl, ⟨fun a2 => absurd a2 (by decide), fun a2 => ?_⟩, q.2.2⟩
      rcases (w2 (by omega)).mp a2 with a3 | a3
      · have := i1.mpr a3; omega
      · have := q.2.1.mpr a3; omega
    · have a := xne a
      refine k _ _ ⟨Or.inr rfl, ⟨fun _ => (w2 (by omega)).mpr (Or.inr (q.2.1.mp (by omega))), fun _ => rfl⟩, q.2.2⟩
  · have y := xeq y
    have z := xne z
    have z2 := xne z2
    refine k _ _ ⟨Or.inr rfl, ⟨fun _ => (w3 (by omega) (by omega)).mpr (fun a => by have := i1.mpr a; omega), fun _ => rfl⟩, P1⟩
  · have y := xne y
    have z := xne z
    have z2 := xne z2
    refine two (fun v s' q => ⟨fun a => ?_, fun a => ?_⟩)
    · have a := xeq a
      refine k _ _ ⟨Or.inl rfl, ⟨fun a2 => absurd a2 (by decide), fun a2 => ?_⟩, q.2.2⟩
      have := q.2.1.mpr ((w3 (by omega) (by omega)).mp a2 (i1.mp (by omega)))
      omega
    · have a := xne a
      refine k _ _ ⟨Or.inr rfl, ⟨fun _ => (w3 (by omega) (by omega)).mpr (fun _ => q.2.1.mp (by omega)), fun _ => rfl⟩, q.2.2⟩
/-- all or some -/
def J17P (rr sh th m : Nat) (g : tx_g) (l : List Nat) (D fr : Nat → Nat) (n : Nat) : Prop := ∀ {s : ps_S} {x1 x2 x3 : Int32} {i p c : Nat} {t : List Nat} {env : List Nat} {R : Int32 → ps_S → Prop}, JE s rr sh th m g l D fr → EB s m env → pt g true p env.length (c :: t) → l.drop i = c :: t → (c = 4 ∨ c = 5) → x1.toInt = i → x2.toInt = env.length → x3.toInt = p → (∀ (v : Int32) (s' : ps_S), (v.toInt = 0 ∨ v.toInt = 1) ∧ (v.toInt = 1 ↔ svg m g D fr (13 - p) env (c :: t) = 1) ∧ JP rr sh th m g l D fr env s s' → R v s') → pl_Cl n 17 [.ref 944, .int x1, .int x2, .int x3] s (ps_rI R)
theorem sv_q1 {m c : Nat} {f : Nat → Nat} : (c = 4 → (sv_q c ((List.range m).map f) = 1 ↔ ∀ x, x < m → f x = 1)) ∧ (¬ c = 4 → (sv_q c ((List.range m).map f) = 1 ↔ ∃ x, x < m ∧ f x = 1)) := by
  unfold sv_q
  refine ⟨fun h => ?_, fun h => ?_⟩
  · rw [if_pos h]
    by_cases z : ((List.range m).map f).all (fun v => v == 1) = true
    · rw [if_pos z]
      refine ⟨fun _ x hx => ?_, fun _ => rfl⟩
      have := List.all_eq_true.mp z (f x) (List.mem_map.mpr ⟨x, List.mem_range.mpr hx, rfl⟩)
      exact eq_of_beq this
    · rw [if_neg z]
      refine ⟨(fun y => by cases y), fun y => absurd (List.all_eq_true.mpr (fun v hv => ?_)) z⟩
      obtain ⟨x, hx, rfl⟩ := List.mem_map.mp hv
      rw [y x (List.mem_range.mp hx)]
      rfl
  · rw [if_neg h]
    by_cases z : ((List.range m).map f).any (fun v => v == 1) = true
    · rw [if_pos z]
      refine ⟨fun _ => ?_, fun _ => rfl⟩
      obtain ⟨v, hv, e⟩ := List.any_eq_true.mp z
      obtain ⟨x, hx, rfl⟩ := List.mem_map.mp hv
      exact ⟨x, List.mem_range.mp hx, eq_of_beq e⟩
    · rw [if_neg z]
      refine ⟨(fun y => by cases y), fun ⟨x, hx, e⟩ => absurd (List.any_eq_true.mpr ⟨f x, List.mem_map.mpr ⟨x, List.mem_range.mpr hx, rfl⟩, by rw [e]; rfl⟩) z⟩
theorem J17_22 {n0 : Nat} (F : JF rr sh th m g l) (h15 : J15P rr sh th m g l D fr n0) {s0 : ps_S} {x1 x2 x3 x4 : Int32} {i p c : Nat} {env : List Nat} {R : Int32 → ps_S → Prop} (hl5 : env.length < 5) (k1 : pt g true (p + 1) (env.length + 1) (l.drop (i + 1))) (hi : i < l.length) (hx1 : x1.toInt = i) (hx2 : x2.toInt = env.length) (hx3 : x3.toInt = p) (hp : p ≤ 12) (hc : c = 4 ∨ c = 5) (h4 : x4.toInt = (if c = 4 then 1 else 0)) (k : ∀ (v : Int32) (s' : ps_S), (v.toInt = 0 ∨ v.toInt = 1) ∧ (v.toInt = 1 ↔ sv_q c ((List.range m).map (fun x => svg m g D fr (12 - p) (x :: env) (l.drop (i + 1)))) = 1) ∧ JP rr sh th m g l D fr env s0 s' → R v s') : ∀ (n : Nat) {s : ps_S} {x5 : Int32} {j : Nat}, n ≤ n0 → JP rr sh th m g l D fr env s0 s → x5.toInt = j → (∀ x, x < j → (c = 4 → svg m g D fr (12 - p) (x :: env) (l.drop (i + 1)) = 1) ∧ (c = 5 → ¬ svg m g D fr (12 - p) (x :: env) (l.drop (i + 1)) = 1)) → pl_At n 17 22 [(0, .ref 944), (1, .int x1), (2, .int x2), (3, .int x3), (4, .int x4), (5, .int x5)] [] s (ps_rI R)
  | 0, _, _, _, _, _, _, _ => pl_At_0
  | n + 1, s, x5, j, hn, P, hx5, hj => by
    have h40 := F.2.2.2.2.2
    have hm3 := F.2.2.2.2.1
    have e11 : (ps_i s 944 11).toInt = m := P.1.2.2.2.2.1.2.1
    have e12 : 13 - (p + 1) = 12 - p := by omega
    have c1 : (1 : Int32).toInt = 1 := by decide
    have c0 : (0 : Int32).toInt = 0 := by decide
    obtain ⟨w1, w2⟩ := sv_q1 (m := m) (c := c) (f := fun x => svg m g D fr (12 - p) (x :: env) (l.drop (i + 1)))
    refine pl_17_22 ⟨fun z => ?_, fun z => ?_⟩
    · have z := xle z
      refine pl_nk_i (fun _ => k _ _ ⟨?_, ⟨fun a => ?_, fun a => ?_⟩, P⟩)
      · rw [h4]; split <;> omega
      · have h : c = 4 := by
          rcases hc with h | h
          · exact h
          · rw [if_neg (by omega)] at h4; omega
        exact (w1 h).mpr (fun x hx => (hj x (by omega)).1 h)
      · rw [h4]
        by_cases h : c = 4
        · rw [if_pos h]
        · obtain ⟨x, hx, e⟩ := (w2 h).mp a
          have h5 : c = 5 := hc.resolve_left h
          exact ((hj x (by omega)).2 h5 e).elim
    · have z := xlt z
      refine fs_183 (a := env.length) hx2 (show env.length < 5 from hl5) (by decide) ?_
      have K : jq 944 [954] [] s (ps_ua s 954 env.length x5) := jqa jq_refl rfl
      have H2 := JE_jq F P.1 K
      have E2 : EB (ps_ua s 954 env.length x5) m (j :: env) := fun q x hq => by
        rw [List.length_cons, ps_a_ua]
        cases q with
        | zero =>
          rw [List.getElem?_cons_zero] at hq
          cases hq
          rw [if_pos ⟨rfl, by omega⟩]
          exact ⟨hx5, by omega⟩
        | succ q =>
          rw [List.getElem?_cons_succ] at hq
          have hl := (List.getElem?_eq_some_iff.mp hq).1
          rw [if_neg (by omega), show env.length + 1 - 1 - (q + 1) = env.length - 1 - q from by omega]
          exact P.2.1 q x hq
      refine (h15 (env := j :: env) H2 E2 k1 (xj1 hx1 (by omega)) (by rw [List.length_cons]; exact xj1 hx2 (by omega)) (xj1 hx3 (by omega)) (fun v s2 q => ?_)).le (by omega)
      obtain ⟨b1, i1, P2⟩ := q
      rw [e12] at i1
      have P3 : JP rr sh th m g l D fr env s0 s2 := by
        refine JP_tr P ⟨P2.1, fun q x hq => ?_, jqt K P2.2.2.1 (by decide) (by decide), fun q hq => ?_⟩
        · have hl := (List.getElem?_eq_some_iff.mp hq).1
          have := P2.2.1 (q + 1) x (by rw [List.getElem?_cons_succ]; exact hq)
          rw [List.length_cons, show env.length + 1 - 1 - (q + 1) = env.length - 1 - q from by omega] at this
          exact this
        · rw [P2.2.2.2 q (by rw [List.length_cons]; omega), ps_a_ua, if_neg (by omega)]
      refine ⟨fun y => ?_, fun y => ?_⟩
      · have y := xeq y
        refine J17_22 F h15 hl5 k1 hi hx1 hx2 hx3 hp hc h4 k n (by omega) P3 (xj1 hx5 (by omega)) (fun x hx => ?_)
        rcases Nat.lt_or_ge x j with q | q
        · exact hj x q
        · rw [show x = j from by omega]
          refine ⟨fun h => i1.mp (by rw [y, h4, if_pos h]), fun h e => ?_⟩
          have := i1.mpr e
          rw [y, h4, if_neg (by omega)] at this
          omega
      · have y := xne y
        refine ⟨fun a => ?_, fun a => ?_⟩
        · have a := xne a
          have h : c = 4 := by
            rcases hc with h | h
            · exact h
            · rw [if_neg (by omega)] at h4; omega
          rw [if_pos h] at h4
          refine k _ _ ⟨Or.inl rfl, ⟨fun b => absurd b (by decide), fun b => ?_⟩, P3⟩
          have := i1.mpr ((w1 h).mp b j (by omega))
          omega
        · have a := xeq a
          have h : ¬ c = 4 := fun h => by rw [if_pos h] at h4; omega
          rw [if_neg h] at h4
          exact k _ _ ⟨Or.inr rfl, ⟨fun _ => (w2 h).mpr ⟨j, by omega, i1.mp (by omega)⟩, fun _ => rfl⟩, P3⟩
theorem J17_ok {n : Nat} (F : JF rr sh th m g l) (h15 : J15P rr sh th m g l D fr n) : J17P rr sh th m g l D fr (n + 1) := by
  intro s x1 x2 x3 i p c t env R H E h hd hc hx1 hx2 hx3 k
  obtain ⟨g1, g2, hA, hD, hr2, hf2, hfr, h90⟩ := JE_ok F H
  obtain ⟨hci, ht, hil⟩ := dr_c hd
  obtain ⟨hp, hq, hb, ks, hk⟩ := pt_c h
  have hks := ((kS_t g1 g2 hk).1 rfl).2.2.2.1 hc
  subst hks
  have k1 := pt_1 hA h hk
  rw [qb_1 hc, ht] at k1
  have hl5 : env.length < 5 := by
    obtain ⟨c', t', hd'⟩ := pt_ne k1
    obtain ⟨S, W, -, h2⟩ := k1
    rw [hd'] at h2
    obtain ⟨bb, kk, W', ks', e, hk', -, -⟩ := wf_cons.mp h2
    cases e
    omega
  obtain ⟨q, eq⟩ : ∃ q, 13 - p = q + 1 := ⟨12 - p, by omega⟩
  have eq2 : q = 12 - p := by omega
  rw [eq, svg, sv_4 hc, ht, eq2] at k
  have c4 : (4 : Int32).toInt = 4 := by decide
  show pl_At (n + 1) 17 0 [(0, .ref 944), (1, .int x1), (2, .int x2), (3, .int x3)] [] s (ps_rI R)
  refine pl_17_0 ?_
  refine fs_92e F H hx1 hci (fun v1 q1 => ⟨fun z => ?_, fun z => ?_⟩)
  · have z := xne z
    exact J17_22 F h15 hl5 k1 hil hx1 hx2 hx3 hp hc (by rw [if_neg (by omega)]; rfl) k n (Nat.le_refl _) (JP_refl H E) rfl (fun x hx => absurd hx (Nat.not_lt_zero _))
  · have z := xeq z
    exact J17_22 F h15 hl5 k1 hil hx1 hx2 hx3 hp hc (by rw [if_pos (by omega)]; rfl) k n (Nat.le_refl _) (JP_refl H E) rfl (fun x hx => absurd hx (Nat.not_lt_zero _))
theorem J15_ok {n : Nat} (F : JF rr sh th m g l) (h16 : J16P rr sh th m g l D fr n) (h17 : J17P rr sh th m g l D fr n) (h18 : J18P rr sh th m g l D fr n) (h19 : J19P rr sh th m g l D fr n) : J15P rr sh th m g l D fr (n + 1) := by
  intro s x1 x2 x3 i p env R H E h hx1 hx2 hx3 k
  obtain ⟨g1, g2, hA, hD, hr2, hf2, hfr, h90⟩ := JE_ok F H
  obtain ⟨c, t, hd⟩ := pt_ne h
  rw [hd] at h k
  obtain ⟨hci, ht, hil⟩ := dr_c hd
  obtain ⟨hp, hq, hb, ks, hk⟩ := pt_c h
  obtain ⟨hs1, hs2, hs3, hs4, hs5⟩ := (kS_t g1 g2 hk).1 rfl
  have h40 := F.2.2.2.2.2
  have c12 : (12 : Int32).toInt = 12 := by decide
  have c10 : (10 : Int32).toInt = 10 := by decide
  have c6 : (6 : Int32).toInt = 6 := by decide
  have c5 : (5 : Int32).toInt = 5 := by decide
  have c4 : (4 : Int32).toInt = 4 := by decide
  have c3 : (3 : Int32).toInt = 3 := by decide
  have c2 : (2 : Int32).toInt = 2 := by decide
  have c1 : (1 : Int32).toInt = 1 := by decide
  have c0 : (0 : Int32).toInt = 0 := by decide
  show pl_At (n + 1) 15 0 [(0, .ref 944), (1, .int x1), (2, .int x2), (3, .int x3)] [] s (ps_rI R)
  refine pl_15_0 ⟨fun z => ?_, fun z => absurd (xlt z) (by omega)⟩
  refine fs_92e F H hx1 hci (fun v1 q1 => ?_)
  have two : 1 ≤ c → c < 4 → pl_Cl n 16 [.ref 944, .int x1, .int x2, .int (x3 + 1)] s (ps_rI (fun v2 s2 => pl_nk (decide (v2 &&& 1 = v2)) (ps_rI R (some (.int v2)) s2))) := fun a b => h16 H E h hd a b hx1 hx2 (xj1 hx3 (by omega)) (fun v s' q => pl_nk_i (fun _ => k v s' q))
  have qu : (c = 4 ∨ c = 5) → pl_Cl n 17 [.ref 944, .int x1, .int x2, .int x3] s (ps_rI (fun v2 s2 => pl_nk (decide (v2 &&& 1 = v2)) (ps_rI R (some (.int v2)) s2))) := fun a => h17 H E h hd a hx1 hx2 hx3 (fun v s' q => pl_nk_i (fun _ => k v s' q))
  refine ⟨fun z0 => ?_, fun z0 => ⟨fun z1 => ?_, fun z1 => ⟨fun z2 => ?_, fun z2 => ⟨fun z3 => ?_, fun z3 => ⟨fun z4 => ?_, fun z4 => ⟨fun z5 => ?_, fun z5 => ⟨fun z6 => ?_, fun z6 => ?_⟩⟩⟩⟩⟩⟩⟩
  · have z0 := xeq z0
    have e : c = 0 := by omega
    subst e
    obtain ⟨q, eq⟩ : ∃ q, 13 - p = q + 1 := ⟨12 - p, by omega⟩
    refine k _ _ ⟨Or.inl rfl, ⟨fun a => absurd a (by decide), fun a => ?_⟩, JP_refl H E⟩
    rw [eq, svg, sv_0] at a
    cases a
  · have z1 := xeq z1
    exact two (by omega) (by omega)
  · have z2 := xeq z2
    exact two (by omega) (by omega)
  · have z3 := xeq z3
    exact two (by omega) (by omega)
  · have z4 := xeq z4
    exact qu (by omega)
  · have z5 := xeq z5
    exact qu (by omega)
  · have z6 := xeq z6
    have e : c = 6 := by omega
    subst e
    have hks := hs5 rfl
    subst hks
    have k1 := pt_1 hA h hk
    rw [qb_0 (by omega), Nat.add_zero, ht] at k1
    have k2 := pt_2 hA h hk (qb_0 (by omega))
    rw [ht, List.drop_drop] at k2
    obtain ⟨q, eq⟩ : ∃ q, 13 - p = q + 1 := ⟨12 - p, by omega⟩
    have eq2 : 13 - (p + 1) = q := by omega
    rw [eq, svg, sv_6, ht, List.drop_drop] at k
    obtain ⟨c', t', hd'⟩ := pt_ne k1
    have hil' := (dr_c hd').2.2
    refine h18 H E k1 (xj1 hx1 (by omega)) hx2 (xj1 hx3 (by omega)) (fun v3 s3 q3 => ?_)
    refine fs_104e F q3.2.1 (xj1 hx1 (by omega)) hil' (fun v4 q4 => ?_)
    refine h18 q3.2.1 q3.2.2.1 k2 q4 hx2 (xj1 hx3 (by omega)) (fun v5 s5 q5 => ?_)
    rw [eq2] at q3 q5
    refine ⟨fun y => ?_, fun y => ?_⟩
    · have y := xne y
      refine k _ _ ⟨Or.inl rfl, ⟨fun a => absurd a (by decide), fun a => ?_⟩, JP_tr q3.2 q5.2⟩
      rw [if_neg (fun b => by rw [q3.1, q5.1] at y; exact y (by rw [svg, b]))] at a
      cases a
    · have y := xeq y
      refine k _ _ ⟨Or.inr rfl, ⟨fun _ => ?_, fun _ => rfl⟩, JP_tr q3.2 q5.2⟩
      rw [if_pos (by rw [q3.1, q5.1] at y; exact Int.ofNat.inj y)]
  · have z0 := xne z0
    have z1 := xne z1
    have z2 := xne z2
    have z3 := xne z3
    have z4 := xne z4
    have z5 := xne z5
    have z6 := xne z6
    have hc10 : 10 ≤ c := by omega
    have e10 : (v1 - 10).toInt = (c - 10 : Nat) := by rw [xIs (by omega) (by omega), q1, c10]; omega
    refine fs_182v (a := c - 10) e10 (show c - 10 < 6 from by omega) (by decide) (fun v3 q3 => ?_)
    refine h19 H E h hd hc10 (by omega) hx1 hx2 hx3 (fun v4 s4 q4 => ?_)
    have l4 : svi m g D fr (12 - p) env c t < m ^ arh g c := svi_lt F H E h hc10 (by omega) (by rw [ht]; exact hfr _)
    rcases tb_at g1 g2 hk hc10 (by omega) l4 with ⟨-, w2, w3, w4⟩ | ⟨w, -⟩
    · have e3 : v3.toInt = (tra m g (c - 10) : Nat) := by rw [q3]; exact H.2.2.2.2.1.2.2.2.1 (c - 10) w3
      have hlt := (List.getElem?_eq_some_iff.mp w4).1
      have e5 : (v3 + v4).toInt = (tra m g (c - 10) + svi m g D fr (12 - p) env c t : Nat) := by
        rw [xIa (by rw [e3, q4.1]; omega) (by rw [e3, q4.1]; omega), e3, q4.1]
        rfl
      have y := (q4.2.1.2.2.2.2.2.1 _ _ w4).1
      obtain ⟨q, eq⟩ : ∃ q, 13 - p = q + 1 := ⟨12 - p, by omega⟩
      have eq2 : q = 12 - p := by omega
      rw [eq, svg, sv_f hc10 (by omega), if_pos w2, eq2] at k
      refine fs_182v (a := tra m g (c - 10) + svi m g D fr (12 - p) env c t) e5 (show _ < 90 from by omega) (by decide) (fun v12 q12 => ⟨fun a => ?_, fun a => ?_⟩)
      · have a := xne a
        refine k _ _ ⟨Or.inl rfl, ⟨fun b => absurd b (by decide), fun b => ?_⟩, q4.2⟩
        have b : D (tra m g (c - 10) + svi m g D fr (12 - p) env c t) = 1 := b
        rw [q12, y, b] at a
        exact absurd rfl a
      · have a := xeq a
        refine k _ _ ⟨Or.inr rfl, ⟨fun _ => ?_, fun _ => rfl⟩, q4.2⟩
        show D (tra m g (c - 10) + svi m g D fr (12 - p) env c t) = 1
        rw [q12, y] at a
        omega
    · cases w
theorem J15_all (F : JF rr sh th m g l) : ∀ n, (J15P rr sh th m g l D fr n ∧ J16P rr sh th m g l D fr n) ∧ (J17P rr sh th m g l D fr n ∧ J18P rr sh th m g l D fr n) ∧ J19P rr sh th m g l D fr n
  | 0 => ⟨⟨fun _ _ _ _ _ _ _ => pl_At_0, fun _ _ _ _ _ _ _ _ _ _ => pl_At_0⟩, ⟨fun _ _ _ _ _ _ _ _ _ => pl_At_0, fun _ _ _ _ _ _ _ => pl_At_0⟩, fun _ _ _ _ _ _ _ _ _ _ => pl_At_0⟩
  | n + 1 => by
    obtain ⟨⟨h15, h16⟩, ⟨h17, h18⟩, h19⟩ := J15_all F n
    exact ⟨⟨J15_ok F h16 h17 h18 h19, J16_ok F h15⟩, ⟨J17_ok F h15, J18_ok F h19⟩, J19_ok F h18⟩
end J15

