set_option maxRecDepth 100000
/-! the class's reader: its methods -/
-- ProofBench$Theory.find([JIJ)I
theorem pl_131_0 {n : Nat} {r0 : Nat} {x1 : Int32} {l2 : Int64} {s : ps_S} {Q : Option Value → ps_S → Prop} (h :
  pl_At n 131 3 [(0, .ref r0), (1, .int x1), (2, .long l2), (4, .int 0)] [] s Q) : pl_At (n + 1) 131 0 [(0, .ref r0), (1, .int x1), (2, .long l2)] [] s Q :=
  pl_wp_at (stops := [(3, [0, 1, 2, 4])]) (f := 4) h rfl

theorem pl_131_3 {n : Nat} {r0 : Nat} {x1 : Int32} {l2 : Int64} {x4 : Int32} {s : ps_S} {Q : Option Value → ps_S → Prop} (h :
  (x1 ≤ x4 →
    Q (some (.int (-1))) s) ∧
  (x4 < x1 →
    pl_nk (Nat.beq (ps_K r0).1 0) (((nI (ps_ln r0)) ≤ x4 →
      Q (some (.int (-1))) s) ∧
    (x4 < (nI (ps_ln r0)) →
      pl_nk (ps_ar r0 3) ((pm_in x4 (ps_ln r0) = true →
        ((lg_cmp (ps_b s r0 (Int32.toNatClampNeg x4)) l2) ≠ 0 →
          pl_At n 131 3 [(0, .ref r0), (1, .int x1), (2, .long l2), (4, .int (x4 + 1))] [] s Q) ∧
        ((lg_cmp (ps_b s r0 (Int32.toNatClampNeg x4)) l2) = 0 →
          Q (some (.int x4)) s))))))) : pl_At (n + 1) 131 3 [(0, .ref r0), (1, .int x1), (2, .long l2), (4, .int x4)] [] s Q :=
  pl_wp_at (stops := [(3, [0, 1, 2, 4])]) (f := 23) h rfl

-- ProofBench$Theory.relOf(J)I
theorem pl_127_0 {n : Nat} {r0 : Nat} {l1 : Int64} {s : ps_S} {Q : Option Value → ps_S → Prop} (h :
  pl_nk (ps_is r0 9) (pl_nk (ps_is r0 9) (pl_Cl n 131 [.ref (ps_c0 r0 0), .int (ps_i s r0 6), .long l1] s (ps_rI (fun v1 s1 =>
    Q (some (.int v1)) s1))))) : pl_At (n + 1) 127 0 [(0, .ref r0), (1, .long l1)] [] s Q :=
  pl_wp_at (stops := []) (f := 9) h rfl

-- ProofBench$Theory.funOf(J)I
theorem pl_128_0 {n : Nat} {r0 : Nat} {l1 : Int64} {s : ps_S} {Q : Option Value → ps_S → Prop} (h :
  pl_nk (ps_is r0 9) (pl_nk (ps_is r0 9) (pl_Cl n 131 [.ref (ps_c0 r0 1), .int (ps_i s r0 7), .long l1] s (ps_rI (fun v1 s1 =>
    Q (some (.int v1)) s1))))) : pl_At (n + 1) 128 0 [(0, .ref r0), (1, .long l1)] [] s Q :=
  pl_wp_at (stops := []) (f := 9) h rfl

-- ProofBench$Theory.isSymbol(J)Z
theorem pl_130_0 {n : Nat} {r0 : Nat} {l1 : Int64} {s : ps_S} {Q : Option Value → ps_S → Prop} (h :
  pl_nk (ps_is r0 9) (pl_nk (ps_is r0 9) (pl_Cl n 131 [.ref (ps_c0 r0 0), .int (ps_i s r0 6), .long l1] s (ps_rI (fun v1 s1 =>
    (v1 ≠ (-1) →
      Q (some (.int 1)) s1) ∧
    (v1 = (-1) →
      pl_nk (ps_is r0 9) (pl_nk (ps_is r0 9) (pl_Cl n 131 [.ref (ps_c0 r0 1), .int (ps_i s1 r0 7), .long l1] s1 (ps_rI (fun v2 s2 =>
        (v2 = (-1) →
          Q (some (.int 0)) s2) ∧
        (v2 ≠ (-1) →
          Q (some (.int 1)) s2))))))))))) : pl_At (n + 1) 130 0 [(0, .ref r0), (1, .long l1)] [] s Q :=
  pl_wp_at (stops := []) (f := 26) h rfl

-- ProofBench$Theory.arity(I)I
theorem pl_136_0 {n : Nat} {r0 : Nat} {x1 : Int32} {s : ps_S} {Q : Option Value → ps_S → Prop} (h :
  (x1 < 0 →
    Q (some (.int 0)) s) ∧
  (0 ≤ x1 →
    pl_nk (ps_is r0 9) (pl_nk (Nat.beq (ps_K (ps_c0 r0 3)).1 0) (((nI (ps_ln (ps_c0 r0 3))) ≤ x1 →
      Q (some (.int 0)) s) ∧
    (x1 < (nI (ps_ln (ps_c0 r0 3))) →
      pl_nk (ps_is r0 9) (pl_nk (ps_ar (ps_c0 r0 3) 0) ((pm_in x1 (ps_ln (ps_c0 r0 3)) = true →
        Q (some (.int (ps_a s (ps_c0 r0 3) (Int32.toNatClampNeg x1)))) s)))))))) : pl_At (n + 1) 136 0 [(0, .ref r0), (1, .int x1)] [] s Q :=
  pl_wp_at (stops := []) (f := 19) h rfl

-- ProofBench.isQuantifier(I)Z
theorem pl_184_0 {n : Nat} {x0 : Int32} {s : ps_S} {Q : Option Value → ps_S → Prop} (h :
  (x0 = 4 →
    Q (some (.int 1)) s) ∧
  (x0 ≠ 4 →
    (x0 ≠ 5 →
      Q (some (.int 0)) s) ∧
    (x0 = 5 →
      Q (some (.int 1)) s))) : pl_At (n + 1) 184 0 [(0, .int x0)] [] s Q :=
  pl_wp_at (stops := []) (f := 16) h rfl

-- ProofBench$Row.add(I)V
theorem pl_93_0 {n : Nat} {r0 : Nat} {x1 : Int32} {s : ps_S} {Q : Option Value → ps_S → Prop} (h :
  pl_nk (ps_is r0 5) (((ps_i s r0 1) < 0 →
    pl_nk (ps_is r0 5) (Q none (ps_ui s r0 2 1))) ∧
  (0 ≤ (ps_i s r0 1) →
    pl_nk (ps_is r0 5) (pl_nk (ps_is r0 5) (pl_nk (Nat.beq (ps_K (ps_c0 r0 0)).1 0) (((nI (ps_ln (ps_c0 r0 0))) ≤ (ps_i s r0 1) →
      pl_nk (ps_is r0 5) (Q none (ps_ui s r0 2 1))) ∧
    ((ps_i s r0 1) < (nI (ps_ln (ps_c0 r0 0))) →
      pl_nk (ps_is r0 5) (pl_nk (ps_is r0 5) (pl_nk (ps_ar (ps_c0 r0 0) 0) ((pm_in (ps_i s r0 1) (ps_ln (ps_c0 r0 0)) = true →
        pl_nk (ps_is r0 5) (pl_nk (ps_is r0 5) (Q none (ps_ui (ps_ua s (ps_c0 r0 0) (Int32.toNatClampNeg (ps_i s r0 1)) x1) r0 1 ((ps_i (ps_ua s (ps_c0 r0 0) (Int32.toNatClampNeg (ps_i s r0 1)) x1) r0 1) + 1))))))))))))))) : pl_At (n + 1) 93 0 [(0, .ref r0), (1, .int x1)] [] s Q :=
  pl_wp_at (stops := []) (f := 33) h rfl

-- ProofBench$Reader.refuse(I)Z
theorem pl_62_0 {n : Nat} {x1 : Int32} {s : ps_S} {Q : Option Value → ps_S → Prop} (h :
  ((ps_i s 903 4) ≠ 1 →
    Q (some (.int 0)) (ps_ui (ps_ui s 902 9 x1) 902 10 (ps_i (ps_ui s 902 9 x1) 903 5))) ∧
  ((ps_i s 903 4) = 1 →
    Q (some (.int 0)) (ps_ui (ps_ui s 902 9 1) 902 10 (ps_i (ps_ui s 902 9 1) 903 5)))) : pl_At (n + 1) 62 0 [(0, .ref 902), (1, .int x1)] [] s Q :=
  pl_wp_at (stops := []) (f := 27) h rfl

-- ProofBench$Reader.formulaPiece()I
theorem pl_72_0 {n : Nat} {s : ps_S} {Q : Option Value → ps_S → Prop} (h :
  ((ps_i s 903 6) < 0 →
    pl_At n 72 30 [(0, .ref 902)] [] s Q) ∧
  (0 ≤ (ps_i s 903 6) →
    (6 < (ps_i s 903 6) →
      pl_At n 72 30 [(0, .ref 902)] [] s Q) ∧
    ((ps_i s 903 6) ≤ 6 →
      Q (some (.int (ps_i s 903 6))) s))) : pl_At (n + 1) 72 0 [(0, .ref 902)] [] s Q :=
  pl_wp_at (stops := [(30, [0])]) (f := 15) h rfl

theorem pl_72_30 {n : Nat} {s : ps_S} {Q : Option Value → ps_S → Prop} (h :
  ((ps_i s 903 4) ≠ 2 →
    ((-1 : Int32) ≠ (-1) →
      Q (some (.int ((10 : Int32) + (-1)))) s) ∧
    ((-1 : Int32) = (-1) →
      Q (some (.int (-1))) s)) ∧
  ((ps_i s 903 4) = 2 →
    pl_Cl n 127 [.ref (ps_r s 902 5), .long (ps_j s 903 8)] s (ps_rI (fun v1 s1 =>
      (v1 ≠ (-1) →
        Q (some (.int ((10 : Int32) + v1))) s1) ∧
      (v1 = (-1) →
        Q (some (.int (-1))) s1))))) : pl_At (n + 1) 72 30 [(0, .ref 902)] [] s Q :=
  pl_wp_at (stops := [(30, [0])]) (f := 37) h rfl

-- ProofBench$Reader.hasRoom(II)Z
theorem pl_73_0 {n : Nat} {x1 : Int32} {x2 : Int32} {s : ps_S} {Q : Option Value → ps_S → Prop} (h :
  (12 < x1 →
    Q (some (.int 0)) s) ∧
  (x1 ≤ 12 →
    pl_nk (ps_is (ps_r s 902 6) 5) ((40 < (((ps_i s (ps_r s 902 6) 1) + (ps_i s 902 7)) + x2) →
      Q (some (.int 0)) s) ∧
    ((((ps_i s (ps_r s 902 6) 1) + (ps_i s 902 7)) + x2) ≤ 40 →
      Q (some (.int 1)) s)))) : pl_At (n + 1) 73 0 [(0, .ref 902), (1, .int x1), (2, .int x2)] [] s Q :=
  pl_wp_at (stops := []) (f := 22) h rfl

-- ProofBench$Reader.isX()Z
theorem pl_77_0 {n : Nat} {s : ps_S} {Q : Option Value → ps_S → Prop} (h :
  ((ps_i s 903 4) ≠ 2 →
    Q (some (.int 0)) s) ∧
  ((ps_i s 903 4) = 2 →
    pl_Cl n 130 [.ref (ps_r s 902 5), .long (ps_j s 903 8)] s (ps_rI (fun v1 s1 =>
      (v1 ≠ 0 →
        Q (some (.int 0)) s1) ∧
      (v1 = 0 →
        Q (some (.int 1)) s1))))) : pl_At (n + 1) 77 0 [(0, .ref 902)] [] s Q :=
  pl_wp_at (stops := []) (f := 21) h rfl

-- ProofBench$Reader.freePiece()I
theorem pl_79_0 {n : Nat} {s : ps_S} {Q : Option Value → ps_S → Prop} (h :
  pl_At n 79 2 [(0, .ref 902), (1, .int 0)] [] s Q) : pl_At (n + 1) 79 0 [(0, .ref 902)] [] s Q :=
  pl_wp_at (stops := [(2, [0, 1]), (47, [0])]) (f := 4) h rfl

theorem pl_79_2 {n : Nat} {x1 : Int32} {s : ps_S} {Q : Option Value → ps_S → Prop} (h :
  ((ps_i s 902 2) ≤ x1 →
    pl_At n 79 47 [(0, .ref 902)] [] s Q) ∧
  (x1 < (ps_i s 902 2) →
    ((nI 12) ≤ x1 →
      pl_At n 79 47 [(0, .ref 902)] [] s Q) ∧
    (x1 < (nI 12) →
      (pm_in x1 12 = true →
        ((lg_cmp (ps_b s 906 (Int32.toNatClampNeg x1)) (ps_j s 903 8)) ≠ 0 →
          pl_At n 79 2 [(0, .ref 902), (1, .int (x1 + 1))] [] s Q) ∧
        ((lg_cmp (ps_b s 906 (Int32.toNatClampNeg x1)) (ps_j s 903 8)) = 0 →
          Q (some (.int ((60 : Int32) + x1))) s))))) : pl_At (n + 1) 79 2 [(0, .ref 902), (1, .int x1)] [] s Q :=
  pl_wp_at (stops := [(2, [0, 1]), (47, [0])]) (f := 26) h rfl

theorem pl_79_47 {n : Nat} {s : ps_S} {Q : Option Value → ps_S → Prop} (h :
  ((ps_i s 902 2) < 0 →
    Q (some (.int (-1))) s) ∧
  (0 ≤ (ps_i s 902 2) →
    ((ps_i s 902 2) < (nI 12) →
      (pm_in (ps_i s 902 2) 12 = true →
        Q (some (.int (((60 : Int32) + (ps_i (ps_ui (ps_ub s 906 (Int32.toNatClampNeg (ps_i s 902 2)) (ps_j s 903 8)) 902 2 ((ps_i (ps_ub s 906 (Int32.toNatClampNeg (ps_i s 902 2)) (ps_j s 903 8)) 902 2) + 1)) 902 2)) - 1))) (ps_ui (ps_ub s 906 (Int32.toNatClampNeg (ps_i s 902 2)) (ps_j s 903 8)) 902 2 ((ps_i (ps_ub s 906 (Int32.toNatClampNeg (ps_i s 902 2)) (ps_j s 903 8)) 902 2) + 1)))) ∧
    ((nI 12) ≤ (ps_i s 902 2) →
      Q (some (.int (-1))) s))) : pl_At (n + 1) 79 47 [(0, .ref 902)] [] s Q :=
  pl_wp_at (stops := [(2, [0, 1]), (47, [0])]) (f := 36) h rfl

-- ProofBench$Reader.pieceOfX()I
theorem pl_78_0 {n : Nat} {s : ps_S} {Q : Option Value → ps_S → Prop} (h :
  pl_At n 78 2 [(0, .ref 902), (1, .int 0)] [] s Q) : pl_At (n + 1) 78 0 [(0, .ref 902)] [] s Q :=
  pl_wp_at (stops := [(2, [0, 1])]) (f := 4) h rfl

theorem pl_78_2 {n : Nat} {x1 : Int32} {s : ps_S} {Q : Option Value → ps_S → Prop} (h :
  ((ps_i s 902 4) ≤ x1 →
    ((ps_i s 902 8) = 0 →
      pl_Cl n 79 [.ref 902] s (ps_rI (fun v1 s1 =>
        Q (some (.int v1)) s1))) ∧
    ((ps_i s 902 8) ≠ 0 →
      Q (some (.int (-1))) s)) ∧
  (x1 < (ps_i s 902 4) →
    ((((ps_i s 902 4) - 1) - x1) < 0 →
      pl_At n 78 2 [(0, .ref 902), (1, .int (x1 + 1))] [] s Q) ∧
    (0 ≤ (((ps_i s 902 4) - 1) - x1) →
      ((nI 5) ≤ (((ps_i s 902 4) - 1) - x1) →
        pl_At n 78 2 [(0, .ref 902), (1, .int (x1 + 1))] [] s Q) ∧
      ((((ps_i s 902 4) - 1) - x1) < (nI 5) →
        (pm_in (((ps_i s 902 4) - 1) - x1) 5 = true →
          ((lg_cmp (ps_b s 907 (Int32.toNatClampNeg (((ps_i s 902 4) - 1) - x1))) (ps_j s 903 8)) ≠ 0 →
            pl_At n 78 2 [(0, .ref 902), (1, .int (x1 + 1))] [] s Q) ∧
          ((lg_cmp (ps_b s 907 (Int32.toNatClampNeg (((ps_i s 902 4) - 1) - x1))) (ps_j s 903 8)) = 0 →
            Q (some (.int ((40 : Int32) + x1))) s)))))) : pl_At (n + 1) 78 2 [(0, .ref 902), (1, .int x1)] [] s Q :=
  pl_wp_at (stops := [(2, [0, 1])]) (f := 48) h rfl

/-- a place or none -/
def tx_opt (o : Option Nat) (v : Int32) : Prop := (∀ c, o = some c → v.toInt = c) ∧ (o = none → v.toInt = -1)
theorem fs_131_3 {L : List (List Nat)} {w : List Nat} {r0 : Nat} {x1 : Int32} {l2 : Int64} {s : ps_S} {R : Int32 → ps_S → Prop} (hw : tx_w w) (hl : l2 = tx_x w) (hL : ∀ k w', L[k]? = some w' → tx_w w' ∧ ps_b s r0 k = tx_x w') (hx : x1.toInt = L.length) (hn : L.length ≤ ps_ln r0) (h9 : ps_ln r0 ≤ 40) (k : ∀ v : Int32, tx_opt (tx_at L w) v → R v s) : ∀ (n : Nat) {x4 : Int32} {i : Nat}, x4.toInt = i → i ≤ L.length → (∀ j, j < i → L[j]? ≠ some w) → pl_At n 131 3 [(0, .ref r0), (1, .int x1), (2, .long l2), (4, .int x4)] [] s (ps_rI R)
  | 0, _, _, _, _, _ => pl_At_0
  | n + 1, x4, i, hx4, hi, hj => by
    have no : i = L.length → tx_at L w = none := fun z => tx_at_no (fun j hjl => hj j (by omega))
    have h40 : (nI (ps_ln r0)).toInt = (ps_ln r0 : Nat) := nI_i (by omega)
    refine pl_131_3 ?_
    refine ⟨fun h6 => ?_, fun h6 => ?_⟩
    · have h6 : x1.toInt ≤ x4.toInt := xle h6
      have e := no (by omega)
      exact k _ ⟨(fun c hc => by rw [e] at hc; cases hc), fun _ => rfl⟩
    · have h6 : x4.toInt < x1.toInt := xlt h6
      refine pl_nk_i (fun nk12 => ?_)
      refine ⟨fun h13 => ?_, fun h13 => ?_⟩
      · have h13 : (nI (ps_ln r0)).toInt ≤ x4.toInt := xle h13
        have e := no (by omega)
        exact k _ ⟨(fun c hc => by rw [e] at hc; cases hc), fun _ => rfl⟩
      · have h13 : x4.toInt < (nI (ps_ln r0)).toInt := xlt h13
        refine pl_nk_i (fun nk19 => ?_)
        intro b19
        obtain ⟨b19, c19⟩ := pl_in b19
        obtain ⟨w0, hg1⟩ : ∃ w0, L[i]? = some w0 := ⟨L[i]'(by omega), List.getElem?_eq_getElem _⟩
        obtain ⟨hg2, hg3⟩ := hL i w0 hg1
        refine ⟨fun h22 => ?_, fun h22 => ?_⟩
        · have h22 := lg_nz h22
          refine fs_131_3 hw hl hL hx hn h9 k n (xj1 hx4 (by omega)) (by omega) (fun j hjl => ?_)
          by_cases ej : j = i
          · rw [ej, hg1]
            intro z
            cases z
            exact h22 (by rw [xtn hx4, hg3, hl])
          · exact hj j (by omega)
        · have h22 := lg_z h22
          rw [xtn hx4, hg3] at h22
          have e := tx_at_is (by rw [hg1, tx_x_inj hg2 hw (h22.trans hl)]) hj
          exact k _ ⟨(fun c hc => by rw [e] at hc; cases hc; exact hx4), (fun hc => by rw [e] at hc; cases hc)⟩
theorem fs_131 {n : Nat} {L : List (List Nat)} {w : List Nat} {r0 : Nat} {x1 : Int32} {l2 : Int64} {s : ps_S} {R : Int32 → ps_S → Prop} (hw : tx_w w) (hl : l2 = tx_x w) (hL : ∀ k w', L[k]? = some w' → tx_w w' ∧ ps_b s r0 k = tx_x w') (hx : x1.toInt = L.length) (hn : L.length ≤ ps_ln r0) (h9 : ps_ln r0 ≤ 40) (k : ∀ v : Int32, tx_opt (tx_at L w) v → R v s) : pl_Cl n 131 [.ref r0, .int x1, .long l2] s (ps_rI R) := by
  cases n with
  | zero => exact pl_At_0
  | succ n =>
  show pl_At (n + 1) 131 0 [(0, .ref r0), (1, .int x1), (2, .long l2)] [] s (ps_rI R)
  refine pl_131_0 ?_
  exact fs_131_3 hw hl hL hx hn h9 k n (i := 0) rfl (Nat.zero_le _) (fun j hj => by omega)

theorem cv_E_rel {s : ps_S} {th : Nat} {g : tx_g} (h : cv_E s th g) : ∀ k w, (g.1.map Prod.fst)[k]? = some w → tx_w w ∧ ps_b s (th + 1) k = tx_x w := fun k w e => by
  rw [List.getElem?_map] at e
  obtain ⟨q, h1, rfl⟩ := Option.map_eq_some_iff.mp e
  obtain ⟨z1, z2, z3, z4⟩ := h.2.2.2.2.1 k q.1 q.2 h1
  exact ⟨z1, z3⟩
theorem cv_E_fun {s : ps_S} {th : Nat} {g : tx_g} (h : cv_E s th g) : ∀ k w, (g.2.map Prod.fst)[k]? = some w → tx_w w ∧ ps_b s (th + 2) k = tx_x w := fun k w e => by
  rw [List.getElem?_map] at e
  obtain ⟨q, h1, rfl⟩ := Option.map_eq_some_iff.mp e
  obtain ⟨z1, z2, z3, z4⟩ := h.2.2.2.2.2.1 k q.1 q.2 h1
  exact ⟨z1, z3⟩
theorem fs_127 {n : Nat} {th : Nat} {g : tx_g} {w : List Nat} {l1 : Int64} {s : ps_S} {R : Int32 → ps_S → Prop} (hth : th = 2 ∨ th = 26) (H : cv_E s th g) (hw : tx_w w) (hl : l1 = tx_x w) (k : ∀ v : Int32, tx_opt (tx_at (g.1.map Prod.fst) w) v → R v s) : pl_Cl n 127 [.ref th, .long l1] s (ps_rI R) := by
  cases n with
  | zero => exact pl_At_0
  | succ n =>
  show pl_At (n + 1) 127 0 [(0, .ref th), (1, .long l1)] [] s (ps_rI R)
  have t := cv_th5 hth
  refine pl_127_0 ?_
  refine pl_nk_i (fun nk1 => ?_)
  refine pl_nk_i (fun nk5 => ?_)
  rw [t.2.2.2.1]
  refine fs_131 (L := g.1.map Prod.fst) hw hl (cv_E_rel H) (by rw [List.length_map]; exact H.1) (by rw [List.length_map, t.2.2.2.2.2.2.2.1]; exact H.2.2.1) (by rw [t.2.2.2.2.2.2.2.1]; decide) (fun v9 q9 => ?_)
  exact k _ q9
theorem fs_128 {n : Nat} {th : Nat} {g : tx_g} {w : List Nat} {l1 : Int64} {s : ps_S} {R : Int32 → ps_S → Prop} (hth : th = 2 ∨ th = 26) (H : cv_E s th g) (hw : tx_w w) (hl : l1 = tx_x w) (k : ∀ v : Int32, tx_opt (tx_at (g.2.map Prod.fst) w) v → R v s) : pl_Cl n 128 [.ref th, .long l1] s (ps_rI R) := by
  cases n with
  | zero => exact pl_At_0
  | succ n =>
  show pl_At (n + 1) 128 0 [(0, .ref th), (1, .long l1)] [] s (ps_rI R)
  have t := cv_th5 hth
  refine pl_128_0 ?_
  refine pl_nk_i (fun nk1 => ?_)
  refine pl_nk_i (fun nk5 => ?_)
  rw [t.2.2.2.2.1]
  refine fs_131 (L := g.2.map Prod.fst) hw hl (cv_E_fun H) (by rw [List.length_map]; exact H.2.1) (by rw [List.length_map, t.2.2.2.2.2.2.2.2.1]; exact H.2.2.2.1) (by rw [t.2.2.2.2.2.2.2.2.1]; decide) (fun v9 q9 => ?_)
  exact k _ q9
theorem tx_opt_m {o : Option Nat} {v : Int32} (h : tx_opt o v) : v.toInt = -1 ↔ o = none := by
  constructor
  · intro z
    cases e : o with
    | none => rfl
    | some c =>
      have := h.1 c e
      omega
  · exact h.2
theorem fs_130 {n : Nat} {th : Nat} {g : tx_g} {w : List Nat} {l1 : Int64} {s : ps_S} {R : Int32 → ps_S → Prop} (hth : th = 2 ∨ th = 26) (H : cv_E s th g) (hw : tx_w w) (hl : l1 = tx_x w) (k1 : ¬ (tx_at (g.1.map Prod.fst) w = none ∧ tx_at (g.2.map Prod.fst) w = none) → R 1 s) (k0 : tx_at (g.1.map Prod.fst) w = none ∧ tx_at (g.2.map Prod.fst) w = none → R 0 s) : pl_Cl n 130 [.ref th, .long l1] s (ps_rI R) := by
  cases n with
  | zero => exact pl_At_0
  | succ n =>
  show pl_At (n + 1) 130 0 [(0, .ref th), (1, .long l1)] [] s (ps_rI R)
  have t := cv_th5 hth
  refine pl_130_0 ?_
  refine pl_nk_i (fun nk1 => ?_)
  refine pl_nk_i (fun nk5 => ?_)
  rw [t.2.2.2.1]
  refine fs_131 (L := g.1.map Prod.fst) hw hl (cv_E_rel H) (by rw [List.length_map]; exact H.1) (by rw [List.length_map, t.2.2.2.2.2.2.2.1]; exact H.2.2.1) (by rw [t.2.2.2.2.2.2.2.1]; decide) (fun v9 q9 => ?_)
  refine ⟨fun h13 => ?_, fun h13 => ?_⟩
  · have h13 : v9.toInt ≠ (-1 : Int) := xne h13
    exact k1 (fun z => h13 ((tx_opt_m q9).mpr z.1))
  · have h13 : v9.toInt = (-1 : Int) := xeq h13
    refine pl_nk_i (fun nk17 => ?_)
    refine pl_nk_i (fun nk21 => ?_)
    rw [t.2.2.2.2.1]
    refine fs_131 (L := g.2.map Prod.fst) hw hl (cv_E_fun H) (by rw [List.length_map]; exact H.2.1) (by rw [List.length_map, t.2.2.2.2.2.2.2.2.1]; exact H.2.2.2.1) (by rw [t.2.2.2.2.2.2.2.2.1]; decide) (fun v25 q25 => ?_)
    refine ⟨fun h29 => ?_, fun h29 => ?_⟩
    · have h29 : v25.toInt = (-1 : Int) := xeq h29
      exact k0 ⟨(tx_opt_m q9).mp h13, (tx_opt_m q25).mp h29⟩
    · have h29 : v25.toInt ≠ (-1 : Int) := xne h29
      exact k1 (fun z => h29 ((tx_opt_m q25).mpr z.2))
theorem fs_136 {n : Nat} {th : Nat} {x1 : Int32} {c : Nat} {s : ps_S} {R : Int32 → ps_S → Prop} (hth : th = 2 ∨ th = 26) (hx : x1.toInt = c) (k : ∀ v : Int32, v.toInt = (if c < 40 then (ps_a s (th + 4) c).toInt else 0) → R v s) : pl_Cl n 136 [.ref th, .int x1] s (ps_rI R) := by
  cases n with
  | zero => exact pl_At_0
  | succ n =>
  show pl_At (n + 1) 136 0 [(0, .ref th), (1, .int x1)] [] s (ps_rI R)
  have t := cv_th5 hth
  have t40 : (nI (ps_ln (ps_c0 th 3))).toInt = 40 := by
    rw [t.2.2.2.2.2.2.1, t.2.2.2.2.2.2.2.2.2.2]
    decide
  refine pl_136_0 ?_
  refine ⟨fun h1 => ?_, fun h1 => ?_⟩
  · have h1 : x1.toInt < (0 : Int) := xlt h1
    refine k _ ?_
    rw [if_neg (by omega)]
    rfl
  · have h1 : (0 : Int) ≤ x1.toInt := xle h1
    refine pl_nk_i (fun nk6 => ?_)
    refine pl_nk_i (fun nk9 => ?_)
    refine ⟨fun h10 => ?_, fun h10 => ?_⟩
    · have h10 : (nI (ps_ln (ps_c0 th 3))).toInt ≤ x1.toInt := xle h10
      refine k _ ?_
      rw [if_neg (by omega)]
      rfl
    · have h10 : x1.toInt < (nI (ps_ln (ps_c0 th 3))).toInt := xlt h10
      refine pl_nk_i (fun nk14 => ?_)
      refine pl_nk_i (fun nk18 => ?_)
      intro b18
      obtain ⟨b18, c18⟩ := pl_in b18
      refine k _ ?_
      rw [if_pos (by omega), xtn hx, t.2.2.2.2.2.2.1]
theorem fs_184 {n : Nat} {x1 : Int32} {s : ps_S} {R : Int32 → ps_S → Prop} (k1 : (x1.toInt = 4 ∨ x1.toInt = 5) → R 1 s) (k0 : ¬ (x1.toInt = 4 ∨ x1.toInt = 5) → R 0 s) : pl_Cl n 184 [.int x1] s (ps_rI R) := by
  cases n with
  | zero => exact pl_At_0
  | succ n =>
  show pl_At (n + 1) 184 0 [(0, .int x1)] [] s (ps_rI R)
  refine pl_184_0 ?_
  refine ⟨fun h2 => ?_, fun h2 => ?_⟩
  · have h2 : x1.toInt = (4 : Int) := xeq h2
    exact k1 (by omega)
  · have h2 : x1.toInt ≠ (4 : Int) := xne h2
    refine ⟨fun h7 => ?_, fun h7 => ?_⟩
    · have h7 : x1.toInt ≠ (5 : Int) := xne h7
      exact k0 (by omega)
    · have h7 : x1.toInt = (5 : Int) := xeq h7
      exact k1 (by omega)
theorem fs_93 {n r m : Nat} {x1 : Int32} {s : ps_S} {R : ps_S → Prop} (hr : ps_is r 5 = true) (h1 : (ps_i s r 1).toInt = m) (hm : m < 40) (k : R (ps_ui (ps_ua s (r + 1) m x1) r 1 (ps_i s r 1 + 1))) : pl_Cl n 93 [.ref r, .int x1] s (ps_rV R) := by
  cases n with
  | zero => exact pl_At_0
  | succ n =>
  show pl_At (n + 1) 93 0 [(0, .ref r), (1, .int x1)] [] s (ps_rV R)
  obtain ⟨t1, t2, t3, -⟩ := cv_row hr
  have t40 : (nI (ps_ln (ps_c0 r 0))).toInt = 40 := by
    rw [t1, t2]
    decide
  refine pl_93_0 ?_
  refine pl_nk_i (fun nk1 => ?_)
  refine ⟨fun h4 => ?_, fun h4 => ?_⟩
  · have h4 : (ps_i s r 1).toInt < (0 : Int) := xlt h4
    refine pl_nk_i (fun nk44 => ?_)
    exfalso; omega
  · have h4 : (0 : Int) ≤ (ps_i s r 1).toInt := xle h4
    refine pl_nk_i (fun nk8 => ?_)
    refine pl_nk_i (fun nk12 => ?_)
    refine pl_nk_i (fun nk15 => ?_)
    refine ⟨fun h16 => ?_, fun h16 => ?_⟩
    · have h16 : (nI (ps_ln (ps_c0 r 0))).toInt ≤ (ps_i s r 1).toInt := xle h16
      refine pl_nk_i (fun nk44 => ?_)
      exfalso; omega
    · have h16 : (ps_i s r 1).toInt < (nI (ps_ln (ps_c0 r 0))).toInt := xlt h16
      refine pl_nk_i (fun nk20 => ?_)
      refine pl_nk_i (fun nk24 => ?_)
      refine pl_nk_i (fun nk28 => ?_)
      intro b28
      obtain ⟨b28, c28⟩ := pl_in b28
      refine pl_nk_i (fun nk31 => ?_)
      refine pl_nk_i (fun nk36 => ?_)
      rw [xtn h1, t1]
      exact k

/-- the row is longer by a piece -/
theorem fs_add {n : Nat} {th r : Nat} {s : ps_S} {T : Nat → Nat} {N : Nat} {E : tx_E} {S : List tx_F} {p : Nat} {l : List Nat} {fr : List (List Nat)} {c : Nat} {x1 : Int32} {R : ps_S → Prop} (HS : cv_S th r s T N E) (HC : cv_C r s T N S p l fr) (hx : x1.toInt = c) (hl : l.length + tx_due S + 1 ≤ 40) (k : ∀ s', cv_S th r s' T N E ∧ cv_C r s' T N S p (l ++ [c]) fr ∧ cv_fr r s s' → R s') : pl_Cl n 93 [.ref (ps_r s 902 6), .int x1] s (ps_rV R) := by
  have hr := HS.2.1
  rw [HS.2.2.2.1]
  have F : cv_fr r s (ps_ui (ps_ua s (r + 1) l.length x1) r 1 (ps_i s r 1 + 1)) := cv_fr_w (cv_fr_a cv_fr_refl) (cv_ne hr cv_n5.1)
  exact fs_93 hr HC.2.2.2.1.1 (by omega) (k _ ⟨cv_S_fr HS F, cv_C_add hr HC hx hl, F⟩)
/-- the next token -/
theorem fs_adv {n : Nat} {th r : Nat} {s : ps_S} {T : Nat → Nat} {N : Nat} {E : tx_E} {S : List tx_F} {p : Nat} {l : List Nat} {fr : List (List Nat)} {R : ps_S → Prop} (HS : cv_S th r s T N E) (HC : cv_C r s T N S p l fr) (k : ∀ s', cv_S th r s' T N E ∧ cv_C r s' T N S (tx_tok T N p).2.2.1 l fr ∧ cv_fr r s s' → R s') : pl_Cl n 140 [.ref 903] s (ps_rV R) := by
  have hr := HS.2.1
  have hq := (tx_tok_ok (T := T) HC.1).2.1
  exact fs_140 HS.2.2.2.2.2.1 HC.2.2.1.2.2.1 hq (fun s' A => k s' ⟨cv_S_fr HS (cv_fr_fl A.1), cv_C_adv hr HC hq A, cv_fr_fl A.1⟩)

theorem fs_62 {n : Nat} {r : Nat} {s0 s : ps_S} {T : Nat → Nat} {N : Nat} {E : tx_E} {S' : List tx_F} {l' : List Nat} {fr' : List (List Nat)} {c0 : tx_C} {tk : tx_K} {x1 : Int32} {K : Nat} {R : Int32 → ps_S → Prop} (hK : cv_K s tk) (F : cv_fr r s0 s) (hx : x1.toInt = K) (hg : gt_go (tx_st T N E) c0 (4, S', tk.2.1, l', fr', if tk.1 = 1 then 1 else K)) (k : ∀ s', cv_bad r s0 s' T N E c0 → R 0 s') : pl_Cl n 62 [.ref 902, .int x1] s (ps_rI R) := by
  cases n with
  | zero => exact pl_At_0
  | succ n =>
  show pl_At (n + 1) 62 0 [(0, .ref 902), (1, .int x1)] [] s (ps_rI R)
  have h4 := hK.1
  have h5 := hK.2.1
  refine pl_62_0 ?_
  refine ⟨fun h9 => ?_, fun h9 => ?_⟩
  · have h9 : (ps_i s 903 4).toInt ≠ (1 : Int) := xne h9
    refine k _ ⟨S', _, l', fr', _, hg, ?_, h5, cv_fr_i (cv_fr_i F (by decide)) (by decide)⟩
    rw [if_neg (by omega)]
    exact hx
  · have h9 : (ps_i s 903 4).toInt = (1 : Int) := xeq h9
    refine k _ ⟨S', _, l', fr', _, hg, ?_, h5, cv_fr_i (cv_fr_i F (by decide)) (by decide)⟩
    rw [if_pos (by omega)]
    rfl

theorem fs_72_30 {n : Nat} {th r : Nat} {s : ps_S} {T : Nat → Nat} {N : Nat} {E : tx_E} {S : List tx_F} {p : Nat} {l : List Nat} {fr : List (List Nat)} {R : Int32 → ps_S → Prop} (HS : cv_S th r s T N E) (HC : cv_C r s T N S p l fr) (h6 : ¬ ((tx_tok T N p).1 = 3 ∧ (tx_tok T N p).2.2.2.2 ≤ 6)) (k : ∀ v : Int32, tx_opt (tx_pc E (tx_tok T N p)) v → R v s) : pl_At n 72 30 [(0, .ref 902)] [] s (ps_rI R) := by
  cases n with
  | zero => exact pl_At_0
  | succ n =>
  have HK := HC.2.2.1
  have hw := (tx_tok_ok (T := T) HC.1).2.2.2.1
  have hm : ¬ (tx_tok T N p).1 = 2 → tx_pc E (tx_tok T N p) = none := fun z => by
    unfold tx_pc
    by_cases h3 : (tx_tok T N p).1 = 3
    · rw [if_pos h3, if_neg (fun y => h6 ⟨h3, y⟩)]
    · rw [if_neg h3, if_neg z]
  have h4 := HK.1
  refine pl_72_30 ?_
  refine ⟨fun h38 => ?_, fun h38 => ?_⟩
  · have h38 : (ps_i s 903 4).toInt ≠ (2 : Int) := xne h38
    refine ⟨fun h62 => ?_, fun h62 => ?_⟩
    · exact absurd h62 (by decide)
    · exact k _ ⟨(fun c hc => by rw [hm (by omega)] at hc; cases hc), fun _ => rfl⟩
  · have h38 : (ps_i s 903 4).toInt = (2 : Int) := xeq h38
    have h2 : (tx_tok T N p).1 = 2 := by omega
    have hpc : tx_pc E (tx_tok T N p) = (match tx_at (tx_R E) (tx_tok T N p).2.2.2.1 with
        | some r => some (10 + r)
        | none => none) := by
      unfold tx_pc
      rw [if_neg (by omega), if_pos h2]
      rfl
    rw [HS.2.2.1]
    refine fs_127 HS.1 HS.2.2.2.2.2.2 (hw h2) (HK.2.2.2.1 h2) (fun v52 q52 => ?_)
    refine ⟨fun h62 => ?_, fun h62 => ?_⟩
    · have h62 : v52.toInt ≠ (-1 : Int) := xne h62
      refine k _ ⟨fun c hc => ?_, fun hc => ?_⟩
      · rw [hpc] at hc
        split at hc
        · next q hq =>
          cases hc
          have := q52.1 q hq
          have z := tx_ix_some hq
          have hlen : (tx_R E).length ≤ 6 := by unfold tx_R; rw [List.length_map]; exact HS.2.2.2.2.2.2.2.2.1
          have h10 : (10 : Int32).toInt = 10 := by decide
          rw [xIa (by omega) (by omega), this, h10]
          omega
        · cases hc
      · rw [hpc] at hc
        split at hc
        · cases hc
        · next hq => exact (h62 (q52.2 hq)).elim
    · have h62 : v52.toInt = (-1 : Int) := xeq h62
      refine k _ ⟨fun c hc => ?_, fun hc => rfl⟩
      rw [hpc, show tx_at (tx_R E) (tx_tok T N p).2.2.2.1 = none from (tx_opt_m q52).mp h62] at hc
      cases hc
theorem fs_72 {n : Nat} {th r : Nat} {s : ps_S} {T : Nat → Nat} {N : Nat} {E : tx_E} {S : List tx_F} {p : Nat} {l : List Nat} {fr : List (List Nat)} {R : Int32 → ps_S → Prop} (HS : cv_S th r s T N E) (HC : cv_C r s T N S p l fr) (k : ∀ v : Int32, tx_opt (tx_pc E (tx_tok T N p)) v → R v s) : pl_Cl n 72 [.ref 902] s (ps_rI R) := by
  cases n with
  | zero => exact pl_At_0
  | succ n =>
  show pl_At (n + 1) 72 0 [(0, .ref 902)] [] s (ps_rI R)
  have h6 := HC.2.2.1.2.2.2.2.1
  refine pl_72_0 ?_
  refine ⟨fun h7 => ?_, fun h7 => ?_⟩
  · have h7 : (ps_i s 903 6).toInt < (0 : Int) := xlt h7
    refine fs_72_30 HS HC (fun z => ?_) k
    rw [if_pos z.1] at h6
    omega
  · have h7 : (0 : Int) ≤ (ps_i s 903 6).toInt := xle h7
    refine ⟨fun h19 => ?_, fun h19 => ?_⟩
    · have h19 : (6 : Int) < (ps_i s 903 6).toInt := xlt h19
      refine fs_72_30 HS HC (fun z => ?_) k
      rw [if_pos z.1] at h6
      omega
    · have h19 : (ps_i s 903 6).toInt ≤ (6 : Int) := xle h19
      by_cases h3 : (tx_tok T N p).1 = 3
      · rw [if_pos h3] at h6
        have hpc : tx_pc E (tx_tok T N p) = some (tx_tok T N p).2.2.2.2 := by
          unfold tx_pc
          rw [if_pos h3, if_pos (by omega)]
        exact k _ ⟨(fun c hc => by rw [hpc] at hc; cases hc; exact h6), (fun hc => by rw [hpc] at hc; cases hc)⟩
      · rw [if_neg h3] at h6
        omega

theorem fs_73 {n : Nat} {th r : Nat} {s : ps_S} {T : Nat → Nat} {N : Nat} {E : tx_E} {S : List tx_F} {p : Nat} {l : List Nat} {fr : List (List Nat)} {x1 x2 : Int32} {d m : Nat} {R : Int32 → ps_S → Prop} (HS : cv_S th r s T N E) (HC : cv_C r s T N S p l fr) (hx : x1.toInt = d) (hm : x2.toInt = m) (hm2 : m ≤ 2) (k1 : d ≤ 12 ∧ l.length + tx_due S + m ≤ 40 → R 1 s) (k0 : ¬ (d ≤ 12 ∧ l.length + tx_due S + m ≤ 40) → R 0 s) : pl_Cl n 73 [.ref 902, .int x1, .int x2] s (ps_rI R) := by
  cases n with
  | zero => exact pl_At_0
  | succ n =>
  show pl_At (n + 1) 73 0 [(0, .ref 902), (1, .int x1), (2, .int x2)] [] s (ps_rI R)
  obtain ⟨c1, c2, -, ⟨c3, -, c4, -⟩, -, -, c5, -⟩ := HC
  have hd := tx_due_le (S := S)
  have hs1 : ((ps_i s r 1) + (ps_i s 902 7)).toInt = (l.length : Int) + tx_due S := by
    rw [xIa (by omega) (by omega), c3, c5]
  have hs2 : (((ps_i s r 1) + (ps_i s 902 7)) + x2).toInt = (l.length : Int) + tx_due S + m := by
    rw [xIa (by omega) (by omega), hs1, hm]
  refine pl_73_0 ?_
  refine ⟨fun h3 => ?_, fun h3 => ?_⟩
  · have h3 : (12 : Int) < x1.toInt := xlt h3
    exact k0 (by omega)
  · have h3 : x1.toInt ≤ (12 : Int) := xle h3
    refine pl_nk_i (fun nk10 => ?_)
    refine ⟨fun h22 => ?_, fun h22 => ?_⟩
    · have h22 : (40 : Int) < (((ps_i s (ps_r s 902 6) 1) + (ps_i s 902 7)) + x2).toInt := xlt h22
      exact k0 (by rw [HS.2.2.2.1] at h22; omega)
    · have h22 : (((ps_i s (ps_r s 902 6) 1) + (ps_i s 902 7)) + x2).toInt ≤ (40 : Int) := xle h22
      exact k1 (by rw [HS.2.2.2.1] at h22; omega)

theorem fs_77 {n : Nat} {th r : Nat} {s : ps_S} {T : Nat → Nat} {N : Nat} {E : tx_E} {S : List tx_F} {p : Nat} {l : List Nat} {fr : List (List Nat)} {R : Int32 → ps_S → Prop} (HS : cv_S th r s T N E) (HC : cv_C r s T N S p l fr) (k1 : tx_isX E (tx_tok T N p) → R 1 s) (k0 : ¬ tx_isX E (tx_tok T N p) → R 0 s) : pl_Cl n 77 [.ref 902] s (ps_rI R) := by
  cases n with
  | zero => exact pl_At_0
  | succ n =>
  show pl_At (n + 1) 77 0 [(0, .ref 902)] [] s (ps_rI R)
  have HK := HC.2.2.1
  have hw := (tx_tok_ok (T := T) HC.1).2.2.2.1
  have h4 := HK.1
  refine pl_77_0 ?_
  refine ⟨fun h8 => ?_, fun h8 => ?_⟩
  · have h8 : (ps_i s 903 4).toInt ≠ (2 : Int) := xne h8
    exact k0 (fun z => by have := z.1; omega)
  · have h8 : (ps_i s 903 4).toInt = (2 : Int) := xeq h8
    have h2 : (tx_tok T N p).1 = 2 := by omega
    rw [HS.2.2.1]
    refine fs_130 HS.1 HS.2.2.2.2.2.2 (hw h2) (HK.2.2.2.1 h2) (fun q22 => ?_) (fun q22 => ?_)
    · refine ⟨fun h25 => ?_, fun h25 => ?_⟩
      · exact k0 (fun z => q22 z.2)
      · exact absurd h25 (by decide)
    · refine ⟨fun h25 => ?_, fun h25 => ?_⟩
      · exact absurd h25 (by decide)
      · exact k1 ⟨h2, q22⟩

/-- what naming a free one comes to -/
def cv_N (r : Nat) (s : ps_S) (T : Nat → Nat) (N : Nat) (E : tx_E) (S : List tx_F) (p : Nat) (l : List Nat) (o : Option (Nat × List (List Nat))) (v : Int32) (s' : ps_S) : Prop := match o with
  | some (c, fr2) => v.toInt = c ∧ cv_C r s' T N S p l fr2 ∧ cv_fr r s s'
  | none => v.toInt = -1 ∧ s' = s
/-- the number of a free name -/
def tx_fn (fr : List (List Nat)) (w : List Nat) : Option (Nat × List (List Nat)) := match tx_at fr w with
  | some i => some (60 + i, fr)
  | none => if fr.length < 12 then some (60 + fr.length, fr ++ [w]) else none
theorem fs_79_47 {n : Nat} {th r : Nat} {s : ps_S} {T : Nat → Nat} {N : Nat} {E : tx_E} {S : List tx_F} {p : Nat} {l : List Nat} {fr : List (List Nat)} {R : Int32 → ps_S → Prop} (HS : cv_S th r s T N E) (HC : cv_C r s T N S p l fr) (h2 : (tx_tok T N p).1 = 2) (hno : tx_at fr (tx_tok T N p).2.2.2.1 = none) (k : ∀ v s', cv_N r s T N E S p l (tx_fn fr (tx_tok T N p).2.2.2.1) v s' → R v s') : pl_At n 79 47 [(0, .ref 902)] [] s (ps_rI R) := by
  cases n with
  | zero => exact pl_At_0
  | succ n =>
  have HK := HC.2.2.1
  have hw := (tx_tok_ok (T := T) HC.1).2.2.2.1 h2
  obtain ⟨f1, f2, f3⟩ := HC.2.2.2.2.1
  have hr := HS.2.1
  refine pl_79_47 ?_
  refine ⟨fun h51 => ?_, fun h51 => ?_⟩
  · have h51 : (ps_i s 902 2).toInt < (0 : Int) := xlt h51
    exfalso; omega
  · have h51 : (0 : Int) ≤ (ps_i s 902 2).toInt := xle h51
    refine ⟨fun h63 => ?_, fun h63 => ?_⟩
    · have h63 : (ps_i s 902 2).toInt < (12 : Int) := xlt h63
      intro b83
      obtain ⟨b83, c83⟩ := pl_in b83
      have e : tx_fn fr (tx_tok T N p).2.2.2.1 = some (60 + fr.length, fr ++ [(tx_tok T N p).2.2.2.1]) := by
        unfold tx_fn
        rw [hno]
        dsimp only
        rw [if_pos (by omega)]
      refine k _ _ ?_
      rw [e, xtn f1]
      refine ⟨?_, cv_C_free hr HC (by omega) hw (HK.2.2.2.1 h2), cv_fr_i (cv_fr_b cv_fr_refl (Or.inl rfl)) (by decide)⟩
      show ((60 + (ps_i s 902 2 + 1)) - 1 : Int32).toInt = _
      have h60 : (60 : Int32).toInt = 60 := by decide
      have h1 : (1 : Int32).toInt = 1 := by decide
      have e1 : (ps_i s 902 2 + 1 : Int32).toInt = fr.length + 1 := by rw [xIa (by omega) (by omega)]; omega
      have e2 : (60 + (ps_i s 902 2 + 1) : Int32).toInt = fr.length + 61 := by rw [xIa (by omega) (by omega)]; omega
      rw [xIs (by omega) (by omega)]
      omega
    · have h63 : (12 : Int) ≤ (ps_i s 902 2).toInt := xle h63
      have e : tx_fn fr (tx_tok T N p).2.2.2.1 = none := by
        unfold tx_fn
        rw [hno]
        dsimp only
        rw [if_neg (by omega)]
      refine k _ _ ?_
      rw [e]
      exact ⟨rfl, rfl⟩
theorem fs_79_2 {th r : Nat} {s : ps_S} {T : Nat → Nat} {N : Nat} {E : tx_E} {S : List tx_F} {p : Nat} {l : List Nat} {fr : List (List Nat)} {R : Int32 → ps_S → Prop} (HS : cv_S th r s T N E) (HC : cv_C r s T N S p l fr) (h2 : (tx_tok T N p).1 = 2) (k : ∀ v s', cv_N r s T N E S p l (tx_fn fr (tx_tok T N p).2.2.2.1) v s' → R v s') : ∀ (n : Nat) {x1 : Int32} {i : Nat}, x1.toInt = i → i ≤ fr.length → (∀ j, j < i → fr[j]? ≠ some (tx_tok T N p).2.2.2.1) → pl_At n 79 2 [(0, .ref 902), (1, .int x1)] [] s (ps_rI R)
  | 0, _, _, _, _, _ => pl_At_0
  | n + 1, x1, i, hx, hi, hj => by
    have HK := HC.2.2.1
    have hw := (tx_tok_ok (T := T) HC.1).2.2.2.1 h2
    have h8 := HK.2.2.2.1 h2
    obtain ⟨f1, f2, f3⟩ := HC.2.2.2.2.1
    refine pl_79_2 ?_
    refine ⟨fun h7 => ?_, fun h7 => ?_⟩
    · have h7 : (ps_i s 902 2).toInt ≤ x1.toInt := xle h7
      exact fs_79_47 HS HC h2 (tx_at_no (fun j hjl => hj j (by omega))) k
    · have h7 : x1.toInt < (ps_i s 902 2).toInt := xlt h7
      refine ⟨fun h16 => ?_, fun h16 => ?_⟩
      · have h16 : (12 : Int) ≤ x1.toInt := xle h16
        exfalso; omega
      · have h16 : x1.toInt < (12 : Int) := xlt h16
        intro b24
        obtain ⟨b24, c24⟩ := pl_in b24
        obtain ⟨w0, hg1⟩ : ∃ w0, fr[i]? = some w0 := ⟨fr[i]'(by omega), List.getElem?_eq_getElem _⟩
        obtain ⟨hg2, hg3⟩ := f3 i w0 hg1
        refine ⟨fun h33 => ?_, fun h33 => ?_⟩
        · have h33 := lg_nz h33
          refine fs_79_2 HS HC h2 k n (xj1 hx (by omega)) (by omega) (fun j hjl => ?_)
          by_cases ej : j = i
          · rw [ej, hg1]
            intro z
            cases z
            exact h33 (by rw [xtn hx, hg3, h8])
          · exact hj j (by omega)
        · have h33 := lg_z h33
          rw [xtn hx, hg3] at h33
          have e : tx_fn fr (tx_tok T N p).2.2.2.1 = some (60 + i, fr) := by
            unfold tx_fn
            rw [tx_at_is (by rw [hg1, tx_x_inj hg2 hw (h33.trans h8)]) hj]
          refine k _ _ ?_
          rw [e]
          refine ⟨?_, HC, cv_fr_refl⟩
          have h60 : (60 : Int32).toInt = 60 := by decide
          rw [xIa (by omega) (by omega)]
          omega
theorem fs_79 {n : Nat} {th r : Nat} {s : ps_S} {T : Nat → Nat} {N : Nat} {E : tx_E} {S : List tx_F} {p : Nat} {l : List Nat} {fr : List (List Nat)} {R : Int32 → ps_S → Prop} (HS : cv_S th r s T N E) (HC : cv_C r s T N S p l fr) (h2 : (tx_tok T N p).1 = 2) (k : ∀ v s', cv_N r s T N E S p l (tx_fn fr (tx_tok T N p).2.2.2.1) v s' → R v s') : pl_Cl n 79 [.ref 902] s (ps_rI R) := by
  cases n with
  | zero => exact pl_At_0
  | succ n =>
  show pl_At (n + 1) 79 0 [(0, .ref 902)] [] s (ps_rI R)
  refine pl_79_0 ?_
  exact fs_79_2 HS HC h2 k n (i := 0) rfl (Nat.zero_le _) (fun j hj => by omega)

theorem fs_78_2 {th r : Nat} {s : ps_S} {T : Nat → Nat} {N : Nat} {E : tx_E} {S : List tx_F} {p : Nat} {l : List Nat} {fr : List (List Nat)} {R : Int32 → ps_S → Prop} (HS : cv_S th r s T N E) (HC : cv_C r s T N S p l fr) (h2 : (tx_tok T N p).1 = 2) (k : ∀ v s', cv_N r s T N E S p l (tx_nm E S fr (tx_tok T N p).2.2.2.1) v s' → R v s') : ∀ (n : Nat) {x1 : Int32} {i : Nat}, x1.toInt = i → i ≤ (tx_bs S).length → (∀ j, j < i → (tx_bs S)[j]? ≠ some (tx_tok T N p).2.2.2.1) → pl_At n 78 2 [(0, .ref 902), (1, .int x1)] [] s (ps_rI R)
  | 0, _, _, _, _, _ => pl_At_0
  | n + 1, x1, i, hx, hi, hj => by
    have HK := HC.2.2.1
    have hw := (tx_tok_ok (T := T) HC.1).2.2.2.1 h2
    have h8 := HK.2.2.2.1 h2
    obtain ⟨f1, f2, f3⟩ := HC.2.2.2.2.2.1
    have hcl := HS.2.2.2.2.1
    have no : i = (tx_bs S).length → tx_at (tx_bs S) (tx_tok T N p).2.2.2.1 = none := fun z => tx_at_no (fun j hjl => hj j (by omega))
    have h1 : (1 : Int32).toInt = 1 := by decide
    have e1 : (ps_i s 902 4 - 1).toInt = ((tx_bs S).length : Int) - 1 := by rw [xIs (by omega) (by omega)]; omega
    have e2 : ((ps_i s 902 4 - 1) - x1).toInt = ((tx_bs S).length : Int) - 1 - i := by rw [xIs (by omega) (by omega)]; omega
    refine pl_78_2 ?_
    refine ⟨fun h7 => ?_, fun h7 => ?_⟩
    · have h7 : (ps_i s 902 4).toInt ≤ x1.toInt := xle h7
      refine ⟨fun h64 => ?_, fun h64 => ?_⟩
      · have h64 : (ps_i s 902 8).toInt = (0 : Int) := xeq h64
        refine fs_79 HS HC h2 (fun v72 s72 q72 => ?_)
        have e : tx_nm E S fr (tx_tok T N p).2.2.2.1 = tx_fn fr (tx_tok T N p).2.2.2.1 := by
          unfold tx_nm
          rw [no (by omega)]
          dsimp only
          rw [if_neg (fun z => by rw [if_pos z] at hcl; omega)]
          rfl
        refine k _ _ ?_
        rw [e]
        exact q72
      · have h64 : (ps_i s 902 8).toInt ≠ (0 : Int) := xne h64
        have e : tx_nm E S fr (tx_tok T N p).2.2.2.1 = none := by
          unfold tx_nm
          rw [no (by omega)]
          dsimp only
          rw [if_pos (Decidable.byContradiction (fun z => by rw [if_neg z] at hcl; omega))]
        refine k _ _ ?_
        rw [e]
        exact ⟨rfl, rfl⟩
    · have h7 : x1.toInt < (ps_i s 902 4).toInt := xlt h7
      refine ⟨fun h20 => ?_, fun h20 => ?_⟩
      · have h20 : (((ps_i s 902 4) - 1) - x1).toInt < (0 : Int) := xlt h20
        exfalso; omega
      · have h20 : (0 : Int) ≤ (((ps_i s 902 4) - 1) - x1).toInt := xle h20
        refine ⟨fun h29 => ?_, fun h29 => ?_⟩
        · have h29 : (5 : Int) ≤ (((ps_i s 902 4) - 1) - x1).toInt := xle h29
          exfalso; omega
        · have h29 : (((ps_i s 902 4) - 1) - x1).toInt < (5 : Int) := xlt h29
          intro b37
          obtain ⟨b37, c37⟩ := pl_in b37
          obtain ⟨w0, hg1⟩ : ∃ w0, (tx_bs S)[i]? = some w0 := ⟨(tx_bs S)[i]'(by omega), List.getElem?_eq_getElem _⟩
          obtain ⟨hg2, hg3⟩ := f3 i w0 hg1
          have hix : Int32.toNatClampNeg ((ps_i s 902 4 - 1) - x1) = (tx_bs S).length - 1 - i := xtn (by rw [e2]; omega)
          refine ⟨fun h46 => ?_, fun h46 => ?_⟩
          · have h46 := lg_nz h46
            refine fs_78_2 HS HC h2 k n (xj1 hx (by omega)) (by omega) (fun j hjl => ?_)
            by_cases ej : j = i
            · rw [ej, hg1]
              intro z
              cases z
              exact h46 (by rw [hix, hg3, h8])
            · exact hj j (by omega)
          · have h46 := lg_z h46
            rw [hix, hg3] at h46
            have e : tx_nm E S fr (tx_tok T N p).2.2.2.1 = some (40 + i, fr) := by
              unfold tx_nm
              rw [tx_at_is (by rw [hg1, tx_x_inj hg2 hw (h46.trans h8)]) hj]
            refine k _ _ ?_
            rw [e]
            refine ⟨?_, HC, cv_fr_refl⟩
            have h40 : (40 : Int32).toInt = 40 := by decide
            rw [xIa (by omega) (by omega)]
            omega
theorem fs_78 {n : Nat} {th r : Nat} {s : ps_S} {T : Nat → Nat} {N : Nat} {E : tx_E} {S : List tx_F} {p : Nat} {l : List Nat} {fr : List (List Nat)} {R : Int32 → ps_S → Prop} (HS : cv_S th r s T N E) (HC : cv_C r s T N S p l fr) (h2 : (tx_tok T N p).1 = 2) (k : ∀ v s', cv_N r s T N E S p l (tx_nm E S fr (tx_tok T N p).2.2.2.1) v s' → R v s') : pl_Cl n 78 [.ref 902] s (ps_rI R) := by
  cases n with
  | zero => exact pl_At_0
  | succ n =>
  show pl_At (n + 1) 78 0 [(0, .ref 902)] [] s (ps_rI R)
  refine pl_78_0 ?_
  exact fs_78_2 HS HC h2 k n (i := 0) rfl (Nat.zero_le _) (fun j hj => by omega)

