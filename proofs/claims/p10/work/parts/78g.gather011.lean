set_option maxRecDepth 100000
theorem pl_54_68 {n : Nat} {r0 : Nat} {r1 : Nat} {r3 : Nat} {s : ps_S} {Q : Option Value → ps_S → Prop} (h :
  ((1 : Int32) ≠ 0 →
    Q (some (.int 3)) s) ∧
  ((1 : Int32) = 0 →
    pl_nk (ps_is r1 8) (pl_Cl n 38 [.ref r0, .int 1] s (ps_rA (fun v1 s1 =>
      pl_Cl n 51 [.ref r0, .ref r3, .int (ps_i s r1 3), .ref v1] s1 (ps_rI (fun v2 s2 =>
        (v2 = 0 →
          pl_nk (ps_is r1 8) (pl_nk (ps_is r3 8) (pl_Cl n 95 [.ref (ps_c0 r1 6), .ref (ps_c0 r3 6)] s2 (ps_rV (fun s3 =>
            Q (some (.int 0)) s3))))) ∧
        (v2 ≠ 0 →
          Q (some (.int 3)) s2)))))))) : pl_At (n + 1) 54 68 [(0, .ref r0), (1, .ref r1), (3, .ref r3)] [] s Q :=
  pl_wp_at (stops := [(68, [0, 1, 3])]) (f := 27) h rfl


-- ProofBench$Proof.exchange(LProofBench$Step;LProofBench$Row;LProofBench$Row;)I
theorem pl_55_0 {n : Nat} {r0 : Nat} {r1 : Nat} {r2 : Nat} {r3 : Nat} {s : ps_S} {Q : Option Value → ps_S → Prop} (h :
  pl_Cl n 92 [.ref r2, .int 0] s (ps_rI (fun v1 s1 =>
    (v1 = 6 →
      pl_nk (ps_is r1 8) (pl_Cl n 56 [.ref r0, .ref (ps_c0 r1 5), .ref r2, .ref r3] s1 (ps_rI (fun v2 s2 =>
        (v2 ≠ 0 →
          pl_nk (ps_is r1 8) (pl_nk (ps_is r1 8) (pl_Cl n 95 [.ref (ps_c0 r1 6), .ref (ps_c0 r1 5)] s2 (ps_rV (fun s3 =>
            Q (some (.int 0)) s3))))) ∧
        (v2 = 0 →
          Q (some (.int 4)) s2))))) ∧
    (v1 ≠ 6 →
      Q (some (.int 2)) s1)))) : pl_At (n + 1) 55 0 [(0, .ref r0), (1, .ref r1), (2, .ref r2), (3, .ref r3)] [] s Q :=
  pl_wp_at (stops := []) (f := 25) h rfl


/-- the i-th step as it was read, at the cell t -/
def cpT (s : ps_S) (t : Nat) (st : tp_P) : Prop := (ps_i s t 0).toInt = st.1.1 ∧ (1 ≤ tp_nn st.1.1 → (ps_a s (t + 1) 0).toInt = st.1.2.1) ∧ (2 ≤ tp_nn st.1.1 → (ps_a s (t + 1) 1).toInt = st.1.2.2.1) ∧ (3 ≤ tp_nn st.1.1 → (ps_a s (t + 1) 2).toInt = st.1.2.2.2) ∧ (st.1.1 = 10 → (ps_i s t 2).toInt = st.2.1.1) ∧ (tp_hx st.1.1 → (ps_i s t 3).toInt = (60 + st.2.1.2 : Nat)) ∧ (tp_ht st.1.1 → cv_W s (t + 2) st.2.2.1) ∧ (tp_hf st.1.1 → cv_W s (t + 4) st.2.2.2)

/-- its rule and its numbers -/
def cpN (s : ps_S) (t : Nat) (st : tp_P) : Prop := (ps_i s t 0).toInt = st.1.1 ∧ (1 ≤ tp_nn st.1.1 → (ps_a s (t + 1) 0).toInt = st.1.2.1) ∧ (2 ≤ tp_nn st.1.1 → (ps_a s (t + 1) 1).toInt = st.1.2.2.1) ∧ (3 ≤ tp_nn st.1.1 → (ps_a s (t + 1) 2).toInt = st.1.2.2.2)

theorem cpN_of {s : ps_S} {t : Nat} {st : tp_P} (h : cpT s t st) : cpN s t st := ⟨h.1, h.2.1, h.2.2.1, h.2.2.2.1⟩
