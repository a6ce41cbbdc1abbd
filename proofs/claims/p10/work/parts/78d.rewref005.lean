set_option maxRecDepth 100000
theorem pl_288_31 {n : Nat} {s : ps_S} {Q : Option Value → ps_S → Prop} (h :
  pl_Cl n 192 [.ref 1131] s (ps_rI (fun v1 s1 =>
    (v1 ≠ 0 →
      pl_At n 288 51 [(0, .ref 1131), (1, .int 0)] [] s1 Q) ∧
    (v1 = 0 →
      (pm_in (25789 : Int32) 27400 = true →
        Q (some (.int (-1))) (ps_ua s1 1134 (Int32.toNatClampNeg (25789 : Int32)) 0)))))) : pl_At (n + 1) 288 31 [(0, .ref 1131)] [] s Q :=
  pl_wp_at (stops := [(31, [0]), (51, [0, 1])]) (f := 14) h rfl


theorem pl_288_51 {n : Nat} {x1 : Int32} {s : ps_S} {Q : Option Value → ps_S → Prop} (h :
  pl_Cl n 287 [.ref 1131] s (ps_rI (fun v1 s1 =>
    (v1 = 0 →
      Q (some (.int x1)) s1) ∧
    (v1 ≠ 0 →
      (x1 = 60 →
        (pm_in (25789 : Int32) 27400 = true →
          Q (some (.int (-2))) (ps_ua s1 1134 (Int32.toNatClampNeg (25789 : Int32)) 0))) ∧
      (x1 ≠ 60 →
        pl_Cl n 228 [.ref 1131] s1 (ps_rI (fun v2 s2 =>
          (v2 ≠ 0 →
            pl_Cl n 229 [.ref 1131, .int 25789] s2 (ps_rV (fun s3 =>
              pl_At n 288 51 [(0, .ref 1131), (1, .int (x1 + 1))] [] s3 Q))) ∧
          (v2 = 0 →
            (pm_in (25789 : Int32) 27400 = true →
              Q (some (.int (-2))) (ps_ua s2 1134 (Int32.toNatClampNeg (25789 : Int32)) 0)))))))))) : pl_At (n + 1) 288 51 [(0, .ref 1131), (1, .int x1)] [] s Q :=
  pl_wp_at (stops := [(31, [0]), (51, [0, 1])]) (f := 32) h rfl


-- ProofBenchModel.normal(I)I
theorem pl_289_0 {n : Nat} {x1 : Int32} {s : ps_S} {Q : Option Value → ps_S → Prop} (h :
  pl_Cl n 264 [.ref 1131, .int 25789, .int x1] s (ps_rI (fun v1 s1 =>
    Q (some (.int v1)) s1))) : pl_At (n + 1) 289 0 [(0, .ref 1131), (1, .int x1)] [] s Q :=
  pl_wp_at (stops := []) (f := 7) h rfl


/-- the row that is being made -/
def mk_M (s : ps_S) (L : List Nat) : Prop := (ps_i s 1131 34).toInt = L.length ∧ ∀ (k c : Nat), k < 260 → L[k]? = some c → (ps_a s 1149 k).toInt = c

theorem mk_M_kq {A F : List Nat} {s s' : ps_S} {L : List Nat} (h : mk_M s L) (K : kq A F s s') (hA : A.contains 1149 = false) (hF : F.contains 34 = false) : mk_M s' L := ⟨by rw [kq_i K 34 hF]; exact h.1, fun k c a b => by rw [kq_a K 1149 hA]; exact h.2 k c a b⟩
