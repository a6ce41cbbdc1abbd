set_option maxRecDepth 100000
theorem pl_194_199 {n : Nat} {s : ps_S} {Q : Option Value → ps_S → Prop} (h :
  (((ps_i s 1131 8) - (ps_i s 1131 7)) ≤ 8 →
    pl_Cl n 193 [.long (ps_j s 1131 11)] s (ps_rI (fun v1 s1 =>
      (v1 = 0 →
        Q none (ps_ui s1 1131 9 2)) ∧
      (v1 ≠ 0 →
        Q none (ps_ui s1 1131 9 3))))) ∧
  (8 < ((ps_i s 1131 8) - (ps_i s 1131 7)) →
    Q none (ps_ui s 1131 9 1))) : pl_At (n + 1) 194 199 [(0, .ref 1131)] [] s Q :=
  pl_wp_at (stops := [(8, [0]), (58, [0]), (119, [0]), (156, [0, 2]), (199, [0]), (259, [0])]) (f := 28) h rfl

theorem pl_194_259 {n : Nat} {s : ps_S} {Q : Option Value → ps_S → Prop} (h :
  pl_Cl n 188 [.ref 1131, .int (ps_i s 1131 8)] s (ps_rI (fun v1 s1 =>
    pl_Cl n 190 [.int v1] s1 (ps_rI (fun v2 s2 =>
      (v2 = 0 →
        (4 < ((ps_i s2 1131 8) - (ps_i s2 1131 7)) →
          Q none (ps_ui s2 1131 9 1)) ∧
        (((ps_i s2 1131 8) - (ps_i s2 1131 7)) ≤ 4 →
          pl_Cl n 188 [.ref 1131, .int (ps_i s2 1131 8)] s2 (ps_rI (fun v3 s3 =>
            pl_Cl n 189 [.int v3] s3 (ps_rI (fun v4 s4 =>
              (v4 = 0 →
                Q none (ps_ui s4 1131 9 4)) ∧
              (v4 ≠ 0 →
                Q none (ps_ui s4 1131 9 1)))))))) ∧
      (v2 ≠ 0 →
        (4 ≤ ((ps_i s2 1131 8) - (ps_i s2 1131 7)) →
          pl_At n 194 259 [(0, .ref 1131)] [] (ps_ui s2 1131 8 ((ps_i s2 1131 8) + 1)) Q) ∧
        (((ps_i s2 1131 8) - (ps_i s2 1131 7)) < 4 →
          pl_Cl n 188 [.ref 1131, .int (ps_i s2 1131 8)] s2 (ps_rI (fun v5 s5 =>
            pl_At n 194 259 [(0, .ref 1131)] [] (ps_ui (ps_ui s5 1131 10 ((((10 : Int32) * (ps_i s2 1131 10)) + v5) - 48)) 1131 8 ((ps_i (ps_ui s5 1131 10 ((((10 : Int32) * (ps_i s2 1131 10)) + v5) - 48)) 1131 8) + 1)) Q))))))))) : pl_At (n + 1) 194 259 [(0, .ref 1131)] [] s Q :=
  pl_wp_at (stops := [(8, [0]), (58, [0]), (119, [0]), (156, [0, 2]), (199, [0]), (259, [0])]) (f := 70) h rfl

theorem fs_188 {n : Nat} {x1 : Int32} {s : ps_S} {R : Int32 → ps_S → Prop} {T : Nat → Nat} {N a : Nat} (H : mv_T s T N) (hx : x1.toInt = a) (k : ∀ v : Int32, v.toInt = (if a < N then (T a : Int) else 0) → R v s) : pl_Cl n 188 [.ref 1131, .int x1] s (ps_rI R) := by
  cases n with
  | zero => exact pl_At_0
  | succ n =>
  obtain ⟨H2, H3, H4⟩ := H
  show pl_At (n + 1) 188 0 [(0, .ref 1131), (1, .int x1)] [] s (ps_rI R)
  refine pl_188_0 ?_
  refine ⟨fun h5 => ?_, fun h5 => ?_⟩
  · have h5 : (ps_i s 1131 4).toInt ≤ x1.toInt := xle h5
    refine k _ ?_
    rw [if_neg (by omega)]
    rfl
  · have h5 : x1.toInt < (ps_i s 1131 4).toInt := xlt h5
    intro b13
    obtain ⟨b13, c13⟩ := pl_in b13
    rw [xtn hx]
    refine k _ ?_
    rw [if_pos (by omega), H4 a (by omega)]

theorem fs_189 {n : Nat} {x1 : Int32} {s : ps_S} {R : Int32 → ps_S → Prop} (k1 : (97 ≤ x1.toInt ∧ x1.toInt ≤ 122) → R 1 s) (k0 : ¬((97 ≤ x1.toInt ∧ x1.toInt ≤ 122)) → R 0 s) : pl_Cl n 189 [.int x1] s (ps_rI R) := by
  cases n with
  | zero => exact pl_At_0
  | succ n =>
  show pl_At (n + 1) 189 0 [(0, .int x1)] [] s (ps_rI R)
  refine pl_189_0 ?_
  refine ⟨fun h3 => ?_, fun h3 => ?_⟩
  · have h3 : x1.toInt < (97 : Int) := xlt h3
    exact k0 (by omega)
  · have h3 : (97 : Int) ≤ x1.toInt := xle h3
    refine ⟨fun h9 => ?_, fun h9 => ?_⟩
    · have h9 : (122 : Int) < x1.toInt := xlt h9
      exact k0 (by omega)
    · have h9 : x1.toInt ≤ (122 : Int) := xle h9
      exact k1 (by omega)

theorem fs_190 {n : Nat} {x1 : Int32} {s : ps_S} {R : Int32 → ps_S → Prop} (k1 : (48 ≤ x1.toInt ∧ x1.toInt ≤ 57) → R 1 s) (k0 : ¬((48 ≤ x1.toInt ∧ x1.toInt ≤ 57)) → R 0 s) : pl_Cl n 190 [.int x1] s (ps_rI R) := by
  cases n with
  | zero => exact pl_At_0
  | succ n =>
  show pl_At (n + 1) 190 0 [(0, .int x1)] [] s (ps_rI R)
  refine pl_190_0 ?_
  refine ⟨fun h3 => ?_, fun h3 => ?_⟩
  · have h3 : x1.toInt < (48 : Int) := xlt h3
    exact k0 (by omega)
  · have h3 : (48 : Int) ≤ x1.toInt := xle h3
    refine ⟨fun h9 => ?_, fun h9 => ?_⟩
    · have h9 : (57 : Int) < x1.toInt := xlt h9
      exact k0 (by omega)
    · have h9 : x1.toInt ≤ (57 : Int) := xle h9
      exact k1 (by omega)

