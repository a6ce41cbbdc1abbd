set_option maxRecDepth 100000
-- ProofBench$Tokens.isLetter(I)Z
theorem pg_146_0 {d : Nat} {x0 : Int32} {s : ps_S} {Q : Option Value → ps_S → Prop} (h :
  (x0 < 97 →
    Q (some (.int 0)) s) ∧
  (97 ≤ x0 →
    (122 < x0 →
      Q (some (.int 0)) s) ∧
    (x0 ≤ 122 →
      Q (some (.int 1)) s))) : ps_At d 146 0 [(0, .int x0)] [] s Q :=
  ps_wp_at (stops := []) (n := 15) h rfl


theorem xs_146 {m s : ps_S} {t : Int32} {d : Nat} {x0 : Int32} {f : Int32 → ps_S → Prop} (J : xJ m t s) (k : ∀ (v : Int32), v &&& 1 = v → f v s) : ps_Cl d 146 [.int x0] s (ps_rI f) :=
  pg_146_0 (And.intro (fun f1 => (k 0 (by decide))) (fun f1 => (And.intro (fun f2 => (k 0 (by decide))) (fun f2 => (k 1 (by decide))))))


-- ProofBench$Tokens.withLetter(JI)J
theorem pg_144_0 {d : Nat} {l0 : Int64} {x2 : Int32} {s : ps_S} {Q : Option Value → ps_S → Prop} (h :
  Q (some (.long ((((l0 * (32 : Int64)) + (Int32.toInt64 x2)) - (97 : Int64)) + 1))) s) : ps_At d 144 0 [(0, .long l0), (2, .int x2)] [] s Q :=
  ps_wp_at (stops := []) (n := 13) h rfl


theorem xs_144 {m s : ps_S} {t : Int32} {d : Nat} {l0 : Int64} {x2 : Int32} {f : Int64 → ps_S → Prop} (J : xJ m t s) (k : ∀ (v : Int64), f v s) : ps_Cl d 144 [.long l0, .int x2] s (ps_rJ f) :=
  pg_144_0 (k ((((l0 * (32 : Int64)) + (Int32.toInt64 x2)) - (97 : Int64)) + 1))


-- ProofBench$Tokens.takeWord()V
theorem pg_141_0 {d : Nat} {r0 : Nat} {s : ps_S} {Q : Option Value → ps_S → Prop} (h :
  ps_nk (ps_is r0 10) (ps_nk (ps_is r0 10) (ps_At (d + 1) 141 10 [(0, .ref r0), (1, .int (ps_i s r0 5))] [] (ps_uj s r0 8 0) Q))) : ps_At (d + 1) 141 0 [(0, .ref r0)] [] s Q :=
  ps_wp_at (stops := [(10, [0, 1]), (51, [0, 1]), (78, [0, 2])]) (n := 8) h rfl

