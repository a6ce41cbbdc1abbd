set_option maxRecDepth 100000
theorem pg_14_51 {d : Nat} {r0 : Nat} {x2 : Int32} {x3 : Int32} {x4 : Int32} {x5 : Int32} {s : ps_S} {Q : Option Value → ps_S → Prop} (h :
  ps_nk (ps_is r0 0) (((ps_i s r0 10) ≤ x5 →
    ps_At (d + 1) 14 105 [(0, .ref r0), (2, .int x2), (3, .int x3)] [] s Q) ∧
  (x5 < (ps_i s r0 10) →
    ps_nk (ps_is r0 0) (((ps_i s r0 11) ≤ 0 →
      ps_At (d + 1) 14 105 [(0, .ref r0), (2, .int x2), (3, .int x3)] [] s Q) ∧
    (0 < (ps_i s r0 11) →
      ps_nk (ps_is r0 0) (ps_nk (ps_is r0 0) (ps_Cl d 182 [.ref (ps_c0 r0 9), .int x5] s (ps_rI (fun v1 s1 =>
        ps_nk (ps_is r0 0) (ps_nd (!decide ((ps_i s1 r0 11) = 0)) (ps_Cl d 183 [.ref (ps_c0 r0 8), .int v1, .int (x4 - (x4 / (ps_i s1 r0 11)) * (ps_i s1 r0 11))] s1 (ps_rV (fun s2 =>
          ps_nk (ps_is r0 0) (ps_nd (!decide ((ps_i s2 r0 11) = 0)) (ps_At (d + 1) 14 51 [(0, .ref r0), (2, .int x2), (3, .int x3), (4, .int (x4 / (ps_i s2 r0 11))), (5, .int (x5 + 1))] [] s2 Q))))))))))))))) : ps_At (d + 1) 14 51 [(0, .ref r0), (2, .int x2), (3, .int x3), (4, .int x4), (5, .int x5)] [] s Q :=
  ps_wp_at (stops := [(17, [0, 2, 3]), (40, [0, 2, 3]), (51, [0, 2, 3, 4, 5]), (105, [0, 2, 3])]) (n := 27) h rfl


theorem pg_14_105 {d : Nat} {r0 : Nat} {x2 : Int32} {x3 : Int32} {s : ps_S} {Q : Option Value → ps_S → Prop} (h :
  ps_nk (ps_is r0 0) (ps_Cl d 15 [.ref r0, .int 0, .int 0, .int 0] s (ps_rI (fun v1 s1 =>
    (v1 ≠ 0 →
      ps_At (d + 1) 14 40 [(0, .ref r0), (2, .int x2), (3, .int (x3 + 1))] [] s1 Q) ∧
    (v1 = 0 →
      Q (some (.int 0)) s1))))) : ps_At (d + 1) 14 105 [(0, .ref r0), (2, .int x2), (3, .int x3)] [] s Q :=
  ps_wp_at (stops := [(17, [0, 2, 3]), (40, [0, 2, 3]), (51, [0, 2, 3, 4, 5]), (105, [0, 2, 3])]) (n := 12) h rfl


theorem xs_14_105 {m s : ps_S} {t : Int32} {d : Nat} {r0 : Nat} {x2 : Int32} {x3 : Int32} {Q : Option Value → ps_S → Prop} (h0 : ps_is r0 0 = true) (J : xJ m t s) (k : ∀ (v : Int32) (s' : ps_S), v &&& 1 = v → xJ m t s' → Q (some (.int v)) s') (K40 : ∀ (s : ps_S), ps_is r0 0 = true → xJ m t s → ps_At (d + 37) 14 40 [(0, .ref r0), (2, .int x2), (3, .int (x3 + 1))] [] s Q) : ps_At (d + 37) 14 105 [(0, .ref r0), (2, .int x2), (3, .int x3)] [] s Q :=
  pg_14_105 (d := d + 36) (ps_nk_i h0 (xs_15 h0 J (fun v1 s1 b1 J1 => (And.intro (fun f1 => (K40 s1 h0 J1)) (fun f1 => (k 0 s1 (by decide) J1))))))


theorem xs_14_51 {m s : ps_S} {t : Int32} {d : Nat} {r0 : Nat} {x2 : Int32} {x3 : Int32} {x4 : Int32} {x5 : Int32} {Q : Option Value → ps_S → Prop} (h0 : ps_is r0 0 = true) (J : xJ m t s) (k : ∀ (v : Int32) (s' : ps_S), v &&& 1 = v → xJ m t s' → Q (some (.int v)) s') (K40 : ∀ (s : ps_S), ps_is r0 0 = true → xJ m t s → ps_At (d + 37) 14 40 [(0, .ref r0), (2, .int x2), (3, .int (x3 + 1))] [] s Q) : ps_At (d + 37) 14 51 [(0, .ref r0), (2, .int x2), (3, .int x3), (4, .int x4), (5, .int x5)] [] s Q :=
  xs_up (P := fun x5 => ∀ (x4 : Int32) (s : ps_S), ps_is r0 0 = true → xJ m t s → ps_At (d + 37) 14 51 [(0, .ref r0), (2, .int x2), (3, .int x3), (4, .int x4), (5, .int x5)] [] s Q) (fun x5 ih x4 s h0 J => pg_14_51 (d := d + 36) (ps_nk_i h0 (And.intro (fun f1 => (xs_14_105 (d := d) (r0 := r0) (x2 := x2) (x3 := x3)  h0 J k K40)) (fun f1 => (ps_nk_i h0 (And.intro (fun f2 => (xs_14_105 (d := d) (r0 := r0) (x2 := x2) (x3 := x3)  h0 J k K40)) (fun f2 => (ps_nk_i h0 (ps_nk_i h0 (xs_182 (xk_0_9 h0) J (fun v1 => (ps_nk_i h0 (ps_nd_i (xg_nz f2) (xs_183 (xk_0_8 h0) J (fun s2 J2 e2 => (ps_nk_i h0 (ps_nd_i (xg_nz (by rw [e2]; exact f2)) (ih ((x5 + 1)) (xs_lt f1) ((x4 / (ps_i s2 r0 11))) s2 h0 J2)))))))))))))))))) x5 x4 s h0 J


theorem xs_14_40 {m s : ps_S} {t : Int32} {d : Nat} {r0 : Nat} {x2 : Int32} {x3 : Int32} {Q : Option Value → ps_S → Prop} (h0 : ps_is r0 0 = true) (J : xJ m t s) (k : ∀ (v : Int32) (s' : ps_S), v &&& 1 = v → xJ m t s' → Q (some (.int v)) s') : ps_At (d + 37) 14 40 [(0, .ref r0), (2, .int x2), (3, .int x3)] [] s Q :=
  xs_up (P := fun x3 => ∀ (s : ps_S), ps_is r0 0 = true → xJ m t s → ps_At (d + 37) 14 40 [(0, .ref r0), (2, .int x2), (3, .int x3)] [] s Q) (fun x3 ih s h0 J => pg_14_40 (d := d + 36) (And.intro (fun f1 => (k 1 s (by decide) J)) (fun f1 => (xs_14_51 (d := d) (r0 := r0) (x2 := x2) (x3 := x3) (x4 := x3) (x5 := 0)  h0 J k (fun s9 h0z J9 => ih (x3 + 1) (xs_lt f1) s9 h0z J9))))) x3 s h0 J

