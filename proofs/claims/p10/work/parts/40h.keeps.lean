set_option maxRecDepth 100000
theorem ys_156 {m s : ps_S} {t : Int32} {d : Nat} {x1 : Int32} {x2 : Int32} {f : Int32 → ps_S → Prop} (J : yJ m t s) (k : ∀ (v : Int32), f v s) : ps_Cl (d + 1) 156 [.ref 0, .int x1, .int x2] s (ps_rI f) :=
  pg_156_0 (d := d) (ps_nk_i (xj_11_4 (J).1 (rfl : ps_is 0 11 = true)) (ys_32 (xj_11_4 (J).1 (rfl : ps_is 0 11 = true)) J (fun v1 b1 => (And.intro (fun f1 => (k (-1))) (fun f1 => (ps_nk_i (xj_11_4 (J).1 (rfl : ps_is 0 11 = true)) (ys_33 (xj_11_4 (J).1 (rfl : ps_is 0 11 = true)) J (fun v2 g2 => (ps_nk_i g2 (ps_nk_i (xk_8_6 g2) (ys_92 (xk_8_6 g2) J (fun v3 => (k v3)))))))))))))

theorem ys_157 {m s : ps_S} {t : Int32} {d : Nat} {x1 : Int32} {x2 : Int32} {x3 : Int32} {f : Int32 → ps_S → Prop} (J : yJ m t s) (k : ∀ (v : Int32), f v s) : ps_Cl (d + 2) 157 [.ref 0, .int x1, .int x2, .int x3] s (ps_rI f) :=
  pg_157_0 (d := d + 1) (ps_nk_i (xj_11_4 (J).1 (rfl : ps_is 0 11 = true)) (ys_32 (xj_11_4 (J).1 (rfl : ps_is 0 11 = true)) J (fun v1 b1 => (And.intro (fun f1 => (ps_nk_i (xj_11_4 (J).1 (rfl : ps_is 0 11 = true)) (ys_33 (xj_11_4 (J).1 (rfl : ps_is 0 11 = true)) J (fun v2 g2 => (ps_nk_i g2 (ys_122 g2 J (fun v3 => (And.intro (fun f2 => (ps_nk_i (xj_11_4 (J).1 (rfl : ps_is 0 11 = true)) (ys_33 (xj_11_4 (J).1 (rfl : ps_is 0 11 = true)) J (fun v4 g4 => (ps_nk_i g4 (ps_nk_i (xk_8_6 g4) (ys_92 (xk_8_6 g4) J (fun v5 => (k v5))))))))) (fun f2 => (k (-1))))))))))) (fun f1 => (k (-1)))))))

theorem ys_158 {m s : ps_S} {t : Int32} {d : Nat} {f : Int32 → ps_S → Prop} (J : yJ m t s) (k : ∀ (v : Int32) (s' : ps_S), yJ m t s' → f v s') : ps_Cl (d + 4) 158 [.ref 0] s (ps_rI f) :=
  pg_158_0 (d := d + 3) (ps_nk_i (xj_11_4 (J).1 (rfl : ps_is 0 11 = true)) (And.intro (fun f1 => (k (-1) s J)) (fun f1 => (ps_nk_i (xj_11_4 (J).1 (rfl : ps_is 0 11 = true)) (And.intro (fun f2 => (ps_nk_i (xj_11_4 (J).1 (rfl : ps_is 0 11 = true)) (ps_nk_i (xj_11_4 (J).1 (rfl : ps_is 0 11 = true)) (ys_33 (xj_11_4 (J).1 (rfl : ps_is 0 11 = true)) J (fun v1 g1 => (ps_nk_i g1 (And.intro (fun f3 => (k (-1) s J)) (fun f3 => (ps_nk_i g1 (ps_nk_i (xk_8_6 g1) (ys_101 (xk_8_6 g1) J (fun v2 b2 => (And.intro (fun f4 => (ys_111 (rfl : ps_is 870 7 = true) g1 J (fun v3 s3 J3 => (k v3 s3 J3)))) (fun f4 => (k (-1) s J))))))))))))))) (fun f2 => (k (-1) s J)))))))

theorem ys_159 {m s : ps_S} {t : Int32} {d : Nat} {x1 : Int32} {x2 : Int32} {f : Int32 → ps_S → Prop} (J : yJ m t s) (k : ∀ (v : Int32), f v s) : ps_Cl (d + 1) 159 [.ref 0, .int x1, .int x2] s (ps_rI f) :=
  pg_159_0 (d := d) (ys_109 (rfl : ps_is 870 7 = true) J (fun v1 b1 => (And.intro (fun f1 => (k (-1))) (fun f1 => (ys_110 (rfl : ps_is 870 7 = true) J (fun v2 g2 => (ps_nk_i g2 (ys_92 g2 J (fun v3 => (k v3))))))))))

theorem ys_160 {m s : ps_S} {t : Int32} {d : Nat} {x1 : Int32} {x2 : Int32} {f : Int32 → ps_S → Prop} (J : yJ m t s) (k : ∀ (v : Int32), f v s) : ps_Cl (d + 1) 160 [.ref 0, .int x1, .int x2] s (ps_rI f) :=
  pg_160_0 (d := d) (ys_109 (rfl : ps_is 870 7 = true) J (fun v1 b1 => (And.intro (fun f1 => (And.intro (fun f2 => (ys_182 (yq_a (r := 874) (t := 0) rfl rfl) J (fun v2 => (k v2)))) (fun f2 => (And.intro (fun f3 => (ys_182 (yq_a (r := 875) (t := 0) rfl rfl) J (fun v3 => (k v3)))) (fun f3 => (And.intro (fun f4 => (ys_182 (yq_a (r := 876) (t := 0) rfl rfl) J (fun v4 => (k v4)))) (fun f4 => (k (-1))))))))) (fun f1 => (k (-1))))))

theorem ys_161 {m s : ps_S} {t : Int32} {d : Nat} {f : Int32 → ps_S → Prop} (J : yJ m t s) (k : ∀ (v : Int32) (s' : ps_S), yJ m t s' → f v s') : ps_Cl (d + 1) 161 [.ref 0] s (ps_rI f) :=
  pg_161_0 (d := d) (And.intro (fun f1 => (ps_nk_i (xj_11_4 ((yw_i (c := 7) (by decide) (rfl : ps_is 870 7 = true) J)).1 (rfl : ps_is 0 11 = true)) (ys_31 (xj_11_4 ((yw_i (c := 7) (by decide) (rfl : ps_is 870 7 = true) J)).1 (rfl : ps_is 0 11 = true)) (yw_i (c := 7) (by decide) (rfl : ps_is 870 7 = true) J) (fun s1 J1 => (k (ps_i s1 870 5) s1 J1))))) (fun f1 => (k (-1) s J)))

theorem ys_162 {m s : ps_S} {t : Int32} {d : Nat} {f : Int32 → ps_S → Prop} (J : yJ m t s) (k : ∀ (v : Int32) (s' : ps_S), yJ m 0 s' → f v s') : ps_Cl (d + 39) 162 [.ref 0] s (ps_rI f) :=
  pg_162_0 (d := d + 38) (ys_60 (rfl : ps_is 902 3 = true) (xq_a (r := 1) (t := 1) rfl rfl) (xj_11_2 (J).1 (rfl : ps_is 0 11 = true)) (rfl : ps_is 934 5 = true) J (fun v1 s1 b1 J1 => (And.intro (fun f1 => (k (ps_i (ps_ui s1 0 1 0) 934 1) (ps_ui s1 0 1 0) (yw_tape J1))) (fun f1 => (ys_91 (rfl : ps_is 934 5 = true) (yw_tape J1) (fun s2 J2 => (k (-1) s2 J2)))))))

theorem ys_163 {m s : ps_S} {t : Int32} {d : Nat} {x1 : Int32} {f : Int32 → ps_S → Prop} (J : yJ m t s) (k : ∀ (v : Int32), f v s) : ps_Cl (d + 1) 163 [.ref 0, .int x1] s (ps_rI f) :=
  pg_163_0 (d := d) (ys_92 (rfl : ps_is 934 5 = true) J (fun v1 => (k v1)))

theorem ys_164_2 {m s : ps_S} {t : Int32} {d : Nat} {x1 : Int32} {Q : Option Value → ps_S → Prop} (J : yJ m t s) (k : ∀ (v : Int32), Q (some (.int v)) s) : ps_At (d + 2) 164 2 [(0, .ref 0), (1, .int x1)] [] s Q :=
  xs_up (P := fun x1 => ps_At (d + 2) 164 2 [(0, .ref 0), (1, .int x1)] [] s Q) (fun x1 ih  => pg_164_2 (d := d + 1) (ps_nk_i (xj_11_4 (J).1 (rfl : ps_is 0 11 = true)) (And.intro (fun f1 => (k (-1))) (fun f1 => (ps_nk_i (xj_11_4 (J).1 (rfl : ps_is 0 11 = true)) (ys_33 (xj_11_4 (J).1 (rfl : ps_is 0 11 = true)) J (fun v1 g1 => (ps_nk_i g1 (ps_nk_i (xk_8_6 g1) (ys_98 (xk_8_6 g1) (rfl : ps_is 934 5 = true) J (fun v2 b2 => (And.intro (fun f2 => (ih ((x1 + 1)) (xs_lt f1) )) (fun f2 => (k x1)))))))))))))) x1 

theorem ys_164 {m s : ps_S} {t : Int32} {d : Nat} {f : Int32 → ps_S → Prop} (J : yJ m t s) (k : ∀ (v : Int32), f v s) : ps_Cl (d + 2) 164 [.ref 0] s (ps_rI f) :=
  pg_164_0 (d := d + 1) (ys_164_2 (d := d) (x1 := 0)  J k )

theorem ys_165 {m s : ps_S} {t : Int32} {d : Nat} {x1 : Int32} {f : Int64 → ps_S → Prop} (J : yJ m t s) (k : ∀ (v : Int64), f v s) : ps_Cl (d + 1) 165 [.ref 0, .int x1] s (ps_rJ f) :=
  pg_165_0 (d := d) (ps_nk_i (xj_11_4 (J).1 (rfl : ps_is 0 11 = true)) (ys_32 (xj_11_4 (J).1 (rfl : ps_is 0 11 = true)) J (fun v1 b1 => (And.intro (fun f1 => (k (-1 : Int64))) (fun f1 => (ps_nk_i (xj_11_4 (J).1 (rfl : ps_is 0 11 = true)) (ys_33 (xj_11_4 (J).1 (rfl : ps_is 0 11 = true)) J (fun v2 g2 => (ps_nk_i g2 (k (ps_j s v2 12)))))))))))

theorem ys_166 {m s : ps_S} {t : Int32} {d : Nat} {f : Int32 → ps_S → Prop} (J : yJ m t s) (k : ∀ (v : Int32) (s' : ps_S), yJ m t s' → f v s') : ps_Cl (d + 4) 166 [.ref 0] s (ps_rI f) :=
  pg_166_0 (d := d + 3) (And.intro (fun f1 => (ys_21 (rfl : ps_is 936 1 = true) (rfl : ps_is 934 5 = true) (xj_11_2 (J).1 (rfl : ps_is 0 11 = true)) J (fun s1 J1 => (k (ps_i s1 936 4) s1 J1)))) (fun f1 => (k (-1) s J)))

theorem ys_167 {m s : ps_S} {t : Int32} {d : Nat} {f : Int32 → ps_S → Prop} (J : yJ m t s) (k : ∀ (v : Int32) (s' : ps_S), yJ m t s' → f v s') : ps_Cl (d + 4) 167 [.ref 0] s (ps_rI f) :=
  pg_167_0 (d := d + 3) (And.intro (fun f1 => (ys_21 (rfl : ps_is 936 1 = true) (rfl : ps_is 934 5 = true) (xj_11_2 (J).1 (rfl : ps_is 0 11 = true)) J (fun s1 J1 => (And.intro (fun f2 => (ys_23 (rfl : ps_is 936 1 = true) J1 (fun v2 s2 J2 => (k v2 s2 J2)))) (fun f2 => (k (-2) s1 J1)))))) (fun f1 => (k (-1) s J)))

theorem ys_168 {m s : ps_S} {t : Int32} {d : Nat} {f : Int32 → ps_S → Prop} (J : yJ m t s) (k : ∀ (v : Int32) (s' : ps_S), yJ m t s' → f v s') : ps_Cl (d + 4) 168 [.ref 0] s (ps_rI f) :=
  pg_168_0 (d := d + 3) (And.intro (fun f1 => (ys_21 (rfl : ps_is 936 1 = true) (rfl : ps_is 934 5 = true) (xj_11_2 (J).1 (rfl : ps_is 0 11 = true)) J (fun s1 J1 => (And.intro (fun f2 => (ys_24 (rfl : ps_is 936 1 = true) J1 (fun v2 s2 J2 => (k v2 s2 J2)))) (fun f2 => (k (-2) s1 J1)))))) (fun f1 => (k (-1) s J)))

theorem ys_169 {m s : ps_S} {t : Int32} {d : Nat} {f : Int32 → ps_S → Prop} (J : yJ m t s) (k : ∀ (v : Int32) (s' : ps_S), yJ m 0 s' → f v s') : ps_Cl (d + 39) 169 [.ref 0] s (ps_rI f) :=
  pg_169_0 (d := d + 38) (ys_60 (rfl : ps_is 902 3 = true) (xq_a (r := 1) (t := 1) rfl rfl) (xj_11_2 (J).1 (rfl : ps_is 0 11 = true)) (rfl : ps_is 1022 5 = true) J (fun v1 s1 b1 J1 => (And.intro (fun f1 => (ys_85 (rfl : ps_is 1021 4 = true) (xj_11_2 ((yw_tape J1)).1 (rfl : ps_is 0 11 = true)) (yw_tape J1) (fun v2 s2 J2 => (k v2 s2 J2)))) (fun f1 => (ys_81 (rfl : ps_is 1021 4 = true) (yw_tape J1) (fun s3 J3 => (k (-1) s3 J3)))))))

theorem ys_170 {m s : ps_S} {t : Int32} {d : Nat} {x1 : Int32} {f : Int32 → ps_S → Prop} (J : yJ m t s) (k : ∀ (v : Int32), f v s) : ps_Cl (d + 1) 170 [.ref 0, .int x1] s (ps_rI f) :=
  pg_170_0 (d := d) (ys_92 (rfl : ps_is 1022 5 = true) J (fun v1 => (k v1)))

theorem ys_171 {m s : ps_S} {t : Int32} {d : Nat} {f : Int32 → ps_S → Prop} (J : yJ m t s) (k : ∀ (v : Int32) (s' : ps_S), yJ m t s' → f v s') : ps_Cl (d + 4) 171 [.ref 0] s (ps_rI f) :=
  pg_171_0 (d := d + 3) (ys_82 (rfl : ps_is 1021 4 = true) (xj_11_2 (J).1 (rfl : ps_is 0 11 = true)) J (fun v1 s1 J1 => (k v1 s1 J1)))

theorem ys_181 {m s : ps_S} {t : Int32} {d : Nat} {x0 : Int32} {f : Int32 → ps_S → Prop} (J : yJ m t s) (k : ∀ (v : Int32), v &&& 1 = v → f v s) : ps_Cl d 181 [.int x0] s (ps_rI f) :=
  pg_181_0 (And.intro (fun f1 => (k 0 (by decide))) (fun f1 => (And.intro (fun f2 => (k 0 (by decide))) (fun f2 => (k 1 (by decide))))))

theorem ys_172 {m s : ps_S} {t : Int32} {d : Nat} {x1 : Int32} {f : Int32 → ps_S → Prop} (J : yJ m t s) (k : ∀ (v : Int32) (s' : ps_S), yJ m t s' → f v s') : ps_Cl (d + 4) 172 [.ref 0, .int x1] s (ps_rI f) :=
  pg_172_0 (d := d + 3) (ys_181  J (fun v1 b1 => (And.intro (fun f1 => (k (-1) s J)) (fun f1 => (ys_2 (rfl : ps_is 944 0 = true) (xj_11_2 (J).1 (rfl : ps_is 0 11 = true)) J (fun v2 s2 J2 => (k v2 s2 J2)))))))

theorem ys_173 {m s : ps_S} {t : Int32} {d : Nat} {x1 : Int32} {f : Int32 → ps_S → Prop} (J : yJ m t s) (k : ∀ (v : Int32) (s' : ps_S), yJ m t s' → f v s') : ps_Cl (d + 40) 173 [.ref 0, .int x1] s (ps_rI f) :=
  pg_173_0 (d := d + 39) (ys_181  J (fun v1 b1 => (And.intro (fun f1 => (k (-1) s J)) (fun f1 => (ys_3 (rfl : ps_is 944 0 = true) (xj_11_2 (J).1 (rfl : ps_is 0 11 = true)) J (fun v2 s2 J2 => (k v2 s2 J2)))))))

theorem ys_174 {m s : ps_S} {t : Int32} {d : Nat} {x1 : Int32} {x2 : Int32} {f : Int32 → ps_S → Prop} (J : yJ m t s) (k : ∀ (v : Int32) (s' : ps_S), yJ m t s' → f v s') : ps_Cl (d + 39) 174 [.ref 0, .int x1, .int x2] s (ps_rI f) :=
  pg_174_0 (d := d + 38) (ys_181  J (fun v1 b1 => (And.intro (fun f1 => (k (-1) s J)) (fun f1 => (And.intro (fun f2 => (k (-1) s J)) (fun f2 => (And.intro (fun f3 => (ys_4 (rfl : ps_is 944 0 = true) (xj_11_2 (J).1 (rfl : ps_is 0 11 = true)) (rfl : ps_is 934 5 = true) J (fun v2 s2 J2 => (k v2 s2 J2)))) (fun f3 => (k (-1) s J)))))))))

theorem ys_175 {m s : ps_S} {t : Int32} {d : Nat} {x1 : Int32} {f : Int32 → ps_S → Prop} (J : yJ m t s) (k : ∀ (v : Int32) (s' : ps_S), yJ m t s' → f v s') : ps_Cl (d + 40) 175 [.ref 0, .int x1] s (ps_rI f) :=
  pg_175_0 (d := d + 39) (ys_181  J (fun v1 b1 => (And.intro (fun f1 => (k (-1) s J)) (fun f1 => (And.intro (fun f2 => (ys_5 (rfl : ps_is 944 0 = true) (xj_11_2 (J).1 (rfl : ps_is 0 11 = true)) (rfl : ps_is 934 5 = true) J (fun v2 s2 J2 => (k v2 s2 J2)))) (fun f2 => (k (-1) s J)))))))

theorem ys_176 {m s : ps_S} {t : Int32} {d : Nat} {x1 : Int32} {f : Int32 → ps_S → Prop} (J : yJ m t s) (k : ∀ (v : Int32) (s' : ps_S), yJ m t s' → f v s') : ps_Cl (d + 4) 176 [.ref 0, .int x1] s (ps_rI f) :=
  pg_176_0 (d := d + 3) (And.intro (fun f1 => (k (-1) s J)) (fun f1 => (And.intro (fun f2 => (ys_180  J (fun v1 g1 => (ps_nk_i g1 (ys_112 g1 (rfl : ps_is 870 7 = true) J (fun s2 J2 => (ys_180  J2 (fun v3 g3 => (ps_nk_i g3 (k (ps_i (ps_ui s2 v3 6 1) 870 5) (ps_ui s2 v3 6 1) (yw_i (c := 7) (by decide) g3 J2))))))))))) (fun f2 => (k (-1) s J)))))

theorem ys_177 {m s : ps_S} {t : Int32} {d : Nat} {x1 : Int32} {f : Int32 → ps_S → Prop} (J : yJ m t s) (k : ∀ (v : Int32) (s' : ps_S), yJ m t s' → f v s') : ps_Cl (d + 4) 177 [.ref 0, .int x1] s (ps_rI f) :=
  pg_177_0 (d := d + 3) (And.intro (fun f1 => (k (-1) s J)) (fun f1 => (And.intro (fun f2 => (k (-1) s J)) (fun f2 => (ys_180  J (fun v1 g1 => (ps_nk_i g1 (And.intro (fun f3 => (ys_180  J (fun v2 g2 => (ys_112 (rfl : ps_is 870 7 = true) g2 J (fun s3 J3 => (ps_nk_i (xj_11_4 (J3).1 (rfl : ps_is 0 11 = true)) (ys_31 (xj_11_4 (J3).1 (rfl : ps_is 0 11 = true)) J3 (fun s4 J4 => (k (ps_i s4 870 5) s4 J4))))))))) (fun f3 => (k (-1) s J))))))))))

theorem ys_178 {m s : ps_S} {t : Int32} {d : Nat} {x1 : Int32} {f : Int32 → ps_S → Prop} (J : yJ m t s) (k : ∀ (v : Int32), f v s) : ps_Cl d 178 [.ref 0, .int x1] s (ps_rI f) :=
  pg_178_0 (And.intro (fun f1 => (ps_nk_i (xj_11_2 (J).1 (rfl : ps_is 0 11 = true)) (k (ps_i s (ps_r s 0 2) 6)))) (fun f1 => (And.intro (fun f2 => (ps_nk_i (xj_11_2 (J).1 (rfl : ps_is 0 11 = true)) (k (ps_i s (ps_r s 0 2) 7)))) (fun f2 => (And.intro (fun f3 => (ps_nk_i (xj_11_2 (J).1 (rfl : ps_is 0 11 = true)) (k (ps_i s (ps_r s 0 2) 8)))) (fun f3 => (And.intro (fun f4 => (ps_nk_i (xj_11_4 (J).1 (rfl : ps_is 0 11 = true)) (k (ps_i s (ps_r s 0 4) 8)))) (fun f4 => (And.intro (fun f5 => (k (ps_i s 870 5))) (fun f5 => (And.intro (fun f6 => (k (ps_i s 0 1))) (fun f6 => (And.intro (fun f7 => (k (ps_i s 934 1))) (fun f7 => (k (-1))))))))))))))))
