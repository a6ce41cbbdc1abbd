set_option maxRecDepth 100000
section
variable {T : Nat → Nat} {N : Nat} {h : tx_H} {s0 s : ps_S} {b i : Nat} {P : List tp_P} {c : tp_P} {fr : List (List Nat)} {q : Nat} {C0 : pv_C} {R : ps_S → Prop}
theorem rv_B_5 (B : rv_B T N h s0 s i C0) : (ps_i s 1131 5).toInt ≠ 0 := by
  obtain ⟨X, fr, pl, k, -, h0, e, -⟩ := B
  omega

theorem rv_B_a {r : Nat} {v : Int32} (B : rv_B T N h s0 s i C0) (hr : [1152, 1153, 1154, 1155, 1156].contains r = true) : rv_B T N h s0 (ps_ua s r i v) i C0 := by
  obtain ⟨X, fr, pl, k, g, h0, e1, e2, K⟩ := B
  exact ⟨X, fr, pl, k, g, h0, e1, e2, KRd_a K hr⟩

theorem rv_B_i {v : Int32} (B : rv_B T N h s0 s i C0) : rv_B T N h s0 (ps_ui s 1131 42 v) i C0 := by
  obtain ⟨X, fr, pl, k, g, h0, e1, e2, K⟩ := B
  have K2 : kq [] [42] s (ps_ui s 1131 42 v) := kqi kq_refl (by decide)
  exact ⟨X, fr, pl, k, g, h0, by rw [kq_i K2 5 (by decide)]; exact e1, by rw [kq_i K2 6 (by decide)]; exact e2, KRd_q K K2 (by decide) (by decide)⟩

theorem rv_X_no {s' : ps_S} {ph k pl : Nat} {Y : List tp_P × tp_P} {fr' : List (List Nat)} (X : rv_X T N h s0 s b i P c fr q ph C0) (K : kq [] [5, 6] s s') (g : gt_go (pv_st T N h) (ph, (P, c), fr, q, 0) (4, Y, fr', pl, k)) (h0 : k ≠ 0) (e1 : (ps_i s' 1131 5).toInt = k) (e2 : (ps_i s' 1131 6).toInt = pl) : rv_B T N h s0 s' i C0 :=
  ⟨Y, fr', pl, k, gt_trans X.2.1 g, h0, e1, e2, KRd_q X.2.2.1 K (by decide) (by decide)⟩

theorem rv_X_eps {ph ph' : Nat} (X : rv_X T N h s0 s b i P c fr q ph C0) (g : gt_go (pv_st T N h) (ph, (P, c), fr, q, 0) (ph', (P, c), fr, q, 0)) : rv_X T N h s0 s b i P c fr q ph' C0 := ⟨X.1, gt_trans X.2.1 g, X.2.2⟩

end
