set_option maxRecDepth 100000
/-! the reference: tables grow; lines; theories -/
theorem mv_H_rel {s : ps_S} {rb a : Nat} {h : tx_H} {w : List Nat} {l2 : Int64} (H : mv_H s rb h) (hrb : rb < 2) (hlt : h.1.1.length < 6) (hw : tx_w w) (ha : a ≤ 2) (hl : l2 = tx_m w) (hx : (ps_a s 1138 (6 * rb + h.1.1.length)).toInt = a) : mv_H (ps_ua (ps_ub s 1140 (6 * rb + h.1.1.length) l2) 1135 rb (ps_a s 1135 rb + 1)) rb ((h.1.1 ++ [(w, a)], h.1.2), h.2) := by
  obtain ⟨⟨e1, e2, e3, e4, e5, e6⟩, f2, f3, f4⟩ := H
  have n1 : ∀ q i, q ≠ 1135 → ps_a (ps_ua (ps_ub s 1140 (6 * rb + h.1.1.length) l2) 1135 rb (ps_a s 1135 rb + 1)) q i = ps_a s q i := fun q i hq => by rw [ps_a_ua, if_neg (fun z => hq z.1)]; rfl
  have n2 : ∀ q i, q ≠ 1140 → ps_b (ps_ua (ps_ub s 1140 (6 * rb + h.1.1.length) l2) 1135 rb (ps_a s 1135 rb + 1)) q i = ps_b s q i := fun q i hq => by rw [ps_b_ua, ps_b_ub, if_neg (fun z => hq z.1)]
  have n3 : (ps_a (ps_ua (ps_ub s 1140 (6 * rb + h.1.1.length) l2) 1135 rb (ps_a s 1135 rb + 1)) 1135 rb).toInt = (h.1.1.length + 1 : Nat) := by
    rw [ps_a_ua, if_pos ⟨rfl, rfl⟩]
    exact xj1 e1 (by omega)
  refine ⟨⟨?_, ?_, ?_, ?_, fun k w' a' hk => ?_, fun k w' a' hk => ?_⟩, ?_, f3, fun k w' l' hk => ?_⟩
  · rw [n3, List.length_append]
    rfl
  · rw [n1 1136 rb (by decide)]
    exact e2
  · rw [List.length_append]
    show h.1.1.length + 1 ≤ 6
    omega
  · exact e4
  · rcases tx_snoc hk with ⟨z1, z2⟩ | ⟨z1, z2⟩
    · obtain ⟨y1, y2, y3, y4⟩ := e5 k w' a' z2
      refine ⟨y1, y2, ?_, by rw [n1 1138 _ (by decide)]; exact y4⟩
      rw [ps_b_ua, ps_b_ub, if_neg (by omega)]
      exact y3
    · cases z2
      refine ⟨hw, ha, ?_, by rw [n1 1138 _ (by decide), z1]; exact hx⟩
      rw [ps_b_ua, ps_b_ub, if_pos ⟨rfl, by rw [z1]⟩]
      exact hl
  · obtain ⟨y1, y2, y3, y4⟩ := e6 k w' a' hk
    exact ⟨y1, y2, by rw [n2 1141 _ (by decide)]; exact y3, by rw [n1 1139 _ (by decide)]; exact y4⟩
  · rw [n1 1137 rb (by decide)]
    exact f2
  · obtain ⟨y1, y2, y3⟩ := f4 k w' l' hk
    refine ⟨y1, by rw [n2 1142 _ (by decide)]; exact y2, ?_⟩
    have e : ps_a (ps_ua (ps_ub s 1140 (6 * rb + h.1.1.length) l2) 1135 rb (ps_a s 1135 rb + 1)) 1134 = ps_a s 1134 := funext (fun i => n1 1134 i (by decide))
    unfold mv_W at *
    rw [e]
    exact y3

theorem mv_H_fun {s : ps_S} {rb a : Nat} {h : tx_H} {w : List Nat} {l2 : Int64} (H : mv_H s rb h) (hrb : rb < 2) (hlt : h.1.2.length < 4) (hw : tx_w w) (ha : a ≤ 2) (hl : l2 = tx_m w) (hx : (ps_a s 1139 (4 * rb + h.1.2.length)).toInt = a) : mv_H (ps_ua (ps_ub s 1141 (4 * rb + h.1.2.length) l2) 1136 rb (ps_a s 1136 rb + 1)) rb ((h.1.1, h.1.2 ++ [(w, a)]), h.2) := by
  obtain ⟨⟨e1, e2, e3, e4, e5, e6⟩, f2, f3, f4⟩ := H
  have n1 : ∀ q i, q ≠ 1136 → ps_a (ps_ua (ps_ub s 1141 (4 * rb + h.1.2.length) l2) 1136 rb (ps_a s 1136 rb + 1)) q i = ps_a s q i := fun q i hq => by rw [ps_a_ua, if_neg (fun z => hq z.1)]; rfl
  have n2 : ∀ q i, q ≠ 1141 → ps_b (ps_ua (ps_ub s 1141 (4 * rb + h.1.2.length) l2) 1136 rb (ps_a s 1136 rb + 1)) q i = ps_b s q i := fun q i hq => by rw [ps_b_ua, ps_b_ub, if_neg (fun z => hq z.1)]
  have n3 : (ps_a (ps_ua (ps_ub s 1141 (4 * rb + h.1.2.length) l2) 1136 rb (ps_a s 1136 rb + 1)) 1136 rb).toInt = (h.1.2.length + 1 : Nat) := by
    rw [ps_a_ua, if_pos ⟨rfl, rfl⟩]
    exact xj1 e2 (by omega)
  refine ⟨⟨?_, ?_, ?_, ?_, fun k w' a' hk => ?_, fun k w' a' hk => ?_⟩, ?_, f3, fun k w' l' hk => ?_⟩
  · rw [n1 1135 rb (by decide)]
    exact e1
  · rw [n3, List.length_append]
    rfl
  · exact e3
  · rw [List.length_append]
    show h.1.2.length + 1 ≤ 4
    omega
  · obtain ⟨y1, y2, y3, y4⟩ := e5 k w' a' hk
    exact ⟨y1, y2, by rw [n2 1140 _ (by decide)]; exact y3, by rw [n1 1138 _ (by decide)]; exact y4⟩
  · rcases tx_snoc hk with ⟨z1, z2⟩ | ⟨z1, z2⟩
    · obtain ⟨y1, y2, y3, y4⟩ := e6 k w' a' z2
      refine ⟨y1, y2, ?_, by rw [n1 1139 _ (by decide)]; exact y4⟩
      rw [ps_b_ua, ps_b_ub, if_neg (by omega)]
      exact y3
    · cases z2
      refine ⟨hw, ha, ?_, by rw [n1 1139 _ (by decide), z1]; exact hx⟩
      rw [ps_b_ua, ps_b_ub, if_pos ⟨rfl, by rw [z1]⟩]
      exact hl
  · rw [n1 1137 rb (by decide)]
    exact f2
  · obtain ⟨y1, y2, y3⟩ := f4 k w' l' hk
    refine ⟨y1, by rw [n2 1142 _ (by decide)]; exact y2, ?_⟩
    have e : ps_a (ps_ua (ps_ub s 1141 (4 * rb + h.1.2.length) l2) 1136 rb (ps_a s 1136 rb + 1)) 1134 = ps_a s 1134 := funext (fun i => n1 1134 i (by decide))
    unfold mv_W at *
    rw [e]
    exact y3

theorem mv_H_trel {s : ps_S} {rb : Nat} {h : tx_H} {v : Int32} (H : mv_H s rb h) : mv_H (ps_ua s 1138 (6 * rb + h.1.1.length) v) rb h := by
  obtain ⟨⟨e1, e2, e3, e4, e5, e6⟩, f2, f3, f4⟩ := H
  have n1 : ∀ q i, q ≠ 1138 → ps_a (ps_ua s 1138 (6 * rb + h.1.1.length) v) q i = ps_a s q i := fun q i hq => by rw [ps_a_ua, if_neg (fun z => hq z.1)]
  refine ⟨⟨by rw [n1 1135 rb (by decide)]; exact e1, by rw [n1 1136 rb (by decide)]; exact e2, e3, e4, fun k w' a' hk => ?_, fun k w' a' hk => ?_⟩, by rw [n1 1137 rb (by decide)]; exact f2, f3, fun k w' l' hk => ?_⟩
  · obtain ⟨y1, y2, y3, y4⟩ := e5 k w' a' hk
    have hl := (List.getElem?_eq_some_iff.mp hk).1
    exact ⟨y1, y2, y3, by rw [ps_a_ua, if_neg (by omega)]; exact y4⟩
  · obtain ⟨y1, y2, y3, y4⟩ := e6 k w' a' hk
    exact ⟨y1, y2, y3, by rw [n1 1139 _ (by decide)]; exact y4⟩
  · obtain ⟨y1, y2, y3⟩ := f4 k w' l' hk
    refine ⟨y1, y2, ?_⟩
    have e : ps_a (ps_ua s 1138 (6 * rb + h.1.1.length) v) 1134 = ps_a s 1134 := funext (fun i => n1 1134 i (by decide))
    unfold mv_W at *
    rw [e]
    exact y3

theorem mv_H_tfun {s : ps_S} {rb : Nat} {h : tx_H} {v : Int32} (H : mv_H s rb h) : mv_H (ps_ua s 1139 (4 * rb + h.1.2.length) v) rb h := by
  obtain ⟨⟨e1, e2, e3, e4, e5, e6⟩, f2, f3, f4⟩ := H
  have n1 : ∀ q i, q ≠ 1139 → ps_a (ps_ua s 1139 (4 * rb + h.1.2.length) v) q i = ps_a s q i := fun q i hq => by rw [ps_a_ua, if_neg (fun z => hq z.1)]
  refine ⟨⟨by rw [n1 1135 rb (by decide)]; exact e1, by rw [n1 1136 rb (by decide)]; exact e2, e3, e4, fun k w' a' hk => ?_, fun k w' a' hk => ?_⟩, by rw [n1 1137 rb (by decide)]; exact f2, f3, fun k w' l' hk => ?_⟩
  · obtain ⟨y1, y2, y3, y4⟩ := e5 k w' a' hk
    exact ⟨y1, y2, y3, by rw [n1 1138 _ (by decide)]; exact y4⟩
  · obtain ⟨y1, y2, y3, y4⟩ := e6 k w' a' hk
    have hl := (List.getElem?_eq_some_iff.mp hk).1
    exact ⟨y1, y2, y3, by rw [ps_a_ua, if_neg (by omega)]; exact y4⟩
  · obtain ⟨y1, y2, y3⟩ := f4 k w' l' hk
    refine ⟨y1, y2, ?_⟩
    have e : ps_a (ps_ua s 1139 (4 * rb + h.1.2.length) v) 1134 = ps_a s 1134 := funext (fun i => n1 1134 i (by decide))
    unfold mv_W at *
    rw [e]
    exact y3

theorem mv_H_bax {s : ps_S} {rb : Nat} {h : tx_H} {v : Int64} (H : mv_H s rb h) : mv_H (ps_ub s 1142 (8 * rb + h.2.length) v) rb h := by
  obtain ⟨⟨e1, e2, e3, e4, e5, e6⟩, f2, f3, f4⟩ := H
  have n2 : ∀ q i, q ≠ 1142 → ps_b (ps_ub s 1142 (8 * rb + h.2.length) v) q i = ps_b s q i := fun q i hq => by rw [ps_b_ub, if_neg (fun z => hq z.1)]
  refine ⟨⟨e1, e2, e3, e4, fun k w' a' hk => ?_, fun k w' a' hk => ?_⟩, f2, f3, fun k w' l' hk => ?_⟩
  · obtain ⟨y1, y2, y3, y4⟩ := e5 k w' a' hk
    exact ⟨y1, y2, by rw [n2 1140 _ (by decide)]; exact y3, y4⟩
  · obtain ⟨y1, y2, y3, y4⟩ := e6 k w' a' hk
    exact ⟨y1, y2, by rw [n2 1141 _ (by decide)]; exact y3, y4⟩
  · obtain ⟨y1, y2, y3⟩ := f4 k w' l' hk
    have hl := (List.getElem?_eq_some_iff.mp hk).1
    exact ⟨y1, by rw [ps_b_ub, if_neg (by omega)]; exact y2, y3⟩
theorem mv_H_axm {s : ps_S} {rb : Nat} {h : tx_H} {w l : List Nat} (H : mv_H s rb h) (hlt : h.2.length < 8) (hw : tx_w w) (hn : ps_b s 1142 (8 * rb + h.2.length) = tx_m w) (hW : mv_W s (21812 + 41 * (8 * rb + h.2.length)) l) : mv_H (ps_ua s 1137 rb (ps_a s 1137 rb + 1)) rb (h.1, h.2 ++ [(w, l)]) := by
  obtain ⟨f1, f2, f3, f4⟩ := H
  have n1 : ∀ q i, q ≠ 1137 → ps_a (ps_ua s 1137 rb (ps_a s 1137 rb + 1)) q i = ps_a s q i := fun q i hq => by rw [ps_a_ua, if_neg (fun z => hq z.1)]
  have e : ps_a (ps_ua s 1137 rb (ps_a s 1137 rb + 1)) 1134 = ps_a s 1134 := funext (fun i => n1 1134 i (by decide))
  refine ⟨?_, ?_, ?_, fun k w' l' hk => ?_⟩
  · obtain ⟨e1, e2, e3, e4, e5, e6⟩ := f1
    refine ⟨by rw [n1 1135 rb (by decide)]; exact e1, by rw [n1 1136 rb (by decide)]; exact e2, e3, e4, fun k w' a' hk => ?_, fun k w' a' hk => ?_⟩
    · obtain ⟨y1, y2, y3, y4⟩ := e5 k w' a' hk
      exact ⟨y1, y2, y3, by rw [n1 1138 _ (by decide)]; exact y4⟩
    · obtain ⟨y1, y2, y3, y4⟩ := e6 k w' a' hk
      exact ⟨y1, y2, y3, by rw [n1 1139 _ (by decide)]; exact y4⟩
  · rw [ps_a_ua, if_pos ⟨rfl, rfl⟩, List.length_append]
    exact xj1 f2 (by omega)
  · rw [List.length_append]
    show h.2.length + 1 ≤ 8
    omega
  · rcases tx_snoc hk with ⟨z1, z2⟩ | ⟨z1, z2⟩
    · obtain ⟨y1, y2, y3⟩ := f4 k w' l' z2
      refine ⟨y1, y2, ?_⟩
      unfold mv_W at *
      rw [e]
      exact y3
    · cases z2
      refine ⟨hw, by rw [z1]; exact hn, ?_⟩
      rw [z1]
      unfold mv_W at *
      rw [e]
      exact hW

