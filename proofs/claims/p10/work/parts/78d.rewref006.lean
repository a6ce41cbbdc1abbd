set_option maxRecDepth 100000
theorem mk_M_0 {s : ps_S} : mk_M (ps_ui s 1131 34 0) [] := ⟨by rw [ps_i_ui, if_pos ⟨rfl, rfl⟩]; rfl, fun k c _ hc => by cases hc⟩
