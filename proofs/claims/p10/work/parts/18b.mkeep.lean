theorem kpi {A F : List Nat} {s s' : ps_S} (h : kp A F s s') {q : Nat} {v : Int32} (hq : F.contains q = true) : kp A F s (ps_ui s' 1131 q v) := kp_ui hq h
theorem kpj {A F : List Nat} {s s' : ps_S} (h : kp A F s s') {q : Nat} {v : Int64} (hq : F.contains q = true) : kp A F s (ps_uj s' 1131 q v) := kp_uj hq h
theorem kpa' {A F : List Nat} {s s' : ps_S} (h : kp A F s s') {r i : Nat} {v : Int32} (hq : A.contains r = true) : kp A F s (ps_ua s' r i v) := kp_ua hq h
theorem kpb' {A F : List Nat} {s s' : ps_S} (h : kp A F s s') {r i : Nat} {v : Int64} (hq : A.contains r = true) : kp A F s (ps_ub s' r i v) := kp_ub hq h
theorem kpt {A F A' F' : List Nat} {s s' s'' : ps_S} (h : kp A F s s') (h' : kp A' F' s' s'') (hA : A'.all (fun a => A.contains a) = true) (hF : F'.all (fun a => F.contains a) = true) : kp A F s s'' := kp_tr hA hF h h'
theorem xnz {i : Int32} (h : i.toInt ≠ 0) : (!decide (i = 0)) = true := by
  have : i ≠ 0 := fun z => h (by rw [z]; decide)
  simp [this]
theorem xIa {a b : Int32} (h1 : -2147483648 ≤ a.toInt + b.toInt) (h2 : a.toInt + b.toInt < 2147483648) : (a + b).toInt = a.toInt + b.toInt := xI_add h1 h2
theorem xIs {a b : Int32} (h1 : -2147483648 ≤ a.toInt - b.toInt) (h2 : a.toInt - b.toInt < 2147483648) : (a - b).toInt = a.toInt - b.toInt := by
  rw [Int32.toInt_sub]
  exact Int.bmod_eq_of_le (by omega) (by omega)
theorem xIm {a b : Int32} (h1 : -2147483648 ≤ a.toInt * b.toInt) (h2 : a.toInt * b.toInt < 2147483648) : (a * b).toInt = a.toInt * b.toInt := by
  rw [Int32.toInt_mul]
  exact Int.bmod_eq_of_le (by omega) (by omega)
