/-! length and charAt of a text constant -/
def pm_yl : MethodName := ⟨"java/lang/String", "length", "()I"⟩
def pm_yc : MethodName := ⟨"java/lang/String", "charAt", "(I)C"⟩
def pm_yk : MethodName := ⟨"java/lang/String", "coder", "()B"⟩
def pm_yi : MethodName := ⟨"java/lang/String", "isLatin1", "()Z"⟩
def pm_y1 : MethodName := ⟨"java/lang/StringLatin1", "charAt", "([BI)C"⟩
def pm_yx : MethodName := ⟨"java/lang/String", "checkIndex", "(II)V"⟩
def pm_yp : MethodName := ⟨"jdk/internal/util/Preconditions", "checkIndex", "(IILjava/util/function/BiFunction;)I"⟩
set_option maxRecDepth 100000
theorem pm_w_f38 : Jvm.Cond.fieldLink "java/lang/String" 38 "java/lang/String" "COMPACT_STRINGS" "Z" ∈ pm_gw := pm_gw_in (pm_isAt_in (p := 2057) (by decide +kernel)) rfl
theorem pm_w_f15 : Jvm.Cond.fieldLink "java/lang/String" 15 "java/lang/String" "coder" "B" ∈ pm_gw := pm_gw_in (pm_isAt_in (p := 9167) (by decide +kernel)) rfl
theorem pm_w_f9 : Jvm.Cond.fieldLink "java/lang/String" 9 "java/lang/String" "value" "[B" ∈ pm_gw := pm_gw_in (pm_isAt_in (p := 9166) (by decide +kernel)) rfl
theorem pm_w_f1053 : Jvm.Cond.fieldLink "java/lang/String" 1053 "jdk/internal/util/Preconditions" "SIOOBE_FORMATTER" "Ljava/util/function/BiFunction;" ∈ pm_gw := pm_gw_in (pm_isAt_in (p := 2073) (by decide +kernel)) rfl
theorem pm_w_m335 : Jvm.Cond.methodLink "java/lang/String" 335 pm_yk ∈ pm_gw := pm_gw_in (pm_isAt_in (p := 2053) (by decide +kernel)) rfl
theorem pm_w_m492 : Jvm.Cond.methodLink "java/lang/String" 492 pm_yi ∈ pm_gw := pm_gw_in (pm_isAt_in (p := 2063) (by decide +kernel)) rfl
theorem pm_w_m495 : Jvm.Cond.methodLink "java/lang/String" 495 pm_y1 ∈ pm_gw := pm_gw_in (pm_isAt_in (p := 2067) (by decide +kernel)) rfl
theorem pm_w_m9 : Jvm.Cond.methodLink "java/lang/StringLatin1" 9 pm_yx ∈ pm_gw := pm_gw_in (pm_isAt_in (p := 2070) (by decide +kernel)) rfl
theorem pm_w_m1059 : Jvm.Cond.methodLink "java/lang/String" 1059 pm_yp ∈ pm_gw := pm_gw_in (pm_isAt_in (p := 2075) (by decide +kernel)) rfl
theorem pm_w_iyl : Jvm.Cond.instanceMethod pm_yl ∈ pm_gw := pm_gw_in (pm_isAt_in (p := 2050) (by decide +kernel)) rfl
theorem pm_w_eyl : Jvm.Cond.selects "java/lang/String" pm_yl pm_yl ∈ pm_gw := pm_gw_in (pm_isAt_in (p := 2051) (by decide +kernel)) rfl
theorem pm_w_iyc : Jvm.Cond.instanceMethod pm_yc ∈ pm_gw := pm_gw_in (pm_isAt_in (p := 2060) (by decide +kernel)) rfl
theorem pm_w_eyc : Jvm.Cond.selects "java/lang/String" pm_yc pm_yc ∈ pm_gw := pm_gw_in (pm_isAt_in (p := 2061) (by decide +kernel)) rfl
theorem pm_w_iyk : Jvm.Cond.instanceMethod pm_yk ∈ pm_gw := pm_gw_in (pm_isAt_in (p := 2054) (by decide +kernel)) rfl
theorem pm_w_eyk : Jvm.Cond.selects "java/lang/String" pm_yk pm_yk ∈ pm_gw := pm_gw_in (pm_isAt_in (p := 2055) (by decide +kernel)) rfl
theorem pm_w_iyi : Jvm.Cond.instanceMethod pm_yi ∈ pm_gw := pm_gw_in (pm_isAt_in (p := 2064) (by decide +kernel)) rfl
theorem pm_w_eyi : Jvm.Cond.selects "java/lang/String" pm_yi pm_yi ∈ pm_gw := pm_gw_in (pm_isAt_in (p := 2065) (by decide +kernel)) rfl
theorem pm_w_sy1 : Jvm.Cond.static pm_y1 ∈ pm_gw := pm_gw_in (pm_isAt_in (p := 2068) (by decide +kernel)) rfl
theorem pm_w_syx : Jvm.Cond.static pm_yx ∈ pm_gw := pm_gw_in (pm_isAt_in (p := 2071) (by decide +kernel)) rfl
theorem pm_w_syp : Jvm.Cond.static pm_yp ∈ pm_gw := pm_gw_in (pm_isAt_in (p := 2076) (by decide +kernel)) rfl
theorem pm_w_cyl : Jvm.Cond.code pm_yl prog_16_method_54_code 1 (some .int) ∈ pm_gw := pm_gw_in (pm_isAt_in (p := 2052) (by decide +kernel)) rfl
theorem pm_w_cyc : Jvm.Cond.code pm_yc prog_16_method_56_code 2 (some .char) ∈ pm_gw := pm_gw_in (pm_isAt_in (p := 2062) (by decide +kernel)) rfl
theorem pm_w_cyk : Jvm.Cond.code pm_yk prog_16_method_152_code 1 (some .byte) ∈ pm_gw := pm_gw_in (pm_isAt_in (p := 2056) (by decide +kernel)) rfl
theorem pm_w_cyi : Jvm.Cond.code pm_yi prog_16_method_154_code 1 (some .boolean) ∈ pm_gw := pm_gw_in (pm_isAt_in (p := 2066) (by decide +kernel)) rfl
theorem pm_w_cy1 : Jvm.Cond.code pm_y1 prog_17_method_2_code 2 (some .char) ∈ pm_gw := pm_gw_in (pm_isAt_in (p := 2069) (by decide +kernel)) rfl
theorem pm_w_cyx : Jvm.Cond.code pm_yx prog_16_method_155_code 2 none ∈ pm_gw := pm_gw_in (pm_isAt_in (p := 2072) (by decide +kernel)) rfl
theorem pm_w_cyp : Jvm.Cond.code pm_yp prog_19_method_11_code 3 (some .int) ∈ pm_gw := pm_gw_in (pm_isAt_in (p := 2077) (by decide +kernel)) rfl
theorem pm_w_n0 : Jvm.Cond.initialized "java/lang/String" ∈ pm_gw := pm_gw_in (pm_isAt_in (p := 1010) (by decide +kernel)) rfl
theorem pm_w_n1 : Jvm.Cond.initialized "java/lang/StringLatin1" ∈ pm_gw := pm_gw_in (pm_isAt_in (p := 1011) (by decide +kernel)) rfl
theorem pm_w_n3 : Jvm.Cond.initialized "jdk/internal/util/Preconditions" ∈ pm_gw := pm_gw_in (pm_isAt_in (p := 1012) (by decide +kernel)) rfl
theorem pm_yl_0 : decode prog_16_method_54_code 0 = .ok (.aload_n 0, 1) := by decide +kernel
theorem pm_yl_1 : decode prog_16_method_54_code 1 = .ok (.getfield 9, 3) := by decide +kernel
theorem pm_yl_4 : decode prog_16_method_54_code 4 = .ok (.arraylength, 1) := by decide +kernel
theorem pm_yl_5 : decode prog_16_method_54_code 5 = .ok (.aload_n 0, 1) := by decide +kernel
theorem pm_yl_6 : decode prog_16_method_54_code 6 = .ok (.invokevirtual 335, 3) := by decide +kernel
theorem pm_yl_9 : decode prog_16_method_54_code 9 = .ok (.ishr, 1) := by decide +kernel
theorem pm_yl_10 : decode prog_16_method_54_code 10 = .ok (.ireturn, 1) := by decide +kernel
theorem pm_yc_0 : decode prog_16_method_56_code 0 = .ok (.aload_n 0, 1) := by decide +kernel
theorem pm_yc_1 : decode prog_16_method_56_code 1 = .ok (.invokevirtual 492, 3) := by decide +kernel
theorem pm_yc_4 : decode prog_16_method_56_code 4 = .ok (.ifCond .eq 12, 3) := by decide +kernel
theorem pm_yc_7 : decode prog_16_method_56_code 7 = .ok (.aload_n 0, 1) := by decide +kernel
theorem pm_yc_8 : decode prog_16_method_56_code 8 = .ok (.getfield 9, 3) := by decide +kernel
theorem pm_yc_11 : decode prog_16_method_56_code 11 = .ok (.iload_n 1, 1) := by decide +kernel
theorem pm_yc_12 : decode prog_16_method_56_code 12 = .ok (.invokestatic 495, 3) := by decide +kernel
theorem pm_yc_15 : decode prog_16_method_56_code 15 = .ok (.ireturn, 1) := by decide +kernel
theorem pm_yc_16 : decode prog_16_method_56_code 16 = .ok (.aload_n 0, 1) := by decide +kernel
theorem pm_yc_17 : decode prog_16_method_56_code 17 = .ok (.getfield 9, 3) := by decide +kernel
theorem pm_yc_20 : decode prog_16_method_56_code 20 = .ok (.iload_n 1, 1) := by decide +kernel
theorem pm_yc_21 : decode prog_16_method_56_code 21 = .ok (.invokestatic 498, 3) := by decide +kernel
theorem pm_yc_24 : decode prog_16_method_56_code 24 = .ok (.ireturn, 1) := by decide +kernel
theorem pm_yk_0 : decode prog_16_method_152_code 0 = .ok (.getstatic 38, 3) := by decide +kernel
theorem pm_yk_3 : decode prog_16_method_152_code 3 = .ok (.ifCond .eq 10, 3) := by decide +kernel
theorem pm_yk_6 : decode prog_16_method_152_code 6 = .ok (.aload_n 0, 1) := by decide +kernel
theorem pm_yk_7 : decode prog_16_method_152_code 7 = .ok (.getfield 15, 3) := by decide +kernel
theorem pm_yk_10 : decode prog_16_method_152_code 10 = .ok (.goto 4, 3) := by decide +kernel
theorem pm_yk_13 : decode prog_16_method_152_code 13 = .ok (.iconst 1, 1) := by decide +kernel
theorem pm_yk_14 : decode prog_16_method_152_code 14 = .ok (.ireturn, 1) := by decide +kernel
theorem pm_yi_0 : decode prog_16_method_154_code 0 = .ok (.getstatic 38, 3) := by decide +kernel
theorem pm_yi_3 : decode prog_16_method_154_code 3 = .ok (.ifCond .eq 14, 3) := by decide +kernel
theorem pm_yi_6 : decode prog_16_method_154_code 6 = .ok (.aload_n 0, 1) := by decide +kernel
theorem pm_yi_7 : decode prog_16_method_154_code 7 = .ok (.getfield 15, 3) := by decide +kernel
theorem pm_yi_10 : decode prog_16_method_154_code 10 = .ok (.ifCond .ne 7, 3) := by decide +kernel
theorem pm_yi_13 : decode prog_16_method_154_code 13 = .ok (.iconst 1, 1) := by decide +kernel
theorem pm_yi_14 : decode prog_16_method_154_code 14 = .ok (.goto 4, 3) := by decide +kernel
theorem pm_yi_17 : decode prog_16_method_154_code 17 = .ok (.iconst 0, 1) := by decide +kernel
theorem pm_yi_18 : decode prog_16_method_154_code 18 = .ok (.ireturn, 1) := by decide +kernel
theorem pm_y1_0 : decode prog_17_method_2_code 0 = .ok (.iload_n 1, 1) := by decide +kernel
theorem pm_y1_1 : decode prog_17_method_2_code 1 = .ok (.aload_n 0, 1) := by decide +kernel
theorem pm_y1_2 : decode prog_17_method_2_code 2 = .ok (.arraylength, 1) := by decide +kernel
theorem pm_y1_3 : decode prog_17_method_2_code 3 = .ok (.invokestatic 9, 3) := by decide +kernel
theorem pm_y1_6 : decode prog_17_method_2_code 6 = .ok (.aload_n 0, 1) := by decide +kernel
theorem pm_y1_7 : decode prog_17_method_2_code 7 = .ok (.iload_n 1, 1) := by decide +kernel
theorem pm_y1_8 : decode prog_17_method_2_code 8 = .ok (.baload, 1) := by decide +kernel
theorem pm_y1_9 : decode prog_17_method_2_code 9 = .ok (.sipush 255, 3) := by decide +kernel
theorem pm_y1_12 : decode prog_17_method_2_code 12 = .ok (.iand, 1) := by decide +kernel
theorem pm_y1_13 : decode prog_17_method_2_code 13 = .ok (.i2c, 1) := by decide +kernel
theorem pm_y1_14 : decode prog_17_method_2_code 14 = .ok (.ireturn, 1) := by decide +kernel
theorem pm_yx_0 : decode prog_16_method_155_code 0 = .ok (.iload_n 0, 1) := by decide +kernel
theorem pm_yx_1 : decode prog_16_method_155_code 1 = .ok (.iload_n 1, 1) := by decide +kernel
theorem pm_yx_2 : decode prog_16_method_155_code 2 = .ok (.getstatic 1053, 3) := by decide +kernel
theorem pm_yx_5 : decode prog_16_method_155_code 5 = .ok (.invokestatic 1059, 3) := by decide +kernel
theorem pm_yx_8 : decode prog_16_method_155_code 8 = .ok (.pop, 1) := by decide +kernel
theorem pm_yx_9 : decode prog_16_method_155_code 9 = .ok (.return_, 1) := by decide +kernel
theorem pm_yp_0 : decode prog_19_method_11_code 0 = .ok (.iload_n 0, 1) := by decide +kernel
theorem pm_yp_1 : decode prog_19_method_11_code 1 = .ok (.ifCond .lt 8, 3) := by decide +kernel
theorem pm_yp_4 : decode prog_19_method_11_code 4 = .ok (.iload_n 0, 1) := by decide +kernel
theorem pm_yp_5 : decode prog_19_method_11_code 5 = .ok (.iload_n 1, 1) := by decide +kernel
theorem pm_yp_6 : decode prog_19_method_11_code 6 = .ok (.if_icmp .lt 10, 3) := by decide +kernel
theorem pm_yp_9 : decode prog_19_method_11_code 9 = .ok (.aload_n 2, 1) := by decide +kernel
theorem pm_yp_10 : decode prog_19_method_11_code 10 = .ok (.iload_n 0, 1) := by decide +kernel
theorem pm_yp_11 : decode prog_19_method_11_code 11 = .ok (.iload_n 1, 1) := by decide +kernel
theorem pm_yp_12 : decode prog_19_method_11_code 12 = .ok (.invokestatic 95, 3) := by decide +kernel
theorem pm_yp_15 : decode prog_19_method_11_code 15 = .ok (.athrow, 1) := by decide +kernel
theorem pm_yp_16 : decode prog_19_method_11_code 16 = .ok (.iload_n 0, 1) := by decide +kernel
theorem pm_yp_17 : decode prog_19_method_11_code 17 = .ok (.ireturn, 1) := by decide +kernel
theorem pm_chr : ∀ i, i < 3 → ∀ j, j < (pm_txt i).length → (((((pm_byt.getD i []).getD j 0) &&& 255).toUInt32 % 65536).toInt32 = nI ((pm_txt i).getD j 0) ∧ narrow .char (.int (nI ((pm_txt i).getD j 0))) = .int (nI ((pm_txt i).getD j 0)) ∧ (pm_txt i).length < 1000) := by decide +kernel
def pm_QT (v : Option Value) : Array Value → State → Outcome → State → Prop := fun _ st oc t => oc = .returned v ∧ t.heap = st.heap
def pm_wy (y : MethodName) (b : ByteArray) (k : Nat) (r : Option FieldType) : List Jvm.Cond := Jvm.Cond.code y b k r :: pm_gw
theorem pm_wy_good {y : MethodName} {b : ByteArray} {k : Nat} {r : Option FieldType} (h : Jvm.Cond.code y b k r ∈ pm_gw) : GoodIn pm_gw (pm_wy y b k r) := by
  intro w hw
  rcases List.mem_cons.mp hw with e | e
  · rw [e]
    exact pm_good _ h
  · exact pm_good _ e
def pm_rt (d : Nat) : Room := { frames := d, cells := 0, slots := 0, locals := 30 * d }
theorem pm_tmet {l : Launch} {y : MethodName} {b : ByteArray} {k d : Nat} {r : Option FieldType} {av : List Value} {v : Option Value} {B : State → Prop} (hy : plainName y.cls = true) (hlen : (lg_sl av).length ≤ k)
    (body : ∀ (p : Program) (e : Env) (s : State) (m : MethodId) (args : Array Value) (below : List Frame) (meth : Method) (c : Code), p.tables.exec = Jvm.exec → c.code = b → meth.sig.returnType = r → c.maxLocals = k → s.vm.findClass y.cls = some m.cls → (∀ w ∈ pm_gw, w.before args s = true) → meth.locks = false → B s
      → ∀ ls : Array Slot, lv_has ls k (lv_args 0 av) → W p l e (pm_rt d) s m args below meth c s.heap [] 0 0 (MQ below (pm_QT v) args s 0 0 (fun _ => False)) (F0 m 0 ls [])) : Met l y (pm_wy y b k r) (pm_rt d) (va_Pc av B) (pm_QT v) 0 0 (fun _ => False) := by
  refine Met.ofW (cc := b) (maxL := k) (ret := r) hy rfl ?_
  intro p e s m args below meth c s₁ B0 hml hv
  obtain ⟨rfl, hB⟩ := hv
  rw [lg_entry_eq]
  exact body p e s m av.toArray below meth c B0.exec B0.bytes B0.returns hml (findClass_of_methodNamed B0.named) (fun w hw => atoms_spec (ws := pm_wy y b k r) B0.pre w (List.mem_cons_of_mem _ hw)) B0.notSynchronized hB _ (lv_entry av hlen)
theorem pm_blindT {av : List Value} {B : State → Prop} (h : ∀ U U' : State, U'.vm = U.vm → U'.heap = U.heap → B U → B U') : FrameBlind (va_Pc av B) := by
  intro a U g mk q
  exact ⟨q.1, h U (U.calling g mk a) rfl rfl q.2⟩
section PMT
variable {p : Program} {l : Launch} {e : Env} {R : Room} {s : State} {m : MethodId} {args : Array Value} {below : List Frame} {meth : Method} {c : Code} {H : Heap} {locs : List Loc} {Q : State → Prop}
variable {cells slots pc : Nat} {ls : Array Slot}
theorem pm_afterT {rest st0 : List Value} {a : Array Value} {v : Option Value} (hr : va_Run p l e R s m args below meth c H locs cells slots 0 0 (F0 m pc ls st0) rest (pm_QT v a) (fun _ => False))
    (kk : W p l e R s m args below meth c H locs cells slots Q (F0 m (pc + 3) ls (v.toList ++ rest))) : W p l e R s m args below meth c H locs cells slots Q (F0 m pc ls st0) := by
  intro U hU X
  obtain ⟨v', st₀, t, T', L, h0, X', hL, e1, e2, ⟨hv, hh⟩, st⟩ := hr U hU X
  cases hv
  have hL0 : L = [] := by
    cases L with
    | nil => rfl
    | cons q L => exact absurd (hL q List.mem_cons_self) id
  subst hL0
  rw [List.append_nil] at X'
  obtain ⟨t2, a1, b1⟩ := kk T' (e1.trans (hh.trans h0)) X'
  exact ⟨t2, st t2 a1, b1⟩
end PMT
theorem pm_catsC (G : pm_G) {l : List Value} (h : Nat.ble (pm_cats l) 8 = true) : (l.map ((fun v => v.category) ∘ pm_v G)).sum ≤ 8 := by
  have e : l.map ((fun v : Value => v.category) ∘ pm_v G) = l.map (fun v => v.category) := List.map_congr_left (fun v _ => pm_v_cat G v)
  rw [e]
  exact Nat.le_of_ble_eq_true h
def pm_BZ (G : pm_G) : State → Prop := fun U => pm_Z G U U.heap
theorem pm_BZ.same {G : pm_G} : ∀ U U' : State, U'.vm = U.vm → U'.heap = U.heap → pm_BZ G U → pm_BZ G U' := by
  intro U U' hv hh h
  show pm_Z G U' U'.heap
  rw [hh]
  exact pm_Z.same hv h
theorem pm_BZ.pre {G : pm_G} {s : State} {H : Heap} {av : List Value} (hZ : pm_Z G s s.heap) (hS : va_S (pm_A G) s.heap H []) : ∀ U : State, U.heap = H → s.WarmedH U.vm → va_Pc av (pm_BZ G) av.toArray U := by
  intro U hU hW
  refine ⟨rfl, ?_⟩
  show pm_Z G U U.heap
  rw [hU]
  exact hZ.go hW hS.2.1
theorem pm_c_coder (l : Launch) (G : pm_G) {i : Nat} (hi : i < 3) : Met l pm_yk (pm_wy pm_yk prog_16_method_152_code 1 (some .byte)) (pm_rt 1) (va_Pc [.ref (G.2.1 i)] (pm_BZ G)) (pm_QT (some (.int 0))) 0 0 (fun _ => False) := by
  refine pm_tmet (by decide +kernel) (Nat.le_refl _) ?_
  intro p e s m args below meth c hx hb hr hml hown hts hlk hB ls hl
  obtain ⟨⟨adV, hS, -⟩, z1, -⟩ := id hB
  refine va_gets hx hb z1 va_S.rf hown (hts _ pm_w_f38) (fun x h => h) pm_yk_0 ?_
  refine lv_if_eq (tgt := 13) hx hb pm_yk_3 (by decide) (fun z => absurd z (by decide)) (fun _ => ?_)
  refine lv_aload_n hx hb pm_yk_6 rfl (lv_at hl 0 rfl) ?_
  refine vk_getf hx hb (hS i hi).2.1 va_S.rf hown (hts _ pm_w_f15) (fun x h => h) pm_yk_7 ?_
  refine lv_goto (tgt := 14) hx hb pm_yk_10 (by decide) ?_
  exact W.zret hx hb hr rfl (fun t ht hW => ⟨rfl, ht⟩) (fun q hq => by cases hq) pm_yk_14 hlk
theorem pm_c_latin (l : Launch) (G : pm_G) {i : Nat} (hi : i < 3) : Met l pm_yi (pm_wy pm_yi prog_16_method_154_code 1 (some .boolean)) (pm_rt 1) (va_Pc [.ref (G.2.1 i)] (pm_BZ G)) (pm_QT (some (.int 1))) 0 0 (fun _ => False) := by
  refine pm_tmet (by decide +kernel) (Nat.le_refl _) ?_
  intro p e s m args below meth c hx hb hr hml hown hts hlk hB ls hl
  obtain ⟨⟨adV, hS, -⟩, z1, -⟩ := id hB
  refine va_gets hx hb z1 va_S.rf hown (hts _ pm_w_f38) (fun x h => h) pm_yi_0 ?_
  refine lv_if_eq (tgt := 17) hx hb pm_yi_3 (by decide) (fun z => absurd z (by decide)) (fun _ => ?_)
  refine lv_aload_n hx hb pm_yi_6 rfl (lv_at hl 0 rfl) ?_
  refine vk_getf hx hb (hS i hi).2.1 va_S.rf hown (hts _ pm_w_f15) (fun x h => h) pm_yi_7 ?_
  refine lv_if_ne (tgt := 17) hx hb pm_yi_10 (by decide) (fun z => absurd rfl z) (fun _ => ?_)
  refine lv_iconst (v := 1) hx hb pm_yi_13 (by decide) ?_
  refine lv_goto (tgt := 18) hx hb pm_yi_14 (by decide) ?_
  exact W.zret hx hb hr rfl (fun t ht hW => ⟨rfl, ht⟩) (fun q hq => by cases hq) pm_yi_18 hlk
theorem pm_recvT {G : pm_G} {s : State} (hB : pm_BZ G s) {i : Nat} (hi : i < 3) : ∃ cellB : Cell, s.heap[G.2.1 i]? = some cellB ∧ cellB.vm.isStatics = false ∧ s.vm.findClass "java/lang/String" = some cellB.cls := by
  obtain ⟨⟨adV, hS, -⟩, -⟩ := id hB
  obtain ⟨cell, h1, h2, h3, -⟩ := (hS i hi).1
  exact ⟨cell, h1, h2, h3⟩
theorem pm_c_len (l : Launch) (G : pm_G) {i : Nat} (hi : i < 3) : Met l pm_yl (pm_wy pm_yl prog_16_method_54_code 1 (some .int)) (pm_rt 2) (va_Pc [.ref (G.2.1 i)] (pm_BZ G)) (pm_QT (some (.int (nI (pm_txt i).length)))) 0 0 (fun _ => False) := by
  refine pm_tmet (by decide +kernel) (Nat.le_refl _) ?_
  intro p e s m args below meth c hx hb hr hml hown hts hlk hB ls hl
  obtain ⟨⟨adV, hS, -⟩, z1, -⟩ := id hB
  have eL : ([pm_len 0, pm_len 1, pm_len 2] : List Nat).getD i 0 = (pm_txt i).length := by
    rcases (show i = 0 ∨ i = 1 ∨ i = 2 by omega) with rfl | rfl | rfl <;> rfl
  refine lv_aload_n hx hb pm_yl_0 rfl (lv_at hl 0 rfl) ?_
  refine vk_getf hx hb (hS i hi).2.2.1 va_S.rf hown (hts _ pm_w_f9) (fun x h => h) pm_yl_1 ?_
  refine va_tlen hx hb (hS i hi).2.2.2 va_S.rf (v := nI (pm_txt i).length) (by rw [eL]; rfl) pm_yl_4 ?_
  refine lv_aload_n hx hb pm_yl_5 rfl (lv_at hl 0 rfl) ?_
  refine pm_afterT (va_runV (C := "java/lang/String") (b := G.2.1 i) (As := []) (rest := [.int (nI (pm_txt i).length)]) ⟨hx, hb, hml, hown, hts⟩ (pm_c_coder l G hi) ⟨callB_of 0 hts (pm_wy_good pm_w_cyk) rfl rfl rfl (hts _ pm_w_n0) (hts _ pm_w_m335) (by decide +kernel) ⟨by decide, by decide⟩, hts _ pm_w_iyk, hts _ pm_w_eyk⟩ ⟨pm_blindT pm_BZ.same, pm_recvT hB hi, pm_BZ.pre hB va_S.rf⟩ rfl rfl hl.1 rfl (lv_room (Nat.le_of_ble_eq_true rfl)) pm_yl_6 ⟨Nat.zero_le _, Nat.zero_le _⟩) ?_
  refine lv_ishr hx hb pm_yl_9 ?_
  rw [sb_shr0]
  exact W.iret hx hb hr (fun t ht hW => ⟨rfl, ht⟩) (fun q hq => by cases hq) pm_yl_10 hlk
theorem pm_c_pre (l : Launch) (B : State → Prop) {x n : Int32} {z : Value} (hx0 : 0 ≤ x) (hxn : x < n) (hz : z.category = 1) : Met l pm_yp (pm_wy pm_yp prog_19_method_11_code 3 (some .int)) (pm_rt 1) (va_Pc [.int x, .int n, z] B) (pm_QT (some (.int x))) 0 0 (fun _ => False) := by
  refine pm_tmet (by decide +kernel) (by unfold lg_sl; rw [List.flatMap_cons, List.flatMap_cons, List.flatMap_cons, List.flatMap_nil, if_neg (show ¬ z.category = 2 by rw [hz]; decide)]; exact Nat.le_refl _) ?_
  intro p e s m args below meth c hx hb hr hml hown hts hlk hB ls hl
  refine lv_iload_n hx hb pm_yp_0 rfl (lv_at hl 0 rfl) ?_
  refine lv_if_lt (tgt := 9) hx hb pm_yp_1 (by decide) (fun q => absurd hx0 (Int32.not_le.mpr q)) (fun _ => ?_)
  refine lv_iload_n hx hb pm_yp_4 rfl (lv_at hl 0 rfl) ?_
  refine lv_iload_n hx hb pm_yp_5 rfl (lv_at hl 1 rfl) ?_
  refine lv_icmp_lt (tgt := 16) hx hb pm_yp_6 (by decide) (fun _ => ?_) (fun q => absurd hxn q)
  refine lv_iload_n hx hb pm_yp_16 rfl (lv_at hl 0 rfl) ?_
  exact W.iret hx hb hr (fun t ht hW => ⟨rfl, ht⟩) (fun q hq => by cases hq) pm_yp_17 hlk
theorem pm_c_chk (l : Launch) (G : pm_G) {x n : Int32} (hx0 : 0 ≤ x) (hxn : x < n) : Met l pm_yx (pm_wy pm_yx prog_16_method_155_code 2 none) (pm_rt 2) (va_Pc [.int x, .int n] (pm_BZ G)) (pm_QT none) 0 0 (fun _ => False) := by
  refine pm_tmet (by decide +kernel) (Nat.le_refl _) ?_
  intro p e s m args below meth c hx hb hr hml hown hts hlk hB ls hl
  obtain ⟨-, -, z2, -⟩ := id hB
  have key : ∀ z : Value, z.category = 1 → va_Z "jdk/internal/util/Preconditions" "SIOOBE_FORMATTER" "Ljava/util/function/BiFunction;" z (pm_A G) s s.heap → W p l e (pm_rt 2) s m args below meth c s.heap [] 0 0 (MQ below (pm_QT none) args s 0 0 (fun _ => False)) (F0 m 0 ls []) := by
    intro z hz hZ
    refine lv_iload_n hx hb pm_yx_0 rfl (lv_at hl 0 rfl) ?_
    refine lv_iload_n hx hb pm_yx_1 rfl (lv_at hl 1 rfl) ?_
    refine va_gets hx hb hZ va_S.rf hown (hts _ pm_w_f1053) (fun x h => h) pm_yx_2 ?_
    refine pm_afterT (va_runS (As := [.int x, .int n, z]) (rest := []) ⟨hx, hb, hml, hown, hts⟩ (pm_c_pre l (fun _ => True) hx0 hxn hz) ⟨callB_of 3 hts (pm_wy_good pm_w_cyp) rfl rfl rfl (hts _ pm_w_n3) (hts _ pm_w_m1059) (by decide +kernel) ⟨by decide, by decide⟩, hts _ pm_w_syp⟩ ⟨pm_blindT (fun _ _ _ _ h => h), fun U hU hW => ⟨rfl, trivial⟩⟩ rfl rfl hl.1 rfl (lv_room (Nat.le_of_ble_eq_true rfl)) pm_yx_5 ⟨Nat.zero_le _, Nat.zero_le _⟩) ?_
    refine lv_pop hx hb pm_yx_8 rfl ?_
    exact W.vret hx hb hr (fun t ht hW => ⟨rfl, ht⟩) (fun q hq => by cases hq) pm_yx_9 hlk
  rcases z2 with hZ | ⟨t, hZ⟩
  · exact key _ rfl hZ
  · exact key _ rfl hZ
def pm_BT (G : pm_G) (a N : Nat) (f : Nat → Value) : State → Prop := fun U => pm_Z G U U.heap ∧ va_T .byte a N f (pm_A G) U U.heap
theorem pm_BT.same {G : pm_G} {a N : Nat} {f : Nat → Value} : ∀ U U' : State, U'.vm = U.vm → U'.heap = U.heap → pm_BT G a N f U → pm_BT G a N f U' := by
  intro U U' hv hh h
  refine ⟨pm_BZ.same U U' hv hh h.1, ?_⟩
  rw [hh]
  exact va_T.moved (by rw [hv]; exact Vm.Alike.refl _) h.2
theorem pm_c_ch1 (l : Launch) (G : pm_G) {a i : Nat} {x : Int32} (hi : i < 3) (hx0 : 0 ≤ x) (hxn : x < nI (pm_txt i).length) (hxc : x.toNatClampNeg < (pm_txt i).length) : Met l pm_y1 (pm_wy pm_y1 prog_17_method_2_code 2 (some .char)) (pm_rt 3) (va_Pc [.ref a, .int x] (pm_BT G a (pm_txt i).length (fun j => .int ((pm_byt.getD i []).getD j 0)))) (pm_QT (some (.int (nI ((pm_txt i).getD x.toNatClampNeg 0))))) 0 0 (fun _ => False) := by
  refine pm_tmet (by decide +kernel) (Nat.le_refl _) ?_
  intro p e s m args below meth c hx hb hr hml hown hts hlk hB ls hl
  obtain ⟨q1, q2, q3⟩ := pm_chr i hi x.toNatClampNeg hxc
  refine lv_iload_n hx hb pm_y1_0 rfl (lv_at hl 1 rfl) ?_
  refine lv_aload_n hx hb pm_y1_1 rfl (lv_at hl 0 rfl) ?_
  refine va_tlen hx hb hB.2 va_S.rf (v := nI (pm_txt i).length) rfl pm_y1_2 ?_
  refine pm_afterT (va_runS (As := [.int x, .int (nI (pm_txt i).length)]) (rest := []) ⟨hx, hb, hml, hown, hts⟩ (pm_c_chk l G hx0 hxn) ⟨callB_of 2 hts (pm_wy_good pm_w_cyx) rfl rfl rfl (hts _ pm_w_n0) (hts _ pm_w_m9) (by decide +kernel) ⟨by decide, by decide⟩, hts _ pm_w_syx⟩ ⟨pm_blindT pm_BZ.same, pm_BZ.pre hB.1 va_S.rf⟩ rfl rfl hl.1 rfl (lv_room (Nat.le_of_ble_eq_true rfl)) pm_y1_3 ⟨Nat.zero_le _, Nat.zero_le _⟩) ?_
  refine lv_aload_n hx hb pm_y1_6 rfl (lv_at hl 0 rfl) ?_
  refine lv_iload_n hx hb pm_y1_7 rfl (lv_at hl 1 rfl) ?_
  refine va_tb hx hb hB.2 va_S.rf (i := x) (fun q => by rcases q with q | q; exact absurd hx0 (Int32.not_le.mpr q); omega) rfl pm_y1_8 ?_
  refine lv_sipush (v := 255) hx hb pm_y1_9 (by decide) ?_
  refine lv_iand hx hb pm_y1_12 ?_
  refine lv_i2c hx hb pm_y1_13 q1 ?_
  exact W.zret hx hb hr q2 (fun t ht hW => ⟨rfl, ht⟩) (fun q hq => by cases hq) pm_y1_14 hlk
theorem pm_c_chr (l : Launch) (G : pm_G) {i : Nat} {x : Int32} (hi : i < 3) (hx0 : 0 ≤ x) (hxn : x < nI (pm_txt i).length) (hxc : x.toNatClampNeg < (pm_txt i).length) : Met l pm_yc (pm_wy pm_yc prog_16_method_56_code 2 (some .char)) (pm_rt 4) (va_Pc [.ref (G.2.1 i), .int x] (pm_BZ G)) (pm_QT (some (.int (nI ((pm_txt i).getD x.toNatClampNeg 0))))) 0 0 (fun _ => False) := by
  refine pm_tmet (by decide +kernel) (Nat.le_refl _) ?_
  intro p e s m args below meth c hx hb hr hml hown hts hlk hB ls hl
  obtain ⟨⟨adV, hS, -⟩, z1, -⟩ := id hB
  obtain ⟨q1, q2, q3⟩ := pm_chr i hi x.toNatClampNeg hxc
  have eL : ([pm_len 0, pm_len 1, pm_len 2] : List Nat).getD i 0 = (pm_txt i).length := by
    rcases (show i = 0 ∨ i = 1 ∨ i = 2 by omega) with rfl | rfl | rfl <;> rfl
  have hT := (hS i hi).2.2.2
  rw [eL] at hT
  refine lv_aload_n hx hb pm_yc_0 rfl (lv_at hl 0 rfl) ?_
  refine pm_afterT (va_runV (C := "java/lang/String") (b := G.2.1 i) (As := []) (rest := []) ⟨hx, hb, hml, hown, hts⟩ (pm_c_latin l G hi) ⟨callB_of 0 hts (pm_wy_good pm_w_cyi) rfl rfl rfl (hts _ pm_w_n0) (hts _ pm_w_m492) (by decide +kernel) ⟨by decide, by decide⟩, hts _ pm_w_iyi, hts _ pm_w_eyi⟩ ⟨pm_blindT pm_BZ.same, pm_recvT hB hi, pm_BZ.pre hB va_S.rf⟩ rfl rfl hl.1 rfl (lv_room (Nat.le_of_ble_eq_true rfl)) pm_yc_1 ⟨Nat.zero_le _, Nat.zero_le _⟩) ?_
  refine lv_if_eq (tgt := 16) hx hb pm_yc_4 (by decide) (fun z => absurd z (by decide)) (fun _ => ?_)
  refine lv_aload_n hx hb pm_yc_7 rfl (lv_at hl 0 rfl) ?_
  refine vk_getf hx hb (hS i hi).2.2.1 va_S.rf hown (hts _ pm_w_f9) (fun x h => h) pm_yc_8 ?_
  refine lv_iload_n hx hb pm_yc_11 rfl (lv_at hl 1 rfl) ?_
  refine pm_afterT (va_runS (As := [.ref (adV i), .int x]) (rest := []) ⟨hx, hb, hml, hown, hts⟩ (pm_c_ch1 l G hi hx0 hxn hxc) ⟨callB_of 2 hts (pm_wy_good pm_w_cy1) rfl rfl rfl (hts _ pm_w_n1) (hts _ pm_w_m495) (by decide +kernel) ⟨by decide, by decide⟩, hts _ pm_w_sy1⟩ ⟨pm_blindT pm_BT.same, fun U hU hW => ⟨rfl, (pm_BZ.pre (av := []) hB va_S.rf U hU hW).2, by rw [hU]; exact va_T.moved hW.alike hT⟩⟩ rfl rfl hl.1 rfl (lv_room (Nat.le_of_ble_eq_true rfl)) pm_yc_12 ⟨Nat.zero_le _, Nat.zero_le _⟩) ?_
  exact W.zret hx hb hr q2 (fun t ht hW => ⟨rfl, ht⟩) (fun q hq => by cases hq) pm_yc_15 hlk
theorem pm_recvH {G : pm_G} {s : State} {H : Heap} {locs : List Loc} (hB : pm_BZ G s) (hS : va_S (pm_A G) s.heap H locs) {i : Nat} (hi : i < 3) : ∃ cellB : Cell, H[G.2.1 i]? = some cellB ∧ cellB.vm.isStatics = false ∧ s.vm.findClass "java/lang/String" = some cellB.cls := by
  obtain ⟨⟨adV, h, -⟩, -⟩ := id hB
  obtain ⟨cell, h1, h2, h3, h4⟩ := (h i hi).1
  exact ⟨cell, by rw [hS.2.1 _ (Array.getElem?_eq_some_iff.mp h1).1 h4]; exact h1, h2, h3⟩
theorem pm_preT {G : pm_G} {s : State} {H : Heap} {locs : List Loc} {av : List Value} (hZ : pm_Z G s s.heap) (hS : va_S (pm_A G) s.heap H locs) : ∀ U : State, U.heap = H → s.WarmedH U.vm → va_Pc av (pm_BZ G) av.toArray U := by
  intro U hU hW
  refine ⟨rfl, ?_⟩
  show pm_Z G U U.heap
  rw [hU]
  exact hZ.go hW hS.2.1
theorem pm_txt_ok {p : Program} {l : Launch} {e : Env} {R : Room} {s : State} {m : MethodId} {args : Array Value} {below : List Frame} {meth : Method} {c : Code} {H : Heap} {locs : List Loc} {Q : State → Prop} {G : pm_G} {cells slots y d mm j pc : Nat} {ls : Array Slot} {L : pm_L} {st rest : List Value} {v : Value} {w : pm_W}
    (F : pm_Fr y d p R s m args meth c) (T : pm_At G s w H locs) (hl : lv_has ls (pm_ml y) (pm_ph G L)) (ht : pm_txtOp mm st = some (v, rest)) (hd : 9 < d) (D : decode (pm_bytes y) pc = .ok (.invokevirtual j, 3)) (hw : (cond (Nat.beq 0 0) (Jvm.Cond.methodLink (pm_on (pm_own y)) j (pm_mnm mm)) (Jvm.Cond.methodLinkNest (pm_on (pm_own y)) j (pm_mnm mm) "ProofBench")) ∈ lw_tbl) (hc : cells ≤ R.cells) (hs : slots ≤ R.slots)
    (kk : W p l e R s m args below meth c H locs cells slots Q (F0 m (pc + 3) ls ((v :: rest).map (pm_v G)))) : W p l e R s m args below meth c H locs cells slots Q (F0 m pc ls (st.map (pm_v G))) := by
  obtain ⟨hx, hb, hr, hml, hown, hts, hlk, hnm, hfr, hlo, hy⟩ := F
  have al : ∀ r : Nat, ¬ r < pm_S0 → pm_al G r = G.2.1 (r - pm_S0) := fun r h => if_neg h
  unfold pm_txtOp at ht
  split at ht
  · next r rest2 =>
    obtain ⟨h1, ht⟩ := pm_ct ht
    cases ht
    simp only [Bool.and_eq_true, Bool.not_eq_true'] at h1
    obtain ⟨⟨h1, h2, h3⟩, h4⟩ := h1
    rw [Nat.eq_of_beq_eq_true h1] at hw
    have h2 : r < pm_S0 + 3 := Nat.le_of_ble_eq_true h2
    have h3 : ¬ r < pm_S0 := fun q => by rw [show Nat.blt r pm_S0 = true from Nat.ble_eq_true_of_le q] at h3; cases h3
    have hi : r - pm_S0 < 3 := Nat.sub_lt_left_of_lt_add (Nat.not_lt.mp h3) h2
    have hroom := lv_room (m := m) (pc := pc) (ls := ls) (rest := (Value.ref r :: rest).map (pm_v G)) (st := rest.map (pm_v G)) (by rw [List.map_map]; exact pm_catsC G h4)
    have ea : (Value.ref r :: rest).map (pm_v G) = ([] : List Value).reverse ++ .ref (G.2.1 (r - pm_S0)) :: rest.map (pm_v G) := by
      show Value.ref (pm_al G r) :: _ = _
      rw [al r h3]
      rfl
    rw [ea] at hroom ⊢
    exact pm_afterT (va_runV (C := "java/lang/String") (b := G.2.1 (r - pm_S0)) (As := []) (rest := rest.map (pm_v G)) ⟨hx, hb, hml, hown, hts⟩ (pm_c_len l G hi) ⟨callB_of 0 hts (pm_wy_good pm_w_cyl) rfl rfl rfl (hts _ pm_w_n0) (hts _ (pm_gw_in hw rfl)) (by decide +kernel) ⟨by show 2 + 1 ≤ _; omega, by show 8 + (1 + 11) + 30 * 2 ≤ _; omega⟩, hts _ pm_w_iyl, hts _ pm_w_eyl⟩ ⟨pm_blindT pm_BZ.same, pm_recvH T.2.2.2 T.2.2.1 hi, pm_preT T.2.2.2 T.2.2.1⟩ rfl rfl hl.1 rfl hroom D ⟨hc, hs⟩) kk
  · next x r rest2 =>
    obtain ⟨h1, ht⟩ := pm_ct ht
    cases ht
    simp only [Bool.and_eq_true, Bool.not_eq_true'] at h1
    obtain ⟨⟨⟨h1, h2, h3⟩, h5⟩, h4⟩ := h1
    rw [Nat.eq_of_beq_eq_true h1] at hw
    have h2 : r < pm_S0 + 3 := Nat.le_of_ble_eq_true h2
    have h3 : ¬ r < pm_S0 := fun q => by rw [show Nat.blt r pm_S0 = true from Nat.ble_eq_true_of_le q] at h3; cases h3
    have hi : r - pm_S0 < 3 := Nat.sub_lt_left_of_lt_add (Nat.not_lt.mp h3) h2
    have hin := pm_in_ok h5
    have hx0 : 0 ≤ x := Int32.not_lt.mp (fun q => hin (Or.inl q))
    have hxc : x.toNatClampNeg < (pm_txt (r - pm_S0)).length := Nat.not_le.mp (fun q => hin (Or.inr q))
    have hxn : x < nI (pm_txt (r - pm_S0)).length := by
      have q3 := (pm_chr _ hi _ hxc).2.2
      obtain ⟨k, hk, ek⟩ := vp_in_of hin (by omega)
      rw [ek]
      exact nI_lt hk (by omega)
    have hroom := lv_room (m := m) (pc := pc) (ls := ls) (rest := (Value.int x :: Value.ref r :: rest).map (pm_v G)) (st := rest.map (pm_v G)) (by rw [List.map_map]; exact pm_catsC G h4)
    have ea : (Value.int x :: Value.ref r :: rest).map (pm_v G) = ([.int x] : List Value).reverse ++ .ref (G.2.1 (r - pm_S0)) :: rest.map (pm_v G) := by
      show Value.int x :: Value.ref (pm_al G r) :: _ = _
      rw [al r h3]
      rfl
    rw [ea] at hroom ⊢
    exact pm_afterT (va_runV (C := "java/lang/String") (b := G.2.1 (r - pm_S0)) (As := [.int x]) (rest := rest.map (pm_v G)) ⟨hx, hb, hml, hown, hts⟩ (pm_c_chr l G hi hx0 hxn hxc) ⟨callB_of 1 hts (pm_wy_good pm_w_cyc) rfl rfl rfl (hts _ pm_w_n0) (hts _ (pm_gw_in hw rfl)) (by decide +kernel) ⟨by show 4 + 1 ≤ _; omega, by show 8 + (2 + 11) + 30 * 4 ≤ _; omega⟩, hts _ pm_w_iyc, hts _ pm_w_eyc⟩ ⟨pm_blindT pm_BZ.same, pm_recvH T.2.2.2 T.2.2.1 hi, pm_preT T.2.2.2 T.2.2.1⟩ rfl rfl hl.1 rfl hroom D ⟨hc, hs⟩) kk
  · cases ht
