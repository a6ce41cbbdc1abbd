set_option maxRecDepth 100000
section
variable {b : Nat} {h : tx_H} {l : List Nat} {s0 : ps_S} {R : Int32 → ps_S → Prop}
theorem fm_287_77 {r : List Nat} {i p e rt : Nat} {B : Nat → Option (List Nat)} {x3 : Int32} (hb : b < 2) (hi8 : i < 8) (W0 : mv_W s0 25789 l) (Wr0 : mv_W s0 (21812 + 41 * (8 * b + i)) r) (h3 : x3.toInt = (21812 + 41 * (8 * b + i) : Nat)) (hv : ∀ c, c ∈ r → c < 60) (hB : ∀ c, c ∈ r.drop rt → 40 ≤ c → ∃ U, B (c - 40) = some U) (h65 : (ps_i s0 1131 65).toInt = e) (b0 : BNm s0 l B) (hel : e ≤ l.length) (k : ∀ s', mk_M s' (l.take p ++ rw_r B (r.drop rt) ++ l.drop e) → kq [1149] [34] s0 s' → R 1 s') : ∀ (n : Nat) {s : ps_S} {x4 : Int32} {j : Nat} {L : List Nat}, x4.toInt = j → rt ≤ j → j ≤ r.length → mk_M s (l.take p ++ L) → L.length ≤ 40 * j → rw_r B (r.drop rt) = L ++ rw_r B (r.drop j) → kq [1149] [34] s0 s → pl_At n 287 77 [(0, .ref 1131), (3, .int x3), (4, .int x4)] [] s (ps_rI R)
  | 0, _, _, _, _, _, _, _, _, _, _, _ => pl_At_0
  | n + 1, s, x4, j, L, h4, hj, hjr, M, hL40, hL, K => by
    have hl40 := W0.2.1
    have hr40 := Wr0.2.1
    have c40 : (40 : Int32).toInt = 40 := by decide
    have Wl := mv_W_kq W0 K (by decide)
    have Wr := mv_W_kq Wr0 K (by decide)
    have hlen : (l.take p ++ L).length < 50000 := by
      rw [List.length_append, List.length_take]
      omega
    refine pl_287_77 ?_
    refine fm_219c h3 Wr (fun v1 q1 => ⟨fun z => ?_, fun z => ?_⟩)
    · have z := xle z
      have ej : j = r.length := by omega
      rw [ej, List.drop_length] at hL
      have hL : rw_r B (r.drop rt) = L := by rw [hL]; exact List.append_nil _
      refine fm_219c (to := 25789) (by decide) Wl (fun v2 q2 => ?_)
      have e65 : (ps_i s 1131 65).toInt = e := by rw [kq_i K 65 rfl]; exact h65
      refine fm_226 (to := 25789) (a := e) (b := l.length) (by decide) (by decide) Wl M e65 q2 (Nat.le_refl _) hlen (fun s3 M3 K3 => k s3 ?_ (kqt K K3 (by decide) (by decide)))
      rw [hL]
      have ee : (l.drop e).take (l.length - e) = l.drop e := List.take_of_length_le (by rw [List.length_drop]; omega)
      rw [ee] at M3
      exact M3
    · have z := xlt z
      obtain ⟨c, hc⟩ : ∃ c, r[j]? = some c := ⟨_, List.getElem?_eq_getElem (by omega)⟩
      have hcm := List.mem_of_getElem? hc
      have hcd : c ∈ r.drop rt := List.mem_iff_getElem?.mpr ⟨j - rt, by rw [List.getElem?_drop, show rt + (j - rt) = j from by omega]; exact hc⟩
      have c60 := hv c hcm
      rw [drop_c hc] at hL
      refine fm_220c h3 (by omega) Wr h4 hc (fun v4 q4 => ⟨fun y => ?_, fun y => ?_⟩)
      · have y := xle y
        have h40 : 40 ≤ c := by omega
        have ex : (v4 - 40).toInt = (c - 40 : Nat) := by rw [xIs (by omega) (by omega), q4, c40]; omega
        obtain ⟨U, hU⟩ := hB c hcd h40
        rw [rw_r_v h40 hU] at hL
        intro b1 b2
        rw [xtn ex]
        rcases b0 (c - 40) (by omega) with ⟨y1, -⟩ | ⟨a, bb, y1, y2, y3, y4, y5⟩
        · rw [hU] at y1; cases y1
        · rw [hU] at y5
          have eU := Option.some.inj y5
          refine fm_226 (to := 25789) (a := a) (b := bb) (by decide) (by decide) Wl M (by rw [kq_a K 1167 (by decide)]; exact y1) (by rw [kq_a K 1168 (by decide)]; exact y2) y4 hlen (fun s2 M2 K2 => ?_)
          rw [← eU, List.append_assoc] at M2
          have hUl : U.length ≤ 40 := by
            rw [eU, List.length_take, List.length_drop]
            omega
          exact fm_287_77 hb hi8 W0 Wr0 h3 hv hB h65 b0 hel k n (L := L ++ U) (xj1 h4 (by omega)) (by omega) (by omega) M2 (by rw [List.length_append]; omega) (by rw [hL, List.append_assoc]) (kqt K K2 (by decide) (by decide))
      · have y := xlt y
        have h40 : ¬ 40 ≤ c := by omega
        rw [rw_r_c h40] at hL
        refine fm_225 M q4 (by omega) (fun s2 M2 K2 => ?_)
        rw [List.append_assoc] at M2
        exact fm_287_77 hb hi8 W0 Wr0 h3 hv hB h65 b0 hel k n (L := L ++ [c]) (xj1 h4 (by omega)) (by omega) (by omega) M2 (by rw [List.length_append, List.length_singleton]; omega) (by rw [hL, List.append_assoc]; rfl) (kqt K K2 (by decide) (by decide))

end
