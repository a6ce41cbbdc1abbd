set_option maxRecDepth 100000
theorem pg_193_158 {d : Nat} {l0 : Int64} {x2 : Int32} {s : ps_S} {Q : Option Value → ps_S → Prop} (h :
  (x2 ≠ 0 →
    Q (some (.int 1)) s) ∧
  (x2 = 0 →
    ((1 : Int32) ≠ 0 →
      Q (some (.int 1)) s) ∧
    ((1 : Int32) = 0 →
      ((lg_cmp l0 (418498243705 : Int64)) = 0 →
        Q (some (.int 1)) s) ∧
      ((lg_cmp l0 (418498243705 : Int64)) ≠ 0 →
        ((lg_cmp l0 (29103447424000364 : Int64)) = 0 →
          Q (some (.int 1)) s) ∧
        ((lg_cmp l0 (29103447424000364 : Int64)) ≠ 0 →
          ((lg_cmp l0 (32493203083583852 : Int64)) = 0 →
            Q (some (.int 1)) s) ∧
          ((lg_cmp l0 (32493203083583852 : Int64)) ≠ 0 →
            ((lg_cmp l0 (435811873652 : Int64)) = 0 →
              Q (some (.int 1)) s) ∧
            ((lg_cmp l0 (435811873652 : Int64)) ≠ 0 →
              ((lg_cmp l0 (1869636974 : Int64)) = 0 →
                Q (some (.int 1)) s) ∧
              ((lg_cmp l0 (1869636974 : Int64)) ≠ 0 →
                ((lg_cmp l0 (32199680874079077 : Int64)) = 0 →
                  Q (some (.int 1)) s) ∧
                ((lg_cmp l0 (32199680874079077 : Int64)) ≠ 0 →
                  ((lg_cmp l0 (107075471766116 : Int64)) = 0 →
                    Q (some (.int 1)) s) ∧
                  ((lg_cmp l0 (107075471766116 : Int64)) ≠ 0 →
                    ((lg_cmp l0 (27985188498925923 : Int64)) = 0 →
                      Q (some (.int 1)) s) ∧
                    ((lg_cmp l0 (27985188498925923 : Int64)) ≠ 0 →
                      ((lg_cmp l0 (110386639889253 : Int64)) ≠ 0 →
                        Q (some (.int 0)) s) ∧
                      ((lg_cmp l0 (110386639889253 : Int64)) = 0 →
                        Q (some (.int 1)) s)))))))))))) : ps_At d 193 158 [(0, .long l0), (2, .int x2)] [] s Q :=
  ps_wp_at (stops := [(80, [0]), (158, [0, 2])]) (n := 80) h rfl

