/-! (goes on) -/
theorem c_order2 {d : Nat} {I : Nat → Nat → Int32} {J : Nat → Nat → Int64} {v w : Nat} (hv : v ≤ 99) (hw : w ≤ 99)  (hd : 9 ≤ d) : RV d 135 [.ref 0, .int (nI v), .int (nI w), .int (nI 2)] I J (zI (ordT v w)) := by
  refine RV.in (d0 := 8) hd mt_135 (Nat.le_of_ble_eq_true rfl) (fun d' hd' => ?_)
  have g1 := gn_le (a := 0) (b := 0) hv hw; have g2 := gn_le (a := 0) (b := 1) hv hw; have g3 := gn_le (a := 1) (b := 0) hv hw; have g4 := gn_le (a := 1) (b := 1) hv hw
  show EV none M_X10_order d' 0 [(0, .ref 0), (1, .int (nI v)), (2, .int (nI w)), (3, .int (nI 2))] [] (hp I J) _
  refine EV.l (lv' := [(0, _), (1, _), (2, _), (3, _)]) r_X10_order_0 rfl ?_
  refine EV.l (lv' := [(0, _), (1, _), (2, _), (3, _)]) r_X10_order_1 rfl ?_
  refine EV.n0_lt r_X10_order_2 (fun h2 => ?_) (fun h2 => ?_)
  · -- 2 t
    refine EV.o r_X10_order_34 (icN (0) (v := 0)) ?_
    omega
  · -- 2 f
    refine EV.l (lv' := [(0, _), (1, _), (2, _), (3, _)]) r_X10_order_5 rfl ?_
    refine EV.o r_X10_order_6 (bpN (99) 99) ?_
    refine EV.n2_gt r_X10_order_8 (fun h8 => ?_) (fun h8 => ?_)
    · -- 8 t
      refine EV.o r_X10_order_34 (icN (0) (v := 0)) ?_
      omega
    · -- 8 f
      refine EV.l (lv' := [(0, _), (1, _), (2, _), (3, _)]) r_X10_order_11 rfl ?_
      refine EV.n0_lt r_X10_order_12 (fun h12 => ?_) (fun h12 => ?_)
      · -- 12 t
        refine EV.o r_X10_order_34 (icN (0) (v := 0)) ?_
        omega
      · -- 12 f
        refine EV.l (lv' := [(0, _), (1, _), (2, _), (3, _)]) r_X10_order_15 rfl ?_
        refine EV.o r_X10_order_16 (bpN (99) 99) ?_
        refine EV.n2_gt r_X10_order_18 (fun h18 => ?_) (fun h18 => ?_)
        · -- 18 t
          refine EV.o r_X10_order_34 (icN (0) (v := 0)) ?_
          omega
        · -- 18 f
          refine EV.l (lv' := [(0, _), (1, _), (2, _), (3, _)]) r_X10_order_21 rfl ?_
          refine EV.n0_lt r_X10_order_22 (fun h22 => ?_) (fun h22 => ?_)
          · omega
          · -- 22 f
            refine EV.l (lv' := [(0, _), (1, _), (2, _), (3, _)]) r_X10_order_25 rfl ?_
            refine EV.o r_X10_order_26 (icN (2) (v := 2)) ?_
            refine EV.n2_gt r_X10_order_27 (fun h27 => ?_) (fun h27 => ?_)
            · omega
            · -- 27 f
              refine EV.o r_X10_order_30 (icN (1) (v := 1)) ?_
              refine EV.g r_X10_order_31 ?_
              refine EV.cu r_X10_order_35 (aV1 mt_159 la_0) (c_arg1 (by omega)) (fun I2 e2 => ?_)
              have e2 := e2.symm; subst e2
              refine EV.o r_X10_order_38 (icN (0) (v := 0)) ?_
              refine EV.l (lv' := [(0, _), (1, _), (2, _), (3, _), (4, _)]) r_X10_order_39 rfl ?_
              refine EV.o r_X10_order_41 (icZ (-1)) ?_
              refine EV.l (lv' := [(0, _), (1, _), (2, _), (3, _), (4, _), (5, _)]) r_X10_order_42 rfl ?_
              refine EV.o r_X10_order_44 (icN (0) (v := 0)) ?_
              refine EV.l (lv' := [(0, _), (1, _), (2, _), (3, _), (4, _), (5, _), (6, _)]) r_X10_order_45 rfl ?_
              refine EV.o r_X10_order_47 (icN (0) (v := 0)) ?_
              refine EV.l (lv' := [(0, _), (1, _), (2, _), (3, _), (4, _), (5, _), (6, _), (7, _)]) r_X10_order_48 rfl ?_
              refine EV.l (lv' := [(0, _), (1, _), (2, _), (3, _), (4, _), (5, _), (6, _), (7, _)]) r_X10_order_50 rfl ?_
              refine EV.o r_X10_order_52 (icN (1) (v := 1)) ?_
              refine EV.n2_gt r_X10_order_53 (fun h53 => ?_) (fun h53 => ?_)
              · omega
              · -- 53 f
                refine EV.o r_X10_order_56 (icN (0) (v := 0)) ?_
                refine EV.l (lv' := [(0, _), (1, _), (2, _), (3, _), (4, _), (5, _), (6, _), (7, _), (8, _)]) r_X10_order_57 rfl ?_
                refine EV.l (lv' := [(0, _), (1, _), (2, _), (3, _), (4, _), (5, _), (6, _), (7, _), (8, _)]) r_X10_order_59 rfl ?_
                refine EV.o r_X10_order_61 (icN (1) (v := 1)) ?_
                refine EV.n2_gt r_X10_order_62 (fun h62 => ?_) (fun h62 => ?_)
                · omega
                · -- 62 f
                  refine EV.l (lv' := [(0, _), (1, _), (2, _), (3, _), (4, _), (5, _), (6, _), (7, _), (8, _)]) r_X10_order_65 rfl ?_
                  refine EV.l (lv' := [(0, _), (1, _), (2, _), (3, _), (4, _), (5, _), (6, _), (7, _), (8, _)]) r_X10_order_66 rfl ?_
                  refine EV.l (lv' := [(0, _), (1, _), (2, _), (3, _), (4, _), (5, _), (6, _), (7, _), (8, _)]) r_X10_order_67 rfl ?_
                  refine EV.l (lv' := [(0, _), (1, _), (2, _), (3, _), (4, _), (5, _), (6, _), (7, _), (8, _)]) r_X10_order_69 rfl ?_
                  refine EV.cv r_X10_order_71 (aS4 mt_167) (c_isRest (by omega) (by omega) (by omega) (by omega) (by omega)) ?_
                  refine EV.b0_eq r_X10_order_74 (fun h74 => ?_) (fun h74 => ?_)
                  · -- 74 t
                    refine EV.l (lv' := [(0, _), (1, _), (2, _), (3, _), (4, _), (5, _), (6, _), (7, _), (8, _)]) r_X10_order_116 rfl ?_
                    rw [inc_lit (m := 1) rfl]
                    refine EV.g r_X10_order_119 ?_
                    refine EV.l (lv' := [(0, _), (1, _), (2, _), (3, _), (4, _), (5, _), (6, _), (7, _), (8, _)]) r_X10_order_59 rfl ?_
                    refine EV.o r_X10_order_61 (icN (1) (v := 1)) ?_
                    refine EV.n2_gt r_X10_order_62 (fun h62 => ?_) (fun h62 => ?_)
                    · omega
                    · -- 62 f
                      refine EV.l (lv' := [(0, _), (1, _), (2, _), (3, _), (4, _), (5, _), (6, _), (7, _), (8, _)]) r_X10_order_65 rfl ?_
                      refine EV.l (lv' := [(0, _), (1, _), (2, _), (3, _), (4, _), (5, _), (6, _), (7, _), (8, _)]) r_X10_order_66 rfl ?_
                      refine EV.l (lv' := [(0, _), (1, _), (2, _), (3, _), (4, _), (5, _), (6, _), (7, _), (8, _)]) r_X10_order_67 rfl ?_
                      refine EV.l (lv' := [(0, _), (1, _), (2, _), (3, _), (4, _), (5, _), (6, _), (7, _), (8, _)]) r_X10_order_69 rfl ?_
                      refine EV.cv r_X10_order_71 (aS4 mt_167) (c_isRest (by omega) (by omega) (by omega) (by omega) (by omega)) ?_
                      refine EV.b0_eq r_X10_order_74 (fun h74 => ?_) (fun h74 => ?_)
                      · -- 74 t
                        refine EV.l (lv' := [(0, _), (1, _), (2, _), (3, _), (4, _), (5, _), (6, _), (7, _), (8, _)]) r_X10_order_116 rfl ?_
                        rw [inc_lit (m := 2) rfl]
                        refine EV.g r_X10_order_119 ?_
                        refine EV.l (lv' := [(0, _), (1, _), (2, _), (3, _), (4, _), (5, _), (6, _), (7, _), (8, _)]) r_X10_order_59 rfl ?_
                        refine EV.o r_X10_order_61 (icN (1) (v := 1)) ?_
                        refine EV.n2_gt r_X10_order_62 (fun h62 => ?_) (fun h62 => ?_)
                        · -- 62 t
                          refine EV.l (lv' := [(0, _), (1, _), (2, _), (3, _), (4, _), (5, _), (6, _), (7, _), (8, _)]) r_X10_order_122 rfl ?_
                          rw [inc_lit (m := 1) rfl]
                          refine EV.g r_X10_order_125 ?_
                          refine EV.l (lv' := [(0, _), (1, _), (2, _), (3, _), (4, _), (5, _), (6, _), (7, _)]) r_X10_order_50 rfl ?_
                          refine EV.o r_X10_order_52 (icN (1) (v := 1)) ?_
                          refine EV.n2_gt r_X10_order_53 (fun h53 => ?_) (fun h53 => ?_)
                          · omega
                          · -- 53 f
                            refine EV.o r_X10_order_56 (icN (0) (v := 0)) ?_
                            refine EV.l (lv' := [(0, _), (1, _), (2, _), (3, _), (4, _), (5, _), (6, _), (7, _), (8, _)]) r_X10_order_57 rfl ?_
                            refine EV.l (lv' := [(0, _), (1, _), (2, _), (3, _), (4, _), (5, _), (6, _), (7, _), (8, _)]) r_X10_order_59 rfl ?_
                            refine EV.o r_X10_order_61 (icN (1) (v := 1)) ?_
                            refine EV.n2_gt r_X10_order_62 (fun h62 => ?_) (fun h62 => ?_)
                            · omega
                            · -- 62 f
                              refine EV.l (lv' := [(0, _), (1, _), (2, _), (3, _), (4, _), (5, _), (6, _), (7, _), (8, _)]) r_X10_order_65 rfl ?_
                              refine EV.l (lv' := [(0, _), (1, _), (2, _), (3, _), (4, _), (5, _), (6, _), (7, _), (8, _)]) r_X10_order_66 rfl ?_
                              refine EV.l (lv' := [(0, _), (1, _), (2, _), (3, _), (4, _), (5, _), (6, _), (7, _), (8, _)]) r_X10_order_67 rfl ?_
                              refine EV.l (lv' := [(0, _), (1, _), (2, _), (3, _), (4, _), (5, _), (6, _), (7, _), (8, _)]) r_X10_order_69 rfl ?_
                              refine EV.cv r_X10_order_71 (aS4 mt_167) (c_isRest (by omega) (by omega) (by omega) (by omega) (by omega)) ?_
                              refine EV.b0_eq r_X10_order_74 (fun h74 => ?_) (fun h74 => ?_)
                              · -- 74 t
                                refine EV.l (lv' := [(0, _), (1, _), (2, _), (3, _), (4, _), (5, _), (6, _), (7, _), (8, _)]) r_X10_order_116 rfl ?_
                                rw [inc_lit (m := 1) rfl]
                                refine EV.g r_X10_order_119 ?_
                                refine EV.l (lv' := [(0, _), (1, _), (2, _), (3, _), (4, _), (5, _), (6, _), (7, _), (8, _)]) r_X10_order_59 rfl ?_
                                refine EV.o r_X10_order_61 (icN (1) (v := 1)) ?_
                                refine EV.n2_gt r_X10_order_62 (fun h62 => ?_) (fun h62 => ?_)
                                · omega
                                · -- 62 f
                                  refine EV.l (lv' := [(0, _), (1, _), (2, _), (3, _), (4, _), (5, _), (6, _), (7, _), (8, _)]) r_X10_order_65 rfl ?_
                                  refine EV.l (lv' := [(0, _), (1, _), (2, _), (3, _), (4, _), (5, _), (6, _), (7, _), (8, _)]) r_X10_order_66 rfl ?_
                                  refine EV.l (lv' := [(0, _), (1, _), (2, _), (3, _), (4, _), (5, _), (6, _), (7, _), (8, _)]) r_X10_order_67 rfl ?_
                                  refine EV.l (lv' := [(0, _), (1, _), (2, _), (3, _), (4, _), (5, _), (6, _), (7, _), (8, _)]) r_X10_order_69 rfl ?_
                                  refine EV.cv r_X10_order_71 (aS4 mt_167) (c_isRest (by omega) (by omega) (by omega) (by omega) (by omega)) ?_
                                  refine EV.b0_eq r_X10_order_74 (fun h74 => ?_) (fun h74 => ?_)
                                  · -- 74 t
                                    refine EV.l (lv' := [(0, _), (1, _), (2, _), (3, _), (4, _), (5, _), (6, _), (7, _), (8, _)]) r_X10_order_116 rfl ?_
                                    rw [inc_lit (m := 2) rfl]
                                    refine EV.g r_X10_order_119 ?_
                                    refine EV.l (lv' := [(0, _), (1, _), (2, _), (3, _), (4, _), (5, _), (6, _), (7, _), (8, _)]) r_X10_order_59 rfl ?_
                                    refine EV.o r_X10_order_61 (icN (1) (v := 1)) ?_
                                    refine EV.n2_gt r_X10_order_62 (fun h62 => ?_) (fun h62 => ?_)
                                    · -- 62 t
                                      refine EV.l (lv' := [(0, _), (1, _), (2, _), (3, _), (4, _), (5, _), (6, _), (7, _), (8, _)]) r_X10_order_122 rfl ?_
                                      rw [inc_lit (m := 2) rfl]
                                      refine EV.g r_X10_order_125 ?_
                                      refine EV.l (lv' := [(0, _), (1, _), (2, _), (3, _), (4, _), (5, _), (6, _), (7, _)]) r_X10_order_50 rfl ?_
                                      refine EV.o r_X10_order_52 (icN (1) (v := 1)) ?_
                                      refine EV.n2_gt r_X10_order_53 (fun h53 => ?_) (fun h53 => ?_)
                                      · -- 53 t
                                        refine EV.l (lv' := [(0, _), (1, _), (2, _), (3, _), (4, _), (5, _), (6, _), (7, _)]) r_X10_order_128 rfl ?_
                                        refine EV.n0_ne r_X10_order_129 (fun h129 => ?_) (fun h129 => ?_)
                                        · -- 129 t
                                          refine EV.l (lv' := [(0, _), (1, _), (2, _), (3, _), (4, _), (5, _), (6, _), (7, _)]) r_X10_order_137 rfl ?_
                                          refine EV.o r_X10_order_138 (icN (1) (v := 1)) ?_
                                          refine EV.n2_ne r_X10_order_139 (fun h139 => ?_) (fun h139 => ?_)
                                          · -- 139 t
                                            refine EV.l (lv' := [(0, _), (1, _), (2, _), (3, _), (4, _), (5, _), (6, _), (7, _)]) r_X10_order_147 rfl ?_
                                            exact EV.rv r_X10_order_149 (by (try rw [← zI_nat]); exact congrArg zI (by simp [ordT, *]))
                                          · omega
                                        · omega
                                      · omega
                                    · omega
                                  · -- 74 f
                                    refine EV.l (lv' := [(0, _), (1, _), (2, _), (3, _), (4, _), (5, _), (6, _), (7, _), (8, _)]) r_X10_order_77 rfl ?_
                                    refine EV.n0_ne r_X10_order_79 (fun h79 => ?_) (fun h79 => ?_)
                                    · omega
                                    · -- 79 f
                                      refine EV.o r_X10_order_82 (bpN (10) 10) ?_
                                      refine EV.l (lv' := [(0, _), (1, _), (2, _), (3, _), (4, _), (5, _), (6, _), (7, _), (8, _)]) r_X10_order_84 rfl ?_
                                      refine EV.o r_X10_order_86 (imulL (z := 10) rfl) ?_
                                      refine EV.l (lv' := [(0, _), (1, _), (2, _), (3, _), (4, _), (5, _), (6, _), (7, _), (8, _)]) r_X10_order_87 rfl ?_
                                      refine EV.o r_X10_order_89 (iaddL (z := 11) rfl) ?_
                                      refine EV.l (lv' := [(0, _), (1, _), (2, _), (3, _), (4, _), (5, _), (6, _), (7, _), (8, _)]) r_X10_order_90 rfl ?_
                                      refine EV.l (lv' := [(0, _), (1, _), (2, _), (3, _), (4, _), (5, _), (6, _), (7, _), (8, _)]) r_X10_order_92 rfl ?_
                                      refine EV.l (lv' := [(0, _), (1, _), (2, _), (3, _), (4, _), (5, _), (6, _), (7, _), (8, _)]) r_X10_order_93 rfl ?_
                                      refine EV.l (lv' := [(0, _), (1, _), (2, _), (3, _), (4, _), (5, _), (6, _), (7, _), (8, _)]) r_X10_order_94 rfl ?_
                                      refine EV.l (lv' := [(0, _), (1, _), (2, _), (3, _), (4, _), (5, _), (6, _), (7, _), (8, _)]) r_X10_order_96 rfl ?_
                                      refine EV.cv r_X10_order_98 (aS4 mt_166) (c_gain (by omega) (by omega) (by omega) (by omega) (by omega)) ?_
                                      refine EV.l (lv' := [(0, _), (1, _), (2, _), (3, _), (4, _), (5, _), (6, _), (7, _), (8, _)]) r_X10_order_101 rfl ?_
                                      refine EV.l (lv' := [(0, _), (1, _), (2, _), (3, _), (4, _), (5, _), (6, _), (7, _), (8, _)]) r_X10_order_102 rfl ?_
                                      refine EV.l (lv' := [(0, _), (1, _), (2, _), (3, _), (4, _), (5, _), (6, _), (7, _), (8, _)]) r_X10_order_103 rfl ?_
                                      refine EV.l (lv' := [(0, _), (1, _), (2, _), (3, _), (4, _), (5, _), (6, _), (7, _), (8, _)]) r_X10_order_105 rfl ?_
                                      refine EV.cv r_X10_order_107 (aS4 mt_166) (c_gain (by omega) (by omega) (by omega) (by omega) (by omega)) ?_
                                      refine EV.o r_X10_order_110 iaddZ ?_
                                      refine EV.l (lv' := [(0, _), (1, _), (2, _), (3, _), (4, _), (5, _), (6, _), (7, _), (8, _)]) r_X10_order_111 rfl ?_
                                      refine EV.l (lv' := [(0, _), (1, _), (2, _), (3, _), (4, _), (5, _), (6, _), (7, _), (8, _)]) r_X10_order_113 rfl ?_
                                      rw [inc_lit (m := 1) rfl]
                                      refine EV.l (lv' := [(0, _), (1, _), (2, _), (3, _), (4, _), (5, _), (6, _), (7, _), (8, _)]) r_X10_order_116 rfl ?_
                                      rw [inc_lit (m := 2) rfl]
                                      refine EV.g r_X10_order_119 ?_
                                      refine EV.l (lv' := [(0, _), (1, _), (2, _), (3, _), (4, _), (5, _), (6, _), (7, _), (8, _)]) r_X10_order_59 rfl ?_
                                      refine EV.o r_X10_order_61 (icN (1) (v := 1)) ?_
                                      refine EV.n2_gt r_X10_order_62 (fun h62 => ?_) (fun h62 => ?_)
                                      · -- 62 t
                                        refine EV.l (lv' := [(0, _), (1, _), (2, _), (3, _), (4, _), (5, _), (6, _), (7, _), (8, _)]) r_X10_order_122 rfl ?_
                                        rw [inc_lit (m := 2) rfl]
                                        refine EV.g r_X10_order_125 ?_
                                        refine EV.l (lv' := [(0, _), (1, _), (2, _), (3, _), (4, _), (5, _), (6, _), (7, _)]) r_X10_order_50 rfl ?_
                                        refine EV.o r_X10_order_52 (icN (1) (v := 1)) ?_
                                        refine EV.n2_gt r_X10_order_53 (fun h53 => ?_) (fun h53 => ?_)
                                        · -- 53 t
                                          refine EV.l (lv' := [(0, _), (1, _), (2, _), (3, _), (4, _), (5, _), (6, _), (7, _)]) r_X10_order_128 rfl ?_
                                          refine EV.n0_ne r_X10_order_129 (fun h129 => ?_) (fun h129 => ?_)
                                          · -- 129 t
                                            refine EV.l (lv' := [(0, _), (1, _), (2, _), (3, _), (4, _), (5, _), (6, _), (7, _)]) r_X10_order_137 rfl ?_
                                            refine EV.o r_X10_order_138 (icN (1) (v := 1)) ?_
                                            refine EV.n2_ne r_X10_order_139 (fun h139 => ?_) (fun h139 => ?_)
                                            · -- 139 t
                                              refine EV.l (lv' := [(0, _), (1, _), (2, _), (3, _), (4, _), (5, _), (6, _), (7, _)]) r_X10_order_147 rfl ?_
                                              exact EV.rv r_X10_order_149 (by (try rw [← zI_nat]); exact congrArg zI (by simp [ordT, *]))
                                            · omega
                                          · omega
                                        · omega
                                      · omega
                              · -- 74 f
                                refine EV.l (lv' := [(0, _), (1, _), (2, _), (3, _), (4, _), (5, _), (6, _), (7, _), (8, _)]) r_X10_order_77 rfl ?_
                                refine EV.n0_ne r_X10_order_79 (fun h79 => ?_) (fun h79 => ?_)
                                · omega
                                · -- 79 f
                                  refine EV.o r_X10_order_82 (bpN (10) 10) ?_
                                  refine EV.l (lv' := [(0, _), (1, _), (2, _), (3, _), (4, _), (5, _), (6, _), (7, _), (8, _)]) r_X10_order_84 rfl ?_
                                  refine EV.o r_X10_order_86 (imulL (z := 10) rfl) ?_
                                  refine EV.l (lv' := [(0, _), (1, _), (2, _), (3, _), (4, _), (5, _), (6, _), (7, _), (8, _)]) r_X10_order_87 rfl ?_
                                  refine EV.o r_X10_order_89 (iaddL (z := 10) rfl) ?_
                                  refine EV.l (lv' := [(0, _), (1, _), (2, _), (3, _), (4, _), (5, _), (6, _), (7, _), (8, _)]) r_X10_order_90 rfl ?_
                                  refine EV.l (lv' := [(0, _), (1, _), (2, _), (3, _), (4, _), (5, _), (6, _), (7, _), (8, _)]) r_X10_order_92 rfl ?_
                                  refine EV.l (lv' := [(0, _), (1, _), (2, _), (3, _), (4, _), (5, _), (6, _), (7, _), (8, _)]) r_X10_order_93 rfl ?_
                                  refine EV.l (lv' := [(0, _), (1, _), (2, _), (3, _), (4, _), (5, _), (6, _), (7, _), (8, _)]) r_X10_order_94 rfl ?_
                                  refine EV.l (lv' := [(0, _), (1, _), (2, _), (3, _), (4, _), (5, _), (6, _), (7, _), (8, _)]) r_X10_order_96 rfl ?_
                                  refine EV.cv r_X10_order_98 (aS4 mt_166) (c_gain (by omega) (by omega) (by omega) (by omega) (by omega)) ?_
                                  refine EV.l (lv' := [(0, _), (1, _), (2, _), (3, _), (4, _), (5, _), (6, _), (7, _), (8, _)]) r_X10_order_101 rfl ?_
                                  refine EV.l (lv' := [(0, _), (1, _), (2, _), (3, _), (4, _), (5, _), (6, _), (7, _), (8, _)]) r_X10_order_102 rfl ?_
                                  refine EV.l (lv' := [(0, _), (1, _), (2, _), (3, _), (4, _), (5, _), (6, _), (7, _), (8, _)]) r_X10_order_103 rfl ?_
                                  refine EV.l (lv' := [(0, _), (1, _), (2, _), (3, _), (4, _), (5, _), (6, _), (7, _), (8, _)]) r_X10_order_105 rfl ?_
                                  refine EV.cv r_X10_order_107 (aS4 mt_166) (c_gain (by omega) (by omega) (by omega) (by omega) (by omega)) ?_
                                  refine EV.o r_X10_order_110 iaddZ ?_
                                  refine EV.l (lv' := [(0, _), (1, _), (2, _), (3, _), (4, _), (5, _), (6, _), (7, _), (8, _)]) r_X10_order_111 rfl ?_
                                  refine EV.l (lv' := [(0, _), (1, _), (2, _), (3, _), (4, _), (5, _), (6, _), (7, _), (8, _)]) r_X10_order_113 rfl ?_
                                  rw [inc_lit (m := 1) rfl]
                                  refine EV.l (lv' := [(0, _), (1, _), (2, _), (3, _), (4, _), (5, _), (6, _), (7, _), (8, _)]) r_X10_order_116 rfl ?_
                                  rw [inc_lit (m := 1) rfl]
                                  refine EV.g r_X10_order_119 ?_
                                  refine EV.l (lv' := [(0, _), (1, _), (2, _), (3, _), (4, _), (5, _), (6, _), (7, _), (8, _)]) r_X10_order_59 rfl ?_
                                  refine EV.o r_X10_order_61 (icN (1) (v := 1)) ?_
                                  refine EV.n2_gt r_X10_order_62 (fun h62 => ?_) (fun h62 => ?_)
                                  · omega
                                  · -- 62 f
                                    refine EV.l (lv' := [(0, _), (1, _), (2, _), (3, _), (4, _), (5, _), (6, _), (7, _), (8, _)]) r_X10_order_65 rfl ?_
                                    refine EV.l (lv' := [(0, _), (1, _), (2, _), (3, _), (4, _), (5, _), (6, _), (7, _), (8, _)]) r_X10_order_66 rfl ?_
                                    refine EV.l (lv' := [(0, _), (1, _), (2, _), (3, _), (4, _), (5, _), (6, _), (7, _), (8, _)]) r_X10_order_67 rfl ?_
                                    refine EV.l (lv' := [(0, _), (1, _), (2, _), (3, _), (4, _), (5, _), (6, _), (7, _), (8, _)]) r_X10_order_69 rfl ?_
                                    refine EV.cv r_X10_order_71 (aS4 mt_167) (c_isRest (by omega) (by omega) (by omega) (by omega) (by omega)) ?_
                                    refine EV.b0_eq r_X10_order_74 (fun h74 => ?_) (fun h74 => ?_)
                                    · -- 74 t
                                      refine EV.l (lv' := [(0, _), (1, _), (2, _), (3, _), (4, _), (5, _), (6, _), (7, _), (8, _)]) r_X10_order_116 rfl ?_
                                      rw [inc_lit (m := 2) rfl]
                                      refine EV.g r_X10_order_119 ?_
                                      refine EV.l (lv' := [(0, _), (1, _), (2, _), (3, _), (4, _), (5, _), (6, _), (7, _), (8, _)]) r_X10_order_59 rfl ?_
                                      refine EV.o r_X10_order_61 (icN (1) (v := 1)) ?_
                                      refine EV.n2_gt r_X10_order_62 (fun h62 => ?_) (fun h62 => ?_)
                                      · -- 62 t
                                        refine EV.l (lv' := [(0, _), (1, _), (2, _), (3, _), (4, _), (5, _), (6, _), (7, _), (8, _)]) r_X10_order_122 rfl ?_
                                        rw [inc_lit (m := 2) rfl]
                                        refine EV.g r_X10_order_125 ?_
                                        refine EV.l (lv' := [(0, _), (1, _), (2, _), (3, _), (4, _), (5, _), (6, _), (7, _)]) r_X10_order_50 rfl ?_
                                        refine EV.o r_X10_order_52 (icN (1) (v := 1)) ?_
                                        refine EV.n2_gt r_X10_order_53 (fun h53 => ?_) (fun h53 => ?_)
                                        · -- 53 t
                                          refine EV.l (lv' := [(0, _), (1, _), (2, _), (3, _), (4, _), (5, _), (6, _), (7, _)]) r_X10_order_128 rfl ?_
                                          refine EV.n0_ne r_X10_order_129 (fun h129 => ?_) (fun h129 => ?_)
                                          · -- 129 t
                                            refine EV.l (lv' := [(0, _), (1, _), (2, _), (3, _), (4, _), (5, _), (6, _), (7, _)]) r_X10_order_137 rfl ?_
                                            refine EV.o r_X10_order_138 (icN (1) (v := 1)) ?_
                                            refine EV.n2_ne r_X10_order_139 (fun h139 => ?_) (fun h139 => ?_)
                                            · -- 139 t
                                              refine EV.l (lv' := [(0, _), (1, _), (2, _), (3, _), (4, _), (5, _), (6, _), (7, _)]) r_X10_order_147 rfl ?_
                                              exact EV.rv r_X10_order_149 (by (try rw [← zI_nat]); exact congrArg zI (by simp [ordT, *]))
                                            · omega
                                          · omega
                                        · omega
                                      · omega
                                    · -- 74 f
                                      refine EV.l (lv' := [(0, _), (1, _), (2, _), (3, _), (4, _), (5, _), (6, _), (7, _), (8, _)]) r_X10_order_77 rfl ?_
                                      refine EV.n0_ne r_X10_order_79 (fun h79 => ?_) (fun h79 => ?_)
                                      · -- 79 t
                                        refine EV.l (lv' := [(0, _), (1, _), (2, _), (3, _), (4, _), (5, _), (6, _), (7, _), (8, _)]) r_X10_order_113 rfl ?_
                                        rw [inc_lit (m := 2) rfl]
                                        refine EV.l (lv' := [(0, _), (1, _), (2, _), (3, _), (4, _), (5, _), (6, _), (7, _), (8, _)]) r_X10_order_116 rfl ?_
                                        rw [inc_lit (m := 2) rfl]
                                        refine EV.g r_X10_order_119 ?_
                                        refine EV.l (lv' := [(0, _), (1, _), (2, _), (3, _), (4, _), (5, _), (6, _), (7, _), (8, _)]) r_X10_order_59 rfl ?_
                                        refine EV.o r_X10_order_61 (icN (1) (v := 1)) ?_
                                        refine EV.n2_gt r_X10_order_62 (fun h62 => ?_) (fun h62 => ?_)
                                        · -- 62 t
                                          refine EV.l (lv' := [(0, _), (1, _), (2, _), (3, _), (4, _), (5, _), (6, _), (7, _), (8, _)]) r_X10_order_122 rfl ?_
                                          rw [inc_lit (m := 2) rfl]
                                          refine EV.g r_X10_order_125 ?_
                                          refine EV.l (lv' := [(0, _), (1, _), (2, _), (3, _), (4, _), (5, _), (6, _), (7, _)]) r_X10_order_50 rfl ?_
                                          refine EV.o r_X10_order_52 (icN (1) (v := 1)) ?_
                                          refine EV.n2_gt r_X10_order_53 (fun h53 => ?_) (fun h53 => ?_)
                                          · -- 53 t
                                            refine EV.l (lv' := [(0, _), (1, _), (2, _), (3, _), (4, _), (5, _), (6, _), (7, _)]) r_X10_order_128 rfl ?_
                                            refine EV.n0_ne r_X10_order_129 (fun h129 => ?_) (fun h129 => ?_)
                                            · -- 129 t
                                              refine EV.l (lv' := [(0, _), (1, _), (2, _), (3, _), (4, _), (5, _), (6, _), (7, _)]) r_X10_order_137 rfl ?_
                                              refine EV.o r_X10_order_138 (icN (1) (v := 1)) ?_
                                              refine EV.n2_ne r_X10_order_139 (fun h139 => ?_) (fun h139 => ?_)
                                              · -- 139 t
                                                refine EV.l (lv' := [(0, _), (1, _), (2, _), (3, _), (4, _), (5, _), (6, _), (7, _)]) r_X10_order_147 rfl ?_
                                                exact EV.rv r_X10_order_149 (by (try rw [← zI_nat]); exact congrArg zI (by simp [ordT, *]))
                                              · omega
                                            · omega
                                          · omega
                                        · omega
                                      · omega
                        · omega
                      · -- 74 f
                        refine EV.l (lv' := [(0, _), (1, _), (2, _), (3, _), (4, _), (5, _), (6, _), (7, _), (8, _)]) r_X10_order_77 rfl ?_
                        refine EV.n0_ne r_X10_order_79 (fun h79 => ?_) (fun h79 => ?_)
                        · omega
                        · -- 79 f
                          refine EV.o r_X10_order_82 (bpN (10) 10) ?_
                          refine EV.l (lv' := [(0, _), (1, _), (2, _), (3, _), (4, _), (5, _), (6, _), (7, _), (8, _)]) r_X10_order_84 rfl ?_
                          refine EV.o r_X10_order_86 (imulL (z := 0) rfl) ?_
                          refine EV.l (lv' := [(0, _), (1, _), (2, _), (3, _), (4, _), (5, _), (6, _), (7, _), (8, _)]) r_X10_order_87 rfl ?_
                          refine EV.o r_X10_order_89 (iaddL (z := 1) rfl) ?_
                          refine EV.l (lv' := [(0, _), (1, _), (2, _), (3, _), (4, _), (5, _), (6, _), (7, _), (8, _)]) r_X10_order_90 rfl ?_
                          refine EV.l (lv' := [(0, _), (1, _), (2, _), (3, _), (4, _), (5, _), (6, _), (7, _), (8, _)]) r_X10_order_92 rfl ?_
                          refine EV.l (lv' := [(0, _), (1, _), (2, _), (3, _), (4, _), (5, _), (6, _), (7, _), (8, _)]) r_X10_order_93 rfl ?_
                          refine EV.l (lv' := [(0, _), (1, _), (2, _), (3, _), (4, _), (5, _), (6, _), (7, _), (8, _)]) r_X10_order_94 rfl ?_
                          refine EV.l (lv' := [(0, _), (1, _), (2, _), (3, _), (4, _), (5, _), (6, _), (7, _), (8, _)]) r_X10_order_96 rfl ?_
                          refine EV.cv r_X10_order_98 (aS4 mt_166) (c_gain (by omega) (by omega) (by omega) (by omega) (by omega)) ?_
                          refine EV.l (lv' := [(0, _), (1, _), (2, _), (3, _), (4, _), (5, _), (6, _), (7, _), (8, _)]) r_X10_order_101 rfl ?_
                          refine EV.l (lv' := [(0, _), (1, _), (2, _), (3, _), (4, _), (5, _), (6, _), (7, _), (8, _)]) r_X10_order_102 rfl ?_
                          refine EV.l (lv' := [(0, _), (1, _), (2, _), (3, _), (4, _), (5, _), (6, _), (7, _), (8, _)]) r_X10_order_103 rfl ?_
                          refine EV.l (lv' := [(0, _), (1, _), (2, _), (3, _), (4, _), (5, _), (6, _), (7, _), (8, _)]) r_X10_order_105 rfl ?_
                          refine EV.cv r_X10_order_107 (aS4 mt_166) (c_gain (by omega) (by omega) (by omega) (by omega) (by omega)) ?_
                          refine EV.o r_X10_order_110 iaddZ ?_
                          refine EV.l (lv' := [(0, _), (1, _), (2, _), (3, _), (4, _), (5, _), (6, _), (7, _), (8, _)]) r_X10_order_111 rfl ?_
                          refine EV.l (lv' := [(0, _), (1, _), (2, _), (3, _), (4, _), (5, _), (6, _), (7, _), (8, _)]) r_X10_order_113 rfl ?_
                          rw [inc_lit (m := 1) rfl]
                          refine EV.l (lv' := [(0, _), (1, _), (2, _), (3, _), (4, _), (5, _), (6, _), (7, _), (8, _)]) r_X10_order_116 rfl ?_
                          rw [inc_lit (m := 2) rfl]
                          refine EV.g r_X10_order_119 ?_
                          refine EV.l (lv' := [(0, _), (1, _), (2, _), (3, _), (4, _), (5, _), (6, _), (7, _), (8, _)]) r_X10_order_59 rfl ?_
                          refine EV.o r_X10_order_61 (icN (1) (v := 1)) ?_
                          refine EV.n2_gt r_X10_order_62 (fun h62 => ?_) (fun h62 => ?_)
                          · -- 62 t
                            refine EV.l (lv' := [(0, _), (1, _), (2, _), (3, _), (4, _), (5, _), (6, _), (7, _), (8, _)]) r_X10_order_122 rfl ?_
                            rw [inc_lit (m := 1) rfl]
                            refine EV.g r_X10_order_125 ?_
                            refine EV.l (lv' := [(0, _), (1, _), (2, _), (3, _), (4, _), (5, _), (6, _), (7, _)]) r_X10_order_50 rfl ?_
                            refine EV.o r_X10_order_52 (icN (1) (v := 1)) ?_
                            refine EV.n2_gt r_X10_order_53 (fun h53 => ?_) (fun h53 => ?_)
                            · omega
                            · -- 53 f
                              refine EV.o r_X10_order_56 (icN (0) (v := 0)) ?_
                              refine EV.l (lv' := [(0, _), (1, _), (2, _), (3, _), (4, _), (5, _), (6, _), (7, _), (8, _)]) r_X10_order_57 rfl ?_
                              refine EV.l (lv' := [(0, _), (1, _), (2, _), (3, _), (4, _), (5, _), (6, _), (7, _), (8, _)]) r_X10_order_59 rfl ?_
                              refine EV.o r_X10_order_61 (icN (1) (v := 1)) ?_
                              refine EV.n2_gt r_X10_order_62 (fun h62 => ?_) (fun h62 => ?_)
                              · omega
                              · -- 62 f
                                refine EV.l (lv' := [(0, _), (1, _), (2, _), (3, _), (4, _), (5, _), (6, _), (7, _), (8, _)]) r_X10_order_65 rfl ?_
                                refine EV.l (lv' := [(0, _), (1, _), (2, _), (3, _), (4, _), (5, _), (6, _), (7, _), (8, _)]) r_X10_order_66 rfl ?_
                                refine EV.l (lv' := [(0, _), (1, _), (2, _), (3, _), (4, _), (5, _), (6, _), (7, _), (8, _)]) r_X10_order_67 rfl ?_
                                refine EV.l (lv' := [(0, _), (1, _), (2, _), (3, _), (4, _), (5, _), (6, _), (7, _), (8, _)]) r_X10_order_69 rfl ?_
                                refine EV.cv r_X10_order_71 (aS4 mt_167) (c_isRest (by omega) (by omega) (by omega) (by omega) (by omega)) ?_
                                refine EV.b0_eq r_X10_order_74 (fun h74 => ?_) (fun h74 => ?_)
                                · -- 74 t
                                  refine EV.l (lv' := [(0, _), (1, _), (2, _), (3, _), (4, _), (5, _), (6, _), (7, _), (8, _)]) r_X10_order_116 rfl ?_
                                  rw [inc_lit (m := 1) rfl]
                                  refine EV.g r_X10_order_119 ?_
                                  refine EV.l (lv' := [(0, _), (1, _), (2, _), (3, _), (4, _), (5, _), (6, _), (7, _), (8, _)]) r_X10_order_59 rfl ?_
                                  refine EV.o r_X10_order_61 (icN (1) (v := 1)) ?_
                                  refine EV.n2_gt r_X10_order_62 (fun h62 => ?_) (fun h62 => ?_)
                                  · omega
                                  · -- 62 f
                                    refine EV.l (lv' := [(0, _), (1, _), (2, _), (3, _), (4, _), (5, _), (6, _), (7, _), (8, _)]) r_X10_order_65 rfl ?_
                                    refine EV.l (lv' := [(0, _), (1, _), (2, _), (3, _), (4, _), (5, _), (6, _), (7, _), (8, _)]) r_X10_order_66 rfl ?_
                                    refine EV.l (lv' := [(0, _), (1, _), (2, _), (3, _), (4, _), (5, _), (6, _), (7, _), (8, _)]) r_X10_order_67 rfl ?_
                                    refine EV.l (lv' := [(0, _), (1, _), (2, _), (3, _), (4, _), (5, _), (6, _), (7, _), (8, _)]) r_X10_order_69 rfl ?_
                                    refine EV.cv r_X10_order_71 (aS4 mt_167) (c_isRest (by omega) (by omega) (by omega) (by omega) (by omega)) ?_
                                    refine EV.b0_eq r_X10_order_74 (fun h74 => ?_) (fun h74 => ?_)
                                    · -- 74 t
                                      refine EV.l (lv' := [(0, _), (1, _), (2, _), (3, _), (4, _), (5, _), (6, _), (7, _), (8, _)]) r_X10_order_116 rfl ?_
                                      rw [inc_lit (m := 2) rfl]
                                      refine EV.g r_X10_order_119 ?_
                                      refine EV.l (lv' := [(0, _), (1, _), (2, _), (3, _), (4, _), (5, _), (6, _), (7, _), (8, _)]) r_X10_order_59 rfl ?_
                                      refine EV.o r_X10_order_61 (icN (1) (v := 1)) ?_
                                      refine EV.n2_gt r_X10_order_62 (fun h62 => ?_) (fun h62 => ?_)
                                      · -- 62 t
                                        refine EV.l (lv' := [(0, _), (1, _), (2, _), (3, _), (4, _), (5, _), (6, _), (7, _), (8, _)]) r_X10_order_122 rfl ?_
                                        rw [inc_lit (m := 2) rfl]
                                        refine EV.g r_X10_order_125 ?_
                                        refine EV.l (lv' := [(0, _), (1, _), (2, _), (3, _), (4, _), (5, _), (6, _), (7, _)]) r_X10_order_50 rfl ?_
                                        refine EV.o r_X10_order_52 (icN (1) (v := 1)) ?_
                                        refine EV.n2_gt r_X10_order_53 (fun h53 => ?_) (fun h53 => ?_)
                                        · -- 53 t
                                          refine EV.l (lv' := [(0, _), (1, _), (2, _), (3, _), (4, _), (5, _), (6, _), (7, _)]) r_X10_order_128 rfl ?_
                                          refine EV.n0_ne r_X10_order_129 (fun h129 => ?_) (fun h129 => ?_)
                                          · -- 129 t
                                            refine EV.l (lv' := [(0, _), (1, _), (2, _), (3, _), (4, _), (5, _), (6, _), (7, _)]) r_X10_order_137 rfl ?_
                                            refine EV.o r_X10_order_138 (icN (1) (v := 1)) ?_
                                            refine EV.n2_ne r_X10_order_139 (fun h139 => ?_) (fun h139 => ?_)
                                            · -- 139 t
                                              refine EV.l (lv' := [(0, _), (1, _), (2, _), (3, _), (4, _), (5, _), (6, _), (7, _)]) r_X10_order_147 rfl ?_
                                              exact EV.rv r_X10_order_149 (by (try rw [← zI_nat]); exact congrArg zI (by simp [ordT, *]))
                                            · omega
                                          · omega
                                        · omega
                                      · omega
                                    · -- 74 f
                                      refine EV.l (lv' := [(0, _), (1, _), (2, _), (3, _), (4, _), (5, _), (6, _), (7, _), (8, _)]) r_X10_order_77 rfl ?_
                                      refine EV.n0_ne r_X10_order_79 (fun h79 => ?_) (fun h79 => ?_)
                                      · -- 79 t
                                        refine EV.l (lv' := [(0, _), (1, _), (2, _), (3, _), (4, _), (5, _), (6, _), (7, _), (8, _)]) r_X10_order_113 rfl ?_
                                        rw [inc_lit (m := 2) rfl]
                                        refine EV.l (lv' := [(0, _), (1, _), (2, _), (3, _), (4, _), (5, _), (6, _), (7, _), (8, _)]) r_X10_order_116 rfl ?_
                                        rw [inc_lit (m := 2) rfl]
                                        refine EV.g r_X10_order_119 ?_
                                        refine EV.l (lv' := [(0, _), (1, _), (2, _), (3, _), (4, _), (5, _), (6, _), (7, _), (8, _)]) r_X10_order_59 rfl ?_
                                        refine EV.o r_X10_order_61 (icN (1) (v := 1)) ?_
                                        refine EV.n2_gt r_X10_order_62 (fun h62 => ?_) (fun h62 => ?_)
                                        · -- 62 t
                                          refine EV.l (lv' := [(0, _), (1, _), (2, _), (3, _), (4, _), (5, _), (6, _), (7, _), (8, _)]) r_X10_order_122 rfl ?_
                                          rw [inc_lit (m := 2) rfl]
                                          refine EV.g r_X10_order_125 ?_
                                          refine EV.l (lv' := [(0, _), (1, _), (2, _), (3, _), (4, _), (5, _), (6, _), (7, _)]) r_X10_order_50 rfl ?_
                                          refine EV.o r_X10_order_52 (icN (1) (v := 1)) ?_
                                          refine EV.n2_gt r_X10_order_53 (fun h53 => ?_) (fun h53 => ?_)
                                          · -- 53 t
                                            refine EV.l (lv' := [(0, _), (1, _), (2, _), (3, _), (4, _), (5, _), (6, _), (7, _)]) r_X10_order_128 rfl ?_
                                            refine EV.n0_ne r_X10_order_129 (fun h129 => ?_) (fun h129 => ?_)
                                            · -- 129 t
                                              refine EV.l (lv' := [(0, _), (1, _), (2, _), (3, _), (4, _), (5, _), (6, _), (7, _)]) r_X10_order_137 rfl ?_
                                              refine EV.o r_X10_order_138 (icN (1) (v := 1)) ?_
                                              refine EV.n2_ne r_X10_order_139 (fun h139 => ?_) (fun h139 => ?_)
                                              · -- 139 t
                                                refine EV.l (lv' := [(0, _), (1, _), (2, _), (3, _), (4, _), (5, _), (6, _), (7, _)]) r_X10_order_147 rfl ?_
                                                exact EV.rv r_X10_order_149 (by (try rw [← zI_nat]); exact congrArg zI (by simp [ordT, *]))
                                              · omega
                                            · omega
                                          · omega
                                        · omega
                                      · omega
                                · -- 74 f
                                  refine EV.l (lv' := [(0, _), (1, _), (2, _), (3, _), (4, _), (5, _), (6, _), (7, _), (8, _)]) r_X10_order_77 rfl ?_
                                  refine EV.n0_ne r_X10_order_79 (fun h79 => ?_) (fun h79 => ?_)
                                  · -- 79 t
                                    refine EV.l (lv' := [(0, _), (1, _), (2, _), (3, _), (4, _), (5, _), (6, _), (7, _), (8, _)]) r_X10_order_113 rfl ?_
                                    rw [inc_lit (m := 2) rfl]
                                    refine EV.l (lv' := [(0, _), (1, _), (2, _), (3, _), (4, _), (5, _), (6, _), (7, _), (8, _)]) r_X10_order_116 rfl ?_
                                    rw [inc_lit (m := 1) rfl]
                                    refine EV.g r_X10_order_119 ?_
                                    refine EV.l (lv' := [(0, _), (1, _), (2, _), (3, _), (4, _), (5, _), (6, _), (7, _), (8, _)]) r_X10_order_59 rfl ?_
                                    refine EV.o r_X10_order_61 (icN (1) (v := 1)) ?_
                                    refine EV.n2_gt r_X10_order_62 (fun h62 => ?_) (fun h62 => ?_)
                                    · omega
                                    · -- 62 f
                                      refine EV.l (lv' := [(0, _), (1, _), (2, _), (3, _), (4, _), (5, _), (6, _), (7, _), (8, _)]) r_X10_order_65 rfl ?_
                                      refine EV.l (lv' := [(0, _), (1, _), (2, _), (3, _), (4, _), (5, _), (6, _), (7, _), (8, _)]) r_X10_order_66 rfl ?_
                                      refine EV.l (lv' := [(0, _), (1, _), (2, _), (3, _), (4, _), (5, _), (6, _), (7, _), (8, _)]) r_X10_order_67 rfl ?_
                                      refine EV.l (lv' := [(0, _), (1, _), (2, _), (3, _), (4, _), (5, _), (6, _), (7, _), (8, _)]) r_X10_order_69 rfl ?_
                                      refine EV.cv r_X10_order_71 (aS4 mt_167) (c_isRest (by omega) (by omega) (by omega) (by omega) (by omega)) ?_
                                      refine EV.b0_eq r_X10_order_74 (fun h74 => ?_) (fun h74 => ?_)
                                      · -- 74 t
                                        refine EV.l (lv' := [(0, _), (1, _), (2, _), (3, _), (4, _), (5, _), (6, _), (7, _), (8, _)]) r_X10_order_116 rfl ?_
                                        rw [inc_lit (m := 2) rfl]
                                        refine EV.g r_X10_order_119 ?_
                                        refine EV.l (lv' := [(0, _), (1, _), (2, _), (3, _), (4, _), (5, _), (6, _), (7, _), (8, _)]) r_X10_order_59 rfl ?_
                                        refine EV.o r_X10_order_61 (icN (1) (v := 1)) ?_
                                        refine EV.n2_gt r_X10_order_62 (fun h62 => ?_) (fun h62 => ?_)
                                        · -- 62 t
                                          refine EV.l (lv' := [(0, _), (1, _), (2, _), (3, _), (4, _), (5, _), (6, _), (7, _), (8, _)]) r_X10_order_122 rfl ?_
                                          rw [inc_lit (m := 2) rfl]
                                          refine EV.g r_X10_order_125 ?_
                                          refine EV.l (lv' := [(0, _), (1, _), (2, _), (3, _), (4, _), (5, _), (6, _), (7, _)]) r_X10_order_50 rfl ?_
                                          refine EV.o r_X10_order_52 (icN (1) (v := 1)) ?_
                                          refine EV.n2_gt r_X10_order_53 (fun h53 => ?_) (fun h53 => ?_)
                                          · -- 53 t
                                            refine EV.l (lv' := [(0, _), (1, _), (2, _), (3, _), (4, _), (5, _), (6, _), (7, _)]) r_X10_order_128 rfl ?_
                                            refine EV.n0_ne r_X10_order_129 (fun h129 => ?_) (fun h129 => ?_)
                                            · -- 129 t
                                              refine EV.l (lv' := [(0, _), (1, _), (2, _), (3, _), (4, _), (5, _), (6, _), (7, _)]) r_X10_order_137 rfl ?_
                                              refine EV.o r_X10_order_138 (icN (1) (v := 1)) ?_
                                              refine EV.n2_ne r_X10_order_139 (fun h139 => ?_) (fun h139 => ?_)
                                              · -- 139 t
                                                refine EV.l (lv' := [(0, _), (1, _), (2, _), (3, _), (4, _), (5, _), (6, _), (7, _)]) r_X10_order_147 rfl ?_
                                                exact EV.rv r_X10_order_149 (by (try rw [← zI_nat]); exact congrArg zI (by simp [ordT, *]))
                                              · omega
                                            · omega
                                          · omega
                                        · omega
                                      · -- 74 f
                                        refine EV.l (lv' := [(0, _), (1, _), (2, _), (3, _), (4, _), (5, _), (6, _), (7, _), (8, _)]) r_X10_order_77 rfl ?_
                                        refine EV.n0_ne r_X10_order_79 (fun h79 => ?_) (fun h79 => ?_)
                                        · -- 79 t
                                          refine EV.l (lv' := [(0, _), (1, _), (2, _), (3, _), (4, _), (5, _), (6, _), (7, _), (8, _)]) r_X10_order_113 rfl ?_
                                          rw [inc_lit (m := 3) rfl]
                                          refine EV.l (lv' := [(0, _), (1, _), (2, _), (3, _), (4, _), (5, _), (6, _), (7, _), (8, _)]) r_X10_order_116 rfl ?_
                                          rw [inc_lit (m := 2) rfl]
                                          refine EV.g r_X10_order_119 ?_
                                          refine EV.l (lv' := [(0, _), (1, _), (2, _), (3, _), (4, _), (5, _), (6, _), (7, _), (8, _)]) r_X10_order_59 rfl ?_
                                          refine EV.o r_X10_order_61 (icN (1) (v := 1)) ?_
                                          refine EV.n2_gt r_X10_order_62 (fun h62 => ?_) (fun h62 => ?_)
                                          · -- 62 t
                                            refine EV.l (lv' := [(0, _), (1, _), (2, _), (3, _), (4, _), (5, _), (6, _), (7, _), (8, _)]) r_X10_order_122 rfl ?_
                                            rw [inc_lit (m := 2) rfl]
                                            refine EV.g r_X10_order_125 ?_
                                            refine EV.l (lv' := [(0, _), (1, _), (2, _), (3, _), (4, _), (5, _), (6, _), (7, _)]) r_X10_order_50 rfl ?_
                                            refine EV.o r_X10_order_52 (icN (1) (v := 1)) ?_
                                            refine EV.n2_gt r_X10_order_53 (fun h53 => ?_) (fun h53 => ?_)
                                            · -- 53 t
                                              refine EV.l (lv' := [(0, _), (1, _), (2, _), (3, _), (4, _), (5, _), (6, _), (7, _)]) r_X10_order_128 rfl ?_
                                              refine EV.n0_ne r_X10_order_129 (fun h129 => ?_) (fun h129 => ?_)
                                              · -- 129 t
                                                refine EV.l (lv' := [(0, _), (1, _), (2, _), (3, _), (4, _), (5, _), (6, _), (7, _)]) r_X10_order_137 rfl ?_
                                                refine EV.o r_X10_order_138 (icN (1) (v := 1)) ?_
                                                refine EV.n2_ne r_X10_order_139 (fun h139 => ?_) (fun h139 => ?_)
                                                · -- 139 t
                                                  refine EV.l (lv' := [(0, _), (1, _), (2, _), (3, _), (4, _), (5, _), (6, _), (7, _)]) r_X10_order_147 rfl ?_
                                                  exact EV.rv r_X10_order_149 (by (try rw [← zI_nat]); exact congrArg zI (by simp [ordT, *]))
                                                · omega
                                              · omega
                                            · omega
                                          · omega
                                        · omega
                                  · omega
                          · omega
                  · -- 74 f
                    refine EV.l (lv' := [(0, _), (1, _), (2, _), (3, _), (4, _), (5, _), (6, _), (7, _), (8, _)]) r_X10_order_77 rfl ?_
                    refine EV.n0_ne r_X10_order_79 (fun h79 => ?_) (fun h79 => ?_)
                    · omega
                    · -- 79 f
                      refine EV.o r_X10_order_82 (bpN (10) 10) ?_
                      refine EV.l (lv' := [(0, _), (1, _), (2, _), (3, _), (4, _), (5, _), (6, _), (7, _), (8, _)]) r_X10_order_84 rfl ?_
                      refine EV.o r_X10_order_86 (imulL (z := 0) rfl) ?_
                      refine EV.l (lv' := [(0, _), (1, _), (2, _), (3, _), (4, _), (5, _), (6, _), (7, _), (8, _)]) r_X10_order_87 rfl ?_
                      refine EV.o r_X10_order_89 (iaddL (z := 0) rfl) ?_
                      refine EV.l (lv' := [(0, _), (1, _), (2, _), (3, _), (4, _), (5, _), (6, _), (7, _), (8, _)]) r_X10_order_90 rfl ?_
                      refine EV.l (lv' := [(0, _), (1, _), (2, _), (3, _), (4, _), (5, _), (6, _), (7, _), (8, _)]) r_X10_order_92 rfl ?_
                      refine EV.l (lv' := [(0, _), (1, _), (2, _), (3, _), (4, _), (5, _), (6, _), (7, _), (8, _)]) r_X10_order_93 rfl ?_
                      refine EV.l (lv' := [(0, _), (1, _), (2, _), (3, _), (4, _), (5, _), (6, _), (7, _), (8, _)]) r_X10_order_94 rfl ?_
                      refine EV.l (lv' := [(0, _), (1, _), (2, _), (3, _), (4, _), (5, _), (6, _), (7, _), (8, _)]) r_X10_order_96 rfl ?_
                      refine EV.cv r_X10_order_98 (aS4 mt_166) (c_gain (by omega) (by omega) (by omega) (by omega) (by omega)) ?_
                      refine EV.l (lv' := [(0, _), (1, _), (2, _), (3, _), (4, _), (5, _), (6, _), (7, _), (8, _)]) r_X10_order_101 rfl ?_
                      refine EV.l (lv' := [(0, _), (1, _), (2, _), (3, _), (4, _), (5, _), (6, _), (7, _), (8, _)]) r_X10_order_102 rfl ?_
                      refine EV.l (lv' := [(0, _), (1, _), (2, _), (3, _), (4, _), (5, _), (6, _), (7, _), (8, _)]) r_X10_order_103 rfl ?_
                      refine EV.l (lv' := [(0, _), (1, _), (2, _), (3, _), (4, _), (5, _), (6, _), (7, _), (8, _)]) r_X10_order_105 rfl ?_
                      refine EV.cv r_X10_order_107 (aS4 mt_166) (c_gain (by omega) (by omega) (by omega) (by omega) (by omega)) ?_
                      refine EV.o r_X10_order_110 iaddZ ?_
                      refine EV.l (lv' := [(0, _), (1, _), (2, _), (3, _), (4, _), (5, _), (6, _), (7, _), (8, _)]) r_X10_order_111 rfl ?_
                      refine EV.l (lv' := [(0, _), (1, _), (2, _), (3, _), (4, _), (5, _), (6, _), (7, _), (8, _)]) r_X10_order_113 rfl ?_
                      rw [inc_lit (m := 1) rfl]
                      refine EV.l (lv' := [(0, _), (1, _), (2, _), (3, _), (4, _), (5, _), (6, _), (7, _), (8, _)]) r_X10_order_116 rfl ?_
                      rw [inc_lit (m := 1) rfl]
                      refine EV.g r_X10_order_119 ?_
                      refine EV.l (lv' := [(0, _), (1, _), (2, _), (3, _), (4, _), (5, _), (6, _), (7, _), (8, _)]) r_X10_order_59 rfl ?_
                      refine EV.o r_X10_order_61 (icN (1) (v := 1)) ?_
                      refine EV.n2_gt r_X10_order_62 (fun h62 => ?_) (fun h62 => ?_)
                      · omega
                      · -- 62 f
                        refine EV.l (lv' := [(0, _), (1, _), (2, _), (3, _), (4, _), (5, _), (6, _), (7, _), (8, _)]) r_X10_order_65 rfl ?_
                        refine EV.l (lv' := [(0, _), (1, _), (2, _), (3, _), (4, _), (5, _), (6, _), (7, _), (8, _)]) r_X10_order_66 rfl ?_
                        refine EV.l (lv' := [(0, _), (1, _), (2, _), (3, _), (4, _), (5, _), (6, _), (7, _), (8, _)]) r_X10_order_67 rfl ?_
                        refine EV.l (lv' := [(0, _), (1, _), (2, _), (3, _), (4, _), (5, _), (6, _), (7, _), (8, _)]) r_X10_order_69 rfl ?_
                        refine EV.cv r_X10_order_71 (aS4 mt_167) (c_isRest (by omega) (by omega) (by omega) (by omega) (by omega)) ?_
                        refine EV.b0_eq r_X10_order_74 (fun h74 => ?_) (fun h74 => ?_)
                        · -- 74 t
                          refine EV.l (lv' := [(0, _), (1, _), (2, _), (3, _), (4, _), (5, _), (6, _), (7, _), (8, _)]) r_X10_order_116 rfl ?_
                          rw [inc_lit (m := 2) rfl]
                          refine EV.g r_X10_order_119 ?_
                          refine EV.l (lv' := [(0, _), (1, _), (2, _), (3, _), (4, _), (5, _), (6, _), (7, _), (8, _)]) r_X10_order_59 rfl ?_
                          refine EV.o r_X10_order_61 (icN (1) (v := 1)) ?_
                          refine EV.n2_gt r_X10_order_62 (fun h62 => ?_) (fun h62 => ?_)
                          · -- 62 t
                            refine EV.l (lv' := [(0, _), (1, _), (2, _), (3, _), (4, _), (5, _), (6, _), (7, _), (8, _)]) r_X10_order_122 rfl ?_
                            rw [inc_lit (m := 1) rfl]
                            refine EV.g r_X10_order_125 ?_
                            refine EV.l (lv' := [(0, _), (1, _), (2, _), (3, _), (4, _), (5, _), (6, _), (7, _)]) r_X10_order_50 rfl ?_
                            refine EV.o r_X10_order_52 (icN (1) (v := 1)) ?_
                            refine EV.n2_gt r_X10_order_53 (fun h53 => ?_) (fun h53 => ?_)
                            · omega
                            · -- 53 f
                              refine EV.o r_X10_order_56 (icN (0) (v := 0)) ?_
                              refine EV.l (lv' := [(0, _), (1, _), (2, _), (3, _), (4, _), (5, _), (6, _), (7, _), (8, _)]) r_X10_order_57 rfl ?_
                              refine EV.l (lv' := [(0, _), (1, _), (2, _), (3, _), (4, _), (5, _), (6, _), (7, _), (8, _)]) r_X10_order_59 rfl ?_
                              refine EV.o r_X10_order_61 (icN (1) (v := 1)) ?_
                              refine EV.n2_gt r_X10_order_62 (fun h62 => ?_) (fun h62 => ?_)
                              · omega
                              · -- 62 f
                                refine EV.l (lv' := [(0, _), (1, _), (2, _), (3, _), (4, _), (5, _), (6, _), (7, _), (8, _)]) r_X10_order_65 rfl ?_
                                refine EV.l (lv' := [(0, _), (1, _), (2, _), (3, _), (4, _), (5, _), (6, _), (7, _), (8, _)]) r_X10_order_66 rfl ?_
                                refine EV.l (lv' := [(0, _), (1, _), (2, _), (3, _), (4, _), (5, _), (6, _), (7, _), (8, _)]) r_X10_order_67 rfl ?_
                                refine EV.l (lv' := [(0, _), (1, _), (2, _), (3, _), (4, _), (5, _), (6, _), (7, _), (8, _)]) r_X10_order_69 rfl ?_
                                refine EV.cv r_X10_order_71 (aS4 mt_167) (c_isRest (by omega) (by omega) (by omega) (by omega) (by omega)) ?_
                                refine EV.b0_eq r_X10_order_74 (fun h74 => ?_) (fun h74 => ?_)
                                · -- 74 t
                                  refine EV.l (lv' := [(0, _), (1, _), (2, _), (3, _), (4, _), (5, _), (6, _), (7, _), (8, _)]) r_X10_order_116 rfl ?_
                                  rw [inc_lit (m := 1) rfl]
                                  refine EV.g r_X10_order_119 ?_
                                  refine EV.l (lv' := [(0, _), (1, _), (2, _), (3, _), (4, _), (5, _), (6, _), (7, _), (8, _)]) r_X10_order_59 rfl ?_
                                  refine EV.o r_X10_order_61 (icN (1) (v := 1)) ?_
                                  refine EV.n2_gt r_X10_order_62 (fun h62 => ?_) (fun h62 => ?_)
                                  · omega
                                  · -- 62 f
                                    refine EV.l (lv' := [(0, _), (1, _), (2, _), (3, _), (4, _), (5, _), (6, _), (7, _), (8, _)]) r_X10_order_65 rfl ?_
                                    refine EV.l (lv' := [(0, _), (1, _), (2, _), (3, _), (4, _), (5, _), (6, _), (7, _), (8, _)]) r_X10_order_66 rfl ?_
                                    refine EV.l (lv' := [(0, _), (1, _), (2, _), (3, _), (4, _), (5, _), (6, _), (7, _), (8, _)]) r_X10_order_67 rfl ?_
                                    refine EV.l (lv' := [(0, _), (1, _), (2, _), (3, _), (4, _), (5, _), (6, _), (7, _), (8, _)]) r_X10_order_69 rfl ?_
                                    refine EV.cv r_X10_order_71 (aS4 mt_167) (c_isRest (by omega) (by omega) (by omega) (by omega) (by omega)) ?_
                                    refine EV.b0_eq r_X10_order_74 (fun h74 => ?_) (fun h74 => ?_)
                                    · -- 74 t
                                      refine EV.l (lv' := [(0, _), (1, _), (2, _), (3, _), (4, _), (5, _), (6, _), (7, _), (8, _)]) r_X10_order_116 rfl ?_
                                      rw [inc_lit (m := 2) rfl]
                                      refine EV.g r_X10_order_119 ?_
                                      refine EV.l (lv' := [(0, _), (1, _), (2, _), (3, _), (4, _), (5, _), (6, _), (7, _), (8, _)]) r_X10_order_59 rfl ?_
                                      refine EV.o r_X10_order_61 (icN (1) (v := 1)) ?_
                                      refine EV.n2_gt r_X10_order_62 (fun h62 => ?_) (fun h62 => ?_)
                                      · -- 62 t
                                        refine EV.l (lv' := [(0, _), (1, _), (2, _), (3, _), (4, _), (5, _), (6, _), (7, _), (8, _)]) r_X10_order_122 rfl ?_
                                        rw [inc_lit (m := 2) rfl]
                                        refine EV.g r_X10_order_125 ?_
                                        refine EV.l (lv' := [(0, _), (1, _), (2, _), (3, _), (4, _), (5, _), (6, _), (7, _)]) r_X10_order_50 rfl ?_
                                        refine EV.o r_X10_order_52 (icN (1) (v := 1)) ?_
                                        refine EV.n2_gt r_X10_order_53 (fun h53 => ?_) (fun h53 => ?_)
                                        · -- 53 t
                                          refine EV.l (lv' := [(0, _), (1, _), (2, _), (3, _), (4, _), (5, _), (6, _), (7, _)]) r_X10_order_128 rfl ?_
                                          refine EV.n0_ne r_X10_order_129 (fun h129 => ?_) (fun h129 => ?_)
                                          · -- 129 t
                                            refine EV.l (lv' := [(0, _), (1, _), (2, _), (3, _), (4, _), (5, _), (6, _), (7, _)]) r_X10_order_137 rfl ?_
                                            refine EV.o r_X10_order_138 (icN (1) (v := 1)) ?_
                                            refine EV.n2_ne r_X10_order_139 (fun h139 => ?_) (fun h139 => ?_)
                                            · -- 139 t
                                              refine EV.l (lv' := [(0, _), (1, _), (2, _), (3, _), (4, _), (5, _), (6, _), (7, _)]) r_X10_order_147 rfl ?_
                                              exact EV.rv r_X10_order_149 (by (try rw [← zI_nat]); exact congrArg zI (by simp [ordT, *]))
                                            · omega
                                          · omega
                                        · omega
                                      · omega
                                    · -- 74 f
                                      refine EV.l (lv' := [(0, _), (1, _), (2, _), (3, _), (4, _), (5, _), (6, _), (7, _), (8, _)]) r_X10_order_77 rfl ?_
                                      refine EV.n0_ne r_X10_order_79 (fun h79 => ?_) (fun h79 => ?_)
                                      · -- 79 t
                                        refine EV.l (lv' := [(0, _), (1, _), (2, _), (3, _), (4, _), (5, _), (6, _), (7, _), (8, _)]) r_X10_order_113 rfl ?_
                                        rw [inc_lit (m := 2) rfl]
                                        refine EV.l (lv' := [(0, _), (1, _), (2, _), (3, _), (4, _), (5, _), (6, _), (7, _), (8, _)]) r_X10_order_116 rfl ?_
                                        rw [inc_lit (m := 2) rfl]
                                        refine EV.g r_X10_order_119 ?_
                                        refine EV.l (lv' := [(0, _), (1, _), (2, _), (3, _), (4, _), (5, _), (6, _), (7, _), (8, _)]) r_X10_order_59 rfl ?_
                                        refine EV.o r_X10_order_61 (icN (1) (v := 1)) ?_
                                        refine EV.n2_gt r_X10_order_62 (fun h62 => ?_) (fun h62 => ?_)
                                        · -- 62 t
                                          refine EV.l (lv' := [(0, _), (1, _), (2, _), (3, _), (4, _), (5, _), (6, _), (7, _), (8, _)]) r_X10_order_122 rfl ?_
                                          rw [inc_lit (m := 2) rfl]
                                          refine EV.g r_X10_order_125 ?_
                                          refine EV.l (lv' := [(0, _), (1, _), (2, _), (3, _), (4, _), (5, _), (6, _), (7, _)]) r_X10_order_50 rfl ?_
                                          refine EV.o r_X10_order_52 (icN (1) (v := 1)) ?_
                                          refine EV.n2_gt r_X10_order_53 (fun h53 => ?_) (fun h53 => ?_)
                                          · -- 53 t
                                            refine EV.l (lv' := [(0, _), (1, _), (2, _), (3, _), (4, _), (5, _), (6, _), (7, _)]) r_X10_order_128 rfl ?_
                                            refine EV.n0_ne r_X10_order_129 (fun h129 => ?_) (fun h129 => ?_)
                                            · -- 129 t
                                              refine EV.l (lv' := [(0, _), (1, _), (2, _), (3, _), (4, _), (5, _), (6, _), (7, _)]) r_X10_order_137 rfl ?_
                                              refine EV.o r_X10_order_138 (icN (1) (v := 1)) ?_
                                              refine EV.n2_ne r_X10_order_139 (fun h139 => ?_) (fun h139 => ?_)
                                              · -- 139 t
                                                refine EV.l (lv' := [(0, _), (1, _), (2, _), (3, _), (4, _), (5, _), (6, _), (7, _)]) r_X10_order_147 rfl ?_
                                                exact EV.rv r_X10_order_149 (by (try rw [← zI_nat]); exact congrArg zI (by simp [ordT, *]))
                                              · omega
                                            · omega
                                          · omega
                                        · omega
                                      · omega
                                · -- 74 f
                                  refine EV.l (lv' := [(0, _), (1, _), (2, _), (3, _), (4, _), (5, _), (6, _), (7, _), (8, _)]) r_X10_order_77 rfl ?_
                                  refine EV.n0_ne r_X10_order_79 (fun h79 => ?_) (fun h79 => ?_)
                                  · -- 79 t
                                    refine EV.l (lv' := [(0, _), (1, _), (2, _), (3, _), (4, _), (5, _), (6, _), (7, _), (8, _)]) r_X10_order_113 rfl ?_
                                    rw [inc_lit (m := 2) rfl]
                                    refine EV.l (lv' := [(0, _), (1, _), (2, _), (3, _), (4, _), (5, _), (6, _), (7, _), (8, _)]) r_X10_order_116 rfl ?_
                                    rw [inc_lit (m := 1) rfl]
                                    refine EV.g r_X10_order_119 ?_
                                    refine EV.l (lv' := [(0, _), (1, _), (2, _), (3, _), (4, _), (5, _), (6, _), (7, _), (8, _)]) r_X10_order_59 rfl ?_
                                    refine EV.o r_X10_order_61 (icN (1) (v := 1)) ?_
                                    refine EV.n2_gt r_X10_order_62 (fun h62 => ?_) (fun h62 => ?_)
                                    · omega
                                    · -- 62 f
                                      refine EV.l (lv' := [(0, _), (1, _), (2, _), (3, _), (4, _), (5, _), (6, _), (7, _), (8, _)]) r_X10_order_65 rfl ?_
                                      refine EV.l (lv' := [(0, _), (1, _), (2, _), (3, _), (4, _), (5, _), (6, _), (7, _), (8, _)]) r_X10_order_66 rfl ?_
                                      refine EV.l (lv' := [(0, _), (1, _), (2, _), (3, _), (4, _), (5, _), (6, _), (7, _), (8, _)]) r_X10_order_67 rfl ?_
                                      refine EV.l (lv' := [(0, _), (1, _), (2, _), (3, _), (4, _), (5, _), (6, _), (7, _), (8, _)]) r_X10_order_69 rfl ?_
                                      refine EV.cv r_X10_order_71 (aS4 mt_167) (c_isRest (by omega) (by omega) (by omega) (by omega) (by omega)) ?_
                                      refine EV.b0_eq r_X10_order_74 (fun h74 => ?_) (fun h74 => ?_)
                                      · -- 74 t
                                        refine EV.l (lv' := [(0, _), (1, _), (2, _), (3, _), (4, _), (5, _), (6, _), (7, _), (8, _)]) r_X10_order_116 rfl ?_
                                        rw [inc_lit (m := 2) rfl]
                                        refine EV.g r_X10_order_119 ?_
                                        refine EV.l (lv' := [(0, _), (1, _), (2, _), (3, _), (4, _), (5, _), (6, _), (7, _), (8, _)]) r_X10_order_59 rfl ?_
                                        refine EV.o r_X10_order_61 (icN (1) (v := 1)) ?_
                                        refine EV.n2_gt r_X10_order_62 (fun h62 => ?_) (fun h62 => ?_)
                                        · -- 62 t
                                          refine EV.l (lv' := [(0, _), (1, _), (2, _), (3, _), (4, _), (5, _), (6, _), (7, _), (8, _)]) r_X10_order_122 rfl ?_
                                          rw [inc_lit (m := 2) rfl]
                                          refine EV.g r_X10_order_125 ?_
                                          refine EV.l (lv' := [(0, _), (1, _), (2, _), (3, _), (4, _), (5, _), (6, _), (7, _)]) r_X10_order_50 rfl ?_
                                          refine EV.o r_X10_order_52 (icN (1) (v := 1)) ?_
                                          refine EV.n2_gt r_X10_order_53 (fun h53 => ?_) (fun h53 => ?_)
                                          · -- 53 t
                                            refine EV.l (lv' := [(0, _), (1, _), (2, _), (3, _), (4, _), (5, _), (6, _), (7, _)]) r_X10_order_128 rfl ?_
                                            refine EV.n0_ne r_X10_order_129 (fun h129 => ?_) (fun h129 => ?_)
                                            · -- 129 t
                                              refine EV.l (lv' := [(0, _), (1, _), (2, _), (3, _), (4, _), (5, _), (6, _), (7, _)]) r_X10_order_137 rfl ?_
                                              refine EV.o r_X10_order_138 (icN (1) (v := 1)) ?_
                                              refine EV.n2_ne r_X10_order_139 (fun h139 => ?_) (fun h139 => ?_)
                                              · -- 139 t
                                                refine EV.l (lv' := [(0, _), (1, _), (2, _), (3, _), (4, _), (5, _), (6, _), (7, _)]) r_X10_order_147 rfl ?_
                                                exact EV.rv r_X10_order_149 (by (try rw [← zI_nat]); exact congrArg zI (by simp [ordT, *]))
                                              · omega
                                            · omega
                                          · omega
                                        · omega
                                      · -- 74 f
                                        refine EV.l (lv' := [(0, _), (1, _), (2, _), (3, _), (4, _), (5, _), (6, _), (7, _), (8, _)]) r_X10_order_77 rfl ?_
                                        refine EV.n0_ne r_X10_order_79 (fun h79 => ?_) (fun h79 => ?_)
                                        · -- 79 t
                                          refine EV.l (lv' := [(0, _), (1, _), (2, _), (3, _), (4, _), (5, _), (6, _), (7, _), (8, _)]) r_X10_order_113 rfl ?_
                                          rw [inc_lit (m := 3) rfl]
                                          refine EV.l (lv' := [(0, _), (1, _), (2, _), (3, _), (4, _), (5, _), (6, _), (7, _), (8, _)]) r_X10_order_116 rfl ?_
                                          rw [inc_lit (m := 2) rfl]
                                          refine EV.g r_X10_order_119 ?_
                                          refine EV.l (lv' := [(0, _), (1, _), (2, _), (3, _), (4, _), (5, _), (6, _), (7, _), (8, _)]) r_X10_order_59 rfl ?_
                                          refine EV.o r_X10_order_61 (icN (1) (v := 1)) ?_
                                          refine EV.n2_gt r_X10_order_62 (fun h62 => ?_) (fun h62 => ?_)
                                          · -- 62 t
                                            refine EV.l (lv' := [(0, _), (1, _), (2, _), (3, _), (4, _), (5, _), (6, _), (7, _), (8, _)]) r_X10_order_122 rfl ?_
                                            rw [inc_lit (m := 2) rfl]
                                            refine EV.g r_X10_order_125 ?_
                                            refine EV.l (lv' := [(0, _), (1, _), (2, _), (3, _), (4, _), (5, _), (6, _), (7, _)]) r_X10_order_50 rfl ?_
                                            refine EV.o r_X10_order_52 (icN (1) (v := 1)) ?_
                                            refine EV.n2_gt r_X10_order_53 (fun h53 => ?_) (fun h53 => ?_)
                                            · -- 53 t
                                              refine EV.l (lv' := [(0, _), (1, _), (2, _), (3, _), (4, _), (5, _), (6, _), (7, _)]) r_X10_order_128 rfl ?_
                                              refine EV.n0_ne r_X10_order_129 (fun h129 => ?_) (fun h129 => ?_)
                                              · -- 129 t
                                                refine EV.l (lv' := [(0, _), (1, _), (2, _), (3, _), (4, _), (5, _), (6, _), (7, _)]) r_X10_order_137 rfl ?_
                                                refine EV.o r_X10_order_138 (icN (1) (v := 1)) ?_
                                                refine EV.n2_ne r_X10_order_139 (fun h139 => ?_) (fun h139 => ?_)
                                                · -- 139 t
                                                  refine EV.l (lv' := [(0, _), (1, _), (2, _), (3, _), (4, _), (5, _), (6, _), (7, _)]) r_X10_order_147 rfl ?_
                                                  exact EV.rv r_X10_order_149 (by (try rw [← zI_nat]); exact congrArg zI (by simp [ordT, *]))
                                                · omega
                                              · omega
                                            · omega
                                          · omega
                                        · omega
                                  · omega
                          · omega
                        · -- 74 f
                          refine EV.l (lv' := [(0, _), (1, _), (2, _), (3, _), (4, _), (5, _), (6, _), (7, _), (8, _)]) r_X10_order_77 rfl ?_
                          refine EV.n0_ne r_X10_order_79 (fun h79 => ?_) (fun h79 => ?_)
                          · -- 79 t
                            refine EV.l (lv' := [(0, _), (1, _), (2, _), (3, _), (4, _), (5, _), (6, _), (7, _), (8, _)]) r_X10_order_113 rfl ?_
                            rw [inc_lit (m := 2) rfl]
                            refine EV.l (lv' := [(0, _), (1, _), (2, _), (3, _), (4, _), (5, _), (6, _), (7, _), (8, _)]) r_X10_order_116 rfl ?_
                            rw [inc_lit (m := 2) rfl]
                            refine EV.g r_X10_order_119 ?_
                            refine EV.l (lv' := [(0, _), (1, _), (2, _), (3, _), (4, _), (5, _), (6, _), (7, _), (8, _)]) r_X10_order_59 rfl ?_
                            refine EV.o r_X10_order_61 (icN (1) (v := 1)) ?_
                            refine EV.n2_gt r_X10_order_62 (fun h62 => ?_) (fun h62 => ?_)
                            · -- 62 t
                              refine EV.l (lv' := [(0, _), (1, _), (2, _), (3, _), (4, _), (5, _), (6, _), (7, _), (8, _)]) r_X10_order_122 rfl ?_
                              rw [inc_lit (m := 1) rfl]
                              refine EV.g r_X10_order_125 ?_
                              refine EV.l (lv' := [(0, _), (1, _), (2, _), (3, _), (4, _), (5, _), (6, _), (7, _)]) r_X10_order_50 rfl ?_
                              refine EV.o r_X10_order_52 (icN (1) (v := 1)) ?_
                              refine EV.n2_gt r_X10_order_53 (fun h53 => ?_) (fun h53 => ?_)
                              · omega
                              · -- 53 f
                                refine EV.o r_X10_order_56 (icN (0) (v := 0)) ?_
                                refine EV.l (lv' := [(0, _), (1, _), (2, _), (3, _), (4, _), (5, _), (6, _), (7, _), (8, _)]) r_X10_order_57 rfl ?_
                                refine EV.l (lv' := [(0, _), (1, _), (2, _), (3, _), (4, _), (5, _), (6, _), (7, _), (8, _)]) r_X10_order_59 rfl ?_
                                refine EV.o r_X10_order_61 (icN (1) (v := 1)) ?_
                                refine EV.n2_gt r_X10_order_62 (fun h62 => ?_) (fun h62 => ?_)
                                · omega
                                · -- 62 f
                                  refine EV.l (lv' := [(0, _), (1, _), (2, _), (3, _), (4, _), (5, _), (6, _), (7, _), (8, _)]) r_X10_order_65 rfl ?_
                                  refine EV.l (lv' := [(0, _), (1, _), (2, _), (3, _), (4, _), (5, _), (6, _), (7, _), (8, _)]) r_X10_order_66 rfl ?_
                                  refine EV.l (lv' := [(0, _), (1, _), (2, _), (3, _), (4, _), (5, _), (6, _), (7, _), (8, _)]) r_X10_order_67 rfl ?_
                                  refine EV.l (lv' := [(0, _), (1, _), (2, _), (3, _), (4, _), (5, _), (6, _), (7, _), (8, _)]) r_X10_order_69 rfl ?_
                                  refine EV.cv r_X10_order_71 (aS4 mt_167) (c_isRest (by omega) (by omega) (by omega) (by omega) (by omega)) ?_
                                  refine EV.b0_eq r_X10_order_74 (fun h74 => ?_) (fun h74 => ?_)
                                  · -- 74 t
                                    refine EV.l (lv' := [(0, _), (1, _), (2, _), (3, _), (4, _), (5, _), (6, _), (7, _), (8, _)]) r_X10_order_116 rfl ?_
                                    rw [inc_lit (m := 1) rfl]
                                    refine EV.g r_X10_order_119 ?_
                                    refine EV.l (lv' := [(0, _), (1, _), (2, _), (3, _), (4, _), (5, _), (6, _), (7, _), (8, _)]) r_X10_order_59 rfl ?_
                                    refine EV.o r_X10_order_61 (icN (1) (v := 1)) ?_
                                    refine EV.n2_gt r_X10_order_62 (fun h62 => ?_) (fun h62 => ?_)
                                    · omega
                                    · -- 62 f
                                      refine EV.l (lv' := [(0, _), (1, _), (2, _), (3, _), (4, _), (5, _), (6, _), (7, _), (8, _)]) r_X10_order_65 rfl ?_
                                      refine EV.l (lv' := [(0, _), (1, _), (2, _), (3, _), (4, _), (5, _), (6, _), (7, _), (8, _)]) r_X10_order_66 rfl ?_
                                      refine EV.l (lv' := [(0, _), (1, _), (2, _), (3, _), (4, _), (5, _), (6, _), (7, _), (8, _)]) r_X10_order_67 rfl ?_
                                      refine EV.l (lv' := [(0, _), (1, _), (2, _), (3, _), (4, _), (5, _), (6, _), (7, _), (8, _)]) r_X10_order_69 rfl ?_
                                      refine EV.cv r_X10_order_71 (aS4 mt_167) (c_isRest (by omega) (by omega) (by omega) (by omega) (by omega)) ?_
                                      refine EV.b0_eq r_X10_order_74 (fun h74 => ?_) (fun h74 => ?_)
                                      · -- 74 t
                                        refine EV.l (lv' := [(0, _), (1, _), (2, _), (3, _), (4, _), (5, _), (6, _), (7, _), (8, _)]) r_X10_order_116 rfl ?_
                                        rw [inc_lit (m := 2) rfl]
                                        refine EV.g r_X10_order_119 ?_
                                        refine EV.l (lv' := [(0, _), (1, _), (2, _), (3, _), (4, _), (5, _), (6, _), (7, _), (8, _)]) r_X10_order_59 rfl ?_
                                        refine EV.o r_X10_order_61 (icN (1) (v := 1)) ?_
                                        refine EV.n2_gt r_X10_order_62 (fun h62 => ?_) (fun h62 => ?_)
                                        · -- 62 t
                                          refine EV.l (lv' := [(0, _), (1, _), (2, _), (3, _), (4, _), (5, _), (6, _), (7, _), (8, _)]) r_X10_order_122 rfl ?_
                                          rw [inc_lit (m := 2) rfl]
                                          refine EV.g r_X10_order_125 ?_
                                          refine EV.l (lv' := [(0, _), (1, _), (2, _), (3, _), (4, _), (5, _), (6, _), (7, _)]) r_X10_order_50 rfl ?_
                                          refine EV.o r_X10_order_52 (icN (1) (v := 1)) ?_
                                          refine EV.n2_gt r_X10_order_53 (fun h53 => ?_) (fun h53 => ?_)
                                          · -- 53 t
                                            refine EV.l (lv' := [(0, _), (1, _), (2, _), (3, _), (4, _), (5, _), (6, _), (7, _)]) r_X10_order_128 rfl ?_
                                            refine EV.n0_ne r_X10_order_129 (fun h129 => ?_) (fun h129 => ?_)
                                            · -- 129 t
                                              refine EV.l (lv' := [(0, _), (1, _), (2, _), (3, _), (4, _), (5, _), (6, _), (7, _)]) r_X10_order_137 rfl ?_
                                              refine EV.o r_X10_order_138 (icN (1) (v := 1)) ?_
                                              refine EV.n2_ne r_X10_order_139 (fun h139 => ?_) (fun h139 => ?_)
                                              · -- 139 t
                                                refine EV.l (lv' := [(0, _), (1, _), (2, _), (3, _), (4, _), (5, _), (6, _), (7, _)]) r_X10_order_147 rfl ?_
                                                exact EV.rv r_X10_order_149 (by (try rw [← zI_nat]); exact congrArg zI (by simp [ordT, *]))
                                              · omega
                                            · omega
                                          · omega
                                        · omega
                                      · -- 74 f
                                        refine EV.l (lv' := [(0, _), (1, _), (2, _), (3, _), (4, _), (5, _), (6, _), (7, _), (8, _)]) r_X10_order_77 rfl ?_
                                        refine EV.n0_ne r_X10_order_79 (fun h79 => ?_) (fun h79 => ?_)
                                        · -- 79 t
                                          refine EV.l (lv' := [(0, _), (1, _), (2, _), (3, _), (4, _), (5, _), (6, _), (7, _), (8, _)]) r_X10_order_113 rfl ?_
                                          rw [inc_lit (m := 3) rfl]
                                          refine EV.l (lv' := [(0, _), (1, _), (2, _), (3, _), (4, _), (5, _), (6, _), (7, _), (8, _)]) r_X10_order_116 rfl ?_
                                          rw [inc_lit (m := 2) rfl]
                                          refine EV.g r_X10_order_119 ?_
                                          refine EV.l (lv' := [(0, _), (1, _), (2, _), (3, _), (4, _), (5, _), (6, _), (7, _), (8, _)]) r_X10_order_59 rfl ?_
                                          refine EV.o r_X10_order_61 (icN (1) (v := 1)) ?_
                                          refine EV.n2_gt r_X10_order_62 (fun h62 => ?_) (fun h62 => ?_)
                                          · -- 62 t
                                            refine EV.l (lv' := [(0, _), (1, _), (2, _), (3, _), (4, _), (5, _), (6, _), (7, _), (8, _)]) r_X10_order_122 rfl ?_
                                            rw [inc_lit (m := 2) rfl]
                                            refine EV.g r_X10_order_125 ?_
                                            refine EV.l (lv' := [(0, _), (1, _), (2, _), (3, _), (4, _), (5, _), (6, _), (7, _)]) r_X10_order_50 rfl ?_
                                            refine EV.o r_X10_order_52 (icN (1) (v := 1)) ?_
                                            refine EV.n2_gt r_X10_order_53 (fun h53 => ?_) (fun h53 => ?_)
                                            · -- 53 t
                                              refine EV.l (lv' := [(0, _), (1, _), (2, _), (3, _), (4, _), (5, _), (6, _), (7, _)]) r_X10_order_128 rfl ?_
                                              refine EV.n0_ne r_X10_order_129 (fun h129 => ?_) (fun h129 => ?_)
                                              · -- 129 t
                                                refine EV.l (lv' := [(0, _), (1, _), (2, _), (3, _), (4, _), (5, _), (6, _), (7, _)]) r_X10_order_137 rfl ?_
                                                refine EV.o r_X10_order_138 (icN (1) (v := 1)) ?_
                                                refine EV.n2_ne r_X10_order_139 (fun h139 => ?_) (fun h139 => ?_)
                                                · -- 139 t
                                                  refine EV.l (lv' := [(0, _), (1, _), (2, _), (3, _), (4, _), (5, _), (6, _), (7, _)]) r_X10_order_147 rfl ?_
                                                  exact EV.rv r_X10_order_149 (by (try rw [← zI_nat]); exact congrArg zI (by simp [ordT, *]))
                                                · omega
                                              · omega
                                            · omega
                                          · omega
                                        · omega
                                  · -- 74 f
                                    refine EV.l (lv' := [(0, _), (1, _), (2, _), (3, _), (4, _), (5, _), (6, _), (7, _), (8, _)]) r_X10_order_77 rfl ?_
                                    refine EV.n0_ne r_X10_order_79 (fun h79 => ?_) (fun h79 => ?_)
                                    · -- 79 t
                                      refine EV.l (lv' := [(0, _), (1, _), (2, _), (3, _), (4, _), (5, _), (6, _), (7, _), (8, _)]) r_X10_order_113 rfl ?_
                                      rw [inc_lit (m := 3) rfl]
                                      refine EV.l (lv' := [(0, _), (1, _), (2, _), (3, _), (4, _), (5, _), (6, _), (7, _), (8, _)]) r_X10_order_116 rfl ?_
                                      rw [inc_lit (m := 1) rfl]
                                      refine EV.g r_X10_order_119 ?_
                                      refine EV.l (lv' := [(0, _), (1, _), (2, _), (3, _), (4, _), (5, _), (6, _), (7, _), (8, _)]) r_X10_order_59 rfl ?_
                                      refine EV.o r_X10_order_61 (icN (1) (v := 1)) ?_
                                      refine EV.n2_gt r_X10_order_62 (fun h62 => ?_) (fun h62 => ?_)
                                      · omega
                                      · -- 62 f
                                        refine EV.l (lv' := [(0, _), (1, _), (2, _), (3, _), (4, _), (5, _), (6, _), (7, _), (8, _)]) r_X10_order_65 rfl ?_
                                        refine EV.l (lv' := [(0, _), (1, _), (2, _), (3, _), (4, _), (5, _), (6, _), (7, _), (8, _)]) r_X10_order_66 rfl ?_
                                        refine EV.l (lv' := [(0, _), (1, _), (2, _), (3, _), (4, _), (5, _), (6, _), (7, _), (8, _)]) r_X10_order_67 rfl ?_
                                        refine EV.l (lv' := [(0, _), (1, _), (2, _), (3, _), (4, _), (5, _), (6, _), (7, _), (8, _)]) r_X10_order_69 rfl ?_
                                        refine EV.cv r_X10_order_71 (aS4 mt_167) (c_isRest (by omega) (by omega) (by omega) (by omega) (by omega)) ?_
                                        refine EV.b0_eq r_X10_order_74 (fun h74 => ?_) (fun h74 => ?_)
                                        · -- 74 t
                                          refine EV.l (lv' := [(0, _), (1, _), (2, _), (3, _), (4, _), (5, _), (6, _), (7, _), (8, _)]) r_X10_order_116 rfl ?_
                                          rw [inc_lit (m := 2) rfl]
                                          refine EV.g r_X10_order_119 ?_
                                          refine EV.l (lv' := [(0, _), (1, _), (2, _), (3, _), (4, _), (5, _), (6, _), (7, _), (8, _)]) r_X10_order_59 rfl ?_
                                          refine EV.o r_X10_order_61 (icN (1) (v := 1)) ?_
                                          refine EV.n2_gt r_X10_order_62 (fun h62 => ?_) (fun h62 => ?_)
                                          · -- 62 t
                                            refine EV.l (lv' := [(0, _), (1, _), (2, _), (3, _), (4, _), (5, _), (6, _), (7, _), (8, _)]) r_X10_order_122 rfl ?_
                                            rw [inc_lit (m := 2) rfl]
                                            refine EV.g r_X10_order_125 ?_
                                            refine EV.l (lv' := [(0, _), (1, _), (2, _), (3, _), (4, _), (5, _), (6, _), (7, _)]) r_X10_order_50 rfl ?_
                                            refine EV.o r_X10_order_52 (icN (1) (v := 1)) ?_
                                            refine EV.n2_gt r_X10_order_53 (fun h53 => ?_) (fun h53 => ?_)
                                            · -- 53 t
                                              refine EV.l (lv' := [(0, _), (1, _), (2, _), (3, _), (4, _), (5, _), (6, _), (7, _)]) r_X10_order_128 rfl ?_
                                              refine EV.n0_ne r_X10_order_129 (fun h129 => ?_) (fun h129 => ?_)
                                              · -- 129 t
                                                refine EV.l (lv' := [(0, _), (1, _), (2, _), (3, _), (4, _), (5, _), (6, _), (7, _)]) r_X10_order_137 rfl ?_
                                                refine EV.o r_X10_order_138 (icN (1) (v := 1)) ?_
                                                refine EV.n2_ne r_X10_order_139 (fun h139 => ?_) (fun h139 => ?_)
                                                · -- 139 t
                                                  refine EV.l (lv' := [(0, _), (1, _), (2, _), (3, _), (4, _), (5, _), (6, _), (7, _)]) r_X10_order_147 rfl ?_
                                                  exact EV.rv r_X10_order_149 (by (try rw [← zI_nat]); exact congrArg zI (by simp [ordT, *]))
                                                · omega
                                              · omega
                                            · omega
                                          · omega
                                        · -- 74 f
                                          refine EV.l (lv' := [(0, _), (1, _), (2, _), (3, _), (4, _), (5, _), (6, _), (7, _), (8, _)]) r_X10_order_77 rfl ?_
                                          refine EV.n0_ne r_X10_order_79 (fun h79 => ?_) (fun h79 => ?_)
                                          · -- 79 t
                                            refine EV.l (lv' := [(0, _), (1, _), (2, _), (3, _), (4, _), (5, _), (6, _), (7, _), (8, _)]) r_X10_order_113 rfl ?_
                                            rw [inc_lit (m := 4) rfl]
                                            refine EV.l (lv' := [(0, _), (1, _), (2, _), (3, _), (4, _), (5, _), (6, _), (7, _), (8, _)]) r_X10_order_116 rfl ?_
                                            rw [inc_lit (m := 2) rfl]
                                            refine EV.g r_X10_order_119 ?_
                                            refine EV.l (lv' := [(0, _), (1, _), (2, _), (3, _), (4, _), (5, _), (6, _), (7, _), (8, _)]) r_X10_order_59 rfl ?_
                                            refine EV.o r_X10_order_61 (icN (1) (v := 1)) ?_
                                            refine EV.n2_gt r_X10_order_62 (fun h62 => ?_) (fun h62 => ?_)
                                            · -- 62 t
                                              refine EV.l (lv' := [(0, _), (1, _), (2, _), (3, _), (4, _), (5, _), (6, _), (7, _), (8, _)]) r_X10_order_122 rfl ?_
                                              rw [inc_lit (m := 2) rfl]
                                              refine EV.g r_X10_order_125 ?_
                                              refine EV.l (lv' := [(0, _), (1, _), (2, _), (3, _), (4, _), (5, _), (6, _), (7, _)]) r_X10_order_50 rfl ?_
                                              refine EV.o r_X10_order_52 (icN (1) (v := 1)) ?_
                                              refine EV.n2_gt r_X10_order_53 (fun h53 => ?_) (fun h53 => ?_)
                                              · -- 53 t
                                                refine EV.l (lv' := [(0, _), (1, _), (2, _), (3, _), (4, _), (5, _), (6, _), (7, _)]) r_X10_order_128 rfl ?_
                                                refine EV.n0_ne r_X10_order_129 (fun h129 => ?_) (fun h129 => ?_)
                                                · -- 129 t
                                                  refine EV.l (lv' := [(0, _), (1, _), (2, _), (3, _), (4, _), (5, _), (6, _), (7, _)]) r_X10_order_137 rfl ?_
                                                  refine EV.o r_X10_order_138 (icN (1) (v := 1)) ?_
                                                  refine EV.n2_ne r_X10_order_139 (fun h139 => ?_) (fun h139 => ?_)
                                                  · -- 139 t
                                                    refine EV.l (lv' := [(0, _), (1, _), (2, _), (3, _), (4, _), (5, _), (6, _), (7, _)]) r_X10_order_147 rfl ?_
                                                    exact EV.rv r_X10_order_149 (by (try rw [← zI_nat]); exact congrArg zI (by simp [ordT, *]))
                                                  · omega
                                                · omega
                                              · omega
                                            · omega
                                          · omega
                                    · omega
                            · omega
                          · omega
