/-! (goes on) -/
theorem m_order0 {d : Nat} {I : Nat → Nat → Int32} {J : Nat → Nat → Int64} {v w : Nat} (hv : v ≤ 99) (hw : w ≤ 99)  (hd : 9 ≤ d) : RI d 259 [.ref 106, .int (nI v), .int (nI w), .int (nI 0)] I J (fun x I' => x = nI (orC v w 4) ∧ FM I I') := by
  refine RI.in (d0 := 8) hd mt_259 (Nat.le_of_ble_eq_true rfl) (fun d' hd' => ?_)
  show EV none M_X11_order d' 0 [(0, .ref 106), (1, .int (nI v)), (2, .int (nI w)), (3, .int (nI 0))] [] (hp I J) _
  refine EV.l (lv' := [(0, _), (1, _), (2, _), (3, _)]) r_X11_order_0 rfl ?_
  refine EV.o r_X11_order_1 (icN (0) (v := 0)) ?_
  refine EV.pI r_X11_order_2 la_106 ?_
  refine EV.l (lv' := [(0, _), (1, _), (2, _), (3, _)]) r_X11_order_5 rfl ?_
  refine EV.l (lv' := [(0, _), (1, _), (2, _), (3, _)]) r_X11_order_6 rfl ?_
  refine EV.o r_X11_order_7 (icN (0) (v := 0)) ?_
  refine EV.o r_X11_order_8 (bpN (99) 99) ?_
  refine EV.cv r_X11_order_10 (aS3 mt_170) (m_wNNN (by omega) (by omega) (by omega) (by omega)) ?_
  refine EV.p0_eq r_X11_order_13 (fun h13 => ?_) (fun h13 => ?_)
  · -- 13 t
    refine EV.o r_X11_order_39 (icN (0) (v := 0)) ?_
    refine EV.o r_X11_order_40 (icN (1) (v := 1)) ?_
    refine EV.o r_X11_order_41 (icN (1) (v := 1)) ?_
    omega
  · -- 13 f
    refine EV.l (lv' := [(0, _), (1, _), (2, _), (3, _)]) r_X11_order_16 rfl ?_
    refine EV.o r_X11_order_17 (icN (0) (v := 0)) ?_
    refine EV.o r_X11_order_18 (bpN (99) 99) ?_
    refine EV.cv r_X11_order_20 (aS3 mt_170) (m_wNNN (by omega) (by omega) (by omega) (by omega)) ?_
    refine EV.p0_eq r_X11_order_23 (fun h23 => ?_) (fun h23 => ?_)
    · -- 23 t
      refine EV.o r_X11_order_39 (icN (0) (v := 0)) ?_
      refine EV.o r_X11_order_40 (icN (1) (v := 1)) ?_
      refine EV.o r_X11_order_41 (icN (1) (v := 1)) ?_
      omega
    · -- 23 f
      refine EV.l (lv' := [(0, _), (1, _), (2, _), (3, _)]) r_X11_order_26 rfl ?_
      refine EV.o r_X11_order_27 (icN (0) (v := 0)) ?_
      refine EV.o r_X11_order_28 (icN (2) (v := 2)) ?_
      refine EV.cv r_X11_order_29 (aS3 mt_170) (m_wNNN (by omega) (by omega) (by omega) (by omega)) ?_
      refine EV.p0_eq r_X11_order_32 (fun h32 => ?_) (fun h32 => ?_)
      · -- 32 t
        refine EV.o r_X11_order_39 (icN (0) (v := 0)) ?_
        refine EV.o r_X11_order_40 (icN (1) (v := 1)) ?_
        refine EV.o r_X11_order_41 (icN (1) (v := 1)) ?_
        omega
      · -- 32 f
        refine EV.o r_X11_order_35 (icN (1) (v := 1)) ?_
        refine EV.g r_X11_order_36 ?_
        refine EV.o r_X11_order_40 (icN (1) (v := 1)) ?_
        refine EV.o r_X11_order_41 (icN (1) (v := 1)) ?_
        refine EV.cv r_X11_order_42 (aV3 mt_169 la_106) (m_mayN wr_same (by omega)) ?_
        refine EV.n0_ne r_X11_order_45 (fun h45 => ?_) (fun h45 => ?_)
        · -- 45 t
          refine EV.o r_X11_order_50 (icN (0) (v := 0)) ?_
          refine EV.l (lv' := [(0, _), (1, _), (2, _), (3, _), (4, _)]) r_X11_order_51 rfl ?_
          refine EV.o r_X11_order_53 (icZ (-1)) ?_
          refine EV.l (lv' := [(0, _), (1, _), (2, _), (3, _), (4, _), (5, _)]) r_X11_order_54 rfl ?_
          refine EV.o r_X11_order_56 (icN (0) (v := 0)) ?_
          refine EV.l (lv' := [(0, _), (1, _), (2, _), (3, _), (4, _), (5, _), (6, _)]) r_X11_order_57 rfl ?_
          have L59 : ∀ y_ : Nat, (fun k => k ≤ 4 → EV none M_X11_order d' 59 [(0, .ref 106), (1, .int (nI v)), (2, .int (nI w)), (3, .int (nI 0)), (4, .int (nI (orC v w k))), (5, .int (opI (orO v w k))), (6, .int (nI k))] [] (hp (wr I 106 0 (nI 0)) J) (QI J (fun x I' => x = nI (orC v w 4) ∧ FM I I'))) y_ := by
            refine ev_loop (fun k => 4 - k) ?_
            intro k ih59 hx59
            try dsimp only at ih59
            try dsimp only at hx59
            try dsimp only
            have oc := orC_le v w k
            have g1 := gn_le (v := v) (w := w) (a := 1 - k / 2) (b := k % 2) hv hw; have g2 := gn_le (v := v) (w := w) (a := k / 2) (b := k % 2) hv hw; have g3 := gn_le (v := v) (w := w) (a := 1 - k % 2) (b := k / 2) hv hw; have g4 := gn_le (v := v) (w := w) (a := k % 2) (b := k / 2) hv hw
            refine EV.l (lv' := [(0, _), (1, _), (2, _), (3, _), (4, _), (5, _), (6, _)]) r_X11_order_59 rfl ?_
            refine EV.o r_X11_order_61 (icN (4) (v := 4)) ?_
            refine EV.n2_ge r_X11_order_62 (fun h62 => ?_) (fun h62 => ?_)
            · -- 62 t
              obtain rfl : k = 4 := by omega
              refine EV.l (lv' := [(0, _), (1, _), (2, _), (3, _), (4, _), (5, _), (6, _)]) r_X11_order_156 rfl ?_
              refine EV.n0_ne r_X11_order_157 (fun h157 => ?_) (fun h157 => ?_)
              · omega
              · -- 157 f
                refine EV.l (lv' := [(0, _), (1, _), (2, _), (3, _), (4, _), (5, _), (6, _)]) r_X11_order_160 rfl ?_
                refine EV.g r_X11_order_162 ?_
                exact EV.ri r_X11_order_216 (⟨rfl, FM_0⟩)
            · -- 62 f
              refine EV.l (lv' := [(0, _), (1, _), (2, _), (3, _), (4, _), (5, _), (6, _)]) r_X11_order_65 rfl ?_
              refine EV.o r_X11_order_67 (icN (2) (v := 2)) ?_
              refine EV.o r_X11_order_68 (idivN) ?_
              refine EV.l (lv' := [(0, _), (1, _), (2, _), (3, _), (4, _), (5, _), (6, _), (7, _)]) r_X11_order_69 rfl ?_
              refine EV.l (lv' := [(0, _), (1, _), (2, _), (3, _), (4, _), (5, _), (6, _), (7, _)]) r_X11_order_71 rfl ?_
              refine EV.o r_X11_order_73 (icN (2) (v := 2)) ?_
              refine EV.o r_X11_order_74 (iremN) ?_
              refine EV.l (lv' := [(0, _), (1, _), (2, _), (3, _), (4, _), (5, _), (6, _), (7, _), (8, _)]) r_X11_order_75 rfl ?_
              refine EV.o r_X11_order_77 (icN (1) (v := 1)) ?_
              refine EV.l (lv' := [(0, _), (1, _), (2, _), (3, _), (4, _), (5, _), (6, _), (7, _), (8, _)]) r_X11_order_78 rfl ?_
              refine EV.o r_X11_order_80 (isubN) ?_
              refine EV.l (lv' := [(0, _), (1, _), (2, _), (3, _), (4, _), (5, _), (6, _), (7, _), (8, _)]) r_X11_order_81 rfl ?_
              refine EV.l (lv' := [(0, _), (1, _), (2, _), (3, _), (4, _), (5, _), (6, _), (7, _), (8, _)]) r_X11_order_83 rfl ?_
              refine EV.l (lv' := [(0, _), (1, _), (2, _), (3, _), (4, _), (5, _), (6, _), (7, _), (8, _)]) r_X11_order_84 rfl ?_
              refine EV.cv r_X11_order_85 (aS4 mt_258) (m_hasBy (by omega) (by omega) (by omega) (by omega) (by omega)) ?_
              refine EV.l (lv' := [(0, _), (1, _), (2, _), (3, _), (4, _), (5, _), (6, _), (7, _), (8, _)]) r_X11_order_88 rfl ?_
              refine EV.l (lv' := [(0, _), (1, _), (2, _), (3, _), (4, _), (5, _), (6, _), (7, _), (8, _)]) r_X11_order_90 rfl ?_
              refine EV.l (lv' := [(0, _), (1, _), (2, _), (3, _), (4, _), (5, _), (6, _), (7, _), (8, _)]) r_X11_order_92 rfl ?_
              refine EV.l (lv' := [(0, _), (1, _), (2, _), (3, _), (4, _), (5, _), (6, _), (7, _), (8, _)]) r_X11_order_93 rfl ?_
              refine EV.cv r_X11_order_94 (aS4 mt_258) (m_hasBy (by omega) (by omega) (by omega) (by omega) (by omega)) ?_
              refine EV.z2_gt r_X11_order_97 (fun h97 => ?_) (fun h97 => ?_)
              · -- 97 t
                have r_ : isR v w (k / 2) (k % 2) = false := decide_eq_false (by omega)
                refine EV.l (lv' := [(0, _), (1, _), (2, _), (3, _), (4, _), (5, _), (6, _), (7, _), (8, _)]) r_X11_order_150 rfl ?_
                rw [inc_nI]
                refine EV.g r_X11_order_153 ?_
                refine EV.fg (lv' := [(0, _), (1, _), (2, _), (3, _), (4, _), (5, _), (6, _)]) r_X11_order_59 rfl rfl rfl ?_
                refine EV.sub ?_ rfl ?_ (ih59 (k + 1) ?_ ?_)
                · first | rw [orC_t r_, orO_s ec_] | rw [orC_t r_, orO_n r_ h132] | rw [orC_f r_, orO_f r_]
                · rfl
                · omega
                · omega
              · -- 97 f
                refine EV.o r_X11_order_100 (icN (1) (v := 1)) ?_
                refine EV.l (lv' := [(0, _), (1, _), (2, _), (3, _), (4, _), (5, _), (6, _), (7, _), (8, _)]) r_X11_order_101 rfl ?_
                refine EV.o r_X11_order_103 (isubN) ?_
                refine EV.l (lv' := [(0, _), (1, _), (2, _), (3, _), (4, _), (5, _), (6, _), (7, _), (8, _)]) r_X11_order_104 rfl ?_
                refine EV.l (lv' := [(0, _), (1, _), (2, _), (3, _), (4, _), (5, _), (6, _), (7, _), (8, _)]) r_X11_order_106 rfl ?_
                refine EV.l (lv' := [(0, _), (1, _), (2, _), (3, _), (4, _), (5, _), (6, _), (7, _), (8, _)]) r_X11_order_107 rfl ?_
                refine EV.cv r_X11_order_108 (aS4 mt_258) (m_hasBy (by omega) (by omega) (by omega) (by omega) (by omega)) ?_
                refine EV.l (lv' := [(0, _), (1, _), (2, _), (3, _), (4, _), (5, _), (6, _), (7, _), (8, _)]) r_X11_order_111 rfl ?_
                refine EV.l (lv' := [(0, _), (1, _), (2, _), (3, _), (4, _), (5, _), (6, _), (7, _), (8, _)]) r_X11_order_113 rfl ?_
                refine EV.l (lv' := [(0, _), (1, _), (2, _), (3, _), (4, _), (5, _), (6, _), (7, _), (8, _)]) r_X11_order_115 rfl ?_
                refine EV.l (lv' := [(0, _), (1, _), (2, _), (3, _), (4, _), (5, _), (6, _), (7, _), (8, _)]) r_X11_order_116 rfl ?_
                refine EV.cv r_X11_order_117 (aS4 mt_258) (m_hasBy (by omega) (by omega) (by omega) (by omega) (by omega)) ?_
                refine EV.z2_le r_X11_order_120 (fun h120 => ?_) (fun h120 => ?_)
                · -- 120 t
                  have r_ : isR v w (k / 2) (k % 2) = true := decide_eq_true (by omega)
                  refine EV.l (lv' := [(0, _), (1, _), (2, _), (3, _), (4, _), (5, _), (6, _), (7, _), (8, _)]) r_X11_order_126 rfl ?_
                  rw [inc_nI]
                  refine EV.l (lv' := [(0, _), (1, _), (2, _), (3, _), (4, _), (5, _), (6, _), (7, _), (8, _)]) r_X11_order_129 rfl ?_
                  refine EV.o r_X11_order_131 (icZ (-1)) ?_
                  refine EV.op_ne r_X11_order_132 (fun h132 => ?_) (fun h132 => ?_) (fun c ec_ => by have := orO_b ec_; omega)
                  · -- 132 t
                    obtain ⟨c, ec_⟩ := h132
                    rw [ec_, opI_some]
                    have bc_ := orO_b ec_
                    refine EV.l (lv' := [(0, _), (1, _), (2, _), (3, _), (4, _), (5, _), (6, _), (7, _), (8, _)]) r_X11_order_146 rfl ?_
                    refine EV.l (lv' := [(0, _), (1, _), (2, _), (3, _), (4, _), (5, _), (6, _), (7, _), (8, _)]) r_X11_order_148 rfl ?_
                    refine EV.l (lv' := [(0, _), (1, _), (2, _), (3, _), (4, _), (5, _), (6, _), (7, _), (8, _)]) r_X11_order_150 rfl ?_
                    rw [inc_nI]
                    refine EV.g r_X11_order_153 ?_
                    refine EV.fg (lv' := [(0, _), (1, _), (2, _), (3, _), (4, _), (5, _), (6, _)]) r_X11_order_59 rfl rfl rfl ?_
                    refine EV.sub ?_ rfl ?_ (ih59 (k + 1) ?_ ?_)
                    · first | rw [orC_t r_, orO_s ec_] | rw [orC_t r_, orO_n r_ h132] | rw [orC_f r_, orO_f r_]
                    · rfl
                    · omega
                    · omega
                  · -- 132 f
                    refine EV.o r_X11_order_135 (bpN (10) 10) ?_
                    refine EV.l (lv' := [(0, _), (1, _), (2, _), (3, _), (4, _), (5, _), (6, _), (7, _), (8, _)]) r_X11_order_137 rfl ?_
                    refine EV.o r_X11_order_139 imulN ?_
                    refine EV.l (lv' := [(0, _), (1, _), (2, _), (3, _), (4, _), (5, _), (6, _), (7, _), (8, _)]) r_X11_order_140 rfl ?_
                    refine EV.o r_X11_order_142 iaddN ?_
                    refine EV.g r_X11_order_143 ?_
                    refine EV.l (lv' := [(0, _), (1, _), (2, _), (3, _), (4, _), (5, _), (6, _), (7, _), (8, _)]) r_X11_order_148 rfl ?_
                    refine EV.l (lv' := [(0, _), (1, _), (2, _), (3, _), (4, _), (5, _), (6, _), (7, _), (8, _)]) r_X11_order_150 rfl ?_
                    rw [inc_nI]
                    refine EV.g r_X11_order_153 ?_
                    refine EV.fg (lv' := [(0, _), (1, _), (2, _), (3, _), (4, _), (5, _), (6, _)]) r_X11_order_59 rfl rfl rfl ?_
                    refine EV.sub ?_ rfl ?_ (ih59 (k + 1) ?_ ?_)
                    · first | rw [orC_t r_, orO_s ec_] | rw [orC_t r_, orO_n r_ h132] | rw [orC_f r_, orO_f r_]
                    · rfl
                    · omega
                    · omega
                · -- 120 f
                  have r_ : isR v w (k / 2) (k % 2) = false := decide_eq_false (by omega)
                  refine EV.g r_X11_order_123 ?_
                  refine EV.l (lv' := [(0, _), (1, _), (2, _), (3, _), (4, _), (5, _), (6, _), (7, _), (8, _)]) r_X11_order_150 rfl ?_
                  rw [inc_nI]
                  refine EV.g r_X11_order_153 ?_
                  refine EV.fg (lv' := [(0, _), (1, _), (2, _), (3, _), (4, _), (5, _), (6, _)]) r_X11_order_59 rfl rfl rfl ?_
                  refine EV.sub ?_ rfl ?_ (ih59 (k + 1) ?_ ?_)
                  · first | rw [orC_t r_, orO_s ec_] | rw [orC_t r_, orO_n r_ h132] | rw [orC_f r_, orO_f r_]
                  · rfl
                  · omega
                  · omega
          have h0 := L59 (0)
          try dsimp only at h0
          refine EV.sub ?_ rfl ?_ (h0 ?_)
          · rfl
          · rfl
          · omega
        · omega
theorem m_order1 {d : Nat} {I : Nat → Nat → Int32} {J : Nat → Nat → Int64} {v w : Nat} (hv : v ≤ 99) (hw : w ≤ 99)  (hd : 9 ≤ d) : RI d 259 [.ref 106, .int (nI v), .int (nI w), .int (nI 1)] I J (fun x I' => x = opI (orO v w 4) ∧ FM I I') := by
  refine RI.in (d0 := 8) hd mt_259 (Nat.le_of_ble_eq_true rfl) (fun d' hd' => ?_)
  show EV none M_X11_order d' 0 [(0, .ref 106), (1, .int (nI v)), (2, .int (nI w)), (3, .int (nI 1))] [] (hp I J) _
  refine EV.l (lv' := [(0, _), (1, _), (2, _), (3, _)]) r_X11_order_0 rfl ?_
  refine EV.o r_X11_order_1 (icN (0) (v := 0)) ?_
  refine EV.pI r_X11_order_2 la_106 ?_
  refine EV.l (lv' := [(0, _), (1, _), (2, _), (3, _)]) r_X11_order_5 rfl ?_
  refine EV.l (lv' := [(0, _), (1, _), (2, _), (3, _)]) r_X11_order_6 rfl ?_
  refine EV.o r_X11_order_7 (icN (0) (v := 0)) ?_
  refine EV.o r_X11_order_8 (bpN (99) 99) ?_
  refine EV.cv r_X11_order_10 (aS3 mt_170) (m_wNNN (by omega) (by omega) (by omega) (by omega)) ?_
  refine EV.p0_eq r_X11_order_13 (fun h13 => ?_) (fun h13 => ?_)
  · -- 13 t
    refine EV.o r_X11_order_39 (icN (0) (v := 0)) ?_
    refine EV.o r_X11_order_40 (icN (1) (v := 1)) ?_
    refine EV.o r_X11_order_41 (icN (1) (v := 1)) ?_
    omega
  · -- 13 f
    refine EV.l (lv' := [(0, _), (1, _), (2, _), (3, _)]) r_X11_order_16 rfl ?_
    refine EV.o r_X11_order_17 (icN (0) (v := 0)) ?_
    refine EV.o r_X11_order_18 (bpN (99) 99) ?_
    refine EV.cv r_X11_order_20 (aS3 mt_170) (m_wNNN (by omega) (by omega) (by omega) (by omega)) ?_
    refine EV.p0_eq r_X11_order_23 (fun h23 => ?_) (fun h23 => ?_)
    · -- 23 t
      refine EV.o r_X11_order_39 (icN (0) (v := 0)) ?_
      refine EV.o r_X11_order_40 (icN (1) (v := 1)) ?_
      refine EV.o r_X11_order_41 (icN (1) (v := 1)) ?_
      omega
    · -- 23 f
      refine EV.l (lv' := [(0, _), (1, _), (2, _), (3, _)]) r_X11_order_26 rfl ?_
      refine EV.o r_X11_order_27 (icN (0) (v := 0)) ?_
      refine EV.o r_X11_order_28 (icN (2) (v := 2)) ?_
      refine EV.cv r_X11_order_29 (aS3 mt_170) (m_wNNN (by omega) (by omega) (by omega) (by omega)) ?_
      refine EV.p0_eq r_X11_order_32 (fun h32 => ?_) (fun h32 => ?_)
      · -- 32 t
        refine EV.o r_X11_order_39 (icN (0) (v := 0)) ?_
        refine EV.o r_X11_order_40 (icN (1) (v := 1)) ?_
        refine EV.o r_X11_order_41 (icN (1) (v := 1)) ?_
        omega
      · -- 32 f
        refine EV.o r_X11_order_35 (icN (1) (v := 1)) ?_
        refine EV.g r_X11_order_36 ?_
        refine EV.o r_X11_order_40 (icN (1) (v := 1)) ?_
        refine EV.o r_X11_order_41 (icN (1) (v := 1)) ?_
        refine EV.cv r_X11_order_42 (aV3 mt_169 la_106) (m_mayN wr_same (by omega)) ?_
        refine EV.n0_ne r_X11_order_45 (fun h45 => ?_) (fun h45 => ?_)
        · -- 45 t
          refine EV.o r_X11_order_50 (icN (0) (v := 0)) ?_
          refine EV.l (lv' := [(0, _), (1, _), (2, _), (3, _), (4, _)]) r_X11_order_51 rfl ?_
          refine EV.o r_X11_order_53 (icZ (-1)) ?_
          refine EV.l (lv' := [(0, _), (1, _), (2, _), (3, _), (4, _), (5, _)]) r_X11_order_54 rfl ?_
          refine EV.o r_X11_order_56 (icN (0) (v := 0)) ?_
          refine EV.l (lv' := [(0, _), (1, _), (2, _), (3, _), (4, _), (5, _), (6, _)]) r_X11_order_57 rfl ?_
          have L59 : ∀ y_ : Nat, (fun k => k ≤ 4 → EV none M_X11_order d' 59 [(0, .ref 106), (1, .int (nI v)), (2, .int (nI w)), (3, .int (nI 1)), (4, .int (nI (orC v w k))), (5, .int (opI (orO v w k))), (6, .int (nI k))] [] (hp (wr I 106 0 (nI 0)) J) (QI J (fun x I' => x = opI (orO v w 4) ∧ FM I I'))) y_ := by
            refine ev_loop (fun k => 4 - k) ?_
            intro k ih59 hx59
            try dsimp only at ih59
            try dsimp only at hx59
            try dsimp only
            have oc := orC_le v w k
            have g1 := gn_le (v := v) (w := w) (a := 1 - k / 2) (b := k % 2) hv hw; have g2 := gn_le (v := v) (w := w) (a := k / 2) (b := k % 2) hv hw; have g3 := gn_le (v := v) (w := w) (a := 1 - k % 2) (b := k / 2) hv hw; have g4 := gn_le (v := v) (w := w) (a := k % 2) (b := k / 2) hv hw
            refine EV.l (lv' := [(0, _), (1, _), (2, _), (3, _), (4, _), (5, _), (6, _)]) r_X11_order_59 rfl ?_
            refine EV.o r_X11_order_61 (icN (4) (v := 4)) ?_
            refine EV.n2_ge r_X11_order_62 (fun h62 => ?_) (fun h62 => ?_)
            · -- 62 t
              obtain rfl : k = 4 := by omega
              refine EV.l (lv' := [(0, _), (1, _), (2, _), (3, _), (4, _), (5, _), (6, _)]) r_X11_order_156 rfl ?_
              refine EV.n0_ne r_X11_order_157 (fun h157 => ?_) (fun h157 => ?_)
              · -- 157 t
                refine EV.l (lv' := [(0, _), (1, _), (2, _), (3, _), (4, _), (5, _), (6, _)]) r_X11_order_165 rfl ?_
                refine EV.o r_X11_order_166 (icN (1) (v := 1)) ?_
                refine EV.n2_ne r_X11_order_167 (fun h167 => ?_) (fun h167 => ?_)
                · omega
                · -- 167 f
                  refine EV.l (lv' := [(0, _), (1, _), (2, _), (3, _), (4, _), (5, _), (6, _)]) r_X11_order_170 rfl ?_
                  refine EV.g r_X11_order_172 ?_
                  exact EV.ri r_X11_order_216 (⟨rfl, FM_0⟩)
              · omega
            · -- 62 f
              refine EV.l (lv' := [(0, _), (1, _), (2, _), (3, _), (4, _), (5, _), (6, _)]) r_X11_order_65 rfl ?_
              refine EV.o r_X11_order_67 (icN (2) (v := 2)) ?_
              refine EV.o r_X11_order_68 (idivN) ?_
              refine EV.l (lv' := [(0, _), (1, _), (2, _), (3, _), (4, _), (5, _), (6, _), (7, _)]) r_X11_order_69 rfl ?_
              refine EV.l (lv' := [(0, _), (1, _), (2, _), (3, _), (4, _), (5, _), (6, _), (7, _)]) r_X11_order_71 rfl ?_
              refine EV.o r_X11_order_73 (icN (2) (v := 2)) ?_
              refine EV.o r_X11_order_74 (iremN) ?_
              refine EV.l (lv' := [(0, _), (1, _), (2, _), (3, _), (4, _), (5, _), (6, _), (7, _), (8, _)]) r_X11_order_75 rfl ?_
              refine EV.o r_X11_order_77 (icN (1) (v := 1)) ?_
              refine EV.l (lv' := [(0, _), (1, _), (2, _), (3, _), (4, _), (5, _), (6, _), (7, _), (8, _)]) r_X11_order_78 rfl ?_
              refine EV.o r_X11_order_80 (isubN) ?_
              refine EV.l (lv' := [(0, _), (1, _), (2, _), (3, _), (4, _), (5, _), (6, _), (7, _), (8, _)]) r_X11_order_81 rfl ?_
              refine EV.l (lv' := [(0, _), (1, _), (2, _), (3, _), (4, _), (5, _), (6, _), (7, _), (8, _)]) r_X11_order_83 rfl ?_
              refine EV.l (lv' := [(0, _), (1, _), (2, _), (3, _), (4, _), (5, _), (6, _), (7, _), (8, _)]) r_X11_order_84 rfl ?_
              refine EV.cv r_X11_order_85 (aS4 mt_258) (m_hasBy (by omega) (by omega) (by omega) (by omega) (by omega)) ?_
              refine EV.l (lv' := [(0, _), (1, _), (2, _), (3, _), (4, _), (5, _), (6, _), (7, _), (8, _)]) r_X11_order_88 rfl ?_
              refine EV.l (lv' := [(0, _), (1, _), (2, _), (3, _), (4, _), (5, _), (6, _), (7, _), (8, _)]) r_X11_order_90 rfl ?_
              refine EV.l (lv' := [(0, _), (1, _), (2, _), (3, _), (4, _), (5, _), (6, _), (7, _), (8, _)]) r_X11_order_92 rfl ?_
              refine EV.l (lv' := [(0, _), (1, _), (2, _), (3, _), (4, _), (5, _), (6, _), (7, _), (8, _)]) r_X11_order_93 rfl ?_
              refine EV.cv r_X11_order_94 (aS4 mt_258) (m_hasBy (by omega) (by omega) (by omega) (by omega) (by omega)) ?_
              refine EV.z2_gt r_X11_order_97 (fun h97 => ?_) (fun h97 => ?_)
              · -- 97 t
                have r_ : isR v w (k / 2) (k % 2) = false := decide_eq_false (by omega)
                refine EV.l (lv' := [(0, _), (1, _), (2, _), (3, _), (4, _), (5, _), (6, _), (7, _), (8, _)]) r_X11_order_150 rfl ?_
                rw [inc_nI]
                refine EV.g r_X11_order_153 ?_
                refine EV.fg (lv' := [(0, _), (1, _), (2, _), (3, _), (4, _), (5, _), (6, _)]) r_X11_order_59 rfl rfl rfl ?_
                refine EV.sub ?_ rfl ?_ (ih59 (k + 1) ?_ ?_)
                · first | rw [orC_t r_, orO_s ec_] | rw [orC_t r_, orO_n r_ h132] | rw [orC_f r_, orO_f r_]
                · rfl
                · omega
                · omega
              · -- 97 f
                refine EV.o r_X11_order_100 (icN (1) (v := 1)) ?_
                refine EV.l (lv' := [(0, _), (1, _), (2, _), (3, _), (4, _), (5, _), (6, _), (7, _), (8, _)]) r_X11_order_101 rfl ?_
                refine EV.o r_X11_order_103 (isubN) ?_
                refine EV.l (lv' := [(0, _), (1, _), (2, _), (3, _), (4, _), (5, _), (6, _), (7, _), (8, _)]) r_X11_order_104 rfl ?_
                refine EV.l (lv' := [(0, _), (1, _), (2, _), (3, _), (4, _), (5, _), (6, _), (7, _), (8, _)]) r_X11_order_106 rfl ?_
                refine EV.l (lv' := [(0, _), (1, _), (2, _), (3, _), (4, _), (5, _), (6, _), (7, _), (8, _)]) r_X11_order_107 rfl ?_
                refine EV.cv r_X11_order_108 (aS4 mt_258) (m_hasBy (by omega) (by omega) (by omega) (by omega) (by omega)) ?_
                refine EV.l (lv' := [(0, _), (1, _), (2, _), (3, _), (4, _), (5, _), (6, _), (7, _), (8, _)]) r_X11_order_111 rfl ?_
                refine EV.l (lv' := [(0, _), (1, _), (2, _), (3, _), (4, _), (5, _), (6, _), (7, _), (8, _)]) r_X11_order_113 rfl ?_
                refine EV.l (lv' := [(0, _), (1, _), (2, _), (3, _), (4, _), (5, _), (6, _), (7, _), (8, _)]) r_X11_order_115 rfl ?_
                refine EV.l (lv' := [(0, _), (1, _), (2, _), (3, _), (4, _), (5, _), (6, _), (7, _), (8, _)]) r_X11_order_116 rfl ?_
                refine EV.cv r_X11_order_117 (aS4 mt_258) (m_hasBy (by omega) (by omega) (by omega) (by omega) (by omega)) ?_
                refine EV.z2_le r_X11_order_120 (fun h120 => ?_) (fun h120 => ?_)
                · -- 120 t
                  have r_ : isR v w (k / 2) (k % 2) = true := decide_eq_true (by omega)
                  refine EV.l (lv' := [(0, _), (1, _), (2, _), (3, _), (4, _), (5, _), (6, _), (7, _), (8, _)]) r_X11_order_126 rfl ?_
                  rw [inc_nI]
                  refine EV.l (lv' := [(0, _), (1, _), (2, _), (3, _), (4, _), (5, _), (6, _), (7, _), (8, _)]) r_X11_order_129 rfl ?_
                  refine EV.o r_X11_order_131 (icZ (-1)) ?_
                  refine EV.op_ne r_X11_order_132 (fun h132 => ?_) (fun h132 => ?_) (fun c ec_ => by have := orO_b ec_; omega)
                  · -- 132 t
                    obtain ⟨c, ec_⟩ := h132
                    rw [ec_, opI_some]
                    have bc_ := orO_b ec_
                    refine EV.l (lv' := [(0, _), (1, _), (2, _), (3, _), (4, _), (5, _), (6, _), (7, _), (8, _)]) r_X11_order_146 rfl ?_
                    refine EV.l (lv' := [(0, _), (1, _), (2, _), (3, _), (4, _), (5, _), (6, _), (7, _), (8, _)]) r_X11_order_148 rfl ?_
                    refine EV.l (lv' := [(0, _), (1, _), (2, _), (3, _), (4, _), (5, _), (6, _), (7, _), (8, _)]) r_X11_order_150 rfl ?_
                    rw [inc_nI]
                    refine EV.g r_X11_order_153 ?_
                    refine EV.fg (lv' := [(0, _), (1, _), (2, _), (3, _), (4, _), (5, _), (6, _)]) r_X11_order_59 rfl rfl rfl ?_
                    refine EV.sub ?_ rfl ?_ (ih59 (k + 1) ?_ ?_)
                    · first | rw [orC_t r_, orO_s ec_] | rw [orC_t r_, orO_n r_ h132] | rw [orC_f r_, orO_f r_]
                    · rfl
                    · omega
                    · omega
                  · -- 132 f
                    refine EV.o r_X11_order_135 (bpN (10) 10) ?_
                    refine EV.l (lv' := [(0, _), (1, _), (2, _), (3, _), (4, _), (5, _), (6, _), (7, _), (8, _)]) r_X11_order_137 rfl ?_
                    refine EV.o r_X11_order_139 imulN ?_
                    refine EV.l (lv' := [(0, _), (1, _), (2, _), (3, _), (4, _), (5, _), (6, _), (7, _), (8, _)]) r_X11_order_140 rfl ?_
                    refine EV.o r_X11_order_142 iaddN ?_
                    refine EV.g r_X11_order_143 ?_
                    refine EV.l (lv' := [(0, _), (1, _), (2, _), (3, _), (4, _), (5, _), (6, _), (7, _), (8, _)]) r_X11_order_148 rfl ?_
                    refine EV.l (lv' := [(0, _), (1, _), (2, _), (3, _), (4, _), (5, _), (6, _), (7, _), (8, _)]) r_X11_order_150 rfl ?_
                    rw [inc_nI]
                    refine EV.g r_X11_order_153 ?_
                    refine EV.fg (lv' := [(0, _), (1, _), (2, _), (3, _), (4, _), (5, _), (6, _)]) r_X11_order_59 rfl rfl rfl ?_
                    refine EV.sub ?_ rfl ?_ (ih59 (k + 1) ?_ ?_)
                    · first | rw [orC_t r_, orO_s ec_] | rw [orC_t r_, orO_n r_ h132] | rw [orC_f r_, orO_f r_]
                    · rfl
                    · omega
                    · omega
                · -- 120 f
                  have r_ : isR v w (k / 2) (k % 2) = false := decide_eq_false (by omega)
                  refine EV.g r_X11_order_123 ?_
                  refine EV.l (lv' := [(0, _), (1, _), (2, _), (3, _), (4, _), (5, _), (6, _), (7, _), (8, _)]) r_X11_order_150 rfl ?_
                  rw [inc_nI]
                  refine EV.g r_X11_order_153 ?_
                  refine EV.fg (lv' := [(0, _), (1, _), (2, _), (3, _), (4, _), (5, _), (6, _)]) r_X11_order_59 rfl rfl rfl ?_
                  refine EV.sub ?_ rfl ?_ (ih59 (k + 1) ?_ ?_)
                  · first | rw [orC_t r_, orO_s ec_] | rw [orC_t r_, orO_n r_ h132] | rw [orC_f r_, orO_f r_]
                  · rfl
                  · omega
                  · omega
          have h0 := L59 (0)
          try dsimp only at h0
          refine EV.sub ?_ rfl ?_ (h0 ?_)
          · rfl
          · rfl
          · omega
        · omega
theorem m_order2 {d : Nat} {I : Nat → Nat → Int32} {J : Nat → Nat → Int64} {v w : Nat} (hv : v ≤ 99) (hw : w ≤ 99)  (hd : 9 ≤ d) : RI d 259 [.ref 106, .int (nI v), .int (nI w), .int (nI 2)] I J (fun x I' => x = zI (orT v w (orO v w 4)) ∧ FM I I') := by
  refine RI.in (d0 := 8) hd mt_259 (Nat.le_of_ble_eq_true rfl) (fun d' hd' => ?_)
  show EV none M_X11_order d' 0 [(0, .ref 106), (1, .int (nI v)), (2, .int (nI w)), (3, .int (nI 2))] [] (hp I J) _
  refine EV.l (lv' := [(0, _), (1, _), (2, _), (3, _)]) r_X11_order_0 rfl ?_
  refine EV.o r_X11_order_1 (icN (0) (v := 0)) ?_
  refine EV.pI r_X11_order_2 la_106 ?_
  refine EV.l (lv' := [(0, _), (1, _), (2, _), (3, _)]) r_X11_order_5 rfl ?_
  refine EV.l (lv' := [(0, _), (1, _), (2, _), (3, _)]) r_X11_order_6 rfl ?_
  refine EV.o r_X11_order_7 (icN (0) (v := 0)) ?_
  refine EV.o r_X11_order_8 (bpN (99) 99) ?_
  refine EV.cv r_X11_order_10 (aS3 mt_170) (m_wNNN (by omega) (by omega) (by omega) (by omega)) ?_
  refine EV.p0_eq r_X11_order_13 (fun h13 => ?_) (fun h13 => ?_)
  · -- 13 t
    refine EV.o r_X11_order_39 (icN (0) (v := 0)) ?_
    refine EV.o r_X11_order_40 (icN (1) (v := 1)) ?_
    refine EV.o r_X11_order_41 (icN (1) (v := 1)) ?_
    omega
  · -- 13 f
    refine EV.l (lv' := [(0, _), (1, _), (2, _), (3, _)]) r_X11_order_16 rfl ?_
    refine EV.o r_X11_order_17 (icN (0) (v := 0)) ?_
    refine EV.o r_X11_order_18 (bpN (99) 99) ?_
    refine EV.cv r_X11_order_20 (aS3 mt_170) (m_wNNN (by omega) (by omega) (by omega) (by omega)) ?_
    refine EV.p0_eq r_X11_order_23 (fun h23 => ?_) (fun h23 => ?_)
    · -- 23 t
      refine EV.o r_X11_order_39 (icN (0) (v := 0)) ?_
      refine EV.o r_X11_order_40 (icN (1) (v := 1)) ?_
      refine EV.o r_X11_order_41 (icN (1) (v := 1)) ?_
      omega
    · -- 23 f
      refine EV.l (lv' := [(0, _), (1, _), (2, _), (3, _)]) r_X11_order_26 rfl ?_
      refine EV.o r_X11_order_27 (icN (0) (v := 0)) ?_
      refine EV.o r_X11_order_28 (icN (2) (v := 2)) ?_
      refine EV.cv r_X11_order_29 (aS3 mt_170) (m_wNNN (by omega) (by omega) (by omega) (by omega)) ?_
      refine EV.p0_eq r_X11_order_32 (fun h32 => ?_) (fun h32 => ?_)
      · -- 32 t
        refine EV.o r_X11_order_39 (icN (0) (v := 0)) ?_
        refine EV.o r_X11_order_40 (icN (1) (v := 1)) ?_
        refine EV.o r_X11_order_41 (icN (1) (v := 1)) ?_
        omega
      · -- 32 f
        refine EV.o r_X11_order_35 (icN (1) (v := 1)) ?_
        refine EV.g r_X11_order_36 ?_
        refine EV.o r_X11_order_40 (icN (1) (v := 1)) ?_
        refine EV.o r_X11_order_41 (icN (1) (v := 1)) ?_
        refine EV.cv r_X11_order_42 (aV3 mt_169 la_106) (m_mayN wr_same (by omega)) ?_
        refine EV.n0_ne r_X11_order_45 (fun h45 => ?_) (fun h45 => ?_)
        · -- 45 t
          refine EV.o r_X11_order_50 (icN (0) (v := 0)) ?_
          refine EV.l (lv' := [(0, _), (1, _), (2, _), (3, _), (4, _)]) r_X11_order_51 rfl ?_
          refine EV.o r_X11_order_53 (icZ (-1)) ?_
          refine EV.l (lv' := [(0, _), (1, _), (2, _), (3, _), (4, _), (5, _)]) r_X11_order_54 rfl ?_
          refine EV.o r_X11_order_56 (icN (0) (v := 0)) ?_
          refine EV.l (lv' := [(0, _), (1, _), (2, _), (3, _), (4, _), (5, _), (6, _)]) r_X11_order_57 rfl ?_
          have L59 : ∀ y_ : Nat, (fun k => k ≤ 4 → EV none M_X11_order d' 59 [(0, .ref 106), (1, .int (nI v)), (2, .int (nI w)), (3, .int (nI 2)), (4, .int (nI (orC v w k))), (5, .int (opI (orO v w k))), (6, .int (nI k))] [] (hp (wr I 106 0 (nI 0)) J) (QI J (fun x I' => x = zI (orT v w (orO v w 4)) ∧ FM I I'))) y_ := by
            refine ev_loop (fun k => 4 - k) ?_
            intro k ih59 hx59
            try dsimp only at ih59
            try dsimp only at hx59
            try dsimp only
            have oc := orC_le v w k
            have g1 := gn_le (v := v) (w := w) (a := 1 - k / 2) (b := k % 2) hv hw; have g2 := gn_le (v := v) (w := w) (a := k / 2) (b := k % 2) hv hw; have g3 := gn_le (v := v) (w := w) (a := 1 - k % 2) (b := k / 2) hv hw; have g4 := gn_le (v := v) (w := w) (a := k % 2) (b := k / 2) hv hw
            refine EV.l (lv' := [(0, _), (1, _), (2, _), (3, _), (4, _), (5, _), (6, _)]) r_X11_order_59 rfl ?_
            refine EV.o r_X11_order_61 (icN (4) (v := 4)) ?_
            refine EV.n2_ge r_X11_order_62 (fun h62 => ?_) (fun h62 => ?_)
            · -- 62 t
              obtain rfl : k = 4 := by omega
              refine EV.l (lv' := [(0, _), (1, _), (2, _), (3, _), (4, _), (5, _), (6, _)]) r_X11_order_156 rfl ?_
              refine EV.n0_ne r_X11_order_157 (fun h157 => ?_) (fun h157 => ?_)
              · -- 157 t
                refine EV.l (lv' := [(0, _), (1, _), (2, _), (3, _), (4, _), (5, _), (6, _)]) r_X11_order_165 rfl ?_
                refine EV.o r_X11_order_166 (icN (1) (v := 1)) ?_
                refine EV.n2_ne r_X11_order_167 (fun h167 => ?_) (fun h167 => ?_)
                · -- 167 t
                  refine EV.l (lv' := [(0, _), (1, _), (2, _), (3, _), (4, _), (5, _), (6, _)]) r_X11_order_175 rfl ?_
                  refine EV.o r_X11_order_177 (icZ (-1)) ?_
                  refine EV.op_ne r_X11_order_178 (fun h178 => ?_) (fun h178 => ?_) (fun c ec_ => by have := orO_b ec_; omega)
                  · -- 178 t
                    obtain ⟨c, ec_⟩ := h178
                    have bc_ := orO_b ec_
                    have ob_ := orO_bits ec_
                    rw [ec_, opI_some]
                    have gg := gn_le (v := v) (w := w) (a := c / 10) (b := c % 10) hv hw
                    refine EV.l (lv' := [(0, _), (1, _), (2, _), (3, _), (4, _), (5, _), (6, _)]) r_X11_order_185 rfl ?_
                    refine EV.o r_X11_order_187 (bpN (10) 10) ?_
                    refine EV.o r_X11_order_189 (idivN) ?_
                    refine EV.l (lv' := [(0, _), (1, _), (2, _), (3, _), (4, _), (5, _), (6, _)]) r_X11_order_190 rfl ?_
                    refine EV.o r_X11_order_192 (bpN (10) 10) ?_
                    refine EV.o r_X11_order_194 (iremN) ?_
                    refine EV.l (lv' := [(0, _), (1, _), (2, _), (3, _), (4, _), (5, _), (6, _)]) r_X11_order_195 rfl ?_
                    refine EV.l (lv' := [(0, _), (1, _), (2, _), (3, _), (4, _), (5, _), (6, _)]) r_X11_order_196 rfl ?_
                    refine EV.cv r_X11_order_197 (aS4 mt_258) (m_hasBy (by omega) (by omega) (by omega) (by omega) (by omega)) ?_
                    refine EV.l (lv' := [(0, _), (1, _), (2, _), (3, _), (4, _), (5, _), (6, _)]) r_X11_order_200 rfl ?_
                    refine EV.o r_X11_order_202 (bpN (10) 10) ?_
                    refine EV.o r_X11_order_204 (iremN) ?_
                    refine EV.l (lv' := [(0, _), (1, _), (2, _), (3, _), (4, _), (5, _), (6, _)]) r_X11_order_205 rfl ?_
                    refine EV.o r_X11_order_207 (bpN (10) 10) ?_
                    refine EV.o r_X11_order_209 (idivN) ?_
                    refine EV.l (lv' := [(0, _), (1, _), (2, _), (3, _), (4, _), (5, _), (6, _)]) r_X11_order_210 rfl ?_
                    refine EV.l (lv' := [(0, _), (1, _), (2, _), (3, _), (4, _), (5, _), (6, _)]) r_X11_order_211 rfl ?_
                    refine EV.cv r_X11_order_212 (aS4 mt_258) (m_hasBy (by omega) (by omega) (by omega) (by omega) (by omega)) ?_
                    refine EV.o r_X11_order_215 iaddZ ?_
                    exact EV.ri r_X11_order_216 (⟨rfl, FM_0⟩)
                  · -- 178 f
                    rw [h178]
                    refine EV.o r_X11_order_181 (icN (0) (v := 0)) ?_
                    refine EV.g r_X11_order_182 ?_
                    exact EV.ri r_X11_order_216 (⟨rfl, FM_0⟩)
                · omega
              · omega
            · -- 62 f
              refine EV.l (lv' := [(0, _), (1, _), (2, _), (3, _), (4, _), (5, _), (6, _)]) r_X11_order_65 rfl ?_
              refine EV.o r_X11_order_67 (icN (2) (v := 2)) ?_
              refine EV.o r_X11_order_68 (idivN) ?_
              refine EV.l (lv' := [(0, _), (1, _), (2, _), (3, _), (4, _), (5, _), (6, _), (7, _)]) r_X11_order_69 rfl ?_
              refine EV.l (lv' := [(0, _), (1, _), (2, _), (3, _), (4, _), (5, _), (6, _), (7, _)]) r_X11_order_71 rfl ?_
              refine EV.o r_X11_order_73 (icN (2) (v := 2)) ?_
              refine EV.o r_X11_order_74 (iremN) ?_
              refine EV.l (lv' := [(0, _), (1, _), (2, _), (3, _), (4, _), (5, _), (6, _), (7, _), (8, _)]) r_X11_order_75 rfl ?_
              refine EV.o r_X11_order_77 (icN (1) (v := 1)) ?_
              refine EV.l (lv' := [(0, _), (1, _), (2, _), (3, _), (4, _), (5, _), (6, _), (7, _), (8, _)]) r_X11_order_78 rfl ?_
              refine EV.o r_X11_order_80 (isubN) ?_
              refine EV.l (lv' := [(0, _), (1, _), (2, _), (3, _), (4, _), (5, _), (6, _), (7, _), (8, _)]) r_X11_order_81 rfl ?_
              refine EV.l (lv' := [(0, _), (1, _), (2, _), (3, _), (4, _), (5, _), (6, _), (7, _), (8, _)]) r_X11_order_83 rfl ?_
              refine EV.l (lv' := [(0, _), (1, _), (2, _), (3, _), (4, _), (5, _), (6, _), (7, _), (8, _)]) r_X11_order_84 rfl ?_
              refine EV.cv r_X11_order_85 (aS4 mt_258) (m_hasBy (by omega) (by omega) (by omega) (by omega) (by omega)) ?_
              refine EV.l (lv' := [(0, _), (1, _), (2, _), (3, _), (4, _), (5, _), (6, _), (7, _), (8, _)]) r_X11_order_88 rfl ?_
              refine EV.l (lv' := [(0, _), (1, _), (2, _), (3, _), (4, _), (5, _), (6, _), (7, _), (8, _)]) r_X11_order_90 rfl ?_
              refine EV.l (lv' := [(0, _), (1, _), (2, _), (3, _), (4, _), (5, _), (6, _), (7, _), (8, _)]) r_X11_order_92 rfl ?_
              refine EV.l (lv' := [(0, _), (1, _), (2, _), (3, _), (4, _), (5, _), (6, _), (7, _), (8, _)]) r_X11_order_93 rfl ?_
              refine EV.cv r_X11_order_94 (aS4 mt_258) (m_hasBy (by omega) (by omega) (by omega) (by omega) (by omega)) ?_
              refine EV.z2_gt r_X11_order_97 (fun h97 => ?_) (fun h97 => ?_)
              · -- 97 t
                have r_ : isR v w (k / 2) (k % 2) = false := decide_eq_false (by omega)
                refine EV.l (lv' := [(0, _), (1, _), (2, _), (3, _), (4, _), (5, _), (6, _), (7, _), (8, _)]) r_X11_order_150 rfl ?_
                rw [inc_nI]
                refine EV.g r_X11_order_153 ?_
                refine EV.fg (lv' := [(0, _), (1, _), (2, _), (3, _), (4, _), (5, _), (6, _)]) r_X11_order_59 rfl rfl rfl ?_
                refine EV.sub ?_ rfl ?_ (ih59 (k + 1) ?_ ?_)
                · first | rw [orC_t r_, orO_s ec_] | rw [orC_t r_, orO_n r_ h132] | rw [orC_f r_, orO_f r_]
                · rfl
                · omega
                · omega
              · -- 97 f
                refine EV.o r_X11_order_100 (icN (1) (v := 1)) ?_
                refine EV.l (lv' := [(0, _), (1, _), (2, _), (3, _), (4, _), (5, _), (6, _), (7, _), (8, _)]) r_X11_order_101 rfl ?_
                refine EV.o r_X11_order_103 (isubN) ?_
                refine EV.l (lv' := [(0, _), (1, _), (2, _), (3, _), (4, _), (5, _), (6, _), (7, _), (8, _)]) r_X11_order_104 rfl ?_
                refine EV.l (lv' := [(0, _), (1, _), (2, _), (3, _), (4, _), (5, _), (6, _), (7, _), (8, _)]) r_X11_order_106 rfl ?_
                refine EV.l (lv' := [(0, _), (1, _), (2, _), (3, _), (4, _), (5, _), (6, _), (7, _), (8, _)]) r_X11_order_107 rfl ?_
                refine EV.cv r_X11_order_108 (aS4 mt_258) (m_hasBy (by omega) (by omega) (by omega) (by omega) (by omega)) ?_
                refine EV.l (lv' := [(0, _), (1, _), (2, _), (3, _), (4, _), (5, _), (6, _), (7, _), (8, _)]) r_X11_order_111 rfl ?_
                refine EV.l (lv' := [(0, _), (1, _), (2, _), (3, _), (4, _), (5, _), (6, _), (7, _), (8, _)]) r_X11_order_113 rfl ?_
                refine EV.l (lv' := [(0, _), (1, _), (2, _), (3, _), (4, _), (5, _), (6, _), (7, _), (8, _)]) r_X11_order_115 rfl ?_
                refine EV.l (lv' := [(0, _), (1, _), (2, _), (3, _), (4, _), (5, _), (6, _), (7, _), (8, _)]) r_X11_order_116 rfl ?_
                refine EV.cv r_X11_order_117 (aS4 mt_258) (m_hasBy (by omega) (by omega) (by omega) (by omega) (by omega)) ?_
                refine EV.z2_le r_X11_order_120 (fun h120 => ?_) (fun h120 => ?_)
                · -- 120 t
                  have r_ : isR v w (k / 2) (k % 2) = true := decide_eq_true (by omega)
                  refine EV.l (lv' := [(0, _), (1, _), (2, _), (3, _), (4, _), (5, _), (6, _), (7, _), (8, _)]) r_X11_order_126 rfl ?_
                  rw [inc_nI]
                  refine EV.l (lv' := [(0, _), (1, _), (2, _), (3, _), (4, _), (5, _), (6, _), (7, _), (8, _)]) r_X11_order_129 rfl ?_
                  refine EV.o r_X11_order_131 (icZ (-1)) ?_
                  refine EV.op_ne r_X11_order_132 (fun h132 => ?_) (fun h132 => ?_) (fun c ec_ => by have := orO_b ec_; omega)
                  · -- 132 t
                    obtain ⟨c, ec_⟩ := h132
                    rw [ec_, opI_some]
                    have bc_ := orO_b ec_
                    refine EV.l (lv' := [(0, _), (1, _), (2, _), (3, _), (4, _), (5, _), (6, _), (7, _), (8, _)]) r_X11_order_146 rfl ?_
                    refine EV.l (lv' := [(0, _), (1, _), (2, _), (3, _), (4, _), (5, _), (6, _), (7, _), (8, _)]) r_X11_order_148 rfl ?_
                    refine EV.l (lv' := [(0, _), (1, _), (2, _), (3, _), (4, _), (5, _), (6, _), (7, _), (8, _)]) r_X11_order_150 rfl ?_
                    rw [inc_nI]
                    refine EV.g r_X11_order_153 ?_
                    refine EV.fg (lv' := [(0, _), (1, _), (2, _), (3, _), (4, _), (5, _), (6, _)]) r_X11_order_59 rfl rfl rfl ?_
                    refine EV.sub ?_ rfl ?_ (ih59 (k + 1) ?_ ?_)
                    · first | rw [orC_t r_, orO_s ec_] | rw [orC_t r_, orO_n r_ h132] | rw [orC_f r_, orO_f r_]
                    · rfl
                    · omega
                    · omega
                  · -- 132 f
                    refine EV.o r_X11_order_135 (bpN (10) 10) ?_
                    refine EV.l (lv' := [(0, _), (1, _), (2, _), (3, _), (4, _), (5, _), (6, _), (7, _), (8, _)]) r_X11_order_137 rfl ?_
                    refine EV.o r_X11_order_139 imulN ?_
                    refine EV.l (lv' := [(0, _), (1, _), (2, _), (3, _), (4, _), (5, _), (6, _), (7, _), (8, _)]) r_X11_order_140 rfl ?_
                    refine EV.o r_X11_order_142 iaddN ?_
                    refine EV.g r_X11_order_143 ?_
                    refine EV.l (lv' := [(0, _), (1, _), (2, _), (3, _), (4, _), (5, _), (6, _), (7, _), (8, _)]) r_X11_order_148 rfl ?_
                    refine EV.l (lv' := [(0, _), (1, _), (2, _), (3, _), (4, _), (5, _), (6, _), (7, _), (8, _)]) r_X11_order_150 rfl ?_
                    rw [inc_nI]
                    refine EV.g r_X11_order_153 ?_
                    refine EV.fg (lv' := [(0, _), (1, _), (2, _), (3, _), (4, _), (5, _), (6, _)]) r_X11_order_59 rfl rfl rfl ?_
                    refine EV.sub ?_ rfl ?_ (ih59 (k + 1) ?_ ?_)
                    · first | rw [orC_t r_, orO_s ec_] | rw [orC_t r_, orO_n r_ h132] | rw [orC_f r_, orO_f r_]
                    · rfl
                    · omega
                    · omega
                · -- 120 f
                  have r_ : isR v w (k / 2) (k % 2) = false := decide_eq_false (by omega)
                  refine EV.g r_X11_order_123 ?_
                  refine EV.l (lv' := [(0, _), (1, _), (2, _), (3, _), (4, _), (5, _), (6, _), (7, _), (8, _)]) r_X11_order_150 rfl ?_
                  rw [inc_nI]
                  refine EV.g r_X11_order_153 ?_
                  refine EV.fg (lv' := [(0, _), (1, _), (2, _), (3, _), (4, _), (5, _), (6, _)]) r_X11_order_59 rfl rfl rfl ?_
                  refine EV.sub ?_ rfl ?_ (ih59 (k + 1) ?_ ?_)
                  · first | rw [orC_t r_, orO_s ec_] | rw [orC_t r_, orO_n r_ h132] | rw [orC_f r_, orO_f r_]
                  · rfl
                  · omega
                  · omega
          have h0 := L59 (0)
          try dsimp only at h0
          refine EV.sub ?_ rfl ?_ (h0 ?_)
          · rfl
          · rfl
          · omega
        · omega
