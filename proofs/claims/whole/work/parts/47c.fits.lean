/-! (goes on) -/
theorem m_look0 {d : Nat} {I : Nat → Nat → Int32} {J : Nat → Nat → Int64} {κ : CT} {l : LW} {η : HS} (mc_ : MC κ I) (cb : CB κ) (mr : MR 125 κ η I) (hb_ : HB κ η) (ml_ : ML l I) (lb : LB l)  {bt br : Nat} (hbk : ∀ j, j < 9 → I 129 j = opI (bkO bt br j)) (hbt : bt < 2 ^ κ.ns) (hbr : br &&& bt = br)  (hd : 13 ≤ d) : RI d 255 [.ref 106, .int (nI 0)] I J (fun v I' => v = opI (lkO κ l η bt br κ.ns) ∧ FR I I' ∧ I' 106 0 = nI 0) := by
  refine RI.in (d0 := 12) hd mt_255 (Nat.le_of_ble_eq_true rfl) (fun d' hd' => ?_)
  have bns := cb.ns; have bnb := cb.nb; have bnc := cb.nc; have bnr := cb.nr
  show EV none M_X11_look d' 0 [(0, .ref 106), (1, .int (nI 0))] [] (hp I J) _
  refine EV.l (lv' := [(0, _), (1, _)]) r_X11_look_0 rfl ?_
  refine EV.o r_X11_look_1 (icN (0) (v := 0)) ?_
  refine EV.pI r_X11_look_2 la_106 ?_
  refine EV.l (lv' := [(0, _), (1, _)]) r_X11_look_5 rfl ?_
  refine EV.l (lv' := [(0, _), (1, _)]) r_X11_look_6 rfl ?_
  refine EV.o r_X11_look_7 (icN (0) (v := 0)) ?_
  refine EV.o r_X11_look_8 (icN (1) (v := 1)) ?_
  refine EV.cv r_X11_look_9 (aS3 mt_170) (m_wNNN (by omega) (by omega) (by omega) (by omega)) ?_
  refine EV.o r_X11_look_12 (icN (1) (v := 1)) ?_
  refine EV.o r_X11_look_13 (icN (1) (v := 1)) ?_
  refine EV.cv r_X11_look_14 (aV3 mt_169 la_106) (m_mayP (by omega) wr_same (by omega)) ?_
  refine EV.n0_ne r_X11_look_17 (fun h17 => ?_) (fun h17 => ?_)
  · -- 17 t
    refine EV.l (lv' := [(0, _), (1, _)]) r_X11_look_22 rfl ?_
    refine EV.cu r_X11_look_23 (aV0 mt_252 la_106) (m_lays (wr0_mc mc_) cb (mr.fr (wr_row (by decide))) hb_ (ml_.fr0 (fun _ hj => wr_ne (Or.inr hj)) rfl rfl) lb (by omega)) (fun I2 h2 => ?_)
    obtain ⟨cv, fr_⟩ := h2
    have frr : ∀ o, o ≠ 121 → o ≠ 122 → o ≠ 132 → I2 o = M2 I o := fr_
    have mc3 := MC.fr (I' := I2) (M2_mc mc_) (frr 106 (by decide) (by decide) (by decide)) (fun x h1 h2 => frr x (by omega) (by omega) (by omega))
    have bk2 : ∀ j, j < 9 → I2 129 j = opI (bkO bt br j) := fun j hj => by rw [frr 129 (by decide) (by decide) (by decide), M2_row (by decide) (by decide)]; exact hbk j hj
    refine EV.o r_X11_look_26 (icZ (-1)) ?_
    refine EV.l (lv' := [(0, _), (1, _), (2, _)]) r_X11_look_27 rfl ?_
    refine EV.o r_X11_look_28 (icZ (-1)) ?_
    refine EV.l (lv' := [(0, _), (1, _), (2, _), (3, _)]) r_X11_look_29 rfl ?_
    refine EV.o r_X11_look_30 (icN (0) (v := 0)) ?_
    refine EV.l (lv' := [(0, _), (1, _), (2, _), (3, _), (4, _)]) r_X11_look_31 rfl ?_
    have L33 : ∀ y_ : Nat, (fun k => k ≤ κ.ns → EV none M_X11_look d' 33 [(0, .ref 106), (1, .int (nI 0)), (2, .int (opI (lkO κ l η bt br k))), (3, .int (lsI κ l η bt br k)), (4, .int (nI k))] [] (hp I2 J) (QI J (fun v I' => v = opI (lkO κ l η bt br κ.ns) ∧ FR I I' ∧ I' 106 0 = nI 0))) y_ := by
      refine ev_loop (fun k => κ.ns - k) ?_
      intro k ih33 hx33
      try dsimp only at ih33
      try dsimp only at hx33
      try dsimp only
      have pk_ := plM_K (κ := κ) (l := l) (η := η) (bt := bt) (br := br) (j := k); have pl1 := plM_le (l := l) (η := η) (bt := bt) (br := br) (j := k) cb
      refine EV.l (lv' := [(0, _), (1, _), (2, _), (3, _), (4, _)]) r_X11_look_33 rfl ?_
      refine EV.l (lv' := [(0, _), (1, _), (2, _), (3, _), (4, _)]) r_X11_look_35 rfl ?_
      refine EV.getV r_X11_look_36 la_106 (mc3.ns) ?_
      refine EV.n2_ge r_X11_look_39 (fun h39 => ?_) (fun h39 => ?_)
      · -- 39 t
        refine EV.l (lv' := [(0, _), (1, _), (2, _), (3, _), (4, _)]) r_X11_look_173 rfl ?_
        refine EV.n0_ne r_X11_look_174 (fun h174 => ?_) (fun h174 => ?_)
        · omega
        · -- 174 f
          refine EV.l (lv' := [(0, _), (1, _), (2, _), (3, _), (4, _)]) r_X11_look_177 rfl ?_
          refine EV.g r_X11_look_178 ?_
          exact EV.ri r_X11_look_182 (⟨by (rw [show κ.ns = k by omega]) <;> rfl, FR_m2 frr⟩)
      · -- 39 f
        refine EV.l (lv' := [(0, _), (1, _), (2, _), (3, _), (4, _)]) r_X11_look_42 rfl ?_
        refine EV.gR r_X11_look_43 la_106 ?_
        refine EV.l (lv' := [(0, _), (1, _), (2, _), (3, _), (4, _)]) r_X11_look_46 rfl ?_
        refine EV.iaN r_X11_look_48 la_129 (bk2 _ (by omega)) ?_
        refine EV.o r_X11_look_49 (icZ (-1)) ?_
        refine EV.op_eq r_X11_look_50 (fun h50 => ?_) (fun h50 => ?_) (fun c ec_ => by have := bkO_lt ec_; omega)
        · -- 50 t
          have bkt := bkO_n h50
          refine EV.o r_X11_look_56 (icN (0) (v := 0)) ?_
          refine EV.l (lv' := [(0, _), (1, _), (2, _), (3, _), (4, _), (5, _)]) r_X11_look_57 rfl ?_
          refine EV.o r_X11_look_59 (icN (0) (v := 0)) ?_
          refine EV.l (lv' := [(0, _), (1, _), (2, _), (3, _), (4, _), (5, _), (6, _)]) r_X11_look_60 rfl ?_
          refine EV.o r_X11_look_62 (icN (0) (v := 0)) ?_
          refine EV.l (lv' := [(0, _), (1, _), (2, _), (3, _), (4, _), (5, _), (6, _), (7, _)]) r_X11_look_63 rfl ?_
          have L65 : ∀ y_ : Nat, (fun i => i ≤ 10 * κ.nb → EV none M_X11_look d' 65 [(0, .ref 106), (1, .int (nI 0)), (2, .int (opI (lkO κ l η bt br k))), (3, .int (lsI κ l η bt br k)), (4, .int (nI k)), (5, .int (nI (ftJ κ l η bt br k i))), (6, .int (nI (ftK κ l η bt br k i))), (7, .int (nI i))] [] (hp I2 J) (QI J (fun v I' => v = opI (lkO κ l η bt br κ.ns) ∧ FR I I' ∧ I' 106 0 = nI 0))) y_ := by
            refine ev_loop (fun i => 10 * κ.nb - i) ?_
            intro i ih65 hx65
            try dsimp only at ih65
            try dsimp only at hx65
            try dsimp only
            have jl := ftJ_le (κ := κ) (l := l) (η := η) (bt := bt) (br := br) (j := k) (i := i); have kl := ftK_le (κ := κ) (l := l) (η := η) (bt := bt) (br := br) (j := k) (i := i); have c9 := cby_lt (κ := κ) (l := l) (η := η) (i := i); have pn := pow_ns cb
            refine EV.l (lv' := [(0, _), (1, _), (2, _), (3, _), (4, _), (5, _), (6, _), (7, _)]) r_X11_look_65 rfl ?_
            refine EV.o r_X11_look_67 (bpN (10) 10) ?_
            refine EV.l (lv' := [(0, _), (1, _), (2, _), (3, _), (4, _), (5, _), (6, _), (7, _)]) r_X11_look_69 rfl ?_
            refine EV.getV r_X11_look_70 la_106 (mc3.nb) ?_
            refine EV.o r_X11_look_73 imulN ?_
            refine EV.n2_ge r_X11_look_74 (fun h74 => ?_) (fun h74 => ?_)
            · -- 74 t
              refine EV.l (lv' := [(0, _), (1, _), (2, _), (3, _), (4, _), (5, _), (6, _), (7, _)]) r_X11_look_131 rfl ?_
              refine EV.l (lv' := [(0, _), (1, _), (2, _), (3, _), (4, _), (5, _), (6, _), (7, _)]) r_X11_look_133 rfl ?_
              refine EV.n2_le r_X11_look_135 (fun h135 => ?_) (fun h135 => ?_)
              · -- 135 t
                refine EV.l (lv' := [(0, _), (1, _), (2, _), (3, _), (4, _), (5, _), (6, _), (7, _)]) r_X11_look_143 rfl ?_
                refine EV.l (lv' := [(0, _), (1, _), (2, _), (3, _), (4, _), (5, _), (6, _), (7, _)]) r_X11_look_145 rfl ?_
                obtain rfl : i = 10 * κ.nb := by omega
                refine EV.l (lv' := [(0, _), (1, _), (2, _), (3, _), (4, _), (5, _), (6, _), (7, _)]) r_X11_look_147 rfl ?_
                refine EV.o r_X11_look_148 (icZ (-1)) ?_
                refine EV.op_eq r_X11_look_149 (fun h149 => ?_) (fun h149 => ?_) (fun c ec_ => by have := bst_lt ec_; have := cb.ns; omega)
                · -- 149 t
                  refine EV.l (lv' := [(0, _), (1, _), (2, _), (3, _), (4, _), (5, _), (6, _), (7, _)]) r_X11_look_161 rfl ?_
                  refine EV.l (lv' := [(0, _), (1, _), (2, _), (3, _), (4, _), (5, _), (6, _), (7, _)]) r_X11_look_163 rfl ?_
                  refine EV.l (lv' := [(0, _), (1, _), (2, _), (3, _), (4, _), (5, _), (6, _), (7, _)]) r_X11_look_164 rfl ?_
                  refine EV.l (lv' := [(0, _), (1, _), (2, _), (3, _), (4, _), (5, _), (6, _), (7, _)]) r_X11_look_166 rfl ?_
                  refine EV.l (lv' := [(0, _), (1, _), (2, _), (3, _), (4, _), (5, _), (6, _), (7, _)]) r_X11_look_167 rfl ?_
                  rw [inc_nI]
                  refine EV.g r_X11_look_170 ?_
                  refine EV.fg (lv' := [(0, _), (1, _), (2, _), (3, _), (4, _)]) r_X11_look_33 rfl rfl rfl ?_
                  refine EV.sub ?_ rfl ?_ (ih33 (k + 1) ?_ ?_)
                  · first | rw [lkO_n bkt, lsI_n bkt] | (rw [(lk_0 bkt (by assumption)).1, (lk_0 bkt (by assumption)).2, show plM κ l η bt br k = ftJ κ l η bt br k (10 * κ.nb) by omega]; rfl) | (rw [(lk_0 bkt (by assumption)).1, (lk_0 bkt (by assumption)).2, show plM κ l η bt br k = ftK κ l η bt br k (10 * κ.nb) by omega]; rfl) | (rw [(lk_f bkt ec_ (by omega)).1, (lk_f bkt ec_ (by omega)).2]; rfl) | (rw [(lk_t bkt ec_ (by omega)).1, (lk_t bkt ec_ (by omega)).2, show plM κ l η bt br k = ftJ κ l η bt br k (10 * κ.nb) by omega]; rfl) | (rw [(lk_t bkt ec_ (by omega)).1, (lk_t bkt ec_ (by omega)).2, show plM κ l η bt br k = ftK κ l η bt br k (10 * κ.nb) by omega]; rfl)
                  · rfl
                  · omega
                  · omega
                · -- 149 f
                  obtain ⟨c, ec_⟩ := h149
                  rw [ec_, opI_some, lsI_s ec_]
                  have bc_ := bst_lt ec_
                  have pl2 := plM_le (l := l) (η := η) (bt := bt) (br := br) (j := c) cb
                  refine EV.l (lv' := [(0, _), (1, _), (2, _), (3, _), (4, _), (5, _), (6, _), (7, _)]) r_X11_look_152 rfl ?_
                  refine EV.l (lv' := [(0, _), (1, _), (2, _), (3, _), (4, _), (5, _), (6, _), (7, _)]) r_X11_look_154 rfl ?_
                  refine EV.n2_lt r_X11_look_155 (fun h155 => ?_) (fun h155 => ?_)
                  · -- 155 t
                    refine EV.l (lv' := [(0, _), (1, _), (2, _), (3, _), (4, _), (5, _), (6, _), (7, _)]) r_X11_look_161 rfl ?_
                    refine EV.l (lv' := [(0, _), (1, _), (2, _), (3, _), (4, _), (5, _), (6, _), (7, _)]) r_X11_look_163 rfl ?_
                    refine EV.l (lv' := [(0, _), (1, _), (2, _), (3, _), (4, _), (5, _), (6, _), (7, _)]) r_X11_look_164 rfl ?_
                    refine EV.l (lv' := [(0, _), (1, _), (2, _), (3, _), (4, _), (5, _), (6, _), (7, _)]) r_X11_look_166 rfl ?_
                    refine EV.l (lv' := [(0, _), (1, _), (2, _), (3, _), (4, _), (5, _), (6, _), (7, _)]) r_X11_look_167 rfl ?_
                    rw [inc_nI]
                    refine EV.g r_X11_look_170 ?_
                    refine EV.fg (lv' := [(0, _), (1, _), (2, _), (3, _), (4, _)]) r_X11_look_33 rfl rfl rfl ?_
                    refine EV.sub ?_ rfl ?_ (ih33 (k + 1) ?_ ?_)
                    · first | rw [lkO_n bkt, lsI_n bkt] | (rw [(lk_0 bkt (by assumption)).1, (lk_0 bkt (by assumption)).2, show plM κ l η bt br k = ftJ κ l η bt br k (10 * κ.nb) by omega]; rfl) | (rw [(lk_0 bkt (by assumption)).1, (lk_0 bkt (by assumption)).2, show plM κ l η bt br k = ftK κ l η bt br k (10 * κ.nb) by omega]; rfl) | (rw [(lk_f bkt ec_ (by omega)).1, (lk_f bkt ec_ (by omega)).2]; rfl) | (rw [(lk_t bkt ec_ (by omega)).1, (lk_t bkt ec_ (by omega)).2, show plM κ l η bt br k = ftJ κ l η bt br k (10 * κ.nb) by omega]; rfl) | (rw [(lk_t bkt ec_ (by omega)).1, (lk_t bkt ec_ (by omega)).2, show plM κ l η bt br k = ftK κ l η bt br k (10 * κ.nb) by omega]; rfl)
                    · rfl
                    · omega
                    · omega
                  · -- 155 f
                    refine EV.g r_X11_look_158 ?_
                    refine EV.l (lv' := [(0, _), (1, _), (2, _), (3, _), (4, _), (5, _), (6, _), (7, _)]) r_X11_look_167 rfl ?_
                    rw [inc_nI]
                    refine EV.g r_X11_look_170 ?_
                    refine EV.fg (lv' := [(0, _), (1, _), (2, _), (3, _), (4, _)]) r_X11_look_33 rfl rfl rfl ?_
                    refine EV.sub ?_ rfl ?_ (ih33 (k + 1) ?_ ?_)
                    · first | rw [lkO_n bkt, lsI_n bkt] | (rw [(lk_0 bkt (by assumption)).1, (lk_0 bkt (by assumption)).2, show plM κ l η bt br k = ftJ κ l η bt br k (10 * κ.nb) by omega]; rfl) | (rw [(lk_0 bkt (by assumption)).1, (lk_0 bkt (by assumption)).2, show plM κ l η bt br k = ftK κ l η bt br k (10 * κ.nb) by omega]; rfl) | (rw [(lk_f bkt ec_ (by omega)).1, (lk_f bkt ec_ (by omega)).2]; rfl) | (rw [(lk_t bkt ec_ (by omega)).1, (lk_t bkt ec_ (by omega)).2, show plM κ l η bt br k = ftJ κ l η bt br k (10 * κ.nb) by omega]; rfl) | (rw [(lk_t bkt ec_ (by omega)).1, (lk_t bkt ec_ (by omega)).2, show plM κ l η bt br k = ftK κ l η bt br k (10 * κ.nb) by omega]; rfl)
                    · rfl
                    · omega
                    · omega
              · -- 135 f
                refine EV.l (lv' := [(0, _), (1, _), (2, _), (3, _), (4, _), (5, _), (6, _), (7, _)]) r_X11_look_138 rfl ?_
                refine EV.g r_X11_look_140 ?_
                refine EV.l (lv' := [(0, _), (1, _), (2, _), (3, _), (4, _), (5, _), (6, _), (7, _)]) r_X11_look_145 rfl ?_
                obtain rfl : i = 10 * κ.nb := by omega
                refine EV.l (lv' := [(0, _), (1, _), (2, _), (3, _), (4, _), (5, _), (6, _), (7, _)]) r_X11_look_147 rfl ?_
                refine EV.o r_X11_look_148 (icZ (-1)) ?_
                refine EV.op_eq r_X11_look_149 (fun h149 => ?_) (fun h149 => ?_) (fun c ec_ => by have := bst_lt ec_; have := cb.ns; omega)
                · -- 149 t
                  refine EV.l (lv' := [(0, _), (1, _), (2, _), (3, _), (4, _), (5, _), (6, _), (7, _)]) r_X11_look_161 rfl ?_
                  refine EV.l (lv' := [(0, _), (1, _), (2, _), (3, _), (4, _), (5, _), (6, _), (7, _)]) r_X11_look_163 rfl ?_
                  refine EV.l (lv' := [(0, _), (1, _), (2, _), (3, _), (4, _), (5, _), (6, _), (7, _)]) r_X11_look_164 rfl ?_
                  refine EV.l (lv' := [(0, _), (1, _), (2, _), (3, _), (4, _), (5, _), (6, _), (7, _)]) r_X11_look_166 rfl ?_
                  refine EV.l (lv' := [(0, _), (1, _), (2, _), (3, _), (4, _), (5, _), (6, _), (7, _)]) r_X11_look_167 rfl ?_
                  rw [inc_nI]
                  refine EV.g r_X11_look_170 ?_
                  refine EV.fg (lv' := [(0, _), (1, _), (2, _), (3, _), (4, _)]) r_X11_look_33 rfl rfl rfl ?_
                  refine EV.sub ?_ rfl ?_ (ih33 (k + 1) ?_ ?_)
                  · first | rw [lkO_n bkt, lsI_n bkt] | (rw [(lk_0 bkt (by assumption)).1, (lk_0 bkt (by assumption)).2, show plM κ l η bt br k = ftJ κ l η bt br k (10 * κ.nb) by omega]; rfl) | (rw [(lk_0 bkt (by assumption)).1, (lk_0 bkt (by assumption)).2, show plM κ l η bt br k = ftK κ l η bt br k (10 * κ.nb) by omega]; rfl) | (rw [(lk_f bkt ec_ (by omega)).1, (lk_f bkt ec_ (by omega)).2]; rfl) | (rw [(lk_t bkt ec_ (by omega)).1, (lk_t bkt ec_ (by omega)).2, show plM κ l η bt br k = ftJ κ l η bt br k (10 * κ.nb) by omega]; rfl) | (rw [(lk_t bkt ec_ (by omega)).1, (lk_t bkt ec_ (by omega)).2, show plM κ l η bt br k = ftK κ l η bt br k (10 * κ.nb) by omega]; rfl)
                  · rfl
                  · omega
                  · omega
                · -- 149 f
                  obtain ⟨c, ec_⟩ := h149
                  rw [ec_, opI_some, lsI_s ec_]
                  have bc_ := bst_lt ec_
                  have pl2 := plM_le (l := l) (η := η) (bt := bt) (br := br) (j := c) cb
                  refine EV.l (lv' := [(0, _), (1, _), (2, _), (3, _), (4, _), (5, _), (6, _), (7, _)]) r_X11_look_152 rfl ?_
                  refine EV.l (lv' := [(0, _), (1, _), (2, _), (3, _), (4, _), (5, _), (6, _), (7, _)]) r_X11_look_154 rfl ?_
                  refine EV.n2_lt r_X11_look_155 (fun h155 => ?_) (fun h155 => ?_)
                  · -- 155 t
                    refine EV.l (lv' := [(0, _), (1, _), (2, _), (3, _), (4, _), (5, _), (6, _), (7, _)]) r_X11_look_161 rfl ?_
                    refine EV.l (lv' := [(0, _), (1, _), (2, _), (3, _), (4, _), (5, _), (6, _), (7, _)]) r_X11_look_163 rfl ?_
                    refine EV.l (lv' := [(0, _), (1, _), (2, _), (3, _), (4, _), (5, _), (6, _), (7, _)]) r_X11_look_164 rfl ?_
                    refine EV.l (lv' := [(0, _), (1, _), (2, _), (3, _), (4, _), (5, _), (6, _), (7, _)]) r_X11_look_166 rfl ?_
                    refine EV.l (lv' := [(0, _), (1, _), (2, _), (3, _), (4, _), (5, _), (6, _), (7, _)]) r_X11_look_167 rfl ?_
                    rw [inc_nI]
                    refine EV.g r_X11_look_170 ?_
                    refine EV.fg (lv' := [(0, _), (1, _), (2, _), (3, _), (4, _)]) r_X11_look_33 rfl rfl rfl ?_
                    refine EV.sub ?_ rfl ?_ (ih33 (k + 1) ?_ ?_)
                    · first | rw [lkO_n bkt, lsI_n bkt] | (rw [(lk_0 bkt (by assumption)).1, (lk_0 bkt (by assumption)).2, show plM κ l η bt br k = ftJ κ l η bt br k (10 * κ.nb) by omega]; rfl) | (rw [(lk_0 bkt (by assumption)).1, (lk_0 bkt (by assumption)).2, show plM κ l η bt br k = ftK κ l η bt br k (10 * κ.nb) by omega]; rfl) | (rw [(lk_f bkt ec_ (by omega)).1, (lk_f bkt ec_ (by omega)).2]; rfl) | (rw [(lk_t bkt ec_ (by omega)).1, (lk_t bkt ec_ (by omega)).2, show plM κ l η bt br k = ftJ κ l η bt br k (10 * κ.nb) by omega]; rfl) | (rw [(lk_t bkt ec_ (by omega)).1, (lk_t bkt ec_ (by omega)).2, show plM κ l η bt br k = ftK κ l η bt br k (10 * κ.nb) by omega]; rfl)
                    · rfl
                    · omega
                    · omega
                  · -- 155 f
                    refine EV.g r_X11_look_158 ?_
                    refine EV.l (lv' := [(0, _), (1, _), (2, _), (3, _), (4, _), (5, _), (6, _), (7, _)]) r_X11_look_167 rfl ?_
                    rw [inc_nI]
                    refine EV.g r_X11_look_170 ?_
                    refine EV.fg (lv' := [(0, _), (1, _), (2, _), (3, _), (4, _)]) r_X11_look_33 rfl rfl rfl ?_
                    refine EV.sub ?_ rfl ?_ (ih33 (k + 1) ?_ ?_)
                    · first | rw [lkO_n bkt, lsI_n bkt] | (rw [(lk_0 bkt (by assumption)).1, (lk_0 bkt (by assumption)).2, show plM κ l η bt br k = ftJ κ l η bt br k (10 * κ.nb) by omega]; rfl) | (rw [(lk_0 bkt (by assumption)).1, (lk_0 bkt (by assumption)).2, show plM κ l η bt br k = ftK κ l η bt br k (10 * κ.nb) by omega]; rfl) | (rw [(lk_f bkt ec_ (by omega)).1, (lk_f bkt ec_ (by omega)).2]; rfl) | (rw [(lk_t bkt ec_ (by omega)).1, (lk_t bkt ec_ (by omega)).2, show plM κ l η bt br k = ftJ κ l η bt br k (10 * κ.nb) by omega]; rfl) | (rw [(lk_t bkt ec_ (by omega)).1, (lk_t bkt ec_ (by omega)).2, show plM κ l η bt br k = ftK κ l η bt br k (10 * κ.nb) by omega]; rfl)
                    · rfl
                    · omega
                    · omega
            · -- 74 f
              refine EV.l (lv' := [(0, _), (1, _), (2, _), (3, _), (4, _), (5, _), (6, _), (7, _)]) r_X11_look_77 rfl ?_
              refine EV.l (lv' := [(0, _), (1, _), (2, _), (3, _), (4, _), (5, _), (6, _), (7, _)]) r_X11_look_78 rfl ?_
              refine EV.cv r_X11_look_80 (aV1 mt_253 la_106) (m_isFit mc3 cb bk2 hbt hbr cv (by omega) (by omega)) ?_
              refine EV.b0_ne r_X11_look_83 (fun h83 => ?_) (fun h83 => ?_)
              · -- 83 t
                refine EV.l (lv' := [(0, _), (1, _), (2, _), (3, _), (4, _), (5, _), (6, _), (7, _)]) r_X11_look_89 rfl ?_
                refine EV.l (lv' := [(0, _), (1, _), (2, _), (3, _), (4, _), (5, _), (6, _), (7, _)]) r_X11_look_91 rfl ?_
                refine EV.gR r_X11_look_92 la_106 ?_
                refine EV.l (lv' := [(0, _), (1, _), (2, _), (3, _), (4, _), (5, _), (6, _), (7, _)]) r_X11_look_95 rfl ?_
                refine EV.iaN r_X11_look_97 la_132 (cv _ (by omega)) ?_
                refine EV.l (lv' := [(0, _), (1, _), (2, _), (3, _), (4, _), (5, _), (6, _), (7, _)]) r_X11_look_98 rfl ?_
                refine EV.o r_X11_look_100 (ishrN) ?_
                refine EV.o r_X11_look_101 (icN (1) (v := 1)) ?_
                refine EV.o r_X11_look_102 (ibitN) ?_
                refine EV.o r_X11_look_103 iaddN ?_
                refine EV.l (lv' := [(0, _), (1, _), (2, _), (3, _), (4, _), (5, _), (6, _), (7, _)]) r_X11_look_104 rfl ?_
                refine EV.l (lv' := [(0, _), (1, _), (2, _), (3, _), (4, _), (5, _), (6, _), (7, _)]) r_X11_look_106 rfl ?_
                refine EV.o r_X11_look_108 (icN (1) (v := 1)) ?_
                refine EV.l (lv' := [(0, _), (1, _), (2, _), (3, _), (4, _), (5, _), (6, _), (7, _)]) r_X11_look_109 rfl ?_
                refine EV.gR r_X11_look_110 la_106 ?_
                refine EV.l (lv' := [(0, _), (1, _), (2, _), (3, _), (4, _), (5, _), (6, _), (7, _)]) r_X11_look_113 rfl ?_
                refine EV.iaN r_X11_look_115 la_132 (cv _ (by omega)) ?_
                refine EV.l (lv' := [(0, _), (1, _), (2, _), (3, _), (4, _), (5, _), (6, _), (7, _)]) r_X11_look_116 rfl ?_
                refine EV.o r_X11_look_118 (ishrN) ?_
                refine EV.o r_X11_look_119 (icN (1) (v := 1)) ?_
                refine EV.o r_X11_look_120 (ibitN) ?_
                refine EV.o r_X11_look_121 (isubN (Bool.toNat_le _)) ?_
                refine EV.o r_X11_look_122 iaddN ?_
                refine EV.l (lv' := [(0, _), (1, _), (2, _), (3, _), (4, _), (5, _), (6, _), (7, _)]) r_X11_look_123 rfl ?_
                refine EV.l (lv' := [(0, _), (1, _), (2, _), (3, _), (4, _), (5, _), (6, _), (7, _)]) r_X11_look_125 rfl ?_
                rw [inc_nI]
                refine EV.g r_X11_look_128 ?_
                refine EV.sub ?_ rfl ?_ (ih65 (i + 1) ?_ ?_)
                · first | rw [← ftJ_f (by assumption), ← ftK_f (by assumption)] | rw [← ftJ_b (by assumption), ← ftK_t (by assumption)]
                · rfl
                · omega
                · omega
              · -- 83 f
                refine EV.g r_X11_look_86 ?_
                refine EV.l (lv' := [(0, _), (1, _), (2, _), (3, _), (4, _), (5, _), (6, _), (7, _)]) r_X11_look_125 rfl ?_
                rw [inc_nI]
                refine EV.g r_X11_look_128 ?_
                refine EV.sub ?_ rfl ?_ (ih65 (i + 1) ?_ ?_)
                · first | rw [← ftJ_f (by assumption), ← ftK_f (by assumption)] | rw [← ftJ_b (by assumption), ← ftK_t (by assumption)]
                · rfl
                · omega
                · omega
          have h0 := L65 (0)
          try dsimp only at h0
          refine EV.sub ?_ rfl ?_ (h0 ?_)
          · rfl
          · rfl
          · omega
        · -- 50 f
          obtain ⟨c, ec_⟩ := h50
          have bkt := (bkO_s ec_).1
          refine EV.g r_X11_look_53 ?_
          refine EV.l (lv' := [(0, _), (1, _), (2, _), (3, _), (4, _)]) r_X11_look_167 rfl ?_
          rw [inc_nI]
          refine EV.g r_X11_look_170 ?_
          refine EV.sub ?_ rfl ?_ (ih33 (k + 1) ?_ ?_)
          · first | rw [lkO_n bkt, lsI_n bkt] | (rw [(lk_0 bkt (by assumption)).1, (lk_0 bkt (by assumption)).2, show plM κ l η bt br k = ftJ κ l η bt br k (10 * κ.nb) by omega]; rfl) | (rw [(lk_0 bkt (by assumption)).1, (lk_0 bkt (by assumption)).2, show plM κ l η bt br k = ftK κ l η bt br k (10 * κ.nb) by omega]; rfl) | (rw [(lk_f bkt ec_ (by omega)).1, (lk_f bkt ec_ (by omega)).2]; rfl) | (rw [(lk_t bkt ec_ (by omega)).1, (lk_t bkt ec_ (by omega)).2, show plM κ l η bt br k = ftJ κ l η bt br k (10 * κ.nb) by omega]; rfl) | (rw [(lk_t bkt ec_ (by omega)).1, (lk_t bkt ec_ (by omega)).2, show plM κ l η bt br k = ftK κ l η bt br k (10 * κ.nb) by omega]; rfl)
          · rfl
          · omega
          · omega
    have h0 := L33 (0)
    try dsimp only at h0
    refine EV.sub ?_ rfl ?_ (h0 ?_)
    · rfl
    · rfl
    · omega
  · omega
theorem m_look1 {d : Nat} {I : Nat → Nat → Int32} {J : Nat → Nat → Int64} {κ : CT} {l : LW} {η : HS} (mc_ : MC κ I) (cb : CB κ) (mr : MR 125 κ η I) (hb_ : HB κ η) (ml_ : ML l I) (lb : LB l)  {bt br : Nat} (hbk : ∀ j, j < 9 → I 129 j = opI (bkO bt br j)) (hbt : bt < 2 ^ κ.ns) (hbr : br &&& bt = br)  (hd : 13 ≤ d) : RI d 255 [.ref 106, .int (nI 1)] I J (fun v I' => v = lkV κ l η bt br (lkO κ l η bt br κ.ns) ∧ FR I I' ∧ I' 106 0 = nI 0) := by
  refine RI.in (d0 := 12) hd mt_255 (Nat.le_of_ble_eq_true rfl) (fun d' hd' => ?_)
  have bns := cb.ns; have bnb := cb.nb; have bnc := cb.nc; have bnr := cb.nr
  show EV none M_X11_look d' 0 [(0, .ref 106), (1, .int (nI 1))] [] (hp I J) _
  refine EV.l (lv' := [(0, _), (1, _)]) r_X11_look_0 rfl ?_
  refine EV.o r_X11_look_1 (icN (0) (v := 0)) ?_
  refine EV.pI r_X11_look_2 la_106 ?_
  refine EV.l (lv' := [(0, _), (1, _)]) r_X11_look_5 rfl ?_
  refine EV.l (lv' := [(0, _), (1, _)]) r_X11_look_6 rfl ?_
  refine EV.o r_X11_look_7 (icN (0) (v := 0)) ?_
  refine EV.o r_X11_look_8 (icN (1) (v := 1)) ?_
  refine EV.cv r_X11_look_9 (aS3 mt_170) (m_wNNN (by omega) (by omega) (by omega) (by omega)) ?_
  refine EV.o r_X11_look_12 (icN (1) (v := 1)) ?_
  refine EV.o r_X11_look_13 (icN (1) (v := 1)) ?_
  refine EV.cv r_X11_look_14 (aV3 mt_169 la_106) (m_mayP (by omega) wr_same (by omega)) ?_
  refine EV.n0_ne r_X11_look_17 (fun h17 => ?_) (fun h17 => ?_)
  · -- 17 t
    refine EV.l (lv' := [(0, _), (1, _)]) r_X11_look_22 rfl ?_
    refine EV.cu r_X11_look_23 (aV0 mt_252 la_106) (m_lays (wr0_mc mc_) cb (mr.fr (wr_row (by decide))) hb_ (ml_.fr0 (fun _ hj => wr_ne (Or.inr hj)) rfl rfl) lb (by omega)) (fun I2 h2 => ?_)
    obtain ⟨cv, fr_⟩ := h2
    have frr : ∀ o, o ≠ 121 → o ≠ 122 → o ≠ 132 → I2 o = M2 I o := fr_
    have mc3 := MC.fr (I' := I2) (M2_mc mc_) (frr 106 (by decide) (by decide) (by decide)) (fun x h1 h2 => frr x (by omega) (by omega) (by omega))
    have bk2 : ∀ j, j < 9 → I2 129 j = opI (bkO bt br j) := fun j hj => by rw [frr 129 (by decide) (by decide) (by decide), M2_row (by decide) (by decide)]; exact hbk j hj
    refine EV.o r_X11_look_26 (icZ (-1)) ?_
    refine EV.l (lv' := [(0, _), (1, _), (2, _)]) r_X11_look_27 rfl ?_
    refine EV.o r_X11_look_28 (icZ (-1)) ?_
    refine EV.l (lv' := [(0, _), (1, _), (2, _), (3, _)]) r_X11_look_29 rfl ?_
    refine EV.o r_X11_look_30 (icN (0) (v := 0)) ?_
    refine EV.l (lv' := [(0, _), (1, _), (2, _), (3, _), (4, _)]) r_X11_look_31 rfl ?_
    have L33 : ∀ y_ : Nat, (fun k => k ≤ κ.ns → EV none M_X11_look d' 33 [(0, .ref 106), (1, .int (nI 1)), (2, .int (opI (lkO κ l η bt br k))), (3, .int (lsI κ l η bt br k)), (4, .int (nI k))] [] (hp I2 J) (QI J (fun v I' => v = lkV κ l η bt br (lkO κ l η bt br κ.ns) ∧ FR I I' ∧ I' 106 0 = nI 0))) y_ := by
      refine ev_loop (fun k => κ.ns - k) ?_
      intro k ih33 hx33
      try dsimp only at ih33
      try dsimp only at hx33
      try dsimp only
      have pk_ := plM_K (κ := κ) (l := l) (η := η) (bt := bt) (br := br) (j := k); have pl1 := plM_le (l := l) (η := η) (bt := bt) (br := br) (j := k) cb
      refine EV.l (lv' := [(0, _), (1, _), (2, _), (3, _), (4, _)]) r_X11_look_33 rfl ?_
      refine EV.l (lv' := [(0, _), (1, _), (2, _), (3, _), (4, _)]) r_X11_look_35 rfl ?_
      refine EV.getV r_X11_look_36 la_106 (mc3.ns) ?_
      refine EV.n2_ge r_X11_look_39 (fun h39 => ?_) (fun h39 => ?_)
      · -- 39 t
        refine EV.l (lv' := [(0, _), (1, _), (2, _), (3, _), (4, _)]) r_X11_look_173 rfl ?_
        refine EV.n0_ne r_X11_look_174 (fun h174 => ?_) (fun h174 => ?_)
        · -- 174 t
          refine EV.l (lv' := [(0, _), (1, _), (2, _), (3, _), (4, _)]) r_X11_look_181 rfl ?_
          exact EV.ri r_X11_look_182 (⟨by (rw [show κ.ns = k by omega]) <;> rfl, FR_m2 frr⟩)
        · omega
      · -- 39 f
        refine EV.l (lv' := [(0, _), (1, _), (2, _), (3, _), (4, _)]) r_X11_look_42 rfl ?_
        refine EV.gR r_X11_look_43 la_106 ?_
        refine EV.l (lv' := [(0, _), (1, _), (2, _), (3, _), (4, _)]) r_X11_look_46 rfl ?_
        refine EV.iaN r_X11_look_48 la_129 (bk2 _ (by omega)) ?_
        refine EV.o r_X11_look_49 (icZ (-1)) ?_
        refine EV.op_eq r_X11_look_50 (fun h50 => ?_) (fun h50 => ?_) (fun c ec_ => by have := bkO_lt ec_; omega)
        · -- 50 t
          have bkt := bkO_n h50
          refine EV.o r_X11_look_56 (icN (0) (v := 0)) ?_
          refine EV.l (lv' := [(0, _), (1, _), (2, _), (3, _), (4, _), (5, _)]) r_X11_look_57 rfl ?_
          refine EV.o r_X11_look_59 (icN (0) (v := 0)) ?_
          refine EV.l (lv' := [(0, _), (1, _), (2, _), (3, _), (4, _), (5, _), (6, _)]) r_X11_look_60 rfl ?_
          refine EV.o r_X11_look_62 (icN (0) (v := 0)) ?_
          refine EV.l (lv' := [(0, _), (1, _), (2, _), (3, _), (4, _), (5, _), (6, _), (7, _)]) r_X11_look_63 rfl ?_
          have L65 : ∀ y_ : Nat, (fun i => i ≤ 10 * κ.nb → EV none M_X11_look d' 65 [(0, .ref 106), (1, .int (nI 1)), (2, .int (opI (lkO κ l η bt br k))), (3, .int (lsI κ l η bt br k)), (4, .int (nI k)), (5, .int (nI (ftJ κ l η bt br k i))), (6, .int (nI (ftK κ l η bt br k i))), (7, .int (nI i))] [] (hp I2 J) (QI J (fun v I' => v = lkV κ l η bt br (lkO κ l η bt br κ.ns) ∧ FR I I' ∧ I' 106 0 = nI 0))) y_ := by
            refine ev_loop (fun i => 10 * κ.nb - i) ?_
            intro i ih65 hx65
            try dsimp only at ih65
            try dsimp only at hx65
            try dsimp only
            have jl := ftJ_le (κ := κ) (l := l) (η := η) (bt := bt) (br := br) (j := k) (i := i); have kl := ftK_le (κ := κ) (l := l) (η := η) (bt := bt) (br := br) (j := k) (i := i); have c9 := cby_lt (κ := κ) (l := l) (η := η) (i := i); have pn := pow_ns cb
            refine EV.l (lv' := [(0, _), (1, _), (2, _), (3, _), (4, _), (5, _), (6, _), (7, _)]) r_X11_look_65 rfl ?_
            refine EV.o r_X11_look_67 (bpN (10) 10) ?_
            refine EV.l (lv' := [(0, _), (1, _), (2, _), (3, _), (4, _), (5, _), (6, _), (7, _)]) r_X11_look_69 rfl ?_
            refine EV.getV r_X11_look_70 la_106 (mc3.nb) ?_
            refine EV.o r_X11_look_73 imulN ?_
            refine EV.n2_ge r_X11_look_74 (fun h74 => ?_) (fun h74 => ?_)
            · -- 74 t
              refine EV.l (lv' := [(0, _), (1, _), (2, _), (3, _), (4, _), (5, _), (6, _), (7, _)]) r_X11_look_131 rfl ?_
              refine EV.l (lv' := [(0, _), (1, _), (2, _), (3, _), (4, _), (5, _), (6, _), (7, _)]) r_X11_look_133 rfl ?_
              refine EV.n2_le r_X11_look_135 (fun h135 => ?_) (fun h135 => ?_)
              · -- 135 t
                refine EV.l (lv' := [(0, _), (1, _), (2, _), (3, _), (4, _), (5, _), (6, _), (7, _)]) r_X11_look_143 rfl ?_
                refine EV.l (lv' := [(0, _), (1, _), (2, _), (3, _), (4, _), (5, _), (6, _), (7, _)]) r_X11_look_145 rfl ?_
                obtain rfl : i = 10 * κ.nb := by omega
                refine EV.l (lv' := [(0, _), (1, _), (2, _), (3, _), (4, _), (5, _), (6, _), (7, _)]) r_X11_look_147 rfl ?_
                refine EV.o r_X11_look_148 (icZ (-1)) ?_
                refine EV.op_eq r_X11_look_149 (fun h149 => ?_) (fun h149 => ?_) (fun c ec_ => by have := bst_lt ec_; have := cb.ns; omega)
                · -- 149 t
                  refine EV.l (lv' := [(0, _), (1, _), (2, _), (3, _), (4, _), (5, _), (6, _), (7, _)]) r_X11_look_161 rfl ?_
                  refine EV.l (lv' := [(0, _), (1, _), (2, _), (3, _), (4, _), (5, _), (6, _), (7, _)]) r_X11_look_163 rfl ?_
                  refine EV.l (lv' := [(0, _), (1, _), (2, _), (3, _), (4, _), (5, _), (6, _), (7, _)]) r_X11_look_164 rfl ?_
                  refine EV.l (lv' := [(0, _), (1, _), (2, _), (3, _), (4, _), (5, _), (6, _), (7, _)]) r_X11_look_166 rfl ?_
                  refine EV.l (lv' := [(0, _), (1, _), (2, _), (3, _), (4, _), (5, _), (6, _), (7, _)]) r_X11_look_167 rfl ?_
                  rw [inc_nI]
                  refine EV.g r_X11_look_170 ?_
                  refine EV.fg (lv' := [(0, _), (1, _), (2, _), (3, _), (4, _)]) r_X11_look_33 rfl rfl rfl ?_
                  refine EV.sub ?_ rfl ?_ (ih33 (k + 1) ?_ ?_)
                  · first | rw [lkO_n bkt, lsI_n bkt] | (rw [(lk_0 bkt (by assumption)).1, (lk_0 bkt (by assumption)).2, show plM κ l η bt br k = ftJ κ l η bt br k (10 * κ.nb) by omega]; rfl) | (rw [(lk_0 bkt (by assumption)).1, (lk_0 bkt (by assumption)).2, show plM κ l η bt br k = ftK κ l η bt br k (10 * κ.nb) by omega]; rfl) | (rw [(lk_f bkt ec_ (by omega)).1, (lk_f bkt ec_ (by omega)).2]; rfl) | (rw [(lk_t bkt ec_ (by omega)).1, (lk_t bkt ec_ (by omega)).2, show plM κ l η bt br k = ftJ κ l η bt br k (10 * κ.nb) by omega]; rfl) | (rw [(lk_t bkt ec_ (by omega)).1, (lk_t bkt ec_ (by omega)).2, show plM κ l η bt br k = ftK κ l η bt br k (10 * κ.nb) by omega]; rfl)
                  · rfl
                  · omega
                  · omega
                · -- 149 f
                  obtain ⟨c, ec_⟩ := h149
                  rw [ec_, opI_some, lsI_s ec_]
                  have bc_ := bst_lt ec_
                  have pl2 := plM_le (l := l) (η := η) (bt := bt) (br := br) (j := c) cb
                  refine EV.l (lv' := [(0, _), (1, _), (2, _), (3, _), (4, _), (5, _), (6, _), (7, _)]) r_X11_look_152 rfl ?_
                  refine EV.l (lv' := [(0, _), (1, _), (2, _), (3, _), (4, _), (5, _), (6, _), (7, _)]) r_X11_look_154 rfl ?_
                  refine EV.n2_lt r_X11_look_155 (fun h155 => ?_) (fun h155 => ?_)
                  · -- 155 t
                    refine EV.l (lv' := [(0, _), (1, _), (2, _), (3, _), (4, _), (5, _), (6, _), (7, _)]) r_X11_look_161 rfl ?_
                    refine EV.l (lv' := [(0, _), (1, _), (2, _), (3, _), (4, _), (5, _), (6, _), (7, _)]) r_X11_look_163 rfl ?_
                    refine EV.l (lv' := [(0, _), (1, _), (2, _), (3, _), (4, _), (5, _), (6, _), (7, _)]) r_X11_look_164 rfl ?_
                    refine EV.l (lv' := [(0, _), (1, _), (2, _), (3, _), (4, _), (5, _), (6, _), (7, _)]) r_X11_look_166 rfl ?_
                    refine EV.l (lv' := [(0, _), (1, _), (2, _), (3, _), (4, _), (5, _), (6, _), (7, _)]) r_X11_look_167 rfl ?_
                    rw [inc_nI]
                    refine EV.g r_X11_look_170 ?_
                    refine EV.fg (lv' := [(0, _), (1, _), (2, _), (3, _), (4, _)]) r_X11_look_33 rfl rfl rfl ?_
                    refine EV.sub ?_ rfl ?_ (ih33 (k + 1) ?_ ?_)
                    · first | rw [lkO_n bkt, lsI_n bkt] | (rw [(lk_0 bkt (by assumption)).1, (lk_0 bkt (by assumption)).2, show plM κ l η bt br k = ftJ κ l η bt br k (10 * κ.nb) by omega]; rfl) | (rw [(lk_0 bkt (by assumption)).1, (lk_0 bkt (by assumption)).2, show plM κ l η bt br k = ftK κ l η bt br k (10 * κ.nb) by omega]; rfl) | (rw [(lk_f bkt ec_ (by omega)).1, (lk_f bkt ec_ (by omega)).2]; rfl) | (rw [(lk_t bkt ec_ (by omega)).1, (lk_t bkt ec_ (by omega)).2, show plM κ l η bt br k = ftJ κ l η bt br k (10 * κ.nb) by omega]; rfl) | (rw [(lk_t bkt ec_ (by omega)).1, (lk_t bkt ec_ (by omega)).2, show plM κ l η bt br k = ftK κ l η bt br k (10 * κ.nb) by omega]; rfl)
                    · rfl
                    · omega
                    · omega
                  · -- 155 f
                    refine EV.g r_X11_look_158 ?_
                    refine EV.l (lv' := [(0, _), (1, _), (2, _), (3, _), (4, _), (5, _), (6, _), (7, _)]) r_X11_look_167 rfl ?_
                    rw [inc_nI]
                    refine EV.g r_X11_look_170 ?_
                    refine EV.fg (lv' := [(0, _), (1, _), (2, _), (3, _), (4, _)]) r_X11_look_33 rfl rfl rfl ?_
                    refine EV.sub ?_ rfl ?_ (ih33 (k + 1) ?_ ?_)
                    · first | rw [lkO_n bkt, lsI_n bkt] | (rw [(lk_0 bkt (by assumption)).1, (lk_0 bkt (by assumption)).2, show plM κ l η bt br k = ftJ κ l η bt br k (10 * κ.nb) by omega]; rfl) | (rw [(lk_0 bkt (by assumption)).1, (lk_0 bkt (by assumption)).2, show plM κ l η bt br k = ftK κ l η bt br k (10 * κ.nb) by omega]; rfl) | (rw [(lk_f bkt ec_ (by omega)).1, (lk_f bkt ec_ (by omega)).2]; rfl) | (rw [(lk_t bkt ec_ (by omega)).1, (lk_t bkt ec_ (by omega)).2, show plM κ l η bt br k = ftJ κ l η bt br k (10 * κ.nb) by omega]; rfl) | (rw [(lk_t bkt ec_ (by omega)).1, (lk_t bkt ec_ (by omega)).2, show plM κ l η bt br k = ftK κ l η bt br k (10 * κ.nb) by omega]; rfl)
                    · rfl
                    · omega
                    · omega
              · -- 135 f
                refine EV.l (lv' := [(0, _), (1, _), (2, _), (3, _), (4, _), (5, _), (6, _), (7, _)]) r_X11_look_138 rfl ?_
                refine EV.g r_X11_look_140 ?_
                refine EV.l (lv' := [(0, _), (1, _), (2, _), (3, _), (4, _), (5, _), (6, _), (7, _)]) r_X11_look_145 rfl ?_
                obtain rfl : i = 10 * κ.nb := by omega
                refine EV.l (lv' := [(0, _), (1, _), (2, _), (3, _), (4, _), (5, _), (6, _), (7, _)]) r_X11_look_147 rfl ?_
                refine EV.o r_X11_look_148 (icZ (-1)) ?_
                refine EV.op_eq r_X11_look_149 (fun h149 => ?_) (fun h149 => ?_) (fun c ec_ => by have := bst_lt ec_; have := cb.ns; omega)
                · -- 149 t
                  refine EV.l (lv' := [(0, _), (1, _), (2, _), (3, _), (4, _), (5, _), (6, _), (7, _)]) r_X11_look_161 rfl ?_
                  refine EV.l (lv' := [(0, _), (1, _), (2, _), (3, _), (4, _), (5, _), (6, _), (7, _)]) r_X11_look_163 rfl ?_
                  refine EV.l (lv' := [(0, _), (1, _), (2, _), (3, _), (4, _), (5, _), (6, _), (7, _)]) r_X11_look_164 rfl ?_
                  refine EV.l (lv' := [(0, _), (1, _), (2, _), (3, _), (4, _), (5, _), (6, _), (7, _)]) r_X11_look_166 rfl ?_
                  refine EV.l (lv' := [(0, _), (1, _), (2, _), (3, _), (4, _), (5, _), (6, _), (7, _)]) r_X11_look_167 rfl ?_
                  rw [inc_nI]
                  refine EV.g r_X11_look_170 ?_
                  refine EV.fg (lv' := [(0, _), (1, _), (2, _), (3, _), (4, _)]) r_X11_look_33 rfl rfl rfl ?_
                  refine EV.sub ?_ rfl ?_ (ih33 (k + 1) ?_ ?_)
                  · first | rw [lkO_n bkt, lsI_n bkt] | (rw [(lk_0 bkt (by assumption)).1, (lk_0 bkt (by assumption)).2, show plM κ l η bt br k = ftJ κ l η bt br k (10 * κ.nb) by omega]; rfl) | (rw [(lk_0 bkt (by assumption)).1, (lk_0 bkt (by assumption)).2, show plM κ l η bt br k = ftK κ l η bt br k (10 * κ.nb) by omega]; rfl) | (rw [(lk_f bkt ec_ (by omega)).1, (lk_f bkt ec_ (by omega)).2]; rfl) | (rw [(lk_t bkt ec_ (by omega)).1, (lk_t bkt ec_ (by omega)).2, show plM κ l η bt br k = ftJ κ l η bt br k (10 * κ.nb) by omega]; rfl) | (rw [(lk_t bkt ec_ (by omega)).1, (lk_t bkt ec_ (by omega)).2, show plM κ l η bt br k = ftK κ l η bt br k (10 * κ.nb) by omega]; rfl)
                  · rfl
                  · omega
                  · omega
                · -- 149 f
                  obtain ⟨c, ec_⟩ := h149
                  rw [ec_, opI_some, lsI_s ec_]
                  have bc_ := bst_lt ec_
                  have pl2 := plM_le (l := l) (η := η) (bt := bt) (br := br) (j := c) cb
                  refine EV.l (lv' := [(0, _), (1, _), (2, _), (3, _), (4, _), (5, _), (6, _), (7, _)]) r_X11_look_152 rfl ?_
                  refine EV.l (lv' := [(0, _), (1, _), (2, _), (3, _), (4, _), (5, _), (6, _), (7, _)]) r_X11_look_154 rfl ?_
                  refine EV.n2_lt r_X11_look_155 (fun h155 => ?_) (fun h155 => ?_)
                  · -- 155 t
                    refine EV.l (lv' := [(0, _), (1, _), (2, _), (3, _), (4, _), (5, _), (6, _), (7, _)]) r_X11_look_161 rfl ?_
                    refine EV.l (lv' := [(0, _), (1, _), (2, _), (3, _), (4, _), (5, _), (6, _), (7, _)]) r_X11_look_163 rfl ?_
                    refine EV.l (lv' := [(0, _), (1, _), (2, _), (3, _), (4, _), (5, _), (6, _), (7, _)]) r_X11_look_164 rfl ?_
                    refine EV.l (lv' := [(0, _), (1, _), (2, _), (3, _), (4, _), (5, _), (6, _), (7, _)]) r_X11_look_166 rfl ?_
                    refine EV.l (lv' := [(0, _), (1, _), (2, _), (3, _), (4, _), (5, _), (6, _), (7, _)]) r_X11_look_167 rfl ?_
                    rw [inc_nI]
                    refine EV.g r_X11_look_170 ?_
                    refine EV.fg (lv' := [(0, _), (1, _), (2, _), (3, _), (4, _)]) r_X11_look_33 rfl rfl rfl ?_
                    refine EV.sub ?_ rfl ?_ (ih33 (k + 1) ?_ ?_)
                    · first | rw [lkO_n bkt, lsI_n bkt] | (rw [(lk_0 bkt (by assumption)).1, (lk_0 bkt (by assumption)).2, show plM κ l η bt br k = ftJ κ l η bt br k (10 * κ.nb) by omega]; rfl) | (rw [(lk_0 bkt (by assumption)).1, (lk_0 bkt (by assumption)).2, show plM κ l η bt br k = ftK κ l η bt br k (10 * κ.nb) by omega]; rfl) | (rw [(lk_f bkt ec_ (by omega)).1, (lk_f bkt ec_ (by omega)).2]; rfl) | (rw [(lk_t bkt ec_ (by omega)).1, (lk_t bkt ec_ (by omega)).2, show plM κ l η bt br k = ftJ κ l η bt br k (10 * κ.nb) by omega]; rfl) | (rw [(lk_t bkt ec_ (by omega)).1, (lk_t bkt ec_ (by omega)).2, show plM κ l η bt br k = ftK κ l η bt br k (10 * κ.nb) by omega]; rfl)
                    · rfl
                    · omega
                    · omega
                  · -- 155 f
                    refine EV.g r_X11_look_158 ?_
                    refine EV.l (lv' := [(0, _), (1, _), (2, _), (3, _), (4, _), (5, _), (6, _), (7, _)]) r_X11_look_167 rfl ?_
                    rw [inc_nI]
                    refine EV.g r_X11_look_170 ?_
                    refine EV.fg (lv' := [(0, _), (1, _), (2, _), (3, _), (4, _)]) r_X11_look_33 rfl rfl rfl ?_
                    refine EV.sub ?_ rfl ?_ (ih33 (k + 1) ?_ ?_)
                    · first | rw [lkO_n bkt, lsI_n bkt] | (rw [(lk_0 bkt (by assumption)).1, (lk_0 bkt (by assumption)).2, show plM κ l η bt br k = ftJ κ l η bt br k (10 * κ.nb) by omega]; rfl) | (rw [(lk_0 bkt (by assumption)).1, (lk_0 bkt (by assumption)).2, show plM κ l η bt br k = ftK κ l η bt br k (10 * κ.nb) by omega]; rfl) | (rw [(lk_f bkt ec_ (by omega)).1, (lk_f bkt ec_ (by omega)).2]; rfl) | (rw [(lk_t bkt ec_ (by omega)).1, (lk_t bkt ec_ (by omega)).2, show plM κ l η bt br k = ftJ κ l η bt br k (10 * κ.nb) by omega]; rfl) | (rw [(lk_t bkt ec_ (by omega)).1, (lk_t bkt ec_ (by omega)).2, show plM κ l η bt br k = ftK κ l η bt br k (10 * κ.nb) by omega]; rfl)
                    · rfl
                    · omega
                    · omega
            · -- 74 f
              refine EV.l (lv' := [(0, _), (1, _), (2, _), (3, _), (4, _), (5, _), (6, _), (7, _)]) r_X11_look_77 rfl ?_
              refine EV.l (lv' := [(0, _), (1, _), (2, _), (3, _), (4, _), (5, _), (6, _), (7, _)]) r_X11_look_78 rfl ?_
              refine EV.cv r_X11_look_80 (aV1 mt_253 la_106) (m_isFit mc3 cb bk2 hbt hbr cv (by omega) (by omega)) ?_
              refine EV.b0_ne r_X11_look_83 (fun h83 => ?_) (fun h83 => ?_)
              · -- 83 t
                refine EV.l (lv' := [(0, _), (1, _), (2, _), (3, _), (4, _), (5, _), (6, _), (7, _)]) r_X11_look_89 rfl ?_
                refine EV.l (lv' := [(0, _), (1, _), (2, _), (3, _), (4, _), (5, _), (6, _), (7, _)]) r_X11_look_91 rfl ?_
                refine EV.gR r_X11_look_92 la_106 ?_
                refine EV.l (lv' := [(0, _), (1, _), (2, _), (3, _), (4, _), (5, _), (6, _), (7, _)]) r_X11_look_95 rfl ?_
                refine EV.iaN r_X11_look_97 la_132 (cv _ (by omega)) ?_
                refine EV.l (lv' := [(0, _), (1, _), (2, _), (3, _), (4, _), (5, _), (6, _), (7, _)]) r_X11_look_98 rfl ?_
                refine EV.o r_X11_look_100 (ishrN) ?_
                refine EV.o r_X11_look_101 (icN (1) (v := 1)) ?_
                refine EV.o r_X11_look_102 (ibitN) ?_
                refine EV.o r_X11_look_103 iaddN ?_
                refine EV.l (lv' := [(0, _), (1, _), (2, _), (3, _), (4, _), (5, _), (6, _), (7, _)]) r_X11_look_104 rfl ?_
                refine EV.l (lv' := [(0, _), (1, _), (2, _), (3, _), (4, _), (5, _), (6, _), (7, _)]) r_X11_look_106 rfl ?_
                refine EV.o r_X11_look_108 (icN (1) (v := 1)) ?_
                refine EV.l (lv' := [(0, _), (1, _), (2, _), (3, _), (4, _), (5, _), (6, _), (7, _)]) r_X11_look_109 rfl ?_
                refine EV.gR r_X11_look_110 la_106 ?_
                refine EV.l (lv' := [(0, _), (1, _), (2, _), (3, _), (4, _), (5, _), (6, _), (7, _)]) r_X11_look_113 rfl ?_
                refine EV.iaN r_X11_look_115 la_132 (cv _ (by omega)) ?_
                refine EV.l (lv' := [(0, _), (1, _), (2, _), (3, _), (4, _), (5, _), (6, _), (7, _)]) r_X11_look_116 rfl ?_
                refine EV.o r_X11_look_118 (ishrN) ?_
                refine EV.o r_X11_look_119 (icN (1) (v := 1)) ?_
                refine EV.o r_X11_look_120 (ibitN) ?_
                refine EV.o r_X11_look_121 (isubN (Bool.toNat_le _)) ?_
                refine EV.o r_X11_look_122 iaddN ?_
                refine EV.l (lv' := [(0, _), (1, _), (2, _), (3, _), (4, _), (5, _), (6, _), (7, _)]) r_X11_look_123 rfl ?_
                refine EV.l (lv' := [(0, _), (1, _), (2, _), (3, _), (4, _), (5, _), (6, _), (7, _)]) r_X11_look_125 rfl ?_
                rw [inc_nI]
                refine EV.g r_X11_look_128 ?_
                refine EV.sub ?_ rfl ?_ (ih65 (i + 1) ?_ ?_)
                · first | rw [← ftJ_f (by assumption), ← ftK_f (by assumption)] | rw [← ftJ_b (by assumption), ← ftK_t (by assumption)]
                · rfl
                · omega
                · omega
              · -- 83 f
                refine EV.g r_X11_look_86 ?_
                refine EV.l (lv' := [(0, _), (1, _), (2, _), (3, _), (4, _), (5, _), (6, _), (7, _)]) r_X11_look_125 rfl ?_
                rw [inc_nI]
                refine EV.g r_X11_look_128 ?_
                refine EV.sub ?_ rfl ?_ (ih65 (i + 1) ?_ ?_)
                · first | rw [← ftJ_f (by assumption), ← ftK_f (by assumption)] | rw [← ftJ_b (by assumption), ← ftK_t (by assumption)]
                · rfl
                · omega
                · omega
          have h0 := L65 (0)
          try dsimp only at h0
          refine EV.sub ?_ rfl ?_ (h0 ?_)
          · rfl
          · rfl
          · omega
        · -- 50 f
          obtain ⟨c, ec_⟩ := h50
          have bkt := (bkO_s ec_).1
          refine EV.g r_X11_look_53 ?_
          refine EV.l (lv' := [(0, _), (1, _), (2, _), (3, _), (4, _)]) r_X11_look_167 rfl ?_
          rw [inc_nI]
          refine EV.g r_X11_look_170 ?_
          refine EV.sub ?_ rfl ?_ (ih33 (k + 1) ?_ ?_)
          · first | rw [lkO_n bkt, lsI_n bkt] | (rw [(lk_0 bkt (by assumption)).1, (lk_0 bkt (by assumption)).2, show plM κ l η bt br k = ftJ κ l η bt br k (10 * κ.nb) by omega]; rfl) | (rw [(lk_0 bkt (by assumption)).1, (lk_0 bkt (by assumption)).2, show plM κ l η bt br k = ftK κ l η bt br k (10 * κ.nb) by omega]; rfl) | (rw [(lk_f bkt ec_ (by omega)).1, (lk_f bkt ec_ (by omega)).2]; rfl) | (rw [(lk_t bkt ec_ (by omega)).1, (lk_t bkt ec_ (by omega)).2, show plM κ l η bt br k = ftJ κ l η bt br k (10 * κ.nb) by omega]; rfl) | (rw [(lk_t bkt ec_ (by omega)).1, (lk_t bkt ec_ (by omega)).2, show plM κ l η bt br k = ftK κ l η bt br k (10 * κ.nb) by omega]; rfl)
          · rfl
          · omega
          · omega
    have h0 := L33 (0)
    try dsimp only at h0
    refine EV.sub ?_ rfl ?_ (h0 ?_)
    · rfl
    · rfl
    · omega
  · omega
