/-! (goes on) -/
theorem m_hide1 {d : Nat} {I : Nat → Nat → Int32} {J : Nat → Nat → Int64} {κ : CT} {l : LW} {η : HS} (mc_ : MC κ I) (cb : CB κ) (mr : MR 125 κ η I) (hb_ : HB κ η) (ml_ : ML l I) (lb : LB l) {wt : Nat} (hx : wt < 2 ^ κ.ns)  (hd : 13 ≤ d) : RI d 248 [.ref 106, .int (nI wt), .int (nI 1)] I J (fun v I' => v = opI (pm2 (hid κ l η wt)) ∧ FR I I' ∧ I' 106 0 = nI 0) := by
  refine RI.in (d0 := 12) hd mt_248 (Nat.le_of_ble_eq_true rfl) (fun d' hd' => ?_)
  have bns := cb.ns; have bnb := cb.nb; have bnc := cb.nc; have bnr := cb.nr
  have pn := pow_ns cb; have mc1 := wr0_mc (v := nI 0) mc_
  show EV none M_X11_hide d' 0 [(0, .ref 106), (1, .int (nI wt)), (2, .int (nI 1))] [] (hp I J) _
  refine EV.l (lv' := [(0, _), (1, _), (2, _)]) r_X11_hide_0 rfl ?_
  refine EV.o r_X11_hide_1 (icN (0) (v := 0)) ?_
  refine EV.pI r_X11_hide_2 la_106 ?_
  refine EV.l (lv' := [(0, _), (1, _), (2, _)]) r_X11_hide_5 rfl ?_
  refine EV.l (lv' := [(0, _), (1, _), (2, _)]) r_X11_hide_6 rfl ?_
  refine EV.n0_lt r_X11_hide_7 (fun h7 => ?_) (fun h7 => ?_)
  · -- 7 t
    refine EV.o r_X11_hide_33 (icN (0) (v := 0)) ?_
    refine EV.o r_X11_hide_34 (icN (1) (v := 1)) ?_
    refine EV.o r_X11_hide_35 (icN (1) (v := 1)) ?_
    omega
  · -- 7 f
    refine EV.l (lv' := [(0, _), (1, _), (2, _)]) r_X11_hide_10 rfl ?_
    refine EV.o r_X11_hide_11 (icN (1) (v := 1)) ?_
    refine EV.l (lv' := [(0, _), (1, _), (2, _)]) r_X11_hide_12 rfl ?_
    refine EV.getV r_X11_hide_13 la_106 (mc1.ns) ?_
    refine EV.o r_X11_hide_16 (ishl1) ?_
    refine EV.n2_ge r_X11_hide_17 (fun h17 => ?_) (fun h17 => ?_)
    · omega
    · -- 17 f
      refine EV.l (lv' := [(0, _), (1, _), (2, _)]) r_X11_hide_20 rfl ?_
      refine EV.o r_X11_hide_21 (icN (0) (v := 0)) ?_
      refine EV.o r_X11_hide_22 (icN (1) (v := 1)) ?_
      refine EV.cv r_X11_hide_23 (aS3 mt_170) (m_wNNN (by omega) (by omega) (by omega) (by omega)) ?_
      refine EV.p0_eq r_X11_hide_26 (fun h26 => ?_) (fun h26 => ?_)
      · -- 26 t
        refine EV.o r_X11_hide_33 (icN (0) (v := 0)) ?_
        refine EV.o r_X11_hide_34 (icN (1) (v := 1)) ?_
        refine EV.o r_X11_hide_35 (icN (1) (v := 1)) ?_
        omega
      · -- 26 f
        refine EV.o r_X11_hide_29 (icN (1) (v := 1)) ?_
        refine EV.g r_X11_hide_30 ?_
        refine EV.o r_X11_hide_34 (icN (1) (v := 1)) ?_
        refine EV.o r_X11_hide_35 (icN (1) (v := 1)) ?_
        refine EV.cv r_X11_hide_36 (aV3 mt_169 la_106) (m_mayN wr_same (by omega)) ?_
        refine EV.n0_ne r_X11_hide_39 (fun h39 => ?_) (fun h39 => ?_)
        · -- 39 t
          refine EV.l (lv' := [(0, _), (1, _), (2, _)]) r_X11_hide_44 rfl ?_
          refine EV.cu r_X11_hide_45 (aV0 mt_212 la_106) (m_take (by omega)) (fun I2 e2 => ?_)
          have e2 : I2 = M2 I := e2
          subst e2
          refine EV.o r_X11_hide_48 (icN (1) (v := 1)) ?_
          refine EV.l (lv' := [(0, _), (1, _), (2, _), (3, _)]) r_X11_hide_49 rfl ?_
          refine EV.o r_X11_hide_50 (icN (0) (v := 0)) ?_
          refine EV.l (lv' := [(0, _), (1, _), (2, _), (3, _), (4, _)]) r_X11_hide_51 rfl ?_
          have L53 : ∀ y_ : Nat × (Nat → Nat → Int32), (fun y => (y.1 ≤ κ.nb ∧ (∀ j, j < 10 * y.1 → y.2 130 j = nI (cvd κ l η j)) ∧ (∀ o, o ≠ 106 → o ≠ 121 → o ≠ 122 → o ≠ 130 → o ≠ 131 → y.2 o = M2 I o) ∧ ∀ j, j ≠ 50 → y.2 106 j = M2 I 106 j) → EV none M_X11_hide d' 53 [(0, .ref 106), (1, .int (nI wt)), (2, .int (nI 1)), (3, .int (nI (10 ^ y.1))), (4, .int (nI y.1))] [] (hp y.2 J) (QI J (fun v I' => v = opI (pm2 (hid κ l η wt)) ∧ FR I I' ∧ I' 106 0 = nI 0))) y_ := by
            refine ev_loop (fun y => κ.nb - y.1) ?_
            intro ⟨b, I1⟩ ih53 hx53
            try dsimp only at ih53
            try dsimp only at hx53
            try dsimp only
            obtain ⟨bl, cv3, hfo, hfj⟩ := hx53
            have mc3 := (M2_mc mc_).fr9 (I' := I1) (fun j hj => hfj j (fun e => by subst e; exact absurd hj (by decide))) (fun x h1 h2 => hfo x (by omega) (by omega) (by omega) (by omega) (by omega))
            have mr3 := MR.fr (I' := I1) (M2_mr mr cb) (hfo 126 (by decide) (by decide) (by decide) (by decide) (by decide))
            have ml3 := ML.fr9 (I' := I1) (M2_ml ml_) (hfj 32 (by decide)) (hfo 119 (by decide) (by decide) (by decide) (by decide) (by decide)) (hfo 120 (by decide) (by decide) (by decide) (by decide) (by decide))
            refine EV.l (lv' := [(0, _), (1, _), (2, _), (3, _), (4, _)]) r_X11_hide_53 rfl ?_
            refine EV.l (lv' := [(0, _), (1, _), (2, _), (3, _), (4, _)]) r_X11_hide_55 rfl ?_
            refine EV.getV r_X11_hide_56 la_106 (mc3.nb) ?_
            refine EV.n2_ge r_X11_hide_59 (fun h59 => ?_) (fun h59 => ?_)
            · -- 59 t
              obtain rfl : b = κ.nb := by omega
              refine EV.l (lv' := [(0, _), (1, _), (2, _), (3, _), (4, _)]) r_X11_hide_110 rfl ?_
              refine EV.o r_X11_hide_111 (icZ (-1)) ?_
              refine EV.pIn r_X11_hide_112 la_106 (fun I6 e6 => ?_)
              refine EV.o r_X11_hide_115 (icZ (-1)) ?_
              refine EV.l (lv' := [(0, _), (1, _), (2, _), (3, _), (4, _)]) r_X11_hide_116 rfl ?_
              refine EV.o r_X11_hide_118 (icN (0) (v := 0)) ?_
              refine EV.l (lv' := [(0, _), (1, _), (2, _), (3, _), (4, _), (5, _)]) r_X11_hide_119 rfl ?_
              have L121 : ∀ y_ : Nat × (Nat → Nat → Int32), (fun y => (y.1 ≤ 10 ^ κ.nb ∧ y.2 106 50 = opI (pm1 (itr (upN κ l η wt) y.1 none)) ∧ (∀ j, j < 10 * κ.nb → y.2 130 j = nI (cvd κ l η j)) ∧ (∀ o, o ≠ 106 → o ≠ 121 → o ≠ 122 → o ≠ 130 → o ≠ 131 → y.2 o = M2 I o) ∧ ∀ j, j ≠ 50 → y.2 106 j = M2 I 106 j) → EV none M_X11_hide d' 121 [(0, .ref 106), (1, .int (nI wt)), (2, .int (nI 1)), (3, .int (nI (10 ^ κ.nb))), (4, .int (opI (pm2 (itr (upN κ l η wt) y.1 none)))), (5, .int (nI y.1))] [] (hp y.2 J) (QI J (fun v I' => v = opI (pm2 (hid κ l η wt)) ∧ FR I I' ∧ I' 106 0 = nI 0))) y_ := by
                refine ev_loop (fun y => 10 ^ κ.nb - y.1) ?_
                intro ⟨x, I5⟩ ih121 hx121
                try dsimp only at ih121
                try dsimp only at hx121
                try dsimp only
                obtain ⟨xl, st3, cv3, hfo, hfj⟩ := hx121
                have p10 := pow10_le bnb
                have mc3 := (M2_mc mc_).fr9 (I' := I5) (fun j hj => hfj j (fun e => by subst e; exact absurd hj (by decide))) (fun x h1 h2 => hfo x (by omega) (by omega) (by omega) (by omega) (by omega))
                have mr3 := MR.fr (I' := I5) (M2_mr mr cb) (hfo 126 (by decide) (by decide) (by decide) (by decide) (by decide))
                have ml3 := ML.fr9 (I' := I5) (M2_ml ml_) (hfj 32 (by decide)) (hfo 119 (by decide) (by decide) (by decide) (by decide) (by decide)) (hfo 120 (by decide) (by decide) (by decide) (by decide) (by decide))
                refine EV.l (lv' := [(0, _), (1, _), (2, _), (3, _), (4, _), (5, _)]) r_X11_hide_121 rfl ?_
                refine EV.l (lv' := [(0, _), (1, _), (2, _), (3, _), (4, _), (5, _)]) r_X11_hide_123 rfl ?_
                refine EV.n2_ge r_X11_hide_124 (fun h124 => ?_) (fun h124 => ?_)
                · -- 124 t
                  refine EV.l (lv' := [(0, _), (1, _), (2, _), (3, _), (4, _), (5, _)]) r_X11_hide_183 rfl ?_
                  refine EV.n0_ne r_X11_hide_184 (fun h184 => ?_) (fun h184 => ?_)
                  · -- 184 t
                    refine EV.l (lv' := [(0, _), (1, _), (2, _), (3, _), (4, _), (5, _)]) r_X11_hide_194 rfl ?_
                    exact EV.ri r_X11_hide_196 (⟨by rw [hid_eq, show 10 ^ κ.nb = x by omega], FR_hd hfo hfj⟩)
                  · omega
                · -- 124 f
                  refine EV.l (lv' := [(0, _), (1, _), (2, _), (3, _), (4, _), (5, _)]) r_X11_hide_127 rfl ?_
                  refine EV.l (lv' := [(0, _), (1, _), (2, _), (3, _), (4, _), (5, _)]) r_X11_hide_128 rfl ?_
                  refine EV.l (lv' := [(0, _), (1, _), (2, _), (3, _), (4, _), (5, _)]) r_X11_hide_129 rfl ?_
                  refine EV.ci r_X11_hide_131 (aV2 mt_247 la_106) (m_isHid mc3 cb mr3 hb_ cv3 (by omega) (by omega) st3 (stB_itr2 _ _ (fun k s _ q => stB_up cb q) (fun p e => nomatch e)) (by omega)) (fun v I3 h3 => ?_)
                  obtain ⟨e, h5a, ldq, g1, g2⟩ := h3
                  subst e
                  have fo5 : ∀ o, o ≠ 106 → o ≠ 121 → o ≠ 122 → o ≠ 130 → o ≠ 131 → I3 o = M2 I o := fun o a1 a2 a3 a4 a5 => (g1 o a1 a5).trans (hfo o a1 a2 a3 a4 a5)
                  have fj5 : ∀ j, j ≠ 50 → I3 106 j = M2 I 106 j := fun j hj => (g2 j hj).trans (hfj j hj)
                  have mc5 := (M2_mc mc_).fr9 (I' := I3) (fun j hj => fj5 j (fun e => by subst e; exact absurd hj (by decide))) (fun x h1 h2 => fo5 x (by omega) (by omega) (by omega) (by omega) (by omega))
                  refine EV.b0_ne r_X11_hide_134 (fun h134 => ?_) (fun h134 => ?_)
                  · -- 134 t
                    refine EV.o r_X11_hide_140 (icN (0) (v := 0)) ?_
                    refine EV.l (lv' := [(0, _), (1, _), (2, _), (3, _), (4, _), (5, _)]) r_X11_hide_141 rfl ?_
                    refine EV.l (lv' := [(0, _), (1, _), (2, _), (3, _), (4, _), (5, _)]) r_X11_hide_143 rfl ?_
                    refine EV.getV r_X11_hide_144 la_106 (mc5.nb) ?_
                    refine EV.o r_X11_hide_147 (icN (1) (v := 1)) ?_
                    refine EV.o r_X11_hide_148 (isubNZ) ?_
                    refine EV.l (lv' := [(0, _), (1, _), (2, _), (3, _), (4, _), (5, _), (6, _)]) r_X11_hide_149 rfl ?_
                    have L151 : ∀ y_ : Nat, (fun i => i ≤ κ.nb → EV none M_X11_hide d' 151 [(0, .ref 106), (1, .int (nI wt)), (2, .int (nI 1)), (3, .int (nI (10 ^ κ.nb))), (4, .int (nI (dg1 x i))), (5, .int (nI x)), (6, .int (zI ((κ.nb : Int) - 1 - (i : Int))))] [] (hp I3 J) (QI J (fun v I' => v = opI (pm2 (hid κ l η wt)) ∧ FR I I' ∧ I' 106 0 = nI 0))) y_ := by
                      refine ev_loop (fun i => κ.nb - i) ?_
                      intro i ih151 hx151
                      try dsimp only at ih151
                      try dsimp only at hx151
                      try dsimp only
                      refine EV.l (lv' := [(0, _), (1, _), (2, _), (3, _), (4, _), (5, _), (6, _)]) r_X11_hide_151 rfl ?_
                      refine EV.z0_lt r_X11_hide_153 (fun h153 => ?_) (fun h153 => ?_)
                      · -- 153 t
                        obtain rfl : i = κ.nb := by omega
                        refine EV.l (lv' := [(0, _), (1, _), (2, _), (3, _), (4, _), (5, _), (6, _)]) r_X11_hide_177 rfl ?_
                        rw [inc_nI]
                        refine EV.g r_X11_hide_180 ?_
                        refine EV.fg (lv' := [(0, _), (1, _), (2, _), (3, _), (4, _), (5, _)]) r_X11_hide_121 rfl rfl rfl ?_
                        refine EV.sub ?_ rfl ?_ (ih121 (x + 1, I3) ?_ ?_)
                        · (try dsimp only) <;> (rw [up_s]; first | ((rw [okN_no (by assumption)]) <;> rfl) | ((rw [okN_up (by assumption)]) <;> rfl))
                        · (try dsimp only) <;> (rfl)
                        · (try dsimp only) <;> (omega)
                        · (try dsimp only) <;> (exact ⟨by omega, by rw [up_s]; exact h5a, fun j hj => by rw [g1 130 (by decide) (by decide)]; exact cv3 j hj, fo5, fj5⟩)
                      · -- 153 f
                        rw [zj (by omega)]
                        refine EV.o r_X11_hide_156 (bpN (10) 10) ?_
                        refine EV.l (lv' := [(0, _), (1, _), (2, _), (3, _), (4, _), (5, _), (6, _)]) r_X11_hide_158 rfl ?_
                        refine EV.o r_X11_hide_160 imulN ?_
                        refine EV.l (lv' := [(0, _), (1, _), (2, _), (3, _), (4, _), (5, _), (6, _)]) r_X11_hide_161 rfl ?_
                        refine EV.gR r_X11_hide_162 la_106 ?_
                        refine EV.l (lv' := [(0, _), (1, _), (2, _), (3, _), (4, _), (5, _), (6, _)]) r_X11_hide_165 rfl ?_
                        refine EV.iaN r_X11_hide_167 la_131 (ldq _ (by omega)) ?_
                        refine EV.o r_X11_hide_168 iaddN ?_
                        refine EV.l (lv' := [(0, _), (1, _), (2, _), (3, _), (4, _), (5, _), (6, _)]) r_X11_hide_169 rfl ?_
                        refine EV.l (lv' := [(0, _), (1, _), (2, _), (3, _), (4, _), (5, _), (6, _)]) r_X11_hide_171 rfl ?_
                        rw [dec_nZ]
                        refine EV.g r_X11_hide_174 ?_
                        refine EV.sub ?_ rfl ?_ (ih151 (i + 1) ?_ ?_)
                        · rw [show (((κ.nb - 1 - i : Nat) : Int) - 1) = (κ.nb : Int) - 1 - ((i + 1 : Nat) : Int) by omega]; rfl
                        · rfl
                        · omega
                        · omega
                    have h0 := L151 (0)
                    try dsimp only at h0
                    refine EV.sub ?_ rfl ?_ (h0 ?_)
                    · rw [show ((κ.nb : Int) - ((1 : Nat) : Int)) = (κ.nb : Int) - 1 - ((0 : Nat) : Int) by omega]; rfl
                    · rfl
                    · omega
                  · -- 134 f
                    refine EV.g r_X11_hide_137 ?_
                    refine EV.l (lv' := [(0, _), (1, _), (2, _), (3, _), (4, _), (5, _)]) r_X11_hide_177 rfl ?_
                    rw [inc_nI]
                    refine EV.g r_X11_hide_180 ?_
                    refine EV.sub ?_ rfl ?_ (ih121 (x + 1, I3) ?_ ?_)
                    · (try dsimp only) <;> (rw [up_s]; first | ((rw [okN_no (by assumption)]) <;> rfl) | ((rw [okN_up (by assumption)]) <;> rfl))
                    · (try dsimp only) <;> (rfl)
                    · (try dsimp only) <;> (omega)
                    · (try dsimp only) <;> (exact ⟨by omega, by rw [up_s]; exact h5a, fun j hj => by rw [g1 130 (by decide) (by decide)]; exact cv3 j hj, fo5, fj5⟩)
              have h0 := L121 ((0, I6))
              try dsimp only at h0
              refine EV.sub ?_ rfl ?_ (h0 ?_)
              · (try dsimp only) <;> (rfl)
              · (try dsimp only) <;> (rfl)
              · (try dsimp only) <;> (subst e6; exact ⟨Nat.zero_le _, wr_same, fun j hj => by rw [wr_row (by decide)]; exact cv3 j hj, fun o a1 a2 a3 a4 a5 => (wr_row a1).trans (hfo o a1 a2 a3 a4 a5), fun j hj => (wr_ne (Or.inr hj)).trans (hfj j hj)⟩)
            · -- 59 f
              refine EV.o r_X11_hide_62 (icN (0) (v := 0)) ?_
              refine EV.l (lv' := [(0, _), (1, _), (2, _), (3, _), (4, _), (5, _)]) r_X11_hide_63 rfl ?_
              have L65 : ∀ y_ : Nat × (Nat → Nat → Int32), (fun y => (y.1 ≤ 10 ∧ (∀ j, j < 10 * b + y.1 → y.2 130 j = nI (cvd κ l η j)) ∧ (∀ o, o ≠ 106 → o ≠ 121 → o ≠ 122 → o ≠ 130 → o ≠ 131 → y.2 o = M2 I o) ∧ ∀ j, j ≠ 50 → y.2 106 j = M2 I 106 j) → EV none M_X11_hide d' 65 [(0, .ref 106), (1, .int (nI wt)), (2, .int (nI 1)), (3, .int (nI (10 ^ b))), (4, .int (nI b)), (5, .int (nI y.1))] [] (hp y.2 J) (QI J (fun v I' => v = opI (pm2 (hid κ l η wt)) ∧ FR I I' ∧ I' 106 0 = nI 0))) y_ := by
                refine ev_loop (fun y => 10 - y.1) ?_
                intro ⟨k, I7⟩ ih65 hx65
                try dsimp only at ih65
                try dsimp only at hx65
                try dsimp only
                obtain ⟨kl, cv7, hfo, hfj⟩ := hx65
                have mc3 := (M2_mc mc_).fr9 (I' := I7) (fun j hj => hfj j (fun e => by subst e; exact absurd hj (by decide))) (fun x h1 h2 => hfo x (by omega) (by omega) (by omega) (by omega) (by omega))
                have mr3 := MR.fr (I' := I7) (M2_mr mr cb) (hfo 126 (by decide) (by decide) (by decide) (by decide) (by decide))
                have ml3 := ML.fr9 (I' := I7) (M2_ml ml_) (hfj 32 (by decide)) (hfo 119 (by decide) (by decide) (by decide) (by decide) (by decide)) (hfo 120 (by decide) (by decide) (by decide) (by decide) (by decide))
                refine EV.l (lv' := [(0, _), (1, _), (2, _), (3, _), (4, _), (5, _)]) r_X11_hide_65 rfl ?_
                refine EV.o r_X11_hide_67 (bpN (10) 10) ?_
                refine EV.n2_ge r_X11_hide_69 (fun h69 => ?_) (fun h69 => ?_)
                · -- 69 t
                  obtain rfl : k = 10 := by omega
                  refine EV.l (lv' := [(0, _), (1, _), (2, _), (3, _), (4, _), (5, _)]) r_X11_hide_99 rfl ?_
                  refine EV.o r_X11_hide_100 (bpN (10) 10) ?_
                  refine EV.o r_X11_hide_102 imulN ?_
                  refine EV.l (lv' := [(0, _), (1, _), (2, _), (3, _), (4, _), (5, _)]) r_X11_hide_103 rfl ?_
                  refine EV.l (lv' := [(0, _), (1, _), (2, _), (3, _), (4, _), (5, _)]) r_X11_hide_104 rfl ?_
                  rw [inc_nI]
                  refine EV.g r_X11_hide_107 ?_
                  refine EV.fg (lv' := [(0, _), (1, _), (2, _), (3, _), (4, _)]) r_X11_hide_53 rfl rfl rfl ?_
                  refine EV.sub ?_ rfl ?_ (ih53 (b + 1, I7) ?_ ?_)
                  · (try dsimp only) <;> (rw [pow10_s])
                  · (try dsimp only) <;> (rfl)
                  · (try dsimp only) <;> (omega)
                  · (try dsimp only) <;> (exact ⟨by omega, fun j hj => cv7 j (by omega), hfo, hfj⟩)
                · -- 69 f
                  refine EV.l (lv' := [(0, _), (1, _), (2, _), (3, _), (4, _), (5, _)]) r_X11_hide_72 rfl ?_
                  refine EV.gR r_X11_hide_73 la_106 ?_
                  refine EV.o r_X11_hide_76 (bpN (10) 10) ?_
                  refine EV.l (lv' := [(0, _), (1, _), (2, _), (3, _), (4, _), (5, _)]) r_X11_hide_78 rfl ?_
                  refine EV.o r_X11_hide_80 imulN ?_
                  refine EV.l (lv' := [(0, _), (1, _), (2, _), (3, _), (4, _), (5, _)]) r_X11_hide_81 rfl ?_
                  refine EV.o r_X11_hide_83 iaddN ?_
                  refine EV.l (lv' := [(0, _), (1, _), (2, _), (3, _), (4, _), (5, _)]) r_X11_hide_84 rfl ?_
                  refine EV.l (lv' := [(0, _), (1, _), (2, _), (3, _), (4, _), (5, _)]) r_X11_hide_85 rfl ?_
                  refine EV.l (lv' := [(0, _), (1, _), (2, _), (3, _), (4, _), (5, _)]) r_X11_hide_87 rfl ?_
                  refine EV.ci r_X11_hide_89 (aV2 mt_219 la_106) (m_overBy mc3 cb mr3 hb_ ml3 lb (by omega) (by omega) (by omega)) (fun v I4 h4 => ?_)
                  obtain ⟨e, fr4⟩ := h4
                  subst e
                  rw [show nI (ovr κ l η b k) = nI (cvd κ l η (10 * b + k)) from congrArg nI (by unfold cvd; rw [show (10 * b + k) / 10 = b by omega, show (10 * b + k) % 10 = k by omega])]
                  refine EV.iaSn r_X11_hide_92 la_130 (fun I8 e8 => ?_)
                  refine EV.l (lv' := [(0, _), (1, _), (2, _), (3, _), (4, _), (5, _)]) r_X11_hide_93 rfl ?_
                  rw [inc_nI]
                  refine EV.g r_X11_hide_96 ?_
                  refine EV.sub ?_ rfl ?_ (ih65 (k + 1, I8) ?_ ?_)
                  · (try dsimp only) <;> (rfl)
                  · (try dsimp only) <;> (rfl)
                  · (try dsimp only) <;> (omega)
                  · (try dsimp only) <;> (subst e8; exact ⟨by omega, wr_ext (f := fun j => nI (cvd κ l η j)) (fun j hj => by rw [fr4 130 (by decide) (by decide)]; exact cv7 j hj), fun o a1 a2 a3 a4 a5 => (wr_row a4).trans ((fr4 o a2 a3).trans (hfo o a1 a2 a3 a4 a5)), fun j hj => by rw [wr_row (by decide), fr4 106 (by decide) (by decide)]; exact hfj j hj⟩)
              have h0 := L65 ((0, I1))
              try dsimp only at h0
              refine EV.sub ?_ rfl ?_ (h0 ?_)
              · (try dsimp only) <;> (rfl)
              · (try dsimp only) <;> (rfl)
              · (try dsimp only) <;> (exact ⟨Nat.zero_le _, cv3, hfo, hfj⟩)
          have h0 := L53 ((0, M2 I))
          try dsimp only at h0
          refine EV.sub ?_ rfl ?_ (h0 ?_)
          · (try dsimp only) <;> (rfl)
          · (try dsimp only) <;> (rfl)
          · (try dsimp only) <;> (exact ⟨Nat.zero_le _, fun j hj => by omega, fun _ _ _ _ _ _ => rfl, fun _ _ => rfl⟩)
        · omega
theorem m_hideB {d : Nat} {I : Nat → Nat → Int32} {J : Nat → Nat → Int64} {κ : CT} (mc_ : MC κ I) (cb : CB κ) {x : Int} (x1 : -2147483648 ≤ x) (x2 : x < 2147483648) (hx : x < 0 ∨ ((2 ^ κ.ns : Nat) : Int) ≤ x) {y : Int32}  (hd : 9 ≤ d) : RI d 248 [.ref 106, .int (zI x), .int y] I J (fun v I' => I' = refM I 1 1) := by
  refine RI.in (d0 := 8) hd mt_248 (Nat.le_of_ble_eq_true rfl) (fun d' hd' => ?_)
  have bns := cb.ns; have bnb := cb.nb; have bnc := cb.nc; have bnr := cb.nr
  have pn := Nat.two_pow_pos κ.ns; have qn := pow_ns cb; have pc := Nat.two_pow_pos κ.nc; have qc := pow_nc cb
  show EV none M_X11_hide d' 0 [(0, .ref 106), (1, .int (zI x)), (2, .int y)] [] (hp I J) _
  refine EV.l (lv' := [(0, _), (1, _), (2, _)]) r_X11_hide_0 rfl ?_
  refine EV.o r_X11_hide_1 (icN (0) (v := 0)) ?_
  refine EV.pI r_X11_hide_2 la_106 ?_
  refine EV.l (lv' := [(0, _), (1, _), (2, _)]) r_X11_hide_5 rfl ?_
  refine EV.l (lv' := [(0, _), (1, _), (2, _)]) r_X11_hide_6 rfl ?_
  refine EV.z0_lt r_X11_hide_7 (fun h7 => ?_) (fun h7 => ?_)
  · -- 7 t
    refine EV.o r_X11_hide_33 (icN (0) (v := 0)) ?_
    refine EV.o r_X11_hide_34 (icN (1) (v := 1)) ?_
    refine EV.o r_X11_hide_35 (icN (1) (v := 1)) ?_
    refine EV.ci r_X11_hide_36 (aV3 mt_169 la_106) (m_may0 wr_same (by decide) (by decide) (by decide) (by omega)) (fun v I2 h2 => ?_)
    obtain ⟨e, fr_⟩ := h2
    subst e
    refine EV.n0_ne r_X11_hide_39 (fun h39 => ?_) (fun h39 => ?_)
    · omega
    · -- 39 f
      refine EV.o r_X11_hide_42 (icN (0) (v := 0)) ?_
      exact EV.ri r_X11_hide_43 (fr_)
  · -- 7 f
    refine EV.l (lv' := [(0, _), (1, _), (2, _)]) r_X11_hide_10 rfl ?_
    refine EV.o r_X11_hide_11 (icN (1) (v := 1)) ?_
    refine EV.l (lv' := [(0, _), (1, _), (2, _)]) r_X11_hide_12 rfl ?_
    refine EV.getV r_X11_hide_13 la_106 ((wr0_mc (v := nI 0) mc_).ns) ?_
    refine EV.o r_X11_hide_16 (ishl1) ?_
    refine EV.zn2_ge r_X11_hide_17 (fun h17 => ?_) (fun h17 => ?_)
    · -- 17 t
      refine EV.o r_X11_hide_33 (icN (0) (v := 0)) ?_
      refine EV.o r_X11_hide_34 (icN (1) (v := 1)) ?_
      refine EV.o r_X11_hide_35 (icN (1) (v := 1)) ?_
      refine EV.ci r_X11_hide_36 (aV3 mt_169 la_106) (m_may0 wr_same (by decide) (by decide) (by decide) (by omega)) (fun v I2 h2 => ?_)
      obtain ⟨e, fr_⟩ := h2
      subst e
      refine EV.n0_ne r_X11_hide_39 (fun h39 => ?_) (fun h39 => ?_)
      · omega
      · -- 39 f
        refine EV.o r_X11_hide_42 (icN (0) (v := 0)) ?_
        exact EV.ri r_X11_hide_43 (fr_)
    · omega
theorem m_hideX {d : Nat} {I : Nat → Nat → Int32} {J : Nat → Nat → Int64} {κ : CT} (mc_ : MC κ I) (cb : CB κ) {x : Nat} (hx : x < 2 ^ κ.ns) {y : Int} (y1 : -2147483648 ≤ y) (y2 : y < 2147483648) (hy : ¬ (0 ≤ y ∧ y ≤ 1))  (hd : 9 ≤ d) : RI d 248 [.ref 106, .int (nI x), .int (zI y)] I J (fun v I' => I' = refM I 1 1) := by
  refine RI.in (d0 := 8) hd mt_248 (Nat.le_of_ble_eq_true rfl) (fun d' hd' => ?_)
  have bns := cb.ns; have bnb := cb.nb; have bnc := cb.nc; have bnr := cb.nr
  have pn := Nat.two_pow_pos κ.ns; have qn := pow_ns cb; have pc := Nat.two_pow_pos κ.nc; have qc := pow_nc cb
  show EV none M_X11_hide d' 0 [(0, .ref 106), (1, .int (nI x)), (2, .int (zI y))] [] (hp I J) _
  refine EV.l (lv' := [(0, _), (1, _), (2, _)]) r_X11_hide_0 rfl ?_
  refine EV.o r_X11_hide_1 (icN (0) (v := 0)) ?_
  refine EV.pI r_X11_hide_2 la_106 ?_
  refine EV.l (lv' := [(0, _), (1, _), (2, _)]) r_X11_hide_5 rfl ?_
  refine EV.l (lv' := [(0, _), (1, _), (2, _)]) r_X11_hide_6 rfl ?_
  refine EV.n0_lt r_X11_hide_7 (fun h7 => ?_) (fun h7 => ?_)
  · -- 7 t
    refine EV.o r_X11_hide_33 (icN (0) (v := 0)) ?_
    refine EV.o r_X11_hide_34 (icN (1) (v := 1)) ?_
    refine EV.o r_X11_hide_35 (icN (1) (v := 1)) ?_
    refine EV.ci r_X11_hide_36 (aV3 mt_169 la_106) (m_may0 wr_same (by decide) (by decide) (by decide) (by omega)) (fun v I2 h2 => ?_)
    obtain ⟨e, fr_⟩ := h2
    subst e
    refine EV.n0_ne r_X11_hide_39 (fun h39 => ?_) (fun h39 => ?_)
    · omega
    · -- 39 f
      refine EV.o r_X11_hide_42 (icN (0) (v := 0)) ?_
      exact EV.ri r_X11_hide_43 (fr_)
  · -- 7 f
    refine EV.l (lv' := [(0, _), (1, _), (2, _)]) r_X11_hide_10 rfl ?_
    refine EV.o r_X11_hide_11 (icN (1) (v := 1)) ?_
    refine EV.l (lv' := [(0, _), (1, _), (2, _)]) r_X11_hide_12 rfl ?_
    refine EV.getV r_X11_hide_13 la_106 ((wr0_mc (v := nI 0) mc_).ns) ?_
    refine EV.o r_X11_hide_16 (ishl1) ?_
    refine EV.n2_ge r_X11_hide_17 (fun h17 => ?_) (fun h17 => ?_)
    · -- 17 t
      refine EV.o r_X11_hide_33 (icN (0) (v := 0)) ?_
      refine EV.o r_X11_hide_34 (icN (1) (v := 1)) ?_
      refine EV.o r_X11_hide_35 (icN (1) (v := 1)) ?_
      refine EV.ci r_X11_hide_36 (aV3 mt_169 la_106) (m_may0 wr_same (by decide) (by decide) (by decide) (by omega)) (fun v I2 h2 => ?_)
      obtain ⟨e, fr_⟩ := h2
      subst e
      refine EV.n0_ne r_X11_hide_39 (fun h39 => ?_) (fun h39 => ?_)
      · omega
      · -- 39 f
        refine EV.o r_X11_hide_42 (icN (0) (v := 0)) ?_
        exact EV.ri r_X11_hide_43 (fr_)
    · -- 17 f
      refine EV.l (lv' := [(0, _), (1, _), (2, _)]) r_X11_hide_20 rfl ?_
      refine EV.o r_X11_hide_21 (icN (0) (v := 0)) ?_
      refine EV.o r_X11_hide_22 (icN (1) (v := 1)) ?_
      refine EV.cv r_X11_hide_23 (aS3 mt_170) (m_wZNN (by omega) (by omega) (by omega) (by omega) (by omega)) ?_
      refine EV.p0_eq r_X11_hide_26 (fun h26 => ?_) (fun h26 => ?_)
      · -- 26 t
        refine EV.o r_X11_hide_33 (icN (0) (v := 0)) ?_
        refine EV.o r_X11_hide_34 (icN (1) (v := 1)) ?_
        refine EV.o r_X11_hide_35 (icN (1) (v := 1)) ?_
        refine EV.ci r_X11_hide_36 (aV3 mt_169 la_106) (m_may0 wr_same (by decide) (by decide) (by decide) (by omega)) (fun v I2 h2 => ?_)
        obtain ⟨e, fr_⟩ := h2
        subst e
        refine EV.n0_ne r_X11_hide_39 (fun h39 => ?_) (fun h39 => ?_)
        · omega
        · -- 39 f
          refine EV.o r_X11_hide_42 (icN (0) (v := 0)) ?_
          exact EV.ri r_X11_hide_43 (fr_)
      · -- 26 f
        refine EV.o r_X11_hide_29 (icN (1) (v := 1)) ?_
        refine EV.g r_X11_hide_30 ?_
        refine EV.o r_X11_hide_34 (icN (1) (v := 1)) ?_
        refine EV.o r_X11_hide_35 (icN (1) (v := 1)) ?_
        omega
