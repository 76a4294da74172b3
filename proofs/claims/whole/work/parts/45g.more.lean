/-! (goes on) -/
theorem m_crowd1 {d : Nat} {I : Nat → Nat → Int32} {J : Nat → Nat → Int64} {κ : CT} {l : LW} {η : HS} (mc_ : MC κ I) (cb : CB κ) (mr : MR 125 κ η I) (hb_ : HB κ η) (ml_ : ML l I) (lb : LB l) (wm : WM κ l η)  (hd : 13 ≤ d) : RI d 277 [.ref 106, .int (nI 1)] I J (fun v I' => v = nI (cwd (cwf κ η) 500).2 ∧ FM I I') := by
  refine RI.in (d0 := 12) hd mt_277 (Nat.le_of_ble_eq_true rfl) (fun d' hd' => ?_)
  have bns := cb.ns; have bnb := cb.nb; have bnc := cb.nc; have bnr := cb.nr
  have bm_ := hb_.mi
  show EV none M_X11_crowd d' 0 [(0, .ref 106), (1, .int (nI 1))] [] (hp I J) _
  refine EV.l (lv' := [(0, _), (1, _)]) r_X11_crowd_0 rfl ?_
  refine EV.o r_X11_crowd_1 (icN (0) (v := 0)) ?_
  refine EV.pI r_X11_crowd_2 la_106 ?_
  refine EV.l (lv' := [(0, _), (1, _)]) r_X11_crowd_5 rfl ?_
  refine EV.l (lv' := [(0, _), (1, _)]) r_X11_crowd_6 rfl ?_
  refine EV.o r_X11_crowd_7 (icN (0) (v := 0)) ?_
  refine EV.o r_X11_crowd_8 (icN (1) (v := 1)) ?_
  refine EV.cv r_X11_crowd_9 (aS3 mt_170) (m_wNNN (by omega) (by omega) (by omega) (by omega)) ?_
  refine EV.o r_X11_crowd_12 (icN (1) (v := 1)) ?_
  refine EV.o r_X11_crowd_13 (icN (1) (v := 1)) ?_
  refine EV.cv r_X11_crowd_14 (aV3 mt_169 la_106) (m_mayP (by omega) wr_same (by omega)) ?_
  refine EV.n0_ne r_X11_crowd_17 (fun h17 => ?_) (fun h17 => ?_)
  · -- 17 t
    refine EV.l (lv' := [(0, _), (1, _)]) r_X11_crowd_22 rfl ?_
    refine EV.cu r_X11_crowd_23 (aV0 mt_212 la_106) (m_take (by omega)) (fun I2 e2 => ?_)
    have e2 : I2 = M2 I := e2
    subst e2
    have mc2 := M2_mc mc_
    have ml2 := M2_ml ml_
    have mr2 := M2_mr mr cb
    refine EV.o r_X11_crowd_26 (icN (0) (v := 0)) ?_
    refine EV.l (lv' := [(0, _), (1, _), (2, _)]) r_X11_crowd_27 rfl ?_
    refine EV.l (lv' := [(0, _), (1, _), (2, _)]) r_X11_crowd_28 rfl ?_
    refine EV.o r_X11_crowd_29 (icN (0) (v := 0)) ?_
    refine EV.ci r_X11_crowd_30 (aV1 mt_220 la_106) (m_birdsAt mc2 cb mr2 hb_ ml2 lb (by omega) (by omega)) (fun v I3 h2 => ?_)
    obtain ⟨e, fr_⟩ := h2
    subst e
    rw [← bd_eq hb_ wm]
    have b0 : birds κ η 0 < 16 := mk_nb cb _
    have mc3 := MC.fr (I' := I3) mc2 (fr_ 106 (by decide) (by decide)) (fun x h1 h2 => fr_ x (by omega) (by omega))
    have mr3 := MR.fr (I' := I3) mr2 (fr_ 126 (by decide) (by decide))
    refine EV.cv r_X11_crowd_33 (aS1 mt_213) (m_ones (by omega) (by omega)) ?_
    refine EV.l (lv' := [(0, _), (1, _), (2, _), (3, _)]) r_X11_crowd_36 rfl ?_
    refine EV.o r_X11_crowd_37 (icN (0) (v := 0)) ?_
    refine EV.l (lv' := [(0, _), (1, _), (2, _), (3, _), (4, _)]) r_X11_crowd_38 rfl ?_
    have L40 : ∀ y_ : Nat × (Nat → Nat → Int32), (fun y => (y.1 ≤ κ.nb ∧ (∀ o, o ≠ 121 → o ≠ 122 → y.2 o = M2 I o)) → EV none M_X11_crowd d' 40 [(0, .ref 106), (1, .int (nI 1)), (2, .int (nI (cwm (cwf κ η) η.be y.1).1)), (3, .int (nI (cwm (cwf κ η) η.be y.1).2)), (4, .int (nI y.1))] [] (hp y.2 J) (QI J (fun v I' => v = nI (cwd (cwf κ η) 500).2 ∧ FM I I'))) y_ := by
      refine ev_loop (fun y => κ.nb - y.1) ?_
      intro ⟨k, I1⟩ ih40 hx40
      try dsimp only at ih40
      try dsimp only at hx40
      try dsimp only
      have fr_ := hx40.2; have kl := hx40.1
      have mc3 := MC.fr (I' := I1) mc2 (fr_ 106 (by decide) (by decide)) (fun x h1 h2 => fr_ x (by omega) (by omega))
      have mr3 := MR.fr (I' := I1) mr2 (fr_ 126 (by decide) (by decide))
      have ml3 := ML.fr (I' := I1) ml2 (fr_ 106 (by decide) (by decide)) (fr_ 119 (by decide) (by decide)) (fr_ 120 (by decide) (by decide))
      have b1 := hb_.be k; have b2 : birds κ η (η.be k) < 16 := mk_nb cb _; have f9 := fits9 κ η (η.be k); have c9 := cwm_le (fits9 κ η) hb_.be k
      have fe_ : pc9 (birds κ η (η.be k)) = cwf κ η (η.be k) := rfl
      refine EV.l (lv' := [(0, _), (1, _), (2, _), (3, _), (4, _)]) r_X11_crowd_40 rfl ?_
      refine EV.l (lv' := [(0, _), (1, _), (2, _), (3, _), (4, _)]) r_X11_crowd_42 rfl ?_
      refine EV.getV r_X11_crowd_43 la_106 (mc3.nb) ?_
      refine EV.n2_ge r_X11_crowd_46 (fun h46 => ?_) (fun h46 => ?_)
      · -- 46 t
        refine EV.l (lv' := [(0, _), (1, _), (2, _), (3, _), (4, _)]) r_X11_crowd_105 rfl ?_
        refine EV.n0_ne r_X11_crowd_106 (fun h106 => ?_) (fun h106 => ?_)
        · -- 106 t
          refine EV.l (lv' := [(0, _), (1, _), (2, _), (3, _), (4, _)]) r_X11_crowd_113 rfl ?_
          exact EV.ri r_X11_crowd_114 (⟨by rw [cw_eq hb_, show κ.nb = k by omega], FM_of fr_⟩)
        · omega
      · -- 46 f
        refine EV.l (lv' := [(0, _), (1, _), (2, _), (3, _), (4, _)]) r_X11_crowd_49 rfl ?_
        refine EV.gR r_X11_crowd_50 la_106 ?_
        refine EV.o r_X11_crowd_53 (bpN (18) 18) ?_
        refine EV.l (lv' := [(0, _), (1, _), (2, _), (3, _), (4, _)]) r_X11_crowd_55 rfl ?_
        refine EV.o r_X11_crowd_57 iaddN ?_
        refine EV.iaN r_X11_crowd_58 la_126 (mr3.be _ (by omega)) ?_
        refine EV.l (lv' := [(0, _), (1, _), (2, _), (3, _), (4, _), (5, _)]) r_X11_crowd_59 rfl ?_
        refine EV.l (lv' := [(0, _), (1, _), (2, _), (3, _), (4, _), (5, _)]) r_X11_crowd_61 rfl ?_
        refine EV.l (lv' := [(0, _), (1, _), (2, _), (3, _), (4, _), (5, _)]) r_X11_crowd_62 rfl ?_
        refine EV.ci r_X11_crowd_64 (aV1 mt_220 la_106) (m_birdsAt mc3 cb mr3 hb_ ml3 lb (by omega) (by omega)) (fun v I3 h2 => ?_)
        obtain ⟨e, fr2⟩ := h2
        subst e
        rw [← bd_eq hb_ wm]
        have fr_ : ∀ o, o ≠ 121 → o ≠ 122 → I3 o = M2 I o := fun o h1 h2 => (fr2 o h1 h2).trans (fr_ o h1 h2)
        have mc3 := MC.fr (I' := I3) mc2 (fr_ 106 (by decide) (by decide)) (fun x h1 h2 => fr_ x (by omega) (by omega))
        have mr3 := MR.fr (I' := I3) mr2 (fr_ 126 (by decide) (by decide))
        have ml3 := ML.fr (I' := I3) ml2 (fr_ 106 (by decide) (by decide)) (fr_ 119 (by decide) (by decide)) (fr_ 120 (by decide) (by decide))
        refine EV.cv r_X11_crowd_67 (aS1 mt_213) (m_ones (by omega) (by omega)) ?_
        refine EV.l (lv' := [(0, _), (1, _), (2, _), (3, _), (4, _), (5, _), (6, _)]) r_X11_crowd_70 rfl ?_
        refine EV.l (lv' := [(0, _), (1, _), (2, _), (3, _), (4, _), (5, _), (6, _)]) r_X11_crowd_72 rfl ?_
        refine EV.l (lv' := [(0, _), (1, _), (2, _), (3, _), (4, _), (5, _), (6, _)]) r_X11_crowd_74 rfl ?_
        refine EV.n2_lt r_X11_crowd_75 (fun h75 => ?_) (fun h75 => ?_)
        · -- 75 t
          refine EV.l (lv' := [(0, _), (1, _), (2, _), (3, _), (4, _), (5, _), (6, _)]) r_X11_crowd_99 rfl ?_
          rw [inc_nI]
          refine EV.g r_X11_crowd_102 ?_
          refine EV.fg (lv' := [(0, _), (1, _), (2, _), (3, _), (4, _)]) r_X11_crowd_40 rfl rfl rfl ?_
          refine EV.sub ?_ rfl ?_ (ih40 (k + 1, I3) ?_ ?_)
          · (try dsimp only) <;> (first | rw [cwm_t (by omega)]; rfl | rw [cwm_f (by omega)]; rfl | rw [cwm_t (by omega)] | rw [cwm_f (by omega)])
          · (try dsimp only) <;> (rfl)
          · (try dsimp only) <;> (omega)
          · (try dsimp only) <;> (exact ⟨by omega, fr_⟩)
        · -- 75 f
          refine EV.l (lv' := [(0, _), (1, _), (2, _), (3, _), (4, _), (5, _), (6, _)]) r_X11_crowd_78 rfl ?_
          refine EV.l (lv' := [(0, _), (1, _), (2, _), (3, _), (4, _), (5, _), (6, _)]) r_X11_crowd_80 rfl ?_
          refine EV.n2_ne r_X11_crowd_81 (fun h81 => ?_) (fun h81 => ?_)
          · -- 81 t
            refine EV.l (lv' := [(0, _), (1, _), (2, _), (3, _), (4, _), (5, _), (6, _)]) r_X11_crowd_93 rfl ?_
            refine EV.l (lv' := [(0, _), (1, _), (2, _), (3, _), (4, _), (5, _), (6, _)]) r_X11_crowd_95 rfl ?_
            refine EV.l (lv' := [(0, _), (1, _), (2, _), (3, _), (4, _), (5, _), (6, _)]) r_X11_crowd_96 rfl ?_
            refine EV.l (lv' := [(0, _), (1, _), (2, _), (3, _), (4, _), (5, _), (6, _)]) r_X11_crowd_98 rfl ?_
            refine EV.l (lv' := [(0, _), (1, _), (2, _), (3, _), (4, _), (5, _), (6, _)]) r_X11_crowd_99 rfl ?_
            rw [inc_nI]
            refine EV.g r_X11_crowd_102 ?_
            refine EV.fg (lv' := [(0, _), (1, _), (2, _), (3, _), (4, _)]) r_X11_crowd_40 rfl rfl rfl ?_
            refine EV.sub ?_ rfl ?_ (ih40 (k + 1, I3) ?_ ?_)
            · (try dsimp only) <;> (first | rw [cwm_t (by omega)]; rfl | rw [cwm_f (by omega)]; rfl | rw [cwm_t (by omega)] | rw [cwm_f (by omega)])
            · (try dsimp only) <;> (rfl)
            · (try dsimp only) <;> (omega)
            · (try dsimp only) <;> (exact ⟨by omega, fr_⟩)
          · -- 81 f
            refine EV.l (lv' := [(0, _), (1, _), (2, _), (3, _), (4, _), (5, _), (6, _)]) r_X11_crowd_84 rfl ?_
            refine EV.l (lv' := [(0, _), (1, _), (2, _), (3, _), (4, _), (5, _), (6, _)]) r_X11_crowd_86 rfl ?_
            refine EV.n2_lt r_X11_crowd_87 (fun h87 => ?_) (fun h87 => ?_)
            · -- 87 t
              refine EV.l (lv' := [(0, _), (1, _), (2, _), (3, _), (4, _), (5, _), (6, _)]) r_X11_crowd_93 rfl ?_
              refine EV.l (lv' := [(0, _), (1, _), (2, _), (3, _), (4, _), (5, _), (6, _)]) r_X11_crowd_95 rfl ?_
              refine EV.l (lv' := [(0, _), (1, _), (2, _), (3, _), (4, _), (5, _), (6, _)]) r_X11_crowd_96 rfl ?_
              refine EV.l (lv' := [(0, _), (1, _), (2, _), (3, _), (4, _), (5, _), (6, _)]) r_X11_crowd_98 rfl ?_
              refine EV.l (lv' := [(0, _), (1, _), (2, _), (3, _), (4, _), (5, _), (6, _)]) r_X11_crowd_99 rfl ?_
              rw [inc_nI]
              refine EV.g r_X11_crowd_102 ?_
              refine EV.fg (lv' := [(0, _), (1, _), (2, _), (3, _), (4, _)]) r_X11_crowd_40 rfl rfl rfl ?_
              refine EV.sub ?_ rfl ?_ (ih40 (k + 1, I3) ?_ ?_)
              · (try dsimp only) <;> (first | rw [cwm_t (by omega)]; rfl | rw [cwm_f (by omega)]; rfl | rw [cwm_t (by omega)] | rw [cwm_f (by omega)])
              · (try dsimp only) <;> (rfl)
              · (try dsimp only) <;> (omega)
              · (try dsimp only) <;> (exact ⟨by omega, fr_⟩)
            · -- 87 f
              refine EV.g r_X11_crowd_90 ?_
              refine EV.l (lv' := [(0, _), (1, _), (2, _), (3, _), (4, _), (5, _), (6, _)]) r_X11_crowd_99 rfl ?_
              rw [inc_nI]
              refine EV.g r_X11_crowd_102 ?_
              refine EV.fg (lv' := [(0, _), (1, _), (2, _), (3, _), (4, _)]) r_X11_crowd_40 rfl rfl rfl ?_
              refine EV.sub ?_ rfl ?_ (ih40 (k + 1, I3) ?_ ?_)
              · (try dsimp only) <;> (first | rw [cwm_t (by omega)]; rfl | rw [cwm_f (by omega)]; rfl | rw [cwm_t (by omega)] | rw [cwm_f (by omega)])
              · (try dsimp only) <;> (rfl)
              · (try dsimp only) <;> (omega)
              · (try dsimp only) <;> (exact ⟨by omega, fr_⟩)
    have h0 := L40 ((0, I3))
    try dsimp only at h0
    refine EV.sub ?_ rfl ?_ (h0 ?_)
    · (try dsimp only) <;> (rfl)
    · (try dsimp only) <;> (rfl)
    · (try dsimp only) <;> (exact ⟨Nat.zero_le _, fr_⟩)
  · omega
theorem m_pairs {d : Nat} {I : Nat → Nat → Int32} {J : Nat → Nat → Int64} {κ : CT} {l : LW} {η : HS} (mc_ : MC κ I) (cb : CB κ) (mr : MR 125 κ η I) (hb_ : HB κ η) (ml_ : ML l I) (lb : LB l) (wm : WM κ l η)  (hd : 13 ≤ d) : RI d 276 [.ref 106] I J (fun v I' => v = nI (prs η κ.nb) ∧ FM I I') := by
  refine RI.in (d0 := 12) hd mt_276 (Nat.le_of_ble_eq_true rfl) (fun d' hd' => ?_)
  have bns := cb.ns; have bnb := cb.nb; have bnc := cb.nc; have bnr := cb.nr
  have bm_ := hb_.mi
  show EV none M_X11_pairs d' 0 [(0, .ref 106)] [] (hp I J) _
  refine EV.l (lv' := [(0, _)]) r_X11_pairs_0 rfl ?_
  refine EV.o r_X11_pairs_1 (icN (0) (v := 0)) ?_
  refine EV.pI r_X11_pairs_2 la_106 ?_
  refine EV.l (lv' := [(0, _)]) r_X11_pairs_5 rfl ?_
  refine EV.cu r_X11_pairs_6 (aV0 mt_212 la_106) (m_take (by omega)) (fun I2 e2 => ?_)
  have e2 : I2 = M2 I := e2
  subst e2
  have mc2 := M2_mc mc_
  have ml2 := M2_ml ml_
  have mr2 := M2_mr mr cb
  refine EV.o r_X11_pairs_9 (icN (0) (v := 0)) ?_
  refine EV.l (lv' := [(0, _), (1, _)]) r_X11_pairs_10 rfl ?_
  refine EV.o r_X11_pairs_11 (icN (0) (v := 0)) ?_
  refine EV.l (lv' := [(0, _), (1, _), (2, _)]) r_X11_pairs_12 rfl ?_
  have L13 : ∀ y_ : Nat × (Nat → Nat → Int32), (fun y => (y.1 ≤ κ.nb ∧ (∀ o, o ≠ 121 → o ≠ 122 → y.2 o = M2 I o)) → EV none M_X11_pairs d' 13 [(0, .ref 106), (1, .int (nI (prs η y.1))), (2, .int (nI y.1))] [] (hp y.2 J) (QI J (fun v I' => v = nI (prs η κ.nb) ∧ FM I I'))) y_ := by
    refine ev_loop (fun y => κ.nb - y.1) ?_
    intro ⟨b, I1⟩ ih13 hx13
    try dsimp only at ih13
    try dsimp only at hx13
    try dsimp only
    have fr_ := hx13.2; have kl := hx13.1
    have mc3 := MC.fr (I' := I1) mc2 (fr_ 106 (by decide) (by decide)) (fun x h1 h2 => fr_ x (by omega) (by omega))
    have mr3 := MR.fr (I' := I1) mr2 (fr_ 126 (by decide) (by decide))
    have ml3 := ML.fr (I' := I1) ml2 (fr_ 106 (by decide) (by decide)) (fr_ 119 (by decide) (by decide)) (fr_ 120 (by decide) (by decide))
    have b1 := hb_.be b; have b2 := hb_.wk b; have pl_ := prs_le η b; have bb : b * b ≤ 16 := Nat.mul_le_mul (by omega : b ≤ 4) (by omega : b ≤ 4)
    refine EV.l (lv' := [(0, _), (1, _), (2, _)]) r_X11_pairs_13 rfl ?_
    refine EV.l (lv' := [(0, _), (1, _), (2, _)]) r_X11_pairs_14 rfl ?_
    refine EV.getV r_X11_pairs_15 la_106 (mc3.nb) ?_
    refine EV.n2_ge r_X11_pairs_18 (fun h18 => ?_) (fun h18 => ?_)
    · -- 18 t
      refine EV.l (lv' := [(0, _), (1, _), (2, _)]) r_X11_pairs_82 rfl ?_
      exact EV.ri r_X11_pairs_83 (⟨by rw [show κ.nb = b by omega], FM_of fr_⟩)
    · -- 18 f
      refine EV.o r_X11_pairs_21 (icN (0) (v := 0)) ?_
      refine EV.l (lv' := [(0, _), (1, _), (2, _), (3, _)]) r_X11_pairs_22 rfl ?_
      have L23 : ∀ y_ : Nat × (Nat → Nat → Int32), (fun y => (y.1 ≤ b ∧ (∀ o, o ≠ 121 → o ≠ 122 → y.2 o = M2 I o)) → EV none M_X11_pairs d' 23 [(0, .ref 106), (1, .int (nI (prs η b + prIn η b y.1))), (2, .int (nI b)), (3, .int (nI y.1))] [] (hp y.2 J) (QI J (fun v I' => v = nI (prs η κ.nb) ∧ FM I I'))) y_ := by
        refine ev_loop (fun y => b - y.1) ?_
        intro ⟨o, I5⟩ ih23 hx23
        try dsimp only at ih23
        try dsimp only at hx23
        try dsimp only
        have fr_ := hx23.2; have kl2 := hx23.1
        have mc3 := MC.fr (I' := I5) mc2 (fr_ 106 (by decide) (by decide)) (fun x h1 h2 => fr_ x (by omega) (by omega))
        have mr3 := MR.fr (I' := I5) mr2 (fr_ 126 (by decide) (by decide))
        have ml3 := ML.fr (I' := I5) ml2 (fr_ 106 (by decide) (by decide)) (fr_ 119 (by decide) (by decide)) (fr_ 120 (by decide) (by decide))
        have b3 := hb_.be o; have b4 := hb_.wk o; have b5 := (wm.hw).wk1 o (by omega); have b6 := (wm.hw).wk1 b (by omega); have pi_ := prIn_le η b o
        refine EV.l (lv' := [(0, _), (1, _), (2, _), (3, _)]) r_X11_pairs_23 rfl ?_
        refine EV.l (lv' := [(0, _), (1, _), (2, _), (3, _)]) r_X11_pairs_24 rfl ?_
        refine EV.n2_ge r_X11_pairs_25 (fun h25 => ?_) (fun h25 => ?_)
        · -- 25 t
          obtain rfl : b = o := by omega
          refine EV.l (lv' := [(0, _), (1, _), (2, _), (3, _)]) r_X11_pairs_76 rfl ?_
          rw [inc_nI]
          refine EV.g r_X11_pairs_79 ?_
          refine EV.fg (lv' := [(0, _), (1, _), (2, _)]) r_X11_pairs_13 rfl rfl rfl ?_
          refine EV.sub ?_ rfl ?_ (ih13 (b + 1, I5) ?_ ?_)
          · (try dsimp only) <;> (rfl)
          · (try dsimp only) <;> (rfl)
          · (try dsimp only) <;> (omega)
          · (try dsimp only) <;> (exact ⟨by omega, fr_⟩)
        · -- 25 f
          refine EV.l (lv' := [(0, _), (1, _), (2, _), (3, _)]) r_X11_pairs_28 rfl ?_
          refine EV.l (lv' := [(0, _), (1, _), (2, _), (3, _)]) r_X11_pairs_29 rfl ?_
          refine EV.gR r_X11_pairs_30 la_106 ?_
          refine EV.o r_X11_pairs_33 (bpN (18) 18) ?_
          refine EV.l (lv' := [(0, _), (1, _), (2, _), (3, _)]) r_X11_pairs_35 rfl ?_
          refine EV.o r_X11_pairs_36 iaddN ?_
          refine EV.iaN r_X11_pairs_37 la_126 (mr3.be _ (by omega)) ?_
          refine EV.l (lv' := [(0, _), (1, _), (2, _), (3, _)]) r_X11_pairs_38 rfl ?_
          refine EV.l (lv' := [(0, _), (1, _), (2, _), (3, _)]) r_X11_pairs_39 rfl ?_
          refine EV.ci r_X11_pairs_40 (aV1 mt_275 la_106) (m_lastOf mc3 cb mr3 hb_ ml3 lb wm (by omega) (by omega)) (fun v I3 h2 => ?_)
          obtain ⟨e, fr2⟩ := h2
          subst e
          have fr_ : ∀ o, o ≠ 121 → o ≠ 122 → I3 o = M2 I o := fun o h1 h2 => (fr2 o h1 h2).trans (fr_ o h1 h2)
          have mc3 := MC.fr (I' := I3) mc2 (fr_ 106 (by decide) (by decide)) (fun x h1 h2 => fr_ x (by omega) (by omega))
          have mr3 := MR.fr (I' := I3) mr2 (fr_ 126 (by decide) (by decide))
          have ml3 := ML.fr (I' := I3) ml2 (fr_ 106 (by decide) (by decide)) (fr_ 119 (by decide) (by decide)) (fr_ 120 (by decide) (by decide))
          refine EV.n2_gt r_X11_pairs_43 (fun h43 => ?_) (fun h43 => ?_)
          · -- 43 t
            refine EV.o r_X11_pairs_67 (icN (0) (v := 0)) ?_
            refine EV.o r_X11_pairs_68 iaddN ?_
            refine EV.l (lv' := [(0, _), (1, _), (2, _), (3, _)]) r_X11_pairs_69 rfl ?_
            refine EV.l (lv' := [(0, _), (1, _), (2, _), (3, _)]) r_X11_pairs_70 rfl ?_
            rw [inc_nI]
            refine EV.g r_X11_pairs_73 ?_
            refine EV.sub ?_ rfl ?_ (ih23 (o + 1, I3) ?_ ?_)
            · (try dsimp only) <;> (first | (rw [← prIn_t (decide_eq_true (by omega))]; rfl) | (rw [← prIn_f (decide_eq_false (by omega))]; rfl))
            · (try dsimp only) <;> (rfl)
            · (try dsimp only) <;> (omega)
            · (try dsimp only) <;> (exact ⟨by omega, fr_⟩)
          · -- 43 f
            refine EV.l (lv' := [(0, _), (1, _), (2, _), (3, _)]) r_X11_pairs_46 rfl ?_
            refine EV.gR r_X11_pairs_47 la_106 ?_
            refine EV.o r_X11_pairs_50 (bpN (18) 18) ?_
            refine EV.l (lv' := [(0, _), (1, _), (2, _), (3, _)]) r_X11_pairs_52 rfl ?_
            refine EV.o r_X11_pairs_53 iaddN ?_
            refine EV.iaN r_X11_pairs_54 la_126 (mr3.be _ (by omega)) ?_
            refine EV.l (lv' := [(0, _), (1, _), (2, _), (3, _)]) r_X11_pairs_55 rfl ?_
            refine EV.l (lv' := [(0, _), (1, _), (2, _), (3, _)]) r_X11_pairs_56 rfl ?_
            refine EV.ci r_X11_pairs_57 (aV1 mt_275 la_106) (m_lastOf mc3 cb mr3 hb_ ml3 lb wm (by omega) (by omega)) (fun v I3 h2 => ?_)
            obtain ⟨e, fr2⟩ := h2
            subst e
            have fr_ : ∀ o, o ≠ 121 → o ≠ 122 → I3 o = M2 I o := fun o h1 h2 => (fr2 o h1 h2).trans (fr_ o h1 h2)
            have mc3 := MC.fr (I' := I3) mc2 (fr_ 106 (by decide) (by decide)) (fun x h1 h2 => fr_ x (by omega) (by omega))
            have mr3 := MR.fr (I' := I3) mr2 (fr_ 126 (by decide) (by decide))
            have ml3 := ML.fr (I' := I3) ml2 (fr_ 106 (by decide) (by decide)) (fr_ 119 (by decide) (by decide)) (fr_ 120 (by decide) (by decide))
            refine EV.n2_gt r_X11_pairs_60 (fun h60 => ?_) (fun h60 => ?_)
            · -- 60 t
              refine EV.o r_X11_pairs_67 (icN (0) (v := 0)) ?_
              refine EV.o r_X11_pairs_68 iaddN ?_
              refine EV.l (lv' := [(0, _), (1, _), (2, _), (3, _)]) r_X11_pairs_69 rfl ?_
              refine EV.l (lv' := [(0, _), (1, _), (2, _), (3, _)]) r_X11_pairs_70 rfl ?_
              rw [inc_nI]
              refine EV.g r_X11_pairs_73 ?_
              refine EV.sub ?_ rfl ?_ (ih23 (o + 1, I3) ?_ ?_)
              · (try dsimp only) <;> (first | (rw [← prIn_t (decide_eq_true (by omega))]; rfl) | (rw [← prIn_f (decide_eq_false (by omega))]; rfl))
              · (try dsimp only) <;> (rfl)
              · (try dsimp only) <;> (omega)
              · (try dsimp only) <;> (exact ⟨by omega, fr_⟩)
            · -- 60 f
              refine EV.o r_X11_pairs_63 (icN (1) (v := 1)) ?_
              refine EV.g r_X11_pairs_64 ?_
              refine EV.o r_X11_pairs_68 iaddN ?_
              refine EV.l (lv' := [(0, _), (1, _), (2, _), (3, _)]) r_X11_pairs_69 rfl ?_
              refine EV.l (lv' := [(0, _), (1, _), (2, _), (3, _)]) r_X11_pairs_70 rfl ?_
              rw [inc_nI]
              refine EV.g r_X11_pairs_73 ?_
              refine EV.sub ?_ rfl ?_ (ih23 (o + 1, I3) ?_ ?_)
              · (try dsimp only) <;> (first | (rw [← prIn_t (decide_eq_true (by omega))]; rfl) | (rw [← prIn_f (decide_eq_false (by omega))]; rfl))
              · (try dsimp only) <;> (rfl)
              · (try dsimp only) <;> (omega)
              · (try dsimp only) <;> (exact ⟨by omega, fr_⟩)
      have h0 := L23 ((0, I1))
      try dsimp only at h0
      refine EV.sub ?_ rfl ?_ (h0 ?_)
      · (try dsimp only) <;> (rfl)
      · (try dsimp only) <;> (rfl)
      · (try dsimp only) <;> (exact ⟨Nat.zero_le _, fr_⟩)
  have h0 := L13 ((0, M2 I))
  try dsimp only at h0
  refine EV.sub ?_ rfl ?_ (h0 ?_)
  · (try dsimp only) <;> (rfl)
  · (try dsimp only) <;> (rfl)
  · (try dsimp only) <;> (exact ⟨Nat.zero_le _, fun _ _ _ => rfl⟩)
