/-! (goes on) -/
theorem m_loafBy {d : Nat} {I : Nat → Nat → Int32} {J : Nat → Nat → Int64} {κ : CT} {η : HS} (mc_ : MC κ I) (mr : MR 125 κ η I) (cb : CB κ) (hb_ : HB κ η) {x n : Nat} (hx : x < 16) (hn : n < 100000)  (hd : 3 ≤ d) : RV d 261 [.ref 106, .int (nI x), .int (nI n)] I J (nI (crumb κ η x n κ.nc)) := by
  refine RV.in (d0 := 2) hd mt_261 (Nat.le_of_ble_eq_true rfl) (fun d' hd' => ?_)
  have bns := cb.ns; have bnb := cb.nb; have bnc := cb.nc; have bnr := cb.nr
  show EV none M_X11_loafBy d' 0 [(0, .ref 106), (1, .int (nI x)), (2, .int (nI n))] [] (hp I J) _
  refine EV.o r_X11_loafBy_0 (icN (0) (v := 0)) ?_
  refine EV.l (lv' := [(0, _), (1, _), (2, _), (3, _)]) r_X11_loafBy_1 rfl ?_
  refine EV.o r_X11_loafBy_2 (icN (0) (v := 0)) ?_
  refine EV.l (lv' := [(0, _), (1, _), (2, _), (3, _), (4, _)]) r_X11_loafBy_3 rfl ?_
  have L5 : ∀ y_ : Nat, (fun i => i ≤ κ.nc → EV none M_X11_loafBy d' 5 [(0, .ref 106), (1, .int (nI x)), (2, .int (nI n)), (3, .int (nI (crumb κ η x n i))), (4, .int (nI i))] [] (hp I J) (QV I J (nI (crumb κ η x n κ.nc)))) y_ := by
    refine ev_loop (fun i => κ.nc - i) ?_
    intro i ih5 hx5
    try dsimp only at ih5
    try dsimp only at hx5
    try dsimp only
    refine EV.l (lv' := [(0, _), (1, _), (2, _), (3, _), (4, _)]) r_X11_loafBy_5 rfl ?_
    refine EV.l (lv' := [(0, _), (1, _), (2, _), (3, _), (4, _)]) r_X11_loafBy_7 rfl ?_
    refine EV.getV r_X11_loafBy_8 la_106 (mc_.nc) ?_
    refine EV.n2_ge r_X11_loafBy_11 (fun h11 => ?_) (fun h11 => ?_)
    · -- 11 t
      refine EV.l (lv' := [(0, _), (1, _), (2, _), (3, _), (4, _)]) r_X11_loafBy_37 rfl ?_
      exact EV.rv r_X11_loafBy_38 (by rw [show i = κ.nc by omega])
    · -- 11 f
      refine EV.l (lv' := [(0, _), (1, _), (2, _), (3, _), (4, _)]) r_X11_loafBy_14 rfl ?_
      refine EV.l (lv' := [(0, _), (1, _), (2, _), (3, _), (4, _)]) r_X11_loafBy_15 rfl ?_
      refine EV.l (lv' := [(0, _), (1, _), (2, _), (3, _), (4, _)]) r_X11_loafBy_16 rfl ?_
      refine EV.o r_X11_loafBy_18 (ishrN) ?_
      refine EV.o r_X11_loafBy_19 (icN (1) (v := 1)) ?_
      refine EV.o r_X11_loafBy_20 (ibitN) ?_
      refine EV.l (lv' := [(0, _), (1, _), (2, _), (3, _), (4, _)]) r_X11_loafBy_21 rfl ?_
      refine EV.l (lv' := [(0, _), (1, _), (2, _), (3, _), (4, _)]) r_X11_loafBy_22 rfl ?_
      refine EV.l (lv' := [(0, _), (1, _), (2, _), (3, _), (4, _)]) r_X11_loafBy_24 rfl ?_
      refine EV.cv r_X11_loafBy_25 (aV2 mt_260 la_106) (m_bounded mr cb hb_ (by omega) (by omega) (by omega)) ?_
      refine EV.o r_X11_loafBy_28 imulN ?_
      refine EV.o r_X11_loafBy_29 iaddN ?_
      refine EV.l (lv' := [(0, _), (1, _), (2, _), (3, _), (4, _)]) r_X11_loafBy_30 rfl ?_
      refine EV.l (lv' := [(0, _), (1, _), (2, _), (3, _), (4, _)]) r_X11_loafBy_31 rfl ?_
      rw [inc_nI]
      refine EV.g r_X11_loafBy_34 ?_
      refine EV.sub ?_ rfl ?_ (ih5 (i + 1) ?_ ?_)
      · rw [crumb_b]
      · rfl
      · omega
      · omega
  have h0 := L5 (0)
  try dsimp only at h0
  refine EV.sub ?_ rfl ?_ (h0 ?_)
  · rfl
  · rfl
  · omega
theorem m_purse {d : Nat} {I : Nat → Nat → Int32} {J : Nat → Nat → Int64} {κ : CT} {l : LW} {η : HS} (mc_ : MC κ I) (cb : CB κ) (mr : MR 125 κ η I) (hb_ : HB κ η) (ml_ : ML l I) (lb : LB l) (wm : WM κ l η) {x : Nat} (h : x < 2 ^ κ.nc)  (hd : 13 ≤ d) : RI d 274 [.ref 106, .int (nI x)] I J (fun v I' => v = nI (crumb κ η x 40 κ.nc) ∧ FM I I') := by
  refine RI.in (d0 := 12) hd mt_274 (Nat.le_of_ble_eq_true rfl) (fun d' hd' => ?_)
  have bns := cb.ns; have bnb := cb.nb; have bnc := cb.nc; have bnr := cb.nr
  have bm_ := hb_.mi
  have mc1 := wr0_mc (v := nI 0) mc_; have mr1 := MR.fr (I' := wr I 106 0 (nI 0)) mr (wr_row (by decide)); have pc := pow_nc cb
  show EV none M_X11_purse d' 0 [(0, .ref 106), (1, .int (nI x))] [] (hp I J) _
  refine EV.l (lv' := [(0, _), (1, _)]) r_X11_purse_0 rfl ?_
  refine EV.o r_X11_purse_1 (icN (0) (v := 0)) ?_
  refine EV.pI r_X11_purse_2 la_106 ?_
  refine EV.l (lv' := [(0, _), (1, _)]) r_X11_purse_5 rfl ?_
  refine EV.l (lv' := [(0, _), (1, _)]) r_X11_purse_6 rfl ?_
  refine EV.l (lv' := [(0, _), (1, _)]) r_X11_purse_7 rfl ?_
  refine EV.cv r_X11_purse_8 (aV1 mt_262 la_106) (m_isSome1 (wr0_mc mc_) cb (by omega) (by omega)) ?_
  refine EV.o r_X11_purse_11 (icN (1) (v := 1)) ?_
  refine EV.o r_X11_purse_12 (icN (1) (v := 1)) ?_
  refine EV.cv r_X11_purse_13 (aV3 mt_169 la_106) (m_mayN wr_same (by omega)) ?_
  refine EV.n0_ne r_X11_purse_16 (fun h16 => ?_) (fun h16 => ?_)
  · -- 16 t
    refine EV.l (lv' := [(0, _), (1, _)]) r_X11_purse_21 rfl ?_
    refine EV.l (lv' := [(0, _), (1, _)]) r_X11_purse_22 rfl ?_
    refine EV.o r_X11_purse_23 (bpN (40) 40) ?_
    refine EV.cv r_X11_purse_25 (aV2 mt_261 la_106) (m_loafBy mc1 mr1 cb hb_ (by omega) (by omega) (by omega)) ?_
    exact EV.ri r_X11_purse_28 (⟨rfl, FM_0⟩)
  · omega
theorem m_lastOf {d : Nat} {I : Nat → Nat → Int32} {J : Nat → Nat → Int64} {κ : CT} {l : LW} {η : HS} (mc_ : MC κ I) (cb : CB κ) (mr : MR 126 κ η I) (hb_ : HB κ η) (ml_ : ML l I) (lb : LB l) (wm : WM κ l η) {b : Nat} (h : b < κ.nb)  (hd : 7 ≤ d) : RI d 275 [.ref 106, .int (nI b)] I J (fun v I' => v = nI (η.be b + η.wk b - 1) ∧ ∀ o, o ≠ 121 → o ≠ 122 → I' o = I o) := by
  refine RI.in (d0 := 6) hd mt_275 (Nat.le_of_ble_eq_true rfl) (fun d' hd' => ?_)
  have bns := cb.ns; have bnb := cb.nb; have bnc := cb.nc; have bnr := cb.nr
  have b1 := hb_.be b; have b2 := hb_.wk b; have b3 := (wm.hw).wk1 b h
  show EV none M_X11_lastOf d' 0 [(0, .ref 106), (1, .int (nI b))] [] (hp I J) _
  refine EV.l (lv' := [(0, _), (1, _)]) r_X11_lastOf_0 rfl ?_
  refine EV.gR r_X11_lastOf_1 la_106 ?_
  refine EV.o r_X11_lastOf_4 (bpN (18) 18) ?_
  refine EV.l (lv' := [(0, _), (1, _)]) r_X11_lastOf_6 rfl ?_
  refine EV.o r_X11_lastOf_7 iaddN ?_
  refine EV.iaN r_X11_lastOf_8 la_126 (mr.be _ (by omega)) ?_
  refine EV.l (lv' := [(0, _), (1, _)]) r_X11_lastOf_9 rfl ?_
  refine EV.l (lv' := [(0, _), (1, _)]) r_X11_lastOf_10 rfl ?_
  refine EV.l (lv' := [(0, _), (1, _)]) r_X11_lastOf_11 rfl ?_
  refine EV.gR r_X11_lastOf_12 la_106 ?_
  refine EV.o r_X11_lastOf_15 (bpN (18) 18) ?_
  refine EV.l (lv' := [(0, _), (1, _)]) r_X11_lastOf_17 rfl ?_
  refine EV.o r_X11_lastOf_18 iaddN ?_
  refine EV.iaN r_X11_lastOf_19 la_126 (mr.be _ (by omega)) ?_
  refine EV.l (lv' := [(0, _), (1, _)]) r_X11_lastOf_20 rfl ?_
  refine EV.gR r_X11_lastOf_21 la_106 ?_
  refine EV.o r_X11_lastOf_24 (bpN (22) 22) ?_
  refine EV.l (lv' := [(0, _), (1, _)]) r_X11_lastOf_26 rfl ?_
  refine EV.o r_X11_lastOf_27 iaddN ?_
  refine EV.iaN r_X11_lastOf_28 la_126 (mr.le _ (by omega)) ?_
  refine EV.ci r_X11_lastOf_29 (aV3 mt_217 la_106) (m_walkBy mc_ cb mr hb_ ml_ lb (by omega) (by omega)) (fun v I3 h2 => ?_)
  obtain ⟨e, fr_⟩ := h2
  subst e
  rw [wk_eq hb_ wm (by omega)]
  refine EV.o r_X11_lastOf_32 iaddN ?_
  refine EV.o r_X11_lastOf_33 (icN (1) (v := 1)) ?_
  refine EV.o r_X11_lastOf_34 (isubN) ?_
  exact EV.ri r_X11_lastOf_35 (⟨rfl, fr_⟩)
theorem m_swing {d : Nat} {I : Nat → Nat → Int32} {J : Nat → Nat → Int64} {κ : CT} {l : LW} {η : HS} (mc_ : MC κ I) (cb : CB κ) (mr : MR 125 κ η I) (hb_ : HB κ η) (ml_ : ML l I) (lb : LB l) (wm : WM κ l η) {i : Nat} (h : i < κ.ns)  (hd : 13 ≤ d) : RI d 278 [.ref 106, .int (nI i)] I J (fun v I' => v = zI (lean κ (heard κ η η.mi ^^^ 2 ^ i)) ∧ FM I I') := by
  refine RI.in (d0 := 12) hd mt_278 (Nat.le_of_ble_eq_true rfl) (fun d' hd' => ?_)
  have bns := cb.ns; have bnb := cb.nb; have bnc := cb.nc; have bnr := cb.nr
  have bm_ := hb_.mi
  show EV none M_X11_swing d' 0 [(0, .ref 106), (1, .int (nI i))] [] (hp I J) _
  refine EV.l (lv' := [(0, _), (1, _)]) r_X11_swing_0 rfl ?_
  refine EV.o r_X11_swing_1 (icN (0) (v := 0)) ?_
  refine EV.pI r_X11_swing_2 la_106 ?_
  refine EV.l (lv' := [(0, _), (1, _)]) r_X11_swing_5 rfl ?_
  refine EV.l (lv' := [(0, _), (1, _)]) r_X11_swing_6 rfl ?_
  refine EV.o r_X11_swing_7 (icN (1) (v := 1)) ?_
  refine EV.cv r_X11_swing_8 (aV2 mt_238 la_106) (m_isSayN1 (wr0_mc mc_) cb wr_same (by omega) (by omega)) ?_
  refine EV.n0_ne r_X11_swing_11 (fun h11 => ?_) (fun h11 => ?_)
  · -- 11 t
    refine EV.l (lv' := [(0, _), (1, _)]) r_X11_swing_16 rfl ?_
    refine EV.cu r_X11_swing_17 (aV0 mt_212 la_106) (m_take (by omega)) (fun I2 e2 => ?_)
    have e2 : I2 = M2 I := e2
    subst e2
    have mc2 := M2_mc mc_
    have ml2 := M2_ml ml_
    have mr2 := M2_mr mr cb
    refine EV.l (lv' := [(0, _), (1, _)]) r_X11_swing_20 rfl ?_
    refine EV.l (lv' := [(0, _), (1, _)]) r_X11_swing_21 rfl ?_
    refine EV.l (lv' := [(0, _), (1, _)]) r_X11_swing_22 rfl ?_
    refine EV.gR r_X11_swing_23 la_106 ?_
    refine EV.o r_X11_swing_26 (bpN (30) 30) ?_
    refine EV.iaN r_X11_swing_28 la_126 (mr2.mi) ?_
    refine EV.ci r_X11_swing_29 (aV1 mt_226 la_106) (m_heardBy mc2 cb mr2 hb_ ml2 lb (by omega) (by omega)) (fun v I3 h2 => ?_)
    obtain ⟨e, fr_⟩ := h2
    subst e
    rw [hd_eq hb_ wm]
    have mc3 := MC.fr (I' := I3) mc2 (fr_ 106 (by decide) (by decide)) (fun x h1 h2 => fr_ x (by omega) (by omega))
    refine EV.o r_X11_swing_32 (icN (1) (v := 1)) ?_
    refine EV.l (lv' := [(0, _), (1, _)]) r_X11_swing_33 rfl ?_
    refine EV.o r_X11_swing_34 (ishl1) ?_
    refine EV.o r_X11_swing_35 ixorN ?_
    refine EV.cv r_X11_swing_36 (aV1 mt_225 la_106) (m_lean mc3 cb (xor_lt9 (heard_lt _) h) (by omega)) ?_
    exact EV.ri r_X11_swing_39 (⟨rfl, by first | exact FM_of fr_ | exact FM_2⟩)
  · omega
theorem m_when0 {d : Nat} {I : Nat → Nat → Int32} {J : Nat → Nat → Int64} {κ : CT} {l : LW} {η : HS} (mc_ : MC κ I) (cb : CB κ) (mr : MR 125 κ η I) (hb_ : HB κ η) (ml_ : ML l I) (lb : LB l) (wm : WM κ l η)  (hd : 13 ≤ d) : RI d 279 [.ref 106, .int (nI 0)] I J (fun v I' => v = nI (sdB κ η (η.mi + 1) 400) ∧ FM I I') := by
  refine RI.in (d0 := 12) hd mt_279 (Nat.le_of_ble_eq_true rfl) (fun d' hd' => ?_)
  have bns := cb.ns; have bnb := cb.nb; have bnc := cb.nc; have bnr := cb.nr
  have bm_ := hb_.mi
  show EV none M_X11_when d' 0 [(0, .ref 106), (1, .int (nI 0))] [] (hp I J) _
  refine EV.l (lv' := [(0, _), (1, _)]) r_X11_when_0 rfl ?_
  refine EV.o r_X11_when_1 (icN (0) (v := 0)) ?_
  refine EV.pI r_X11_when_2 la_106 ?_
  refine EV.l (lv' := [(0, _), (1, _)]) r_X11_when_5 rfl ?_
  refine EV.l (lv' := [(0, _), (1, _)]) r_X11_when_6 rfl ?_
  refine EV.o r_X11_when_7 (icN (0) (v := 0)) ?_
  refine EV.o r_X11_when_8 (icN (2) (v := 2)) ?_
  refine EV.cv r_X11_when_9 (aS3 mt_170) (m_wNNN (by omega) (by omega) (by omega) (by omega)) ?_
  refine EV.o r_X11_when_12 (icN (1) (v := 1)) ?_
  refine EV.o r_X11_when_13 (icN (1) (v := 1)) ?_
  refine EV.cv r_X11_when_14 (aV3 mt_169 la_106) (m_mayP (by omega) wr_same (by omega)) ?_
  refine EV.n0_ne r_X11_when_17 (fun h17 => ?_) (fun h17 => ?_)
  · -- 17 t
    refine EV.l (lv' := [(0, _), (1, _)]) r_X11_when_22 rfl ?_
    refine EV.cu r_X11_when_23 (aV0 mt_212 la_106) (m_take (by omega)) (fun I2 e2 => ?_)
    have e2 : I2 = M2 I := e2
    subst e2
    have mc2 := M2_mc mc_
    have ml2 := M2_ml ml_
    have mr2 := M2_mr mr cb
    refine EV.o r_X11_when_26 (icN (0) (v := 0)) ?_
    refine EV.l (lv' := [(0, _), (1, _), (2, _)]) r_X11_when_27 rfl ?_
    refine EV.o r_X11_when_28 (icN (0) (v := 0)) ?_
    refine EV.l (lv' := [(0, _), (1, _), (2, _), (3, _)]) r_X11_when_29 rfl ?_
    have L30 : ∀ y_ : Nat, (fun i => i ≤ κ.ns → EV none M_X11_when d' 30 [(0, .ref 106), (1, .int (nI 0)), (2, .int (nI (mk (whB η 0) i))), (3, .int (nI i))] [] (hp (M2 I) J) (QI J (fun v I' => v = nI (sdB κ η (η.mi + 1) 400) ∧ FM I I'))) y_ := by
      refine ev_loop (fun i => κ.ns - i) ?_
      intro i ih30 hx30
      try dsimp only at ih30
      try dsimp only at hx30
      try dsimp only
      have b2 := hb_.sa i
      refine EV.l (lv' := [(0, _), (1, _), (2, _), (3, _)]) r_X11_when_30 rfl ?_
      refine EV.l (lv' := [(0, _), (1, _), (2, _), (3, _)]) r_X11_when_31 rfl ?_
      refine EV.getV r_X11_when_32 la_106 (mc2.ns) ?_
      refine EV.n2_ge r_X11_when_35 (fun h35 => ?_) (fun h35 => ?_)
      · -- 35 t
        refine EV.l (lv' := [(0, _), (1, _), (2, _), (3, _)]) r_X11_when_103 rfl ?_
        exact EV.ri r_X11_when_104 (⟨by rw [show i = κ.ns by omega, wh0 hb_], FM_2⟩)
      · -- 35 f
        refine EV.l (lv' := [(0, _), (1, _), (2, _), (3, _)]) r_X11_when_38 rfl ?_
        refine EV.l (lv' := [(0, _), (1, _), (2, _), (3, _)]) r_X11_when_39 rfl ?_
        refine EV.gR r_X11_when_40 la_106 ?_
        refine EV.o r_X11_when_43 (icN (0) (v := 0)) ?_
        refine EV.l (lv' := [(0, _), (1, _), (2, _), (3, _)]) r_X11_when_44 rfl ?_
        refine EV.o r_X11_when_45 iaddN ?_
        refine EV.iaN r_X11_when_46 la_126 (mr2.sa _ (by omega)) ?_
        refine EV.l (lv' := [(0, _), (1, _), (2, _), (3, _)]) r_X11_when_47 rfl ?_
        refine EV.gR r_X11_when_48 la_106 ?_
        refine EV.o r_X11_when_51 (bpN (30) 30) ?_
        refine EV.iaN r_X11_when_53 la_126 (mr2.mi) ?_
        refine EV.n2_le r_X11_when_54 (fun h54 => ?_) (fun h54 => ?_)
        · -- 54 t
          refine EV.l (lv' := [(0, _), (1, _), (2, _), (3, _)]) r_X11_when_61 rfl ?_
          refine EV.gR r_X11_when_62 la_106 ?_
          refine EV.o r_X11_when_65 (icN (0) (v := 0)) ?_
          refine EV.l (lv' := [(0, _), (1, _), (2, _), (3, _)]) r_X11_when_66 rfl ?_
          refine EV.o r_X11_when_67 iaddN ?_
          refine EV.iaN r_X11_when_68 la_126 (mr2.sa _ (by omega)) ?_
          refine EV.l (lv' := [(0, _), (1, _), (2, _), (3, _)]) r_X11_when_69 rfl ?_
          refine EV.gR r_X11_when_70 la_106 ?_
          refine EV.o r_X11_when_73 (bpN (30) 30) ?_
          refine EV.iaN r_X11_when_75 la_126 (mr2.mi) ?_
          refine EV.n2_ne r_X11_when_76 (fun h76 => ?_) (fun h76 => ?_)
          · -- 76 t
            refine EV.o r_X11_when_83 (icN (2) (v := 2)) ?_
            refine EV.l (lv' := [(0, _), (1, _), (2, _), (3, _)]) r_X11_when_84 rfl ?_
            refine EV.n2_ne r_X11_when_85 (fun h85 => ?_) (fun h85 => ?_)
            · -- 85 t
              refine EV.o r_X11_when_94 (icN (0) (v := 0)) ?_
              refine EV.o r_X11_when_95 iorN ?_
              refine EV.l (lv' := [(0, _), (1, _), (2, _), (3, _)]) r_X11_when_96 rfl ?_
              refine EV.l (lv' := [(0, _), (1, _), (2, _), (3, _)]) r_X11_when_97 rfl ?_
              rw [inc_nI]
              refine EV.g r_X11_when_100 ?_
              refine EV.sub ?_ rfl ?_ (ih30 (i + 1) ?_ ?_)
              · first | rw [mk_t (p := whB η 0) (by first | exact wh_a (by omega) _ | exact wh_b (by omega) _ | exact wh_c (by omega) _)] | rw [mk_z (p := whB η 0) (by first | exact wh_a (by omega) _ | exact wh_b (by omega) _ | exact wh_c (by omega) _)]
              · rfl
              · omega
              · omega
            · omega
          · -- 76 f
            refine EV.o r_X11_when_79 (icN (1) (v := 1)) ?_
            refine EV.g r_X11_when_80 ?_
            refine EV.l (lv' := [(0, _), (1, _), (2, _), (3, _)]) r_X11_when_84 rfl ?_
            refine EV.n2_ne r_X11_when_85 (fun h85 => ?_) (fun h85 => ?_)
            · -- 85 t
              refine EV.o r_X11_when_94 (icN (0) (v := 0)) ?_
              refine EV.o r_X11_when_95 iorN ?_
              refine EV.l (lv' := [(0, _), (1, _), (2, _), (3, _)]) r_X11_when_96 rfl ?_
              refine EV.l (lv' := [(0, _), (1, _), (2, _), (3, _)]) r_X11_when_97 rfl ?_
              rw [inc_nI]
              refine EV.g r_X11_when_100 ?_
              refine EV.sub ?_ rfl ?_ (ih30 (i + 1) ?_ ?_)
              · first | rw [mk_t (p := whB η 0) (by first | exact wh_a (by omega) _ | exact wh_b (by omega) _ | exact wh_c (by omega) _)] | rw [mk_z (p := whB η 0) (by first | exact wh_a (by omega) _ | exact wh_b (by omega) _ | exact wh_c (by omega) _)]
              · rfl
              · omega
              · omega
            · omega
        · -- 54 f
          refine EV.o r_X11_when_57 (icN (0) (v := 0)) ?_
          refine EV.g r_X11_when_58 ?_
          refine EV.l (lv' := [(0, _), (1, _), (2, _), (3, _)]) r_X11_when_84 rfl ?_
          refine EV.n2_ne r_X11_when_85 (fun h85 => ?_) (fun h85 => ?_)
          · omega
          · -- 85 f
            refine EV.o r_X11_when_88 (icN (1) (v := 1)) ?_
            refine EV.l (lv' := [(0, _), (1, _), (2, _), (3, _)]) r_X11_when_89 rfl ?_
            refine EV.o r_X11_when_90 (ishl1) ?_
            refine EV.g r_X11_when_91 ?_
            refine EV.o r_X11_when_95 iorN ?_
            refine EV.l (lv' := [(0, _), (1, _), (2, _), (3, _)]) r_X11_when_96 rfl ?_
            refine EV.l (lv' := [(0, _), (1, _), (2, _), (3, _)]) r_X11_when_97 rfl ?_
            rw [inc_nI]
            refine EV.g r_X11_when_100 ?_
            refine EV.sub ?_ rfl ?_ (ih30 (i + 1) ?_ ?_)
            · first | rw [mk_t (p := whB η 0) (by first | exact wh_a (by omega) _ | exact wh_b (by omega) _ | exact wh_c (by omega) _)] | rw [mk_z (p := whB η 0) (by first | exact wh_a (by omega) _ | exact wh_b (by omega) _ | exact wh_c (by omega) _)]
            · rfl
            · omega
            · omega
    have h0 := L30 (0)
    try dsimp only at h0
    refine EV.sub ?_ rfl ?_ (h0 ?_)
    · rfl
    · rfl
    · omega
  · omega
theorem m_when1 {d : Nat} {I : Nat → Nat → Int32} {J : Nat → Nat → Int64} {κ : CT} {l : LW} {η : HS} (mc_ : MC κ I) (cb : CB κ) (mr : MR 125 κ η I) (hb_ : HB κ η) (ml_ : ML l I) (lb : LB l) (wm : WM κ l η)  (hd : 13 ≤ d) : RI d 279 [.ref 106, .int (nI 1)] I J (fun v I' => v = nI (sdB κ η η.mi η.mi) ∧ FM I I') := by
  refine RI.in (d0 := 12) hd mt_279 (Nat.le_of_ble_eq_true rfl) (fun d' hd' => ?_)
  have bns := cb.ns; have bnb := cb.nb; have bnc := cb.nc; have bnr := cb.nr
  have bm_ := hb_.mi
  show EV none M_X11_when d' 0 [(0, .ref 106), (1, .int (nI 1))] [] (hp I J) _
  refine EV.l (lv' := [(0, _), (1, _)]) r_X11_when_0 rfl ?_
  refine EV.o r_X11_when_1 (icN (0) (v := 0)) ?_
  refine EV.pI r_X11_when_2 la_106 ?_
  refine EV.l (lv' := [(0, _), (1, _)]) r_X11_when_5 rfl ?_
  refine EV.l (lv' := [(0, _), (1, _)]) r_X11_when_6 rfl ?_
  refine EV.o r_X11_when_7 (icN (0) (v := 0)) ?_
  refine EV.o r_X11_when_8 (icN (2) (v := 2)) ?_
  refine EV.cv r_X11_when_9 (aS3 mt_170) (m_wNNN (by omega) (by omega) (by omega) (by omega)) ?_
  refine EV.o r_X11_when_12 (icN (1) (v := 1)) ?_
  refine EV.o r_X11_when_13 (icN (1) (v := 1)) ?_
  refine EV.cv r_X11_when_14 (aV3 mt_169 la_106) (m_mayP (by omega) wr_same (by omega)) ?_
  refine EV.n0_ne r_X11_when_17 (fun h17 => ?_) (fun h17 => ?_)
  · -- 17 t
    refine EV.l (lv' := [(0, _), (1, _)]) r_X11_when_22 rfl ?_
    refine EV.cu r_X11_when_23 (aV0 mt_212 la_106) (m_take (by omega)) (fun I2 e2 => ?_)
    have e2 : I2 = M2 I := e2
    subst e2
    have mc2 := M2_mc mc_
    have ml2 := M2_ml ml_
    have mr2 := M2_mr mr cb
    refine EV.o r_X11_when_26 (icN (0) (v := 0)) ?_
    refine EV.l (lv' := [(0, _), (1, _), (2, _)]) r_X11_when_27 rfl ?_
    refine EV.o r_X11_when_28 (icN (0) (v := 0)) ?_
    refine EV.l (lv' := [(0, _), (1, _), (2, _), (3, _)]) r_X11_when_29 rfl ?_
    have L30 : ∀ y_ : Nat, (fun i => i ≤ κ.ns → EV none M_X11_when d' 30 [(0, .ref 106), (1, .int (nI 1)), (2, .int (nI (mk (whB η 1) i))), (3, .int (nI i))] [] (hp (M2 I) J) (QI J (fun v I' => v = nI (sdB κ η η.mi η.mi) ∧ FM I I'))) y_ := by
      refine ev_loop (fun i => κ.ns - i) ?_
      intro i ih30 hx30
      try dsimp only at ih30
      try dsimp only at hx30
      try dsimp only
      have b2 := hb_.sa i
      refine EV.l (lv' := [(0, _), (1, _), (2, _), (3, _)]) r_X11_when_30 rfl ?_
      refine EV.l (lv' := [(0, _), (1, _), (2, _), (3, _)]) r_X11_when_31 rfl ?_
      refine EV.getV r_X11_when_32 la_106 (mc2.ns) ?_
      refine EV.n2_ge r_X11_when_35 (fun h35 => ?_) (fun h35 => ?_)
      · -- 35 t
        refine EV.l (lv' := [(0, _), (1, _), (2, _), (3, _)]) r_X11_when_103 rfl ?_
        exact EV.ri r_X11_when_104 (⟨by rw [show i = κ.ns by omega, wh1], FM_2⟩)
      · -- 35 f
        refine EV.l (lv' := [(0, _), (1, _), (2, _), (3, _)]) r_X11_when_38 rfl ?_
        refine EV.l (lv' := [(0, _), (1, _), (2, _), (3, _)]) r_X11_when_39 rfl ?_
        refine EV.gR r_X11_when_40 la_106 ?_
        refine EV.o r_X11_when_43 (icN (0) (v := 0)) ?_
        refine EV.l (lv' := [(0, _), (1, _), (2, _), (3, _)]) r_X11_when_44 rfl ?_
        refine EV.o r_X11_when_45 iaddN ?_
        refine EV.iaN r_X11_when_46 la_126 (mr2.sa _ (by omega)) ?_
        refine EV.l (lv' := [(0, _), (1, _), (2, _), (3, _)]) r_X11_when_47 rfl ?_
        refine EV.gR r_X11_when_48 la_106 ?_
        refine EV.o r_X11_when_51 (bpN (30) 30) ?_
        refine EV.iaN r_X11_when_53 la_126 (mr2.mi) ?_
        refine EV.n2_le r_X11_when_54 (fun h54 => ?_) (fun h54 => ?_)
        · -- 54 t
          refine EV.l (lv' := [(0, _), (1, _), (2, _), (3, _)]) r_X11_when_61 rfl ?_
          refine EV.gR r_X11_when_62 la_106 ?_
          refine EV.o r_X11_when_65 (icN (0) (v := 0)) ?_
          refine EV.l (lv' := [(0, _), (1, _), (2, _), (3, _)]) r_X11_when_66 rfl ?_
          refine EV.o r_X11_when_67 iaddN ?_
          refine EV.iaN r_X11_when_68 la_126 (mr2.sa _ (by omega)) ?_
          refine EV.l (lv' := [(0, _), (1, _), (2, _), (3, _)]) r_X11_when_69 rfl ?_
          refine EV.gR r_X11_when_70 la_106 ?_
          refine EV.o r_X11_when_73 (bpN (30) 30) ?_
          refine EV.iaN r_X11_when_75 la_126 (mr2.mi) ?_
          refine EV.n2_ne r_X11_when_76 (fun h76 => ?_) (fun h76 => ?_)
          · -- 76 t
            refine EV.o r_X11_when_83 (icN (2) (v := 2)) ?_
            refine EV.l (lv' := [(0, _), (1, _), (2, _), (3, _)]) r_X11_when_84 rfl ?_
            refine EV.n2_ne r_X11_when_85 (fun h85 => ?_) (fun h85 => ?_)
            · -- 85 t
              refine EV.o r_X11_when_94 (icN (0) (v := 0)) ?_
              refine EV.o r_X11_when_95 iorN ?_
              refine EV.l (lv' := [(0, _), (1, _), (2, _), (3, _)]) r_X11_when_96 rfl ?_
              refine EV.l (lv' := [(0, _), (1, _), (2, _), (3, _)]) r_X11_when_97 rfl ?_
              rw [inc_nI]
              refine EV.g r_X11_when_100 ?_
              refine EV.sub ?_ rfl ?_ (ih30 (i + 1) ?_ ?_)
              · first | rw [mk_t (p := whB η 1) (by first | exact wh_a (by omega) _ | exact wh_b (by omega) _ | exact wh_c (by omega) _)] | rw [mk_z (p := whB η 1) (by first | exact wh_a (by omega) _ | exact wh_b (by omega) _ | exact wh_c (by omega) _)]
              · rfl
              · omega
              · omega
            · omega
          · -- 76 f
            refine EV.o r_X11_when_79 (icN (1) (v := 1)) ?_
            refine EV.g r_X11_when_80 ?_
            refine EV.l (lv' := [(0, _), (1, _), (2, _), (3, _)]) r_X11_when_84 rfl ?_
            refine EV.n2_ne r_X11_when_85 (fun h85 => ?_) (fun h85 => ?_)
            · omega
            · -- 85 f
              refine EV.o r_X11_when_88 (icN (1) (v := 1)) ?_
              refine EV.l (lv' := [(0, _), (1, _), (2, _), (3, _)]) r_X11_when_89 rfl ?_
              refine EV.o r_X11_when_90 (ishl1) ?_
              refine EV.g r_X11_when_91 ?_
              refine EV.o r_X11_when_95 iorN ?_
              refine EV.l (lv' := [(0, _), (1, _), (2, _), (3, _)]) r_X11_when_96 rfl ?_
              refine EV.l (lv' := [(0, _), (1, _), (2, _), (3, _)]) r_X11_when_97 rfl ?_
              rw [inc_nI]
              refine EV.g r_X11_when_100 ?_
              refine EV.sub ?_ rfl ?_ (ih30 (i + 1) ?_ ?_)
              · first | rw [mk_t (p := whB η 1) (by first | exact wh_a (by omega) _ | exact wh_b (by omega) _ | exact wh_c (by omega) _)] | rw [mk_z (p := whB η 1) (by first | exact wh_a (by omega) _ | exact wh_b (by omega) _ | exact wh_c (by omega) _)]
              · rfl
              · omega
              · omega
        · -- 54 f
          refine EV.o r_X11_when_57 (icN (0) (v := 0)) ?_
          refine EV.g r_X11_when_58 ?_
          refine EV.l (lv' := [(0, _), (1, _), (2, _), (3, _)]) r_X11_when_84 rfl ?_
          refine EV.n2_ne r_X11_when_85 (fun h85 => ?_) (fun h85 => ?_)
          · -- 85 t
            refine EV.o r_X11_when_94 (icN (0) (v := 0)) ?_
            refine EV.o r_X11_when_95 iorN ?_
            refine EV.l (lv' := [(0, _), (1, _), (2, _), (3, _)]) r_X11_when_96 rfl ?_
            refine EV.l (lv' := [(0, _), (1, _), (2, _), (3, _)]) r_X11_when_97 rfl ?_
            rw [inc_nI]
            refine EV.g r_X11_when_100 ?_
            refine EV.sub ?_ rfl ?_ (ih30 (i + 1) ?_ ?_)
            · first | rw [mk_t (p := whB η 1) (by first | exact wh_a (by omega) _ | exact wh_b (by omega) _ | exact wh_c (by omega) _)] | rw [mk_z (p := whB η 1) (by first | exact wh_a (by omega) _ | exact wh_b (by omega) _ | exact wh_c (by omega) _)]
            · rfl
            · omega
            · omega
          · omega
    have h0 := L30 (0)
    try dsimp only at h0
    refine EV.sub ?_ rfl ?_ (h0 ?_)
    · rfl
    · rfl
    · omega
  · omega
theorem m_when2 {d : Nat} {I : Nat → Nat → Int32} {J : Nat → Nat → Int64} {κ : CT} {l : LW} {η : HS} (mc_ : MC κ I) (cb : CB κ) (mr : MR 125 κ η I) (hb_ : HB κ η) (ml_ : ML l I) (lb : LB l) (wm : WM κ l η)  (hd : 13 ≤ d) : RI d 279 [.ref 106, .int (nI 2)] I J (fun v I' => v = nI (mk (fun i => decide (0 ≤ η.sa i ∧ (η.sa i : Int) ≤ (η.mi : Int) - 1)) κ.ns) ∧ FM I I') := by
  refine RI.in (d0 := 12) hd mt_279 (Nat.le_of_ble_eq_true rfl) (fun d' hd' => ?_)
  have bns := cb.ns; have bnb := cb.nb; have bnc := cb.nc; have bnr := cb.nr
  have bm_ := hb_.mi
  show EV none M_X11_when d' 0 [(0, .ref 106), (1, .int (nI 2))] [] (hp I J) _
  refine EV.l (lv' := [(0, _), (1, _)]) r_X11_when_0 rfl ?_
  refine EV.o r_X11_when_1 (icN (0) (v := 0)) ?_
  refine EV.pI r_X11_when_2 la_106 ?_
  refine EV.l (lv' := [(0, _), (1, _)]) r_X11_when_5 rfl ?_
  refine EV.l (lv' := [(0, _), (1, _)]) r_X11_when_6 rfl ?_
  refine EV.o r_X11_when_7 (icN (0) (v := 0)) ?_
  refine EV.o r_X11_when_8 (icN (2) (v := 2)) ?_
  refine EV.cv r_X11_when_9 (aS3 mt_170) (m_wNNN (by omega) (by omega) (by omega) (by omega)) ?_
  refine EV.o r_X11_when_12 (icN (1) (v := 1)) ?_
  refine EV.o r_X11_when_13 (icN (1) (v := 1)) ?_
  refine EV.cv r_X11_when_14 (aV3 mt_169 la_106) (m_mayP (by omega) wr_same (by omega)) ?_
  refine EV.n0_ne r_X11_when_17 (fun h17 => ?_) (fun h17 => ?_)
  · -- 17 t
    refine EV.l (lv' := [(0, _), (1, _)]) r_X11_when_22 rfl ?_
    refine EV.cu r_X11_when_23 (aV0 mt_212 la_106) (m_take (by omega)) (fun I2 e2 => ?_)
    have e2 : I2 = M2 I := e2
    subst e2
    have mc2 := M2_mc mc_
    have ml2 := M2_ml ml_
    have mr2 := M2_mr mr cb
    refine EV.o r_X11_when_26 (icN (0) (v := 0)) ?_
    refine EV.l (lv' := [(0, _), (1, _), (2, _)]) r_X11_when_27 rfl ?_
    refine EV.o r_X11_when_28 (icN (0) (v := 0)) ?_
    refine EV.l (lv' := [(0, _), (1, _), (2, _), (3, _)]) r_X11_when_29 rfl ?_
    have L30 : ∀ y_ : Nat, (fun i => i ≤ κ.ns → EV none M_X11_when d' 30 [(0, .ref 106), (1, .int (nI 2)), (2, .int (nI (mk (whB η 2) i))), (3, .int (nI i))] [] (hp (M2 I) J) (QI J (fun v I' => v = nI (mk (fun i => decide (0 ≤ η.sa i ∧ (η.sa i : Int) ≤ (η.mi : Int) - 1)) κ.ns) ∧ FM I I'))) y_ := by
      refine ev_loop (fun i => κ.ns - i) ?_
      intro i ih30 hx30
      try dsimp only at ih30
      try dsimp only at hx30
      try dsimp only
      have b2 := hb_.sa i
      refine EV.l (lv' := [(0, _), (1, _), (2, _), (3, _)]) r_X11_when_30 rfl ?_
      refine EV.l (lv' := [(0, _), (1, _), (2, _), (3, _)]) r_X11_when_31 rfl ?_
      refine EV.getV r_X11_when_32 la_106 (mc2.ns) ?_
      refine EV.n2_ge r_X11_when_35 (fun h35 => ?_) (fun h35 => ?_)
      · -- 35 t
        refine EV.l (lv' := [(0, _), (1, _), (2, _), (3, _)]) r_X11_when_103 rfl ?_
        exact EV.ri r_X11_when_104 (⟨by rw [show i = κ.ns by omega, wh2], FM_2⟩)
      · -- 35 f
        refine EV.l (lv' := [(0, _), (1, _), (2, _), (3, _)]) r_X11_when_38 rfl ?_
        refine EV.l (lv' := [(0, _), (1, _), (2, _), (3, _)]) r_X11_when_39 rfl ?_
        refine EV.gR r_X11_when_40 la_106 ?_
        refine EV.o r_X11_when_43 (icN (0) (v := 0)) ?_
        refine EV.l (lv' := [(0, _), (1, _), (2, _), (3, _)]) r_X11_when_44 rfl ?_
        refine EV.o r_X11_when_45 iaddN ?_
        refine EV.iaN r_X11_when_46 la_126 (mr2.sa _ (by omega)) ?_
        refine EV.l (lv' := [(0, _), (1, _), (2, _), (3, _)]) r_X11_when_47 rfl ?_
        refine EV.gR r_X11_when_48 la_106 ?_
        refine EV.o r_X11_when_51 (bpN (30) 30) ?_
        refine EV.iaN r_X11_when_53 la_126 (mr2.mi) ?_
        refine EV.n2_le r_X11_when_54 (fun h54 => ?_) (fun h54 => ?_)
        · -- 54 t
          refine EV.l (lv' := [(0, _), (1, _), (2, _), (3, _)]) r_X11_when_61 rfl ?_
          refine EV.gR r_X11_when_62 la_106 ?_
          refine EV.o r_X11_when_65 (icN (0) (v := 0)) ?_
          refine EV.l (lv' := [(0, _), (1, _), (2, _), (3, _)]) r_X11_when_66 rfl ?_
          refine EV.o r_X11_when_67 iaddN ?_
          refine EV.iaN r_X11_when_68 la_126 (mr2.sa _ (by omega)) ?_
          refine EV.l (lv' := [(0, _), (1, _), (2, _), (3, _)]) r_X11_when_69 rfl ?_
          refine EV.gR r_X11_when_70 la_106 ?_
          refine EV.o r_X11_when_73 (bpN (30) 30) ?_
          refine EV.iaN r_X11_when_75 la_126 (mr2.mi) ?_
          refine EV.n2_ne r_X11_when_76 (fun h76 => ?_) (fun h76 => ?_)
          · -- 76 t
            refine EV.o r_X11_when_83 (icN (2) (v := 2)) ?_
            refine EV.l (lv' := [(0, _), (1, _), (2, _), (3, _)]) r_X11_when_84 rfl ?_
            refine EV.n2_ne r_X11_when_85 (fun h85 => ?_) (fun h85 => ?_)
            · omega
            · -- 85 f
              refine EV.o r_X11_when_88 (icN (1) (v := 1)) ?_
              refine EV.l (lv' := [(0, _), (1, _), (2, _), (3, _)]) r_X11_when_89 rfl ?_
              refine EV.o r_X11_when_90 (ishl1) ?_
              refine EV.g r_X11_when_91 ?_
              refine EV.o r_X11_when_95 iorN ?_
              refine EV.l (lv' := [(0, _), (1, _), (2, _), (3, _)]) r_X11_when_96 rfl ?_
              refine EV.l (lv' := [(0, _), (1, _), (2, _), (3, _)]) r_X11_when_97 rfl ?_
              rw [inc_nI]
              refine EV.g r_X11_when_100 ?_
              refine EV.sub ?_ rfl ?_ (ih30 (i + 1) ?_ ?_)
              · first | rw [mk_t (p := whB η 2) (by first | exact wh_a (by omega) _ | exact wh_b (by omega) _ | exact wh_c (by omega) _)] | rw [mk_z (p := whB η 2) (by first | exact wh_a (by omega) _ | exact wh_b (by omega) _ | exact wh_c (by omega) _)]
              · rfl
              · omega
              · omega
          · -- 76 f
            refine EV.o r_X11_when_79 (icN (1) (v := 1)) ?_
            refine EV.g r_X11_when_80 ?_
            refine EV.l (lv' := [(0, _), (1, _), (2, _), (3, _)]) r_X11_when_84 rfl ?_
            refine EV.n2_ne r_X11_when_85 (fun h85 => ?_) (fun h85 => ?_)
            · -- 85 t
              refine EV.o r_X11_when_94 (icN (0) (v := 0)) ?_
              refine EV.o r_X11_when_95 iorN ?_
              refine EV.l (lv' := [(0, _), (1, _), (2, _), (3, _)]) r_X11_when_96 rfl ?_
              refine EV.l (lv' := [(0, _), (1, _), (2, _), (3, _)]) r_X11_when_97 rfl ?_
              rw [inc_nI]
              refine EV.g r_X11_when_100 ?_
              refine EV.sub ?_ rfl ?_ (ih30 (i + 1) ?_ ?_)
              · first | rw [mk_t (p := whB η 2) (by first | exact wh_a (by omega) _ | exact wh_b (by omega) _ | exact wh_c (by omega) _)] | rw [mk_z (p := whB η 2) (by first | exact wh_a (by omega) _ | exact wh_b (by omega) _ | exact wh_c (by omega) _)]
              · rfl
              · omega
              · omega
            · omega
        · -- 54 f
          refine EV.o r_X11_when_57 (icN (0) (v := 0)) ?_
          refine EV.g r_X11_when_58 ?_
          refine EV.l (lv' := [(0, _), (1, _), (2, _), (3, _)]) r_X11_when_84 rfl ?_
          refine EV.n2_ne r_X11_when_85 (fun h85 => ?_) (fun h85 => ?_)
          · -- 85 t
            refine EV.o r_X11_when_94 (icN (0) (v := 0)) ?_
            refine EV.o r_X11_when_95 iorN ?_
            refine EV.l (lv' := [(0, _), (1, _), (2, _), (3, _)]) r_X11_when_96 rfl ?_
            refine EV.l (lv' := [(0, _), (1, _), (2, _), (3, _)]) r_X11_when_97 rfl ?_
            rw [inc_nI]
            refine EV.g r_X11_when_100 ?_
            refine EV.sub ?_ rfl ?_ (ih30 (i + 1) ?_ ?_)
            · first | rw [mk_t (p := whB η 2) (by first | exact wh_a (by omega) _ | exact wh_b (by omega) _ | exact wh_c (by omega) _)] | rw [mk_z (p := whB η 2) (by first | exact wh_a (by omega) _ | exact wh_b (by omega) _ | exact wh_c (by omega) _)]
            · rfl
            · omega
            · omega
          · omega
    have h0 := L30 (0)
    try dsimp only at h0
    refine EV.sub ?_ rfl ?_ (h0 ?_)
    · rfl
    · rfl
    · omega
  · omega
theorem m_status0 {d : Nat} {I : Nat → Nat → Int32} {J : Nat → Nat → Int64}  (hd : 9 ≤ d) : RI d 289 [.ref 106, .int (nI 0)] I J (fun v I' => v = I 107 0 ∧ FR I I' ∧ I' 106 0 = nI 0) := by
  refine RI.in (d0 := 8) hd mt_289 (Nat.le_of_ble_eq_true rfl) (fun d' hd' => ?_)
  show EV none M_X11_status d' 0 [(0, .ref 106), (1, .int (nI 0))] [] (hp I J) _
  refine EV.l (lv' := [(0, _), (1, _)]) r_X11_status_0 rfl ?_
  refine EV.o r_X11_status_1 (icN (0) (v := 0)) ?_
  refine EV.pI r_X11_status_2 la_106 ?_
  refine EV.l (lv' := [(0, _), (1, _)]) r_X11_status_5 rfl ?_
  refine EV.o r_X11_status_6 (icN (0) (v := 0)) ?_
  refine EV.o r_X11_status_7 (icN (1) (v := 1)) ?_
  refine EV.cv r_X11_status_8 (aS3 mt_170) (m_wNNN (by omega) (by omega) (by omega) (by omega)) ?_
  refine EV.p0_eq r_X11_status_11 (fun h11 => ?_) (fun h11 => ?_)
  · exact absurd h11 (by decide)
  · -- 11 f
    refine EV.l (lv' := [(0, _), (1, _)]) r_X11_status_14 rfl ?_
    refine EV.gR r_X11_status_15 la_106 ?_
    refine EV.l (lv' := [(0, _), (1, _)]) r_X11_status_18 rfl ?_
    refine EV.iaN r_X11_status_19 la_107 rfl ?_
    refine EV.g r_X11_status_20 ?_
    exact EV.ri r_X11_status_24 (⟨rfl, FM_0.fr, wr_same⟩)
theorem m_status1 {d : Nat} {I : Nat → Nat → Int32} {J : Nat → Nat → Int64}  (hd : 9 ≤ d) : RI d 289 [.ref 106, .int (nI 1)] I J (fun v I' => v = I 107 1 ∧ FR I I' ∧ I' 106 0 = nI 0) := by
  refine RI.in (d0 := 8) hd mt_289 (Nat.le_of_ble_eq_true rfl) (fun d' hd' => ?_)
  show EV none M_X11_status d' 0 [(0, .ref 106), (1, .int (nI 1))] [] (hp I J) _
  refine EV.l (lv' := [(0, _), (1, _)]) r_X11_status_0 rfl ?_
  refine EV.o r_X11_status_1 (icN (0) (v := 0)) ?_
  refine EV.pI r_X11_status_2 la_106 ?_
  refine EV.l (lv' := [(0, _), (1, _)]) r_X11_status_5 rfl ?_
  refine EV.o r_X11_status_6 (icN (0) (v := 0)) ?_
  refine EV.o r_X11_status_7 (icN (1) (v := 1)) ?_
  refine EV.cv r_X11_status_8 (aS3 mt_170) (m_wNNN (by omega) (by omega) (by omega) (by omega)) ?_
  refine EV.p0_eq r_X11_status_11 (fun h11 => ?_) (fun h11 => ?_)
  · exact absurd h11 (by decide)
  · -- 11 f
    refine EV.l (lv' := [(0, _), (1, _)]) r_X11_status_14 rfl ?_
    refine EV.gR r_X11_status_15 la_106 ?_
    refine EV.l (lv' := [(0, _), (1, _)]) r_X11_status_18 rfl ?_
    refine EV.iaN r_X11_status_19 la_107 rfl ?_
    refine EV.g r_X11_status_20 ?_
    exact EV.ri r_X11_status_24 (⟨rfl, FM_0.fr, wr_same⟩)
theorem m_statusX {d : Nat} {I : Nat → Nat → Int32} {J : Nat → Nat → Int64} {y : Int} (y1 : -2147483648 ≤ y) (y2 : y < 2147483648) (hy : ¬ (0 ≤ y ∧ y ≤ 1))  (hd : 9 ≤ d) : RI d 289 [.ref 106, .int (zI y)] I J (fun v I' => v = zI (-1) ∧ FR I I' ∧ I' 106 0 = nI 0) := by
  refine RI.in (d0 := 8) hd mt_289 (Nat.le_of_ble_eq_true rfl) (fun d' hd' => ?_)
  show EV none M_X11_status d' 0 [(0, .ref 106), (1, .int (zI y))] [] (hp I J) _
  refine EV.l (lv' := [(0, _), (1, _)]) r_X11_status_0 rfl ?_
  refine EV.o r_X11_status_1 (icN (0) (v := 0)) ?_
  refine EV.pI r_X11_status_2 la_106 ?_
  refine EV.l (lv' := [(0, _), (1, _)]) r_X11_status_5 rfl ?_
  refine EV.o r_X11_status_6 (icN (0) (v := 0)) ?_
  refine EV.o r_X11_status_7 (icN (1) (v := 1)) ?_
  refine EV.cv r_X11_status_8 (aS3 mt_170) (m_wZNN (by omega) (by omega) (by omega) (by omega) (by omega)) ?_
  refine EV.p0_eq r_X11_status_11 (fun h11 => ?_) (fun h11 => ?_)
  · -- 11 t
    refine EV.o r_X11_status_23 (icZ (-1)) ?_
    exact EV.ri r_X11_status_24 (⟨rfl, FM_0.fr, wr_same⟩)
  · omega
