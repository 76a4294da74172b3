/-! (goes on) -/
theorem c_orderX {d : Nat} {I : Nat → Nat → Int32} {J : Nat → Nat → Int64} {κ : CT} (hc_ : HC 4 κ I) (cb : CB κ) {x : Int} (x1 : -2147483648 ≤ x) (x2 : x < 2147483648) {y : Int} (y1 : -2147483648 ≤ y) (y2 : y < 2147483648) {z : Int} (z1 : -2147483648 ≤ z) (z2 : z < 2147483648) (h : ¬ (0 ≤ x ∧ x ≤ 99 ∧ 0 ≤ y ∧ y ≤ 99 ∧ 0 ≤ z ∧ z ≤ 2))  (hd : 9 ≤ d) : RX d 135 [.ref 0, .int (zI x), .int (zI y), .int (zI z)] I J 1 (fun I' => I' = ref1 I 14) := by
  refine RX.in (d0 := 8) hd mt_135 (Nat.le_of_ble_eq_true rfl) (fun d' hd' => ?_)
  have bns := cb.ns; have bnb := cb.nb; have bnc := cb.nc; have bnr := cb.nr
  have pn := Nat.two_pow_pos κ.ns; have qn := pow_ns cb; have pc := Nat.two_pow_pos κ.nc; have qc := pow_nc cb
  show EV none M_X10_order d' 0 [(0, .ref 0), (1, .int (zI x)), (2, .int (zI y)), (3, .int (zI z))] [] (hp I J) _
  refine EV.l (lv' := [(0, _), (1, _), (2, _), (3, _)]) r_X10_order_0 rfl ?_
  refine EV.l (lv' := [(0, _), (1, _), (2, _), (3, _)]) r_X10_order_1 rfl ?_
  refine EV.z0_lt r_X10_order_2 (fun h2 => ?_) (fun h2 => ?_)
  · -- 2 t
    refine EV.o r_X10_order_34 (icN (0) (v := 0)) ?_
    exact EV.cx r_X10_order_35 (aV1 mt_159 la_0) (c_arg0 (by omega)) (fun _ h => h)
  · -- 2 f
    refine EV.l (lv' := [(0, _), (1, _), (2, _), (3, _)]) r_X10_order_5 rfl ?_
    refine EV.o r_X10_order_6 (bpN (99) 99) ?_
    refine EV.zn2_gt r_X10_order_8 (fun h8 => ?_) (fun h8 => ?_)
    · -- 8 t
      refine EV.o r_X10_order_34 (icN (0) (v := 0)) ?_
      exact EV.cx r_X10_order_35 (aV1 mt_159 la_0) (c_arg0 (by omega)) (fun _ h => h)
    · -- 8 f
      refine EV.l (lv' := [(0, _), (1, _), (2, _), (3, _)]) r_X10_order_11 rfl ?_
      refine EV.z0_lt r_X10_order_12 (fun h12 => ?_) (fun h12 => ?_)
      · -- 12 t
        refine EV.o r_X10_order_34 (icN (0) (v := 0)) ?_
        exact EV.cx r_X10_order_35 (aV1 mt_159 la_0) (c_arg0 (by omega)) (fun _ h => h)
      · -- 12 f
        refine EV.l (lv' := [(0, _), (1, _), (2, _), (3, _)]) r_X10_order_15 rfl ?_
        refine EV.o r_X10_order_16 (bpN (99) 99) ?_
        refine EV.zn2_gt r_X10_order_18 (fun h18 => ?_) (fun h18 => ?_)
        · -- 18 t
          refine EV.o r_X10_order_34 (icN (0) (v := 0)) ?_
          exact EV.cx r_X10_order_35 (aV1 mt_159 la_0) (c_arg0 (by omega)) (fun _ h => h)
        · -- 18 f
          refine EV.l (lv' := [(0, _), (1, _), (2, _), (3, _)]) r_X10_order_21 rfl ?_
          refine EV.z0_lt r_X10_order_22 (fun h22 => ?_) (fun h22 => ?_)
          · -- 22 t
            refine EV.o r_X10_order_34 (icN (0) (v := 0)) ?_
            exact EV.cx r_X10_order_35 (aV1 mt_159 la_0) (c_arg0 (by omega)) (fun _ h => h)
          · -- 22 f
            refine EV.l (lv' := [(0, _), (1, _), (2, _), (3, _)]) r_X10_order_25 rfl ?_
            refine EV.o r_X10_order_26 (icN (2) (v := 2)) ?_
            refine EV.zn2_gt r_X10_order_27 (fun h27 => ?_) (fun h27 => ?_)
            · -- 27 t
              refine EV.o r_X10_order_34 (icN (0) (v := 0)) ?_
              exact EV.cx r_X10_order_35 (aV1 mt_159 la_0) (c_arg0 (by omega)) (fun _ h => h)
            · -- 27 f
              refine EV.o r_X10_order_30 (icN (1) (v := 1)) ?_
              refine EV.g r_X10_order_31 ?_
              omega
theorem m_orderX {d : Nat} {I : Nat → Nat → Int32} {J : Nat → Nat → Int64} {κ : CT} (mc_ : MC κ I) (cb : CB κ) {x : Int} (x1 : -2147483648 ≤ x) (x2 : x < 2147483648) {y : Int} (y1 : -2147483648 ≤ y) (y2 : y < 2147483648) {z : Int} (z1 : -2147483648 ≤ z) (z2 : z < 2147483648) (h : ¬ (0 ≤ x ∧ x ≤ 99 ∧ 0 ≤ y ∧ y ≤ 99 ∧ 0 ≤ z ∧ z ≤ 2))  (hd : 9 ≤ d) : RI d 259 [.ref 106, .int (zI x), .int (zI y), .int (zI z)] I J (fun v I' => I' = refM I 1 1) := by
  refine RI.in (d0 := 8) hd mt_259 (Nat.le_of_ble_eq_true rfl) (fun d' hd' => ?_)
  have bns := cb.ns; have bnb := cb.nb; have bnc := cb.nc; have bnr := cb.nr
  have pn := Nat.two_pow_pos κ.ns; have qn := pow_ns cb; have pc := Nat.two_pow_pos κ.nc; have qc := pow_nc cb
  show EV none M_X11_order d' 0 [(0, .ref 106), (1, .int (zI x)), (2, .int (zI y)), (3, .int (zI z))] [] (hp I J) _
  refine EV.l (lv' := [(0, _), (1, _), (2, _), (3, _)]) r_X11_order_0 rfl ?_
  refine EV.o r_X11_order_1 (icN (0) (v := 0)) ?_
  refine EV.pI r_X11_order_2 la_106 ?_
  refine EV.l (lv' := [(0, _), (1, _), (2, _), (3, _)]) r_X11_order_5 rfl ?_
  refine EV.l (lv' := [(0, _), (1, _), (2, _), (3, _)]) r_X11_order_6 rfl ?_
  refine EV.o r_X11_order_7 (icN (0) (v := 0)) ?_
  refine EV.o r_X11_order_8 (bpN (99) 99) ?_
  refine EV.cv r_X11_order_10 (aS3 mt_170) (m_wZNN (by omega) (by omega) (by omega) (by omega) (by omega)) ?_
  refine EV.p0_eq r_X11_order_13 (fun h13 => ?_) (fun h13 => ?_)
  · -- 13 t
    refine EV.o r_X11_order_39 (icN (0) (v := 0)) ?_
    refine EV.o r_X11_order_40 (icN (1) (v := 1)) ?_
    refine EV.o r_X11_order_41 (icN (1) (v := 1)) ?_
    refine EV.ci r_X11_order_42 (aV3 mt_169 la_106) (m_may0 wr_same (by decide) (by decide) (by decide) (by omega)) (fun v I2 h2 => ?_)
    obtain ⟨e, fr_⟩ := h2
    subst e
    refine EV.n0_ne r_X11_order_45 (fun h45 => ?_) (fun h45 => ?_)
    · omega
    · -- 45 f
      refine EV.o r_X11_order_48 (icN (0) (v := 0)) ?_
      exact EV.ri r_X11_order_49 (fr_)
  · -- 13 f
    refine EV.l (lv' := [(0, _), (1, _), (2, _), (3, _)]) r_X11_order_16 rfl ?_
    refine EV.o r_X11_order_17 (icN (0) (v := 0)) ?_
    refine EV.o r_X11_order_18 (bpN (99) 99) ?_
    refine EV.cv r_X11_order_20 (aS3 mt_170) (m_wZNN (by omega) (by omega) (by omega) (by omega) (by omega)) ?_
    refine EV.p0_eq r_X11_order_23 (fun h23 => ?_) (fun h23 => ?_)
    · -- 23 t
      refine EV.o r_X11_order_39 (icN (0) (v := 0)) ?_
      refine EV.o r_X11_order_40 (icN (1) (v := 1)) ?_
      refine EV.o r_X11_order_41 (icN (1) (v := 1)) ?_
      refine EV.ci r_X11_order_42 (aV3 mt_169 la_106) (m_may0 wr_same (by decide) (by decide) (by decide) (by omega)) (fun v I2 h2 => ?_)
      obtain ⟨e, fr_⟩ := h2
      subst e
      refine EV.n0_ne r_X11_order_45 (fun h45 => ?_) (fun h45 => ?_)
      · omega
      · -- 45 f
        refine EV.o r_X11_order_48 (icN (0) (v := 0)) ?_
        exact EV.ri r_X11_order_49 (fr_)
    · -- 23 f
      refine EV.l (lv' := [(0, _), (1, _), (2, _), (3, _)]) r_X11_order_26 rfl ?_
      refine EV.o r_X11_order_27 (icN (0) (v := 0)) ?_
      refine EV.o r_X11_order_28 (icN (2) (v := 2)) ?_
      refine EV.cv r_X11_order_29 (aS3 mt_170) (m_wZNN (by omega) (by omega) (by omega) (by omega) (by omega)) ?_
      refine EV.p0_eq r_X11_order_32 (fun h32 => ?_) (fun h32 => ?_)
      · -- 32 t
        refine EV.o r_X11_order_39 (icN (0) (v := 0)) ?_
        refine EV.o r_X11_order_40 (icN (1) (v := 1)) ?_
        refine EV.o r_X11_order_41 (icN (1) (v := 1)) ?_
        refine EV.ci r_X11_order_42 (aV3 mt_169 la_106) (m_may0 wr_same (by decide) (by decide) (by decide) (by omega)) (fun v I2 h2 => ?_)
        obtain ⟨e, fr_⟩ := h2
        subst e
        refine EV.n0_ne r_X11_order_45 (fun h45 => ?_) (fun h45 => ?_)
        · omega
        · -- 45 f
          refine EV.o r_X11_order_48 (icN (0) (v := 0)) ?_
          exact EV.ri r_X11_order_49 (fr_)
      · -- 32 f
        refine EV.o r_X11_order_35 (icN (1) (v := 1)) ?_
        refine EV.g r_X11_order_36 ?_
        refine EV.o r_X11_order_40 (icN (1) (v := 1)) ?_
        refine EV.o r_X11_order_41 (icN (1) (v := 1)) ?_
        omega
theorem c_crowd0 {d : Nat} {I : Nat → Nat → Int32} {J : Nat → Nat → Int64} {κ : CT} {η : HS} (hc_ : HC 4 κ I) (cb : CB κ) (hh : HH 71 η I) (hb_ : HB κ η) (hw : HW κ η)  (hd : 9 ≤ d) : RV d 147 [.ref 0, .int (nI 0)] I J (nI (cwd (cwf κ η) 500).1) := by
  refine RV.in (d0 := 8) hd mt_147 (Nat.le_of_ble_eq_true rfl) (fun d' hd' => ?_)
  have bns := cb.ns; have bnb := cb.nb; have bnc := cb.nc; have bnr := cb.nr
  have bm_ := hb_.mi
  show EV none M_X10_crowd d' 0 [(0, .ref 0), (1, .int (nI 0))] [] (hp I J) _
  refine EV.l (lv' := [(0, _), (1, _)]) r_X10_crowd_0 rfl ?_
  refine EV.l (lv' := [(0, _), (1, _)]) r_X10_crowd_1 rfl ?_
  refine EV.n0_eq r_X10_crowd_2 (fun h2 => ?_) (fun h2 => ?_)
  · -- 2 t
    refine EV.o r_X10_crowd_10 (icN (1) (v := 1)) ?_
    refine EV.g r_X10_crowd_11 ?_
    refine EV.cu r_X10_crowd_15 (aV1 mt_159 la_0) (c_arg1 (by omega)) (fun I2 e2 => ?_)
    have e2 := e2.symm; subst e2
    refine EV.o r_X10_crowd_18 (icN (0) (v := 0)) ?_
    refine EV.l (lv' := [(0, _), (1, _), (2, _)]) r_X10_crowd_19 rfl ?_
    refine EV.o r_X10_crowd_20 (icN (0) (v := 0)) ?_
    refine EV.l (lv' := [(0, _), (1, _), (2, _), (3, _)]) r_X10_crowd_21 rfl ?_
    refine EV.o r_X10_crowd_22 (icN (0) (v := 0)) ?_
    refine EV.l (lv' := [(0, _), (1, _), (2, _), (3, _), (4, _)]) r_X10_crowd_23 rfl ?_
    have L25 : ∀ y_ : Nat, (fun m => m ≤ 500 → EV none M_X10_crowd d' 25 [(0, .ref 0), (1, .int (nI 0)), (2, .int (nI (cwd (cwf κ η) m).1)), (3, .int (nI (cwd (cwf κ η) m).2)), (4, .int (nI m))] [] (hp I J) (QV I J (nI (cwd (cwf κ η) 500).1))) y_ := by
      refine ev_loop (fun m => 500 - m) ?_
      intro m ih25 hx25
      try dsimp only at ih25
      try dsimp only at hx25
      try dsimp only
      have b2 : birds κ η m < 16 := mk_nb cb _; have f9 := fits9 κ η m; have c9 := cwd_le (fits9 κ η) m
      have fe_ : pc9 (birds κ η m) = cwf κ η m := rfl
      refine EV.l (lv' := [(0, _), (1, _), (2, _), (3, _), (4, _)]) r_X10_crowd_25 rfl ?_
      refine EV.o r_X10_crowd_27 (spN (499) 499) ?_
      refine EV.n2_gt r_X10_crowd_30 (fun h30 => ?_) (fun h30 => ?_)
      · -- 30 t
        refine EV.l (lv' := [(0, _), (1, _), (2, _), (3, _), (4, _)]) r_X10_crowd_65 rfl ?_
        refine EV.n0_ne r_X10_crowd_66 (fun h66 => ?_) (fun h66 => ?_)
        · omega
        · -- 66 f
          refine EV.l (lv' := [(0, _), (1, _), (2, _), (3, _), (4, _)]) r_X10_crowd_69 rfl ?_
          refine EV.g r_X10_crowd_70 ?_
          exact EV.rv r_X10_crowd_74 (by rw [show m = 500 by omega])
      · -- 30 f
        refine EV.l (lv' := [(0, _), (1, _), (2, _), (3, _), (4, _)]) r_X10_crowd_33 rfl ?_
        refine EV.gR r_X10_crowd_34 la_0 ?_
        refine EV.l (lv' := [(0, _), (1, _), (2, _), (3, _), (4, _)]) r_X10_crowd_37 rfl ?_
        refine EV.cv r_X10_crowd_39 (aV1 mt_34 la_71) (c71_birdsOn hc_ cb hh hb_ hw (by omega) (by omega)) ?_
        refine EV.cv r_X10_crowd_42 (aS1 mt_322) (c_bc (by omega) (by omega)) ?_
        refine EV.l (lv' := [(0, _), (1, _), (2, _), (3, _), (4, _), (5, _)]) r_X10_crowd_45 rfl ?_
        refine EV.l (lv' := [(0, _), (1, _), (2, _), (3, _), (4, _), (5, _)]) r_X10_crowd_47 rfl ?_
        refine EV.l (lv' := [(0, _), (1, _), (2, _), (3, _), (4, _), (5, _)]) r_X10_crowd_49 rfl ?_
        refine EV.n2_le r_X10_crowd_50 (fun h50 => ?_) (fun h50 => ?_)
        · -- 50 t
          refine EV.l (lv' := [(0, _), (1, _), (2, _), (3, _), (4, _), (5, _)]) r_X10_crowd_59 rfl ?_
          rw [inc_nI]
          refine EV.g r_X10_crowd_62 ?_
          refine EV.fg (lv' := [(0, _), (1, _), (2, _), (3, _), (4, _)]) r_X10_crowd_25 rfl rfl rfl ?_
          refine EV.sub ?_ rfl ?_ (ih25 (m + 1) ?_ ?_)
          · first | rw [cwd_t (by omega)]; rfl | rw [cwd_f (by omega)]; rfl | rw [cwd_t (by omega)] | rw [cwd_f (by omega)]
          · rfl
          · omega
          · omega
        · -- 50 f
          refine EV.l (lv' := [(0, _), (1, _), (2, _), (3, _), (4, _), (5, _)]) r_X10_crowd_53 rfl ?_
          refine EV.l (lv' := [(0, _), (1, _), (2, _), (3, _), (4, _), (5, _)]) r_X10_crowd_55 rfl ?_
          refine EV.l (lv' := [(0, _), (1, _), (2, _), (3, _), (4, _), (5, _)]) r_X10_crowd_56 rfl ?_
          refine EV.l (lv' := [(0, _), (1, _), (2, _), (3, _), (4, _), (5, _)]) r_X10_crowd_58 rfl ?_
          refine EV.l (lv' := [(0, _), (1, _), (2, _), (3, _), (4, _), (5, _)]) r_X10_crowd_59 rfl ?_
          rw [inc_nI]
          refine EV.g r_X10_crowd_62 ?_
          refine EV.fg (lv' := [(0, _), (1, _), (2, _), (3, _), (4, _)]) r_X10_crowd_25 rfl rfl rfl ?_
          refine EV.sub ?_ rfl ?_ (ih25 (m + 1) ?_ ?_)
          · first | rw [cwd_t (by omega)]; rfl | rw [cwd_f (by omega)]; rfl | rw [cwd_t (by omega)] | rw [cwd_f (by omega)]
          · rfl
          · omega
          · omega
    have h0 := L25 (0)
    try dsimp only at h0
    refine EV.sub ?_ rfl ?_ (h0 ?_)
    · rfl
    · rfl
    · omega
  · omega
theorem c_crowd1 {d : Nat} {I : Nat → Nat → Int32} {J : Nat → Nat → Int64} {κ : CT} {η : HS} (hc_ : HC 4 κ I) (cb : CB κ) (hh : HH 71 η I) (hb_ : HB κ η) (hw : HW κ η)  (hd : 9 ≤ d) : RV d 147 [.ref 0, .int (nI 1)] I J (nI (cwd (cwf κ η) 500).2) := by
  refine RV.in (d0 := 8) hd mt_147 (Nat.le_of_ble_eq_true rfl) (fun d' hd' => ?_)
  have bns := cb.ns; have bnb := cb.nb; have bnc := cb.nc; have bnr := cb.nr
  have bm_ := hb_.mi
  show EV none M_X10_crowd d' 0 [(0, .ref 0), (1, .int (nI 1))] [] (hp I J) _
  refine EV.l (lv' := [(0, _), (1, _)]) r_X10_crowd_0 rfl ?_
  refine EV.l (lv' := [(0, _), (1, _)]) r_X10_crowd_1 rfl ?_
  refine EV.n0_eq r_X10_crowd_2 (fun h2 => ?_) (fun h2 => ?_)
  · omega
  · -- 2 f
    refine EV.l (lv' := [(0, _), (1, _)]) r_X10_crowd_5 rfl ?_
    refine EV.o r_X10_crowd_6 (icN (1) (v := 1)) ?_
    refine EV.n2_ne r_X10_crowd_7 (fun h7 => ?_) (fun h7 => ?_)
    · omega
    · -- 7 f
      refine EV.o r_X10_crowd_10 (icN (1) (v := 1)) ?_
      refine EV.g r_X10_crowd_11 ?_
      refine EV.cu r_X10_crowd_15 (aV1 mt_159 la_0) (c_arg1 (by omega)) (fun I2 e2 => ?_)
      have e2 := e2.symm; subst e2
      refine EV.o r_X10_crowd_18 (icN (0) (v := 0)) ?_
      refine EV.l (lv' := [(0, _), (1, _), (2, _)]) r_X10_crowd_19 rfl ?_
      refine EV.o r_X10_crowd_20 (icN (0) (v := 0)) ?_
      refine EV.l (lv' := [(0, _), (1, _), (2, _), (3, _)]) r_X10_crowd_21 rfl ?_
      refine EV.o r_X10_crowd_22 (icN (0) (v := 0)) ?_
      refine EV.l (lv' := [(0, _), (1, _), (2, _), (3, _), (4, _)]) r_X10_crowd_23 rfl ?_
      have L25 : ∀ y_ : Nat, (fun m => m ≤ 500 → EV none M_X10_crowd d' 25 [(0, .ref 0), (1, .int (nI 1)), (2, .int (nI (cwd (cwf κ η) m).1)), (3, .int (nI (cwd (cwf κ η) m).2)), (4, .int (nI m))] [] (hp I J) (QV I J (nI (cwd (cwf κ η) 500).2))) y_ := by
        refine ev_loop (fun m => 500 - m) ?_
        intro m ih25 hx25
        try dsimp only at ih25
        try dsimp only at hx25
        try dsimp only
        have b2 : birds κ η m < 16 := mk_nb cb _; have f9 := fits9 κ η m; have c9 := cwd_le (fits9 κ η) m
        have fe_ : pc9 (birds κ η m) = cwf κ η m := rfl
        refine EV.l (lv' := [(0, _), (1, _), (2, _), (3, _), (4, _)]) r_X10_crowd_25 rfl ?_
        refine EV.o r_X10_crowd_27 (spN (499) 499) ?_
        refine EV.n2_gt r_X10_crowd_30 (fun h30 => ?_) (fun h30 => ?_)
        · -- 30 t
          refine EV.l (lv' := [(0, _), (1, _), (2, _), (3, _), (4, _)]) r_X10_crowd_65 rfl ?_
          refine EV.n0_ne r_X10_crowd_66 (fun h66 => ?_) (fun h66 => ?_)
          · -- 66 t
            refine EV.l (lv' := [(0, _), (1, _), (2, _), (3, _), (4, _)]) r_X10_crowd_73 rfl ?_
            exact EV.rv r_X10_crowd_74 (by rw [show m = 500 by omega])
          · omega
        · -- 30 f
          refine EV.l (lv' := [(0, _), (1, _), (2, _), (3, _), (4, _)]) r_X10_crowd_33 rfl ?_
          refine EV.gR r_X10_crowd_34 la_0 ?_
          refine EV.l (lv' := [(0, _), (1, _), (2, _), (3, _), (4, _)]) r_X10_crowd_37 rfl ?_
          refine EV.cv r_X10_crowd_39 (aV1 mt_34 la_71) (c71_birdsOn hc_ cb hh hb_ hw (by omega) (by omega)) ?_
          refine EV.cv r_X10_crowd_42 (aS1 mt_322) (c_bc (by omega) (by omega)) ?_
          refine EV.l (lv' := [(0, _), (1, _), (2, _), (3, _), (4, _), (5, _)]) r_X10_crowd_45 rfl ?_
          refine EV.l (lv' := [(0, _), (1, _), (2, _), (3, _), (4, _), (5, _)]) r_X10_crowd_47 rfl ?_
          refine EV.l (lv' := [(0, _), (1, _), (2, _), (3, _), (4, _), (5, _)]) r_X10_crowd_49 rfl ?_
          refine EV.n2_le r_X10_crowd_50 (fun h50 => ?_) (fun h50 => ?_)
          · -- 50 t
            refine EV.l (lv' := [(0, _), (1, _), (2, _), (3, _), (4, _), (5, _)]) r_X10_crowd_59 rfl ?_
            rw [inc_nI]
            refine EV.g r_X10_crowd_62 ?_
            refine EV.fg (lv' := [(0, _), (1, _), (2, _), (3, _), (4, _)]) r_X10_crowd_25 rfl rfl rfl ?_
            refine EV.sub ?_ rfl ?_ (ih25 (m + 1) ?_ ?_)
            · first | rw [cwd_t (by omega)]; rfl | rw [cwd_f (by omega)]; rfl | rw [cwd_t (by omega)] | rw [cwd_f (by omega)]
            · rfl
            · omega
            · omega
          · -- 50 f
            refine EV.l (lv' := [(0, _), (1, _), (2, _), (3, _), (4, _), (5, _)]) r_X10_crowd_53 rfl ?_
            refine EV.l (lv' := [(0, _), (1, _), (2, _), (3, _), (4, _), (5, _)]) r_X10_crowd_55 rfl ?_
            refine EV.l (lv' := [(0, _), (1, _), (2, _), (3, _), (4, _), (5, _)]) r_X10_crowd_56 rfl ?_
            refine EV.l (lv' := [(0, _), (1, _), (2, _), (3, _), (4, _), (5, _)]) r_X10_crowd_58 rfl ?_
            refine EV.l (lv' := [(0, _), (1, _), (2, _), (3, _), (4, _), (5, _)]) r_X10_crowd_59 rfl ?_
            rw [inc_nI]
            refine EV.g r_X10_crowd_62 ?_
            refine EV.fg (lv' := [(0, _), (1, _), (2, _), (3, _), (4, _)]) r_X10_crowd_25 rfl rfl rfl ?_
            refine EV.sub ?_ rfl ?_ (ih25 (m + 1) ?_ ?_)
            · first | rw [cwd_t (by omega)]; rfl | rw [cwd_f (by omega)]; rfl | rw [cwd_t (by omega)] | rw [cwd_f (by omega)]
            · rfl
            · omega
            · omega
      have h0 := L25 (0)
      try dsimp only at h0
      refine EV.sub ?_ rfl ?_ (h0 ?_)
      · rfl
      · rfl
      · omega
theorem c_crowdX {d : Nat} {I : Nat → Nat → Int32} {J : Nat → Nat → Int64} {κ : CT} (hc_ : HC 4 κ I) (cb : CB κ) {y : Int} (y1 : -2147483648 ≤ y) (y2 : y < 2147483648) (hy : ¬ (0 ≤ y ∧ y ≤ 1))  (hd : 9 ≤ d) : RX d 147 [.ref 0, .int (zI y)] I J 1 (fun I' => I' = ref1 I 14) := by
  refine RX.in (d0 := 8) hd mt_147 (Nat.le_of_ble_eq_true rfl) (fun d' hd' => ?_)
  have bns := cb.ns; have bnb := cb.nb; have bnc := cb.nc; have bnr := cb.nr
  have pn := Nat.two_pow_pos κ.ns; have qn := pow_ns cb; have pc := Nat.two_pow_pos κ.nc; have qc := pow_nc cb
  show EV none M_X10_crowd d' 0 [(0, .ref 0), (1, .int (zI y))] [] (hp I J) _
  refine EV.l (lv' := [(0, _), (1, _)]) r_X10_crowd_0 rfl ?_
  refine EV.l (lv' := [(0, _), (1, _)]) r_X10_crowd_1 rfl ?_
  refine EV.z0_eq r_X10_crowd_2 (fun h2 => ?_) (fun h2 => ?_)
  · -- 2 t
    refine EV.o r_X10_crowd_10 (icN (1) (v := 1)) ?_
    refine EV.g r_X10_crowd_11 ?_
    omega
  · -- 2 f
    refine EV.l (lv' := [(0, _), (1, _)]) r_X10_crowd_5 rfl ?_
    refine EV.o r_X10_crowd_6 (icN (1) (v := 1)) ?_
    refine EV.zn2_ne r_X10_crowd_7 (fun h7 => ?_) (fun h7 => ?_)
    · -- 7 t
      refine EV.o r_X10_crowd_14 (icN (0) (v := 0)) ?_
      exact EV.cx r_X10_crowd_15 (aV1 mt_159 la_0) (c_arg0 (by omega)) (fun _ h => h)
    · -- 7 f
      refine EV.o r_X10_crowd_10 (icN (1) (v := 1)) ?_
      refine EV.g r_X10_crowd_11 ?_
      omega
theorem m_crowd0 {d : Nat} {I : Nat → Nat → Int32} {J : Nat → Nat → Int64} {κ : CT} {l : LW} {η : HS} (mc_ : MC κ I) (cb : CB κ) (mr : MR 125 κ η I) (hb_ : HB κ η) (ml_ : ML l I) (lb : LB l) (wm : WM κ l η)  (hd : 13 ≤ d) : RI d 277 [.ref 106, .int (nI 0)] I J (fun v I' => v = nI (cwd (cwf κ η) 500).1 ∧ FM I I') := by
  refine RI.in (d0 := 12) hd mt_277 (Nat.le_of_ble_eq_true rfl) (fun d' hd' => ?_)
  have bns := cb.ns; have bnb := cb.nb; have bnc := cb.nc; have bnr := cb.nr
  have bm_ := hb_.mi
  show EV none M_X11_crowd d' 0 [(0, .ref 106), (1, .int (nI 0))] [] (hp I J) _
  refine EV.l (lv' := [(0, _), (1, _)]) r_X11_crowd_0 rfl ?_
  refine EV.o r_X11_crowd_1 (icN (0) (v := 0)) ?_
  refine EV.pI r_X11_crowd_2 la_106 ?_
  refine EV.l (lv' := [(0, _), (1, _)]) r_X11_crowd_5 rfl ?_
  refine EV.l (lv' := [(0, _), (1, _)]) r_X11_crowd_6 rfl ?_
  refine EV.o r_X11_crowd_7 (icN (0) (v := 0)) ?_
  refine EV.o r_X11_crowd_8 (icN (1) (v := 1)) ?_
  refine EV.cv r_X11_crowd_9 (aS3 mt_170) (m_wNNN (by omega) (by omega) (by omega) (by omega)) ?_
  refine EV.o r_X11_crowd_12 (icN (1) (v := 1)) ?_
  refine EV.o r_X11_crowd_13 (icN (1) (v := 1)) ?_
  refine EV.cv r_X11_crowd_14 (aV3 mt_169 la_106) (m_mayP (by omega) wr_same (by omega)) ?_
  refine EV.n0_ne r_X11_crowd_17 (fun h17 => ?_) (fun h17 => ?_)
  · -- 17 t
    refine EV.l (lv' := [(0, _), (1, _)]) r_X11_crowd_22 rfl ?_
    refine EV.cu r_X11_crowd_23 (aV0 mt_212 la_106) (m_take (by omega)) (fun I2 e2 => ?_)
    have e2 : I2 = M2 I := e2
    subst e2
    have mc2 := M2_mc mc_
    have ml2 := M2_ml ml_
    have mr2 := M2_mr mr cb
    refine EV.o r_X11_crowd_26 (icN (0) (v := 0)) ?_
    refine EV.l (lv' := [(0, _), (1, _), (2, _)]) r_X11_crowd_27 rfl ?_
    refine EV.l (lv' := [(0, _), (1, _), (2, _)]) r_X11_crowd_28 rfl ?_
    refine EV.o r_X11_crowd_29 (icN (0) (v := 0)) ?_
    refine EV.ci r_X11_crowd_30 (aV1 mt_220 la_106) (m_birdsAt mc2 cb mr2 hb_ ml2 lb (by omega) (by omega)) (fun v I3 h2 => ?_)
    obtain ⟨e, fr_⟩ := h2
    subst e
    rw [← bd_eq hb_ wm]
    have b0 : birds κ η 0 < 16 := mk_nb cb _
    have mc3 := MC.fr (I' := I3) mc2 (fr_ 106 (by decide) (by decide)) (fun x h1 h2 => fr_ x (by omega) (by omega))
    have mr3 := MR.fr (I' := I3) mr2 (fr_ 126 (by decide) (by decide))
    refine EV.cv r_X11_crowd_33 (aS1 mt_213) (m_ones (by omega) (by omega)) ?_
    refine EV.l (lv' := [(0, _), (1, _), (2, _), (3, _)]) r_X11_crowd_36 rfl ?_
    refine EV.o r_X11_crowd_37 (icN (0) (v := 0)) ?_
    refine EV.l (lv' := [(0, _), (1, _), (2, _), (3, _), (4, _)]) r_X11_crowd_38 rfl ?_
    have L40 : ∀ y_ : Nat × (Nat → Nat → Int32), (fun y => (y.1 ≤ κ.nb ∧ (∀ o, o ≠ 121 → o ≠ 122 → y.2 o = M2 I o)) → EV none M_X11_crowd d' 40 [(0, .ref 106), (1, .int (nI 0)), (2, .int (nI (cwm (cwf κ η) η.be y.1).1)), (3, .int (nI (cwm (cwf κ η) η.be y.1).2)), (4, .int (nI y.1))] [] (hp y.2 J) (QI J (fun v I' => v = nI (cwd (cwf κ η) 500).1 ∧ FM I I'))) y_ := by
      refine ev_loop (fun y => κ.nb - y.1) ?_
      intro ⟨k, I1⟩ ih40 hx40
      try dsimp only at ih40
      try dsimp only at hx40
      try dsimp only
      have fr_ := hx40.2; have kl := hx40.1
      have mc3 := MC.fr (I' := I1) mc2 (fr_ 106 (by decide) (by decide)) (fun x h1 h2 => fr_ x (by omega) (by omega))
      have mr3 := MR.fr (I' := I1) mr2 (fr_ 126 (by decide) (by decide))
      have ml3 := ML.fr (I' := I1) ml2 (fr_ 106 (by decide) (by decide)) (fr_ 119 (by decide) (by decide)) (fr_ 120 (by decide) (by decide))
      have b1 := hb_.be k; have b2 : birds κ η (η.be k) < 16 := mk_nb cb _; have f9 := fits9 κ η (η.be k); have c9 := cwm_le (fits9 κ η) hb_.be k
      have fe_ : pc9 (birds κ η (η.be k)) = cwf κ η (η.be k) := rfl
      refine EV.l (lv' := [(0, _), (1, _), (2, _), (3, _), (4, _)]) r_X11_crowd_40 rfl ?_
      refine EV.l (lv' := [(0, _), (1, _), (2, _), (3, _), (4, _)]) r_X11_crowd_42 rfl ?_
      refine EV.getV r_X11_crowd_43 la_106 (mc3.nb) ?_
      refine EV.n2_ge r_X11_crowd_46 (fun h46 => ?_) (fun h46 => ?_)
      · -- 46 t
        refine EV.l (lv' := [(0, _), (1, _), (2, _), (3, _), (4, _)]) r_X11_crowd_105 rfl ?_
        refine EV.n0_ne r_X11_crowd_106 (fun h106 => ?_) (fun h106 => ?_)
        · omega
        · -- 106 f
          refine EV.l (lv' := [(0, _), (1, _), (2, _), (3, _), (4, _)]) r_X11_crowd_109 rfl ?_
          refine EV.g r_X11_crowd_110 ?_
          exact EV.ri r_X11_crowd_114 (⟨by rw [cw_eq hb_, show κ.nb = k by omega], FM_of fr_⟩)
      · -- 46 f
        refine EV.l (lv' := [(0, _), (1, _), (2, _), (3, _), (4, _)]) r_X11_crowd_49 rfl ?_
        refine EV.gR r_X11_crowd_50 la_106 ?_
        refine EV.o r_X11_crowd_53 (bpN (18) 18) ?_
        refine EV.l (lv' := [(0, _), (1, _), (2, _), (3, _), (4, _)]) r_X11_crowd_55 rfl ?_
        refine EV.o r_X11_crowd_57 iaddN ?_
        refine EV.iaN r_X11_crowd_58 la_126 (mr3.be _ (by omega)) ?_
        refine EV.l (lv' := [(0, _), (1, _), (2, _), (3, _), (4, _), (5, _)]) r_X11_crowd_59 rfl ?_
        refine EV.l (lv' := [(0, _), (1, _), (2, _), (3, _), (4, _), (5, _)]) r_X11_crowd_61 rfl ?_
        refine EV.l (lv' := [(0, _), (1, _), (2, _), (3, _), (4, _), (5, _)]) r_X11_crowd_62 rfl ?_
        refine EV.ci r_X11_crowd_64 (aV1 mt_220 la_106) (m_birdsAt mc3 cb mr3 hb_ ml3 lb (by omega) (by omega)) (fun v I3 h2 => ?_)
        obtain ⟨e, fr2⟩ := h2
        subst e
        rw [← bd_eq hb_ wm]
        have fr_ : ∀ o, o ≠ 121 → o ≠ 122 → I3 o = M2 I o := fun o h1 h2 => (fr2 o h1 h2).trans (fr_ o h1 h2)
        have mc3 := MC.fr (I' := I3) mc2 (fr_ 106 (by decide) (by decide)) (fun x h1 h2 => fr_ x (by omega) (by omega))
        have mr3 := MR.fr (I' := I3) mr2 (fr_ 126 (by decide) (by decide))
        have ml3 := ML.fr (I' := I3) ml2 (fr_ 106 (by decide) (by decide)) (fr_ 119 (by decide) (by decide)) (fr_ 120 (by decide) (by decide))
        refine EV.cv r_X11_crowd_67 (aS1 mt_213) (m_ones (by omega) (by omega)) ?_
        refine EV.l (lv' := [(0, _), (1, _), (2, _), (3, _), (4, _), (5, _), (6, _)]) r_X11_crowd_70 rfl ?_
        refine EV.l (lv' := [(0, _), (1, _), (2, _), (3, _), (4, _), (5, _), (6, _)]) r_X11_crowd_72 rfl ?_
        refine EV.l (lv' := [(0, _), (1, _), (2, _), (3, _), (4, _), (5, _), (6, _)]) r_X11_crowd_74 rfl ?_
        refine EV.n2_lt r_X11_crowd_75 (fun h75 => ?_) (fun h75 => ?_)
        · -- 75 t
          refine EV.l (lv' := [(0, _), (1, _), (2, _), (3, _), (4, _), (5, _), (6, _)]) r_X11_crowd_99 rfl ?_
          rw [inc_nI]
          refine EV.g r_X11_crowd_102 ?_
          refine EV.fg (lv' := [(0, _), (1, _), (2, _), (3, _), (4, _)]) r_X11_crowd_40 rfl rfl rfl ?_
          refine EV.sub ?_ rfl ?_ (ih40 (k + 1, I3) ?_ ?_)
          · (try dsimp only) <;> (first | rw [cwm_t (by omega)]; rfl | rw [cwm_f (by omega)]; rfl | rw [cwm_t (by omega)] | rw [cwm_f (by omega)])
          · (try dsimp only) <;> (rfl)
          · (try dsimp only) <;> (omega)
          · (try dsimp only) <;> (exact ⟨by omega, fr_⟩)
        · -- 75 f
          refine EV.l (lv' := [(0, _), (1, _), (2, _), (3, _), (4, _), (5, _), (6, _)]) r_X11_crowd_78 rfl ?_
          refine EV.l (lv' := [(0, _), (1, _), (2, _), (3, _), (4, _), (5, _), (6, _)]) r_X11_crowd_80 rfl ?_
          refine EV.n2_ne r_X11_crowd_81 (fun h81 => ?_) (fun h81 => ?_)
          · -- 81 t
            refine EV.l (lv' := [(0, _), (1, _), (2, _), (3, _), (4, _), (5, _), (6, _)]) r_X11_crowd_93 rfl ?_
            refine EV.l (lv' := [(0, _), (1, _), (2, _), (3, _), (4, _), (5, _), (6, _)]) r_X11_crowd_95 rfl ?_
            refine EV.l (lv' := [(0, _), (1, _), (2, _), (3, _), (4, _), (5, _), (6, _)]) r_X11_crowd_96 rfl ?_
            refine EV.l (lv' := [(0, _), (1, _), (2, _), (3, _), (4, _), (5, _), (6, _)]) r_X11_crowd_98 rfl ?_
            refine EV.l (lv' := [(0, _), (1, _), (2, _), (3, _), (4, _), (5, _), (6, _)]) r_X11_crowd_99 rfl ?_
            rw [inc_nI]
            refine EV.g r_X11_crowd_102 ?_
            refine EV.fg (lv' := [(0, _), (1, _), (2, _), (3, _), (4, _)]) r_X11_crowd_40 rfl rfl rfl ?_
            refine EV.sub ?_ rfl ?_ (ih40 (k + 1, I3) ?_ ?_)
            · (try dsimp only) <;> (first | rw [cwm_t (by omega)]; rfl | rw [cwm_f (by omega)]; rfl | rw [cwm_t (by omega)] | rw [cwm_f (by omega)])
            · (try dsimp only) <;> (rfl)
            · (try dsimp only) <;> (omega)
            · (try dsimp only) <;> (exact ⟨by omega, fr_⟩)
          · -- 81 f
            refine EV.l (lv' := [(0, _), (1, _), (2, _), (3, _), (4, _), (5, _), (6, _)]) r_X11_crowd_84 rfl ?_
            refine EV.l (lv' := [(0, _), (1, _), (2, _), (3, _), (4, _), (5, _), (6, _)]) r_X11_crowd_86 rfl ?_
            refine EV.n2_lt r_X11_crowd_87 (fun h87 => ?_) (fun h87 => ?_)
            · -- 87 t
              refine EV.l (lv' := [(0, _), (1, _), (2, _), (3, _), (4, _), (5, _), (6, _)]) r_X11_crowd_93 rfl ?_
              refine EV.l (lv' := [(0, _), (1, _), (2, _), (3, _), (4, _), (5, _), (6, _)]) r_X11_crowd_95 rfl ?_
              refine EV.l (lv' := [(0, _), (1, _), (2, _), (3, _), (4, _), (5, _), (6, _)]) r_X11_crowd_96 rfl ?_
              refine EV.l (lv' := [(0, _), (1, _), (2, _), (3, _), (4, _), (5, _), (6, _)]) r_X11_crowd_98 rfl ?_
              refine EV.l (lv' := [(0, _), (1, _), (2, _), (3, _), (4, _), (5, _), (6, _)]) r_X11_crowd_99 rfl ?_
              rw [inc_nI]
              refine EV.g r_X11_crowd_102 ?_
              refine EV.fg (lv' := [(0, _), (1, _), (2, _), (3, _), (4, _)]) r_X11_crowd_40 rfl rfl rfl ?_
              refine EV.sub ?_ rfl ?_ (ih40 (k + 1, I3) ?_ ?_)
              · (try dsimp only) <;> (first | rw [cwm_t (by omega)]; rfl | rw [cwm_f (by omega)]; rfl | rw [cwm_t (by omega)] | rw [cwm_f (by omega)])
              · (try dsimp only) <;> (rfl)
              · (try dsimp only) <;> (omega)
              · (try dsimp only) <;> (exact ⟨by omega, fr_⟩)
            · -- 87 f
              refine EV.g r_X11_crowd_90 ?_
              refine EV.l (lv' := [(0, _), (1, _), (2, _), (3, _), (4, _), (5, _), (6, _)]) r_X11_crowd_99 rfl ?_
              rw [inc_nI]
              refine EV.g r_X11_crowd_102 ?_
              refine EV.fg (lv' := [(0, _), (1, _), (2, _), (3, _), (4, _)]) r_X11_crowd_40 rfl rfl rfl ?_
              refine EV.sub ?_ rfl ?_ (ih40 (k + 1, I3) ?_ ?_)
              · (try dsimp only) <;> (first | rw [cwm_t (by omega)]; rfl | rw [cwm_f (by omega)]; rfl | rw [cwm_t (by omega)] | rw [cwm_f (by omega)])
              · (try dsimp only) <;> (rfl)
              · (try dsimp only) <;> (omega)
              · (try dsimp only) <;> (exact ⟨by omega, fr_⟩)
    have h0 := L40 ((0, I3))
    try dsimp only at h0
    refine EV.sub ?_ rfl ?_ (h0 ?_)
    · (try dsimp only) <;> (rfl)
    · (try dsimp only) <;> (rfl)
    · (try dsimp only) <;> (exact ⟨Nat.zero_le _, fr_⟩)
  · omega
