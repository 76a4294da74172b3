/-! (goes on) -/
theorem m_sideX {d : Nat} {I : Nat → Nat → Int32} {J : Nat → Nat → Int64} {κ : CT} (mc_ : MC κ I) (cb : CB κ) {x : Int} (x1 : -2147483648 ≤ x) (x2 : x < 2147483648) {y : Int} (y1 : -2147483648 ≤ y) (y2 : y < 2147483648) (hy : ¬ (0 ≤ x ∧ x ≤ 1 ∧ 0 ≤ y ∧ y ≤ 2))  (hd : 9 ≤ d) : RI d 268 [.ref 106, .int (zI x), .int (zI y)] I J (fun v I' => I' = refM I 1 1) := by
  refine RI.in (d0 := 8) hd mt_268 (Nat.le_of_ble_eq_true rfl) (fun d' hd' => ?_)
  have bns := cb.ns; have bnb := cb.nb; have bnc := cb.nc; have bnr := cb.nr
  have pn := Nat.two_pow_pos κ.ns; have qn := pow_ns cb; have pc := Nat.two_pow_pos κ.nc; have qc := pow_nc cb
  show EV none M_X11_side d' 0 [(0, .ref 106), (1, .int (zI x)), (2, .int (zI y))] [] (hp I J) _
  refine EV.l (lv' := [(0, _), (1, _), (2, _)]) r_X11_side_0 rfl ?_
  refine EV.o r_X11_side_1 (icN (0) (v := 0)) ?_
  refine EV.pI r_X11_side_2 la_106 ?_
  refine EV.l (lv' := [(0, _), (1, _), (2, _)]) r_X11_side_5 rfl ?_
  refine EV.l (lv' := [(0, _), (1, _), (2, _)]) r_X11_side_6 rfl ?_
  refine EV.o r_X11_side_7 (icN (0) (v := 0)) ?_
  refine EV.o r_X11_side_8 (icN (1) (v := 1)) ?_
  refine EV.cv r_X11_side_9 (aS3 mt_170) (m_wZNN (by omega) (by omega) (by omega) (by omega) (by omega)) ?_
  refine EV.p0_eq r_X11_side_12 (fun h12 => ?_) (fun h12 => ?_)
  · -- 12 t
    refine EV.o r_X11_side_28 (icN (0) (v := 0)) ?_
    refine EV.o r_X11_side_29 (icN (1) (v := 1)) ?_
    refine EV.o r_X11_side_30 (icN (1) (v := 1)) ?_
    refine EV.ci r_X11_side_31 (aV3 mt_169 la_106) (m_may0 wr_same (by decide) (by decide) (by decide) (by omega)) (fun v I2 h2 => ?_)
    obtain ⟨e, fr_⟩ := h2
    subst e
    refine EV.n0_ne r_X11_side_34 (fun h34 => ?_) (fun h34 => ?_)
    · omega
    · -- 34 f
      refine EV.o r_X11_side_37 (icN (0) (v := 0)) ?_
      exact EV.ri r_X11_side_38 (fr_)
  · -- 12 f
    refine EV.l (lv' := [(0, _), (1, _), (2, _)]) r_X11_side_15 rfl ?_
    refine EV.o r_X11_side_16 (icN (0) (v := 0)) ?_
    refine EV.o r_X11_side_17 (icN (2) (v := 2)) ?_
    refine EV.cv r_X11_side_18 (aS3 mt_170) (m_wZNN (by omega) (by omega) (by omega) (by omega) (by omega)) ?_
    refine EV.p0_eq r_X11_side_21 (fun h21 => ?_) (fun h21 => ?_)
    · -- 21 t
      refine EV.o r_X11_side_28 (icN (0) (v := 0)) ?_
      refine EV.o r_X11_side_29 (icN (1) (v := 1)) ?_
      refine EV.o r_X11_side_30 (icN (1) (v := 1)) ?_
      refine EV.ci r_X11_side_31 (aV3 mt_169 la_106) (m_may0 wr_same (by decide) (by decide) (by decide) (by omega)) (fun v I2 h2 => ?_)
      obtain ⟨e, fr_⟩ := h2
      subst e
      refine EV.n0_ne r_X11_side_34 (fun h34 => ?_) (fun h34 => ?_)
      · omega
      · -- 34 f
        refine EV.o r_X11_side_37 (icN (0) (v := 0)) ?_
        exact EV.ri r_X11_side_38 (fr_)
    · -- 21 f
      refine EV.o r_X11_side_24 (icN (1) (v := 1)) ?_
      refine EV.g r_X11_side_25 ?_
      refine EV.o r_X11_side_29 (icN (1) (v := 1)) ?_
      refine EV.o r_X11_side_30 (icN (1) (v := 1)) ?_
      omega
theorem m_pointX {d : Nat} {I : Nat → Nat → Int32} {J : Nat → Nat → Int64} {κ : CT} (mc_ : MC κ I) (cb : CB κ) {x : Int} (x1 : -2147483648 ≤ x) (x2 : x < 2147483648) {y : Int} (y1 : -2147483648 ≤ y) (y2 : y < 2147483648) (hy : ¬ (0 ≤ x ∧ x ≤ 1 ∧ 0 ≤ y ∧ y ≤ 1))  (hd : 9 ≤ d) : RI d 273 [.ref 106, .int (zI x), .int (zI y)] I J (fun v I' => I' = refM I 1 1) := by
  refine RI.in (d0 := 8) hd mt_273 (Nat.le_of_ble_eq_true rfl) (fun d' hd' => ?_)
  have bns := cb.ns; have bnb := cb.nb; have bnc := cb.nc; have bnr := cb.nr
  have pn := Nat.two_pow_pos κ.ns; have qn := pow_ns cb; have pc := Nat.two_pow_pos κ.nc; have qc := pow_nc cb
  show EV none M_X11_point d' 0 [(0, .ref 106), (1, .int (zI x)), (2, .int (zI y))] [] (hp I J) _
  refine EV.l (lv' := [(0, _), (1, _), (2, _)]) r_X11_point_0 rfl ?_
  refine EV.o r_X11_point_1 (icN (0) (v := 0)) ?_
  refine EV.pI r_X11_point_2 la_106 ?_
  refine EV.l (lv' := [(0, _), (1, _), (2, _)]) r_X11_point_5 rfl ?_
  refine EV.l (lv' := [(0, _), (1, _), (2, _)]) r_X11_point_6 rfl ?_
  refine EV.o r_X11_point_7 (icN (0) (v := 0)) ?_
  refine EV.o r_X11_point_8 (icN (1) (v := 1)) ?_
  refine EV.cv r_X11_point_9 (aS3 mt_170) (m_wZNN (by omega) (by omega) (by omega) (by omega) (by omega)) ?_
  refine EV.p0_eq r_X11_point_12 (fun h12 => ?_) (fun h12 => ?_)
  · -- 12 t
    refine EV.o r_X11_point_28 (icN (0) (v := 0)) ?_
    refine EV.o r_X11_point_29 (icN (1) (v := 1)) ?_
    refine EV.o r_X11_point_30 (icN (1) (v := 1)) ?_
    refine EV.ci r_X11_point_31 (aV3 mt_169 la_106) (m_may0 wr_same (by decide) (by decide) (by decide) (by omega)) (fun v I2 h2 => ?_)
    obtain ⟨e, fr_⟩ := h2
    subst e
    refine EV.n0_ne r_X11_point_34 (fun h34 => ?_) (fun h34 => ?_)
    · omega
    · -- 34 f
      refine EV.o r_X11_point_37 (icN (0) (v := 0)) ?_
      exact EV.ri r_X11_point_38 (fr_)
  · -- 12 f
    refine EV.l (lv' := [(0, _), (1, _), (2, _)]) r_X11_point_15 rfl ?_
    refine EV.o r_X11_point_16 (icN (0) (v := 0)) ?_
    refine EV.o r_X11_point_17 (icN (1) (v := 1)) ?_
    refine EV.cv r_X11_point_18 (aS3 mt_170) (m_wZNN (by omega) (by omega) (by omega) (by omega) (by omega)) ?_
    refine EV.p0_eq r_X11_point_21 (fun h21 => ?_) (fun h21 => ?_)
    · -- 21 t
      refine EV.o r_X11_point_28 (icN (0) (v := 0)) ?_
      refine EV.o r_X11_point_29 (icN (1) (v := 1)) ?_
      refine EV.o r_X11_point_30 (icN (1) (v := 1)) ?_
      refine EV.ci r_X11_point_31 (aV3 mt_169 la_106) (m_may0 wr_same (by decide) (by decide) (by decide) (by omega)) (fun v I2 h2 => ?_)
      obtain ⟨e, fr_⟩ := h2
      subst e
      refine EV.n0_ne r_X11_point_34 (fun h34 => ?_) (fun h34 => ?_)
      · omega
      · -- 34 f
        refine EV.o r_X11_point_37 (icN (0) (v := 0)) ?_
        exact EV.ri r_X11_point_38 (fr_)
    · -- 21 f
      refine EV.o r_X11_point_24 (icN (1) (v := 1)) ?_
      refine EV.g r_X11_point_25 ?_
      refine EV.o r_X11_point_29 (icN (1) (v := 1)) ?_
      refine EV.o r_X11_point_30 (icN (1) (v := 1)) ?_
      omega
theorem m_follX {d : Nat} {I : Nat → Nat → Int32} {J : Nat → Nat → Int64} {κ : CT} (mc_ : MC κ I) (cb : CB κ) {x : Int} (x1 : -2147483648 ≤ x) (x2 : x < 2147483648) (hx : x < 0 ∨ ((2 ^ κ.ns : Nat) : Int) ≤ x)  (hd : 9 ≤ d) : RI d 249 [.ref 106, .int (zI x)] I J (fun v I' => I' = refM I 1 1) := by
  refine RI.in (d0 := 8) hd mt_249 (Nat.le_of_ble_eq_true rfl) (fun d' hd' => ?_)
  have bns := cb.ns; have bnb := cb.nb; have bnc := cb.nc; have bnr := cb.nr
  have pn := Nat.two_pow_pos κ.ns; have qn := pow_ns cb; have pc := Nat.two_pow_pos κ.nc; have qc := pow_nc cb
  show EV none M_X11_follows d' 0 [(0, .ref 106), (1, .int (zI x))] [] (hp I J) _
  refine EV.l (lv' := [(0, _), (1, _)]) r_X11_follows_0 rfl ?_
  refine EV.o r_X11_follows_1 (icN (0) (v := 0)) ?_
  refine EV.pI r_X11_follows_2 la_106 ?_
  refine EV.l (lv' := [(0, _), (1, _)]) r_X11_follows_5 rfl ?_
  refine EV.l (lv' := [(0, _), (1, _)]) r_X11_follows_6 rfl ?_
  refine EV.z0_lt r_X11_follows_7 (fun h7 => ?_) (fun h7 => ?_)
  · -- 7 t
    refine EV.o r_X11_follows_24 (icN (0) (v := 0)) ?_
    refine EV.o r_X11_follows_25 (icN (1) (v := 1)) ?_
    refine EV.o r_X11_follows_26 (icN (1) (v := 1)) ?_
    refine EV.ci r_X11_follows_27 (aV3 mt_169 la_106) (m_may0 wr_same (by decide) (by decide) (by decide) (by omega)) (fun v I2 h2 => ?_)
    obtain ⟨e, fr_⟩ := h2
    subst e
    refine EV.n0_ne r_X11_follows_30 (fun h30 => ?_) (fun h30 => ?_)
    · omega
    · -- 30 f
      refine EV.o r_X11_follows_33 (icN (0) (v := 0)) ?_
      exact EV.ri r_X11_follows_34 (fr_)
  · -- 7 f
    refine EV.l (lv' := [(0, _), (1, _)]) r_X11_follows_10 rfl ?_
    refine EV.o r_X11_follows_11 (icN (1) (v := 1)) ?_
    refine EV.l (lv' := [(0, _), (1, _)]) r_X11_follows_12 rfl ?_
    refine EV.getV r_X11_follows_13 la_106 ((wr0_mc (v := nI 0) mc_).ns) ?_
    refine EV.o r_X11_follows_16 (ishl1) ?_
    refine EV.zn2_ge r_X11_follows_17 (fun h17 => ?_) (fun h17 => ?_)
    · -- 17 t
      refine EV.o r_X11_follows_24 (icN (0) (v := 0)) ?_
      refine EV.o r_X11_follows_25 (icN (1) (v := 1)) ?_
      refine EV.o r_X11_follows_26 (icN (1) (v := 1)) ?_
      refine EV.ci r_X11_follows_27 (aV3 mt_169 la_106) (m_may0 wr_same (by decide) (by decide) (by decide) (by omega)) (fun v I2 h2 => ?_)
      obtain ⟨e, fr_⟩ := h2
      subst e
      refine EV.n0_ne r_X11_follows_30 (fun h30 => ?_) (fun h30 => ?_)
      · omega
      · -- 30 f
        refine EV.o r_X11_follows_33 (icN (0) (v := 0)) ?_
        exact EV.ri r_X11_follows_34 (fr_)
    · -- 17 f
      refine EV.o r_X11_follows_20 (icN (1) (v := 1)) ?_
      refine EV.g r_X11_follows_21 ?_
      refine EV.o r_X11_follows_25 (icN (1) (v := 1)) ?_
      refine EV.o r_X11_follows_26 (icN (1) (v := 1)) ?_
      omega
theorem m_isSome1 {d : Nat} {I : Nat → Nat → Int32} {J : Nat → Nat → Int64} {κ : CT} (mc_ : MC κ I) (cb : CB κ) {x : Nat} (h : x < 2 ^ κ.nc)  (hd : 2 ≤ d) : RV d 262 [.ref 106, .int (nI x)] I J (nI 1) := by
  refine RV.in (d0 := 1) hd mt_262 (Nat.le_of_ble_eq_true rfl) (fun d' hd' => ?_)
  have bns := cb.ns; have bnb := cb.nb; have bnc := cb.nc; have bnr := cb.nr
  have pc := pow_nc cb
  show EV none M_X11_isSome d' 0 [(0, .ref 106), (1, .int (nI x))] [] (hp I J) _
  refine EV.l (lv' := [(0, _), (1, _)]) r_X11_isSome_0 rfl ?_
  refine EV.n0_lt r_X11_isSome_1 (fun h1 => ?_) (fun h1 => ?_)
  · omega
  · -- 1 f
    refine EV.l (lv' := [(0, _), (1, _)]) r_X11_isSome_4 rfl ?_
    refine EV.o r_X11_isSome_5 (icN (1) (v := 1)) ?_
    refine EV.l (lv' := [(0, _), (1, _)]) r_X11_isSome_6 rfl ?_
    refine EV.getV r_X11_isSome_7 la_106 (mc_.nc) ?_
    refine EV.o r_X11_isSome_10 (ishl1) ?_
    refine EV.n2_ge r_X11_isSome_11 (fun h11 => ?_) (fun h11 => ?_)
    · omega
    · -- 11 f
      refine EV.o r_X11_isSome_14 (icN (1) (v := 1)) ?_
      refine EV.g r_X11_isSome_15 ?_
      exact EV.rv r_X11_isSome_19 (rfl)
theorem m_isSome0 {d : Nat} {I : Nat → Nat → Int32} {J : Nat → Nat → Int64} {κ : CT} (mc_ : MC κ I) (cb : CB κ) {x : Int} (x1 : -2147483648 ≤ x) (x2 : x < 2147483648) (hx : x < 0 ∨ ((2 ^ κ.nc : Nat) : Int) ≤ x)  (hd : 2 ≤ d) : RV d 262 [.ref 106, .int (zI x)] I J (nI 0) := by
  refine RV.in (d0 := 1) hd mt_262 (Nat.le_of_ble_eq_true rfl) (fun d' hd' => ?_)
  have bns := cb.ns; have bnb := cb.nb; have bnc := cb.nc; have bnr := cb.nr
  have pc := pow_nc cb
  show EV none M_X11_isSome d' 0 [(0, .ref 106), (1, .int (zI x))] [] (hp I J) _
  refine EV.l (lv' := [(0, _), (1, _)]) r_X11_isSome_0 rfl ?_
  refine EV.z0_lt r_X11_isSome_1 (fun h1 => ?_) (fun h1 => ?_)
  · -- 1 t
    refine EV.o r_X11_isSome_18 (icN (0) (v := 0)) ?_
    exact EV.rv r_X11_isSome_19 (rfl)
  · -- 1 f
    refine EV.l (lv' := [(0, _), (1, _)]) r_X11_isSome_4 rfl ?_
    refine EV.o r_X11_isSome_5 (icN (1) (v := 1)) ?_
    refine EV.l (lv' := [(0, _), (1, _)]) r_X11_isSome_6 rfl ?_
    refine EV.getV r_X11_isSome_7 la_106 (mc_.nc) ?_
    refine EV.o r_X11_isSome_10 (ishl1) ?_
    refine EV.zn2_ge r_X11_isSome_11 (fun h11 => ?_) (fun h11 => ?_)
    · -- 11 t
      refine EV.o r_X11_isSome_18 (icN (0) (v := 0)) ?_
      exact EV.rv r_X11_isSome_19 (rfl)
    · omega
theorem m_purseX {d : Nat} {I : Nat → Nat → Int32} {J : Nat → Nat → Int64} {κ : CT} (mc_ : MC κ I) (cb : CB κ) {x : Int} (x1 : -2147483648 ≤ x) (x2 : x < 2147483648) (hx : x < 0 ∨ ((2 ^ κ.nc : Nat) : Int) ≤ x)  (hd : 9 ≤ d) : RI d 274 [.ref 106, .int (zI x)] I J (fun v I' => I' = refM I 1 1) := by
  refine RI.in (d0 := 8) hd mt_274 (Nat.le_of_ble_eq_true rfl) (fun d' hd' => ?_)
  have bns := cb.ns; have bnb := cb.nb; have bnc := cb.nc; have bnr := cb.nr
  have pn := Nat.two_pow_pos κ.ns; have qn := pow_ns cb; have pc := Nat.two_pow_pos κ.nc; have qc := pow_nc cb
  show EV none M_X11_purse d' 0 [(0, .ref 106), (1, .int (zI x))] [] (hp I J) _
  refine EV.l (lv' := [(0, _), (1, _)]) r_X11_purse_0 rfl ?_
  refine EV.o r_X11_purse_1 (icN (0) (v := 0)) ?_
  refine EV.pI r_X11_purse_2 la_106 ?_
  refine EV.l (lv' := [(0, _), (1, _)]) r_X11_purse_5 rfl ?_
  refine EV.l (lv' := [(0, _), (1, _)]) r_X11_purse_6 rfl ?_
  refine EV.l (lv' := [(0, _), (1, _)]) r_X11_purse_7 rfl ?_
  refine EV.cv r_X11_purse_8 (aV1 mt_262 la_106) (m_isSome0 (wr0_mc mc_) cb (by omega) (by omega) (by omega) (by omega)) ?_
  refine EV.o r_X11_purse_11 (icN (1) (v := 1)) ?_
  refine EV.o r_X11_purse_12 (icN (1) (v := 1)) ?_
  refine EV.ci r_X11_purse_13 (aV3 mt_169 la_106) (m_may0 wr_same (by decide) (by decide) (by decide) (by omega)) (fun v I2 h2 => ?_)
  obtain ⟨e, fr_⟩ := h2
  subst e
  refine EV.n0_ne r_X11_purse_16 (fun h16 => ?_) (fun h16 => ?_)
  · omega
  · -- 16 f
    refine EV.o r_X11_purse_19 (icN (0) (v := 0)) ?_
    exact EV.ri r_X11_purse_20 (fr_)
theorem m_follows {d : Nat} {I : Nat → Nat → Int32} {J : Nat → Nat → Int64} {κ : CT} {l : LW} {η : HS} (mc_ : MC κ I) (cb : CB κ) (mr : MR 125 κ η I) (hb_ : HB κ η) (ml_ : ML l I) (lb : LB l) (wm : WM κ l η) {x : Nat} (hx : x < 2 ^ κ.ns)  (hd : 13 ≤ d) : RI d 249 [.ref 106, .int (nI x)] I J (fun v I' => v = nI (clo κ x) ∧ FM I I') := by
  refine RI.in (d0 := 12) hd mt_249 (Nat.le_of_ble_eq_true rfl) (fun d' hd' => ?_)
  have bns := cb.ns; have bnb := cb.nb; have bnc := cb.nc; have bnr := cb.nr
  have bm_ := hb_.mi
  have pn := pow_ns cb; have mc1 := wr0_mc (v := nI 0) mc_
  show EV none M_X11_follows d' 0 [(0, .ref 106), (1, .int (nI x))] [] (hp I J) _
  refine EV.l (lv' := [(0, _), (1, _)]) r_X11_follows_0 rfl ?_
  refine EV.o r_X11_follows_1 (icN (0) (v := 0)) ?_
  refine EV.pI r_X11_follows_2 la_106 ?_
  refine EV.l (lv' := [(0, _), (1, _)]) r_X11_follows_5 rfl ?_
  refine EV.l (lv' := [(0, _), (1, _)]) r_X11_follows_6 rfl ?_
  refine EV.n0_lt r_X11_follows_7 (fun h7 => ?_) (fun h7 => ?_)
  · -- 7 t
    refine EV.o r_X11_follows_24 (icN (0) (v := 0)) ?_
    refine EV.o r_X11_follows_25 (icN (1) (v := 1)) ?_
    refine EV.o r_X11_follows_26 (icN (1) (v := 1)) ?_
    omega
  · -- 7 f
    refine EV.l (lv' := [(0, _), (1, _)]) r_X11_follows_10 rfl ?_
    refine EV.o r_X11_follows_11 (icN (1) (v := 1)) ?_
    refine EV.l (lv' := [(0, _), (1, _)]) r_X11_follows_12 rfl ?_
    refine EV.getV r_X11_follows_13 la_106 (mc1.ns) ?_
    refine EV.o r_X11_follows_16 (ishl1) ?_
    refine EV.n2_ge r_X11_follows_17 (fun h17 => ?_) (fun h17 => ?_)
    · -- 17 t
      refine EV.o r_X11_follows_24 (icN (0) (v := 0)) ?_
      refine EV.o r_X11_follows_25 (icN (1) (v := 1)) ?_
      refine EV.o r_X11_follows_26 (icN (1) (v := 1)) ?_
      omega
    · -- 17 f
      refine EV.o r_X11_follows_20 (icN (1) (v := 1)) ?_
      refine EV.g r_X11_follows_21 ?_
      refine EV.o r_X11_follows_25 (icN (1) (v := 1)) ?_
      refine EV.o r_X11_follows_26 (icN (1) (v := 1)) ?_
      refine EV.cv r_X11_follows_27 (aV3 mt_169 la_106) (m_mayN wr_same (by omega)) ?_
      refine EV.n0_ne r_X11_follows_30 (fun h30 => ?_) (fun h30 => ?_)
      · -- 30 t
        refine EV.l (lv' := [(0, _), (1, _)]) r_X11_follows_35 rfl ?_
        refine EV.l (lv' := [(0, _), (1, _)]) r_X11_follows_36 rfl ?_
        refine EV.cv r_X11_follows_37 (aV1 mt_223 la_106) (m_allFrom mc1 cb hx (by omega)) ?_
        exact EV.ri r_X11_follows_40 (⟨rfl, FM_0⟩)
      · omega
theorem m_bird0 {d : Nat} {I : Nat → Nat → Int32} {J : Nat → Nat → Int64} {κ : CT} {l : LW} {η : HS} (mc_ : MC κ I) (cb : CB κ) (mr : MR 125 κ η I) (hb_ : HB κ η) (ml_ : ML l I) (lb : LB l) (wm : WM κ l η) {b : Nat} (h : b < κ.nb)  (hd : 13 ≤ d) : RI d 242 [.ref 106, .int (nI b), .int (nI 0)] I J (fun v I' => v = nI (η.be b) ∧ FM I I') := by
  refine RI.in (d0 := 12) hd mt_242 (Nat.le_of_ble_eq_true rfl) (fun d' hd' => ?_)
  have bns := cb.ns; have bnb := cb.nb; have bnc := cb.nc; have bnr := cb.nr
  have bm_ := hb_.mi
  have b1 := hb_.be b; have b2 := hb_.wk b; have b3 := (wm.hw).wk1 b h
  show EV none M_X11_bird d' 0 [(0, .ref 106), (1, .int (nI b)), (2, .int (nI 0))] [] (hp I J) _
  refine EV.l (lv' := [(0, _), (1, _), (2, _)]) r_X11_bird_0 rfl ?_
  refine EV.o r_X11_bird_1 (icN (0) (v := 0)) ?_
  refine EV.pI r_X11_bird_2 la_106 ?_
  refine EV.l (lv' := [(0, _), (1, _), (2, _)]) r_X11_bird_5 rfl ?_
  refine EV.l (lv' := [(0, _), (1, _), (2, _)]) r_X11_bird_6 rfl ?_
  refine EV.o r_X11_bird_7 (icN (1) (v := 1)) ?_
  refine EV.cv r_X11_bird_8 (aV2 mt_239 la_106) (m_isBird1 (wr0_mc mc_) cb wr_same (by omega) (by omega)) ?_
  refine EV.n0_eq r_X11_bird_11 (fun h11 => ?_) (fun h11 => ?_)
  · omega
  · -- 11 f
    refine EV.l (lv' := [(0, _), (1, _), (2, _)]) r_X11_bird_14 rfl ?_
    refine EV.l (lv' := [(0, _), (1, _), (2, _)]) r_X11_bird_15 rfl ?_
    refine EV.o r_X11_bird_16 (icN (0) (v := 0)) ?_
    refine EV.o r_X11_bird_17 (icN (4) (v := 4)) ?_
    refine EV.cv r_X11_bird_18 (aS3 mt_170) (m_wNNN (by omega) (by omega) (by omega) (by omega)) ?_
    refine EV.o r_X11_bird_21 (icN (2) (v := 2)) ?_
    refine EV.o r_X11_bird_22 (icN (1) (v := 1)) ?_
    refine EV.cv r_X11_bird_23 (aV3 mt_169 la_106) (m_mayP (by omega) wr_same (by omega)) ?_
    refine EV.n0_ne r_X11_bird_26 (fun h26 => ?_) (fun h26 => ?_)
    · -- 26 t
      refine EV.l (lv' := [(0, _), (1, _), (2, _)]) r_X11_bird_31 rfl ?_
      refine EV.cu r_X11_bird_32 (aV0 mt_212 la_106) (m_take (by omega)) (fun I2 e2 => ?_)
      have e2 : I2 = M2 I := e2
      subst e2
      have mc2 := M2_mc mc_
      have ml2 := M2_ml ml_
      have mr2 := M2_mr mr cb
      refine EV.l (lv' := [(0, _), (1, _), (2, _)]) r_X11_bird_35 rfl ?_
      refine EV.o r_X11_bird_36 (icN (2) (v := 2)) ?_
      refine EV.n2_ge r_X11_bird_37 (fun h37 => ?_) (fun h37 => ?_)
      · omega
      · -- 37 f
        refine EV.l (lv' := [(0, _), (1, _), (2, _)]) r_X11_bird_40 rfl ?_
        refine EV.n0_ne r_X11_bird_41 (fun h41 => ?_) (fun h41 => ?_)
        · omega
        · -- 41 f
          refine EV.l (lv' := [(0, _), (1, _), (2, _)]) r_X11_bird_44 rfl ?_
          refine EV.gR r_X11_bird_45 la_106 ?_
          refine EV.o r_X11_bird_48 (bpN (18) 18) ?_
          refine EV.l (lv' := [(0, _), (1, _), (2, _)]) r_X11_bird_50 rfl ?_
          refine EV.o r_X11_bird_51 iaddN ?_
          refine EV.iaN r_X11_bird_52 la_126 (mr2.be _ (by omega)) ?_
          refine EV.g r_X11_bird_53 ?_
          exact EV.ri r_X11_bird_66 (⟨rfl, by first | exact FM_of fr_ | exact FM_2⟩)
    · omega
theorem m_bird1 {d : Nat} {I : Nat → Nat → Int32} {J : Nat → Nat → Int64} {κ : CT} {l : LW} {η : HS} (mc_ : MC κ I) (cb : CB κ) (mr : MR 125 κ η I) (hb_ : HB κ η) (ml_ : ML l I) (lb : LB l) (wm : WM κ l η) {b : Nat} (h : b < κ.nb)  (hd : 13 ≤ d) : RI d 242 [.ref 106, .int (nI b), .int (nI 1)] I J (fun v I' => v = nI (κ.bs b) ∧ FM I I') := by
  refine RI.in (d0 := 12) hd mt_242 (Nat.le_of_ble_eq_true rfl) (fun d' hd' => ?_)
  have bns := cb.ns; have bnb := cb.nb; have bnc := cb.nc; have bnr := cb.nr
  have bm_ := hb_.mi
  have b1 := hb_.be b; have b2 := hb_.wk b; have b3 := (wm.hw).wk1 b h
  show EV none M_X11_bird d' 0 [(0, .ref 106), (1, .int (nI b)), (2, .int (nI 1))] [] (hp I J) _
  refine EV.l (lv' := [(0, _), (1, _), (2, _)]) r_X11_bird_0 rfl ?_
  refine EV.o r_X11_bird_1 (icN (0) (v := 0)) ?_
  refine EV.pI r_X11_bird_2 la_106 ?_
  refine EV.l (lv' := [(0, _), (1, _), (2, _)]) r_X11_bird_5 rfl ?_
  refine EV.l (lv' := [(0, _), (1, _), (2, _)]) r_X11_bird_6 rfl ?_
  refine EV.o r_X11_bird_7 (icN (1) (v := 1)) ?_
  refine EV.cv r_X11_bird_8 (aV2 mt_239 la_106) (m_isBird1 (wr0_mc mc_) cb wr_same (by omega) (by omega)) ?_
  refine EV.n0_eq r_X11_bird_11 (fun h11 => ?_) (fun h11 => ?_)
  · omega
  · -- 11 f
    refine EV.l (lv' := [(0, _), (1, _), (2, _)]) r_X11_bird_14 rfl ?_
    refine EV.l (lv' := [(0, _), (1, _), (2, _)]) r_X11_bird_15 rfl ?_
    refine EV.o r_X11_bird_16 (icN (0) (v := 0)) ?_
    refine EV.o r_X11_bird_17 (icN (4) (v := 4)) ?_
    refine EV.cv r_X11_bird_18 (aS3 mt_170) (m_wNNN (by omega) (by omega) (by omega) (by omega)) ?_
    refine EV.o r_X11_bird_21 (icN (2) (v := 2)) ?_
    refine EV.o r_X11_bird_22 (icN (1) (v := 1)) ?_
    refine EV.cv r_X11_bird_23 (aV3 mt_169 la_106) (m_mayP (by omega) wr_same (by omega)) ?_
    refine EV.n0_ne r_X11_bird_26 (fun h26 => ?_) (fun h26 => ?_)
    · -- 26 t
      refine EV.l (lv' := [(0, _), (1, _), (2, _)]) r_X11_bird_31 rfl ?_
      refine EV.cu r_X11_bird_32 (aV0 mt_212 la_106) (m_take (by omega)) (fun I2 e2 => ?_)
      have e2 : I2 = M2 I := e2
      subst e2
      have mc2 := M2_mc mc_
      have ml2 := M2_ml ml_
      have mr2 := M2_mr mr cb
      refine EV.l (lv' := [(0, _), (1, _), (2, _)]) r_X11_bird_35 rfl ?_
      refine EV.o r_X11_bird_36 (icN (2) (v := 2)) ?_
      refine EV.n2_ge r_X11_bird_37 (fun h37 => ?_) (fun h37 => ?_)
      · omega
      · -- 37 f
        refine EV.l (lv' := [(0, _), (1, _), (2, _)]) r_X11_bird_40 rfl ?_
        refine EV.n0_ne r_X11_bird_41 (fun h41 => ?_) (fun h41 => ?_)
        · -- 41 t
          refine EV.l (lv' := [(0, _), (1, _), (2, _)]) r_X11_bird_56 rfl ?_
          refine EV.gR r_X11_bird_57 la_106 ?_
          refine EV.o r_X11_bird_60 (icN (2) (v := 2)) ?_
          refine EV.l (lv' := [(0, _), (1, _), (2, _)]) r_X11_bird_61 rfl ?_
          refine EV.o r_X11_bird_62 imulN ?_
          refine EV.o r_X11_bird_63 (icN (1) (v := 1)) ?_
          refine EV.o r_X11_bird_64 iaddN ?_
          refine EV.iaN r_X11_bird_65 la_115 (mc2.bs _ (by omega)) ?_
          exact EV.ri r_X11_bird_66 (⟨rfl, by first | exact FM_of fr_ | exact FM_2⟩)
        · omega
    · omega
theorem m_bird2 {d : Nat} {I : Nat → Nat → Int32} {J : Nat → Nat → Int64} {κ : CT} {l : LW} {η : HS} (mc_ : MC κ I) (cb : CB κ) (mr : MR 125 κ η I) (hb_ : HB κ η) (ml_ : ML l I) (lb : LB l) (wm : WM κ l η) {b : Nat} (h : b < κ.nb)  (hd : 13 ≤ d) : RI d 242 [.ref 106, .int (nI b), .int (nI 2)] I J (fun v I' => v = nI (η.wk b) ∧ FM I I') := by
  refine RI.in (d0 := 12) hd mt_242 (Nat.le_of_ble_eq_true rfl) (fun d' hd' => ?_)
  have bns := cb.ns; have bnb := cb.nb; have bnc := cb.nc; have bnr := cb.nr
  have bm_ := hb_.mi
  have b1 := hb_.be b; have b2 := hb_.wk b; have b3 := (wm.hw).wk1 b h
  show EV none M_X11_bird d' 0 [(0, .ref 106), (1, .int (nI b)), (2, .int (nI 2))] [] (hp I J) _
  refine EV.l (lv' := [(0, _), (1, _), (2, _)]) r_X11_bird_0 rfl ?_
  refine EV.o r_X11_bird_1 (icN (0) (v := 0)) ?_
  refine EV.pI r_X11_bird_2 la_106 ?_
  refine EV.l (lv' := [(0, _), (1, _), (2, _)]) r_X11_bird_5 rfl ?_
  refine EV.l (lv' := [(0, _), (1, _), (2, _)]) r_X11_bird_6 rfl ?_
  refine EV.o r_X11_bird_7 (icN (1) (v := 1)) ?_
  refine EV.cv r_X11_bird_8 (aV2 mt_239 la_106) (m_isBird1 (wr0_mc mc_) cb wr_same (by omega) (by omega)) ?_
  refine EV.n0_eq r_X11_bird_11 (fun h11 => ?_) (fun h11 => ?_)
  · omega
  · -- 11 f
    refine EV.l (lv' := [(0, _), (1, _), (2, _)]) r_X11_bird_14 rfl ?_
    refine EV.l (lv' := [(0, _), (1, _), (2, _)]) r_X11_bird_15 rfl ?_
    refine EV.o r_X11_bird_16 (icN (0) (v := 0)) ?_
    refine EV.o r_X11_bird_17 (icN (4) (v := 4)) ?_
    refine EV.cv r_X11_bird_18 (aS3 mt_170) (m_wNNN (by omega) (by omega) (by omega) (by omega)) ?_
    refine EV.o r_X11_bird_21 (icN (2) (v := 2)) ?_
    refine EV.o r_X11_bird_22 (icN (1) (v := 1)) ?_
    refine EV.cv r_X11_bird_23 (aV3 mt_169 la_106) (m_mayP (by omega) wr_same (by omega)) ?_
    refine EV.n0_ne r_X11_bird_26 (fun h26 => ?_) (fun h26 => ?_)
    · -- 26 t
      refine EV.l (lv' := [(0, _), (1, _), (2, _)]) r_X11_bird_31 rfl ?_
      refine EV.cu r_X11_bird_32 (aV0 mt_212 la_106) (m_take (by omega)) (fun I2 e2 => ?_)
      have e2 : I2 = M2 I := e2
      subst e2
      have mc2 := M2_mc mc_
      have ml2 := M2_ml ml_
      have mr2 := M2_mr mr cb
      refine EV.l (lv' := [(0, _), (1, _), (2, _)]) r_X11_bird_35 rfl ?_
      refine EV.o r_X11_bird_36 (icN (2) (v := 2)) ?_
      refine EV.n2_ge r_X11_bird_37 (fun h37 => ?_) (fun h37 => ?_)
      · -- 37 t
        refine EV.l (lv' := [(0, _), (1, _), (2, _)]) r_X11_bird_67 rfl ?_
        refine EV.l (lv' := [(0, _), (1, _), (2, _)]) r_X11_bird_68 rfl ?_
        refine EV.l (lv' := [(0, _), (1, _), (2, _)]) r_X11_bird_69 rfl ?_
        refine EV.gR r_X11_bird_70 la_106 ?_
        refine EV.o r_X11_bird_73 (bpN (18) 18) ?_
        refine EV.l (lv' := [(0, _), (1, _), (2, _)]) r_X11_bird_75 rfl ?_
        refine EV.o r_X11_bird_76 iaddN ?_
        refine EV.iaN r_X11_bird_77 la_126 (mr2.be _ (by omega)) ?_
        refine EV.l (lv' := [(0, _), (1, _), (2, _)]) r_X11_bird_78 rfl ?_
        refine EV.gR r_X11_bird_79 la_106 ?_
        refine EV.o r_X11_bird_82 (bpN (22) 22) ?_
        refine EV.l (lv' := [(0, _), (1, _), (2, _)]) r_X11_bird_84 rfl ?_
        refine EV.o r_X11_bird_85 iaddN ?_
        refine EV.iaN r_X11_bird_86 la_126 (mr2.le _ (by omega)) ?_
        refine EV.ci r_X11_bird_87 (aV3 mt_217 la_106) (m_walkBy mc2 cb mr2 hb_ ml2 lb (by omega) (by omega)) (fun v I3 h2 => ?_)
        obtain ⟨e, fr_⟩ := h2
        subst e
        rw [wk_eq hb_ wm (by omega)]
        have mc3 := MC.fr (I' := I3) mc2 (fr_ 106 (by decide) (by decide)) (fun x h1 h2 => fr_ x (by omega) (by omega))
        have mr3 := MR.fr (I' := I3) mr2 (fr_ 126 (by decide) (by decide))
        refine EV.l (lv' := [(0, _), (1, _), (2, _), (3, _)]) r_X11_bird_90 rfl ?_
        refine EV.l (lv' := [(0, _), (1, _), (2, _), (3, _)]) r_X11_bird_91 rfl ?_
        refine EV.o r_X11_bird_92 (icN (2) (v := 2)) ?_
        refine EV.n2_ne r_X11_bird_93 (fun h93 => ?_) (fun h93 => ?_)
        · omega
        · -- 93 f
          refine EV.l (lv' := [(0, _), (1, _), (2, _), (3, _)]) r_X11_bird_96 rfl ?_
          refine EV.g r_X11_bird_97 ?_
          exact EV.ri r_X11_bird_130 (⟨rfl, by first | exact FM_of fr_ | exact FM_2⟩)
      · omega
    · omega
theorem m_bird3 {d : Nat} {I : Nat → Nat → Int32} {J : Nat → Nat → Int64} {κ : CT} {l : LW} {η : HS} (mc_ : MC κ I) (cb : CB κ) (mr : MR 125 κ η I) (hb_ : HB κ η) (ml_ : ML l I) (lb : LB l) (wm : WM κ l η) {b : Nat} (h : b < κ.nb)  (hd : 13 ≤ d) : RI d 242 [.ref 106, .int (nI b), .int (nI 3)] I J (fun v I' => v = nI (η.le b) ∧ FM I I') := by
  refine RI.in (d0 := 12) hd mt_242 (Nat.le_of_ble_eq_true rfl) (fun d' hd' => ?_)
  have bns := cb.ns; have bnb := cb.nb; have bnc := cb.nc; have bnr := cb.nr
  have bm_ := hb_.mi
  have b1 := hb_.be b; have b2 := hb_.wk b; have b3 := (wm.hw).wk1 b h
  show EV none M_X11_bird d' 0 [(0, .ref 106), (1, .int (nI b)), (2, .int (nI 3))] [] (hp I J) _
  refine EV.l (lv' := [(0, _), (1, _), (2, _)]) r_X11_bird_0 rfl ?_
  refine EV.o r_X11_bird_1 (icN (0) (v := 0)) ?_
  refine EV.pI r_X11_bird_2 la_106 ?_
  refine EV.l (lv' := [(0, _), (1, _), (2, _)]) r_X11_bird_5 rfl ?_
  refine EV.l (lv' := [(0, _), (1, _), (2, _)]) r_X11_bird_6 rfl ?_
  refine EV.o r_X11_bird_7 (icN (1) (v := 1)) ?_
  refine EV.cv r_X11_bird_8 (aV2 mt_239 la_106) (m_isBird1 (wr0_mc mc_) cb wr_same (by omega) (by omega)) ?_
  refine EV.n0_eq r_X11_bird_11 (fun h11 => ?_) (fun h11 => ?_)
  · omega
  · -- 11 f
    refine EV.l (lv' := [(0, _), (1, _), (2, _)]) r_X11_bird_14 rfl ?_
    refine EV.l (lv' := [(0, _), (1, _), (2, _)]) r_X11_bird_15 rfl ?_
    refine EV.o r_X11_bird_16 (icN (0) (v := 0)) ?_
    refine EV.o r_X11_bird_17 (icN (4) (v := 4)) ?_
    refine EV.cv r_X11_bird_18 (aS3 mt_170) (m_wNNN (by omega) (by omega) (by omega) (by omega)) ?_
    refine EV.o r_X11_bird_21 (icN (2) (v := 2)) ?_
    refine EV.o r_X11_bird_22 (icN (1) (v := 1)) ?_
    refine EV.cv r_X11_bird_23 (aV3 mt_169 la_106) (m_mayP (by omega) wr_same (by omega)) ?_
    refine EV.n0_ne r_X11_bird_26 (fun h26 => ?_) (fun h26 => ?_)
    · -- 26 t
      refine EV.l (lv' := [(0, _), (1, _), (2, _)]) r_X11_bird_31 rfl ?_
      refine EV.cu r_X11_bird_32 (aV0 mt_212 la_106) (m_take (by omega)) (fun I2 e2 => ?_)
      have e2 : I2 = M2 I := e2
      subst e2
      have mc2 := M2_mc mc_
      have ml2 := M2_ml ml_
      have mr2 := M2_mr mr cb
      refine EV.l (lv' := [(0, _), (1, _), (2, _)]) r_X11_bird_35 rfl ?_
      refine EV.o r_X11_bird_36 (icN (2) (v := 2)) ?_
      refine EV.n2_ge r_X11_bird_37 (fun h37 => ?_) (fun h37 => ?_)
      · -- 37 t
        refine EV.l (lv' := [(0, _), (1, _), (2, _)]) r_X11_bird_67 rfl ?_
        refine EV.l (lv' := [(0, _), (1, _), (2, _)]) r_X11_bird_68 rfl ?_
        refine EV.l (lv' := [(0, _), (1, _), (2, _)]) r_X11_bird_69 rfl ?_
        refine EV.gR r_X11_bird_70 la_106 ?_
        refine EV.o r_X11_bird_73 (bpN (18) 18) ?_
        refine EV.l (lv' := [(0, _), (1, _), (2, _)]) r_X11_bird_75 rfl ?_
        refine EV.o r_X11_bird_76 iaddN ?_
        refine EV.iaN r_X11_bird_77 la_126 (mr2.be _ (by omega)) ?_
        refine EV.l (lv' := [(0, _), (1, _), (2, _)]) r_X11_bird_78 rfl ?_
        refine EV.gR r_X11_bird_79 la_106 ?_
        refine EV.o r_X11_bird_82 (bpN (22) 22) ?_
        refine EV.l (lv' := [(0, _), (1, _), (2, _)]) r_X11_bird_84 rfl ?_
        refine EV.o r_X11_bird_85 iaddN ?_
        refine EV.iaN r_X11_bird_86 la_126 (mr2.le _ (by omega)) ?_
        refine EV.ci r_X11_bird_87 (aV3 mt_217 la_106) (m_walkBy mc2 cb mr2 hb_ ml2 lb (by omega) (by omega)) (fun v I3 h2 => ?_)
        obtain ⟨e, fr_⟩ := h2
        subst e
        rw [wk_eq hb_ wm (by omega)]
        have mc3 := MC.fr (I' := I3) mc2 (fr_ 106 (by decide) (by decide)) (fun x h1 h2 => fr_ x (by omega) (by omega))
        have mr3 := MR.fr (I' := I3) mr2 (fr_ 126 (by decide) (by decide))
        refine EV.l (lv' := [(0, _), (1, _), (2, _), (3, _)]) r_X11_bird_90 rfl ?_
        refine EV.l (lv' := [(0, _), (1, _), (2, _), (3, _)]) r_X11_bird_91 rfl ?_
        refine EV.o r_X11_bird_92 (icN (2) (v := 2)) ?_
        refine EV.n2_ne r_X11_bird_93 (fun h93 => ?_) (fun h93 => ?_)
        · -- 93 t
          refine EV.l (lv' := [(0, _), (1, _), (2, _), (3, _)]) r_X11_bird_100 rfl ?_
          refine EV.o r_X11_bird_101 (icN (3) (v := 3)) ?_
          refine EV.n2_ne r_X11_bird_102 (fun h102 => ?_) (fun h102 => ?_)
          · omega
          · -- 102 f
            refine EV.l (lv' := [(0, _), (1, _), (2, _), (3, _)]) r_X11_bird_105 rfl ?_
            refine EV.gR r_X11_bird_106 la_106 ?_
            refine EV.o r_X11_bird_109 (bpN (22) 22) ?_
            refine EV.l (lv' := [(0, _), (1, _), (2, _), (3, _)]) r_X11_bird_111 rfl ?_
            refine EV.o r_X11_bird_112 iaddN ?_
            refine EV.iaN r_X11_bird_113 la_126 (mr3.le _ (by omega)) ?_
            refine EV.g r_X11_bird_114 ?_
            exact EV.ri r_X11_bird_130 (⟨rfl, by first | exact FM_of fr_ | exact FM_2⟩)
        · omega
      · omega
    · omega
theorem m_bird4 {d : Nat} {I : Nat → Nat → Int32} {J : Nat → Nat → Int64} {κ : CT} {l : LW} {η : HS} (mc_ : MC κ I) (cb : CB κ) (mr : MR 125 κ η I) (hb_ : HB κ η) (ml_ : ML l I) (lb : LB l) (wm : WM κ l η) {b : Nat} (h : b < κ.nb)  (hd : 13 ≤ d) : RI d 242 [.ref 106, .int (nI b), .int (nI 4)] I J (fun v I' => v = nI (η.be b + η.wk b - 1) ∧ FM I I') := by
  refine RI.in (d0 := 12) hd mt_242 (Nat.le_of_ble_eq_true rfl) (fun d' hd' => ?_)
  have bns := cb.ns; have bnb := cb.nb; have bnc := cb.nc; have bnr := cb.nr
  have bm_ := hb_.mi
  have b1 := hb_.be b; have b2 := hb_.wk b; have b3 := (wm.hw).wk1 b h
  show EV none M_X11_bird d' 0 [(0, .ref 106), (1, .int (nI b)), (2, .int (nI 4))] [] (hp I J) _
  refine EV.l (lv' := [(0, _), (1, _), (2, _)]) r_X11_bird_0 rfl ?_
  refine EV.o r_X11_bird_1 (icN (0) (v := 0)) ?_
  refine EV.pI r_X11_bird_2 la_106 ?_
  refine EV.l (lv' := [(0, _), (1, _), (2, _)]) r_X11_bird_5 rfl ?_
  refine EV.l (lv' := [(0, _), (1, _), (2, _)]) r_X11_bird_6 rfl ?_
  refine EV.o r_X11_bird_7 (icN (1) (v := 1)) ?_
  refine EV.cv r_X11_bird_8 (aV2 mt_239 la_106) (m_isBird1 (wr0_mc mc_) cb wr_same (by omega) (by omega)) ?_
  refine EV.n0_eq r_X11_bird_11 (fun h11 => ?_) (fun h11 => ?_)
  · omega
  · -- 11 f
    refine EV.l (lv' := [(0, _), (1, _), (2, _)]) r_X11_bird_14 rfl ?_
    refine EV.l (lv' := [(0, _), (1, _), (2, _)]) r_X11_bird_15 rfl ?_
    refine EV.o r_X11_bird_16 (icN (0) (v := 0)) ?_
    refine EV.o r_X11_bird_17 (icN (4) (v := 4)) ?_
    refine EV.cv r_X11_bird_18 (aS3 mt_170) (m_wNNN (by omega) (by omega) (by omega) (by omega)) ?_
    refine EV.o r_X11_bird_21 (icN (2) (v := 2)) ?_
    refine EV.o r_X11_bird_22 (icN (1) (v := 1)) ?_
    refine EV.cv r_X11_bird_23 (aV3 mt_169 la_106) (m_mayP (by omega) wr_same (by omega)) ?_
    refine EV.n0_ne r_X11_bird_26 (fun h26 => ?_) (fun h26 => ?_)
    · -- 26 t
      refine EV.l (lv' := [(0, _), (1, _), (2, _)]) r_X11_bird_31 rfl ?_
      refine EV.cu r_X11_bird_32 (aV0 mt_212 la_106) (m_take (by omega)) (fun I2 e2 => ?_)
      have e2 : I2 = M2 I := e2
      subst e2
      have mc2 := M2_mc mc_
      have ml2 := M2_ml ml_
      have mr2 := M2_mr mr cb
      refine EV.l (lv' := [(0, _), (1, _), (2, _)]) r_X11_bird_35 rfl ?_
      refine EV.o r_X11_bird_36 (icN (2) (v := 2)) ?_
      refine EV.n2_ge r_X11_bird_37 (fun h37 => ?_) (fun h37 => ?_)
      · -- 37 t
        refine EV.l (lv' := [(0, _), (1, _), (2, _)]) r_X11_bird_67 rfl ?_
        refine EV.l (lv' := [(0, _), (1, _), (2, _)]) r_X11_bird_68 rfl ?_
        refine EV.l (lv' := [(0, _), (1, _), (2, _)]) r_X11_bird_69 rfl ?_
        refine EV.gR r_X11_bird_70 la_106 ?_
        refine EV.o r_X11_bird_73 (bpN (18) 18) ?_
        refine EV.l (lv' := [(0, _), (1, _), (2, _)]) r_X11_bird_75 rfl ?_
        refine EV.o r_X11_bird_76 iaddN ?_
        refine EV.iaN r_X11_bird_77 la_126 (mr2.be _ (by omega)) ?_
        refine EV.l (lv' := [(0, _), (1, _), (2, _)]) r_X11_bird_78 rfl ?_
        refine EV.gR r_X11_bird_79 la_106 ?_
        refine EV.o r_X11_bird_82 (bpN (22) 22) ?_
        refine EV.l (lv' := [(0, _), (1, _), (2, _)]) r_X11_bird_84 rfl ?_
        refine EV.o r_X11_bird_85 iaddN ?_
        refine EV.iaN r_X11_bird_86 la_126 (mr2.le _ (by omega)) ?_
        refine EV.ci r_X11_bird_87 (aV3 mt_217 la_106) (m_walkBy mc2 cb mr2 hb_ ml2 lb (by omega) (by omega)) (fun v I3 h2 => ?_)
        obtain ⟨e, fr_⟩ := h2
        subst e
        rw [wk_eq hb_ wm (by omega)]
        have mc3 := MC.fr (I' := I3) mc2 (fr_ 106 (by decide) (by decide)) (fun x h1 h2 => fr_ x (by omega) (by omega))
        have mr3 := MR.fr (I' := I3) mr2 (fr_ 126 (by decide) (by decide))
        refine EV.l (lv' := [(0, _), (1, _), (2, _), (3, _)]) r_X11_bird_90 rfl ?_
        refine EV.l (lv' := [(0, _), (1, _), (2, _), (3, _)]) r_X11_bird_91 rfl ?_
        refine EV.o r_X11_bird_92 (icN (2) (v := 2)) ?_
        refine EV.n2_ne r_X11_bird_93 (fun h93 => ?_) (fun h93 => ?_)
        · -- 93 t
          refine EV.l (lv' := [(0, _), (1, _), (2, _), (3, _)]) r_X11_bird_100 rfl ?_
          refine EV.o r_X11_bird_101 (icN (3) (v := 3)) ?_
          refine EV.n2_ne r_X11_bird_102 (fun h102 => ?_) (fun h102 => ?_)
          · -- 102 t
            refine EV.l (lv' := [(0, _), (1, _), (2, _), (3, _)]) r_X11_bird_117 rfl ?_
            refine EV.gR r_X11_bird_118 la_106 ?_
            refine EV.o r_X11_bird_121 (bpN (18) 18) ?_
            refine EV.l (lv' := [(0, _), (1, _), (2, _), (3, _)]) r_X11_bird_123 rfl ?_
            refine EV.o r_X11_bird_124 iaddN ?_
            refine EV.iaN r_X11_bird_125 la_126 (mr3.be _ (by omega)) ?_
            refine EV.l (lv' := [(0, _), (1, _), (2, _), (3, _)]) r_X11_bird_126 rfl ?_
            refine EV.o r_X11_bird_127 iaddN ?_
            refine EV.o r_X11_bird_128 (icN (1) (v := 1)) ?_
            refine EV.o r_X11_bird_129 (isubN) ?_
            exact EV.ri r_X11_bird_130 (⟨rfl, by first | exact FM_of fr_ | exact FM_2⟩)
          · omega
        · omega
      · omega
    · omega
