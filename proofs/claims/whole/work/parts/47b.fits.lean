/-! (goes on) -/
theorem c_fitsX {d : Nat} {I : Nat → Nat → Int32} {J : Nat → Nat → Int64} {κ : CT} (hc_ : HC 4 κ I) (cb : CB κ) {y : Int} (y1 : -2147483648 ≤ y) (y2 : y < 2147483648) (hy : ¬ (0 ≤ y ∧ y ≤ 1))  (hd : 9 ≤ d) : RX d 132 [.ref 0, .int (zI y)] I J 1 (fun I' => I' = ref1 I 14) := by
  refine RX.in (d0 := 8) hd mt_132 (Nat.le_of_ble_eq_true rfl) (fun d' hd' => ?_)
  have bns := cb.ns; have bnb := cb.nb; have bnc := cb.nc; have bnr := cb.nr
  have pn := Nat.two_pow_pos κ.ns; have qn := pow_ns cb; have pc := Nat.two_pow_pos κ.nc; have qc := pow_nc cb
  show EV none M_X10_fits d' 0 [(0, .ref 0), (1, .int (zI y))] [] (hp I J) _
  refine EV.l (lv' := [(0, _), (1, _)]) r_X10_fits_0 rfl ?_
  refine EV.l (lv' := [(0, _), (1, _)]) r_X10_fits_1 rfl ?_
  refine EV.z0_eq r_X10_fits_2 (fun h2 => ?_) (fun h2 => ?_)
  · -- 2 t
    refine EV.o r_X10_fits_10 (icN (1) (v := 1)) ?_
    refine EV.g r_X10_fits_11 ?_
    omega
  · -- 2 f
    refine EV.l (lv' := [(0, _), (1, _)]) r_X10_fits_5 rfl ?_
    refine EV.o r_X10_fits_6 (icN (1) (v := 1)) ?_
    refine EV.zn2_ne r_X10_fits_7 (fun h7 => ?_) (fun h7 => ?_)
    · -- 7 t
      refine EV.o r_X10_fits_14 (icN (0) (v := 0)) ?_
      exact EV.cx r_X10_fits_15 (aV1 mt_159 la_0) (c_arg0 (by omega)) (fun _ h => h)
    · -- 7 f
      refine EV.o r_X10_fits_10 (icN (1) (v := 1)) ?_
      refine EV.g r_X10_fits_11 ?_
      omega
theorem c_lookX {d : Nat} {I : Nat → Nat → Int32} {J : Nat → Nat → Int64} {κ : CT} (hc_ : HC 4 κ I) (cb : CB κ) {y : Int} (y1 : -2147483648 ≤ y) (y2 : y < 2147483648) (hy : ¬ (0 ≤ y ∧ y ≤ 1))  (hd : 9 ≤ d) : RX d 133 [.ref 0, .int (zI y)] I J 1 (fun I' => I' = ref1 I 14) := by
  refine RX.in (d0 := 8) hd mt_133 (Nat.le_of_ble_eq_true rfl) (fun d' hd' => ?_)
  have bns := cb.ns; have bnb := cb.nb; have bnc := cb.nc; have bnr := cb.nr
  have pn := Nat.two_pow_pos κ.ns; have qn := pow_ns cb; have pc := Nat.two_pow_pos κ.nc; have qc := pow_nc cb
  show EV none M_X10_look d' 0 [(0, .ref 0), (1, .int (zI y))] [] (hp I J) _
  refine EV.l (lv' := [(0, _), (1, _)]) r_X10_look_0 rfl ?_
  refine EV.l (lv' := [(0, _), (1, _)]) r_X10_look_1 rfl ?_
  refine EV.z0_eq r_X10_look_2 (fun h2 => ?_) (fun h2 => ?_)
  · -- 2 t
    refine EV.o r_X10_look_10 (icN (1) (v := 1)) ?_
    refine EV.g r_X10_look_11 ?_
    omega
  · -- 2 f
    refine EV.l (lv' := [(0, _), (1, _)]) r_X10_look_5 rfl ?_
    refine EV.o r_X10_look_6 (icN (1) (v := 1)) ?_
    refine EV.zn2_ne r_X10_look_7 (fun h7 => ?_) (fun h7 => ?_)
    · -- 7 t
      refine EV.o r_X10_look_14 (icN (0) (v := 0)) ?_
      exact EV.cx r_X10_look_15 (aV1 mt_159 la_0) (c_arg0 (by omega)) (fun _ h => h)
    · -- 7 f
      refine EV.o r_X10_look_10 (icN (1) (v := 1)) ?_
      refine EV.g r_X10_look_11 ?_
      omega
theorem m_lays {d : Nat} {I : Nat → Nat → Int32} {J : Nat → Nat → Int64} {κ : CT} {l : LW} {η : HS} (mc_ : MC κ I) (cb : CB κ) (mr : MR 125 κ η I) (hb_ : HB κ η) (ml_ : ML l I) (lb : LB l)  (hd : 10 ≤ d) : RU d 252 [.ref 106] I J (fun I' => (∀ j, j < 10 * κ.nb → I' 132 j = nI (cby κ l η j)) ∧ ∀ o, o ≠ 121 → o ≠ 122 → o ≠ 132 → I' o = cpy I 126 0 125 0 31 o) := by
  refine RU.in (d0 := 9) hd mt_252 (Nat.le_of_ble_eq_true rfl) (fun d' hd' => ?_)
  have bns := cb.ns; have bnb := cb.nb; have bnc := cb.nc; have bnr := cb.nr
  have pn := pow_ns cb; have p0 := Nat.two_pow_pos κ.ns
  show EV none M_X11_laysCounts d' 0 [(0, .ref 106)] [] (hp I J) _
  refine EV.l (lv' := [(0, _)]) r_X11_laysCounts_0 rfl ?_
  refine EV.cu r_X11_laysCounts_1 (aV0 mt_212 la_106) (m_take (by omega)) (fun I2 e2 => ?_)
  have mc2 : MC κ I2 := by subst e2; exact mc_.fr (cpy_row (by decide)) (fun x h1 h2 => cpy_row (by omega))
  have mr2 : MR 126 κ η I2 := by subst e2; exact MR.take mr cb
  have ml2 : ML l I2 := by subst e2; exact ml_.fr (cpy_row (by decide)) (cpy_row (by decide)) (cpy_row (by decide))
  refine EV.o r_X11_laysCounts_4 (icN (0) (v := 0)) ?_
  refine EV.l (lv' := [(0, _), (1, _)]) r_X11_laysCounts_5 rfl ?_
  have L6 : ∀ y_ : Nat × (Nat → Nat → Int32), (fun y => (y.1 ≤ κ.nb ∧ (∀ j, j < 10 * y.1 → y.2 132 j = nI (cby κ l η j)) ∧ ∀ o, o ≠ 121 → o ≠ 122 → o ≠ 132 → y.2 o = I2 o) → EV none M_X11_laysCounts d' 6 [(0, .ref 106), (1, .int (nI y.1))] [] (hp y.2 J) (QU J (fun I' => (∀ j, j < 10 * κ.nb → I' 132 j = nI (cby κ l η j)) ∧ ∀ o, o ≠ 121 → o ≠ 122 → o ≠ 132 → I' o = cpy I 126 0 125 0 31 o))) y_ := by
    refine ev_loop (fun y => κ.nb - y.1) ?_
    intro ⟨b, I1⟩ ih6 hx6
    try dsimp only at ih6
    try dsimp only at hx6
    try dsimp only
    have bl := hx6.1
    have fr_ := hx6.2.2
    have mc3 := MC.fr (I' := I1) mc2 (fr_ 106 (by decide) (by decide) (by decide)) (fun x h1 h2 => fr_ x (by omega) (by omega) (by omega))
    have mr3 := MR.fr (I' := I1) mr2 (fr_ 126 (by decide) (by decide) (by decide))
    have ml3 := ML.fr (I' := I1) ml2 (fr_ 106 (by decide) (by decide) (by decide)) (fr_ 119 (by decide) (by decide) (by decide)) (fr_ 120 (by decide) (by decide) (by decide))
    refine EV.l (lv' := [(0, _), (1, _)]) r_X11_laysCounts_6 rfl ?_
    refine EV.l (lv' := [(0, _), (1, _)]) r_X11_laysCounts_7 rfl ?_
    refine EV.getV r_X11_laysCounts_8 la_106 (mc3.nb) ?_
    refine EV.n2_ge r_X11_laysCounts_11 (fun h11 => ?_) (fun h11 => ?_)
    · -- 11 t
      exact EV.ru r_X11_laysCounts_102 (⟨fun j hj => hx6.2.1 j (by omega), by subst e2; exact fr_⟩)
    · -- 11 f
      refine EV.o r_X11_laysCounts_14 (icN (0) (v := 0)) ?_
      refine EV.l (lv' := [(0, _), (1, _), (2, _)]) r_X11_laysCounts_15 rfl ?_
      refine EV.o r_X11_laysCounts_16 (icN (0) (v := 0)) ?_
      refine EV.l (lv' := [(0, _), (1, _), (2, _), (3, _)]) r_X11_laysCounts_17 rfl ?_
      have L18 : ∀ y_ : Nat × (Nat → Nat → Int32), (fun y => (y.1 ≤ κ.nb ∧ (∀ j, j < 10 * b → y.2 132 j = nI (cby κ l η j)) ∧ ∀ o, o ≠ 121 → o ≠ 122 → o ≠ 132 → y.2 o = I2 o) → EV none M_X11_laysCounts d' 18 [(0, .ref 106), (1, .int (nI b)), (2, .int (nI (ors κ l η b y.1))), (3, .int (nI y.1))] [] (hp y.2 J) (QU J (fun I' => (∀ j, j < 10 * κ.nb → I' 132 j = nI (cby κ l η j)) ∧ ∀ o, o ≠ 121 → o ≠ 122 → o ≠ 132 → I' o = cpy I 126 0 125 0 31 o))) y_ := by
        refine ev_loop (fun y => κ.nb - y.1) ?_
        intro ⟨o, I5⟩ ih18 hx18
        try dsimp only at ih18
        try dsimp only at hx18
        try dsimp only
        have ol := hx18.1
        have fr_ := hx18.2.2
        have mc3 := MC.fr (I' := I5) mc2 (fr_ 106 (by decide) (by decide) (by decide)) (fun x h1 h2 => fr_ x (by omega) (by omega) (by omega))
        have mr3 := MR.fr (I' := I5) mr2 (fr_ 126 (by decide) (by decide) (by decide))
        have ml3 := ML.fr (I' := I5) ml2 (fr_ 106 (by decide) (by decide) (by decide)) (fr_ 119 (by decide) (by decide) (by decide)) (fr_ 120 (by decide) (by decide) (by decide))
        refine EV.l (lv' := [(0, _), (1, _), (2, _), (3, _)]) r_X11_laysCounts_18 rfl ?_
        refine EV.l (lv' := [(0, _), (1, _), (2, _), (3, _)]) r_X11_laysCounts_19 rfl ?_
        refine EV.getV r_X11_laysCounts_20 la_106 (mc3.nb) ?_
        refine EV.n2_ge r_X11_laysCounts_23 (fun h23 => ?_) (fun h23 => ?_)
        · -- 23 t
          refine EV.o r_X11_laysCounts_50 (icN (0) (v := 0)) ?_
          refine EV.l (lv' := [(0, _), (1, _), (2, _), (3, _)]) r_X11_laysCounts_51 rfl ?_
          have L52 : ∀ y_ : Nat × (Nat → Nat → Int32), (fun y => (y.1 ≤ 10 ∧ (∀ j, j < 10 * b + y.1 → y.2 132 j = nI (cby κ l η j)) ∧ ∀ o, o ≠ 121 → o ≠ 122 → o ≠ 132 → y.2 o = I2 o) → EV none M_X11_laysCounts d' 52 [(0, .ref 106), (1, .int (nI b)), (2, .int (nI (ors κ l η b κ.nb))), (3, .int (nI y.1))] [] (hp y.2 J) (QU J (fun I' => (∀ j, j < 10 * κ.nb → I' 132 j = nI (cby κ l η j)) ∧ ∀ o, o ≠ 121 → o ≠ 122 → o ≠ 132 → I' o = cpy I 126 0 125 0 31 o))) y_ := by
            refine ev_loop (fun y => 10 - y.1) ?_
            intro ⟨n, I7⟩ ih52 hx52
            try dsimp only at ih52
            try dsimp only at hx52
            try dsimp only
            have nl := hx52.1
            have fr_ := hx52.2.2
            have mc3 := MC.fr (I' := I7) mc2 (fr_ 106 (by decide) (by decide) (by decide)) (fun x h1 h2 => fr_ x (by omega) (by omega) (by omega))
            have mr3 := MR.fr (I' := I7) mr2 (fr_ 126 (by decide) (by decide) (by decide))
            have ml3 := ML.fr (I' := I7) ml2 (fr_ 106 (by decide) (by decide) (by decide)) (fr_ 119 (by decide) (by decide) (by decide)) (fr_ 120 (by decide) (by decide) (by decide))
            refine EV.l (lv' := [(0, _), (1, _), (2, _), (3, _)]) r_X11_laysCounts_52 rfl ?_
            refine EV.o r_X11_laysCounts_53 (bpN (10) 10) ?_
            refine EV.n2_ge r_X11_laysCounts_55 (fun h55 => ?_) (fun h55 => ?_)
            · -- 55 t
              refine EV.l (lv' := [(0, _), (1, _), (2, _), (3, _)]) r_X11_laysCounts_96 rfl ?_
              rw [inc_nI]
              refine EV.g r_X11_laysCounts_99 ?_
              refine EV.fg (lv' := [(0, _), (1, _)]) r_X11_laysCounts_6 rfl rfl rfl ?_
              refine EV.sub ?_ rfl ?_ (ih6 (b + 1, I7) ?_ ?_)
              · (try dsimp only) <;> (rfl)
              · (try dsimp only) <;> (rfl)
              · (try dsimp only) <;> (omega)
              · (try dsimp only) <;> (exact ⟨by omega, fun j hj => hx52.2.1 j (by omega), fr_⟩)
            · -- 55 f
              refine EV.l (lv' := [(0, _), (1, _), (2, _), (3, _)]) r_X11_laysCounts_58 rfl ?_
              refine EV.gR r_X11_laysCounts_59 la_106 ?_
              refine EV.o r_X11_laysCounts_62 (bpN (10) 10) ?_
              refine EV.l (lv' := [(0, _), (1, _), (2, _), (3, _)]) r_X11_laysCounts_64 rfl ?_
              refine EV.o r_X11_laysCounts_65 imulN ?_
              refine EV.l (lv' := [(0, _), (1, _), (2, _), (3, _)]) r_X11_laysCounts_66 rfl ?_
              refine EV.o r_X11_laysCounts_67 iaddN ?_
              refine EV.o r_X11_laysCounts_68 (icN (1) (v := 1)) ?_
              refine EV.l (lv' := [(0, _), (1, _), (2, _), (3, _)]) r_X11_laysCounts_69 rfl ?_
              refine EV.getV r_X11_laysCounts_70 la_106 (mc3.ns) ?_
              refine EV.o r_X11_laysCounts_73 (ishl1) ?_
              refine EV.o r_X11_laysCounts_74 (icN (1) (v := 1)) ?_
              refine EV.o r_X11_laysCounts_75 (isubN) ?_
              refine EV.l (lv' := [(0, _), (1, _), (2, _), (3, _)]) r_X11_laysCounts_76 rfl ?_
              refine EV.o r_X11_laysCounts_77 (icZ (-1)) ?_
              refine EV.o r_X11_laysCounts_78 inotN ?_
              refine EV.o r_X11_laysCounts_79 iandC ?_
              refine EV.l (lv' := [(0, _), (1, _), (2, _), (3, _)]) r_X11_laysCounts_80 rfl ?_
              refine EV.l (lv' := [(0, _), (1, _), (2, _), (3, _)]) r_X11_laysCounts_81 rfl ?_
              refine EV.l (lv' := [(0, _), (1, _), (2, _), (3, _)]) r_X11_laysCounts_82 rfl ?_
              refine EV.ci r_X11_laysCounts_83 (aV2 mt_219 la_106) (m_overBy mc3 cb mr3 hb_ ml3 lb (by omega) (by omega) (by omega)) (fun v I4 h4 => ?_)
              obtain ⟨e, fr4⟩ := h4
              subst e
              refine EV.o r_X11_laysCounts_86 (icZ (-1)) ?_
              refine EV.o r_X11_laysCounts_87 inotN ?_
              refine EV.o r_X11_laysCounts_88 (iandC) ?_
              rw [← andc_or, cby_at (by omega)]
              refine EV.iaSn r_X11_laysCounts_89 la_132 (fun I8 e8 => ?_)
              refine EV.l (lv' := [(0, _), (1, _), (2, _), (3, _)]) r_X11_laysCounts_90 rfl ?_
              rw [inc_nI]
              refine EV.g r_X11_laysCounts_93 ?_
              refine EV.sub ?_ rfl ?_ (ih52 (n + 1, I8) ?_ ?_)
              · (try dsimp only) <;> (rfl)
              · (try dsimp only) <;> (rfl)
              · (try dsimp only) <;> (omega)
              · (try dsimp only) <;> (subst e8; exact ⟨by omega, wr_ext (f := fun j => nI (cby κ l η j)) (fun j hj => by rw [fr4 132 (by decide) (by decide)]; exact hx52.2.1 j hj), fun o h1 h2 h3 => (wr_row h3).trans ((fr4 o h1 h2).trans (fr_ o h1 h2 h3))⟩)
          have h0 := L52 ((0, I5))
          try dsimp only at h0
          refine EV.sub ?_ rfl ?_ (h0 ?_)
          · (try dsimp only) <;> (rw [show κ.nb = o by omega])
          · (try dsimp only) <;> (rfl)
          · (try dsimp only) <;> (exact ⟨Nat.zero_le _, hx18.2.1, fr_⟩)
        · -- 23 f
          refine EV.l (lv' := [(0, _), (1, _), (2, _), (3, _)]) r_X11_laysCounts_26 rfl ?_
          refine EV.l (lv' := [(0, _), (1, _), (2, _), (3, _)]) r_X11_laysCounts_27 rfl ?_
          refine EV.l (lv' := [(0, _), (1, _), (2, _), (3, _)]) r_X11_laysCounts_28 rfl ?_
          refine EV.n2_ne r_X11_laysCounts_29 (fun h29 => ?_) (fun h29 => ?_)
          · -- 29 t
            refine EV.l (lv' := [(0, _), (1, _), (2, _), (3, _)]) r_X11_laysCounts_36 rfl ?_
            refine EV.l (lv' := [(0, _), (1, _), (2, _), (3, _)]) r_X11_laysCounts_37 rfl ?_
            refine EV.o r_X11_laysCounts_38 (icN (0) (v := 0)) ?_
            refine EV.ci r_X11_laysCounts_39 (aV2 mt_219 la_106) (m_overBy mc3 cb mr3 hb_ ml3 lb (by omega) (by omega) (by omega)) (fun v I4 h4 => ?_)
            obtain ⟨e, fr4⟩ := h4
            subst e
            refine EV.o r_X11_laysCounts_42 iorN ?_
            refine EV.l (lv' := [(0, _), (1, _), (2, _), (3, _)]) r_X11_laysCounts_43 rfl ?_
            refine EV.l (lv' := [(0, _), (1, _), (2, _), (3, _)]) r_X11_laysCounts_44 rfl ?_
            rw [inc_nI]
            refine EV.g r_X11_laysCounts_47 ?_
            refine EV.sub ?_ rfl ?_ (ih18 (o + 1, I4) ?_ ?_)
            · (try dsimp only) <;> (first | rw [Nat.or_zero, ors_t (by assumption)] | rw [ors_f (by assumption)])
            · (try dsimp only) <;> (rfl)
            · (try dsimp only) <;> (omega)
            · (try dsimp only) <;> (first | exact ⟨by omega, hx18.2.1, fr_⟩ | exact ⟨by omega, fun j hj => by rw [fr4 132 (by decide) (by decide)]; exact hx18.2.1 j hj, fun o h1 h2 h3 => (fr4 o h1 h2).trans (fr_ o h1 h2 h3)⟩)
          · -- 29 f
            refine EV.o r_X11_laysCounts_32 (icN (0) (v := 0)) ?_
            refine EV.g r_X11_laysCounts_33 ?_
            refine EV.o r_X11_laysCounts_42 iorN ?_
            refine EV.l (lv' := [(0, _), (1, _), (2, _), (3, _)]) r_X11_laysCounts_43 rfl ?_
            refine EV.l (lv' := [(0, _), (1, _), (2, _), (3, _)]) r_X11_laysCounts_44 rfl ?_
            rw [inc_nI]
            refine EV.g r_X11_laysCounts_47 ?_
            refine EV.sub ?_ rfl ?_ (ih18 (o + 1, I5) ?_ ?_)
            · (try dsimp only) <;> (first | rw [Nat.or_zero, ors_t (by assumption)] | rw [ors_f (by assumption)])
            · (try dsimp only) <;> (rfl)
            · (try dsimp only) <;> (omega)
            · (try dsimp only) <;> (first | exact ⟨by omega, hx18.2.1, fr_⟩ | exact ⟨by omega, fun j hj => by rw [fr4 132 (by decide) (by decide)]; exact hx18.2.1 j hj, fun o h1 h2 h3 => (fr4 o h1 h2).trans (fr_ o h1 h2 h3)⟩)
      have h0 := L18 ((0, I1))
      try dsimp only at h0
      refine EV.sub ?_ rfl ?_ (h0 ?_)
      · (try dsimp only) <;> (rfl)
      · (try dsimp only) <;> (rfl)
      · (try dsimp only) <;> (exact ⟨Nat.zero_le _, hx6.2.1, fr_⟩)
  have h0 := L6 ((0, I2))
  try dsimp only at h0
  refine EV.sub ?_ rfl ?_ (h0 ?_)
  · (try dsimp only) <;> (rfl)
  · (try dsimp only) <;> (rfl)
  · (try dsimp only) <;> (exact ⟨Nat.zero_le _, fun j hj => by omega, fun _ _ _ _ => rfl⟩)
theorem m_isFit {d : Nat} {I : Nat → Nat → Int32} {J : Nat → Nat → Int64} {κ : CT} {l : LW} {η : HS} {bt br : Nat} (mc_ : MC κ I) (cb : CB κ) (hbk : ∀ j, j < 9 → I 129 j = opI (bkO bt br j)) (hbt : bt < 2 ^ κ.ns) (hbr : br &&& bt = br) (cv : ∀ j, j < 10 * κ.nb → I 132 j = nI (cby κ l η j)) {i : Nat} (hi : i < 10 * κ.nb)  (hd : 2 ≤ d) : RV d 253 [.ref 106, .int (nI i)] I J (bI (ftB κ l η bt br i)) := by
  refine RV.in (d0 := 1) hd mt_253 (Nat.le_of_ble_eq_true rfl) (fun d' hd' => ?_)
  have bns := cb.ns; have bnb := cb.nb; have bnc := cb.nc; have bnr := cb.nr
  have c9 := cby_lt (κ := κ) (l := l) (η := η) (i := i); have pn := pow_ns cb
  show EV none M_X11_isFit d' 0 [(0, .ref 106), (1, .int (nI i))] [] (hp I J) _
  refine EV.o r_X11_isFit_0 (icN (1) (v := 1)) ?_
  refine EV.l (lv' := [(0, _), (1, _), (2, _)]) r_X11_isFit_1 rfl ?_
  refine EV.o r_X11_isFit_2 (icN (0) (v := 0)) ?_
  refine EV.l (lv' := [(0, _), (1, _), (2, _), (3, _)]) r_X11_isFit_3 rfl ?_
  have L4 : ∀ y_ : Nat, (fun k => k ≤ κ.ns → EV none M_X11_isFit d' 4 [(0, .ref 106), (1, .int (nI i)), (2, .int (bI (ifM (cby κ l η i) bt br k))), (3, .int (nI k))] [] (hp I J) (QV I J (bI (ftB κ l η bt br i)))) y_ := by
    refine ev_loop (fun k => κ.ns - k) ?_
    intro k ih4 hx4
    try dsimp only at ih4
    try dsimp only at hx4
    try dsimp only
    refine EV.l (lv' := [(0, _), (1, _), (2, _), (3, _)]) r_X11_isFit_4 rfl ?_
    refine EV.l (lv' := [(0, _), (1, _), (2, _), (3, _)]) r_X11_isFit_5 rfl ?_
    refine EV.getV r_X11_isFit_6 la_106 (mc_.ns) ?_
    refine EV.n2_ge r_X11_isFit_9 (fun h9 => ?_) (fun h9 => ?_)
    · -- 9 t
      refine EV.l (lv' := [(0, _), (1, _), (2, _), (3, _)]) r_X11_isFit_57 rfl ?_
      exact EV.rv r_X11_isFit_58 (congrArg bI (by rw [show k = κ.ns by omega]; exact ifM_eq hbt hbr)) ret_b
    · -- 9 f
      refine EV.l (lv' := [(0, _), (1, _), (2, _), (3, _)]) r_X11_isFit_12 rfl ?_
      refine EV.b0_eq r_X11_isFit_13 (fun h13 => ?_) (fun h13 => ?_)
      · -- 13 t
        refine EV.o r_X11_isFit_49 (icN (0) (v := 0)) ?_
        refine EV.l (lv' := [(0, _), (1, _), (2, _), (3, _)]) r_X11_isFit_50 rfl ?_
        refine EV.l (lv' := [(0, _), (1, _), (2, _), (3, _)]) r_X11_isFit_51 rfl ?_
        rw [inc_nI]
        refine EV.g r_X11_isFit_54 ?_
        refine EV.sub ?_ rfl ?_ (ih4 (k + 1) ?_ ?_)
        · first | (rw [← ifM_f (by assumption)]; rfl) | (rw [← ifM_n (by assumption) (by assumption)]; rfl) | (rw [← ifM_e (by assumption) (by assumption) (by assumption)]; rfl) | (rw [← ifM_d (by assumption) (by assumption)]; rfl)
        · rfl
        · omega
        · omega
      · -- 13 f
        refine EV.l (lv' := [(0, _), (1, _), (2, _), (3, _)]) r_X11_isFit_16 rfl ?_
        refine EV.gR r_X11_isFit_17 la_106 ?_
        refine EV.l (lv' := [(0, _), (1, _), (2, _), (3, _)]) r_X11_isFit_20 rfl ?_
        refine EV.iaN r_X11_isFit_21 la_129 (hbk _ (by omega)) ?_
        refine EV.o r_X11_isFit_22 (icZ (-1)) ?_
        refine EV.op_eq r_X11_isFit_23 (fun h23 => ?_) (fun h23 => ?_) (fun c ec_ => by have := bkO_lt ec_; omega)
        · -- 23 t
          refine EV.o r_X11_isFit_45 (icN (1) (v := 1)) ?_
          refine EV.g r_X11_isFit_46 ?_
          refine EV.l (lv' := [(0, _), (1, _), (2, _), (3, _)]) r_X11_isFit_50 rfl ?_
          refine EV.l (lv' := [(0, _), (1, _), (2, _), (3, _)]) r_X11_isFit_51 rfl ?_
          rw [inc_nI]
          refine EV.g r_X11_isFit_54 ?_
          refine EV.sub ?_ rfl ?_ (ih4 (k + 1) ?_ ?_)
          · first | (rw [← ifM_f (by assumption)]; rfl) | (rw [← ifM_n (by assumption) (by assumption)]; rfl) | (rw [← ifM_e (by assumption) (by assumption) (by assumption)]; rfl) | (rw [← ifM_d (by assumption) (by assumption)]; rfl)
          · rfl
          · omega
          · omega
        · -- 23 f
          obtain ⟨c, ec_⟩ := h23
          have c2 := bkO_lt ec_
          refine EV.l (lv' := [(0, _), (1, _), (2, _), (3, _)]) r_X11_isFit_26 rfl ?_
          refine EV.gR r_X11_isFit_27 la_106 ?_
          refine EV.l (lv' := [(0, _), (1, _), (2, _), (3, _)]) r_X11_isFit_30 rfl ?_
          refine EV.iaN r_X11_isFit_31 la_132 (cv _ (by omega)) ?_
          refine EV.l (lv' := [(0, _), (1, _), (2, _), (3, _)]) r_X11_isFit_32 rfl ?_
          refine EV.o r_X11_isFit_33 (ishrN) ?_
          refine EV.o r_X11_isFit_34 (icN (1) (v := 1)) ?_
          refine EV.o r_X11_isFit_35 (ibitN) ?_
          refine EV.l (lv' := [(0, _), (1, _), (2, _), (3, _)]) r_X11_isFit_36 rfl ?_
          refine EV.gR r_X11_isFit_37 la_106 ?_
          refine EV.l (lv' := [(0, _), (1, _), (2, _), (3, _)]) r_X11_isFit_40 rfl ?_
          refine EV.iaN r_X11_isFit_41 la_129 (hbk _ (by omega)) ?_
          rw [ec_, opI_some]
          have tb_ := bt_lt ((cby κ l η i).testBit k)
          refine EV.n2_ne r_X11_isFit_42 (fun h42 => ?_) (fun h42 => ?_)
          · -- 42 t
            refine EV.o r_X11_isFit_49 (icN (0) (v := 0)) ?_
            refine EV.l (lv' := [(0, _), (1, _), (2, _), (3, _)]) r_X11_isFit_50 rfl ?_
            refine EV.l (lv' := [(0, _), (1, _), (2, _), (3, _)]) r_X11_isFit_51 rfl ?_
            rw [inc_nI]
            refine EV.g r_X11_isFit_54 ?_
            refine EV.sub ?_ rfl ?_ (ih4 (k + 1) ?_ ?_)
            · first | (rw [← ifM_f (by assumption)]; rfl) | (rw [← ifM_n (by assumption) (by assumption)]; rfl) | (rw [← ifM_e (by assumption) (by assumption) (by assumption)]; rfl) | (rw [← ifM_d (by assumption) (by assumption)]; rfl)
            · rfl
            · omega
            · omega
          · -- 42 f
            refine EV.o r_X11_isFit_45 (icN (1) (v := 1)) ?_
            refine EV.g r_X11_isFit_46 ?_
            refine EV.l (lv' := [(0, _), (1, _), (2, _), (3, _)]) r_X11_isFit_50 rfl ?_
            refine EV.l (lv' := [(0, _), (1, _), (2, _), (3, _)]) r_X11_isFit_51 rfl ?_
            rw [inc_nI]
            refine EV.g r_X11_isFit_54 ?_
            refine EV.sub ?_ rfl ?_ (ih4 (k + 1) ?_ ?_)
            · first | (rw [← ifM_f (by assumption)]; rfl) | (rw [← ifM_n (by assumption) (by assumption)]; rfl) | (rw [← ifM_e (by assumption) (by assumption) (by assumption)]; rfl) | (rw [← ifM_d (by assumption) (by assumption)]; rfl)
            · rfl
            · omega
            · omega
  have h0 := L4 (0)
  try dsimp only at h0
  refine EV.sub ?_ rfl ?_ (h0 ?_)
  · rfl
  · rfl
  · omega
theorem FR_m2 {I I' : Nat → Nat → Int32} (fr_ : ∀ o, o ≠ 121 → o ≠ 122 → o ≠ 132 → I' o = M2 I o) : FR I I' ∧ I' 106 0 = nI 0 := ⟨⟨fun j hj => by rw [fr_ 106 (by decide) (by decide) (by decide)]; exact M2_106 (fun e => by subst e; exact absurd hj (by decide)), fun o ho hs => (fr_ o (fun e => by subst e; exact absurd hs (by decide)) (fun e => by subst e; exact absurd hs (by decide)) (fun e => by subst e; exact absurd hs (by decide))).trans (M2_row ho (fun e => by subst e; exact absurd hs (by decide)))⟩, by rw [fr_ 106 (by decide) (by decide) (by decide)]; exact M2_th⟩
theorem m_fits0 {d : Nat} {I : Nat → Nat → Int32} {J : Nat → Nat → Int64} {κ : CT} {l : LW} {η : HS} (mc_ : MC κ I) (cb : CB κ) (mr : MR 125 κ η I) (hb_ : HB κ η) (ml_ : ML l I) (lb : LB l)  {bt br : Nat} (hbk : ∀ j, j < 9 → I 129 j = opI (bkO bt br j)) (hbt : bt < 2 ^ κ.ns) (hbr : br &&& bt = br)  (hd : 13 ≤ d) : RI d 254 [.ref 106, .int (nI 0)] I J (fun v I' => v = nI (ftC κ l η bt br (10 * κ.nb)) ∧ FR I I' ∧ I' 106 0 = nI 0) := by
  refine RI.in (d0 := 12) hd mt_254 (Nat.le_of_ble_eq_true rfl) (fun d' hd' => ?_)
  have bns := cb.ns; have bnb := cb.nb; have bnc := cb.nc; have bnr := cb.nr
  show EV none M_X11_fits d' 0 [(0, .ref 106), (1, .int (nI 0))] [] (hp I J) _
  refine EV.l (lv' := [(0, _), (1, _)]) r_X11_fits_0 rfl ?_
  refine EV.o r_X11_fits_1 (icN (0) (v := 0)) ?_
  refine EV.pI r_X11_fits_2 la_106 ?_
  refine EV.l (lv' := [(0, _), (1, _)]) r_X11_fits_5 rfl ?_
  refine EV.l (lv' := [(0, _), (1, _)]) r_X11_fits_6 rfl ?_
  refine EV.o r_X11_fits_7 (icN (0) (v := 0)) ?_
  refine EV.o r_X11_fits_8 (icN (1) (v := 1)) ?_
  refine EV.cv r_X11_fits_9 (aS3 mt_170) (m_wNNN (by omega) (by omega) (by omega) (by omega)) ?_
  refine EV.o r_X11_fits_12 (icN (1) (v := 1)) ?_
  refine EV.o r_X11_fits_13 (icN (1) (v := 1)) ?_
  refine EV.cv r_X11_fits_14 (aV3 mt_169 la_106) (m_mayP (by omega) wr_same (by omega)) ?_
  refine EV.n0_ne r_X11_fits_17 (fun h17 => ?_) (fun h17 => ?_)
  · -- 17 t
    refine EV.l (lv' := [(0, _), (1, _)]) r_X11_fits_22 rfl ?_
    refine EV.cu r_X11_fits_23 (aV0 mt_252 la_106) (m_lays (wr0_mc mc_) cb (mr.fr (wr_row (by decide))) hb_ (ml_.fr0 (fun _ hj => wr_ne (Or.inr hj)) rfl rfl) lb (by omega)) (fun I2 h2 => ?_)
    obtain ⟨cv, fr_⟩ := h2
    have frr : ∀ o, o ≠ 121 → o ≠ 122 → o ≠ 132 → I2 o = M2 I o := fr_
    have mc3 := MC.fr (I' := I2) (M2_mc mc_) (frr 106 (by decide) (by decide) (by decide)) (fun x h1 h2 => frr x (by omega) (by omega) (by omega))
    have bk2 : ∀ j, j < 9 → I2 129 j = opI (bkO bt br j) := fun j hj => by rw [frr 129 (by decide) (by decide) (by decide), M2_row (by decide) (by decide)]; exact hbk j hj
    refine EV.o r_X11_fits_26 (icN (0) (v := 0)) ?_
    refine EV.l (lv' := [(0, _), (1, _), (2, _)]) r_X11_fits_27 rfl ?_
    refine EV.o r_X11_fits_28 (icZ (-1)) ?_
    refine EV.l (lv' := [(0, _), (1, _), (2, _), (3, _)]) r_X11_fits_29 rfl ?_
    refine EV.o r_X11_fits_30 (icN (0) (v := 0)) ?_
    refine EV.l (lv' := [(0, _), (1, _), (2, _), (3, _), (4, _)]) r_X11_fits_31 rfl ?_
    have L33 : ∀ y_ : Nat, (fun i => i ≤ 10 * κ.nb → EV none M_X11_fits d' 33 [(0, .ref 106), (1, .int (nI 0)), (2, .int (nI (ftC κ l η bt br i))), (3, .int (opI (fst1 (ftB κ l η bt br) i))), (4, .int (nI i))] [] (hp I2 J) (QI J (fun v I' => v = nI (ftC κ l η bt br (10 * κ.nb)) ∧ FR I I' ∧ I' 106 0 = nI 0))) y_ := by
      refine ev_loop (fun i => 10 * κ.nb - i) ?_
      intro i ih33 hx33
      try dsimp only at ih33
      try dsimp only at hx33
      try dsimp only
      have cl_ := ftC_le (κ := κ) (l := l) (η := η) (bt := bt) (br := br) (i := i)
      refine EV.l (lv' := [(0, _), (1, _), (2, _), (3, _), (4, _)]) r_X11_fits_33 rfl ?_
      refine EV.o r_X11_fits_35 (bpN (10) 10) ?_
      refine EV.l (lv' := [(0, _), (1, _), (2, _), (3, _), (4, _)]) r_X11_fits_37 rfl ?_
      refine EV.getV r_X11_fits_38 la_106 (mc3.nb) ?_
      refine EV.o r_X11_fits_41 imulN ?_
      refine EV.n2_ge r_X11_fits_42 (fun h42 => ?_) (fun h42 => ?_)
      · -- 42 t
        refine EV.l (lv' := [(0, _), (1, _), (2, _), (3, _), (4, _)]) r_X11_fits_78 rfl ?_
        refine EV.n0_ne r_X11_fits_79 (fun h79 => ?_) (fun h79 => ?_)
        · omega
        · -- 79 f
          refine EV.l (lv' := [(0, _), (1, _), (2, _), (3, _), (4, _)]) r_X11_fits_82 rfl ?_
          refine EV.g r_X11_fits_83 ?_
          exact EV.ri r_X11_fits_87 (⟨by rw [show 10 * κ.nb = i by omega], FR_m2 frr⟩)
      · -- 42 f
        refine EV.l (lv' := [(0, _), (1, _), (2, _), (3, _), (4, _)]) r_X11_fits_45 rfl ?_
        refine EV.l (lv' := [(0, _), (1, _), (2, _), (3, _), (4, _)]) r_X11_fits_46 rfl ?_
        refine EV.cv r_X11_fits_48 (aV1 mt_253 la_106) (m_isFit mc3 cb bk2 hbt hbr cv (by omega) (by omega)) ?_
        refine EV.b0_ne r_X11_fits_51 (fun h51 => ?_) (fun h51 => ?_)
        · -- 51 t
          refine EV.l (lv' := [(0, _), (1, _), (2, _), (3, _), (4, _)]) r_X11_fits_57 rfl ?_
          rw [inc_nI]
          refine EV.l (lv' := [(0, _), (1, _), (2, _), (3, _), (4, _)]) r_X11_fits_60 rfl ?_
          refine EV.o r_X11_fits_61 (icZ (-1)) ?_
          refine EV.op_ne r_X11_fits_62 (fun h62 => ?_) (fun h62 => ?_) (fun c ec_ => by have := bst_lt ec_; omega)
          · -- 62 t
            obtain ⟨c, ec_⟩ := h62
            rw [ec_, opI_some]
            refine EV.l (lv' := [(0, _), (1, _), (2, _), (3, _), (4, _)]) r_X11_fits_70 rfl ?_
            refine EV.l (lv' := [(0, _), (1, _), (2, _), (3, _), (4, _)]) r_X11_fits_71 rfl ?_
            refine EV.l (lv' := [(0, _), (1, _), (2, _), (3, _), (4, _)]) r_X11_fits_72 rfl ?_
            rw [inc_nI]
            refine EV.g r_X11_fits_75 ?_
            refine EV.sub ?_ rfl ?_ (ih33 (i + 1) ?_ ?_)
            · first | rw [← ftC_f (by assumption), fst1_n (by assumption)] | (rw [← ftC_t (by assumption), fst1_0 (by assumption) (by assumption)]; rfl) | (rw [← ftC_t (by assumption), fst1_s ec_, ec_]; done) | (rw [← ftC_t (by assumption), fst1_s ec_]; rfl)
            · rfl
            · omega
            · omega
          · -- 62 f
            refine EV.l (lv' := [(0, _), (1, _), (2, _), (3, _), (4, _)]) r_X11_fits_65 rfl ?_
            refine EV.g r_X11_fits_67 ?_
            refine EV.l (lv' := [(0, _), (1, _), (2, _), (3, _), (4, _)]) r_X11_fits_71 rfl ?_
            refine EV.l (lv' := [(0, _), (1, _), (2, _), (3, _), (4, _)]) r_X11_fits_72 rfl ?_
            rw [inc_nI]
            refine EV.g r_X11_fits_75 ?_
            refine EV.sub ?_ rfl ?_ (ih33 (i + 1) ?_ ?_)
            · first | rw [← ftC_f (by assumption), fst1_n (by assumption)] | (rw [← ftC_t (by assumption), fst1_0 (by assumption) (by assumption)]; rfl) | (rw [← ftC_t (by assumption), fst1_s ec_, ec_]; done) | (rw [← ftC_t (by assumption), fst1_s ec_]; rfl)
            · rfl
            · omega
            · omega
        · -- 51 f
          refine EV.g r_X11_fits_54 ?_
          refine EV.l (lv' := [(0, _), (1, _), (2, _), (3, _), (4, _)]) r_X11_fits_72 rfl ?_
          rw [inc_nI]
          refine EV.g r_X11_fits_75 ?_
          refine EV.sub ?_ rfl ?_ (ih33 (i + 1) ?_ ?_)
          · first | rw [← ftC_f (by assumption), fst1_n (by assumption)] | (rw [← ftC_t (by assumption), fst1_0 (by assumption) (by assumption)]; rfl) | (rw [← ftC_t (by assumption), fst1_s ec_, ec_]; done) | (rw [← ftC_t (by assumption), fst1_s ec_]; rfl)
          · rfl
          · omega
          · omega
    have h0 := L33 (0)
    try dsimp only at h0
    refine EV.sub ?_ rfl ?_ (h0 ?_)
    · rfl
    · rfl
    · omega
  · omega
theorem m_fits1 {d : Nat} {I : Nat → Nat → Int32} {J : Nat → Nat → Int64} {κ : CT} {l : LW} {η : HS} (mc_ : MC κ I) (cb : CB κ) (mr : MR 125 κ η I) (hb_ : HB κ η) (ml_ : ML l I) (lb : LB l)  {bt br : Nat} (hbk : ∀ j, j < 9 → I 129 j = opI (bkO bt br j)) (hbt : bt < 2 ^ κ.ns) (hbr : br &&& bt = br)  (hd : 13 ≤ d) : RI d 254 [.ref 106, .int (nI 1)] I J (fun v I' => v = opI (fst1 (ftB κ l η bt br) (10 * κ.nb)) ∧ FR I I' ∧ I' 106 0 = nI 0) := by
  refine RI.in (d0 := 12) hd mt_254 (Nat.le_of_ble_eq_true rfl) (fun d' hd' => ?_)
  have bns := cb.ns; have bnb := cb.nb; have bnc := cb.nc; have bnr := cb.nr
  show EV none M_X11_fits d' 0 [(0, .ref 106), (1, .int (nI 1))] [] (hp I J) _
  refine EV.l (lv' := [(0, _), (1, _)]) r_X11_fits_0 rfl ?_
  refine EV.o r_X11_fits_1 (icN (0) (v := 0)) ?_
  refine EV.pI r_X11_fits_2 la_106 ?_
  refine EV.l (lv' := [(0, _), (1, _)]) r_X11_fits_5 rfl ?_
  refine EV.l (lv' := [(0, _), (1, _)]) r_X11_fits_6 rfl ?_
  refine EV.o r_X11_fits_7 (icN (0) (v := 0)) ?_
  refine EV.o r_X11_fits_8 (icN (1) (v := 1)) ?_
  refine EV.cv r_X11_fits_9 (aS3 mt_170) (m_wNNN (by omega) (by omega) (by omega) (by omega)) ?_
  refine EV.o r_X11_fits_12 (icN (1) (v := 1)) ?_
  refine EV.o r_X11_fits_13 (icN (1) (v := 1)) ?_
  refine EV.cv r_X11_fits_14 (aV3 mt_169 la_106) (m_mayP (by omega) wr_same (by omega)) ?_
  refine EV.n0_ne r_X11_fits_17 (fun h17 => ?_) (fun h17 => ?_)
  · -- 17 t
    refine EV.l (lv' := [(0, _), (1, _)]) r_X11_fits_22 rfl ?_
    refine EV.cu r_X11_fits_23 (aV0 mt_252 la_106) (m_lays (wr0_mc mc_) cb (mr.fr (wr_row (by decide))) hb_ (ml_.fr0 (fun _ hj => wr_ne (Or.inr hj)) rfl rfl) lb (by omega)) (fun I2 h2 => ?_)
    obtain ⟨cv, fr_⟩ := h2
    have frr : ∀ o, o ≠ 121 → o ≠ 122 → o ≠ 132 → I2 o = M2 I o := fr_
    have mc3 := MC.fr (I' := I2) (M2_mc mc_) (frr 106 (by decide) (by decide) (by decide)) (fun x h1 h2 => frr x (by omega) (by omega) (by omega))
    have bk2 : ∀ j, j < 9 → I2 129 j = opI (bkO bt br j) := fun j hj => by rw [frr 129 (by decide) (by decide) (by decide), M2_row (by decide) (by decide)]; exact hbk j hj
    refine EV.o r_X11_fits_26 (icN (0) (v := 0)) ?_
    refine EV.l (lv' := [(0, _), (1, _), (2, _)]) r_X11_fits_27 rfl ?_
    refine EV.o r_X11_fits_28 (icZ (-1)) ?_
    refine EV.l (lv' := [(0, _), (1, _), (2, _), (3, _)]) r_X11_fits_29 rfl ?_
    refine EV.o r_X11_fits_30 (icN (0) (v := 0)) ?_
    refine EV.l (lv' := [(0, _), (1, _), (2, _), (3, _), (4, _)]) r_X11_fits_31 rfl ?_
    have L33 : ∀ y_ : Nat, (fun i => i ≤ 10 * κ.nb → EV none M_X11_fits d' 33 [(0, .ref 106), (1, .int (nI 1)), (2, .int (nI (ftC κ l η bt br i))), (3, .int (opI (fst1 (ftB κ l η bt br) i))), (4, .int (nI i))] [] (hp I2 J) (QI J (fun v I' => v = opI (fst1 (ftB κ l η bt br) (10 * κ.nb)) ∧ FR I I' ∧ I' 106 0 = nI 0))) y_ := by
      refine ev_loop (fun i => 10 * κ.nb - i) ?_
      intro i ih33 hx33
      try dsimp only at ih33
      try dsimp only at hx33
      try dsimp only
      have cl_ := ftC_le (κ := κ) (l := l) (η := η) (bt := bt) (br := br) (i := i)
      refine EV.l (lv' := [(0, _), (1, _), (2, _), (3, _), (4, _)]) r_X11_fits_33 rfl ?_
      refine EV.o r_X11_fits_35 (bpN (10) 10) ?_
      refine EV.l (lv' := [(0, _), (1, _), (2, _), (3, _), (4, _)]) r_X11_fits_37 rfl ?_
      refine EV.getV r_X11_fits_38 la_106 (mc3.nb) ?_
      refine EV.o r_X11_fits_41 imulN ?_
      refine EV.n2_ge r_X11_fits_42 (fun h42 => ?_) (fun h42 => ?_)
      · -- 42 t
        refine EV.l (lv' := [(0, _), (1, _), (2, _), (3, _), (4, _)]) r_X11_fits_78 rfl ?_
        refine EV.n0_ne r_X11_fits_79 (fun h79 => ?_) (fun h79 => ?_)
        · -- 79 t
          refine EV.l (lv' := [(0, _), (1, _), (2, _), (3, _), (4, _)]) r_X11_fits_86 rfl ?_
          exact EV.ri r_X11_fits_87 (⟨by rw [show 10 * κ.nb = i by omega], FR_m2 frr⟩)
        · omega
      · -- 42 f
        refine EV.l (lv' := [(0, _), (1, _), (2, _), (3, _), (4, _)]) r_X11_fits_45 rfl ?_
        refine EV.l (lv' := [(0, _), (1, _), (2, _), (3, _), (4, _)]) r_X11_fits_46 rfl ?_
        refine EV.cv r_X11_fits_48 (aV1 mt_253 la_106) (m_isFit mc3 cb bk2 hbt hbr cv (by omega) (by omega)) ?_
        refine EV.b0_ne r_X11_fits_51 (fun h51 => ?_) (fun h51 => ?_)
        · -- 51 t
          refine EV.l (lv' := [(0, _), (1, _), (2, _), (3, _), (4, _)]) r_X11_fits_57 rfl ?_
          rw [inc_nI]
          refine EV.l (lv' := [(0, _), (1, _), (2, _), (3, _), (4, _)]) r_X11_fits_60 rfl ?_
          refine EV.o r_X11_fits_61 (icZ (-1)) ?_
          refine EV.op_ne r_X11_fits_62 (fun h62 => ?_) (fun h62 => ?_) (fun c ec_ => by have := bst_lt ec_; omega)
          · -- 62 t
            obtain ⟨c, ec_⟩ := h62
            rw [ec_, opI_some]
            refine EV.l (lv' := [(0, _), (1, _), (2, _), (3, _), (4, _)]) r_X11_fits_70 rfl ?_
            refine EV.l (lv' := [(0, _), (1, _), (2, _), (3, _), (4, _)]) r_X11_fits_71 rfl ?_
            refine EV.l (lv' := [(0, _), (1, _), (2, _), (3, _), (4, _)]) r_X11_fits_72 rfl ?_
            rw [inc_nI]
            refine EV.g r_X11_fits_75 ?_
            refine EV.sub ?_ rfl ?_ (ih33 (i + 1) ?_ ?_)
            · first | rw [← ftC_f (by assumption), fst1_n (by assumption)] | (rw [← ftC_t (by assumption), fst1_0 (by assumption) (by assumption)]; rfl) | (rw [← ftC_t (by assumption), fst1_s ec_, ec_]; done) | (rw [← ftC_t (by assumption), fst1_s ec_]; rfl)
            · rfl
            · omega
            · omega
          · -- 62 f
            refine EV.l (lv' := [(0, _), (1, _), (2, _), (3, _), (4, _)]) r_X11_fits_65 rfl ?_
            refine EV.g r_X11_fits_67 ?_
            refine EV.l (lv' := [(0, _), (1, _), (2, _), (3, _), (4, _)]) r_X11_fits_71 rfl ?_
            refine EV.l (lv' := [(0, _), (1, _), (2, _), (3, _), (4, _)]) r_X11_fits_72 rfl ?_
            rw [inc_nI]
            refine EV.g r_X11_fits_75 ?_
            refine EV.sub ?_ rfl ?_ (ih33 (i + 1) ?_ ?_)
            · first | rw [← ftC_f (by assumption), fst1_n (by assumption)] | (rw [← ftC_t (by assumption), fst1_0 (by assumption) (by assumption)]; rfl) | (rw [← ftC_t (by assumption), fst1_s ec_, ec_]; done) | (rw [← ftC_t (by assumption), fst1_s ec_]; rfl)
            · rfl
            · omega
            · omega
        · -- 51 f
          refine EV.g r_X11_fits_54 ?_
          refine EV.l (lv' := [(0, _), (1, _), (2, _), (3, _), (4, _)]) r_X11_fits_72 rfl ?_
          rw [inc_nI]
          refine EV.g r_X11_fits_75 ?_
          refine EV.sub ?_ rfl ?_ (ih33 (i + 1) ?_ ?_)
          · first | rw [← ftC_f (by assumption), fst1_n (by assumption)] | (rw [← ftC_t (by assumption), fst1_0 (by assumption) (by assumption)]; rfl) | (rw [← ftC_t (by assumption), fst1_s ec_, ec_]; done) | (rw [← ftC_t (by assumption), fst1_s ec_]; rfl)
          · rfl
          · omega
          · omega
    have h0 := L33 (0)
    try dsimp only at h0
    refine EV.sub ?_ rfl ?_ (h0 ?_)
    · rfl
    · rfl
    · omega
  · omega
