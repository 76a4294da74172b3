/-! (goes on) -/
theorem m_counsel0 {d : Nat} {I : Nat → Nat → Int32} {J : Nat → Nat → Int64} {κ : CT} {l : LW} {η : HS} (mc_ : MC κ I) (cb : CB κ) (mr : MR 125 κ η I) (hb_ : HB κ η) (ml_ : ML l I) (lb : LB l) (wm : WM κ l η) {k : Nat} (h : k < κ.nc)  (hd : 13 ≤ d) : RI d 243 [.ref 106, .int (nI k), .int (nI 0)] I J (fun v I' => v = nI (η.cr k) ∧ FM I I') := by
  refine RI.in (d0 := 12) hd mt_243 (Nat.le_of_ble_eq_true rfl) (fun d' hd' => ?_)
  have bns := cb.ns; have bnb := cb.nb; have bnc := cb.nc; have bnr := cb.nr
  have bm_ := hb_.mi
  have mc1 := wr0_mc (v := nI 0) mc_; have mr1 := MR.fr (I' := wr I 106 0 (nI 0)) mr (wr_row (by decide))
  show EV none M_X11_counsel d' 0 [(0, .ref 106), (1, .int (nI k)), (2, .int (nI 0))] [] (hp I J) _
  refine EV.l (lv' := [(0, _), (1, _), (2, _)]) r_X11_counsel_0 rfl ?_
  refine EV.o r_X11_counsel_1 (icN (0) (v := 0)) ?_
  refine EV.pI r_X11_counsel_2 la_106 ?_
  refine EV.l (lv' := [(0, _), (1, _), (2, _)]) r_X11_counsel_5 rfl ?_
  refine EV.l (lv' := [(0, _), (1, _), (2, _)]) r_X11_counsel_6 rfl ?_
  refine EV.o r_X11_counsel_7 (icN (1) (v := 1)) ?_
  refine EV.cv r_X11_counsel_8 (aV2 mt_240 la_106) (m_isCouns1 (wr0_mc mc_) cb wr_same (by omega) (by omega)) ?_
  refine EV.n0_eq r_X11_counsel_11 (fun h11 => ?_) (fun h11 => ?_)
  · omega
  · -- 11 f
    refine EV.l (lv' := [(0, _), (1, _), (2, _)]) r_X11_counsel_14 rfl ?_
    refine EV.l (lv' := [(0, _), (1, _), (2, _)]) r_X11_counsel_15 rfl ?_
    refine EV.o r_X11_counsel_16 (icN (0) (v := 0)) ?_
    refine EV.o r_X11_counsel_17 (icN (1) (v := 1)) ?_
    refine EV.cv r_X11_counsel_18 (aS3 mt_170) (m_wNNN (by omega) (by omega) (by omega) (by omega)) ?_
    refine EV.o r_X11_counsel_21 (icN (2) (v := 2)) ?_
    refine EV.o r_X11_counsel_22 (icN (1) (v := 1)) ?_
    refine EV.cv r_X11_counsel_23 (aV3 mt_169 la_106) (m_mayP (by omega) wr_same (by omega)) ?_
    refine EV.n0_ne r_X11_counsel_26 (fun h26 => ?_) (fun h26 => ?_)
    · -- 26 t
      refine EV.l (lv' := [(0, _), (1, _), (2, _)]) r_X11_counsel_31 rfl ?_
      refine EV.n0_ne r_X11_counsel_32 (fun h32 => ?_) (fun h32 => ?_)
      · omega
      · -- 32 f
        refine EV.l (lv' := [(0, _), (1, _), (2, _)]) r_X11_counsel_35 rfl ?_
        refine EV.gR r_X11_counsel_36 la_106 ?_
        refine EV.o r_X11_counsel_39 (bpN (26) 26) ?_
        refine EV.l (lv' := [(0, _), (1, _), (2, _)]) r_X11_counsel_41 rfl ?_
        refine EV.o r_X11_counsel_42 iaddN ?_
        refine EV.iaN r_X11_counsel_43 la_125 (mr1.cr _ (by omega)) ?_
        refine EV.g r_X11_counsel_44 ?_
        exact EV.ri r_X11_counsel_57 (⟨rfl, FM_0⟩)
    · omega
theorem m_counsel1 {d : Nat} {I : Nat → Nat → Int32} {J : Nat → Nat → Int64} {κ : CT} {l : LW} {η : HS} (mc_ : MC κ I) (cb : CB κ) (mr : MR 125 κ η I) (hb_ : HB κ η) (ml_ : ML l I) (lb : LB l) (wm : WM κ l η) {k : Nat} (h : k < κ.nc)  (hd : 13 ≤ d) : RI d 243 [.ref 106, .int (nI k), .int (nI 1)] I J (fun v I' => v = nI (κ.cs k) ∧ FM I I') := by
  refine RI.in (d0 := 12) hd mt_243 (Nat.le_of_ble_eq_true rfl) (fun d' hd' => ?_)
  have bns := cb.ns; have bnb := cb.nb; have bnc := cb.nc; have bnr := cb.nr
  have bm_ := hb_.mi
  have mc1 := wr0_mc (v := nI 0) mc_; have mr1 := MR.fr (I' := wr I 106 0 (nI 0)) mr (wr_row (by decide))
  show EV none M_X11_counsel d' 0 [(0, .ref 106), (1, .int (nI k)), (2, .int (nI 1))] [] (hp I J) _
  refine EV.l (lv' := [(0, _), (1, _), (2, _)]) r_X11_counsel_0 rfl ?_
  refine EV.o r_X11_counsel_1 (icN (0) (v := 0)) ?_
  refine EV.pI r_X11_counsel_2 la_106 ?_
  refine EV.l (lv' := [(0, _), (1, _), (2, _)]) r_X11_counsel_5 rfl ?_
  refine EV.l (lv' := [(0, _), (1, _), (2, _)]) r_X11_counsel_6 rfl ?_
  refine EV.o r_X11_counsel_7 (icN (1) (v := 1)) ?_
  refine EV.cv r_X11_counsel_8 (aV2 mt_240 la_106) (m_isCouns1 (wr0_mc mc_) cb wr_same (by omega) (by omega)) ?_
  refine EV.n0_eq r_X11_counsel_11 (fun h11 => ?_) (fun h11 => ?_)
  · omega
  · -- 11 f
    refine EV.l (lv' := [(0, _), (1, _), (2, _)]) r_X11_counsel_14 rfl ?_
    refine EV.l (lv' := [(0, _), (1, _), (2, _)]) r_X11_counsel_15 rfl ?_
    refine EV.o r_X11_counsel_16 (icN (0) (v := 0)) ?_
    refine EV.o r_X11_counsel_17 (icN (1) (v := 1)) ?_
    refine EV.cv r_X11_counsel_18 (aS3 mt_170) (m_wNNN (by omega) (by omega) (by omega) (by omega)) ?_
    refine EV.o r_X11_counsel_21 (icN (2) (v := 2)) ?_
    refine EV.o r_X11_counsel_22 (icN (1) (v := 1)) ?_
    refine EV.cv r_X11_counsel_23 (aV3 mt_169 la_106) (m_mayP (by omega) wr_same (by omega)) ?_
    refine EV.n0_ne r_X11_counsel_26 (fun h26 => ?_) (fun h26 => ?_)
    · -- 26 t
      refine EV.l (lv' := [(0, _), (1, _), (2, _)]) r_X11_counsel_31 rfl ?_
      refine EV.n0_ne r_X11_counsel_32 (fun h32 => ?_) (fun h32 => ?_)
      · -- 32 t
        refine EV.l (lv' := [(0, _), (1, _), (2, _)]) r_X11_counsel_47 rfl ?_
        refine EV.gR r_X11_counsel_48 la_106 ?_
        refine EV.o r_X11_counsel_51 (icN (2) (v := 2)) ?_
        refine EV.l (lv' := [(0, _), (1, _), (2, _)]) r_X11_counsel_52 rfl ?_
        refine EV.o r_X11_counsel_53 imulN ?_
        refine EV.o r_X11_counsel_54 (icN (1) (v := 1)) ?_
        refine EV.o r_X11_counsel_55 iaddN ?_
        refine EV.iaN r_X11_counsel_56 la_116 (mc1.cs _ (by omega)) ?_
        exact EV.ri r_X11_counsel_57 (⟨rfl, FM_0⟩)
      · omega
    · omega
theorem m_would {d : Nat} {I : Nat → Nat → Int32} {J : Nat → Nat → Int64} {l : LW} (ml_ : ML l I) (lb : LB l) {a0 : Int} (a01 : -2147483648 ≤ a0) (a02 : a0 < 2147483648) {a1 : Int} (a11 : -2147483648 ≤ a1) (a12 : a1 < 2147483648) {a2 : Int} (a21 : -2147483648 ≤ a2) (a22 : a2 < 2147483648) {a3 : Int} (a31 : -2147483648 ≤ a3) (a32 : a3 < 2147483648) {a4 : Int} (a41 : -2147483648 ≤ a4) (a42 : a4 < 2147483648) {a5 : Int} (a51 : -2147483648 ≤ a5) (a52 : a5 < 2147483648) (h : 1 ≤ a0 ∧ a0 ≤ 20 ∧ 0 ≤ a1 ∧ a1 ≤ 400 ∧ 0 ≤ a2 ∧ a2 ≤ 160 ∧ 0 ≤ a3 ∧ a3 ≤ 999 ∧ 0 ≤ a4 ∧ a4 ≤ 9 ∧ 0 ≤ a5 ∧ a5 ≤ 3)  (hd : 9 ≤ d) : RI d 244 [.ref 106, .int (zI a0), .int (zI a1), .int (zI a2), .int (zI a3), .int (zI a4), .int (zI a5)] I J (fun v I' => v = nI (wkf l (fa (zI a0) (zI a1) (zI a2) (zI a3) (zI a4) (zI a5))) ∧ FR I I' ∧ I' 106 0 = nI 0) := by
  refine RI.in (d0 := 8) hd mt_244 (Nat.le_of_ble_eq_true rfl) (fun d' hd' => ?_)
  show EV none M_X11_would d' 0 [(0, .ref 106), (1, .int (zI a0)), (2, .int (zI a1)), (3, .int (zI a2)), (4, .int (zI a3)), (5, .int (zI a4)), (6, .int (zI a5))] [] (hp I J) _
  refine EV.l (lv' := [(0, _), (1, _), (2, _), (3, _), (4, _), (5, _), (6, _)]) r_X11_would_0 rfl ?_
  refine EV.o r_X11_would_1 (icN (0) (v := 0)) ?_
  refine EV.pI r_X11_would_2 la_106 ?_
  refine EV.l (lv' := [(0, _), (1, _), (2, _), (3, _), (4, _), (5, _), (6, _)]) r_X11_would_5 rfl ?_
  refine EV.l (lv' := [(0, _), (1, _), (2, _), (3, _), (4, _), (5, _), (6, _)]) r_X11_would_6 rfl ?_
  refine EV.o r_X11_would_7 (icN (1) (v := 1)) ?_
  refine EV.o r_X11_would_8 (bpN (20) 20) ?_
  refine EV.cv r_X11_would_10 (aS3 mt_170) (m_wZNN (by omega) (by omega) (by omega) (by omega) (by omega)) ?_
  refine EV.p0_eq r_X11_would_13 (fun h13 => ?_) (fun h13 => ?_)
  · -- 13 t
    refine EV.o r_X11_would_75 (icN (0) (v := 0)) ?_
    refine EV.o r_X11_would_76 (icN (1) (v := 1)) ?_
    refine EV.o r_X11_would_77 (icN (1) (v := 1)) ?_
    omega
  · -- 13 f
    refine EV.l (lv' := [(0, _), (1, _), (2, _), (3, _), (4, _), (5, _), (6, _)]) r_X11_would_16 rfl ?_
    refine EV.o r_X11_would_17 (icN (0) (v := 0)) ?_
    refine EV.o r_X11_would_18 (spN (400) 400) ?_
    refine EV.cv r_X11_would_21 (aS3 mt_170) (m_wZNN (by omega) (by omega) (by omega) (by omega) (by omega)) ?_
    refine EV.p0_eq r_X11_would_24 (fun h24 => ?_) (fun h24 => ?_)
    · -- 24 t
      refine EV.o r_X11_would_75 (icN (0) (v := 0)) ?_
      refine EV.o r_X11_would_76 (icN (1) (v := 1)) ?_
      refine EV.o r_X11_would_77 (icN (1) (v := 1)) ?_
      omega
    · -- 24 f
      refine EV.l (lv' := [(0, _), (1, _), (2, _), (3, _), (4, _), (5, _), (6, _)]) r_X11_would_27 rfl ?_
      refine EV.o r_X11_would_28 (icN (0) (v := 0)) ?_
      refine EV.o r_X11_would_29 (spN (160) 160) ?_
      refine EV.cv r_X11_would_32 (aS3 mt_170) (m_wZNN (by omega) (by omega) (by omega) (by omega) (by omega)) ?_
      refine EV.p0_eq r_X11_would_35 (fun h35 => ?_) (fun h35 => ?_)
      · -- 35 t
        refine EV.o r_X11_would_75 (icN (0) (v := 0)) ?_
        refine EV.o r_X11_would_76 (icN (1) (v := 1)) ?_
        refine EV.o r_X11_would_77 (icN (1) (v := 1)) ?_
        omega
      · -- 35 f
        refine EV.l (lv' := [(0, _), (1, _), (2, _), (3, _), (4, _), (5, _), (6, _)]) r_X11_would_38 rfl ?_
        refine EV.o r_X11_would_40 (icN (0) (v := 0)) ?_
        refine EV.o r_X11_would_41 (spN (999) 999) ?_
        refine EV.cv r_X11_would_44 (aS3 mt_170) (m_wZNN (by omega) (by omega) (by omega) (by omega) (by omega)) ?_
        refine EV.p0_eq r_X11_would_47 (fun h47 => ?_) (fun h47 => ?_)
        · -- 47 t
          refine EV.o r_X11_would_75 (icN (0) (v := 0)) ?_
          refine EV.o r_X11_would_76 (icN (1) (v := 1)) ?_
          refine EV.o r_X11_would_77 (icN (1) (v := 1)) ?_
          omega
        · -- 47 f
          refine EV.l (lv' := [(0, _), (1, _), (2, _), (3, _), (4, _), (5, _), (6, _)]) r_X11_would_50 rfl ?_
          refine EV.o r_X11_would_52 (icN (0) (v := 0)) ?_
          refine EV.o r_X11_would_53 (bpN (9) 9) ?_
          refine EV.cv r_X11_would_55 (aS3 mt_170) (m_wZNN (by omega) (by omega) (by omega) (by omega) (by omega)) ?_
          refine EV.p0_eq r_X11_would_58 (fun h58 => ?_) (fun h58 => ?_)
          · -- 58 t
            refine EV.o r_X11_would_75 (icN (0) (v := 0)) ?_
            refine EV.o r_X11_would_76 (icN (1) (v := 1)) ?_
            refine EV.o r_X11_would_77 (icN (1) (v := 1)) ?_
            omega
          · -- 58 f
            refine EV.l (lv' := [(0, _), (1, _), (2, _), (3, _), (4, _), (5, _), (6, _)]) r_X11_would_61 rfl ?_
            refine EV.o r_X11_would_63 (icN (0) (v := 0)) ?_
            refine EV.o r_X11_would_64 (icN (3) (v := 3)) ?_
            refine EV.cv r_X11_would_65 (aS3 mt_170) (m_wZNN (by omega) (by omega) (by omega) (by omega) (by omega)) ?_
            refine EV.p0_eq r_X11_would_68 (fun h68 => ?_) (fun h68 => ?_)
            · -- 68 t
              refine EV.o r_X11_would_75 (icN (0) (v := 0)) ?_
              refine EV.o r_X11_would_76 (icN (1) (v := 1)) ?_
              refine EV.o r_X11_would_77 (icN (1) (v := 1)) ?_
              omega
            · -- 68 f
              refine EV.o r_X11_would_71 (icN (1) (v := 1)) ?_
              refine EV.g r_X11_would_72 ?_
              refine EV.o r_X11_would_76 (icN (1) (v := 1)) ?_
              refine EV.o r_X11_would_77 (icN (1) (v := 1)) ?_
              refine EV.cv r_X11_would_78 (aV3 mt_169 la_106) (m_mayN wr_same (by omega)) ?_
              refine EV.n0_ne r_X11_would_81 (fun h81 => ?_) (fun h81 => ?_)
              · -- 81 t
                refine EV.l (lv' := [(0, _), (1, _), (2, _), (3, _), (4, _), (5, _), (6, _)]) r_X11_would_86 rfl ?_
                refine EV.l (lv' := [(0, _), (1, _), (2, _), (3, _), (4, _), (5, _), (6, _)]) r_X11_would_87 rfl ?_
                refine EV.l (lv' := [(0, _), (1, _), (2, _), (3, _), (4, _), (5, _), (6, _)]) r_X11_would_88 rfl ?_
                refine EV.l (lv' := [(0, _), (1, _), (2, _), (3, _), (4, _), (5, _), (6, _)]) r_X11_would_89 rfl ?_
                refine EV.l (lv' := [(0, _), (1, _), (2, _), (3, _), (4, _), (5, _), (6, _)]) r_X11_would_90 rfl ?_
                refine EV.l (lv' := [(0, _), (1, _), (2, _), (3, _), (4, _), (5, _), (6, _)]) r_X11_would_92 rfl ?_
                refine EV.l (lv' := [(0, _), (1, _), (2, _), (3, _), (4, _), (5, _), (6, _)]) r_X11_would_94 rfl ?_
                refine EV.ci r_X11_would_96 (aV6 mt_216 la_106) (m_walkOf (ml_.fr0 (fun _ hj => wr_ne (Or.inr hj)) rfl rfl) lb (by omega)) (fun v I2 h2 => ?_)
                obtain ⟨e, fr_⟩ := h2
                subst e
                exact EV.ri r_X11_would_99 (⟨rfl, FR_mw fr_, by rw [fr_ 106 (by decide) (by decide)]; exact wr_same⟩)
              · omega
theorem m_wouldX {d : Nat} {I : Nat → Nat → Int32} {J : Nat → Nat → Int64} {κ : CT} (mc_ : MC κ I) (cb : CB κ) {a0 : Int} (a01 : -2147483648 ≤ a0) (a02 : a0 < 2147483648) {a1 : Int} (a11 : -2147483648 ≤ a1) (a12 : a1 < 2147483648) {a2 : Int} (a21 : -2147483648 ≤ a2) (a22 : a2 < 2147483648) {a3 : Int} (a31 : -2147483648 ≤ a3) (a32 : a3 < 2147483648) {a4 : Int} (a41 : -2147483648 ≤ a4) (a42 : a4 < 2147483648) {a5 : Int} (a51 : -2147483648 ≤ a5) (a52 : a5 < 2147483648) (h : ¬ (1 ≤ a0 ∧ a0 ≤ 20 ∧ 0 ≤ a1 ∧ a1 ≤ 400 ∧ 0 ≤ a2 ∧ a2 ≤ 160 ∧ 0 ≤ a3 ∧ a3 ≤ 999 ∧ 0 ≤ a4 ∧ a4 ≤ 9 ∧ 0 ≤ a5 ∧ a5 ≤ 3))  (hd : 9 ≤ d) : RI d 244 [.ref 106, .int (zI a0), .int (zI a1), .int (zI a2), .int (zI a3), .int (zI a4), .int (zI a5)] I J (fun v I' => I' = refM I 1 1) := by
  refine RI.in (d0 := 8) hd mt_244 (Nat.le_of_ble_eq_true rfl) (fun d' hd' => ?_)
  have bns := cb.ns; have bnb := cb.nb; have bnc := cb.nc; have bnr := cb.nr
  have pn := Nat.two_pow_pos κ.ns; have qn := pow_ns cb; have pc := Nat.two_pow_pos κ.nc; have qc := pow_nc cb
  show EV none M_X11_would d' 0 [(0, .ref 106), (1, .int (zI a0)), (2, .int (zI a1)), (3, .int (zI a2)), (4, .int (zI a3)), (5, .int (zI a4)), (6, .int (zI a5))] [] (hp I J) _
  refine EV.l (lv' := [(0, _), (1, _), (2, _), (3, _), (4, _), (5, _), (6, _)]) r_X11_would_0 rfl ?_
  refine EV.o r_X11_would_1 (icN (0) (v := 0)) ?_
  refine EV.pI r_X11_would_2 la_106 ?_
  refine EV.l (lv' := [(0, _), (1, _), (2, _), (3, _), (4, _), (5, _), (6, _)]) r_X11_would_5 rfl ?_
  refine EV.l (lv' := [(0, _), (1, _), (2, _), (3, _), (4, _), (5, _), (6, _)]) r_X11_would_6 rfl ?_
  refine EV.o r_X11_would_7 (icN (1) (v := 1)) ?_
  refine EV.o r_X11_would_8 (bpN (20) 20) ?_
  refine EV.cv r_X11_would_10 (aS3 mt_170) (m_wZNN (by omega) (by omega) (by omega) (by omega) (by omega)) ?_
  refine EV.p0_eq r_X11_would_13 (fun h13 => ?_) (fun h13 => ?_)
  · -- 13 t
    refine EV.o r_X11_would_75 (icN (0) (v := 0)) ?_
    refine EV.o r_X11_would_76 (icN (1) (v := 1)) ?_
    refine EV.o r_X11_would_77 (icN (1) (v := 1)) ?_
    refine EV.ci r_X11_would_78 (aV3 mt_169 la_106) (m_may0 wr_same (by decide) (by decide) (by decide) (by omega)) (fun v I2 h2 => ?_)
    obtain ⟨e, fr_⟩ := h2
    subst e
    refine EV.n0_ne r_X11_would_81 (fun h81 => ?_) (fun h81 => ?_)
    · omega
    · -- 81 f
      refine EV.o r_X11_would_84 (icN (0) (v := 0)) ?_
      exact EV.ri r_X11_would_85 (fr_)
  · -- 13 f
    refine EV.l (lv' := [(0, _), (1, _), (2, _), (3, _), (4, _), (5, _), (6, _)]) r_X11_would_16 rfl ?_
    refine EV.o r_X11_would_17 (icN (0) (v := 0)) ?_
    refine EV.o r_X11_would_18 (spN (400) 400) ?_
    refine EV.cv r_X11_would_21 (aS3 mt_170) (m_wZNN (by omega) (by omega) (by omega) (by omega) (by omega)) ?_
    refine EV.p0_eq r_X11_would_24 (fun h24 => ?_) (fun h24 => ?_)
    · -- 24 t
      refine EV.o r_X11_would_75 (icN (0) (v := 0)) ?_
      refine EV.o r_X11_would_76 (icN (1) (v := 1)) ?_
      refine EV.o r_X11_would_77 (icN (1) (v := 1)) ?_
      refine EV.ci r_X11_would_78 (aV3 mt_169 la_106) (m_may0 wr_same (by decide) (by decide) (by decide) (by omega)) (fun v I2 h2 => ?_)
      obtain ⟨e, fr_⟩ := h2
      subst e
      refine EV.n0_ne r_X11_would_81 (fun h81 => ?_) (fun h81 => ?_)
      · omega
      · -- 81 f
        refine EV.o r_X11_would_84 (icN (0) (v := 0)) ?_
        exact EV.ri r_X11_would_85 (fr_)
    · -- 24 f
      refine EV.l (lv' := [(0, _), (1, _), (2, _), (3, _), (4, _), (5, _), (6, _)]) r_X11_would_27 rfl ?_
      refine EV.o r_X11_would_28 (icN (0) (v := 0)) ?_
      refine EV.o r_X11_would_29 (spN (160) 160) ?_
      refine EV.cv r_X11_would_32 (aS3 mt_170) (m_wZNN (by omega) (by omega) (by omega) (by omega) (by omega)) ?_
      refine EV.p0_eq r_X11_would_35 (fun h35 => ?_) (fun h35 => ?_)
      · -- 35 t
        refine EV.o r_X11_would_75 (icN (0) (v := 0)) ?_
        refine EV.o r_X11_would_76 (icN (1) (v := 1)) ?_
        refine EV.o r_X11_would_77 (icN (1) (v := 1)) ?_
        refine EV.ci r_X11_would_78 (aV3 mt_169 la_106) (m_may0 wr_same (by decide) (by decide) (by decide) (by omega)) (fun v I2 h2 => ?_)
        obtain ⟨e, fr_⟩ := h2
        subst e
        refine EV.n0_ne r_X11_would_81 (fun h81 => ?_) (fun h81 => ?_)
        · omega
        · -- 81 f
          refine EV.o r_X11_would_84 (icN (0) (v := 0)) ?_
          exact EV.ri r_X11_would_85 (fr_)
      · -- 35 f
        refine EV.l (lv' := [(0, _), (1, _), (2, _), (3, _), (4, _), (5, _), (6, _)]) r_X11_would_38 rfl ?_
        refine EV.o r_X11_would_40 (icN (0) (v := 0)) ?_
        refine EV.o r_X11_would_41 (spN (999) 999) ?_
        refine EV.cv r_X11_would_44 (aS3 mt_170) (m_wZNN (by omega) (by omega) (by omega) (by omega) (by omega)) ?_
        refine EV.p0_eq r_X11_would_47 (fun h47 => ?_) (fun h47 => ?_)
        · -- 47 t
          refine EV.o r_X11_would_75 (icN (0) (v := 0)) ?_
          refine EV.o r_X11_would_76 (icN (1) (v := 1)) ?_
          refine EV.o r_X11_would_77 (icN (1) (v := 1)) ?_
          refine EV.ci r_X11_would_78 (aV3 mt_169 la_106) (m_may0 wr_same (by decide) (by decide) (by decide) (by omega)) (fun v I2 h2 => ?_)
          obtain ⟨e, fr_⟩ := h2
          subst e
          refine EV.n0_ne r_X11_would_81 (fun h81 => ?_) (fun h81 => ?_)
          · omega
          · -- 81 f
            refine EV.o r_X11_would_84 (icN (0) (v := 0)) ?_
            exact EV.ri r_X11_would_85 (fr_)
        · -- 47 f
          refine EV.l (lv' := [(0, _), (1, _), (2, _), (3, _), (4, _), (5, _), (6, _)]) r_X11_would_50 rfl ?_
          refine EV.o r_X11_would_52 (icN (0) (v := 0)) ?_
          refine EV.o r_X11_would_53 (bpN (9) 9) ?_
          refine EV.cv r_X11_would_55 (aS3 mt_170) (m_wZNN (by omega) (by omega) (by omega) (by omega) (by omega)) ?_
          refine EV.p0_eq r_X11_would_58 (fun h58 => ?_) (fun h58 => ?_)
          · -- 58 t
            refine EV.o r_X11_would_75 (icN (0) (v := 0)) ?_
            refine EV.o r_X11_would_76 (icN (1) (v := 1)) ?_
            refine EV.o r_X11_would_77 (icN (1) (v := 1)) ?_
            refine EV.ci r_X11_would_78 (aV3 mt_169 la_106) (m_may0 wr_same (by decide) (by decide) (by decide) (by omega)) (fun v I2 h2 => ?_)
            obtain ⟨e, fr_⟩ := h2
            subst e
            refine EV.n0_ne r_X11_would_81 (fun h81 => ?_) (fun h81 => ?_)
            · omega
            · -- 81 f
              refine EV.o r_X11_would_84 (icN (0) (v := 0)) ?_
              exact EV.ri r_X11_would_85 (fr_)
          · -- 58 f
            refine EV.l (lv' := [(0, _), (1, _), (2, _), (3, _), (4, _), (5, _), (6, _)]) r_X11_would_61 rfl ?_
            refine EV.o r_X11_would_63 (icN (0) (v := 0)) ?_
            refine EV.o r_X11_would_64 (icN (3) (v := 3)) ?_
            refine EV.cv r_X11_would_65 (aS3 mt_170) (m_wZNN (by omega) (by omega) (by omega) (by omega) (by omega)) ?_
            refine EV.p0_eq r_X11_would_68 (fun h68 => ?_) (fun h68 => ?_)
            · -- 68 t
              refine EV.o r_X11_would_75 (icN (0) (v := 0)) ?_
              refine EV.o r_X11_would_76 (icN (1) (v := 1)) ?_
              refine EV.o r_X11_would_77 (icN (1) (v := 1)) ?_
              refine EV.ci r_X11_would_78 (aV3 mt_169 la_106) (m_may0 wr_same (by decide) (by decide) (by decide) (by omega)) (fun v I2 h2 => ?_)
              obtain ⟨e, fr_⟩ := h2
              subst e
              refine EV.n0_ne r_X11_would_81 (fun h81 => ?_) (fun h81 => ?_)
              · omega
              · -- 81 f
                refine EV.o r_X11_would_84 (icN (0) (v := 0)) ?_
                exact EV.ri r_X11_would_85 (fr_)
            · -- 68 f
              refine EV.o r_X11_would_71 (icN (1) (v := 1)) ?_
              refine EV.g r_X11_would_72 ?_
              refine EV.o r_X11_would_76 (icN (1) (v := 1)) ?_
              refine EV.o r_X11_would_77 (icN (1) (v := 1)) ?_
              omega
theorem m_at0 {d : Nat} {I : Nat → Nat → Int32} {J : Nat → Nat → Int64} {κ : CT} {l : LW} {η : HS} (mc_ : MC κ I) (cb : CB κ) (mr : MR 125 κ η I) (hb_ : HB κ η) (ml_ : ML l I) (lb : LB l) (wm : WM κ l η) {n : Nat} (h : n ≤ 499)  (hd : 13 ≤ d) : RI d 245 [.ref 106, .int (nI n), .int (nI 0)] I J (fun v I' => v = nI (birds κ η n) ∧ FM I I') := by
  refine RI.in (d0 := 12) hd mt_245 (Nat.le_of_ble_eq_true rfl) (fun d' hd' => ?_)
  have bns := cb.ns; have bnb := cb.nb; have bnc := cb.nc; have bnr := cb.nr
  have bm_ := hb_.mi
  show EV none M_X11_at d' 0 [(0, .ref 106), (1, .int (nI n)), (2, .int (nI 0))] [] (hp I J) _
  refine EV.l (lv' := [(0, _), (1, _), (2, _)]) r_X11_at_0 rfl ?_
  refine EV.o r_X11_at_1 (icN (0) (v := 0)) ?_
  refine EV.pI r_X11_at_2 la_106 ?_
  refine EV.l (lv' := [(0, _), (1, _), (2, _)]) r_X11_at_5 rfl ?_
  refine EV.l (lv' := [(0, _), (1, _), (2, _)]) r_X11_at_6 rfl ?_
  refine EV.o r_X11_at_7 (icN (0) (v := 0)) ?_
  refine EV.o r_X11_at_8 (spN (499) 499) ?_
  refine EV.cv r_X11_at_11 (aS3 mt_170) (m_wNNN (by omega) (by omega) (by omega) (by omega)) ?_
  refine EV.p0_eq r_X11_at_14 (fun h14 => ?_) (fun h14 => ?_)
  · -- 14 t
    refine EV.o r_X11_at_30 (icN (0) (v := 0)) ?_
    refine EV.o r_X11_at_31 (icN (1) (v := 1)) ?_
    refine EV.o r_X11_at_32 (icN (1) (v := 1)) ?_
    omega
  · -- 14 f
    refine EV.l (lv' := [(0, _), (1, _), (2, _)]) r_X11_at_17 rfl ?_
    refine EV.o r_X11_at_18 (icN (0) (v := 0)) ?_
    refine EV.o r_X11_at_19 (icN (2) (v := 2)) ?_
    refine EV.cv r_X11_at_20 (aS3 mt_170) (m_wNNN (by omega) (by omega) (by omega) (by omega)) ?_
    refine EV.p0_eq r_X11_at_23 (fun h23 => ?_) (fun h23 => ?_)
    · -- 23 t
      refine EV.o r_X11_at_30 (icN (0) (v := 0)) ?_
      refine EV.o r_X11_at_31 (icN (1) (v := 1)) ?_
      refine EV.o r_X11_at_32 (icN (1) (v := 1)) ?_
      omega
    · -- 23 f
      refine EV.o r_X11_at_26 (icN (1) (v := 1)) ?_
      refine EV.g r_X11_at_27 ?_
      refine EV.o r_X11_at_31 (icN (1) (v := 1)) ?_
      refine EV.o r_X11_at_32 (icN (1) (v := 1)) ?_
      refine EV.cv r_X11_at_33 (aV3 mt_169 la_106) (m_mayN wr_same (by omega)) ?_
      refine EV.n0_ne r_X11_at_36 (fun h36 => ?_) (fun h36 => ?_)
      · -- 36 t
        refine EV.l (lv' := [(0, _), (1, _), (2, _)]) r_X11_at_41 rfl ?_
        refine EV.cu r_X11_at_42 (aV0 mt_212 la_106) (m_take (by omega)) (fun I2 e2 => ?_)
        have e2 : I2 = M2 I := e2
        subst e2
        have mc2 := M2_mc mc_
        have ml2 := M2_ml ml_
        have mr2 := M2_mr mr cb
        refine EV.l (lv' := [(0, _), (1, _), (2, _)]) r_X11_at_45 rfl ?_
        refine EV.o r_X11_at_46 (icN (1) (v := 1)) ?_
        refine EV.n2_eq r_X11_at_47 (fun h47 => ?_) (fun h47 => ?_)
        · omega
        · -- 47 f
          refine EV.l (lv' := [(0, _), (1, _), (2, _)]) r_X11_at_50 rfl ?_
          refine EV.n0_ne r_X11_at_51 (fun h51 => ?_) (fun h51 => ?_)
          · omega
          · -- 51 f
            refine EV.l (lv' := [(0, _), (1, _), (2, _)]) r_X11_at_54 rfl ?_
            refine EV.l (lv' := [(0, _), (1, _), (2, _)]) r_X11_at_55 rfl ?_
            refine EV.ci r_X11_at_56 (aV1 mt_220 la_106) (m_birdsAt mc2 cb mr2 hb_ ml2 lb (by omega) (by omega)) (fun v I3 h2 => ?_)
            obtain ⟨e, fr_⟩ := h2
            subst e
            rw [← bd_eq hb_ wm]
            refine EV.g r_X11_at_59 ?_
            exact EV.ri r_X11_at_71 (⟨rfl, by first | exact FM_of fr_ | exact FM_2⟩)
      · omega
theorem m_at2 {d : Nat} {I : Nat → Nat → Int32} {J : Nat → Nat → Int64} {κ : CT} {l : LW} {η : HS} (mc_ : MC κ I) (cb : CB κ) (mr : MR 125 κ η I) (hb_ : HB κ η) (ml_ : ML l I) (lb : LB l) (wm : WM κ l η) {n : Nat} (h : n ≤ 499)  (hd : 13 ≤ d) : RI d 245 [.ref 106, .int (nI n), .int (nI 2)] I J (fun v I' => v = zI (lean κ (heard κ η n)) ∧ FM I I') := by
  refine RI.in (d0 := 12) hd mt_245 (Nat.le_of_ble_eq_true rfl) (fun d' hd' => ?_)
  have bns := cb.ns; have bnb := cb.nb; have bnc := cb.nc; have bnr := cb.nr
  have bm_ := hb_.mi
  show EV none M_X11_at d' 0 [(0, .ref 106), (1, .int (nI n)), (2, .int (nI 2))] [] (hp I J) _
  refine EV.l (lv' := [(0, _), (1, _), (2, _)]) r_X11_at_0 rfl ?_
  refine EV.o r_X11_at_1 (icN (0) (v := 0)) ?_
  refine EV.pI r_X11_at_2 la_106 ?_
  refine EV.l (lv' := [(0, _), (1, _), (2, _)]) r_X11_at_5 rfl ?_
  refine EV.l (lv' := [(0, _), (1, _), (2, _)]) r_X11_at_6 rfl ?_
  refine EV.o r_X11_at_7 (icN (0) (v := 0)) ?_
  refine EV.o r_X11_at_8 (spN (499) 499) ?_
  refine EV.cv r_X11_at_11 (aS3 mt_170) (m_wNNN (by omega) (by omega) (by omega) (by omega)) ?_
  refine EV.p0_eq r_X11_at_14 (fun h14 => ?_) (fun h14 => ?_)
  · -- 14 t
    refine EV.o r_X11_at_30 (icN (0) (v := 0)) ?_
    refine EV.o r_X11_at_31 (icN (1) (v := 1)) ?_
    refine EV.o r_X11_at_32 (icN (1) (v := 1)) ?_
    omega
  · -- 14 f
    refine EV.l (lv' := [(0, _), (1, _), (2, _)]) r_X11_at_17 rfl ?_
    refine EV.o r_X11_at_18 (icN (0) (v := 0)) ?_
    refine EV.o r_X11_at_19 (icN (2) (v := 2)) ?_
    refine EV.cv r_X11_at_20 (aS3 mt_170) (m_wNNN (by omega) (by omega) (by omega) (by omega)) ?_
    refine EV.p0_eq r_X11_at_23 (fun h23 => ?_) (fun h23 => ?_)
    · -- 23 t
      refine EV.o r_X11_at_30 (icN (0) (v := 0)) ?_
      refine EV.o r_X11_at_31 (icN (1) (v := 1)) ?_
      refine EV.o r_X11_at_32 (icN (1) (v := 1)) ?_
      omega
    · -- 23 f
      refine EV.o r_X11_at_26 (icN (1) (v := 1)) ?_
      refine EV.g r_X11_at_27 ?_
      refine EV.o r_X11_at_31 (icN (1) (v := 1)) ?_
      refine EV.o r_X11_at_32 (icN (1) (v := 1)) ?_
      refine EV.cv r_X11_at_33 (aV3 mt_169 la_106) (m_mayN wr_same (by omega)) ?_
      refine EV.n0_ne r_X11_at_36 (fun h36 => ?_) (fun h36 => ?_)
      · -- 36 t
        refine EV.l (lv' := [(0, _), (1, _), (2, _)]) r_X11_at_41 rfl ?_
        refine EV.cu r_X11_at_42 (aV0 mt_212 la_106) (m_take (by omega)) (fun I2 e2 => ?_)
        have e2 : I2 = M2 I := e2
        subst e2
        have mc2 := M2_mc mc_
        have ml2 := M2_ml ml_
        have mr2 := M2_mr mr cb
        refine EV.l (lv' := [(0, _), (1, _), (2, _)]) r_X11_at_45 rfl ?_
        refine EV.o r_X11_at_46 (icN (1) (v := 1)) ?_
        refine EV.n2_eq r_X11_at_47 (fun h47 => ?_) (fun h47 => ?_)
        · omega
        · -- 47 f
          refine EV.l (lv' := [(0, _), (1, _), (2, _)]) r_X11_at_50 rfl ?_
          refine EV.n0_ne r_X11_at_51 (fun h51 => ?_) (fun h51 => ?_)
          · -- 51 t
            refine EV.l (lv' := [(0, _), (1, _), (2, _)]) r_X11_at_62 rfl ?_
            refine EV.l (lv' := [(0, _), (1, _), (2, _)]) r_X11_at_63 rfl ?_
            refine EV.l (lv' := [(0, _), (1, _), (2, _)]) r_X11_at_64 rfl ?_
            refine EV.ci r_X11_at_65 (aV1 mt_226 la_106) (m_heardBy mc2 cb mr2 hb_ ml2 lb (by omega) (by omega)) (fun v I3 h2 => ?_)
            obtain ⟨e, fr_⟩ := h2
            subst e
            rw [hd_eq hb_ wm]
            have mc3 := MC.fr (I' := I3) mc2 (fr_ 106 (by decide) (by decide)) (fun x h1 h2 => fr_ x (by omega) (by omega))
            refine EV.cv r_X11_at_68 (aV1 mt_225 la_106) (m_lean mc3 cb (heard_lt _) (by omega)) ?_
            exact EV.ri r_X11_at_71 (⟨rfl, by first | exact FM_of fr_ | exact FM_2⟩)
          · omega
      · omega
theorem m_at1 {d : Nat} {I : Nat → Nat → Int32} {J : Nat → Nat → Int64} {κ : CT} {l : LW} {η : HS} (mc_ : MC κ I) (cb : CB κ) (mr : MR 125 κ η I) (hb_ : HB κ η) (ml_ : ML l I) (lb : LB l) (wm : WM κ l η) {n : Nat} (h : n ≤ 499)  (hd : 13 ≤ d) : RI d 245 [.ref 106, .int (nI n), .int (nI 1)] I J (fun v I' => v = nI (sdB κ η n n) ∧ FM I I') := by
  refine RI.in (d0 := 12) hd mt_245 (Nat.le_of_ble_eq_true rfl) (fun d' hd' => ?_)
  have bns := cb.ns; have bnb := cb.nb; have bnc := cb.nc; have bnr := cb.nr
  have bm_ := hb_.mi
  show EV none M_X11_at d' 0 [(0, .ref 106), (1, .int (nI n)), (2, .int (nI 1))] [] (hp I J) _
  refine EV.l (lv' := [(0, _), (1, _), (2, _)]) r_X11_at_0 rfl ?_
  refine EV.o r_X11_at_1 (icN (0) (v := 0)) ?_
  refine EV.pI r_X11_at_2 la_106 ?_
  refine EV.l (lv' := [(0, _), (1, _), (2, _)]) r_X11_at_5 rfl ?_
  refine EV.l (lv' := [(0, _), (1, _), (2, _)]) r_X11_at_6 rfl ?_
  refine EV.o r_X11_at_7 (icN (0) (v := 0)) ?_
  refine EV.o r_X11_at_8 (spN (499) 499) ?_
  refine EV.cv r_X11_at_11 (aS3 mt_170) (m_wNNN (by omega) (by omega) (by omega) (by omega)) ?_
  refine EV.p0_eq r_X11_at_14 (fun h14 => ?_) (fun h14 => ?_)
  · -- 14 t
    refine EV.o r_X11_at_30 (icN (0) (v := 0)) ?_
    refine EV.o r_X11_at_31 (icN (1) (v := 1)) ?_
    refine EV.o r_X11_at_32 (icN (1) (v := 1)) ?_
    omega
  · -- 14 f
    refine EV.l (lv' := [(0, _), (1, _), (2, _)]) r_X11_at_17 rfl ?_
    refine EV.o r_X11_at_18 (icN (0) (v := 0)) ?_
    refine EV.o r_X11_at_19 (icN (2) (v := 2)) ?_
    refine EV.cv r_X11_at_20 (aS3 mt_170) (m_wNNN (by omega) (by omega) (by omega) (by omega)) ?_
    refine EV.p0_eq r_X11_at_23 (fun h23 => ?_) (fun h23 => ?_)
    · -- 23 t
      refine EV.o r_X11_at_30 (icN (0) (v := 0)) ?_
      refine EV.o r_X11_at_31 (icN (1) (v := 1)) ?_
      refine EV.o r_X11_at_32 (icN (1) (v := 1)) ?_
      omega
    · -- 23 f
      refine EV.o r_X11_at_26 (icN (1) (v := 1)) ?_
      refine EV.g r_X11_at_27 ?_
      refine EV.o r_X11_at_31 (icN (1) (v := 1)) ?_
      refine EV.o r_X11_at_32 (icN (1) (v := 1)) ?_
      refine EV.cv r_X11_at_33 (aV3 mt_169 la_106) (m_mayN wr_same (by omega)) ?_
      refine EV.n0_ne r_X11_at_36 (fun h36 => ?_) (fun h36 => ?_)
      · -- 36 t
        refine EV.l (lv' := [(0, _), (1, _), (2, _)]) r_X11_at_41 rfl ?_
        refine EV.cu r_X11_at_42 (aV0 mt_212 la_106) (m_take (by omega)) (fun I2 e2 => ?_)
        have e2 : I2 = M2 I := e2
        subst e2
        have mc2 := M2_mc mc_
        have ml2 := M2_ml ml_
        have mr2 := M2_mr mr cb
        refine EV.l (lv' := [(0, _), (1, _), (2, _)]) r_X11_at_45 rfl ?_
        refine EV.o r_X11_at_46 (icN (1) (v := 1)) ?_
        refine EV.n2_eq r_X11_at_47 (fun h47 => ?_) (fun h47 => ?_)
        · -- 47 t
          refine EV.o r_X11_at_72 (icN (0) (v := 0)) ?_
          refine EV.l (lv' := [(0, _), (1, _), (2, _), (3, _)]) r_X11_at_73 rfl ?_
          refine EV.o r_X11_at_74 (icN (0) (v := 0)) ?_
          refine EV.l (lv' := [(0, _), (1, _), (2, _), (3, _), (4, _)]) r_X11_at_75 rfl ?_
          have L77 : ∀ y_ : Nat, (fun i => i ≤ κ.ns → EV none M_X11_at d' 77 [(0, .ref 106), (1, .int (nI n)), (2, .int (nI 1)), (3, .int (nI (mk (fun i => decide (n ≤ η.sa i ∧ η.sa i ≤ n)) i))), (4, .int (nI i))] [] (hp (M2 I) J) (QI J (fun v I' => v = nI (sdB κ η n n) ∧ FM I I'))) y_ := by
            refine ev_loop (fun i => κ.ns - i) ?_
            intro i ih77 hx77
            try dsimp only at ih77
            try dsimp only at hx77
            try dsimp only
            refine EV.l (lv' := [(0, _), (1, _), (2, _), (3, _), (4, _)]) r_X11_at_77 rfl ?_
            refine EV.l (lv' := [(0, _), (1, _), (2, _), (3, _), (4, _)]) r_X11_at_79 rfl ?_
            refine EV.getV r_X11_at_80 la_106 (mc2.ns) ?_
            refine EV.n2_ge r_X11_at_83 (fun h83 => ?_) (fun h83 => ?_)
            · -- 83 t
              refine EV.l (lv' := [(0, _), (1, _), (2, _), (3, _), (4, _)]) r_X11_at_116 rfl ?_
              exact EV.ri r_X11_at_117 (⟨by rw [show i = κ.ns by omega]; rfl, FM_2⟩)
            · -- 83 f
              refine EV.l (lv' := [(0, _), (1, _), (2, _), (3, _), (4, _)]) r_X11_at_86 rfl ?_
              refine EV.l (lv' := [(0, _), (1, _), (2, _), (3, _), (4, _)]) r_X11_at_87 rfl ?_
              refine EV.gR r_X11_at_88 la_106 ?_
              refine EV.o r_X11_at_91 (icN (0) (v := 0)) ?_
              refine EV.l (lv' := [(0, _), (1, _), (2, _), (3, _), (4, _)]) r_X11_at_92 rfl ?_
              refine EV.o r_X11_at_94 iaddN ?_
              have b1 := hb_.sa i
              refine EV.iaN r_X11_at_95 la_126 (mr2.sa _ (by omega)) ?_
              refine EV.l (lv' := [(0, _), (1, _), (2, _), (3, _), (4, _)]) r_X11_at_96 rfl ?_
              refine EV.n2_ne r_X11_at_97 (fun h97 => ?_) (fun h97 => ?_)
              · -- 97 t
                refine EV.o r_X11_at_107 (icN (0) (v := 0)) ?_
                refine EV.o r_X11_at_108 iorN ?_
                refine EV.l (lv' := [(0, _), (1, _), (2, _), (3, _), (4, _)]) r_X11_at_109 rfl ?_
                refine EV.l (lv' := [(0, _), (1, _), (2, _), (3, _), (4, _)]) r_X11_at_110 rfl ?_
                rw [inc_nI]
                refine EV.g r_X11_at_113 ?_
                refine EV.sub ?_ rfl ?_ (ih77 (i + 1) ?_ ?_)
                · first | rw [mk_t (p := fun i => decide (n ≤ η.sa i ∧ η.sa i ≤ n)) (decide_eq_true (by omega))] | rw [mk_z (p := fun i => decide (n ≤ η.sa i ∧ η.sa i ≤ n)) (decide_eq_false (by omega))] | rw [mk_t (p := fun i => decide (n ≤ η.sa i ∧ η.sa i ≤ n)) (by assumption)] | rw [mk_z (p := fun i => decide (n ≤ η.sa i ∧ η.sa i ≤ n)) (by assumption)]
                · rfl
                · omega
                · omega
              · -- 97 f
                refine EV.o r_X11_at_100 (icN (1) (v := 1)) ?_
                refine EV.l (lv' := [(0, _), (1, _), (2, _), (3, _), (4, _)]) r_X11_at_101 rfl ?_
                refine EV.o r_X11_at_103 (ishl1) ?_
                refine EV.g r_X11_at_104 ?_
                refine EV.o r_X11_at_108 iorN ?_
                refine EV.l (lv' := [(0, _), (1, _), (2, _), (3, _), (4, _)]) r_X11_at_109 rfl ?_
                refine EV.l (lv' := [(0, _), (1, _), (2, _), (3, _), (4, _)]) r_X11_at_110 rfl ?_
                rw [inc_nI]
                refine EV.g r_X11_at_113 ?_
                refine EV.sub ?_ rfl ?_ (ih77 (i + 1) ?_ ?_)
                · first | rw [mk_t (p := fun i => decide (n ≤ η.sa i ∧ η.sa i ≤ n)) (decide_eq_true (by omega))] | rw [mk_z (p := fun i => decide (n ≤ η.sa i ∧ η.sa i ≤ n)) (decide_eq_false (by omega))] | rw [mk_t (p := fun i => decide (n ≤ η.sa i ∧ η.sa i ≤ n)) (by assumption)] | rw [mk_z (p := fun i => decide (n ≤ η.sa i ∧ η.sa i ≤ n)) (by assumption)]
                · rfl
                · omega
                · omega
          have h0 := L77 (0)
          try dsimp only at h0
          refine EV.sub ?_ rfl ?_ (h0 ?_)
          · rfl
          · rfl
          · omega
        · omega
      · omega
theorem m_heav0 {d : Nat} {I : Nat → Nat → Int32} {J : Nat → Nat → Int64} {κ : CT} (mc_ : MC κ I) (cb : CB κ) {x : Nat} (hx : x < 512)  (hd : 4 ≤ d) : RV d 265 [.ref 106, .int (nI x), .int (nI 0)] I J (opI (heav κ x)) := by
  refine RV.in (d0 := 3) hd mt_265 (Nat.le_of_ble_eq_true rfl) (fun d' hd' => ?_)
  show EV none M_X11_heaviest d' 0 [(0, .ref 106), (1, .int (nI x)), (2, .int (nI 0))] [] (hp I J) _
  refine EV.l (lv' := [(0, _), (1, _), (2, _)]) r_X11_heaviest_0 rfl ?_
  refine EV.l (lv' := [(0, _), (1, _), (2, _)]) r_X11_heaviest_1 rfl ?_
  refine EV.cv r_X11_heaviest_2 (aV1 mt_264 la_106) (m_heaviest mc_ cb (by omega) (by omega)) ?_
  refine EV.l (lv' := [(0, _), (1, _), (2, _), (3, _)]) r_X11_heaviest_5 rfl ?_
  refine EV.l (lv' := [(0, _), (1, _), (2, _), (3, _)]) r_X11_heaviest_6 rfl ?_
  refine EV.n0_eq r_X11_heaviest_7 (fun h7 => ?_) (fun h7 => ?_)
  · -- 7 t
    refine EV.l (lv' := [(0, _), (1, _), (2, _), (3, _)]) r_X11_heaviest_15 rfl ?_
    refine EV.g r_X11_heaviest_16 ?_
    exact EV.rv r_X11_heaviest_29 (rfl)
  · omega
theorem m_heav1 {d : Nat} {I : Nat → Nat → Int32} {J : Nat → Nat → Int64} {κ : CT} (mc_ : MC κ I) (cb : CB κ) {x : Nat} (hx : x < 512)  (hd : 4 ≤ d) : RV d 265 [.ref 106, .int (nI x), .int (nI 1)] I J (opW κ (heav κ x)) := by
  refine RV.in (d0 := 3) hd mt_265 (Nat.le_of_ble_eq_true rfl) (fun d' hd' => ?_)
  have bns := cb.ns; have bnb := cb.nb; have bnc := cb.nc; have bnr := cb.nr
  show EV none M_X11_heaviest d' 0 [(0, .ref 106), (1, .int (nI x)), (2, .int (nI 1))] [] (hp I J) _
  refine EV.l (lv' := [(0, _), (1, _), (2, _)]) r_X11_heaviest_0 rfl ?_
  refine EV.l (lv' := [(0, _), (1, _), (2, _)]) r_X11_heaviest_1 rfl ?_
  refine EV.cv r_X11_heaviest_2 (aV1 mt_264 la_106) (m_heaviest mc_ cb (by omega) (by omega)) ?_
  refine EV.l (lv' := [(0, _), (1, _), (2, _), (3, _)]) r_X11_heaviest_5 rfl ?_
  refine EV.l (lv' := [(0, _), (1, _), (2, _), (3, _)]) r_X11_heaviest_6 rfl ?_
  refine EV.n0_eq r_X11_heaviest_7 (fun h7 => ?_) (fun h7 => ?_)
  · omega
  · -- 7 f
    refine EV.l (lv' := [(0, _), (1, _), (2, _), (3, _)]) r_X11_heaviest_10 rfl ?_
    refine EV.o r_X11_heaviest_11 (icZ (-1)) ?_
    refine EV.op_ne r_X11_heaviest_12 (fun h12 => ?_) (fun h12 => ?_) (fun c ec_ => by have := heav_lt ec_; omega)
    · -- 12 t
      obtain ⟨c, ec_⟩ := h12
      have hc9 := heav_lt ec_
      rw [ec_, opI_some, opW_some]
      refine EV.l (lv' := [(0, _), (1, _), (2, _), (3, _)]) r_X11_heaviest_19 rfl ?_
      refine EV.gR r_X11_heaviest_20 la_106 ?_
      refine EV.o r_X11_heaviest_23 (icN (3) (v := 3)) ?_
      refine EV.l (lv' := [(0, _), (1, _), (2, _), (3, _)]) r_X11_heaviest_24 rfl ?_
      refine EV.o r_X11_heaviest_25 imulN ?_
      refine EV.o r_X11_heaviest_26 (icN (2) (v := 2)) ?_
      refine EV.o r_X11_heaviest_27 iaddN ?_
      refine EV.iaN r_X11_heaviest_28 la_113 (mc_.sw _ (by omega)) ?_
      exact EV.rv r_X11_heaviest_29 (rfl)
    · -- 12 f
      rw [h12]
      refine EV.l (lv' := [(0, _), (1, _), (2, _), (3, _)]) r_X11_heaviest_15 rfl ?_
      refine EV.g r_X11_heaviest_16 ?_
      exact EV.rv r_X11_heaviest_29 (rfl)
