/-! (goes on) -/
theorem m_point0 {d : Nat} {I : Nat → Nat → Int32} {J : Nat → Nat → Int64} {κ : CT} {l : LW} {η : HS} (mc_ : MC κ I) (cb : CB κ) (mr : MR 125 κ η I) (hb_ : HB κ η) (ml_ : ML l I) (lb : LB l) (wm : WM κ l η) {s : Nat} (h : s < 2)  (hd : 13 ≤ d) : RI d 273 [.ref 106, .int (nI s), .int (nI 0)] I J (fun v I' => v = opI (heav κ (ofSd κ s &&& heard κ η η.mi)) ∧ FM I I') := by
  refine RI.in (d0 := 12) hd mt_273 (Nat.le_of_ble_eq_true rfl) (fun d' hd' => ?_)
  have bns := cb.ns; have bnb := cb.nb; have bnc := cb.nc; have bnr := cb.nr
  have bm_ := hb_.mi
  have hl := heard_lt (κ := κ) (η := η) η.mi; have p0 := pow_ns cb
  show EV none M_X11_point d' 0 [(0, .ref 106), (1, .int (nI s)), (2, .int (nI 0))] [] (hp I J) _
  refine EV.l (lv' := [(0, _), (1, _), (2, _)]) r_X11_point_0 rfl ?_
  refine EV.o r_X11_point_1 (icN (0) (v := 0)) ?_
  refine EV.pI r_X11_point_2 la_106 ?_
  refine EV.l (lv' := [(0, _), (1, _), (2, _)]) r_X11_point_5 rfl ?_
  refine EV.l (lv' := [(0, _), (1, _), (2, _)]) r_X11_point_6 rfl ?_
  refine EV.o r_X11_point_7 (icN (0) (v := 0)) ?_
  refine EV.o r_X11_point_8 (icN (1) (v := 1)) ?_
  refine EV.cv r_X11_point_9 (aS3 mt_170) (m_wNNN (by omega) (by omega) (by omega) (by omega)) ?_
  refine EV.p0_eq r_X11_point_12 (fun h12 => ?_) (fun h12 => ?_)
  · -- 12 t
    refine EV.o r_X11_point_28 (icN (0) (v := 0)) ?_
    refine EV.o r_X11_point_29 (icN (1) (v := 1)) ?_
    refine EV.o r_X11_point_30 (icN (1) (v := 1)) ?_
    omega
  · -- 12 f
    refine EV.l (lv' := [(0, _), (1, _), (2, _)]) r_X11_point_15 rfl ?_
    refine EV.o r_X11_point_16 (icN (0) (v := 0)) ?_
    refine EV.o r_X11_point_17 (icN (1) (v := 1)) ?_
    refine EV.cv r_X11_point_18 (aS3 mt_170) (m_wNNN (by omega) (by omega) (by omega) (by omega)) ?_
    refine EV.p0_eq r_X11_point_21 (fun h21 => ?_) (fun h21 => ?_)
    · -- 21 t
      refine EV.o r_X11_point_28 (icN (0) (v := 0)) ?_
      refine EV.o r_X11_point_29 (icN (1) (v := 1)) ?_
      refine EV.o r_X11_point_30 (icN (1) (v := 1)) ?_
      omega
    · -- 21 f
      refine EV.o r_X11_point_24 (icN (1) (v := 1)) ?_
      refine EV.g r_X11_point_25 ?_
      refine EV.o r_X11_point_29 (icN (1) (v := 1)) ?_
      refine EV.o r_X11_point_30 (icN (1) (v := 1)) ?_
      refine EV.cv r_X11_point_31 (aV3 mt_169 la_106) (m_mayN wr_same (by omega)) ?_
      refine EV.n0_ne r_X11_point_34 (fun h34 => ?_) (fun h34 => ?_)
      · -- 34 t
        refine EV.l (lv' := [(0, _), (1, _), (2, _)]) r_X11_point_39 rfl ?_
        refine EV.cu r_X11_point_40 (aV0 mt_212 la_106) (m_take (by omega)) (fun I2 e2 => ?_)
        have e2 : I2 = M2 I := e2
        subst e2
        have mc2 := M2_mc mc_
        have ml2 := M2_ml ml_
        have mr2 := M2_mr mr cb
        refine EV.l (lv' := [(0, _), (1, _), (2, _)]) r_X11_point_43 rfl ?_
        refine EV.l (lv' := [(0, _), (1, _), (2, _)]) r_X11_point_44 rfl ?_
        refine EV.gR r_X11_point_45 la_106 ?_
        refine EV.o r_X11_point_48 (bpN (30) 30) ?_
        refine EV.iaN r_X11_point_50 la_126 (mr2.mi) ?_
        refine EV.ci r_X11_point_51 (aV1 mt_226 la_106) (m_heardBy mc2 cb mr2 hb_ ml2 lb (by omega) (by omega)) (fun v I3 h2 => ?_)
        obtain ⟨e, fr_⟩ := h2
        subst e
        rw [hd_eq hb_ wm]
        have mc3 := MC.fr (I' := I3) mc2 (fr_ 106 (by decide) (by decide)) (fun x h1 h2 => fr_ x (by omega) (by omega))
        refine EV.l (lv' := [(0, _), (1, _), (2, _), (3, _)]) r_X11_point_54 rfl ?_
        refine EV.o r_X11_point_55 (icN (0) (v := 0)) ?_
        refine EV.l (lv' := [(0, _), (1, _), (2, _), (3, _), (4, _)]) r_X11_point_56 rfl ?_
        have L58 : ∀ y_ : Nat, (fun i => i ≤ κ.ns → EV none M_X11_point d' 58 [(0, .ref 106), (1, .int (nI s)), (2, .int (nI 0)), (3, .int (nI (ptM κ (heard κ η η.mi) s i))), (4, .int (nI i))] [] (hp I3 J) (QI J (fun v I' => v = opI (heav κ (ofSd κ s &&& heard κ η η.mi)) ∧ FM I I'))) y_ := by
          refine ev_loop (fun i => κ.ns - i) ?_
          intro i ih58 hx58
          try dsimp only at ih58
          try dsimp only at hx58
          try dsimp only
          have b2 := cb.ss i
          have pl_ := ptM_lt (κ := κ) (s := s) hl i
          refine EV.l (lv' := [(0, _), (1, _), (2, _), (3, _), (4, _)]) r_X11_point_58 rfl ?_
          refine EV.l (lv' := [(0, _), (1, _), (2, _), (3, _), (4, _)]) r_X11_point_60 rfl ?_
          refine EV.getV r_X11_point_61 la_106 (mc3.ns) ?_
          refine EV.n2_ge r_X11_point_64 (fun h64 => ?_) (fun h64 => ?_)
          · -- 64 t
            refine EV.l (lv' := [(0, _), (1, _), (2, _), (3, _), (4, _)]) r_X11_point_101 rfl ?_
            refine EV.l (lv' := [(0, _), (1, _), (2, _), (3, _), (4, _)]) r_X11_point_102 rfl ?_
            refine EV.l (lv' := [(0, _), (1, _), (2, _), (3, _), (4, _)]) r_X11_point_103 rfl ?_
            refine EV.cv r_X11_point_104 (aV2 mt_265 la_106) (m_heav0 mc3 cb (by omega) (by omega)) ?_
            exact EV.ri r_X11_point_107 (⟨by rw [← ptM_eq hl, show κ.ns = i by omega], FM_of fr_⟩)
          · -- 64 f
            refine EV.l (lv' := [(0, _), (1, _), (2, _), (3, _), (4, _)]) r_X11_point_67 rfl ?_
            refine EV.l (lv' := [(0, _), (1, _), (2, _), (3, _), (4, _)]) r_X11_point_68 rfl ?_
            refine EV.gR r_X11_point_69 la_106 ?_
            refine EV.o r_X11_point_72 (icN (3) (v := 3)) ?_
            refine EV.l (lv' := [(0, _), (1, _), (2, _), (3, _), (4, _)]) r_X11_point_73 rfl ?_
            refine EV.o r_X11_point_75 imulN ?_
            refine EV.o r_X11_point_76 (icN (1) (v := 1)) ?_
            refine EV.o r_X11_point_77 iaddN ?_
            refine EV.iaN r_X11_point_78 la_113 (mc3.ss _ (by omega)) ?_
            refine EV.l (lv' := [(0, _), (1, _), (2, _), (3, _), (4, _)]) r_X11_point_79 rfl ?_
            refine EV.n2_ne r_X11_point_80 (fun h80 => ?_) (fun h80 => ?_)
            · -- 80 t
              refine EV.o r_X11_point_87 (icN (1) (v := 1)) ?_
              refine EV.l (lv' := [(0, _), (1, _), (2, _), (3, _), (4, _)]) r_X11_point_88 rfl ?_
              refine EV.o r_X11_point_90 (ishl1) ?_
              refine EV.o r_X11_point_91 (icZ (-1)) ?_
              refine EV.o r_X11_point_92 inotN ?_
              refine EV.o r_X11_point_93 iandC ?_
              refine EV.l (lv' := [(0, _), (1, _), (2, _), (3, _), (4, _)]) r_X11_point_94 rfl ?_
              refine EV.l (lv' := [(0, _), (1, _), (2, _), (3, _), (4, _)]) r_X11_point_95 rfl ?_
              rw [inc_nI]
              refine EV.g r_X11_point_98 ?_
              refine EV.sub ?_ rfl ?_ (ih58 (i + 1) ?_ ?_)
              · first | rw [ptM_t (by assumption)] | rw [ptM_f (by assumption)]
              · rfl
              · omega
              · omega
            · -- 80 f
              refine EV.o r_X11_point_83 (icZ (-1)) ?_
              refine EV.g r_X11_point_84 ?_
              refine EV.o r_X11_point_93 iandM1 ?_
              refine EV.l (lv' := [(0, _), (1, _), (2, _), (3, _), (4, _)]) r_X11_point_94 rfl ?_
              refine EV.l (lv' := [(0, _), (1, _), (2, _), (3, _), (4, _)]) r_X11_point_95 rfl ?_
              rw [inc_nI]
              refine EV.g r_X11_point_98 ?_
              refine EV.sub ?_ rfl ?_ (ih58 (i + 1) ?_ ?_)
              · first | rw [ptM_t (by assumption)] | rw [ptM_f (by assumption)]
              · rfl
              · omega
              · omega
        have h0 := L58 (0)
        try dsimp only at h0
        refine EV.sub ?_ rfl ?_ (h0 ?_)
        · rfl
        · rfl
        · omega
      · omega
theorem m_point1 {d : Nat} {I : Nat → Nat → Int32} {J : Nat → Nat → Int64} {κ : CT} {l : LW} {η : HS} (mc_ : MC κ I) (cb : CB κ) (mr : MR 125 κ η I) (hb_ : HB κ η) (ml_ : ML l I) (lb : LB l) (wm : WM κ l η) {s : Nat} (h : s < 2)  (hd : 13 ≤ d) : RI d 273 [.ref 106, .int (nI s), .int (nI 1)] I J (fun v I' => v = opW κ (heav κ (ofSd κ s &&& heard κ η η.mi)) ∧ FM I I') := by
  refine RI.in (d0 := 12) hd mt_273 (Nat.le_of_ble_eq_true rfl) (fun d' hd' => ?_)
  have bns := cb.ns; have bnb := cb.nb; have bnc := cb.nc; have bnr := cb.nr
  have bm_ := hb_.mi
  have hl := heard_lt (κ := κ) (η := η) η.mi; have p0 := pow_ns cb
  show EV none M_X11_point d' 0 [(0, .ref 106), (1, .int (nI s)), (2, .int (nI 1))] [] (hp I J) _
  refine EV.l (lv' := [(0, _), (1, _), (2, _)]) r_X11_point_0 rfl ?_
  refine EV.o r_X11_point_1 (icN (0) (v := 0)) ?_
  refine EV.pI r_X11_point_2 la_106 ?_
  refine EV.l (lv' := [(0, _), (1, _), (2, _)]) r_X11_point_5 rfl ?_
  refine EV.l (lv' := [(0, _), (1, _), (2, _)]) r_X11_point_6 rfl ?_
  refine EV.o r_X11_point_7 (icN (0) (v := 0)) ?_
  refine EV.o r_X11_point_8 (icN (1) (v := 1)) ?_
  refine EV.cv r_X11_point_9 (aS3 mt_170) (m_wNNN (by omega) (by omega) (by omega) (by omega)) ?_
  refine EV.p0_eq r_X11_point_12 (fun h12 => ?_) (fun h12 => ?_)
  · -- 12 t
    refine EV.o r_X11_point_28 (icN (0) (v := 0)) ?_
    refine EV.o r_X11_point_29 (icN (1) (v := 1)) ?_
    refine EV.o r_X11_point_30 (icN (1) (v := 1)) ?_
    omega
  · -- 12 f
    refine EV.l (lv' := [(0, _), (1, _), (2, _)]) r_X11_point_15 rfl ?_
    refine EV.o r_X11_point_16 (icN (0) (v := 0)) ?_
    refine EV.o r_X11_point_17 (icN (1) (v := 1)) ?_
    refine EV.cv r_X11_point_18 (aS3 mt_170) (m_wNNN (by omega) (by omega) (by omega) (by omega)) ?_
    refine EV.p0_eq r_X11_point_21 (fun h21 => ?_) (fun h21 => ?_)
    · -- 21 t
      refine EV.o r_X11_point_28 (icN (0) (v := 0)) ?_
      refine EV.o r_X11_point_29 (icN (1) (v := 1)) ?_
      refine EV.o r_X11_point_30 (icN (1) (v := 1)) ?_
      omega
    · -- 21 f
      refine EV.o r_X11_point_24 (icN (1) (v := 1)) ?_
      refine EV.g r_X11_point_25 ?_
      refine EV.o r_X11_point_29 (icN (1) (v := 1)) ?_
      refine EV.o r_X11_point_30 (icN (1) (v := 1)) ?_
      refine EV.cv r_X11_point_31 (aV3 mt_169 la_106) (m_mayN wr_same (by omega)) ?_
      refine EV.n0_ne r_X11_point_34 (fun h34 => ?_) (fun h34 => ?_)
      · -- 34 t
        refine EV.l (lv' := [(0, _), (1, _), (2, _)]) r_X11_point_39 rfl ?_
        refine EV.cu r_X11_point_40 (aV0 mt_212 la_106) (m_take (by omega)) (fun I2 e2 => ?_)
        have e2 : I2 = M2 I := e2
        subst e2
        have mc2 := M2_mc mc_
        have ml2 := M2_ml ml_
        have mr2 := M2_mr mr cb
        refine EV.l (lv' := [(0, _), (1, _), (2, _)]) r_X11_point_43 rfl ?_
        refine EV.l (lv' := [(0, _), (1, _), (2, _)]) r_X11_point_44 rfl ?_
        refine EV.gR r_X11_point_45 la_106 ?_
        refine EV.o r_X11_point_48 (bpN (30) 30) ?_
        refine EV.iaN r_X11_point_50 la_126 (mr2.mi) ?_
        refine EV.ci r_X11_point_51 (aV1 mt_226 la_106) (m_heardBy mc2 cb mr2 hb_ ml2 lb (by omega) (by omega)) (fun v I3 h2 => ?_)
        obtain ⟨e, fr_⟩ := h2
        subst e
        rw [hd_eq hb_ wm]
        have mc3 := MC.fr (I' := I3) mc2 (fr_ 106 (by decide) (by decide)) (fun x h1 h2 => fr_ x (by omega) (by omega))
        refine EV.l (lv' := [(0, _), (1, _), (2, _), (3, _)]) r_X11_point_54 rfl ?_
        refine EV.o r_X11_point_55 (icN (0) (v := 0)) ?_
        refine EV.l (lv' := [(0, _), (1, _), (2, _), (3, _), (4, _)]) r_X11_point_56 rfl ?_
        have L58 : ∀ y_ : Nat, (fun i => i ≤ κ.ns → EV none M_X11_point d' 58 [(0, .ref 106), (1, .int (nI s)), (2, .int (nI 1)), (3, .int (nI (ptM κ (heard κ η η.mi) s i))), (4, .int (nI i))] [] (hp I3 J) (QI J (fun v I' => v = opW κ (heav κ (ofSd κ s &&& heard κ η η.mi)) ∧ FM I I'))) y_ := by
          refine ev_loop (fun i => κ.ns - i) ?_
          intro i ih58 hx58
          try dsimp only at ih58
          try dsimp only at hx58
          try dsimp only
          have b2 := cb.ss i
          have pl_ := ptM_lt (κ := κ) (s := s) hl i
          refine EV.l (lv' := [(0, _), (1, _), (2, _), (3, _), (4, _)]) r_X11_point_58 rfl ?_
          refine EV.l (lv' := [(0, _), (1, _), (2, _), (3, _), (4, _)]) r_X11_point_60 rfl ?_
          refine EV.getV r_X11_point_61 la_106 (mc3.ns) ?_
          refine EV.n2_ge r_X11_point_64 (fun h64 => ?_) (fun h64 => ?_)
          · -- 64 t
            refine EV.l (lv' := [(0, _), (1, _), (2, _), (3, _), (4, _)]) r_X11_point_101 rfl ?_
            refine EV.l (lv' := [(0, _), (1, _), (2, _), (3, _), (4, _)]) r_X11_point_102 rfl ?_
            refine EV.l (lv' := [(0, _), (1, _), (2, _), (3, _), (4, _)]) r_X11_point_103 rfl ?_
            refine EV.cv r_X11_point_104 (aV2 mt_265 la_106) (m_heav1 mc3 cb (by omega) (by omega)) ?_
            exact EV.ri r_X11_point_107 (⟨by rw [← ptM_eq hl, show κ.ns = i by omega], FM_of fr_⟩)
          · -- 64 f
            refine EV.l (lv' := [(0, _), (1, _), (2, _), (3, _), (4, _)]) r_X11_point_67 rfl ?_
            refine EV.l (lv' := [(0, _), (1, _), (2, _), (3, _), (4, _)]) r_X11_point_68 rfl ?_
            refine EV.gR r_X11_point_69 la_106 ?_
            refine EV.o r_X11_point_72 (icN (3) (v := 3)) ?_
            refine EV.l (lv' := [(0, _), (1, _), (2, _), (3, _), (4, _)]) r_X11_point_73 rfl ?_
            refine EV.o r_X11_point_75 imulN ?_
            refine EV.o r_X11_point_76 (icN (1) (v := 1)) ?_
            refine EV.o r_X11_point_77 iaddN ?_
            refine EV.iaN r_X11_point_78 la_113 (mc3.ss _ (by omega)) ?_
            refine EV.l (lv' := [(0, _), (1, _), (2, _), (3, _), (4, _)]) r_X11_point_79 rfl ?_
            refine EV.n2_ne r_X11_point_80 (fun h80 => ?_) (fun h80 => ?_)
            · -- 80 t
              refine EV.o r_X11_point_87 (icN (1) (v := 1)) ?_
              refine EV.l (lv' := [(0, _), (1, _), (2, _), (3, _), (4, _)]) r_X11_point_88 rfl ?_
              refine EV.o r_X11_point_90 (ishl1) ?_
              refine EV.o r_X11_point_91 (icZ (-1)) ?_
              refine EV.o r_X11_point_92 inotN ?_
              refine EV.o r_X11_point_93 iandC ?_
              refine EV.l (lv' := [(0, _), (1, _), (2, _), (3, _), (4, _)]) r_X11_point_94 rfl ?_
              refine EV.l (lv' := [(0, _), (1, _), (2, _), (3, _), (4, _)]) r_X11_point_95 rfl ?_
              rw [inc_nI]
              refine EV.g r_X11_point_98 ?_
              refine EV.sub ?_ rfl ?_ (ih58 (i + 1) ?_ ?_)
              · first | rw [ptM_t (by assumption)] | rw [ptM_f (by assumption)]
              · rfl
              · omega
              · omega
            · -- 80 f
              refine EV.o r_X11_point_83 (icZ (-1)) ?_
              refine EV.g r_X11_point_84 ?_
              refine EV.o r_X11_point_93 iandM1 ?_
              refine EV.l (lv' := [(0, _), (1, _), (2, _), (3, _), (4, _)]) r_X11_point_94 rfl ?_
              refine EV.l (lv' := [(0, _), (1, _), (2, _), (3, _), (4, _)]) r_X11_point_95 rfl ?_
              rw [inc_nI]
              refine EV.g r_X11_point_98 ?_
              refine EV.sub ?_ rfl ?_ (ih58 (i + 1) ?_ ?_)
              · first | rw [ptM_t (by assumption)] | rw [ptM_f (by assumption)]
              · rfl
              · omega
              · omega
        have h0 := L58 (0)
        try dsimp only at h0
        refine EV.sub ?_ rfl ?_ (h0 ?_)
        · rfl
        · rfl
        · omega
      · omega
theorem m_mayLead {d : Nat} {I : Nat → Nat → Int32} {J : Nat → Nat → Int64} {κ : CT} {η : HS} (mr : MR 126 κ η I) (cb : CB κ) (hb_ : HB κ η) {k b n : Nat} (hk : k < κ.nc) (hb2 : b < κ.nb) (hn : n < 100000)  (hd : 2 ≤ d) : RV d 228 [.ref 106, .int (nI k), .int (nI b), .int (nI n)] I J (bI (canL η k b n)) := by
  refine RV.in (d0 := 1) hd mt_228 (Nat.le_of_ble_eq_true rfl) (fun d' hd' => ?_)
  have bns := cb.ns; have bnb := cb.nb; have bnc := cb.nc; have bnr := cb.nr
  have b1 := hb_.cr k; have b2 := hb_.be b; have b3 := hb_.mi
  show EV none M_X11_mayLead d' 0 [(0, .ref 106), (1, .int (nI k)), (2, .int (nI b)), (3, .int (nI n))] [] (hp I J) _
  refine EV.l (lv' := [(0, _), (1, _), (2, _), (3, _)]) r_X11_mayLead_0 rfl ?_
  refine EV.gR r_X11_mayLead_1 la_106 ?_
  refine EV.o r_X11_mayLead_4 (bpN (26) 26) ?_
  refine EV.l (lv' := [(0, _), (1, _), (2, _), (3, _)]) r_X11_mayLead_6 rfl ?_
  refine EV.o r_X11_mayLead_7 iaddN ?_
  refine EV.iaN r_X11_mayLead_8 la_126 (mr.cr _ (by omega)) ?_
  refine EV.l (lv' := [(0, _), (1, _), (2, _), (3, _)]) r_X11_mayLead_9 rfl ?_
  refine EV.n2_lt r_X11_mayLead_10 (fun h10 => ?_) (fun h10 => ?_)
  · -- 10 t
    refine EV.o r_X11_mayLead_36 (icN (0) (v := 0)) ?_
    exact EV.rv r_X11_mayLead_37 (by first | (rw [show canL η k b n = true from decide_eq_true (by omega)]; rfl) | (rw [show canL η k b n = false from decide_eq_false (by omega)]; rfl))
  · -- 10 f
    refine EV.l (lv' := [(0, _), (1, _), (2, _), (3, _)]) r_X11_mayLead_13 rfl ?_
    refine EV.gR r_X11_mayLead_14 la_106 ?_
    refine EV.o r_X11_mayLead_17 (bpN (18) 18) ?_
    refine EV.l (lv' := [(0, _), (1, _), (2, _), (3, _)]) r_X11_mayLead_19 rfl ?_
    refine EV.o r_X11_mayLead_20 iaddN ?_
    refine EV.iaN r_X11_mayLead_21 la_126 (mr.be _ (by omega)) ?_
    refine EV.l (lv' := [(0, _), (1, _), (2, _), (3, _)]) r_X11_mayLead_22 rfl ?_
    refine EV.gR r_X11_mayLead_23 la_106 ?_
    refine EV.o r_X11_mayLead_26 (bpN (30) 30) ?_
    refine EV.iaN r_X11_mayLead_28 la_126 (mr.mi) ?_
    refine EV.n2_lt r_X11_mayLead_29 (fun h29 => ?_) (fun h29 => ?_)
    · -- 29 t
      refine EV.o r_X11_mayLead_36 (icN (0) (v := 0)) ?_
      exact EV.rv r_X11_mayLead_37 (by first | (rw [show canL η k b n = true from decide_eq_true (by omega)]; rfl) | (rw [show canL η k b n = false from decide_eq_false (by omega)]; rfl))
    · -- 29 f
      refine EV.o r_X11_mayLead_32 (icN (1) (v := 1)) ?_
      refine EV.g r_X11_mayLead_33 ?_
      exact EV.rv r_X11_mayLead_37 (by first | (rw [show canL η k b n = true from decide_eq_true (by omega)]; rfl) | (rw [show canL η k b n = false from decide_eq_false (by omega)]; rfl))
theorem m_leaders {d : Nat} {I : Nat → Nat → Int32} {J : Nat → Nat → Int64} {κ : CT} {l : LW} {η : HS} (mc_ : MC κ I) (cb : CB κ) (mr : MR 125 κ η I) (hb_ : HB κ η) (ml_ : ML l I) (lb : LB l) (wm : WM κ l η) {b n : Nat} (h : b < κ.nb) (hn : 1 ≤ n) (hn2 : n ≤ 9)  (hd : 13 ≤ d) : RI d 269 [.ref 106, .int (nI b), .int (nI n)] I J (fun v I' => v = nI (mk (fun k => canL η k b n) κ.nc) ∧ FM I I') := by
  refine RI.in (d0 := 12) hd mt_269 (Nat.le_of_ble_eq_true rfl) (fun d' hd' => ?_)
  have bns := cb.ns; have bnb := cb.nb; have bnc := cb.nc; have bnr := cb.nr
  have bm_ := hb_.mi
  show EV none M_X11_leaders d' 0 [(0, .ref 106), (1, .int (nI b)), (2, .int (nI n))] [] (hp I J) _
  refine EV.l (lv' := [(0, _), (1, _), (2, _)]) r_X11_leaders_0 rfl ?_
  refine EV.o r_X11_leaders_1 (icN (0) (v := 0)) ?_
  refine EV.pI r_X11_leaders_2 la_106 ?_
  refine EV.l (lv' := [(0, _), (1, _), (2, _)]) r_X11_leaders_5 rfl ?_
  refine EV.l (lv' := [(0, _), (1, _), (2, _)]) r_X11_leaders_6 rfl ?_
  refine EV.o r_X11_leaders_7 (icN (1) (v := 1)) ?_
  refine EV.cv r_X11_leaders_8 (aV2 mt_239 la_106) (m_isBird1 (wr0_mc mc_) cb wr_same (by omega) (by omega)) ?_
  refine EV.n0_eq r_X11_leaders_11 (fun h11 => ?_) (fun h11 => ?_)
  · omega
  · -- 11 f
    refine EV.l (lv' := [(0, _), (1, _), (2, _)]) r_X11_leaders_14 rfl ?_
    refine EV.l (lv' := [(0, _), (1, _), (2, _)]) r_X11_leaders_15 rfl ?_
    refine EV.o r_X11_leaders_16 (icN (1) (v := 1)) ?_
    refine EV.o r_X11_leaders_17 (bpN (9) 9) ?_
    refine EV.cv r_X11_leaders_19 (aS3 mt_170) (m_wNNN (by omega) (by omega) (by omega) (by omega)) ?_
    refine EV.o r_X11_leaders_22 (icN (2) (v := 2)) ?_
    refine EV.o r_X11_leaders_23 (icN (1) (v := 1)) ?_
    refine EV.cv r_X11_leaders_24 (aV3 mt_169 la_106) (m_mayP (by omega) wr_same (by omega)) ?_
    refine EV.n0_ne r_X11_leaders_27 (fun h27 => ?_) (fun h27 => ?_)
    · -- 27 t
      refine EV.l (lv' := [(0, _), (1, _), (2, _)]) r_X11_leaders_32 rfl ?_
      refine EV.cu r_X11_leaders_33 (aV0 mt_212 la_106) (m_take (by omega)) (fun I2 e2 => ?_)
      have e2 : I2 = M2 I := e2
      subst e2
      have mc2 := M2_mc mc_
      have ml2 := M2_ml ml_
      have mr2 := M2_mr mr cb
      refine EV.o r_X11_leaders_36 (icN (0) (v := 0)) ?_
      refine EV.l (lv' := [(0, _), (1, _), (2, _), (3, _)]) r_X11_leaders_37 rfl ?_
      refine EV.o r_X11_leaders_38 (icN (0) (v := 0)) ?_
      refine EV.l (lv' := [(0, _), (1, _), (2, _), (3, _), (4, _)]) r_X11_leaders_39 rfl ?_
      have L41 : ∀ y_ : Nat, (fun i => i ≤ κ.nc → EV none M_X11_leaders d' 41 [(0, .ref 106), (1, .int (nI b)), (2, .int (nI n)), (3, .int (nI (mk (fun k => canL η k b n) i))), (4, .int (nI i))] [] (hp (M2 I) J) (QI J (fun v I' => v = nI (mk (fun k => canL η k b n) κ.nc) ∧ FM I I'))) y_ := by
        refine ev_loop (fun i => κ.nc - i) ?_
        intro i ih41 hx41
        try dsimp only at ih41
        try dsimp only at hx41
        try dsimp only
        refine EV.l (lv' := [(0, _), (1, _), (2, _), (3, _), (4, _)]) r_X11_leaders_41 rfl ?_
        refine EV.l (lv' := [(0, _), (1, _), (2, _), (3, _), (4, _)]) r_X11_leaders_43 rfl ?_
        refine EV.getV r_X11_leaders_44 la_106 (mc2.nc) ?_
        refine EV.n2_ge r_X11_leaders_47 (fun h47 => ?_) (fun h47 => ?_)
        · -- 47 t
          refine EV.l (lv' := [(0, _), (1, _), (2, _), (3, _), (4, _)]) r_X11_leaders_78 rfl ?_
          exact EV.ri r_X11_leaders_79 (⟨by rw [show i = κ.nc by omega], FM_2⟩)
        · -- 47 f
          refine EV.l (lv' := [(0, _), (1, _), (2, _), (3, _), (4, _)]) r_X11_leaders_50 rfl ?_
          refine EV.l (lv' := [(0, _), (1, _), (2, _), (3, _), (4, _)]) r_X11_leaders_51 rfl ?_
          refine EV.l (lv' := [(0, _), (1, _), (2, _), (3, _), (4, _)]) r_X11_leaders_52 rfl ?_
          refine EV.l (lv' := [(0, _), (1, _), (2, _), (3, _), (4, _)]) r_X11_leaders_54 rfl ?_
          refine EV.l (lv' := [(0, _), (1, _), (2, _), (3, _), (4, _)]) r_X11_leaders_55 rfl ?_
          refine EV.cv r_X11_leaders_56 (aV3 mt_228 la_106) (m_mayLead mr2 cb hb_ (by omega) (by omega) (by omega) (by omega)) ?_
          refine EV.b0_eq r_X11_leaders_59 (fun h59 => ?_) (fun h59 => ?_)
          · -- 59 t
            refine EV.o r_X11_leaders_69 (icN (0) (v := 0)) ?_
            refine EV.o r_X11_leaders_70 iorN ?_
            refine EV.l (lv' := [(0, _), (1, _), (2, _), (3, _), (4, _)]) r_X11_leaders_71 rfl ?_
            refine EV.l (lv' := [(0, _), (1, _), (2, _), (3, _), (4, _)]) r_X11_leaders_72 rfl ?_
            rw [inc_nI]
            refine EV.g r_X11_leaders_75 ?_
            refine EV.sub ?_ rfl ?_ (ih41 (i + 1) ?_ ?_)
            · first | rw [mk_t (p := fun k => canL η k b n) (decide_eq_true (by omega))] | rw [mk_z (p := fun k => canL η k b n) (decide_eq_false (by omega))] | rw [mk_t (p := fun k => canL η k b n) (by assumption)] | rw [mk_z (p := fun k => canL η k b n) (by assumption)]
            · rfl
            · omega
            · omega
          · -- 59 f
            refine EV.o r_X11_leaders_62 (icN (1) (v := 1)) ?_
            refine EV.l (lv' := [(0, _), (1, _), (2, _), (3, _), (4, _)]) r_X11_leaders_63 rfl ?_
            refine EV.o r_X11_leaders_65 (ishl1) ?_
            refine EV.g r_X11_leaders_66 ?_
            refine EV.o r_X11_leaders_70 iorN ?_
            refine EV.l (lv' := [(0, _), (1, _), (2, _), (3, _), (4, _)]) r_X11_leaders_71 rfl ?_
            refine EV.l (lv' := [(0, _), (1, _), (2, _), (3, _), (4, _)]) r_X11_leaders_72 rfl ?_
            rw [inc_nI]
            refine EV.g r_X11_leaders_75 ?_
            refine EV.sub ?_ rfl ?_ (ih41 (i + 1) ?_ ?_)
            · first | rw [mk_t (p := fun k => canL η k b n) (decide_eq_true (by omega))] | rw [mk_z (p := fun k => canL η k b n) (decide_eq_false (by omega))] | rw [mk_t (p := fun k => canL η k b n) (by assumption)] | rw [mk_z (p := fun k => canL η k b n) (by assumption)]
            · rfl
            · omega
            · omega
      have h0 := L41 (0)
      try dsimp only at h0
      refine EV.sub ?_ rfl ?_ (h0 ?_)
      · rfl
      · rfl
      · omega
    · omega
theorem m_used {d : Nat} {I : Nat → Nat → Int32} {J : Nat → Nat → Int64} {κ : CT} {l : LW} {η : HS} (mc_ : MC κ I) (cb : CB κ) (mr : MR 125 κ η I) (hb_ : HB κ η) (ml_ : ML l I) (lb : LB l) (wm : WM κ l η)  (hd : 13 ≤ d) : RI d 270 [.ref 106] I J (fun v I' => v = nI (mk (usedB κ (clo κ (heard κ η η.mi))) κ.nr) ∧ FM I I') := by
  refine RI.in (d0 := 12) hd mt_270 (Nat.le_of_ble_eq_true rfl) (fun d' hd' => ?_)
  have bns := cb.ns; have bnb := cb.nb; have bnc := cb.nc; have bnr := cb.nr
  have bm_ := hb_.mi
  have cl_ := clo_lt cb (heard_lt (κ := κ) (η := η) η.mi); have p0 := pow_ns cb
  show EV none M_X11_used d' 0 [(0, .ref 106)] [] (hp I J) _
  refine EV.l (lv' := [(0, _)]) r_X11_used_0 rfl ?_
  refine EV.o r_X11_used_1 (icN (0) (v := 0)) ?_
  refine EV.pI r_X11_used_2 la_106 ?_
  refine EV.l (lv' := [(0, _)]) r_X11_used_5 rfl ?_
  refine EV.cu r_X11_used_6 (aV0 mt_212 la_106) (m_take (by omega)) (fun I2 e2 => ?_)
  have e2 : I2 = M2 I := e2
  subst e2
  have mc2 := M2_mc mc_
  have ml2 := M2_ml ml_
  have mr2 := M2_mr mr cb
  refine EV.l (lv' := [(0, _)]) r_X11_used_9 rfl ?_
  refine EV.l (lv' := [(0, _)]) r_X11_used_10 rfl ?_
  refine EV.l (lv' := [(0, _)]) r_X11_used_11 rfl ?_
  refine EV.gR r_X11_used_12 la_106 ?_
  refine EV.o r_X11_used_15 (bpN (30) 30) ?_
  refine EV.iaN r_X11_used_17 la_126 (mr2.mi) ?_
  refine EV.ci r_X11_used_18 (aV1 mt_226 la_106) (m_heardBy mc2 cb mr2 hb_ ml2 lb (by omega) (by omega)) (fun v I3 h2 => ?_)
  obtain ⟨e, fr_⟩ := h2
  subst e
  rw [hd_eq hb_ wm]
  have mc3 := MC.fr (I' := I3) mc2 (fr_ 106 (by decide) (by decide)) (fun x h1 h2 => fr_ x (by omega) (by omega))
  refine EV.cv r_X11_used_21 (aV1 mt_223 la_106) (m_allFrom mc3 cb (heard_lt _) (by omega)) ?_
  refine EV.l (lv' := [(0, _), (1, _)]) r_X11_used_24 rfl ?_
  refine EV.o r_X11_used_25 (icN (0) (v := 0)) ?_
  refine EV.l (lv' := [(0, _), (1, _), (2, _)]) r_X11_used_26 rfl ?_
  refine EV.o r_X11_used_27 (icN (0) (v := 0)) ?_
  refine EV.l (lv' := [(0, _), (1, _), (2, _), (3, _)]) r_X11_used_28 rfl ?_
  have L29 : ∀ y_ : Nat, (fun i => i ≤ κ.nr → EV none M_X11_used d' 29 [(0, .ref 106), (1, .int (nI (clo κ (heard κ η η.mi)))), (2, .int (nI (mk (usedB κ (clo κ (heard κ η η.mi))) i))), (3, .int (nI i))] [] (hp I3 J) (QI J (fun v I' => v = nI (mk (usedB κ (clo κ (heard κ η η.mi))) κ.nr) ∧ FM I I'))) y_ := by
    refine ev_loop (fun i => κ.nr - i) ?_
    intro i ih29 hx29
    try dsimp only at ih29
    try dsimp only at hx29
    try dsimp only
    have b2 : i < κ.nr → κ.r1 i < κ.ns := cb.r1 i; have b3 : i < κ.nr → κ.r2 i < κ.ns := cb.r2 i
    refine EV.l (lv' := [(0, _), (1, _), (2, _), (3, _)]) r_X11_used_29 rfl ?_
    refine EV.l (lv' := [(0, _), (1, _), (2, _), (3, _)]) r_X11_used_30 rfl ?_
    refine EV.getV r_X11_used_31 la_106 (mc3.nr) ?_
    refine EV.n2_ge r_X11_used_34 (fun h34 => ?_) (fun h34 => ?_)
    · -- 34 t
      refine EV.l (lv' := [(0, _), (1, _), (2, _), (3, _)]) r_X11_used_73 rfl ?_
      exact EV.ri r_X11_used_74 (⟨by rw [show i = κ.nr by omega], FM_of fr_⟩)
    · -- 34 f
      refine EV.l (lv' := [(0, _), (1, _), (2, _), (3, _)]) r_X11_used_37 rfl ?_
      refine EV.l (lv' := [(0, _), (1, _), (2, _), (3, _)]) r_X11_used_38 rfl ?_
      refine EV.l (lv' := [(0, _), (1, _), (2, _), (3, _)]) r_X11_used_39 rfl ?_
      refine EV.gR r_X11_used_40 la_106 ?_
      refine EV.o r_X11_used_43 (icN (3) (v := 3)) ?_
      refine EV.l (lv' := [(0, _), (1, _), (2, _), (3, _)]) r_X11_used_44 rfl ?_
      refine EV.o r_X11_used_45 imulN ?_
      refine EV.iaN r_X11_used_46 la_114 (mc3.r1 _ (by omega)) ?_
      refine EV.o r_X11_used_47 (ishrN) ?_
      refine EV.l (lv' := [(0, _), (1, _), (2, _), (3, _)]) r_X11_used_48 rfl ?_
      refine EV.l (lv' := [(0, _), (1, _), (2, _), (3, _)]) r_X11_used_49 rfl ?_
      refine EV.gR r_X11_used_50 la_106 ?_
      refine EV.o r_X11_used_53 (icN (3) (v := 3)) ?_
      refine EV.l (lv' := [(0, _), (1, _), (2, _), (3, _)]) r_X11_used_54 rfl ?_
      refine EV.o r_X11_used_55 imulN ?_
      refine EV.o r_X11_used_56 (icN (1) (v := 1)) ?_
      refine EV.o r_X11_used_57 iaddN ?_
      refine EV.iaN r_X11_used_58 la_114 (mc3.r2 _ (by omega)) ?_
      refine EV.o r_X11_used_59 (ishrN) ?_
      refine EV.o r_X11_used_60 iandN ?_
      refine EV.o r_X11_used_61 (icN (1) (v := 1)) ?_
      refine EV.o r_X11_used_62 (iusedN) ?_
      refine EV.l (lv' := [(0, _), (1, _), (2, _), (3, _)]) r_X11_used_63 rfl ?_
      refine EV.o r_X11_used_64 (ishlB) ?_
      refine EV.o r_X11_used_65 iorN ?_
      refine EV.l (lv' := [(0, _), (1, _), (2, _), (3, _)]) r_X11_used_66 rfl ?_
      refine EV.l (lv' := [(0, _), (1, _), (2, _), (3, _)]) r_X11_used_67 rfl ?_
      rw [inc_nI]
      refine EV.g r_X11_used_70 ?_
      refine EV.sub ?_ rfl ?_ (ih29 (i + 1) ?_ ?_)
      · (rw [← mk_b (p := usedB κ (clo κ (heard κ η η.mi)))]; rfl)
      · rfl
      · omega
      · omega
  have h0 := L29 (0)
  try dsimp only at h0
  refine EV.sub ?_ rfl ?_ (h0 ?_)
  · rfl
  · rfl
  · omega
theorem m_over {d : Nat} {I : Nat → Nat → Int32} {J : Nat → Nat → Int64} {κ : CT} {l : LW} {η : HS} (mc_ : MC κ I) (cb : CB κ) (mr : MR 125 κ η I) (hb_ : HB κ η) (ml_ : ML l I) (lb : LB l) (wm : WM κ l η) {b : Nat} (h : b < κ.nb)  (hd : 13 ≤ d) : RI d 271 [.ref 106, .int (nI b)] I J (fun v I' => v = nI (sdB κ η (η.be b) (η.be b + η.wk b - 1)) ∧ FM I I') := by
  refine RI.in (d0 := 12) hd mt_271 (Nat.le_of_ble_eq_true rfl) (fun d' hd' => ?_)
  have bns := cb.ns; have bnb := cb.nb; have bnc := cb.nc; have bnr := cb.nr
  have bm_ := hb_.mi
  show EV none M_X11_over d' 0 [(0, .ref 106), (1, .int (nI b))] [] (hp I J) _
  refine EV.l (lv' := [(0, _), (1, _)]) r_X11_over_0 rfl ?_
  refine EV.o r_X11_over_1 (icN (0) (v := 0)) ?_
  refine EV.pI r_X11_over_2 la_106 ?_
  refine EV.l (lv' := [(0, _), (1, _)]) r_X11_over_5 rfl ?_
  refine EV.l (lv' := [(0, _), (1, _)]) r_X11_over_6 rfl ?_
  refine EV.o r_X11_over_7 (icN (1) (v := 1)) ?_
  refine EV.cv r_X11_over_8 (aV2 mt_239 la_106) (m_isBird1 (wr0_mc mc_) cb wr_same (by omega) (by omega)) ?_
  refine EV.n0_ne r_X11_over_11 (fun h11 => ?_) (fun h11 => ?_)
  · -- 11 t
    refine EV.l (lv' := [(0, _), (1, _)]) r_X11_over_16 rfl ?_
    refine EV.cu r_X11_over_17 (aV0 mt_212 la_106) (m_take (by omega)) (fun I2 e2 => ?_)
    have e2 : I2 = M2 I := e2
    subst e2
    have mc2 := M2_mc mc_
    have ml2 := M2_ml ml_
    have mr2 := M2_mr mr cb
    refine EV.l (lv' := [(0, _), (1, _)]) r_X11_over_20 rfl ?_
    refine EV.l (lv' := [(0, _), (1, _)]) r_X11_over_21 rfl ?_
    refine EV.o r_X11_over_22 (icN (0) (v := 0)) ?_
    refine EV.ci r_X11_over_23 (aV2 mt_219 la_106) (m_overBy mc2 cb mr2 hb_ ml2 lb (by omega) (by omega) (by omega)) (fun v I3 h2 => ?_)
    obtain ⟨e, fr_⟩ := h2
    subst e
    exact EV.ri r_X11_over_26 (⟨by rw [ov_eq hb_ wm h], FM_of fr_⟩)
  · omega
theorem m_delay {d : Nat} {I : Nat → Nat → Int32} {J : Nat → Nat → Int64} {κ : CT} {l : LW} {η : HS} (mc_ : MC κ I) (cb : CB κ) (mr : MR 125 κ η I) (hb_ : HB κ η) (ml_ : ML l I) (lb : LB l) (wm : WM κ l η) {i : Nat} (h : i < κ.ns)  (hd : 13 ≤ d) : RI d 272 [.ref 106, .int (nI i)] I J (fun v I' => v = opI (fst1 (dlyB κ η i) 10) ∧ FM I I') := by
  refine RI.in (d0 := 12) hd mt_272 (Nat.le_of_ble_eq_true rfl) (fun d' hd' => ?_)
  have bns := cb.ns; have bnb := cb.nb; have bnc := cb.nc; have bnr := cb.nr
  have bm_ := hb_.mi
  have b1 := hb_.sa i
  show EV none M_X11_delay d' 0 [(0, .ref 106), (1, .int (nI i))] [] (hp I J) _
  refine EV.l (lv' := [(0, _), (1, _)]) r_X11_delay_0 rfl ?_
  refine EV.o r_X11_delay_1 (icN (0) (v := 0)) ?_
  refine EV.pI r_X11_delay_2 la_106 ?_
  refine EV.l (lv' := [(0, _), (1, _)]) r_X11_delay_5 rfl ?_
  refine EV.l (lv' := [(0, _), (1, _)]) r_X11_delay_6 rfl ?_
  refine EV.o r_X11_delay_7 (icN (1) (v := 1)) ?_
  refine EV.cv r_X11_delay_8 (aV2 mt_238 la_106) (m_isSayN1 (wr0_mc mc_) cb wr_same (by omega) (by omega)) ?_
  refine EV.n0_ne r_X11_delay_11 (fun h11 => ?_) (fun h11 => ?_)
  · -- 11 t
    refine EV.l (lv' := [(0, _), (1, _)]) r_X11_delay_16 rfl ?_
    refine EV.cu r_X11_delay_17 (aV0 mt_212 la_106) (m_take (by omega)) (fun I2 e2 => ?_)
    have e2 : I2 = M2 I := e2
    subst e2
    have mc2 := M2_mc mc_
    have ml2 := M2_ml ml_
    have mr2 := M2_mr mr cb
    refine EV.o r_X11_delay_20 (icN (0) (v := 0)) ?_
    refine EV.l (lv' := [(0, _), (1, _), (2, _)]) r_X11_delay_21 rfl ?_
    have L22 : ∀ y_ : Nat × (Nat → Nat → Int32), (fun y => (y.1 ≤ 10 ∧ (∀ o, o ≠ 121 → o ≠ 122 → y.2 o = M2 I o) ∧ ∀ j, j < y.1 → dlyB κ η i j = false) → EV none M_X11_delay d' 22 [(0, .ref 106), (1, .int (nI i)), (2, .int (nI y.1))] [] (hp y.2 J) (QI J (fun v I' => v = opI (fst1 (dlyB κ η i) 10) ∧ FM I I'))) y_ := by
      refine ev_loop (fun y => 10 - y.1) ?_
      intro ⟨k, I1⟩ ih22 hx22
      try dsimp only at ih22
      try dsimp only at hx22
      try dsimp only
      have fr_ := hx22.2.1; have kl := hx22.1
      have mc3 := MC.fr (I' := I1) mc2 (fr_ 106 (by decide) (by decide)) (fun x h1 h2 => fr_ x (by omega) (by omega))
      have mr3 := MR.fr (I' := I1) mr2 (fr_ 126 (by decide) (by decide))
      have ml3 := ML.fr (I' := I1) ml2 (fr_ 106 (by decide) (by decide)) (fr_ 119 (by decide) (by decide)) (fr_ 120 (by decide) (by decide))
      have b2 : birds κ η (min 400 (η.sa i + k)) < 16 := mk_nb cb _
      have ff_ := hx22.2.2
      refine EV.l (lv' := [(0, _), (1, _), (2, _)]) r_X11_delay_22 rfl ?_
      refine EV.o r_X11_delay_23 (bpN (10) 10) ?_
      refine EV.n2_ge r_X11_delay_25 (fun h25 => ?_) (fun h25 => ?_)
      · -- 25 t
        refine EV.o r_X11_delay_56 (icZ (-1)) ?_
        exact EV.ri r_X11_delay_57 (⟨by rw [fst1_none (fun j hj => ff_ j (by omega))]; rfl, FM_of fr_⟩)
      · -- 25 f
        refine EV.l (lv' := [(0, _), (1, _), (2, _)]) r_X11_delay_28 rfl ?_
        refine EV.l (lv' := [(0, _), (1, _), (2, _)]) r_X11_delay_29 rfl ?_
        refine EV.gR r_X11_delay_30 la_106 ?_
        refine EV.o r_X11_delay_33 (icN (0) (v := 0)) ?_
        refine EV.l (lv' := [(0, _), (1, _), (2, _)]) r_X11_delay_34 rfl ?_
        refine EV.o r_X11_delay_35 iaddN ?_
        refine EV.iaN r_X11_delay_36 la_126 (mr3.sa _ (by omega)) ?_
        refine EV.l (lv' := [(0, _), (1, _), (2, _)]) r_X11_delay_37 rfl ?_
        refine EV.o r_X11_delay_38 iaddN ?_
        refine EV.cv r_X11_delay_39 (aS1 mt_215) (m_held (by omega) (by omega)) ?_
        refine EV.ci r_X11_delay_42 (aV1 mt_220 la_106) (m_birdsAt mc3 cb mr3 hb_ ml3 lb (by omega) (by omega)) (fun v I3 h2 => ?_)
        obtain ⟨e, fr2⟩ := h2
        subst e
        rw [← bd_eq hb_ wm]
        refine EV.n0_ne r_X11_delay_45 (fun h45 => ?_) (fun h45 => ?_)
        · -- 45 t
          refine EV.l (lv' := [(0, _), (1, _), (2, _)]) r_X11_delay_50 rfl ?_
          rw [inc_nI]
          refine EV.g r_X11_delay_53 ?_
          refine EV.sub ?_ rfl ?_ (ih22 (k + 1, I3) ?_ ?_)
          · (try dsimp only) <;> (rfl)
          · (try dsimp only) <;> (rfl)
          · (try dsimp only) <;> (omega)
          · (try dsimp only) <;> (exact ⟨by omega, fun o h1 h2 => (fr2 o h1 h2).trans (fr_ o h1 h2), all_s ff_ (decide_eq_false (by omega))⟩)
        · -- 45 f
          refine EV.l (lv' := [(0, _), (1, _), (2, _)]) r_X11_delay_48 rfl ?_
          exact EV.ri r_X11_delay_49 (⟨by rw [fst1_at (by omega) (decide_eq_true (by omega)) ff_]; rfl, FM_of (fun o h1 h2 => (fr2 o h1 h2).trans (fr_ o h1 h2))⟩)
    have h0 := L22 ((0, M2 I))
    try dsimp only at h0
    refine EV.sub ?_ rfl ?_ (h0 ?_)
    · (try dsimp only) <;> (rfl)
    · (try dsimp only) <;> (rfl)
    · (try dsimp only) <;> (exact ⟨Nat.zero_le _, fun _ _ _ => rfl, fun j hj => absurd hj (Nat.not_lt_zero j)⟩)
  · omega
theorem m_bounded {d : Nat} {I : Nat → Nat → Int32} {J : Nat → Nat → Int64} {κ : CT} {η : HS} (mr : MR 125 κ η I) (cb : CB κ) (hb_ : HB κ η) {k n : Nat} (hk : k < κ.nc) (hn : n < 100000)  (hd : 2 ≤ d) : RV d 260 [.ref 106, .int (nI k), .int (nI n)] I J (nI (min n (η.cr k))) := by
  refine RV.in (d0 := 1) hd mt_260 (Nat.le_of_ble_eq_true rfl) (fun d' hd' => ?_)
  have bns := cb.ns; have bnb := cb.nb; have bnc := cb.nc; have bnr := cb.nr
  have b1 := hb_.cr k
  show EV none M_X11_bounded d' 0 [(0, .ref 106), (1, .int (nI k)), (2, .int (nI n))] [] (hp I J) _
  refine EV.l (lv' := [(0, _), (1, _), (2, _)]) r_X11_bounded_0 rfl ?_
  refine EV.gR r_X11_bounded_1 la_106 ?_
  refine EV.o r_X11_bounded_4 (bpN (26) 26) ?_
  refine EV.l (lv' := [(0, _), (1, _), (2, _)]) r_X11_bounded_6 rfl ?_
  refine EV.o r_X11_bounded_7 iaddN ?_
  refine EV.iaN r_X11_bounded_8 la_125 (mr.cr _ (by omega)) ?_
  refine EV.l (lv' := [(0, _), (1, _), (2, _)]) r_X11_bounded_9 rfl ?_
  refine EV.n2_ge r_X11_bounded_10 (fun h10 => ?_) (fun h10 => ?_)
  · -- 10 t
    refine EV.l (lv' := [(0, _), (1, _), (2, _)]) r_X11_bounded_25 rfl ?_
    exact EV.rv r_X11_bounded_26 (congrArg nI (by omega))
  · -- 10 f
    refine EV.l (lv' := [(0, _), (1, _), (2, _)]) r_X11_bounded_13 rfl ?_
    refine EV.gR r_X11_bounded_14 la_106 ?_
    refine EV.o r_X11_bounded_17 (bpN (26) 26) ?_
    refine EV.l (lv' := [(0, _), (1, _), (2, _)]) r_X11_bounded_19 rfl ?_
    refine EV.o r_X11_bounded_20 iaddN ?_
    refine EV.iaN r_X11_bounded_21 la_125 (mr.cr _ (by omega)) ?_
    refine EV.g r_X11_bounded_22 ?_
    exact EV.rv r_X11_bounded_26 (congrArg nI (by omega))
