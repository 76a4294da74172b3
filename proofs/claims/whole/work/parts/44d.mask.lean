/-! (goes on) -/
theorem m_loss0 {d : Nat} {I : Nat → Nat → Int32} {J : Nat → Nat → Int64} {κ : CT} {l : LW} {η : HS} (mc_ : MC κ I) (cb : CB κ) (mr : MR 125 κ η I) (hb_ : HB κ η) (ml_ : ML l I) (lb : LB l) (wm : WM κ l η)  (hd : 13 ≤ d) : RI d 266 [.ref 106, .int (nI 0)] I J (fun v I' => v = opI (heav κ (andc (2 ^ κ.ns - 1) (cnt κ η))) ∧ FM I I') := by
  refine RI.in (d0 := 12) hd mt_266 (Nat.le_of_ble_eq_true rfl) (fun d' hd' => ?_)
  have bns := cb.ns; have bnb := cb.nb; have bnc := cb.nc; have bnr := cb.nr
  have bm_ := hb_.mi
  have p0 := pow_ns cb; have p1 := Nat.two_pow_pos κ.ns; have ac : andc (2 ^ κ.ns - 1) (cnt κ η) < 512 := andc_lt9 (by omega)
  show EV none M_X11_loss d' 0 [(0, .ref 106), (1, .int (nI 0))] [] (hp I J) _
  refine EV.l (lv' := [(0, _), (1, _)]) r_X11_loss_0 rfl ?_
  refine EV.o r_X11_loss_1 (icN (0) (v := 0)) ?_
  refine EV.pI r_X11_loss_2 la_106 ?_
  refine EV.l (lv' := [(0, _), (1, _)]) r_X11_loss_5 rfl ?_
  refine EV.l (lv' := [(0, _), (1, _)]) r_X11_loss_6 rfl ?_
  refine EV.o r_X11_loss_7 (icN (0) (v := 0)) ?_
  refine EV.o r_X11_loss_8 (icN (1) (v := 1)) ?_
  refine EV.cv r_X11_loss_9 (aS3 mt_170) (m_wNNN (by omega) (by omega) (by omega) (by omega)) ?_
  refine EV.o r_X11_loss_12 (icN (1) (v := 1)) ?_
  refine EV.o r_X11_loss_13 (icN (1) (v := 1)) ?_
  refine EV.cv r_X11_loss_14 (aV3 mt_169 la_106) (m_mayP (by omega) wr_same (by omega)) ?_
  refine EV.n0_ne r_X11_loss_17 (fun h17 => ?_) (fun h17 => ?_)
  · -- 17 t
    refine EV.l (lv' := [(0, _), (1, _)]) r_X11_loss_22 rfl ?_
    refine EV.cu r_X11_loss_23 (aV0 mt_212 la_106) (m_take (by omega)) (fun I2 e2 => ?_)
    have e2 : I2 = M2 I := e2
    subst e2
    have mc2 := M2_mc mc_
    have ml2 := M2_ml ml_
    have mr2 := M2_mr mr cb
    refine EV.l (lv' := [(0, _), (1, _)]) r_X11_loss_26 rfl ?_
    refine EV.o r_X11_loss_27 (icN (1) (v := 1)) ?_
    refine EV.l (lv' := [(0, _), (1, _)]) r_X11_loss_28 rfl ?_
    refine EV.getV r_X11_loss_29 la_106 (mc2.ns) ?_
    refine EV.o r_X11_loss_32 (ishl1) ?_
    refine EV.o r_X11_loss_33 (icN (1) (v := 1)) ?_
    refine EV.o r_X11_loss_34 (isubN) ?_
    refine EV.l (lv' := [(0, _), (1, _)]) r_X11_loss_35 rfl ?_
    refine EV.ci r_X11_loss_36 (aV0 mt_221 la_106) (m_countsNow mc2 cb mr2 hb_ ml2 lb (by omega)) (fun v I3 h2 => ?_)
    obtain ⟨e, fr_⟩ := h2
    subst e
    rw [cn_eq hb_ wm]
    have mc3 := MC.fr (I' := I3) mc2 (fr_ 106 (by decide) (by decide)) (fun x h1 h2 => fr_ x (by omega) (by omega))
    refine EV.o r_X11_loss_39 (icZ (-1)) ?_
    refine EV.o r_X11_loss_40 inotN ?_
    refine EV.o r_X11_loss_41 iandC ?_
    refine EV.l (lv' := [(0, _), (1, _)]) r_X11_loss_42 rfl ?_
    refine EV.cv r_X11_loss_43 (aV2 mt_265 la_106) (m_heav0 mc3 cb (by omega) (by omega)) ?_
    exact EV.ri r_X11_loss_46 (⟨rfl, by first | exact FM_of fr_ | exact FM_2⟩)
  · omega
theorem m_loss1 {d : Nat} {I : Nat → Nat → Int32} {J : Nat → Nat → Int64} {κ : CT} {l : LW} {η : HS} (mc_ : MC κ I) (cb : CB κ) (mr : MR 125 κ η I) (hb_ : HB κ η) (ml_ : ML l I) (lb : LB l) (wm : WM κ l η)  (hd : 13 ≤ d) : RI d 266 [.ref 106, .int (nI 1)] I J (fun v I' => v = opW κ (heav κ (andc (2 ^ κ.ns - 1) (cnt κ η))) ∧ FM I I') := by
  refine RI.in (d0 := 12) hd mt_266 (Nat.le_of_ble_eq_true rfl) (fun d' hd' => ?_)
  have bns := cb.ns; have bnb := cb.nb; have bnc := cb.nc; have bnr := cb.nr
  have bm_ := hb_.mi
  have p0 := pow_ns cb; have p1 := Nat.two_pow_pos κ.ns; have ac : andc (2 ^ κ.ns - 1) (cnt κ η) < 512 := andc_lt9 (by omega)
  show EV none M_X11_loss d' 0 [(0, .ref 106), (1, .int (nI 1))] [] (hp I J) _
  refine EV.l (lv' := [(0, _), (1, _)]) r_X11_loss_0 rfl ?_
  refine EV.o r_X11_loss_1 (icN (0) (v := 0)) ?_
  refine EV.pI r_X11_loss_2 la_106 ?_
  refine EV.l (lv' := [(0, _), (1, _)]) r_X11_loss_5 rfl ?_
  refine EV.l (lv' := [(0, _), (1, _)]) r_X11_loss_6 rfl ?_
  refine EV.o r_X11_loss_7 (icN (0) (v := 0)) ?_
  refine EV.o r_X11_loss_8 (icN (1) (v := 1)) ?_
  refine EV.cv r_X11_loss_9 (aS3 mt_170) (m_wNNN (by omega) (by omega) (by omega) (by omega)) ?_
  refine EV.o r_X11_loss_12 (icN (1) (v := 1)) ?_
  refine EV.o r_X11_loss_13 (icN (1) (v := 1)) ?_
  refine EV.cv r_X11_loss_14 (aV3 mt_169 la_106) (m_mayP (by omega) wr_same (by omega)) ?_
  refine EV.n0_ne r_X11_loss_17 (fun h17 => ?_) (fun h17 => ?_)
  · -- 17 t
    refine EV.l (lv' := [(0, _), (1, _)]) r_X11_loss_22 rfl ?_
    refine EV.cu r_X11_loss_23 (aV0 mt_212 la_106) (m_take (by omega)) (fun I2 e2 => ?_)
    have e2 : I2 = M2 I := e2
    subst e2
    have mc2 := M2_mc mc_
    have ml2 := M2_ml ml_
    have mr2 := M2_mr mr cb
    refine EV.l (lv' := [(0, _), (1, _)]) r_X11_loss_26 rfl ?_
    refine EV.o r_X11_loss_27 (icN (1) (v := 1)) ?_
    refine EV.l (lv' := [(0, _), (1, _)]) r_X11_loss_28 rfl ?_
    refine EV.getV r_X11_loss_29 la_106 (mc2.ns) ?_
    refine EV.o r_X11_loss_32 (ishl1) ?_
    refine EV.o r_X11_loss_33 (icN (1) (v := 1)) ?_
    refine EV.o r_X11_loss_34 (isubN) ?_
    refine EV.l (lv' := [(0, _), (1, _)]) r_X11_loss_35 rfl ?_
    refine EV.ci r_X11_loss_36 (aV0 mt_221 la_106) (m_countsNow mc2 cb mr2 hb_ ml2 lb (by omega)) (fun v I3 h2 => ?_)
    obtain ⟨e, fr_⟩ := h2
    subst e
    rw [cn_eq hb_ wm]
    have mc3 := MC.fr (I' := I3) mc2 (fr_ 106 (by decide) (by decide)) (fun x h1 h2 => fr_ x (by omega) (by omega))
    refine EV.o r_X11_loss_39 (icZ (-1)) ?_
    refine EV.o r_X11_loss_40 inotN ?_
    refine EV.o r_X11_loss_41 iandC ?_
    refine EV.l (lv' := [(0, _), (1, _)]) r_X11_loss_42 rfl ?_
    refine EV.cv r_X11_loss_43 (aV2 mt_265 la_106) (m_heav1 mc3 cb (by omega) (by omega)) ?_
    exact EV.ri r_X11_loss_46 (⟨rfl, by first | exact FM_of fr_ | exact FM_2⟩)
  · omega
theorem m_next0 {d : Nat} {I : Nat → Nat → Int32} {J : Nat → Nat → Int64} {κ : CT} {l : LW} {η : HS} (mc_ : MC κ I) (cb : CB κ) (mr : MR 125 κ η I) (hb_ : HB κ η) (ml_ : ML l I) (lb : LB l) (wm : WM κ l η)  (hd : 13 ≤ d) : RI d 267 [.ref 106, .int (nI 0)] I J (fun v I' => v = opI (nxt κ η) ∧ FM I I') := by
  refine RI.in (d0 := 12) hd mt_267 (Nat.le_of_ble_eq_true rfl) (fun d' hd' => ?_)
  have bns := cb.ns; have bnb := cb.nb; have bnc := cb.nc; have bnr := cb.nr
  have bm_ := hb_.mi
  have mc1 := wr0_mc (v := nI 0) mc_; have mr1 := MR.fr (I' := wr I 106 0 (nI 0)) mr (wr_row (by decide))
  show EV none M_X11_next d' 0 [(0, .ref 106), (1, .int (nI 0))] [] (hp I J) _
  refine EV.l (lv' := [(0, _), (1, _)]) r_X11_next_0 rfl ?_
  refine EV.o r_X11_next_1 (icN (0) (v := 0)) ?_
  refine EV.pI r_X11_next_2 la_106 ?_
  refine EV.l (lv' := [(0, _), (1, _)]) r_X11_next_5 rfl ?_
  refine EV.l (lv' := [(0, _), (1, _)]) r_X11_next_6 rfl ?_
  refine EV.o r_X11_next_7 (icN (0) (v := 0)) ?_
  refine EV.o r_X11_next_8 (icN (1) (v := 1)) ?_
  refine EV.cv r_X11_next_9 (aS3 mt_170) (m_wNNN (by omega) (by omega) (by omega) (by omega)) ?_
  refine EV.o r_X11_next_12 (icN (1) (v := 1)) ?_
  refine EV.o r_X11_next_13 (icN (1) (v := 1)) ?_
  refine EV.cv r_X11_next_14 (aV3 mt_169 la_106) (m_mayP (by omega) wr_same (by omega)) ?_
  refine EV.n0_ne r_X11_next_17 (fun h17 => ?_) (fun h17 => ?_)
  · -- 17 t
    refine EV.o r_X11_next_22 (icZ (-1)) ?_
    refine EV.l (lv' := [(0, _), (1, _), (2, _)]) r_X11_next_23 rfl ?_
    refine EV.o r_X11_next_24 (icN (0) (v := 0)) ?_
    refine EV.l (lv' := [(0, _), (1, _), (2, _), (3, _)]) r_X11_next_25 rfl ?_
    have L26 : ∀ y_ : Nat, (fun i => i ≤ κ.ns → EV none M_X11_next d' 26 [(0, .ref 106), (1, .int (nI 0)), (2, .int (opI (bst (fun i => decide (η.mi ≤ η.sa i)) (fun i b => decide (η.sa i < η.sa b)) i))), (3, .int (nI i))] [] (hp (wr I 106 0 (nI 0)) J) (QI J (fun v I' => v = opI (nxt κ η) ∧ FM I I'))) y_ := by
      refine ev_loop (fun i => κ.ns - i) ?_
      intro i ih26 hx26
      try dsimp only at ih26
      try dsimp only at hx26
      try dsimp only
      have b2 := hb_.sa i
      refine EV.l (lv' := [(0, _), (1, _), (2, _), (3, _)]) r_X11_next_26 rfl ?_
      refine EV.l (lv' := [(0, _), (1, _), (2, _), (3, _)]) r_X11_next_27 rfl ?_
      refine EV.getV r_X11_next_28 la_106 (mc1.ns) ?_
      refine EV.n2_ge r_X11_next_31 (fun h31 => ?_) (fun h31 => ?_)
      · -- 31 t
        obtain rfl : i = κ.ns := by omega
        change EV _ _ _ _ [(0, _), (1, _), (2, .int (opI (nxt κ η))), (3, _)] _ _ _
        refine EV.l (lv' := [(0, _), (1, _), (2, _), (3, _)]) r_X11_next_84 rfl ?_
        refine EV.n0_eq r_X11_next_85 (fun h85 => ?_) (fun h85 => ?_)
        · -- 85 t
          refine EV.l (lv' := [(0, _), (1, _), (2, _), (3, _)]) r_X11_next_93 rfl ?_
          refine EV.g r_X11_next_94 ?_
          exact EV.ri r_X11_next_105 (⟨rfl, FM_0⟩)
        · omega
      · -- 31 f
        refine EV.l (lv' := [(0, _), (1, _), (2, _), (3, _)]) r_X11_next_34 rfl ?_
        refine EV.gR r_X11_next_35 la_106 ?_
        refine EV.o r_X11_next_38 (icN (0) (v := 0)) ?_
        refine EV.l (lv' := [(0, _), (1, _), (2, _), (3, _)]) r_X11_next_39 rfl ?_
        refine EV.o r_X11_next_40 iaddN ?_
        refine EV.iaN r_X11_next_41 la_125 (mr1.sa _ (by omega)) ?_
        refine EV.l (lv' := [(0, _), (1, _), (2, _), (3, _)]) r_X11_next_42 rfl ?_
        refine EV.gR r_X11_next_43 la_106 ?_
        refine EV.o r_X11_next_46 (bpN (30) 30) ?_
        refine EV.iaN r_X11_next_48 la_125 (mr1.mi) ?_
        refine EV.n2_lt r_X11_next_49 (fun h49 => ?_) (fun h49 => ?_)
        · -- 49 t
          refine EV.l (lv' := [(0, _), (1, _), (2, _), (3, _)]) r_X11_next_78 rfl ?_
          rw [inc_nI]
          refine EV.g r_X11_next_81 ?_
          refine EV.sub ?_ rfl ?_ (ih26 (i + 1) ?_ ?_)
          · first | (rw [bst_n (p := fun i => decide (η.mi ≤ η.sa i)) (by assumption)] <;> rfl) | (rw [bst_0 (p := fun i => decide (η.mi ≤ η.sa i)) (by assumption) (by assumption)] <;> rfl) | (rw [bst_t (p := fun i => decide (η.mi ≤ η.sa i)) (by assumption) (by assumption) (decide_eq_true (by omega))] <;> rfl) | (rw [bst_f (p := fun i => decide (η.mi ≤ η.sa i)) (by assumption) (by assumption) (decide_eq_false (by omega))] <;> rfl) | (rw [bst_n (p := fun i => decide (η.mi ≤ η.sa i)) (decide_eq_false (by omega))] <;> rfl) | (rw [bst_0 (p := fun i => decide (η.mi ≤ η.sa i)) (decide_eq_true (by omega)) (by assumption)] <;> rfl) | (rw [bst_t (p := fun i => decide (η.mi ≤ η.sa i)) (decide_eq_true (by omega)) (by assumption) (decide_eq_true (by omega))] <;> rfl) | (rw [bst_f (p := fun i => decide (η.mi ≤ η.sa i)) (decide_eq_true (by omega)) (by assumption) (decide_eq_false (by omega))] <;> rfl)
          · rfl
          · omega
          · omega
        · -- 49 f
          refine EV.l (lv' := [(0, _), (1, _), (2, _), (3, _)]) r_X11_next_52 rfl ?_
          refine EV.o r_X11_next_53 (icZ (-1)) ?_
          refine EV.op_eq r_X11_next_54 (fun h54 => ?_) (fun h54 => ?_) (fun c ec_ => by have := bst_lt ec_; omega)
          · -- 54 t
            refine EV.l (lv' := [(0, _), (1, _), (2, _), (3, _)]) r_X11_next_76 rfl ?_
            refine EV.l (lv' := [(0, _), (1, _), (2, _), (3, _)]) r_X11_next_77 rfl ?_
            refine EV.l (lv' := [(0, _), (1, _), (2, _), (3, _)]) r_X11_next_78 rfl ?_
            rw [inc_nI]
            refine EV.g r_X11_next_81 ?_
            refine EV.sub ?_ rfl ?_ (ih26 (i + 1) ?_ ?_)
            · first | (rw [bst_n (p := fun i => decide (η.mi ≤ η.sa i)) (by assumption)] <;> rfl) | (rw [bst_0 (p := fun i => decide (η.mi ≤ η.sa i)) (by assumption) (by assumption)] <;> rfl) | (rw [bst_t (p := fun i => decide (η.mi ≤ η.sa i)) (by assumption) (by assumption) (decide_eq_true (by omega))] <;> rfl) | (rw [bst_f (p := fun i => decide (η.mi ≤ η.sa i)) (by assumption) (by assumption) (decide_eq_false (by omega))] <;> rfl) | (rw [bst_n (p := fun i => decide (η.mi ≤ η.sa i)) (decide_eq_false (by omega))] <;> rfl) | (rw [bst_0 (p := fun i => decide (η.mi ≤ η.sa i)) (decide_eq_true (by omega)) (by assumption)] <;> rfl) | (rw [bst_t (p := fun i => decide (η.mi ≤ η.sa i)) (decide_eq_true (by omega)) (by assumption) (decide_eq_true (by omega))] <;> rfl) | (rw [bst_f (p := fun i => decide (η.mi ≤ η.sa i)) (decide_eq_true (by omega)) (by assumption) (decide_eq_false (by omega))] <;> rfl)
            · rfl
            · omega
            · omega
          · -- 54 f
            obtain ⟨c, ec_⟩ := h54
            rw [ec_, opI_some]
            have bc_ := bst_lt ec_
            have b3 := hb_.sa c
            refine EV.l (lv' := [(0, _), (1, _), (2, _), (3, _)]) r_X11_next_57 rfl ?_
            refine EV.gR r_X11_next_58 la_106 ?_
            refine EV.o r_X11_next_61 (icN (0) (v := 0)) ?_
            refine EV.l (lv' := [(0, _), (1, _), (2, _), (3, _)]) r_X11_next_62 rfl ?_
            refine EV.o r_X11_next_63 iaddN ?_
            refine EV.iaN r_X11_next_64 la_125 (mr1.sa _ (by omega)) ?_
            refine EV.l (lv' := [(0, _), (1, _), (2, _), (3, _)]) r_X11_next_65 rfl ?_
            refine EV.gR r_X11_next_66 la_106 ?_
            refine EV.o r_X11_next_69 (icN (0) (v := 0)) ?_
            refine EV.l (lv' := [(0, _), (1, _), (2, _), (3, _)]) r_X11_next_70 rfl ?_
            refine EV.o r_X11_next_71 iaddN ?_
            refine EV.iaN r_X11_next_72 la_125 (mr1.sa _ (by omega)) ?_
            refine EV.n2_ge r_X11_next_73 (fun h73 => ?_) (fun h73 => ?_)
            · -- 73 t
              refine EV.l (lv' := [(0, _), (1, _), (2, _), (3, _)]) r_X11_next_78 rfl ?_
              rw [inc_nI]
              refine EV.g r_X11_next_81 ?_
              refine EV.sub ?_ rfl ?_ (ih26 (i + 1) ?_ ?_)
              · first | (rw [bst_n (p := fun i => decide (η.mi ≤ η.sa i)) (by assumption)] <;> rfl) | (rw [bst_0 (p := fun i => decide (η.mi ≤ η.sa i)) (by assumption) (by assumption)] <;> rfl) | (rw [bst_t (p := fun i => decide (η.mi ≤ η.sa i)) (by assumption) (by assumption) (decide_eq_true (by omega))] <;> rfl) | (rw [bst_f (p := fun i => decide (η.mi ≤ η.sa i)) (by assumption) (by assumption) (decide_eq_false (by omega))] <;> rfl) | (rw [bst_n (p := fun i => decide (η.mi ≤ η.sa i)) (decide_eq_false (by omega))] <;> rfl) | (rw [bst_0 (p := fun i => decide (η.mi ≤ η.sa i)) (decide_eq_true (by omega)) (by assumption)] <;> rfl) | (rw [bst_t (p := fun i => decide (η.mi ≤ η.sa i)) (decide_eq_true (by omega)) (by assumption) (decide_eq_true (by omega))] <;> rfl) | (rw [bst_f (p := fun i => decide (η.mi ≤ η.sa i)) (decide_eq_true (by omega)) (by assumption) (decide_eq_false (by omega))] <;> rfl)
              · rfl
              · omega
              · omega
            · -- 73 f
              refine EV.l (lv' := [(0, _), (1, _), (2, _), (3, _)]) r_X11_next_76 rfl ?_
              refine EV.l (lv' := [(0, _), (1, _), (2, _), (3, _)]) r_X11_next_77 rfl ?_
              refine EV.l (lv' := [(0, _), (1, _), (2, _), (3, _)]) r_X11_next_78 rfl ?_
              rw [inc_nI]
              refine EV.g r_X11_next_81 ?_
              refine EV.sub ?_ rfl ?_ (ih26 (i + 1) ?_ ?_)
              · first | (rw [bst_n (p := fun i => decide (η.mi ≤ η.sa i)) (by assumption)] <;> rfl) | (rw [bst_0 (p := fun i => decide (η.mi ≤ η.sa i)) (by assumption) (by assumption)] <;> rfl) | (rw [bst_t (p := fun i => decide (η.mi ≤ η.sa i)) (by assumption) (by assumption) (decide_eq_true (by omega))] <;> rfl) | (rw [bst_f (p := fun i => decide (η.mi ≤ η.sa i)) (by assumption) (by assumption) (decide_eq_false (by omega))] <;> rfl) | (rw [bst_n (p := fun i => decide (η.mi ≤ η.sa i)) (decide_eq_false (by omega))] <;> rfl) | (rw [bst_0 (p := fun i => decide (η.mi ≤ η.sa i)) (decide_eq_true (by omega)) (by assumption)] <;> rfl) | (rw [bst_t (p := fun i => decide (η.mi ≤ η.sa i)) (decide_eq_true (by omega)) (by assumption) (decide_eq_true (by omega))] <;> rfl) | (rw [bst_f (p := fun i => decide (η.mi ≤ η.sa i)) (decide_eq_true (by omega)) (by assumption) (decide_eq_false (by omega))] <;> rfl)
              · rfl
              · omega
              · omega
    have h0 := L26 (0)
    try dsimp only at h0
    refine EV.sub ?_ rfl ?_ (h0 ?_)
    · rfl
    · rfl
    · omega
  · omega
theorem m_next1 {d : Nat} {I : Nat → Nat → Int32} {J : Nat → Nat → Int64} {κ : CT} {l : LW} {η : HS} (mc_ : MC κ I) (cb : CB κ) (mr : MR 125 κ η I) (hb_ : HB κ η) (ml_ : ML l I) (lb : LB l) (wm : WM κ l η)  (hd : 13 ≤ d) : RI d 267 [.ref 106, .int (nI 1)] I J (fun v I' => v = opS η (nxt κ η) ∧ FM I I') := by
  refine RI.in (d0 := 12) hd mt_267 (Nat.le_of_ble_eq_true rfl) (fun d' hd' => ?_)
  have bns := cb.ns; have bnb := cb.nb; have bnc := cb.nc; have bnr := cb.nr
  have bm_ := hb_.mi
  have mc1 := wr0_mc (v := nI 0) mc_; have mr1 := MR.fr (I' := wr I 106 0 (nI 0)) mr (wr_row (by decide))
  show EV none M_X11_next d' 0 [(0, .ref 106), (1, .int (nI 1))] [] (hp I J) _
  refine EV.l (lv' := [(0, _), (1, _)]) r_X11_next_0 rfl ?_
  refine EV.o r_X11_next_1 (icN (0) (v := 0)) ?_
  refine EV.pI r_X11_next_2 la_106 ?_
  refine EV.l (lv' := [(0, _), (1, _)]) r_X11_next_5 rfl ?_
  refine EV.l (lv' := [(0, _), (1, _)]) r_X11_next_6 rfl ?_
  refine EV.o r_X11_next_7 (icN (0) (v := 0)) ?_
  refine EV.o r_X11_next_8 (icN (1) (v := 1)) ?_
  refine EV.cv r_X11_next_9 (aS3 mt_170) (m_wNNN (by omega) (by omega) (by omega) (by omega)) ?_
  refine EV.o r_X11_next_12 (icN (1) (v := 1)) ?_
  refine EV.o r_X11_next_13 (icN (1) (v := 1)) ?_
  refine EV.cv r_X11_next_14 (aV3 mt_169 la_106) (m_mayP (by omega) wr_same (by omega)) ?_
  refine EV.n0_ne r_X11_next_17 (fun h17 => ?_) (fun h17 => ?_)
  · -- 17 t
    refine EV.o r_X11_next_22 (icZ (-1)) ?_
    refine EV.l (lv' := [(0, _), (1, _), (2, _)]) r_X11_next_23 rfl ?_
    refine EV.o r_X11_next_24 (icN (0) (v := 0)) ?_
    refine EV.l (lv' := [(0, _), (1, _), (2, _), (3, _)]) r_X11_next_25 rfl ?_
    have L26 : ∀ y_ : Nat, (fun i => i ≤ κ.ns → EV none M_X11_next d' 26 [(0, .ref 106), (1, .int (nI 1)), (2, .int (opI (bst (fun i => decide (η.mi ≤ η.sa i)) (fun i b => decide (η.sa i < η.sa b)) i))), (3, .int (nI i))] [] (hp (wr I 106 0 (nI 0)) J) (QI J (fun v I' => v = opS η (nxt κ η) ∧ FM I I'))) y_ := by
      refine ev_loop (fun i => κ.ns - i) ?_
      intro i ih26 hx26
      try dsimp only at ih26
      try dsimp only at hx26
      try dsimp only
      have b2 := hb_.sa i
      refine EV.l (lv' := [(0, _), (1, _), (2, _), (3, _)]) r_X11_next_26 rfl ?_
      refine EV.l (lv' := [(0, _), (1, _), (2, _), (3, _)]) r_X11_next_27 rfl ?_
      refine EV.getV r_X11_next_28 la_106 (mc1.ns) ?_
      refine EV.n2_ge r_X11_next_31 (fun h31 => ?_) (fun h31 => ?_)
      · -- 31 t
        obtain rfl : i = κ.ns := by omega
        change EV _ _ _ _ [(0, _), (1, _), (2, .int (opI (nxt κ η))), (3, _)] _ _ _
        refine EV.l (lv' := [(0, _), (1, _), (2, _), (3, _)]) r_X11_next_84 rfl ?_
        refine EV.n0_eq r_X11_next_85 (fun h85 => ?_) (fun h85 => ?_)
        · omega
        · -- 85 f
          refine EV.l (lv' := [(0, _), (1, _), (2, _), (3, _)]) r_X11_next_88 rfl ?_
          refine EV.o r_X11_next_89 (icZ (-1)) ?_
          refine EV.op_ne r_X11_next_90 (fun h90 => ?_) (fun h90 => ?_) (fun c ec_ => by have := nxt_lt ec_; omega)
          · -- 90 t
            obtain ⟨c, ec_⟩ := h90
            have hc9 := nxt_lt ec_
            rw [ec_, opI_some, opS_some]
            refine EV.l (lv' := [(0, _), (1, _), (2, _), (3, _)]) r_X11_next_97 rfl ?_
            refine EV.gR r_X11_next_98 la_106 ?_
            refine EV.o r_X11_next_101 (icN (0) (v := 0)) ?_
            refine EV.l (lv' := [(0, _), (1, _), (2, _), (3, _)]) r_X11_next_102 rfl ?_
            refine EV.o r_X11_next_103 iaddN ?_
            refine EV.iaN r_X11_next_104 la_125 (mr1.sa _ (by omega)) ?_
            exact EV.ri r_X11_next_105 (⟨rfl, FM_0⟩)
          · -- 90 f
            rw [h90]
            refine EV.l (lv' := [(0, _), (1, _), (2, _), (3, _)]) r_X11_next_93 rfl ?_
            refine EV.g r_X11_next_94 ?_
            exact EV.ri r_X11_next_105 (⟨rfl, FM_0⟩)
      · -- 31 f
        refine EV.l (lv' := [(0, _), (1, _), (2, _), (3, _)]) r_X11_next_34 rfl ?_
        refine EV.gR r_X11_next_35 la_106 ?_
        refine EV.o r_X11_next_38 (icN (0) (v := 0)) ?_
        refine EV.l (lv' := [(0, _), (1, _), (2, _), (3, _)]) r_X11_next_39 rfl ?_
        refine EV.o r_X11_next_40 iaddN ?_
        refine EV.iaN r_X11_next_41 la_125 (mr1.sa _ (by omega)) ?_
        refine EV.l (lv' := [(0, _), (1, _), (2, _), (3, _)]) r_X11_next_42 rfl ?_
        refine EV.gR r_X11_next_43 la_106 ?_
        refine EV.o r_X11_next_46 (bpN (30) 30) ?_
        refine EV.iaN r_X11_next_48 la_125 (mr1.mi) ?_
        refine EV.n2_lt r_X11_next_49 (fun h49 => ?_) (fun h49 => ?_)
        · -- 49 t
          refine EV.l (lv' := [(0, _), (1, _), (2, _), (3, _)]) r_X11_next_78 rfl ?_
          rw [inc_nI]
          refine EV.g r_X11_next_81 ?_
          refine EV.sub ?_ rfl ?_ (ih26 (i + 1) ?_ ?_)
          · first | (rw [bst_n (p := fun i => decide (η.mi ≤ η.sa i)) (by assumption)] <;> rfl) | (rw [bst_0 (p := fun i => decide (η.mi ≤ η.sa i)) (by assumption) (by assumption)] <;> rfl) | (rw [bst_t (p := fun i => decide (η.mi ≤ η.sa i)) (by assumption) (by assumption) (decide_eq_true (by omega))] <;> rfl) | (rw [bst_f (p := fun i => decide (η.mi ≤ η.sa i)) (by assumption) (by assumption) (decide_eq_false (by omega))] <;> rfl) | (rw [bst_n (p := fun i => decide (η.mi ≤ η.sa i)) (decide_eq_false (by omega))] <;> rfl) | (rw [bst_0 (p := fun i => decide (η.mi ≤ η.sa i)) (decide_eq_true (by omega)) (by assumption)] <;> rfl) | (rw [bst_t (p := fun i => decide (η.mi ≤ η.sa i)) (decide_eq_true (by omega)) (by assumption) (decide_eq_true (by omega))] <;> rfl) | (rw [bst_f (p := fun i => decide (η.mi ≤ η.sa i)) (decide_eq_true (by omega)) (by assumption) (decide_eq_false (by omega))] <;> rfl)
          · rfl
          · omega
          · omega
        · -- 49 f
          refine EV.l (lv' := [(0, _), (1, _), (2, _), (3, _)]) r_X11_next_52 rfl ?_
          refine EV.o r_X11_next_53 (icZ (-1)) ?_
          refine EV.op_eq r_X11_next_54 (fun h54 => ?_) (fun h54 => ?_) (fun c ec_ => by have := bst_lt ec_; omega)
          · -- 54 t
            refine EV.l (lv' := [(0, _), (1, _), (2, _), (3, _)]) r_X11_next_76 rfl ?_
            refine EV.l (lv' := [(0, _), (1, _), (2, _), (3, _)]) r_X11_next_77 rfl ?_
            refine EV.l (lv' := [(0, _), (1, _), (2, _), (3, _)]) r_X11_next_78 rfl ?_
            rw [inc_nI]
            refine EV.g r_X11_next_81 ?_
            refine EV.sub ?_ rfl ?_ (ih26 (i + 1) ?_ ?_)
            · first | (rw [bst_n (p := fun i => decide (η.mi ≤ η.sa i)) (by assumption)] <;> rfl) | (rw [bst_0 (p := fun i => decide (η.mi ≤ η.sa i)) (by assumption) (by assumption)] <;> rfl) | (rw [bst_t (p := fun i => decide (η.mi ≤ η.sa i)) (by assumption) (by assumption) (decide_eq_true (by omega))] <;> rfl) | (rw [bst_f (p := fun i => decide (η.mi ≤ η.sa i)) (by assumption) (by assumption) (decide_eq_false (by omega))] <;> rfl) | (rw [bst_n (p := fun i => decide (η.mi ≤ η.sa i)) (decide_eq_false (by omega))] <;> rfl) | (rw [bst_0 (p := fun i => decide (η.mi ≤ η.sa i)) (decide_eq_true (by omega)) (by assumption)] <;> rfl) | (rw [bst_t (p := fun i => decide (η.mi ≤ η.sa i)) (decide_eq_true (by omega)) (by assumption) (decide_eq_true (by omega))] <;> rfl) | (rw [bst_f (p := fun i => decide (η.mi ≤ η.sa i)) (decide_eq_true (by omega)) (by assumption) (decide_eq_false (by omega))] <;> rfl)
            · rfl
            · omega
            · omega
          · -- 54 f
            obtain ⟨c, ec_⟩ := h54
            rw [ec_, opI_some]
            have bc_ := bst_lt ec_
            have b3 := hb_.sa c
            refine EV.l (lv' := [(0, _), (1, _), (2, _), (3, _)]) r_X11_next_57 rfl ?_
            refine EV.gR r_X11_next_58 la_106 ?_
            refine EV.o r_X11_next_61 (icN (0) (v := 0)) ?_
            refine EV.l (lv' := [(0, _), (1, _), (2, _), (3, _)]) r_X11_next_62 rfl ?_
            refine EV.o r_X11_next_63 iaddN ?_
            refine EV.iaN r_X11_next_64 la_125 (mr1.sa _ (by omega)) ?_
            refine EV.l (lv' := [(0, _), (1, _), (2, _), (3, _)]) r_X11_next_65 rfl ?_
            refine EV.gR r_X11_next_66 la_106 ?_
            refine EV.o r_X11_next_69 (icN (0) (v := 0)) ?_
            refine EV.l (lv' := [(0, _), (1, _), (2, _), (3, _)]) r_X11_next_70 rfl ?_
            refine EV.o r_X11_next_71 iaddN ?_
            refine EV.iaN r_X11_next_72 la_125 (mr1.sa _ (by omega)) ?_
            refine EV.n2_ge r_X11_next_73 (fun h73 => ?_) (fun h73 => ?_)
            · -- 73 t
              refine EV.l (lv' := [(0, _), (1, _), (2, _), (3, _)]) r_X11_next_78 rfl ?_
              rw [inc_nI]
              refine EV.g r_X11_next_81 ?_
              refine EV.sub ?_ rfl ?_ (ih26 (i + 1) ?_ ?_)
              · first | (rw [bst_n (p := fun i => decide (η.mi ≤ η.sa i)) (by assumption)] <;> rfl) | (rw [bst_0 (p := fun i => decide (η.mi ≤ η.sa i)) (by assumption) (by assumption)] <;> rfl) | (rw [bst_t (p := fun i => decide (η.mi ≤ η.sa i)) (by assumption) (by assumption) (decide_eq_true (by omega))] <;> rfl) | (rw [bst_f (p := fun i => decide (η.mi ≤ η.sa i)) (by assumption) (by assumption) (decide_eq_false (by omega))] <;> rfl) | (rw [bst_n (p := fun i => decide (η.mi ≤ η.sa i)) (decide_eq_false (by omega))] <;> rfl) | (rw [bst_0 (p := fun i => decide (η.mi ≤ η.sa i)) (decide_eq_true (by omega)) (by assumption)] <;> rfl) | (rw [bst_t (p := fun i => decide (η.mi ≤ η.sa i)) (decide_eq_true (by omega)) (by assumption) (decide_eq_true (by omega))] <;> rfl) | (rw [bst_f (p := fun i => decide (η.mi ≤ η.sa i)) (decide_eq_true (by omega)) (by assumption) (decide_eq_false (by omega))] <;> rfl)
              · rfl
              · omega
              · omega
            · -- 73 f
              refine EV.l (lv' := [(0, _), (1, _), (2, _), (3, _)]) r_X11_next_76 rfl ?_
              refine EV.l (lv' := [(0, _), (1, _), (2, _), (3, _)]) r_X11_next_77 rfl ?_
              refine EV.l (lv' := [(0, _), (1, _), (2, _), (3, _)]) r_X11_next_78 rfl ?_
              rw [inc_nI]
              refine EV.g r_X11_next_81 ?_
              refine EV.sub ?_ rfl ?_ (ih26 (i + 1) ?_ ?_)
              · first | (rw [bst_n (p := fun i => decide (η.mi ≤ η.sa i)) (by assumption)] <;> rfl) | (rw [bst_0 (p := fun i => decide (η.mi ≤ η.sa i)) (by assumption) (by assumption)] <;> rfl) | (rw [bst_t (p := fun i => decide (η.mi ≤ η.sa i)) (by assumption) (by assumption) (decide_eq_true (by omega))] <;> rfl) | (rw [bst_f (p := fun i => decide (η.mi ≤ η.sa i)) (by assumption) (by assumption) (decide_eq_false (by omega))] <;> rfl) | (rw [bst_n (p := fun i => decide (η.mi ≤ η.sa i)) (decide_eq_false (by omega))] <;> rfl) | (rw [bst_0 (p := fun i => decide (η.mi ≤ η.sa i)) (decide_eq_true (by omega)) (by assumption)] <;> rfl) | (rw [bst_t (p := fun i => decide (η.mi ≤ η.sa i)) (decide_eq_true (by omega)) (by assumption) (decide_eq_true (by omega))] <;> rfl) | (rw [bst_f (p := fun i => decide (η.mi ≤ η.sa i)) (decide_eq_true (by omega)) (by assumption) (decide_eq_false (by omega))] <;> rfl)
              · rfl
              · omega
              · omega
    have h0 := L26 (0)
    try dsimp only at h0
    refine EV.sub ?_ rfl ?_ (h0 ?_)
    · rfl
    · rfl
    · omega
  · omega
theorem m_side0 {d : Nat} {I : Nat → Nat → Int32} {J : Nat → Nat → Int64} {κ : CT} {l : LW} {η : HS} (mc_ : MC κ I) (cb : CB κ) (mr : MR 125 κ η I) (hb_ : HB κ η) (ml_ : ML l I) (lb : LB l) (wm : WM κ l η) {s : Nat} (h : s < 2)  (hd : 13 ≤ d) : RI d 268 [.ref 106, .int (nI s), .int (nI 0)] I J (fun v I' => v = nI (wtOf κ (ofSd κ s &&& heard κ η η.mi) κ.ns) ∧ FM I I') := by
  refine RI.in (d0 := 12) hd mt_268 (Nat.le_of_ble_eq_true rfl) (fun d' hd' => ?_)
  have bns := cb.ns; have bnb := cb.nb; have bnc := cb.nc; have bnr := cb.nr
  have bm_ := hb_.mi
  have hl := heard_lt (κ := κ) (η := η) η.mi; have p0 := pow_ns cb; have p1 := Nat.two_pow_pos κ.ns; have p2 := hb_.nt
  show EV none M_X11_side d' 0 [(0, .ref 106), (1, .int (nI s)), (2, .int (nI 0))] [] (hp I J) _
  refine EV.l (lv' := [(0, _), (1, _), (2, _)]) r_X11_side_0 rfl ?_
  refine EV.o r_X11_side_1 (icN (0) (v := 0)) ?_
  refine EV.pI r_X11_side_2 la_106 ?_
  refine EV.l (lv' := [(0, _), (1, _), (2, _)]) r_X11_side_5 rfl ?_
  refine EV.l (lv' := [(0, _), (1, _), (2, _)]) r_X11_side_6 rfl ?_
  refine EV.o r_X11_side_7 (icN (0) (v := 0)) ?_
  refine EV.o r_X11_side_8 (icN (1) (v := 1)) ?_
  refine EV.cv r_X11_side_9 (aS3 mt_170) (m_wNNN (by omega) (by omega) (by omega) (by omega)) ?_
  refine EV.p0_eq r_X11_side_12 (fun h12 => ?_) (fun h12 => ?_)
  · -- 12 t
    refine EV.o r_X11_side_28 (icN (0) (v := 0)) ?_
    refine EV.o r_X11_side_29 (icN (1) (v := 1)) ?_
    refine EV.o r_X11_side_30 (icN (1) (v := 1)) ?_
    omega
  · -- 12 f
    refine EV.l (lv' := [(0, _), (1, _), (2, _)]) r_X11_side_15 rfl ?_
    refine EV.o r_X11_side_16 (icN (0) (v := 0)) ?_
    refine EV.o r_X11_side_17 (icN (2) (v := 2)) ?_
    refine EV.cv r_X11_side_18 (aS3 mt_170) (m_wNNN (by omega) (by omega) (by omega) (by omega)) ?_
    refine EV.p0_eq r_X11_side_21 (fun h21 => ?_) (fun h21 => ?_)
    · -- 21 t
      refine EV.o r_X11_side_28 (icN (0) (v := 0)) ?_
      refine EV.o r_X11_side_29 (icN (1) (v := 1)) ?_
      refine EV.o r_X11_side_30 (icN (1) (v := 1)) ?_
      omega
    · -- 21 f
      refine EV.o r_X11_side_24 (icN (1) (v := 1)) ?_
      refine EV.g r_X11_side_25 ?_
      refine EV.o r_X11_side_29 (icN (1) (v := 1)) ?_
      refine EV.o r_X11_side_30 (icN (1) (v := 1)) ?_
      refine EV.cv r_X11_side_31 (aV3 mt_169 la_106) (m_mayN wr_same (by omega)) ?_
      refine EV.n0_ne r_X11_side_34 (fun h34 => ?_) (fun h34 => ?_)
      · -- 34 t
        refine EV.l (lv' := [(0, _), (1, _), (2, _)]) r_X11_side_39 rfl ?_
        refine EV.cu r_X11_side_40 (aV0 mt_212 la_106) (m_take (by omega)) (fun I2 e2 => ?_)
        have e2 : I2 = M2 I := e2
        subst e2
        have mc2 := M2_mc mc_
        have ml2 := M2_ml ml_
        have mr2 := M2_mr mr cb
        refine EV.l (lv' := [(0, _), (1, _), (2, _)]) r_X11_side_43 rfl ?_
        refine EV.l (lv' := [(0, _), (1, _), (2, _)]) r_X11_side_44 rfl ?_
        refine EV.n0_ne r_X11_side_45 (fun h45 => ?_) (fun h45 => ?_)
        · omega
        · -- 45 f
          refine EV.l (lv' := [(0, _), (1, _), (2, _)]) r_X11_side_48 rfl ?_
          refine EV.l (lv' := [(0, _), (1, _), (2, _)]) r_X11_side_49 rfl ?_
          refine EV.gR r_X11_side_50 la_106 ?_
          refine EV.o r_X11_side_53 (bpN (30) 30) ?_
          refine EV.iaN r_X11_side_55 la_126 (mr2.mi) ?_
          refine EV.ci r_X11_side_56 (aV1 mt_226 la_106) (m_heardBy mc2 cb mr2 hb_ ml2 lb (by omega) (by omega)) (fun v I3 h2 => ?_)
          obtain ⟨e, fr_⟩ := h2
          subst e
          rw [hd_eq hb_ wm]
          have mc3 := MC.fr (I' := I3) mc2 (fr_ 106 (by decide) (by decide)) (fun x h1 h2 => fr_ x (by omega) (by omega))
          refine EV.g r_X11_side_59 ?_
          refine EV.l (lv' := [(0, _), (1, _), (2, _)]) r_X11_side_82 rfl ?_
          refine EV.cv r_X11_side_83 (aV2 mt_224 la_106) (m_weight mc3 cb (by omega) (by omega) (by omega)) ?_
          exact EV.ri r_X11_side_86 (⟨by first | rw [wtS_of _ (Nat.le_refl _)] | rw [wtS_of _ (Nat.le_refl _), of_all], by first | exact FM_of fr_ | exact FM_2⟩)
      · omega
theorem m_side1 {d : Nat} {I : Nat → Nat → Int32} {J : Nat → Nat → Int64} {κ : CT} {l : LW} {η : HS} (mc_ : MC κ I) (cb : CB κ) (mr : MR 125 κ η I) (hb_ : HB κ η) (ml_ : ML l I) (lb : LB l) (wm : WM κ l η) {s : Nat} (h : s < 2)  (hd : 13 ≤ d) : RI d 268 [.ref 106, .int (nI s), .int (nI 1)] I J (fun v I' => v = nI (wtOf κ (ofSd κ s &&& η.nt) κ.ns) ∧ FM I I') := by
  refine RI.in (d0 := 12) hd mt_268 (Nat.le_of_ble_eq_true rfl) (fun d' hd' => ?_)
  have bns := cb.ns; have bnb := cb.nb; have bnc := cb.nc; have bnr := cb.nr
  have bm_ := hb_.mi
  have hl := heard_lt (κ := κ) (η := η) η.mi; have p0 := pow_ns cb; have p1 := Nat.two_pow_pos κ.ns; have p2 := hb_.nt
  show EV none M_X11_side d' 0 [(0, .ref 106), (1, .int (nI s)), (2, .int (nI 1))] [] (hp I J) _
  refine EV.l (lv' := [(0, _), (1, _), (2, _)]) r_X11_side_0 rfl ?_
  refine EV.o r_X11_side_1 (icN (0) (v := 0)) ?_
  refine EV.pI r_X11_side_2 la_106 ?_
  refine EV.l (lv' := [(0, _), (1, _), (2, _)]) r_X11_side_5 rfl ?_
  refine EV.l (lv' := [(0, _), (1, _), (2, _)]) r_X11_side_6 rfl ?_
  refine EV.o r_X11_side_7 (icN (0) (v := 0)) ?_
  refine EV.o r_X11_side_8 (icN (1) (v := 1)) ?_
  refine EV.cv r_X11_side_9 (aS3 mt_170) (m_wNNN (by omega) (by omega) (by omega) (by omega)) ?_
  refine EV.p0_eq r_X11_side_12 (fun h12 => ?_) (fun h12 => ?_)
  · -- 12 t
    refine EV.o r_X11_side_28 (icN (0) (v := 0)) ?_
    refine EV.o r_X11_side_29 (icN (1) (v := 1)) ?_
    refine EV.o r_X11_side_30 (icN (1) (v := 1)) ?_
    omega
  · -- 12 f
    refine EV.l (lv' := [(0, _), (1, _), (2, _)]) r_X11_side_15 rfl ?_
    refine EV.o r_X11_side_16 (icN (0) (v := 0)) ?_
    refine EV.o r_X11_side_17 (icN (2) (v := 2)) ?_
    refine EV.cv r_X11_side_18 (aS3 mt_170) (m_wNNN (by omega) (by omega) (by omega) (by omega)) ?_
    refine EV.p0_eq r_X11_side_21 (fun h21 => ?_) (fun h21 => ?_)
    · -- 21 t
      refine EV.o r_X11_side_28 (icN (0) (v := 0)) ?_
      refine EV.o r_X11_side_29 (icN (1) (v := 1)) ?_
      refine EV.o r_X11_side_30 (icN (1) (v := 1)) ?_
      omega
    · -- 21 f
      refine EV.o r_X11_side_24 (icN (1) (v := 1)) ?_
      refine EV.g r_X11_side_25 ?_
      refine EV.o r_X11_side_29 (icN (1) (v := 1)) ?_
      refine EV.o r_X11_side_30 (icN (1) (v := 1)) ?_
      refine EV.cv r_X11_side_31 (aV3 mt_169 la_106) (m_mayN wr_same (by omega)) ?_
      refine EV.n0_ne r_X11_side_34 (fun h34 => ?_) (fun h34 => ?_)
      · -- 34 t
        refine EV.l (lv' := [(0, _), (1, _), (2, _)]) r_X11_side_39 rfl ?_
        refine EV.cu r_X11_side_40 (aV0 mt_212 la_106) (m_take (by omega)) (fun I2 e2 => ?_)
        have e2 : I2 = M2 I := e2
        subst e2
        have mc2 := M2_mc mc_
        have ml2 := M2_ml ml_
        have mr2 := M2_mr mr cb
        refine EV.l (lv' := [(0, _), (1, _), (2, _)]) r_X11_side_43 rfl ?_
        refine EV.l (lv' := [(0, _), (1, _), (2, _)]) r_X11_side_44 rfl ?_
        refine EV.n0_ne r_X11_side_45 (fun h45 => ?_) (fun h45 => ?_)
        · -- 45 t
          refine EV.l (lv' := [(0, _), (1, _), (2, _)]) r_X11_side_62 rfl ?_
          refine EV.o r_X11_side_63 (icN (1) (v := 1)) ?_
          refine EV.n2_ne r_X11_side_64 (fun h64 => ?_) (fun h64 => ?_)
          · omega
          · -- 64 f
            refine EV.l (lv' := [(0, _), (1, _), (2, _)]) r_X11_side_67 rfl ?_
            refine EV.cv r_X11_side_68 (aV0 mt_235 la_106) (m_noted mc2 cb mr2 hb_ (by omega)) ?_
            refine EV.g r_X11_side_71 ?_
            refine EV.l (lv' := [(0, _), (1, _), (2, _)]) r_X11_side_82 rfl ?_
            refine EV.cv r_X11_side_83 (aV2 mt_224 la_106) (m_weight mc2 cb (by omega) (by omega) (by omega)) ?_
            exact EV.ri r_X11_side_86 (⟨by first | rw [wtS_of _ (Nat.le_refl _)] | rw [wtS_of _ (Nat.le_refl _), of_all], by first | exact FM_of fr_ | exact FM_2⟩)
        · omega
      · omega
theorem m_side2 {d : Nat} {I : Nat → Nat → Int32} {J : Nat → Nat → Int64} {κ : CT} {l : LW} {η : HS} (mc_ : MC κ I) (cb : CB κ) (mr : MR 125 κ η I) (hb_ : HB κ η) (ml_ : ML l I) (lb : LB l) (wm : WM κ l η) {s : Nat} (h : s < 2)  (hd : 13 ≤ d) : RI d 268 [.ref 106, .int (nI s), .int (nI 2)] I J (fun v I' => v = nI (wtOf κ (ofSd κ s) κ.ns) ∧ FM I I') := by
  refine RI.in (d0 := 12) hd mt_268 (Nat.le_of_ble_eq_true rfl) (fun d' hd' => ?_)
  have bns := cb.ns; have bnb := cb.nb; have bnc := cb.nc; have bnr := cb.nr
  have bm_ := hb_.mi
  have hl := heard_lt (κ := κ) (η := η) η.mi; have p0 := pow_ns cb; have p1 := Nat.two_pow_pos κ.ns; have p2 := hb_.nt
  show EV none M_X11_side d' 0 [(0, .ref 106), (1, .int (nI s)), (2, .int (nI 2))] [] (hp I J) _
  refine EV.l (lv' := [(0, _), (1, _), (2, _)]) r_X11_side_0 rfl ?_
  refine EV.o r_X11_side_1 (icN (0) (v := 0)) ?_
  refine EV.pI r_X11_side_2 la_106 ?_
  refine EV.l (lv' := [(0, _), (1, _), (2, _)]) r_X11_side_5 rfl ?_
  refine EV.l (lv' := [(0, _), (1, _), (2, _)]) r_X11_side_6 rfl ?_
  refine EV.o r_X11_side_7 (icN (0) (v := 0)) ?_
  refine EV.o r_X11_side_8 (icN (1) (v := 1)) ?_
  refine EV.cv r_X11_side_9 (aS3 mt_170) (m_wNNN (by omega) (by omega) (by omega) (by omega)) ?_
  refine EV.p0_eq r_X11_side_12 (fun h12 => ?_) (fun h12 => ?_)
  · -- 12 t
    refine EV.o r_X11_side_28 (icN (0) (v := 0)) ?_
    refine EV.o r_X11_side_29 (icN (1) (v := 1)) ?_
    refine EV.o r_X11_side_30 (icN (1) (v := 1)) ?_
    omega
  · -- 12 f
    refine EV.l (lv' := [(0, _), (1, _), (2, _)]) r_X11_side_15 rfl ?_
    refine EV.o r_X11_side_16 (icN (0) (v := 0)) ?_
    refine EV.o r_X11_side_17 (icN (2) (v := 2)) ?_
    refine EV.cv r_X11_side_18 (aS3 mt_170) (m_wNNN (by omega) (by omega) (by omega) (by omega)) ?_
    refine EV.p0_eq r_X11_side_21 (fun h21 => ?_) (fun h21 => ?_)
    · -- 21 t
      refine EV.o r_X11_side_28 (icN (0) (v := 0)) ?_
      refine EV.o r_X11_side_29 (icN (1) (v := 1)) ?_
      refine EV.o r_X11_side_30 (icN (1) (v := 1)) ?_
      omega
    · -- 21 f
      refine EV.o r_X11_side_24 (icN (1) (v := 1)) ?_
      refine EV.g r_X11_side_25 ?_
      refine EV.o r_X11_side_29 (icN (1) (v := 1)) ?_
      refine EV.o r_X11_side_30 (icN (1) (v := 1)) ?_
      refine EV.cv r_X11_side_31 (aV3 mt_169 la_106) (m_mayN wr_same (by omega)) ?_
      refine EV.n0_ne r_X11_side_34 (fun h34 => ?_) (fun h34 => ?_)
      · -- 34 t
        refine EV.l (lv' := [(0, _), (1, _), (2, _)]) r_X11_side_39 rfl ?_
        refine EV.cu r_X11_side_40 (aV0 mt_212 la_106) (m_take (by omega)) (fun I2 e2 => ?_)
        have e2 : I2 = M2 I := e2
        subst e2
        have mc2 := M2_mc mc_
        have ml2 := M2_ml ml_
        have mr2 := M2_mr mr cb
        refine EV.l (lv' := [(0, _), (1, _), (2, _)]) r_X11_side_43 rfl ?_
        refine EV.l (lv' := [(0, _), (1, _), (2, _)]) r_X11_side_44 rfl ?_
        refine EV.n0_ne r_X11_side_45 (fun h45 => ?_) (fun h45 => ?_)
        · -- 45 t
          refine EV.l (lv' := [(0, _), (1, _), (2, _)]) r_X11_side_62 rfl ?_
          refine EV.o r_X11_side_63 (icN (1) (v := 1)) ?_
          refine EV.n2_ne r_X11_side_64 (fun h64 => ?_) (fun h64 => ?_)
          · -- 64 t
            refine EV.o r_X11_side_74 (icN (1) (v := 1)) ?_
            refine EV.l (lv' := [(0, _), (1, _), (2, _)]) r_X11_side_75 rfl ?_
            refine EV.getV r_X11_side_76 la_106 (mc2.ns) ?_
            refine EV.o r_X11_side_79 (ishl1) ?_
            refine EV.o r_X11_side_80 (icN (1) (v := 1)) ?_
            refine EV.o r_X11_side_81 (isubN) ?_
            refine EV.l (lv' := [(0, _), (1, _), (2, _)]) r_X11_side_82 rfl ?_
            refine EV.cv r_X11_side_83 (aV2 mt_224 la_106) (m_weight mc2 cb (by omega) (by omega) (by omega)) ?_
            exact EV.ri r_X11_side_86 (⟨by rw [wtS_of _ (Nat.le_refl _), of_all], FM_2⟩)
          · omega
        · omega
      · omega
