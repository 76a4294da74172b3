/-! (goes on) -/
theorem c_coverAll {d : Nat} {I : Nat → Nat → Int32} {J : Nat → Nat → Int64} {κ : CT} {l : LW} {η : HS} (hc_ : HC 4 κ I) (cb : CB κ) (hh : HH 71 η I) (hb_ : HB κ η) (hl : HL 46 l I) (lb : LB l)  (hd : 6 ≤ d) : RU d 96 [.ref 89] I J (fun I' => (∀ j, j < 10 * κ.nb → I' 91 j = nI (cvd κ l η j)) ∧ ∀ o, o ≠ 50 → o ≠ 52 → o ≠ 91 → I' o = I o) := by
  refine RU.in (d0 := 5) hd mt_96 (Nat.le_of_ble_eq_true rfl) (fun d' hd' => ?_)
  have bns := cb.ns; have bnb := cb.nb; have bnc := cb.nc; have bnr := cb.nr
  show EV none M_X8_coverAll d' 0 [(0, .ref 89)] [] (hp I J) _
  refine EV.o r_X8_coverAll_0 (icN (0) (v := 0)) ?_
  refine EV.l (lv' := [(0, _), (1, _)]) r_X8_coverAll_1 rfl ?_
  have L2 : ∀ y_ : Nat × (Nat → Nat → Int32), (fun y => (y.1 ≤ κ.nb ∧ (∀ o, o ≠ 50 → o ≠ 52 → o ≠ 91 → y.2 o = I o) ∧ ∀ j, j < 10 * y.1 → y.2 91 j = nI (cvd κ l η j)) → EV none M_X8_coverAll d' 2 [(0, .ref 89), (1, .int (nI y.1))] [] (hp y.2 J) (QU J (fun I' => (∀ j, j < 10 * κ.nb → I' 91 j = nI (cvd κ l η j)) ∧ ∀ o, o ≠ 50 → o ≠ 52 → o ≠ 91 → I' o = I o))) y_ := by
    refine ev_loop (fun y => κ.nb - y.1) ?_
    intro ⟨b, I1⟩ ih2 hx2
    try dsimp only at ih2
    try dsimp only at hx2
    try dsimp only
    have bl := hx2.1
    have fr_ := hx2.2.1
    have hc1 := HC.fr (I' := I1) hc_ (fun x h1 h2 => fr_ x (by omega) (by omega) (by omega))
    have hh1 := HH.fr (I' := I1) hh (fun x h1 h2 => fr_ x (by omega) (by omega) (by omega))
    have hl1 := HL.fr (I' := I1) hl (fr_ 46 (by decide) (by decide) (by decide)) (fr_ 48 (by decide) (by decide) (by decide))
    refine EV.l (lv' := [(0, _), (1, _)]) r_X8_coverAll_2 rfl ?_
    refine EV.l (lv' := [(0, _), (1, _)]) r_X8_coverAll_3 rfl ?_
    refine EV.gR r_X8_coverAll_4 la_89 ?_
    refine EV.getV r_X8_coverAll_7 la_4 (hc1.nb) ?_
    refine EV.n2_ge r_X8_coverAll_10 (fun h10 => ?_) (fun h10 => ?_)
    · -- 10 t
      exact EV.ru r_X8_coverAll_55 (⟨fun j hj => hx2.2.2 j (by omega), fr_⟩)
    · -- 10 f
      refine EV.o r_X8_coverAll_13 (icN (0) (v := 0)) ?_
      refine EV.l (lv' := [(0, _), (1, _), (2, _)]) r_X8_coverAll_14 rfl ?_
      have L15 : ∀ y_ : Nat × (Nat → Nat → Int32), (fun y => (y.1 ≤ 10 ∧ (∀ o, o ≠ 50 → o ≠ 52 → o ≠ 91 → y.2 o = I o) ∧ ∀ j, j < 10 * b + y.1 → y.2 91 j = nI (cvd κ l η j)) → EV none M_X8_coverAll d' 15 [(0, .ref 89), (1, .int (nI b)), (2, .int (nI y.1))] [] (hp y.2 J) (QU J (fun I' => (∀ j, j < 10 * κ.nb → I' 91 j = nI (cvd κ l η j)) ∧ ∀ o, o ≠ 50 → o ≠ 52 → o ≠ 91 → I' o = I o))) y_ := by
        refine ev_loop (fun y => 10 - y.1) ?_
        intro ⟨k, I5⟩ ih15 hx15
        try dsimp only at ih15
        try dsimp only at hx15
        try dsimp only
        have kl := hx15.1
        have fr_ := hx15.2.1
        have hc1 := HC.fr (I' := I5) hc_ (fun x h1 h2 => fr_ x (by omega) (by omega) (by omega))
        have hh1 := HH.fr (I' := I5) hh (fun x h1 h2 => fr_ x (by omega) (by omega) (by omega))
        have hl1 := HL.fr (I' := I5) hl (fr_ 46 (by decide) (by decide) (by decide)) (fr_ 48 (by decide) (by decide) (by decide))
        refine EV.l (lv' := [(0, _), (1, _), (2, _)]) r_X8_coverAll_15 rfl ?_
        refine EV.o r_X8_coverAll_16 (bpN (10) 10) ?_
        refine EV.n2_ge r_X8_coverAll_18 (fun h18 => ?_) (fun h18 => ?_)
        · -- 18 t
          refine EV.l (lv' := [(0, _), (1, _), (2, _)]) r_X8_coverAll_49 rfl ?_
          rw [inc_nI]
          refine EV.g r_X8_coverAll_52 ?_
          refine EV.fg (lv' := [(0, _), (1, _)]) r_X8_coverAll_2 rfl rfl rfl ?_
          refine EV.sub ?_ rfl ?_ (ih2 (b + 1, I5) ?_ ?_)
          · (try dsimp only) <;> (rfl)
          · (try dsimp only) <;> (rfl)
          · (try dsimp only) <;> (omega)
          · (try dsimp only) <;> (exact ⟨by omega, fr_, fun j hj => hx15.2.2 j (by omega)⟩)
        · -- 18 f
          refine EV.l (lv' := [(0, _), (1, _), (2, _)]) r_X8_coverAll_21 rfl ?_
          refine EV.gR r_X8_coverAll_22 la_89 ?_
          refine EV.l (lv' := [(0, _), (1, _), (2, _)]) r_X8_coverAll_25 rfl ?_
          refine EV.o r_X8_coverAll_26 (bpN (10) 10) ?_
          refine EV.o r_X8_coverAll_28 imulN ?_
          refine EV.l (lv' := [(0, _), (1, _), (2, _)]) r_X8_coverAll_29 rfl ?_
          refine EV.o r_X8_coverAll_30 iaddN ?_
          refine EV.l (lv' := [(0, _), (1, _), (2, _)]) r_X8_coverAll_31 rfl ?_
          refine EV.gR r_X8_coverAll_32 la_89 ?_
          refine EV.l (lv' := [(0, _), (1, _), (2, _)]) r_X8_coverAll_35 rfl ?_
          refine EV.l (lv' := [(0, _), (1, _), (2, _)]) r_X8_coverAll_36 rfl ?_
          refine EV.ci r_X8_coverAll_37 (aV2 mt_31 la_71) (c71_covered hc1 cb hh1 hb_ hl1 lb (by omega) (by omega) (by omega)) (fun v I6 h6 => ?_)
          obtain ⟨e, fr6⟩ := h6
          subst e
          refine EV.cu r_X8_coverAll_40 (aV2 mt_93 la_90) (c_set la_90 la_91 (by decide) (by decide) (by omega) (by omega)) (fun I7 e7 => ?_)
          refine EV.l (lv' := [(0, _), (1, _), (2, _)]) r_X8_coverAll_43 rfl ?_
          rw [inc_nI]
          refine EV.g r_X8_coverAll_46 ?_
          refine EV.sub ?_ rfl ?_ (ih15 (k + 1, I7) ?_ ?_)
          · (try dsimp only) <;> (rfl)
          · (try dsimp only) <;> (rfl)
          · (try dsimp only) <;> (omega)
          · (try dsimp only) <;> (subst e7; exact ⟨by omega, fun o h1 h2 h3 => (wr_row h3).trans ((fr6 o h1 h2).trans (fr_ o h1 h2 h3)), cv_put (by omega) (fun j hj => by rw [fr6 91 (by decide) (by decide)]; exact hx15.2.2 j hj)⟩)
      have h0 := L15 ((0, I1))
      try dsimp only at h0
      refine EV.sub ?_ rfl ?_ (h0 ?_)
      · (try dsimp only) <;> (rfl)
      · (try dsimp only) <;> (rfl)
      · (try dsimp only) <;> (exact ⟨Nat.zero_le _, fr_, hx2.2.2⟩)
  have h0 := L2 ((0, I))
  try dsimp only at h0
  refine EV.sub ?_ rfl ?_ (h0 ?_)
  · (try dsimp only) <;> (rfl)
  · (try dsimp only) <;> (rfl)
  · (try dsimp only) <;> (exact ⟨Nat.zero_le _, fun _ _ _ _ => rfl, fun j hj => by omega⟩)
theorem c_others {d : Nat} {I : Nat → Nat → Int32} {J : Nat → Nat → Int64} {κ : CT} {l : LW} {η : HS} (hc_ : HC 4 κ I) (cb : CB κ) (cv : ∀ j, j < 10 * κ.nb → I 91 j = nI (cvd κ l η j)) {b : Nat} (h : b < κ.nb)  (hd : 3 ≤ d) : RV d 104 [.ref 89, .int (nI b)] I J (nI (ors κ l η b κ.nb)) := by
  refine RV.in (d0 := 2) hd mt_104 (Nat.le_of_ble_eq_true rfl) (fun d' hd' => ?_)
  have bns := cb.ns; have bnb := cb.nb; have bnc := cb.nc; have bnr := cb.nr
  show EV none M_X8_coveredByOthers d' 0 [(0, .ref 89), (1, .int (nI b))] [] (hp I J) _
  refine EV.o r_X8_coveredByOthers_0 (icN (0) (v := 0)) ?_
  refine EV.l (lv' := [(0, _), (1, _), (2, _)]) r_X8_coveredByOthers_1 rfl ?_
  refine EV.o r_X8_coveredByOthers_2 (icN (0) (v := 0)) ?_
  refine EV.l (lv' := [(0, _), (1, _), (2, _), (3, _)]) r_X8_coveredByOthers_3 rfl ?_
  have L4 : ∀ y_ : Nat, (fun o => o ≤ κ.nb → EV none M_X8_coveredByOthers d' 4 [(0, .ref 89), (1, .int (nI b)), (2, .int (nI (ors κ l η b o))), (3, .int (nI o))] [] (hp I J) (QV I J (nI (ors κ l η b κ.nb)))) y_ := by
    refine ev_loop (fun o => κ.nb - o) ?_
    intro o ih4 hx4
    try dsimp only at ih4
    try dsimp only at hx4
    try dsimp only
    refine EV.l (lv' := [(0, _), (1, _), (2, _), (3, _)]) r_X8_coveredByOthers_4 rfl ?_
    refine EV.l (lv' := [(0, _), (1, _), (2, _), (3, _)]) r_X8_coveredByOthers_5 rfl ?_
    refine EV.gR r_X8_coveredByOthers_6 la_89 ?_
    refine EV.getV r_X8_coveredByOthers_9 la_4 (hc_.nb) ?_
    refine EV.n2_ge r_X8_coveredByOthers_12 (fun h12 => ?_) (fun h12 => ?_)
    · -- 12 t
      refine EV.l (lv' := [(0, _), (1, _), (2, _), (3, _)]) r_X8_coveredByOthers_40 rfl ?_
      exact EV.rv r_X8_coveredByOthers_41 (by rw [show o = κ.nb by omega])
    · -- 12 f
      refine EV.l (lv' := [(0, _), (1, _), (2, _), (3, _)]) r_X8_coveredByOthers_15 rfl ?_
      refine EV.l (lv' := [(0, _), (1, _), (2, _), (3, _)]) r_X8_coveredByOthers_16 rfl ?_
      refine EV.n2_eq r_X8_coveredByOthers_17 (fun h17 => ?_) (fun h17 => ?_)
      · -- 17 t
        refine EV.l (lv' := [(0, _), (1, _), (2, _), (3, _)]) r_X8_coveredByOthers_34 rfl ?_
        rw [inc_nI]
        refine EV.g r_X8_coveredByOthers_37 ?_
        refine EV.sub ?_ rfl ?_ (ih4 (o + 1) ?_ ?_)
        · first | rw [ors_t (by assumption)] | rw [ors_f (by assumption)]
        · rfl
        · omega
        · omega
      · -- 17 f
        refine EV.l (lv' := [(0, _), (1, _), (2, _), (3, _)]) r_X8_coveredByOthers_20 rfl ?_
        refine EV.l (lv' := [(0, _), (1, _), (2, _), (3, _)]) r_X8_coveredByOthers_21 rfl ?_
        refine EV.gR r_X8_coveredByOthers_22 la_89 ?_
        refine EV.l (lv' := [(0, _), (1, _), (2, _), (3, _)]) r_X8_coveredByOthers_25 rfl ?_
        refine EV.o r_X8_coveredByOthers_26 (bpN (10) 10) ?_
        refine EV.o r_X8_coveredByOthers_28 imulN ?_
        refine EV.cv r_X8_coveredByOthers_29 (aV1 mt_92 la_90) (c_getN (by omega) la_90 la_91 (cv_at0 cv (by omega)) (by decide) (by decide) (by omega)) ?_
        refine EV.o r_X8_coveredByOthers_32 iorN ?_
        refine EV.l (lv' := [(0, _), (1, _), (2, _), (3, _)]) r_X8_coveredByOthers_33 rfl ?_
        refine EV.l (lv' := [(0, _), (1, _), (2, _), (3, _)]) r_X8_coveredByOthers_34 rfl ?_
        rw [inc_nI]
        refine EV.g r_X8_coveredByOthers_37 ?_
        refine EV.sub ?_ rfl ?_ (ih4 (o + 1) ?_ ?_)
        · first | rw [ors_t (by assumption)] | rw [ors_f (by assumption)]
        · rfl
        · omega
        · omega
  have h0 := L4 (0)
  try dsimp only at h0
  refine EV.sub ?_ rfl ?_ (h0 ?_)
  · rfl
  · rfl
  · omega
theorem c_agrees {d : Nat} {I : Nat → Nat → Int32} {J : Nat → Nat → Int64} {x bt br : Nat} (h0 : I 60 0 = nI bt) (h1 : I 60 1 = nI br) (hx : x < 512) (hb_ : bt < 512) (hr : br < 512)  (hd : 2 ≤ d) : RV d 5 [.ref 60, .int (nI x)] I J (bI (decide (x &&& bt = br))) := by
  refine RV.in (d0 := 1) hd mt_5 (Nat.le_of_ble_eq_true rfl) (fun d' hd' => ?_)
  have ha : x &&& bt < 512 := and_lt9 hx
  show EV none M_X0_agrees d' 0 [(0, .ref 60), (1, .int (nI x))] [] (hp I J) _
  refine EV.l (lv' := [(0, _), (1, _)]) r_X0_agrees_0 rfl ?_
  refine EV.l (lv' := [(0, _), (1, _)]) r_X0_agrees_1 rfl ?_
  refine EV.getV r_X0_agrees_2 la_60 (h0) ?_
  refine EV.o r_X0_agrees_5 iandN ?_
  refine EV.l (lv' := [(0, _), (1, _)]) r_X0_agrees_6 rfl ?_
  refine EV.getV r_X0_agrees_7 la_60 (h1) ?_
  refine EV.n2_ne r_X0_agrees_10 (fun h10 => ?_) (fun h10 => ?_)
  · -- 10 t
    refine EV.o r_X0_agrees_17 (icN (0) (v := 0)) ?_
    exact EV.rv r_X0_agrees_18 (by first | (rw [decide_eq_true (by omega)]; rfl) | (rw [decide_eq_false (by omega)]; rfl))
  · -- 10 f
    refine EV.o r_X0_agrees_13 (icN (1) (v := 1)) ?_
    refine EV.g r_X0_agrees_14 ?_
    exact EV.rv r_X0_agrees_18 (by first | (rw [decide_eq_true (by omega)]; rfl) | (rw [decide_eq_false (by omega)]; rfl))
