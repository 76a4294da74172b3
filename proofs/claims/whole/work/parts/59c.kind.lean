/-! (goes on) -/
theorem m_kindX {d : Nat} {I : Nat → Nat → Int32} {J : Nat → Nat → Int64} {n : Int} (n1 : -2147483648 ≤ n) (n2 : n < 2147483648) {k : Int} (k1 : -2147483648 ≤ k) (k2 : k < 2147483648) {q : Int} (q1 : -2147483648 ≤ q) (q2 : q < 2147483648) {h : Int} (h1 : -2147483648 ≤ h) (h2 : h < 2147483648) (hx : ¬ (0 ≤ n ∧ n ≤ 12 ∧ 0 ≤ k ∧ k ≤ 13 ∧ 0 ≤ q ∧ q ≤ 16 ∧ 0 ≤ h ∧ h ≤ 1)) (hd : 3 ≤ d) : RLI d 257 [.ref 106, .int (zI n), .int (zI k), .int (zI q), .int (zI h)] I J (fun v I' J' => I' = refM I 1 1 ∧ J' = J) := by
  refine RLI.in (d0 := 2) hd mt_257 (Nat.le_of_ble_eq_true rfl) (fun d' hd' => ?_)
  show EV none M_X11_kind d' 0 [(0, .ref 106), (1, .int (zI n)), (2, .int (zI k)), (3, .int (zI q)), (4, .int (zI h))] [] (hp I J) _
  refine EV.l (lv' := [(0, _), (1, _), (2, _), (3, _), (4, _)]) r_X11_kind_0 rfl ?_
  refine EV.o r_X11_kind_1 (icN (0) (v := 0)) ?_
  refine EV.pI r_X11_kind_2 la_106 ?_
  refine EV.l (lv' := [(0, _), (1, _), (2, _), (3, _), (4, _)]) r_X11_kind_5 rfl ?_
  refine EV.l (lv' := [(0, _), (1, _), (2, _), (3, _), (4, _)]) r_X11_kind_6 rfl ?_
  refine EV.o r_X11_kind_7 (icN (0) (v := 0)) ?_
  refine EV.o r_X11_kind_8 (bpN (12) 12) ?_
  refine EV.cv r_X11_kind_10 (aS3 mt_170) (m_wZNN (by omega) (by omega) (by omega) (by omega) (by omega)) ?_
  refine EV.p0_eq r_X11_kind_13 (fun h13 => ?_) (fun h13 => ?_)
  · -- 13 t
    refine EV.o r_X11_kind_50 (icN (0) (v := 0)) ?_
    refine EV.o r_X11_kind_51 (icN (1) (v := 1)) ?_
    refine EV.o r_X11_kind_52 (icN (1) (v := 1)) ?_
    refine EV.ci r_X11_kind_53 (aV3 mt_169 la_106) (m_may0 wr_same (by decide) (by decide) (by decide) (by omega)) (fun v I2 h2 => ?_)
    obtain ⟨e, fr_⟩ := h2
    subst e
    refine EV.n0_ne r_X11_kind_56 (fun h56 => ?_) (fun h56 => ?_)
    · omega
    · -- 56 f
      refine EV.o r_X11_kind_59 lc0 ?_
      exact EV.rli r_X11_kind_60 (⟨fr_, rfl⟩)
  · -- 13 f
    refine EV.l (lv' := [(0, _), (1, _), (2, _), (3, _), (4, _)]) r_X11_kind_16 rfl ?_
    refine EV.o r_X11_kind_17 (icN (0) (v := 0)) ?_
    refine EV.o r_X11_kind_18 (bpN (13) 13) ?_
    refine EV.cv r_X11_kind_20 (aS3 mt_170) (m_wZNN (by omega) (by omega) (by omega) (by omega) (by omega)) ?_
    refine EV.p0_eq r_X11_kind_23 (fun h23 => ?_) (fun h23 => ?_)
    · -- 23 t
      refine EV.o r_X11_kind_50 (icN (0) (v := 0)) ?_
      refine EV.o r_X11_kind_51 (icN (1) (v := 1)) ?_
      refine EV.o r_X11_kind_52 (icN (1) (v := 1)) ?_
      refine EV.ci r_X11_kind_53 (aV3 mt_169 la_106) (m_may0 wr_same (by decide) (by decide) (by decide) (by omega)) (fun v I2 h2 => ?_)
      obtain ⟨e, fr_⟩ := h2
      subst e
      refine EV.n0_ne r_X11_kind_56 (fun h56 => ?_) (fun h56 => ?_)
      · omega
      · -- 56 f
        refine EV.o r_X11_kind_59 lc0 ?_
        exact EV.rli r_X11_kind_60 (⟨fr_, rfl⟩)
    · -- 23 f
      refine EV.l (lv' := [(0, _), (1, _), (2, _), (3, _), (4, _)]) r_X11_kind_26 rfl ?_
      refine EV.o r_X11_kind_27 (icN (0) (v := 0)) ?_
      refine EV.o r_X11_kind_28 (bpN (16) 16) ?_
      refine EV.cv r_X11_kind_30 (aS3 mt_170) (m_wZNN (by omega) (by omega) (by omega) (by omega) (by omega)) ?_
      refine EV.p0_eq r_X11_kind_33 (fun h33 => ?_) (fun h33 => ?_)
      · -- 33 t
        refine EV.o r_X11_kind_50 (icN (0) (v := 0)) ?_
        refine EV.o r_X11_kind_51 (icN (1) (v := 1)) ?_
        refine EV.o r_X11_kind_52 (icN (1) (v := 1)) ?_
        refine EV.ci r_X11_kind_53 (aV3 mt_169 la_106) (m_may0 wr_same (by decide) (by decide) (by decide) (by omega)) (fun v I2 h2 => ?_)
        obtain ⟨e, fr_⟩ := h2
        subst e
        refine EV.n0_ne r_X11_kind_56 (fun h56 => ?_) (fun h56 => ?_)
        · omega
        · -- 56 f
          refine EV.o r_X11_kind_59 lc0 ?_
          exact EV.rli r_X11_kind_60 (⟨fr_, rfl⟩)
      · -- 33 f
        refine EV.l (lv' := [(0, _), (1, _), (2, _), (3, _), (4, _)]) r_X11_kind_36 rfl ?_
        refine EV.o r_X11_kind_38 (icN (0) (v := 0)) ?_
        refine EV.o r_X11_kind_39 (icN (1) (v := 1)) ?_
        refine EV.cv r_X11_kind_40 (aS3 mt_170) (m_wZNN (by omega) (by omega) (by omega) (by omega) (by omega)) ?_
        refine EV.p0_eq r_X11_kind_43 (fun h43 => ?_) (fun h43 => ?_)
        · -- 43 t
          refine EV.o r_X11_kind_50 (icN (0) (v := 0)) ?_
          refine EV.o r_X11_kind_51 (icN (1) (v := 1)) ?_
          refine EV.o r_X11_kind_52 (icN (1) (v := 1)) ?_
          refine EV.ci r_X11_kind_53 (aV3 mt_169 la_106) (m_may0 wr_same (by decide) (by decide) (by decide) (by omega)) (fun v I2 h2 => ?_)
          obtain ⟨e, fr_⟩ := h2
          subst e
          refine EV.n0_ne r_X11_kind_56 (fun h56 => ?_) (fun h56 => ?_)
          · omega
          · -- 56 f
            refine EV.o r_X11_kind_59 lc0 ?_
            exact EV.rli r_X11_kind_60 (⟨fr_, rfl⟩)
        · -- 43 f
          refine EV.o r_X11_kind_46 (icN (1) (v := 1)) ?_
          refine EV.g r_X11_kind_47 ?_
          refine EV.o r_X11_kind_51 (icN (1) (v := 1)) ?_
          refine EV.o r_X11_kind_52 (icN (1) (v := 1)) ?_
          omega
