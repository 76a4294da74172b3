/-! (goes on) -/
theorem m_run {d : Nat} {I : Nat → Nat → Int32} {J : Nat → Nat → Int64} {κ : CT} {l : LW} {P : PL} {f0 t o D : Nat} {sub : Nat → Nat → RSt → RSt} {R : RSt} (cb : CB κ) (lb : LB l) (hm : 4 * P.m ≤ 150) (htm : t ≤ P.m) (hf0 : f0 ≤ t) (bl : blk κ P o f0 t) (hD : 12 ≤ D) (hf : ∀ f t (R : RSt), 200 ≤ R.2.1 → sub f t R = R) (rep : ∀ j, f0 ≤ j → j < t → P.k j = 5 → (P.a j ≤ 40 ∧ j < P.b j ∧ P.b j ≤ t) ∧ ∀ (d : Nat) (I : Nat → Nat → Int32) (R : RSt), D ≤ d → RI2 κ l R → RM κ l P R I → RU d 211 [.ref 106, .int (nI (4 * (j + 1))), .int (nI (4 * P.b j))] I J (fun I' => RM κ l P (sub (j + 1) (P.b j) R) I' ∧ SF I I' ∧ RI2 κ l (sub (j + 1) (P.b j) R))) (ri0 : RI2 κ l R) (rc0 : RM κ l P R I)  (hd : D + 1 ≤ d) : RU d 211 [.ref 106, .int (nI (4 * f0)), .int (nI (4 * t))] I J (fun I' => RM κ l P (gsL sub κ l P 150 f0 t R) I' ∧ SF I I' ∧ RI2 κ l (gsL sub κ l P 150 f0 t R)) := by
  refine RU.in (d0 := D) hd mt_211 (Nat.le_of_ble_eq_true rfl) (fun d' hd' => ?_)
  show EV none M_X11_goesSteps d' 0 [(0, .ref 106), (1, .int (nI (4 * f0))), (2, .int (nI (4 * t)))] [] (hp I J) _
  refine EV.l (lv' := [(0, _), (1, _), (2, _)]) r_X11_goesSteps_0 rfl ?_
  refine EV.l (lv' := [(0, _), (1, _), (2, _), (3, _)]) r_X11_goesSteps_1 rfl ?_
  have L2 : ∀ y_ : Nat × Nat × RSt × (Nat → Nat → Int32), (fun y => RMI κ l P sub f0 t R I y.1 y.2.1 y.2.2.1 y.2.2.2 → EV none M_X11_goesSteps d' 2 [(0, .ref 106), (1, .int (nI (4 * f0))), (2, .int (nI (4 * t))), (3, .int (nI (4 * y.2.1)))] [] (hp y.2.2.2 J) (QU J (fun I' => RM κ l P (gsL sub κ l P 150 f0 t R) I' ∧ SF I I' ∧ RI2 κ l (gsL sub κ l P 150 f0 t R)))) y_ := by
    refine ev_loop (fun y => 150 - y.1) ?_
    intro ⟨i, f, T, M⟩ ih2 hx2
    try dsimp only at ih2
    try dsimp only at hx2
    try dsimp only
    have ri := hx2.2.2.1
    have b2 := ri.2.1
    have b3 := ri.2.2
    have ff_ := hx2.2.2.2.1
    have fi := hx2.2.2.2.2.1
    have ft := hx2.2.2.2.2.2.1
    refine EV.l (lv' := [(0, _), (1, _), (2, _), (3, _)]) r_X11_goesSteps_2 rfl ?_
    refine EV.l (lv' := [(0, _), (1, _), (2, _), (3, _)]) r_X11_goesSteps_3 rfl ?_
    refine EV.n2_ge r_X11_goesSteps_4 (fun h4 => ?_) (fun h4 => ?_)
    · -- 4 t
      have fz := hx2.fin (by omega)
      exact EV.ru r_X11_goesSteps_160 (fz)
    · -- 4 f
      refine EV.l (lv' := [(0, _), (1, _), (2, _), (3, _)]) r_X11_goesSteps_7 rfl ?_
      refine EV.getV r_X11_goesSteps_8 la_106 (hx2.1.2.2.2.2.1) ?_
      refine EV.o r_X11_goesSteps_11 (spN (200) 200) ?_
      refine EV.n2_ge r_X11_goesSteps_14 (fun h14 => ?_) (fun h14 => ?_)
      · -- 14 t
        have fz := hx2.fin (by omega)
        exact EV.ru r_X11_goesSteps_160 (fz)
      · -- 14 f
        refine EV.l (lv' := [(0, _), (1, _), (2, _), (3, _)]) r_X11_goesSteps_17 rfl ?_
        refine EV.o r_X11_goesSteps_18 rfl ?_
        refine EV.getV r_X11_goesSteps_19 la_106 (hx2.1.2.2.2.2.1) ?_
        refine EV.o r_X11_goesSteps_22 (icN (1) (v := 1)) ?_
        refine EV.o r_X11_goesSteps_23 iaddN ?_
        refine EV.pIn r_X11_goesSteps_24 la_106 (fun I2 e2 => ?_)
        have sf2 : SF M I2 := SF.dn e2 (Or.inl rfl)
        have rm2 : RM κ l P (T.1, (T.2.1 + 1, T.2.2)) I2 := hx2.1.mk sf2 (hx2.1.2.2.2.1.dn (by rw [e2]; exact wr_row (by decide))) (by rw [e2]; exact wr_same) (by rw [e2, wr_ne (Or.inr (by decide))]; exact hx2.1.2.2.2.2.2.1) (by rw [e2, wr_ne (Or.inr (by decide))]; exact hx2.1.2.2.2.2.2.2)
        have kb : P.k f < 2147483648 := by rcases Nat.lt_or_ge (P.k f) 6 with z | z; omega; (exfalso; cases o with | zero => (rcases bl f (by omega) (by omega) with y | y | y | y | y <;> omega) | succ o => (rcases bl f (by omega) (by omega) with (y | y | y | y | y) | y <;> omega))
        refine EV.l (lv' := [(0, _), (1, _), (2, _), (3, _)]) r_X11_goesSteps_27 rfl ?_
        refine EV.gR r_X11_goesSteps_28 la_106 ?_
        refine EV.l (lv' := [(0, _), (1, _), (2, _), (3, _)]) r_X11_goesSteps_31 rfl ?_
        refine EV.iaN r_X11_goesSteps_32 la_124 ((rm2.1 f (by omega)).1) ?_
        refine EV.o r_X11_goesSteps_33 (icN (5) (v := 5)) ?_
        refine EV.n2_ne r_X11_goesSteps_34 (fun h34 => ?_) (fun h34 => ?_)
        · -- 34 t
          rcases blk_no bl (by omega) (show f < t by omega) h34 with bk | bk | bk | bk | bk
          · -- case
            have bkk := blk_no bl (by omega) (show f < t by omega) h34
            refine EV.l (lv' := [(0, _), (1, _), (2, _), (3, _)]) r_X11_goesSteps_94 rfl ?_
            refine EV.l (lv' := [(0, _), (1, _), (2, _), (3, _)]) r_X11_goesSteps_95 rfl ?_
            refine EV.gR r_X11_goesSteps_96 la_106 ?_
            refine EV.l (lv' := [(0, _), (1, _), (2, _), (3, _)]) r_X11_goesSteps_99 rfl ?_
            refine EV.iaN r_X11_goesSteps_100 la_124 ((rm2.1 f (by omega)).1.trans (by rw [bk.1])) ?_
            refine EV.l (lv' := [(0, _), (1, _), (2, _), (3, _)]) r_X11_goesSteps_101 rfl ?_
            refine EV.gR r_X11_goesSteps_102 la_106 ?_
            refine EV.l (lv' := [(0, _), (1, _), (2, _), (3, _)]) r_X11_goesSteps_105 rfl ?_
            refine EV.o r_X11_goesSteps_106 (icN (1) (v := 1)) ?_
            refine EV.o r_X11_goesSteps_107 iaddN ?_
            refine EV.iaN r_X11_goesSteps_108 la_124 ((rm2.1 f (by omega)).2.1) ?_
            refine EV.l (lv' := [(0, _), (1, _), (2, _), (3, _)]) r_X11_goesSteps_109 rfl ?_
            refine EV.gR r_X11_goesSteps_110 la_106 ?_
            refine EV.l (lv' := [(0, _), (1, _), (2, _), (3, _)]) r_X11_goesSteps_113 rfl ?_
            refine EV.o r_X11_goesSteps_114 (icN (2) (v := 2)) ?_
            refine EV.o r_X11_goesSteps_115 iaddN ?_
            refine EV.iaN r_X11_goesSteps_116 la_124 ((rm2.1 f (by omega)).2.2.1.trans (by rw [if_neg h34])) ?_
            refine EV.l (lv' := [(0, _), (1, _), (2, _), (3, _)]) r_X11_goesSteps_117 rfl ?_
            refine EV.gR r_X11_goesSteps_118 la_106 ?_
            refine EV.l (lv' := [(0, _), (1, _), (2, _), (3, _)]) r_X11_goesSteps_121 rfl ?_
            refine EV.o r_X11_goesSteps_122 (icN (3) (v := 3)) ?_
            refine EV.o r_X11_goesSteps_123 iaddN ?_
            refine EV.iaN r_X11_goesSteps_124 la_124 ((rm2.1 f (by omega)).2.2.2) ?_
            refine EV.ci r_X11_goesSteps_125 (aV4 mt_232 la_106) (m_do0 cb rm2.2.1 rm2.2.2.1 lb rm2.2.2.2.1 ri.1 bk.2.1 bk.2.2 (by omega)) (fun v3 I3 h3 => ?_)
            obtain ⟨e, mr3, f3⟩ := h3
            subst e
            have d62 : I3 106 = I2 106 := f3 106 (by decide) (by decide) (by decide)
            have sf3 : SF I2 I3 := ⟨fun j _ _ _ => congrFun d62 j, fun x _ p2 p3 p4 => f3 x p2 p3 p4⟩
            have d5 : I3 106 39 = nI (T.2.1 + 1) := by rw [d62, e2]; exact wr_same
            have d6 : I3 106 40 = nI T.2.2.1 := by rw [d62, e2, wr_ne (Or.inr (by decide))]; exact hx2.1.2.2.2.2.2.1
            have d7 : I3 106 41 = nI T.2.2.2 := by rw [d62, e2, wr_ne (Or.inr (by decide))]; exact hx2.1.2.2.2.2.2.2
            have ed := dst_0 (κ := κ) (l := l) (η := T.1) (P := P) (j := f) bk.1
            have mr3q : MR 126 κ (if (qCall T.1 (P.a f) (P.b f)) = true then ms κ l (hCall T.1 (P.a f) (P.b f)) κ.nb else T.1) I3 := by
              cases hqq : (qCall T.1 (P.a f) (P.b f))
              · rw [if_neg (by decide)]; rw [hqq, if_neg (by decide)] at mr3; exact mr3
              · rw [if_pos rfl]; rw [hqq, if_pos rfl] at mr3; exact mr3.ms
            refine EV.b0_eq r_X11_goesSteps_128 (fun h128 => ?_) (fun h128 => ?_)
            · -- 128 t
              refine EV.l (lv' := [(0, _), (1, _), (2, _), (3, _)]) r_X11_goesSteps_144 rfl ?_
              refine EV.o r_X11_goesSteps_145 rfl ?_
              refine EV.getV r_X11_goesSteps_146 la_106 (d7) ?_
              refine EV.o r_X11_goesSteps_149 (icN (1) (v := 1)) ?_
              refine EV.o r_X11_goesSteps_150 iaddN ?_
              refine EV.pIn r_X11_goesSteps_151 la_106 (fun I4 e4 => ?_)
              have d1 : (dst κ l P f T.1).1 = false := by rw [ed]; exact h128
              have e1n : one κ l P f T = ((dst κ l P f T.1).2, (T.2.1 + 1, T.2.2.1, T.2.2.2 + 1)) := by unfold one; rw [d1]; rfl
              have sf4 : SF I3 I4 := SF.dn e4 (Or.inr (Or.inr rfl))
              have rc4 : RM κ l P (one κ l P f T) I4 := by
                rw [e1n]
                refine hx2.1.mk ((sf2.tr sf3).tr sf4) (by show MR 126 κ (dst κ l P f T.1).2 I4; rw [ed]; exact mr3q.dn (by rw [e4]; exact wr_row (by decide))) (by rw [e4, wr_ne (Or.inr (by decide))]; exact d5) (by rw [e4, wr_ne (Or.inr (by decide))]; exact d6) (by rw [e4]; exact wr_same)
              have hx9 : RMI κ l P sub f0 t R I (i + 1) (f + 1) (one κ l P f T) I4 := ⟨rc4, hx2.2.1.tr ((sf2.tr sf3).tr sf4), ri.on1 (by omega) bkk, by omega, by omega, by omega, by rw [← hx2.2.2.2.2.2.2, show 150 - i = 150 - (i + 1) + 1 by omega, gsL_one ⟨by omega, by omega⟩ h34]⟩
              refine EV.l (lv' := [(0, _), (1, _), (2, _), (3, _)]) r_X11_goesSteps_154 rfl ?_
              rw [inc_4]
              rw [show 4 * f + 4 = 4 * (f + 1) from by omega]
              refine EV.g r_X11_goesSteps_157 ?_
              refine EV.sub ?_ rfl ?_ (ih2 (i + 1, f + 1, one κ l P f T, I4) ?_ ?_)
              · (try dsimp only) <;> (rfl)
              · (try dsimp only) <;> (rfl)
              · (try dsimp only) <;> (omega)
              · (try dsimp only) <;> (exact hx9)
            · -- 128 f
              refine EV.l (lv' := [(0, _), (1, _), (2, _), (3, _)]) r_X11_goesSteps_131 rfl ?_
              refine EV.o r_X11_goesSteps_132 rfl ?_
              refine EV.getV r_X11_goesSteps_133 la_106 (d6) ?_
              refine EV.o r_X11_goesSteps_136 (icN (1) (v := 1)) ?_
              refine EV.o r_X11_goesSteps_137 iaddN ?_
              refine EV.pIn r_X11_goesSteps_138 la_106 (fun I4 e4 => ?_)
              refine EV.g r_X11_goesSteps_141 ?_
              have d1 : (dst κ l P f T.1).1 = true := by rw [ed]; exact h128
              have e1n : one κ l P f T = ((dst κ l P f T.1).2, (T.2.1 + 1, T.2.2.1 + 1, T.2.2.2)) := by unfold one; rw [d1]; rfl
              have sf4 : SF I3 I4 := SF.dn e4 (Or.inr (Or.inl rfl))
              have rc4 : RM κ l P (one κ l P f T) I4 := by
                rw [e1n]
                refine hx2.1.mk ((sf2.tr sf3).tr sf4) (by show MR 126 κ (dst κ l P f T.1).2 I4; rw [ed]; exact mr3q.dn (by rw [e4]; exact wr_row (by decide))) (by rw [e4, wr_ne (Or.inr (by decide))]; exact d5) (by rw [e4]; exact wr_same) (by rw [e4, wr_ne (Or.inr (by decide))]; exact d7)
              have hx9 : RMI κ l P sub f0 t R I (i + 1) (f + 1) (one κ l P f T) I4 := ⟨rc4, hx2.2.1.tr ((sf2.tr sf3).tr sf4), ri.on1 (by omega) bkk, by omega, by omega, by omega, by rw [← hx2.2.2.2.2.2.2, show 150 - i = 150 - (i + 1) + 1 by omega, gsL_one ⟨by omega, by omega⟩ h34]⟩
              refine EV.l (lv' := [(0, _), (1, _), (2, _), (3, _)]) r_X11_goesSteps_154 rfl ?_
              rw [inc_4]
              rw [show 4 * f + 4 = 4 * (f + 1) from by omega]
              refine EV.g r_X11_goesSteps_157 ?_
              refine EV.sub ?_ rfl ?_ (ih2 (i + 1, f + 1, one κ l P f T, I4) ?_ ?_)
              · (try dsimp only) <;> (rfl)
              · (try dsimp only) <;> (rfl)
              · (try dsimp only) <;> (omega)
              · (try dsimp only) <;> (exact hx9)
          · -- case
            have bkk := blk_no bl (by omega) (show f < t by omega) h34
            refine EV.l (lv' := [(0, _), (1, _), (2, _), (3, _)]) r_X11_goesSteps_94 rfl ?_
            refine EV.l (lv' := [(0, _), (1, _), (2, _), (3, _)]) r_X11_goesSteps_95 rfl ?_
            refine EV.gR r_X11_goesSteps_96 la_106 ?_
            refine EV.l (lv' := [(0, _), (1, _), (2, _), (3, _)]) r_X11_goesSteps_99 rfl ?_
            refine EV.iaN r_X11_goesSteps_100 la_124 ((rm2.1 f (by omega)).1.trans (by rw [bk.1])) ?_
            refine EV.l (lv' := [(0, _), (1, _), (2, _), (3, _)]) r_X11_goesSteps_101 rfl ?_
            refine EV.gR r_X11_goesSteps_102 la_106 ?_
            refine EV.l (lv' := [(0, _), (1, _), (2, _), (3, _)]) r_X11_goesSteps_105 rfl ?_
            refine EV.o r_X11_goesSteps_106 (icN (1) (v := 1)) ?_
            refine EV.o r_X11_goesSteps_107 iaddN ?_
            refine EV.iaN r_X11_goesSteps_108 la_124 ((rm2.1 f (by omega)).2.1) ?_
            refine EV.l (lv' := [(0, _), (1, _), (2, _), (3, _)]) r_X11_goesSteps_109 rfl ?_
            refine EV.gR r_X11_goesSteps_110 la_106 ?_
            refine EV.l (lv' := [(0, _), (1, _), (2, _), (3, _)]) r_X11_goesSteps_113 rfl ?_
            refine EV.o r_X11_goesSteps_114 (icN (2) (v := 2)) ?_
            refine EV.o r_X11_goesSteps_115 iaddN ?_
            refine EV.iaN r_X11_goesSteps_116 la_124 ((rm2.1 f (by omega)).2.2.1.trans (by rw [if_neg h34])) ?_
            refine EV.l (lv' := [(0, _), (1, _), (2, _), (3, _)]) r_X11_goesSteps_117 rfl ?_
            refine EV.gR r_X11_goesSteps_118 la_106 ?_
            refine EV.l (lv' := [(0, _), (1, _), (2, _), (3, _)]) r_X11_goesSteps_121 rfl ?_
            refine EV.o r_X11_goesSteps_122 (icN (3) (v := 3)) ?_
            refine EV.o r_X11_goesSteps_123 iaddN ?_
            refine EV.iaN r_X11_goesSteps_124 la_124 ((rm2.1 f (by omega)).2.2.2) ?_
            refine EV.ci r_X11_goesSteps_125 (aV4 mt_232 la_106) (m_do1 cb rm2.2.1 rm2.2.2.1 lb rm2.2.2.2.1 ri.1 bk.2.1 bk.2.2.1 bk.2.2.2 (by omega)) (fun v3 I3 h3 => ?_)
            obtain ⟨e, mr3, f3⟩ := h3
            subst e
            have d62 : I3 106 = I2 106 := f3 106 (by decide) (by decide) (by decide)
            have sf3 : SF I2 I3 := ⟨fun j _ _ _ => congrFun d62 j, fun x _ p2 p3 p4 => f3 x p2 p3 p4⟩
            have d5 : I3 106 39 = nI (T.2.1 + 1) := by rw [d62, e2]; exact wr_same
            have d6 : I3 106 40 = nI T.2.2.1 := by rw [d62, e2, wr_ne (Or.inr (by decide))]; exact hx2.1.2.2.2.2.2.1
            have d7 : I3 106 41 = nI T.2.2.2 := by rw [d62, e2, wr_ne (Or.inr (by decide))]; exact hx2.1.2.2.2.2.2.2
            have ed := dst_1 (κ := κ) (l := l) (η := T.1) (P := P) (j := f) bk.1
            have mr3q : MR 126 κ (if (canL T.1 (P.a f) (P.b f) (P.c f)) = true then ms κ l (hLead T.1 (P.a f) (P.b f) (P.c f)) κ.nb else T.1) I3 := by
              cases hqq : (canL T.1 (P.a f) (P.b f) (P.c f))
              · rw [if_neg (by decide)]; rw [hqq, if_neg (by decide)] at mr3; exact mr3
              · rw [if_pos rfl]; rw [hqq, if_pos rfl] at mr3; exact mr3.ms
            refine EV.b0_eq r_X11_goesSteps_128 (fun h128 => ?_) (fun h128 => ?_)
            · -- 128 t
              refine EV.l (lv' := [(0, _), (1, _), (2, _), (3, _)]) r_X11_goesSteps_144 rfl ?_
              refine EV.o r_X11_goesSteps_145 rfl ?_
              refine EV.getV r_X11_goesSteps_146 la_106 (d7) ?_
              refine EV.o r_X11_goesSteps_149 (icN (1) (v := 1)) ?_
              refine EV.o r_X11_goesSteps_150 iaddN ?_
              refine EV.pIn r_X11_goesSteps_151 la_106 (fun I4 e4 => ?_)
              have d1 : (dst κ l P f T.1).1 = false := by rw [ed]; exact h128
              have e1n : one κ l P f T = ((dst κ l P f T.1).2, (T.2.1 + 1, T.2.2.1, T.2.2.2 + 1)) := by unfold one; rw [d1]; rfl
              have sf4 : SF I3 I4 := SF.dn e4 (Or.inr (Or.inr rfl))
              have rc4 : RM κ l P (one κ l P f T) I4 := by
                rw [e1n]
                refine hx2.1.mk ((sf2.tr sf3).tr sf4) (by show MR 126 κ (dst κ l P f T.1).2 I4; rw [ed]; exact mr3q.dn (by rw [e4]; exact wr_row (by decide))) (by rw [e4, wr_ne (Or.inr (by decide))]; exact d5) (by rw [e4, wr_ne (Or.inr (by decide))]; exact d6) (by rw [e4]; exact wr_same)
              have hx9 : RMI κ l P sub f0 t R I (i + 1) (f + 1) (one κ l P f T) I4 := ⟨rc4, hx2.2.1.tr ((sf2.tr sf3).tr sf4), ri.on1 (by omega) bkk, by omega, by omega, by omega, by rw [← hx2.2.2.2.2.2.2, show 150 - i = 150 - (i + 1) + 1 by omega, gsL_one ⟨by omega, by omega⟩ h34]⟩
              refine EV.l (lv' := [(0, _), (1, _), (2, _), (3, _)]) r_X11_goesSteps_154 rfl ?_
              rw [inc_4]
              rw [show 4 * f + 4 = 4 * (f + 1) from by omega]
              refine EV.g r_X11_goesSteps_157 ?_
              refine EV.sub ?_ rfl ?_ (ih2 (i + 1, f + 1, one κ l P f T, I4) ?_ ?_)
              · (try dsimp only) <;> (rfl)
              · (try dsimp only) <;> (rfl)
              · (try dsimp only) <;> (omega)
              · (try dsimp only) <;> (exact hx9)
            · -- 128 f
              refine EV.l (lv' := [(0, _), (1, _), (2, _), (3, _)]) r_X11_goesSteps_131 rfl ?_
              refine EV.o r_X11_goesSteps_132 rfl ?_
              refine EV.getV r_X11_goesSteps_133 la_106 (d6) ?_
              refine EV.o r_X11_goesSteps_136 (icN (1) (v := 1)) ?_
              refine EV.o r_X11_goesSteps_137 iaddN ?_
              refine EV.pIn r_X11_goesSteps_138 la_106 (fun I4 e4 => ?_)
              refine EV.g r_X11_goesSteps_141 ?_
              have d1 : (dst κ l P f T.1).1 = true := by rw [ed]; exact h128
              have e1n : one κ l P f T = ((dst κ l P f T.1).2, (T.2.1 + 1, T.2.2.1 + 1, T.2.2.2)) := by unfold one; rw [d1]; rfl
              have sf4 : SF I3 I4 := SF.dn e4 (Or.inr (Or.inl rfl))
              have rc4 : RM κ l P (one κ l P f T) I4 := by
                rw [e1n]
                refine hx2.1.mk ((sf2.tr sf3).tr sf4) (by show MR 126 κ (dst κ l P f T.1).2 I4; rw [ed]; exact mr3q.dn (by rw [e4]; exact wr_row (by decide))) (by rw [e4, wr_ne (Or.inr (by decide))]; exact d5) (by rw [e4]; exact wr_same) (by rw [e4, wr_ne (Or.inr (by decide))]; exact d7)
              have hx9 : RMI κ l P sub f0 t R I (i + 1) (f + 1) (one κ l P f T) I4 := ⟨rc4, hx2.2.1.tr ((sf2.tr sf3).tr sf4), ri.on1 (by omega) bkk, by omega, by omega, by omega, by rw [← hx2.2.2.2.2.2.2, show 150 - i = 150 - (i + 1) + 1 by omega, gsL_one ⟨by omega, by omega⟩ h34]⟩
              refine EV.l (lv' := [(0, _), (1, _), (2, _), (3, _)]) r_X11_goesSteps_154 rfl ?_
              rw [inc_4]
              rw [show 4 * f + 4 = 4 * (f + 1) from by omega]
              refine EV.g r_X11_goesSteps_157 ?_
              refine EV.sub ?_ rfl ?_ (ih2 (i + 1, f + 1, one κ l P f T, I4) ?_ ?_)
              · (try dsimp only) <;> (rfl)
              · (try dsimp only) <;> (rfl)
              · (try dsimp only) <;> (omega)
              · (try dsimp only) <;> (exact hx9)
          · -- case
            have bkk := blk_no bl (by omega) (show f < t by omega) h34
            refine EV.l (lv' := [(0, _), (1, _), (2, _), (3, _)]) r_X11_goesSteps_94 rfl ?_
            refine EV.l (lv' := [(0, _), (1, _), (2, _), (3, _)]) r_X11_goesSteps_95 rfl ?_
            refine EV.gR r_X11_goesSteps_96 la_106 ?_
            refine EV.l (lv' := [(0, _), (1, _), (2, _), (3, _)]) r_X11_goesSteps_99 rfl ?_
            refine EV.iaN r_X11_goesSteps_100 la_124 ((rm2.1 f (by omega)).1.trans (by rw [bk.1])) ?_
            refine EV.l (lv' := [(0, _), (1, _), (2, _), (3, _)]) r_X11_goesSteps_101 rfl ?_
            refine EV.gR r_X11_goesSteps_102 la_106 ?_
            refine EV.l (lv' := [(0, _), (1, _), (2, _), (3, _)]) r_X11_goesSteps_105 rfl ?_
            refine EV.o r_X11_goesSteps_106 (icN (1) (v := 1)) ?_
            refine EV.o r_X11_goesSteps_107 iaddN ?_
            refine EV.iaN r_X11_goesSteps_108 la_124 ((rm2.1 f (by omega)).2.1) ?_
            refine EV.l (lv' := [(0, _), (1, _), (2, _), (3, _)]) r_X11_goesSteps_109 rfl ?_
            refine EV.gR r_X11_goesSteps_110 la_106 ?_
            refine EV.l (lv' := [(0, _), (1, _), (2, _), (3, _)]) r_X11_goesSteps_113 rfl ?_
            refine EV.o r_X11_goesSteps_114 (icN (2) (v := 2)) ?_
            refine EV.o r_X11_goesSteps_115 iaddN ?_
            refine EV.iaN r_X11_goesSteps_116 la_124 ((rm2.1 f (by omega)).2.2.1.trans (by rw [if_neg h34])) ?_
            refine EV.l (lv' := [(0, _), (1, _), (2, _), (3, _)]) r_X11_goesSteps_117 rfl ?_
            refine EV.gR r_X11_goesSteps_118 la_106 ?_
            refine EV.l (lv' := [(0, _), (1, _), (2, _), (3, _)]) r_X11_goesSteps_121 rfl ?_
            refine EV.o r_X11_goesSteps_122 (icN (3) (v := 3)) ?_
            refine EV.o r_X11_goesSteps_123 iaddN ?_
            refine EV.iaN r_X11_goesSteps_124 la_124 ((rm2.1 f (by omega)).2.2.2) ?_
            refine EV.ci r_X11_goesSteps_125 (aV4 mt_232 la_106) (m_do2 cb rm2.2.1 rm2.2.2.1 lb rm2.2.2.2.1 ri.1 bk.2.1 bk.2.2.1 bk.2.2.2 (by omega)) (fun v3 I3 h3 => ?_)
            obtain ⟨e, mr3, f3⟩ := h3
            subst e
            have d62 : I3 106 = I2 106 := f3 106 (by decide) (by decide) (by decide)
            have sf3 : SF I2 I3 := ⟨fun j _ _ _ => congrFun d62 j, fun x _ p2 p3 p4 => f3 x p2 p3 p4⟩
            have d5 : I3 106 39 = nI (T.2.1 + 1) := by rw [d62, e2]; exact wr_same
            have d6 : I3 106 40 = nI T.2.2.1 := by rw [d62, e2, wr_ne (Or.inr (by decide))]; exact hx2.1.2.2.2.2.2.1
            have d7 : I3 106 41 = nI T.2.2.2 := by rw [d62, e2, wr_ne (Or.inr (by decide))]; exact hx2.1.2.2.2.2.2.2
            have ed := dst_2 (κ := κ) (l := l) (η := T.1) (P := P) (j := f) bk.1
            have mr3q := mr3
            refine EV.b0_eq r_X11_goesSteps_128 (fun h128 => ?_) (fun h128 => ?_)
            · -- 128 t
              refine EV.l (lv' := [(0, _), (1, _), (2, _), (3, _)]) r_X11_goesSteps_144 rfl ?_
              refine EV.o r_X11_goesSteps_145 rfl ?_
              refine EV.getV r_X11_goesSteps_146 la_106 (d7) ?_
              refine EV.o r_X11_goesSteps_149 (icN (1) (v := 1)) ?_
              refine EV.o r_X11_goesSteps_150 iaddN ?_
              refine EV.pIn r_X11_goesSteps_151 la_106 (fun I4 e4 => ?_)
              have d1 : (dst κ l P f T.1).1 = false := by rw [ed]; exact h128
              have e1n : one κ l P f T = ((dst κ l P f T.1).2, (T.2.1 + 1, T.2.2.1, T.2.2.2 + 1)) := by unfold one; rw [d1]; rfl
              have sf4 : SF I3 I4 := SF.dn e4 (Or.inr (Or.inr rfl))
              have rc4 : RM κ l P (one κ l P f T) I4 := by
                rw [e1n]
                refine hx2.1.mk ((sf2.tr sf3).tr sf4) (by show MR 126 κ (dst κ l P f T.1).2 I4; rw [ed]; exact mr3q.dn (by rw [e4]; exact wr_row (by decide))) (by rw [e4, wr_ne (Or.inr (by decide))]; exact d5) (by rw [e4, wr_ne (Or.inr (by decide))]; exact d6) (by rw [e4]; exact wr_same)
              have hx9 : RMI κ l P sub f0 t R I (i + 1) (f + 1) (one κ l P f T) I4 := ⟨rc4, hx2.2.1.tr ((sf2.tr sf3).tr sf4), ri.on1 (by omega) bkk, by omega, by omega, by omega, by rw [← hx2.2.2.2.2.2.2, show 150 - i = 150 - (i + 1) + 1 by omega, gsL_one ⟨by omega, by omega⟩ h34]⟩
              refine EV.l (lv' := [(0, _), (1, _), (2, _), (3, _)]) r_X11_goesSteps_154 rfl ?_
              rw [inc_4]
              rw [show 4 * f + 4 = 4 * (f + 1) from by omega]
              refine EV.g r_X11_goesSteps_157 ?_
              refine EV.sub ?_ rfl ?_ (ih2 (i + 1, f + 1, one κ l P f T, I4) ?_ ?_)
              · (try dsimp only) <;> (rfl)
              · (try dsimp only) <;> (rfl)
              · (try dsimp only) <;> (omega)
              · (try dsimp only) <;> (exact hx9)
            · -- 128 f
              refine EV.l (lv' := [(0, _), (1, _), (2, _), (3, _)]) r_X11_goesSteps_131 rfl ?_
              refine EV.o r_X11_goesSteps_132 rfl ?_
              refine EV.getV r_X11_goesSteps_133 la_106 (d6) ?_
              refine EV.o r_X11_goesSteps_136 (icN (1) (v := 1)) ?_
              refine EV.o r_X11_goesSteps_137 iaddN ?_
              refine EV.pIn r_X11_goesSteps_138 la_106 (fun I4 e4 => ?_)
              refine EV.g r_X11_goesSteps_141 ?_
              have d1 : (dst κ l P f T.1).1 = true := by rw [ed]; exact h128
              have e1n : one κ l P f T = ((dst κ l P f T.1).2, (T.2.1 + 1, T.2.2.1 + 1, T.2.2.2)) := by unfold one; rw [d1]; rfl
              have sf4 : SF I3 I4 := SF.dn e4 (Or.inr (Or.inl rfl))
              have rc4 : RM κ l P (one κ l P f T) I4 := by
                rw [e1n]
                refine hx2.1.mk ((sf2.tr sf3).tr sf4) (by show MR 126 κ (dst κ l P f T.1).2 I4; rw [ed]; exact mr3q.dn (by rw [e4]; exact wr_row (by decide))) (by rw [e4, wr_ne (Or.inr (by decide))]; exact d5) (by rw [e4]; exact wr_same) (by rw [e4, wr_ne (Or.inr (by decide))]; exact d7)
              have hx9 : RMI κ l P sub f0 t R I (i + 1) (f + 1) (one κ l P f T) I4 := ⟨rc4, hx2.2.1.tr ((sf2.tr sf3).tr sf4), ri.on1 (by omega) bkk, by omega, by omega, by omega, by rw [← hx2.2.2.2.2.2.2, show 150 - i = 150 - (i + 1) + 1 by omega, gsL_one ⟨by omega, by omega⟩ h34]⟩
              refine EV.l (lv' := [(0, _), (1, _), (2, _), (3, _)]) r_X11_goesSteps_154 rfl ?_
              rw [inc_4]
              rw [show 4 * f + 4 = 4 * (f + 1) from by omega]
              refine EV.g r_X11_goesSteps_157 ?_
              refine EV.sub ?_ rfl ?_ (ih2 (i + 1, f + 1, one κ l P f T, I4) ?_ ?_)
              · (try dsimp only) <;> (rfl)
              · (try dsimp only) <;> (rfl)
              · (try dsimp only) <;> (omega)
              · (try dsimp only) <;> (exact hx9)
          · -- case
            have bkk := blk_no bl (by omega) (show f < t by omega) h34
            refine EV.l (lv' := [(0, _), (1, _), (2, _), (3, _)]) r_X11_goesSteps_94 rfl ?_
            refine EV.l (lv' := [(0, _), (1, _), (2, _), (3, _)]) r_X11_goesSteps_95 rfl ?_
            refine EV.gR r_X11_goesSteps_96 la_106 ?_
            refine EV.l (lv' := [(0, _), (1, _), (2, _), (3, _)]) r_X11_goesSteps_99 rfl ?_
            refine EV.iaN r_X11_goesSteps_100 la_124 ((rm2.1 f (by omega)).1.trans (by rw [bk.1])) ?_
            refine EV.l (lv' := [(0, _), (1, _), (2, _), (3, _)]) r_X11_goesSteps_101 rfl ?_
            refine EV.gR r_X11_goesSteps_102 la_106 ?_
            refine EV.l (lv' := [(0, _), (1, _), (2, _), (3, _)]) r_X11_goesSteps_105 rfl ?_
            refine EV.o r_X11_goesSteps_106 (icN (1) (v := 1)) ?_
            refine EV.o r_X11_goesSteps_107 iaddN ?_
            refine EV.iaN r_X11_goesSteps_108 la_124 ((rm2.1 f (by omega)).2.1) ?_
            refine EV.l (lv' := [(0, _), (1, _), (2, _), (3, _)]) r_X11_goesSteps_109 rfl ?_
            refine EV.gR r_X11_goesSteps_110 la_106 ?_
            refine EV.l (lv' := [(0, _), (1, _), (2, _), (3, _)]) r_X11_goesSteps_113 rfl ?_
            refine EV.o r_X11_goesSteps_114 (icN (2) (v := 2)) ?_
            refine EV.o r_X11_goesSteps_115 iaddN ?_
            refine EV.iaN r_X11_goesSteps_116 la_124 ((rm2.1 f (by omega)).2.2.1.trans (by rw [if_neg h34])) ?_
            refine EV.l (lv' := [(0, _), (1, _), (2, _), (3, _)]) r_X11_goesSteps_117 rfl ?_
            refine EV.gR r_X11_goesSteps_118 la_106 ?_
            refine EV.l (lv' := [(0, _), (1, _), (2, _), (3, _)]) r_X11_goesSteps_121 rfl ?_
            refine EV.o r_X11_goesSteps_122 (icN (3) (v := 3)) ?_
            refine EV.o r_X11_goesSteps_123 iaddN ?_
            refine EV.iaN r_X11_goesSteps_124 la_124 ((rm2.1 f (by omega)).2.2.2) ?_
            refine EV.ci r_X11_goesSteps_125 (aV4 mt_232 la_106) (m_do3 cb rm2.2.1 rm2.2.2.1 lb rm2.2.2.2.1 ri.1 bk.2 (by omega)) (fun v3 I3 h3 => ?_)
            obtain ⟨e, mr3, f3⟩ := h3
            subst e
            have d62 : I3 106 = I2 106 := f3 106 (by decide) (by decide) (by decide)
            have sf3 : SF I2 I3 := ⟨fun j _ _ _ => congrFun d62 j, fun x _ p2 p3 p4 => f3 x p2 p3 p4⟩
            have d5 : I3 106 39 = nI (T.2.1 + 1) := by rw [d62, e2]; exact wr_same
            have d6 : I3 106 40 = nI T.2.2.1 := by rw [d62, e2, wr_ne (Or.inr (by decide))]; exact hx2.1.2.2.2.2.2.1
            have d7 : I3 106 41 = nI T.2.2.2 := by rw [d62, e2, wr_ne (Or.inr (by decide))]; exact hx2.1.2.2.2.2.2.2
            have ed := dst_3 (κ := κ) (l := l) (η := T.1) (P := P) (j := f) bk.1
            have mr3q : MR 126 κ (if (qNote κ T.1 (P.a f)) = true then ms κ l (hNote T.1 (P.a f)) κ.nb else T.1) I3 := by
              cases hqq : (qNote κ T.1 (P.a f))
              · rw [if_neg (by decide)]; rw [hqq, if_neg (by decide)] at mr3; exact mr3
              · rw [if_pos rfl]; rw [hqq, if_pos rfl] at mr3; exact mr3.ms
            refine EV.b0_eq r_X11_goesSteps_128 (fun h128 => ?_) (fun h128 => ?_)
            · -- 128 t
              refine EV.l (lv' := [(0, _), (1, _), (2, _), (3, _)]) r_X11_goesSteps_144 rfl ?_
              refine EV.o r_X11_goesSteps_145 rfl ?_
              refine EV.getV r_X11_goesSteps_146 la_106 (d7) ?_
              refine EV.o r_X11_goesSteps_149 (icN (1) (v := 1)) ?_
              refine EV.o r_X11_goesSteps_150 iaddN ?_
              refine EV.pIn r_X11_goesSteps_151 la_106 (fun I4 e4 => ?_)
              have d1 : (dst κ l P f T.1).1 = false := by rw [ed]; exact h128
              have e1n : one κ l P f T = ((dst κ l P f T.1).2, (T.2.1 + 1, T.2.2.1, T.2.2.2 + 1)) := by unfold one; rw [d1]; rfl
              have sf4 : SF I3 I4 := SF.dn e4 (Or.inr (Or.inr rfl))
              have rc4 : RM κ l P (one κ l P f T) I4 := by
                rw [e1n]
                refine hx2.1.mk ((sf2.tr sf3).tr sf4) (by show MR 126 κ (dst κ l P f T.1).2 I4; rw [ed]; exact mr3q.dn (by rw [e4]; exact wr_row (by decide))) (by rw [e4, wr_ne (Or.inr (by decide))]; exact d5) (by rw [e4, wr_ne (Or.inr (by decide))]; exact d6) (by rw [e4]; exact wr_same)
              have hx9 : RMI κ l P sub f0 t R I (i + 1) (f + 1) (one κ l P f T) I4 := ⟨rc4, hx2.2.1.tr ((sf2.tr sf3).tr sf4), ri.on1 (by omega) bkk, by omega, by omega, by omega, by rw [← hx2.2.2.2.2.2.2, show 150 - i = 150 - (i + 1) + 1 by omega, gsL_one ⟨by omega, by omega⟩ h34]⟩
              refine EV.l (lv' := [(0, _), (1, _), (2, _), (3, _)]) r_X11_goesSteps_154 rfl ?_
              rw [inc_4]
              rw [show 4 * f + 4 = 4 * (f + 1) from by omega]
              refine EV.g r_X11_goesSteps_157 ?_
              refine EV.sub ?_ rfl ?_ (ih2 (i + 1, f + 1, one κ l P f T, I4) ?_ ?_)
              · (try dsimp only) <;> (rfl)
              · (try dsimp only) <;> (rfl)
              · (try dsimp only) <;> (omega)
              · (try dsimp only) <;> (exact hx9)
            · -- 128 f
              refine EV.l (lv' := [(0, _), (1, _), (2, _), (3, _)]) r_X11_goesSteps_131 rfl ?_
              refine EV.o r_X11_goesSteps_132 rfl ?_
              refine EV.getV r_X11_goesSteps_133 la_106 (d6) ?_
              refine EV.o r_X11_goesSteps_136 (icN (1) (v := 1)) ?_
              refine EV.o r_X11_goesSteps_137 iaddN ?_
              refine EV.pIn r_X11_goesSteps_138 la_106 (fun I4 e4 => ?_)
              refine EV.g r_X11_goesSteps_141 ?_
              have d1 : (dst κ l P f T.1).1 = true := by rw [ed]; exact h128
              have e1n : one κ l P f T = ((dst κ l P f T.1).2, (T.2.1 + 1, T.2.2.1 + 1, T.2.2.2)) := by unfold one; rw [d1]; rfl
              have sf4 : SF I3 I4 := SF.dn e4 (Or.inr (Or.inl rfl))
              have rc4 : RM κ l P (one κ l P f T) I4 := by
                rw [e1n]
                refine hx2.1.mk ((sf2.tr sf3).tr sf4) (by show MR 126 κ (dst κ l P f T.1).2 I4; rw [ed]; exact mr3q.dn (by rw [e4]; exact wr_row (by decide))) (by rw [e4, wr_ne (Or.inr (by decide))]; exact d5) (by rw [e4]; exact wr_same) (by rw [e4, wr_ne (Or.inr (by decide))]; exact d7)
              have hx9 : RMI κ l P sub f0 t R I (i + 1) (f + 1) (one κ l P f T) I4 := ⟨rc4, hx2.2.1.tr ((sf2.tr sf3).tr sf4), ri.on1 (by omega) bkk, by omega, by omega, by omega, by rw [← hx2.2.2.2.2.2.2, show 150 - i = 150 - (i + 1) + 1 by omega, gsL_one ⟨by omega, by omega⟩ h34]⟩
              refine EV.l (lv' := [(0, _), (1, _), (2, _), (3, _)]) r_X11_goesSteps_154 rfl ?_
              rw [inc_4]
              rw [show 4 * f + 4 = 4 * (f + 1) from by omega]
              refine EV.g r_X11_goesSteps_157 ?_
              refine EV.sub ?_ rfl ?_ (ih2 (i + 1, f + 1, one κ l P f T, I4) ?_ ?_)
              · (try dsimp only) <;> (rfl)
              · (try dsimp only) <;> (rfl)
              · (try dsimp only) <;> (omega)
              · (try dsimp only) <;> (exact hx9)
          · -- case
            have bkk := blk_no bl (by omega) (show f < t by omega) h34
            refine EV.l (lv' := [(0, _), (1, _), (2, _), (3, _)]) r_X11_goesSteps_94 rfl ?_
            refine EV.l (lv' := [(0, _), (1, _), (2, _), (3, _)]) r_X11_goesSteps_95 rfl ?_
            refine EV.gR r_X11_goesSteps_96 la_106 ?_
            refine EV.l (lv' := [(0, _), (1, _), (2, _), (3, _)]) r_X11_goesSteps_99 rfl ?_
            refine EV.iaN r_X11_goesSteps_100 la_124 ((rm2.1 f (by omega)).1.trans (by rw [bk])) ?_
            refine EV.l (lv' := [(0, _), (1, _), (2, _), (3, _)]) r_X11_goesSteps_101 rfl ?_
            refine EV.gR r_X11_goesSteps_102 la_106 ?_
            refine EV.l (lv' := [(0, _), (1, _), (2, _), (3, _)]) r_X11_goesSteps_105 rfl ?_
            refine EV.o r_X11_goesSteps_106 (icN (1) (v := 1)) ?_
            refine EV.o r_X11_goesSteps_107 iaddN ?_
            refine EV.iaN r_X11_goesSteps_108 la_124 ((rm2.1 f (by omega)).2.1) ?_
            refine EV.l (lv' := [(0, _), (1, _), (2, _), (3, _)]) r_X11_goesSteps_109 rfl ?_
            refine EV.gR r_X11_goesSteps_110 la_106 ?_
            refine EV.l (lv' := [(0, _), (1, _), (2, _), (3, _)]) r_X11_goesSteps_113 rfl ?_
            refine EV.o r_X11_goesSteps_114 (icN (2) (v := 2)) ?_
            refine EV.o r_X11_goesSteps_115 iaddN ?_
            refine EV.iaN r_X11_goesSteps_116 la_124 ((rm2.1 f (by omega)).2.2.1.trans (by rw [if_neg h34])) ?_
            refine EV.l (lv' := [(0, _), (1, _), (2, _), (3, _)]) r_X11_goesSteps_117 rfl ?_
            refine EV.gR r_X11_goesSteps_118 la_106 ?_
            refine EV.l (lv' := [(0, _), (1, _), (2, _), (3, _)]) r_X11_goesSteps_121 rfl ?_
            refine EV.o r_X11_goesSteps_122 (icN (3) (v := 3)) ?_
            refine EV.o r_X11_goesSteps_123 iaddN ?_
            refine EV.iaN r_X11_goesSteps_124 la_124 ((rm2.1 f (by omega)).2.2.2) ?_
            refine EV.ci r_X11_goesSteps_125 (aV4 mt_232 la_106) (m_do4 cb rm2.2.1 rm2.2.2.1 lb rm2.2.2.2.1 ri.1  (by omega)) (fun v3 I3 h3 => ?_)
            obtain ⟨e, mr3, f3⟩ := h3
            subst e
            have d62 : I3 106 = I2 106 := f3 106 (by decide) (by decide) (by decide)
            have sf3 : SF I2 I3 := ⟨fun j _ _ _ => congrFun d62 j, fun x _ p2 p3 p4 => f3 x p2 p3 p4⟩
            have d5 : I3 106 39 = nI (T.2.1 + 1) := by rw [d62, e2]; exact wr_same
            have d6 : I3 106 40 = nI T.2.2.1 := by rw [d62, e2, wr_ne (Or.inr (by decide))]; exact hx2.1.2.2.2.2.2.1
            have d7 : I3 106 41 = nI T.2.2.2 := by rw [d62, e2, wr_ne (Or.inr (by decide))]; exact hx2.1.2.2.2.2.2.2
            have ed := dst_4 (κ := κ) (l := l) (η := T.1) (P := P) (j := f) bk
            have mr3q := mr3
            refine EV.b0_eq r_X11_goesSteps_128 (fun h128 => ?_) (fun h128 => ?_)
            · -- 128 t
              refine EV.l (lv' := [(0, _), (1, _), (2, _), (3, _)]) r_X11_goesSteps_144 rfl ?_
              refine EV.o r_X11_goesSteps_145 rfl ?_
              refine EV.getV r_X11_goesSteps_146 la_106 (d7) ?_
              refine EV.o r_X11_goesSteps_149 (icN (1) (v := 1)) ?_
              refine EV.o r_X11_goesSteps_150 iaddN ?_
              refine EV.pIn r_X11_goesSteps_151 la_106 (fun I4 e4 => ?_)
              have d1 : (dst κ l P f T.1).1 = false := by rw [ed]; exact h128
              have e1n : one κ l P f T = ((dst κ l P f T.1).2, (T.2.1 + 1, T.2.2.1, T.2.2.2 + 1)) := by unfold one; rw [d1]; rfl
              have sf4 : SF I3 I4 := SF.dn e4 (Or.inr (Or.inr rfl))
              have rc4 : RM κ l P (one κ l P f T) I4 := by
                rw [e1n]
                refine hx2.1.mk ((sf2.tr sf3).tr sf4) (by show MR 126 κ (dst κ l P f T.1).2 I4; rw [ed]; exact mr3q.dn (by rw [e4]; exact wr_row (by decide))) (by rw [e4, wr_ne (Or.inr (by decide))]; exact d5) (by rw [e4, wr_ne (Or.inr (by decide))]; exact d6) (by rw [e4]; exact wr_same)
              have hx9 : RMI κ l P sub f0 t R I (i + 1) (f + 1) (one κ l P f T) I4 := ⟨rc4, hx2.2.1.tr ((sf2.tr sf3).tr sf4), ri.on1 (by omega) bkk, by omega, by omega, by omega, by rw [← hx2.2.2.2.2.2.2, show 150 - i = 150 - (i + 1) + 1 by omega, gsL_one ⟨by omega, by omega⟩ h34]⟩
              refine EV.l (lv' := [(0, _), (1, _), (2, _), (3, _)]) r_X11_goesSteps_154 rfl ?_
              rw [inc_4]
              rw [show 4 * f + 4 = 4 * (f + 1) from by omega]
              refine EV.g r_X11_goesSteps_157 ?_
              refine EV.sub ?_ rfl ?_ (ih2 (i + 1, f + 1, one κ l P f T, I4) ?_ ?_)
              · (try dsimp only) <;> (rfl)
              · (try dsimp only) <;> (rfl)
              · (try dsimp only) <;> (omega)
              · (try dsimp only) <;> (exact hx9)
            · -- 128 f
              refine EV.l (lv' := [(0, _), (1, _), (2, _), (3, _)]) r_X11_goesSteps_131 rfl ?_
              refine EV.o r_X11_goesSteps_132 rfl ?_
              refine EV.getV r_X11_goesSteps_133 la_106 (d6) ?_
              refine EV.o r_X11_goesSteps_136 (icN (1) (v := 1)) ?_
              refine EV.o r_X11_goesSteps_137 iaddN ?_
              refine EV.pIn r_X11_goesSteps_138 la_106 (fun I4 e4 => ?_)
              refine EV.g r_X11_goesSteps_141 ?_
              have d1 : (dst κ l P f T.1).1 = true := by rw [ed]; exact h128
              have e1n : one κ l P f T = ((dst κ l P f T.1).2, (T.2.1 + 1, T.2.2.1 + 1, T.2.2.2)) := by unfold one; rw [d1]; rfl
              have sf4 : SF I3 I4 := SF.dn e4 (Or.inr (Or.inl rfl))
              have rc4 : RM κ l P (one κ l P f T) I4 := by
                rw [e1n]
                refine hx2.1.mk ((sf2.tr sf3).tr sf4) (by show MR 126 κ (dst κ l P f T.1).2 I4; rw [ed]; exact mr3q.dn (by rw [e4]; exact wr_row (by decide))) (by rw [e4, wr_ne (Or.inr (by decide))]; exact d5) (by rw [e4]; exact wr_same) (by rw [e4, wr_ne (Or.inr (by decide))]; exact d7)
              have hx9 : RMI κ l P sub f0 t R I (i + 1) (f + 1) (one κ l P f T) I4 := ⟨rc4, hx2.2.1.tr ((sf2.tr sf3).tr sf4), ri.on1 (by omega) bkk, by omega, by omega, by omega, by rw [← hx2.2.2.2.2.2.2, show 150 - i = 150 - (i + 1) + 1 by omega, gsL_one ⟨by omega, by omega⟩ h34]⟩
              refine EV.l (lv' := [(0, _), (1, _), (2, _), (3, _)]) r_X11_goesSteps_154 rfl ?_
              rw [inc_4]
              rw [show 4 * f + 4 = 4 * (f + 1) from by omega]
              refine EV.g r_X11_goesSteps_157 ?_
              refine EV.sub ?_ rfl ?_ (ih2 (i + 1, f + 1, one κ l P f T, I4) ?_ ?_)
              · (try dsimp only) <;> (rfl)
              · (try dsimp only) <;> (rfl)
              · (try dsimp only) <;> (omega)
              · (try dsimp only) <;> (exact hx9)
        · -- 34 f
          obtain ⟨⟨a40, b1, b2t⟩, rp⟩ := rep f (by omega) (by omega) h34
          refine EV.l (lv' := [(0, _), (1, _), (2, _), (3, _)]) r_X11_goesSteps_37 rfl ?_
          refine EV.gR r_X11_goesSteps_38 la_106 ?_
          refine EV.l (lv' := [(0, _), (1, _), (2, _), (3, _)]) r_X11_goesSteps_41 rfl ?_
          refine EV.o r_X11_goesSteps_42 (icN (2) (v := 2)) ?_
          refine EV.o r_X11_goesSteps_43 iaddN ?_
          refine EV.iaN r_X11_goesSteps_44 la_124 ((rm2.1 f (by omega)).2.2.1.trans (by rw [if_pos h34])) ?_
          refine EV.l (lv' := [(0, _), (1, _), (2, _), (3, _), (4, _)]) r_X11_goesSteps_45 rfl ?_
          refine EV.o r_X11_goesSteps_47 (icN (0) (v := 0)) ?_
          refine EV.l (lv' := [(0, _), (1, _), (2, _), (3, _), (4, _), (5, _)]) r_X11_goesSteps_48 rfl ?_
          have L50 : ∀ y_ : Nat × RSt × (Nat → Nat → Int32), (fun z => RQI κ l P (sub (f + 1) (P.b f)) (P.a f) (T.1, (T.2.1 + 1, T.2.2)) I2 z.1 z.2.1 z.2.2 → EV none M_X11_goesSteps d' 50 [(0, .ref 106), (1, .int (nI (4 * f0))), (2, .int (nI (4 * t))), (3, .int (nI (4 * f))), (4, .int (nI (4 * P.b f))), (5, .int (nI z.1))] [] (hp z.2.2 J) (QU J (fun I' => RM κ l P (gsL sub κ l P 150 f0 t R) I' ∧ SF I I' ∧ RI2 κ l (gsL sub κ l P 150 f0 t R)))) y_ := by
            refine ev_loop (fun z => P.a f - z.1) ?_
            intro ⟨i5, T5, M5⟩ ih50 hx50
            try dsimp only at ih50
            try dsimp only at hx50
            try dsimp only
            have ri5 := hx50.2.2.1
            have b25 := ri5.2.1
            have ia5 := hx50.2.2.2.1
            refine EV.l (lv' := [(0, _), (1, _), (2, _), (3, _), (4, _), (5, _)]) r_X11_goesSteps_50 rfl ?_
            refine EV.l (lv' := [(0, _), (1, _), (2, _), (3, _), (4, _), (5, _)]) r_X11_goesSteps_52 rfl ?_
            refine EV.gR r_X11_goesSteps_53 la_106 ?_
            refine EV.l (lv' := [(0, _), (1, _), (2, _), (3, _), (4, _), (5, _)]) r_X11_goesSteps_56 rfl ?_
            refine EV.o r_X11_goesSteps_57 (icN (1) (v := 1)) ?_
            refine EV.o r_X11_goesSteps_58 iaddN ?_
            refine EV.iaN r_X11_goesSteps_59 la_124 ((hx50.1.1 f (by omega)).2.1) ?_
            refine EV.n2_ge r_X11_goesSteps_60 (fun h60 => ?_) (fun h60 => ?_)
            · -- 60 t
              have fz2 := hx50.fin (hf _ _) (Or.inl (by omega))
              refine EV.l (lv' := [(0, _), (1, _), (2, _), (3, _), (4, _), (5, _)]) r_X11_goesSteps_88 rfl ?_
              refine EV.l (lv' := [(0, _), (1, _), (2, _), (3, _), (4, _), (5, _)]) r_X11_goesSteps_90 rfl ?_
              have hx9 : RMI κ l P sub f0 t R I (i + 1) (P.b f) (itn (sub (f + 1) (P.b f)) (P.a f) (T.1, (T.2.1 + 1, T.2.2))) M5 := ⟨fz2.1, hx2.2.1.tr (sf2.tr fz2.2.1), fz2.2.2, by omega, by omega, by omega, by rw [← hx2.2.2.2.2.2.2, show 150 - i = 150 - (i + 1) + 1 by omega, gsL_agn ⟨by omega, by omega⟩ h34]⟩
              refine EV.g r_X11_goesSteps_91 ?_
              refine EV.fg (lv' := [(0, _), (1, _), (2, _), (3, _)]) r_X11_goesSteps_2 rfl rfl rfl ?_
              refine EV.sub ?_ rfl ?_ (ih2 (i + 1, P.b f, itn (sub (f + 1) (P.b f)) (P.a f) (T.1, (T.2.1 + 1, T.2.2)), M5) ?_ ?_)
              · (try dsimp only) <;> (rfl)
              · (try dsimp only) <;> (rfl)
              · (try dsimp only) <;> (omega)
              · (try dsimp only) <;> (exact hx9)
            · -- 60 f
              refine EV.l (lv' := [(0, _), (1, _), (2, _), (3, _), (4, _), (5, _)]) r_X11_goesSteps_63 rfl ?_
              refine EV.getV r_X11_goesSteps_64 la_106 (hx50.1.2.2.2.2.1) ?_
              refine EV.o r_X11_goesSteps_67 (spN (200) 200) ?_
              refine EV.n2_ge r_X11_goesSteps_70 (fun h70 => ?_) (fun h70 => ?_)
              · -- 70 t
                have fz2 := hx50.fin (hf _ _) (Or.inr (by omega))
                refine EV.l (lv' := [(0, _), (1, _), (2, _), (3, _), (4, _), (5, _)]) r_X11_goesSteps_88 rfl ?_
                refine EV.l (lv' := [(0, _), (1, _), (2, _), (3, _), (4, _), (5, _)]) r_X11_goesSteps_90 rfl ?_
                have hx9 : RMI κ l P sub f0 t R I (i + 1) (P.b f) (itn (sub (f + 1) (P.b f)) (P.a f) (T.1, (T.2.1 + 1, T.2.2))) M5 := ⟨fz2.1, hx2.2.1.tr (sf2.tr fz2.2.1), fz2.2.2, by omega, by omega, by omega, by rw [← hx2.2.2.2.2.2.2, show 150 - i = 150 - (i + 1) + 1 by omega, gsL_agn ⟨by omega, by omega⟩ h34]⟩
                refine EV.g r_X11_goesSteps_91 ?_
                refine EV.fg (lv' := [(0, _), (1, _), (2, _), (3, _)]) r_X11_goesSteps_2 rfl rfl rfl ?_
                refine EV.sub ?_ rfl ?_ (ih2 (i + 1, P.b f, itn (sub (f + 1) (P.b f)) (P.a f) (T.1, (T.2.1 + 1, T.2.2)), M5) ?_ ?_)
                · (try dsimp only) <;> (rfl)
                · (try dsimp only) <;> (rfl)
                · (try dsimp only) <;> (omega)
                · (try dsimp only) <;> (exact hx9)
              · -- 70 f
                refine EV.l (lv' := [(0, _), (1, _), (2, _), (3, _), (4, _), (5, _)]) r_X11_goesSteps_73 rfl ?_
                refine EV.l (lv' := [(0, _), (1, _), (2, _), (3, _), (4, _), (5, _)]) r_X11_goesSteps_74 rfl ?_
                refine EV.o r_X11_goesSteps_75 (icN (4) (v := 4)) ?_
                refine EV.o r_X11_goesSteps_76 iaddN ?_
                rw [show 4 * f + 4 = 4 * (f + 1) from by omega]
                refine EV.l (lv' := [(0, _), (1, _), (2, _), (3, _), (4, _), (5, _)]) r_X11_goesSteps_77 rfl ?_
                refine EV.cu r_X11_goesSteps_79 (aV2 mt_211 la_106) (rp d' M5 T5 (by omega) hx50.2.2.1 hx50.1) (fun I6 h6 => ?_)
                have hx59 := hx50.next (by omega) h6.1 h6.2.1 h6.2.2
                refine EV.l (lv' := [(0, _), (1, _), (2, _), (3, _), (4, _), (5, _)]) r_X11_goesSteps_82 rfl ?_
                rw [inc_nI]
                refine EV.g r_X11_goesSteps_85 ?_
                refine EV.sub ?_ rfl ?_ (ih50 (i5 + 1, sub (f + 1) (P.b f) T5, I6) ?_ ?_)
                · (try dsimp only) <;> (rfl)
                · (try dsimp only) <;> (rfl)
                · (try dsimp only) <;> (omega)
                · (try dsimp only) <;> (exact hx59)
          have h0 := L50 (0, (T.1, (T.2.1 + 1, T.2.2)), I2)
          try dsimp only at h0
          refine EV.sub ?_ rfl ?_ (h0 ?_)
          · (try dsimp only) <;> (rfl)
          · (try dsimp only) <;> (rfl)
          · (try dsimp only) <;> (exact ⟨rm2, SF.rf, ri.up (by omega), Nat.zero_le _, rfl⟩)
  have h0 := L2 (0, f0, R, I)
  try dsimp only at h0
  refine EV.sub ?_ rfl ?_ (h0 ?_)
  · (try dsimp only) <;> (rfl)
  · (try dsimp only) <;> (rfl)
  · (try dsimp only) <;> (exact ⟨rc0, SF.rf, ri0, Nat.le_refl _, Nat.zero_le _, hf0, rfl⟩)
theorem m_gs {κ : CT} {l : LW} {P : PL} (cb : CB κ) (lb : LB l) (hm : 4 * P.m ≤ 150) : ∀ o, CMr (o + 13) κ l P o (gs κ l P o)
  | 0 => fun d I J f t R hd ht bl hft ri rc => m_run (sub := fun _ _ R => R) (D := 12) cb lb hm ht hft bl (by decide) (fun _ _ _ _ => rfl) (fun j h1 h2 h5 => absurd h5 (bas_5 (bl j h1 h2))) ri rc (by omega)
  | o + 1 => fun d I J f t R hd ht bl hft ri rc => by
    have ih := m_gs (κ := κ) (l := l) (P := P) cb lb hm o
    exact m_run (sub := gs κ l P o) (D := o + 13) cb lb hm ht hft bl (by omega) (fun f t R z => gs_full z) (fun j h1 h2 h5 => by
      have b := blk_at bl h1 h2 h5
      exact ⟨⟨b.1, b.2.1, b.2.2.1⟩, fun d2 I2 R2 h3 ri2 rm2 => ih d2 I2 J (j + 1) (P.b j) R2 h3 (by omega) b.2.2.2 b.2.1 ri2 rm2⟩) ri rc (by omega)
