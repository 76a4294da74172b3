/-! (goes on) -/
theorem c_run {d : Nat} {I : Nat → Nat → Int32} {J : Nat → Nat → Int64} {κ : CT} {l : LW} {P : PL} {f0 t k o D : Nat} {sub : Nat → Nat → RSt → RSt} {R : RSt} (cb : CB κ) (lb : LB l) (hm : P.m < 100) (htm : t ≤ P.m) (hf0 : f0 < 1000) (hk : k ≤ 6) (bl : blk κ P o f0 t) (hD : 8 ≤ D) (rep : ∀ (d : Nat) (I : Nat → Nat → Int32) (j : Nat) (R : RSt), D ≤ d → f0 ≤ j → j < t → P.k j = 5 → RI2 κ l R → RC κ l P R I → RU d 73 [.ref 62, .ref 71, .int (nI j), .int (nI (k + 1))] I J (fun I' => RC κ l P (itn (sub (j + 1) (P.b j)) (P.a j) R) I' ∧ RF I I' ∧ RI2 κ l (itn (sub (j + 1) (P.b j)) (P.a j) R)) ∧ j < P.b j ∧ P.b j ≤ t) (ri0 : RI2 κ l R) (rc0 : RC κ l P R I)  (hd : D + 1 ≤ d) : RU d 72 [.ref 62, .ref 71, .int (nI f0), .int (nI t), .int (nI k)] I J (fun I' => RC κ l P (gsL sub κ l P 150 f0 t R) I' ∧ RF I I' ∧ RI2 κ l (gsL sub κ l P 150 f0 t R)) := by
  refine RU.in (d0 := D) hd mt_72 (Nat.le_of_ble_eq_true rfl) (fun d' hd' => ?_)
  show EV none M_X5_run d' 0 [(0, .ref 62), (1, .ref 71), (2, .int (nI f0)), (3, .int (nI t)), (4, .int (nI k))] [] (hp I J) _
  refine EV.l (lv' := [(0, _), (1, _), (2, _), (3, _), (4, _)]) r_X5_run_0 rfl ?_
  refine EV.l (lv' := [(0, _), (1, _), (2, _), (3, _), (4, _), (5, _)]) r_X5_run_1 rfl ?_
  refine EV.o r_X5_run_3 (icN (0) (v := 0)) ?_
  refine EV.l (lv' := [(0, _), (1, _), (2, _), (3, _), (4, _), (5, _), (6, _)]) r_X5_run_4 rfl ?_
  have L6 : ∀ y_ : Nat × Nat × RSt × (Nat → Nat → Int32), (fun y => RNI κ l P sub f0 t R I y.1 y.2.1 y.2.2.1 y.2.2.2 ∧ y.2.1 < 1000 → EV none M_X5_run d' 6 [(0, .ref 62), (1, .ref 71), (2, .int (nI f0)), (3, .int (nI t)), (4, .int (nI k)), (5, .int (nI y.2.1)), (6, .int (nI y.1))] [] (hp y.2.2.2 J) (QU J (fun I' => RC κ l P (gsL sub κ l P 150 f0 t R) I' ∧ RF I I' ∧ RI2 κ l (gsL sub κ l P 150 f0 t R)))) y_ := by
    refine ev_loop (fun y => 150 - y.1) ?_
    intro ⟨i, f, T, M⟩ ih6 hx6
    try dsimp only at ih6
    try dsimp only at hx6
    try dsimp only
    obtain ⟨hx6, f1000⟩ := hx6
    have i150 := hx6.2.2.2.2.1
    have ri := hx6.2.2.1
    have b2 := ri.2.1
    have b3 := ri.2.2
    have ff_ := hx6.2.2.2.1
    refine EV.l (lv' := [(0, _), (1, _), (2, _), (3, _), (4, _), (5, _), (6, _)]) r_X5_run_6 rfl ?_
    refine EV.o r_X5_run_8 (spN (150) 150) ?_
    refine EV.n2_ge r_X5_run_11 (fun h11 => ?_) (fun h11 => ?_)
    · -- 11 t
      have fz := hx6.fin (Or.inl (by omega))
      exact EV.ru r_X5_run_160 (fz)
    · -- 11 f
      refine EV.l (lv' := [(0, _), (1, _), (2, _), (3, _), (4, _), (5, _), (6, _)]) r_X5_run_14 rfl ?_
      refine EV.l (lv' := [(0, _), (1, _), (2, _), (3, _), (4, _), (5, _), (6, _)]) r_X5_run_16 rfl ?_
      refine EV.n2_ge r_X5_run_17 (fun h17 => ?_) (fun h17 => ?_)
      · -- 17 t
        have fz := hx6.fin (Or.inr (by omega))
        exact EV.ru r_X5_run_160 (fz)
      · -- 17 f
        refine EV.l (lv' := [(0, _), (1, _), (2, _), (3, _), (4, _), (5, _), (6, _)]) r_X5_run_20 rfl ?_
        refine EV.getV r_X5_run_21 la_62 (hx6.1.2.2.2.2.1) ?_
        refine EV.o r_X5_run_24 (spN (200) 200) ?_
        refine EV.n2_ge r_X5_run_27 (fun h27 => ?_) (fun h27 => ?_)
        · -- 27 t
          have fz := hx6.fin (Or.inr (by omega))
          exact EV.ru r_X5_run_160 (fz)
        · -- 27 f
          refine EV.l (lv' := [(0, _), (1, _), (2, _), (3, _), (4, _), (5, _), (6, _)]) r_X5_run_30 rfl ?_
          refine EV.o r_X5_run_32 (bpN (6) 6) ?_
          refine EV.n2_gt r_X5_run_34 (fun h34 => ?_) (fun h34 => ?_)
          · omega
          · -- 34 f
            refine EV.l (lv' := [(0, _), (1, _), (2, _), (3, _), (4, _), (5, _), (6, _)]) r_X5_run_37 rfl ?_
            refine EV.o r_X5_run_38 rfl ?_
            refine EV.getV r_X5_run_39 la_62 (hx6.1.2.2.2.2.1) ?_
            refine EV.o r_X5_run_42 (icN (1) (v := 1)) ?_
            refine EV.o r_X5_run_43 iaddN ?_
            refine EV.pIn r_X5_run_44 la_62 (fun I2 e2 => ?_)
            have rc2 : RC κ l P (T.1, (T.2.1 + 1, T.2.2)) I2 := hx6.1.mk (fun x _ _ p _ => by rw [e2]; exact wr_row p) (by rw [e2]; exact wr_ne (Or.inr (by decide))) (hx6.1.2.2.2.1.fr (fun x a b => by rw [e2]; exact wr_row (by omega))) (by rw [e2]; exact wr_same) (by rw [e2, wr_ne (Or.inr (by decide))]; exact hx6.1.2.2.2.2.2.1) (by rw [e2, wr_ne (Or.inr (by decide))]; exact hx6.1.2.2.2.2.2.2)
            have pc2 := rc2.1
            have hc2 := rc2.2.1
            have hl2 := rc2.2.2.1
            have hh2 := rc2.2.2.2.1
            have ri1 := ri
            have kb : P.k f < 2147483648 := by rcases Nat.lt_or_ge (P.k f) 6 with z | z; omega; (exfalso; cases o with | zero => (rcases bl f (by omega) (by omega) with y | y | y | y | y <;> omega) | succ o => (rcases bl f (by omega) (by omega) with (y | y | y | y | y) | y <;> omega))
            refine EV.l (lv' := [(0, _), (1, _), (2, _), (3, _), (4, _), (5, _), (6, _)]) r_X5_run_47 rfl ?_
            refine EV.gR r_X5_run_48 la_62 ?_
            refine EV.l (lv' := [(0, _), (1, _), (2, _), (3, _), (4, _), (5, _), (6, _)]) r_X5_run_51 rfl ?_
            refine EV.cv r_X5_run_53 (aV1 mt_92 la_63) (c_getN (by omega) la_63 la_64 ((pc2.2 f (by omega)).1)) ?_
            refine EV.o r_X5_run_56 (icN (5) (v := 5)) ?_
            refine EV.n2_ne r_X5_run_57 (fun h57 => ?_) (fun h57 => ?_)
            · -- 57 t
              rcases blk_no bl (by omega) (show f < t by omega) h57 with bk | bk | bk | bk | bk
              · -- case
                have bkk := blk_no bl (by omega) (show f < t by omega) h57
                refine EV.l (lv' := [(0, _), (1, _), (2, _), (3, _), (4, _), (5, _), (6, _)]) r_X5_run_85 rfl ?_
                refine EV.l (lv' := [(0, _), (1, _), (2, _), (3, _), (4, _), (5, _), (6, _)]) r_X5_run_86 rfl ?_
                refine EV.gR r_X5_run_87 la_62 ?_
                refine EV.l (lv' := [(0, _), (1, _), (2, _), (3, _), (4, _), (5, _), (6, _)]) r_X5_run_90 rfl ?_
                refine EV.cv r_X5_run_92 (aV1 mt_92 la_63) (c_getN (by omega) la_63 la_64 (((pc2.2 f (by omega)).1).trans (by rw [bk.1]))) ?_
                refine EV.l (lv' := [(0, _), (1, _), (2, _), (3, _), (4, _), (5, _), (6, _)]) r_X5_run_95 rfl ?_
                refine EV.gR r_X5_run_96 la_62 ?_
                refine EV.l (lv' := [(0, _), (1, _), (2, _), (3, _), (4, _), (5, _), (6, _)]) r_X5_run_99 rfl ?_
                refine EV.cv r_X5_run_101 (aV1 mt_92 la_65) (c_getN (by omega) la_65 la_66 ((pc2.2 f (by omega)).2.1 (by omega))) ?_
                refine EV.l (lv' := [(0, _), (1, _), (2, _), (3, _), (4, _), (5, _), (6, _)]) r_X5_run_104 rfl ?_
                refine EV.gR r_X5_run_105 la_62 ?_
                refine EV.l (lv' := [(0, _), (1, _), (2, _), (3, _), (4, _), (5, _), (6, _)]) r_X5_run_108 rfl ?_
                refine EV.cv r_X5_run_110 (aV1 mt_92 la_67) (c_getN (by omega) la_67 la_68 ((pc2.2 f (by omega)).2.2.1 (Or.inl (by omega)))) ?_
                refine EV.l (lv' := [(0, _), (1, _), (2, _), (3, _), (4, _), (5, _), (6, _)]) r_X5_run_113 rfl ?_
                refine EV.gR r_X5_run_114 la_62 ?_
                refine EV.l (lv' := [(0, _), (1, _), (2, _), (3, _), (4, _), (5, _), (6, _)]) r_X5_run_117 rfl ?_
                refine EV.cv r_X5_run_119 (aV1 mt_92 la_69) (c_get la_69 la_70 (by decide) (by decide) (by omega) (by omega)) ?_
                refine EV.ci r_X5_run_122 (aS5 mt_74) (c_do0 hc2 cb hh2 ri1.1 hl2 lb bk.2.1 bk.2.2 (by omega)) (fun v3 I3 h3 => ?_)
                obtain ⟨e, hh3, f3⟩ := h3
                subst e
                have rf3 : RF M I3 := fun x p1 p2 p3 p4 => (f3 x p1 p2 p4).trans (by rw [e2]; exact wr_row p3)
                have d62 : I3 62 = I2 62 := f3 62 (by decide) (by decide) (by decide)
                have d5 : I3 62 5 = nI (T.2.1 + 1) := by rw [d62, e2]; exact wr_same
                have d6 : I3 62 6 = nI T.2.2.1 := by rw [d62, e2, wr_ne (Or.inr (by decide))]; exact hx6.1.2.2.2.2.2.1
                have d7 : I3 62 7 = nI T.2.2.2 := by rw [d62, e2, wr_ne (Or.inr (by decide))]; exact hx6.1.2.2.2.2.2.2
                have d4 : I3 62 4 = M 62 4 := by rw [d62, e2, wr_ne (Or.inr (by decide))]
                have ed := dst_0 (κ := κ) (l := l) (η := T.1) (P := P) (j := f) bk.1
                refine EV.b0_eq r_X5_run_125 (fun h125 => ?_) (fun h125 => ?_)
                · -- 125 t
                  refine EV.l (lv' := [(0, _), (1, _), (2, _), (3, _), (4, _), (5, _), (6, _)]) r_X5_run_141 rfl ?_
                  refine EV.o r_X5_run_142 rfl ?_
                  refine EV.getV r_X5_run_143 la_62 (d7) ?_
                  refine EV.o r_X5_run_146 (icN (1) (v := 1)) ?_
                  refine EV.o r_X5_run_147 iaddN ?_
                  refine EV.pIn r_X5_run_148 la_62 (fun I4 e4 => ?_)
                  have d1 : (dst κ l P f T.1).1 = false := by rw [ed]; exact h125
                  have e1n : one κ l P f T = ((dst κ l P f T.1).2, (T.2.1 + 1, T.2.2.1, T.2.2.2 + 1)) := by unfold one; rw [d1]; rfl
                  have rc4 : RC κ l P (one κ l P f T) I4 := by
                    rw [e1n]
                    refine hx6.1.mk (fun x p1 p2 p3 p4 => by rw [e4, wr_row p3]; exact rf3 x p1 p2 p3 p4) (by rw [e4, wr_ne (Or.inr (by decide))]; exact d4) (by show HH 71 (dst κ l P f T.1).2 I4; rw [ed]; exact hh3.fr (fun x a b => by rw [e4, wr_row (by omega)])) (by rw [e4, wr_ne (Or.inr (by decide))]; exact d5) (by rw [e4, wr_ne (Or.inr (by decide))]; exact d6) (by rw [e4]; exact wr_same)
                  have hx9 : RNI κ l P sub f0 t R I (i + 1) (f + 1) (one κ l P f T) I4 := ⟨rc4, hx6.2.1.tr (fun x p1 p2 p3 p4 => by rw [e4, wr_row p3]; exact rf3 x p1 p2 p3 p4), ri.on1 (by omega) bkk, by omega, by omega, by rw [← hx6.2.2.2.2.2, show 150 - i = 150 - (i + 1) + 1 by omega, gsL_one ⟨by omega, by omega⟩ h57]⟩
                  refine EV.l (lv' := [(0, _), (1, _), (2, _), (3, _), (4, _), (5, _), (6, _)]) r_X5_run_151 rfl ?_
                  rw [inc_nI]
                  refine EV.l (lv' := [(0, _), (1, _), (2, _), (3, _), (4, _), (5, _), (6, _)]) r_X5_run_154 rfl ?_
                  rw [inc_nI]
                  refine EV.g r_X5_run_157 ?_
                  refine EV.sub ?_ rfl ?_ (ih6 (i + 1, f + 1, one κ l P f T, I4) ?_ ?_)
                  · (try dsimp only) <;> (rfl)
                  · (try dsimp only) <;> (rfl)
                  · (try dsimp only) <;> (omega)
                  · (try dsimp only) <;> (exact ⟨hx9, by omega⟩)
                · -- 125 f
                  refine EV.l (lv' := [(0, _), (1, _), (2, _), (3, _), (4, _), (5, _), (6, _)]) r_X5_run_128 rfl ?_
                  refine EV.o r_X5_run_129 rfl ?_
                  refine EV.getV r_X5_run_130 la_62 (d6) ?_
                  refine EV.o r_X5_run_133 (icN (1) (v := 1)) ?_
                  refine EV.o r_X5_run_134 iaddN ?_
                  refine EV.pIn r_X5_run_135 la_62 (fun I4 e4 => ?_)
                  refine EV.g r_X5_run_138 ?_
                  have d1 : (dst κ l P f T.1).1 = true := by rw [ed]; exact h125
                  have e1n : one κ l P f T = ((dst κ l P f T.1).2, (T.2.1 + 1, T.2.2.1 + 1, T.2.2.2)) := by unfold one; rw [d1]; rfl
                  have rc4 : RC κ l P (one κ l P f T) I4 := by
                    rw [e1n]
                    refine hx6.1.mk (fun x p1 p2 p3 p4 => by rw [e4, wr_row p3]; exact rf3 x p1 p2 p3 p4) (by rw [e4, wr_ne (Or.inr (by decide))]; exact d4) (by show HH 71 (dst κ l P f T.1).2 I4; rw [ed]; exact hh3.fr (fun x a b => by rw [e4, wr_row (by omega)])) (by rw [e4, wr_ne (Or.inr (by decide))]; exact d5) (by rw [e4]; exact wr_same) (by rw [e4, wr_ne (Or.inr (by decide))]; exact d7)
                  have hx9 : RNI κ l P sub f0 t R I (i + 1) (f + 1) (one κ l P f T) I4 := ⟨rc4, hx6.2.1.tr (fun x p1 p2 p3 p4 => by rw [e4, wr_row p3]; exact rf3 x p1 p2 p3 p4), ri.on1 (by omega) bkk, by omega, by omega, by rw [← hx6.2.2.2.2.2, show 150 - i = 150 - (i + 1) + 1 by omega, gsL_one ⟨by omega, by omega⟩ h57]⟩
                  refine EV.l (lv' := [(0, _), (1, _), (2, _), (3, _), (4, _), (5, _), (6, _)]) r_X5_run_151 rfl ?_
                  rw [inc_nI]
                  refine EV.l (lv' := [(0, _), (1, _), (2, _), (3, _), (4, _), (5, _), (6, _)]) r_X5_run_154 rfl ?_
                  rw [inc_nI]
                  refine EV.g r_X5_run_157 ?_
                  refine EV.sub ?_ rfl ?_ (ih6 (i + 1, f + 1, one κ l P f T, I4) ?_ ?_)
                  · (try dsimp only) <;> (rfl)
                  · (try dsimp only) <;> (rfl)
                  · (try dsimp only) <;> (omega)
                  · (try dsimp only) <;> (exact ⟨hx9, by omega⟩)
              · -- case
                have bkk := blk_no bl (by omega) (show f < t by omega) h57
                refine EV.l (lv' := [(0, _), (1, _), (2, _), (3, _), (4, _), (5, _), (6, _)]) r_X5_run_85 rfl ?_
                refine EV.l (lv' := [(0, _), (1, _), (2, _), (3, _), (4, _), (5, _), (6, _)]) r_X5_run_86 rfl ?_
                refine EV.gR r_X5_run_87 la_62 ?_
                refine EV.l (lv' := [(0, _), (1, _), (2, _), (3, _), (4, _), (5, _), (6, _)]) r_X5_run_90 rfl ?_
                refine EV.cv r_X5_run_92 (aV1 mt_92 la_63) (c_getN (by omega) la_63 la_64 (((pc2.2 f (by omega)).1).trans (by rw [bk.1]))) ?_
                refine EV.l (lv' := [(0, _), (1, _), (2, _), (3, _), (4, _), (5, _), (6, _)]) r_X5_run_95 rfl ?_
                refine EV.gR r_X5_run_96 la_62 ?_
                refine EV.l (lv' := [(0, _), (1, _), (2, _), (3, _), (4, _), (5, _), (6, _)]) r_X5_run_99 rfl ?_
                refine EV.cv r_X5_run_101 (aV1 mt_92 la_65) (c_getN (by omega) la_65 la_66 ((pc2.2 f (by omega)).2.1 (by omega))) ?_
                refine EV.l (lv' := [(0, _), (1, _), (2, _), (3, _), (4, _), (5, _), (6, _)]) r_X5_run_104 rfl ?_
                refine EV.gR r_X5_run_105 la_62 ?_
                refine EV.l (lv' := [(0, _), (1, _), (2, _), (3, _), (4, _), (5, _), (6, _)]) r_X5_run_108 rfl ?_
                refine EV.cv r_X5_run_110 (aV1 mt_92 la_67) (c_getN (by omega) la_67 la_68 ((pc2.2 f (by omega)).2.2.1 (Or.inl (by omega)))) ?_
                refine EV.l (lv' := [(0, _), (1, _), (2, _), (3, _), (4, _), (5, _), (6, _)]) r_X5_run_113 rfl ?_
                refine EV.gR r_X5_run_114 la_62 ?_
                refine EV.l (lv' := [(0, _), (1, _), (2, _), (3, _), (4, _), (5, _), (6, _)]) r_X5_run_117 rfl ?_
                refine EV.cv r_X5_run_119 (aV1 mt_92 la_69) (c_getN (by omega) la_69 la_70 ((pc2.2 f (by omega)).2.2.2 (by omega))) ?_
                refine EV.ci r_X5_run_122 (aS5 mt_74) (c_do1 hc2 cb hh2 ri1.1 hl2 lb bk.2.1 bk.2.2.1 bk.2.2.2 (by omega)) (fun v3 I3 h3 => ?_)
                obtain ⟨e, hh3, f3⟩ := h3
                subst e
                have rf3 : RF M I3 := fun x p1 p2 p3 p4 => (f3 x p1 p2 p4).trans (by rw [e2]; exact wr_row p3)
                have d62 : I3 62 = I2 62 := f3 62 (by decide) (by decide) (by decide)
                have d5 : I3 62 5 = nI (T.2.1 + 1) := by rw [d62, e2]; exact wr_same
                have d6 : I3 62 6 = nI T.2.2.1 := by rw [d62, e2, wr_ne (Or.inr (by decide))]; exact hx6.1.2.2.2.2.2.1
                have d7 : I3 62 7 = nI T.2.2.2 := by rw [d62, e2, wr_ne (Or.inr (by decide))]; exact hx6.1.2.2.2.2.2.2
                have d4 : I3 62 4 = M 62 4 := by rw [d62, e2, wr_ne (Or.inr (by decide))]
                have ed := dst_1 (κ := κ) (l := l) (η := T.1) (P := P) (j := f) bk.1
                refine EV.b0_eq r_X5_run_125 (fun h125 => ?_) (fun h125 => ?_)
                · -- 125 t
                  refine EV.l (lv' := [(0, _), (1, _), (2, _), (3, _), (4, _), (5, _), (6, _)]) r_X5_run_141 rfl ?_
                  refine EV.o r_X5_run_142 rfl ?_
                  refine EV.getV r_X5_run_143 la_62 (d7) ?_
                  refine EV.o r_X5_run_146 (icN (1) (v := 1)) ?_
                  refine EV.o r_X5_run_147 iaddN ?_
                  refine EV.pIn r_X5_run_148 la_62 (fun I4 e4 => ?_)
                  have d1 : (dst κ l P f T.1).1 = false := by rw [ed]; exact h125
                  have e1n : one κ l P f T = ((dst κ l P f T.1).2, (T.2.1 + 1, T.2.2.1, T.2.2.2 + 1)) := by unfold one; rw [d1]; rfl
                  have rc4 : RC κ l P (one κ l P f T) I4 := by
                    rw [e1n]
                    refine hx6.1.mk (fun x p1 p2 p3 p4 => by rw [e4, wr_row p3]; exact rf3 x p1 p2 p3 p4) (by rw [e4, wr_ne (Or.inr (by decide))]; exact d4) (by show HH 71 (dst κ l P f T.1).2 I4; rw [ed]; exact hh3.fr (fun x a b => by rw [e4, wr_row (by omega)])) (by rw [e4, wr_ne (Or.inr (by decide))]; exact d5) (by rw [e4, wr_ne (Or.inr (by decide))]; exact d6) (by rw [e4]; exact wr_same)
                  have hx9 : RNI κ l P sub f0 t R I (i + 1) (f + 1) (one κ l P f T) I4 := ⟨rc4, hx6.2.1.tr (fun x p1 p2 p3 p4 => by rw [e4, wr_row p3]; exact rf3 x p1 p2 p3 p4), ri.on1 (by omega) bkk, by omega, by omega, by rw [← hx6.2.2.2.2.2, show 150 - i = 150 - (i + 1) + 1 by omega, gsL_one ⟨by omega, by omega⟩ h57]⟩
                  refine EV.l (lv' := [(0, _), (1, _), (2, _), (3, _), (4, _), (5, _), (6, _)]) r_X5_run_151 rfl ?_
                  rw [inc_nI]
                  refine EV.l (lv' := [(0, _), (1, _), (2, _), (3, _), (4, _), (5, _), (6, _)]) r_X5_run_154 rfl ?_
                  rw [inc_nI]
                  refine EV.g r_X5_run_157 ?_
                  refine EV.sub ?_ rfl ?_ (ih6 (i + 1, f + 1, one κ l P f T, I4) ?_ ?_)
                  · (try dsimp only) <;> (rfl)
                  · (try dsimp only) <;> (rfl)
                  · (try dsimp only) <;> (omega)
                  · (try dsimp only) <;> (exact ⟨hx9, by omega⟩)
                · -- 125 f
                  refine EV.l (lv' := [(0, _), (1, _), (2, _), (3, _), (4, _), (5, _), (6, _)]) r_X5_run_128 rfl ?_
                  refine EV.o r_X5_run_129 rfl ?_
                  refine EV.getV r_X5_run_130 la_62 (d6) ?_
                  refine EV.o r_X5_run_133 (icN (1) (v := 1)) ?_
                  refine EV.o r_X5_run_134 iaddN ?_
                  refine EV.pIn r_X5_run_135 la_62 (fun I4 e4 => ?_)
                  refine EV.g r_X5_run_138 ?_
                  have d1 : (dst κ l P f T.1).1 = true := by rw [ed]; exact h125
                  have e1n : one κ l P f T = ((dst κ l P f T.1).2, (T.2.1 + 1, T.2.2.1 + 1, T.2.2.2)) := by unfold one; rw [d1]; rfl
                  have rc4 : RC κ l P (one κ l P f T) I4 := by
                    rw [e1n]
                    refine hx6.1.mk (fun x p1 p2 p3 p4 => by rw [e4, wr_row p3]; exact rf3 x p1 p2 p3 p4) (by rw [e4, wr_ne (Or.inr (by decide))]; exact d4) (by show HH 71 (dst κ l P f T.1).2 I4; rw [ed]; exact hh3.fr (fun x a b => by rw [e4, wr_row (by omega)])) (by rw [e4, wr_ne (Or.inr (by decide))]; exact d5) (by rw [e4]; exact wr_same) (by rw [e4, wr_ne (Or.inr (by decide))]; exact d7)
                  have hx9 : RNI κ l P sub f0 t R I (i + 1) (f + 1) (one κ l P f T) I4 := ⟨rc4, hx6.2.1.tr (fun x p1 p2 p3 p4 => by rw [e4, wr_row p3]; exact rf3 x p1 p2 p3 p4), ri.on1 (by omega) bkk, by omega, by omega, by rw [← hx6.2.2.2.2.2, show 150 - i = 150 - (i + 1) + 1 by omega, gsL_one ⟨by omega, by omega⟩ h57]⟩
                  refine EV.l (lv' := [(0, _), (1, _), (2, _), (3, _), (4, _), (5, _), (6, _)]) r_X5_run_151 rfl ?_
                  rw [inc_nI]
                  refine EV.l (lv' := [(0, _), (1, _), (2, _), (3, _), (4, _), (5, _), (6, _)]) r_X5_run_154 rfl ?_
                  rw [inc_nI]
                  refine EV.g r_X5_run_157 ?_
                  refine EV.sub ?_ rfl ?_ (ih6 (i + 1, f + 1, one κ l P f T, I4) ?_ ?_)
                  · (try dsimp only) <;> (rfl)
                  · (try dsimp only) <;> (rfl)
                  · (try dsimp only) <;> (omega)
                  · (try dsimp only) <;> (exact ⟨hx9, by omega⟩)
              · -- case
                have bkk := blk_no bl (by omega) (show f < t by omega) h57
                refine EV.l (lv' := [(0, _), (1, _), (2, _), (3, _), (4, _), (5, _), (6, _)]) r_X5_run_85 rfl ?_
                refine EV.l (lv' := [(0, _), (1, _), (2, _), (3, _), (4, _), (5, _), (6, _)]) r_X5_run_86 rfl ?_
                refine EV.gR r_X5_run_87 la_62 ?_
                refine EV.l (lv' := [(0, _), (1, _), (2, _), (3, _), (4, _), (5, _), (6, _)]) r_X5_run_90 rfl ?_
                refine EV.cv r_X5_run_92 (aV1 mt_92 la_63) (c_getN (by omega) la_63 la_64 (((pc2.2 f (by omega)).1).trans (by rw [bk.1]))) ?_
                refine EV.l (lv' := [(0, _), (1, _), (2, _), (3, _), (4, _), (5, _), (6, _)]) r_X5_run_95 rfl ?_
                refine EV.gR r_X5_run_96 la_62 ?_
                refine EV.l (lv' := [(0, _), (1, _), (2, _), (3, _), (4, _), (5, _), (6, _)]) r_X5_run_99 rfl ?_
                refine EV.cv r_X5_run_101 (aV1 mt_92 la_65) (c_getN (by omega) la_65 la_66 ((pc2.2 f (by omega)).2.1 (by omega))) ?_
                refine EV.l (lv' := [(0, _), (1, _), (2, _), (3, _), (4, _), (5, _), (6, _)]) r_X5_run_104 rfl ?_
                refine EV.gR r_X5_run_105 la_62 ?_
                refine EV.l (lv' := [(0, _), (1, _), (2, _), (3, _), (4, _), (5, _), (6, _)]) r_X5_run_108 rfl ?_
                refine EV.cv r_X5_run_110 (aV1 mt_92 la_67) (c_getN (by omega) la_67 la_68 ((pc2.2 f (by omega)).2.2.1 (Or.inl (by omega)))) ?_
                refine EV.l (lv' := [(0, _), (1, _), (2, _), (3, _), (4, _), (5, _), (6, _)]) r_X5_run_113 rfl ?_
                refine EV.gR r_X5_run_114 la_62 ?_
                refine EV.l (lv' := [(0, _), (1, _), (2, _), (3, _), (4, _), (5, _), (6, _)]) r_X5_run_117 rfl ?_
                refine EV.cv r_X5_run_119 (aV1 mt_92 la_69) (c_getN (by omega) la_69 la_70 ((pc2.2 f (by omega)).2.2.2 (by omega))) ?_
                refine EV.ci r_X5_run_122 (aS5 mt_74) (c_do2 hc2 cb hh2 ri1.1 hl2 lb bk.2.1 bk.2.2.1 bk.2.2.2 (by omega)) (fun v3 I3 h3 => ?_)
                obtain ⟨e, hh3, f3⟩ := h3
                subst e
                have rf3 : RF M I3 := fun x p1 p2 p3 p4 => (f3 x p1 p2 p4).trans (by rw [e2]; exact wr_row p3)
                have d62 : I3 62 = I2 62 := f3 62 (by decide) (by decide) (by decide)
                have d5 : I3 62 5 = nI (T.2.1 + 1) := by rw [d62, e2]; exact wr_same
                have d6 : I3 62 6 = nI T.2.2.1 := by rw [d62, e2, wr_ne (Or.inr (by decide))]; exact hx6.1.2.2.2.2.2.1
                have d7 : I3 62 7 = nI T.2.2.2 := by rw [d62, e2, wr_ne (Or.inr (by decide))]; exact hx6.1.2.2.2.2.2.2
                have d4 : I3 62 4 = M 62 4 := by rw [d62, e2, wr_ne (Or.inr (by decide))]
                have ed := dst_2 (κ := κ) (l := l) (η := T.1) (P := P) (j := f) bk.1
                refine EV.b0_eq r_X5_run_125 (fun h125 => ?_) (fun h125 => ?_)
                · -- 125 t
                  refine EV.l (lv' := [(0, _), (1, _), (2, _), (3, _), (4, _), (5, _), (6, _)]) r_X5_run_141 rfl ?_
                  refine EV.o r_X5_run_142 rfl ?_
                  refine EV.getV r_X5_run_143 la_62 (d7) ?_
                  refine EV.o r_X5_run_146 (icN (1) (v := 1)) ?_
                  refine EV.o r_X5_run_147 iaddN ?_
                  refine EV.pIn r_X5_run_148 la_62 (fun I4 e4 => ?_)
                  have d1 : (dst κ l P f T.1).1 = false := by rw [ed]; exact h125
                  have e1n : one κ l P f T = ((dst κ l P f T.1).2, (T.2.1 + 1, T.2.2.1, T.2.2.2 + 1)) := by unfold one; rw [d1]; rfl
                  have rc4 : RC κ l P (one κ l P f T) I4 := by
                    rw [e1n]
                    refine hx6.1.mk (fun x p1 p2 p3 p4 => by rw [e4, wr_row p3]; exact rf3 x p1 p2 p3 p4) (by rw [e4, wr_ne (Or.inr (by decide))]; exact d4) (by show HH 71 (dst κ l P f T.1).2 I4; rw [ed]; exact hh3.fr (fun x a b => by rw [e4, wr_row (by omega)])) (by rw [e4, wr_ne (Or.inr (by decide))]; exact d5) (by rw [e4, wr_ne (Or.inr (by decide))]; exact d6) (by rw [e4]; exact wr_same)
                  have hx9 : RNI κ l P sub f0 t R I (i + 1) (f + 1) (one κ l P f T) I4 := ⟨rc4, hx6.2.1.tr (fun x p1 p2 p3 p4 => by rw [e4, wr_row p3]; exact rf3 x p1 p2 p3 p4), ri.on1 (by omega) bkk, by omega, by omega, by rw [← hx6.2.2.2.2.2, show 150 - i = 150 - (i + 1) + 1 by omega, gsL_one ⟨by omega, by omega⟩ h57]⟩
                  refine EV.l (lv' := [(0, _), (1, _), (2, _), (3, _), (4, _), (5, _), (6, _)]) r_X5_run_151 rfl ?_
                  rw [inc_nI]
                  refine EV.l (lv' := [(0, _), (1, _), (2, _), (3, _), (4, _), (5, _), (6, _)]) r_X5_run_154 rfl ?_
                  rw [inc_nI]
                  refine EV.g r_X5_run_157 ?_
                  refine EV.sub ?_ rfl ?_ (ih6 (i + 1, f + 1, one κ l P f T, I4) ?_ ?_)
                  · (try dsimp only) <;> (rfl)
                  · (try dsimp only) <;> (rfl)
                  · (try dsimp only) <;> (omega)
                  · (try dsimp only) <;> (exact ⟨hx9, by omega⟩)
                · -- 125 f
                  refine EV.l (lv' := [(0, _), (1, _), (2, _), (3, _), (4, _), (5, _), (6, _)]) r_X5_run_128 rfl ?_
                  refine EV.o r_X5_run_129 rfl ?_
                  refine EV.getV r_X5_run_130 la_62 (d6) ?_
                  refine EV.o r_X5_run_133 (icN (1) (v := 1)) ?_
                  refine EV.o r_X5_run_134 iaddN ?_
                  refine EV.pIn r_X5_run_135 la_62 (fun I4 e4 => ?_)
                  refine EV.g r_X5_run_138 ?_
                  have d1 : (dst κ l P f T.1).1 = true := by rw [ed]; exact h125
                  have e1n : one κ l P f T = ((dst κ l P f T.1).2, (T.2.1 + 1, T.2.2.1 + 1, T.2.2.2)) := by unfold one; rw [d1]; rfl
                  have rc4 : RC κ l P (one κ l P f T) I4 := by
                    rw [e1n]
                    refine hx6.1.mk (fun x p1 p2 p3 p4 => by rw [e4, wr_row p3]; exact rf3 x p1 p2 p3 p4) (by rw [e4, wr_ne (Or.inr (by decide))]; exact d4) (by show HH 71 (dst κ l P f T.1).2 I4; rw [ed]; exact hh3.fr (fun x a b => by rw [e4, wr_row (by omega)])) (by rw [e4, wr_ne (Or.inr (by decide))]; exact d5) (by rw [e4]; exact wr_same) (by rw [e4, wr_ne (Or.inr (by decide))]; exact d7)
                  have hx9 : RNI κ l P sub f0 t R I (i + 1) (f + 1) (one κ l P f T) I4 := ⟨rc4, hx6.2.1.tr (fun x p1 p2 p3 p4 => by rw [e4, wr_row p3]; exact rf3 x p1 p2 p3 p4), ri.on1 (by omega) bkk, by omega, by omega, by rw [← hx6.2.2.2.2.2, show 150 - i = 150 - (i + 1) + 1 by omega, gsL_one ⟨by omega, by omega⟩ h57]⟩
                  refine EV.l (lv' := [(0, _), (1, _), (2, _), (3, _), (4, _), (5, _), (6, _)]) r_X5_run_151 rfl ?_
                  rw [inc_nI]
                  refine EV.l (lv' := [(0, _), (1, _), (2, _), (3, _), (4, _), (5, _), (6, _)]) r_X5_run_154 rfl ?_
                  rw [inc_nI]
                  refine EV.g r_X5_run_157 ?_
                  refine EV.sub ?_ rfl ?_ (ih6 (i + 1, f + 1, one κ l P f T, I4) ?_ ?_)
                  · (try dsimp only) <;> (rfl)
                  · (try dsimp only) <;> (rfl)
                  · (try dsimp only) <;> (omega)
                  · (try dsimp only) <;> (exact ⟨hx9, by omega⟩)
              · -- case
                have bkk := blk_no bl (by omega) (show f < t by omega) h57
                refine EV.l (lv' := [(0, _), (1, _), (2, _), (3, _), (4, _), (5, _), (6, _)]) r_X5_run_85 rfl ?_
                refine EV.l (lv' := [(0, _), (1, _), (2, _), (3, _), (4, _), (5, _), (6, _)]) r_X5_run_86 rfl ?_
                refine EV.gR r_X5_run_87 la_62 ?_
                refine EV.l (lv' := [(0, _), (1, _), (2, _), (3, _), (4, _), (5, _), (6, _)]) r_X5_run_90 rfl ?_
                refine EV.cv r_X5_run_92 (aV1 mt_92 la_63) (c_getN (by omega) la_63 la_64 (((pc2.2 f (by omega)).1).trans (by rw [bk.1]))) ?_
                refine EV.l (lv' := [(0, _), (1, _), (2, _), (3, _), (4, _), (5, _), (6, _)]) r_X5_run_95 rfl ?_
                refine EV.gR r_X5_run_96 la_62 ?_
                refine EV.l (lv' := [(0, _), (1, _), (2, _), (3, _), (4, _), (5, _), (6, _)]) r_X5_run_99 rfl ?_
                refine EV.cv r_X5_run_101 (aV1 mt_92 la_65) (c_getN (by omega) la_65 la_66 ((pc2.2 f (by omega)).2.1 (by omega))) ?_
                refine EV.l (lv' := [(0, _), (1, _), (2, _), (3, _), (4, _), (5, _), (6, _)]) r_X5_run_104 rfl ?_
                refine EV.gR r_X5_run_105 la_62 ?_
                refine EV.l (lv' := [(0, _), (1, _), (2, _), (3, _), (4, _), (5, _), (6, _)]) r_X5_run_108 rfl ?_
                refine EV.cv r_X5_run_110 (aV1 mt_92 la_67) (c_get la_67 la_68 (by decide) (by decide) (by omega) (by omega)) ?_
                refine EV.l (lv' := [(0, _), (1, _), (2, _), (3, _), (4, _), (5, _), (6, _)]) r_X5_run_113 rfl ?_
                refine EV.gR r_X5_run_114 la_62 ?_
                refine EV.l (lv' := [(0, _), (1, _), (2, _), (3, _), (4, _), (5, _), (6, _)]) r_X5_run_117 rfl ?_
                refine EV.cv r_X5_run_119 (aV1 mt_92 la_69) (c_get la_69 la_70 (by decide) (by decide) (by omega) (by omega)) ?_
                refine EV.ci r_X5_run_122 (aS5 mt_74) (c_do3 hc2 cb hh2 ri1.1 hl2 lb bk.2 (by omega)) (fun v3 I3 h3 => ?_)
                obtain ⟨e, hh3, f3⟩ := h3
                subst e
                have rf3 : RF M I3 := fun x p1 p2 p3 p4 => (f3 x p1 p2 p4).trans (by rw [e2]; exact wr_row p3)
                have d62 : I3 62 = I2 62 := f3 62 (by decide) (by decide) (by decide)
                have d5 : I3 62 5 = nI (T.2.1 + 1) := by rw [d62, e2]; exact wr_same
                have d6 : I3 62 6 = nI T.2.2.1 := by rw [d62, e2, wr_ne (Or.inr (by decide))]; exact hx6.1.2.2.2.2.2.1
                have d7 : I3 62 7 = nI T.2.2.2 := by rw [d62, e2, wr_ne (Or.inr (by decide))]; exact hx6.1.2.2.2.2.2.2
                have d4 : I3 62 4 = M 62 4 := by rw [d62, e2, wr_ne (Or.inr (by decide))]
                have ed := dst_3 (κ := κ) (l := l) (η := T.1) (P := P) (j := f) bk.1
                refine EV.b0_eq r_X5_run_125 (fun h125 => ?_) (fun h125 => ?_)
                · -- 125 t
                  refine EV.l (lv' := [(0, _), (1, _), (2, _), (3, _), (4, _), (5, _), (6, _)]) r_X5_run_141 rfl ?_
                  refine EV.o r_X5_run_142 rfl ?_
                  refine EV.getV r_X5_run_143 la_62 (d7) ?_
                  refine EV.o r_X5_run_146 (icN (1) (v := 1)) ?_
                  refine EV.o r_X5_run_147 iaddN ?_
                  refine EV.pIn r_X5_run_148 la_62 (fun I4 e4 => ?_)
                  have d1 : (dst κ l P f T.1).1 = false := by rw [ed]; exact h125
                  have e1n : one κ l P f T = ((dst κ l P f T.1).2, (T.2.1 + 1, T.2.2.1, T.2.2.2 + 1)) := by unfold one; rw [d1]; rfl
                  have rc4 : RC κ l P (one κ l P f T) I4 := by
                    rw [e1n]
                    refine hx6.1.mk (fun x p1 p2 p3 p4 => by rw [e4, wr_row p3]; exact rf3 x p1 p2 p3 p4) (by rw [e4, wr_ne (Or.inr (by decide))]; exact d4) (by show HH 71 (dst κ l P f T.1).2 I4; rw [ed]; exact hh3.fr (fun x a b => by rw [e4, wr_row (by omega)])) (by rw [e4, wr_ne (Or.inr (by decide))]; exact d5) (by rw [e4, wr_ne (Or.inr (by decide))]; exact d6) (by rw [e4]; exact wr_same)
                  have hx9 : RNI κ l P sub f0 t R I (i + 1) (f + 1) (one κ l P f T) I4 := ⟨rc4, hx6.2.1.tr (fun x p1 p2 p3 p4 => by rw [e4, wr_row p3]; exact rf3 x p1 p2 p3 p4), ri.on1 (by omega) bkk, by omega, by omega, by rw [← hx6.2.2.2.2.2, show 150 - i = 150 - (i + 1) + 1 by omega, gsL_one ⟨by omega, by omega⟩ h57]⟩
                  refine EV.l (lv' := [(0, _), (1, _), (2, _), (3, _), (4, _), (5, _), (6, _)]) r_X5_run_151 rfl ?_
                  rw [inc_nI]
                  refine EV.l (lv' := [(0, _), (1, _), (2, _), (3, _), (4, _), (5, _), (6, _)]) r_X5_run_154 rfl ?_
                  rw [inc_nI]
                  refine EV.g r_X5_run_157 ?_
                  refine EV.sub ?_ rfl ?_ (ih6 (i + 1, f + 1, one κ l P f T, I4) ?_ ?_)
                  · (try dsimp only) <;> (rfl)
                  · (try dsimp only) <;> (rfl)
                  · (try dsimp only) <;> (omega)
                  · (try dsimp only) <;> (exact ⟨hx9, by omega⟩)
                · -- 125 f
                  refine EV.l (lv' := [(0, _), (1, _), (2, _), (3, _), (4, _), (5, _), (6, _)]) r_X5_run_128 rfl ?_
                  refine EV.o r_X5_run_129 rfl ?_
                  refine EV.getV r_X5_run_130 la_62 (d6) ?_
                  refine EV.o r_X5_run_133 (icN (1) (v := 1)) ?_
                  refine EV.o r_X5_run_134 iaddN ?_
                  refine EV.pIn r_X5_run_135 la_62 (fun I4 e4 => ?_)
                  refine EV.g r_X5_run_138 ?_
                  have d1 : (dst κ l P f T.1).1 = true := by rw [ed]; exact h125
                  have e1n : one κ l P f T = ((dst κ l P f T.1).2, (T.2.1 + 1, T.2.2.1 + 1, T.2.2.2)) := by unfold one; rw [d1]; rfl
                  have rc4 : RC κ l P (one κ l P f T) I4 := by
                    rw [e1n]
                    refine hx6.1.mk (fun x p1 p2 p3 p4 => by rw [e4, wr_row p3]; exact rf3 x p1 p2 p3 p4) (by rw [e4, wr_ne (Or.inr (by decide))]; exact d4) (by show HH 71 (dst κ l P f T.1).2 I4; rw [ed]; exact hh3.fr (fun x a b => by rw [e4, wr_row (by omega)])) (by rw [e4, wr_ne (Or.inr (by decide))]; exact d5) (by rw [e4]; exact wr_same) (by rw [e4, wr_ne (Or.inr (by decide))]; exact d7)
                  have hx9 : RNI κ l P sub f0 t R I (i + 1) (f + 1) (one κ l P f T) I4 := ⟨rc4, hx6.2.1.tr (fun x p1 p2 p3 p4 => by rw [e4, wr_row p3]; exact rf3 x p1 p2 p3 p4), ri.on1 (by omega) bkk, by omega, by omega, by rw [← hx6.2.2.2.2.2, show 150 - i = 150 - (i + 1) + 1 by omega, gsL_one ⟨by omega, by omega⟩ h57]⟩
                  refine EV.l (lv' := [(0, _), (1, _), (2, _), (3, _), (4, _), (5, _), (6, _)]) r_X5_run_151 rfl ?_
                  rw [inc_nI]
                  refine EV.l (lv' := [(0, _), (1, _), (2, _), (3, _), (4, _), (5, _), (6, _)]) r_X5_run_154 rfl ?_
                  rw [inc_nI]
                  refine EV.g r_X5_run_157 ?_
                  refine EV.sub ?_ rfl ?_ (ih6 (i + 1, f + 1, one κ l P f T, I4) ?_ ?_)
                  · (try dsimp only) <;> (rfl)
                  · (try dsimp only) <;> (rfl)
                  · (try dsimp only) <;> (omega)
                  · (try dsimp only) <;> (exact ⟨hx9, by omega⟩)
              · -- case
                have bkk := blk_no bl (by omega) (show f < t by omega) h57
                refine EV.l (lv' := [(0, _), (1, _), (2, _), (3, _), (4, _), (5, _), (6, _)]) r_X5_run_85 rfl ?_
                refine EV.l (lv' := [(0, _), (1, _), (2, _), (3, _), (4, _), (5, _), (6, _)]) r_X5_run_86 rfl ?_
                refine EV.gR r_X5_run_87 la_62 ?_
                refine EV.l (lv' := [(0, _), (1, _), (2, _), (3, _), (4, _), (5, _), (6, _)]) r_X5_run_90 rfl ?_
                refine EV.cv r_X5_run_92 (aV1 mt_92 la_63) (c_getN (by omega) la_63 la_64 (((pc2.2 f (by omega)).1).trans (by rw [bk]))) ?_
                refine EV.l (lv' := [(0, _), (1, _), (2, _), (3, _), (4, _), (5, _), (6, _)]) r_X5_run_95 rfl ?_
                refine EV.gR r_X5_run_96 la_62 ?_
                refine EV.l (lv' := [(0, _), (1, _), (2, _), (3, _), (4, _), (5, _), (6, _)]) r_X5_run_99 rfl ?_
                refine EV.cv r_X5_run_101 (aV1 mt_92 la_65) (c_get la_65 la_66 (by decide) (by decide) (by omega) (by omega)) ?_
                refine EV.l (lv' := [(0, _), (1, _), (2, _), (3, _), (4, _), (5, _), (6, _)]) r_X5_run_104 rfl ?_
                refine EV.gR r_X5_run_105 la_62 ?_
                refine EV.l (lv' := [(0, _), (1, _), (2, _), (3, _), (4, _), (5, _), (6, _)]) r_X5_run_108 rfl ?_
                refine EV.cv r_X5_run_110 (aV1 mt_92 la_67) (c_get la_67 la_68 (by decide) (by decide) (by omega) (by omega)) ?_
                refine EV.l (lv' := [(0, _), (1, _), (2, _), (3, _), (4, _), (5, _), (6, _)]) r_X5_run_113 rfl ?_
                refine EV.gR r_X5_run_114 la_62 ?_
                refine EV.l (lv' := [(0, _), (1, _), (2, _), (3, _), (4, _), (5, _), (6, _)]) r_X5_run_117 rfl ?_
                refine EV.cv r_X5_run_119 (aV1 mt_92 la_69) (c_get la_69 la_70 (by decide) (by decide) (by omega) (by omega)) ?_
                refine EV.ci r_X5_run_122 (aS5 mt_74) (c_do4 hc2 cb hh2 ri1.1 hl2 lb  (by omega)) (fun v3 I3 h3 => ?_)
                obtain ⟨e, hh3, f3⟩ := h3
                subst e
                have rf3 : RF M I3 := fun x p1 p2 p3 p4 => (f3 x p1 p2 p4).trans (by rw [e2]; exact wr_row p3)
                have d62 : I3 62 = I2 62 := f3 62 (by decide) (by decide) (by decide)
                have d5 : I3 62 5 = nI (T.2.1 + 1) := by rw [d62, e2]; exact wr_same
                have d6 : I3 62 6 = nI T.2.2.1 := by rw [d62, e2, wr_ne (Or.inr (by decide))]; exact hx6.1.2.2.2.2.2.1
                have d7 : I3 62 7 = nI T.2.2.2 := by rw [d62, e2, wr_ne (Or.inr (by decide))]; exact hx6.1.2.2.2.2.2.2
                have d4 : I3 62 4 = M 62 4 := by rw [d62, e2, wr_ne (Or.inr (by decide))]
                have ed := dst_4 (κ := κ) (l := l) (η := T.1) (P := P) (j := f) bk
                refine EV.b0_eq r_X5_run_125 (fun h125 => ?_) (fun h125 => ?_)
                · -- 125 t
                  refine EV.l (lv' := [(0, _), (1, _), (2, _), (3, _), (4, _), (5, _), (6, _)]) r_X5_run_141 rfl ?_
                  refine EV.o r_X5_run_142 rfl ?_
                  refine EV.getV r_X5_run_143 la_62 (d7) ?_
                  refine EV.o r_X5_run_146 (icN (1) (v := 1)) ?_
                  refine EV.o r_X5_run_147 iaddN ?_
                  refine EV.pIn r_X5_run_148 la_62 (fun I4 e4 => ?_)
                  have d1 : (dst κ l P f T.1).1 = false := by rw [ed]; exact h125
                  have e1n : one κ l P f T = ((dst κ l P f T.1).2, (T.2.1 + 1, T.2.2.1, T.2.2.2 + 1)) := by unfold one; rw [d1]; rfl
                  have rc4 : RC κ l P (one κ l P f T) I4 := by
                    rw [e1n]
                    refine hx6.1.mk (fun x p1 p2 p3 p4 => by rw [e4, wr_row p3]; exact rf3 x p1 p2 p3 p4) (by rw [e4, wr_ne (Or.inr (by decide))]; exact d4) (by show HH 71 (dst κ l P f T.1).2 I4; rw [ed]; exact hh3.fr (fun x a b => by rw [e4, wr_row (by omega)])) (by rw [e4, wr_ne (Or.inr (by decide))]; exact d5) (by rw [e4, wr_ne (Or.inr (by decide))]; exact d6) (by rw [e4]; exact wr_same)
                  have hx9 : RNI κ l P sub f0 t R I (i + 1) (f + 1) (one κ l P f T) I4 := ⟨rc4, hx6.2.1.tr (fun x p1 p2 p3 p4 => by rw [e4, wr_row p3]; exact rf3 x p1 p2 p3 p4), ri.on1 (by omega) bkk, by omega, by omega, by rw [← hx6.2.2.2.2.2, show 150 - i = 150 - (i + 1) + 1 by omega, gsL_one ⟨by omega, by omega⟩ h57]⟩
                  refine EV.l (lv' := [(0, _), (1, _), (2, _), (3, _), (4, _), (5, _), (6, _)]) r_X5_run_151 rfl ?_
                  rw [inc_nI]
                  refine EV.l (lv' := [(0, _), (1, _), (2, _), (3, _), (4, _), (5, _), (6, _)]) r_X5_run_154 rfl ?_
                  rw [inc_nI]
                  refine EV.g r_X5_run_157 ?_
                  refine EV.sub ?_ rfl ?_ (ih6 (i + 1, f + 1, one κ l P f T, I4) ?_ ?_)
                  · (try dsimp only) <;> (rfl)
                  · (try dsimp only) <;> (rfl)
                  · (try dsimp only) <;> (omega)
                  · (try dsimp only) <;> (exact ⟨hx9, by omega⟩)
                · -- 125 f
                  refine EV.l (lv' := [(0, _), (1, _), (2, _), (3, _), (4, _), (5, _), (6, _)]) r_X5_run_128 rfl ?_
                  refine EV.o r_X5_run_129 rfl ?_
                  refine EV.getV r_X5_run_130 la_62 (d6) ?_
                  refine EV.o r_X5_run_133 (icN (1) (v := 1)) ?_
                  refine EV.o r_X5_run_134 iaddN ?_
                  refine EV.pIn r_X5_run_135 la_62 (fun I4 e4 => ?_)
                  refine EV.g r_X5_run_138 ?_
                  have d1 : (dst κ l P f T.1).1 = true := by rw [ed]; exact h125
                  have e1n : one κ l P f T = ((dst κ l P f T.1).2, (T.2.1 + 1, T.2.2.1 + 1, T.2.2.2)) := by unfold one; rw [d1]; rfl
                  have rc4 : RC κ l P (one κ l P f T) I4 := by
                    rw [e1n]
                    refine hx6.1.mk (fun x p1 p2 p3 p4 => by rw [e4, wr_row p3]; exact rf3 x p1 p2 p3 p4) (by rw [e4, wr_ne (Or.inr (by decide))]; exact d4) (by show HH 71 (dst κ l P f T.1).2 I4; rw [ed]; exact hh3.fr (fun x a b => by rw [e4, wr_row (by omega)])) (by rw [e4, wr_ne (Or.inr (by decide))]; exact d5) (by rw [e4]; exact wr_same) (by rw [e4, wr_ne (Or.inr (by decide))]; exact d7)
                  have hx9 : RNI κ l P sub f0 t R I (i + 1) (f + 1) (one κ l P f T) I4 := ⟨rc4, hx6.2.1.tr (fun x p1 p2 p3 p4 => by rw [e4, wr_row p3]; exact rf3 x p1 p2 p3 p4), ri.on1 (by omega) bkk, by omega, by omega, by rw [← hx6.2.2.2.2.2, show 150 - i = 150 - (i + 1) + 1 by omega, gsL_one ⟨by omega, by omega⟩ h57]⟩
                  refine EV.l (lv' := [(0, _), (1, _), (2, _), (3, _), (4, _), (5, _), (6, _)]) r_X5_run_151 rfl ?_
                  rw [inc_nI]
                  refine EV.l (lv' := [(0, _), (1, _), (2, _), (3, _), (4, _), (5, _), (6, _)]) r_X5_run_154 rfl ?_
                  rw [inc_nI]
                  refine EV.g r_X5_run_157 ?_
                  refine EV.sub ?_ rfl ?_ (ih6 (i + 1, f + 1, one κ l P f T, I4) ?_ ?_)
                  · (try dsimp only) <;> (rfl)
                  · (try dsimp only) <;> (rfl)
                  · (try dsimp only) <;> (omega)
                  · (try dsimp only) <;> (exact ⟨hx9, by omega⟩)
            · -- 57 f
              refine EV.l (lv' := [(0, _), (1, _), (2, _), (3, _), (4, _), (5, _), (6, _)]) r_X5_run_60 rfl ?_
              refine EV.l (lv' := [(0, _), (1, _), (2, _), (3, _), (4, _), (5, _), (6, _)]) r_X5_run_61 rfl ?_
              refine EV.l (lv' := [(0, _), (1, _), (2, _), (3, _), (4, _), (5, _), (6, _)]) r_X5_run_62 rfl ?_
              refine EV.l (lv' := [(0, _), (1, _), (2, _), (3, _), (4, _), (5, _), (6, _)]) r_X5_run_64 rfl ?_
              refine EV.o r_X5_run_66 (icN (1) (v := 1)) ?_
              refine EV.o r_X5_run_67 iaddN ?_
              refine EV.cu r_X5_run_68 (aV3 mt_73 la_62) ((rep d' I2 f (T.1, (T.2.1 + 1, T.2.2)) (by omega) (by omega) (by omega) h57 (ri.up (by omega)) rc2).1) (fun I3 h3 => ?_)
              obtain ⟨rc3, rf3, ri3⟩ := h3
              have pcR := rc3.1
              have hb9 := (rep d' I2 f (T.1, (T.2.1 + 1, T.2.2)) (by omega) (by omega) (by omega) h57 (ri.up (by omega)) rc2).2
              refine EV.l (lv' := [(0, _), (1, _), (2, _), (3, _), (4, _), (5, _), (6, _)]) r_X5_run_71 rfl ?_
              refine EV.gR r_X5_run_72 la_62 ?_
              refine EV.l (lv' := [(0, _), (1, _), (2, _), (3, _), (4, _), (5, _), (6, _)]) r_X5_run_75 rfl ?_
              refine EV.cv r_X5_run_77 (aV1 mt_92 la_67) (c_getN (by omega) la_67 la_68 (((pcR.2 f (by omega)).2.2.1 (Or.inr ⟨h57, by omega⟩)))) ?_
              refine EV.l (lv' := [(0, _), (1, _), (2, _), (3, _), (4, _), (5, _), (6, _)]) r_X5_run_80 rfl ?_
              have hx9 : RNI κ l P sub f0 t R I (i + 1) (P.b f) (itn (sub (f + 1) (P.b f)) (P.a f) (T.1, (T.2.1 + 1, T.2.2))) I3 := ⟨rc3, hx6.2.1.tr (fun x p1 p2 p3 p4 => (rf3 x p1 p2 p3 p4).trans (by rw [e2]; exact wr_row p3)), ri3, by omega, by omega, by rw [← hx6.2.2.2.2.2, show 150 - i = 150 - (i + 1) + 1 by omega, gsL_agn ⟨by omega, by omega⟩ h57]⟩
              refine EV.g r_X5_run_82 ?_
              refine EV.l (lv' := [(0, _), (1, _), (2, _), (3, _), (4, _), (5, _), (6, _)]) r_X5_run_154 rfl ?_
              rw [inc_nI]
              refine EV.g r_X5_run_157 ?_
              refine EV.sub ?_ rfl ?_ (ih6 (i + 1, P.b f, itn (sub (f + 1) (P.b f)) (P.a f) (T.1, (T.2.1 + 1, T.2.2)), I3) ?_ ?_)
              · (try dsimp only) <;> (rfl)
              · (try dsimp only) <;> (rfl)
              · (try dsimp only) <;> (omega)
              · (try dsimp only) <;> (exact ⟨hx9, by omega⟩)
  have h0 := L6 (0, f0, R, I)
  try dsimp only at h0
  refine EV.sub ?_ rfl ?_ (h0 ?_)
  · (try dsimp only) <;> (rfl)
  · (try dsimp only) <;> (rfl)
  · (try dsimp only) <;> (exact ⟨⟨rc0, RF.rf, ri0, Nat.le_refl _, Nat.zero_le _, rfl⟩, hf0⟩)
theorem c_gs {κ : CT} {l : LW} {P : PL} (cb : CB κ) (lb : LB l) (hm : P.m < 100) : ∀ o k, k + o = 6 → CRn (2 * o + 10) k κ l P o (gs κ l P o)
  | 0, k, h => fun d I J f t R hd hf ht bl ri rc => by
    exact c_run (sub := fun _ _ R => R) (D := 9) cb lb hm ht hf (by omega) bl (by decide) (fun d I j R _ h1 h2 h5 _ _ => absurd h5 (bas_5 (bl j h1 h2))) ri rc (by omega)
  | o + 1, k, h => fun d I J f t R hd hf ht bl ri rc => by
    have ih := c_gs (κ := κ) (l := l) (P := P) cb lb hm o (k + 1) (by omega)
    exact c_run (sub := gs κ l P o) (D := 2 * o + 11) cb lb hm ht hf (by omega) bl (by omega) (fun d I j R hd2 h1 h2 h5 ri2 rc2 => by
      have b := blk_at bl h1 h2 h5
      exact ⟨c_rep (D := 2 * o + 10) cb lb (by omega) hm h5 b.1 b.2.1 (by omega) b.2.2.2 (by omega) (fun f t R z => gs_full z) ih ri2 rc2 (by omega), b.2.1, b.2.2.1⟩) ri rc (by omega)
