/-! (goes on) -/
theorem c_when1 {d : Nat} {I : Nat → Nat → Int32} {J : Nat → Nat → Int64} {κ : CT} {η : HS} (hc_ : HC 4 κ I) (cb : CB κ) (hh : HH 71 η I) (hb_ : HB κ η) (hw : HW κ η)  (hd : 9 ≤ d) : RV d 149 [.ref 0, .int (nI 1)] I J (nI (sdB κ η η.mi η.mi)) := by
  refine RV.in (d0 := 8) hd mt_149 (Nat.le_of_ble_eq_true rfl) (fun d' hd' => ?_)
  have bns := cb.ns; have bnb := cb.nb; have bnc := cb.nc; have bnr := cb.nr
  have bm_ := hb_.mi
  show EV none M_X10_when d' 0 [(0, .ref 0), (1, .int (nI 1))] [] (hp I J) _
  refine EV.l (lv' := [(0, _), (1, _)]) r_X10_when_0 rfl ?_
  refine EV.l (lv' := [(0, _), (1, _)]) r_X10_when_1 rfl ?_
  refine EV.n0_lt r_X10_when_2 (fun h2 => ?_) (fun h2 => ?_)
  · omega
  · -- 2 f
    refine EV.l (lv' := [(0, _), (1, _)]) r_X10_when_5 rfl ?_
    refine EV.o r_X10_when_6 (icN (2) (v := 2)) ?_
    refine EV.n2_gt r_X10_when_7 (fun h7 => ?_) (fun h7 => ?_)
    · omega
    · -- 7 f
      refine EV.o r_X10_when_10 (icN (1) (v := 1)) ?_
      refine EV.g r_X10_when_11 ?_
      refine EV.cu r_X10_when_15 (aV1 mt_159 la_0) (c_arg1 (by omega)) (fun I2 e2 => ?_)
      have e2 := e2.symm; subst e2
      refine EV.l (lv' := [(0, _), (1, _)]) r_X10_when_18 rfl ?_
      refine EV.ls (q := 64) r_X10_when_19 (by decide +kernel) ?_
      refine EV.l (lv' := [(0, _), (1, _)]) r_X10_when_64 rfl ?_
      refine EV.gR r_X10_when_65 la_0 ?_
      refine EV.l (lv' := [(0, _), (1, _)]) r_X10_when_68 rfl ?_
      refine EV.gR r_X10_when_69 la_0 ?_
      refine EV.getV r_X10_when_72 la_71 (hh.mi) ?_
      refine EV.l (lv' := [(0, _), (1, _)]) r_X10_when_75 rfl ?_
      refine EV.gR r_X10_when_76 la_0 ?_
      refine EV.getV r_X10_when_79 la_71 (hh.mi) ?_
      refine EV.cv r_X10_when_82 (aV2 mt_37 la_71) (c71_said hc_ cb hh hb_ (by omega) (by omega) (by omega)) ?_
      exact EV.rv r_X10_when_85 (rfl)
theorem c_whenX {d : Nat} {I : Nat → Nat → Int32} {J : Nat → Nat → Int64} {κ : CT} (hc_ : HC 4 κ I) (cb : CB κ) {y : Int} (y1 : -2147483648 ≤ y) (y2 : y < 2147483648) (hy : ¬ (0 ≤ y ∧ y ≤ 2))  (hd : 9 ≤ d) : RX d 149 [.ref 0, .int (zI y)] I J 1 (fun I' => I' = ref1 I 14) := by
  refine RX.in (d0 := 8) hd mt_149 (Nat.le_of_ble_eq_true rfl) (fun d' hd' => ?_)
  have bns := cb.ns; have bnb := cb.nb; have bnc := cb.nc; have bnr := cb.nr
  have pn := Nat.two_pow_pos κ.ns; have qn := pow_ns cb; have pc := Nat.two_pow_pos κ.nc; have qc := pow_nc cb
  show EV none M_X10_when d' 0 [(0, .ref 0), (1, .int (zI y))] [] (hp I J) _
  refine EV.l (lv' := [(0, _), (1, _)]) r_X10_when_0 rfl ?_
  refine EV.l (lv' := [(0, _), (1, _)]) r_X10_when_1 rfl ?_
  refine EV.z0_lt r_X10_when_2 (fun h2 => ?_) (fun h2 => ?_)
  · -- 2 t
    refine EV.o r_X10_when_14 (icN (0) (v := 0)) ?_
    exact EV.cx r_X10_when_15 (aV1 mt_159 la_0) (c_arg0 (by omega)) (fun _ h => h)
  · -- 2 f
    refine EV.l (lv' := [(0, _), (1, _)]) r_X10_when_5 rfl ?_
    refine EV.o r_X10_when_6 (icN (2) (v := 2)) ?_
    refine EV.zn2_gt r_X10_when_7 (fun h7 => ?_) (fun h7 => ?_)
    · -- 7 t
      refine EV.o r_X10_when_14 (icN (0) (v := 0)) ?_
      exact EV.cx r_X10_when_15 (aV1 mt_159 la_0) (c_arg0 (by omega)) (fun _ h => h)
    · -- 7 f
      refine EV.o r_X10_when_10 (icN (1) (v := 1)) ?_
      refine EV.g r_X10_when_11 ?_
      omega
theorem c71_saidZ {d : Nat} {I : Nat → Nat → Int32} {J : Nat → Nat → Int64} {κ : CT} {η : HS} (hc_ : HC 4 κ I) (cb : CB κ) (hh : HH 71 η I) (hb_ : HB κ η) {a : Nat} {b : Int} (ha : a < 100000) (hb1 : -10 ≤ b) (hb2 : b < 100000)  (hd : 2 ≤ d) : RV d 37 [.ref 71, .int (nI a), .int (zI b)] I J (nI (mk (fun i => decide (a ≤ η.sa i ∧ (η.sa i : Int) ≤ b)) κ.ns)) := by
  refine RV.in (d0 := 1) hd mt_37 (Nat.le_of_ble_eq_true rfl) (fun d' hd' => ?_)
  have bns := cb.ns; have bnb := cb.nb; have bnc := cb.nc; have bnr := cb.nr
  show EV none M_X2_saidBetween d' 0 [(0, .ref 71), (1, .int (nI a)), (2, .int (zI b))] [] (hp I J) _
  refine EV.o r_X2_saidBetween_0 (icN (0) (v := 0)) ?_
  refine EV.l (lv' := [(0, _), (1, _), (2, _), (3, _)]) r_X2_saidBetween_1 rfl ?_
  refine EV.o r_X2_saidBetween_2 (icN (0) (v := 0)) ?_
  refine EV.l (lv' := [(0, _), (1, _), (2, _), (3, _), (4, _)]) r_X2_saidBetween_3 rfl ?_
  have L5 : ∀ y_ : Nat, (fun i => i ≤ κ.ns → EV none M_X2_saidBetween d' 5 [(0, .ref 71), (1, .int (nI a)), (2, .int (zI b)), (3, .int (nI (mk (fun i => decide (a ≤ η.sa i ∧ (η.sa i : Int) ≤ b)) i))), (4, .int (nI i))] [] (hp I J) (QV I J (nI (mk (fun i => decide (a ≤ η.sa i ∧ (η.sa i : Int) ≤ b)) κ.ns)))) y_ := by
    refine ev_loop (fun i => κ.ns - i) ?_
    intro i ih5 hx5
    try dsimp only at ih5
    try dsimp only at hx5
    try dsimp only
    refine EV.l (lv' := [(0, _), (1, _), (2, _), (3, _), (4, _)]) r_X2_saidBetween_5 rfl ?_
    refine EV.l (lv' := [(0, _), (1, _), (2, _), (3, _), (4, _)]) r_X2_saidBetween_7 rfl ?_
    refine EV.gR r_X2_saidBetween_8 la_71 ?_
    refine EV.getV r_X2_saidBetween_11 la_4 (hc_.ns) ?_
    refine EV.n2_ge r_X2_saidBetween_14 (fun h14 => ?_) (fun h14 => ?_)
    · -- 14 t
      refine EV.l (lv' := [(0, _), (1, _), (2, _), (3, _), (4, _)]) r_X2_saidBetween_57 rfl ?_
      exact EV.rv r_X2_saidBetween_58 (by rw [show i = κ.ns by omega])
    · -- 14 f
      have b1 := hb_.sa i
      refine EV.l (lv' := [(0, _), (1, _), (2, _), (3, _), (4, _)]) r_X2_saidBetween_17 rfl ?_
      refine EV.gR r_X2_saidBetween_18 la_71 ?_
      refine EV.l (lv' := [(0, _), (1, _), (2, _), (3, _), (4, _)]) r_X2_saidBetween_21 rfl ?_
      refine EV.cv r_X2_saidBetween_23 (aV1 mt_92 la_72) (c_getN (by omega) la_72 la_73 (hh.sa _ (by omega))) ?_
      refine EV.l (lv' := [(0, _), (1, _), (2, _), (3, _), (4, _)]) r_X2_saidBetween_26 rfl ?_
      refine EV.n2_lt r_X2_saidBetween_27 (fun h27 => ?_) (fun h27 => ?_)
      · -- 27 t
        refine EV.l (lv' := [(0, _), (1, _), (2, _), (3, _), (4, _)]) r_X2_saidBetween_51 rfl ?_
        rw [inc_nI]
        refine EV.g r_X2_saidBetween_54 ?_
        refine EV.sub ?_ rfl ?_ (ih5 (i + 1) ?_ ?_)
        · first | rw [mk_t (p := fun i => decide (a ≤ η.sa i ∧ (η.sa i : Int) ≤ b)) (decide_eq_true (by omega))] | rw [mk_f (p := fun i => decide (a ≤ η.sa i ∧ (η.sa i : Int) ≤ b)) (decide_eq_false (by omega))] | rw [mk_t (p := fun i => decide (a ≤ η.sa i ∧ (η.sa i : Int) ≤ b)) (by assumption)] | rw [mk_f (p := fun i => decide (a ≤ η.sa i ∧ (η.sa i : Int) ≤ b)) (by assumption)]
        · rfl
        · omega
        · omega
      · -- 27 f
        refine EV.l (lv' := [(0, _), (1, _), (2, _), (3, _), (4, _)]) r_X2_saidBetween_30 rfl ?_
        refine EV.gR r_X2_saidBetween_31 la_71 ?_
        refine EV.l (lv' := [(0, _), (1, _), (2, _), (3, _), (4, _)]) r_X2_saidBetween_34 rfl ?_
        refine EV.cv r_X2_saidBetween_36 (aV1 mt_92 la_72) (c_getN (by omega) la_72 la_73 (hh.sa _ (by omega))) ?_
        refine EV.l (lv' := [(0, _), (1, _), (2, _), (3, _), (4, _)]) r_X2_saidBetween_39 rfl ?_
        refine EV.nz2_gt r_X2_saidBetween_40 (fun h40 => ?_) (fun h40 => ?_)
        · -- 40 t
          refine EV.l (lv' := [(0, _), (1, _), (2, _), (3, _), (4, _)]) r_X2_saidBetween_51 rfl ?_
          rw [inc_nI]
          refine EV.g r_X2_saidBetween_54 ?_
          refine EV.sub ?_ rfl ?_ (ih5 (i + 1) ?_ ?_)
          · first | rw [mk_t (p := fun i => decide (a ≤ η.sa i ∧ (η.sa i : Int) ≤ b)) (decide_eq_true (by omega))] | rw [mk_f (p := fun i => decide (a ≤ η.sa i ∧ (η.sa i : Int) ≤ b)) (decide_eq_false (by omega))] | rw [mk_t (p := fun i => decide (a ≤ η.sa i ∧ (η.sa i : Int) ≤ b)) (by assumption)] | rw [mk_f (p := fun i => decide (a ≤ η.sa i ∧ (η.sa i : Int) ≤ b)) (by assumption)]
          · rfl
          · omega
          · omega
        · -- 40 f
          refine EV.l (lv' := [(0, _), (1, _), (2, _), (3, _), (4, _)]) r_X2_saidBetween_43 rfl ?_
          refine EV.l (lv' := [(0, _), (1, _), (2, _), (3, _), (4, _)]) r_X2_saidBetween_44 rfl ?_
          refine EV.cv r_X2_saidBetween_46 (aS1 mt_162) (c_bit (by omega) (by omega)) ?_
          refine EV.o r_X2_saidBetween_49 iorN ?_
          refine EV.l (lv' := [(0, _), (1, _), (2, _), (3, _), (4, _)]) r_X2_saidBetween_50 rfl ?_
          refine EV.l (lv' := [(0, _), (1, _), (2, _), (3, _), (4, _)]) r_X2_saidBetween_51 rfl ?_
          rw [inc_nI]
          refine EV.g r_X2_saidBetween_54 ?_
          refine EV.sub ?_ rfl ?_ (ih5 (i + 1) ?_ ?_)
          · first | rw [mk_t (p := fun i => decide (a ≤ η.sa i ∧ (η.sa i : Int) ≤ b)) (decide_eq_true (by omega))] | rw [mk_f (p := fun i => decide (a ≤ η.sa i ∧ (η.sa i : Int) ≤ b)) (decide_eq_false (by omega))] | rw [mk_t (p := fun i => decide (a ≤ η.sa i ∧ (η.sa i : Int) ≤ b)) (by assumption)] | rw [mk_f (p := fun i => decide (a ≤ η.sa i ∧ (η.sa i : Int) ≤ b)) (by assumption)]
          · rfl
          · omega
          · omega
  have h0 := L5 (0)
  try dsimp only at h0
  refine EV.sub ?_ rfl ?_ (h0 ?_)
  · rfl
  · rfl
  · omega
theorem c_when2 {d : Nat} {I : Nat → Nat → Int32} {J : Nat → Nat → Int64} {κ : CT} {η : HS} (hc_ : HC 4 κ I) (cb : CB κ) (hh : HH 71 η I) (hb_ : HB κ η) (hw : HW κ η)  (hd : 9 ≤ d) : RV d 149 [.ref 0, .int (nI 2)] I J (nI (mk (fun i => decide (0 ≤ η.sa i ∧ (η.sa i : Int) ≤ (η.mi : Int) - 1)) κ.ns)) := by
  refine RV.in (d0 := 8) hd mt_149 (Nat.le_of_ble_eq_true rfl) (fun d' hd' => ?_)
  have bns := cb.ns; have bnb := cb.nb; have bnc := cb.nc; have bnr := cb.nr
  have bm_ := hb_.mi
  show EV none M_X10_when d' 0 [(0, .ref 0), (1, .int (nI 2))] [] (hp I J) _
  refine EV.l (lv' := [(0, _), (1, _)]) r_X10_when_0 rfl ?_
  refine EV.l (lv' := [(0, _), (1, _)]) r_X10_when_1 rfl ?_
  refine EV.n0_lt r_X10_when_2 (fun h2 => ?_) (fun h2 => ?_)
  · omega
  · -- 2 f
    refine EV.l (lv' := [(0, _), (1, _)]) r_X10_when_5 rfl ?_
    refine EV.o r_X10_when_6 (icN (2) (v := 2)) ?_
    refine EV.n2_gt r_X10_when_7 (fun h7 => ?_) (fun h7 => ?_)
    · omega
    · -- 7 f
      refine EV.o r_X10_when_10 (icN (1) (v := 1)) ?_
      refine EV.g r_X10_when_11 ?_
      refine EV.cu r_X10_when_15 (aV1 mt_159 la_0) (c_arg1 (by omega)) (fun I2 e2 => ?_)
      have e2 := e2.symm; subst e2
      refine EV.l (lv' := [(0, _), (1, _)]) r_X10_when_18 rfl ?_
      refine EV.ls (q := 86) r_X10_when_19 (by decide +kernel) ?_
      refine EV.l (lv' := [(0, _), (1, _)]) r_X10_when_86 rfl ?_
      refine EV.gR r_X10_when_87 la_0 ?_
      refine EV.o r_X10_when_90 (icN (0) (v := 0)) ?_
      refine EV.l (lv' := [(0, _), (1, _)]) r_X10_when_91 rfl ?_
      refine EV.gR r_X10_when_92 la_0 ?_
      refine EV.getV r_X10_when_95 la_71 (hh.mi) ?_
      refine EV.o r_X10_when_98 (icN (1) (v := 1)) ?_
      refine EV.o r_X10_when_99 (isubNZ) ?_
      refine EV.cv r_X10_when_100 (aV2 mt_37 la_71) (c71_saidZ hc_ cb hh hb_ (by omega) (by omega) (by omega) (by omega)) ?_
      exact EV.rv r_X10_when_103 (rfl)
theorem c_status0 {d : Nat} {I : Nat → Nat → Int32} {J : Nat → Nat → Int64}  (hd : 9 ≤ d) : RV d 154 [.ref 0, .int (nI 0)] I J (I 0 13) := by
  refine RV.in (d0 := 8) hd mt_154 (Nat.le_of_ble_eq_true rfl) (fun d' hd' => ?_)
  show EV none M_X10_status d' 0 [(0, .ref 0), (1, .int (nI 0))] [] (hp I J) _
  refine EV.l (lv' := [(0, _), (1, _)]) r_X10_status_0 rfl ?_
  refine EV.n0_ne r_X10_status_1 (fun h1 => ?_) (fun h1 => ?_)
  · omega
  · -- 1 f
    refine EV.l (lv' := [(0, _), (1, _)]) r_X10_status_4 rfl ?_
    refine EV.gI r_X10_status_5 la_0 ?_
    refine EV.g r_X10_status_8 ?_
    exact EV.rv r_X10_status_24 (rfl)
theorem c_status1 {d : Nat} {I : Nat → Nat → Int32} {J : Nat → Nat → Int64}  (hd : 9 ≤ d) : RV d 154 [.ref 0, .int (nI 1)] I J (I 0 14) := by
  refine RV.in (d0 := 8) hd mt_154 (Nat.le_of_ble_eq_true rfl) (fun d' hd' => ?_)
  show EV none M_X10_status d' 0 [(0, .ref 0), (1, .int (nI 1))] [] (hp I J) _
  refine EV.l (lv' := [(0, _), (1, _)]) r_X10_status_0 rfl ?_
  refine EV.n0_ne r_X10_status_1 (fun h1 => ?_) (fun h1 => ?_)
  · -- 1 t
    refine EV.l (lv' := [(0, _), (1, _)]) r_X10_status_11 rfl ?_
    refine EV.o r_X10_status_12 (icN (1) (v := 1)) ?_
    refine EV.n2_ne r_X10_status_13 (fun h13 => ?_) (fun h13 => ?_)
    · omega
    · -- 13 f
      refine EV.l (lv' := [(0, _), (1, _)]) r_X10_status_16 rfl ?_
      refine EV.gI r_X10_status_17 la_0 ?_
      refine EV.g r_X10_status_20 ?_
      exact EV.rv r_X10_status_24 (rfl)
  · omega
theorem c_statusX {d : Nat} {I : Nat → Nat → Int32} {J : Nat → Nat → Int64} {y : Int} (y1 : -2147483648 ≤ y) (y2 : y < 2147483648) (hy : ¬ (0 ≤ y ∧ y ≤ 1))  (hd : 9 ≤ d) : RV d 154 [.ref 0, .int (zI y)] I J (zI (-1)) := by
  refine RV.in (d0 := 8) hd mt_154 (Nat.le_of_ble_eq_true rfl) (fun d' hd' => ?_)
  show EV none M_X10_status d' 0 [(0, .ref 0), (1, .int (zI y))] [] (hp I J) _
  refine EV.l (lv' := [(0, _), (1, _)]) r_X10_status_0 rfl ?_
  refine EV.z0_ne r_X10_status_1 (fun h1 => ?_) (fun h1 => ?_)
  · -- 1 t
    refine EV.l (lv' := [(0, _), (1, _)]) r_X10_status_11 rfl ?_
    refine EV.o r_X10_status_12 (icN (1) (v := 1)) ?_
    refine EV.zn2_ne r_X10_status_13 (fun h13 => ?_) (fun h13 => ?_)
    · -- 13 t
      refine EV.o r_X10_status_23 (icZ (-1)) ?_
      exact EV.rv r_X10_status_24 (rfl)
    · omega
  · omega
theorem c_count0 {d : Nat} {I : Nat → Nat → Int32} {J : Nat → Nat → Int64}  (hd : 9 ≤ d) : RV d 155 [.ref 0, .int (nI 0)] I J (I 82 4) := by
  refine RV.in (d0 := 8) hd mt_155 (Nat.le_of_ble_eq_true rfl) (fun d' hd' => ?_)
  show EV none M_X10_count d' 0 [(0, .ref 0), (1, .int (nI 0))] [] (hp I J) _
  refine EV.l (lv' := [(0, _), (1, _)]) r_X10_count_0 rfl ?_
  refine EV.ts (q := 28) r_X10_count_1 (by decide +kernel) ?_
  refine EV.l (lv' := [(0, _), (1, _)]) r_X10_count_28 rfl ?_
  refine EV.gR r_X10_count_29 la_0 ?_
  refine EV.gI r_X10_count_32 la_82 ?_
  exact EV.rv r_X10_count_35 (rfl)
theorem c_count1 {d : Nat} {I : Nat → Nat → Int32} {J : Nat → Nat → Int64}  (hd : 9 ≤ d) : RV d 155 [.ref 0, .int (nI 1)] I J (I 1 1) := by
  refine RV.in (d0 := 8) hd mt_155 (Nat.le_of_ble_eq_true rfl) (fun d' hd' => ?_)
  show EV none M_X10_count d' 0 [(0, .ref 0), (1, .int (nI 1))] [] (hp I J) _
  refine EV.l (lv' := [(0, _), (1, _)]) r_X10_count_0 rfl ?_
  refine EV.ts (q := 36) r_X10_count_1 (by decide +kernel) ?_
  refine EV.l (lv' := [(0, _), (1, _)]) r_X10_count_36 rfl ?_
  refine EV.gR r_X10_count_37 la_0 ?_
  refine EV.gI r_X10_count_40 la_1 ?_
  exact EV.rv r_X10_count_43 (rfl)
theorem c_count2 {d : Nat} {I : Nat → Nat → Int32} {J : Nat → Nat → Int64}  (hd : 9 ≤ d) : RV d 155 [.ref 0, .int (nI 2)] I J (I 82 3) := by
  refine RV.in (d0 := 8) hd mt_155 (Nat.le_of_ble_eq_true rfl) (fun d' hd' => ?_)
  show EV none M_X10_count d' 0 [(0, .ref 0), (1, .int (nI 2))] [] (hp I J) _
  refine EV.l (lv' := [(0, _), (1, _)]) r_X10_count_0 rfl ?_
  refine EV.ts (q := 44) r_X10_count_1 (by decide +kernel) ?_
  refine EV.l (lv' := [(0, _), (1, _)]) r_X10_count_44 rfl ?_
  refine EV.gR r_X10_count_45 la_0 ?_
  refine EV.gI r_X10_count_48 la_82 ?_
  exact EV.rv r_X10_count_51 (rfl)
theorem c_fault {d : Nat} {I : Nat → Nat → Int32} {J : Nat → Nat → Int64}  (hd : 9 ≤ d) : RV d 118 [.ref 0] I J (I 1 8) := by
  refine RV.in (d0 := 8) hd mt_118 (Nat.le_of_ble_eq_true rfl) (fun d' hd' => ?_)
  show EV none M_X10_fault d' 0 [(0, .ref 0)] [] (hp I J) _
  refine EV.l (lv' := [(0, _)]) r_X10_fault_0 rfl ?_
  refine EV.gR r_X10_fault_1 la_0 ?_
  refine EV.gI r_X10_fault_4 la_1 ?_
  exact EV.rv r_X10_fault_7 (rfl)
theorem c_would {d : Nat} {I : Nat → Nat → Int32} {J : Nat → Nat → Int64} {l : LW} (hl : HL 46 l I) (lb : LB l) {a0 : Int} (a01 : -2147483648 ≤ a0) (a02 : a0 < 2147483648) {a1 : Int} (a11 : -2147483648 ≤ a1) (a12 : a1 < 2147483648) {a2 : Int} (a21 : -2147483648 ≤ a2) (a22 : a2 < 2147483648) {a3 : Int} (a31 : -2147483648 ≤ a3) (a32 : a3 < 2147483648) {a4 : Int} (a41 : -2147483648 ≤ a4) (a42 : a4 < 2147483648) {a5 : Int} (a51 : -2147483648 ≤ a5) (a52 : a5 < 2147483648) (h : 1 ≤ a0 ∧ a0 ≤ 20 ∧ 0 ≤ a1 ∧ a1 ≤ 400 ∧ 0 ≤ a2 ∧ a2 ≤ 160 ∧ 0 ≤ a3 ∧ a3 ≤ 999 ∧ 0 ≤ a4 ∧ a4 ≤ 9 ∧ 0 ≤ a5 ∧ a5 ≤ 3)  (hd : 9 ≤ d) : RI d 125 [.ref 0, .int (zI a0), .int (zI a1), .int (zI a2), .int (zI a3), .int (zI a4), .int (zI a5)] I J (fun v I' => v = nI (wkf l (fa (zI a0) (zI a1) (zI a2) (zI a3) (zI a4) (zI a5))) ∧ FR I I') := by
  refine RI.in (d0 := 8) hd mt_125 (Nat.le_of_ble_eq_true rfl) (fun d' hd' => ?_)
  show EV none M_X10_would d' 0 [(0, .ref 0), (1, .int (zI a0)), (2, .int (zI a1)), (3, .int (zI a2)), (4, .int (zI a3)), (5, .int (zI a4)), (6, .int (zI a5))] [] (hp I J) _
  refine EV.l (lv' := [(0, _), (1, _), (2, _), (3, _), (4, _), (5, _), (6, _)]) r_X10_would_0 rfl ?_
  refine EV.l (lv' := [(0, _), (1, _), (2, _), (3, _), (4, _), (5, _), (6, _)]) r_X10_would_1 rfl ?_
  refine EV.o r_X10_would_2 (icN (1) (v := 1)) ?_
  refine EV.zn2_lt r_X10_would_3 (fun h3 => ?_) (fun h3 => ?_)
  · -- 3 t
    refine EV.o r_X10_would_27 (icN (0) (v := 0)) ?_
    omega
  · -- 3 f
    refine EV.l (lv' := [(0, _), (1, _), (2, _), (3, _), (4, _), (5, _), (6, _)]) r_X10_would_6 rfl ?_
    refine EV.o r_X10_would_7 (bpN (20) 20) ?_
    refine EV.zn2_gt r_X10_would_9 (fun h9 => ?_) (fun h9 => ?_)
    · -- 9 t
      refine EV.o r_X10_would_27 (icN (0) (v := 0)) ?_
      omega
    · -- 9 f
      refine EV.l (lv' := [(0, _), (1, _), (2, _), (3, _), (4, _), (5, _), (6, _)]) r_X10_would_12 rfl ?_
      refine EV.z0_lt r_X10_would_13 (fun h13 => ?_) (fun h13 => ?_)
      · -- 13 t
        refine EV.o r_X10_would_27 (icN (0) (v := 0)) ?_
        omega
      · -- 13 f
        refine EV.l (lv' := [(0, _), (1, _), (2, _), (3, _), (4, _), (5, _), (6, _)]) r_X10_would_16 rfl ?_
        refine EV.o r_X10_would_17 (spN (400) 400) ?_
        refine EV.zn2_gt r_X10_would_20 (fun h20 => ?_) (fun h20 => ?_)
        · -- 20 t
          refine EV.o r_X10_would_27 (icN (0) (v := 0)) ?_
          omega
        · -- 20 f
          refine EV.o r_X10_would_23 (icN (1) (v := 1)) ?_
          refine EV.g r_X10_would_24 ?_
          refine EV.cu r_X10_would_28 (aV1 mt_159 la_0) (c_arg1 (by omega)) (fun I2 e2 => ?_)
          have e2 := e2.symm; subst e2
          refine EV.l (lv' := [(0, _), (1, _), (2, _), (3, _), (4, _), (5, _), (6, _)]) r_X10_would_31 rfl ?_
          refine EV.l (lv' := [(0, _), (1, _), (2, _), (3, _), (4, _), (5, _), (6, _)]) r_X10_would_32 rfl ?_
          refine EV.z0_lt r_X10_would_33 (fun h33 => ?_) (fun h33 => ?_)
          · -- 33 t
            refine EV.o r_X10_would_60 (icN (0) (v := 0)) ?_
            omega
          · -- 33 f
            refine EV.l (lv' := [(0, _), (1, _), (2, _), (3, _), (4, _), (5, _), (6, _)]) r_X10_would_36 rfl ?_
            refine EV.o r_X10_would_37 (spN (160) 160) ?_
            refine EV.zn2_gt r_X10_would_40 (fun h40 => ?_) (fun h40 => ?_)
            · -- 40 t
              refine EV.o r_X10_would_60 (icN (0) (v := 0)) ?_
              omega
            · -- 40 f
              refine EV.l (lv' := [(0, _), (1, _), (2, _), (3, _), (4, _), (5, _), (6, _)]) r_X10_would_43 rfl ?_
              refine EV.z0_lt r_X10_would_45 (fun h45 => ?_) (fun h45 => ?_)
              · -- 45 t
                refine EV.o r_X10_would_60 (icN (0) (v := 0)) ?_
                omega
              · -- 45 f
                refine EV.l (lv' := [(0, _), (1, _), (2, _), (3, _), (4, _), (5, _), (6, _)]) r_X10_would_48 rfl ?_
                refine EV.o r_X10_would_50 (spN (999) 999) ?_
                refine EV.zn2_gt r_X10_would_53 (fun h53 => ?_) (fun h53 => ?_)
                · -- 53 t
                  refine EV.o r_X10_would_60 (icN (0) (v := 0)) ?_
                  omega
                · -- 53 f
                  refine EV.o r_X10_would_56 (icN (1) (v := 1)) ?_
                  refine EV.g r_X10_would_57 ?_
                  refine EV.cu r_X10_would_61 (aV1 mt_159 la_0) (c_arg1 (by omega)) (fun I2 e2 => ?_)
                  have e2 := e2.symm; subst e2
                  refine EV.l (lv' := [(0, _), (1, _), (2, _), (3, _), (4, _), (5, _), (6, _)]) r_X10_would_64 rfl ?_
                  refine EV.l (lv' := [(0, _), (1, _), (2, _), (3, _), (4, _), (5, _), (6, _)]) r_X10_would_65 rfl ?_
                  refine EV.z0_lt r_X10_would_67 (fun h67 => ?_) (fun h67 => ?_)
                  · -- 67 t
                    refine EV.o r_X10_would_92 (icN (0) (v := 0)) ?_
                    omega
                  · -- 67 f
                    refine EV.l (lv' := [(0, _), (1, _), (2, _), (3, _), (4, _), (5, _), (6, _)]) r_X10_would_70 rfl ?_
                    refine EV.o r_X10_would_72 (bpN (9) 9) ?_
                    refine EV.zn2_gt r_X10_would_74 (fun h74 => ?_) (fun h74 => ?_)
                    · -- 74 t
                      refine EV.o r_X10_would_92 (icN (0) (v := 0)) ?_
                      omega
                    · -- 74 f
                      refine EV.l (lv' := [(0, _), (1, _), (2, _), (3, _), (4, _), (5, _), (6, _)]) r_X10_would_77 rfl ?_
                      refine EV.z0_lt r_X10_would_79 (fun h79 => ?_) (fun h79 => ?_)
                      · -- 79 t
                        refine EV.o r_X10_would_92 (icN (0) (v := 0)) ?_
                        omega
                      · -- 79 f
                        refine EV.l (lv' := [(0, _), (1, _), (2, _), (3, _), (4, _), (5, _), (6, _)]) r_X10_would_82 rfl ?_
                        refine EV.o r_X10_would_84 (icN (4) (v := 4)) ?_
                        refine EV.zn2_ge r_X10_would_85 (fun h85 => ?_) (fun h85 => ?_)
                        · -- 85 t
                          refine EV.o r_X10_would_92 (icN (0) (v := 0)) ?_
                          omega
                        · -- 85 f
                          refine EV.o r_X10_would_88 (icN (1) (v := 1)) ?_
                          refine EV.g r_X10_would_89 ?_
                          refine EV.cu r_X10_would_93 (aV1 mt_159 la_0) (c_arg1 (by omega)) (fun I2 e2 => ?_)
                          have e2 := e2.symm; subst e2
                          refine EV.l (lv' := [(0, _), (1, _), (2, _), (3, _), (4, _), (5, _), (6, _)]) r_X10_would_96 rfl ?_
                          refine EV.gR r_X10_would_97 la_0 ?_
                          refine EV.l (lv' := [(0, _), (1, _), (2, _), (3, _), (4, _), (5, _), (6, _)]) r_X10_would_100 rfl ?_
                          refine EV.l (lv' := [(0, _), (1, _), (2, _), (3, _), (4, _), (5, _), (6, _)]) r_X10_would_101 rfl ?_
                          refine EV.l (lv' := [(0, _), (1, _), (2, _), (3, _), (4, _), (5, _), (6, _)]) r_X10_would_102 rfl ?_
                          refine EV.l (lv' := [(0, _), (1, _), (2, _), (3, _), (4, _), (5, _), (6, _)]) r_X10_would_103 rfl ?_
                          refine EV.l (lv' := [(0, _), (1, _), (2, _), (3, _), (4, _), (5, _), (6, _)]) r_X10_would_105 rfl ?_
                          refine EV.l (lv' := [(0, _), (1, _), (2, _), (3, _), (4, _), (5, _), (6, _)]) r_X10_would_107 rfl ?_
                          refine EV.ci r_X10_would_109 (aV6 mt_57 la_46) (c_walk hl lb (by omega)) (fun v I2 h2 => ?_)
                          obtain ⟨e, fr_⟩ := h2
                          subst e
                          exact EV.ri r_X10_would_112 (⟨rfl, FR.lw fr_⟩)
theorem c_wouldX {d : Nat} {I : Nat → Nat → Int32} {J : Nat → Nat → Int64} {κ : CT} (hc_ : HC 4 κ I) (cb : CB κ) {a0 : Int} (a01 : -2147483648 ≤ a0) (a02 : a0 < 2147483648) {a1 : Int} (a11 : -2147483648 ≤ a1) (a12 : a1 < 2147483648) {a2 : Int} (a21 : -2147483648 ≤ a2) (a22 : a2 < 2147483648) {a3 : Int} (a31 : -2147483648 ≤ a3) (a32 : a3 < 2147483648) {a4 : Int} (a41 : -2147483648 ≤ a4) (a42 : a4 < 2147483648) {a5 : Int} (a51 : -2147483648 ≤ a5) (a52 : a5 < 2147483648) (h : ¬ (1 ≤ a0 ∧ a0 ≤ 20 ∧ 0 ≤ a1 ∧ a1 ≤ 400 ∧ 0 ≤ a2 ∧ a2 ≤ 160 ∧ 0 ≤ a3 ∧ a3 ≤ 999 ∧ 0 ≤ a4 ∧ a4 ≤ 9 ∧ 0 ≤ a5 ∧ a5 ≤ 3))  (hd : 9 ≤ d) : RX d 125 [.ref 0, .int (zI a0), .int (zI a1), .int (zI a2), .int (zI a3), .int (zI a4), .int (zI a5)] I J 1 (fun I' => I' = ref1 I 14) := by
  refine RX.in (d0 := 8) hd mt_125 (Nat.le_of_ble_eq_true rfl) (fun d' hd' => ?_)
  have bns := cb.ns; have bnb := cb.nb; have bnc := cb.nc; have bnr := cb.nr
  have pn := Nat.two_pow_pos κ.ns; have qn := pow_ns cb; have pc := Nat.two_pow_pos κ.nc; have qc := pow_nc cb
  show EV none M_X10_would d' 0 [(0, .ref 0), (1, .int (zI a0)), (2, .int (zI a1)), (3, .int (zI a2)), (4, .int (zI a3)), (5, .int (zI a4)), (6, .int (zI a5))] [] (hp I J) _
  refine EV.l (lv' := [(0, _), (1, _), (2, _), (3, _), (4, _), (5, _), (6, _)]) r_X10_would_0 rfl ?_
  refine EV.l (lv' := [(0, _), (1, _), (2, _), (3, _), (4, _), (5, _), (6, _)]) r_X10_would_1 rfl ?_
  refine EV.o r_X10_would_2 (icN (1) (v := 1)) ?_
  refine EV.zn2_lt r_X10_would_3 (fun h3 => ?_) (fun h3 => ?_)
  · -- 3 t
    refine EV.o r_X10_would_27 (icN (0) (v := 0)) ?_
    exact EV.cx r_X10_would_28 (aV1 mt_159 la_0) (c_arg0 (by omega)) (fun _ h => h)
  · -- 3 f
    refine EV.l (lv' := [(0, _), (1, _), (2, _), (3, _), (4, _), (5, _), (6, _)]) r_X10_would_6 rfl ?_
    refine EV.o r_X10_would_7 (bpN (20) 20) ?_
    refine EV.zn2_gt r_X10_would_9 (fun h9 => ?_) (fun h9 => ?_)
    · -- 9 t
      refine EV.o r_X10_would_27 (icN (0) (v := 0)) ?_
      exact EV.cx r_X10_would_28 (aV1 mt_159 la_0) (c_arg0 (by omega)) (fun _ h => h)
    · -- 9 f
      refine EV.l (lv' := [(0, _), (1, _), (2, _), (3, _), (4, _), (5, _), (6, _)]) r_X10_would_12 rfl ?_
      refine EV.z0_lt r_X10_would_13 (fun h13 => ?_) (fun h13 => ?_)
      · -- 13 t
        refine EV.o r_X10_would_27 (icN (0) (v := 0)) ?_
        exact EV.cx r_X10_would_28 (aV1 mt_159 la_0) (c_arg0 (by omega)) (fun _ h => h)
      · -- 13 f
        refine EV.l (lv' := [(0, _), (1, _), (2, _), (3, _), (4, _), (5, _), (6, _)]) r_X10_would_16 rfl ?_
        refine EV.o r_X10_would_17 (spN (400) 400) ?_
        refine EV.zn2_gt r_X10_would_20 (fun h20 => ?_) (fun h20 => ?_)
        · -- 20 t
          refine EV.o r_X10_would_27 (icN (0) (v := 0)) ?_
          exact EV.cx r_X10_would_28 (aV1 mt_159 la_0) (c_arg0 (by omega)) (fun _ h => h)
        · -- 20 f
          refine EV.o r_X10_would_23 (icN (1) (v := 1)) ?_
          refine EV.g r_X10_would_24 ?_
          refine EV.cu r_X10_would_28 (aV1 mt_159 la_0) (c_arg1 (by omega)) (fun I2 e2 => ?_)
          have e2 := e2.symm; subst e2
          refine EV.l (lv' := [(0, _), (1, _), (2, _), (3, _), (4, _), (5, _), (6, _)]) r_X10_would_31 rfl ?_
          refine EV.l (lv' := [(0, _), (1, _), (2, _), (3, _), (4, _), (5, _), (6, _)]) r_X10_would_32 rfl ?_
          refine EV.z0_lt r_X10_would_33 (fun h33 => ?_) (fun h33 => ?_)
          · -- 33 t
            refine EV.o r_X10_would_60 (icN (0) (v := 0)) ?_
            exact EV.cx r_X10_would_61 (aV1 mt_159 la_0) (c_arg0 (by omega)) (fun _ h => h)
          · -- 33 f
            refine EV.l (lv' := [(0, _), (1, _), (2, _), (3, _), (4, _), (5, _), (6, _)]) r_X10_would_36 rfl ?_
            refine EV.o r_X10_would_37 (spN (160) 160) ?_
            refine EV.zn2_gt r_X10_would_40 (fun h40 => ?_) (fun h40 => ?_)
            · -- 40 t
              refine EV.o r_X10_would_60 (icN (0) (v := 0)) ?_
              exact EV.cx r_X10_would_61 (aV1 mt_159 la_0) (c_arg0 (by omega)) (fun _ h => h)
            · -- 40 f
              refine EV.l (lv' := [(0, _), (1, _), (2, _), (3, _), (4, _), (5, _), (6, _)]) r_X10_would_43 rfl ?_
              refine EV.z0_lt r_X10_would_45 (fun h45 => ?_) (fun h45 => ?_)
              · -- 45 t
                refine EV.o r_X10_would_60 (icN (0) (v := 0)) ?_
                exact EV.cx r_X10_would_61 (aV1 mt_159 la_0) (c_arg0 (by omega)) (fun _ h => h)
              · -- 45 f
                refine EV.l (lv' := [(0, _), (1, _), (2, _), (3, _), (4, _), (5, _), (6, _)]) r_X10_would_48 rfl ?_
                refine EV.o r_X10_would_50 (spN (999) 999) ?_
                refine EV.zn2_gt r_X10_would_53 (fun h53 => ?_) (fun h53 => ?_)
                · -- 53 t
                  refine EV.o r_X10_would_60 (icN (0) (v := 0)) ?_
                  exact EV.cx r_X10_would_61 (aV1 mt_159 la_0) (c_arg0 (by omega)) (fun _ h => h)
                · -- 53 f
                  refine EV.o r_X10_would_56 (icN (1) (v := 1)) ?_
                  refine EV.g r_X10_would_57 ?_
                  refine EV.cu r_X10_would_61 (aV1 mt_159 la_0) (c_arg1 (by omega)) (fun I2 e2 => ?_)
                  have e2 := e2.symm; subst e2
                  refine EV.l (lv' := [(0, _), (1, _), (2, _), (3, _), (4, _), (5, _), (6, _)]) r_X10_would_64 rfl ?_
                  refine EV.l (lv' := [(0, _), (1, _), (2, _), (3, _), (4, _), (5, _), (6, _)]) r_X10_would_65 rfl ?_
                  refine EV.z0_lt r_X10_would_67 (fun h67 => ?_) (fun h67 => ?_)
                  · -- 67 t
                    refine EV.o r_X10_would_92 (icN (0) (v := 0)) ?_
                    exact EV.cx r_X10_would_93 (aV1 mt_159 la_0) (c_arg0 (by omega)) (fun _ h => h)
                  · -- 67 f
                    refine EV.l (lv' := [(0, _), (1, _), (2, _), (3, _), (4, _), (5, _), (6, _)]) r_X10_would_70 rfl ?_
                    refine EV.o r_X10_would_72 (bpN (9) 9) ?_
                    refine EV.zn2_gt r_X10_would_74 (fun h74 => ?_) (fun h74 => ?_)
                    · -- 74 t
                      refine EV.o r_X10_would_92 (icN (0) (v := 0)) ?_
                      exact EV.cx r_X10_would_93 (aV1 mt_159 la_0) (c_arg0 (by omega)) (fun _ h => h)
                    · -- 74 f
                      refine EV.l (lv' := [(0, _), (1, _), (2, _), (3, _), (4, _), (5, _), (6, _)]) r_X10_would_77 rfl ?_
                      refine EV.z0_lt r_X10_would_79 (fun h79 => ?_) (fun h79 => ?_)
                      · -- 79 t
                        refine EV.o r_X10_would_92 (icN (0) (v := 0)) ?_
                        exact EV.cx r_X10_would_93 (aV1 mt_159 la_0) (c_arg0 (by omega)) (fun _ h => h)
                      · -- 79 f
                        refine EV.l (lv' := [(0, _), (1, _), (2, _), (3, _), (4, _), (5, _), (6, _)]) r_X10_would_82 rfl ?_
                        refine EV.o r_X10_would_84 (icN (4) (v := 4)) ?_
                        refine EV.zn2_ge r_X10_would_85 (fun h85 => ?_) (fun h85 => ?_)
                        · -- 85 t
                          refine EV.o r_X10_would_92 (icN (0) (v := 0)) ?_
                          exact EV.cx r_X10_would_93 (aV1 mt_159 la_0) (c_arg0 (by omega)) (fun _ h => h)
                        · -- 85 f
                          refine EV.o r_X10_would_88 (icN (1) (v := 1)) ?_
                          refine EV.g r_X10_would_89 ?_
                          omega
