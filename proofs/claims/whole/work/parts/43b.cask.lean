/-! (goes on) -/
theorem c_side1 {d : Nat} {I : Nat → Nat → Int32} {J : Nat → Nat → Int64} {κ : CT} {η : HS} (hc_ : HC 4 κ I) (cb : CB κ) (hh : HH 71 η I) (hb_ : HB κ η) (hw : HW κ η) {s : Nat} (h : s < 2)  (hd : 9 ≤ d) : RV d 139 [.ref 0, .int (nI s), .int (nI 1)] I J (nI (wtOf κ (ofSd κ s &&& η.nt) κ.ns)) := by
  refine RV.in (d0 := 8) hd mt_139 (Nat.le_of_ble_eq_true rfl) (fun d' hd' => ?_)
  have bns := cb.ns; have bnb := cb.nb; have bnc := cb.nc; have bnr := cb.nr
  have bm_ := hb_.mi
  have o9 : ofSd κ s < 512 := mk_ns cb _
  have o1 : ofSd κ s &&& heard κ η η.mi < 512 := and_lt9 o9; have o2 : ofSd κ s &&& η.nt < 512 := and_lt9 o9
  show EV none M_X10_side d' 0 [(0, .ref 0), (1, .int (nI s)), (2, .int (nI 1))] [] (hp I J) _
  refine EV.l (lv' := [(0, _), (1, _), (2, _)]) r_X10_side_0 rfl ?_
  refine EV.l (lv' := [(0, _), (1, _), (2, _)]) r_X10_side_1 rfl ?_
  refine EV.n0_eq r_X10_side_2 (fun h2 => ?_) (fun h2 => ?_)
  · -- 2 t
    refine EV.l (lv' := [(0, _), (1, _), (2, _)]) r_X10_side_10 rfl ?_
    refine EV.n0_lt r_X10_side_11 (fun h11 => ?_) (fun h11 => ?_)
    · omega
    · -- 11 f
      refine EV.l (lv' := [(0, _), (1, _), (2, _)]) r_X10_side_14 rfl ?_
      refine EV.o r_X10_side_15 (icN (2) (v := 2)) ?_
      refine EV.n2_gt r_X10_side_16 (fun h16 => ?_) (fun h16 => ?_)
      · omega
      · -- 16 f
        refine EV.o r_X10_side_19 (icN (1) (v := 1)) ?_
        refine EV.g r_X10_side_20 ?_
        refine EV.cu r_X10_side_24 (aV1 mt_159 la_0) (c_arg1 (by omega)) (fun I2 e2 => ?_)
        have e2 := e2.symm; subst e2
        refine EV.l (lv' := [(0, _), (1, _), (2, _)]) r_X10_side_27 rfl ?_
        refine EV.gR r_X10_side_28 la_0 ?_
        refine EV.l (lv' := [(0, _), (1, _), (2, _)]) r_X10_side_31 rfl ?_
        refine EV.cv r_X10_side_32 (aV1 mt_16 la_4) (b_ofSide hc_ cb (by omega) (by omega)) ?_
        refine EV.l (lv' := [(0, _), (1, _), (2, _), (3, _)]) r_X10_side_35 rfl ?_
        refine EV.l (lv' := [(0, _), (1, _), (2, _), (3, _)]) r_X10_side_36 rfl ?_
        refine EV.ls (q := 88) r_X10_side_37 (by decide +kernel) ?_
        refine EV.l (lv' := [(0, _), (1, _), (2, _), (3, _)]) r_X10_side_88 rfl ?_
        refine EV.gR r_X10_side_89 la_0 ?_
        refine EV.l (lv' := [(0, _), (1, _), (2, _), (3, _)]) r_X10_side_92 rfl ?_
        refine EV.l (lv' := [(0, _), (1, _), (2, _), (3, _)]) r_X10_side_93 rfl ?_
        refine EV.gR r_X10_side_94 la_0 ?_
        refine EV.getV r_X10_side_97 la_71 (hh.nt) ?_
        refine EV.o r_X10_side_100 iandN ?_
        refine EV.cv r_X10_side_101 (aV1 mt_17 la_4) (b_weight hc_ cb (by omega) (by omega)) ?_
        exact EV.rv r_X10_side_104 (rfl)
  · -- 2 f
    refine EV.l (lv' := [(0, _), (1, _), (2, _)]) r_X10_side_5 rfl ?_
    refine EV.o r_X10_side_6 (icN (1) (v := 1)) ?_
    refine EV.n2_ne r_X10_side_7 (fun h7 => ?_) (fun h7 => ?_)
    · -- 7 t
      refine EV.o r_X10_side_23 (icN (0) (v := 0)) ?_
      omega
    · -- 7 f
      refine EV.l (lv' := [(0, _), (1, _), (2, _)]) r_X10_side_10 rfl ?_
      refine EV.n0_lt r_X10_side_11 (fun h11 => ?_) (fun h11 => ?_)
      · omega
      · -- 11 f
        refine EV.l (lv' := [(0, _), (1, _), (2, _)]) r_X10_side_14 rfl ?_
        refine EV.o r_X10_side_15 (icN (2) (v := 2)) ?_
        refine EV.n2_gt r_X10_side_16 (fun h16 => ?_) (fun h16 => ?_)
        · omega
        · -- 16 f
          refine EV.o r_X10_side_19 (icN (1) (v := 1)) ?_
          refine EV.g r_X10_side_20 ?_
          refine EV.cu r_X10_side_24 (aV1 mt_159 la_0) (c_arg1 (by omega)) (fun I2 e2 => ?_)
          have e2 := e2.symm; subst e2
          refine EV.l (lv' := [(0, _), (1, _), (2, _)]) r_X10_side_27 rfl ?_
          refine EV.gR r_X10_side_28 la_0 ?_
          refine EV.l (lv' := [(0, _), (1, _), (2, _)]) r_X10_side_31 rfl ?_
          refine EV.cv r_X10_side_32 (aV1 mt_16 la_4) (b_ofSide hc_ cb (by omega) (by omega)) ?_
          refine EV.l (lv' := [(0, _), (1, _), (2, _), (3, _)]) r_X10_side_35 rfl ?_
          refine EV.l (lv' := [(0, _), (1, _), (2, _), (3, _)]) r_X10_side_36 rfl ?_
          refine EV.ls (q := 88) r_X10_side_37 (by decide +kernel) ?_
          refine EV.l (lv' := [(0, _), (1, _), (2, _), (3, _)]) r_X10_side_88 rfl ?_
          refine EV.gR r_X10_side_89 la_0 ?_
          refine EV.l (lv' := [(0, _), (1, _), (2, _), (3, _)]) r_X10_side_92 rfl ?_
          refine EV.l (lv' := [(0, _), (1, _), (2, _), (3, _)]) r_X10_side_93 rfl ?_
          refine EV.gR r_X10_side_94 la_0 ?_
          refine EV.getV r_X10_side_97 la_71 (hh.nt) ?_
          refine EV.o r_X10_side_100 iandN ?_
          refine EV.cv r_X10_side_101 (aV1 mt_17 la_4) (b_weight hc_ cb (by omega) (by omega)) ?_
          exact EV.rv r_X10_side_104 (rfl)
theorem c_side2 {d : Nat} {I : Nat → Nat → Int32} {J : Nat → Nat → Int64} {κ : CT} {η : HS} (hc_ : HC 4 κ I) (cb : CB κ) (hh : HH 71 η I) (hb_ : HB κ η) (hw : HW κ η) {s : Nat} (h : s < 2)  (hd : 9 ≤ d) : RV d 139 [.ref 0, .int (nI s), .int (nI 2)] I J (nI (wtOf κ (ofSd κ s) κ.ns)) := by
  refine RV.in (d0 := 8) hd mt_139 (Nat.le_of_ble_eq_true rfl) (fun d' hd' => ?_)
  have bns := cb.ns; have bnb := cb.nb; have bnc := cb.nc; have bnr := cb.nr
  have bm_ := hb_.mi
  have o9 : ofSd κ s < 512 := mk_ns cb _
  have o1 : ofSd κ s &&& heard κ η η.mi < 512 := and_lt9 o9; have o2 : ofSd κ s &&& η.nt < 512 := and_lt9 o9
  show EV none M_X10_side d' 0 [(0, .ref 0), (1, .int (nI s)), (2, .int (nI 2))] [] (hp I J) _
  refine EV.l (lv' := [(0, _), (1, _), (2, _)]) r_X10_side_0 rfl ?_
  refine EV.l (lv' := [(0, _), (1, _), (2, _)]) r_X10_side_1 rfl ?_
  refine EV.n0_eq r_X10_side_2 (fun h2 => ?_) (fun h2 => ?_)
  · -- 2 t
    refine EV.l (lv' := [(0, _), (1, _), (2, _)]) r_X10_side_10 rfl ?_
    refine EV.n0_lt r_X10_side_11 (fun h11 => ?_) (fun h11 => ?_)
    · omega
    · -- 11 f
      refine EV.l (lv' := [(0, _), (1, _), (2, _)]) r_X10_side_14 rfl ?_
      refine EV.o r_X10_side_15 (icN (2) (v := 2)) ?_
      refine EV.n2_gt r_X10_side_16 (fun h16 => ?_) (fun h16 => ?_)
      · omega
      · -- 16 f
        refine EV.o r_X10_side_19 (icN (1) (v := 1)) ?_
        refine EV.g r_X10_side_20 ?_
        refine EV.cu r_X10_side_24 (aV1 mt_159 la_0) (c_arg1 (by omega)) (fun I2 e2 => ?_)
        have e2 := e2.symm; subst e2
        refine EV.l (lv' := [(0, _), (1, _), (2, _)]) r_X10_side_27 rfl ?_
        refine EV.gR r_X10_side_28 la_0 ?_
        refine EV.l (lv' := [(0, _), (1, _), (2, _)]) r_X10_side_31 rfl ?_
        refine EV.cv r_X10_side_32 (aV1 mt_16 la_4) (b_ofSide hc_ cb (by omega) (by omega)) ?_
        refine EV.l (lv' := [(0, _), (1, _), (2, _), (3, _)]) r_X10_side_35 rfl ?_
        refine EV.l (lv' := [(0, _), (1, _), (2, _), (3, _)]) r_X10_side_36 rfl ?_
        refine EV.ls (q := 105) r_X10_side_37 (by decide +kernel) ?_
        refine EV.l (lv' := [(0, _), (1, _), (2, _), (3, _)]) r_X10_side_105 rfl ?_
        refine EV.gR r_X10_side_106 la_0 ?_
        refine EV.l (lv' := [(0, _), (1, _), (2, _), (3, _)]) r_X10_side_109 rfl ?_
        refine EV.cv r_X10_side_110 (aV1 mt_17 la_4) (b_weight hc_ cb (by omega) (by omega)) ?_
        exact EV.rv r_X10_side_113 (rfl)
  · -- 2 f
    refine EV.l (lv' := [(0, _), (1, _), (2, _)]) r_X10_side_5 rfl ?_
    refine EV.o r_X10_side_6 (icN (1) (v := 1)) ?_
    refine EV.n2_ne r_X10_side_7 (fun h7 => ?_) (fun h7 => ?_)
    · -- 7 t
      refine EV.o r_X10_side_23 (icN (0) (v := 0)) ?_
      omega
    · -- 7 f
      refine EV.l (lv' := [(0, _), (1, _), (2, _)]) r_X10_side_10 rfl ?_
      refine EV.n0_lt r_X10_side_11 (fun h11 => ?_) (fun h11 => ?_)
      · omega
      · -- 11 f
        refine EV.l (lv' := [(0, _), (1, _), (2, _)]) r_X10_side_14 rfl ?_
        refine EV.o r_X10_side_15 (icN (2) (v := 2)) ?_
        refine EV.n2_gt r_X10_side_16 (fun h16 => ?_) (fun h16 => ?_)
        · omega
        · -- 16 f
          refine EV.o r_X10_side_19 (icN (1) (v := 1)) ?_
          refine EV.g r_X10_side_20 ?_
          refine EV.cu r_X10_side_24 (aV1 mt_159 la_0) (c_arg1 (by omega)) (fun I2 e2 => ?_)
          have e2 := e2.symm; subst e2
          refine EV.l (lv' := [(0, _), (1, _), (2, _)]) r_X10_side_27 rfl ?_
          refine EV.gR r_X10_side_28 la_0 ?_
          refine EV.l (lv' := [(0, _), (1, _), (2, _)]) r_X10_side_31 rfl ?_
          refine EV.cv r_X10_side_32 (aV1 mt_16 la_4) (b_ofSide hc_ cb (by omega) (by omega)) ?_
          refine EV.l (lv' := [(0, _), (1, _), (2, _), (3, _)]) r_X10_side_35 rfl ?_
          refine EV.l (lv' := [(0, _), (1, _), (2, _), (3, _)]) r_X10_side_36 rfl ?_
          refine EV.ls (q := 105) r_X10_side_37 (by decide +kernel) ?_
          refine EV.l (lv' := [(0, _), (1, _), (2, _), (3, _)]) r_X10_side_105 rfl ?_
          refine EV.gR r_X10_side_106 la_0 ?_
          refine EV.l (lv' := [(0, _), (1, _), (2, _), (3, _)]) r_X10_side_109 rfl ?_
          refine EV.cv r_X10_side_110 (aV1 mt_17 la_4) (b_weight hc_ cb (by omega) (by omega)) ?_
          exact EV.rv r_X10_side_113 (rfl)
theorem c_sideX {d : Nat} {I : Nat → Nat → Int32} {J : Nat → Nat → Int64} {κ : CT} (hc_ : HC 4 κ I) (cb : CB κ) {x : Int} (x1 : -2147483648 ≤ x) (x2 : x < 2147483648) {y : Int} (y1 : -2147483648 ≤ y) (y2 : y < 2147483648) (hy : ¬ (0 ≤ x ∧ x ≤ 1 ∧ 0 ≤ y ∧ y ≤ 2))  (hd : 9 ≤ d) : RX d 139 [.ref 0, .int (zI x), .int (zI y)] I J 1 (fun I' => I' = ref1 I 14) := by
  refine RX.in (d0 := 8) hd mt_139 (Nat.le_of_ble_eq_true rfl) (fun d' hd' => ?_)
  have bns := cb.ns; have bnb := cb.nb; have bnc := cb.nc; have bnr := cb.nr
  have pn := Nat.two_pow_pos κ.ns; have qn := pow_ns cb; have pc := Nat.two_pow_pos κ.nc; have qc := pow_nc cb
  show EV none M_X10_side d' 0 [(0, .ref 0), (1, .int (zI x)), (2, .int (zI y))] [] (hp I J) _
  refine EV.l (lv' := [(0, _), (1, _), (2, _)]) r_X10_side_0 rfl ?_
  refine EV.l (lv' := [(0, _), (1, _), (2, _)]) r_X10_side_1 rfl ?_
  refine EV.z0_eq r_X10_side_2 (fun h2 => ?_) (fun h2 => ?_)
  · -- 2 t
    refine EV.l (lv' := [(0, _), (1, _), (2, _)]) r_X10_side_10 rfl ?_
    refine EV.z0_lt r_X10_side_11 (fun h11 => ?_) (fun h11 => ?_)
    · -- 11 t
      refine EV.o r_X10_side_23 (icN (0) (v := 0)) ?_
      exact EV.cx r_X10_side_24 (aV1 mt_159 la_0) (c_arg0 (by omega)) (fun _ h => h)
    · -- 11 f
      refine EV.l (lv' := [(0, _), (1, _), (2, _)]) r_X10_side_14 rfl ?_
      refine EV.o r_X10_side_15 (icN (2) (v := 2)) ?_
      refine EV.zn2_gt r_X10_side_16 (fun h16 => ?_) (fun h16 => ?_)
      · -- 16 t
        refine EV.o r_X10_side_23 (icN (0) (v := 0)) ?_
        exact EV.cx r_X10_side_24 (aV1 mt_159 la_0) (c_arg0 (by omega)) (fun _ h => h)
      · -- 16 f
        refine EV.o r_X10_side_19 (icN (1) (v := 1)) ?_
        refine EV.g r_X10_side_20 ?_
        omega
  · -- 2 f
    refine EV.l (lv' := [(0, _), (1, _), (2, _)]) r_X10_side_5 rfl ?_
    refine EV.o r_X10_side_6 (icN (1) (v := 1)) ?_
    refine EV.zn2_ne r_X10_side_7 (fun h7 => ?_) (fun h7 => ?_)
    · -- 7 t
      refine EV.o r_X10_side_23 (icN (0) (v := 0)) ?_
      exact EV.cx r_X10_side_24 (aV1 mt_159 la_0) (c_arg0 (by omega)) (fun _ h => h)
    · -- 7 f
      refine EV.l (lv' := [(0, _), (1, _), (2, _)]) r_X10_side_10 rfl ?_
      refine EV.z0_lt r_X10_side_11 (fun h11 => ?_) (fun h11 => ?_)
      · -- 11 t
        refine EV.o r_X10_side_23 (icN (0) (v := 0)) ?_
        exact EV.cx r_X10_side_24 (aV1 mt_159 la_0) (c_arg0 (by omega)) (fun _ h => h)
      · -- 11 f
        refine EV.l (lv' := [(0, _), (1, _), (2, _)]) r_X10_side_14 rfl ?_
        refine EV.o r_X10_side_15 (icN (2) (v := 2)) ?_
        refine EV.zn2_gt r_X10_side_16 (fun h16 => ?_) (fun h16 => ?_)
        · -- 16 t
          refine EV.o r_X10_side_23 (icN (0) (v := 0)) ?_
          exact EV.cx r_X10_side_24 (aV1 mt_159 la_0) (c_arg0 (by omega)) (fun _ h => h)
        · -- 16 f
          refine EV.o r_X10_side_19 (icN (1) (v := 1)) ?_
          refine EV.g r_X10_side_20 ?_
          omega
theorem c_point0 {d : Nat} {I : Nat → Nat → Int32} {J : Nat → Nat → Int64} {κ : CT} {η : HS} (hc_ : HC 4 κ I) (cb : CB κ) (hh : HH 71 η I) (hb_ : HB κ η) (hw : HW κ η) {s : Nat} (h : s < 2)  (hd : 9 ≤ d) : RV d 144 [.ref 0, .int (nI s), .int (nI 0)] I J (opI (heav κ (ofSd κ s &&& heard κ η η.mi))) := by
  refine RV.in (d0 := 8) hd mt_144 (Nat.le_of_ble_eq_true rfl) (fun d' hd' => ?_)
  have bns := cb.ns; have bnb := cb.nb; have bnc := cb.nc; have bnr := cb.nr
  have bm_ := hb_.mi
  have o9 : ofSd κ s < 512 := mk_ns cb _
  have o1 : ofSd κ s &&& heard κ η η.mi < 512 := and_lt9 o9; have o2 : ofSd κ s &&& η.nt < 512 := and_lt9 o9
  show EV none M_X10_point d' 0 [(0, .ref 0), (1, .int (nI s)), (2, .int (nI 0))] [] (hp I J) _
  refine EV.l (lv' := [(0, _), (1, _), (2, _)]) r_X10_point_0 rfl ?_
  refine EV.l (lv' := [(0, _), (1, _), (2, _)]) r_X10_point_1 rfl ?_
  refine EV.n0_eq r_X10_point_2 (fun h2 => ?_) (fun h2 => ?_)
  · -- 2 t
    refine EV.l (lv' := [(0, _), (1, _), (2, _)]) r_X10_point_10 rfl ?_
    refine EV.n0_eq r_X10_point_11 (fun h11 => ?_) (fun h11 => ?_)
    · -- 11 t
      refine EV.o r_X10_point_19 (icN (1) (v := 1)) ?_
      refine EV.g r_X10_point_20 ?_
      refine EV.cu r_X10_point_24 (aV1 mt_159 la_0) (c_arg1 (by omega)) (fun I2 e2 => ?_)
      have e2 := e2.symm; subst e2
      refine EV.l (lv' := [(0, _), (1, _), (2, _)]) r_X10_point_27 rfl ?_
      refine EV.l (lv' := [(0, _), (1, _), (2, _)]) r_X10_point_28 rfl ?_
      refine EV.gR r_X10_point_29 la_0 ?_
      refine EV.l (lv' := [(0, _), (1, _), (2, _)]) r_X10_point_32 rfl ?_
      refine EV.gR r_X10_point_33 la_0 ?_
      refine EV.l (lv' := [(0, _), (1, _), (2, _)]) r_X10_point_36 rfl ?_
      refine EV.cv r_X10_point_37 (aV1 mt_16 la_4) (b_ofSide hc_ cb (by omega) (by omega)) ?_
      refine EV.l (lv' := [(0, _), (1, _), (2, _)]) r_X10_point_40 rfl ?_
      refine EV.gR r_X10_point_41 la_0 ?_
      refine EV.l (lv' := [(0, _), (1, _), (2, _)]) r_X10_point_44 rfl ?_
      refine EV.gR r_X10_point_45 la_0 ?_
      refine EV.getV r_X10_point_48 la_71 (hh.mi) ?_
      refine EV.cv r_X10_point_51 (aV1 mt_38 la_71) (c71_heard hc_ cb hh hb_ hw (by omega) (by omega)) ?_
      refine EV.o r_X10_point_54 iandN ?_
      refine EV.cv r_X10_point_55 (aV1 mt_18 la_4) (b_heaviest hc_ cb (by omega) (by omega)) ?_
      refine EV.l (lv' := [(0, _), (1, _), (2, _)]) r_X10_point_58 rfl ?_
      refine EV.cv r_X10_point_59 (aV2 mt_161 la_0) (c_sow0 (by omega)) ?_
      exact EV.rv r_X10_point_62 (rfl)
    · omega
  · -- 2 f
    refine EV.l (lv' := [(0, _), (1, _), (2, _)]) r_X10_point_5 rfl ?_
    refine EV.o r_X10_point_6 (icN (1) (v := 1)) ?_
    refine EV.n2_ne r_X10_point_7 (fun h7 => ?_) (fun h7 => ?_)
    · -- 7 t
      refine EV.o r_X10_point_23 (icN (0) (v := 0)) ?_
      omega
    · -- 7 f
      refine EV.l (lv' := [(0, _), (1, _), (2, _)]) r_X10_point_10 rfl ?_
      refine EV.n0_eq r_X10_point_11 (fun h11 => ?_) (fun h11 => ?_)
      · -- 11 t
        refine EV.o r_X10_point_19 (icN (1) (v := 1)) ?_
        refine EV.g r_X10_point_20 ?_
        refine EV.cu r_X10_point_24 (aV1 mt_159 la_0) (c_arg1 (by omega)) (fun I2 e2 => ?_)
        have e2 := e2.symm; subst e2
        refine EV.l (lv' := [(0, _), (1, _), (2, _)]) r_X10_point_27 rfl ?_
        refine EV.l (lv' := [(0, _), (1, _), (2, _)]) r_X10_point_28 rfl ?_
        refine EV.gR r_X10_point_29 la_0 ?_
        refine EV.l (lv' := [(0, _), (1, _), (2, _)]) r_X10_point_32 rfl ?_
        refine EV.gR r_X10_point_33 la_0 ?_
        refine EV.l (lv' := [(0, _), (1, _), (2, _)]) r_X10_point_36 rfl ?_
        refine EV.cv r_X10_point_37 (aV1 mt_16 la_4) (b_ofSide hc_ cb (by omega) (by omega)) ?_
        refine EV.l (lv' := [(0, _), (1, _), (2, _)]) r_X10_point_40 rfl ?_
        refine EV.gR r_X10_point_41 la_0 ?_
        refine EV.l (lv' := [(0, _), (1, _), (2, _)]) r_X10_point_44 rfl ?_
        refine EV.gR r_X10_point_45 la_0 ?_
        refine EV.getV r_X10_point_48 la_71 (hh.mi) ?_
        refine EV.cv r_X10_point_51 (aV1 mt_38 la_71) (c71_heard hc_ cb hh hb_ hw (by omega) (by omega)) ?_
        refine EV.o r_X10_point_54 iandN ?_
        refine EV.cv r_X10_point_55 (aV1 mt_18 la_4) (b_heaviest hc_ cb (by omega) (by omega)) ?_
        refine EV.l (lv' := [(0, _), (1, _), (2, _)]) r_X10_point_58 rfl ?_
        refine EV.cv r_X10_point_59 (aV2 mt_161 la_0) (c_sow0 (by omega)) ?_
        exact EV.rv r_X10_point_62 (rfl)
      · omega
theorem c_point1 {d : Nat} {I : Nat → Nat → Int32} {J : Nat → Nat → Int64} {κ : CT} {η : HS} (hc_ : HC 4 κ I) (cb : CB κ) (hh : HH 71 η I) (hb_ : HB κ η) (hw : HW κ η) {s : Nat} (h : s < 2)  (hd : 9 ≤ d) : RV d 144 [.ref 0, .int (nI s), .int (nI 1)] I J (opW κ (heav κ (ofSd κ s &&& heard κ η η.mi))) := by
  refine RV.in (d0 := 8) hd mt_144 (Nat.le_of_ble_eq_true rfl) (fun d' hd' => ?_)
  have bns := cb.ns; have bnb := cb.nb; have bnc := cb.nc; have bnr := cb.nr
  have bm_ := hb_.mi
  have o9 : ofSd κ s < 512 := mk_ns cb _
  have o1 : ofSd κ s &&& heard κ η η.mi < 512 := and_lt9 o9; have o2 : ofSd κ s &&& η.nt < 512 := and_lt9 o9
  show EV none M_X10_point d' 0 [(0, .ref 0), (1, .int (nI s)), (2, .int (nI 1))] [] (hp I J) _
  refine EV.l (lv' := [(0, _), (1, _), (2, _)]) r_X10_point_0 rfl ?_
  refine EV.l (lv' := [(0, _), (1, _), (2, _)]) r_X10_point_1 rfl ?_
  refine EV.n0_eq r_X10_point_2 (fun h2 => ?_) (fun h2 => ?_)
  · -- 2 t
    refine EV.l (lv' := [(0, _), (1, _), (2, _)]) r_X10_point_10 rfl ?_
    refine EV.n0_eq r_X10_point_11 (fun h11 => ?_) (fun h11 => ?_)
    · omega
    · -- 11 f
      refine EV.l (lv' := [(0, _), (1, _), (2, _)]) r_X10_point_14 rfl ?_
      refine EV.o r_X10_point_15 (icN (1) (v := 1)) ?_
      refine EV.n2_ne r_X10_point_16 (fun h16 => ?_) (fun h16 => ?_)
      · omega
      · -- 16 f
        refine EV.o r_X10_point_19 (icN (1) (v := 1)) ?_
        refine EV.g r_X10_point_20 ?_
        refine EV.cu r_X10_point_24 (aV1 mt_159 la_0) (c_arg1 (by omega)) (fun I2 e2 => ?_)
        have e2 := e2.symm; subst e2
        refine EV.l (lv' := [(0, _), (1, _), (2, _)]) r_X10_point_27 rfl ?_
        refine EV.l (lv' := [(0, _), (1, _), (2, _)]) r_X10_point_28 rfl ?_
        refine EV.gR r_X10_point_29 la_0 ?_
        refine EV.l (lv' := [(0, _), (1, _), (2, _)]) r_X10_point_32 rfl ?_
        refine EV.gR r_X10_point_33 la_0 ?_
        refine EV.l (lv' := [(0, _), (1, _), (2, _)]) r_X10_point_36 rfl ?_
        refine EV.cv r_X10_point_37 (aV1 mt_16 la_4) (b_ofSide hc_ cb (by omega) (by omega)) ?_
        refine EV.l (lv' := [(0, _), (1, _), (2, _)]) r_X10_point_40 rfl ?_
        refine EV.gR r_X10_point_41 la_0 ?_
        refine EV.l (lv' := [(0, _), (1, _), (2, _)]) r_X10_point_44 rfl ?_
        refine EV.gR r_X10_point_45 la_0 ?_
        refine EV.getV r_X10_point_48 la_71 (hh.mi) ?_
        refine EV.cv r_X10_point_51 (aV1 mt_38 la_71) (c71_heard hc_ cb hh hb_ hw (by omega) (by omega)) ?_
        refine EV.o r_X10_point_54 iandN ?_
        refine EV.cv r_X10_point_55 (aV1 mt_18 la_4) (b_heaviest hc_ cb (by omega) (by omega)) ?_
        refine EV.l (lv' := [(0, _), (1, _), (2, _)]) r_X10_point_58 rfl ?_
        refine EV.cv r_X10_point_59 (aV2 mt_161 la_0) (c_sow1 hc_ (fun b e => by have := heav_lt e; omega) (by omega)) ?_
        exact EV.rv r_X10_point_62 (rfl)
  · -- 2 f
    refine EV.l (lv' := [(0, _), (1, _), (2, _)]) r_X10_point_5 rfl ?_
    refine EV.o r_X10_point_6 (icN (1) (v := 1)) ?_
    refine EV.n2_ne r_X10_point_7 (fun h7 => ?_) (fun h7 => ?_)
    · -- 7 t
      refine EV.o r_X10_point_23 (icN (0) (v := 0)) ?_
      omega
    · -- 7 f
      refine EV.l (lv' := [(0, _), (1, _), (2, _)]) r_X10_point_10 rfl ?_
      refine EV.n0_eq r_X10_point_11 (fun h11 => ?_) (fun h11 => ?_)
      · omega
      · -- 11 f
        refine EV.l (lv' := [(0, _), (1, _), (2, _)]) r_X10_point_14 rfl ?_
        refine EV.o r_X10_point_15 (icN (1) (v := 1)) ?_
        refine EV.n2_ne r_X10_point_16 (fun h16 => ?_) (fun h16 => ?_)
        · omega
        · -- 16 f
          refine EV.o r_X10_point_19 (icN (1) (v := 1)) ?_
          refine EV.g r_X10_point_20 ?_
          refine EV.cu r_X10_point_24 (aV1 mt_159 la_0) (c_arg1 (by omega)) (fun I2 e2 => ?_)
          have e2 := e2.symm; subst e2
          refine EV.l (lv' := [(0, _), (1, _), (2, _)]) r_X10_point_27 rfl ?_
          refine EV.l (lv' := [(0, _), (1, _), (2, _)]) r_X10_point_28 rfl ?_
          refine EV.gR r_X10_point_29 la_0 ?_
          refine EV.l (lv' := [(0, _), (1, _), (2, _)]) r_X10_point_32 rfl ?_
          refine EV.gR r_X10_point_33 la_0 ?_
          refine EV.l (lv' := [(0, _), (1, _), (2, _)]) r_X10_point_36 rfl ?_
          refine EV.cv r_X10_point_37 (aV1 mt_16 la_4) (b_ofSide hc_ cb (by omega) (by omega)) ?_
          refine EV.l (lv' := [(0, _), (1, _), (2, _)]) r_X10_point_40 rfl ?_
          refine EV.gR r_X10_point_41 la_0 ?_
          refine EV.l (lv' := [(0, _), (1, _), (2, _)]) r_X10_point_44 rfl ?_
          refine EV.gR r_X10_point_45 la_0 ?_
          refine EV.getV r_X10_point_48 la_71 (hh.mi) ?_
          refine EV.cv r_X10_point_51 (aV1 mt_38 la_71) (c71_heard hc_ cb hh hb_ hw (by omega) (by omega)) ?_
          refine EV.o r_X10_point_54 iandN ?_
          refine EV.cv r_X10_point_55 (aV1 mt_18 la_4) (b_heaviest hc_ cb (by omega) (by omega)) ?_
          refine EV.l (lv' := [(0, _), (1, _), (2, _)]) r_X10_point_58 rfl ?_
          refine EV.cv r_X10_point_59 (aV2 mt_161 la_0) (c_sow1 hc_ (fun b e => by have := heav_lt e; omega) (by omega)) ?_
          exact EV.rv r_X10_point_62 (rfl)
theorem c_pointX {d : Nat} {I : Nat → Nat → Int32} {J : Nat → Nat → Int64} {κ : CT} (hc_ : HC 4 κ I) (cb : CB κ) {x : Int} (x1 : -2147483648 ≤ x) (x2 : x < 2147483648) {y : Int} (y1 : -2147483648 ≤ y) (y2 : y < 2147483648) (hy : ¬ (0 ≤ x ∧ x ≤ 1 ∧ 0 ≤ y ∧ y ≤ 1))  (hd : 9 ≤ d) : RX d 144 [.ref 0, .int (zI x), .int (zI y)] I J 1 (fun I' => I' = ref1 I 14) := by
  refine RX.in (d0 := 8) hd mt_144 (Nat.le_of_ble_eq_true rfl) (fun d' hd' => ?_)
  have bns := cb.ns; have bnb := cb.nb; have bnc := cb.nc; have bnr := cb.nr
  have pn := Nat.two_pow_pos κ.ns; have qn := pow_ns cb; have pc := Nat.two_pow_pos κ.nc; have qc := pow_nc cb
  show EV none M_X10_point d' 0 [(0, .ref 0), (1, .int (zI x)), (2, .int (zI y))] [] (hp I J) _
  refine EV.l (lv' := [(0, _), (1, _), (2, _)]) r_X10_point_0 rfl ?_
  refine EV.l (lv' := [(0, _), (1, _), (2, _)]) r_X10_point_1 rfl ?_
  refine EV.z0_eq r_X10_point_2 (fun h2 => ?_) (fun h2 => ?_)
  · -- 2 t
    refine EV.l (lv' := [(0, _), (1, _), (2, _)]) r_X10_point_10 rfl ?_
    refine EV.z0_eq r_X10_point_11 (fun h11 => ?_) (fun h11 => ?_)
    · -- 11 t
      refine EV.o r_X10_point_19 (icN (1) (v := 1)) ?_
      refine EV.g r_X10_point_20 ?_
      omega
    · -- 11 f
      refine EV.l (lv' := [(0, _), (1, _), (2, _)]) r_X10_point_14 rfl ?_
      refine EV.o r_X10_point_15 (icN (1) (v := 1)) ?_
      refine EV.zn2_ne r_X10_point_16 (fun h16 => ?_) (fun h16 => ?_)
      · -- 16 t
        refine EV.o r_X10_point_23 (icN (0) (v := 0)) ?_
        exact EV.cx r_X10_point_24 (aV1 mt_159 la_0) (c_arg0 (by omega)) (fun _ h => h)
      · -- 16 f
        refine EV.o r_X10_point_19 (icN (1) (v := 1)) ?_
        refine EV.g r_X10_point_20 ?_
        omega
  · -- 2 f
    refine EV.l (lv' := [(0, _), (1, _), (2, _)]) r_X10_point_5 rfl ?_
    refine EV.o r_X10_point_6 (icN (1) (v := 1)) ?_
    refine EV.zn2_ne r_X10_point_7 (fun h7 => ?_) (fun h7 => ?_)
    · -- 7 t
      refine EV.o r_X10_point_23 (icN (0) (v := 0)) ?_
      exact EV.cx r_X10_point_24 (aV1 mt_159 la_0) (c_arg0 (by omega)) (fun _ h => h)
    · -- 7 f
      refine EV.l (lv' := [(0, _), (1, _), (2, _)]) r_X10_point_10 rfl ?_
      refine EV.z0_eq r_X10_point_11 (fun h11 => ?_) (fun h11 => ?_)
      · -- 11 t
        refine EV.o r_X10_point_19 (icN (1) (v := 1)) ?_
        refine EV.g r_X10_point_20 ?_
        omega
      · -- 11 f
        refine EV.l (lv' := [(0, _), (1, _), (2, _)]) r_X10_point_14 rfl ?_
        refine EV.o r_X10_point_15 (icN (1) (v := 1)) ?_
        refine EV.zn2_ne r_X10_point_16 (fun h16 => ?_) (fun h16 => ?_)
        · -- 16 t
          refine EV.o r_X10_point_23 (icN (0) (v := 0)) ?_
          exact EV.cx r_X10_point_24 (aV1 mt_159 la_0) (c_arg0 (by omega)) (fun _ h => h)
        · -- 16 f
          refine EV.o r_X10_point_19 (icN (1) (v := 1)) ?_
          refine EV.g r_X10_point_20 ?_
          omega
theorem c_leaders {d : Nat} {I : Nat → Nat → Int32} {J : Nat → Nat → Int64} {κ : CT} {η : HS} (hc_ : HC 4 κ I) (cb : CB κ) (hh : HH 71 η I) (hb_ : HB κ η) (hw : HW κ η) {b n : Nat} (h : b < κ.nb) (hn : 1 ≤ n) (hn2 : n ≤ 9)  (hd : 9 ≤ d) : RV d 140 [.ref 0, .int (nI b), .int (nI n)] I J (nI (mk (fun k => canL η k b n) κ.nc)) := by
  refine RV.in (d0 := 8) hd mt_140 (Nat.le_of_ble_eq_true rfl) (fun d' hd' => ?_)
  have bns := cb.ns; have bnb := cb.nb; have bnc := cb.nc; have bnr := cb.nr
  have bm_ := hb_.mi
  show EV none M_X10_leaders d' 0 [(0, .ref 0), (1, .int (nI b)), (2, .int (nI n))] [] (hp I J) _
  refine EV.l (lv' := [(0, _), (1, _), (2, _)]) r_X10_leaders_0 rfl ?_
  refine EV.l (lv' := [(0, _), (1, _), (2, _)]) r_X10_leaders_1 rfl ?_
  refine EV.l (lv' := [(0, _), (1, _), (2, _)]) r_X10_leaders_2 rfl ?_
  refine EV.gR r_X10_leaders_3 la_0 ?_
  refine EV.getV r_X10_leaders_6 la_4 (hc_.nb) ?_
  refine EV.cu r_X10_leaders_9 (aV2 mt_160 la_0) (c_there1 (by omega) (by omega) (by omega)) (fun I2 e2 => ?_)
  have e2 := e2.symm; subst e2
  refine EV.l (lv' := [(0, _), (1, _), (2, _)]) r_X10_leaders_12 rfl ?_
  refine EV.l (lv' := [(0, _), (1, _), (2, _)]) r_X10_leaders_13 rfl ?_
  refine EV.o r_X10_leaders_14 (icN (1) (v := 1)) ?_
  refine EV.n2_lt r_X10_leaders_15 (fun h15 => ?_) (fun h15 => ?_)
  · -- 15 t
    refine EV.o r_X10_leaders_28 (icN (0) (v := 0)) ?_
    omega
  · -- 15 f
    refine EV.l (lv' := [(0, _), (1, _), (2, _)]) r_X10_leaders_18 rfl ?_
    refine EV.o r_X10_leaders_19 (bpN (9) 9) ?_
    refine EV.n2_gt r_X10_leaders_21 (fun h21 => ?_) (fun h21 => ?_)
    · -- 21 t
      refine EV.o r_X10_leaders_28 (icN (0) (v := 0)) ?_
      omega
    · -- 21 f
      refine EV.o r_X10_leaders_24 (icN (1) (v := 1)) ?_
      refine EV.g r_X10_leaders_25 ?_
      refine EV.cu r_X10_leaders_29 (aV1 mt_159 la_0) (c_arg1 (by omega)) (fun I2 e2 => ?_)
      have e2 := e2.symm; subst e2
      refine EV.o r_X10_leaders_32 (icN (0) (v := 0)) ?_
      refine EV.l (lv' := [(0, _), (1, _), (2, _), (3, _)]) r_X10_leaders_33 rfl ?_
      refine EV.o r_X10_leaders_34 (icN (0) (v := 0)) ?_
      refine EV.l (lv' := [(0, _), (1, _), (2, _), (3, _), (4, _)]) r_X10_leaders_35 rfl ?_
      have L37 : ∀ y_ : Nat, (fun i => i ≤ κ.nc → EV none M_X10_leaders d' 37 [(0, .ref 0), (1, .int (nI b)), (2, .int (nI n)), (3, .int (nI (mk (fun k => canL η k b n) i))), (4, .int (nI i))] [] (hp I J) (QV I J (nI (mk (fun k => canL η k b n) κ.nc)))) y_ := by
        refine ev_loop (fun i => κ.nc - i) ?_
        intro i ih37 hx37
        try dsimp only at ih37
        try dsimp only at hx37
        try dsimp only
        refine EV.l (lv' := [(0, _), (1, _), (2, _), (3, _), (4, _)]) r_X10_leaders_37 rfl ?_
        refine EV.l (lv' := [(0, _), (1, _), (2, _), (3, _), (4, _)]) r_X10_leaders_39 rfl ?_
        refine EV.gR r_X10_leaders_40 la_0 ?_
        refine EV.getV r_X10_leaders_43 la_4 (hc_.nc) ?_
        refine EV.n2_ge r_X10_leaders_46 (fun h46 => ?_) (fun h46 => ?_)
        · -- 46 t
          refine EV.l (lv' := [(0, _), (1, _), (2, _), (3, _), (4, _)]) r_X10_leaders_77 rfl ?_
          exact EV.rv r_X10_leaders_78 (by rw [show i = κ.nc by omega])
        · -- 46 f
          refine EV.l (lv' := [(0, _), (1, _), (2, _), (3, _), (4, _)]) r_X10_leaders_49 rfl ?_
          refine EV.gR r_X10_leaders_50 la_0 ?_
          refine EV.l (lv' := [(0, _), (1, _), (2, _), (3, _), (4, _)]) r_X10_leaders_53 rfl ?_
          refine EV.l (lv' := [(0, _), (1, _), (2, _), (3, _), (4, _)]) r_X10_leaders_55 rfl ?_
          refine EV.l (lv' := [(0, _), (1, _), (2, _), (3, _), (4, _)]) r_X10_leaders_56 rfl ?_
          refine EV.cv r_X10_leaders_57 (aV3 mt_41 la_71) (c71_canLead hc_ cb hh hb_ (by omega) (by omega) (by omega) (by omega)) ?_
          refine EV.b0_eq r_X10_leaders_60 (fun h60 => ?_) (fun h60 => ?_)
          · -- 60 t
            refine EV.l (lv' := [(0, _), (1, _), (2, _), (3, _), (4, _)]) r_X10_leaders_71 rfl ?_
            rw [inc_nI]
            refine EV.g r_X10_leaders_74 ?_
            refine EV.sub ?_ rfl ?_ (ih37 (i + 1) ?_ ?_)
            · first | rw [mk_t (p := fun k => canL η k b n) (decide_eq_true (by omega))] | rw [mk_f (p := fun k => canL η k b n) (decide_eq_false (by omega))] | rw [mk_t (p := fun k => canL η k b n) (by assumption)] | rw [mk_f (p := fun k => canL η k b n) (by assumption)]
            · rfl
            · omega
            · omega
          · -- 60 f
            refine EV.l (lv' := [(0, _), (1, _), (2, _), (3, _), (4, _)]) r_X10_leaders_63 rfl ?_
            refine EV.l (lv' := [(0, _), (1, _), (2, _), (3, _), (4, _)]) r_X10_leaders_64 rfl ?_
            refine EV.cv r_X10_leaders_66 (aS1 mt_162) (c_bit (by omega) (by omega)) ?_
            refine EV.o r_X10_leaders_69 iorN ?_
            refine EV.l (lv' := [(0, _), (1, _), (2, _), (3, _), (4, _)]) r_X10_leaders_70 rfl ?_
            refine EV.l (lv' := [(0, _), (1, _), (2, _), (3, _), (4, _)]) r_X10_leaders_71 rfl ?_
            rw [inc_nI]
            refine EV.g r_X10_leaders_74 ?_
            refine EV.sub ?_ rfl ?_ (ih37 (i + 1) ?_ ?_)
            · first | rw [mk_t (p := fun k => canL η k b n) (decide_eq_true (by omega))] | rw [mk_f (p := fun k => canL η k b n) (decide_eq_false (by omega))] | rw [mk_t (p := fun k => canL η k b n) (by assumption)] | rw [mk_f (p := fun k => canL η k b n) (by assumption)]
            · rfl
            · omega
            · omega
      have h0 := L37 (0)
      try dsimp only at h0
      refine EV.sub ?_ rfl ?_ (h0 ?_)
      · rfl
      · rfl
      · omega
theorem c_leadersT {d : Nat} {I : Nat → Nat → Int32} {J : Nat → Nat → Int64} {κ : CT} (hc_ : HC 4 κ I) (cb : CB κ) {x : Int} (x1 : -2147483648 ≤ x) (x2 : x < 2147483648) (hx : x < 0 ∨ (κ.nb : Int) ≤ x) {y : Int32}  (hd : 9 ≤ d) : RX d 140 [.ref 0, .int (zI x), .int y] I J 0 (fun I' => I' = ref1 I 13) := by
  refine RX.in (d0 := 8) hd mt_140 (Nat.le_of_ble_eq_true rfl) (fun d' hd' => ?_)
  have bns := cb.ns; have bnb := cb.nb; have bnc := cb.nc; have bnr := cb.nr
  have pn := Nat.two_pow_pos κ.ns; have qn := pow_ns cb; have pc := Nat.two_pow_pos κ.nc; have qc := pow_nc cb
  show EV none M_X10_leaders d' 0 [(0, .ref 0), (1, .int (zI x)), (2, .int y)] [] (hp I J) _
  refine EV.l (lv' := [(0, _), (1, _), (2, _)]) r_X10_leaders_0 rfl ?_
  refine EV.l (lv' := [(0, _), (1, _), (2, _)]) r_X10_leaders_1 rfl ?_
  refine EV.l (lv' := [(0, _), (1, _), (2, _)]) r_X10_leaders_2 rfl ?_
  refine EV.gR r_X10_leaders_3 la_0 ?_
  refine EV.getV r_X10_leaders_6 la_4 (hc_.nb) ?_
  exact EV.cx r_X10_leaders_9 (aV2 mt_160 la_0) (c_there0 (z_out (by omega) (by omega) (by omega) (by omega)) (by omega)) (fun _ h => h)
theorem c_leadersX {d : Nat} {I : Nat → Nat → Int32} {J : Nat → Nat → Int64} {κ : CT} (hc_ : HC 4 κ I) (cb : CB κ) {b : Nat} (h : b < κ.nb) {y : Int} (y1 : -2147483648 ≤ y) (y2 : y < 2147483648) (hy : ¬ (1 ≤ y ∧ y ≤ 9))  (hd : 9 ≤ d) : RX d 140 [.ref 0, .int (nI b), .int (zI y)] I J 1 (fun I' => I' = ref1 I 14) := by
  refine RX.in (d0 := 8) hd mt_140 (Nat.le_of_ble_eq_true rfl) (fun d' hd' => ?_)
  have bns := cb.ns; have bnb := cb.nb; have bnc := cb.nc; have bnr := cb.nr
  have pn := Nat.two_pow_pos κ.ns; have qn := pow_ns cb; have pc := Nat.two_pow_pos κ.nc; have qc := pow_nc cb
  show EV none M_X10_leaders d' 0 [(0, .ref 0), (1, .int (nI b)), (2, .int (zI y))] [] (hp I J) _
  refine EV.l (lv' := [(0, _), (1, _), (2, _)]) r_X10_leaders_0 rfl ?_
  refine EV.l (lv' := [(0, _), (1, _), (2, _)]) r_X10_leaders_1 rfl ?_
  refine EV.l (lv' := [(0, _), (1, _), (2, _)]) r_X10_leaders_2 rfl ?_
  refine EV.gR r_X10_leaders_3 la_0 ?_
  refine EV.getV r_X10_leaders_6 la_4 (hc_.nb) ?_
  refine EV.cu r_X10_leaders_9 (aV2 mt_160 la_0) (c_there1 (by omega) (by omega) (by omega)) (fun I2 e2 => ?_)
  have e2 := e2.symm; subst e2
  refine EV.l (lv' := [(0, _), (1, _), (2, _)]) r_X10_leaders_12 rfl ?_
  refine EV.l (lv' := [(0, _), (1, _), (2, _)]) r_X10_leaders_13 rfl ?_
  refine EV.o r_X10_leaders_14 (icN (1) (v := 1)) ?_
  refine EV.zn2_lt r_X10_leaders_15 (fun h15 => ?_) (fun h15 => ?_)
  · -- 15 t
    refine EV.o r_X10_leaders_28 (icN (0) (v := 0)) ?_
    exact EV.cx r_X10_leaders_29 (aV1 mt_159 la_0) (c_arg0 (by omega)) (fun _ h => h)
  · -- 15 f
    refine EV.l (lv' := [(0, _), (1, _), (2, _)]) r_X10_leaders_18 rfl ?_
    refine EV.o r_X10_leaders_19 (bpN (9) 9) ?_
    refine EV.zn2_gt r_X10_leaders_21 (fun h21 => ?_) (fun h21 => ?_)
    · -- 21 t
      refine EV.o r_X10_leaders_28 (icN (0) (v := 0)) ?_
      exact EV.cx r_X10_leaders_29 (aV1 mt_159 la_0) (c_arg0 (by omega)) (fun _ h => h)
    · -- 21 f
      refine EV.o r_X10_leaders_24 (icN (1) (v := 1)) ?_
      refine EV.g r_X10_leaders_25 ?_
      omega
theorem c_used {d : Nat} {I : Nat → Nat → Int32} {J : Nat → Nat → Int64} {κ : CT} {η : HS} (hc_ : HC 4 κ I) (cb : CB κ) (hh : HH 71 η I) (hb_ : HB κ η) (hw : HW κ η)  (hd : 9 ≤ d) : RV d 141 [.ref 0] I J (nI (mk (usedB κ (clo κ (heard κ η η.mi))) κ.nr)) := by
  refine RV.in (d0 := 8) hd mt_141 (Nat.le_of_ble_eq_true rfl) (fun d' hd' => ?_)
  have bns := cb.ns; have bnb := cb.nb; have bnc := cb.nc; have bnr := cb.nr
  have bm_ := hb_.mi
  have cl_ := clo_lt cb (heard_lt (κ := κ) (η := η) η.mi); have p0 := pow_ns cb
  show EV none M_X10_used d' 0 [(0, .ref 0)] [] (hp I J) _
  refine EV.l (lv' := [(0, _)]) r_X10_used_0 rfl ?_
  refine EV.gR r_X10_used_1 la_0 ?_
  refine EV.l (lv' := [(0, _)]) r_X10_used_4 rfl ?_
  refine EV.gR r_X10_used_5 la_0 ?_
  refine EV.l (lv' := [(0, _)]) r_X10_used_8 rfl ?_
  refine EV.gR r_X10_used_9 la_0 ?_
  refine EV.l (lv' := [(0, _)]) r_X10_used_12 rfl ?_
  refine EV.gR r_X10_used_13 la_0 ?_
  refine EV.getV r_X10_used_16 la_71 (hh.mi) ?_
  refine EV.cv r_X10_used_19 (aV1 mt_38 la_71) (c71_heard hc_ cb hh hb_ hw (by omega) (by omega)) ?_
  refine EV.cv r_X10_used_22 (aV1 mt_19 la_4) (b_closure hc_ cb (heard_lt _) (by omega)) ?_
  refine EV.cv r_X10_used_25 (aV1 mt_21 la_4) (b_rulesUsed hc_ cb (by omega) (by omega)) ?_
  exact EV.rv r_X10_used_28 (rfl)
theorem c_over {d : Nat} {I : Nat → Nat → Int32} {J : Nat → Nat → Int64} {κ : CT} {η : HS} (hc_ : HC 4 κ I) (cb : CB κ) (hh : HH 71 η I) (hb_ : HB κ η) (hw : HW κ η) {b : Nat} (h : b < κ.nb)  (hd : 9 ≤ d) : RV d 142 [.ref 0, .int (nI b)] I J (nI (sdB κ η (η.be b) (η.be b + η.wk b - 1))) := by
  refine RV.in (d0 := 8) hd mt_142 (Nat.le_of_ble_eq_true rfl) (fun d' hd' => ?_)
  have bns := cb.ns; have bnb := cb.nb; have bnc := cb.nc; have bnr := cb.nr
  have bm_ := hb_.mi
  have b1 := hb_.be b; have b2 := hb_.wk b; have b3 := hw.wk1 b h
  show EV none M_X10_over d' 0 [(0, .ref 0), (1, .int (nI b))] [] (hp I J) _
  refine EV.l (lv' := [(0, _), (1, _)]) r_X10_over_0 rfl ?_
  refine EV.l (lv' := [(0, _), (1, _)]) r_X10_over_1 rfl ?_
  refine EV.l (lv' := [(0, _), (1, _)]) r_X10_over_2 rfl ?_
  refine EV.gR r_X10_over_3 la_0 ?_
  refine EV.getV r_X10_over_6 la_4 (hc_.nb) ?_
  refine EV.cu r_X10_over_9 (aV2 mt_160 la_0) (c_there1 (by omega) (by omega) (by omega)) (fun I2 e2 => ?_)
  have e2 := e2.symm; subst e2
  refine EV.l (lv' := [(0, _), (1, _)]) r_X10_over_12 rfl ?_
  refine EV.gR r_X10_over_13 la_0 ?_
  refine EV.l (lv' := [(0, _), (1, _)]) r_X10_over_16 rfl ?_
  refine EV.gR r_X10_over_17 la_0 ?_
  refine EV.gR r_X10_over_20 la_71 ?_
  refine EV.l (lv' := [(0, _), (1, _)]) r_X10_over_23 rfl ?_
  refine EV.cv r_X10_over_24 (aV1 mt_92 la_74) (c_getN (by omega) la_74 la_75 (hh.be _ (by omega))) ?_
  refine EV.l (lv' := [(0, _), (1, _)]) r_X10_over_27 rfl ?_
  refine EV.gR r_X10_over_28 la_0 ?_
  refine EV.l (lv' := [(0, _), (1, _)]) r_X10_over_31 rfl ?_
  refine EV.cv r_X10_over_32 (aV1 mt_33 la_71) (c71_lastOn hc_ cb hh hb_ hw (by omega) (by omega)) ?_
  refine EV.cv r_X10_over_35 (aV2 mt_37 la_71) (c71_said hc_ cb hh hb_ (by omega) (by omega) (by omega)) ?_
  exact EV.rv r_X10_over_38 (rfl)
theorem c_overT {d : Nat} {I : Nat → Nat → Int32} {J : Nat → Nat → Int64} {κ : CT} (hc_ : HC 4 κ I) (cb : CB κ) {x : Int} (x1 : -2147483648 ≤ x) (x2 : x < 2147483648) (hx : x < 0 ∨ (κ.nb : Int) ≤ x)  (hd : 9 ≤ d) : RX d 142 [.ref 0, .int (zI x)] I J 0 (fun I' => I' = ref1 I 13) := by
  refine RX.in (d0 := 8) hd mt_142 (Nat.le_of_ble_eq_true rfl) (fun d' hd' => ?_)
  have bns := cb.ns; have bnb := cb.nb; have bnc := cb.nc; have bnr := cb.nr
  have pn := Nat.two_pow_pos κ.ns; have qn := pow_ns cb; have pc := Nat.two_pow_pos κ.nc; have qc := pow_nc cb
  show EV none M_X10_over d' 0 [(0, .ref 0), (1, .int (zI x))] [] (hp I J) _
  refine EV.l (lv' := [(0, _), (1, _)]) r_X10_over_0 rfl ?_
  refine EV.l (lv' := [(0, _), (1, _)]) r_X10_over_1 rfl ?_
  refine EV.l (lv' := [(0, _), (1, _)]) r_X10_over_2 rfl ?_
  refine EV.gR r_X10_over_3 la_0 ?_
  refine EV.getV r_X10_over_6 la_4 (hc_.nb) ?_
  exact EV.cx r_X10_over_9 (aV2 mt_160 la_0) (c_there0 (z_out (by omega) (by omega) (by omega) (by omega)) (by omega)) (fun _ h => h)
theorem c_delayT {d : Nat} {I : Nat → Nat → Int32} {J : Nat → Nat → Int64} {κ : CT} (hc_ : HC 4 κ I) (cb : CB κ) {x : Int} (x1 : -2147483648 ≤ x) (x2 : x < 2147483648) (hx : x < 0 ∨ (κ.ns : Int) ≤ x)  (hd : 9 ≤ d) : RX d 143 [.ref 0, .int (zI x)] I J 0 (fun I' => I' = ref1 I 13) := by
  refine RX.in (d0 := 8) hd mt_143 (Nat.le_of_ble_eq_true rfl) (fun d' hd' => ?_)
  have bns := cb.ns; have bnb := cb.nb; have bnc := cb.nc; have bnr := cb.nr
  have pn := Nat.two_pow_pos κ.ns; have qn := pow_ns cb; have pc := Nat.two_pow_pos κ.nc; have qc := pow_nc cb
  show EV none M_X10_delay d' 0 [(0, .ref 0), (1, .int (zI x))] [] (hp I J) _
  refine EV.l (lv' := [(0, _), (1, _)]) r_X10_delay_0 rfl ?_
  refine EV.l (lv' := [(0, _), (1, _)]) r_X10_delay_1 rfl ?_
  refine EV.l (lv' := [(0, _), (1, _)]) r_X10_delay_2 rfl ?_
  refine EV.gR r_X10_delay_3 la_0 ?_
  refine EV.getV r_X10_delay_6 la_4 (hc_.ns) ?_
  exact EV.cx r_X10_delay_9 (aV2 mt_160 la_0) (c_there0 (z_out (by omega) (by omega) (by omega) (by omega)) (by omega)) (fun _ h => h)
theorem c_swingT {d : Nat} {I : Nat → Nat → Int32} {J : Nat → Nat → Int64} {κ : CT} (hc_ : HC 4 κ I) (cb : CB κ) {x : Int} (x1 : -2147483648 ≤ x) (x2 : x < 2147483648) (hx : x < 0 ∨ (κ.ns : Int) ≤ x)  (hd : 9 ≤ d) : RX d 148 [.ref 0, .int (zI x)] I J 0 (fun I' => I' = ref1 I 13) := by
  refine RX.in (d0 := 8) hd mt_148 (Nat.le_of_ble_eq_true rfl) (fun d' hd' => ?_)
  have bns := cb.ns; have bnb := cb.nb; have bnc := cb.nc; have bnr := cb.nr
  have pn := Nat.two_pow_pos κ.ns; have qn := pow_ns cb; have pc := Nat.two_pow_pos κ.nc; have qc := pow_nc cb
  show EV none M_X10_swing d' 0 [(0, .ref 0), (1, .int (zI x))] [] (hp I J) _
  refine EV.l (lv' := [(0, _), (1, _)]) r_X10_swing_0 rfl ?_
  refine EV.l (lv' := [(0, _), (1, _)]) r_X10_swing_1 rfl ?_
  refine EV.l (lv' := [(0, _), (1, _)]) r_X10_swing_2 rfl ?_
  refine EV.gR r_X10_swing_3 la_0 ?_
  refine EV.getV r_X10_swing_6 la_4 (hc_.ns) ?_
  exact EV.cx r_X10_swing_9 (aV2 mt_160 la_0) (c_there0 (z_out (by omega) (by omega) (by omega) (by omega)) (by omega)) (fun _ h => h)
theorem c_proofT {d : Nat} {I : Nat → Nat → Int32} {J : Nat → Nat → Int64} {κ : CT} (hc_ : HC 4 κ I) (cb : CB κ) {x : Int} (x1 : -2147483648 ≤ x) (x2 : x < 2147483648) (hx : x < 0 ∨ (κ.ns : Int) ≤ x)  (hd : 9 ≤ d) : RX d 130 [.ref 0, .int (zI x)] I J 0 (fun I' => I' = ref1 I 13) := by
  refine RX.in (d0 := 8) hd mt_130 (Nat.le_of_ble_eq_true rfl) (fun d' hd' => ?_)
  have bns := cb.ns; have bnb := cb.nb; have bnc := cb.nc; have bnr := cb.nr
  have pn := Nat.two_pow_pos κ.ns; have qn := pow_ns cb; have pc := Nat.two_pow_pos κ.nc; have qc := pow_nc cb
  show EV none M_X10_proof d' 0 [(0, .ref 0), (1, .int (zI x))] [] (hp I J) _
  refine EV.l (lv' := [(0, _), (1, _)]) r_X10_proof_0 rfl ?_
  refine EV.l (lv' := [(0, _), (1, _)]) r_X10_proof_1 rfl ?_
  refine EV.l (lv' := [(0, _), (1, _)]) r_X10_proof_2 rfl ?_
  refine EV.gR r_X10_proof_3 la_0 ?_
  refine EV.getV r_X10_proof_6 la_4 (hc_.ns) ?_
  exact EV.cx r_X10_proof_9 (aV2 mt_160 la_0) (c_there0 (z_out (by omega) (by omega) (by omega) (by omega)) (by omega)) (fun _ h => h)
theorem c_delay {d : Nat} {I : Nat → Nat → Int32} {J : Nat → Nat → Int64} {κ : CT} {η : HS} (hc_ : HC 4 κ I) (cb : CB κ) (hh : HH 71 η I) (hb_ : HB κ η) (hw : HW κ η) {i : Nat} (h : i < κ.ns)  (hd : 9 ≤ d) : RV d 143 [.ref 0, .int (nI i)] I J (opI (fst1 (dlyB κ η i) 10)) := by
  refine RV.in (d0 := 8) hd mt_143 (Nat.le_of_ble_eq_true rfl) (fun d' hd' => ?_)
  have bns := cb.ns; have bnb := cb.nb; have bnc := cb.nc; have bnr := cb.nr
  have bm_ := hb_.mi
  have b1 := hb_.sa i
  show EV none M_X10_delay d' 0 [(0, .ref 0), (1, .int (nI i))] [] (hp I J) _
  refine EV.l (lv' := [(0, _), (1, _)]) r_X10_delay_0 rfl ?_
  refine EV.l (lv' := [(0, _), (1, _)]) r_X10_delay_1 rfl ?_
  refine EV.l (lv' := [(0, _), (1, _)]) r_X10_delay_2 rfl ?_
  refine EV.gR r_X10_delay_3 la_0 ?_
  refine EV.getV r_X10_delay_6 la_4 (hc_.ns) ?_
  refine EV.cu r_X10_delay_9 (aV2 mt_160 la_0) (c_there1 (by omega) (by omega) (by omega)) (fun I2 e2 => ?_)
  have e2 := e2.symm; subst e2
  refine EV.o r_X10_delay_12 (icN (0) (v := 0)) ?_
  refine EV.l (lv' := [(0, _), (1, _), (2, _)]) r_X10_delay_13 rfl ?_
  have L14 : ∀ y_ : Nat, (fun k => (k ≤ 10 ∧ ∀ j, j < k → dlyB κ η i j = false) → EV none M_X10_delay d' 14 [(0, .ref 0), (1, .int (nI i)), (2, .int (nI k))] [] (hp I J) (QV I J (opI (fst1 (dlyB κ η i) 10)))) y_ := by
    refine ev_loop (fun k => 10 - k) ?_
    intro k ih14 hx14
    try dsimp only at ih14
    try dsimp only at hx14
    try dsimp only
    have b2 : birds κ η (min 400 (η.sa i + k)) < 16 := mk_nb cb _
    have kl := hx14.1
    refine EV.l (lv' := [(0, _), (1, _), (2, _)]) r_X10_delay_14 rfl ?_
    refine EV.o r_X10_delay_15 (bpN (9) 9) ?_
    refine EV.n2_gt r_X10_delay_17 (fun h17 => ?_) (fun h17 => ?_)
    · -- 17 t
      refine EV.o r_X10_delay_57 (icZ (-1)) ?_
      exact EV.rv r_X10_delay_58 (by rw [fst1_none (fun j hj => hx14.2 j (by omega))]; rfl)
    · -- 17 f
      refine EV.l (lv' := [(0, _), (1, _), (2, _)]) r_X10_delay_20 rfl ?_
      refine EV.gR r_X10_delay_21 la_0 ?_
      refine EV.o r_X10_delay_24 (spN (400) 400) ?_
      refine EV.l (lv' := [(0, _), (1, _), (2, _)]) r_X10_delay_27 rfl ?_
      refine EV.gR r_X10_delay_28 la_0 ?_
      refine EV.gR r_X10_delay_31 la_71 ?_
      refine EV.l (lv' := [(0, _), (1, _), (2, _)]) r_X10_delay_34 rfl ?_
      refine EV.cv r_X10_delay_35 (aV1 mt_92 la_72) (c_getN (by omega) la_72 la_73 (hh.sa _ (by omega))) ?_
      refine EV.l (lv' := [(0, _), (1, _), (2, _)]) r_X10_delay_38 rfl ?_
      refine EV.o r_X10_delay_39 iaddN ?_
      refine EV.pmin r_X10_delay_40 ?_
      refine EV.cv r_X10_delay_43 (aV1 mt_34 la_71) (c71_birdsOn hc_ cb hh hb_ hw (by omega) (by omega)) ?_
      refine EV.n0_ne r_X10_delay_46 (fun h46 => ?_) (fun h46 => ?_)
      · -- 46 t
        refine EV.l (lv' := [(0, _), (1, _), (2, _)]) r_X10_delay_51 rfl ?_
        rw [inc_nI]
        refine EV.g r_X10_delay_54 ?_
        refine EV.sub ?_ rfl ?_ (ih14 (k + 1) ?_ ?_)
        · rfl
        · rfl
        · omega
        · exact ⟨by omega, all_s hx14.2 (decide_eq_false (by omega))⟩
      · -- 46 f
        refine EV.l (lv' := [(0, _), (1, _), (2, _)]) r_X10_delay_49 rfl ?_
        exact EV.rv r_X10_delay_50 (by rw [fst1_at (by omega) (decide_eq_true (by omega)) hx14.2]; rfl)
  have h0 := L14 (0)
  try dsimp only at h0
  refine EV.sub ?_ rfl ?_ (h0 ?_)
  · rfl
  · rfl
  · exact ⟨by omega, fun j hj => by omega⟩
theorem c_purse {d : Nat} {I : Nat → Nat → Int32} {J : Nat → Nat → Int64} {κ : CT} {η : HS} (hc_ : HC 4 κ I) (cb : CB κ) (hh : HH 71 η I) (hb_ : HB κ η) (hw : HW κ η) {x : Nat} (h : x < 2 ^ κ.nc)  (hd : 9 ≤ d) : RV d 145 [.ref 0, .int (nI x)] I J (nI (crumb κ η x 40 κ.nc)) := by
  refine RV.in (d0 := 8) hd mt_145 (Nat.le_of_ble_eq_true rfl) (fun d' hd' => ?_)
  have bns := cb.ns; have bnb := cb.nb; have bnc := cb.nc; have bnr := cb.nr
  have bm_ := hb_.mi
  have p0 := pow_nc cb
  show EV none M_X10_purse d' 0 [(0, .ref 0), (1, .int (nI x))] [] (hp I J) _
  refine EV.l (lv' := [(0, _), (1, _)]) r_X10_purse_0 rfl ?_
  refine EV.l (lv' := [(0, _), (1, _)]) r_X10_purse_1 rfl ?_
  refine EV.l (lv' := [(0, _), (1, _)]) r_X10_purse_2 rfl ?_
  refine EV.gR r_X10_purse_3 la_0 ?_
  refine EV.getV r_X10_purse_6 la_4 (hc_.nc) ?_
  refine EV.cu r_X10_purse_9 (aV2 mt_158 la_0) (c_bits1 (by assumption) (by omega) (by omega)) (fun I2 e2 => ?_)
  have e2 := e2.symm; subst e2
  refine EV.l (lv' := [(0, _), (1, _)]) r_X10_purse_12 rfl ?_
  refine EV.gR r_X10_purse_13 la_0 ?_
  refine EV.l (lv' := [(0, _), (1, _)]) r_X10_purse_16 rfl ?_
  refine EV.o r_X10_purse_17 (bpN (40) 40) ?_
  refine EV.cv r_X10_purse_19 (aV2 mt_32 la_71) (c71_crumbs hc_ cb hh hb_ (by omega) (by omega) (by omega)) ?_
  exact EV.rv r_X10_purse_22 (rfl)
theorem c_purseX {d : Nat} {I : Nat → Nat → Int32} {J : Nat → Nat → Int64} {κ : CT} (hc_ : HC 4 κ I) (cb : CB κ) {x : Int} (x1 : -2147483648 ≤ x) (x2 : x < 2147483648) (hx : x < 0 ∨ ((2 ^ κ.nc : Nat) : Int) ≤ x)  (hd : 9 ≤ d) : RX d 145 [.ref 0, .int (zI x)] I J 1 (fun I' => I' = ref1 I 14) := by
  refine RX.in (d0 := 8) hd mt_145 (Nat.le_of_ble_eq_true rfl) (fun d' hd' => ?_)
  have bns := cb.ns; have bnb := cb.nb; have bnc := cb.nc; have bnr := cb.nr
  have pn := Nat.two_pow_pos κ.ns; have qn := pow_ns cb; have pc := Nat.two_pow_pos κ.nc; have qc := pow_nc cb
  show EV none M_X10_purse d' 0 [(0, .ref 0), (1, .int (zI x))] [] (hp I J) _
  refine EV.l (lv' := [(0, _), (1, _)]) r_X10_purse_0 rfl ?_
  refine EV.l (lv' := [(0, _), (1, _)]) r_X10_purse_1 rfl ?_
  refine EV.l (lv' := [(0, _), (1, _)]) r_X10_purse_2 rfl ?_
  refine EV.gR r_X10_purse_3 la_0 ?_
  refine EV.getV r_X10_purse_6 la_4 (hc_.nc) ?_
  exact EV.cx r_X10_purse_9 (aV2 mt_158 la_0) (c_bits0 (z_out (by omega) (by omega) (by omega) (by omega)) (by omega) (by omega)) (fun _ h => h)
theorem c_pairs {d : Nat} {I : Nat → Nat → Int32} {J : Nat → Nat → Int64} {κ : CT} {η : HS} (hc_ : HC 4 κ I) (cb : CB κ) (hh : HH 71 η I) (hb_ : HB κ η) (hw : HW κ η)  (hd : 9 ≤ d) : RV d 146 [.ref 0] I J (nI (prs η κ.nb)) := by
  refine RV.in (d0 := 8) hd mt_146 (Nat.le_of_ble_eq_true rfl) (fun d' hd' => ?_)
  have bns := cb.ns; have bnb := cb.nb; have bnc := cb.nc; have bnr := cb.nr
  have bm_ := hb_.mi
  show EV none M_X10_pairs d' 0 [(0, .ref 0)] [] (hp I J) _
  refine EV.o r_X10_pairs_0 (icN (0) (v := 0)) ?_
  refine EV.l (lv' := [(0, _), (1, _)]) r_X10_pairs_1 rfl ?_
  refine EV.o r_X10_pairs_2 (icN (0) (v := 0)) ?_
  refine EV.l (lv' := [(0, _), (1, _), (2, _)]) r_X10_pairs_3 rfl ?_
  have L4 : ∀ y_ : Nat, (fun b => b ≤ κ.nb → EV none M_X10_pairs d' 4 [(0, .ref 0), (1, .int (nI (prs η b))), (2, .int (nI b))] [] (hp I J) (QV I J (nI (prs η κ.nb)))) y_ := by
    refine ev_loop (fun b => κ.nb - b) ?_
    intro b ih4 hx4
    try dsimp only at ih4
    try dsimp only at hx4
    try dsimp only
    have b1 := hb_.be b; have b2 := hb_.wk b; have pl_ := prs_le η b; have bb : b * b ≤ 16 := Nat.mul_le_mul (by omega : b ≤ 4) (by omega : b ≤ 4)
    refine EV.l (lv' := [(0, _), (1, _), (2, _)]) r_X10_pairs_4 rfl ?_
    refine EV.l (lv' := [(0, _), (1, _), (2, _)]) r_X10_pairs_5 rfl ?_
    refine EV.gR r_X10_pairs_6 la_0 ?_
    refine EV.getV r_X10_pairs_9 la_4 (hc_.nb) ?_
    refine EV.n2_ge r_X10_pairs_12 (fun h12 => ?_) (fun h12 => ?_)
    · -- 12 t
      refine EV.l (lv' := [(0, _), (1, _), (2, _)]) r_X10_pairs_81 rfl ?_
      exact EV.rv r_X10_pairs_82 (by rw [show b = κ.nb by omega])
    · -- 12 f
      refine EV.o r_X10_pairs_15 (icN (0) (v := 0)) ?_
      refine EV.l (lv' := [(0, _), (1, _), (2, _), (3, _)]) r_X10_pairs_16 rfl ?_
      have L17 : ∀ y_ : Nat, (fun o => o ≤ b → EV none M_X10_pairs d' 17 [(0, .ref 0), (1, .int (nI (prs η b + prIn η b o))), (2, .int (nI b)), (3, .int (nI o))] [] (hp I J) (QV I J (nI (prs η κ.nb)))) y_ := by
        refine ev_loop (fun o => b - o) ?_
        intro o ih17 hx17
        try dsimp only at ih17
        try dsimp only at hx17
        try dsimp only
        have b3 := hb_.be o; have b4 := hb_.wk o; have b5 := hw.wk1 o (by omega); have b6 := hw.wk1 b (by omega); have pi_ := prIn_le η b o
        refine EV.l (lv' := [(0, _), (1, _), (2, _), (3, _)]) r_X10_pairs_17 rfl ?_
        refine EV.l (lv' := [(0, _), (1, _), (2, _), (3, _)]) r_X10_pairs_18 rfl ?_
        refine EV.n2_ge r_X10_pairs_19 (fun h19 => ?_) (fun h19 => ?_)
        · -- 19 t
          obtain rfl : b = o := by omega
          refine EV.l (lv' := [(0, _), (1, _), (2, _), (3, _)]) r_X10_pairs_75 rfl ?_
          rw [inc_nI]
          refine EV.g r_X10_pairs_78 ?_
          refine EV.fg (lv' := [(0, _), (1, _), (2, _)]) r_X10_pairs_4 rfl rfl rfl ?_
          refine EV.sub ?_ rfl ?_ (ih4 (b + 1) ?_ ?_)
          · rfl
          · rfl
          · omega
          · omega
        · -- 19 f
          refine EV.l (lv' := [(0, _), (1, _), (2, _), (3, _)]) r_X10_pairs_22 rfl ?_
          refine EV.gR r_X10_pairs_23 la_0 ?_
          refine EV.gR r_X10_pairs_26 la_71 ?_
          refine EV.l (lv' := [(0, _), (1, _), (2, _), (3, _)]) r_X10_pairs_29 rfl ?_
          refine EV.cv r_X10_pairs_30 (aV1 mt_92 la_74) (c_getN (by omega) la_74 la_75 (hh.be _ (by omega))) ?_
          refine EV.l (lv' := [(0, _), (1, _), (2, _), (3, _)]) r_X10_pairs_33 rfl ?_
          refine EV.gR r_X10_pairs_34 la_0 ?_
          refine EV.l (lv' := [(0, _), (1, _), (2, _), (3, _)]) r_X10_pairs_37 rfl ?_
          refine EV.cv r_X10_pairs_38 (aV1 mt_33 la_71) (c71_lastOn hc_ cb hh hb_ hw (by omega) (by omega)) ?_
          refine EV.n2_gt r_X10_pairs_41 (fun h41 => ?_) (fun h41 => ?_)
          · -- 41 t
            refine EV.l (lv' := [(0, _), (1, _), (2, _), (3, _)]) r_X10_pairs_69 rfl ?_
            rw [inc_nI]
            refine EV.g r_X10_pairs_72 ?_
            refine EV.sub ?_ rfl ?_ (ih17 (o + 1) ?_ ?_)
            · first | (rw [← prIn_t (decide_eq_true (by omega))]; rfl) | (rw [← prIn_f (decide_eq_false (by omega))])
            · rfl
            · omega
            · omega
          · -- 41 f
            refine EV.l (lv' := [(0, _), (1, _), (2, _), (3, _)]) r_X10_pairs_44 rfl ?_
            refine EV.gR r_X10_pairs_45 la_0 ?_
            refine EV.gR r_X10_pairs_48 la_71 ?_
            refine EV.l (lv' := [(0, _), (1, _), (2, _), (3, _)]) r_X10_pairs_51 rfl ?_
            refine EV.cv r_X10_pairs_52 (aV1 mt_92 la_74) (c_getN (by omega) la_74 la_75 (hh.be _ (by omega))) ?_
            refine EV.l (lv' := [(0, _), (1, _), (2, _), (3, _)]) r_X10_pairs_55 rfl ?_
            refine EV.gR r_X10_pairs_56 la_0 ?_
            refine EV.l (lv' := [(0, _), (1, _), (2, _), (3, _)]) r_X10_pairs_59 rfl ?_
            refine EV.cv r_X10_pairs_60 (aV1 mt_33 la_71) (c71_lastOn hc_ cb hh hb_ hw (by omega) (by omega)) ?_
            refine EV.n2_gt r_X10_pairs_63 (fun h63 => ?_) (fun h63 => ?_)
            · -- 63 t
              refine EV.l (lv' := [(0, _), (1, _), (2, _), (3, _)]) r_X10_pairs_69 rfl ?_
              rw [inc_nI]
              refine EV.g r_X10_pairs_72 ?_
              refine EV.sub ?_ rfl ?_ (ih17 (o + 1) ?_ ?_)
              · first | (rw [← prIn_t (decide_eq_true (by omega))]; rfl) | (rw [← prIn_f (decide_eq_false (by omega))])
              · rfl
              · omega
              · omega
            · -- 63 f
              refine EV.l (lv' := [(0, _), (1, _), (2, _), (3, _)]) r_X10_pairs_66 rfl ?_
              rw [inc_nI]
              refine EV.l (lv' := [(0, _), (1, _), (2, _), (3, _)]) r_X10_pairs_69 rfl ?_
              rw [inc_nI]
              refine EV.g r_X10_pairs_72 ?_
              refine EV.sub ?_ rfl ?_ (ih17 (o + 1) ?_ ?_)
              · first | (rw [← prIn_t (decide_eq_true (by omega))]; rfl) | (rw [← prIn_f (decide_eq_false (by omega))])
              · rfl
              · omega
              · omega
      have h0 := L17 (0)
      try dsimp only at h0
      refine EV.sub ?_ rfl ?_ (h0 ?_)
      · rfl
      · rfl
      · omega
  have h0 := L4 (0)
  try dsimp only at h0
  refine EV.sub ?_ rfl ?_ (h0 ?_)
  · rfl
  · rfl
  · omega
theorem c_swing {d : Nat} {I : Nat → Nat → Int32} {J : Nat → Nat → Int64} {κ : CT} {η : HS} (hc_ : HC 4 κ I) (cb : CB κ) (hh : HH 71 η I) (hb_ : HB κ η) (hw : HW κ η) {i : Nat} (h : i < κ.ns)  (hd : 9 ≤ d) : RV d 148 [.ref 0, .int (nI i)] I J (zI (lean κ (heard κ η η.mi ^^^ 2 ^ i))) := by
  refine RV.in (d0 := 8) hd mt_148 (Nat.le_of_ble_eq_true rfl) (fun d' hd' => ?_)
  have bns := cb.ns; have bnb := cb.nb; have bnc := cb.nc; have bnr := cb.nr
  have bm_ := hb_.mi
  show EV none M_X10_swing d' 0 [(0, .ref 0), (1, .int (nI i))] [] (hp I J) _
  refine EV.l (lv' := [(0, _), (1, _)]) r_X10_swing_0 rfl ?_
  refine EV.l (lv' := [(0, _), (1, _)]) r_X10_swing_1 rfl ?_
  refine EV.l (lv' := [(0, _), (1, _)]) r_X10_swing_2 rfl ?_
  refine EV.gR r_X10_swing_3 la_0 ?_
  refine EV.getV r_X10_swing_6 la_4 (hc_.ns) ?_
  refine EV.cu r_X10_swing_9 (aV2 mt_160 la_0) (c_there1 (by omega) (by omega) (by omega)) (fun I2 e2 => ?_)
  have e2 := e2.symm; subst e2
  refine EV.l (lv' := [(0, _), (1, _)]) r_X10_swing_12 rfl ?_
  refine EV.gR r_X10_swing_13 la_0 ?_
  refine EV.l (lv' := [(0, _), (1, _)]) r_X10_swing_16 rfl ?_
  refine EV.gR r_X10_swing_17 la_0 ?_
  refine EV.l (lv' := [(0, _), (1, _)]) r_X10_swing_20 rfl ?_
  refine EV.gR r_X10_swing_21 la_0 ?_
  refine EV.getV r_X10_swing_24 la_71 (hh.mi) ?_
  refine EV.cv r_X10_swing_27 (aV1 mt_38 la_71) (c71_heard hc_ cb hh hb_ hw (by omega) (by omega)) ?_
  refine EV.l (lv' := [(0, _), (1, _)]) r_X10_swing_30 rfl ?_
  refine EV.cv r_X10_swing_31 (aS1 mt_162) (c_bit (by omega) (by omega)) ?_
  refine EV.o r_X10_swing_34 ixorN ?_
  refine EV.cv r_X10_swing_35 (aV1 mt_22 la_4) (b_lean hc_ cb (xor_lt9 (heard_lt _) h) (by omega)) ?_
  exact EV.rv r_X10_swing_38 (rfl)
theorem c_when0 {d : Nat} {I : Nat → Nat → Int32} {J : Nat → Nat → Int64} {κ : CT} {η : HS} (hc_ : HC 4 κ I) (cb : CB κ) (hh : HH 71 η I) (hb_ : HB κ η) (hw : HW κ η)  (hd : 9 ≤ d) : RV d 149 [.ref 0, .int (nI 0)] I J (nI (sdB κ η (η.mi + 1) 400)) := by
  refine RV.in (d0 := 8) hd mt_149 (Nat.le_of_ble_eq_true rfl) (fun d' hd' => ?_)
  have bns := cb.ns; have bnb := cb.nb; have bnc := cb.nc; have bnr := cb.nr
  have bm_ := hb_.mi
  show EV none M_X10_when d' 0 [(0, .ref 0), (1, .int (nI 0))] [] (hp I J) _
  refine EV.l (lv' := [(0, _), (1, _)]) r_X10_when_0 rfl ?_
  refine EV.l (lv' := [(0, _), (1, _)]) r_X10_when_1 rfl ?_
  refine EV.n0_lt r_X10_when_2 (fun h2 => ?_) (fun h2 => ?_)
  · omega
  · -- 2 f
    refine EV.l (lv' := [(0, _), (1, _)]) r_X10_when_5 rfl ?_
    refine EV.o r_X10_when_6 (icN (2) (v := 2)) ?_
    refine EV.n2_gt r_X10_when_7 (fun h7 => ?_) (fun h7 => ?_)
    · omega
    · -- 7 f
      refine EV.o r_X10_when_10 (icN (1) (v := 1)) ?_
      refine EV.g r_X10_when_11 ?_
      refine EV.cu r_X10_when_15 (aV1 mt_159 la_0) (c_arg1 (by omega)) (fun I2 e2 => ?_)
      have e2 := e2.symm; subst e2
      refine EV.l (lv' := [(0, _), (1, _)]) r_X10_when_18 rfl ?_
      refine EV.ls (q := 44) r_X10_when_19 (by decide +kernel) ?_
      refine EV.l (lv' := [(0, _), (1, _)]) r_X10_when_44 rfl ?_
      refine EV.gR r_X10_when_45 la_0 ?_
      refine EV.l (lv' := [(0, _), (1, _)]) r_X10_when_48 rfl ?_
      refine EV.gR r_X10_when_49 la_0 ?_
      refine EV.getV r_X10_when_52 la_71 (hh.mi) ?_
      refine EV.o r_X10_when_55 (icN (1) (v := 1)) ?_
      refine EV.o r_X10_when_56 iaddN ?_
      refine EV.o r_X10_when_57 (spN (400) 400) ?_
      refine EV.cv r_X10_when_60 (aV2 mt_37 la_71) (c71_said hc_ cb hh hb_ (by omega) (by omega) (by omega)) ?_
      exact EV.rv r_X10_when_63 (rfl)
