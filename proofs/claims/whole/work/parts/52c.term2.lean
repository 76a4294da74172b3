/-! (goes on) -/
theorem c_spanX2 {d : Nat} {I : Nat → Nat → Int32} {J : Nat → Nat → Int64} {κ : CT} (hc_ : HC 4 κ I) (cb : CB κ) {s : Int32} {q n : Nat} (hq : q ≤ 16) (h1 : 1 ≤ n) (h2 : n ≤ 48) {x : Int32} {m : Int} (m1 : -2147483648 ≤ m) (m2 : m < 2147483648) {w : Int} (w1 : -2147483648 ≤ w) (w2 : w < 2147483648) (h : ¬ (1 ≤ m ∧ m ≤ 10 ∧ 0 ≤ w ∧ w ≤ 2))  (hd : 9 ≤ d) : RX d 151 [.ref 0, .int s, .int (zI m), .int (nI q), .int (nI n), .int (zI w), .int x] I J 1 (fun I' => I' = ref1 I 14) := by
  refine RX.in (d0 := 8) hd mt_151 (Nat.le_of_ble_eq_true rfl) (fun d' hd' => ?_)
  have bns := cb.ns; have bnb := cb.nb; have bnc := cb.nc; have bnr := cb.nr
  show EV none M_X10_span d' 0 [(0, .ref 0), (1, .int s), (2, .int (zI m)), (3, .int (nI q)), (4, .int (nI n)), (5, .int (zI w)), (6, .int x)] [] (hp I J) _
  refine EV.l (lv' := [(0, _), (1, _), (2, _), (3, _), (4, _), (5, _), (6, _)]) r_X10_span_0 rfl ?_
  refine EV.l (lv' := [(0, _), (1, _), (2, _), (3, _), (4, _), (5, _), (6, _)]) r_X10_span_1 rfl ?_
  refine EV.l (lv' := [(0, _), (1, _), (2, _), (3, _), (4, _), (5, _), (6, _)]) r_X10_span_2 rfl ?_
  refine EV.cu r_X10_span_4 (aV2 mt_157 la_0) (c_chkT1 hq h1 h2 (by omega)) (fun I2 e2 => ?_)
  have e2 := e2.symm; subst e2
  refine EV.l (lv' := [(0, _), (1, _), (2, _), (3, _), (4, _), (5, _), (6, _)]) r_X10_span_7 rfl ?_
  refine EV.l (lv' := [(0, _), (1, _), (2, _), (3, _), (4, _), (5, _), (6, _)]) r_X10_span_8 rfl ?_
  refine EV.o r_X10_span_9 (icN (1) (v := 1)) ?_
  refine EV.zn2_lt r_X10_span_10 (fun h10 => ?_) (fun h10 => ?_)
  · -- 10 t
    refine EV.o r_X10_span_34 (icN (0) (v := 0)) ?_
    exact EV.cx r_X10_span_35 (aV1 mt_159 la_0) (c_arg0 (by omega)) (fun _ h => h)
  · -- 10 f
    refine EV.l (lv' := [(0, _), (1, _), (2, _), (3, _), (4, _), (5, _), (6, _)]) r_X10_span_13 rfl ?_
    refine EV.o r_X10_span_14 (bpN (10) 10) ?_
    refine EV.zn2_gt r_X10_span_16 (fun h16 => ?_) (fun h16 => ?_)
    · -- 16 t
      refine EV.o r_X10_span_34 (icN (0) (v := 0)) ?_
      exact EV.cx r_X10_span_35 (aV1 mt_159 la_0) (c_arg0 (by omega)) (fun _ h => h)
    · -- 16 f
      refine EV.l (lv' := [(0, _), (1, _), (2, _), (3, _), (4, _), (5, _), (6, _)]) r_X10_span_19 rfl ?_
      refine EV.z0_lt r_X10_span_21 (fun h21 => ?_) (fun h21 => ?_)
      · -- 21 t
        refine EV.o r_X10_span_34 (icN (0) (v := 0)) ?_
        exact EV.cx r_X10_span_35 (aV1 mt_159 la_0) (c_arg0 (by omega)) (fun _ h => h)
      · -- 21 f
        refine EV.l (lv' := [(0, _), (1, _), (2, _), (3, _), (4, _), (5, _), (6, _)]) r_X10_span_24 rfl ?_
        refine EV.o r_X10_span_26 (icN (2) (v := 2)) ?_
        refine EV.zn2_gt r_X10_span_27 (fun h27 => ?_) (fun h27 => ?_)
        · -- 27 t
          refine EV.o r_X10_span_34 (icN (0) (v := 0)) ?_
          exact EV.cx r_X10_span_35 (aV1 mt_159 la_0) (c_arg0 (by omega)) (fun _ h => h)
        · -- 27 f
          refine EV.o r_X10_span_30 (icN (1) (v := 1)) ?_
          refine EV.g r_X10_span_31 ?_
          omega
theorem c_spanX3 {d : Nat} {I : Nat → Nat → Int32} {J : Nat → Nat → Int64} {κ : CT} (hc_ : HC 4 κ I) (cb : CB κ) {s : Int32} {q n m w : Nat} (hq : q ≤ 16) (h1 : 1 ≤ n) (h2 : n ≤ 48) (h3 : 1 ≤ m) (h4 : m ≤ 10) (h5 : w ≤ 2) {x : Int} (x1 : -2147483648 ≤ x) (x2 : x < 2147483648) (h : x < 0 ∨ (κ.ns : Int) ≤ x)  (hd : 9 ≤ d) : RX d 151 [.ref 0, .int s, .int (nI m), .int (nI q), .int (nI n), .int (nI w), .int (zI x)] I J 1 (fun I' => I' = ref1 I 14) := by
  refine RX.in (d0 := 8) hd mt_151 (Nat.le_of_ble_eq_true rfl) (fun d' hd' => ?_)
  have bns := cb.ns; have bnb := cb.nb; have bnc := cb.nc; have bnr := cb.nr
  show EV none M_X10_span d' 0 [(0, .ref 0), (1, .int s), (2, .int (nI m)), (3, .int (nI q)), (4, .int (nI n)), (5, .int (nI w)), (6, .int (zI x))] [] (hp I J) _
  refine EV.l (lv' := [(0, _), (1, _), (2, _), (3, _), (4, _), (5, _), (6, _)]) r_X10_span_0 rfl ?_
  refine EV.l (lv' := [(0, _), (1, _), (2, _), (3, _), (4, _), (5, _), (6, _)]) r_X10_span_1 rfl ?_
  refine EV.l (lv' := [(0, _), (1, _), (2, _), (3, _), (4, _), (5, _), (6, _)]) r_X10_span_2 rfl ?_
  refine EV.cu r_X10_span_4 (aV2 mt_157 la_0) (c_chkT1 hq h1 h2 (by omega)) (fun I2 e2 => ?_)
  have e2 := e2.symm; subst e2
  refine EV.l (lv' := [(0, _), (1, _), (2, _), (3, _), (4, _), (5, _), (6, _)]) r_X10_span_7 rfl ?_
  refine EV.l (lv' := [(0, _), (1, _), (2, _), (3, _), (4, _), (5, _), (6, _)]) r_X10_span_8 rfl ?_
  refine EV.o r_X10_span_9 (icN (1) (v := 1)) ?_
  refine EV.n2_lt r_X10_span_10 (fun h10 => ?_) (fun h10 => ?_)
  · -- 10 t
    refine EV.o r_X10_span_34 (icN (0) (v := 0)) ?_
    omega
  · -- 10 f
    refine EV.l (lv' := [(0, _), (1, _), (2, _), (3, _), (4, _), (5, _), (6, _)]) r_X10_span_13 rfl ?_
    refine EV.o r_X10_span_14 (bpN (10) 10) ?_
    refine EV.n2_gt r_X10_span_16 (fun h16 => ?_) (fun h16 => ?_)
    · -- 16 t
      refine EV.o r_X10_span_34 (icN (0) (v := 0)) ?_
      omega
    · -- 16 f
      refine EV.l (lv' := [(0, _), (1, _), (2, _), (3, _), (4, _), (5, _), (6, _)]) r_X10_span_19 rfl ?_
      refine EV.n0_lt r_X10_span_21 (fun h21 => ?_) (fun h21 => ?_)
      · -- 21 t
        refine EV.o r_X10_span_34 (icN (0) (v := 0)) ?_
        omega
      · -- 21 f
        refine EV.l (lv' := [(0, _), (1, _), (2, _), (3, _), (4, _), (5, _), (6, _)]) r_X10_span_24 rfl ?_
        refine EV.o r_X10_span_26 (icN (2) (v := 2)) ?_
        refine EV.n2_gt r_X10_span_27 (fun h27 => ?_) (fun h27 => ?_)
        · -- 27 t
          refine EV.o r_X10_span_34 (icN (0) (v := 0)) ?_
          omega
        · -- 27 f
          refine EV.o r_X10_span_30 (icN (1) (v := 1)) ?_
          refine EV.g r_X10_span_31 ?_
          refine EV.cu r_X10_span_35 (aV1 mt_159 la_0) (c_arg1 (by omega)) (fun I2 e2 => ?_)
          have e2 := e2.symm; subst e2
          refine EV.l (lv' := [(0, _), (1, _), (2, _), (3, _), (4, _), (5, _), (6, _)]) r_X10_span_38 rfl ?_
          refine EV.l (lv' := [(0, _), (1, _), (2, _), (3, _), (4, _), (5, _), (6, _)]) r_X10_span_39 rfl ?_
          refine EV.z0_lt r_X10_span_41 (fun h41 => ?_) (fun h41 => ?_)
          · -- 41 t
            refine EV.o r_X10_span_60 (icN (0) (v := 0)) ?_
            exact EV.cx r_X10_span_61 (aV1 mt_159 la_0) (c_arg0 (by omega)) (fun _ h => h)
          · -- 41 f
            refine EV.l (lv' := [(0, _), (1, _), (2, _), (3, _), (4, _), (5, _), (6, _)]) r_X10_span_44 rfl ?_
            refine EV.l (lv' := [(0, _), (1, _), (2, _), (3, _), (4, _), (5, _), (6, _)]) r_X10_span_46 rfl ?_
            refine EV.gR r_X10_span_47 la_0 ?_
            refine EV.getV r_X10_span_50 la_4 (hc_.ns) ?_
            refine EV.zn2_ge r_X10_span_53 (fun h53 => ?_) (fun h53 => ?_)
            · -- 53 t
              refine EV.o r_X10_span_60 (icN (0) (v := 0)) ?_
              exact EV.cx r_X10_span_61 (aV1 mt_159 la_0) (c_arg0 (by omega)) (fun _ h => h)
            · -- 53 f
              refine EV.o r_X10_span_56 (icN (1) (v := 1)) ?_
              refine EV.g r_X10_span_57 ?_
              omega
