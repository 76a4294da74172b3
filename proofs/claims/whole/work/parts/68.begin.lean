/-! A text begins. -/
theorem r_X10_startText_0 : RW M_X10_startText 0 (.aload_n 0) 1 0 0 1 := ⟨rfl, rfl⟩
theorem r_X10_startText_1 : RW M_X10_startText 1 (.iload_n 1) 1 0 0 2 := ⟨rfl, rfl⟩
theorem r_X10_startText_2 : RW M_X10_startText 2 (.ifCond .lt 23) 3 25 0 5 := ⟨rfl, rfl⟩
theorem r_X10_startText_5 : RW M_X10_startText 5 (.iload_n 1) 1 0 0 6 := ⟨rfl, rfl⟩
theorem r_X10_startText_6 : RW M_X10_startText 6 (.aload_n 0) 1 0 0 7 := ⟨rfl, rfl⟩
theorem r_X10_startText_7 : RW M_X10_startText 7 (.getfield 10) 3 10 0 10 := ⟨rfl, rfl⟩
theorem r_X10_startText_10 : RW M_X10_startText 10 (.getfield 87) 3 6 1 13 := ⟨rfl, rfl⟩
theorem r_X10_startText_13 : RW M_X10_startText 13 (.if_icmp .gt 12) 3 25 0 16 := ⟨rfl, rfl⟩
theorem r_X10_startText_16 : RW M_X10_startText 16 (.iload_n 1) 1 0 0 17 := ⟨rfl, rfl⟩
theorem r_X10_startText_17 : RW M_X10_startText 17 (.iload_n 2) 1 0 0 18 := ⟨rfl, rfl⟩
theorem r_X10_startText_18 : RW M_X10_startText 18 (.if_icmp .gt 7) 3 25 0 21 := ⟨rfl, rfl⟩
theorem r_X10_startText_21 : RW M_X10_startText 21 (.iconst 1) 1 0 0 22 := ⟨rfl, rfl⟩
theorem r_X10_startText_22 : RW M_X10_startText 22 (.goto 4) 3 26 0 25 := ⟨rfl, rfl⟩
theorem r_X10_startText_25 : RW M_X10_startText 25 (.iconst 0) 1 0 0 26 := ⟨rfl, rfl⟩
theorem r_X10_startText_26 : RW M_X10_startText 26 (.invokevirtual 175) 3 159 0 29 := ⟨rfl, rfl⟩
theorem r_X10_startText_29 : RW M_X10_startText 29 (.aload_n 0) 1 0 0 30 := ⟨rfl, rfl⟩
theorem r_X10_startText_30 : RW M_X10_startText 30 (.getfield 10) 3 10 0 33 := ⟨rfl, rfl⟩
theorem r_X10_startText_33 : RW M_X10_startText 33 (.iload_n 1) 1 0 0 34 := ⟨rfl, rfl⟩
theorem r_X10_startText_34 : RW M_X10_startText 34 (.invokevirtual 382) 3 77 0 37 := ⟨rfl, rfl⟩
theorem r_X10_startText_37 : RW M_X10_startText 37 (.return_) 1 0 0 38 := ⟨rfl, rfl⟩
theorem r_X11_isFull_0 : RW M_X11_isFull 0 (.iload_n 1) 1 0 0 1 := ⟨rfl, rfl⟩
theorem r_X11_isFull_1 : RW M_X11_isFull 1 (.iconst 1) 1 0 0 2 := ⟨rfl, rfl⟩
theorem r_X11_isFull_2 : RW M_X11_isFull 2 (.if_icmp .ne 20) 3 22 0 5 := ⟨rfl, rfl⟩
theorem r_X11_isFull_5 : RW M_X11_isFull 5 (.aload_n 0) 1 0 0 6 := ⟨rfl, rfl⟩
theorem r_X11_isFull_6 : RW M_X11_isFull 6 (.getfield 154) 3 11 18 9 := ⟨rfl, rfl⟩
theorem r_X11_isFull_9 : RW M_X11_isFull 9 (.bipush 9) 2 0 0 11 := ⟨rfl, rfl⟩
theorem r_X11_isFull_11 : RW M_X11_isFull 11 (.if_icmp .ne 7) 3 18 0 14 := ⟨rfl, rfl⟩
theorem r_X11_isFull_14 : RW M_X11_isFull 14 (.iconst 1) 1 0 0 15 := ⟨rfl, rfl⟩
theorem r_X11_isFull_15 : RW M_X11_isFull 15 (.goto 63) 3 78 0 18 := ⟨rfl, rfl⟩
theorem r_X11_isFull_18 : RW M_X11_isFull 18 (.iconst 0) 1 0 0 19 := ⟨rfl, rfl⟩
theorem r_X11_isFull_19 : RW M_X11_isFull 19 (.goto 59) 3 78 0 22 := ⟨rfl, rfl⟩
theorem r_X11_isFull_22 : RW M_X11_isFull 22 (.iload_n 1) 1 0 0 23 := ⟨rfl, rfl⟩
theorem r_X11_isFull_23 : RW M_X11_isFull 23 (.iconst 2) 1 0 0 24 := ⟨rfl, rfl⟩
theorem r_X11_isFull_24 : RW M_X11_isFull 24 (.if_icmp .ne 20) 3 44 0 27 := ⟨rfl, rfl⟩
theorem r_X11_isFull_27 : RW M_X11_isFull 27 (.aload_n 0) 1 0 0 28 := ⟨rfl, rfl⟩
theorem r_X11_isFull_28 : RW M_X11_isFull 28 (.getfield 157) 3 11 19 31 := ⟨rfl, rfl⟩
theorem r_X11_isFull_31 : RW M_X11_isFull 31 (.bipush 12) 2 0 0 33 := ⟨rfl, rfl⟩
theorem r_X11_isFull_33 : RW M_X11_isFull 33 (.if_icmp .ne 7) 3 40 0 36 := ⟨rfl, rfl⟩
theorem r_X11_isFull_36 : RW M_X11_isFull 36 (.iconst 1) 1 0 0 37 := ⟨rfl, rfl⟩
theorem r_X11_isFull_37 : RW M_X11_isFull 37 (.goto 41) 3 78 0 40 := ⟨rfl, rfl⟩
theorem r_X11_isFull_40 : RW M_X11_isFull 40 (.iconst 0) 1 0 0 41 := ⟨rfl, rfl⟩
theorem r_X11_isFull_41 : RW M_X11_isFull 41 (.goto 37) 3 78 0 44 := ⟨rfl, rfl⟩
theorem r_X11_isFull_44 : RW M_X11_isFull 44 (.iload_n 1) 1 0 0 45 := ⟨rfl, rfl⟩
theorem r_X11_isFull_45 : RW M_X11_isFull 45 (.iconst 3) 1 0 0 46 := ⟨rfl, rfl⟩
theorem r_X11_isFull_46 : RW M_X11_isFull 46 (.if_icmp .ne 19) 3 65 0 49 := ⟨rfl, rfl⟩
theorem r_X11_isFull_49 : RW M_X11_isFull 49 (.aload_n 0) 1 0 0 50 := ⟨rfl, rfl⟩
theorem r_X11_isFull_50 : RW M_X11_isFull 50 (.getfield 160) 3 11 20 53 := ⟨rfl, rfl⟩
theorem r_X11_isFull_53 : RW M_X11_isFull 53 (.iconst 4) 1 0 0 54 := ⟨rfl, rfl⟩
theorem r_X11_isFull_54 : RW M_X11_isFull 54 (.if_icmp .ne 7) 3 61 0 57 := ⟨rfl, rfl⟩
theorem r_X11_isFull_57 : RW M_X11_isFull 57 (.iconst 1) 1 0 0 58 := ⟨rfl, rfl⟩
theorem r_X11_isFull_58 : RW M_X11_isFull 58 (.goto 20) 3 78 0 61 := ⟨rfl, rfl⟩
theorem r_X11_isFull_61 : RW M_X11_isFull 61 (.iconst 0) 1 0 0 62 := ⟨rfl, rfl⟩
theorem r_X11_isFull_62 : RW M_X11_isFull 62 (.goto 16) 3 78 0 65 := ⟨rfl, rfl⟩
theorem r_X11_isFull_65 : RW M_X11_isFull 65 (.aload_n 0) 1 0 0 66 := ⟨rfl, rfl⟩
theorem r_X11_isFull_66 : RW M_X11_isFull 66 (.getfield 163) 3 11 21 69 := ⟨rfl, rfl⟩
theorem r_X11_isFull_69 : RW M_X11_isFull 69 (.iconst 4) 1 0 0 70 := ⟨rfl, rfl⟩
theorem r_X11_isFull_70 : RW M_X11_isFull 70 (.if_icmp .ne 7) 3 77 0 73 := ⟨rfl, rfl⟩
theorem r_X11_isFull_73 : RW M_X11_isFull 73 (.iconst 1) 1 0 0 74 := ⟨rfl, rfl⟩
theorem r_X11_isFull_74 : RW M_X11_isFull 74 (.goto 4) 3 78 0 77 := ⟨rfl, rfl⟩
theorem r_X11_isFull_77 : RW M_X11_isFull 77 (.iconst 0) 1 0 0 78 := ⟨rfl, rfl⟩
theorem r_X11_isFull_78 : RW M_X11_isFull 78 (.ireturn) 1 0 0 79 := ⟨rfl, rfl⟩
theorem r_X11_thrown_0 : RW M_X11_thrown 0 (.aload_n 0) 1 0 0 1 := ⟨rfl, rfl⟩
theorem r_X11_thrown_1 : RW M_X11_thrown 1 (.getfield 3) 3 11 0 4 := ⟨rfl, rfl⟩
theorem r_X11_thrown_4 : RW M_X11_thrown 4 (.ireturn) 1 0 0 5 := ⟨rfl, rfl⟩
theorem c_startText {d : Nat} {I : Nat → Nat → Int32} {J : Nat → Nat → Int64} {g : Nat → Nat} {n tl most : Nat} (tp : ∀ j, j < 600 → I 3 j = nI (g j)) (gb : ∀ j, g j < 256) (h1 : I 1 1 = nI tl) (t6 : tl ≤ 600) (ht : n ≤ tl) (hm : n ≤ most) (hm2 : most < 100000) (hd : 5 ≤ d) : RU d 156 [.ref 0, .int (nI n), .int (nI most)] I J (fun I' => RG g n (scp isB g n 0) I' ∧ RO I I') := by
  refine RU.in (d0 := 4) hd mt_156 (Nat.le_of_ble_eq_true rfl) (fun d' hd' => ?_)
  show EV none M_X10_startText d' 0 [(0, .ref 0), (1, .int (nI n)), (2, .int (nI most))] [] (hp I J) _
  refine EV.l (lv' := [(0, _), (1, _), (2, _)]) r_X10_startText_0 rfl ?_
  refine EV.l (lv' := [(0, _), (1, _), (2, _)]) r_X10_startText_1 rfl ?_
  refine EV.n0_lt r_X10_startText_2 (fun h2 => ?_) (fun h2 => ?_)
  · -- 2 t
    refine EV.o r_X10_startText_25 (icN (0) (v := 0)) ?_
    omega
  · -- 2 f
    refine EV.l (lv' := [(0, _), (1, _), (2, _)]) r_X10_startText_5 rfl ?_
    refine EV.l (lv' := [(0, _), (1, _), (2, _)]) r_X10_startText_6 rfl ?_
    refine EV.gR r_X10_startText_7 la_0 ?_
    refine EV.getV r_X10_startText_10 la_1 (h1) ?_
    refine EV.n2_gt r_X10_startText_13 (fun h13 => ?_) (fun h13 => ?_)
    · -- 13 t
      refine EV.o r_X10_startText_25 (icN (0) (v := 0)) ?_
      omega
    · -- 13 f
      refine EV.l (lv' := [(0, _), (1, _), (2, _)]) r_X10_startText_16 rfl ?_
      refine EV.l (lv' := [(0, _), (1, _), (2, _)]) r_X10_startText_17 rfl ?_
      refine EV.n2_gt r_X10_startText_18 (fun h18 => ?_) (fun h18 => ?_)
      · -- 18 t
        refine EV.o r_X10_startText_25 (icN (0) (v := 0)) ?_
        omega
      · -- 18 f
        refine EV.o r_X10_startText_21 (icN (1) (v := 1)) ?_
        refine EV.g r_X10_startText_22 ?_
        refine EV.cu r_X10_startText_26 (aV1 mt_159 la_0) (c_arg1 (by omega)) (fun I2 e2 => ?_)
        have e2 := e2.symm; subst e2
        refine EV.l (lv' := [(0, _), (1, _), (2, _)]) r_X10_startText_29 rfl ?_
        refine EV.gR r_X10_startText_30 la_0 ?_
        refine EV.l (lv' := [(0, _), (1, _), (2, _)]) r_X10_startText_33 rfl ?_
        refine EV.cu r_X10_startText_34 (aV1 mt_77 la_1) (c_start tp gb (by omega) (by omega)) (fun I2 h2 => ?_)
        exact EV.ru r_X10_startText_37 (h2)
theorem c_startTextX {d : Nat} {I : Nat → Nat → Int32} {J : Nat → Nat → Int64} {tl most : Nat} {n : Int} (n1 : -2147483648 ≤ n) (n2 : n < 2147483648) (h1 : I 1 1 = nI tl) (t6 : tl ≤ 600) (hm2 : most < 100000) (hx : ¬ (0 ≤ n ∧ n ≤ tl ∧ n ≤ most)) (hd : 3 ≤ d) : RX d 156 [.ref 0, .int (zI n), .int (nI most)] I J 1 (fun I' => I' = ref1 I 14) := by
  refine RX.in (d0 := 2) hd mt_156 (Nat.le_of_ble_eq_true rfl) (fun d' hd' => ?_)
  show EV none M_X10_startText d' 0 [(0, .ref 0), (1, .int (zI n)), (2, .int (nI most))] [] (hp I J) _
  refine EV.l (lv' := [(0, _), (1, _), (2, _)]) r_X10_startText_0 rfl ?_
  refine EV.l (lv' := [(0, _), (1, _), (2, _)]) r_X10_startText_1 rfl ?_
  refine EV.z0_lt r_X10_startText_2 (fun h2 => ?_) (fun h2 => ?_)
  · -- 2 t
    refine EV.o r_X10_startText_25 (icN (0) (v := 0)) ?_
    exact EV.cx r_X10_startText_26 (aV1 mt_159 la_0) (c_arg0 (by omega)) (fun _ h => h)
  · -- 2 f
    refine EV.l (lv' := [(0, _), (1, _), (2, _)]) r_X10_startText_5 rfl ?_
    refine EV.l (lv' := [(0, _), (1, _), (2, _)]) r_X10_startText_6 rfl ?_
    refine EV.gR r_X10_startText_7 la_0 ?_
    refine EV.getV r_X10_startText_10 la_1 (h1) ?_
    refine EV.zn2_gt r_X10_startText_13 (fun h13 => ?_) (fun h13 => ?_)
    · -- 13 t
      refine EV.o r_X10_startText_25 (icN (0) (v := 0)) ?_
      exact EV.cx r_X10_startText_26 (aV1 mt_159 la_0) (c_arg0 (by omega)) (fun _ h => h)
    · -- 13 f
      refine EV.l (lv' := [(0, _), (1, _), (2, _)]) r_X10_startText_16 rfl ?_
      refine EV.l (lv' := [(0, _), (1, _), (2, _)]) r_X10_startText_17 rfl ?_
      refine EV.zn2_gt r_X10_startText_18 (fun h18 => ?_) (fun h18 => ?_)
      · -- 18 t
        refine EV.o r_X10_startText_25 (icN (0) (v := 0)) ?_
        exact EV.cx r_X10_startText_26 (aV1 mt_159 la_0) (c_arg0 (by omega)) (fun _ h => h)
      · -- 18 f
        refine EV.o r_X10_startText_21 (icN (1) (v := 1)) ?_
        refine EV.g r_X10_startText_22 ?_
        omega
theorem m_thrown {d : Nat} {I : Nat → Nat → Int32} {J : Nat → Nat → Int64}  (hd : 1 ≤ d) : RV d 168 [.ref 106] I J (I 106 0) := by
  refine RV.in (d0 := 0) hd mt_168 (Nat.le_of_ble_eq_true rfl) (fun d' hd' => ?_)
  show EV none M_X11_thrown d' 0 [(0, .ref 106)] [] (hp I J) _
  refine EV.l (lv' := [(0, _)]) r_X11_thrown_0 rfl ?_
  refine EV.gI r_X11_thrown_1 la_106 ?_
  exact EV.rv r_X11_thrown_4 (rfl)
theorem m_full1 {d : Nat} {I : Nat → Nat → Int32} {J : Nat → Nat → Int64} {c : Nat} (hc_ : I 106 18 = nI c) (hc2 : c < 1000) (hd : 1 ≤ d) : RV d 192 [.ref 106, .int (nI 1)] I J (bI (decide (c = 9))) := by
  refine RV.in (d0 := 0) hd mt_192 (Nat.le_of_ble_eq_true rfl) (fun d' hd' => ?_)
  show EV none M_X11_isFull d' 0 [(0, .ref 106), (1, .int (nI 1))] [] (hp I J) _
  refine EV.l (lv' := [(0, _), (1, _)]) r_X11_isFull_0 rfl ?_
  refine EV.o r_X11_isFull_1 (icN (1) (v := 1)) ?_
  refine EV.n2_ne r_X11_isFull_2 (fun h2 => ?_) (fun h2 => ?_)
  · omega
  · -- 2 f
    refine EV.l (lv' := [(0, _), (1, _)]) r_X11_isFull_5 rfl ?_
    refine EV.getV r_X11_isFull_6 la_106 (hc_) ?_
    refine EV.o r_X11_isFull_9 (bpN (9) 9) ?_
    refine EV.n2_ne r_X11_isFull_11 (fun h11 => ?_) (fun h11 => ?_)
    · -- 11 t
      refine EV.o r_X11_isFull_18 (icN (0) (v := 0)) ?_
      refine EV.g r_X11_isFull_19 ?_
      exact EV.rv r_X11_isFull_78 (by first | rw [decide_eq_true (by omega)]; rfl | rw [decide_eq_false (by omega)]; rfl)
    · -- 11 f
      refine EV.o r_X11_isFull_14 (icN (1) (v := 1)) ?_
      refine EV.g r_X11_isFull_15 ?_
      exact EV.rv r_X11_isFull_78 (by first | rw [decide_eq_true (by omega)]; rfl | rw [decide_eq_false (by omega)]; rfl)
theorem m_full2 {d : Nat} {I : Nat → Nat → Int32} {J : Nat → Nat → Int64} {c : Nat} (hc_ : I 106 19 = nI c) (hc2 : c < 1000) (hd : 1 ≤ d) : RV d 192 [.ref 106, .int (nI 2)] I J (bI (decide (c = 12))) := by
  refine RV.in (d0 := 0) hd mt_192 (Nat.le_of_ble_eq_true rfl) (fun d' hd' => ?_)
  show EV none M_X11_isFull d' 0 [(0, .ref 106), (1, .int (nI 2))] [] (hp I J) _
  refine EV.l (lv' := [(0, _), (1, _)]) r_X11_isFull_0 rfl ?_
  refine EV.o r_X11_isFull_1 (icN (1) (v := 1)) ?_
  refine EV.n2_ne r_X11_isFull_2 (fun h2 => ?_) (fun h2 => ?_)
  · -- 2 t
    refine EV.l (lv' := [(0, _), (1, _)]) r_X11_isFull_22 rfl ?_
    refine EV.o r_X11_isFull_23 (icN (2) (v := 2)) ?_
    refine EV.n2_ne r_X11_isFull_24 (fun h24 => ?_) (fun h24 => ?_)
    · omega
    · -- 24 f
      refine EV.l (lv' := [(0, _), (1, _)]) r_X11_isFull_27 rfl ?_
      refine EV.getV r_X11_isFull_28 la_106 (hc_) ?_
      refine EV.o r_X11_isFull_31 (bpN (12) 12) ?_
      refine EV.n2_ne r_X11_isFull_33 (fun h33 => ?_) (fun h33 => ?_)
      · -- 33 t
        refine EV.o r_X11_isFull_40 (icN (0) (v := 0)) ?_
        refine EV.g r_X11_isFull_41 ?_
        exact EV.rv r_X11_isFull_78 (by first | rw [decide_eq_true (by omega)]; rfl | rw [decide_eq_false (by omega)]; rfl)
      · -- 33 f
        refine EV.o r_X11_isFull_36 (icN (1) (v := 1)) ?_
        refine EV.g r_X11_isFull_37 ?_
        exact EV.rv r_X11_isFull_78 (by first | rw [decide_eq_true (by omega)]; rfl | rw [decide_eq_false (by omega)]; rfl)
  · omega
theorem m_full3 {d : Nat} {I : Nat → Nat → Int32} {J : Nat → Nat → Int64} {c : Nat} (hc_ : I 106 20 = nI c) (hc2 : c < 1000) (hd : 1 ≤ d) : RV d 192 [.ref 106, .int (nI 3)] I J (bI (decide (c = 4))) := by
  refine RV.in (d0 := 0) hd mt_192 (Nat.le_of_ble_eq_true rfl) (fun d' hd' => ?_)
  show EV none M_X11_isFull d' 0 [(0, .ref 106), (1, .int (nI 3))] [] (hp I J) _
  refine EV.l (lv' := [(0, _), (1, _)]) r_X11_isFull_0 rfl ?_
  refine EV.o r_X11_isFull_1 (icN (1) (v := 1)) ?_
  refine EV.n2_ne r_X11_isFull_2 (fun h2 => ?_) (fun h2 => ?_)
  · -- 2 t
    refine EV.l (lv' := [(0, _), (1, _)]) r_X11_isFull_22 rfl ?_
    refine EV.o r_X11_isFull_23 (icN (2) (v := 2)) ?_
    refine EV.n2_ne r_X11_isFull_24 (fun h24 => ?_) (fun h24 => ?_)
    · -- 24 t
      refine EV.l (lv' := [(0, _), (1, _)]) r_X11_isFull_44 rfl ?_
      refine EV.o r_X11_isFull_45 (icN (3) (v := 3)) ?_
      refine EV.n2_ne r_X11_isFull_46 (fun h46 => ?_) (fun h46 => ?_)
      · omega
      · -- 46 f
        refine EV.l (lv' := [(0, _), (1, _)]) r_X11_isFull_49 rfl ?_
        refine EV.getV r_X11_isFull_50 la_106 (hc_) ?_
        refine EV.o r_X11_isFull_53 (icN (4) (v := 4)) ?_
        refine EV.n2_ne r_X11_isFull_54 (fun h54 => ?_) (fun h54 => ?_)
        · -- 54 t
          refine EV.o r_X11_isFull_61 (icN (0) (v := 0)) ?_
          refine EV.g r_X11_isFull_62 ?_
          exact EV.rv r_X11_isFull_78 (by first | rw [decide_eq_true (by omega)]; rfl | rw [decide_eq_false (by omega)]; rfl)
        · -- 54 f
          refine EV.o r_X11_isFull_57 (icN (1) (v := 1)) ?_
          refine EV.g r_X11_isFull_58 ?_
          exact EV.rv r_X11_isFull_78 (by first | rw [decide_eq_true (by omega)]; rfl | rw [decide_eq_false (by omega)]; rfl)
    · omega
  · omega
theorem m_full4 {d : Nat} {I : Nat → Nat → Int32} {J : Nat → Nat → Int64} {c : Nat} (hc_ : I 106 21 = nI c) (hc2 : c < 1000) (hd : 1 ≤ d) : RV d 192 [.ref 106, .int (nI 4)] I J (bI (decide (c = 4))) := by
  refine RV.in (d0 := 0) hd mt_192 (Nat.le_of_ble_eq_true rfl) (fun d' hd' => ?_)
  show EV none M_X11_isFull d' 0 [(0, .ref 106), (1, .int (nI 4))] [] (hp I J) _
  refine EV.l (lv' := [(0, _), (1, _)]) r_X11_isFull_0 rfl ?_
  refine EV.o r_X11_isFull_1 (icN (1) (v := 1)) ?_
  refine EV.n2_ne r_X11_isFull_2 (fun h2 => ?_) (fun h2 => ?_)
  · -- 2 t
    refine EV.l (lv' := [(0, _), (1, _)]) r_X11_isFull_22 rfl ?_
    refine EV.o r_X11_isFull_23 (icN (2) (v := 2)) ?_
    refine EV.n2_ne r_X11_isFull_24 (fun h24 => ?_) (fun h24 => ?_)
    · -- 24 t
      refine EV.l (lv' := [(0, _), (1, _)]) r_X11_isFull_44 rfl ?_
      refine EV.o r_X11_isFull_45 (icN (3) (v := 3)) ?_
      refine EV.n2_ne r_X11_isFull_46 (fun h46 => ?_) (fun h46 => ?_)
      · -- 46 t
        refine EV.l (lv' := [(0, _), (1, _)]) r_X11_isFull_65 rfl ?_
        refine EV.getV r_X11_isFull_66 la_106 (hc_) ?_
        refine EV.o r_X11_isFull_69 (icN (4) (v := 4)) ?_
        refine EV.n2_ne r_X11_isFull_70 (fun h70 => ?_) (fun h70 => ?_)
        · -- 70 t
          refine EV.o r_X11_isFull_77 (icN (0) (v := 0)) ?_
          exact EV.rv r_X11_isFull_78 (by first | rw [decide_eq_true (by omega)]; rfl | rw [decide_eq_false (by omega)]; rfl)
        · -- 70 f
          refine EV.o r_X11_isFull_73 (icN (1) (v := 1)) ?_
          refine EV.g r_X11_isFull_74 ?_
          exact EV.rv r_X11_isFull_78 (by first | rw [decide_eq_true (by omega)]; rfl | rw [decide_eq_false (by omega)]; rfl)
      · omega
    · omega
  · omega
