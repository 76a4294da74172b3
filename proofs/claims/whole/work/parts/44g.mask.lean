/-! (goes on) -/
theorem m_count0 {d : Nat} {I : Nat → Nat → Int32} {J : Nat → Nat → Int64}  (hd : 9 ≤ d) : RI d 290 [.ref 106, .int (nI 0)] I J (fun v I' => v = I 106 55 ∧ FR I I' ∧ I' 106 0 = nI 0) := by
  refine RI.in (d0 := 8) hd mt_290 (Nat.le_of_ble_eq_true rfl) (fun d' hd' => ?_)
  show EV none M_X11_count d' 0 [(0, .ref 106), (1, .int (nI 0))] [] (hp I J) _
  refine EV.l (lv' := [(0, _), (1, _)]) r_X11_count_0 rfl ?_
  refine EV.o r_X11_count_1 (icN (0) (v := 0)) ?_
  refine EV.pI r_X11_count_2 la_106 ?_
  refine EV.l (lv' := [(0, _), (1, _)]) r_X11_count_5 rfl ?_
  refine EV.n0_ne r_X11_count_6 (fun h6 => ?_) (fun h6 => ?_)
  · omega
  · -- 6 f
    refine EV.l (lv' := [(0, _), (1, _)]) r_X11_count_9 rfl ?_
    refine EV.gI r_X11_count_10 la_106 ?_
    refine EV.g r_X11_count_13 ?_
    exact EV.ri r_X11_count_41 (⟨wr_ne (Or.inr (by decide)), FM_0.fr, wr_same⟩)
theorem m_count1 {d : Nat} {I : Nat → Nat → Int32} {J : Nat → Nat → Int64}  (hd : 9 ≤ d) : RI d 290 [.ref 106, .int (nI 1)] I J (fun v I' => v = I 106 2 ∧ FR I I' ∧ I' 106 0 = nI 0) := by
  refine RI.in (d0 := 8) hd mt_290 (Nat.le_of_ble_eq_true rfl) (fun d' hd' => ?_)
  show EV none M_X11_count d' 0 [(0, .ref 106), (1, .int (nI 1))] [] (hp I J) _
  refine EV.l (lv' := [(0, _), (1, _)]) r_X11_count_0 rfl ?_
  refine EV.o r_X11_count_1 (icN (0) (v := 0)) ?_
  refine EV.pI r_X11_count_2 la_106 ?_
  refine EV.l (lv' := [(0, _), (1, _)]) r_X11_count_5 rfl ?_
  refine EV.n0_ne r_X11_count_6 (fun h6 => ?_) (fun h6 => ?_)
  · -- 6 t
    refine EV.l (lv' := [(0, _), (1, _)]) r_X11_count_16 rfl ?_
    refine EV.o r_X11_count_17 (icN (1) (v := 1)) ?_
    refine EV.n2_ne r_X11_count_18 (fun h18 => ?_) (fun h18 => ?_)
    · omega
    · -- 18 f
      refine EV.l (lv' := [(0, _), (1, _)]) r_X11_count_21 rfl ?_
      refine EV.gI r_X11_count_22 la_106 ?_
      refine EV.g r_X11_count_25 ?_
      exact EV.ri r_X11_count_41 (⟨wr_ne (Or.inr (by decide)), FM_0.fr, wr_same⟩)
  · omega
theorem m_count2 {d : Nat} {I : Nat → Nat → Int32} {J : Nat → Nat → Int64}  (hd : 9 ≤ d) : RI d 290 [.ref 106, .int (nI 2)] I J (fun v I' => v = I 106 37 ∧ FR I I' ∧ I' 106 0 = nI 0) := by
  refine RI.in (d0 := 8) hd mt_290 (Nat.le_of_ble_eq_true rfl) (fun d' hd' => ?_)
  show EV none M_X11_count d' 0 [(0, .ref 106), (1, .int (nI 2))] [] (hp I J) _
  refine EV.l (lv' := [(0, _), (1, _)]) r_X11_count_0 rfl ?_
  refine EV.o r_X11_count_1 (icN (0) (v := 0)) ?_
  refine EV.pI r_X11_count_2 la_106 ?_
  refine EV.l (lv' := [(0, _), (1, _)]) r_X11_count_5 rfl ?_
  refine EV.n0_ne r_X11_count_6 (fun h6 => ?_) (fun h6 => ?_)
  · -- 6 t
    refine EV.l (lv' := [(0, _), (1, _)]) r_X11_count_16 rfl ?_
    refine EV.o r_X11_count_17 (icN (1) (v := 1)) ?_
    refine EV.n2_ne r_X11_count_18 (fun h18 => ?_) (fun h18 => ?_)
    · -- 18 t
      refine EV.l (lv' := [(0, _), (1, _)]) r_X11_count_28 rfl ?_
      refine EV.o r_X11_count_29 (icN (2) (v := 2)) ?_
      refine EV.n2_ne r_X11_count_30 (fun h30 => ?_) (fun h30 => ?_)
      · omega
      · -- 30 f
        refine EV.l (lv' := [(0, _), (1, _)]) r_X11_count_33 rfl ?_
        refine EV.gI r_X11_count_34 la_106 ?_
        refine EV.g r_X11_count_37 ?_
        exact EV.ri r_X11_count_41 (⟨wr_ne (Or.inr (by decide)), FM_0.fr, wr_same⟩)
    · omega
  · omega
theorem m_fault {d : Nat} {I : Nat → Nat → Int32} {J : Nat → Nat → Int64}  (hd : 9 ≤ d) : RI d 186 [.ref 106] I J (fun v I' => v = I 106 8 ∧ FR I I' ∧ I' 106 0 = nI 0) := by
  refine RI.in (d0 := 8) hd mt_186 (Nat.le_of_ble_eq_true rfl) (fun d' hd' => ?_)
  show EV none M_X11_fault d' 0 [(0, .ref 106)] [] (hp I J) _
  refine EV.l (lv' := [(0, _)]) r_X11_fault_0 rfl ?_
  refine EV.o r_X11_fault_1 (icN (0) (v := 0)) ?_
  refine EV.pI r_X11_fault_2 la_106 ?_
  refine EV.l (lv' := [(0, _)]) r_X11_fault_5 rfl ?_
  refine EV.gI r_X11_fault_6 la_106 ?_
  exact EV.ri r_X11_fault_9 (⟨wr_ne (Or.inr (by decide)), FM_0.fr, wr_same⟩)
