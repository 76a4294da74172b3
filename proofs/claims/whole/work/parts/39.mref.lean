/-! The model refuses. -/
/-- one more refused: code c, kind k -/
def refM (I : Nat → Nat → Int32) (c k : Nat) : Nat → Nat → Int32 := wr (wr (wr I 106 0 (nI 0)) 106 0 (nI c)) 107 k (I 107 k + nI 1)
theorem out_f {x a b : Int32} (h : x < a ∨ b < x) : decide (a ≤ x ∧ x ≤ b) = false := decide_eq_false (fun z => h.elim (fun h => i_nlt z.1 h) (fun h => i_nlt z.2 h))
theorem r_X11_told_21 : RW M_X11_told 21 (.iconst 0) 1 0 0 22 := ⟨rfl, rfl⟩
theorem r_X11_told_22 : RW M_X11_told 22 (.ireturn) 1 0 0 23 := ⟨rfl, rfl⟩
theorem m_toldX {d : Nat} {I : Nat → Nat → Int32} {J : Nat → Nat → Int64} {x : Int32} (h : x < nI 0 ∨ nI 11 < x)  (hd : 2 ≤ d) : RI d 236 [.ref 106, .int x] I J (fun v I' => I' = refM I 1 1) := by
  refine RI.in (d0 := 1) hd mt_236 (Nat.le_of_ble_eq_true rfl) (fun d' hd' => ?_)
  show EV none M_X11_told d' 0 [(0, .ref 106), (1, .int x)] [] (hp I J) _
  refine EV.l (lv' := [(0, _), (1, _)]) r_X11_told_0 rfl ?_
  refine EV.o r_X11_told_1 (icN (0) (v := 0)) ?_
  refine EV.pI r_X11_told_2 la_106 ?_
  refine EV.l (lv' := [(0, _), (1, _)]) r_X11_told_5 rfl ?_
  refine EV.l (lv' := [(0, _), (1, _)]) r_X11_told_6 rfl ?_
  refine EV.o r_X11_told_7 (icN (0) (v := 0)) ?_
  refine EV.o r_X11_told_8 (bpN (11) 11) ?_
  refine EV.cv r_X11_told_10 (aS3 mt_170) (m_within (by omega)) ?_
  refine EV.o r_X11_told_13 (icN (1) (v := 1)) ?_
  refine EV.o r_X11_told_14 (icN (1) (v := 1)) ?_
  rw [out_f h, show bI false = nI 0 from rfl]
  refine EV.ci r_X11_told_15 (aV3 mt_169 la_106) (m_may0 wr_same (by decide) (by decide) (by decide) (by omega)) (fun v I2 h2 => ?_)
  obtain ⟨e, fr⟩ := h2
  subst e
  refine EV.n0_ne r_X11_told_18 (fun h18 => ?_) (fun h18 => ?_)
  · omega
  · -- 18 f
    refine EV.o r_X11_told_21 (icN (0) (v := 0)) ?_
    exact EV.ri r_X11_told_22 (fr)
