/-! The answers of all methods. -/
/-- both answer the same: the class at the depth dc, the model at 41 -/
def AV (dc jc jm : Nat) (as : List Value) (I : Nat → Nat → Int32) : Prop := ∀ J, ∃ v I1, Cl dc jc (.ref 0 :: as) (hp I J) (.inl (some (.int v))) (hp I1 J) 0 ∧ ∀ J', ∃ I2 S', Cl 41 jm (.ref 106 :: as) (hp I1 J') (.inl (some (.int v))) (hp I2 J') 0 ∧ INVS S' I2 ∧ I2 106 0 = nI 0
def AX (jc jm : Nat) (as : List Value) (e c : Nat) (I : Nat → Nat → Int32) : Prop := ∀ J, ∃ I1, Cl 40 jc (.ref 0 :: as) (hp I J) (.inr e) (hp I1 J) 1 ∧ ∀ J', ∃ b I2 S', Cl 41 jm (.ref 106 :: as) (hp I1 J') (.inl (some (.int b))) (hp I2 J') 0 ∧ INVS S' I2 ∧ I2 106 0 = nI c
theorem AV.q {S : STT} {dc jc jm : Nat} {as : List Value} {I : Nat → Nat → Int32} {v : Int32} (inv : INVS S I) (hC : ∀ J, RI dc jc (.ref 0 :: as) I J (fun x I' => x = v ∧ FR I I')) (hM : ∀ I J, MIn S I → RI 41 jm (.ref 106 :: as) I J (fun x I' => x = v ∧ FR I I' ∧ I' 106 0 = nI 0)) : AV dc jc jm as I := by
  intro J
  obtain ⟨x, I1, ⟨e1, f1⟩, h1⟩ := hC J
  subst e1
  refine ⟨x, I1, h1, fun J' => ?_⟩
  have m1 := inv.2.2.fR f1
  obtain ⟨y, I2, ⟨e2, f2, t2⟩, h2⟩ := hM I1 J' m1
  subst e2
  exact ⟨I2, S, h2, ⟨inv.1, (inv.2.1.fR f1).fR f2, m1.fR f2⟩, t2⟩
theorem AV.s {S S' : STT} {dc jc jm : Nat} {as : List Value} {I : Nat → Nat → Int32} {v : Int32} (inv : INVS S I) (sb : SB S') (hC : ∀ J, RI dc jc (.ref 0 :: as) I J (fun x I' => x = v ∧ CIn S' I' ∧ LOf I I')) (hM : ∀ I J, MIn S I → RI 41 jm (.ref 106 :: as) I J (fun x I' => x = v ∧ MIn S' I' ∧ HIf I I' ∧ I' 106 0 = nI 0)) : AV dc jc jm as I := by
  intro J
  obtain ⟨x, I1, ⟨e1, c1, f1⟩, h1⟩ := hC J
  subst e1
  refine ⟨x, I1, h1, fun J' => ?_⟩
  obtain ⟨y, I2, ⟨e2, m2, f2, t2⟩, h2⟩ := hM I1 J' (inv.2.2.lo f1)
  subst e2
  exact ⟨I2, S', h2, ⟨sb, c1.hi f2, m2⟩, t2⟩
theorem AX.q {S : STT} {jc jm : Nat} {as : List Value} {I : Nat → Nat → Int32} {e c : Nat} (inv : INVS S I) (he : e < 2) (hC : ∀ J, RX 40 jc (.ref 0 :: as) I J e (fun I' => I' = ref1 I (13 + e))) (hM : ∀ I J, MIn S I → RI 41 jm (.ref 106 :: as) I J (fun _ I' => I' = refM I c e)) : AX jc jm as e c I := by
  intro J
  obtain ⟨I1, rfl, h1⟩ := hC J
  refine ⟨_, h1, fun J' => ?_⟩
  have m1 : MIn S (ref1 I (13 + e)) := inv.2.2.lo (fun o ho => wr_row (by omega))
  obtain ⟨b, I2, rfl, h2⟩ := hM _ J' m1
  refine ⟨b, _, S.ref e, h2, ⟨inv.1.ref e, (refC_in he inv.2.1).hi (fun o ho => ?_), refM_in he m1⟩, ?_⟩
  · exact (wr_row (by omega)).trans ((wr_row (by omega)).trans (wr_row (by omega)))
  · exact (wr_ne (by omega)).trans wr_same
def AN1 (jc jm : Nat) (as : List Value) (I : Nat → Nat → Int32) : Prop := AV 40 jc jm as I ∨ AX jc jm as 1 1 I
def AN0 (jc jm : Nat) (as : List Value) (I : Nat → Nat → Int32) : Prop := AV 40 jc jm as I ∨ AX jc jm as 0 1 I
def AN2 (jc jm : Nat) (as : List Value) (I : Nat → Nat → Int32) : Prop := AV 40 jc jm as I ∨ AX jc jm as 0 1 I ∨ AX jc jm as 1 2 I
/-- KIND: numbers of 64 bits -/
def ANL (as : List Value) (I : Nat → Nat → Int32) : Prop := (∀ J, ∃ v, Cl 40 134 (.ref 0 :: as) (hp I J) (.inl (some (.long v))) (hp I J) 0 ∧ ∀ J', ∃ I2 J2 S', Cl 41 257 (.ref 106 :: as) (hp I J') (.inl (some (.long v))) (hp I2 J2) 0 ∧ J2 135 = J' 135 ∧ INVS S' I2 ∧ I2 106 0 = nI 0) ∨ (∀ J, ∃ I1, Cl 40 134 (.ref 0 :: as) (hp I J) (.inr 1) (hp I1 J) 1 ∧ ∀ J', ∃ b I2 J2 S', Cl 41 257 (.ref 106 :: as) (hp I1 J') (.inl (some (.long b))) (hp I2 J2) 0 ∧ J2 135 = J' 135 ∧ INVS S' I2 ∧ I2 106 0 = nI 1)
theorem FR.t0 {I I' : Nat → Nat → Int32} (e : I' = wr I 106 0 (nI 0)) : FR I I' ∧ I' 106 0 = nI 0 := by
  subst e
  exact ⟨⟨fun j hj => wr_ne (Or.inr (fun z => by subst z; exact absurd hj (by decide))), fun o ho _ => wr_row ho⟩, wr_same⟩
theorem ANL.q {S : STT} {as : List Value} {I : Nat → Nat → Int32} {v : Int64} (inv : INVS S I) (hC : ∀ J, RLV 40 134 (.ref 0 :: as) I J v) (hM : ∀ I J, RLI 41 257 (.ref 106 :: as) I J (fun x I' J' => x = v ∧ I' = wr I 106 0 (nI 0) ∧ ∀ o, o ≠ 133 → J' o = J o)) : ANL as I := by
  refine Or.inl fun J => ⟨v, hC J, fun J' => ?_⟩
  obtain ⟨y, I2, J2, ⟨e2, f2, t2⟩, h2⟩ := hM I J'
  subst e2
  have f := FR.t0 f2
  exact ⟨I2, J2, S, h2, t2 135 (by decide), ⟨inv.1, inv.2.1.fR f.1, inv.2.2.fR f.1⟩, f.2⟩
theorem ANL.x {S : STT} {as : List Value} {I : Nat → Nat → Int32} (inv : INVS S I) (hC : ∀ J, RX 40 134 (.ref 0 :: as) I J 1 (fun I' => I' = ref1 I 14)) (hM : ∀ I J, RLI 41 257 (.ref 106 :: as) I J (fun _ I' J' => I' = refM I 1 1 ∧ J' = J)) : ANL as I := by
  refine Or.inr fun J => ?_
  obtain ⟨I1, rfl, h1⟩ := hC J
  refine ⟨_, h1, fun J' => ?_⟩
  have m1 : MIn S (ref1 I 14) := inv.2.2.lo (fun o ho => wr_row (by omega))
  obtain ⟨b, I2, J2, ⟨rfl, rfl⟩, h2⟩ := hM _ J'
  refine ⟨b, _, _, S.ref 1, h2, rfl, ⟨inv.1.ref 1, (refC_in (k := 1) (by decide) inv.2.1).hi (fun o ho => ?_), refM_in (by decide) m1⟩, ?_⟩
  · exact (wr_row (by omega)).trans ((wr_row (by omega)).trans (wr_row (by omega)))
  · exact (wr_ne (by omega)).trans wr_same
theorem z_bits {x : Int} {p : Nat} (h : ¬ (x < 0 ∨ (p : Int) ≤ x)) : ∃ i : Nat, x = (i : Int) ∧ i < p := ⟨x.toNat, by omega, by omega⟩
theorem z_rng {x : Int} {b : Nat} (h : 0 ≤ x ∧ x ≤ (b : Int)) : ∃ i : Nat, x = (i : Int) ∧ i ≤ b := ⟨x.toNat, by omega, by omega⟩
theorem br_512 {S : STT} (h : SB S) : S.bt < 512 ∧ S.br < 512 := by
  have a := pow_ns h.cb
  have b := h.bt
  have c : S.br ≤ S.bt := by rw [← h.br]; exact Nat.and_le_right
  omega
theorem MIn.bkO {S : STT} {I : Nat → Nat → Int32} (h : MIn S I) : ∀ j, j < 9 → I 129 j = opI (bkO S.bt S.br j) := fun j hj => (h.bk j hj).trans bkO_I
theorem p_ns (S : STT) : S.κ.ns = S.κ.ns := rfl
theorem r_X10_count_52 : RW M_X10_count 52 (.iconst (-1)) 1 0 0 53 := ⟨rfl, rfl⟩
theorem r_X10_count_53 : RW M_X10_count 53 (.ireturn) 1 0 0 54 := ⟨rfl, rfl⟩
theorem r_X11_count_40 : RW M_X11_count 40 (.iconst (-1)) 1 0 0 41 := ⟨rfl, rfl⟩
theorem ans_feed {S : STT} {I : Nat → Nat → Int32} (inv : INVS S I) {a0 a1 a2 a3 a4 : Int32} : AV 41 113 172 [.int a0, .int a1, .int a2, .int a3, .int a4] I := by
  have ci := inv.2.1
  have tl6 := inv.1.tl
  by_cases hy : S.tl + 20 ≤ 600
  · exact (AV.s inv (inv.1.fed hy) (fun J => (c_feed ci (by omega) (by omega))) (fun I J mi => (m_feed mi (by omega) (by omega))))
  · exact (AV.q inv (fun J => (c_feed0 ci (by omega) (by omega) (by omega)).ri) (fun I J mi => (m_feed0 mi (by omega) (by omega) (by omega))))
theorem ans_fault {S : STT} {I : Nat → Nat → Int32} (inv : INVS S I) : AV 41 118 186 [] I := by
  have ci := inv.2.1
  have tl6 := inv.1.tl
  exact AV.q (v := S.fp) inv (fun J => by have z := (c_fault (d := 41) (I := I) (J := J) (by omega)).ri; rw [ci.fp] at z; exact z) (fun I J mi => by have z := m_fault (d := 41) (I := I) (J := J) (by omega); rw [mi.fp] at z; exact z)
theorem ans_undo {S : STT} {I : Nat → Nat → Int32} (inv : INVS S I) : AV 41 119 234 [] I := by
  have ci := inv.2.1
  have tl6 := inv.1.tl
  by_cases hy : 0 < S.w
  · exact (AV.s inv (inv.1.und hy) (fun J => (c_undo inv.1 ci (by omega) (by omega))) (fun I J mi => (m_undo inv.1 mi (by omega) (by omega))))
  · have w0 : S.w = 0 := by omega
    exact (AV.q inv (fun J => (c_undo0 (by rw [← w0]; exact ci.w) (by omega)).ri) (fun I J mi => (m_undo0 (by rw [← w0]; exact mi.w) (by omega))))
theorem ans_lean {S : STT} {I : Nat → Nat → Int32} (inv : INVS S I) : AV 41 121 237 [] I := by
  have ci := inv.2.1
  have tl6 := inv.1.tl
  exact (AV.q inv (fun J => (c_lean ci.hc inv.1.cb ci.hh inv.1.hb inv.1.wm.hw (by omega)).ri) (fun I J mi => (m_askLean mi.mc inv.1.cb mi.mr inv.1.hb mi.ml inv.1.lb inv.1.wm (by omega)).fm))
theorem ans_clear {S : STT} {I : Nat → Nat → Int32} (inv : INVS S I) : AV 41 127 246 [] I := by
  have ci := inv.2.1
  have tl6 := inv.1.tl
  exact (AV.q inv (fun J => (c_clear ci.hc inv.1.cb ci.hh inv.1.hb inv.1.wm.hw (by omega)).ri) (fun I J mi => (m_clear mi.mc inv.1.cb mi.mr inv.1.hb mi.ml inv.1.lb inv.1.wm (by omega)).fm))
theorem ans_turn {S : STT} {I : Nat → Nat → Int32} (inv : INVS S I) : AV 41 131 251 [] I := by
  have ci := inv.2.1
  have tl6 := inv.1.tl
  exact (AV.q inv (fun J => (c_turn ci.hc inv.1.cb ci.hh inv.1.hb inv.1.wm.hw (by omega)).ri) (fun I J mi => (m_turn mi.mc inv.1.cb mi.mr inv.1.hb mi.ml inv.1.lb inv.1.wm (by omega)).fm))
theorem ans_used {S : STT} {I : Nat → Nat → Int32} (inv : INVS S I) : AV 41 141 270 [] I := by
  have ci := inv.2.1
  have tl6 := inv.1.tl
  exact (AV.q inv (fun J => (c_used ci.hc inv.1.cb ci.hh inv.1.hb inv.1.wm.hw (by omega)).ri) (fun I J mi => (m_used mi.mc inv.1.cb mi.mr inv.1.hb mi.ml inv.1.lb inv.1.wm (by omega)).fm))
theorem ans_pairs {S : STT} {I : Nat → Nat → Int32} (inv : INVS S I) : AV 41 146 276 [] I := by
  have ci := inv.2.1
  have tl6 := inv.1.tl
  exact (AV.q inv (fun J => (c_pairs ci.hc inv.1.cb ci.hh inv.1.hb inv.1.wm.hw (by omega)).ri) (fun I J mi => (m_pairs mi.mc inv.1.cb mi.mr inv.1.hb mi.ml inv.1.lb inv.1.wm (by omega)).fm))
theorem ans_image {S : STT} {I : Nat → Nat → Int32} (inv : INVS S I) : AV 41 152 287 [] I := by
  have ci := inv.2.1
  have tl6 := inv.1.tl
  by_cases hy : S.im < 3
  · exact (AV.s inv (inv.1.img hy) (fun J => (c_image inv.1 ci (by omega) (by omega))) (fun I J mi => (m_image inv.1 mi (by omega) (by omega))))
  · have i3 : S.im = 3 := by have := inv.1.im; omega
    exact (AV.q inv (fun J => (c_image0 (by rw [← i3]; exact ci.im) (by omega)).ri) (fun I J mi => (m_image0 (by rw [← i3]; exact mi.im) (by omega))))
theorem ans_restore {S : STT} {I : Nat → Nat → Int32} (inv : INVS S I) : AV 41 153 288 [] I := by
  have ci := inv.2.1
  have tl6 := inv.1.tl
  by_cases hy : 0 < S.im
  · exact (AV.s inv (inv.1.res hy) (fun J => (c_restore inv.1 ci (by omega) (by omega))) (fun I J mi => (m_restore inv.1 mi (by omega) (by omega))))
  · have i3 : S.im = 0 := by omega
    exact (AV.q inv (fun J => (c_restore0 (by rw [← i3]; exact ci.im) (by omega)).ri) (fun I J mi => (m_restore0 (by rw [← i3]; exact mi.im) (by omega))))
theorem ans_status {S : STT} {I : Nat → Nat → Int32} (inv : INVS S I) {a0 : Int32} : AV 41 154 289 [.int a0] I := by
  have ci := inv.2.1
  have tl6 := inv.1.tl
  obtain ⟨a0z, a01, a02, ea0⟩ := i_z a0
  subst ea0
  by_cases hy : 0 ≤ a0z ∧ a0z ≤ 1
  · obtain ⟨a0n, rfl, a0b⟩ := z_rng (b := 1) (x := a0z) (by omega)
    rw [zI_nat a0n]
    rcases (by omega : a0n = 0 ∨ a0n = 1) with rfl | rfl
    · exact AV.q (v := S.r0) inv (fun J => by have z := (c_status0 (d := 41) (I := I) (J := J) (by omega)).ri; rw [ci.r0] at z; exact z) (fun I J mi => by have z := m_status0 (d := 41) (I := I) (J := J) (by omega); rw [mi.r0] at z; exact z)
    · exact AV.q (v := S.r1) inv (fun J => by have z := (c_status1 (d := 41) (I := I) (J := J) (by omega)).ri; rw [ci.r1] at z; exact z) (fun I J mi => by have z := m_status1 (d := 41) (I := I) (J := J) (by omega); rw [mi.r1] at z; exact z)
  · exact (AV.q inv (fun J => (c_statusX (by omega) (by omega) (by omega) (by omega)).ri) (fun I J mi => (m_statusX (by omega) (by omega) (by omega) (by omega))))
theorem c_countX {d : Nat} {I : Nat → Nat → Int32} {J : Nat → Nat → Int64} {y : Int} (y1 : -2147483648 ≤ y) (y2 : y < 2147483648) (hy : ¬ (0 ≤ y ∧ y ≤ 2))  (hd : 1 ≤ d) : RV d 155 [.ref 0, .int (zI y)] I J (zI (-1)) := by
  refine RV.in (d0 := 0) hd mt_155 (Nat.le_of_ble_eq_true rfl) (fun d' hd' => ?_)
  show EV none M_X10_count d' 0 [(0, .ref 0), (1, .int (zI y))] [] (hp I J) _
  refine EV.l (lv' := [(0, _), (1, _)]) r_X10_count_0 rfl ?_
  refine EV.ts (q := 52) r_X10_count_1 (by unfold swT; rw [zI_toInt y1 y2, if_pos (by omega)]; rfl) ?_
  refine EV.o r_X10_count_52 (icZ (-1)) ?_
  exact EV.rv r_X10_count_53 (rfl)
theorem m_countX {d : Nat} {I : Nat → Nat → Int32} {J : Nat → Nat → Int64} {y : Int} (y1 : -2147483648 ≤ y) (y2 : y < 2147483648) (hy : ¬ (0 ≤ y ∧ y ≤ 2))  (hd : 1 ≤ d) : RI d 290 [.ref 106, .int (zI y)] I J (fun v I' => v = zI (-1) ∧ FR I I' ∧ I' 106 0 = nI 0) := by
  refine RI.in (d0 := 0) hd mt_290 (Nat.le_of_ble_eq_true rfl) (fun d' hd' => ?_)
  show EV none M_X11_count d' 0 [(0, .ref 106), (1, .int (zI y))] [] (hp I J) _
  refine EV.l (lv' := [(0, _), (1, _)]) r_X11_count_0 rfl ?_
  refine EV.o r_X11_count_1 (icN (0) (v := 0)) ?_
  refine EV.pIn r_X11_count_2 la_106 (fun I2 e2 => ?_)
  refine EV.l (lv' := [(0, _), (1, _)]) r_X11_count_5 rfl ?_
  refine EV.z0_ne r_X11_count_6 (fun h6 => ?_) (fun h6 => ?_)
  · -- 6 t
    refine EV.l (lv' := [(0, _), (1, _)]) r_X11_count_16 rfl ?_
    refine EV.o r_X11_count_17 (icN (1) (v := 1)) ?_
    refine EV.zn2_ne r_X11_count_18 (fun h18 => ?_) (fun h18 => ?_)
    · -- 18 t
      refine EV.l (lv' := [(0, _), (1, _)]) r_X11_count_28 rfl ?_
      refine EV.o r_X11_count_29 (icN (2) (v := 2)) ?_
      refine EV.zn2_ne r_X11_count_30 (fun h30 => ?_) (fun h30 => ?_)
      · -- 30 t
        refine EV.o r_X11_count_40 (icZ (-1)) ?_
        exact EV.ri r_X11_count_41 (⟨rfl, FR.t0 e2⟩)
      · omega
    · omega
  · omega
theorem ans_count {S : STT} {I : Nat → Nat → Int32} (inv : INVS S I) {a0 : Int32} : AV 41 155 290 [.int a0] I := by
  have ci := inv.2.1
  have tl6 := inv.1.tl
  obtain ⟨a0z, a01, a02, ea0⟩ := i_z a0
  subst ea0
  by_cases hy : 0 ≤ a0z ∧ a0z ≤ 2
  · obtain ⟨a0n, rfl, a0b⟩ := z_rng (b := 2) (x := a0z) (by omega)
    rw [zI_nat a0n]
    rcases (by omega : a0n = 0 ∨ a0n = 1 ∨ a0n = 2) with rfl | rfl | rfl
    · exact AV.q (v := nI S.im) inv (fun J => by have z := (c_count0 (d := 41) (I := I) (J := J) (by omega)).ri; rw [ci.im] at z; exact z) (fun I J mi => by have z := m_count0 (d := 41) (I := I) (J := J) (by omega); rw [mi.im] at z; exact z)
    · exact AV.q (v := nI S.tl) inv (fun J => by have z := (c_count1 (d := 41) (I := I) (J := J) (by omega)).ri; rw [ci.tl] at z; exact z) (fun I J mi => by have z := m_count1 (d := 41) (I := I) (J := J) (by omega); rw [mi.tl] at z; exact z)
    · exact AV.q (v := nI S.w) inv (fun J => by have z := (c_count2 (d := 41) (I := I) (J := J) (by omega)).ri; rw [ci.w] at z; exact z) (fun I J mi => by have z := m_count2 (d := 41) (I := I) (J := J) (by omega); rw [mi.w] at z; exact z)
  · exact (AV.q inv (fun J => (c_countX (by omega) (by omega) (by omega) (by omega)).ri) (fun I J mi => (m_countX (by omega) (by omega) (by omega) (by omega))))
theorem ans_kind {S : STT} {I : Nat → Nat → Int32} (inv : INVS S I) {a0 a1 a2 a3 : Int32} : ANL [.int a0, .int a1, .int a2, .int a3] I := by
  have ci := inv.2.1
  obtain ⟨a0z, a01, a02, ea0⟩ := i_z a0
  obtain ⟨a1z, a11, a12, ea1⟩ := i_z a1
  obtain ⟨a2z, a21, a22, ea2⟩ := i_z a2
  obtain ⟨a3z, a31, a32, ea3⟩ := i_z a3
  subst ea0
  subst ea1
  subst ea2
  subst ea3
  by_cases hy : 0 ≤ a0z ∧ a0z ≤ 12 ∧ 0 ≤ a1z ∧ a1z ≤ 13 ∧ 0 ≤ a2z ∧ a2z ≤ 16 ∧ 0 ≤ a3z ∧ a3z ≤ 1
  · obtain ⟨a0n, rfl, a0b⟩ := z_rng (b := 12) (x := a0z) (by omega)
    rw [zI_nat a0n]
    obtain ⟨a1n, rfl, a1b⟩ := z_rng (b := 13) (x := a1z) (by omega)
    rw [zI_nat a1n]
    obtain ⟨a2n, rfl, a2b⟩ := z_rng (b := 16) (x := a2z) (by omega)
    rw [zI_nat a2n]
    obtain ⟨a3n, rfl, a3b⟩ := z_rng (b := 1) (x := a3z) (by omega)
    rw [zI_nat a3n]
    rcases (by omega : a3n = 0 ∨ a3n = 1) with rfl | rfl
    · exact ANL.q inv (fun J => (c_kind0 (by omega) (by omega) (by omega) (by omega))) (fun I J => (m_kind0 (by omega) (by omega) (by omega) (by omega)))
    · exact ANL.q inv (fun J => (c_kind1 (by omega) (by omega) (by omega) (by omega))) (fun I J => (m_kind1 (by omega) (by omega) (by omega) (by omega)))
  · exact ANL.x inv (fun J => (c_kindX ci.hc inv.1.cb (by omega) (by omega) (by omega) (by omega) (by omega) (by omega) (by omega) (by omega) hy (by omega))) (fun I J => (m_kindX (by omega) (by omega) (by omega) (by omega) (by omega) (by omega) (by omega) (by omega) hy (by omega)))
theorem ans_told {S : STT} {I : Nat → Nat → Int32} (inv : INVS S I) {a0 : Int32} : AN1 120 236 [.int a0] I := by
  have ci := inv.2.1
  have tl6 := inv.1.tl
  have bt9 := (br_512 inv.1).1
  obtain ⟨a0z, a01, a02, ea0⟩ := i_z a0
  subst ea0
  by_cases hy : 0 ≤ a0z ∧ a0z ≤ 11
  · obtain ⟨a0n, rfl, a0b⟩ := z_rng (b := 11) (x := a0z) (by omega)
    rw [zI_nat a0n]
    rcases (by omega : a0n = 0 ∨ a0n = 1 ∨ a0n = 2 ∨ a0n = 3 ∨ a0n = 4 ∨ a0n = 5 ∨ a0n = 6 ∨ a0n = 7 ∨ a0n = 8 ∨ a0n = 9 ∨ a0n = 10 ∨ a0n = 11) with rfl | rfl | rfl | rfl | rfl | rfl | rfl | rfl | rfl | rfl | rfl | rfl
    · exact Or.inl (AV.q inv (fun J => (c_told0 ci.hc inv.1.cb ci.hh inv.1.hb inv.1.wm.hw (by omega)).ri) (fun I J mi => (m_told0 mi.mc inv.1.cb mi.mr inv.1.hb mi.ml inv.1.lb inv.1.wm (by omega)).fm))
    · exact Or.inl (AV.q inv (fun J => (c_told1 ci.hc inv.1.cb ci.hh inv.1.hb inv.1.wm.hw (by omega)).ri) (fun I J mi => (m_told1 mi.mc inv.1.cb mi.mr inv.1.hb mi.ml inv.1.lb inv.1.wm (by omega)).fm))
    · exact Or.inl (AV.q inv (fun J => (c_told2 ci.hc inv.1.cb ci.hh inv.1.hb inv.1.wm.hw (by omega)).ri) (fun I J mi => (m_told2 mi.mc inv.1.cb mi.mr inv.1.hb mi.ml inv.1.lb inv.1.wm (by omega)).fm))
    · exact Or.inl (AV.q inv (fun J => (c_told3 ci.hc inv.1.cb ci.hh inv.1.hb inv.1.wm.hw (by omega)).ri) (fun I J mi => (m_told3 mi.mc inv.1.cb mi.mr inv.1.hb mi.ml inv.1.lb inv.1.wm (by omega)).fm))
    · exact Or.inl (AV.q inv (fun J => (c_told4 ci.hc inv.1.cb ci.hh inv.1.hb inv.1.wm.hw (by omega)).ri) (fun I J mi => (m_told4 mi.mc inv.1.cb mi.mr inv.1.hb mi.ml inv.1.lb inv.1.wm (by omega)).fm))
    · exact Or.inl (AV.q inv (fun J => (c_told5 ci.hc inv.1.cb ci.hh inv.1.hb inv.1.wm.hw (by omega)).ri) (fun I J mi => (m_told5 mi.mc inv.1.cb mi.mr inv.1.hb mi.ml inv.1.lb inv.1.wm (by omega)).fm))
    · exact Or.inl (AV.q inv (fun J => (c_told6 ci.hc inv.1.cb ci.hh inv.1.hb inv.1.wm.hw (by omega)).ri) (fun I J mi => (m_told6 mi.mc inv.1.cb mi.mr inv.1.hb mi.ml inv.1.lb inv.1.wm (by omega)).fm))
    · exact Or.inl (AV.q inv (fun J => (c_told7 ci.hc inv.1.cb ci.hh inv.1.hb inv.1.wm.hw (by omega)).ri) (fun I J mi => (m_told7 mi.mc inv.1.cb mi.mr inv.1.hb mi.ml inv.1.lb inv.1.wm (by omega)).fm))
    · exact Or.inl (AV.q inv (fun J => (c_told8 ci.hc inv.1.cb ci.hh inv.1.hb inv.1.wm.hw (by omega)).ri) (fun I J mi => (m_told8 mi.mc inv.1.cb mi.mr inv.1.hb mi.ml inv.1.lb inv.1.wm (by omega)).fm))
    · exact Or.inl (AV.q inv (fun J => (c_told9 ci.hc inv.1.cb ci.hh inv.1.hb inv.1.wm.hw ci.bt bt9 (by omega)).ri) (fun I J mi => (m_told9 mi.mc inv.1.cb mi.mr inv.1.hb mi.ml inv.1.lb inv.1.wm mi.wt (by omega)).fm))
    · exact Or.inl (AV.q inv (fun J => (c_told10 ci.hc inv.1.cb ci.hh inv.1.hb inv.1.wm.hw ci.rf (by omega)).ri) (fun I J mi => (m_told10 mi.mc inv.1.cb mi.mr inv.1.hb mi.ml inv.1.lb inv.1.wm mi.rf (by omega)).fm))
    · exact Or.inl (AV.q inv (fun J => (c_told11 ci.hc inv.1.cb ci.hh inv.1.hb inv.1.wm.hw (by omega)).ri) (fun I J mi => (m_told11 mi.mc inv.1.cb mi.mr inv.1.hb mi.ml inv.1.lb inv.1.wm (by omega)).fm))
  · exact Or.inr (AX.q inv (by decide) (fun J => (c_tellX ci.hc inv.1.cb (by omega) (by omega) (by omega) (by omega))) (fun I J mi => (m_tellX mi.mc inv.1.cb (by omega) (by omega) (by omega) (by omega))))
theorem ans_loss {S : STT} {I : Nat → Nat → Int32} (inv : INVS S I) {a0 : Int32} : AN1 137 266 [.int a0] I := by
  have ci := inv.2.1
  have tl6 := inv.1.tl
  obtain ⟨a0z, a01, a02, ea0⟩ := i_z a0
  subst ea0
  by_cases hy : 0 ≤ a0z ∧ a0z ≤ 1
  · obtain ⟨a0n, rfl, a0b⟩ := z_rng (b := 1) (x := a0z) (by omega)
    rw [zI_nat a0n]
    rcases (by omega : a0n = 0 ∨ a0n = 1) with rfl | rfl
    · exact Or.inl (AV.q inv (fun J => (c_loss0 ci.hc inv.1.cb ci.hh inv.1.hb inv.1.wm.hw (by omega)).ri) (fun I J mi => (m_loss0 mi.mc inv.1.cb mi.mr inv.1.hb mi.ml inv.1.lb inv.1.wm (by omega)).fm))
    · exact Or.inl (AV.q inv (fun J => (c_loss1 ci.hc inv.1.cb ci.hh inv.1.hb inv.1.wm.hw (by omega)).ri) (fun I J mi => (m_loss1 mi.mc inv.1.cb mi.mr inv.1.hb mi.ml inv.1.lb inv.1.wm (by omega)).fm))
  · exact Or.inr (AX.q inv (by decide) (fun J => (c_lossX ci.hc inv.1.cb (by omega) (by omega) (by omega) (by omega))) (fun I J mi => (m_lossX mi.mc inv.1.cb (by omega) (by omega) (by omega) (by omega))))
theorem ans_next {S : STT} {I : Nat → Nat → Int32} (inv : INVS S I) {a0 : Int32} : AN1 138 267 [.int a0] I := by
  have ci := inv.2.1
  have tl6 := inv.1.tl
  obtain ⟨a0z, a01, a02, ea0⟩ := i_z a0
  subst ea0
  by_cases hy : 0 ≤ a0z ∧ a0z ≤ 1
  · obtain ⟨a0n, rfl, a0b⟩ := z_rng (b := 1) (x := a0z) (by omega)
    rw [zI_nat a0n]
    rcases (by omega : a0n = 0 ∨ a0n = 1) with rfl | rfl
    · exact Or.inl (AV.q inv (fun J => (c_next0 ci.hc inv.1.cb ci.hh inv.1.hb inv.1.wm.hw (by omega)).ri) (fun I J mi => (m_next0 mi.mc inv.1.cb mi.mr inv.1.hb mi.ml inv.1.lb inv.1.wm (by omega)).fm))
    · exact Or.inl (AV.q inv (fun J => (c_next1 ci.hc inv.1.cb ci.hh inv.1.hb inv.1.wm.hw (by omega)).ri) (fun I J mi => (m_next1 mi.mc inv.1.cb mi.mr inv.1.hb mi.ml inv.1.lb inv.1.wm (by omega)).fm))
  · exact Or.inr (AX.q inv (by decide) (fun J => (c_nextX ci.hc inv.1.cb (by omega) (by omega) (by omega) (by omega))) (fun I J mi => (m_nextX mi.mc inv.1.cb (by omega) (by omega) (by omega) (by omega))))
theorem ans_crowd {S : STT} {I : Nat → Nat → Int32} (inv : INVS S I) {a0 : Int32} : AN1 147 277 [.int a0] I := by
  have ci := inv.2.1
  have tl6 := inv.1.tl
  obtain ⟨a0z, a01, a02, ea0⟩ := i_z a0
  subst ea0
  by_cases hy : 0 ≤ a0z ∧ a0z ≤ 1
  · obtain ⟨a0n, rfl, a0b⟩ := z_rng (b := 1) (x := a0z) (by omega)
    rw [zI_nat a0n]
    rcases (by omega : a0n = 0 ∨ a0n = 1) with rfl | rfl
    · exact Or.inl (AV.q inv (fun J => (c_crowd0 ci.hc inv.1.cb ci.hh inv.1.hb inv.1.wm.hw (by omega)).ri) (fun I J mi => (m_crowd0 mi.mc inv.1.cb mi.mr inv.1.hb mi.ml inv.1.lb inv.1.wm (by omega)).fm))
    · exact Or.inl (AV.q inv (fun J => (c_crowd1 ci.hc inv.1.cb ci.hh inv.1.hb inv.1.wm.hw (by omega)).ri) (fun I J mi => (m_crowd1 mi.mc inv.1.cb mi.mr inv.1.hb mi.ml inv.1.lb inv.1.wm (by omega)).fm))
  · exact Or.inr (AX.q inv (by decide) (fun J => (c_crowdX ci.hc inv.1.cb (by omega) (by omega) (by omega) (by omega))) (fun I J mi => (m_crowdX mi.mc inv.1.cb (by omega) (by omega) (by omega) (by omega))))
theorem ans_when {S : STT} {I : Nat → Nat → Int32} (inv : INVS S I) {a0 : Int32} : AN1 149 279 [.int a0] I := by
  have ci := inv.2.1
  have tl6 := inv.1.tl
  obtain ⟨a0z, a01, a02, ea0⟩ := i_z a0
  subst ea0
  by_cases hy : 0 ≤ a0z ∧ a0z ≤ 2
  · obtain ⟨a0n, rfl, a0b⟩ := z_rng (b := 2) (x := a0z) (by omega)
    rw [zI_nat a0n]
    rcases (by omega : a0n = 0 ∨ a0n = 1 ∨ a0n = 2) with rfl | rfl | rfl
    · exact Or.inl (AV.q inv (fun J => (c_when0 ci.hc inv.1.cb ci.hh inv.1.hb inv.1.wm.hw (by omega)).ri) (fun I J mi => (m_when0 mi.mc inv.1.cb mi.mr inv.1.hb mi.ml inv.1.lb inv.1.wm (by omega)).fm))
    · exact Or.inl (AV.q inv (fun J => (c_when1 ci.hc inv.1.cb ci.hh inv.1.hb inv.1.wm.hw (by omega)).ri) (fun I J mi => (m_when1 mi.mc inv.1.cb mi.mr inv.1.hb mi.ml inv.1.lb inv.1.wm (by omega)).fm))
    · exact Or.inl (AV.q inv (fun J => (c_when2 ci.hc inv.1.cb ci.hh inv.1.hb inv.1.wm.hw (by omega)).ri) (fun I J mi => (m_when2 mi.mc inv.1.cb mi.mr inv.1.hb mi.ml inv.1.lb inv.1.wm (by omega)).fm))
  · exact Or.inr (AX.q inv (by decide) (fun J => (c_whenX ci.hc inv.1.cb (by omega) (by omega) (by omega) (by omega))) (fun I J mi => (m_whenX mi.mc inv.1.cb (by omega) (by omega) (by omega) (by omega))))
theorem ans_fits {S : STT} {I : Nat → Nat → Int32} (inv : INVS S I) {a0 : Int32} : AN1 132 254 [.int a0] I := by
  have ci := inv.2.1
  have tl6 := inv.1.tl
  have b9 := br_512 inv.1
  obtain ⟨a0z, a01, a02, ea0⟩ := i_z a0
  subst ea0
  by_cases hy : 0 ≤ a0z ∧ a0z ≤ 1
  · obtain ⟨a0n, rfl, a0b⟩ := z_rng (b := 1) (x := a0z) (by omega)
    rw [zI_nat a0n]
    rcases (by omega : a0n = 0 ∨ a0n = 1) with rfl | rfl
    · exact Or.inl (AV.q inv (fun J => (c_fits0 ci.hc inv.1.cb ci.hh inv.1.hb ci.hl inv.1.lb ci.bt ci.br b9.1 b9.2 (by omega))) (fun I J mi => (m_fits0 mi.mc inv.1.cb mi.mr inv.1.hb mi.ml inv.1.lb mi.bkO inv.1.bt inv.1.br (by omega))))
    · exact Or.inl (AV.q inv (fun J => (c_fits1 ci.hc inv.1.cb ci.hh inv.1.hb ci.hl inv.1.lb ci.bt ci.br b9.1 b9.2 (by omega))) (fun I J mi => (m_fits1 mi.mc inv.1.cb mi.mr inv.1.hb mi.ml inv.1.lb mi.bkO inv.1.bt inv.1.br (by omega))))
  · exact Or.inr (AX.q inv (by decide) (fun J => (c_fitsX ci.hc inv.1.cb (by omega) (by omega) (by omega) (by omega))) (fun I J mi => (m_fitsX mi.mc inv.1.cb (by omega) (by omega) (by omega) (by omega))))
theorem ans_look {S : STT} {I : Nat → Nat → Int32} (inv : INVS S I) {a0 : Int32} : AN1 133 255 [.int a0] I := by
  have ci := inv.2.1
  have tl6 := inv.1.tl
  have b9 := br_512 inv.1
  obtain ⟨a0z, a01, a02, ea0⟩ := i_z a0
  subst ea0
  by_cases hy : 0 ≤ a0z ∧ a0z ≤ 1
  · obtain ⟨a0n, rfl, a0b⟩ := z_rng (b := 1) (x := a0z) (by omega)
    rw [zI_nat a0n]
    rcases (by omega : a0n = 0 ∨ a0n = 1) with rfl | rfl
    · exact Or.inl (AV.q inv (fun J => (c_look0 ci.hc inv.1.cb ci.hh inv.1.hb ci.hl inv.1.lb ci.bt ci.br b9.1 b9.2 (by omega))) (fun I J mi => (m_look0 mi.mc inv.1.cb mi.mr inv.1.hb mi.ml inv.1.lb mi.bkO inv.1.bt inv.1.br (by omega))))
    · exact Or.inl (AV.q inv (fun J => (c_look1 ci.hc inv.1.cb ci.hh inv.1.hb ci.hl inv.1.lb ci.bt ci.br b9.1 b9.2 (by omega))) (fun I J mi => (m_look1 mi.mc inv.1.cb mi.mr inv.1.hb mi.ml inv.1.lb mi.bkO inv.1.bt inv.1.br (by omega))))
  · exact Or.inr (AX.q inv (by decide) (fun J => (c_lookX ci.hc inv.1.cb (by omega) (by omega) (by omega) (by omega))) (fun I J mi => (m_lookX mi.mc inv.1.cb (by omega) (by omega) (by omega) (by omega))))
theorem ans_court {S : STT} {I : Nat → Nat → Int32} (inv : INVS S I) {a0 : Int32} : AN1 114 194 [.int a0] I := by
  have ci := inv.2.1
  have tl6 := inv.1.tl
  obtain ⟨a0z, a01, a02, ea0⟩ := i_z a0
  subst ea0
  by_cases hy : 0 ≤ a0z ∧ a0z ≤ S.tl
  · obtain ⟨a0n, rfl, a0b⟩ := z_rng (b := S.tl) (x := a0z) (by omega)
    rw [zI_nat a0n]
    obtain ⟨K, hk, cu⟩ := ci.sk.hc
    rcases rst_x (ctsS S.tp a0n 60 (zer K) (scp isB S.tp a0n 0)).2 with ⟨s2, hz⟩ | ⟨⟨k, f⟩, hz⟩
    · exact Or.inl (AV.s inv (inv.1.new (ctsS_cb 60 (zer K) (scp isB S.tp a0n 0) cu.zer hz)) (fun J => (c_courtG inv.1 ci hk cu (by omega) hz (by omega))) (fun I J mi => (m_courtG inv.1 mi K cu (by omega) hz (by omega))))
    · exact Or.inl (AV.s inv (inv.1.txt (nI f)) (fun J => (c_courtB inv.1 ci hk cu (by omega) hz (by omega))) (fun I J mi => (m_courtB inv.1 mi K cu (by omega) hz (by omega))))
  · exact Or.inr (AX.q inv (by decide) (fun J => (c_courtX inv.1 ci (by omega) (by omega) (by omega) (by omega))) (fun I J mi => (m_courtX inv.1 mi (by omega) (by omega) (by omega) (by omega))))
theorem ans_law {S : STT} {I : Nat → Nat → Int32} (inv : INVS S I) {a0 : Int32} : AN1 115 202 [.int a0] I := by
  have ci := inv.2.1
  have tl6 := inv.1.tl
  obtain ⟨a0z, a01, a02, ea0⟩ := i_z a0
  subst ea0
  by_cases hy : 0 ≤ a0z ∧ a0z ≤ S.tl ∧ a0z ≤ 150
  · obtain ⟨a0n, rfl, a0b⟩ := z_rng (b := S.tl) (x := a0z) (by omega)
    rw [zI_nat a0n]
    rcases rst_x (lawT S.tp a0n (scp isB S.tp a0n 0)).2 with ⟨s2, hz⟩ | ⟨⟨k, f⟩, hz⟩
    · exact Or.inl (AV.s inv (inv.1.law (lawT_ok (g := S.tp) (by omega) (scp_le (Nat.zero_le _)) hz)) (fun J => (c_lawG inv.1 ci (by omega) (by omega) hz (by omega))) (fun I J mi => (m_lawG inv.1 mi (by omega) (by omega) hz (by omega))))
    · exact Or.inl (AV.s inv (inv.1.txt (nI f)) (fun J => (c_lawB inv.1 ci (by omega) (by omega) hz (by omega))) (fun I J mi => (m_lawB inv.1 mi (by omega) (by omega) hz (by omega))))
  · exact Or.inr (AX.q inv (by decide) (fun J => (c_lawX inv.1 ci (by omega) (by omega) (by omega) (by omega))) (fun I J mi => (m_lawX inv.1 mi (by omega) (by omega) (by omega) (by omega))))
theorem ans_book {S : STT} {I : Nat → Nat → Int32} (inv : INVS S I) {a0 : Int32} : AN1 117 233 [.int a0] I := by
  have ci := inv.2.1
  have tl6 := inv.1.tl
  obtain ⟨a0z, a01, a02, ea0⟩ := i_z a0
  subst ea0
  by_cases hy : 0 ≤ a0z ∧ a0z ≤ S.tl ∧ a0z ≤ 60
  · obtain ⟨a0n, rfl, a0b⟩ := z_rng (b := S.tl) (x := a0z) (by omega)
    rw [zI_nat a0n]
    rcases rst_x (bookT S.tp a0n S.κ.ns).2 with ⟨s2, hz⟩ | ⟨⟨k, f⟩, hz⟩
    · exact Or.inl (AV.s inv (inv.1.bok (bookT_ok hz)) (fun J => (c_bookG inv.1 ci (by omega) (by omega) hz (by omega))) (fun I J mi => (m_bookG inv.1 mi (by omega) (by omega) hz (by omega))))
    · exact Or.inl (AV.s inv (inv.1.txt (nI f)) (fun J => (c_bookB inv.1 ci (by omega) (by omega) hz (by omega))) (fun I J mi => (m_bookB inv.1 mi (by omega) (by omega) hz (by omega))))
  · exact Or.inr (AX.q inv (by decide) (fun J => (c_bookX inv.1 ci (by omega) (by omega) (by omega) (by omega))) (fun I J mi => (m_bookX inv.1 mi (by omega) (by omega) (by omega) (by omega))))
theorem ans_work {S : STT} {I : Nat → Nat → Int32} (inv : INVS S I) {a0 : Int32} : AN1 116 210 [.int a0] I := by
  have ci := inv.2.1
  have tl6 := inv.1.tl
  have w16 := inv.1.w
  obtain ⟨a0z, a01, a02, ea0⟩ := i_z a0
  subst ea0
  by_cases hy : 0 ≤ a0z ∧ a0z ≤ S.tl ∧ a0z ≤ 150
  · obtain ⟨a0n, rfl, a0b⟩ := z_rng (b := S.tl) (x := a0z) (by omega)
    rw [zI_nat a0n]
    by_cases hw : S.w < 16
    · rcases rst_x (wrkT S.tp a0n S.κ (scp isB S.tp a0n 0)).2 with ⟨s2, hz⟩ | ⟨⟨k, f⟩, hz⟩
      · exact Or.inl (AV.s inv (inv.1.wrk hw (wrkT_ok (g := S.tp) (κ := S.κ) (scp_le (Nat.zero_le _)) hz).2.2) (fun J => (c_workG inv.1 ci (by omega) (by omega) (by omega) hz (by omega))) (fun I J mi => (m_workG inv.1 mi (by omega) (by omega) (by omega) hz (by omega))))
      · exact Or.inl (AV.s inv (inv.1.txt (nI f)) (fun J => (c_workB inv.1 ci (by omega) (by omega) (by omega) hz (by omega))) (fun I J mi => (m_workB inv.1 mi (by omega) (by omega) (by omega) hz (by omega))))
    · exact Or.inl (AV.s inv (inv.1.txt (zI (-1))) (fun J => (c_workL inv.1 ci (by omega) (by omega) (by omega) (by omega))) (fun I J mi => (m_workL inv.1 mi (by omega) (by omega) (by omega) (by omega))))
  · exact Or.inr (AX.q inv (by decide) (fun J => (c_workX inv.1 ci (by omega) (by omega) (by omega) (by omega))) (fun I J mi => (m_workX inv.1 mi (by omega) (by omega) (by omega) (by omega))))
theorem ans_would {S : STT} {I : Nat → Nat → Int32} (inv : INVS S I) {a0 a1 a2 a3 a4 a5 : Int32} : AN1 125 244 [.int a0, .int a1, .int a2, .int a3, .int a4, .int a5] I := by
  have ci := inv.2.1
  have tl6 := inv.1.tl
  obtain ⟨a0z, a01, a02, ea0⟩ := i_z a0
  obtain ⟨a1z, a11, a12, ea1⟩ := i_z a1
  obtain ⟨a2z, a21, a22, ea2⟩ := i_z a2
  obtain ⟨a3z, a31, a32, ea3⟩ := i_z a3
  obtain ⟨a4z, a41, a42, ea4⟩ := i_z a4
  obtain ⟨a5z, a51, a52, ea5⟩ := i_z a5
  subst ea0
  subst ea1
  subst ea2
  subst ea3
  subst ea4
  subst ea5
  by_cases hy : 1 ≤ a0z ∧ a0z ≤ 20 ∧ 0 ≤ a1z ∧ a1z ≤ 400 ∧ 0 ≤ a2z ∧ a2z ≤ 160 ∧ 0 ≤ a3z ∧ a3z ≤ 999 ∧ 0 ≤ a4z ∧ a4z ≤ 9 ∧ 0 ≤ a5z ∧ a5z ≤ 3
  · exact Or.inl (AV.q inv (fun J => (c_would ci.hl inv.1.lb (by omega) (by omega) (by omega) (by omega) (by omega) (by omega) (by omega) (by omega) (by omega) (by omega) (by omega) (by omega) hy (by omega))) (fun I J mi => (m_would mi.ml inv.1.lb (by omega) (by omega) (by omega) (by omega) (by omega) (by omega) (by omega) (by omega) (by omega) (by omega) (by omega) (by omega) hy (by omega))))
  · exact Or.inr (AX.q inv (by decide) (fun J => (c_wouldX ci.hc inv.1.cb (by omega) (by omega) (by omega) (by omega) (by omega) (by omega) (by omega) (by omega) (by omega) (by omega) (by omega) (by omega) hy (by omega))) (fun I J mi => (m_wouldX mi.mc inv.1.cb (by omega) (by omega) (by omega) (by omega) (by omega) (by omega) (by omega) (by omega) (by omega) (by omega) (by omega) (by omega) hy (by omega))))
theorem ans_at {S : STT} {I : Nat → Nat → Int32} (inv : INVS S I) {a0 a1 : Int32} : AN1 126 245 [.int a0, .int a1] I := by
  have ci := inv.2.1
  have tl6 := inv.1.tl
  obtain ⟨a0z, a01, a02, ea0⟩ := i_z a0
  obtain ⟨a1z, a11, a12, ea1⟩ := i_z a1
  subst ea0
  subst ea1
  by_cases hy : 0 ≤ a0z ∧ a0z ≤ 499 ∧ 0 ≤ a1z ∧ a1z ≤ 2
  · obtain ⟨a0n, rfl, a0b⟩ := z_rng (b := 499) (x := a0z) (by omega)
    rw [zI_nat a0n]
    obtain ⟨a1n, rfl, a1b⟩ := z_rng (b := 2) (x := a1z) (by omega)
    rw [zI_nat a1n]
    rcases (by omega : a1n = 0 ∨ a1n = 1 ∨ a1n = 2) with rfl | rfl | rfl
    · exact Or.inl (AV.q inv (fun J => (c_at0 ci.hc inv.1.cb ci.hh inv.1.hb inv.1.wm.hw (by omega) (by omega)).ri) (fun I J mi => (m_at0 mi.mc inv.1.cb mi.mr inv.1.hb mi.ml inv.1.lb inv.1.wm (by omega) (by omega)).fm))
    · exact Or.inl (AV.q inv (fun J => (c_at1 ci.hc inv.1.cb ci.hh inv.1.hb inv.1.wm.hw (by omega) (by omega)).ri) (fun I J mi => (m_at1 mi.mc inv.1.cb mi.mr inv.1.hb mi.ml inv.1.lb inv.1.wm (by omega) (by omega)).fm))
    · exact Or.inl (AV.q inv (fun J => (c_at2 ci.hc inv.1.cb ci.hh inv.1.hb inv.1.wm.hw (by omega) (by omega)).ri) (fun I J mi => (m_at2 mi.mc inv.1.cb mi.mr inv.1.hb mi.ml inv.1.lb inv.1.wm (by omega) (by omega)).fm))
  · exact Or.inr (AX.q inv (by decide) (fun J => (c_atX ci.hc inv.1.cb (by omega) (by omega) (by omega) (by omega) hy (by omega))) (fun I J mi => (m_atX mi.mc inv.1.cb (by omega) (by omega) (by omega) (by omega) hy (by omega))))
theorem ans_side {S : STT} {I : Nat → Nat → Int32} (inv : INVS S I) {a0 a1 : Int32} : AN1 139 268 [.int a0, .int a1] I := by
  have ci := inv.2.1
  have tl6 := inv.1.tl
  obtain ⟨a0z, a01, a02, ea0⟩ := i_z a0
  obtain ⟨a1z, a11, a12, ea1⟩ := i_z a1
  subst ea0
  subst ea1
  by_cases hy : 0 ≤ a0z ∧ a0z ≤ 1 ∧ 0 ≤ a1z ∧ a1z ≤ 2
  · obtain ⟨a0n, rfl, a0b⟩ := z_rng (b := 1) (x := a0z) (by omega)
    rw [zI_nat a0n]
    obtain ⟨a1n, rfl, a1b⟩ := z_rng (b := 2) (x := a1z) (by omega)
    rw [zI_nat a1n]
    rcases (by omega : a1n = 0 ∨ a1n = 1 ∨ a1n = 2) with rfl | rfl | rfl
    · exact Or.inl (AV.q inv (fun J => (c_side0 ci.hc inv.1.cb ci.hh inv.1.hb inv.1.wm.hw (by omega) (by omega)).ri) (fun I J mi => (m_side0 mi.mc inv.1.cb mi.mr inv.1.hb mi.ml inv.1.lb inv.1.wm (by omega) (by omega)).fm))
    · exact Or.inl (AV.q inv (fun J => (c_side1 ci.hc inv.1.cb ci.hh inv.1.hb inv.1.wm.hw (by omega) (by omega)).ri) (fun I J mi => (m_side1 mi.mc inv.1.cb mi.mr inv.1.hb mi.ml inv.1.lb inv.1.wm (by omega) (by omega)).fm))
    · exact Or.inl (AV.q inv (fun J => (c_side2 ci.hc inv.1.cb ci.hh inv.1.hb inv.1.wm.hw (by omega) (by omega)).ri) (fun I J mi => (m_side2 mi.mc inv.1.cb mi.mr inv.1.hb mi.ml inv.1.lb inv.1.wm (by omega) (by omega)).fm))
  · exact Or.inr (AX.q inv (by decide) (fun J => (c_sideX ci.hc inv.1.cb (by omega) (by omega) (by omega) (by omega) hy (by omega))) (fun I J mi => (m_sideX mi.mc inv.1.cb (by omega) (by omega) (by omega) (by omega) hy (by omega))))
theorem ans_point {S : STT} {I : Nat → Nat → Int32} (inv : INVS S I) {a0 a1 : Int32} : AN1 144 273 [.int a0, .int a1] I := by
  have ci := inv.2.1
  have tl6 := inv.1.tl
  obtain ⟨a0z, a01, a02, ea0⟩ := i_z a0
  obtain ⟨a1z, a11, a12, ea1⟩ := i_z a1
  subst ea0
  subst ea1
  by_cases hy : 0 ≤ a0z ∧ a0z ≤ 1 ∧ 0 ≤ a1z ∧ a1z ≤ 1
  · obtain ⟨a0n, rfl, a0b⟩ := z_rng (b := 1) (x := a0z) (by omega)
    rw [zI_nat a0n]
    obtain ⟨a1n, rfl, a1b⟩ := z_rng (b := 1) (x := a1z) (by omega)
    rw [zI_nat a1n]
    rcases (by omega : a1n = 0 ∨ a1n = 1) with rfl | rfl
    · exact Or.inl (AV.q inv (fun J => (c_point0 ci.hc inv.1.cb ci.hh inv.1.hb inv.1.wm.hw (by omega) (by omega)).ri) (fun I J mi => (m_point0 mi.mc inv.1.cb mi.mr inv.1.hb mi.ml inv.1.lb inv.1.wm (by omega) (by omega)).fm))
    · exact Or.inl (AV.q inv (fun J => (c_point1 ci.hc inv.1.cb ci.hh inv.1.hb inv.1.wm.hw (by omega) (by omega)).ri) (fun I J mi => (m_point1 mi.mc inv.1.cb mi.mr inv.1.hb mi.ml inv.1.lb inv.1.wm (by omega) (by omega)).fm))
  · exact Or.inr (AX.q inv (by decide) (fun J => (c_pointX ci.hc inv.1.cb (by omega) (by omega) (by omega) (by omega) hy (by omega))) (fun I J mi => (m_pointX mi.mc inv.1.cb (by omega) (by omega) (by omega) (by omega) hy (by omega))))
theorem ans_order {S : STT} {I : Nat → Nat → Int32} (inv : INVS S I) {a0 a1 a2 : Int32} : AN1 135 259 [.int a0, .int a1, .int a2] I := by
  have ci := inv.2.1
  have tl6 := inv.1.tl
  obtain ⟨a0z, a01, a02, ea0⟩ := i_z a0
  obtain ⟨a1z, a11, a12, ea1⟩ := i_z a1
  obtain ⟨a2z, a21, a22, ea2⟩ := i_z a2
  subst ea0
  subst ea1
  subst ea2
  by_cases hy : 0 ≤ a0z ∧ a0z ≤ 99 ∧ 0 ≤ a1z ∧ a1z ≤ 99 ∧ 0 ≤ a2z ∧ a2z ≤ 2
  · obtain ⟨a0n, rfl, a0b⟩ := z_rng (b := 99) (x := a0z) (by omega)
    rw [zI_nat a0n]
    obtain ⟨a1n, rfl, a1b⟩ := z_rng (b := 99) (x := a1z) (by omega)
    rw [zI_nat a1n]
    obtain ⟨a2n, rfl, a2b⟩ := z_rng (b := 2) (x := a2z) (by omega)
    rw [zI_nat a2n]
    rcases (by omega : a2n = 0 ∨ a2n = 1 ∨ a2n = 2) with rfl | rfl | rfl
    · exact Or.inl (AV.q (v := nI (orC a0n a1n 4)) inv (fun J => by have z := (c_order0 (I := I) (J := J) (d := 40) a0b a1b (by omega)).ri; rw [or_eqC] at z; exact z) (fun I J mi => (m_order0 (by omega) (by omega) (by omega)).fm))
    · exact Or.inl (AV.q (v := opI (orO a0n a1n 4)) inv (fun J => by have z := (c_order1 (I := I) (J := J) (d := 40) a0b a1b (by omega)).ri; rw [or_eqF] at z; exact z) (fun I J mi => (m_order1 (by omega) (by omega) (by omega)).fm))
    · exact Or.inl (AV.q (v := zI (orT a0n a1n (orO a0n a1n 4))) inv (fun J => by have z := (c_order2 (I := I) (J := J) (d := 40) a0b a1b (by omega)).ri; rw [or_eqT] at z; exact z) (fun I J mi => (m_order2 (by omega) (by omega) (by omega)).fm))
  · exact Or.inr (AX.q inv (by decide) (fun J => (c_orderX ci.hc inv.1.cb (by omega) (by omega) (by omega) (by omega) (by omega) (by omega) hy (by omega))) (fun I J mi => (m_orderX mi.mc inv.1.cb (by omega) (by omega) (by omega) (by omega) (by omega) (by omega) hy (by omega))))
theorem ans_follows {S : STT} {I : Nat → Nat → Int32} (inv : INVS S I) {a0 : Int32} : AN1 129 249 [.int a0] I := by
  have ci := inv.2.1
  have tl6 := inv.1.tl
  obtain ⟨a0z, a01, a02, ea0⟩ := i_z a0
  subst ea0
  by_cases hy : a0z < 0 ∨ ((2 ^ S.κ.ns : Nat) : Int) ≤ a0z
  · exact Or.inr (AX.q inv (by decide) (fun J => (c_follX ci.hc inv.1.cb (by omega) (by omega) hy (by omega))) (fun I J mi => (m_follX mi.mc inv.1.cb (by omega) (by omega) hy (by omega))))
  · obtain ⟨a0n, rfl, a0b⟩ := z_bits (p := 2 ^ S.κ.ns) (x := a0z) hy
    rw [zI_nat a0n]
    exact Or.inl (AV.q inv (fun J => (c_follows ci.hc inv.1.cb ci.hh inv.1.hb inv.1.wm.hw a0b (by omega)).ri) (fun I J mi => (m_follows mi.mc inv.1.cb mi.mr inv.1.hb mi.ml inv.1.lb inv.1.wm a0b (by omega)).fm))
theorem ans_hide {S : STT} {I : Nat → Nat → Int32} (inv : INVS S I) {a0 a1 : Int32} : AN1 128 248 [.int a0, .int a1] I := by
  have ci := inv.2.1
  have tl6 := inv.1.tl
  obtain ⟨a0z, a01, a02, ea0⟩ := i_z a0
  subst ea0
  by_cases hy : a0z < 0 ∨ ((2 ^ S.κ.ns : Nat) : Int) ≤ a0z
  · exact Or.inr (AX.q inv (by decide) (fun J => (c_hideB ci.hc inv.1.cb (by omega) (by omega) hy (by omega))) (fun I J mi => (m_hideB mi.mc inv.1.cb (by omega) (by omega) hy (by omega))))
  · obtain ⟨a0n, rfl, a0b⟩ := z_bits (p := 2 ^ S.κ.ns) (x := a0z) hy
    rw [zI_nat a0n]
    obtain ⟨a1z, a11, a12, ea1⟩ := i_z a1
    subst ea1
    by_cases hy2 : 0 ≤ a1z ∧ a1z ≤ 1
    · obtain ⟨a1n, rfl, a1b⟩ := z_rng (b := 1) (x := a1z) (by omega)
      rw [zI_nat a1n]
      rcases (by omega : a1n = 0 ∨ a1n = 1) with rfl | rfl
      · exact Or.inl (AV.q inv (fun J => (c_hide0 ci.hc inv.1.cb ci.hh inv.1.hb ci.hl inv.1.lb a0b (by omega))) (fun I J mi => (m_hide0 mi.mc inv.1.cb mi.mr inv.1.hb mi.ml inv.1.lb a0b (by omega))))
      · exact Or.inl (AV.q inv (fun J => (c_hide1 ci.hc inv.1.cb ci.hh inv.1.hb ci.hl inv.1.lb a0b (by omega))) (fun I J mi => (m_hide1 mi.mc inv.1.cb mi.mr inv.1.hb mi.ml inv.1.lb a0b (by omega))))
    · exact Or.inr (AX.q inv (by decide) (fun J => (c_hideX ci.hc inv.1.cb a0b (by omega) (by omega) hy2 (by omega))) (fun I J mi => (m_hideX mi.mc inv.1.cb a0b (by omega) (by omega) hy2 (by omega))))
theorem ans_purse {S : STT} {I : Nat → Nat → Int32} (inv : INVS S I) {a0 : Int32} : AN1 145 274 [.int a0] I := by
  have ci := inv.2.1
  have tl6 := inv.1.tl
  obtain ⟨a0z, a01, a02, ea0⟩ := i_z a0
  subst ea0
  by_cases hy : a0z < 0 ∨ ((2 ^ S.κ.nc : Nat) : Int) ≤ a0z
  · exact Or.inr (AX.q inv (by decide) (fun J => (c_purseX ci.hc inv.1.cb (by omega) (by omega) hy (by omega))) (fun I J mi => (m_purseX mi.mc inv.1.cb (by omega) (by omega) hy (by omega))))
  · obtain ⟨a0n, rfl, a0b⟩ := z_bits (p := 2 ^ S.κ.nc) (x := a0z) hy
    rw [zI_nat a0n]
    exact Or.inl (AV.q inv (fun J => (c_purse ci.hc inv.1.cb ci.hh inv.1.hb inv.1.wm.hw a0b (by omega)).ri) (fun I J mi => (m_purse mi.mc inv.1.cb mi.mr inv.1.hb mi.ml inv.1.lb inv.1.wm a0b (by omega)).fm))
theorem ans_term {S : STT} {I : Nat → Nat → Int32} (inv : INVS S I) {a0 a1 a2 a3 : Int32} : AN1 150 283 [.int a0, .int a1, .int a2, .int a3] I := by
  have ci := inv.2.1
  have tl6 := inv.1.tl
  obtain ⟨a1z, a11, a12, ea1⟩ := i_z a1
  obtain ⟨a2z, a21, a22, ea2⟩ := i_z a2
  obtain ⟨a3z, a31, a32, ea3⟩ := i_z a3
  subst ea1
  subst ea2
  subst ea3
  by_cases hy : 0 ≤ a1z ∧ a1z ≤ 16 ∧ 1 ≤ a2z ∧ a2z ≤ 48
  · by_cases hy2 : 0 ≤ a3z ∧ a3z ≤ 3
    · obtain ⟨a1n, rfl, a1b⟩ := z_rng (b := 16) (x := a1z) (by omega)
      rw [zI_nat a1n]
      obtain ⟨a2n, rfl, a2b⟩ := z_rng (b := 48) (x := a2z) (by omega)
      rw [zI_nat a2n]
      obtain ⟨a3n, rfl, a3b⟩ := z_rng (b := 3) (x := a3z) (by omega)
      rw [zI_nat a3n]
      rcases (by omega : a3n = 0 ∨ a3n = 1 ∨ a3n = 2 ∨ a3n = 3) with rfl | rfl | rfl | rfl
      · exact Or.inl (AV.q inv (fun J => (c_term0 ci.hc inv.1.cb ci.hh ⟨inv.1.hb, inv.1.wm, rfl⟩ inv.1.m4 ci.hl inv.1.lb (by omega) (by omega) (by omega) (by omega))) (fun I J mi => (m_term0 mi.mc inv.1.cb mi.mr mi.ml inv.1.lb ⟨inv.1.hb, inv.1.wm, rfl⟩ inv.1.m4 (by omega) (by omega) (by omega) (by omega))))
      · exact Or.inl (AV.q inv (fun J => (c_term1 ci.hc inv.1.cb ci.hh ⟨inv.1.hb, inv.1.wm, rfl⟩ inv.1.m4 ci.hl inv.1.lb (by omega) (by omega) (by omega) (by omega))) (fun I J mi => (m_term1 mi.mc inv.1.cb mi.mr mi.ml inv.1.lb ⟨inv.1.hb, inv.1.wm, rfl⟩ inv.1.m4 (by omega) (by omega) (by omega) (by omega))))
      · exact Or.inl (AV.q inv (fun J => (c_term2 ci.hc inv.1.cb ci.hh ⟨inv.1.hb, inv.1.wm, rfl⟩ inv.1.m4 ci.hl inv.1.lb (by omega) (by omega) (by omega) (by omega))) (fun I J mi => (m_term2 mi.mc inv.1.cb mi.mr mi.ml inv.1.lb ⟨inv.1.hb, inv.1.wm, rfl⟩ inv.1.m4 (by omega) (by omega) (by omega) (by omega))))
      · exact Or.inl (AV.q inv (fun J => (c_term3 ci.hc inv.1.cb ci.hh ⟨inv.1.hb, inv.1.wm, rfl⟩ inv.1.m4 ci.hl inv.1.lb (by omega) (by omega) (by omega) (by omega))) (fun I J mi => (m_term3 mi.mc inv.1.cb mi.mr mi.ml inv.1.lb ⟨inv.1.hb, inv.1.wm, rfl⟩ inv.1.m4 (by omega) (by omega) (by omega) (by omega))))
    · obtain ⟨a1n, hA, a1b⟩ := z_rng (b := 16) (x := a1z) (by omega)
      obtain ⟨a2n, hB, a2b⟩ := z_rng (b := 48) (x := a2z) (by omega)
      exact Or.inr (AX.q inv (by decide) (fun J => by rw [hA, hB, zI_nat, zI_nat]; exact (c_termX2 (by omega) (by omega) (by omega) (by omega) (by omega) hy2 (by omega))) (fun I J mi => (m_termX mi.mc inv.1.cb (by omega) (by omega) (by omega) (by omega) (by omega) (by omega) (by omega) (by omega))))
  · exact Or.inr (AX.q inv (by decide) (fun J => (c_termX1 (by omega) (by omega) (by omega) (by omega) hy (by omega))) (fun I J mi => (m_termX mi.mc inv.1.cb (by omega) (by omega) (by omega) (by omega) (by omega) (by omega) (by omega) (by omega))))
theorem ans_span {S : STT} {I : Nat → Nat → Int32} (inv : INVS S I) {a0 a1 a2 a3 a4 a5 : Int32} : AN1 151 284 [.int a0, .int a1, .int a2, .int a3, .int a4, .int a5] I := by
  have ci := inv.2.1
  have tl6 := inv.1.tl
  have hns := inv.1.cb.ns
  obtain ⟨a1z, a11, a12, ea1⟩ := i_z a1
  obtain ⟨a2z, a21, a22, ea2⟩ := i_z a2
  obtain ⟨a3z, a31, a32, ea3⟩ := i_z a3
  obtain ⟨a4z, a41, a42, ea4⟩ := i_z a4
  obtain ⟨a5z, a51, a52, ea5⟩ := i_z a5
  subst ea1
  subst ea2
  subst ea3
  subst ea4
  subst ea5
  by_cases hy : 0 ≤ a2z ∧ a2z ≤ 16 ∧ 1 ≤ a3z ∧ a3z ≤ 48
  · obtain ⟨a2n, hA, a2b⟩ := z_rng (b := 16) (x := a2z) (by omega)
    obtain ⟨a3n, hB, a3b⟩ := z_rng (b := 48) (x := a3z) (by omega)
    by_cases hy2 : 1 ≤ a1z ∧ a1z ≤ 10 ∧ 0 ≤ a4z ∧ a4z ≤ 2
    · by_cases hy3 : a5z < 0 ∨ (S.κ.ns : Int) ≤ a5z
      · obtain ⟨a1n, hC, a1b⟩ := z_rng (b := 10) (x := a1z) (by omega)
        obtain ⟨a4n, hD, a4b⟩ := z_rng (b := 2) (x := a4z) (by omega)
        exact Or.inr (AX.q inv (by decide) (fun J => by rw [hA, hB, hC, hD, zI_nat, zI_nat, zI_nat, zI_nat]; exact (c_spanX3 ci.hc inv.1.cb (by omega) (by omega) (by omega) (by omega) (by omega) (by omega) (by omega) (by omega) hy3 (by omega))) (fun I J mi => (m_spanX mi.mc inv.1.cb (by omega) (by omega) (by omega) (by omega) (by omega) (by omega) (by omega) (by omega) (by omega) (by omega) (by omega) (by omega))))
      · subst hA
        subst hB
        obtain ⟨a1n, rfl, a1b⟩ := z_rng (b := 10) (x := a1z) (by omega)
        rw [zI_nat a1n]
        rw [zI_nat a2n, zI_nat a3n]
        obtain ⟨a4n, rfl, a4b⟩ := z_rng (b := 2) (x := a4z) (by omega)
        rw [zI_nat a4n]
        obtain ⟨a5n, rfl, a5b⟩ := z_bits (p := S.κ.ns) (x := a5z) hy3
        rw [zI_nat a5n]
        rcases (by omega : a4n = 0 ∨ a4n = 1 ∨ a4n = 2) with rfl | rfl | rfl
        · exact Or.inl (AV.q inv (fun J => (c_span0 ci.hc inv.1.cb ci.hh ⟨inv.1.hb, inv.1.wm, rfl⟩ inv.1.m4 ci.hl inv.1.lb (by omega) (by omega) (by omega) (by omega) (by omega) (by omega) (by omega))) (fun I J mi => (m_span0 mi.mc inv.1.cb mi.mr mi.ml inv.1.lb ⟨inv.1.hb, inv.1.wm, rfl⟩ inv.1.m4 (by omega) (by omega) (by omega) (by omega) (by omega) (by omega) (by omega))))
        · exact Or.inl (AV.q inv (fun J => (c_span1 ci.hc inv.1.cb ci.hh ⟨inv.1.hb, inv.1.wm, rfl⟩ inv.1.m4 ci.hl inv.1.lb (by omega) (by omega) (by omega) (by omega) (by omega) (by omega) (by omega))) (fun I J mi => (m_span1 mi.mc inv.1.cb mi.mr mi.ml inv.1.lb ⟨inv.1.hb, inv.1.wm, rfl⟩ inv.1.m4 (by omega) (by omega) (by omega) (by omega) (by omega) (by omega) (by omega))))
        · exact Or.inl (AV.q inv (fun J => (c_span2 ci.hc inv.1.cb ci.hh ⟨inv.1.hb, inv.1.wm, rfl⟩ inv.1.m4 ci.hl inv.1.lb (by omega) (by omega) (by omega) (by omega) (by omega) (by omega) (by omega))) (fun I J mi => (m_span2 mi.mc inv.1.cb mi.mr mi.ml inv.1.lb ⟨inv.1.hb, inv.1.wm, rfl⟩ inv.1.m4 (by omega) (by omega) (by omega) (by omega) (by omega) (by omega) (by omega))))
    · exact Or.inr (AX.q inv (by decide) (fun J => by rw [hA, hB, zI_nat, zI_nat]; exact (c_spanX2 ci.hc inv.1.cb (by omega) (by omega) (by omega) (by omega) (by omega) (by omega) (by omega) hy2 (by omega))) (fun I J mi => (m_spanX mi.mc inv.1.cb (by omega) (by omega) (by omega) (by omega) (by omega) (by omega) (by omega) (by omega) (by omega) (by omega) (by omega) (by omega))))
  · exact Or.inr (AX.q inv (by decide) (fun J => (c_spanX1 ci.hc inv.1.cb (by omega) (by omega) (by omega) (by omega) hy (by omega))) (fun I J mi => (m_spanX mi.mc inv.1.cb (by omega) (by omega) (by omega) (by omega) (by omega) (by omega) (by omega) (by omega) (by omega) (by omega) (by omega) (by omega))))
theorem ans_proof {S : STT} {I : Nat → Nat → Int32} (inv : INVS S I) {a0 : Int32} : AN0 130 250 [.int a0] I := by
  have ci := inv.2.1
  have tl6 := inv.1.tl
  obtain ⟨a0z, a01, a02, ea0⟩ := i_z a0
  subst ea0
  by_cases hy : a0z < 0 ∨ (S.κ.ns : Int) ≤ a0z
  · exact Or.inr (AX.q inv (by decide) (fun J => (c_proofT ci.hc inv.1.cb (by omega) (by omega) hy (by omega))) (fun I J mi => (m_proofT mi.mc inv.1.cb (by omega) (by omega) hy (by omega))))
  · obtain ⟨a0n, rfl, a0b⟩ := z_bits (p := S.κ.ns) (x := a0z) hy
    rw [zI_nat a0n]
    exact Or.inl (AV.q inv (fun J => (c_proof ci.hc inv.1.cb ci.hh inv.1.hb inv.1.wm.hw (by omega) (by omega)).ri) (fun I J mi => (m_proof mi.mc inv.1.cb mi.mr inv.1.hb mi.ml inv.1.lb inv.1.wm (by omega) (by omega)).fm))
theorem ans_over {S : STT} {I : Nat → Nat → Int32} (inv : INVS S I) {a0 : Int32} : AN0 142 271 [.int a0] I := by
  have ci := inv.2.1
  have tl6 := inv.1.tl
  obtain ⟨a0z, a01, a02, ea0⟩ := i_z a0
  subst ea0
  by_cases hy : a0z < 0 ∨ (S.κ.nb : Int) ≤ a0z
  · exact Or.inr (AX.q inv (by decide) (fun J => (c_overT ci.hc inv.1.cb (by omega) (by omega) hy (by omega))) (fun I J mi => (m_overT mi.mc inv.1.cb (by omega) (by omega) hy (by omega))))
  · obtain ⟨a0n, rfl, a0b⟩ := z_bits (p := S.κ.nb) (x := a0z) hy
    rw [zI_nat a0n]
    exact Or.inl (AV.q inv (fun J => (c_over ci.hc inv.1.cb ci.hh inv.1.hb inv.1.wm.hw (by omega) (by omega)).ri) (fun I J mi => (m_over mi.mc inv.1.cb mi.mr inv.1.hb mi.ml inv.1.lb inv.1.wm (by omega) (by omega)).fm))
theorem ans_delay {S : STT} {I : Nat → Nat → Int32} (inv : INVS S I) {a0 : Int32} : AN0 143 272 [.int a0] I := by
  have ci := inv.2.1
  have tl6 := inv.1.tl
  obtain ⟨a0z, a01, a02, ea0⟩ := i_z a0
  subst ea0
  by_cases hy : a0z < 0 ∨ (S.κ.ns : Int) ≤ a0z
  · exact Or.inr (AX.q inv (by decide) (fun J => (c_delayT ci.hc inv.1.cb (by omega) (by omega) hy (by omega))) (fun I J mi => (m_delayT mi.mc inv.1.cb (by omega) (by omega) hy (by omega))))
  · obtain ⟨a0n, rfl, a0b⟩ := z_bits (p := S.κ.ns) (x := a0z) hy
    rw [zI_nat a0n]
    exact Or.inl (AV.q inv (fun J => (c_delay ci.hc inv.1.cb ci.hh inv.1.hb inv.1.wm.hw (by omega) (by omega)).ri) (fun I J mi => (m_delay mi.mc inv.1.cb mi.mr inv.1.hb mi.ml inv.1.lb inv.1.wm (by omega) (by omega)).fm))
theorem ans_swing {S : STT} {I : Nat → Nat → Int32} (inv : INVS S I) {a0 : Int32} : AN0 148 278 [.int a0] I := by
  have ci := inv.2.1
  have tl6 := inv.1.tl
  obtain ⟨a0z, a01, a02, ea0⟩ := i_z a0
  subst ea0
  by_cases hy : a0z < 0 ∨ (S.κ.ns : Int) ≤ a0z
  · exact Or.inr (AX.q inv (by decide) (fun J => (c_swingT ci.hc inv.1.cb (by omega) (by omega) hy (by omega))) (fun I J mi => (m_swingT mi.mc inv.1.cb (by omega) (by omega) hy (by omega))))
  · obtain ⟨a0n, rfl, a0b⟩ := z_bits (p := S.κ.ns) (x := a0z) hy
    rw [zI_nat a0n]
    exact Or.inl (AV.q inv (fun J => (c_swing ci.hc inv.1.cb ci.hh inv.1.hb inv.1.wm.hw (by omega) (by omega)).ri) (fun I J mi => (m_swing mi.mc inv.1.cb mi.mr inv.1.hb mi.ml inv.1.lb inv.1.wm (by omega) (by omega)).fm))
theorem ans_saying {S : STT} {I : Nat → Nat → Int32} (inv : INVS S I) {a0 a1 : Int32} : AN2 122 241 [.int a0, .int a1] I := by
  have ci := inv.2.1
  have tl6 := inv.1.tl
  obtain ⟨a0z, a01, a02, ea0⟩ := i_z a0
  subst ea0
  by_cases hy : a0z < 0 ∨ (S.κ.ns : Int) ≤ a0z
  · exact (fun z => Or.inr (Or.inl z)) (AX.q inv (by decide) (fun J => (c_sayT ci.hc inv.1.cb (by omega) (by omega) hy (by omega))) (fun I J mi => (m_sayT mi.mc inv.1.cb (by omega) (by omega) hy (by omega))))
  · obtain ⟨a0n, rfl, a0b⟩ := z_bits (p := S.κ.ns) (x := a0z) hy
    rw [zI_nat a0n]
    obtain ⟨a1z, a11, a12, ea1⟩ := i_z a1
    subst ea1
    by_cases hy2 : 0 ≤ a1z ∧ a1z ≤ 5
    · obtain ⟨a1n, rfl, a1b⟩ := z_rng (b := 5) (x := a1z) (by omega)
      rw [zI_nat a1n]
      rcases (by omega : a1n = 0 ∨ a1n = 1 ∨ a1n = 2 ∨ a1n = 3 ∨ a1n = 4 ∨ a1n = 5) with rfl | rfl | rfl | rfl | rfl | rfl
      · exact Or.inl (AV.q inv (fun J => (c_saying0 ci.hc inv.1.cb ci.hh inv.1.hb inv.1.wm.hw (by omega) (by omega)).ri) (fun I J mi => (m_saying0 mi.mc inv.1.cb mi.mr inv.1.hb mi.ml inv.1.lb inv.1.wm (by omega) (by omega)).fm))
      · exact Or.inl (AV.q inv (fun J => (c_saying1 ci.hc inv.1.cb ci.hh inv.1.hb inv.1.wm.hw (by omega) (by omega)).ri) (fun I J mi => (m_saying1 mi.mc inv.1.cb mi.mr inv.1.hb mi.ml inv.1.lb inv.1.wm (by omega) (by omega)).fm))
      · exact Or.inl (AV.q inv (fun J => (c_saying2 ci.hc inv.1.cb ci.hh inv.1.hb inv.1.wm.hw (by omega) (by omega)).ri) (fun I J mi => (m_saying2 mi.mc inv.1.cb mi.mr inv.1.hb mi.ml inv.1.lb inv.1.wm (by omega) (by omega)).fm))
      · exact Or.inl (AV.q inv (fun J => (c_saying3 ci.hc inv.1.cb ci.hh inv.1.hb inv.1.wm.hw (by omega) (by omega)).ri) (fun I J mi => (m_saying3 mi.mc inv.1.cb mi.mr inv.1.hb mi.ml inv.1.lb inv.1.wm (by omega) (by omega)).fm))
      · exact Or.inl (AV.q inv (fun J => (c_saying4 ci.hc inv.1.cb ci.hh inv.1.hb inv.1.wm.hw (by omega) (by omega)).ri) (fun I J mi => (m_saying4 mi.mc inv.1.cb mi.mr inv.1.hb mi.ml inv.1.lb inv.1.wm (by omega) (by omega)).fm))
      · exact Or.inl (AV.q inv (fun J => (c_saying5 ci.hc inv.1.cb ci.hh inv.1.hb inv.1.wm.hw (by omega) (by omega)).ri) (fun I J mi => (m_saying5 mi.mc inv.1.cb mi.mr inv.1.hb mi.ml inv.1.lb inv.1.wm (by omega) (by omega)).fm))
    · exact (fun z => Or.inr (Or.inr z)) (AX.q inv (by decide) (fun J => (c_sayX ci.hc inv.1.cb (by omega) (by omega) (by omega) hy2 (by omega))) (fun I J mi => (m_sayX mi.mc inv.1.cb (by omega) (by omega) (by omega) hy2 (by omega))))
theorem ans_bird {S : STT} {I : Nat → Nat → Int32} (inv : INVS S I) {a0 a1 : Int32} : AN2 123 242 [.int a0, .int a1] I := by
  have ci := inv.2.1
  have tl6 := inv.1.tl
  obtain ⟨a0z, a01, a02, ea0⟩ := i_z a0
  subst ea0
  by_cases hy : a0z < 0 ∨ (S.κ.nb : Int) ≤ a0z
  · exact (fun z => Or.inr (Or.inl z)) (AX.q inv (by decide) (fun J => (c_birdT ci.hc inv.1.cb (by omega) (by omega) hy (by omega))) (fun I J mi => (m_birdT mi.mc inv.1.cb (by omega) (by omega) hy (by omega))))
  · obtain ⟨a0n, rfl, a0b⟩ := z_bits (p := S.κ.nb) (x := a0z) hy
    rw [zI_nat a0n]
    obtain ⟨a1z, a11, a12, ea1⟩ := i_z a1
    subst ea1
    by_cases hy2 : 0 ≤ a1z ∧ a1z ≤ 4
    · obtain ⟨a1n, rfl, a1b⟩ := z_rng (b := 4) (x := a1z) (by omega)
      rw [zI_nat a1n]
      rcases (by omega : a1n = 0 ∨ a1n = 1 ∨ a1n = 2 ∨ a1n = 3 ∨ a1n = 4) with rfl | rfl | rfl | rfl | rfl
      · exact Or.inl (AV.q inv (fun J => (c_bird0 ci.hc inv.1.cb ci.hh inv.1.hb inv.1.wm.hw (by omega) (by omega)).ri) (fun I J mi => (m_bird0 mi.mc inv.1.cb mi.mr inv.1.hb mi.ml inv.1.lb inv.1.wm (by omega) (by omega)).fm))
      · exact Or.inl (AV.q inv (fun J => (c_bird1 ci.hc inv.1.cb ci.hh inv.1.hb inv.1.wm.hw (by omega) (by omega)).ri) (fun I J mi => (m_bird1 mi.mc inv.1.cb mi.mr inv.1.hb mi.ml inv.1.lb inv.1.wm (by omega) (by omega)).fm))
      · exact Or.inl (AV.q inv (fun J => (c_bird2 ci.hc inv.1.cb ci.hh inv.1.hb inv.1.wm.hw (by omega) (by omega)).ri) (fun I J mi => (m_bird2 mi.mc inv.1.cb mi.mr inv.1.hb mi.ml inv.1.lb inv.1.wm (by omega) (by omega)).fm))
      · exact Or.inl (AV.q inv (fun J => (c_bird3 ci.hc inv.1.cb ci.hh inv.1.hb inv.1.wm.hw (by omega) (by omega)).ri) (fun I J mi => (m_bird3 mi.mc inv.1.cb mi.mr inv.1.hb mi.ml inv.1.lb inv.1.wm (by omega) (by omega)).fm))
      · exact Or.inl (AV.q inv (fun J => (c_bird4 ci.hc inv.1.cb ci.hh inv.1.hb inv.1.wm.hw (by omega) (by omega)).ri) (fun I J mi => (m_bird4 mi.mc inv.1.cb mi.mr inv.1.hb mi.ml inv.1.lb inv.1.wm (by omega) (by omega)).fm))
    · exact (fun z => Or.inr (Or.inr z)) (AX.q inv (by decide) (fun J => (c_birdX ci.hc inv.1.cb (by omega) (by omega) (by omega) hy2 (by omega))) (fun I J mi => (m_birdX mi.mc inv.1.cb (by omega) (by omega) (by omega) hy2 (by omega))))
theorem ans_counsel {S : STT} {I : Nat → Nat → Int32} (inv : INVS S I) {a0 a1 : Int32} : AN2 124 243 [.int a0, .int a1] I := by
  have ci := inv.2.1
  have tl6 := inv.1.tl
  obtain ⟨a0z, a01, a02, ea0⟩ := i_z a0
  subst ea0
  by_cases hy : a0z < 0 ∨ (S.κ.nc : Int) ≤ a0z
  · exact (fun z => Or.inr (Or.inl z)) (AX.q inv (by decide) (fun J => (c_counselT ci.hc inv.1.cb (by omega) (by omega) hy (by omega))) (fun I J mi => (m_counselT mi.mc inv.1.cb (by omega) (by omega) hy (by omega))))
  · obtain ⟨a0n, rfl, a0b⟩ := z_bits (p := S.κ.nc) (x := a0z) hy
    rw [zI_nat a0n]
    obtain ⟨a1z, a11, a12, ea1⟩ := i_z a1
    subst ea1
    by_cases hy2 : 0 ≤ a1z ∧ a1z ≤ 1
    · obtain ⟨a1n, rfl, a1b⟩ := z_rng (b := 1) (x := a1z) (by omega)
      rw [zI_nat a1n]
      rcases (by omega : a1n = 0 ∨ a1n = 1) with rfl | rfl
      · exact Or.inl (AV.q inv (fun J => (c_counsel0 ci.hc inv.1.cb ci.hh inv.1.hb inv.1.wm.hw (by omega) (by omega)).ri) (fun I J mi => (m_counsel0 mi.mc inv.1.cb mi.mr inv.1.hb mi.ml inv.1.lb inv.1.wm (by omega) (by omega)).fm))
      · exact Or.inl (AV.q inv (fun J => (c_counsel1 ci.hc inv.1.cb ci.hh inv.1.hb inv.1.wm.hw (by omega) (by omega)).ri) (fun I J mi => (m_counsel1 mi.mc inv.1.cb mi.mr inv.1.hb mi.ml inv.1.lb inv.1.wm (by omega) (by omega)).fm))
    · exact (fun z => Or.inr (Or.inr z)) (AX.q inv (by decide) (fun J => (c_counselX ci.hc inv.1.cb (by omega) (by omega) (by omega) hy2 (by omega))) (fun I J mi => (m_counselX mi.mc inv.1.cb (by omega) (by omega) (by omega) hy2 (by omega))))
theorem ans_leaders {S : STT} {I : Nat → Nat → Int32} (inv : INVS S I) {a0 a1 : Int32} : AN2 140 269 [.int a0, .int a1] I := by
  have ci := inv.2.1
  have tl6 := inv.1.tl
  obtain ⟨a0z, a01, a02, ea0⟩ := i_z a0
  subst ea0
  by_cases hy : a0z < 0 ∨ (S.κ.nb : Int) ≤ a0z
  · exact (fun z => Or.inr (Or.inl z)) (AX.q inv (by decide) (fun J => (c_leadersT ci.hc inv.1.cb (by omega) (by omega) hy (by omega))) (fun I J mi => (m_leadersT mi.mc inv.1.cb (by omega) (by omega) hy (by omega))))
  · obtain ⟨a0n, rfl, a0b⟩ := z_bits (p := S.κ.nb) (x := a0z) hy
    rw [zI_nat a0n]
    obtain ⟨a1z, a11, a12, ea1⟩ := i_z a1
    subst ea1
    by_cases hy2 : 1 ≤ a1z ∧ a1z ≤ 9
    · obtain ⟨a1n, rfl, a1b⟩ := z_rng (b := 9) (x := a1z) (by omega)
      rw [zI_nat a1n]
      exact Or.inl (AV.q inv (fun J => (c_leaders ci.hc inv.1.cb ci.hh inv.1.hb inv.1.wm.hw (by omega) (by omega) (by omega) (by omega)).ri) (fun I J mi => (m_leaders mi.mc inv.1.cb mi.mr inv.1.hb mi.ml inv.1.lb inv.1.wm (by omega) (by omega) (by omega) (by omega)).fm))
    · exact (fun z => Or.inr (Or.inr z)) (AX.q inv (by decide) (fun J => (c_leadersX ci.hc inv.1.cb (by omega) (by omega) (by omega) hy2 (by omega))) (fun I J mi => (m_leadersX mi.mc inv.1.cb (by omega) (by omega) (by omega) hy2 (by omega))))
