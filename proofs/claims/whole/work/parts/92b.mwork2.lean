/-! (goes on) -/
theorem m_workB {d : Nat} {I : Nat → Nat → Int32} {J : Nat → Nat → Int64} {S : STT} {n : Nat} (sb : SB S) (h : MIn S I) (ht : n ≤ S.tl) (hn : n ≤ 150) (hw : S.w < 16) {k f : Nat} (hz : (wrkT S.tp n S.κ (scp isB S.tp n 0)).2 = .inr (k, f))  (hd : 23 ≤ d) : RI d 210 [.ref 106, .int (nI n)] I J (fun v I' => v = zI ((k : Int) - 10) ∧ MIn (S.txt (nI f)) I' ∧ HIf I I' ∧ I' 106 0 = nI 0) := by
  refine RI.in (d0 := 22) hd mt_210 (Nat.le_of_ble_eq_true rfl) (fun d' hd' => ?_)
  have tl6 := sb.tl
  have w16 := sb.w
  show EV none M_X11_work d' 0 [(0, .ref 106), (1, .int (nI n))] [] (hp I J) _
  refine EV.l (lv' := [(0, _), (1, _)]) r_X11_work_0 rfl ?_
  refine EV.o r_X11_work_1 (icN (0) (v := 0)) ?_
  refine EV.pIn r_X11_work_2 la_106 (fun I1 e1_ => ?_)
  refine EV.l (lv' := [(0, _), (1, _)]) r_X11_work_5 rfl ?_
  refine EV.l (lv' := [(0, _), (1, _)]) r_X11_work_6 rfl ?_
  refine EV.n0_lt r_X11_work_7 (fun h7 => ?_) (fun h7 => ?_)
  · -- 7 t
    refine EV.o r_X11_work_29 (icN (0) (v := 0)) ?_
    have z0 : I1 106 0 = nI 0 := by rw [e1_]; exact wr_same
    refine EV.o r_X11_work_30 (icN (1) (v := 1)) ?_
    refine EV.o r_X11_work_31 (icN (1) (v := 1)) ?_
    omega
  · -- 7 f
    refine EV.l (lv' := [(0, _), (1, _)]) r_X11_work_10 rfl ?_
    refine EV.l (lv' := [(0, _), (1, _)]) r_X11_work_11 rfl ?_
    refine EV.getV r_X11_work_12 la_106 ((show I1 106 2 = nI S.tl from by rw [e1_, wr_ne (Or.inr (by decide))]; exact h.tl)) ?_
    refine EV.n2_gt r_X11_work_15 (fun h15 => ?_) (fun h15 => ?_)
    · -- 15 t
      refine EV.o r_X11_work_29 (icN (0) (v := 0)) ?_
      have z0 : I1 106 0 = nI 0 := by rw [e1_]; exact wr_same
      refine EV.o r_X11_work_30 (icN (1) (v := 1)) ?_
      refine EV.o r_X11_work_31 (icN (1) (v := 1)) ?_
      omega
    · -- 15 f
      refine EV.l (lv' := [(0, _), (1, _)]) r_X11_work_18 rfl ?_
      refine EV.o r_X11_work_19 (spN (150) 150) ?_
      refine EV.n2_gt r_X11_work_22 (fun h22 => ?_) (fun h22 => ?_)
      · -- 22 t
        refine EV.o r_X11_work_29 (icN (0) (v := 0)) ?_
        have z0 : I1 106 0 = nI 0 := by rw [e1_]; exact wr_same
        refine EV.o r_X11_work_30 (icN (1) (v := 1)) ?_
        refine EV.o r_X11_work_31 (icN (1) (v := 1)) ?_
        omega
      · -- 22 f
        refine EV.o r_X11_work_25 (icN (1) (v := 1)) ?_
        refine EV.g r_X11_work_26 ?_
        have z0 : I1 106 0 = nI 0 := by rw [e1_]; exact wr_same
        refine EV.o r_X11_work_30 (icN (1) (v := 1)) ?_
        refine EV.o r_X11_work_31 (icN (1) (v := 1)) ?_
        refine EV.cv r_X11_work_32 (aV3 mt_169 la_106) (m_mayN z0 (by omega)) ?_
        refine EV.n0_ne r_X11_work_35 (fun h35 => ?_) (fun h35 => ?_)
        · -- 35 t
          refine EV.l (lv' := [(0, _), (1, _)]) r_X11_work_40 rfl ?_
          refine EV.l (lv' := [(0, _), (1, _)]) r_X11_work_41 rfl ?_
          refine EV.cu r_X11_work_42 (aV1 mt_184 la_106) (m_begins (g := S.tp) (by omega)) (fun I2 h2 => ?_)
          obtain ⟨mg2, op2, f82, o2, j2⟩ := h2
          have w2 : I2 106 37 = nI S.w := (j2 37 (by decide) (by decide) (by decide) (by decide) (by decide) (by decide)).trans (by rw [e1_, wr_ne (Or.inr (by decide))]; exact h.w)
          refine EV.l (lv' := [(0, _), (1, _)]) r_X11_work_45 rfl ?_
          refine EV.getV r_X11_work_46 la_106 (w2) ?_
          refine EV.o r_X11_work_49 (bpN (16) 16) ?_
          refine EV.n2_ne r_X11_work_51 (fun h51 => ?_) (fun h51 => ?_)
          · -- 51 t
            refine EV.l (lv' := [(0, _), (1, _)]) r_X11_work_63 rfl ?_
            refine EV.o r_X11_work_64 (icN (0) (v := 0)) ?_
            refine EV.pIn r_X11_work_65 la_106 (fun I3 e3 => ?_)
            have ls3 : LSv S.tp n S.κ 0 (pl0, .inl (scp isB S.tp n 0)) I3 := ls_zero (tp_fm h.tp ((o2 108 (by decide)).trans (by rw [e1_]; exact wr_row (by decide)))) mg2 op2 ⟨(j2 22 (by decide) (by decide) (by decide) (by decide) (by decide) (by decide)).trans (by rw [e1_, wr_ne (Or.inr (by decide))]; exact h.mc.ns), (j2 24 (by decide) (by decide) (by decide) (by decide) (by decide) (by decide)).trans (by rw [e1_, wr_ne (Or.inr (by decide))]; exact h.mc.nb), (j2 25 (by decide) (by decide) (by decide) (by decide) (by decide) (by decide)).trans (by rw [e1_, wr_ne (Or.inr (by decide))]; exact h.mc.nc)⟩ e3
            have L68 : ∀ y_ : Nat × WX × (Nat → Nat → Int32), (fun y => VTI S.tp n S.κ (sgs S.tp n (stT S.tp n S.κ 6)) (wrkT S.tp n S.κ (scp isB S.tp n 0)) I3 y.1 y.2.1 y.2.2 → EV none M_X11_work d' 68 [(0, .ref 106), (1, .int (nI n))] [] (hp y.2.2 J) (QI J (fun v I' => v = zI ((k : Int) - 10) ∧ MIn (S.txt (nI f)) I' ∧ HIf I I' ∧ I' 106 0 = nI 0))) y_ := by
              refine ev_loop (fun y => 150 - y.1) ?_
              intro ⟨i, x, M⟩ ih68 hx68
              try dsimp only at ih68
              try dsimp only at hx68
              try dsimp only
              refine EV.l (lv' := [(0, _), (1, _)]) r_X11_work_68 rfl ?_
              refine EV.cv r_X11_work_69 (aV0 mt_173 la_106) (m_fine hx68.1.2.1 (by omega) (by omega)) ?_
              refine EV.b0_eq r_X11_work_72 (fun h72 => ?_) (fun h72 => ?_)
              · -- 72 t
                have xe := hx68.fin (fun s9 e => (okr_n h72 s9 e).elim)
                have lsx := hx68.1
                have vgx := hx68.2.1
                rw [xe] at lsx
                have mdx := lsx.2.1
                rw [hz] at mdx
                have fo : ∀ o, o ≠ 106 → o ≠ 123 → M o = I o := fun o p1 p2 => (vgx.2 o p1 p2).trans (((congrFun e3 o).trans (wr_row p1)).trans ((o2 o p1).trans (by rw [e1_]; exact wr_row p1)))
                have fj : ∀ j, j ≠ 0 → j ≠ 2 → j ≠ 3 → j ≠ 4 → j ≠ 5 → j ≠ 6 → j ≠ 7 → j ≠ 8 → j ≠ 36 → M 106 j = I 106 j := fun j p0 p2 p3 p4 p5 p6 p7 p8 p9 => (vgx.1 j p4 p5 p6 p7 p9).trans (((congrFun (congrFun e3 106) j).trans (wr_ne (Or.inr p9))).trans ((j2 j p2 p3 p4 p5 p7 p8).trans (by rw [e1_]; exact wr_ne (Or.inr p0))))
                have f0 : M 106 0 = nI 0 := (vgx.1 0 (by decide) (by decide) (by decide) (by decide) (by decide)).trans (((congrFun (congrFun e3 106) 0).trans (wr_ne (Or.inr (by decide)))).trans ((j2 0 (by decide) (by decide) (by decide) (by decide) (by decide) (by decide)).trans (by rw [e1_]; exact wr_same)))
                have mbx : MB n k f M := mdx
                have fn := mbx.fn
                refine EV.l (lv' := [(0, _), (1, _)]) r_X11_work_89 rfl ?_
                refine EV.o r_X11_work_90 (icN (0) (v := 0)) ?_
                refine EV.ci r_X11_work_91 (aV1 mt_185 la_106) (m_resB mbx (by omega) (by omega)) (fun v IB hB => ?_)
                obtain ⟨e, eB⟩ := hB
                subst e
                refine EV.l (lv' := [(0, _), (1, _), (2, _)]) r_X11_work_94 rfl ?_
                refine EV.l (lv' := [(0, _), (1, _), (2, _)]) r_X11_work_95 rfl ?_
                refine EV.getV r_X11_work_96 la_106 ((show IB 106 5 = nI f from by rw [eB, wr_ne (Or.inr (by decide))]; exact mbx.fo)) ?_
                refine EV.o r_X11_work_99 (icZ (-1)) ?_
                refine EV.nz2_eq r_X11_work_100 (fun h100 => ?_) (fun h100 => ?_)
                · omega
                · -- 100 f
                  refine EV.l (lv' := [(0, _), (1, _), (2, _)]) r_X11_work_103 rfl ?_
                  exact EV.ri r_X11_work_104 (⟨rfl, h.txt (fun j hj p2 p8 => by have q := scf_t hj; rw [eB, wr_ne (Or.inr p8)]; exact fj j q.1 p2 q.2.1 q.2.2.1 q.2.2.2.1 q.2.2.2.2.1 q.2.2.2.2.2.1 p8 (fun e => by subst e; exact absurd hj (by decide))) (by rw [eB, wr_ne (Or.inr (by decide))]; exact mbx.ln) (by rw [eB]; exact wr_same) (fun o p1 p2 => by rw [eB, wr_row p1]; exact fo o p1 (sco_w p2).2.2.1), fun o ho => by rw [eB, wr_row (by omega)]; exact fo o (by omega) (by omega), by rw [eB, wr_ne (Or.inr (by decide))]; exact f0⟩)
              · -- 72 f
                obtain ⟨s1, er⟩ := okr_t h72
                obtain ⟨Q, r⟩ := x
                have er : r = .inl s1 := er
                subst er
                refine EV.l (lv' := [(0, _), (1, _)]) r_X11_work_75 rfl ?_
                refine EV.ci r_X11_work_76 (aV0 mt_183 la_106) (m_more hx68.1.1 sb.tp (by omega) hx68.1.mg (by omega)) (fun v I5 h5 => ?_)
                obtain ⟨e, mg5, a5, mp5⟩ := h5
                subst e
                have ls5 : LSv S.tp n S.κ 0 (Q, .inl s1) I5 := hx68.1.mo (r2 := .inl s1) mg5 mp5.mo (fun s2 e => ⟨s1, rfl, by cases e; exact Nat.le_refl _⟩)
                have vg5 : VG I3 I5 := hx68.2.1.tr mp5.mo.vg
                have sn5 := mg5.sn
                refine EV.p0_eq r_X11_work_79 (fun h79 => ?_) (fun h79 => ?_)
                · -- 79 t
                  have xe := hx68.fin (fun s9 e => by cases e; omega)
                  have lsx := ls5
                  have vgx := vg5
                  rw [xe] at lsx
                  have mdx := lsx.2.1
                  rw [hz] at mdx
                  have fo : ∀ o, o ≠ 106 → o ≠ 123 → I5 o = I o := fun o p1 p2 => (vgx.2 o p1 p2).trans (((congrFun e3 o).trans (wr_row p1)).trans ((o2 o p1).trans (by rw [e1_]; exact wr_row p1)))
                  have fj : ∀ j, j ≠ 0 → j ≠ 2 → j ≠ 3 → j ≠ 4 → j ≠ 5 → j ≠ 6 → j ≠ 7 → j ≠ 8 → j ≠ 36 → I5 106 j = I 106 j := fun j p0 p2 p3 p4 p5 p6 p7 p8 p9 => (vgx.1 j p4 p5 p6 p7 p9).trans (((congrFun (congrFun e3 106) j).trans (wr_ne (Or.inr p9))).trans ((j2 j p2 p3 p4 p5 p7 p8).trans (by rw [e1_]; exact wr_ne (Or.inr p0))))
                  have f0 : I5 106 0 = nI 0 := (vgx.1 0 (by decide) (by decide) (by decide) (by decide) (by decide)).trans (((congrFun (congrFun e3 106) 0).trans (wr_ne (Or.inr (by decide)))).trans ((j2 0 (by decide) (by decide) (by decide) (by decide) (by decide) (by decide)).trans (by rw [e1_]; exact wr_same)))
                  have mbx : MB n k f I5 := mdx
                  have fn := mbx.fn
                  refine EV.l (lv' := [(0, _), (1, _)]) r_X11_work_89 rfl ?_
                  refine EV.o r_X11_work_90 (icN (0) (v := 0)) ?_
                  refine EV.ci r_X11_work_91 (aV1 mt_185 la_106) (m_resB mbx (by omega) (by omega)) (fun v IB hB => ?_)
                  obtain ⟨e, eB⟩ := hB
                  subst e
                  refine EV.l (lv' := [(0, _), (1, _), (2, _)]) r_X11_work_94 rfl ?_
                  refine EV.l (lv' := [(0, _), (1, _), (2, _)]) r_X11_work_95 rfl ?_
                  refine EV.getV r_X11_work_96 la_106 ((show IB 106 5 = nI f from by rw [eB, wr_ne (Or.inr (by decide))]; exact mbx.fo)) ?_
                  refine EV.o r_X11_work_99 (icZ (-1)) ?_
                  refine EV.nz2_eq r_X11_work_100 (fun h100 => ?_) (fun h100 => ?_)
                  · omega
                  · -- 100 f
                    refine EV.l (lv' := [(0, _), (1, _), (2, _)]) r_X11_work_103 rfl ?_
                    exact EV.ri r_X11_work_104 (⟨rfl, h.txt (fun j hj p2 p8 => by have q := scf_t hj; rw [eB, wr_ne (Or.inr p8)]; exact fj j q.1 p2 q.2.1 q.2.2.1 q.2.2.2.1 q.2.2.2.2.1 q.2.2.2.2.2.1 p8 (fun e => by subst e; exact absurd hj (by decide))) (by rw [eB, wr_ne (Or.inr (by decide))]; exact mbx.ln) (by rw [eB]; exact wr_same) (fun o p1 p2 => by rw [eB, wr_row p1]; exact fo o p1 (sco_w p2).2.2.1), fun o ho => by rw [eB, wr_row (by omega)]; exact fo o (by omega) (by omega), by rw [eB, wr_ne (Or.inr (by decide))]; exact f0⟩)
                · -- 79 f
                  refine EV.l (lv' := [(0, _), (1, _)]) r_X11_work_82 rfl ?_
                  refine EV.cu r_X11_work_83 (aV0 mt_209 la_106) (m_stT sb.tp hn sb.cb 6 0 rfl d' I5 J Q s1 (by omega) ls5) (fun I6 h6 => ?_)
                  have hx9 := hx68.next (stT_pg 6) hn h79 h6.1 (mp5.mo.vg.tr h6.2)
                  have is1 := hx68.2.2.2 s1 rfl
                  refine EV.g r_X11_work_86 ?_
                  refine EV.sub ?_ rfl ?_ (ih68 (i + 1, (sgs S.tp n (stT S.tp n S.κ 6)) Q s1, I6) ?_ ?_)
                  · (try dsimp only) <;> (rfl)
                  · (try dsimp only) <;> (rfl)
                  · (try dsimp only) <;> (omega)
                  · (try dsimp only) <;> (exact hx9)
            have h0 := L68 (0, (pl0, .inl (scp isB S.tp n 0)), I3)
            try dsimp only at h0
            refine EV.sub ?_ rfl ?_ (h0 ?_)
            · (try dsimp only) <;> (rfl)
            · (try dsimp only) <;> (rfl)
            · (try dsimp only) <;> (exact ⟨ls3, VG.rf, rfl, fun _ _ => Nat.zero_le _⟩)
          · omega
        · omega
theorem m_workX {d : Nat} {I : Nat → Nat → Int32} {J : Nat → Nat → Int64} {S : STT} (sb : SB S) (h : MIn S I) {n : Int} (n1 : -2147483648 ≤ n) (n2 : n < 2147483648) (hx : ¬ (0 ≤ n ∧ n ≤ S.tl ∧ n ≤ 150))  (hd : 9 ≤ d) : RI d 210 [.ref 106, .int (zI n)] I J (fun v I' => I' = refM I 1 1) := by
  refine RI.in (d0 := 8) hd mt_210 (Nat.le_of_ble_eq_true rfl) (fun d' hd' => ?_)
  have tl6 := sb.tl
  show EV none M_X11_work d' 0 [(0, .ref 106), (1, .int (zI n))] [] (hp I J) _
  refine EV.l (lv' := [(0, _), (1, _)]) r_X11_work_0 rfl ?_
  refine EV.o r_X11_work_1 (icN (0) (v := 0)) ?_
  refine EV.pIn r_X11_work_2 la_106 (fun I1 e1 => ?_)
  refine EV.l (lv' := [(0, _), (1, _)]) r_X11_work_5 rfl ?_
  refine EV.l (lv' := [(0, _), (1, _)]) r_X11_work_6 rfl ?_
  refine EV.z0_lt r_X11_work_7 (fun h7 => ?_) (fun h7 => ?_)
  · -- 7 t
    refine EV.o r_X11_work_29 (icN (0) (v := 0)) ?_
    subst e1
    refine EV.o r_X11_work_30 (icN (1) (v := 1)) ?_
    refine EV.o r_X11_work_31 (icN (1) (v := 1)) ?_
    refine EV.ci r_X11_work_32 (aV3 mt_169 la_106) (m_may0 wr_same (by decide) (by decide) (by decide) (by omega)) (fun v I2 h2 => ?_)
    obtain ⟨e, fr_⟩ := h2
    subst e
    refine EV.n0_ne r_X11_work_35 (fun h35 => ?_) (fun h35 => ?_)
    · omega
    · -- 35 f
      refine EV.o r_X11_work_38 (icN (0) (v := 0)) ?_
      exact EV.ri r_X11_work_39 (fr_)
  · -- 7 f
    refine EV.l (lv' := [(0, _), (1, _)]) r_X11_work_10 rfl ?_
    refine EV.l (lv' := [(0, _), (1, _)]) r_X11_work_11 rfl ?_
    refine EV.getV r_X11_work_12 la_106 ((show I1 106 2 = nI S.tl from by rw [e1, wr_ne (Or.inr (by decide))]; exact h.tl)) ?_
    refine EV.zn2_gt r_X11_work_15 (fun h15 => ?_) (fun h15 => ?_)
    · -- 15 t
      refine EV.o r_X11_work_29 (icN (0) (v := 0)) ?_
      subst e1
      refine EV.o r_X11_work_30 (icN (1) (v := 1)) ?_
      refine EV.o r_X11_work_31 (icN (1) (v := 1)) ?_
      refine EV.ci r_X11_work_32 (aV3 mt_169 la_106) (m_may0 wr_same (by decide) (by decide) (by decide) (by omega)) (fun v I2 h2 => ?_)
      obtain ⟨e, fr_⟩ := h2
      subst e
      refine EV.n0_ne r_X11_work_35 (fun h35 => ?_) (fun h35 => ?_)
      · omega
      · -- 35 f
        refine EV.o r_X11_work_38 (icN (0) (v := 0)) ?_
        exact EV.ri r_X11_work_39 (fr_)
    · -- 15 f
      refine EV.l (lv' := [(0, _), (1, _)]) r_X11_work_18 rfl ?_
      refine EV.o r_X11_work_19 (spN (150) 150) ?_
      refine EV.zn2_gt r_X11_work_22 (fun h22 => ?_) (fun h22 => ?_)
      · -- 22 t
        refine EV.o r_X11_work_29 (icN (0) (v := 0)) ?_
        subst e1
        refine EV.o r_X11_work_30 (icN (1) (v := 1)) ?_
        refine EV.o r_X11_work_31 (icN (1) (v := 1)) ?_
        refine EV.ci r_X11_work_32 (aV3 mt_169 la_106) (m_may0 wr_same (by decide) (by decide) (by decide) (by omega)) (fun v I2 h2 => ?_)
        obtain ⟨e, fr_⟩ := h2
        subst e
        refine EV.n0_ne r_X11_work_35 (fun h35 => ?_) (fun h35 => ?_)
        · omega
        · -- 35 f
          refine EV.o r_X11_work_38 (icN (0) (v := 0)) ?_
          exact EV.ri r_X11_work_39 (fr_)
      · -- 22 f
        refine EV.o r_X11_work_25 (icN (1) (v := 1)) ?_
        refine EV.g r_X11_work_26 ?_
        subst e1
        refine EV.o r_X11_work_30 (icN (1) (v := 1)) ?_
        refine EV.o r_X11_work_31 (icN (1) (v := 1)) ?_
        omega
