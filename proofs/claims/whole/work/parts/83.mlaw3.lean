/-! LAW: the model. -/
theorem MIn.law {S : STT} {l : LW} {I I' : Nat → Nat → Int32} (h : MIn S I) (h6 : ∀ j, scf j = false → j ≠ 2 → j ≠ 8 → j ≠ 32 → I' 106 j = I 106 j) (h2 : I' 106 2 = nI 0) (h8 : I' 106 8 = zI (-1)) (ml_ : ML l I') (f : ∀ o, o ≠ 106 → o ≠ 119 → o ≠ 120 → sco o = false → I' o = I o) : MIn (S.law l) I' := by
  have e : ∀ j, scf j = false → j ≠ 2 → j ≠ 8 → j ≠ 32 → I' 106 j = I 106 j := h6
  exact ⟨by have z := h.mc; unfold MC at z ⊢; rw [e 22 (by decide) (by decide) (by decide) (by decide), e 23 (by decide) (by decide) (by decide) (by decide), e 24 (by decide) (by decide) (by decide) (by decide), e 25 (by decide) (by decide) (by decide) (by decide), f 113 (by decide) (by decide) (by decide) rfl, f 114 (by decide) (by decide) (by decide) rfl, f 115 (by decide) (by decide) (by decide) rfl, f 116 (by decide) (by decide) (by decide) rfl]; exact z,
    h.mr.fr (f _ (by decide) (by decide) (by decide) rfl), ml_, h2, h8, by rw [f 108 (by decide) (by decide) (by decide) rfl]; exact h.tp, (e 38 (by decide) (by decide) (by decide) (by decide)).trans h.rf, by rw [f 107 (by decide) (by decide) (by decide) rfl]; exact h.r0, by rw [f 107 (by decide) (by decide) (by decide) rfl]; exact h.r1, (e 47 (by decide) (by decide) (by decide) (by decide)).trans h.wt, by rw [f 129 (by decide) (by decide) (by decide) rfl]; exact h.bk, (e 37 (by decide) (by decide) (by decide) (by decide)).trans h.w, (e 55 (by decide) (by decide) (by decide) (by decide)).trans h.im,
    fun k hk => by have := h.ps k hk; unfold MS at this ⊢; rw [f 127 (by decide) (by decide) (by decide) rfl]; exact this, by rw [f 134 (by decide) (by decide) (by decide) rfl]; exact h.iw, fun i hi => by have := h.ic i hi; unfold MS at this ⊢; rw [f 134 (by decide) (by decide) (by decide) rfl]; exact this, fun i k hi hk => by have := h.ip i k hi hk; unfold MS at this ⊢; rw [f 134 (by decide) (by decide) (by decide) rfl]; exact this⟩
theorem sco_l {o : Nat} (h : sco o = false) : o ≠ 117 ∧ o ≠ 118 := ⟨fun e => by subst e; exact absurd h (by decide), fun e => by subst e; exact absurd h (by decide)⟩
theorem tp_c {g : Nat → Nat} {I I' : Nat → Nat → Int32} (h : ∀ j, j < 600 → I 108 j = nI (g j)) (e : I' 108 = I 108) : ∀ j, j < 600 → I' 108 j = nI (g j) := tp_fm h e
theorem LSm.to {g : Nat → Nat} {n k : Nat} {x x2 : LX} {I : Nat → Nat → Int32} (h : LSm g n k x I) (e : x2 = x) : LSm g n k x2 I := by rw [e]; exact h
theorem r_X11_law_0 : RW M_X11_law 0 (.aload_n 0) 1 0 0 1 := ⟨rfl, rfl⟩
theorem r_X11_law_1 : RW M_X11_law 1 (.iconst 0) 1 0 0 2 := ⟨rfl, rfl⟩
theorem r_X11_law_2 : RW M_X11_law 2 (.putfield 3) 3 11 0 5 := ⟨rfl, rfl⟩
theorem r_X11_law_5 : RW M_X11_law 5 (.aload_n 0) 1 0 0 6 := ⟨rfl, rfl⟩
theorem r_X11_law_6 : RW M_X11_law 6 (.iload_n 1) 1 0 0 7 := ⟨rfl, rfl⟩
theorem r_X11_law_7 : RW M_X11_law 7 (.ifCond .lt 22) 3 29 0 10 := ⟨rfl, rfl⟩
theorem r_X11_law_10 : RW M_X11_law 10 (.iload_n 1) 1 0 0 11 := ⟨rfl, rfl⟩
theorem r_X11_law_11 : RW M_X11_law 11 (.aload_n 0) 1 0 0 12 := ⟨rfl, rfl⟩
theorem r_X11_law_12 : RW M_X11_law 12 (.getfield 108) 3 11 2 15 := ⟨rfl, rfl⟩
theorem r_X11_law_15 : RW M_X11_law 15 (.if_icmp .gt 14) 3 29 0 18 := ⟨rfl, rfl⟩
theorem r_X11_law_18 : RW M_X11_law 18 (.iload_n 1) 1 0 0 19 := ⟨rfl, rfl⟩
theorem r_X11_law_19 : RW M_X11_law 19 (.sipush 150) 3 0 0 22 := ⟨rfl, rfl⟩
theorem r_X11_law_22 : RW M_X11_law 22 (.if_icmp .gt 7) 3 29 0 25 := ⟨rfl, rfl⟩
theorem r_X11_law_25 : RW M_X11_law 25 (.iconst 1) 1 0 0 26 := ⟨rfl, rfl⟩
theorem r_X11_law_26 : RW M_X11_law 26 (.goto 4) 3 30 0 29 := ⟨rfl, rfl⟩
theorem r_X11_law_29 : RW M_X11_law 29 (.iconst 0) 1 0 0 30 := ⟨rfl, rfl⟩
theorem r_X11_law_30 : RW M_X11_law 30 (.iconst 1) 1 0 0 31 := ⟨rfl, rfl⟩
theorem r_X11_law_31 : RW M_X11_law 31 (.iconst 1) 1 0 0 32 := ⟨rfl, rfl⟩
theorem r_X11_law_32 : RW M_X11_law 32 (.invokevirtual 210) 3 169 0 35 := ⟨rfl, rfl⟩
theorem r_X11_law_35 : RW M_X11_law 35 (.ifCond .ne 5) 3 40 0 38 := ⟨rfl, rfl⟩
theorem r_X11_law_38 : RW M_X11_law 38 (.iconst 0) 1 0 0 39 := ⟨rfl, rfl⟩
theorem r_X11_law_39 : RW M_X11_law 39 (.ireturn) 1 0 0 40 := ⟨rfl, rfl⟩
theorem r_X11_law_40 : RW M_X11_law 40 (.aload_n 0) 1 0 0 41 := ⟨rfl, rfl⟩
theorem r_X11_law_41 : RW M_X11_law 41 (.iload_n 1) 1 0 0 42 := ⟨rfl, rfl⟩
theorem r_X11_law_42 : RW M_X11_law 42 (.invokevirtual 214) 3 184 0 45 := ⟨rfl, rfl⟩
theorem r_X11_law_45 : RW M_X11_law 45 (.aload_n 0) 1 0 0 46 := ⟨rfl, rfl⟩
theorem r_X11_law_46 : RW M_X11_law 46 (.iconst 0) 1 0 0 47 := ⟨rfl, rfl⟩
theorem r_X11_law_47 : RW M_X11_law 47 (.putfield 249) 3 11 31 50 := ⟨rfl, rfl⟩
theorem r_X11_law_50 : RW M_X11_law 50 (.aload_n 0) 1 0 0 51 := ⟨rfl, rfl⟩
theorem r_X11_law_51 : RW M_X11_law 51 (.invokevirtual 264) 3 197 0 54 := ⟨rfl, rfl⟩
theorem r_X11_law_54 : RW M_X11_law 54 (.aload_n 0) 1 0 0 55 := ⟨rfl, rfl⟩
theorem r_X11_law_55 : RW M_X11_law 55 (.invokevirtual 140) 3 173 0 58 := ⟨rfl, rfl⟩
theorem r_X11_law_58 : RW M_X11_law 58 (.ifCond .eq 19) 3 77 0 61 := ⟨rfl, rfl⟩
theorem r_X11_law_61 : RW M_X11_law 61 (.aload_n 0) 1 0 0 62 := ⟨rfl, rfl⟩
theorem r_X11_law_62 : RW M_X11_law 62 (.invokevirtual 218) 3 183 0 65 := ⟨rfl, rfl⟩
theorem r_X11_law_65 : RW M_X11_law 65 (.ifCond .eq 12) 3 77 0 68 := ⟨rfl, rfl⟩
theorem r_X11_law_68 : RW M_X11_law 68 (.aload_n 0) 1 0 0 69 := ⟨rfl, rfl⟩
theorem r_X11_law_69 : RW M_X11_law 69 (.iconst 1) 1 0 0 70 := ⟨rfl, rfl⟩
theorem r_X11_law_70 : RW M_X11_law 70 (.aload_n 0) 1 0 0 71 := ⟨rfl, rfl⟩
theorem r_X11_law_71 : RW M_X11_law 71 (.getfield 117) 3 11 4 74 := ⟨rfl, rfl⟩
theorem r_X11_law_74 : RW M_X11_law 74 (.invokevirtual 147) 3 174 0 77 := ⟨rfl, rfl⟩
theorem r_X11_law_77 : RW M_X11_law 77 (.aload_n 0) 1 0 0 78 := ⟨rfl, rfl⟩
theorem r_X11_law_78 : RW M_X11_law 78 (.iconst 1) 1 0 0 79 := ⟨rfl, rfl⟩
theorem r_X11_law_79 : RW M_X11_law 79 (.invokevirtual 245) 3 185 0 82 := ⟨rfl, rfl⟩
theorem r_X11_law_82 : RW M_X11_law 82 (.istore_n 2) 1 0 0 83 := ⟨rfl, rfl⟩
theorem r_X11_law_83 : RW M_X11_law 83 (.aload_n 0) 1 0 0 84 := ⟨rfl, rfl⟩
theorem r_X11_law_84 : RW M_X11_law 84 (.getfield 111) 3 11 5 87 := ⟨rfl, rfl⟩
theorem r_X11_law_87 : RW M_X11_law 87 (.iconst (-1)) 1 0 0 88 := ⟨rfl, rfl⟩
theorem r_X11_law_88 : RW M_X11_law 88 (.if_icmp .eq 5) 3 93 0 91 := ⟨rfl, rfl⟩
theorem r_X11_law_91 : RW M_X11_law 91 (.iload_n 2) 1 0 0 92 := ⟨rfl, rfl⟩
theorem r_X11_law_92 : RW M_X11_law 92 (.ireturn) 1 0 0 93 := ⟨rfl, rfl⟩
theorem r_X11_law_93 : RW M_X11_law 93 (.aload_n 0) 1 0 0 94 := ⟨rfl, rfl⟩
theorem r_X11_law_94 : RW M_X11_law 94 (.aload_n 0) 1 0 0 95 := ⟨rfl, rfl⟩
theorem r_X11_law_95 : RW M_X11_law 95 (.getfield 249) 3 11 31 98 := ⟨rfl, rfl⟩
theorem r_X11_law_98 : RW M_X11_law 98 (.putfield 182) 3 11 32 101 := ⟨rfl, rfl⟩
theorem r_X11_law_101 : RW M_X11_law 101 (.aload_n 0) 1 0 0 102 := ⟨rfl, rfl⟩
theorem r_X11_law_102 : RW M_X11_law 102 (.aload_n 0) 1 0 0 103 := ⟨rfl, rfl⟩
theorem r_X11_law_103 : RW M_X11_law 103 (.getfield 47) 3 11 26 106 := ⟨rfl, rfl⟩
theorem r_X11_law_106 : RW M_X11_law 106 (.aload_n 0) 1 0 0 107 := ⟨rfl, rfl⟩
theorem r_X11_law_107 : RW M_X11_law 107 (.getfield 53) 3 11 28 110 := ⟨rfl, rfl⟩
theorem r_X11_law_110 : RW M_X11_law 110 (.aload_n 0) 1 0 0 111 := ⟨rfl, rfl⟩
theorem r_X11_law_111 : RW M_X11_law 111 (.getfield 249) 3 11 31 114 := ⟨rfl, rfl⟩
theorem r_X11_law_114 : RW M_X11_law 114 (.invokevirtual 178) 3 187 0 117 := ⟨rfl, rfl⟩
theorem r_X11_law_117 : RW M_X11_law 117 (.aload_n 0) 1 0 0 118 := ⟨rfl, rfl⟩
theorem r_X11_law_118 : RW M_X11_law 118 (.aload_n 0) 1 0 0 119 := ⟨rfl, rfl⟩
theorem r_X11_law_119 : RW M_X11_law 119 (.getfield 50) 3 11 27 122 := ⟨rfl, rfl⟩
theorem r_X11_law_122 : RW M_X11_law 122 (.aload_n 0) 1 0 0 123 := ⟨rfl, rfl⟩
theorem r_X11_law_123 : RW M_X11_law 123 (.getfield 56) 3 11 29 126 := ⟨rfl, rfl⟩
theorem r_X11_law_126 : RW M_X11_law 126 (.aload_n 0) 1 0 0 127 := ⟨rfl, rfl⟩
theorem r_X11_law_127 : RW M_X11_law 127 (.getfield 249) 3 11 31 130 := ⟨rfl, rfl⟩
theorem r_X11_law_130 : RW M_X11_law 130 (.invokevirtual 178) 3 187 0 133 := ⟨rfl, rfl⟩
theorem r_X11_law_133 : RW M_X11_law 133 (.iload_n 2) 1 0 0 134 := ⟨rfl, rfl⟩
theorem r_X11_law_134 : RW M_X11_law 134 (.ireturn) 1 0 0 135 := ⟨rfl, rfl⟩
theorem m_lawG {d : Nat} {I : Nat → Nat → Int32} {J : Nat → Nat → Int64} {S : STT} {n : Nat} (sb : SB S) (h : MIn S I) (ht : n ≤ S.tl) (hn : n ≤ 150) {s2 : Nat} (hz : (lawT S.tp n (scp isB S.tp n 0)).2 = .inl s2)  (hd : 37 ≤ d) : RI d 202 [.ref 106, .int (nI n)] I J (fun v I' => v = nI 1 ∧ MIn (S.law (lawT S.tp n (scp isB S.tp n 0)).1) I' ∧ HIf I I' ∧ I' 106 0 = nI 0) := by
  refine RI.in (d0 := 36) hd mt_202 (Nat.le_of_ble_eq_true rfl) (fun d' hd' => ?_)
  have tl6 := sb.tl
  show EV none M_X11_law d' 0 [(0, .ref 106), (1, .int (nI n))] [] (hp I J) _
  refine EV.l (lv' := [(0, _), (1, _)]) r_X11_law_0 rfl ?_
  refine EV.o r_X11_law_1 (icN (0) (v := 0)) ?_
  refine EV.pIn r_X11_law_2 la_106 (fun I1 e1 => ?_)
  refine EV.l (lv' := [(0, _), (1, _)]) r_X11_law_5 rfl ?_
  refine EV.l (lv' := [(0, _), (1, _)]) r_X11_law_6 rfl ?_
  refine EV.n0_lt r_X11_law_7 (fun h7 => ?_) (fun h7 => ?_)
  · -- 7 t
    refine EV.o r_X11_law_29 (icN (0) (v := 0)) ?_
    refine EV.o r_X11_law_30 (icN (1) (v := 1)) ?_
    refine EV.o r_X11_law_31 (icN (1) (v := 1)) ?_
    have z0 : I1 106 0 = nI 0 := by rw [e1]; exact wr_same
    omega
  · -- 7 f
    refine EV.l (lv' := [(0, _), (1, _)]) r_X11_law_10 rfl ?_
    refine EV.l (lv' := [(0, _), (1, _)]) r_X11_law_11 rfl ?_
    refine EV.getV r_X11_law_12 la_106 ((show I1 106 2 = nI S.tl from by rw [e1, wr_ne (Or.inr (by decide))]; exact h.tl)) ?_
    refine EV.n2_gt r_X11_law_15 (fun h15 => ?_) (fun h15 => ?_)
    · -- 15 t
      refine EV.o r_X11_law_29 (icN (0) (v := 0)) ?_
      refine EV.o r_X11_law_30 (icN (1) (v := 1)) ?_
      refine EV.o r_X11_law_31 (icN (1) (v := 1)) ?_
      have z0 : I1 106 0 = nI 0 := by rw [e1]; exact wr_same
      omega
    · -- 15 f
      refine EV.l (lv' := [(0, _), (1, _)]) r_X11_law_18 rfl ?_
      refine EV.o r_X11_law_19 (spN (150) 150) ?_
      refine EV.n2_gt r_X11_law_22 (fun h22 => ?_) (fun h22 => ?_)
      · -- 22 t
        refine EV.o r_X11_law_29 (icN (0) (v := 0)) ?_
        refine EV.o r_X11_law_30 (icN (1) (v := 1)) ?_
        refine EV.o r_X11_law_31 (icN (1) (v := 1)) ?_
        have z0 : I1 106 0 = nI 0 := by rw [e1]; exact wr_same
        omega
      · -- 22 f
        refine EV.o r_X11_law_25 (icN (1) (v := 1)) ?_
        refine EV.g r_X11_law_26 ?_
        refine EV.o r_X11_law_30 (icN (1) (v := 1)) ?_
        refine EV.o r_X11_law_31 (icN (1) (v := 1)) ?_
        have z0 : I1 106 0 = nI 0 := by rw [e1]; exact wr_same
        refine EV.cv r_X11_law_32 (aV3 mt_169 la_106) (m_mayN z0 (by omega)) ?_
        refine EV.n0_ne r_X11_law_35 (fun h35 => ?_) (fun h35 => ?_)
        · -- 35 t
          refine EV.l (lv' := [(0, _), (1, _)]) r_X11_law_40 rfl ?_
          refine EV.l (lv' := [(0, _), (1, _)]) r_X11_law_41 rfl ?_
          refine EV.cu r_X11_law_42 (aV1 mt_184 la_106) (m_begins (g := S.tp) (by omega)) (fun I2 h2 => ?_)
          obtain ⟨mg2, op2, f82, o2, j2⟩ := h2
          refine EV.l (lv' := [(0, _), (1, _)]) r_X11_law_45 rfl ?_
          refine EV.o r_X11_law_46 (icN (0) (v := 0)) ?_
          refine EV.pIn r_X11_law_47 la_106 (fun I3 e3 => ?_)
          have ls3 : LSm S.tp n 0 (lz_, .inl (scp isB S.tp n 0)) I3 := ⟨tp_c h.tp (((congrFun e3 108).trans (wr_row (by decide))).trans ((o2 108 (by decide)).trans (by rw [e1]; exact wr_row (by decide)))), by rw [e3]; exact MD.w (r := .inl (scp isB S.tp n 0)) mg2 (by decide), by rw [e3, wr_ne (Or.inr (by decide))]; exact op2, fun s2 e => ⟨⟨by rw [e3]; exact wr_same, fun j hj => absurd hj (Nat.not_lt_zero j), fun j hj => absurd hj (Nat.not_lt_zero j)⟩, Nat.zero_le _⟩⟩
          refine EV.l (lv' := [(0, _), (1, _)]) r_X11_law_50 rfl ?_
          refine EV.cu r_X11_law_51 (aV0 mt_197 la_106) (m_sums sb.tp hn 6 0 rfl d' I3 J (lz_, .inl (scp isB S.tp n 0)) (by omega) ls3) (fun I4 h4 => ?_)
          obtain ⟨ls4, lg4⟩ := h4
          refine EV.l (lv' := [(0, _), (1, _)]) r_X11_law_54 rfl ?_
          refine EV.cv r_X11_law_55 (aV0 mt_173 la_106) (m_fine ls4.2.1 (by omega) (by omega)) ?_
          refine EV.b0_eq r_X11_law_58 (fun h58 => ?_) (fun h58 => ?_)
          · -- 58 t
            obtain ⟨k9, f9, er⟩ := okr_f h58
            have el : (lawT S.tp n (scp isB S.tp n 0)) = (sums S.tp n 6 (lz_, .inl (scp isB S.tp n 0))) := lawT_end (by rw [er]; rfl)
            have lsx : LSm S.tp n 0 (lawT S.tp n (scp isB S.tp n 0)) I4 := by rw [el]; exact ls4
            have lgx := lg4
            have mdx := lsx.2.1
            rw [hz] at mdx
            have fo : ∀ o, o ≠ 106 → o ≠ 117 → o ≠ 118 → I4 o = I o := fun o p1 p2 p3 => (lgx.2 o p1 p2 p3).trans (((congrFun e3 o).trans (wr_row p1)).trans ((o2 o p1).trans (by rw [e1]; exact wr_row p1)))
            have fj : ∀ j, j ≠ 0 → j ≠ 2 → j ≠ 3 → j ≠ 4 → j ≠ 5 → j ≠ 6 → j ≠ 7 → j ≠ 8 → j ≠ 31 → I4 106 j = I 106 j := fun j p0 p2 p3 p4 p5 p6 p7 p8 p9 => (lgx.1 j p4 p5 p6 p7 p9).trans (((congrFun (congrFun e3 106) j).trans (wr_ne (Or.inr p9))).trans ((j2 j p2 p3 p4 p5 p7 p8).trans (by rw [e1]; exact wr_ne (Or.inr p0))))
            have f0 : I4 106 0 = nI 0 := (lgx.1 0 (by decide) (by decide) (by decide) (by decide) (by decide)).trans (((congrFun (congrFun e3 106) 0).trans (wr_ne (Or.inr (by decide)))).trans ((j2 0 (by decide) (by decide) (by decide) (by decide) (by decide) (by decide)).trans (by rw [e1]; exact wr_same)))
            have mgx : MG S.tp n s2 I4 := mdx
            have ldx := lsx.2.2.2 s2 hz
            have lb := lawT_ok (g := S.tp) hn (scp_le (Nat.zero_le _)) hz
            have ln := lb.n
            refine EV.l (lv' := [(0, _), (1, _)]) r_X11_law_77 rfl ?_
            refine EV.o r_X11_law_78 (icN (1) (v := 1)) ?_
            refine EV.ci r_X11_law_79 (aV1 mt_185 la_106) (m_resG mgx (by omega)) (fun v IB hB => ?_)
            obtain ⟨e, eB⟩ := hB
            subst e
            refine EV.l (lv' := [(0, _), (1, _), (2, _)]) r_X11_law_82 rfl ?_
            refine EV.l (lv' := [(0, _), (1, _), (2, _)]) r_X11_law_83 rfl ?_
            refine EV.getV r_X11_law_84 la_106 ((show IB 106 5 = zI (-1) from by rw [eB, wr_ne (Or.inr (by decide))]; exact mgx.fo)) ?_
            refine EV.o r_X11_law_87 (icZ (-1)) ?_
            refine EV.z2_eq r_X11_law_88 (fun h88 => ?_) (fun h88 => ?_)
            · -- 88 t
              refine EV.l (lv' := [(0, _), (1, _), (2, _)]) r_X11_law_93 rfl ?_
              refine EV.l (lv' := [(0, _), (1, _), (2, _)]) r_X11_law_94 rfl ?_
              refine EV.getV r_X11_law_95 la_106 ((show IB 106 31 = nI (lawT S.tp n (scp isB S.tp n 0)).1.n from by rw [eB, wr_ne (Or.inr (by decide))]; exact ldx.1.n)) ?_
              refine EV.pIn r_X11_law_98 la_106 (fun IC eC => ?_)
              refine EV.l (lv' := [(0, _), (1, _), (2, _)]) r_X11_law_101 rfl ?_
              refine EV.l (lv' := [(0, _), (1, _), (2, _)]) r_X11_law_102 rfl ?_
              refine EV.gR r_X11_law_103 la_106 ?_
              refine EV.l (lv' := [(0, _), (1, _), (2, _)]) r_X11_law_106 rfl ?_
              refine EV.gR r_X11_law_107 la_106 ?_
              refine EV.l (lv' := [(0, _), (1, _), (2, _)]) r_X11_law_110 rfl ?_
              refine EV.getV r_X11_law_111 la_106 ((show IC 106 31 = nI (lawT S.tp n (scp isB S.tp n 0)).1.n from by rw [eC, wr_ne (Or.inr (by decide)), eB, wr_ne (Or.inr (by decide))]; exact ldx.1.n)) ?_
              refine EV.cu r_X11_law_114 (aV3 mt_187 la_106) (m_copies la_117 la_119 (by decide) (by decide) (by omega) (by omega) (by decide) (by decide) (by decide) (by omega)) (fun ID eD => ?_)
              refine EV.l (lv' := [(0, _), (1, _), (2, _)]) r_X11_law_117 rfl ?_
              refine EV.l (lv' := [(0, _), (1, _), (2, _)]) r_X11_law_118 rfl ?_
              refine EV.gR r_X11_law_119 la_106 ?_
              refine EV.l (lv' := [(0, _), (1, _), (2, _)]) r_X11_law_122 rfl ?_
              refine EV.gR r_X11_law_123 la_106 ?_
              refine EV.l (lv' := [(0, _), (1, _), (2, _)]) r_X11_law_126 rfl ?_
              refine EV.getV r_X11_law_127 la_106 ((show ID 106 31 = nI (lawT S.tp n (scp isB S.tp n 0)).1.n from by rw [eD, cpy_row (by decide), eC, wr_ne (Or.inr (by decide)), eB, wr_ne (Or.inr (by decide))]; exact ldx.1.n)) ?_
              refine EV.cu r_X11_law_130 (aV3 mt_187 la_106) (m_copies la_118 la_120 (by decide) (by decide) (by omega) (by omega) (by decide) (by decide) (by decide) (by omega)) (fun IE eE => ?_)
              refine EV.l (lv' := [(0, _), (1, _), (2, _)]) r_X11_law_133 rfl ?_
              exact EV.ri r_X11_law_134 (⟨rfl, h.law (fun j hj p2 p8 p32 => by have q := scf_t hj; rw [eE, cpy_row (by decide), eD, cpy_row (by decide), eC, wr_ne (Or.inr p32), eB, wr_ne (Or.inr p8)]; exact fj j q.1 p2 q.2.1 q.2.2.1 q.2.2.2.1 q.2.2.2.2.1 q.2.2.2.2.2.1 p8 q.2.2.2.2.2.2.2.1) (by rw [eE, cpy_row (by decide), eD, cpy_row (by decide), eC, wr_ne (Or.inr (by decide)), eB, wr_ne (Or.inr (by decide))]; exact mgx.ln) (by rw [eE, cpy_row (by decide), eD, cpy_row (by decide), eC, wr_ne (Or.inr (by decide)), eB]; exact wr_same) (Or.inl ⟨by rw [eE, cpy_row (by decide), eD, cpy_row (by decide), eC, wr_same], fun j hj => by rw [eE, cpy_row (by decide), eD, cpy_in hj, eC, wr_row (by decide), eB, wr_row (by decide)]; exact ldx.1.w j hj, fun j hj => by rw [eE, cpy_in hj, eD, cpy_row (by decide), eC, wr_row (by decide), eB, wr_row (by decide)]; exact ldx.1.o j hj⟩) (fun o p1 p2 p3 p4 => by rw [eE, cpy_row p3, eD, cpy_row p2, eC, wr_row p1, eB, wr_row p1]; exact fo o p1 (sco_l p4).1 (sco_l p4).2), fun o ho => by rw [eE, cpy_row (by omega), eD, cpy_row (by omega), eC, wr_row (by omega), eB, wr_row (by omega)]; exact fo o (by omega) (by omega) (by omega), by rw [eE, cpy_row (by decide), eD, cpy_row (by decide), eC, wr_ne (Or.inr (by decide)), eB, wr_ne (Or.inr (by decide))]; exact f0⟩)
            · omega
          · -- 58 f
            obtain ⟨s, er⟩ := okr_t h58
            have mg4 : MG S.tp n s I4 := by have z := ls4.2.1; rw [er] at z; exact z
            refine EV.l (lv' := [(0, _), (1, _)]) r_X11_law_61 rfl ?_
            refine EV.ci r_X11_law_62 (aV0 mt_183 la_106) (m_more ls4.1 sb.tp (by omega) mg4 (by omega)) (fun v I5 h5 => ?_)
            obtain ⟨e, mg5, a5, mp5⟩ := h5
            subst e
            have ls5 := ls4.mo (r2 := .inl s) mg5 mp5.mo (fun s2 e => ⟨s, er, by cases e; exact Nat.le_refl _⟩)
            have lg5 := lg4.tr mp5.mo.lg
            have sn5 := mg5.sn
            refine EV.p0_eq r_X11_law_65 (fun h65 => ?_) (fun h65 => ?_)
            · -- 65 t
              have el : (lawT S.tp n (scp isB S.tp n 0)) = (((sums S.tp n 6 (lz_, .inl (scp isB S.tp n 0)))).1, .inl s) := by rw [lawT_end (by rw [er]; exact decide_eq_false h65)]; rw [← er]
              have lsx : LSm S.tp n 0 (lawT S.tp n (scp isB S.tp n 0)) I5 := by rw [el]; exact ls5
              have lgx := lg5
              have mdx := lsx.2.1
              rw [hz] at mdx
              have fo : ∀ o, o ≠ 106 → o ≠ 117 → o ≠ 118 → I5 o = I o := fun o p1 p2 p3 => (lgx.2 o p1 p2 p3).trans (((congrFun e3 o).trans (wr_row p1)).trans ((o2 o p1).trans (by rw [e1]; exact wr_row p1)))
              have fj : ∀ j, j ≠ 0 → j ≠ 2 → j ≠ 3 → j ≠ 4 → j ≠ 5 → j ≠ 6 → j ≠ 7 → j ≠ 8 → j ≠ 31 → I5 106 j = I 106 j := fun j p0 p2 p3 p4 p5 p6 p7 p8 p9 => (lgx.1 j p4 p5 p6 p7 p9).trans (((congrFun (congrFun e3 106) j).trans (wr_ne (Or.inr p9))).trans ((j2 j p2 p3 p4 p5 p7 p8).trans (by rw [e1]; exact wr_ne (Or.inr p0))))
              have f0 : I5 106 0 = nI 0 := (lgx.1 0 (by decide) (by decide) (by decide) (by decide) (by decide)).trans (((congrFun (congrFun e3 106) 0).trans (wr_ne (Or.inr (by decide)))).trans ((j2 0 (by decide) (by decide) (by decide) (by decide) (by decide) (by decide)).trans (by rw [e1]; exact wr_same)))
              have mgx : MG S.tp n s2 I5 := mdx
              have ldx := lsx.2.2.2 s2 hz
              have lb := lawT_ok (g := S.tp) hn (scp_le (Nat.zero_le _)) hz
              have ln := lb.n
              refine EV.l (lv' := [(0, _), (1, _)]) r_X11_law_77 rfl ?_
              refine EV.o r_X11_law_78 (icN (1) (v := 1)) ?_
              refine EV.ci r_X11_law_79 (aV1 mt_185 la_106) (m_resG mgx (by omega)) (fun v IB hB => ?_)
              obtain ⟨e, eB⟩ := hB
              subst e
              refine EV.l (lv' := [(0, _), (1, _), (2, _)]) r_X11_law_82 rfl ?_
              refine EV.l (lv' := [(0, _), (1, _), (2, _)]) r_X11_law_83 rfl ?_
              refine EV.getV r_X11_law_84 la_106 ((show IB 106 5 = zI (-1) from by rw [eB, wr_ne (Or.inr (by decide))]; exact mgx.fo)) ?_
              refine EV.o r_X11_law_87 (icZ (-1)) ?_
              refine EV.z2_eq r_X11_law_88 (fun h88 => ?_) (fun h88 => ?_)
              · -- 88 t
                refine EV.l (lv' := [(0, _), (1, _), (2, _)]) r_X11_law_93 rfl ?_
                refine EV.l (lv' := [(0, _), (1, _), (2, _)]) r_X11_law_94 rfl ?_
                refine EV.getV r_X11_law_95 la_106 ((show IB 106 31 = nI (lawT S.tp n (scp isB S.tp n 0)).1.n from by rw [eB, wr_ne (Or.inr (by decide))]; exact ldx.1.n)) ?_
                refine EV.pIn r_X11_law_98 la_106 (fun IC eC => ?_)
                refine EV.l (lv' := [(0, _), (1, _), (2, _)]) r_X11_law_101 rfl ?_
                refine EV.l (lv' := [(0, _), (1, _), (2, _)]) r_X11_law_102 rfl ?_
                refine EV.gR r_X11_law_103 la_106 ?_
                refine EV.l (lv' := [(0, _), (1, _), (2, _)]) r_X11_law_106 rfl ?_
                refine EV.gR r_X11_law_107 la_106 ?_
                refine EV.l (lv' := [(0, _), (1, _), (2, _)]) r_X11_law_110 rfl ?_
                refine EV.getV r_X11_law_111 la_106 ((show IC 106 31 = nI (lawT S.tp n (scp isB S.tp n 0)).1.n from by rw [eC, wr_ne (Or.inr (by decide)), eB, wr_ne (Or.inr (by decide))]; exact ldx.1.n)) ?_
                refine EV.cu r_X11_law_114 (aV3 mt_187 la_106) (m_copies la_117 la_119 (by decide) (by decide) (by omega) (by omega) (by decide) (by decide) (by decide) (by omega)) (fun ID eD => ?_)
                refine EV.l (lv' := [(0, _), (1, _), (2, _)]) r_X11_law_117 rfl ?_
                refine EV.l (lv' := [(0, _), (1, _), (2, _)]) r_X11_law_118 rfl ?_
                refine EV.gR r_X11_law_119 la_106 ?_
                refine EV.l (lv' := [(0, _), (1, _), (2, _)]) r_X11_law_122 rfl ?_
                refine EV.gR r_X11_law_123 la_106 ?_
                refine EV.l (lv' := [(0, _), (1, _), (2, _)]) r_X11_law_126 rfl ?_
                refine EV.getV r_X11_law_127 la_106 ((show ID 106 31 = nI (lawT S.tp n (scp isB S.tp n 0)).1.n from by rw [eD, cpy_row (by decide), eC, wr_ne (Or.inr (by decide)), eB, wr_ne (Or.inr (by decide))]; exact ldx.1.n)) ?_
                refine EV.cu r_X11_law_130 (aV3 mt_187 la_106) (m_copies la_118 la_120 (by decide) (by decide) (by omega) (by omega) (by decide) (by decide) (by decide) (by omega)) (fun IE eE => ?_)
                refine EV.l (lv' := [(0, _), (1, _), (2, _)]) r_X11_law_133 rfl ?_
                exact EV.ri r_X11_law_134 (⟨rfl, h.law (fun j hj p2 p8 p32 => by have q := scf_t hj; rw [eE, cpy_row (by decide), eD, cpy_row (by decide), eC, wr_ne (Or.inr p32), eB, wr_ne (Or.inr p8)]; exact fj j q.1 p2 q.2.1 q.2.2.1 q.2.2.2.1 q.2.2.2.2.1 q.2.2.2.2.2.1 p8 q.2.2.2.2.2.2.2.1) (by rw [eE, cpy_row (by decide), eD, cpy_row (by decide), eC, wr_ne (Or.inr (by decide)), eB, wr_ne (Or.inr (by decide))]; exact mgx.ln) (by rw [eE, cpy_row (by decide), eD, cpy_row (by decide), eC, wr_ne (Or.inr (by decide)), eB]; exact wr_same) (Or.inl ⟨by rw [eE, cpy_row (by decide), eD, cpy_row (by decide), eC, wr_same], fun j hj => by rw [eE, cpy_row (by decide), eD, cpy_in hj, eC, wr_row (by decide), eB, wr_row (by decide)]; exact ldx.1.w j hj, fun j hj => by rw [eE, cpy_in hj, eD, cpy_row (by decide), eC, wr_row (by decide), eB, wr_row (by decide)]; exact ldx.1.o j hj⟩) (fun o p1 p2 p3 p4 => by rw [eE, cpy_row p3, eD, cpy_row p2, eC, wr_row p1, eB, wr_row p1]; exact fo o p1 (sco_l p4).1 (sco_l p4).2), fun o ho => by rw [eE, cpy_row (by omega), eD, cpy_row (by omega), eC, wr_row (by omega), eB, wr_row (by omega)]; exact fo o (by omega) (by omega) (by omega), by rw [eE, cpy_row (by decide), eD, cpy_row (by decide), eC, wr_ne (Or.inr (by decide)), eB, wr_ne (Or.inr (by decide))]; exact f0⟩)
              · omega
            · -- 65 f
              refine EV.l (lv' := [(0, _), (1, _)]) r_X11_law_68 rfl ?_
              refine EV.o r_X11_law_69 (icN (1) (v := 1)) ?_
              refine EV.l (lv' := [(0, _), (1, _)]) r_X11_law_70 rfl ?_
              refine EV.getV r_X11_law_71 la_106 (a5) ?_
              refine EV.cu r_X11_law_74 (aV2 mt_174 la_106) (m_wrongG mg5 (by decide) (by decide) sn5 (by omega)) (fun I6 h6 => ?_)
              obtain ⟨mb6, mo6⟩ := h6
              have ls6 := ls5.mo (r2 := .inr (1, s)) mb6 mo6 (fun s2 e => inr_ne e)
              have lg6 := lg5.tr mo6.lg
              have el : (lawT S.tp n (scp isB S.tp n 0)) = (((sums S.tp n 6 (lz_, .inl (scp isB S.tp n 0)))).1, .inr (1, s)) := by rw [lawT_mor (by rw [er]; exact decide_eq_true h65)]; rw [er]; rfl
              have lsx : LSm S.tp n 0 (lawT S.tp n (scp isB S.tp n 0)) I6 := by rw [el]; exact ls6
              have lgx := lg6
              have mdx := lsx.2.1
              rw [hz] at mdx
              have fo : ∀ o, o ≠ 106 → o ≠ 117 → o ≠ 118 → I6 o = I o := fun o p1 p2 p3 => (lgx.2 o p1 p2 p3).trans (((congrFun e3 o).trans (wr_row p1)).trans ((o2 o p1).trans (by rw [e1]; exact wr_row p1)))
              have fj : ∀ j, j ≠ 0 → j ≠ 2 → j ≠ 3 → j ≠ 4 → j ≠ 5 → j ≠ 6 → j ≠ 7 → j ≠ 8 → j ≠ 31 → I6 106 j = I 106 j := fun j p0 p2 p3 p4 p5 p6 p7 p8 p9 => (lgx.1 j p4 p5 p6 p7 p9).trans (((congrFun (congrFun e3 106) j).trans (wr_ne (Or.inr p9))).trans ((j2 j p2 p3 p4 p5 p7 p8).trans (by rw [e1]; exact wr_ne (Or.inr p0))))
              have f0 : I6 106 0 = nI 0 := (lgx.1 0 (by decide) (by decide) (by decide) (by decide) (by decide)).trans (((congrFun (congrFun e3 106) 0).trans (wr_ne (Or.inr (by decide)))).trans ((j2 0 (by decide) (by decide) (by decide) (by decide) (by decide) (by decide)).trans (by rw [e1]; exact wr_same)))
              have mgx : MG S.tp n s2 I6 := mdx
              have ldx := lsx.2.2.2 s2 hz
              have lb := lawT_ok (g := S.tp) hn (scp_le (Nat.zero_le _)) hz
              have ln := lb.n
              refine EV.l (lv' := [(0, _), (1, _)]) r_X11_law_77 rfl ?_
              refine EV.o r_X11_law_78 (icN (1) (v := 1)) ?_
              refine EV.ci r_X11_law_79 (aV1 mt_185 la_106) (m_resG mgx (by omega)) (fun v IB hB => ?_)
              obtain ⟨e, eB⟩ := hB
              subst e
              refine EV.l (lv' := [(0, _), (1, _), (2, _)]) r_X11_law_82 rfl ?_
              refine EV.l (lv' := [(0, _), (1, _), (2, _)]) r_X11_law_83 rfl ?_
              refine EV.getV r_X11_law_84 la_106 ((show IB 106 5 = zI (-1) from by rw [eB, wr_ne (Or.inr (by decide))]; exact mgx.fo)) ?_
              refine EV.o r_X11_law_87 (icZ (-1)) ?_
              refine EV.z2_eq r_X11_law_88 (fun h88 => ?_) (fun h88 => ?_)
              · -- 88 t
                refine EV.l (lv' := [(0, _), (1, _), (2, _)]) r_X11_law_93 rfl ?_
                refine EV.l (lv' := [(0, _), (1, _), (2, _)]) r_X11_law_94 rfl ?_
                refine EV.getV r_X11_law_95 la_106 ((show IB 106 31 = nI (lawT S.tp n (scp isB S.tp n 0)).1.n from by rw [eB, wr_ne (Or.inr (by decide))]; exact ldx.1.n)) ?_
                refine EV.pIn r_X11_law_98 la_106 (fun IC eC => ?_)
                refine EV.l (lv' := [(0, _), (1, _), (2, _)]) r_X11_law_101 rfl ?_
                refine EV.l (lv' := [(0, _), (1, _), (2, _)]) r_X11_law_102 rfl ?_
                refine EV.gR r_X11_law_103 la_106 ?_
                refine EV.l (lv' := [(0, _), (1, _), (2, _)]) r_X11_law_106 rfl ?_
                refine EV.gR r_X11_law_107 la_106 ?_
                refine EV.l (lv' := [(0, _), (1, _), (2, _)]) r_X11_law_110 rfl ?_
                refine EV.getV r_X11_law_111 la_106 ((show IC 106 31 = nI (lawT S.tp n (scp isB S.tp n 0)).1.n from by rw [eC, wr_ne (Or.inr (by decide)), eB, wr_ne (Or.inr (by decide))]; exact ldx.1.n)) ?_
                refine EV.cu r_X11_law_114 (aV3 mt_187 la_106) (m_copies la_117 la_119 (by decide) (by decide) (by omega) (by omega) (by decide) (by decide) (by decide) (by omega)) (fun ID eD => ?_)
                refine EV.l (lv' := [(0, _), (1, _), (2, _)]) r_X11_law_117 rfl ?_
                refine EV.l (lv' := [(0, _), (1, _), (2, _)]) r_X11_law_118 rfl ?_
                refine EV.gR r_X11_law_119 la_106 ?_
                refine EV.l (lv' := [(0, _), (1, _), (2, _)]) r_X11_law_122 rfl ?_
                refine EV.gR r_X11_law_123 la_106 ?_
                refine EV.l (lv' := [(0, _), (1, _), (2, _)]) r_X11_law_126 rfl ?_
                refine EV.getV r_X11_law_127 la_106 ((show ID 106 31 = nI (lawT S.tp n (scp isB S.tp n 0)).1.n from by rw [eD, cpy_row (by decide), eC, wr_ne (Or.inr (by decide)), eB, wr_ne (Or.inr (by decide))]; exact ldx.1.n)) ?_
                refine EV.cu r_X11_law_130 (aV3 mt_187 la_106) (m_copies la_118 la_120 (by decide) (by decide) (by omega) (by omega) (by decide) (by decide) (by decide) (by omega)) (fun IE eE => ?_)
                refine EV.l (lv' := [(0, _), (1, _), (2, _)]) r_X11_law_133 rfl ?_
                exact EV.ri r_X11_law_134 (⟨rfl, h.law (fun j hj p2 p8 p32 => by have q := scf_t hj; rw [eE, cpy_row (by decide), eD, cpy_row (by decide), eC, wr_ne (Or.inr p32), eB, wr_ne (Or.inr p8)]; exact fj j q.1 p2 q.2.1 q.2.2.1 q.2.2.2.1 q.2.2.2.2.1 q.2.2.2.2.2.1 p8 q.2.2.2.2.2.2.2.1) (by rw [eE, cpy_row (by decide), eD, cpy_row (by decide), eC, wr_ne (Or.inr (by decide)), eB, wr_ne (Or.inr (by decide))]; exact mgx.ln) (by rw [eE, cpy_row (by decide), eD, cpy_row (by decide), eC, wr_ne (Or.inr (by decide)), eB]; exact wr_same) (Or.inl ⟨by rw [eE, cpy_row (by decide), eD, cpy_row (by decide), eC, wr_same], fun j hj => by rw [eE, cpy_row (by decide), eD, cpy_in hj, eC, wr_row (by decide), eB, wr_row (by decide)]; exact ldx.1.w j hj, fun j hj => by rw [eE, cpy_in hj, eD, cpy_row (by decide), eC, wr_row (by decide), eB, wr_row (by decide)]; exact ldx.1.o j hj⟩) (fun o p1 p2 p3 p4 => by rw [eE, cpy_row p3, eD, cpy_row p2, eC, wr_row p1, eB, wr_row p1]; exact fo o p1 (sco_l p4).1 (sco_l p4).2), fun o ho => by rw [eE, cpy_row (by omega), eD, cpy_row (by omega), eC, wr_row (by omega), eB, wr_row (by omega)]; exact fo o (by omega) (by omega) (by omega), by rw [eE, cpy_row (by decide), eD, cpy_row (by decide), eC, wr_ne (Or.inr (by decide)), eB, wr_ne (Or.inr (by decide))]; exact f0⟩)
              · omega
        · omega
theorem m_lawB {d : Nat} {I : Nat → Nat → Int32} {J : Nat → Nat → Int64} {S : STT} {n : Nat} (sb : SB S) (h : MIn S I) (ht : n ≤ S.tl) (hn : n ≤ 150) {k f : Nat} (hz : (lawT S.tp n (scp isB S.tp n 0)).2 = .inr (k, f))  (hd : 37 ≤ d) : RI d 202 [.ref 106, .int (nI n)] I J (fun v I' => v = zI ((k : Int) - 10) ∧ MIn (S.txt (nI f)) I' ∧ HIf I I' ∧ I' 106 0 = nI 0) := by
  refine RI.in (d0 := 36) hd mt_202 (Nat.le_of_ble_eq_true rfl) (fun d' hd' => ?_)
  have tl6 := sb.tl
  show EV none M_X11_law d' 0 [(0, .ref 106), (1, .int (nI n))] [] (hp I J) _
  refine EV.l (lv' := [(0, _), (1, _)]) r_X11_law_0 rfl ?_
  refine EV.o r_X11_law_1 (icN (0) (v := 0)) ?_
  refine EV.pIn r_X11_law_2 la_106 (fun I1 e1 => ?_)
  refine EV.l (lv' := [(0, _), (1, _)]) r_X11_law_5 rfl ?_
  refine EV.l (lv' := [(0, _), (1, _)]) r_X11_law_6 rfl ?_
  refine EV.n0_lt r_X11_law_7 (fun h7 => ?_) (fun h7 => ?_)
  · -- 7 t
    refine EV.o r_X11_law_29 (icN (0) (v := 0)) ?_
    refine EV.o r_X11_law_30 (icN (1) (v := 1)) ?_
    refine EV.o r_X11_law_31 (icN (1) (v := 1)) ?_
    have z0 : I1 106 0 = nI 0 := by rw [e1]; exact wr_same
    omega
  · -- 7 f
    refine EV.l (lv' := [(0, _), (1, _)]) r_X11_law_10 rfl ?_
    refine EV.l (lv' := [(0, _), (1, _)]) r_X11_law_11 rfl ?_
    refine EV.getV r_X11_law_12 la_106 ((show I1 106 2 = nI S.tl from by rw [e1, wr_ne (Or.inr (by decide))]; exact h.tl)) ?_
    refine EV.n2_gt r_X11_law_15 (fun h15 => ?_) (fun h15 => ?_)
    · -- 15 t
      refine EV.o r_X11_law_29 (icN (0) (v := 0)) ?_
      refine EV.o r_X11_law_30 (icN (1) (v := 1)) ?_
      refine EV.o r_X11_law_31 (icN (1) (v := 1)) ?_
      have z0 : I1 106 0 = nI 0 := by rw [e1]; exact wr_same
      omega
    · -- 15 f
      refine EV.l (lv' := [(0, _), (1, _)]) r_X11_law_18 rfl ?_
      refine EV.o r_X11_law_19 (spN (150) 150) ?_
      refine EV.n2_gt r_X11_law_22 (fun h22 => ?_) (fun h22 => ?_)
      · -- 22 t
        refine EV.o r_X11_law_29 (icN (0) (v := 0)) ?_
        refine EV.o r_X11_law_30 (icN (1) (v := 1)) ?_
        refine EV.o r_X11_law_31 (icN (1) (v := 1)) ?_
        have z0 : I1 106 0 = nI 0 := by rw [e1]; exact wr_same
        omega
      · -- 22 f
        refine EV.o r_X11_law_25 (icN (1) (v := 1)) ?_
        refine EV.g r_X11_law_26 ?_
        refine EV.o r_X11_law_30 (icN (1) (v := 1)) ?_
        refine EV.o r_X11_law_31 (icN (1) (v := 1)) ?_
        have z0 : I1 106 0 = nI 0 := by rw [e1]; exact wr_same
        refine EV.cv r_X11_law_32 (aV3 mt_169 la_106) (m_mayN z0 (by omega)) ?_
        refine EV.n0_ne r_X11_law_35 (fun h35 => ?_) (fun h35 => ?_)
        · -- 35 t
          refine EV.l (lv' := [(0, _), (1, _)]) r_X11_law_40 rfl ?_
          refine EV.l (lv' := [(0, _), (1, _)]) r_X11_law_41 rfl ?_
          refine EV.cu r_X11_law_42 (aV1 mt_184 la_106) (m_begins (g := S.tp) (by omega)) (fun I2 h2 => ?_)
          obtain ⟨mg2, op2, f82, o2, j2⟩ := h2
          refine EV.l (lv' := [(0, _), (1, _)]) r_X11_law_45 rfl ?_
          refine EV.o r_X11_law_46 (icN (0) (v := 0)) ?_
          refine EV.pIn r_X11_law_47 la_106 (fun I3 e3 => ?_)
          have ls3 : LSm S.tp n 0 (lz_, .inl (scp isB S.tp n 0)) I3 := ⟨tp_c h.tp (((congrFun e3 108).trans (wr_row (by decide))).trans ((o2 108 (by decide)).trans (by rw [e1]; exact wr_row (by decide)))), by rw [e3]; exact MD.w (r := .inl (scp isB S.tp n 0)) mg2 (by decide), by rw [e3, wr_ne (Or.inr (by decide))]; exact op2, fun s2 e => ⟨⟨by rw [e3]; exact wr_same, fun j hj => absurd hj (Nat.not_lt_zero j), fun j hj => absurd hj (Nat.not_lt_zero j)⟩, Nat.zero_le _⟩⟩
          refine EV.l (lv' := [(0, _), (1, _)]) r_X11_law_50 rfl ?_
          refine EV.cu r_X11_law_51 (aV0 mt_197 la_106) (m_sums sb.tp hn 6 0 rfl d' I3 J (lz_, .inl (scp isB S.tp n 0)) (by omega) ls3) (fun I4 h4 => ?_)
          obtain ⟨ls4, lg4⟩ := h4
          refine EV.l (lv' := [(0, _), (1, _)]) r_X11_law_54 rfl ?_
          refine EV.cv r_X11_law_55 (aV0 mt_173 la_106) (m_fine ls4.2.1 (by omega) (by omega)) ?_
          refine EV.b0_eq r_X11_law_58 (fun h58 => ?_) (fun h58 => ?_)
          · -- 58 t
            obtain ⟨k9, f9, er⟩ := okr_f h58
            have el : (lawT S.tp n (scp isB S.tp n 0)) = (sums S.tp n 6 (lz_, .inl (scp isB S.tp n 0))) := lawT_end (by rw [er]; rfl)
            have lsx : LSm S.tp n 0 (lawT S.tp n (scp isB S.tp n 0)) I4 := by rw [el]; exact ls4
            have lgx := lg4
            have mdx := lsx.2.1
            rw [hz] at mdx
            have fo : ∀ o, o ≠ 106 → o ≠ 117 → o ≠ 118 → I4 o = I o := fun o p1 p2 p3 => (lgx.2 o p1 p2 p3).trans (((congrFun e3 o).trans (wr_row p1)).trans ((o2 o p1).trans (by rw [e1]; exact wr_row p1)))
            have fj : ∀ j, j ≠ 0 → j ≠ 2 → j ≠ 3 → j ≠ 4 → j ≠ 5 → j ≠ 6 → j ≠ 7 → j ≠ 8 → j ≠ 31 → I4 106 j = I 106 j := fun j p0 p2 p3 p4 p5 p6 p7 p8 p9 => (lgx.1 j p4 p5 p6 p7 p9).trans (((congrFun (congrFun e3 106) j).trans (wr_ne (Or.inr p9))).trans ((j2 j p2 p3 p4 p5 p7 p8).trans (by rw [e1]; exact wr_ne (Or.inr p0))))
            have f0 : I4 106 0 = nI 0 := (lgx.1 0 (by decide) (by decide) (by decide) (by decide) (by decide)).trans (((congrFun (congrFun e3 106) 0).trans (wr_ne (Or.inr (by decide)))).trans ((j2 0 (by decide) (by decide) (by decide) (by decide) (by decide) (by decide)).trans (by rw [e1]; exact wr_same)))
            have mbx : MB n k f I4 := mdx
            have fn := mbx.fn
            refine EV.l (lv' := [(0, _), (1, _)]) r_X11_law_77 rfl ?_
            refine EV.o r_X11_law_78 (icN (1) (v := 1)) ?_
            refine EV.ci r_X11_law_79 (aV1 mt_185 la_106) (m_resB mbx (by omega) (by omega)) (fun v IB hB => ?_)
            obtain ⟨e, eB⟩ := hB
            subst e
            refine EV.l (lv' := [(0, _), (1, _), (2, _)]) r_X11_law_82 rfl ?_
            refine EV.l (lv' := [(0, _), (1, _), (2, _)]) r_X11_law_83 rfl ?_
            refine EV.getV r_X11_law_84 la_106 ((show IB 106 5 = nI f from by rw [eB, wr_ne (Or.inr (by decide))]; exact mbx.fo)) ?_
            refine EV.o r_X11_law_87 (icZ (-1)) ?_
            refine EV.nz2_eq r_X11_law_88 (fun h88 => ?_) (fun h88 => ?_)
            · omega
            · -- 88 f
              refine EV.l (lv' := [(0, _), (1, _), (2, _)]) r_X11_law_91 rfl ?_
              exact EV.ri r_X11_law_92 (⟨rfl, h.txt (fun j hj p2 p8 => by have q := scf_t hj; rw [eB, wr_ne (Or.inr p8)]; exact fj j q.1 p2 q.2.1 q.2.2.1 q.2.2.2.1 q.2.2.2.2.1 q.2.2.2.2.2.1 p8 q.2.2.2.2.2.2.2.1) (by rw [eB, wr_ne (Or.inr (by decide))]; exact mbx.ln) (by rw [eB]; exact wr_same) (fun o p1 p2 => by rw [eB, wr_row p1]; exact fo o p1 (sco_l p2).1 (sco_l p2).2), fun o ho => by rw [eB, wr_row (by omega)]; exact fo o (by omega) (by omega) (by omega), by rw [eB, wr_ne (Or.inr (by decide))]; exact f0⟩)
          · -- 58 f
            obtain ⟨s, er⟩ := okr_t h58
            have mg4 : MG S.tp n s I4 := by have z := ls4.2.1; rw [er] at z; exact z
            refine EV.l (lv' := [(0, _), (1, _)]) r_X11_law_61 rfl ?_
            refine EV.ci r_X11_law_62 (aV0 mt_183 la_106) (m_more ls4.1 sb.tp (by omega) mg4 (by omega)) (fun v I5 h5 => ?_)
            obtain ⟨e, mg5, a5, mp5⟩ := h5
            subst e
            have ls5 := ls4.mo (r2 := .inl s) mg5 mp5.mo (fun s2 e => ⟨s, er, by cases e; exact Nat.le_refl _⟩)
            have lg5 := lg4.tr mp5.mo.lg
            have sn5 := mg5.sn
            refine EV.p0_eq r_X11_law_65 (fun h65 => ?_) (fun h65 => ?_)
            · -- 65 t
              have el : (lawT S.tp n (scp isB S.tp n 0)) = (((sums S.tp n 6 (lz_, .inl (scp isB S.tp n 0)))).1, .inl s) := by rw [lawT_end (by rw [er]; exact decide_eq_false h65)]; rw [← er]
              have lsx : LSm S.tp n 0 (lawT S.tp n (scp isB S.tp n 0)) I5 := by rw [el]; exact ls5
              have lgx := lg5
              have mdx := lsx.2.1
              rw [hz] at mdx
              have fo : ∀ o, o ≠ 106 → o ≠ 117 → o ≠ 118 → I5 o = I o := fun o p1 p2 p3 => (lgx.2 o p1 p2 p3).trans (((congrFun e3 o).trans (wr_row p1)).trans ((o2 o p1).trans (by rw [e1]; exact wr_row p1)))
              have fj : ∀ j, j ≠ 0 → j ≠ 2 → j ≠ 3 → j ≠ 4 → j ≠ 5 → j ≠ 6 → j ≠ 7 → j ≠ 8 → j ≠ 31 → I5 106 j = I 106 j := fun j p0 p2 p3 p4 p5 p6 p7 p8 p9 => (lgx.1 j p4 p5 p6 p7 p9).trans (((congrFun (congrFun e3 106) j).trans (wr_ne (Or.inr p9))).trans ((j2 j p2 p3 p4 p5 p7 p8).trans (by rw [e1]; exact wr_ne (Or.inr p0))))
              have f0 : I5 106 0 = nI 0 := (lgx.1 0 (by decide) (by decide) (by decide) (by decide) (by decide)).trans (((congrFun (congrFun e3 106) 0).trans (wr_ne (Or.inr (by decide)))).trans ((j2 0 (by decide) (by decide) (by decide) (by decide) (by decide) (by decide)).trans (by rw [e1]; exact wr_same)))
              have mbx : MB n k f I5 := mdx
              have fn := mbx.fn
              refine EV.l (lv' := [(0, _), (1, _)]) r_X11_law_77 rfl ?_
              refine EV.o r_X11_law_78 (icN (1) (v := 1)) ?_
              refine EV.ci r_X11_law_79 (aV1 mt_185 la_106) (m_resB mbx (by omega) (by omega)) (fun v IB hB => ?_)
              obtain ⟨e, eB⟩ := hB
              subst e
              refine EV.l (lv' := [(0, _), (1, _), (2, _)]) r_X11_law_82 rfl ?_
              refine EV.l (lv' := [(0, _), (1, _), (2, _)]) r_X11_law_83 rfl ?_
              refine EV.getV r_X11_law_84 la_106 ((show IB 106 5 = nI f from by rw [eB, wr_ne (Or.inr (by decide))]; exact mbx.fo)) ?_
              refine EV.o r_X11_law_87 (icZ (-1)) ?_
              refine EV.nz2_eq r_X11_law_88 (fun h88 => ?_) (fun h88 => ?_)
              · omega
              · -- 88 f
                refine EV.l (lv' := [(0, _), (1, _), (2, _)]) r_X11_law_91 rfl ?_
                exact EV.ri r_X11_law_92 (⟨rfl, h.txt (fun j hj p2 p8 => by have q := scf_t hj; rw [eB, wr_ne (Or.inr p8)]; exact fj j q.1 p2 q.2.1 q.2.2.1 q.2.2.2.1 q.2.2.2.2.1 q.2.2.2.2.2.1 p8 q.2.2.2.2.2.2.2.1) (by rw [eB, wr_ne (Or.inr (by decide))]; exact mbx.ln) (by rw [eB]; exact wr_same) (fun o p1 p2 => by rw [eB, wr_row p1]; exact fo o p1 (sco_l p2).1 (sco_l p2).2), fun o ho => by rw [eB, wr_row (by omega)]; exact fo o (by omega) (by omega) (by omega), by rw [eB, wr_ne (Or.inr (by decide))]; exact f0⟩)
            · -- 65 f
              refine EV.l (lv' := [(0, _), (1, _)]) r_X11_law_68 rfl ?_
              refine EV.o r_X11_law_69 (icN (1) (v := 1)) ?_
              refine EV.l (lv' := [(0, _), (1, _)]) r_X11_law_70 rfl ?_
              refine EV.getV r_X11_law_71 la_106 (a5) ?_
              refine EV.cu r_X11_law_74 (aV2 mt_174 la_106) (m_wrongG mg5 (by decide) (by decide) sn5 (by omega)) (fun I6 h6 => ?_)
              obtain ⟨mb6, mo6⟩ := h6
              have ls6 := ls5.mo (r2 := .inr (1, s)) mb6 mo6 (fun s2 e => inr_ne e)
              have lg6 := lg5.tr mo6.lg
              have el : (lawT S.tp n (scp isB S.tp n 0)) = (((sums S.tp n 6 (lz_, .inl (scp isB S.tp n 0)))).1, .inr (1, s)) := by rw [lawT_mor (by rw [er]; exact decide_eq_true h65)]; rw [er]; rfl
              have lsx : LSm S.tp n 0 (lawT S.tp n (scp isB S.tp n 0)) I6 := by rw [el]; exact ls6
              have lgx := lg6
              have mdx := lsx.2.1
              rw [hz] at mdx
              have fo : ∀ o, o ≠ 106 → o ≠ 117 → o ≠ 118 → I6 o = I o := fun o p1 p2 p3 => (lgx.2 o p1 p2 p3).trans (((congrFun e3 o).trans (wr_row p1)).trans ((o2 o p1).trans (by rw [e1]; exact wr_row p1)))
              have fj : ∀ j, j ≠ 0 → j ≠ 2 → j ≠ 3 → j ≠ 4 → j ≠ 5 → j ≠ 6 → j ≠ 7 → j ≠ 8 → j ≠ 31 → I6 106 j = I 106 j := fun j p0 p2 p3 p4 p5 p6 p7 p8 p9 => (lgx.1 j p4 p5 p6 p7 p9).trans (((congrFun (congrFun e3 106) j).trans (wr_ne (Or.inr p9))).trans ((j2 j p2 p3 p4 p5 p7 p8).trans (by rw [e1]; exact wr_ne (Or.inr p0))))
              have f0 : I6 106 0 = nI 0 := (lgx.1 0 (by decide) (by decide) (by decide) (by decide) (by decide)).trans (((congrFun (congrFun e3 106) 0).trans (wr_ne (Or.inr (by decide)))).trans ((j2 0 (by decide) (by decide) (by decide) (by decide) (by decide) (by decide)).trans (by rw [e1]; exact wr_same)))
              have mbx : MB n k f I6 := mdx
              have fn := mbx.fn
              refine EV.l (lv' := [(0, _), (1, _)]) r_X11_law_77 rfl ?_
              refine EV.o r_X11_law_78 (icN (1) (v := 1)) ?_
              refine EV.ci r_X11_law_79 (aV1 mt_185 la_106) (m_resB mbx (by omega) (by omega)) (fun v IB hB => ?_)
              obtain ⟨e, eB⟩ := hB
              subst e
              refine EV.l (lv' := [(0, _), (1, _), (2, _)]) r_X11_law_82 rfl ?_
              refine EV.l (lv' := [(0, _), (1, _), (2, _)]) r_X11_law_83 rfl ?_
              refine EV.getV r_X11_law_84 la_106 ((show IB 106 5 = nI f from by rw [eB, wr_ne (Or.inr (by decide))]; exact mbx.fo)) ?_
              refine EV.o r_X11_law_87 (icZ (-1)) ?_
              refine EV.nz2_eq r_X11_law_88 (fun h88 => ?_) (fun h88 => ?_)
              · omega
              · -- 88 f
                refine EV.l (lv' := [(0, _), (1, _), (2, _)]) r_X11_law_91 rfl ?_
                exact EV.ri r_X11_law_92 (⟨rfl, h.txt (fun j hj p2 p8 => by have q := scf_t hj; rw [eB, wr_ne (Or.inr p8)]; exact fj j q.1 p2 q.2.1 q.2.2.1 q.2.2.2.1 q.2.2.2.2.1 q.2.2.2.2.2.1 p8 q.2.2.2.2.2.2.2.1) (by rw [eB, wr_ne (Or.inr (by decide))]; exact mbx.ln) (by rw [eB]; exact wr_same) (fun o p1 p2 => by rw [eB, wr_row p1]; exact fo o p1 (sco_l p2).1 (sco_l p2).2), fun o ho => by rw [eB, wr_row (by omega)]; exact fo o (by omega) (by omega) (by omega), by rw [eB, wr_ne (Or.inr (by decide))]; exact f0⟩)
        · omega
theorem m_lawX {d : Nat} {I : Nat → Nat → Int32} {J : Nat → Nat → Int64} {S : STT} (sb : SB S) (h : MIn S I) {n : Int} (n1 : -2147483648 ≤ n) (n2 : n < 2147483648) (hx : ¬ (0 ≤ n ∧ n ≤ S.tl ∧ n ≤ 150))  (hd : 9 ≤ d) : RI d 202 [.ref 106, .int (zI n)] I J (fun v I' => I' = refM I 1 1) := by
  refine RI.in (d0 := 8) hd mt_202 (Nat.le_of_ble_eq_true rfl) (fun d' hd' => ?_)
  have tl6 := sb.tl
  show EV none M_X11_law d' 0 [(0, .ref 106), (1, .int (zI n))] [] (hp I J) _
  refine EV.l (lv' := [(0, _), (1, _)]) r_X11_law_0 rfl ?_
  refine EV.o r_X11_law_1 (icN (0) (v := 0)) ?_
  refine EV.pIn r_X11_law_2 la_106 (fun I1 e1 => ?_)
  refine EV.l (lv' := [(0, _), (1, _)]) r_X11_law_5 rfl ?_
  refine EV.l (lv' := [(0, _), (1, _)]) r_X11_law_6 rfl ?_
  refine EV.z0_lt r_X11_law_7 (fun h7 => ?_) (fun h7 => ?_)
  · -- 7 t
    refine EV.o r_X11_law_29 (icN (0) (v := 0)) ?_
    refine EV.o r_X11_law_30 (icN (1) (v := 1)) ?_
    refine EV.o r_X11_law_31 (icN (1) (v := 1)) ?_
    subst e1
    refine EV.ci r_X11_law_32 (aV3 mt_169 la_106) (m_may0 wr_same (by decide) (by decide) (by decide) (by omega)) (fun v I2 h2 => ?_)
    obtain ⟨e, fr_⟩ := h2
    subst e
    refine EV.n0_ne r_X11_law_35 (fun h35 => ?_) (fun h35 => ?_)
    · omega
    · -- 35 f
      refine EV.o r_X11_law_38 (icN (0) (v := 0)) ?_
      exact EV.ri r_X11_law_39 (fr_)
  · -- 7 f
    refine EV.l (lv' := [(0, _), (1, _)]) r_X11_law_10 rfl ?_
    refine EV.l (lv' := [(0, _), (1, _)]) r_X11_law_11 rfl ?_
    refine EV.getV r_X11_law_12 la_106 ((show I1 106 2 = nI S.tl from by rw [e1, wr_ne (Or.inr (by decide))]; exact h.tl)) ?_
    refine EV.zn2_gt r_X11_law_15 (fun h15 => ?_) (fun h15 => ?_)
    · -- 15 t
      refine EV.o r_X11_law_29 (icN (0) (v := 0)) ?_
      refine EV.o r_X11_law_30 (icN (1) (v := 1)) ?_
      refine EV.o r_X11_law_31 (icN (1) (v := 1)) ?_
      subst e1
      refine EV.ci r_X11_law_32 (aV3 mt_169 la_106) (m_may0 wr_same (by decide) (by decide) (by decide) (by omega)) (fun v I2 h2 => ?_)
      obtain ⟨e, fr_⟩ := h2
      subst e
      refine EV.n0_ne r_X11_law_35 (fun h35 => ?_) (fun h35 => ?_)
      · omega
      · -- 35 f
        refine EV.o r_X11_law_38 (icN (0) (v := 0)) ?_
        exact EV.ri r_X11_law_39 (fr_)
    · -- 15 f
      refine EV.l (lv' := [(0, _), (1, _)]) r_X11_law_18 rfl ?_
      refine EV.o r_X11_law_19 (spN (150) 150) ?_
      refine EV.zn2_gt r_X11_law_22 (fun h22 => ?_) (fun h22 => ?_)
      · -- 22 t
        refine EV.o r_X11_law_29 (icN (0) (v := 0)) ?_
        refine EV.o r_X11_law_30 (icN (1) (v := 1)) ?_
        refine EV.o r_X11_law_31 (icN (1) (v := 1)) ?_
        subst e1
        refine EV.ci r_X11_law_32 (aV3 mt_169 la_106) (m_may0 wr_same (by decide) (by decide) (by decide) (by omega)) (fun v I2 h2 => ?_)
        obtain ⟨e, fr_⟩ := h2
        subst e
        refine EV.n0_ne r_X11_law_35 (fun h35 => ?_) (fun h35 => ?_)
        · omega
        · -- 35 f
          refine EV.o r_X11_law_38 (icN (0) (v := 0)) ?_
          exact EV.ri r_X11_law_39 (fr_)
      · -- 22 f
        refine EV.o r_X11_law_25 (icN (1) (v := 1)) ?_
        refine EV.g r_X11_law_26 ?_
        refine EV.o r_X11_law_30 (icN (1) (v := 1)) ?_
        refine EV.o r_X11_law_31 (icN (1) (v := 1)) ?_
        subst e1
        omega
