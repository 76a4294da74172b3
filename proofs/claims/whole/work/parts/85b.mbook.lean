/-! (goes on) -/
theorem m_bookB {d : Nat} {I : Nat → Nat → Int32} {J : Nat → Nat → Int64} {S : STT} {n : Nat} (sb : SB S) (h : MIn S I) (ht : n ≤ S.tl) (hn : n ≤ 60) {k f : Nat} (hz : (bookT S.tp n S.κ.ns).2 = .inr (k, f))  (hd : 11 ≤ d) : RI d 233 [.ref 106, .int (nI n)] I J (fun v I' => v = zI ((k : Int) - 10) ∧ MIn (S.txt (nI f)) I' ∧ HIf I I' ∧ I' 106 0 = nI 0) := by
  refine RI.in (d0 := 10) hd mt_233 (Nat.le_of_ble_eq_true rfl) (fun d' hd' => ?_)
  have tl6 := sb.tl
  have ns9 := sb.cb.ns
  show EV none M_X11_book d' 0 [(0, .ref 106), (1, .int (nI n))] [] (hp I J) _
  refine EV.l (lv' := [(0, _), (1, _)]) r_X11_book_0 rfl ?_
  refine EV.o r_X11_book_1 (icN (0) (v := 0)) ?_
  refine EV.pIn r_X11_book_2 la_106 (fun I1 e1_ => ?_)
  refine EV.l (lv' := [(0, _), (1, _)]) r_X11_book_5 rfl ?_
  refine EV.l (lv' := [(0, _), (1, _)]) r_X11_book_6 rfl ?_
  refine EV.n0_lt r_X11_book_7 (fun h7 => ?_) (fun h7 => ?_)
  · -- 7 t
    refine EV.o r_X11_book_28 (icN (0) (v := 0)) ?_
    have z0 : I1 106 0 = nI 0 := by rw [e1_]; exact wr_same
    refine EV.o r_X11_book_29 (icN (1) (v := 1)) ?_
    refine EV.o r_X11_book_30 (icN (1) (v := 1)) ?_
    omega
  · -- 7 f
    refine EV.l (lv' := [(0, _), (1, _)]) r_X11_book_10 rfl ?_
    refine EV.l (lv' := [(0, _), (1, _)]) r_X11_book_11 rfl ?_
    refine EV.getV r_X11_book_12 la_106 ((show I1 106 2 = nI S.tl from by rw [e1_, wr_ne (Or.inr (by decide))]; exact h.tl)) ?_
    refine EV.n2_gt r_X11_book_15 (fun h15 => ?_) (fun h15 => ?_)
    · -- 15 t
      refine EV.o r_X11_book_28 (icN (0) (v := 0)) ?_
      have z0 : I1 106 0 = nI 0 := by rw [e1_]; exact wr_same
      refine EV.o r_X11_book_29 (icN (1) (v := 1)) ?_
      refine EV.o r_X11_book_30 (icN (1) (v := 1)) ?_
      omega
    · -- 15 f
      refine EV.l (lv' := [(0, _), (1, _)]) r_X11_book_18 rfl ?_
      refine EV.o r_X11_book_19 (bpN (60) 60) ?_
      refine EV.n2_gt r_X11_book_21 (fun h21 => ?_) (fun h21 => ?_)
      · -- 21 t
        refine EV.o r_X11_book_28 (icN (0) (v := 0)) ?_
        have z0 : I1 106 0 = nI 0 := by rw [e1_]; exact wr_same
        refine EV.o r_X11_book_29 (icN (1) (v := 1)) ?_
        refine EV.o r_X11_book_30 (icN (1) (v := 1)) ?_
        omega
      · -- 21 f
        refine EV.o r_X11_book_24 (icN (1) (v := 1)) ?_
        refine EV.g r_X11_book_25 ?_
        have z0 : I1 106 0 = nI 0 := by rw [e1_]; exact wr_same
        refine EV.o r_X11_book_29 (icN (1) (v := 1)) ?_
        refine EV.o r_X11_book_30 (icN (1) (v := 1)) ?_
        refine EV.cv r_X11_book_31 (aV3 mt_169 la_106) (m_mayN z0 (by omega)) ?_
        refine EV.n0_ne r_X11_book_34 (fun h34 => ?_) (fun h34 => ?_)
        · -- 34 t
          refine EV.l (lv' := [(0, _), (1, _)]) r_X11_book_39 rfl ?_
          refine EV.l (lv' := [(0, _), (1, _)]) r_X11_book_40 rfl ?_
          refine EV.cu r_X11_book_41 (aV1 mt_184 la_106) (m_begins (g := S.tp) (by omega)) (fun I2 h2 => ?_)
          obtain ⟨mg2, op2, f82, o2, j2⟩ := h2
          refine EV.o r_X11_book_44 (icN (0) (v := 0)) ?_
          refine EV.l (lv' := [(0, _), (1, _), (2, _)]) r_X11_book_45 rfl ?_
          have L46 : ∀ y_ : Nat × (Nat → Nat → Int32), (fun y => (y.1 ≤ 9 ∧ (∀ o, o ≠ 128 → y.2 o = I2 o) ∧ ∀ j, j < y.1 → y.2 128 j = zI (-1)) → EV none M_X11_book d' 46 [(0, .ref 106), (1, .int (nI n)), (2, .int (nI y.1))] [] (hp y.2 J) (QI J (fun v I' => v = zI ((k : Int) - 10) ∧ MIn (S.txt (nI f)) I' ∧ HIf I I' ∧ I' 106 0 = nI 0))) y_ := by
            refine ev_loop (fun y => 9 - y.1) ?_
            intro ⟨i, T⟩ ih46 hx46
            try dsimp only at ih46
            try dsimp only at hx46
            try dsimp only
            refine EV.l (lv' := [(0, _), (1, _), (2, _)]) r_X11_book_46 rfl ?_
            refine EV.o r_X11_book_47 (bpN (9) 9) ?_
            refine EV.n2_ge r_X11_book_49 (fun h49 => ?_) (fun h49 => ?_)
            · -- 49 t
              have fT : ∀ o, o ≠ 128 → T o = I2 o := hx46.2.1
              have mgT : MG S.tp n (scp isB S.tp n 0) T := MD.fr (r := .inl (scp isB S.tp n 0)) mg2 (fT 106 (by decide))
              have tT : ∀ j, j < 600 → T 108 j = nI (S.tp j) := tp_fm h.tp ((fT 108 (by decide)).trans ((o2 108 (by decide)).trans (by rw [e1_]; exact wr_row (by decide))))
              refine EV.o r_X11_book_65 (icN (0) (v := 0)) ?_
              refine EV.l (lv' := [(0, _), (1, _), (2, _)]) r_X11_book_66 rfl ?_
              have L67 : ∀ y_ : Nat × (Nat × Nat) × Nat × (Nat → Nat → Int32), (fun y => BMI S.tp n S.κ.ns (scp isB S.tp n 0) T y.1 y.2.1 y.2.2.1 y.2.2.2 → EV none M_X11_book d' 67 [(0, .ref 106), (1, .int (nI n)), (2, .int (nI (pc9 y.2.1.1)))] [] (hp y.2.2.2 J) (QI J (fun v I' => v = zI ((k : Int) - 10) ∧ MIn (S.txt (nI f)) I' ∧ HIf I I' ∧ I' 106 0 = nI 0))) y_ := by
                refine ev_loop (fun y => 60 - y.1) ?_
                intro ⟨i, b, s, M⟩ ih67 hx67
                try dsimp only at ih67
                try dsimp only at hx67
                try dsimp only
                have kfM := hx67.2.1
                have tM := tp_fm tT (kfM.2 108 (by decide) (by decide))
                have isM := hx67.2.2.1
                refine EV.l (lv' := [(0, _), (1, _), (2, _)]) r_X11_book_67 rfl ?_
                refine EV.cv r_X11_book_68 (aV0 mt_173 la_106) (m_fineG hx67.1 (by omega)) ?_
                refine EV.n0_eq r_X11_book_71 (fun h71 => ?_) (fun h71 => ?_)
                · omega
                · -- 71 f
                  refine EV.l (lv' := [(0, _), (1, _), (2, _)]) r_X11_book_74 rfl ?_
                  refine EV.ci r_X11_book_75 (aV0 mt_183 la_106) (m_more tM sb.tp (by omega) hx67.1 (by omega)) (fun v I5 h5 => ?_)
                  obtain ⟨e, mg5, a5, mp5⟩ := h5
                  subst e
                  have sn := mg5.sn
                  refine EV.p0_eq r_X11_book_78 (fun h78 => ?_) (fun h78 => ?_)
                  · exact inl_no hz (congrArg Prod.snd (hx67.end h78))
                  · -- 78 f
                    have hs : s < n := h78
                    refine EV.l (lv' := [(0, _), (1, _), (2, _)]) r_X11_book_81 rfl ?_
                    refine EV.ci r_X11_book_82 (aV0 mt_175 la_106) (m_here (tp_fm tM (mp5.1 108 (by decide))) sb.tp (by omega) mg5.en sn a5 (by omega)) (fun v I6 h6 => ?_)
                    obtain ⟨e, a6, mp6⟩ := h6
                    subst e
                    have es : scp isB S.tp n s = s := by obtain ⟨a9, ha9, -, e9⟩ := hx67.1.pl; rw [← e9]; exact scp_id ha9
                    rw [es] at a6
                    have mg6 : MG S.tp n s I6 := mg5.mv mp6 sn a6 es
                    have m22 : I6 106 22 = nI S.κ.ns := by rw [(mp5.mo.tr mp6.mo).2 22 (by decide) (by decide) (by decide), kfM.1 22 (by decide) (by decide) (by decide), fT 106 (by decide), j2 22 (by decide) (by decide) (by decide) (by decide) (by decide) (by decide), e1_, wr_ne (Or.inr (by decide))]; exact h.mc.ns
                    refine EV.o r_X11_book_85 rfl ?_
                    refine EV.l (lv' := [(0, _), (1, _), (2, _)]) r_X11_book_86 rfl ?_
                    refine EV.getV r_X11_book_87 la_106 (a6) ?_
                    refine EV.l (lv' := [(0, _), (1, _), (2, _), (3, _)]) r_X11_book_90 rfl ?_
                    refine EV.l (lv' := [(0, _), (1, _), (2, _), (3, _)]) r_X11_book_91 rfl ?_
                    refine EV.o r_X11_book_92 (icN (0) (v := 0)) ?_
                    refine EV.l (lv' := [(0, _), (1, _), (2, _), (3, _)]) r_X11_book_93 rfl ?_
                    refine EV.getV r_X11_book_94 la_106 (m22) ?_
                    refine EV.o r_X11_book_97 (icN (1) (v := 1)) ?_
                    refine EV.o r_X11_book_98 (isubNZ) ?_
                    refine EV.ci r_X11_book_99 (aV2 mt_181 la_106) (m_num (lo := 0) (hi := (S.κ.ns : Int) - ((1 : Nat) : Int)) (tp_fm tM ((mp5.mo.tr mp6.mo).1 108 (by decide))) sb.tp (by omega) (r := .inl s) mg6 (by omega) (by omega) (by omega) (by omega)) (fun v7 I7 h7 => ?_)
                    obtain ⟨md7, ve7, mo7⟩ := h7
                    have mo07 := (mp5.mo.tr mp6.mo).tr mo7
                    rcases rst_x (lnA S.tp n S.κ.ns s).2 with ⟨s1, e1⟩ | ⟨q1, e1⟩
                    · -- case
                      have mg7 : MG S.tp n s1 I7 := by have z : MD S.tp n (lnA S.tp n S.κ.ns s).2 I7 := md7; rw [e1] at z; exact z
                      have vb : (lnA S.tp n S.κ.ns s).1 < S.κ.ns := lt_of_m1 (tkN_b e1).2
                      have ve : v7 = nI (lnA S.tp n S.κ.ns s).1 := ve7 s1 e1
                      subst ve
                      refine EV.l (lv' := [(0, _), (1, _), (2, _), (3, _), (4, _)]) r_X11_book_102 rfl ?_
                      refine EV.l (lv' := [(0, _), (1, _), (2, _), (3, _), (4, _)]) r_X11_book_104 rfl ?_
                      refine EV.cv r_X11_book_105 (aV0 mt_173 la_106) (m_fineG mg7 (by omega)) ?_
                      refine EV.n0_eq r_X11_book_108 (fun h108 => ?_) (fun h108 => ?_)
                      · omega
                      · -- 108 f
                        cases tb_ : b.1.testBit (lnA S.tp n S.κ.ns s).1
                        · -- case
                          -- no
                          refine EV.l (lv' := [(0, _), (1, _), (2, _), (3, _), (4, _)]) r_X11_book_111 rfl ?_
                          refine EV.gR r_X11_book_112 la_106 ?_
                          refine EV.l (lv' := [(0, _), (1, _), (2, _), (3, _), (4, _)]) r_X11_book_115 rfl ?_
                          refine EV.iaN r_X11_book_117 la_128 ((congrFun (mo07.1 128 (by decide)) (lnA S.tp n S.κ.ns s).1).trans ((hx67.2.2.2.1 (lnA S.tp n S.κ.ns s).1 (by omega)).trans (if_neg (by rw [tb_]; decide)))) ?_
                          refine EV.o r_X11_book_118 (icZ (-1)) ?_
                          refine EV.z2_eq r_X11_book_119 (fun h119 => ?_) (fun h119 => ?_)
                          · -- 119 t
                            refine EV.l (lv' := [(0, _), (1, _), (2, _), (3, _), (4, _)]) r_X11_book_128 rfl ?_
                            refine EV.o r_X11_book_129 (icN (0) (v := 0)) ?_
                            refine EV.o r_X11_book_130 (icN (1) (v := 1)) ?_
                            refine EV.ci r_X11_book_131 (aV2 mt_181 la_106) (m_numN (lo := 0) (hi := 1) (tp_fm tM (mo07.1 108 (by decide))) sb.tp (by omega) (r := .inl s1) mg7 (by omega) (by omega) (by omega)) (fun v9 I9 h9 => ?_)
                            obtain ⟨md9, ve9, mo9⟩ := h9
                            have elB : (tkN S.tp n 0 ((1 : Nat) : Int) (.inl s1)) = (lnB S.tp n S.κ.ns s) := by unfold lnB; rw [e1]
                            rw [elB] at md9 ve9
                            rcases rst_x (lnB S.tp n S.κ.ns s).2 with ⟨s2, e2⟩ | ⟨q2, e2⟩
                            · -- case
                              have mg9 : MG S.tp n s2 I9 := by have z := md9; rw [e2] at z; exact z
                              have ve : v9 = nI (lnB S.tp n S.κ.ns s).1 := ve9 s2 e2
                              subst ve
                              refine EV.l (lv' := [(0, _), (1, _), (2, _), (3, _), (4, _), (5, _)]) r_X11_book_134 rfl ?_
                              refine EV.l (lv' := [(0, _), (1, _), (2, _), (3, _), (4, _), (5, _)]) r_X11_book_136 rfl ?_
                              refine EV.o r_X11_book_137 (bpN (59) 59) ?_
                              refine EV.cu r_X11_book_139 (aV1 mt_182 la_106) (m_sign (tp_fm tM ((mo07.tr mo9).1 108 (by decide))) sb.tp (by omega) (r := .inl s2) mg9 (by decide) (by decide) (by decide) (by decide) (by omega)) (fun IA hA => ?_)
                              obtain ⟨mdA, moA⟩ := hA
                              have moX := (mo07.tr mo9).tr moA
                              refine EV.l (lv' := [(0, _), (1, _), (2, _), (3, _), (4, _), (5, _)]) r_X11_book_142 rfl ?_
                              refine EV.cv r_X11_book_143 (aV0 mt_173 la_106) (m_fine mdA (by omega) (by omega)) ?_
                              refine EV.b0_ne r_X11_book_146 (fun h146 => ?_) (fun h146 => ?_)
                              · -- 146 t
                                obtain ⟨s3, e3⟩ := okr_t h146
                                have hbX : (linB S.tp n S.κ.ns b s).2 = .inl s3 := by rw [linB_r e1 tb_, e2]; exact e3
                                have mgA : MG S.tp n s3 IA := by have z := mdA; rw [e3] at z; exact z
                                refine EV.l (lv' := [(0, _), (1, _), (2, _), (3, _), (4, _), (5, _)]) r_X11_book_152 rfl ?_
                                refine EV.gR r_X11_book_153 la_106 ?_
                                refine EV.l (lv' := [(0, _), (1, _), (2, _), (3, _), (4, _), (5, _)]) r_X11_book_156 rfl ?_
                                refine EV.l (lv' := [(0, _), (1, _), (2, _), (3, _), (4, _), (5, _)]) r_X11_book_158 rfl ?_
                                refine EV.iaSn r_X11_book_160 la_128 (fun IZ eZ => ?_)
                                have hxn := hx67.next hs (by omega) ns9 hbX (MD.fr (r := .inl s3) (I' := IZ) mgA (by rw [eZ, wr_row (by decide)])) (moX.kf.tr ⟨fun j _ _ _ => by rw [eZ, wr_row (by decide)], fun o _ p => by rw [eZ, wr_row p]⟩) (by rw [eZ]; exact wr_cg (moX.1 128 (by decide)))
                                refine EV.l (lv' := [(0, _), (1, _), (2, _), (3, _), (4, _), (5, _)]) r_X11_book_161 rfl ?_
                                rw [inc_nI]
                                refine EV.g r_X11_book_164 ?_
                                refine EV.fg (lv' := [(0, _), (1, _), (2, _)]) r_X11_book_67 rfl rfl rfl ?_
                                refine EV.sub ?_ rfl ?_ (ih67 (i + 1, (linB S.tp n S.κ.ns b s).1, s3, IZ) ?_ ?_)
                                · (try dsimp only) <;> (rw [hxn.2])
                                · (try dsimp only) <;> (rfl)
                                · (try dsimp only) <;> (omega)
                                · (try dsimp only) <;> (exact hxn.1)
                              · -- 146 f
                                refine EV.g r_X11_book_149 ?_
                                have mox := ((mo07.tr mo9).tr moA)
                                obtain ⟨q9, eq9⟩ := bk_q (b := b) e1 tb_ e2 h146
                                have fz := hx67.bad hs (by omega) eq9
                                have mbx : MB n k f IA := MB.eq (q := q9) (by have z := mdA; rw [← e2, ← linB_r (b := b) e1 tb_, eq9] at z; exact z) fz hz
                                have fn := mbx.fn
                                have fo : ∀ o, o ≠ 106 → o ≠ 128 → IA o = I o := fun o p1 p2 => (mox.1 o p1).trans ((kfM.2 o p1 p2).trans ((fT o p2).trans ((o2 o p1).trans (by rw [e1_]; exact wr_row p1))))
                                have fj : ∀ j, j ≠ 0 → j ≠ 2 → j ≠ 3 → j ≠ 4 → j ≠ 5 → j ≠ 6 → j ≠ 7 → j ≠ 8 → IA 106 j = I 106 j := fun j p0 p2 p3 p4 p5 p6 p7 p8 => (mox.2 j p4 p5 p6).trans ((kfM.1 j p4 p5 p6).trans ((congrFun (fT 106 (by decide)) j).trans ((j2 j p2 p3 p4 p5 p7 p8).trans (by rw [e1_]; exact wr_ne (Or.inr p0)))))
                                have f0 : IA 106 0 = nI 0 := (mox.2 0 (by decide) (by decide) (by decide)).trans ((kfM.1 0 (by decide) (by decide) (by decide)).trans ((congrFun (fT 106 (by decide)) 0).trans ((j2 0 (by decide) (by decide) (by decide) (by decide) (by decide) (by decide)).trans (by rw [e1_]; exact wr_same))))
                                refine EV.l (lv' := [(0, _), (1, _), (2, _)]) r_X11_book_167 rfl ?_
                                refine EV.l (lv' := [(0, _), (1, _), (2, _)]) r_X11_book_168 rfl ?_
                                refine EV.ci r_X11_book_169 (aV1 mt_185 la_106) (m_resB mbx (by omega) (by omega)) (fun v IB hB => ?_)
                                obtain ⟨e, eB⟩ := hB
                                subst e
                                refine EV.l (lv' := [(0, _), (1, _), (2, _), (3, _)]) r_X11_book_172 rfl ?_
                                refine EV.l (lv' := [(0, _), (1, _), (2, _), (3, _)]) r_X11_book_173 rfl ?_
                                refine EV.getV r_X11_book_174 la_106 ((show IB 106 5 = nI f from by rw [eB, wr_ne (Or.inr (by decide))]; exact mbx.fo)) ?_
                                refine EV.o r_X11_book_177 (icZ (-1)) ?_
                                refine EV.nz2_eq r_X11_book_178 (fun h178 => ?_) (fun h178 => ?_)
                                · omega
                                · -- 178 f
                                  refine EV.l (lv' := [(0, _), (1, _), (2, _), (3, _)]) r_X11_book_181 rfl ?_
                                  exact EV.ri r_X11_book_182 (⟨rfl, h.txt (fun j hj p2 p8 => by have q := scf_t hj; rw [eB, wr_ne (Or.inr p8)]; exact fj j q.1 p2 q.2.1 q.2.2.1 q.2.2.2.1 q.2.2.2.2.1 q.2.2.2.2.2.1 p8) (by rw [eB, wr_ne (Or.inr (by decide))]; exact mbx.ln) (by rw [eB]; exact wr_same) (fun o p1 p2 => by rw [eB, wr_row p1]; exact fo o p1 (sco_b p2)), fun o ho => by rw [eB, wr_row (by omega)]; exact fo o (by omega) (by omega), by rw [eB, wr_ne (Or.inr (by decide))]; exact f0⟩)
                            · -- case
                              have mb9 : MB n q2.1 q2.2 I9 := by have z := md9; rw [e2] at z; exact z
                              have hbq : (linB S.tp n S.κ.ns b s).2 = .inr q2 := linT_f2 e1 tb_ e2
                              refine EV.l (lv' := [(0, _), (1, _), (2, _), (3, _), (4, _), (5, _)]) r_X11_book_134 rfl ?_
                              refine EV.l (lv' := [(0, _), (1, _), (2, _), (3, _), (4, _), (5, _)]) r_X11_book_136 rfl ?_
                              refine EV.o r_X11_book_137 (bpN (59) 59) ?_
                              refine EV.cu r_X11_book_139 (aV1 mt_182 la_106) (m_signB mb9 (by omega) (by omega)) (fun IQ eQ => ?_)
                              have eQ := eQ.symm
                              subst eQ
                              refine EV.l (lv' := [(0, _), (1, _), (2, _), (3, _), (4, _), (5, _)]) r_X11_book_142 rfl ?_
                              refine EV.cv r_X11_book_143 (aV0 mt_173 la_106) (m_fineB mb9 (by omega) (by omega)) ?_
                              refine EV.n0_ne r_X11_book_146 (fun h146 => ?_) (fun h146 => ?_)
                              · omega
                              · -- 146 f
                                refine EV.g r_X11_book_149 ?_
                                have mox := (mo07.tr mo9)
                                have fz := hx67.bad hs (by omega) hbq
                                have mbx : MB n k f I9 := MB.eq (q := q2) mb9 fz hz
                                have fn := mbx.fn
                                have fo : ∀ o, o ≠ 106 → o ≠ 128 → I9 o = I o := fun o p1 p2 => (mox.1 o p1).trans ((kfM.2 o p1 p2).trans ((fT o p2).trans ((o2 o p1).trans (by rw [e1_]; exact wr_row p1))))
                                have fj : ∀ j, j ≠ 0 → j ≠ 2 → j ≠ 3 → j ≠ 4 → j ≠ 5 → j ≠ 6 → j ≠ 7 → j ≠ 8 → I9 106 j = I 106 j := fun j p0 p2 p3 p4 p5 p6 p7 p8 => (mox.2 j p4 p5 p6).trans ((kfM.1 j p4 p5 p6).trans ((congrFun (fT 106 (by decide)) j).trans ((j2 j p2 p3 p4 p5 p7 p8).trans (by rw [e1_]; exact wr_ne (Or.inr p0)))))
                                have f0 : I9 106 0 = nI 0 := (mox.2 0 (by decide) (by decide) (by decide)).trans ((kfM.1 0 (by decide) (by decide) (by decide)).trans ((congrFun (fT 106 (by decide)) 0).trans ((j2 0 (by decide) (by decide) (by decide) (by decide) (by decide) (by decide)).trans (by rw [e1_]; exact wr_same))))
                                refine EV.l (lv' := [(0, _), (1, _), (2, _)]) r_X11_book_167 rfl ?_
                                refine EV.l (lv' := [(0, _), (1, _), (2, _)]) r_X11_book_168 rfl ?_
                                refine EV.ci r_X11_book_169 (aV1 mt_185 la_106) (m_resB mbx (by omega) (by omega)) (fun v IB hB => ?_)
                                obtain ⟨e, eB⟩ := hB
                                subst e
                                refine EV.l (lv' := [(0, _), (1, _), (2, _), (3, _)]) r_X11_book_172 rfl ?_
                                refine EV.l (lv' := [(0, _), (1, _), (2, _), (3, _)]) r_X11_book_173 rfl ?_
                                refine EV.getV r_X11_book_174 la_106 ((show IB 106 5 = nI f from by rw [eB, wr_ne (Or.inr (by decide))]; exact mbx.fo)) ?_
                                refine EV.o r_X11_book_177 (icZ (-1)) ?_
                                refine EV.nz2_eq r_X11_book_178 (fun h178 => ?_) (fun h178 => ?_)
                                · omega
                                · -- 178 f
                                  refine EV.l (lv' := [(0, _), (1, _), (2, _), (3, _)]) r_X11_book_181 rfl ?_
                                  exact EV.ri r_X11_book_182 (⟨rfl, h.txt (fun j hj p2 p8 => by have q := scf_t hj; rw [eB, wr_ne (Or.inr p8)]; exact fj j q.1 p2 q.2.1 q.2.2.1 q.2.2.2.1 q.2.2.2.2.1 q.2.2.2.2.2.1 p8) (by rw [eB, wr_ne (Or.inr (by decide))]; exact mbx.ln) (by rw [eB]; exact wr_same) (fun o p1 p2 => by rw [eB, wr_row p1]; exact fo o p1 (sco_b p2)), fun o ho => by rw [eB, wr_row (by omega)]; exact fo o (by omega) (by omega), by rw [eB, wr_ne (Or.inr (by decide))]; exact f0⟩)
                          · omega
                        · -- case
                          have bt1 : (b.2.testBit (lnA S.tp n S.κ.ns s).1).toNat ≤ 1 := Bool.toNat_le _
                          refine EV.l (lv' := [(0, _), (1, _), (2, _), (3, _), (4, _)]) r_X11_book_111 rfl ?_
                          refine EV.gR r_X11_book_112 la_106 ?_
                          refine EV.l (lv' := [(0, _), (1, _), (2, _), (3, _), (4, _)]) r_X11_book_115 rfl ?_
                          refine EV.iaN r_X11_book_117 la_128 ((congrFun (mo07.1 128 (by decide)) (lnA S.tp n S.κ.ns s).1).trans ((hx67.2.2.2.1 (lnA S.tp n S.κ.ns s).1 (by omega)).trans (if_pos tb_))) ?_
                          refine EV.o r_X11_book_118 (icZ (-1)) ?_
                          refine EV.nz2_eq r_X11_book_119 (fun h119 => ?_) (fun h119 => ?_)
                          · omega
                          · -- 119 f
                            refine EV.l (lv' := [(0, _), (1, _), (2, _), (3, _), (4, _)]) r_X11_book_122 rfl ?_
                            refine EV.o r_X11_book_123 (icN (2) (v := 2)) ?_
                            refine EV.l (lv' := [(0, _), (1, _), (2, _), (3, _), (4, _)]) r_X11_book_124 rfl ?_
                            refine EV.cu r_X11_book_125 (aV2 mt_174 la_106) (m_wrongG mg7 (by decide) (by decide) sn (by omega)) (fun I8 h8 => ?_)
                            obtain ⟨mb8, mo8⟩ := h8
                            have hbq := linT_tw (b := b) e1 tb_
                            refine EV.l (lv' := [(0, _), (1, _), (2, _), (3, _), (4, _)]) r_X11_book_128 rfl ?_
                            refine EV.o r_X11_book_129 (icN (0) (v := 0)) ?_
                            refine EV.o r_X11_book_130 (icN (1) (v := 1)) ?_
                            refine EV.cv r_X11_book_131 (aV2 mt_181 la_106) (m_numB mb8 (by omega) (by omega)) ?_
                            -- on
                            refine EV.l (lv' := [(0, _), (1, _), (2, _), (3, _), (4, _), (5, _)]) r_X11_book_134 rfl ?_
                            refine EV.l (lv' := [(0, _), (1, _), (2, _), (3, _), (4, _), (5, _)]) r_X11_book_136 rfl ?_
                            refine EV.o r_X11_book_137 (bpN (59) 59) ?_
                            refine EV.cu r_X11_book_139 (aV1 mt_182 la_106) (m_signB mb8 (by omega) (by omega)) (fun IQ eQ => ?_)
                            have eQ := eQ.symm
                            subst eQ
                            refine EV.l (lv' := [(0, _), (1, _), (2, _), (3, _), (4, _), (5, _)]) r_X11_book_142 rfl ?_
                            refine EV.cv r_X11_book_143 (aV0 mt_173 la_106) (m_fineB mb8 (by omega) (by omega)) ?_
                            refine EV.n0_ne r_X11_book_146 (fun h146 => ?_) (fun h146 => ?_)
                            · omega
                            · -- 146 f
                              refine EV.g r_X11_book_149 ?_
                              have mox := (mo07.tr mo8)
                              have fz := hx67.bad hs (by omega) hbq
                              have mbx : MB n k f I8 := MB.eq (q := (2, s)) mb8 fz hz
                              have fn := mbx.fn
                              have fo : ∀ o, o ≠ 106 → o ≠ 128 → I8 o = I o := fun o p1 p2 => (mox.1 o p1).trans ((kfM.2 o p1 p2).trans ((fT o p2).trans ((o2 o p1).trans (by rw [e1_]; exact wr_row p1))))
                              have fj : ∀ j, j ≠ 0 → j ≠ 2 → j ≠ 3 → j ≠ 4 → j ≠ 5 → j ≠ 6 → j ≠ 7 → j ≠ 8 → I8 106 j = I 106 j := fun j p0 p2 p3 p4 p5 p6 p7 p8 => (mox.2 j p4 p5 p6).trans ((kfM.1 j p4 p5 p6).trans ((congrFun (fT 106 (by decide)) j).trans ((j2 j p2 p3 p4 p5 p7 p8).trans (by rw [e1_]; exact wr_ne (Or.inr p0)))))
                              have f0 : I8 106 0 = nI 0 := (mox.2 0 (by decide) (by decide) (by decide)).trans ((kfM.1 0 (by decide) (by decide) (by decide)).trans ((congrFun (fT 106 (by decide)) 0).trans ((j2 0 (by decide) (by decide) (by decide) (by decide) (by decide) (by decide)).trans (by rw [e1_]; exact wr_same))))
                              refine EV.l (lv' := [(0, _), (1, _), (2, _)]) r_X11_book_167 rfl ?_
                              refine EV.l (lv' := [(0, _), (1, _), (2, _)]) r_X11_book_168 rfl ?_
                              refine EV.ci r_X11_book_169 (aV1 mt_185 la_106) (m_resB mbx (by omega) (by omega)) (fun v IB hB => ?_)
                              obtain ⟨e, eB⟩ := hB
                              subst e
                              refine EV.l (lv' := [(0, _), (1, _), (2, _), (3, _)]) r_X11_book_172 rfl ?_
                              refine EV.l (lv' := [(0, _), (1, _), (2, _), (3, _)]) r_X11_book_173 rfl ?_
                              refine EV.getV r_X11_book_174 la_106 ((show IB 106 5 = nI f from by rw [eB, wr_ne (Or.inr (by decide))]; exact mbx.fo)) ?_
                              refine EV.o r_X11_book_177 (icZ (-1)) ?_
                              refine EV.nz2_eq r_X11_book_178 (fun h178 => ?_) (fun h178 => ?_)
                              · omega
                              · -- 178 f
                                refine EV.l (lv' := [(0, _), (1, _), (2, _), (3, _)]) r_X11_book_181 rfl ?_
                                exact EV.ri r_X11_book_182 (⟨rfl, h.txt (fun j hj p2 p8 => by have q := scf_t hj; rw [eB, wr_ne (Or.inr p8)]; exact fj j q.1 p2 q.2.1 q.2.2.1 q.2.2.2.1 q.2.2.2.2.1 q.2.2.2.2.2.1 p8) (by rw [eB, wr_ne (Or.inr (by decide))]; exact mbx.ln) (by rw [eB]; exact wr_same) (fun o p1 p2 => by rw [eB, wr_row p1]; exact fo o p1 (sco_b p2)), fun o ho => by rw [eB, wr_row (by omega)]; exact fo o (by omega) (by omega), by rw [eB, wr_ne (Or.inr (by decide))]; exact f0⟩)
                    · -- case
                      have mb7 : MB n q1.1 q1.2 I7 := by have z : MD S.tp n (lnA S.tp n S.κ.ns s).2 I7 := md7; rw [e1] at z; exact z
                      have hbq : (linB S.tp n S.κ.ns b s).2 = .inr q1 := linT_f1 e1
                      refine EV.l (lv' := [(0, _), (1, _), (2, _), (3, _), (4, _)]) r_X11_book_102 rfl ?_
                      refine EV.l (lv' := [(0, _), (1, _), (2, _), (3, _), (4, _)]) r_X11_book_104 rfl ?_
                      refine EV.cv r_X11_book_105 (aV0 mt_173 la_106) (m_fineB mb7 (by omega) (by omega)) ?_
                      refine EV.n0_eq r_X11_book_108 (fun h108 => ?_) (fun h108 => ?_)
                      · -- 108 t
                        refine EV.l (lv' := [(0, _), (1, _), (2, _), (3, _), (4, _)]) r_X11_book_128 rfl ?_
                        refine EV.o r_X11_book_129 (icN (0) (v := 0)) ?_
                        refine EV.o r_X11_book_130 (icN (1) (v := 1)) ?_
                        refine EV.cv r_X11_book_131 (aV2 mt_181 la_106) (m_numB mb7 (by omega) (by omega)) ?_
                        -- on
                        refine EV.l (lv' := [(0, _), (1, _), (2, _), (3, _), (4, _), (5, _)]) r_X11_book_134 rfl ?_
                        refine EV.l (lv' := [(0, _), (1, _), (2, _), (3, _), (4, _), (5, _)]) r_X11_book_136 rfl ?_
                        refine EV.o r_X11_book_137 (bpN (59) 59) ?_
                        refine EV.cu r_X11_book_139 (aV1 mt_182 la_106) (m_signB mb7 (by omega) (by omega)) (fun IQ eQ => ?_)
                        have eQ := eQ.symm
                        subst eQ
                        refine EV.l (lv' := [(0, _), (1, _), (2, _), (3, _), (4, _), (5, _)]) r_X11_book_142 rfl ?_
                        refine EV.cv r_X11_book_143 (aV0 mt_173 la_106) (m_fineB mb7 (by omega) (by omega)) ?_
                        refine EV.n0_ne r_X11_book_146 (fun h146 => ?_) (fun h146 => ?_)
                        · omega
                        · -- 146 f
                          refine EV.g r_X11_book_149 ?_
                          have mox := ((mp5.mo.tr mp6.mo).tr mo7)
                          have fz := hx67.bad hs (by omega) hbq
                          have mbx : MB n k f I7 := MB.eq (q := q1) mb7 fz hz
                          have fn := mbx.fn
                          have fo : ∀ o, o ≠ 106 → o ≠ 128 → I7 o = I o := fun o p1 p2 => (mox.1 o p1).trans ((kfM.2 o p1 p2).trans ((fT o p2).trans ((o2 o p1).trans (by rw [e1_]; exact wr_row p1))))
                          have fj : ∀ j, j ≠ 0 → j ≠ 2 → j ≠ 3 → j ≠ 4 → j ≠ 5 → j ≠ 6 → j ≠ 7 → j ≠ 8 → I7 106 j = I 106 j := fun j p0 p2 p3 p4 p5 p6 p7 p8 => (mox.2 j p4 p5 p6).trans ((kfM.1 j p4 p5 p6).trans ((congrFun (fT 106 (by decide)) j).trans ((j2 j p2 p3 p4 p5 p7 p8).trans (by rw [e1_]; exact wr_ne (Or.inr p0)))))
                          have f0 : I7 106 0 = nI 0 := (mox.2 0 (by decide) (by decide) (by decide)).trans ((kfM.1 0 (by decide) (by decide) (by decide)).trans ((congrFun (fT 106 (by decide)) 0).trans ((j2 0 (by decide) (by decide) (by decide) (by decide) (by decide) (by decide)).trans (by rw [e1_]; exact wr_same))))
                          refine EV.l (lv' := [(0, _), (1, _), (2, _)]) r_X11_book_167 rfl ?_
                          refine EV.l (lv' := [(0, _), (1, _), (2, _)]) r_X11_book_168 rfl ?_
                          refine EV.ci r_X11_book_169 (aV1 mt_185 la_106) (m_resB mbx (by omega) (by omega)) (fun v IB hB => ?_)
                          obtain ⟨e, eB⟩ := hB
                          subst e
                          refine EV.l (lv' := [(0, _), (1, _), (2, _), (3, _)]) r_X11_book_172 rfl ?_
                          refine EV.l (lv' := [(0, _), (1, _), (2, _), (3, _)]) r_X11_book_173 rfl ?_
                          refine EV.getV r_X11_book_174 la_106 ((show IB 106 5 = nI f from by rw [eB, wr_ne (Or.inr (by decide))]; exact mbx.fo)) ?_
                          refine EV.o r_X11_book_177 (icZ (-1)) ?_
                          refine EV.nz2_eq r_X11_book_178 (fun h178 => ?_) (fun h178 => ?_)
                          · omega
                          · -- 178 f
                            refine EV.l (lv' := [(0, _), (1, _), (2, _), (3, _)]) r_X11_book_181 rfl ?_
                            exact EV.ri r_X11_book_182 (⟨rfl, h.txt (fun j hj p2 p8 => by have q := scf_t hj; rw [eB, wr_ne (Or.inr p8)]; exact fj j q.1 p2 q.2.1 q.2.2.1 q.2.2.2.1 q.2.2.2.2.1 q.2.2.2.2.2.1 p8) (by rw [eB, wr_ne (Or.inr (by decide))]; exact mbx.ln) (by rw [eB]; exact wr_same) (fun o p1 p2 => by rw [eB, wr_row p1]; exact fo o p1 (sco_b p2)), fun o ho => by rw [eB, wr_row (by omega)]; exact fo o (by omega) (by omega), by rw [eB, wr_ne (Or.inr (by decide))]; exact f0⟩)
                      · omega
              have h0 := L67 (0, (0, 0), (scp isB S.tp n 0), T)
              try dsimp only at h0
              refine EV.sub ?_ rfl ?_ (h0 ?_)
              · (try dsimp only) <;> (rfl)
              · (try dsimp only) <;> (rfl)
              · (try dsimp only) <;> (exact ⟨mgT, KF.rf, Nat.zero_le _, fun j hj => (hx46.2.2 j (by omega)).trans (if_neg (by rw [Nat.zero_testBit]; decide)).symm, BB.z, rfl⟩)
            · -- 49 f
              refine EV.l (lv' := [(0, _), (1, _), (2, _)]) r_X11_book_52 rfl ?_
              refine EV.gR r_X11_book_53 la_106 ?_
              refine EV.l (lv' := [(0, _), (1, _), (2, _)]) r_X11_book_56 rfl ?_
              refine EV.o r_X11_book_57 (icZ (-1)) ?_
              refine EV.iaSn r_X11_book_58 la_128 (fun IX eX => ?_)
              refine EV.l (lv' := [(0, _), (1, _), (2, _)]) r_X11_book_59 rfl ?_
              rw [inc_nI]
              refine EV.g r_X11_book_62 ?_
              refine EV.sub ?_ rfl ?_ (ih46 (i + 1, IX) ?_ ?_)
              · (try dsimp only) <;> (rfl)
              · (try dsimp only) <;> (rfl)
              · (try dsimp only) <;> (omega)
              · (try dsimp only) <;> (exact ⟨by omega, fun o ho => by rw [eX, wr_row ho]; exact hx46.2.1 o ho, by rw [eX]; exact wr_m1 hx46.2.2⟩)
          have h0 := L46 (0, I2)
          try dsimp only at h0
          refine EV.sub ?_ rfl ?_ (h0 ?_)
          · (try dsimp only) <;> (rfl)
          · (try dsimp only) <;> (rfl)
          · (try dsimp only) <;> (exact ⟨by decide, fun o _ => rfl, fun j hj => absurd hj (Nat.not_lt_zero j)⟩)
        · omega
theorem m_bookX {d : Nat} {I : Nat → Nat → Int32} {J : Nat → Nat → Int64} {S : STT} (sb : SB S) (h : MIn S I) {n : Int} (n1 : -2147483648 ≤ n) (n2 : n < 2147483648) (hx : ¬ (0 ≤ n ∧ n ≤ S.tl ∧ n ≤ 60))  (hd : 9 ≤ d) : RI d 233 [.ref 106, .int (zI n)] I J (fun v I' => I' = refM I 1 1) := by
  refine RI.in (d0 := 8) hd mt_233 (Nat.le_of_ble_eq_true rfl) (fun d' hd' => ?_)
  have tl6 := sb.tl
  show EV none M_X11_book d' 0 [(0, .ref 106), (1, .int (zI n))] [] (hp I J) _
  refine EV.l (lv' := [(0, _), (1, _)]) r_X11_book_0 rfl ?_
  refine EV.o r_X11_book_1 (icN (0) (v := 0)) ?_
  refine EV.pIn r_X11_book_2 la_106 (fun I1 e1 => ?_)
  refine EV.l (lv' := [(0, _), (1, _)]) r_X11_book_5 rfl ?_
  refine EV.l (lv' := [(0, _), (1, _)]) r_X11_book_6 rfl ?_
  refine EV.z0_lt r_X11_book_7 (fun h7 => ?_) (fun h7 => ?_)
  · -- 7 t
    refine EV.o r_X11_book_28 (icN (0) (v := 0)) ?_
    subst e1
    refine EV.o r_X11_book_29 (icN (1) (v := 1)) ?_
    refine EV.o r_X11_book_30 (icN (1) (v := 1)) ?_
    refine EV.ci r_X11_book_31 (aV3 mt_169 la_106) (m_may0 wr_same (by decide) (by decide) (by decide) (by omega)) (fun v I2 h2 => ?_)
    obtain ⟨e, fr_⟩ := h2
    subst e
    refine EV.n0_ne r_X11_book_34 (fun h34 => ?_) (fun h34 => ?_)
    · omega
    · -- 34 f
      refine EV.o r_X11_book_37 (icN (0) (v := 0)) ?_
      exact EV.ri r_X11_book_38 (fr_)
  · -- 7 f
    refine EV.l (lv' := [(0, _), (1, _)]) r_X11_book_10 rfl ?_
    refine EV.l (lv' := [(0, _), (1, _)]) r_X11_book_11 rfl ?_
    refine EV.getV r_X11_book_12 la_106 ((show I1 106 2 = nI S.tl from by rw [e1, wr_ne (Or.inr (by decide))]; exact h.tl)) ?_
    refine EV.zn2_gt r_X11_book_15 (fun h15 => ?_) (fun h15 => ?_)
    · -- 15 t
      refine EV.o r_X11_book_28 (icN (0) (v := 0)) ?_
      subst e1
      refine EV.o r_X11_book_29 (icN (1) (v := 1)) ?_
      refine EV.o r_X11_book_30 (icN (1) (v := 1)) ?_
      refine EV.ci r_X11_book_31 (aV3 mt_169 la_106) (m_may0 wr_same (by decide) (by decide) (by decide) (by omega)) (fun v I2 h2 => ?_)
      obtain ⟨e, fr_⟩ := h2
      subst e
      refine EV.n0_ne r_X11_book_34 (fun h34 => ?_) (fun h34 => ?_)
      · omega
      · -- 34 f
        refine EV.o r_X11_book_37 (icN (0) (v := 0)) ?_
        exact EV.ri r_X11_book_38 (fr_)
    · -- 15 f
      refine EV.l (lv' := [(0, _), (1, _)]) r_X11_book_18 rfl ?_
      refine EV.o r_X11_book_19 (bpN (60) 60) ?_
      refine EV.zn2_gt r_X11_book_21 (fun h21 => ?_) (fun h21 => ?_)
      · -- 21 t
        refine EV.o r_X11_book_28 (icN (0) (v := 0)) ?_
        subst e1
        refine EV.o r_X11_book_29 (icN (1) (v := 1)) ?_
        refine EV.o r_X11_book_30 (icN (1) (v := 1)) ?_
        refine EV.ci r_X11_book_31 (aV3 mt_169 la_106) (m_may0 wr_same (by decide) (by decide) (by decide) (by omega)) (fun v I2 h2 => ?_)
        obtain ⟨e, fr_⟩ := h2
        subst e
        refine EV.n0_ne r_X11_book_34 (fun h34 => ?_) (fun h34 => ?_)
        · omega
        · -- 34 f
          refine EV.o r_X11_book_37 (icN (0) (v := 0)) ?_
          exact EV.ri r_X11_book_38 (fr_)
      · -- 21 f
        refine EV.o r_X11_book_24 (icN (1) (v := 1)) ?_
        refine EV.g r_X11_book_25 ?_
        subst e1
        refine EV.o r_X11_book_29 (icN (1) (v := 1)) ?_
        refine EV.o r_X11_book_30 (icN (1) (v := 1)) ?_
        omega
