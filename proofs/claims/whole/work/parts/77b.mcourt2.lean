/-! (goes on) -/
theorem m_courtB {d : Nat} {I : Nat → Nat → Int32} {J : Nat → Nat → Int64} {S : STT} {n : Nat} (sb : SB S) (h : MIn S I) (κ : CT) (cu : CU κ) (ht : n ≤ S.tl) {k f : Nat} (hz : (ctsS S.tp n 60 (zer κ) (scp isB S.tp n 0)).2 = .inr (k, f))  (hd : 11 ≤ d) : RI d 194 [.ref 106, .int (nI n)] I J (fun v I' => v = zI ((k : Int) - 10) ∧ MIn (S.txt (nI f)) I' ∧ HIf I I' ∧ I' 106 0 = nI 0) := by
  refine RI.in (d0 := 10) hd mt_194 (Nat.le_of_ble_eq_true rfl) (fun d' hd' => ?_)
  have tl6 := sb.tl
  have hn : n ≤ 600 := by omega
  show EV none M_X11_court d' 0 [(0, .ref 106), (1, .int (nI n))] [] (hp I J) _
  refine EV.l (lv' := [(0, _), (1, _)]) r_X11_court_0 rfl ?_
  refine EV.o r_X11_court_1 (icN (0) (v := 0)) ?_
  refine EV.pIn r_X11_court_2 la_106 (fun I1 e1 => ?_)
  refine EV.l (lv' := [(0, _), (1, _)]) r_X11_court_5 rfl ?_
  refine EV.l (lv' := [(0, _), (1, _)]) r_X11_court_6 rfl ?_
  refine EV.n0_lt r_X11_court_7 (fun h7 => ?_) (fun h7 => ?_)
  · -- 7 t
    refine EV.o r_X11_court_22 (icN (0) (v := 0)) ?_
    refine EV.o r_X11_court_23 (icN (1) (v := 1)) ?_
    have z0 : I1 106 0 = nI 0 := by rw [e1]; exact wr_same
    refine EV.o r_X11_court_24 (icN (1) (v := 1)) ?_
    omega
  · -- 7 f
    refine EV.l (lv' := [(0, _), (1, _)]) r_X11_court_10 rfl ?_
    refine EV.l (lv' := [(0, _), (1, _)]) r_X11_court_11 rfl ?_
    refine EV.getV r_X11_court_12 la_106 ((show I1 106 2 = nI S.tl from by rw [e1, wr_ne (Or.inr (by decide))]; exact h.tl)) ?_
    refine EV.n2_gt r_X11_court_15 (fun h15 => ?_) (fun h15 => ?_)
    · -- 15 t
      refine EV.o r_X11_court_22 (icN (0) (v := 0)) ?_
      refine EV.o r_X11_court_23 (icN (1) (v := 1)) ?_
      have z0 : I1 106 0 = nI 0 := by rw [e1]; exact wr_same
      refine EV.o r_X11_court_24 (icN (1) (v := 1)) ?_
      omega
    · -- 15 f
      refine EV.o r_X11_court_18 (icN (1) (v := 1)) ?_
      refine EV.g r_X11_court_19 ?_
      refine EV.o r_X11_court_23 (icN (1) (v := 1)) ?_
      have z0 : I1 106 0 = nI 0 := by rw [e1]; exact wr_same
      refine EV.o r_X11_court_24 (icN (1) (v := 1)) ?_
      refine EV.cv r_X11_court_25 (aV3 mt_169 la_106) (m_mayN z0 (by omega)) ?_
      refine EV.n0_ne r_X11_court_28 (fun h28 => ?_) (fun h28 => ?_)
      · -- 28 t
        refine EV.l (lv' := [(0, _), (1, _)]) r_X11_court_33 rfl ?_
        refine EV.l (lv' := [(0, _), (1, _)]) r_X11_court_34 rfl ?_
        refine EV.cu r_X11_court_35 (aV1 mt_184 la_106) (m_begins (g := S.tp) (by omega)) (fun I2 h2 => ?_)
        obtain ⟨mg2, op2, f82, o2, j2⟩ := h2
        refine EV.l (lv' := [(0, _), (1, _)]) r_X11_court_38 rfl ?_
        refine EV.cu r_X11_court_39 (aV0 mt_188 la_106) (m_clears (by omega)) (fun I3 h3 => ?_)
        obtain ⟨c18, c19, c20, c21, o3, j3⟩ := h3
        have t0 : ∀ j, j < 600 → I3 108 j = nI (S.tp j) := tp_fm h.tp ((o3 108 (by decide)).trans ((o2 108 (by decide)).trans (by rw [e1]; exact wr_row (by decide))))
        have mg3 : MG S.tp n (scp isB S.tp n 0) I3 := by have z := mg2; unfold MG at z ⊢; rw [j3 3 (by omega), j3 2 (by omega), j3 5 (by omega), j3 4 (by omega)]; exact z
        have mc3 : MCd (zer κ) I3 := ⟨c18, c19, c20, c21, fun j hj => absurd hj (Nat.not_lt_zero j), fun j hj => absurd hj (Nat.not_lt_zero j), fun j hj => absurd hj (Nat.not_lt_zero j), fun j hj => absurd hj (Nat.not_lt_zero j), fun j hj => absurd hj (Nat.not_lt_zero j), fun j hj => absurd hj (Nat.not_lt_zero j), fun j hj => absurd hj (Nat.not_lt_zero j), fun j hj => absurd hj (Nat.not_lt_zero j), fun j hj => absurd hj (Nat.not_lt_zero j), fun j hj => absurd hj (Nat.not_lt_zero j)⟩
        refine EV.o r_X11_court_42 (icN (0) (v := 0)) ?_
        refine EV.l (lv' := [(0, _), (1, _), (2, _)]) r_X11_court_43 rfl ?_
        have L44 : ∀ y_ : Nat × RST × CT × (Nat → Nat → Int32), (fun y => MRI S.tp n (zer κ) (scp isB S.tp n 0) I3 y.1 y.2.1 y.2.2.1 y.2.2.2 → EV none M_X11_court d' 44 [(0, .ref 106), (1, .int (nI n)), (2, .int (nI y.1))] [] (hp y.2.2.2 J) (QI J (fun v I' => v = zI ((k : Int) - 10) ∧ MIn (S.txt (nI f)) I' ∧ HIf I I' ∧ I' 106 0 = nI 0))) y_ := by
          refine ev_loop (fun y => 61 - y.1) ?_
          intro ⟨i, r, K, M⟩ ih44 hx44
          try dsimp only at ih44
          try dsimp only at hx44
          try dsimp only
          have i60 := hx44.2.2.1
          refine EV.l (lv' := [(0, _), (1, _), (2, _)]) r_X11_court_44 rfl ?_
          refine EV.cv r_X11_court_45 (aV0 mt_173 la_106) (m_fine hx44.2.1 hn (by omega)) ?_
          refine EV.b0_eq r_X11_court_48 (fun h48 => ?_) (fun h48 => ?_)
          · -- 48 t
            obtain ⟨k9, f9, er⟩ := okr_f h48
            subst er
            have fin := hx44.bad
            have mdx := fin.1
            rw [hz] at mdx
            have fo : ∀ o, o ≠ 106 → (o < 109 ∨ 112 < o) → M o = I o := fun o p1 p2 => (fin.2.2.2 o p1 p2).trans ((o3 o p1).trans ((o2 o p1).trans (by rw [e1]; exact wr_row p1)))
            have fj : ∀ j, j ≠ 0 → j ≠ 2 → j ≠ 3 → j ≠ 4 → j ≠ 5 → j ≠ 6 → j ≠ 7 → j ≠ 8 → (j < 18 ∨ 21 < j) → M 106 j = I 106 j := fun j p0 p2 p3 p4 p5 p6 p7 p8 p9 => (fin.2.2.1 j p4 p5 p6 p9).trans ((j3 j p9).trans ((j2 j p2 p3 p4 p5 p7 p8).trans (by rw [e1]; exact wr_ne (Or.inr p0))))
            have f0 : M 106 0 = nI 0 := (fin.2.2.1 0 (by decide) (by decide) (by decide) (by decide)).trans ((j3 0 (by decide)).trans ((j2 0 (by decide) (by decide) (by decide) (by decide) (by decide) (by decide)).trans (by rw [e1]; exact wr_same)))
            have mbx : MB n k f M := mdx
            have fn := mbx.fn
            -- end
            refine EV.l (lv' := [(0, _), (1, _), (2, _)]) r_X11_court_143 rfl ?_
            refine EV.l (lv' := [(0, _), (1, _), (2, _)]) r_X11_court_144 rfl ?_
            refine EV.gI r_X11_court_145 la_106 ?_
            refine EV.ci r_X11_court_148 (aV1 mt_185 la_106) (m_resB mbx hn (by omega)) (fun v IB hB => ?_)
            obtain ⟨e, eB⟩ := hB
            subst e
            refine EV.l (lv' := [(0, _), (1, _), (2, _), (3, _)]) r_X11_court_151 rfl ?_
            refine EV.l (lv' := [(0, _), (1, _), (2, _), (3, _)]) r_X11_court_152 rfl ?_
            refine EV.getV r_X11_court_153 la_106 ((show IB 106 5 = nI f from by rw [eB, wr_ne (Or.inr (by decide))]; exact mbx.fo)) ?_
            refine EV.o r_X11_court_156 (icZ (-1)) ?_
            refine EV.nz2_ne r_X11_court_157 (fun h157 => ?_) (fun h157 => ?_)
            · -- 157 t
              refine EV.l (lv' := [(0, _), (1, _), (2, _), (3, _)]) r_X11_court_164 rfl ?_
              exact EV.ri r_X11_court_165 (⟨rfl, h.txt (fun j hj p2 p8 => by have q := scf_t hj; rw [eB, wr_ne (Or.inr p8)]; exact fj j q.1 p2 q.2.1 q.2.2.1 q.2.2.2.1 q.2.2.2.2.1 q.2.2.2.2.2.1 p8 q.2.2.2.2.2.2.1) (by rw [eB, wr_ne (Or.inr (by decide))]; exact mbx.ln) (by rw [eB]; exact wr_same) (fun o p1 p2 => by rw [eB, wr_row p1]; exact fo o p1 (sco_t p2)), fun o ho => by rw [eB, wr_row (by omega)]; exact fo o (by omega) (by omega), by rw [eB, wr_ne (Or.inr (by decide))]; exact f0⟩)
            · omega
          · -- 48 f
            obtain ⟨s1, er⟩ := okr_t h48
            subst er
            have k1 := hx44.2.2.2.1
            have k2 := hx44.2.2.2.2.1
            have ka := k2.all
            have ki := hx44.2.2.2.2.2.1
            have kns := k2.ns; have knr := k2.nr; have knb := k2.nb; have knc := k2.nc
            refine EV.l (lv' := [(0, _), (1, _), (2, _)]) r_X11_court_51 rfl ?_
            refine EV.ci r_X11_court_52 (aV0 mt_183 la_106) (m_more (tp_fm t0 (hx44.1.2 108 (by decide) (by decide))) sb.tp hn hx44.2.1 (by omega)) (fun v I5 h5 => ?_)
            obtain ⟨e, mg5, at5, mp5⟩ := h5
            subst e
            refine EV.p0_eq r_X11_court_55 (fun h55 => ?_) (fun h55 => ?_)
            · -- 55 t
              have h5n := h55
              have fin := hx44.end h5n mg5 mp5
              have mdx := fin.1
              rw [hz] at mdx
              have fo : ∀ o, o ≠ 106 → (o < 109 ∨ 112 < o) → I5 o = I o := fun o p1 p2 => (fin.2.2.2 o p1 p2).trans ((o3 o p1).trans ((o2 o p1).trans (by rw [e1]; exact wr_row p1)))
              have fj : ∀ j, j ≠ 0 → j ≠ 2 → j ≠ 3 → j ≠ 4 → j ≠ 5 → j ≠ 6 → j ≠ 7 → j ≠ 8 → (j < 18 ∨ 21 < j) → I5 106 j = I 106 j := fun j p0 p2 p3 p4 p5 p6 p7 p8 p9 => (fin.2.2.1 j p4 p5 p6 p9).trans ((j3 j p9).trans ((j2 j p2 p3 p4 p5 p7 p8).trans (by rw [e1]; exact wr_ne (Or.inr p0))))
              have f0 : I5 106 0 = nI 0 := (fin.2.2.1 0 (by decide) (by decide) (by decide) (by decide)).trans ((j3 0 (by decide)).trans ((j2 0 (by decide) (by decide) (by decide) (by decide) (by decide) (by decide)).trans (by rw [e1]; exact wr_same)))
              have mbx : MB n k f I5 := mdx
              have fn := mbx.fn
              -- end
              refine EV.l (lv' := [(0, _), (1, _), (2, _)]) r_X11_court_143 rfl ?_
              refine EV.l (lv' := [(0, _), (1, _), (2, _)]) r_X11_court_144 rfl ?_
              refine EV.gI r_X11_court_145 la_106 ?_
              refine EV.ci r_X11_court_148 (aV1 mt_185 la_106) (m_resB mbx hn (by omega)) (fun v IB hB => ?_)
              obtain ⟨e, eB⟩ := hB
              subst e
              refine EV.l (lv' := [(0, _), (1, _), (2, _), (3, _)]) r_X11_court_151 rfl ?_
              refine EV.l (lv' := [(0, _), (1, _), (2, _), (3, _)]) r_X11_court_152 rfl ?_
              refine EV.getV r_X11_court_153 la_106 ((show IB 106 5 = nI f from by rw [eB, wr_ne (Or.inr (by decide))]; exact mbx.fo)) ?_
              refine EV.o r_X11_court_156 (icZ (-1)) ?_
              refine EV.nz2_ne r_X11_court_157 (fun h157 => ?_) (fun h157 => ?_)
              · -- 157 t
                refine EV.l (lv' := [(0, _), (1, _), (2, _), (3, _)]) r_X11_court_164 rfl ?_
                exact EV.ri r_X11_court_165 (⟨rfl, h.txt (fun j hj p2 p8 => by have q := scf_t hj; rw [eB, wr_ne (Or.inr p8)]; exact fj j q.1 p2 q.2.1 q.2.2.1 q.2.2.2.1 q.2.2.2.2.1 q.2.2.2.2.2.1 p8 q.2.2.2.2.2.2.1) (by rw [eB, wr_ne (Or.inr (by decide))]; exact mbx.ln) (by rw [eB]; exact wr_same) (fun o p1 p2 => by rw [eB, wr_row p1]; exact fo o p1 (sco_t p2)), fun o ho => by rw [eB, wr_row (by omega)]; exact fo o (by omega) (by omega), by rw [eB, wr_ne (Or.inr (by decide))]; exact f0⟩)
              · omega
            · -- 55 f
              have hs1 := h55
              refine EV.l (lv' := [(0, _), (1, _), (2, _)]) r_X11_court_58 rfl ?_
              refine EV.ci r_X11_court_59 (aV0 mt_178 la_106) (m_word (tp_fm (tp_fm t0 (hx44.1.2 108 (by decide) (by decide))) (mp5.1 108 (by decide))) sb.tp hn mg5 (by omega)) (fun v I6 h6 => ?_)
              obtain ⟨e, mg6, at6, mp6⟩ := h6
              subst e
              refine EV.l (lv' := [(0, _), (1, _), (2, _)]) r_X11_court_62 rfl ?_
              refine EV.lcT r_X11_court_63 rfl ?_
              refine EV.ci r_X11_court_65 (aV1 mt_191 la_106) (m_stands (tp_fm (tp_fm (tp_fm t0 (hx44.1.2 108 (by decide) (by decide))) (mp5.1 108 (by decide))) (mp6.1 108 (by decide))) sb.tp hn mg6 tx_20 (by decide) lCoun (by omega)) (fun v I7 h7 => ?_)
              obtain ⟨e, mg7, at7, mp7⟩ := h7
              subst e
              have sn := mg7.sn
              have mpx : MP M I7 := ⟨fun o ho => (mp7.1 o ho).trans ((mp6.1 o ho).trans (mp5.1 o ho)), fun j hj => (mp7.2 j hj).trans ((mp6.2 j hj).trans (mp5.2 j hj))⟩
              have rk := rwo_k (g := S.tp) (n := n) (s := s1) sn
              have wb := wdv_b (g := S.tp) (n := n) (s := s1) sn
              have mc7 := k1.mo mpx.mo
              have t7 := tp_fm (tp_fm t0 (hx44.1.2 108 (by decide) (by decide))) (mpx.1 108 (by decide))
              rcases (kcl_5 : kcl S.tp n s1 = 0 ∨ kcl S.tp n s1 = 1 ∨ kcl S.tp n s1 = 2 ∨ kcl S.tp n s1 = 3 ∨ kcl S.tp n s1 = 4) with kk | kk | kk | kk | kk
              · -- case
                have rkk : rwo (wdv S.tp n s1) (isW S.tp n s1 tCoun) = -1 := by rw [rk, kk]; rfl
                refine EV.cv r_X11_court_68 (aS2 mt_190) (m_rowZ rkk (by omega) (by omega)) ?_
                refine EV.l (lv' := [(0, _), (1, _), (2, _), (3, _)]) r_X11_court_71 rfl ?_
                refine EV.l (lv' := [(0, _), (1, _), (2, _), (3, _)]) r_X11_court_72 rfl ?_
                refine EV.o r_X11_court_73 (icZ (-1)) ?_
                refine EV.z2_ne r_X11_court_74 (fun h74 => ?_) (fun h74 => ?_)
                · omega
                · -- 74 f
                  refine EV.l (lv' := [(0, _), (1, _), (2, _), (3, _)]) r_X11_court_77 rfl ?_
                  refine EV.o r_X11_court_78 (icN (1) (v := 1)) ?_
                  refine EV.l (lv' := [(0, _), (1, _), (2, _), (3, _)]) r_X11_court_79 rfl ?_
                  refine EV.getV r_X11_court_80 la_106 (at7) ?_
                  refine EV.cu r_X11_court_83 (aV2 mt_174 la_106) (m_wrongG mg7 (by decide) (by decide) sn (by omega)) (fun I8 h8 => ?_)
                  obtain ⟨mb8, mo8⟩ := h8
                  have fin := hx44.flt hs1 (by omega) (congrArg Prod.snd (clsT_0 kk)) mb8 (mpx.mf.tr mo8.mf)
                  refine EV.g r_X11_court_86 ?_
                  refine EV.l (lv' := [(0, _), (1, _), (2, _), (3, _)]) r_X11_court_112 rfl ?_
                  refine EV.cv r_X11_court_113 (aV0 mt_173 la_106) (m_fineB mb8 hn (by omega)) ?_
                  refine EV.n0_ne r_X11_court_116 (fun h116 => ?_) (fun h116 => ?_)
                  · omega
                  · -- 116 f
                    refine EV.g r_X11_court_119 ?_
                    have fin := fin
                    have mdx := fin.1
                    rw [hz] at mdx
                    have fo : ∀ o, o ≠ 106 → (o < 109 ∨ 112 < o) → I8 o = I o := fun o p1 p2 => (fin.2.2.2 o p1 p2).trans ((o3 o p1).trans ((o2 o p1).trans (by rw [e1]; exact wr_row p1)))
                    have fj : ∀ j, j ≠ 0 → j ≠ 2 → j ≠ 3 → j ≠ 4 → j ≠ 5 → j ≠ 6 → j ≠ 7 → j ≠ 8 → (j < 18 ∨ 21 < j) → I8 106 j = I 106 j := fun j p0 p2 p3 p4 p5 p6 p7 p8 p9 => (fin.2.2.1 j p4 p5 p6 p9).trans ((j3 j p9).trans ((j2 j p2 p3 p4 p5 p7 p8).trans (by rw [e1]; exact wr_ne (Or.inr p0))))
                    have f0 : I8 106 0 = nI 0 := (fin.2.2.1 0 (by decide) (by decide) (by decide) (by decide)).trans ((j3 0 (by decide)).trans ((j2 0 (by decide) (by decide) (by decide) (by decide) (by decide) (by decide)).trans (by rw [e1]; exact wr_same)))
                    have mbx : MB n k f I8 := mdx
                    have fn := mbx.fn
                    -- end
                    refine EV.l (lv' := [(0, _), (1, _), (2, _)]) r_X11_court_143 rfl ?_
                    refine EV.l (lv' := [(0, _), (1, _), (2, _)]) r_X11_court_144 rfl ?_
                    refine EV.gI r_X11_court_145 la_106 ?_
                    refine EV.ci r_X11_court_148 (aV1 mt_185 la_106) (m_resB mbx hn (by omega)) (fun v IB hB => ?_)
                    obtain ⟨e, eB⟩ := hB
                    subst e
                    refine EV.l (lv' := [(0, _), (1, _), (2, _), (3, _)]) r_X11_court_151 rfl ?_
                    refine EV.l (lv' := [(0, _), (1, _), (2, _), (3, _)]) r_X11_court_152 rfl ?_
                    refine EV.getV r_X11_court_153 la_106 ((show IB 106 5 = nI f from by rw [eB, wr_ne (Or.inr (by decide))]; exact mbx.fo)) ?_
                    refine EV.o r_X11_court_156 (icZ (-1)) ?_
                    refine EV.nz2_ne r_X11_court_157 (fun h157 => ?_) (fun h157 => ?_)
                    · -- 157 t
                      refine EV.l (lv' := [(0, _), (1, _), (2, _), (3, _)]) r_X11_court_164 rfl ?_
                      exact EV.ri r_X11_court_165 (⟨rfl, h.txt (fun j hj p2 p8 => by have q := scf_t hj; rw [eB, wr_ne (Or.inr p8)]; exact fj j q.1 p2 q.2.1 q.2.2.1 q.2.2.2.1 q.2.2.2.2.1 q.2.2.2.2.2.1 p8 q.2.2.2.2.2.2.1) (by rw [eB, wr_ne (Or.inr (by decide))]; exact mbx.ln) (by rw [eB]; exact wr_same) (fun o p1 p2 => by rw [eB, wr_row p1]; exact fo o p1 (sco_t p2)), fun o ho => by rw [eB, wr_row (by omega)]; exact fo o (by omega) (by omega), by rw [eB, wr_ne (Or.inr (by decide))]; exact f0⟩)
                    · omega
              · -- case
                have rkk : rwo (wdv S.tp n s1) (isW S.tp n s1 tCoun) = ((1 : Nat) : Int) := by rw [rk, kk]; rfl
                refine EV.cv r_X11_court_68 (aS2 mt_190) (m_rowN (k := 1) rkk (by omega) (by omega)) ?_
                refine EV.l (lv' := [(0, _), (1, _), (2, _), (3, _)]) r_X11_court_71 rfl ?_
                refine EV.l (lv' := [(0, _), (1, _), (2, _), (3, _)]) r_X11_court_72 rfl ?_
                refine EV.o r_X11_court_73 (icZ (-1)) ?_
                refine EV.nz2_ne r_X11_court_74 (fun h74 => ?_) (fun h74 => ?_)
                · -- 74 t
                  refine EV.l (lv' := [(0, _), (1, _), (2, _), (3, _)]) r_X11_court_89 rfl ?_
                  refine EV.o r_X11_court_90 (bpN (60) 60) ?_
                  refine EV.n2_eq r_X11_court_92 (fun h92 => ?_) (fun h92 => ?_)
                  · omega
                  · -- 92 f
                    refine EV.l (lv' := [(0, _), (1, _), (2, _), (3, _)]) r_X11_court_95 rfl ?_
                    refine EV.l (lv' := [(0, _), (1, _), (2, _), (3, _)]) r_X11_court_96 rfl ?_
                    refine EV.cv r_X11_court_97 (aV1 mt_192 la_106) (m_full1 mc7.ns (by omega) (by omega)) ?_
                    refine EV.p0_eq r_X11_court_100 (fun h100 => ?_) (fun h100 => ?_)
                    · -- 100 t
                      refine EV.l (lv' := [(0, _), (1, _), (2, _), (3, _)]) r_X11_court_112 rfl ?_
                      refine EV.cv r_X11_court_113 (aV0 mt_173 la_106) (m_fineG mg7 (by omega)) ?_
                      refine EV.n0_ne r_X11_court_116 (fun h116 => ?_) (fun h116 => ?_)
                      · -- 116 t
                        refine EV.l (lv' := [(0, _), (1, _), (2, _), (3, _)]) r_X11_court_122 rfl ?_
                        refine EV.cu r_X11_court_123 (aV0 mt_180 la_106) (m_pass t7 sb.tp hn mg7.en sn at7 (by omega)) (fun I8 h8 => ?_)
                        obtain ⟨at8, mp8⟩ := h8
                        have w2 := kd2_pe (kcl_w (g := S.tp) (n := n) (s := s1) (by omega))
                        have mg8 : MG S.tp n (nxp S.tp n s1) I8 := mg7.mv mp8 (scp_le sn) at8 (by unfold nxp; rw [w2.2.1])
                        refine EV.l (lv' := [(0, _), (1, _), (2, _), (3, _)]) r_X11_court_126 rfl ?_
                        refine EV.l (lv' := [(0, _), (1, _), (2, _), (3, _)]) r_X11_court_127 rfl ?_
                        refine EV.cu r_X11_court_128 (aV1 mt_193 la_106) (m_row1 (tp_fm t7 (mp8.1 108 (by decide))) sb.tp hn mg8 (mc7.mo mp8.mo) k2 kk (by omega) (by omega)) (fun I9 h9 => ?_)
                        have h9 : MD S.tp n (clsT S.tp n K s1).2 I9 ∧ (∀ s2, (clsT S.tp n K s1).2 = .inl s2 → MCd (clsT S.tp n K s1).1 I9) ∧ MF M I9 := ⟨h9.1, h9.2.1, mpx.mf.tr (mp8.mf.tr h9.2.2)⟩
                        refine EV.l (lv' := [(0, _), (1, _), (2, _), (3, _)]) r_X11_court_131 rfl ?_
                        refine EV.o r_X11_court_132 (bpN (59) 59) ?_
                        refine EV.cu r_X11_court_134 (aV1 mt_182 la_106) (m_sign (tp_fm (tp_fm t0 (hx44.1.2 108 (by decide) (by decide))) (h9.2.2.2 108 (by decide) (by decide))) sb.tp hn h9.1 (by decide) (by decide) (by decide) (by decide) (by omega)) (fun IA hA => ?_)
                        refine EV.l (lv' := [(0, _), (1, _), (2, _), (3, _)]) r_X11_court_137 rfl ?_
                        rw [inc_nI]
                        refine EV.g r_X11_court_140 ?_
                        refine EV.fg (lv' := [(0, _), (1, _), (2, _)]) r_X11_court_44 rfl rfl rfl ?_
                        refine EV.sub ?_ rfl ?_ (ih44 (i + 1, (clsS S.tp n K s1).2, (clsS S.tp n K s1).1, IA) ?_ ?_)
                        · (try dsimp only) <;> (rfl)
                        · (try dsimp only) <;> (rfl)
                        · (try dsimp only) <;> (omega)
                        · (try dsimp only) <;> (exact hx44.next hs1 (by omega) h9 hA)
                      · omega
                    · -- 100 f
                      refine EV.l (lv' := [(0, _), (1, _), (2, _), (3, _)]) r_X11_court_103 rfl ?_
                      refine EV.o r_X11_court_104 (icN (3) (v := 3)) ?_
                      refine EV.l (lv' := [(0, _), (1, _), (2, _), (3, _)]) r_X11_court_105 rfl ?_
                      refine EV.getV r_X11_court_106 la_106 (at7) ?_
                      refine EV.cu r_X11_court_109 (aV2 mt_174 la_106) (m_wrongG mg7 (by decide) (by decide) sn (by omega)) (fun I8 h8 => ?_)
                      obtain ⟨mb8, mo8⟩ := h8
                      have fin := hx44.flt hs1 (by omega) (congrArg Prod.snd (clsT_1x kk (by omega))) mb8 (mpx.mf.tr mo8.mf)
                      refine EV.l (lv' := [(0, _), (1, _), (2, _), (3, _)]) r_X11_court_112 rfl ?_
                      refine EV.cv r_X11_court_113 (aV0 mt_173 la_106) (m_fineB mb8 hn (by omega)) ?_
                      refine EV.n0_ne r_X11_court_116 (fun h116 => ?_) (fun h116 => ?_)
                      · omega
                      · -- 116 f
                        refine EV.g r_X11_court_119 ?_
                        have fin := fin
                        have mdx := fin.1
                        rw [hz] at mdx
                        have fo : ∀ o, o ≠ 106 → (o < 109 ∨ 112 < o) → I8 o = I o := fun o p1 p2 => (fin.2.2.2 o p1 p2).trans ((o3 o p1).trans ((o2 o p1).trans (by rw [e1]; exact wr_row p1)))
                        have fj : ∀ j, j ≠ 0 → j ≠ 2 → j ≠ 3 → j ≠ 4 → j ≠ 5 → j ≠ 6 → j ≠ 7 → j ≠ 8 → (j < 18 ∨ 21 < j) → I8 106 j = I 106 j := fun j p0 p2 p3 p4 p5 p6 p7 p8 p9 => (fin.2.2.1 j p4 p5 p6 p9).trans ((j3 j p9).trans ((j2 j p2 p3 p4 p5 p7 p8).trans (by rw [e1]; exact wr_ne (Or.inr p0))))
                        have f0 : I8 106 0 = nI 0 := (fin.2.2.1 0 (by decide) (by decide) (by decide) (by decide)).trans ((j3 0 (by decide)).trans ((j2 0 (by decide) (by decide) (by decide) (by decide) (by decide) (by decide)).trans (by rw [e1]; exact wr_same)))
                        have mbx : MB n k f I8 := mdx
                        have fn := mbx.fn
                        -- end
                        refine EV.l (lv' := [(0, _), (1, _), (2, _)]) r_X11_court_143 rfl ?_
                        refine EV.l (lv' := [(0, _), (1, _), (2, _)]) r_X11_court_144 rfl ?_
                        refine EV.gI r_X11_court_145 la_106 ?_
                        refine EV.ci r_X11_court_148 (aV1 mt_185 la_106) (m_resB mbx hn (by omega)) (fun v IB hB => ?_)
                        obtain ⟨e, eB⟩ := hB
                        subst e
                        refine EV.l (lv' := [(0, _), (1, _), (2, _), (3, _)]) r_X11_court_151 rfl ?_
                        refine EV.l (lv' := [(0, _), (1, _), (2, _), (3, _)]) r_X11_court_152 rfl ?_
                        refine EV.getV r_X11_court_153 la_106 ((show IB 106 5 = nI f from by rw [eB, wr_ne (Or.inr (by decide))]; exact mbx.fo)) ?_
                        refine EV.o r_X11_court_156 (icZ (-1)) ?_
                        refine EV.nz2_ne r_X11_court_157 (fun h157 => ?_) (fun h157 => ?_)
                        · -- 157 t
                          refine EV.l (lv' := [(0, _), (1, _), (2, _), (3, _)]) r_X11_court_164 rfl ?_
                          exact EV.ri r_X11_court_165 (⟨rfl, h.txt (fun j hj p2 p8 => by have q := scf_t hj; rw [eB, wr_ne (Or.inr p8)]; exact fj j q.1 p2 q.2.1 q.2.2.1 q.2.2.2.1 q.2.2.2.2.1 q.2.2.2.2.2.1 p8 q.2.2.2.2.2.2.1) (by rw [eB, wr_ne (Or.inr (by decide))]; exact mbx.ln) (by rw [eB]; exact wr_same) (fun o p1 p2 => by rw [eB, wr_row p1]; exact fo o p1 (sco_t p2)), fun o ho => by rw [eB, wr_row (by omega)]; exact fo o (by omega) (by omega), by rw [eB, wr_ne (Or.inr (by decide))]; exact f0⟩)
                        · omega
                · omega
              · -- case
                have rkk : rwo (wdv S.tp n s1) (isW S.tp n s1 tCoun) = ((2 : Nat) : Int) := by rw [rk, kk]; rfl
                refine EV.cv r_X11_court_68 (aS2 mt_190) (m_rowN (k := 2) rkk (by omega) (by omega)) ?_
                refine EV.l (lv' := [(0, _), (1, _), (2, _), (3, _)]) r_X11_court_71 rfl ?_
                refine EV.l (lv' := [(0, _), (1, _), (2, _), (3, _)]) r_X11_court_72 rfl ?_
                refine EV.o r_X11_court_73 (icZ (-1)) ?_
                refine EV.nz2_ne r_X11_court_74 (fun h74 => ?_) (fun h74 => ?_)
                · -- 74 t
                  refine EV.l (lv' := [(0, _), (1, _), (2, _), (3, _)]) r_X11_court_89 rfl ?_
                  refine EV.o r_X11_court_90 (bpN (60) 60) ?_
                  refine EV.n2_eq r_X11_court_92 (fun h92 => ?_) (fun h92 => ?_)
                  · omega
                  · -- 92 f
                    refine EV.l (lv' := [(0, _), (1, _), (2, _), (3, _)]) r_X11_court_95 rfl ?_
                    refine EV.l (lv' := [(0, _), (1, _), (2, _), (3, _)]) r_X11_court_96 rfl ?_
                    refine EV.cv r_X11_court_97 (aV1 mt_192 la_106) (m_full2 mc7.nr (by omega) (by omega)) ?_
                    refine EV.p0_eq r_X11_court_100 (fun h100 => ?_) (fun h100 => ?_)
                    · -- 100 t
                      refine EV.l (lv' := [(0, _), (1, _), (2, _), (3, _)]) r_X11_court_112 rfl ?_
                      refine EV.cv r_X11_court_113 (aV0 mt_173 la_106) (m_fineG mg7 (by omega)) ?_
                      refine EV.n0_ne r_X11_court_116 (fun h116 => ?_) (fun h116 => ?_)
                      · -- 116 t
                        refine EV.l (lv' := [(0, _), (1, _), (2, _), (3, _)]) r_X11_court_122 rfl ?_
                        refine EV.cu r_X11_court_123 (aV0 mt_180 la_106) (m_pass t7 sb.tp hn mg7.en sn at7 (by omega)) (fun I8 h8 => ?_)
                        obtain ⟨at8, mp8⟩ := h8
                        have w2 := kd2_pe (kcl_w (g := S.tp) (n := n) (s := s1) (by omega))
                        have mg8 : MG S.tp n (nxp S.tp n s1) I8 := mg7.mv mp8 (scp_le sn) at8 (by unfold nxp; rw [w2.2.1])
                        refine EV.l (lv' := [(0, _), (1, _), (2, _), (3, _)]) r_X11_court_126 rfl ?_
                        refine EV.l (lv' := [(0, _), (1, _), (2, _), (3, _)]) r_X11_court_127 rfl ?_
                        refine EV.cu r_X11_court_128 (aV1 mt_193 la_106) (m_row2 (tp_fm t7 (mp8.1 108 (by decide))) sb.tp hn mg8 (mc7.mo mp8.mo) k2 kk (by omega) (by omega)) (fun I9 h9 => ?_)
                        have h9 : MD S.tp n (clsT S.tp n K s1).2 I9 ∧ (∀ s2, (clsT S.tp n K s1).2 = .inl s2 → MCd (clsT S.tp n K s1).1 I9) ∧ MF M I9 := ⟨h9.1, h9.2.1, mpx.mf.tr (mp8.mf.tr h9.2.2)⟩
                        refine EV.l (lv' := [(0, _), (1, _), (2, _), (3, _)]) r_X11_court_131 rfl ?_
                        refine EV.o r_X11_court_132 (bpN (59) 59) ?_
                        refine EV.cu r_X11_court_134 (aV1 mt_182 la_106) (m_sign (tp_fm (tp_fm t0 (hx44.1.2 108 (by decide) (by decide))) (h9.2.2.2 108 (by decide) (by decide))) sb.tp hn h9.1 (by decide) (by decide) (by decide) (by decide) (by omega)) (fun IA hA => ?_)
                        refine EV.l (lv' := [(0, _), (1, _), (2, _), (3, _)]) r_X11_court_137 rfl ?_
                        rw [inc_nI]
                        refine EV.g r_X11_court_140 ?_
                        refine EV.fg (lv' := [(0, _), (1, _), (2, _)]) r_X11_court_44 rfl rfl rfl ?_
                        refine EV.sub ?_ rfl ?_ (ih44 (i + 1, (clsS S.tp n K s1).2, (clsS S.tp n K s1).1, IA) ?_ ?_)
                        · (try dsimp only) <;> (rfl)
                        · (try dsimp only) <;> (rfl)
                        · (try dsimp only) <;> (omega)
                        · (try dsimp only) <;> (exact hx44.next hs1 (by omega) h9 hA)
                      · omega
                    · -- 100 f
                      refine EV.l (lv' := [(0, _), (1, _), (2, _), (3, _)]) r_X11_court_103 rfl ?_
                      refine EV.o r_X11_court_104 (icN (3) (v := 3)) ?_
                      refine EV.l (lv' := [(0, _), (1, _), (2, _), (3, _)]) r_X11_court_105 rfl ?_
                      refine EV.getV r_X11_court_106 la_106 (at7) ?_
                      refine EV.cu r_X11_court_109 (aV2 mt_174 la_106) (m_wrongG mg7 (by decide) (by decide) sn (by omega)) (fun I8 h8 => ?_)
                      obtain ⟨mb8, mo8⟩ := h8
                      have fin := hx44.flt hs1 (by omega) (congrArg Prod.snd (clsT_2x kk (by omega))) mb8 (mpx.mf.tr mo8.mf)
                      refine EV.l (lv' := [(0, _), (1, _), (2, _), (3, _)]) r_X11_court_112 rfl ?_
                      refine EV.cv r_X11_court_113 (aV0 mt_173 la_106) (m_fineB mb8 hn (by omega)) ?_
                      refine EV.n0_ne r_X11_court_116 (fun h116 => ?_) (fun h116 => ?_)
                      · omega
                      · -- 116 f
                        refine EV.g r_X11_court_119 ?_
                        have fin := fin
                        have mdx := fin.1
                        rw [hz] at mdx
                        have fo : ∀ o, o ≠ 106 → (o < 109 ∨ 112 < o) → I8 o = I o := fun o p1 p2 => (fin.2.2.2 o p1 p2).trans ((o3 o p1).trans ((o2 o p1).trans (by rw [e1]; exact wr_row p1)))
                        have fj : ∀ j, j ≠ 0 → j ≠ 2 → j ≠ 3 → j ≠ 4 → j ≠ 5 → j ≠ 6 → j ≠ 7 → j ≠ 8 → (j < 18 ∨ 21 < j) → I8 106 j = I 106 j := fun j p0 p2 p3 p4 p5 p6 p7 p8 p9 => (fin.2.2.1 j p4 p5 p6 p9).trans ((j3 j p9).trans ((j2 j p2 p3 p4 p5 p7 p8).trans (by rw [e1]; exact wr_ne (Or.inr p0))))
                        have f0 : I8 106 0 = nI 0 := (fin.2.2.1 0 (by decide) (by decide) (by decide) (by decide)).trans ((j3 0 (by decide)).trans ((j2 0 (by decide) (by decide) (by decide) (by decide) (by decide) (by decide)).trans (by rw [e1]; exact wr_same)))
                        have mbx : MB n k f I8 := mdx
                        have fn := mbx.fn
                        -- end
                        refine EV.l (lv' := [(0, _), (1, _), (2, _)]) r_X11_court_143 rfl ?_
                        refine EV.l (lv' := [(0, _), (1, _), (2, _)]) r_X11_court_144 rfl ?_
                        refine EV.gI r_X11_court_145 la_106 ?_
                        refine EV.ci r_X11_court_148 (aV1 mt_185 la_106) (m_resB mbx hn (by omega)) (fun v IB hB => ?_)
                        obtain ⟨e, eB⟩ := hB
                        subst e
                        refine EV.l (lv' := [(0, _), (1, _), (2, _), (3, _)]) r_X11_court_151 rfl ?_
                        refine EV.l (lv' := [(0, _), (1, _), (2, _), (3, _)]) r_X11_court_152 rfl ?_
                        refine EV.getV r_X11_court_153 la_106 ((show IB 106 5 = nI f from by rw [eB, wr_ne (Or.inr (by decide))]; exact mbx.fo)) ?_
                        refine EV.o r_X11_court_156 (icZ (-1)) ?_
                        refine EV.nz2_ne r_X11_court_157 (fun h157 => ?_) (fun h157 => ?_)
                        · -- 157 t
                          refine EV.l (lv' := [(0, _), (1, _), (2, _), (3, _)]) r_X11_court_164 rfl ?_
                          exact EV.ri r_X11_court_165 (⟨rfl, h.txt (fun j hj p2 p8 => by have q := scf_t hj; rw [eB, wr_ne (Or.inr p8)]; exact fj j q.1 p2 q.2.1 q.2.2.1 q.2.2.2.1 q.2.2.2.2.1 q.2.2.2.2.2.1 p8 q.2.2.2.2.2.2.1) (by rw [eB, wr_ne (Or.inr (by decide))]; exact mbx.ln) (by rw [eB]; exact wr_same) (fun o p1 p2 => by rw [eB, wr_row p1]; exact fo o p1 (sco_t p2)), fun o ho => by rw [eB, wr_row (by omega)]; exact fo o (by omega) (by omega), by rw [eB, wr_ne (Or.inr (by decide))]; exact f0⟩)
                        · omega
                · omega
              · -- case
                have rkk : rwo (wdv S.tp n s1) (isW S.tp n s1 tCoun) = ((3 : Nat) : Int) := by rw [rk, kk]; rfl
                refine EV.cv r_X11_court_68 (aS2 mt_190) (m_rowN (k := 3) rkk (by omega) (by omega)) ?_
                refine EV.l (lv' := [(0, _), (1, _), (2, _), (3, _)]) r_X11_court_71 rfl ?_
                refine EV.l (lv' := [(0, _), (1, _), (2, _), (3, _)]) r_X11_court_72 rfl ?_
                refine EV.o r_X11_court_73 (icZ (-1)) ?_
                refine EV.nz2_ne r_X11_court_74 (fun h74 => ?_) (fun h74 => ?_)
                · -- 74 t
                  refine EV.l (lv' := [(0, _), (1, _), (2, _), (3, _)]) r_X11_court_89 rfl ?_
                  refine EV.o r_X11_court_90 (bpN (60) 60) ?_
                  refine EV.n2_eq r_X11_court_92 (fun h92 => ?_) (fun h92 => ?_)
                  · omega
                  · -- 92 f
                    refine EV.l (lv' := [(0, _), (1, _), (2, _), (3, _)]) r_X11_court_95 rfl ?_
                    refine EV.l (lv' := [(0, _), (1, _), (2, _), (3, _)]) r_X11_court_96 rfl ?_
                    refine EV.cv r_X11_court_97 (aV1 mt_192 la_106) (m_full3 mc7.nb (by omega) (by omega)) ?_
                    refine EV.p0_eq r_X11_court_100 (fun h100 => ?_) (fun h100 => ?_)
                    · -- 100 t
                      refine EV.l (lv' := [(0, _), (1, _), (2, _), (3, _)]) r_X11_court_112 rfl ?_
                      refine EV.cv r_X11_court_113 (aV0 mt_173 la_106) (m_fineG mg7 (by omega)) ?_
                      refine EV.n0_ne r_X11_court_116 (fun h116 => ?_) (fun h116 => ?_)
                      · -- 116 t
                        refine EV.l (lv' := [(0, _), (1, _), (2, _), (3, _)]) r_X11_court_122 rfl ?_
                        refine EV.cu r_X11_court_123 (aV0 mt_180 la_106) (m_pass t7 sb.tp hn mg7.en sn at7 (by omega)) (fun I8 h8 => ?_)
                        obtain ⟨at8, mp8⟩ := h8
                        have w2 := kd2_pe (kcl_w (g := S.tp) (n := n) (s := s1) (by omega))
                        have mg8 : MG S.tp n (nxp S.tp n s1) I8 := mg7.mv mp8 (scp_le sn) at8 (by unfold nxp; rw [w2.2.1])
                        refine EV.l (lv' := [(0, _), (1, _), (2, _), (3, _)]) r_X11_court_126 rfl ?_
                        refine EV.l (lv' := [(0, _), (1, _), (2, _), (3, _)]) r_X11_court_127 rfl ?_
                        refine EV.cu r_X11_court_128 (aV1 mt_193 la_106) (m_row3 (tp_fm t7 (mp8.1 108 (by decide))) sb.tp hn mg8 (mc7.mo mp8.mo) k2 kk (by omega) (by omega)) (fun I9 h9 => ?_)
                        have h9 : MD S.tp n (clsT S.tp n K s1).2 I9 ∧ (∀ s2, (clsT S.tp n K s1).2 = .inl s2 → MCd (clsT S.tp n K s1).1 I9) ∧ MF M I9 := ⟨h9.1, h9.2.1, mpx.mf.tr (mp8.mf.tr h9.2.2)⟩
                        refine EV.l (lv' := [(0, _), (1, _), (2, _), (3, _)]) r_X11_court_131 rfl ?_
                        refine EV.o r_X11_court_132 (bpN (59) 59) ?_
                        refine EV.cu r_X11_court_134 (aV1 mt_182 la_106) (m_sign (tp_fm (tp_fm t0 (hx44.1.2 108 (by decide) (by decide))) (h9.2.2.2 108 (by decide) (by decide))) sb.tp hn h9.1 (by decide) (by decide) (by decide) (by decide) (by omega)) (fun IA hA => ?_)
                        refine EV.l (lv' := [(0, _), (1, _), (2, _), (3, _)]) r_X11_court_137 rfl ?_
                        rw [inc_nI]
                        refine EV.g r_X11_court_140 ?_
                        refine EV.fg (lv' := [(0, _), (1, _), (2, _)]) r_X11_court_44 rfl rfl rfl ?_
                        refine EV.sub ?_ rfl ?_ (ih44 (i + 1, (clsS S.tp n K s1).2, (clsS S.tp n K s1).1, IA) ?_ ?_)
                        · (try dsimp only) <;> (rfl)
                        · (try dsimp only) <;> (rfl)
                        · (try dsimp only) <;> (omega)
                        · (try dsimp only) <;> (exact hx44.next hs1 (by omega) h9 hA)
                      · omega
                    · -- 100 f
                      refine EV.l (lv' := [(0, _), (1, _), (2, _), (3, _)]) r_X11_court_103 rfl ?_
                      refine EV.o r_X11_court_104 (icN (3) (v := 3)) ?_
                      refine EV.l (lv' := [(0, _), (1, _), (2, _), (3, _)]) r_X11_court_105 rfl ?_
                      refine EV.getV r_X11_court_106 la_106 (at7) ?_
                      refine EV.cu r_X11_court_109 (aV2 mt_174 la_106) (m_wrongG mg7 (by decide) (by decide) sn (by omega)) (fun I8 h8 => ?_)
                      obtain ⟨mb8, mo8⟩ := h8
                      have fin := hx44.flt hs1 (by omega) (congrArg Prod.snd (clsT_3x kk (by omega))) mb8 (mpx.mf.tr mo8.mf)
                      refine EV.l (lv' := [(0, _), (1, _), (2, _), (3, _)]) r_X11_court_112 rfl ?_
                      refine EV.cv r_X11_court_113 (aV0 mt_173 la_106) (m_fineB mb8 hn (by omega)) ?_
                      refine EV.n0_ne r_X11_court_116 (fun h116 => ?_) (fun h116 => ?_)
                      · omega
                      · -- 116 f
                        refine EV.g r_X11_court_119 ?_
                        have fin := fin
                        have mdx := fin.1
                        rw [hz] at mdx
                        have fo : ∀ o, o ≠ 106 → (o < 109 ∨ 112 < o) → I8 o = I o := fun o p1 p2 => (fin.2.2.2 o p1 p2).trans ((o3 o p1).trans ((o2 o p1).trans (by rw [e1]; exact wr_row p1)))
                        have fj : ∀ j, j ≠ 0 → j ≠ 2 → j ≠ 3 → j ≠ 4 → j ≠ 5 → j ≠ 6 → j ≠ 7 → j ≠ 8 → (j < 18 ∨ 21 < j) → I8 106 j = I 106 j := fun j p0 p2 p3 p4 p5 p6 p7 p8 p9 => (fin.2.2.1 j p4 p5 p6 p9).trans ((j3 j p9).trans ((j2 j p2 p3 p4 p5 p7 p8).trans (by rw [e1]; exact wr_ne (Or.inr p0))))
                        have f0 : I8 106 0 = nI 0 := (fin.2.2.1 0 (by decide) (by decide) (by decide) (by decide)).trans ((j3 0 (by decide)).trans ((j2 0 (by decide) (by decide) (by decide) (by decide) (by decide) (by decide)).trans (by rw [e1]; exact wr_same)))
                        have mbx : MB n k f I8 := mdx
                        have fn := mbx.fn
                        -- end
                        refine EV.l (lv' := [(0, _), (1, _), (2, _)]) r_X11_court_143 rfl ?_
                        refine EV.l (lv' := [(0, _), (1, _), (2, _)]) r_X11_court_144 rfl ?_
                        refine EV.gI r_X11_court_145 la_106 ?_
                        refine EV.ci r_X11_court_148 (aV1 mt_185 la_106) (m_resB mbx hn (by omega)) (fun v IB hB => ?_)
                        obtain ⟨e, eB⟩ := hB
                        subst e
                        refine EV.l (lv' := [(0, _), (1, _), (2, _), (3, _)]) r_X11_court_151 rfl ?_
                        refine EV.l (lv' := [(0, _), (1, _), (2, _), (3, _)]) r_X11_court_152 rfl ?_
                        refine EV.getV r_X11_court_153 la_106 ((show IB 106 5 = nI f from by rw [eB, wr_ne (Or.inr (by decide))]; exact mbx.fo)) ?_
                        refine EV.o r_X11_court_156 (icZ (-1)) ?_
                        refine EV.nz2_ne r_X11_court_157 (fun h157 => ?_) (fun h157 => ?_)
                        · -- 157 t
                          refine EV.l (lv' := [(0, _), (1, _), (2, _), (3, _)]) r_X11_court_164 rfl ?_
                          exact EV.ri r_X11_court_165 (⟨rfl, h.txt (fun j hj p2 p8 => by have q := scf_t hj; rw [eB, wr_ne (Or.inr p8)]; exact fj j q.1 p2 q.2.1 q.2.2.1 q.2.2.2.1 q.2.2.2.2.1 q.2.2.2.2.2.1 p8 q.2.2.2.2.2.2.1) (by rw [eB, wr_ne (Or.inr (by decide))]; exact mbx.ln) (by rw [eB]; exact wr_same) (fun o p1 p2 => by rw [eB, wr_row p1]; exact fo o p1 (sco_t p2)), fun o ho => by rw [eB, wr_row (by omega)]; exact fo o (by omega) (by omega), by rw [eB, wr_ne (Or.inr (by decide))]; exact f0⟩)
                        · omega
                · omega
              · -- case
                have rkk : rwo (wdv S.tp n s1) (isW S.tp n s1 tCoun) = ((4 : Nat) : Int) := by rw [rk, kk]; rfl
                refine EV.cv r_X11_court_68 (aS2 mt_190) (m_rowN (k := 4) rkk (by omega) (by omega)) ?_
                refine EV.l (lv' := [(0, _), (1, _), (2, _), (3, _)]) r_X11_court_71 rfl ?_
                refine EV.l (lv' := [(0, _), (1, _), (2, _), (3, _)]) r_X11_court_72 rfl ?_
                refine EV.o r_X11_court_73 (icZ (-1)) ?_
                refine EV.nz2_ne r_X11_court_74 (fun h74 => ?_) (fun h74 => ?_)
                · -- 74 t
                  refine EV.l (lv' := [(0, _), (1, _), (2, _), (3, _)]) r_X11_court_89 rfl ?_
                  refine EV.o r_X11_court_90 (bpN (60) 60) ?_
                  refine EV.n2_eq r_X11_court_92 (fun h92 => ?_) (fun h92 => ?_)
                  · omega
                  · -- 92 f
                    refine EV.l (lv' := [(0, _), (1, _), (2, _), (3, _)]) r_X11_court_95 rfl ?_
                    refine EV.l (lv' := [(0, _), (1, _), (2, _), (3, _)]) r_X11_court_96 rfl ?_
                    refine EV.cv r_X11_court_97 (aV1 mt_192 la_106) (m_full4 mc7.nc (by omega) (by omega)) ?_
                    refine EV.p0_eq r_X11_court_100 (fun h100 => ?_) (fun h100 => ?_)
                    · -- 100 t
                      refine EV.l (lv' := [(0, _), (1, _), (2, _), (3, _)]) r_X11_court_112 rfl ?_
                      refine EV.cv r_X11_court_113 (aV0 mt_173 la_106) (m_fineG mg7 (by omega)) ?_
                      refine EV.n0_ne r_X11_court_116 (fun h116 => ?_) (fun h116 => ?_)
                      · -- 116 t
                        refine EV.l (lv' := [(0, _), (1, _), (2, _), (3, _)]) r_X11_court_122 rfl ?_
                        refine EV.cu r_X11_court_123 (aV0 mt_180 la_106) (m_pass t7 sb.tp hn mg7.en sn at7 (by omega)) (fun I8 h8 => ?_)
                        obtain ⟨at8, mp8⟩ := h8
                        have w2 := kd2_pe (kcl_w (g := S.tp) (n := n) (s := s1) (by omega))
                        have mg8 : MG S.tp n (nxp S.tp n s1) I8 := mg7.mv mp8 (scp_le sn) at8 (by unfold nxp; rw [w2.2.1])
                        refine EV.l (lv' := [(0, _), (1, _), (2, _), (3, _)]) r_X11_court_126 rfl ?_
                        refine EV.l (lv' := [(0, _), (1, _), (2, _), (3, _)]) r_X11_court_127 rfl ?_
                        refine EV.cu r_X11_court_128 (aV1 mt_193 la_106) (m_row4 (tp_fm t7 (mp8.1 108 (by decide))) sb.tp hn mg8 (mc7.mo mp8.mo) k2 kk (by omega) (by omega)) (fun I9 h9 => ?_)
                        have h9 : MD S.tp n (clsT S.tp n K s1).2 I9 ∧ (∀ s2, (clsT S.tp n K s1).2 = .inl s2 → MCd (clsT S.tp n K s1).1 I9) ∧ MF M I9 := ⟨h9.1, h9.2.1, mpx.mf.tr (mp8.mf.tr h9.2.2)⟩
                        refine EV.l (lv' := [(0, _), (1, _), (2, _), (3, _)]) r_X11_court_131 rfl ?_
                        refine EV.o r_X11_court_132 (bpN (59) 59) ?_
                        refine EV.cu r_X11_court_134 (aV1 mt_182 la_106) (m_sign (tp_fm (tp_fm t0 (hx44.1.2 108 (by decide) (by decide))) (h9.2.2.2 108 (by decide) (by decide))) sb.tp hn h9.1 (by decide) (by decide) (by decide) (by decide) (by omega)) (fun IA hA => ?_)
                        refine EV.l (lv' := [(0, _), (1, _), (2, _), (3, _)]) r_X11_court_137 rfl ?_
                        rw [inc_nI]
                        refine EV.g r_X11_court_140 ?_
                        refine EV.fg (lv' := [(0, _), (1, _), (2, _)]) r_X11_court_44 rfl rfl rfl ?_
                        refine EV.sub ?_ rfl ?_ (ih44 (i + 1, (clsS S.tp n K s1).2, (clsS S.tp n K s1).1, IA) ?_ ?_)
                        · (try dsimp only) <;> (rfl)
                        · (try dsimp only) <;> (rfl)
                        · (try dsimp only) <;> (omega)
                        · (try dsimp only) <;> (exact hx44.next hs1 (by omega) h9 hA)
                      · omega
                    · -- 100 f
                      refine EV.l (lv' := [(0, _), (1, _), (2, _), (3, _)]) r_X11_court_103 rfl ?_
                      refine EV.o r_X11_court_104 (icN (3) (v := 3)) ?_
                      refine EV.l (lv' := [(0, _), (1, _), (2, _), (3, _)]) r_X11_court_105 rfl ?_
                      refine EV.getV r_X11_court_106 la_106 (at7) ?_
                      refine EV.cu r_X11_court_109 (aV2 mt_174 la_106) (m_wrongG mg7 (by decide) (by decide) sn (by omega)) (fun I8 h8 => ?_)
                      obtain ⟨mb8, mo8⟩ := h8
                      have fin := hx44.flt hs1 (by omega) (congrArg Prod.snd (clsT_4x kk (by omega))) mb8 (mpx.mf.tr mo8.mf)
                      refine EV.l (lv' := [(0, _), (1, _), (2, _), (3, _)]) r_X11_court_112 rfl ?_
                      refine EV.cv r_X11_court_113 (aV0 mt_173 la_106) (m_fineB mb8 hn (by omega)) ?_
                      refine EV.n0_ne r_X11_court_116 (fun h116 => ?_) (fun h116 => ?_)
                      · omega
                      · -- 116 f
                        refine EV.g r_X11_court_119 ?_
                        have fin := fin
                        have mdx := fin.1
                        rw [hz] at mdx
                        have fo : ∀ o, o ≠ 106 → (o < 109 ∨ 112 < o) → I8 o = I o := fun o p1 p2 => (fin.2.2.2 o p1 p2).trans ((o3 o p1).trans ((o2 o p1).trans (by rw [e1]; exact wr_row p1)))
                        have fj : ∀ j, j ≠ 0 → j ≠ 2 → j ≠ 3 → j ≠ 4 → j ≠ 5 → j ≠ 6 → j ≠ 7 → j ≠ 8 → (j < 18 ∨ 21 < j) → I8 106 j = I 106 j := fun j p0 p2 p3 p4 p5 p6 p7 p8 p9 => (fin.2.2.1 j p4 p5 p6 p9).trans ((j3 j p9).trans ((j2 j p2 p3 p4 p5 p7 p8).trans (by rw [e1]; exact wr_ne (Or.inr p0))))
                        have f0 : I8 106 0 = nI 0 := (fin.2.2.1 0 (by decide) (by decide) (by decide) (by decide)).trans ((j3 0 (by decide)).trans ((j2 0 (by decide) (by decide) (by decide) (by decide) (by decide) (by decide)).trans (by rw [e1]; exact wr_same)))
                        have mbx : MB n k f I8 := mdx
                        have fn := mbx.fn
                        -- end
                        refine EV.l (lv' := [(0, _), (1, _), (2, _)]) r_X11_court_143 rfl ?_
                        refine EV.l (lv' := [(0, _), (1, _), (2, _)]) r_X11_court_144 rfl ?_
                        refine EV.gI r_X11_court_145 la_106 ?_
                        refine EV.ci r_X11_court_148 (aV1 mt_185 la_106) (m_resB mbx hn (by omega)) (fun v IB hB => ?_)
                        obtain ⟨e, eB⟩ := hB
                        subst e
                        refine EV.l (lv' := [(0, _), (1, _), (2, _), (3, _)]) r_X11_court_151 rfl ?_
                        refine EV.l (lv' := [(0, _), (1, _), (2, _), (3, _)]) r_X11_court_152 rfl ?_
                        refine EV.getV r_X11_court_153 la_106 ((show IB 106 5 = nI f from by rw [eB, wr_ne (Or.inr (by decide))]; exact mbx.fo)) ?_
                        refine EV.o r_X11_court_156 (icZ (-1)) ?_
                        refine EV.nz2_ne r_X11_court_157 (fun h157 => ?_) (fun h157 => ?_)
                        · -- 157 t
                          refine EV.l (lv' := [(0, _), (1, _), (2, _), (3, _)]) r_X11_court_164 rfl ?_
                          exact EV.ri r_X11_court_165 (⟨rfl, h.txt (fun j hj p2 p8 => by have q := scf_t hj; rw [eB, wr_ne (Or.inr p8)]; exact fj j q.1 p2 q.2.1 q.2.2.1 q.2.2.2.1 q.2.2.2.2.1 q.2.2.2.2.2.1 p8 q.2.2.2.2.2.2.1) (by rw [eB, wr_ne (Or.inr (by decide))]; exact mbx.ln) (by rw [eB]; exact wr_same) (fun o p1 p2 => by rw [eB, wr_row p1]; exact fo o p1 (sco_t p2)), fun o ho => by rw [eB, wr_row (by omega)]; exact fo o (by omega) (by omega), by rw [eB, wr_ne (Or.inr (by decide))]; exact f0⟩)
                        · omega
                · omega
        have h0 := L44 (0, .inl (scp isB S.tp n 0), zer κ, I3)
        try dsimp only at h0
        refine EV.sub ?_ rfl ?_ (h0 ?_)
        · (try dsimp only) <;> (rfl)
        · (try dsimp only) <;> (rfl)
        · (try dsimp only) <;> (exact ⟨MF.rf, mg3, by decide, mc3, cu.zer, rfl, rfl⟩)
      · omega
theorem m_courtX {d : Nat} {I : Nat → Nat → Int32} {J : Nat → Nat → Int64} {S : STT} (sb : SB S) (h : MIn S I) {n : Int} (n1 : -2147483648 ≤ n) (n2 : n < 2147483648) (hx : ¬ (0 ≤ n ∧ n ≤ S.tl))  (hd : 9 ≤ d) : RI d 194 [.ref 106, .int (zI n)] I J (fun v I' => I' = refM I 1 1) := by
  refine RI.in (d0 := 8) hd mt_194 (Nat.le_of_ble_eq_true rfl) (fun d' hd' => ?_)
  have tl6 := sb.tl
  show EV none M_X11_court d' 0 [(0, .ref 106), (1, .int (zI n))] [] (hp I J) _
  refine EV.l (lv' := [(0, _), (1, _)]) r_X11_court_0 rfl ?_
  refine EV.o r_X11_court_1 (icN (0) (v := 0)) ?_
  refine EV.pIn r_X11_court_2 la_106 (fun I1 e1 => ?_)
  refine EV.l (lv' := [(0, _), (1, _)]) r_X11_court_5 rfl ?_
  refine EV.l (lv' := [(0, _), (1, _)]) r_X11_court_6 rfl ?_
  refine EV.z0_lt r_X11_court_7 (fun h7 => ?_) (fun h7 => ?_)
  · -- 7 t
    refine EV.o r_X11_court_22 (icN (0) (v := 0)) ?_
    refine EV.o r_X11_court_23 (icN (1) (v := 1)) ?_
    subst e1
    refine EV.o r_X11_court_24 (icN (1) (v := 1)) ?_
    refine EV.ci r_X11_court_25 (aV3 mt_169 la_106) (m_may0 wr_same (by decide) (by decide) (by decide) (by omega)) (fun v I2 h2 => ?_)
    obtain ⟨e, fr_⟩ := h2
    subst e
    refine EV.n0_ne r_X11_court_28 (fun h28 => ?_) (fun h28 => ?_)
    · omega
    · -- 28 f
      refine EV.o r_X11_court_31 (icN (0) (v := 0)) ?_
      exact EV.ri r_X11_court_32 (fr_)
  · -- 7 f
    refine EV.l (lv' := [(0, _), (1, _)]) r_X11_court_10 rfl ?_
    refine EV.l (lv' := [(0, _), (1, _)]) r_X11_court_11 rfl ?_
    refine EV.getV r_X11_court_12 la_106 ((show I1 106 2 = nI S.tl from by rw [e1, wr_ne (Or.inr (by decide))]; exact h.tl)) ?_
    refine EV.zn2_gt r_X11_court_15 (fun h15 => ?_) (fun h15 => ?_)
    · -- 15 t
      refine EV.o r_X11_court_22 (icN (0) (v := 0)) ?_
      refine EV.o r_X11_court_23 (icN (1) (v := 1)) ?_
      subst e1
      refine EV.o r_X11_court_24 (icN (1) (v := 1)) ?_
      refine EV.ci r_X11_court_25 (aV3 mt_169 la_106) (m_may0 wr_same (by decide) (by decide) (by decide) (by omega)) (fun v I2 h2 => ?_)
      obtain ⟨e, fr_⟩ := h2
      subst e
      refine EV.n0_ne r_X11_court_28 (fun h28 => ?_) (fun h28 => ?_)
      · omega
      · -- 28 f
        refine EV.o r_X11_court_31 (icN (0) (v := 0)) ?_
        exact EV.ri r_X11_court_32 (fr_)
    · -- 15 f
      refine EV.o r_X11_court_18 (icN (1) (v := 1)) ?_
      refine EV.g r_X11_court_19 ?_
      refine EV.o r_X11_court_23 (icN (1) (v := 1)) ?_
      subst e1
      refine EV.o r_X11_court_24 (icN (1) (v := 1)) ?_
      omega
