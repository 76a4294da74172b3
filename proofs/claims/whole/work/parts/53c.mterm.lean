/-! (goes on) -/
theorem m_span1 {d : Nat} {I : Nat → Nat → Int32} {J : Nat → Nat → Int64} {κ : CT} {l : LW} {η : HS} (mc_ : MC κ I) (cb : CB κ) (mr : MR 125 κ η I) (ml_ : ML l I) (lb : LB l) (ho : hOk κ l η η.mi) (h4 : η.mi ≤ 400) {s : Int32} {q n : Nat} (hq : q ≤ 16) (h1 : 1 ≤ n) (h2 : n ≤ 48) {m x : Nat} (hm : 1 ≤ m) (hm2 : m ≤ 10) (hx : x < κ.ns)  (hd : 16 ≤ d) : RI d 284 [.ref 106, .int s, .int (nI m), .int (nI q), .int (nI n), .int (nI 1), .int (nI x)] I J (fun v I' => v = zI (spM κ l q n s η m) ∧ FR I I' ∧ I' 106 0 = nI 0) := by
  refine RI.in (d0 := 15) hd mt_284 (Nat.le_of_ble_eq_true rfl) (fun d' hd' => ?_)
  have bns := cb.ns; have bnb := cb.nb; have bnc := cb.nc; have bnr := cb.nr
  have mc1 := wr0_mc (v := nI 0) mc_; have mr1 := MR.fr (I' := wr I 106 0 (nI 0)) mr (wr_row (by decide)); have ml1 := ml_.fr0 (I' := wr I 106 0 (nI 0)) (fun _ hj => wr_ne (Or.inr hj)) rfl rfl
  show EV none M_X11_span d' 0 [(0, .ref 106), (1, .int s), (2, .int (nI m)), (3, .int (nI q)), (4, .int (nI n)), (5, .int (nI 1)), (6, .int (nI x))] [] (hp I J) _
  refine EV.l (lv' := [(0, _), (1, _), (2, _), (3, _), (4, _), (5, _), (6, _)]) r_X11_span_0 rfl ?_
  refine EV.o r_X11_span_1 (icN (0) (v := 0)) ?_
  refine EV.pI r_X11_span_2 la_106 ?_
  refine EV.l (lv' := [(0, _), (1, _), (2, _), (3, _), (4, _), (5, _), (6, _)]) r_X11_span_5 rfl ?_
  refine EV.l (lv' := [(0, _), (1, _), (2, _), (3, _), (4, _), (5, _), (6, _)]) r_X11_span_6 rfl ?_
  refine EV.o r_X11_span_7 (icN (1) (v := 1)) ?_
  refine EV.o r_X11_span_8 (bpN (10) 10) ?_
  refine EV.cv r_X11_span_10 (aS3 mt_170) (m_wNNN (by omega) (by omega) (by omega) (by omega)) ?_
  refine EV.p0_eq r_X11_span_13 (fun h13 => ?_) (fun h13 => ?_)
  · -- 13 t
    refine EV.o r_X11_span_54 (icN (0) (v := 0)) ?_
    refine EV.o r_X11_span_55 (icN (1) (v := 1)) ?_
    refine EV.o r_X11_span_56 (icN (1) (v := 1)) ?_
    omega
  · -- 13 f
    refine EV.l (lv' := [(0, _), (1, _), (2, _), (3, _), (4, _), (5, _), (6, _)]) r_X11_span_16 rfl ?_
    refine EV.l (lv' := [(0, _), (1, _), (2, _), (3, _), (4, _), (5, _), (6, _)]) r_X11_span_17 rfl ?_
    refine EV.cv r_X11_span_19 (aS2 mt_282) (m_isTerm1 hq h1 h2 (by omega)) ?_
    refine EV.n0_eq r_X11_span_22 (fun h22 => ?_) (fun h22 => ?_)
    · omega
    · -- 22 f
      refine EV.l (lv' := [(0, _), (1, _), (2, _), (3, _), (4, _), (5, _), (6, _)]) r_X11_span_25 rfl ?_
      refine EV.o r_X11_span_27 (icN (0) (v := 0)) ?_
      refine EV.o r_X11_span_28 (icN (2) (v := 2)) ?_
      refine EV.cv r_X11_span_29 (aS3 mt_170) (m_wNNN (by omega) (by omega) (by omega) (by omega)) ?_
      refine EV.p0_eq r_X11_span_32 (fun h32 => ?_) (fun h32 => ?_)
      · -- 32 t
        refine EV.o r_X11_span_54 (icN (0) (v := 0)) ?_
        refine EV.o r_X11_span_55 (icN (1) (v := 1)) ?_
        refine EV.o r_X11_span_56 (icN (1) (v := 1)) ?_
        omega
      · -- 32 f
        refine EV.l (lv' := [(0, _), (1, _), (2, _), (3, _), (4, _), (5, _), (6, _)]) r_X11_span_35 rfl ?_
        refine EV.o r_X11_span_37 (icN (0) (v := 0)) ?_
        refine EV.l (lv' := [(0, _), (1, _), (2, _), (3, _), (4, _), (5, _), (6, _)]) r_X11_span_38 rfl ?_
        refine EV.getV r_X11_span_39 la_106 (mc1.ns) ?_
        refine EV.o r_X11_span_42 (icN (1) (v := 1)) ?_
        refine EV.o r_X11_span_43 (isubN) ?_
        refine EV.cv r_X11_span_44 (aS3 mt_170) (m_wNNN (by omega) (by omega) (by omega) (by omega)) ?_
        refine EV.p0_eq r_X11_span_47 (fun h47 => ?_) (fun h47 => ?_)
        · -- 47 t
          refine EV.o r_X11_span_54 (icN (0) (v := 0)) ?_
          refine EV.o r_X11_span_55 (icN (1) (v := 1)) ?_
          refine EV.o r_X11_span_56 (icN (1) (v := 1)) ?_
          omega
        · -- 47 f
          refine EV.o r_X11_span_50 (icN (1) (v := 1)) ?_
          refine EV.g r_X11_span_51 ?_
          refine EV.o r_X11_span_55 (icN (1) (v := 1)) ?_
          refine EV.o r_X11_span_56 (icN (1) (v := 1)) ?_
          refine EV.cv r_X11_span_57 (aV3 mt_169 la_106) (m_mayN wr_same (by omega)) ?_
          refine EV.n0_ne r_X11_span_60 (fun h60 => ?_) (fun h60 => ?_)
          · -- 60 t
            refine EV.o r_X11_span_65 (icN (0) (v := 0)) ?_
            refine EV.l (lv' := [(0, _), (1, _), (2, _), (3, _), (4, _), (5, _), (6, _), (7, _)]) r_X11_span_66 rfl ?_
            refine EV.o r_X11_span_68 (icN (0) (v := 0)) ?_
            refine EV.l (lv' := [(0, _), (1, _), (2, _), (3, _), (4, _), (5, _), (6, _), (7, _), (8, _)]) r_X11_span_69 rfl ?_
            refine EV.o r_X11_span_71 (icN (0) (v := 0)) ?_
            refine EV.l (lv' := [(0, _), (1, _), (2, _), (3, _), (4, _), (5, _), (6, _), (7, _), (8, _), (9, _)]) r_X11_span_72 rfl ?_
            refine EV.o r_X11_span_74 (icN (0) (v := 0)) ?_
            refine EV.l (lv' := [(0, _), (1, _), (2, _), (3, _), (4, _), (5, _), (6, _), (7, _), (8, _), (9, _), (10, _)]) r_X11_span_75 rfl ?_
            have L77 : ∀ y_ : Nat × (Nat → Nat → Int32), (fun y => (y.1 ≤ m ∧ FRT (wr I 106 0 (nI 0)) y.2) → EV none M_X11_span d' 77 [(0, .ref 106), (1, .int s), (2, .int (nI m)), (3, .int (nI q)), (4, .int (nI n)), (5, .int (nI 1)), (6, .int (nI x)), (7, .int (zI (spL κ l q n s η y.1))), (8, .int (zI (spM κ l q n s η y.1))), (9, .int (nI (spC κ l q n s η x y.1))), (10, .int (nI y.1))] [] (hp y.2 J) (QI J (fun v I' => v = zI (spM κ l q n s η m) ∧ FR I I' ∧ I' 106 0 = nI 0))) y_ := by
              refine ev_loop (fun y => m - y.1) ?_
              intro ⟨i, I1⟩ ih77 hx77
              try dsimp only at ih77
              try dsimp only at hx77
              try dsimp only
              obtain ⟨il, fx⟩ := hx77
              have mcx := fx.mc mc1; have mlx := fx.ml ml1; have mrx : MR 125 κ η I1 := mr1.fr (fx.1 125 (by decide) (by decide) (by decide) (by decide))
              have bl := spL_b (l := l) (q := q) (n := n) (s := s) (η := η) cb i; have bM := spM_b (l := l) (q := q) (n := n) (s := s) (η := η) cb i
              refine EV.l (lv' := [(0, _), (1, _), (2, _), (3, _), (4, _), (5, _), (6, _), (7, _), (8, _), (9, _), (10, _)]) r_X11_span_77 rfl ?_
              refine EV.l (lv' := [(0, _), (1, _), (2, _), (3, _), (4, _), (5, _), (6, _), (7, _), (8, _), (9, _), (10, _)]) r_X11_span_79 rfl ?_
              refine EV.n2_ge r_X11_span_80 (fun h80 => ?_) (fun h80 => ?_)
              · -- 80 t
                obtain rfl : i = m := by omega
                refine EV.l (lv' := [(0, _), (1, _), (2, _), (3, _), (4, _), (5, _), (6, _), (7, _), (8, _), (9, _), (10, _)]) r_X11_span_173 rfl ?_
                refine EV.n0_ne r_X11_span_175 (fun h175 => ?_) (fun h175 => ?_)
                · -- 175 t
                  refine EV.l (lv' := [(0, _), (1, _), (2, _), (3, _), (4, _), (5, _), (6, _), (7, _), (8, _), (9, _), (10, _)]) r_X11_span_183 rfl ?_
                  refine EV.o r_X11_span_185 (icN (1) (v := 1)) ?_
                  refine EV.n2_ne r_X11_span_186 (fun h186 => ?_) (fun h186 => ?_)
                  · omega
                  · -- 186 f
                    refine EV.l (lv' := [(0, _), (1, _), (2, _), (3, _), (4, _), (5, _), (6, _), (7, _), (8, _), (9, _), (10, _)]) r_X11_span_189 rfl ?_
                    refine EV.g r_X11_span_191 ?_
                    exact EV.ri r_X11_span_196 (⟨rfl, fx.fr (fun x hx => wr_row hx) (fun j hj => wr_ne (Or.inr hj)), (fx.2 0 (by decide)).trans wr_same⟩)
                · omega
              · -- 80 f
                refine EV.l (lv' := [(0, _), (1, _), (2, _), (3, _), (4, _), (5, _), (6, _), (7, _), (8, _), (9, _), (10, _)]) r_X11_span_83 rfl ?_
                refine EV.l (lv' := [(0, _), (1, _), (2, _), (3, _), (4, _), (5, _), (6, _), (7, _), (8, _), (9, _), (10, _)]) r_X11_span_84 rfl ?_
                refine EV.l (lv' := [(0, _), (1, _), (2, _), (3, _), (4, _), (5, _), (6, _), (7, _), (8, _), (9, _), (10, _)]) r_X11_span_85 rfl ?_
                refine EV.o r_X11_span_87 rfl ?_
                refine EV.l (lv' := [(0, _), (1, _), (2, _), (3, _), (4, _), (5, _), (6, _), (7, _), (8, _), (9, _), (10, _)]) r_X11_span_88 rfl ?_
                refine EV.l (lv' := [(0, _), (1, _), (2, _), (3, _), (4, _), (5, _), (6, _), (7, _), (8, _), (9, _), (10, _)]) r_X11_span_89 rfl ?_
                refine EV.cu r_X11_span_91 (aV3 mt_281 la_106) (m_termGoes mcx cb mrx mlx lb ho h4 (s := (s + nI i)) hq h2 (by omega)) (fun I3 h3 => ?_)
                obtain ⟨mr3, f3⟩ := h3
                have mc3 := f3.mc mcx; have ml3 := f3.ml mlx
                have hk3 := trm_ok (q := q) (p := ((s + nI i), η)) ho h4 n h2; have hb3 := hk3.1; have wm3 := hk3.2.1; have bm3 := hb3.mi
                have lbv := lean_b cb (heard κ (trm κ l q (s + nI i, η) n).2 (trm κ l q (s + nI i, η) n).2.mi)
                refine EV.l (lv' := [(0, _), (1, _), (2, _), (3, _), (4, _), (5, _), (6, _), (7, _), (8, _), (9, _), (10, _)]) r_X11_span_94 rfl ?_
                refine EV.l (lv' := [(0, _), (1, _), (2, _), (3, _), (4, _), (5, _), (6, _), (7, _), (8, _), (9, _), (10, _)]) r_X11_span_95 rfl ?_
                refine EV.l (lv' := [(0, _), (1, _), (2, _), (3, _), (4, _), (5, _), (6, _), (7, _), (8, _), (9, _), (10, _)]) r_X11_span_96 rfl ?_
                refine EV.gR r_X11_span_97 la_106 ?_
                refine EV.o r_X11_span_100 (bpN (30) 30) ?_
                refine EV.iaN r_X11_span_102 la_126 (mr3.mi) ?_
                refine EV.ci r_X11_span_103 (aV1 mt_226 la_106) (m_heardBy mc3 cb mr3 hb3 ml3 lb (by omega) (by omega)) (fun v I4 h4_ => ?_)
                obtain ⟨e, fr4⟩ := h4_
                subst e
                rw [hd_eq hb3 wm3]
                have f4 := f3.tr (FRT.m2 fr4)
                have mc4 := (FRT.m2 fr4).mc mc3; have ml4 := (FRT.m2 fr4).ml ml3; have mr4 : MR 126 κ (trm κ l q (s + nI i, η) n).2 I4 := mr3.fr (fr4 126 (by decide) (by decide))
                refine EV.cv r_X11_span_106 (aV1 mt_225 la_106) (m_lean mc4 cb (heard_lt _) (by omega)) ?_
                change EV _ _ _ _ _ (.int (zI (spV κ l q n s η i)) :: _) _ _
                have lv_ : -540 ≤ spV κ l q n s η i ∧ spV κ l q n s η i ≤ 540 := lbv
                refine EV.l (lv' := [(0, _), (1, _), (2, _), (3, _), (4, _), (5, _), (6, _), (7, _), (8, _), (9, _), (10, _), (11, _)]) r_X11_span_109 rfl ?_
                refine EV.l (lv' := [(0, _), (1, _), (2, _), (3, _), (4, _), (5, _), (6, _), (7, _), (8, _), (9, _), (10, _), (11, _)]) r_X11_span_111 rfl ?_
                refine EV.n0_eq r_X11_span_113 (fun h113 => ?_) (fun h113 => ?_)
                · -- 113 t
                  refine EV.l (lv' := [(0, _), (1, _), (2, _), (3, _), (4, _), (5, _), (6, _), (7, _), (8, _), (9, _), (10, _), (11, _)]) r_X11_span_123 rfl ?_
                  refine EV.g r_X11_span_125 ?_
                  refine EV.l (lv' := [(0, _), (1, _), (2, _), (3, _), (4, _), (5, _), (6, _), (7, _), (8, _), (9, _), (10, _), (11, _)]) r_X11_span_130 rfl ?_
                  refine EV.l (lv' := [(0, _), (1, _), (2, _), (3, _), (4, _), (5, _), (6, _), (7, _), (8, _), (9, _), (10, _), (11, _)]) r_X11_span_132 rfl ?_
                  refine EV.n0_eq r_X11_span_134 (fun h134 => ?_) (fun h134 => ?_)
                  · -- 134 t
                    refine EV.l (lv' := [(0, _), (1, _), (2, _), (3, _), (4, _), (5, _), (6, _), (7, _), (8, _), (9, _), (10, _), (11, _)]) r_X11_span_144 rfl ?_
                    refine EV.g r_X11_span_146 ?_
                    refine EV.l (lv' := [(0, _), (1, _), (2, _), (3, _), (4, _), (5, _), (6, _), (7, _), (8, _), (9, _), (10, _), (11, _)]) r_X11_span_151 rfl ?_
                    refine EV.l (lv' := [(0, _), (1, _), (2, _), (3, _), (4, _), (5, _), (6, _), (7, _), (8, _), (9, _), (10, _), (11, _)]) r_X11_span_153 rfl ?_
                    refine EV.l (lv' := [(0, _), (1, _), (2, _), (3, _), (4, _), (5, _), (6, _), (7, _), (8, _), (9, _), (10, _), (11, _)]) r_X11_span_155 rfl ?_
                    refine EV.ci r_X11_span_156 (aV0 mt_221 la_106) (m_countsNow mc4 cb mr4 hb3 ml4 lb (by omega)) (fun v I5 h5_ => ?_)
                    obtain ⟨e, fr5⟩ := h5_
                    subst e
                    rw [cn_eq hb3 wm3]
                    have c9 := cnt_lt (η := (trm κ l q (s + nI i, η) n).2) cb
                    have f5 := f4.tr (FRT.m2 fr5)
                    refine EV.l (lv' := [(0, _), (1, _), (2, _), (3, _), (4, _), (5, _), (6, _), (7, _), (8, _), (9, _), (10, _), (11, _)]) r_X11_span_159 rfl ?_
                    refine EV.o r_X11_span_161 (ishrN) ?_
                    refine EV.o r_X11_span_162 (icN (1) (v := 1)) ?_
                    refine EV.o r_X11_span_163 (ibitN) ?_
                    rw [cnt_bit hx]
                    change EV _ _ _ _ _ (.int (nI (doesC κ (spE κ l q n s η i) x).toNat) :: _) _ _
                    refine EV.o r_X11_span_164 iaddN ?_
                    refine EV.l (lv' := [(0, _), (1, _), (2, _), (3, _), (4, _), (5, _), (6, _), (7, _), (8, _), (9, _), (10, _), (11, _)]) r_X11_span_165 rfl ?_
                    refine EV.l (lv' := [(0, _), (1, _), (2, _), (3, _), (4, _), (5, _), (6, _), (7, _), (8, _), (9, _), (10, _), (11, _)]) r_X11_span_167 rfl ?_
                    rw [inc_nI]
                    refine EV.g r_X11_span_170 ?_
                    refine EV.fg (lv' := [(0, _), (1, _), (2, _), (3, _), (4, _), (5, _), (6, _), (7, _), (8, _), (9, _), (10, _)]) r_X11_span_77 rfl rfl rfl ?_
                    refine EV.sub ?_ rfl ?_ (ih77 (i + 1, I5) ?_ ?_)
                    · (try dsimp only) <;> (first | (exfalso; omega) | rw [spL_0 (by omega), spM_0 (by omega), spC_b] | rw [spL_s (by omega), spM_s (by omega), spC_b, Int.min_eq_right (by omega), Int.max_eq_right (by omega)] | rw [spL_s (by omega), spM_s (by omega), spC_b, Int.min_eq_left (by omega), Int.max_eq_right (by omega)] | rw [spL_s (by omega), spM_s (by omega), spC_b, Int.min_eq_right (by omega), Int.max_eq_left (by omega)] | rw [spL_s (by omega), spM_s (by omega), spC_b, Int.min_eq_left (by omega), Int.max_eq_left (by omega)])
                    · (try dsimp only) <;> (rfl)
                    · (try dsimp only) <;> (omega)
                    · (try dsimp only) <;> (exact ⟨by omega, fx.tr f5⟩)
                  · -- 134 f
                    refine EV.l (lv' := [(0, _), (1, _), (2, _), (3, _), (4, _), (5, _), (6, _), (7, _), (8, _), (9, _), (10, _), (11, _)]) r_X11_span_137 rfl ?_
                    refine EV.l (lv' := [(0, _), (1, _), (2, _), (3, _), (4, _), (5, _), (6, _), (7, _), (8, _), (9, _), (10, _), (11, _)]) r_X11_span_139 rfl ?_
                    refine EV.z2_le r_X11_span_141 (fun h141 => ?_) (fun h141 => ?_)
                    · -- 141 t
                      refine EV.l (lv' := [(0, _), (1, _), (2, _), (3, _), (4, _), (5, _), (6, _), (7, _), (8, _), (9, _), (10, _), (11, _)]) r_X11_span_149 rfl ?_
                      refine EV.l (lv' := [(0, _), (1, _), (2, _), (3, _), (4, _), (5, _), (6, _), (7, _), (8, _), (9, _), (10, _), (11, _)]) r_X11_span_151 rfl ?_
                      refine EV.l (lv' := [(0, _), (1, _), (2, _), (3, _), (4, _), (5, _), (6, _), (7, _), (8, _), (9, _), (10, _), (11, _)]) r_X11_span_153 rfl ?_
                      refine EV.l (lv' := [(0, _), (1, _), (2, _), (3, _), (4, _), (5, _), (6, _), (7, _), (8, _), (9, _), (10, _), (11, _)]) r_X11_span_155 rfl ?_
                      refine EV.ci r_X11_span_156 (aV0 mt_221 la_106) (m_countsNow mc4 cb mr4 hb3 ml4 lb (by omega)) (fun v I5 h5_ => ?_)
                      obtain ⟨e, fr5⟩ := h5_
                      subst e
                      rw [cn_eq hb3 wm3]
                      have c9 := cnt_lt (η := (trm κ l q (s + nI i, η) n).2) cb
                      have f5 := f4.tr (FRT.m2 fr5)
                      refine EV.l (lv' := [(0, _), (1, _), (2, _), (3, _), (4, _), (5, _), (6, _), (7, _), (8, _), (9, _), (10, _), (11, _)]) r_X11_span_159 rfl ?_
                      refine EV.o r_X11_span_161 (ishrN) ?_
                      refine EV.o r_X11_span_162 (icN (1) (v := 1)) ?_
                      refine EV.o r_X11_span_163 (ibitN) ?_
                      rw [cnt_bit hx]
                      change EV _ _ _ _ _ (.int (nI (doesC κ (spE κ l q n s η i) x).toNat) :: _) _ _
                      refine EV.o r_X11_span_164 iaddN ?_
                      refine EV.l (lv' := [(0, _), (1, _), (2, _), (3, _), (4, _), (5, _), (6, _), (7, _), (8, _), (9, _), (10, _), (11, _)]) r_X11_span_165 rfl ?_
                      refine EV.l (lv' := [(0, _), (1, _), (2, _), (3, _), (4, _), (5, _), (6, _), (7, _), (8, _), (9, _), (10, _), (11, _)]) r_X11_span_167 rfl ?_
                      rw [inc_nI]
                      refine EV.g r_X11_span_170 ?_
                      refine EV.fg (lv' := [(0, _), (1, _), (2, _), (3, _), (4, _), (5, _), (6, _), (7, _), (8, _), (9, _), (10, _)]) r_X11_span_77 rfl rfl rfl ?_
                      refine EV.sub ?_ rfl ?_ (ih77 (i + 1, I5) ?_ ?_)
                      · (try dsimp only) <;> (first | (exfalso; omega) | rw [spL_0 (by omega), spM_0 (by omega), spC_b] | rw [spL_s (by omega), spM_s (by omega), spC_b, Int.min_eq_right (by omega), Int.max_eq_right (by omega)] | rw [spL_s (by omega), spM_s (by omega), spC_b, Int.min_eq_left (by omega), Int.max_eq_right (by omega)] | rw [spL_s (by omega), spM_s (by omega), spC_b, Int.min_eq_right (by omega), Int.max_eq_left (by omega)] | rw [spL_s (by omega), spM_s (by omega), spC_b, Int.min_eq_left (by omega), Int.max_eq_left (by omega)])
                      · (try dsimp only) <;> (rfl)
                      · (try dsimp only) <;> (omega)
                      · (try dsimp only) <;> (exact ⟨by omega, fx.tr f5⟩)
                    · -- 141 f
                      refine EV.l (lv' := [(0, _), (1, _), (2, _), (3, _), (4, _), (5, _), (6, _), (7, _), (8, _), (9, _), (10, _), (11, _)]) r_X11_span_144 rfl ?_
                      refine EV.g r_X11_span_146 ?_
                      refine EV.l (lv' := [(0, _), (1, _), (2, _), (3, _), (4, _), (5, _), (6, _), (7, _), (8, _), (9, _), (10, _), (11, _)]) r_X11_span_151 rfl ?_
                      refine EV.l (lv' := [(0, _), (1, _), (2, _), (3, _), (4, _), (5, _), (6, _), (7, _), (8, _), (9, _), (10, _), (11, _)]) r_X11_span_153 rfl ?_
                      refine EV.l (lv' := [(0, _), (1, _), (2, _), (3, _), (4, _), (5, _), (6, _), (7, _), (8, _), (9, _), (10, _), (11, _)]) r_X11_span_155 rfl ?_
                      refine EV.ci r_X11_span_156 (aV0 mt_221 la_106) (m_countsNow mc4 cb mr4 hb3 ml4 lb (by omega)) (fun v I5 h5_ => ?_)
                      obtain ⟨e, fr5⟩ := h5_
                      subst e
                      rw [cn_eq hb3 wm3]
                      have c9 := cnt_lt (η := (trm κ l q (s + nI i, η) n).2) cb
                      have f5 := f4.tr (FRT.m2 fr5)
                      refine EV.l (lv' := [(0, _), (1, _), (2, _), (3, _), (4, _), (5, _), (6, _), (7, _), (8, _), (9, _), (10, _), (11, _)]) r_X11_span_159 rfl ?_
                      refine EV.o r_X11_span_161 (ishrN) ?_
                      refine EV.o r_X11_span_162 (icN (1) (v := 1)) ?_
                      refine EV.o r_X11_span_163 (ibitN) ?_
                      rw [cnt_bit hx]
                      change EV _ _ _ _ _ (.int (nI (doesC κ (spE κ l q n s η i) x).toNat) :: _) _ _
                      refine EV.o r_X11_span_164 iaddN ?_
                      refine EV.l (lv' := [(0, _), (1, _), (2, _), (3, _), (4, _), (5, _), (6, _), (7, _), (8, _), (9, _), (10, _), (11, _)]) r_X11_span_165 rfl ?_
                      refine EV.l (lv' := [(0, _), (1, _), (2, _), (3, _), (4, _), (5, _), (6, _), (7, _), (8, _), (9, _), (10, _), (11, _)]) r_X11_span_167 rfl ?_
                      rw [inc_nI]
                      refine EV.g r_X11_span_170 ?_
                      refine EV.fg (lv' := [(0, _), (1, _), (2, _), (3, _), (4, _), (5, _), (6, _), (7, _), (8, _), (9, _), (10, _)]) r_X11_span_77 rfl rfl rfl ?_
                      refine EV.sub ?_ rfl ?_ (ih77 (i + 1, I5) ?_ ?_)
                      · (try dsimp only) <;> (first | (exfalso; omega) | rw [spL_0 (by omega), spM_0 (by omega), spC_b] | rw [spL_s (by omega), spM_s (by omega), spC_b, Int.min_eq_right (by omega), Int.max_eq_right (by omega)] | rw [spL_s (by omega), spM_s (by omega), spC_b, Int.min_eq_left (by omega), Int.max_eq_right (by omega)] | rw [spL_s (by omega), spM_s (by omega), spC_b, Int.min_eq_right (by omega), Int.max_eq_left (by omega)] | rw [spL_s (by omega), spM_s (by omega), spC_b, Int.min_eq_left (by omega), Int.max_eq_left (by omega)])
                      · (try dsimp only) <;> (rfl)
                      · (try dsimp only) <;> (omega)
                      · (try dsimp only) <;> (exact ⟨by omega, fx.tr f5⟩)
                · -- 113 f
                  refine EV.l (lv' := [(0, _), (1, _), (2, _), (3, _), (4, _), (5, _), (6, _), (7, _), (8, _), (9, _), (10, _), (11, _)]) r_X11_span_116 rfl ?_
                  refine EV.l (lv' := [(0, _), (1, _), (2, _), (3, _), (4, _), (5, _), (6, _), (7, _), (8, _), (9, _), (10, _), (11, _)]) r_X11_span_118 rfl ?_
                  refine EV.z2_ge r_X11_span_120 (fun h120 => ?_) (fun h120 => ?_)
                  · -- 120 t
                    refine EV.l (lv' := [(0, _), (1, _), (2, _), (3, _), (4, _), (5, _), (6, _), (7, _), (8, _), (9, _), (10, _), (11, _)]) r_X11_span_128 rfl ?_
                    refine EV.l (lv' := [(0, _), (1, _), (2, _), (3, _), (4, _), (5, _), (6, _), (7, _), (8, _), (9, _), (10, _), (11, _)]) r_X11_span_130 rfl ?_
                    refine EV.l (lv' := [(0, _), (1, _), (2, _), (3, _), (4, _), (5, _), (6, _), (7, _), (8, _), (9, _), (10, _), (11, _)]) r_X11_span_132 rfl ?_
                    refine EV.n0_eq r_X11_span_134 (fun h134 => ?_) (fun h134 => ?_)
                    · -- 134 t
                      refine EV.l (lv' := [(0, _), (1, _), (2, _), (3, _), (4, _), (5, _), (6, _), (7, _), (8, _), (9, _), (10, _), (11, _)]) r_X11_span_144 rfl ?_
                      refine EV.g r_X11_span_146 ?_
                      refine EV.l (lv' := [(0, _), (1, _), (2, _), (3, _), (4, _), (5, _), (6, _), (7, _), (8, _), (9, _), (10, _), (11, _)]) r_X11_span_151 rfl ?_
                      refine EV.l (lv' := [(0, _), (1, _), (2, _), (3, _), (4, _), (5, _), (6, _), (7, _), (8, _), (9, _), (10, _), (11, _)]) r_X11_span_153 rfl ?_
                      refine EV.l (lv' := [(0, _), (1, _), (2, _), (3, _), (4, _), (5, _), (6, _), (7, _), (8, _), (9, _), (10, _), (11, _)]) r_X11_span_155 rfl ?_
                      refine EV.ci r_X11_span_156 (aV0 mt_221 la_106) (m_countsNow mc4 cb mr4 hb3 ml4 lb (by omega)) (fun v I5 h5_ => ?_)
                      obtain ⟨e, fr5⟩ := h5_
                      subst e
                      rw [cn_eq hb3 wm3]
                      have c9 := cnt_lt (η := (trm κ l q (s + nI i, η) n).2) cb
                      have f5 := f4.tr (FRT.m2 fr5)
                      refine EV.l (lv' := [(0, _), (1, _), (2, _), (3, _), (4, _), (5, _), (6, _), (7, _), (8, _), (9, _), (10, _), (11, _)]) r_X11_span_159 rfl ?_
                      refine EV.o r_X11_span_161 (ishrN) ?_
                      refine EV.o r_X11_span_162 (icN (1) (v := 1)) ?_
                      refine EV.o r_X11_span_163 (ibitN) ?_
                      rw [cnt_bit hx]
                      change EV _ _ _ _ _ (.int (nI (doesC κ (spE κ l q n s η i) x).toNat) :: _) _ _
                      refine EV.o r_X11_span_164 iaddN ?_
                      refine EV.l (lv' := [(0, _), (1, _), (2, _), (3, _), (4, _), (5, _), (6, _), (7, _), (8, _), (9, _), (10, _), (11, _)]) r_X11_span_165 rfl ?_
                      refine EV.l (lv' := [(0, _), (1, _), (2, _), (3, _), (4, _), (5, _), (6, _), (7, _), (8, _), (9, _), (10, _), (11, _)]) r_X11_span_167 rfl ?_
                      rw [inc_nI]
                      refine EV.g r_X11_span_170 ?_
                      refine EV.fg (lv' := [(0, _), (1, _), (2, _), (3, _), (4, _), (5, _), (6, _), (7, _), (8, _), (9, _), (10, _)]) r_X11_span_77 rfl rfl rfl ?_
                      refine EV.sub ?_ rfl ?_ (ih77 (i + 1, I5) ?_ ?_)
                      · (try dsimp only) <;> (first | (exfalso; omega) | rw [spL_0 (by omega), spM_0 (by omega), spC_b] | rw [spL_s (by omega), spM_s (by omega), spC_b, Int.min_eq_right (by omega), Int.max_eq_right (by omega)] | rw [spL_s (by omega), spM_s (by omega), spC_b, Int.min_eq_left (by omega), Int.max_eq_right (by omega)] | rw [spL_s (by omega), spM_s (by omega), spC_b, Int.min_eq_right (by omega), Int.max_eq_left (by omega)] | rw [spL_s (by omega), spM_s (by omega), spC_b, Int.min_eq_left (by omega), Int.max_eq_left (by omega)])
                      · (try dsimp only) <;> (rfl)
                      · (try dsimp only) <;> (omega)
                      · (try dsimp only) <;> (exact ⟨by omega, fx.tr f5⟩)
                    · -- 134 f
                      refine EV.l (lv' := [(0, _), (1, _), (2, _), (3, _), (4, _), (5, _), (6, _), (7, _), (8, _), (9, _), (10, _), (11, _)]) r_X11_span_137 rfl ?_
                      refine EV.l (lv' := [(0, _), (1, _), (2, _), (3, _), (4, _), (5, _), (6, _), (7, _), (8, _), (9, _), (10, _), (11, _)]) r_X11_span_139 rfl ?_
                      refine EV.z2_le r_X11_span_141 (fun h141 => ?_) (fun h141 => ?_)
                      · -- 141 t
                        refine EV.l (lv' := [(0, _), (1, _), (2, _), (3, _), (4, _), (5, _), (6, _), (7, _), (8, _), (9, _), (10, _), (11, _)]) r_X11_span_149 rfl ?_
                        refine EV.l (lv' := [(0, _), (1, _), (2, _), (3, _), (4, _), (5, _), (6, _), (7, _), (8, _), (9, _), (10, _), (11, _)]) r_X11_span_151 rfl ?_
                        refine EV.l (lv' := [(0, _), (1, _), (2, _), (3, _), (4, _), (5, _), (6, _), (7, _), (8, _), (9, _), (10, _), (11, _)]) r_X11_span_153 rfl ?_
                        refine EV.l (lv' := [(0, _), (1, _), (2, _), (3, _), (4, _), (5, _), (6, _), (7, _), (8, _), (9, _), (10, _), (11, _)]) r_X11_span_155 rfl ?_
                        refine EV.ci r_X11_span_156 (aV0 mt_221 la_106) (m_countsNow mc4 cb mr4 hb3 ml4 lb (by omega)) (fun v I5 h5_ => ?_)
                        obtain ⟨e, fr5⟩ := h5_
                        subst e
                        rw [cn_eq hb3 wm3]
                        have c9 := cnt_lt (η := (trm κ l q (s + nI i, η) n).2) cb
                        have f5 := f4.tr (FRT.m2 fr5)
                        refine EV.l (lv' := [(0, _), (1, _), (2, _), (3, _), (4, _), (5, _), (6, _), (7, _), (8, _), (9, _), (10, _), (11, _)]) r_X11_span_159 rfl ?_
                        refine EV.o r_X11_span_161 (ishrN) ?_
                        refine EV.o r_X11_span_162 (icN (1) (v := 1)) ?_
                        refine EV.o r_X11_span_163 (ibitN) ?_
                        rw [cnt_bit hx]
                        change EV _ _ _ _ _ (.int (nI (doesC κ (spE κ l q n s η i) x).toNat) :: _) _ _
                        refine EV.o r_X11_span_164 iaddN ?_
                        refine EV.l (lv' := [(0, _), (1, _), (2, _), (3, _), (4, _), (5, _), (6, _), (7, _), (8, _), (9, _), (10, _), (11, _)]) r_X11_span_165 rfl ?_
                        refine EV.l (lv' := [(0, _), (1, _), (2, _), (3, _), (4, _), (5, _), (6, _), (7, _), (8, _), (9, _), (10, _), (11, _)]) r_X11_span_167 rfl ?_
                        rw [inc_nI]
                        refine EV.g r_X11_span_170 ?_
                        refine EV.fg (lv' := [(0, _), (1, _), (2, _), (3, _), (4, _), (5, _), (6, _), (7, _), (8, _), (9, _), (10, _)]) r_X11_span_77 rfl rfl rfl ?_
                        refine EV.sub ?_ rfl ?_ (ih77 (i + 1, I5) ?_ ?_)
                        · (try dsimp only) <;> (first | (exfalso; omega) | rw [spL_0 (by omega), spM_0 (by omega), spC_b] | rw [spL_s (by omega), spM_s (by omega), spC_b, Int.min_eq_right (by omega), Int.max_eq_right (by omega)] | rw [spL_s (by omega), spM_s (by omega), spC_b, Int.min_eq_left (by omega), Int.max_eq_right (by omega)] | rw [spL_s (by omega), spM_s (by omega), spC_b, Int.min_eq_right (by omega), Int.max_eq_left (by omega)] | rw [spL_s (by omega), spM_s (by omega), spC_b, Int.min_eq_left (by omega), Int.max_eq_left (by omega)])
                        · (try dsimp only) <;> (rfl)
                        · (try dsimp only) <;> (omega)
                        · (try dsimp only) <;> (exact ⟨by omega, fx.tr f5⟩)
                      · -- 141 f
                        refine EV.l (lv' := [(0, _), (1, _), (2, _), (3, _), (4, _), (5, _), (6, _), (7, _), (8, _), (9, _), (10, _), (11, _)]) r_X11_span_144 rfl ?_
                        refine EV.g r_X11_span_146 ?_
                        refine EV.l (lv' := [(0, _), (1, _), (2, _), (3, _), (4, _), (5, _), (6, _), (7, _), (8, _), (9, _), (10, _), (11, _)]) r_X11_span_151 rfl ?_
                        refine EV.l (lv' := [(0, _), (1, _), (2, _), (3, _), (4, _), (5, _), (6, _), (7, _), (8, _), (9, _), (10, _), (11, _)]) r_X11_span_153 rfl ?_
                        refine EV.l (lv' := [(0, _), (1, _), (2, _), (3, _), (4, _), (5, _), (6, _), (7, _), (8, _), (9, _), (10, _), (11, _)]) r_X11_span_155 rfl ?_
                        refine EV.ci r_X11_span_156 (aV0 mt_221 la_106) (m_countsNow mc4 cb mr4 hb3 ml4 lb (by omega)) (fun v I5 h5_ => ?_)
                        obtain ⟨e, fr5⟩ := h5_
                        subst e
                        rw [cn_eq hb3 wm3]
                        have c9 := cnt_lt (η := (trm κ l q (s + nI i, η) n).2) cb
                        have f5 := f4.tr (FRT.m2 fr5)
                        refine EV.l (lv' := [(0, _), (1, _), (2, _), (3, _), (4, _), (5, _), (6, _), (7, _), (8, _), (9, _), (10, _), (11, _)]) r_X11_span_159 rfl ?_
                        refine EV.o r_X11_span_161 (ishrN) ?_
                        refine EV.o r_X11_span_162 (icN (1) (v := 1)) ?_
                        refine EV.o r_X11_span_163 (ibitN) ?_
                        rw [cnt_bit hx]
                        change EV _ _ _ _ _ (.int (nI (doesC κ (spE κ l q n s η i) x).toNat) :: _) _ _
                        refine EV.o r_X11_span_164 iaddN ?_
                        refine EV.l (lv' := [(0, _), (1, _), (2, _), (3, _), (4, _), (5, _), (6, _), (7, _), (8, _), (9, _), (10, _), (11, _)]) r_X11_span_165 rfl ?_
                        refine EV.l (lv' := [(0, _), (1, _), (2, _), (3, _), (4, _), (5, _), (6, _), (7, _), (8, _), (9, _), (10, _), (11, _)]) r_X11_span_167 rfl ?_
                        rw [inc_nI]
                        refine EV.g r_X11_span_170 ?_
                        refine EV.fg (lv' := [(0, _), (1, _), (2, _), (3, _), (4, _), (5, _), (6, _), (7, _), (8, _), (9, _), (10, _)]) r_X11_span_77 rfl rfl rfl ?_
                        refine EV.sub ?_ rfl ?_ (ih77 (i + 1, I5) ?_ ?_)
                        · (try dsimp only) <;> (first | (exfalso; omega) | rw [spL_0 (by omega), spM_0 (by omega), spC_b] | rw [spL_s (by omega), spM_s (by omega), spC_b, Int.min_eq_right (by omega), Int.max_eq_right (by omega)] | rw [spL_s (by omega), spM_s (by omega), spC_b, Int.min_eq_left (by omega), Int.max_eq_right (by omega)] | rw [spL_s (by omega), spM_s (by omega), spC_b, Int.min_eq_right (by omega), Int.max_eq_left (by omega)] | rw [spL_s (by omega), spM_s (by omega), spC_b, Int.min_eq_left (by omega), Int.max_eq_left (by omega)])
                        · (try dsimp only) <;> (rfl)
                        · (try dsimp only) <;> (omega)
                        · (try dsimp only) <;> (exact ⟨by omega, fx.tr f5⟩)
                  · -- 120 f
                    refine EV.l (lv' := [(0, _), (1, _), (2, _), (3, _), (4, _), (5, _), (6, _), (7, _), (8, _), (9, _), (10, _), (11, _)]) r_X11_span_123 rfl ?_
                    refine EV.g r_X11_span_125 ?_
                    refine EV.l (lv' := [(0, _), (1, _), (2, _), (3, _), (4, _), (5, _), (6, _), (7, _), (8, _), (9, _), (10, _), (11, _)]) r_X11_span_130 rfl ?_
                    refine EV.l (lv' := [(0, _), (1, _), (2, _), (3, _), (4, _), (5, _), (6, _), (7, _), (8, _), (9, _), (10, _), (11, _)]) r_X11_span_132 rfl ?_
                    refine EV.n0_eq r_X11_span_134 (fun h134 => ?_) (fun h134 => ?_)
                    · -- 134 t
                      refine EV.l (lv' := [(0, _), (1, _), (2, _), (3, _), (4, _), (5, _), (6, _), (7, _), (8, _), (9, _), (10, _), (11, _)]) r_X11_span_144 rfl ?_
                      refine EV.g r_X11_span_146 ?_
                      refine EV.l (lv' := [(0, _), (1, _), (2, _), (3, _), (4, _), (5, _), (6, _), (7, _), (8, _), (9, _), (10, _), (11, _)]) r_X11_span_151 rfl ?_
                      refine EV.l (lv' := [(0, _), (1, _), (2, _), (3, _), (4, _), (5, _), (6, _), (7, _), (8, _), (9, _), (10, _), (11, _)]) r_X11_span_153 rfl ?_
                      refine EV.l (lv' := [(0, _), (1, _), (2, _), (3, _), (4, _), (5, _), (6, _), (7, _), (8, _), (9, _), (10, _), (11, _)]) r_X11_span_155 rfl ?_
                      refine EV.ci r_X11_span_156 (aV0 mt_221 la_106) (m_countsNow mc4 cb mr4 hb3 ml4 lb (by omega)) (fun v I5 h5_ => ?_)
                      obtain ⟨e, fr5⟩ := h5_
                      subst e
                      rw [cn_eq hb3 wm3]
                      have c9 := cnt_lt (η := (trm κ l q (s + nI i, η) n).2) cb
                      have f5 := f4.tr (FRT.m2 fr5)
                      refine EV.l (lv' := [(0, _), (1, _), (2, _), (3, _), (4, _), (5, _), (6, _), (7, _), (8, _), (9, _), (10, _), (11, _)]) r_X11_span_159 rfl ?_
                      refine EV.o r_X11_span_161 (ishrN) ?_
                      refine EV.o r_X11_span_162 (icN (1) (v := 1)) ?_
                      refine EV.o r_X11_span_163 (ibitN) ?_
                      rw [cnt_bit hx]
                      change EV _ _ _ _ _ (.int (nI (doesC κ (spE κ l q n s η i) x).toNat) :: _) _ _
                      refine EV.o r_X11_span_164 iaddN ?_
                      refine EV.l (lv' := [(0, _), (1, _), (2, _), (3, _), (4, _), (5, _), (6, _), (7, _), (8, _), (9, _), (10, _), (11, _)]) r_X11_span_165 rfl ?_
                      refine EV.l (lv' := [(0, _), (1, _), (2, _), (3, _), (4, _), (5, _), (6, _), (7, _), (8, _), (9, _), (10, _), (11, _)]) r_X11_span_167 rfl ?_
                      rw [inc_nI]
                      refine EV.g r_X11_span_170 ?_
                      refine EV.fg (lv' := [(0, _), (1, _), (2, _), (3, _), (4, _), (5, _), (6, _), (7, _), (8, _), (9, _), (10, _)]) r_X11_span_77 rfl rfl rfl ?_
                      refine EV.sub ?_ rfl ?_ (ih77 (i + 1, I5) ?_ ?_)
                      · (try dsimp only) <;> (first | (exfalso; omega) | rw [spL_0 (by omega), spM_0 (by omega), spC_b] | rw [spL_s (by omega), spM_s (by omega), spC_b, Int.min_eq_right (by omega), Int.max_eq_right (by omega)] | rw [spL_s (by omega), spM_s (by omega), spC_b, Int.min_eq_left (by omega), Int.max_eq_right (by omega)] | rw [spL_s (by omega), spM_s (by omega), spC_b, Int.min_eq_right (by omega), Int.max_eq_left (by omega)] | rw [spL_s (by omega), spM_s (by omega), spC_b, Int.min_eq_left (by omega), Int.max_eq_left (by omega)])
                      · (try dsimp only) <;> (rfl)
                      · (try dsimp only) <;> (omega)
                      · (try dsimp only) <;> (exact ⟨by omega, fx.tr f5⟩)
                    · -- 134 f
                      refine EV.l (lv' := [(0, _), (1, _), (2, _), (3, _), (4, _), (5, _), (6, _), (7, _), (8, _), (9, _), (10, _), (11, _)]) r_X11_span_137 rfl ?_
                      refine EV.l (lv' := [(0, _), (1, _), (2, _), (3, _), (4, _), (5, _), (6, _), (7, _), (8, _), (9, _), (10, _), (11, _)]) r_X11_span_139 rfl ?_
                      refine EV.z2_le r_X11_span_141 (fun h141 => ?_) (fun h141 => ?_)
                      · -- 141 t
                        refine EV.l (lv' := [(0, _), (1, _), (2, _), (3, _), (4, _), (5, _), (6, _), (7, _), (8, _), (9, _), (10, _), (11, _)]) r_X11_span_149 rfl ?_
                        refine EV.l (lv' := [(0, _), (1, _), (2, _), (3, _), (4, _), (5, _), (6, _), (7, _), (8, _), (9, _), (10, _), (11, _)]) r_X11_span_151 rfl ?_
                        refine EV.l (lv' := [(0, _), (1, _), (2, _), (3, _), (4, _), (5, _), (6, _), (7, _), (8, _), (9, _), (10, _), (11, _)]) r_X11_span_153 rfl ?_
                        refine EV.l (lv' := [(0, _), (1, _), (2, _), (3, _), (4, _), (5, _), (6, _), (7, _), (8, _), (9, _), (10, _), (11, _)]) r_X11_span_155 rfl ?_
                        refine EV.ci r_X11_span_156 (aV0 mt_221 la_106) (m_countsNow mc4 cb mr4 hb3 ml4 lb (by omega)) (fun v I5 h5_ => ?_)
                        obtain ⟨e, fr5⟩ := h5_
                        subst e
                        rw [cn_eq hb3 wm3]
                        have c9 := cnt_lt (η := (trm κ l q (s + nI i, η) n).2) cb
                        have f5 := f4.tr (FRT.m2 fr5)
                        refine EV.l (lv' := [(0, _), (1, _), (2, _), (3, _), (4, _), (5, _), (6, _), (7, _), (8, _), (9, _), (10, _), (11, _)]) r_X11_span_159 rfl ?_
                        refine EV.o r_X11_span_161 (ishrN) ?_
                        refine EV.o r_X11_span_162 (icN (1) (v := 1)) ?_
                        refine EV.o r_X11_span_163 (ibitN) ?_
                        rw [cnt_bit hx]
                        change EV _ _ _ _ _ (.int (nI (doesC κ (spE κ l q n s η i) x).toNat) :: _) _ _
                        refine EV.o r_X11_span_164 iaddN ?_
                        refine EV.l (lv' := [(0, _), (1, _), (2, _), (3, _), (4, _), (5, _), (6, _), (7, _), (8, _), (9, _), (10, _), (11, _)]) r_X11_span_165 rfl ?_
                        refine EV.l (lv' := [(0, _), (1, _), (2, _), (3, _), (4, _), (5, _), (6, _), (7, _), (8, _), (9, _), (10, _), (11, _)]) r_X11_span_167 rfl ?_
                        rw [inc_nI]
                        refine EV.g r_X11_span_170 ?_
                        refine EV.fg (lv' := [(0, _), (1, _), (2, _), (3, _), (4, _), (5, _), (6, _), (7, _), (8, _), (9, _), (10, _)]) r_X11_span_77 rfl rfl rfl ?_
                        refine EV.sub ?_ rfl ?_ (ih77 (i + 1, I5) ?_ ?_)
                        · (try dsimp only) <;> (first | (exfalso; omega) | rw [spL_0 (by omega), spM_0 (by omega), spC_b] | rw [spL_s (by omega), spM_s (by omega), spC_b, Int.min_eq_right (by omega), Int.max_eq_right (by omega)] | rw [spL_s (by omega), spM_s (by omega), spC_b, Int.min_eq_left (by omega), Int.max_eq_right (by omega)] | rw [spL_s (by omega), spM_s (by omega), spC_b, Int.min_eq_right (by omega), Int.max_eq_left (by omega)] | rw [spL_s (by omega), spM_s (by omega), spC_b, Int.min_eq_left (by omega), Int.max_eq_left (by omega)])
                        · (try dsimp only) <;> (rfl)
                        · (try dsimp only) <;> (omega)
                        · (try dsimp only) <;> (exact ⟨by omega, fx.tr f5⟩)
                      · -- 141 f
                        refine EV.l (lv' := [(0, _), (1, _), (2, _), (3, _), (4, _), (5, _), (6, _), (7, _), (8, _), (9, _), (10, _), (11, _)]) r_X11_span_144 rfl ?_
                        refine EV.g r_X11_span_146 ?_
                        refine EV.l (lv' := [(0, _), (1, _), (2, _), (3, _), (4, _), (5, _), (6, _), (7, _), (8, _), (9, _), (10, _), (11, _)]) r_X11_span_151 rfl ?_
                        refine EV.l (lv' := [(0, _), (1, _), (2, _), (3, _), (4, _), (5, _), (6, _), (7, _), (8, _), (9, _), (10, _), (11, _)]) r_X11_span_153 rfl ?_
                        refine EV.l (lv' := [(0, _), (1, _), (2, _), (3, _), (4, _), (5, _), (6, _), (7, _), (8, _), (9, _), (10, _), (11, _)]) r_X11_span_155 rfl ?_
                        refine EV.ci r_X11_span_156 (aV0 mt_221 la_106) (m_countsNow mc4 cb mr4 hb3 ml4 lb (by omega)) (fun v I5 h5_ => ?_)
                        obtain ⟨e, fr5⟩ := h5_
                        subst e
                        rw [cn_eq hb3 wm3]
                        have c9 := cnt_lt (η := (trm κ l q (s + nI i, η) n).2) cb
                        have f5 := f4.tr (FRT.m2 fr5)
                        refine EV.l (lv' := [(0, _), (1, _), (2, _), (3, _), (4, _), (5, _), (6, _), (7, _), (8, _), (9, _), (10, _), (11, _)]) r_X11_span_159 rfl ?_
                        refine EV.o r_X11_span_161 (ishrN) ?_
                        refine EV.o r_X11_span_162 (icN (1) (v := 1)) ?_
                        refine EV.o r_X11_span_163 (ibitN) ?_
                        rw [cnt_bit hx]
                        change EV _ _ _ _ _ (.int (nI (doesC κ (spE κ l q n s η i) x).toNat) :: _) _ _
                        refine EV.o r_X11_span_164 iaddN ?_
                        refine EV.l (lv' := [(0, _), (1, _), (2, _), (3, _), (4, _), (5, _), (6, _), (7, _), (8, _), (9, _), (10, _), (11, _)]) r_X11_span_165 rfl ?_
                        refine EV.l (lv' := [(0, _), (1, _), (2, _), (3, _), (4, _), (5, _), (6, _), (7, _), (8, _), (9, _), (10, _), (11, _)]) r_X11_span_167 rfl ?_
                        rw [inc_nI]
                        refine EV.g r_X11_span_170 ?_
                        refine EV.fg (lv' := [(0, _), (1, _), (2, _), (3, _), (4, _), (5, _), (6, _), (7, _), (8, _), (9, _), (10, _)]) r_X11_span_77 rfl rfl rfl ?_
                        refine EV.sub ?_ rfl ?_ (ih77 (i + 1, I5) ?_ ?_)
                        · (try dsimp only) <;> (first | (exfalso; omega) | rw [spL_0 (by omega), spM_0 (by omega), spC_b] | rw [spL_s (by omega), spM_s (by omega), spC_b, Int.min_eq_right (by omega), Int.max_eq_right (by omega)] | rw [spL_s (by omega), spM_s (by omega), spC_b, Int.min_eq_left (by omega), Int.max_eq_right (by omega)] | rw [spL_s (by omega), spM_s (by omega), spC_b, Int.min_eq_right (by omega), Int.max_eq_left (by omega)] | rw [spL_s (by omega), spM_s (by omega), spC_b, Int.min_eq_left (by omega), Int.max_eq_left (by omega)])
                        · (try dsimp only) <;> (rfl)
                        · (try dsimp only) <;> (omega)
                        · (try dsimp only) <;> (exact ⟨by omega, fx.tr f5⟩)
            have h0 := L77 ((0, wr I 106 0 (nI 0)))
            try dsimp only at h0
            refine EV.sub ?_ rfl ?_ (h0 ?_)
            · (try dsimp only) <;> (rfl)
            · (try dsimp only) <;> (rfl)
            · (try dsimp only) <;> (exact ⟨Nat.zero_le _, FRT.rf⟩)
          · omega
