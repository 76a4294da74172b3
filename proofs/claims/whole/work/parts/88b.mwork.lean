/-! (goes on) -/
theorem m_step {d : Nat} {I : Nat → Nat → Int32} {J : Nat → Nat → Int64} {g : Nat → Nat} {n s k : Nat} {κ : CT} {P : PL} (gb : ∀ j, g j < 256) (hn : n ≤ 150) (cb : CB κ) (ls : LSv g n κ k (P, .inl s) I) {sub : WX → WX} {o D : Nat} (hD : 5 ≤ D) (ag : isW g n s tAgai = true → ∀ (d : Nat) (I2 : Nat → Nat → Int32), D ≤ d → LSv g n κ k (P, .inl s) I2 → I2 106 4 = nI s → RU d 208 [.ref 106] I2 J (fun I' => LSv g n κ k (if 0 < o then stAgn g n sub P s else (P, .inr (3, s))) I' ∧ VG I2 I'))  (hd : D + 1 ≤ d) : RU d 209 [.ref 106] I J (fun I' => LSv g n κ k (sgs g n (stpT g n κ sub o) P s) I' ∧ VG I I') := by
  refine RU.in (d0 := D) hd mt_209 (Nat.le_of_ble_eq_true rfl) (fun d' hd' => ?_)
  have ns9 := cb.ns
  have nb4 := cb.nb
  have nc4 := cb.nc
  show EV none M_X11_readStep d' 0 [(0, .ref 106)] [] (hp I J) _
  refine EV.l (lv' := [(0, _)]) r_X11_readStep_0 rfl ?_
  refine EV.ci r_X11_readStep_1 (aV0 mt_178 la_106) (m_word ls.1 gb (by omega) ls.mg (by omega)) (fun v I2 h2 => ?_)
  obtain ⟨e, mg2, a2, mp2⟩ := h2
  subst e
  have wb := wdv_b (g := g) (n := n) (s := s) ls.mg.sn
  have ls2 : LSv g n κ k (P, .inl s) I2 := ls.mo (r2 := .inl s) mg2 mp2.mo (fun s2 e => ⟨s, rfl, by cases e; exact Nat.le_refl _⟩)
  have sk := sto_k (g := g) (n := n) (s := s) ls.mg.sn
  rcases kst_le (g := g) (n := n) (s := s) with kk | kk | kk | kk | kk | kk | kk
  · -- case
    refine EV.cv r_X11_readStep_4 (aS1 mt_207) (m_stepN (k := 0) (by rw [sk, kk]; rfl) (by omega) (by omega)) ?_
    refine EV.l (lv' := [(0, _), (1, _)]) r_X11_readStep_7 rfl ?_
    refine EV.l (lv' := [(0, _), (1, _)]) r_X11_readStep_8 rfl ?_
    refine EV.o r_X11_readStep_9 (icZ (-1)) ?_
    refine EV.nz2_ne r_X11_readStep_10 (fun h10 => ?_) (fun h10 => ?_)
    · -- 10 t
      refine EV.l (lv' := [(0, _), (1, _)]) r_X11_readStep_25 rfl ?_
      refine EV.o r_X11_readStep_26 (icN (5) (v := 5)) ?_
      refine EV.n2_ne r_X11_readStep_27 (fun h27 => ?_) (fun h27 => ?_)
      · -- 27 t
        refine EV.l (lv' := [(0, _), (1, _)]) r_X11_readStep_37 rfl ?_
        refine EV.cu r_X11_readStep_38 (aV0 mt_180 la_106) (m_pass ls2.1 gb (by omega) mg2.en mg2.sn a2 (by omega)) (fun I3 h3 => ?_)
        obtain ⟨a3, mp3⟩ := h3
        have kw2 := kd2_pe (of_decide_eq_true (kst_w (g := g) (n := n) (s := s) (by omega))).1
        have mg3 : MG g n (nxp g n s) I3 := mg2.mv mp3 (scp_le mg2.sn) a3 (by unfold nxp; rw [kw2.2.1])
        have tp3 := tp_fm ls2.1 (mp3.1 108 (by decide))
        have km3 : KM κ I3 := by have z := ls2.2.2.2.1; unfold KM at z ⊢; rw [mp3.2 22 (by decide), mp3.2 24 (by decide), mp3.2 25 (by decide)]; exact z
        have kw := kst_3 (g := g) (n := n) (s := s) (by omega)
        have m4 := ls.m4
        have nn := nxp_le (g := g) (n := n) (s := s) (by omega)
        refine EV.l (lv' := [(0, _), (1, _)]) r_X11_readStep_41 rfl ?_
        refine EV.o r_X11_readStep_42 (icN (4) (v := 4)) ?_
        refine EV.n2_ne r_X11_readStep_43 (fun h43 => ?_) (fun h43 => ?_)
        · -- 43 t
          refine EV.l (lv' := [(0, _), (1, _)]) r_X11_readStep_50 rfl ?_
          refine EV.o r_X11_readStep_51 (icN (0) (v := 0)) ?_
          refine EV.l (lv' := [(0, _), (1, _)]) r_X11_readStep_52 rfl ?_
          refine EV.o r_X11_readStep_53 (icN (3) (v := 3)) ?_
          refine EV.n2_ne r_X11_readStep_54 (fun h54 => ?_) (fun h54 => ?_)
          · -- 54 t
            refine EV.l (lv' := [(0, _), (1, _)]) r_X11_readStep_64 rfl ?_
            refine EV.getV r_X11_readStep_65 la_106 (km3.2.2) ?_
            refine EV.o r_X11_readStep_68 (icN (1) (v := 1)) ?_
            refine EV.o r_X11_readStep_69 (isubNZ) ?_
            refine EV.ci r_X11_readStep_70 (aV2 mt_181 la_106) (m_num (lo := 0) (hi := (κ.nc : Int) - ((1 : Nat) : Int)) tp3 gb (by omega) (r := .inl (nxp g n s)) mg3 (by omega) (by omega) (by omega) (by omega)) (fun v4 I4 h4 => ?_)
            obtain ⟨md4, ve4, mo4⟩ := h4
            refine EV.l (lv' := [(0, _), (1, _), (2, _)]) r_X11_readStep_73 rfl ?_
            refine EV.l (lv' := [(0, _), (1, _), (2, _)]) r_X11_readStep_74 rfl ?_
            refine EV.o r_X11_readStep_75 (icN (2) (v := 2)) ?_
            refine EV.n2_le r_X11_readStep_76 (fun h76 => ?_) (fun h76 => ?_)
            · -- 76 t
              refine EV.l (lv' := [(0, _), (1, _), (2, _)]) r_X11_readStep_83 rfl ?_
              refine EV.o r_X11_readStep_84 (icN (0) (v := 0)) ?_
              refine EV.l (lv' := [(0, _), (1, _), (2, _)]) r_X11_readStep_85 rfl ?_
              refine EV.o r_X11_readStep_86 (icN (2) (v := 2)) ?_
              refine EV.n2_ne r_X11_readStep_87 (fun h87 => ?_) (fun h87 => ?_)
              · -- 87 t
                refine EV.l (lv' := [(0, _), (1, _), (2, _)]) r_X11_readStep_97 rfl ?_
                refine EV.getV r_X11_readStep_98 la_106 (((mo4.2 24 (by decide) (by decide) (by decide)).trans km3.2.1)) ?_
                refine EV.o r_X11_readStep_101 (icN (1) (v := 1)) ?_
                refine EV.o r_X11_readStep_102 (isubNZ) ?_
                refine EV.ci r_X11_readStep_103 (aV2 mt_181 la_106) (m_num (lo := 0) (hi := (κ.nb : Int) - ((1 : Nat) : Int)) (tp_fm tp3 (mo4.1 108 (by decide))) gb (by omega) (r := (tx1 g n κ.nc s).2) md4 (by omega) (by omega) (by omega) (by omega)) (fun v5 I5 h5 => ?_)
                obtain ⟨md5, ve5, mo5⟩ := h5
                refine EV.l (lv' := [(0, _), (1, _), (2, _), (3, _)]) r_X11_readStep_106 rfl ?_
                refine EV.l (lv' := [(0, _), (1, _), (2, _), (3, _)]) r_X11_readStep_107 rfl ?_
                refine EV.l (lv' := [(0, _), (1, _), (2, _), (3, _)]) r_X11_readStep_108 rfl ?_
                refine EV.l (lv' := [(0, _), (1, _), (2, _), (3, _)]) r_X11_readStep_109 rfl ?_
                refine EV.l (lv' := [(0, _), (1, _), (2, _), (3, _)]) r_X11_readStep_110 rfl ?_
                refine EV.l (lv' := [(0, _), (1, _), (2, _), (3, _)]) r_X11_readStep_111 rfl ?_
                refine EV.o r_X11_readStep_112 (icN (1) (v := 1)) ?_
                refine EV.n2_eq r_X11_readStep_113 (fun h113 => ?_) (fun h113 => ?_)
                · omega
                · -- 113 f
                  refine EV.l (lv' := [(0, _), (1, _), (2, _), (3, _)]) r_X11_readStep_116 rfl ?_
                  refine EV.o r_X11_readStep_117 (icN (2) (v := 2)) ?_
                  refine EV.n2_ne r_X11_readStep_118 (fun h118 => ?_) (fun h118 => ?_)
                  · -- 118 t
                    refine EV.o r_X11_readStep_131 (icN (0) (v := 0)) ?_
                    rcases rst_x (tx2 g n κ.nc κ.nb s).2 with ⟨s9, e9⟩ | ⟨q9, e9⟩
                    · -- case
                      have vg9 : VG I I5 := (mp2.mo.vg.tr mp3.mo.vg).tr ((mo4.tr mo5)).vg
                      have e79 : I5 106 7 = nI k := (((mo4.tr mo5)).2 7 (by decide) (by decide) (by decide)).trans ((mp3.2 7 (by decide)).trans ((mp2.2 7 (by decide)).trans ls.2.2.1))
                      have pm9 : PM P I5 := ((ls.pm.mo mp2.mo).mo mp3.mo).mo (mo4.tr mo5)
                      have mg9 : MG g n s9 I5 := by have z : MD g n (tx2 g n κ.nc κ.nb s).2 I5 := md5; rw [e9] at z; exact z
                      have p9 := tx2_q e9
                      obtain ⟨s8, e8⟩ := tkN_ok e9
                      have y4 : v4 = nI (tx1 g n κ.nc s).1 := ve4 s8 e8
                      have y5 : v5 = nI (tx2 g n κ.nc κ.nb s).1 := ve5 s9 e9
                      subst y4
                      subst y5
                      refine EV.cu r_X11_readStep_132 (aV4 mt_206 la_106) (m_tell1 (k := 0) hn mg9 pm9 (by omega) rfl (by omega)) (fun IT hT => ?_)
                      obtain ⟨pmT, jT, oT⟩ := hT
                      have vgT : VG I IT := vg9.tr ⟨fun j _ _ _ _ p36 => jT j p36, fun o p1 p2 => oT o p1 p2⟩
                      have lsT : LSv g n κ k (stCall g n κ P s) IT := ls.mk vgT (r := (stCall g n κ P s).2) (by show MD g n (tx2 g n κ.nc κ.nb s).2 IT; rw [e9]; show MG g n s9 IT; have z := mg9; unfold MG at z ⊢; rw [jT 3 (by decide), jT 2 (by decide), jT 5 (by decide), jT 4 (by decide)]; exact z) ((jT 7 (by decide)).trans e79) (fun s2 z => ⟨pmT, by have z2 : (tx2 g n κ.nc κ.nb s).2 = .inl s2 := z; rw [e9] at z2; cases z2; show 4 * (P.m + 1) ≤ _; omega⟩)
                      refine EV.l (lv' := [(0, _), (1, _)]) r_X11_readStep_135 rfl ?_
                      refine EV.o r_X11_readStep_136 (bpN (59) 59) ?_
                      refine EV.cu r_X11_readStep_138 (aV1 mt_182 la_106) (m_sign lsT.1 gb (by omega) lsT.2.1 (by decide) (by decide) (by decide) (by decide) (by omega)) (fun IZ hZ => ?_)
                      have lsZ := lsT.sgs hZ.1 hZ.2
                      have vgZ := vgT.tr hZ.2.vg
                      exact EV.ru r_X11_readStep_141 (by unfold sgs; rw [stpT_0 sub o P kk]; exact ⟨lsZ, vgZ⟩)
                    · -- case
                      have vg9 : VG I I5 := (mp2.mo.vg.tr mp3.mo.vg).tr ((mo4.tr mo5)).vg
                      have e79 : I5 106 7 = nI k := (((mo4.tr mo5)).2 7 (by decide) (by decide) (by decide)).trans ((mp3.2 7 (by decide)).trans ((mp2.2 7 (by decide)).trans ls.2.2.1))
                      have pm9 : PM P I5 := ((ls.pm.mo mp2.mo).mo mp3.mo).mo (mo4.tr mo5)
                      have mb9 : MB n q9.1 q9.2 I5 := by have z : MD g n (tx2 g n κ.nc κ.nb s).2 I5 := md5; rw [e9] at z; exact z
                      refine EV.cu r_X11_readStep_132 (aV4 mt_206 la_106) (m_tell0 hn mb9 (by omega)) (fun IT hT => ?_)
                      have hT := hT.symm
                      subst hT
                      have vgT := vg9
                      have lsT : LSv g n κ k (stCall g n κ P s) I5 := ls.mk vg9 (r := (stCall g n κ P s).2) (by show MD g n (tx2 g n κ.nc κ.nb s).2 I5; rw [e9]; exact mb9) e79 (fun s2 z => by have z2 : (tx2 g n κ.nc κ.nb s).2 = .inl s2 := z; rw [e9] at z2; exact inr_ne z2)
                      refine EV.l (lv' := [(0, _), (1, _)]) r_X11_readStep_135 rfl ?_
                      refine EV.o r_X11_readStep_136 (bpN (59) 59) ?_
                      refine EV.cu r_X11_readStep_138 (aV1 mt_182 la_106) (m_sign lsT.1 gb (by omega) lsT.2.1 (by decide) (by decide) (by decide) (by decide) (by omega)) (fun IZ hZ => ?_)
                      have lsZ := lsT.sgs hZ.1 hZ.2
                      have vgZ := vgT.tr hZ.2.vg
                      exact EV.ru r_X11_readStep_141 (by unfold sgs; rw [stpT_0 sub o P kk]; exact ⟨lsZ, vgZ⟩)
                  · omega
              · omega
            · omega
          · omega
        · omega
      · omega
    · omega
  · -- case
    refine EV.cv r_X11_readStep_4 (aS1 mt_207) (m_stepN (k := 1) (by rw [sk, kk]; rfl) (by omega) (by omega)) ?_
    refine EV.l (lv' := [(0, _), (1, _)]) r_X11_readStep_7 rfl ?_
    refine EV.l (lv' := [(0, _), (1, _)]) r_X11_readStep_8 rfl ?_
    refine EV.o r_X11_readStep_9 (icZ (-1)) ?_
    refine EV.nz2_ne r_X11_readStep_10 (fun h10 => ?_) (fun h10 => ?_)
    · -- 10 t
      refine EV.l (lv' := [(0, _), (1, _)]) r_X11_readStep_25 rfl ?_
      refine EV.o r_X11_readStep_26 (icN (5) (v := 5)) ?_
      refine EV.n2_ne r_X11_readStep_27 (fun h27 => ?_) (fun h27 => ?_)
      · -- 27 t
        refine EV.l (lv' := [(0, _), (1, _)]) r_X11_readStep_37 rfl ?_
        refine EV.cu r_X11_readStep_38 (aV0 mt_180 la_106) (m_pass ls2.1 gb (by omega) mg2.en mg2.sn a2 (by omega)) (fun I3 h3 => ?_)
        obtain ⟨a3, mp3⟩ := h3
        have kw2 := kd2_pe (of_decide_eq_true (kst_w (g := g) (n := n) (s := s) (by omega))).1
        have mg3 : MG g n (nxp g n s) I3 := mg2.mv mp3 (scp_le mg2.sn) a3 (by unfold nxp; rw [kw2.2.1])
        have tp3 := tp_fm ls2.1 (mp3.1 108 (by decide))
        have km3 : KM κ I3 := by have z := ls2.2.2.2.1; unfold KM at z ⊢; rw [mp3.2 22 (by decide), mp3.2 24 (by decide), mp3.2 25 (by decide)]; exact z
        have kw := kst_3 (g := g) (n := n) (s := s) (by omega)
        have m4 := ls.m4
        have nn := nxp_le (g := g) (n := n) (s := s) (by omega)
        refine EV.l (lv' := [(0, _), (1, _)]) r_X11_readStep_41 rfl ?_
        refine EV.o r_X11_readStep_42 (icN (4) (v := 4)) ?_
        refine EV.n2_ne r_X11_readStep_43 (fun h43 => ?_) (fun h43 => ?_)
        · -- 43 t
          refine EV.l (lv' := [(0, _), (1, _)]) r_X11_readStep_50 rfl ?_
          refine EV.o r_X11_readStep_51 (icN (0) (v := 0)) ?_
          refine EV.l (lv' := [(0, _), (1, _)]) r_X11_readStep_52 rfl ?_
          refine EV.o r_X11_readStep_53 (icN (3) (v := 3)) ?_
          refine EV.n2_ne r_X11_readStep_54 (fun h54 => ?_) (fun h54 => ?_)
          · -- 54 t
            refine EV.l (lv' := [(0, _), (1, _)]) r_X11_readStep_64 rfl ?_
            refine EV.getV r_X11_readStep_65 la_106 (km3.2.2) ?_
            refine EV.o r_X11_readStep_68 (icN (1) (v := 1)) ?_
            refine EV.o r_X11_readStep_69 (isubNZ) ?_
            refine EV.ci r_X11_readStep_70 (aV2 mt_181 la_106) (m_num (lo := 0) (hi := (κ.nc : Int) - ((1 : Nat) : Int)) tp3 gb (by omega) (r := .inl (nxp g n s)) mg3 (by omega) (by omega) (by omega) (by omega)) (fun v4 I4 h4 => ?_)
            obtain ⟨md4, ve4, mo4⟩ := h4
            refine EV.l (lv' := [(0, _), (1, _), (2, _)]) r_X11_readStep_73 rfl ?_
            refine EV.l (lv' := [(0, _), (1, _), (2, _)]) r_X11_readStep_74 rfl ?_
            refine EV.o r_X11_readStep_75 (icN (2) (v := 2)) ?_
            refine EV.n2_le r_X11_readStep_76 (fun h76 => ?_) (fun h76 => ?_)
            · -- 76 t
              refine EV.l (lv' := [(0, _), (1, _), (2, _)]) r_X11_readStep_83 rfl ?_
              refine EV.o r_X11_readStep_84 (icN (0) (v := 0)) ?_
              refine EV.l (lv' := [(0, _), (1, _), (2, _)]) r_X11_readStep_85 rfl ?_
              refine EV.o r_X11_readStep_86 (icN (2) (v := 2)) ?_
              refine EV.n2_ne r_X11_readStep_87 (fun h87 => ?_) (fun h87 => ?_)
              · -- 87 t
                refine EV.l (lv' := [(0, _), (1, _), (2, _)]) r_X11_readStep_97 rfl ?_
                refine EV.getV r_X11_readStep_98 la_106 (((mo4.2 24 (by decide) (by decide) (by decide)).trans km3.2.1)) ?_
                refine EV.o r_X11_readStep_101 (icN (1) (v := 1)) ?_
                refine EV.o r_X11_readStep_102 (isubNZ) ?_
                refine EV.ci r_X11_readStep_103 (aV2 mt_181 la_106) (m_num (lo := 0) (hi := (κ.nb : Int) - ((1 : Nat) : Int)) (tp_fm tp3 (mo4.1 108 (by decide))) gb (by omega) (r := (tx1 g n κ.nc s).2) md4 (by omega) (by omega) (by omega) (by omega)) (fun v5 I5 h5 => ?_)
                obtain ⟨md5, ve5, mo5⟩ := h5
                refine EV.l (lv' := [(0, _), (1, _), (2, _), (3, _)]) r_X11_readStep_106 rfl ?_
                refine EV.l (lv' := [(0, _), (1, _), (2, _), (3, _)]) r_X11_readStep_107 rfl ?_
                refine EV.l (lv' := [(0, _), (1, _), (2, _), (3, _)]) r_X11_readStep_108 rfl ?_
                refine EV.l (lv' := [(0, _), (1, _), (2, _), (3, _)]) r_X11_readStep_109 rfl ?_
                refine EV.l (lv' := [(0, _), (1, _), (2, _), (3, _)]) r_X11_readStep_110 rfl ?_
                refine EV.l (lv' := [(0, _), (1, _), (2, _), (3, _)]) r_X11_readStep_111 rfl ?_
                refine EV.o r_X11_readStep_112 (icN (1) (v := 1)) ?_
                refine EV.n2_eq r_X11_readStep_113 (fun h113 => ?_) (fun h113 => ?_)
                · -- 113 t
                  refine EV.l (lv' := [(0, _), (1, _), (2, _), (3, _)]) r_X11_readStep_121 rfl ?_
                  refine EV.o r_X11_readStep_122 (icN (1) (v := 1)) ?_
                  refine EV.o r_X11_readStep_123 (bpN (9) 9) ?_
                  refine EV.ci r_X11_readStep_125 (aV2 mt_181 la_106) (m_numN (lo := 1) (hi := 9) (tp_fm tp3 ((mo5.1 108 (by decide)).trans (mo4.1 108 (by decide)))) gb (by omega) (r := (tx2 g n κ.nc κ.nb s).2) md5 (by omega) (by omega) (by omega)) (fun v6 I6 h6 => ?_)
                  obtain ⟨md6, ve6, mo6⟩ := h6
                  refine EV.g r_X11_readStep_128 ?_
                  rcases rst_x (tx3 g n κ.nc κ.nb s).2 with ⟨s9, e9⟩ | ⟨q9, e9⟩
                  · -- case
                    have vg9 : VG I I6 := (mp2.mo.vg.tr mp3.mo.vg).tr (((mo4.tr mo5).tr mo6)).vg
                    have e79 : I6 106 7 = nI k := ((((mo4.tr mo5).tr mo6)).2 7 (by decide) (by decide) (by decide)).trans ((mp3.2 7 (by decide)).trans ((mp2.2 7 (by decide)).trans ls.2.2.1))
                    have pm9 : PM P I6 := ((ls.pm.mo mp2.mo).mo mp3.mo).mo ((mo4.tr mo5).tr mo6)
                    have mg9 : MG g n s9 I6 := by have z : MD g n (tx3 g n κ.nc κ.nb s).2 I6 := md6; rw [e9] at z; exact z
                    have p9 := tx3_q e9
                    obtain ⟨s8, e8⟩ := tkN_ok e9
                    obtain ⟨s7, e7⟩ := tkN_ok e8
                    have y4 : v4 = nI (tx1 g n κ.nc s).1 := ve4 s7 e7
                    have y5 : v5 = nI (tx2 g n κ.nc κ.nb s).1 := ve5 s8 e8
                    have y6 : v6 = nI (tx3 g n κ.nc κ.nb s).1 := ve6 s9 e9
                    subst y4
                    subst y5
                    subst y6
                    refine EV.cu r_X11_readStep_132 (aV4 mt_206 la_106) (m_tell1 (k := 1) hn mg9 pm9 (by omega) rfl (by omega)) (fun IT hT => ?_)
                    obtain ⟨pmT, jT, oT⟩ := hT
                    have vgT : VG I IT := vg9.tr ⟨fun j _ _ _ _ p36 => jT j p36, fun o p1 p2 => oT o p1 p2⟩
                    have lsT : LSv g n κ k (stLead g n κ P s) IT := ls.mk vgT (r := (stLead g n κ P s).2) (by show MD g n (tx3 g n κ.nc κ.nb s).2 IT; rw [e9]; show MG g n s9 IT; have z := mg9; unfold MG at z ⊢; rw [jT 3 (by decide), jT 2 (by decide), jT 5 (by decide), jT 4 (by decide)]; exact z) ((jT 7 (by decide)).trans e79) (fun s2 z => ⟨pmT, by have z2 : (tx3 g n κ.nc κ.nb s).2 = .inl s2 := z; rw [e9] at z2; cases z2; show 4 * (P.m + 1) ≤ _; omega⟩)
                    refine EV.l (lv' := [(0, _), (1, _)]) r_X11_readStep_135 rfl ?_
                    refine EV.o r_X11_readStep_136 (bpN (59) 59) ?_
                    refine EV.cu r_X11_readStep_138 (aV1 mt_182 la_106) (m_sign lsT.1 gb (by omega) lsT.2.1 (by decide) (by decide) (by decide) (by decide) (by omega)) (fun IZ hZ => ?_)
                    have lsZ := lsT.sgs hZ.1 hZ.2
                    have vgZ := vgT.tr hZ.2.vg
                    exact EV.ru r_X11_readStep_141 (by unfold sgs; rw [stpT_1 sub o P kk]; exact ⟨lsZ, vgZ⟩)
                  · -- case
                    have vg9 : VG I I6 := (mp2.mo.vg.tr mp3.mo.vg).tr (((mo4.tr mo5).tr mo6)).vg
                    have e79 : I6 106 7 = nI k := ((((mo4.tr mo5).tr mo6)).2 7 (by decide) (by decide) (by decide)).trans ((mp3.2 7 (by decide)).trans ((mp2.2 7 (by decide)).trans ls.2.2.1))
                    have pm9 : PM P I6 := ((ls.pm.mo mp2.mo).mo mp3.mo).mo ((mo4.tr mo5).tr mo6)
                    have mb9 : MB n q9.1 q9.2 I6 := by have z : MD g n (tx3 g n κ.nc κ.nb s).2 I6 := md6; rw [e9] at z; exact z
                    refine EV.cu r_X11_readStep_132 (aV4 mt_206 la_106) (m_tell0 hn mb9 (by omega)) (fun IT hT => ?_)
                    have hT := hT.symm
                    subst hT
                    have vgT := vg9
                    have lsT : LSv g n κ k (stLead g n κ P s) I6 := ls.mk vg9 (r := (stLead g n κ P s).2) (by show MD g n (tx3 g n κ.nc κ.nb s).2 I6; rw [e9]; exact mb9) e79 (fun s2 z => by have z2 : (tx3 g n κ.nc κ.nb s).2 = .inl s2 := z; rw [e9] at z2; exact inr_ne z2)
                    refine EV.l (lv' := [(0, _), (1, _)]) r_X11_readStep_135 rfl ?_
                    refine EV.o r_X11_readStep_136 (bpN (59) 59) ?_
                    refine EV.cu r_X11_readStep_138 (aV1 mt_182 la_106) (m_sign lsT.1 gb (by omega) lsT.2.1 (by decide) (by decide) (by decide) (by decide) (by omega)) (fun IZ hZ => ?_)
                    have lsZ := lsT.sgs hZ.1 hZ.2
                    have vgZ := vgT.tr hZ.2.vg
                    exact EV.ru r_X11_readStep_141 (by unfold sgs; rw [stpT_1 sub o P kk]; exact ⟨lsZ, vgZ⟩)
                · omega
              · omega
            · omega
          · omega
        · omega
      · omega
    · omega
  · -- case
    refine EV.cv r_X11_readStep_4 (aS1 mt_207) (m_stepN (k := 2) (by rw [sk, kk]; rfl) (by omega) (by omega)) ?_
    refine EV.l (lv' := [(0, _), (1, _)]) r_X11_readStep_7 rfl ?_
    refine EV.l (lv' := [(0, _), (1, _)]) r_X11_readStep_8 rfl ?_
    refine EV.o r_X11_readStep_9 (icZ (-1)) ?_
    refine EV.nz2_ne r_X11_readStep_10 (fun h10 => ?_) (fun h10 => ?_)
    · -- 10 t
      refine EV.l (lv' := [(0, _), (1, _)]) r_X11_readStep_25 rfl ?_
      refine EV.o r_X11_readStep_26 (icN (5) (v := 5)) ?_
      refine EV.n2_ne r_X11_readStep_27 (fun h27 => ?_) (fun h27 => ?_)
      · -- 27 t
        refine EV.l (lv' := [(0, _), (1, _)]) r_X11_readStep_37 rfl ?_
        refine EV.cu r_X11_readStep_38 (aV0 mt_180 la_106) (m_pass ls2.1 gb (by omega) mg2.en mg2.sn a2 (by omega)) (fun I3 h3 => ?_)
        obtain ⟨a3, mp3⟩ := h3
        have kw2 := kd2_pe (of_decide_eq_true (kst_w (g := g) (n := n) (s := s) (by omega))).1
        have mg3 : MG g n (nxp g n s) I3 := mg2.mv mp3 (scp_le mg2.sn) a3 (by unfold nxp; rw [kw2.2.1])
        have tp3 := tp_fm ls2.1 (mp3.1 108 (by decide))
        have km3 : KM κ I3 := by have z := ls2.2.2.2.1; unfold KM at z ⊢; rw [mp3.2 22 (by decide), mp3.2 24 (by decide), mp3.2 25 (by decide)]; exact z
        have kw := kst_3 (g := g) (n := n) (s := s) (by omega)
        have m4 := ls.m4
        have nn := nxp_le (g := g) (n := n) (s := s) (by omega)
        refine EV.l (lv' := [(0, _), (1, _)]) r_X11_readStep_41 rfl ?_
        refine EV.o r_X11_readStep_42 (icN (4) (v := 4)) ?_
        refine EV.n2_ne r_X11_readStep_43 (fun h43 => ?_) (fun h43 => ?_)
        · -- 43 t
          refine EV.l (lv' := [(0, _), (1, _)]) r_X11_readStep_50 rfl ?_
          refine EV.o r_X11_readStep_51 (icN (0) (v := 0)) ?_
          refine EV.l (lv' := [(0, _), (1, _)]) r_X11_readStep_52 rfl ?_
          refine EV.o r_X11_readStep_53 (icN (3) (v := 3)) ?_
          refine EV.n2_ne r_X11_readStep_54 (fun h54 => ?_) (fun h54 => ?_)
          · -- 54 t
            refine EV.l (lv' := [(0, _), (1, _)]) r_X11_readStep_64 rfl ?_
            refine EV.getV r_X11_readStep_65 la_106 (km3.2.2) ?_
            refine EV.o r_X11_readStep_68 (icN (1) (v := 1)) ?_
            refine EV.o r_X11_readStep_69 (isubNZ) ?_
            refine EV.ci r_X11_readStep_70 (aV2 mt_181 la_106) (m_num (lo := 0) (hi := (κ.nc : Int) - ((1 : Nat) : Int)) tp3 gb (by omega) (r := .inl (nxp g n s)) mg3 (by omega) (by omega) (by omega) (by omega)) (fun v4 I4 h4 => ?_)
            obtain ⟨md4, ve4, mo4⟩ := h4
            refine EV.l (lv' := [(0, _), (1, _), (2, _)]) r_X11_readStep_73 rfl ?_
            refine EV.l (lv' := [(0, _), (1, _), (2, _)]) r_X11_readStep_74 rfl ?_
            refine EV.o r_X11_readStep_75 (icN (2) (v := 2)) ?_
            refine EV.n2_le r_X11_readStep_76 (fun h76 => ?_) (fun h76 => ?_)
            · -- 76 t
              refine EV.l (lv' := [(0, _), (1, _), (2, _)]) r_X11_readStep_83 rfl ?_
              refine EV.o r_X11_readStep_84 (icN (0) (v := 0)) ?_
              refine EV.l (lv' := [(0, _), (1, _), (2, _)]) r_X11_readStep_85 rfl ?_
              refine EV.o r_X11_readStep_86 (icN (2) (v := 2)) ?_
              refine EV.n2_ne r_X11_readStep_87 (fun h87 => ?_) (fun h87 => ?_)
              · omega
              · -- 87 f
                refine EV.l (lv' := [(0, _), (1, _), (2, _)]) r_X11_readStep_90 rfl ?_
                refine EV.getV r_X11_readStep_91 la_106 (((mo4.2 22 (by decide) (by decide) (by decide)).trans km3.1)) ?_
                refine EV.g r_X11_readStep_94 ?_
                refine EV.o r_X11_readStep_101 (icN (1) (v := 1)) ?_
                refine EV.o r_X11_readStep_102 (isubNZ) ?_
                refine EV.ci r_X11_readStep_103 (aV2 mt_181 la_106) (m_num (lo := 0) (hi := (κ.ns : Int) - ((1 : Nat) : Int)) (tp_fm tp3 (mo4.1 108 (by decide))) gb (by omega) (r := (tx1 g n κ.nc s).2) md4 (by omega) (by omega) (by omega) (by omega)) (fun v5 I5 h5 => ?_)
                obtain ⟨md5, ve5, mo5⟩ := h5
                refine EV.l (lv' := [(0, _), (1, _), (2, _), (3, _)]) r_X11_readStep_106 rfl ?_
                refine EV.l (lv' := [(0, _), (1, _), (2, _), (3, _)]) r_X11_readStep_107 rfl ?_
                refine EV.l (lv' := [(0, _), (1, _), (2, _), (3, _)]) r_X11_readStep_108 rfl ?_
                refine EV.l (lv' := [(0, _), (1, _), (2, _), (3, _)]) r_X11_readStep_109 rfl ?_
                refine EV.l (lv' := [(0, _), (1, _), (2, _), (3, _)]) r_X11_readStep_110 rfl ?_
                refine EV.l (lv' := [(0, _), (1, _), (2, _), (3, _)]) r_X11_readStep_111 rfl ?_
                refine EV.o r_X11_readStep_112 (icN (1) (v := 1)) ?_
                refine EV.n2_eq r_X11_readStep_113 (fun h113 => ?_) (fun h113 => ?_)
                · omega
                · -- 113 f
                  refine EV.l (lv' := [(0, _), (1, _), (2, _), (3, _)]) r_X11_readStep_116 rfl ?_
                  refine EV.o r_X11_readStep_117 (icN (2) (v := 2)) ?_
                  refine EV.n2_ne r_X11_readStep_118 (fun h118 => ?_) (fun h118 => ?_)
                  · omega
                  · -- 118 f
                    refine EV.l (lv' := [(0, _), (1, _), (2, _), (3, _)]) r_X11_readStep_121 rfl ?_
                    refine EV.o r_X11_readStep_122 (icN (1) (v := 1)) ?_
                    refine EV.o r_X11_readStep_123 (bpN (9) 9) ?_
                    refine EV.ci r_X11_readStep_125 (aV2 mt_181 la_106) (m_numN (lo := 1) (hi := 9) (tp_fm tp3 ((mo5.1 108 (by decide)).trans (mo4.1 108 (by decide)))) gb (by omega) (r := (tx2 g n κ.nc κ.ns s).2) md5 (by omega) (by omega) (by omega)) (fun v6 I6 h6 => ?_)
                    obtain ⟨md6, ve6, mo6⟩ := h6
                    refine EV.g r_X11_readStep_128 ?_
                    rcases rst_x (tx3 g n κ.nc κ.ns s).2 with ⟨s9, e9⟩ | ⟨q9, e9⟩
                    · -- case
                      have vg9 : VG I I6 := (mp2.mo.vg.tr mp3.mo.vg).tr (((mo4.tr mo5).tr mo6)).vg
                      have e79 : I6 106 7 = nI k := ((((mo4.tr mo5).tr mo6)).2 7 (by decide) (by decide) (by decide)).trans ((mp3.2 7 (by decide)).trans ((mp2.2 7 (by decide)).trans ls.2.2.1))
                      have pm9 : PM P I6 := ((ls.pm.mo mp2.mo).mo mp3.mo).mo ((mo4.tr mo5).tr mo6)
                      have mg9 : MG g n s9 I6 := by have z : MD g n (tx3 g n κ.nc κ.ns s).2 I6 := md6; rw [e9] at z; exact z
                      have p9 := tx3_q e9
                      obtain ⟨s8, e8⟩ := tkN_ok e9
                      obtain ⟨s7, e7⟩ := tkN_ok e8
                      have y4 : v4 = nI (tx1 g n κ.nc s).1 := ve4 s7 e7
                      have y5 : v5 = nI (tx2 g n κ.nc κ.ns s).1 := ve5 s8 e8
                      have y6 : v6 = nI (tx3 g n κ.nc κ.ns s).1 := ve6 s9 e9
                      subst y4
                      subst y5
                      subst y6
                      refine EV.cu r_X11_readStep_132 (aV4 mt_206 la_106) (m_tell1 (k := 2) hn mg9 pm9 (by omega) rfl (by omega)) (fun IT hT => ?_)
                      obtain ⟨pmT, jT, oT⟩ := hT
                      have vgT : VG I IT := vg9.tr ⟨fun j _ _ _ _ p36 => jT j p36, fun o p1 p2 => oT o p1 p2⟩
                      have lsT : LSv g n κ k (stPut g n κ P s) IT := ls.mk vgT (r := (stPut g n κ P s).2) (by show MD g n (tx3 g n κ.nc κ.ns s).2 IT; rw [e9]; show MG g n s9 IT; have z := mg9; unfold MG at z ⊢; rw [jT 3 (by decide), jT 2 (by decide), jT 5 (by decide), jT 4 (by decide)]; exact z) ((jT 7 (by decide)).trans e79) (fun s2 z => ⟨pmT, by have z2 : (tx3 g n κ.nc κ.ns s).2 = .inl s2 := z; rw [e9] at z2; cases z2; show 4 * (P.m + 1) ≤ _; omega⟩)
                      refine EV.l (lv' := [(0, _), (1, _)]) r_X11_readStep_135 rfl ?_
                      refine EV.o r_X11_readStep_136 (bpN (59) 59) ?_
                      refine EV.cu r_X11_readStep_138 (aV1 mt_182 la_106) (m_sign lsT.1 gb (by omega) lsT.2.1 (by decide) (by decide) (by decide) (by decide) (by omega)) (fun IZ hZ => ?_)
                      have lsZ := lsT.sgs hZ.1 hZ.2
                      have vgZ := vgT.tr hZ.2.vg
                      exact EV.ru r_X11_readStep_141 (by unfold sgs; rw [stpT_2 sub o P kk]; exact ⟨lsZ, vgZ⟩)
                    · -- case
                      have vg9 : VG I I6 := (mp2.mo.vg.tr mp3.mo.vg).tr (((mo4.tr mo5).tr mo6)).vg
                      have e79 : I6 106 7 = nI k := ((((mo4.tr mo5).tr mo6)).2 7 (by decide) (by decide) (by decide)).trans ((mp3.2 7 (by decide)).trans ((mp2.2 7 (by decide)).trans ls.2.2.1))
                      have pm9 : PM P I6 := ((ls.pm.mo mp2.mo).mo mp3.mo).mo ((mo4.tr mo5).tr mo6)
                      have mb9 : MB n q9.1 q9.2 I6 := by have z : MD g n (tx3 g n κ.nc κ.ns s).2 I6 := md6; rw [e9] at z; exact z
                      refine EV.cu r_X11_readStep_132 (aV4 mt_206 la_106) (m_tell0 hn mb9 (by omega)) (fun IT hT => ?_)
                      have hT := hT.symm
                      subst hT
                      have vgT := vg9
                      have lsT : LSv g n κ k (stPut g n κ P s) I6 := ls.mk vg9 (r := (stPut g n κ P s).2) (by show MD g n (tx3 g n κ.nc κ.ns s).2 I6; rw [e9]; exact mb9) e79 (fun s2 z => by have z2 : (tx3 g n κ.nc κ.ns s).2 = .inl s2 := z; rw [e9] at z2; exact inr_ne z2)
                      refine EV.l (lv' := [(0, _), (1, _)]) r_X11_readStep_135 rfl ?_
                      refine EV.o r_X11_readStep_136 (bpN (59) 59) ?_
                      refine EV.cu r_X11_readStep_138 (aV1 mt_182 la_106) (m_sign lsT.1 gb (by omega) lsT.2.1 (by decide) (by decide) (by decide) (by decide) (by omega)) (fun IZ hZ => ?_)
                      have lsZ := lsT.sgs hZ.1 hZ.2
                      have vgZ := vgT.tr hZ.2.vg
                      exact EV.ru r_X11_readStep_141 (by unfold sgs; rw [stpT_2 sub o P kk]; exact ⟨lsZ, vgZ⟩)
            · omega
          · omega
        · omega
      · omega
    · omega
  · -- case
    refine EV.cv r_X11_readStep_4 (aS1 mt_207) (m_stepN (k := 3) (by rw [sk, kk]; rfl) (by omega) (by omega)) ?_
    refine EV.l (lv' := [(0, _), (1, _)]) r_X11_readStep_7 rfl ?_
    refine EV.l (lv' := [(0, _), (1, _)]) r_X11_readStep_8 rfl ?_
    refine EV.o r_X11_readStep_9 (icZ (-1)) ?_
    refine EV.nz2_ne r_X11_readStep_10 (fun h10 => ?_) (fun h10 => ?_)
    · -- 10 t
      refine EV.l (lv' := [(0, _), (1, _)]) r_X11_readStep_25 rfl ?_
      refine EV.o r_X11_readStep_26 (icN (5) (v := 5)) ?_
      refine EV.n2_ne r_X11_readStep_27 (fun h27 => ?_) (fun h27 => ?_)
      · -- 27 t
        refine EV.l (lv' := [(0, _), (1, _)]) r_X11_readStep_37 rfl ?_
        refine EV.cu r_X11_readStep_38 (aV0 mt_180 la_106) (m_pass ls2.1 gb (by omega) mg2.en mg2.sn a2 (by omega)) (fun I3 h3 => ?_)
        obtain ⟨a3, mp3⟩ := h3
        have kw2 := kd2_pe (of_decide_eq_true (kst_w (g := g) (n := n) (s := s) (by omega))).1
        have mg3 : MG g n (nxp g n s) I3 := mg2.mv mp3 (scp_le mg2.sn) a3 (by unfold nxp; rw [kw2.2.1])
        have tp3 := tp_fm ls2.1 (mp3.1 108 (by decide))
        have km3 : KM κ I3 := by have z := ls2.2.2.2.1; unfold KM at z ⊢; rw [mp3.2 22 (by decide), mp3.2 24 (by decide), mp3.2 25 (by decide)]; exact z
        have kw := kst_3 (g := g) (n := n) (s := s) (by omega)
        have m4 := ls.m4
        have nn := nxp_le (g := g) (n := n) (s := s) (by omega)
        have w4 := (isW_nx (kst_x3 kk) (by decide)).2.1
        have w4b : tNote.length = 4 := rfl
        refine EV.l (lv' := [(0, _), (1, _)]) r_X11_readStep_41 rfl ?_
        refine EV.o r_X11_readStep_42 (icN (4) (v := 4)) ?_
        refine EV.n2_ne r_X11_readStep_43 (fun h43 => ?_) (fun h43 => ?_)
        · -- 43 t
          refine EV.l (lv' := [(0, _), (1, _)]) r_X11_readStep_50 rfl ?_
          refine EV.o r_X11_readStep_51 (icN (0) (v := 0)) ?_
          refine EV.l (lv' := [(0, _), (1, _)]) r_X11_readStep_52 rfl ?_
          refine EV.o r_X11_readStep_53 (icN (3) (v := 3)) ?_
          refine EV.n2_ne r_X11_readStep_54 (fun h54 => ?_) (fun h54 => ?_)
          · omega
          · -- 54 f
            refine EV.l (lv' := [(0, _), (1, _)]) r_X11_readStep_57 rfl ?_
            refine EV.getV r_X11_readStep_58 la_106 (km3.1) ?_
            refine EV.g r_X11_readStep_61 ?_
            refine EV.o r_X11_readStep_68 (icN (1) (v := 1)) ?_
            refine EV.o r_X11_readStep_69 (isubNZ) ?_
            refine EV.ci r_X11_readStep_70 (aV2 mt_181 la_106) (m_num (lo := 0) (hi := (κ.ns : Int) - ((1 : Nat) : Int)) tp3 gb (by omega) (r := .inl (nxp g n s)) mg3 (by omega) (by omega) (by omega) (by omega)) (fun v4 I4 h4 => ?_)
            obtain ⟨md4, ve4, mo4⟩ := h4
            refine EV.l (lv' := [(0, _), (1, _), (2, _)]) r_X11_readStep_73 rfl ?_
            refine EV.l (lv' := [(0, _), (1, _), (2, _)]) r_X11_readStep_74 rfl ?_
            refine EV.o r_X11_readStep_75 (icN (2) (v := 2)) ?_
            refine EV.n2_le r_X11_readStep_76 (fun h76 => ?_) (fun h76 => ?_)
            · omega
            · -- 76 f
              refine EV.o r_X11_readStep_79 (icN (0) (v := 0)) ?_
              refine EV.g r_X11_readStep_80 ?_
              refine EV.l (lv' := [(0, _), (1, _), (2, _), (3, _)]) r_X11_readStep_106 rfl ?_
              refine EV.l (lv' := [(0, _), (1, _), (2, _), (3, _)]) r_X11_readStep_107 rfl ?_
              refine EV.l (lv' := [(0, _), (1, _), (2, _), (3, _)]) r_X11_readStep_108 rfl ?_
              refine EV.l (lv' := [(0, _), (1, _), (2, _), (3, _)]) r_X11_readStep_109 rfl ?_
              refine EV.l (lv' := [(0, _), (1, _), (2, _), (3, _)]) r_X11_readStep_110 rfl ?_
              refine EV.l (lv' := [(0, _), (1, _), (2, _), (3, _)]) r_X11_readStep_111 rfl ?_
              refine EV.o r_X11_readStep_112 (icN (1) (v := 1)) ?_
              refine EV.n2_eq r_X11_readStep_113 (fun h113 => ?_) (fun h113 => ?_)
              · omega
              · -- 113 f
                refine EV.l (lv' := [(0, _), (1, _), (2, _), (3, _)]) r_X11_readStep_116 rfl ?_
                refine EV.o r_X11_readStep_117 (icN (2) (v := 2)) ?_
                refine EV.n2_ne r_X11_readStep_118 (fun h118 => ?_) (fun h118 => ?_)
                · -- 118 t
                  refine EV.o r_X11_readStep_131 (icN (0) (v := 0)) ?_
                  rcases rst_x (tx1 g n κ.ns s).2 with ⟨s9, e9⟩ | ⟨q9, e9⟩
                  · -- case
                    have vg9 : VG I I4 := (mp2.mo.vg.tr mp3.mo.vg).tr (mo4).vg
                    have e79 : I4 106 7 = nI k := ((mo4).2 7 (by decide) (by decide) (by decide)).trans ((mp3.2 7 (by decide)).trans ((mp2.2 7 (by decide)).trans ls.2.2.1))
                    have pm9 : PM P I4 := ((ls.pm.mo mp2.mo).mo mp3.mo).mo mo4
                    have mg9 : MG g n s9 I4 := by have z : MD g n (tx1 g n κ.ns s).2 I4 := md4; rw [e9] at z; exact z
                    have p9 := tx1_q e9
                    have y4 : v4 = nI (tx1 g n κ.ns s).1 := ve4 s9 e9
                    subst y4
                    refine EV.cu r_X11_readStep_132 (aV4 mt_206 la_106) (m_tell1 (k := 3) hn mg9 pm9 (by omega) rfl (by omega)) (fun IT hT => ?_)
                    obtain ⟨pmT, jT, oT⟩ := hT
                    have vgT : VG I IT := vg9.tr ⟨fun j _ _ _ _ p36 => jT j p36, fun o p1 p2 => oT o p1 p2⟩
                    have lsT : LSv g n κ k (stNote g n κ P s) IT := ls.mk vgT (r := (stNote g n κ P s).2) (by show MD g n (tx1 g n κ.ns s).2 IT; rw [e9]; show MG g n s9 IT; have z := mg9; unfold MG at z ⊢; rw [jT 3 (by decide), jT 2 (by decide), jT 5 (by decide), jT 4 (by decide)]; exact z) ((jT 7 (by decide)).trans e79) (fun s2 z => ⟨pmT, by have z2 : (tx1 g n κ.ns s).2 = .inl s2 := z; rw [e9] at z2; cases z2; show 4 * (P.m + 1) ≤ _; omega⟩)
                    refine EV.l (lv' := [(0, _), (1, _)]) r_X11_readStep_135 rfl ?_
                    refine EV.o r_X11_readStep_136 (bpN (59) 59) ?_
                    refine EV.cu r_X11_readStep_138 (aV1 mt_182 la_106) (m_sign lsT.1 gb (by omega) lsT.2.1 (by decide) (by decide) (by decide) (by decide) (by omega)) (fun IZ hZ => ?_)
                    have lsZ := lsT.sgs hZ.1 hZ.2
                    have vgZ := vgT.tr hZ.2.vg
                    exact EV.ru r_X11_readStep_141 (by unfold sgs; rw [stpT_3 sub o P kk]; exact ⟨lsZ, vgZ⟩)
                  · -- case
                    have vg9 : VG I I4 := (mp2.mo.vg.tr mp3.mo.vg).tr (mo4).vg
                    have e79 : I4 106 7 = nI k := ((mo4).2 7 (by decide) (by decide) (by decide)).trans ((mp3.2 7 (by decide)).trans ((mp2.2 7 (by decide)).trans ls.2.2.1))
                    have pm9 : PM P I4 := ((ls.pm.mo mp2.mo).mo mp3.mo).mo mo4
                    have mb9 : MB n q9.1 q9.2 I4 := by have z : MD g n (tx1 g n κ.ns s).2 I4 := md4; rw [e9] at z; exact z
                    refine EV.cu r_X11_readStep_132 (aV4 mt_206 la_106) (m_tell0 hn mb9 (by omega)) (fun IT hT => ?_)
                    have hT := hT.symm
                    subst hT
                    have vgT := vg9
                    have lsT : LSv g n κ k (stNote g n κ P s) I4 := ls.mk vg9 (r := (stNote g n κ P s).2) (by show MD g n (tx1 g n κ.ns s).2 I4; rw [e9]; exact mb9) e79 (fun s2 z => by have z2 : (tx1 g n κ.ns s).2 = .inl s2 := z; rw [e9] at z2; exact inr_ne z2)
                    refine EV.l (lv' := [(0, _), (1, _)]) r_X11_readStep_135 rfl ?_
                    refine EV.o r_X11_readStep_136 (bpN (59) 59) ?_
                    refine EV.cu r_X11_readStep_138 (aV1 mt_182 la_106) (m_sign lsT.1 gb (by omega) lsT.2.1 (by decide) (by decide) (by decide) (by decide) (by omega)) (fun IZ hZ => ?_)
                    have lsZ := lsT.sgs hZ.1 hZ.2
                    have vgZ := vgT.tr hZ.2.vg
                    exact EV.ru r_X11_readStep_141 (by unfold sgs; rw [stpT_3 sub o P kk]; exact ⟨lsZ, vgZ⟩)
                · omega
        · omega
      · omega
    · omega
  · -- case
    refine EV.cv r_X11_readStep_4 (aS1 mt_207) (m_stepN (k := 4) (by rw [sk, kk]; rfl) (by omega) (by omega)) ?_
    refine EV.l (lv' := [(0, _), (1, _)]) r_X11_readStep_7 rfl ?_
    refine EV.l (lv' := [(0, _), (1, _)]) r_X11_readStep_8 rfl ?_
    refine EV.o r_X11_readStep_9 (icZ (-1)) ?_
    refine EV.nz2_ne r_X11_readStep_10 (fun h10 => ?_) (fun h10 => ?_)
    · -- 10 t
      refine EV.l (lv' := [(0, _), (1, _)]) r_X11_readStep_25 rfl ?_
      refine EV.o r_X11_readStep_26 (icN (5) (v := 5)) ?_
      refine EV.n2_ne r_X11_readStep_27 (fun h27 => ?_) (fun h27 => ?_)
      · -- 27 t
        refine EV.l (lv' := [(0, _), (1, _)]) r_X11_readStep_37 rfl ?_
        refine EV.cu r_X11_readStep_38 (aV0 mt_180 la_106) (m_pass ls2.1 gb (by omega) mg2.en mg2.sn a2 (by omega)) (fun I3 h3 => ?_)
        obtain ⟨a3, mp3⟩ := h3
        have kw2 := kd2_pe (of_decide_eq_true (kst_w (g := g) (n := n) (s := s) (by omega))).1
        have mg3 : MG g n (nxp g n s) I3 := mg2.mv mp3 (scp_le mg2.sn) a3 (by unfold nxp; rw [kw2.2.1])
        have tp3 := tp_fm ls2.1 (mp3.1 108 (by decide))
        have km3 : KM κ I3 := by have z := ls2.2.2.2.1; unfold KM at z ⊢; rw [mp3.2 22 (by decide), mp3.2 24 (by decide), mp3.2 25 (by decide)]; exact z
        have kw := kst_3 (g := g) (n := n) (s := s) (by omega)
        have m4 := ls.m4
        have nn := nxp_le (g := g) (n := n) (s := s) (by omega)
        have w4 := (isW_nx (kst_x4 kk) (by decide)).2.1
        have w4b : tMinu.length = 6 := rfl
        refine EV.l (lv' := [(0, _), (1, _)]) r_X11_readStep_41 rfl ?_
        refine EV.o r_X11_readStep_42 (icN (4) (v := 4)) ?_
        refine EV.n2_ne r_X11_readStep_43 (fun h43 => ?_) (fun h43 => ?_)
        · omega
        · -- 43 f
          refine EV.o r_X11_readStep_46 (icN (0) (v := 0)) ?_
          refine EV.g r_X11_readStep_47 ?_
          refine EV.l (lv' := [(0, _), (1, _), (2, _)]) r_X11_readStep_73 rfl ?_
          refine EV.l (lv' := [(0, _), (1, _), (2, _)]) r_X11_readStep_74 rfl ?_
          refine EV.o r_X11_readStep_75 (icN (2) (v := 2)) ?_
          refine EV.n2_le r_X11_readStep_76 (fun h76 => ?_) (fun h76 => ?_)
          · omega
          · -- 76 f
            refine EV.o r_X11_readStep_79 (icN (0) (v := 0)) ?_
            refine EV.g r_X11_readStep_80 ?_
            refine EV.l (lv' := [(0, _), (1, _), (2, _), (3, _)]) r_X11_readStep_106 rfl ?_
            refine EV.l (lv' := [(0, _), (1, _), (2, _), (3, _)]) r_X11_readStep_107 rfl ?_
            refine EV.l (lv' := [(0, _), (1, _), (2, _), (3, _)]) r_X11_readStep_108 rfl ?_
            refine EV.l (lv' := [(0, _), (1, _), (2, _), (3, _)]) r_X11_readStep_109 rfl ?_
            refine EV.l (lv' := [(0, _), (1, _), (2, _), (3, _)]) r_X11_readStep_110 rfl ?_
            refine EV.l (lv' := [(0, _), (1, _), (2, _), (3, _)]) r_X11_readStep_111 rfl ?_
            refine EV.o r_X11_readStep_112 (icN (1) (v := 1)) ?_
            refine EV.n2_eq r_X11_readStep_113 (fun h113 => ?_) (fun h113 => ?_)
            · omega
            · -- 113 f
              refine EV.l (lv' := [(0, _), (1, _), (2, _), (3, _)]) r_X11_readStep_116 rfl ?_
              refine EV.o r_X11_readStep_117 (icN (2) (v := 2)) ?_
              refine EV.n2_ne r_X11_readStep_118 (fun h118 => ?_) (fun h118 => ?_)
              · -- 118 t
                refine EV.o r_X11_readStep_131 (icN (0) (v := 0)) ?_
                have vg9 : VG I I3 := (mp2.mo.vg.tr mp3.mo.vg).tr (MO.rf).vg
                have e79 : I3 106 7 = nI k := ((MO.rf).2 7 (by decide) (by decide) (by decide)).trans ((mp3.2 7 (by decide)).trans ((mp2.2 7 (by decide)).trans ls.2.2.1))
                have pm9 : PM P I3 := ((ls.pm.mo mp2.mo).mo mp3.mo).mo MO.rf
                have mg9 : MG g n (nxp g n s) I3 := mg3
                refine EV.cu r_X11_readStep_132 (aV4 mt_206 la_106) (m_tell1 (k := 4) hn mg9 pm9 (by omega) rfl (by omega)) (fun IT hT => ?_)
                obtain ⟨pmT, jT, oT⟩ := hT
                have vgT : VG I IT := vg9.tr ⟨fun j _ _ _ _ p36 => jT j p36, fun o p1 p2 => oT o p1 p2⟩
                have lsT : LSv g n κ k (stMin g n P s) IT := ls.mk vgT (r := (stMin g n P s).2) (by show MG g n (nxp g n s) IT; have z := mg9; unfold MG at z ⊢; rw [jT 3 (by decide), jT 2 (by decide), jT 5 (by decide), jT 4 (by decide)]; exact z) ((jT 7 (by decide)).trans e79) (fun s2 z => ⟨pmT, by have z2 : (Sum.inl (nxp g n s) : RST) = .inl s2 := z; cases z2; show 4 * (P.m + 1) ≤ _; omega⟩)
                refine EV.l (lv' := [(0, _), (1, _)]) r_X11_readStep_135 rfl ?_
                refine EV.o r_X11_readStep_136 (bpN (59) 59) ?_
                refine EV.cu r_X11_readStep_138 (aV1 mt_182 la_106) (m_sign lsT.1 gb (by omega) lsT.2.1 (by decide) (by decide) (by decide) (by decide) (by omega)) (fun IZ hZ => ?_)
                have lsZ := lsT.sgs hZ.1 hZ.2
                have vgZ := vgT.tr hZ.2.vg
                exact EV.ru r_X11_readStep_141 (by unfold sgs; rw [stpT_4 sub o P kk]; exact ⟨lsZ, vgZ⟩)
              · omega
      · omega
    · omega
  · -- case
    refine EV.cv r_X11_readStep_4 (aS1 mt_207) (m_stepN (k := 5) (by rw [sk, kk]; rfl) (by omega) (by omega)) ?_
    refine EV.l (lv' := [(0, _), (1, _)]) r_X11_readStep_7 rfl ?_
    refine EV.l (lv' := [(0, _), (1, _)]) r_X11_readStep_8 rfl ?_
    refine EV.o r_X11_readStep_9 (icZ (-1)) ?_
    refine EV.nz2_ne r_X11_readStep_10 (fun h10 => ?_) (fun h10 => ?_)
    · -- 10 t
      refine EV.l (lv' := [(0, _), (1, _)]) r_X11_readStep_25 rfl ?_
      refine EV.o r_X11_readStep_26 (icN (5) (v := 5)) ?_
      refine EV.n2_ne r_X11_readStep_27 (fun h27 => ?_) (fun h27 => ?_)
      · omega
      · -- 27 f
        refine EV.l (lv' := [(0, _), (1, _)]) r_X11_readStep_30 rfl ?_
        refine EV.cu r_X11_readStep_31 (aV0 mt_208 la_106) (ag (kst_x5 kk) d' I2 (by omega) ls2 a2) (fun I3 h3 => ?_)
        have lsT := h3.1
        have vgT : VG I I3 := mp2.mo.vg.tr h3.2
        refine EV.g r_X11_readStep_34 ?_
        refine EV.l (lv' := [(0, _), (1, _)]) r_X11_readStep_135 rfl ?_
        refine EV.o r_X11_readStep_136 (bpN (59) 59) ?_
        refine EV.cu r_X11_readStep_138 (aV1 mt_182 la_106) (m_sign lsT.1 gb (by omega) lsT.2.1 (by decide) (by decide) (by decide) (by decide) (by omega)) (fun IZ hZ => ?_)
        have lsZ := lsT.sgs hZ.1 hZ.2
        have vgZ := vgT.tr hZ.2.vg
        exact EV.ru r_X11_readStep_141 (by unfold sgs; rw [stpT_5 sub o P kk]; exact ⟨lsZ, vgZ⟩)
    · omega
  · -- case
    refine EV.cv r_X11_readStep_4 (aS1 mt_207) (m_stepZ (by rw [sk, kk]; rfl) (by omega) (by omega)) ?_
    refine EV.l (lv' := [(0, _), (1, _)]) r_X11_readStep_7 rfl ?_
    refine EV.l (lv' := [(0, _), (1, _)]) r_X11_readStep_8 rfl ?_
    refine EV.o r_X11_readStep_9 (icZ (-1)) ?_
    refine EV.z2_ne r_X11_readStep_10 (fun h10 => ?_) (fun h10 => ?_)
    · omega
    · -- 10 f
      refine EV.l (lv' := [(0, _), (1, _)]) r_X11_readStep_13 rfl ?_
      refine EV.o r_X11_readStep_14 (icN (1) (v := 1)) ?_
      refine EV.l (lv' := [(0, _), (1, _)]) r_X11_readStep_15 rfl ?_
      refine EV.getV r_X11_readStep_16 la_106 (a2) ?_
      refine EV.cu r_X11_readStep_19 (aV2 mt_174 la_106) (m_wrongG mg2 (by decide) (by decide) mg2.sn (by omega)) (fun I3 h3 => ?_)
      obtain ⟨mb3, mo3⟩ := h3
      have lsT : LSv g n κ k (P, .inr (1, s)) I3 := ls2.mo (r2 := .inr (1, s)) mb3 mo3 (fun s2 e => inr_ne e)
      have vgT : VG I I3 := mp2.mo.vg.tr mo3.vg
      refine EV.g r_X11_readStep_22 ?_
      refine EV.l (lv' := [(0, _), (1, _)]) r_X11_readStep_135 rfl ?_
      refine EV.o r_X11_readStep_136 (bpN (59) 59) ?_
      refine EV.cu r_X11_readStep_138 (aV1 mt_182 la_106) (m_sign lsT.1 gb (by omega) lsT.2.1 (by decide) (by decide) (by decide) (by decide) (by omega)) (fun IZ hZ => ?_)
      have lsZ := lsT.sgs hZ.1 hZ.2
      have vgZ := vgT.tr hZ.2.vg
      exact EV.ru r_X11_readStep_141 (by unfold sgs; rw [stpT_6 sub o P (by omega)]; exact ⟨lsZ, vgZ⟩)
theorem m_stT {g : Nat → Nat} {n : Nat} {κ : CT} (gb : ∀ j, g j < 256) (hn : n ≤ 150) (cb : CB κ) : ∀ o k, k + o = 6 → CMs (2 * o + 8) k g n κ (stT g n κ o)
  | 0, k, h => fun d I J P s hd ls => m_step (sub := fun x => x) (o := 0) (D := 7) gb hn cb ls (by decide) (fun hw d2 I2 h2 l2 a2 => by
      rw [if_neg (Nat.lt_irrefl 0)]
      exact m_agn0 gb hn cb l2 a2 hw (by omega) (by omega)) (by omega)
  | o + 1, k, h => fun d I J P s hd ls => by
    have ih := m_stT (g := g) (n := n) (κ := κ) gb hn cb o (k + 1) (by omega)
    exact m_step (sub := stps n (enB g n) (sgs g n (stT g n κ o)) 150) (o := o + 1) (D := 2 * o + 9) gb hn cb ls (by omega) (fun hw d2 I2 h2 l2 a2 => by
      rw [if_pos (Nat.succ_pos o)]
      exact m_agn1 gb hn cb l2 a2 hw (by omega) (D := 2 * o + 8) (by omega) (stT_pg o) (fun P s h => stpT_eof h) ih (by omega)) (by omega)
