/-! (goes on) -/
theorem m_proof {d : Nat} {I : Nat → Nat → Int32} {J : Nat → Nat → Int64} {κ : CT} {l : LW} {η : HS} (mc_ : MC κ I) (cb : CB κ) (mr : MR 125 κ η I) (hb_ : HB κ η) (ml_ : ML l I) (lb : LB l) (wm : WM κ l η) {i : Nat} (h : i < κ.ns)  (hd : 13 ≤ d) : RI d 250 [.ref 106, .int (nI i)] I J (fun v I' => v = nI (pfC κ i (2 ^ κ.ns)) ∧ FM I I') := by
  refine RI.in (d0 := 12) hd mt_250 (Nat.le_of_ble_eq_true rfl) (fun d' hd' => ?_)
  have bns := cb.ns; have bnb := cb.nb; have bnc := cb.nc; have bnr := cb.nr
  have bm_ := hb_.mi
  have mc1 := wr0_mc (v := nI 0) mc_
  have pn := pow_ns cb; have p0 := Nat.two_pow_pos κ.ns
  show EV none M_X11_proof d' 0 [(0, .ref 106), (1, .int (nI i))] [] (hp I J) _
  refine EV.l (lv' := [(0, _), (1, _)]) r_X11_proof_0 rfl ?_
  refine EV.o r_X11_proof_1 (icN (0) (v := 0)) ?_
  refine EV.pI r_X11_proof_2 la_106 ?_
  refine EV.l (lv' := [(0, _), (1, _)]) r_X11_proof_5 rfl ?_
  refine EV.l (lv' := [(0, _), (1, _)]) r_X11_proof_6 rfl ?_
  refine EV.o r_X11_proof_7 (icN (1) (v := 1)) ?_
  refine EV.cv r_X11_proof_8 (aV2 mt_238 la_106) (m_isSayN1 (wr0_mc mc_) cb wr_same (by omega) (by omega)) ?_
  refine EV.n0_ne r_X11_proof_11 (fun h11 => ?_) (fun h11 => ?_)
  · -- 11 t
    refine EV.o r_X11_proof_16 (icZ (-1)) ?_
    refine EV.l (lv' := [(0, _), (1, _), (2, _)]) r_X11_proof_17 rfl ?_
    refine EV.o r_X11_proof_18 (icN (0) (v := 0)) ?_
    refine EV.l (lv' := [(0, _), (1, _), (2, _), (3, _)]) r_X11_proof_19 rfl ?_
    have L20 : ∀ y_ : Nat, (fun s => s ≤ 2 ^ κ.ns → EV none M_X11_proof d' 20 [(0, .ref 106), (1, .int (nI i)), (2, .int (opI (bst (pfp κ i) pcl s))), (3, .int (nI s))] [] (hp (wr I 106 0 (nI 0)) J) (QI J (fun v I' => v = nI (pfC κ i (2 ^ κ.ns)) ∧ FM I I'))) y_ := by
      refine ev_loop (fun s => 2 ^ κ.ns - s) ?_
      intro s ih20 hx20
      try dsimp only at ih20
      try dsimp only at hx20
      try dsimp only
      have cl_ : s < 2 ^ κ.ns → clo κ s < 2 ^ κ.ns := clo_lt cb
      have ps1 := pc9_le s
      refine EV.l (lv' := [(0, _), (1, _), (2, _), (3, _)]) r_X11_proof_20 rfl ?_
      refine EV.o r_X11_proof_21 (icN (1) (v := 1)) ?_
      refine EV.l (lv' := [(0, _), (1, _), (2, _), (3, _)]) r_X11_proof_22 rfl ?_
      refine EV.getV r_X11_proof_23 la_106 (mc1.ns) ?_
      refine EV.o r_X11_proof_26 (ishl1) ?_
      refine EV.n2_ge r_X11_proof_27 (fun h27 => ?_) (fun h27 => ?_)
      · -- 27 t
        refine EV.l (lv' := [(0, _), (1, _), (2, _), (3, _)]) r_X11_proof_67 rfl ?_
        exact EV.ri r_X11_proof_68 (⟨by rw [show s = 2 ^ κ.ns by omega]; exact pf_eq h, FM_0⟩)
      · -- 27 f
        refine EV.l (lv' := [(0, _), (1, _), (2, _), (3, _)]) r_X11_proof_30 rfl ?_
        refine EV.o r_X11_proof_31 (icZ (-1)) ?_
        refine EV.op_eq r_X11_proof_32 (fun h32 => ?_) (fun h32 => ?_) (fun c ec_ => by have := bst_lt2 ec_ (by omega : _ ≤ 2 ^ κ.ns); omega)
        · -- 32 t
          refine EV.l (lv' := [(0, _), (1, _), (2, _), (3, _)]) r_X11_proof_46 rfl ?_
          refine EV.l (lv' := [(0, _), (1, _), (2, _), (3, _)]) r_X11_proof_47 rfl ?_
          refine EV.cv r_X11_proof_48 (aV1 mt_223 la_106) (m_allFrom mc1 cb (by omega) (by omega)) ?_
          have cl2 := cl_ (by omega)
          refine EV.l (lv' := [(0, _), (1, _), (2, _), (3, _)]) r_X11_proof_51 rfl ?_
          refine EV.o r_X11_proof_52 (ishrN) ?_
          refine EV.o r_X11_proof_53 (icN (1) (v := 1)) ?_
          refine EV.o r_X11_proof_54 ibitN ?_
          refine EV.o r_X11_proof_55 (icN (1) (v := 1)) ?_
          refine EV.bt_ne r_X11_proof_56 (fun h56 => ?_) (fun h56 => ?_)
          · -- 56 t
            have hp : pfp κ i s = false := h56
            refine EV.l (lv' := [(0, _), (1, _), (2, _), (3, _)]) r_X11_proof_61 rfl ?_
            rw [inc_nI]
            refine EV.g r_X11_proof_64 ?_
            refine EV.sub ?_ rfl ?_ (ih20 (s + 1) ?_ ?_)
            · first | (rw [bst_l (p := pfp κ i) (lt := pcl) (by assumption) (decide_eq_false (by omega))]; rfl) | (rw [bst_n (p := pfp κ i) (lt := pcl) (by assumption)]; done) | (rw [bst_n (p := pfp κ i) (lt := pcl) (by assumption), ec_]; rfl) | (rw [bst_0 (p := pfp κ i) (lt := pcl) (by assumption) (by assumption)]; rfl) | (rw [bst_t (p := pfp κ i) (lt := pcl) (by assumption) (by assumption) (decide_eq_true (by omega))]; rfl)
            · rfl
            · omega
            · omega
          · -- 56 f
            have hp : pfp κ i s = true := h56
            refine EV.l (lv' := [(0, _), (1, _), (2, _), (3, _)]) r_X11_proof_59 rfl ?_
            refine EV.l (lv' := [(0, _), (1, _), (2, _), (3, _)]) r_X11_proof_60 rfl ?_
            refine EV.l (lv' := [(0, _), (1, _), (2, _), (3, _)]) r_X11_proof_61 rfl ?_
            rw [inc_nI]
            refine EV.g r_X11_proof_64 ?_
            refine EV.sub ?_ rfl ?_ (ih20 (s + 1) ?_ ?_)
            · first | (rw [bst_l (p := pfp κ i) (lt := pcl) (by assumption) (decide_eq_false (by omega))]; rfl) | (rw [bst_n (p := pfp κ i) (lt := pcl) (by assumption)]; done) | (rw [bst_n (p := pfp κ i) (lt := pcl) (by assumption), ec_]; rfl) | (rw [bst_0 (p := pfp κ i) (lt := pcl) (by assumption) (by assumption)]; rfl) | (rw [bst_t (p := pfp κ i) (lt := pcl) (by assumption) (by assumption) (decide_eq_true (by omega))]; rfl)
            · rfl
            · omega
            · omega
        · -- 32 f
          obtain ⟨c, ec_⟩ := h32
          rw [ec_, opI_some]
          have bc_ := bst_lt2 ec_ (by omega : _ ≤ 2 ^ κ.ns)
          have pc1 := pc9_le c
          refine EV.l (lv' := [(0, _), (1, _), (2, _), (3, _)]) r_X11_proof_35 rfl ?_
          refine EV.cv r_X11_proof_36 (aS1 mt_213) (m_ones (by omega) (by omega)) ?_
          refine EV.l (lv' := [(0, _), (1, _), (2, _), (3, _)]) r_X11_proof_39 rfl ?_
          refine EV.cv r_X11_proof_40 (aS1 mt_213) (m_ones (by omega) (by omega)) ?_
          refine EV.n2_ge r_X11_proof_43 (fun h43 => ?_) (fun h43 => ?_)
          · -- 43 t
            refine EV.l (lv' := [(0, _), (1, _), (2, _), (3, _)]) r_X11_proof_61 rfl ?_
            rw [inc_nI]
            refine EV.g r_X11_proof_64 ?_
            refine EV.sub ?_ rfl ?_ (ih20 (s + 1) ?_ ?_)
            · first | (rw [bst_l (p := pfp κ i) (lt := pcl) (by assumption) (decide_eq_false (by omega))]; rfl) | (rw [bst_n (p := pfp κ i) (lt := pcl) (by assumption)]; done) | (rw [bst_n (p := pfp κ i) (lt := pcl) (by assumption), ec_]; rfl) | (rw [bst_0 (p := pfp κ i) (lt := pcl) (by assumption) (by assumption)]; rfl) | (rw [bst_t (p := pfp κ i) (lt := pcl) (by assumption) (by assumption) (decide_eq_true (by omega))]; rfl)
            · rfl
            · omega
            · omega
          · -- 43 f
            refine EV.l (lv' := [(0, _), (1, _), (2, _), (3, _)]) r_X11_proof_46 rfl ?_
            refine EV.l (lv' := [(0, _), (1, _), (2, _), (3, _)]) r_X11_proof_47 rfl ?_
            refine EV.cv r_X11_proof_48 (aV1 mt_223 la_106) (m_allFrom mc1 cb (by omega) (by omega)) ?_
            have cl2 := cl_ (by omega)
            refine EV.l (lv' := [(0, _), (1, _), (2, _), (3, _)]) r_X11_proof_51 rfl ?_
            refine EV.o r_X11_proof_52 (ishrN) ?_
            refine EV.o r_X11_proof_53 (icN (1) (v := 1)) ?_
            refine EV.o r_X11_proof_54 ibitN ?_
            refine EV.o r_X11_proof_55 (icN (1) (v := 1)) ?_
            refine EV.bt_ne r_X11_proof_56 (fun h56 => ?_) (fun h56 => ?_)
            · -- 56 t
              have hp : pfp κ i s = false := h56
              refine EV.l (lv' := [(0, _), (1, _), (2, _), (3, _)]) r_X11_proof_61 rfl ?_
              rw [inc_nI]
              refine EV.g r_X11_proof_64 ?_
              refine EV.sub ?_ rfl ?_ (ih20 (s + 1) ?_ ?_)
              · first | (rw [bst_l (p := pfp κ i) (lt := pcl) (by assumption) (decide_eq_false (by omega))]; rfl) | (rw [bst_n (p := pfp κ i) (lt := pcl) (by assumption)]; done) | (rw [bst_n (p := pfp κ i) (lt := pcl) (by assumption), ec_]; rfl) | (rw [bst_0 (p := pfp κ i) (lt := pcl) (by assumption) (by assumption)]; rfl) | (rw [bst_t (p := pfp κ i) (lt := pcl) (by assumption) (by assumption) (decide_eq_true (by omega))]; rfl)
              · rfl
              · omega
              · omega
            · -- 56 f
              have hp : pfp κ i s = true := h56
              refine EV.l (lv' := [(0, _), (1, _), (2, _), (3, _)]) r_X11_proof_59 rfl ?_
              refine EV.l (lv' := [(0, _), (1, _), (2, _), (3, _)]) r_X11_proof_60 rfl ?_
              refine EV.l (lv' := [(0, _), (1, _), (2, _), (3, _)]) r_X11_proof_61 rfl ?_
              rw [inc_nI]
              refine EV.g r_X11_proof_64 ?_
              refine EV.sub ?_ rfl ?_ (ih20 (s + 1) ?_ ?_)
              · first | (rw [bst_l (p := pfp κ i) (lt := pcl) (by assumption) (decide_eq_false (by omega))]; rfl) | (rw [bst_n (p := pfp κ i) (lt := pcl) (by assumption)]; done) | (rw [bst_n (p := pfp κ i) (lt := pcl) (by assumption), ec_]; rfl) | (rw [bst_0 (p := pfp κ i) (lt := pcl) (by assumption) (by assumption)]; rfl) | (rw [bst_t (p := pfp κ i) (lt := pcl) (by assumption) (by assumption) (decide_eq_true (by omega))]; rfl)
              · rfl
              · omega
              · omega
    have h0 := L20 (0)
    try dsimp only at h0
    refine EV.sub ?_ rfl ?_ (h0 ?_)
    · rfl
    · rfl
    · omega
  · omega
theorem m_turn {d : Nat} {I : Nat → Nat → Int32} {J : Nat → Nat → Int64} {κ : CT} {l : LW} {η : HS} (mc_ : MC κ I) (cb : CB κ) (mr : MR 125 κ η I) (hb_ : HB κ η) (ml_ : ML l I) (lb : LB l) (wm : WM κ l η)  (hd : 13 ≤ d) : RI d 251 [.ref 106] I J (fun v I' => v = opI (bst (trn κ η) btr (2 ^ κ.ns)) ∧ FM I I') := by
  refine RI.in (d0 := 12) hd mt_251 (Nat.le_of_ble_eq_true rfl) (fun d' hd' => ?_)
  have bns := cb.ns; have bnb := cb.nb; have bnc := cb.nc; have bnr := cb.nr
  have bm_ := hb_.mi
  have pn := pow_ns cb; have p0 := Nat.two_pow_pos κ.ns
  have hl := heard_lt (κ := κ) (η := η) η.mi
  have tu := trU_lt (κ := κ) (η := η)
  have lb0 := leanN_b (κ := κ) (x := clo κ (heard κ η η.mi)) cb.sw κ.ns; have ld0 : lean κ (heard κ η η.mi) = leanN κ (clo κ (heard κ η η.mi)) κ.ns := rfl
  show EV none M_X11_turn d' 0 [(0, .ref 106)] [] (hp I J) _
  refine EV.l (lv' := [(0, _)]) r_X11_turn_0 rfl ?_
  refine EV.o r_X11_turn_1 (icN (0) (v := 0)) ?_
  refine EV.pI r_X11_turn_2 la_106 ?_
  refine EV.l (lv' := [(0, _)]) r_X11_turn_5 rfl ?_
  refine EV.cu r_X11_turn_6 (aV0 mt_212 la_106) (m_take (by omega)) (fun I2 e2 => ?_)
  have e2 : I2 = M2 I := e2
  subst e2
  have mc2 := M2_mc mc_
  have ml2 := M2_ml ml_
  have mr2 := M2_mr mr cb
  refine EV.l (lv' := [(0, _)]) r_X11_turn_9 rfl ?_
  refine EV.l (lv' := [(0, _)]) r_X11_turn_10 rfl ?_
  refine EV.gR r_X11_turn_11 la_106 ?_
  refine EV.o r_X11_turn_14 (bpN (30) 30) ?_
  refine EV.iaN r_X11_turn_16 la_126 (mr2.mi) ?_
  refine EV.ci r_X11_turn_17 (aV1 mt_226 la_106) (m_heardBy mc2 cb mr2 hb_ ml2 lb (by omega) (by omega)) (fun v I3 h2 => ?_)
  obtain ⟨e, fr_⟩ := h2
  subst e
  rw [hd_eq hb_ wm]
  have mc3 := MC.fr (I' := I3) mc2 (fr_ 106 (by decide) (by decide)) (fun x h1 h2 => fr_ x (by omega) (by omega))
  have mr3 := MR.fr (I' := I3) mr2 (fr_ 126 (by decide) (by decide))
  have ml3 := ML.fr (I' := I3) ml2 (fr_ 106 (by decide) (by decide)) (fr_ 119 (by decide) (by decide)) (fr_ 120 (by decide) (by decide))
  refine EV.l (lv' := [(0, _), (1, _)]) r_X11_turn_20 rfl ?_
  refine EV.l (lv' := [(0, _), (1, _)]) r_X11_turn_21 rfl ?_
  refine EV.l (lv' := [(0, _), (1, _)]) r_X11_turn_22 rfl ?_
  refine EV.gR r_X11_turn_23 la_106 ?_
  refine EV.o r_X11_turn_26 (bpN (30) 30) ?_
  refine EV.iaN r_X11_turn_28 la_126 (mr3.mi) ?_
  refine EV.cv r_X11_turn_29 (aV1 mt_222 la_106) (m_saidBy mc3 cb mr3 hb_ (by omega) (by omega)) ?_
  refine EV.l (lv' := [(0, _), (1, _)]) r_X11_turn_32 rfl ?_
  refine EV.ci r_X11_turn_33 (aV0 mt_221 la_106) (m_countsNow mc3 cb mr3 hb_ ml3 lb (by omega)) (fun v I3 h2 => ?_)
  obtain ⟨e, fr2⟩ := h2
  subst e
  rw [cn_eq hb_ wm]
  have fr_ : ∀ o, o ≠ 121 → o ≠ 122 → I3 o = M2 I o := fun o h1 h2 => (fr2 o h1 h2).trans (fr_ o h1 h2)
  have mc3 := MC.fr (I' := I3) mc2 (fr_ 106 (by decide) (by decide)) (fun x h1 h2 => fr_ x (by omega) (by omega))
  have mr3 := MR.fr (I' := I3) mr2 (fr_ 126 (by decide) (by decide))
  have ml3 := ML.fr (I' := I3) ml2 (fr_ 106 (by decide) (by decide)) (fr_ 119 (by decide) (by decide)) (fr_ 120 (by decide) (by decide))
  refine EV.o r_X11_turn_36 (icZ (-1)) ?_
  refine EV.o r_X11_turn_37 inotN ?_
  refine EV.o r_X11_turn_38 (iandC) ?_
  rw [sd_eq, trU_eq]
  refine EV.l (lv' := [(0, _), (1, _), (2, _)]) r_X11_turn_39 rfl ?_
  refine EV.l (lv' := [(0, _), (1, _), (2, _)]) r_X11_turn_40 rfl ?_
  refine EV.l (lv' := [(0, _), (1, _), (2, _)]) r_X11_turn_41 rfl ?_
  refine EV.cv r_X11_turn_42 (aV1 mt_225 la_106) (m_lean mc3 cb (by first | exact heard_lt _ | exact or_ltn (heard_lt _) (by omega)) (by omega)) ?_
  refine EV.z0_le r_X11_turn_45 (fun h45 => ?_) (fun h45 => ?_)
  · -- 45 t
    have ab_ : trA κ η = false := decide_eq_false (by omega)
    refine EV.o r_X11_turn_52 (icN (0) (v := 0)) ?_
    refine EV.l (lv' := [(0, _), (1, _), (2, _), (3, _)]) r_X11_turn_53 rfl ?_
    refine EV.o r_X11_turn_54 (icZ (-1)) ?_
    refine EV.l (lv' := [(0, _), (1, _), (2, _), (3, _), (4, _)]) r_X11_turn_55 rfl ?_
    refine EV.o r_X11_turn_57 (icN (0) (v := 0)) ?_
    refine EV.l (lv' := [(0, _), (1, _), (2, _), (3, _), (4, _), (5, _)]) r_X11_turn_58 rfl ?_
    have L60 : ∀ y_ : Nat, (fun s => s ≤ trU κ η + 1 → EV none M_X11_turn d' 60 [(0, .ref 106), (1, .int (nI (heard κ η η.mi))), (2, .int (nI (trU κ η))), (3, .int (nI (trA κ η).toNat)), (4, .int (opI (bst (trn κ η) pcl s))), (5, .int (nI s))] [] (hp I3 J) (QI J (fun v I' => v = opI (bst (trn κ η) btr (2 ^ κ.ns)) ∧ FM I I'))) y_ := by
      refine ev_loop (fun s => trU κ η + 1 - s) ?_
      intro s ih60 hx60
      try dsimp only at ih60
      try dsimp only at hx60
      try dsimp only
      have lb1 := leanN_b (κ := κ) (x := clo κ (heard κ η η.mi ||| s)) cb.sw κ.ns; have ld : lean κ (heard κ η η.mi ||| s) = leanN κ (clo κ (heard κ η η.mi ||| s)) κ.ns := rfl
      have tb_ := bt_lt (trA κ η)
      have az := andc_lt (n := 10) (a := s) (b := trU κ η) (by omega)
      have ps1 := pc9_le s
      refine EV.l (lv' := [(0, _), (1, _), (2, _), (3, _), (4, _), (5, _)]) r_X11_turn_60 rfl ?_
      refine EV.l (lv' := [(0, _), (1, _), (2, _), (3, _), (4, _), (5, _)]) r_X11_turn_62 rfl ?_
      refine EV.n2_gt r_X11_turn_63 (fun h63 => ?_) (fun h63 => ?_)
      · -- 63 t
        refine EV.l (lv' := [(0, _), (1, _), (2, _), (3, _), (4, _), (5, _)]) r_X11_turn_127 rfl ?_
        exact EV.ri r_X11_turn_129 (⟨by rw [show s = trU κ η + 1 by omega, tr_eq], FM_of fr_⟩)
      · -- 63 f
        refine EV.l (lv' := [(0, _), (1, _), (2, _), (3, _), (4, _), (5, _)]) r_X11_turn_66 rfl ?_
        refine EV.l (lv' := [(0, _), (1, _), (2, _), (3, _), (4, _), (5, _)]) r_X11_turn_68 rfl ?_
        refine EV.o r_X11_turn_69 (icZ (-1)) ?_
        refine EV.o r_X11_turn_70 inotN ?_
        refine EV.o r_X11_turn_71 iandC ?_
        refine EV.n0_ne r_X11_turn_72 (fun h72 => ?_) (fun h72 => ?_)
        · -- 72 t
          have hp : trn κ η s = false := trn_z h72
          refine EV.l (lv' := [(0, _), (1, _), (2, _), (3, _), (4, _), (5, _)]) r_X11_turn_121 rfl ?_
          rw [inc_nI]
          refine EV.g r_X11_turn_124 ?_
          refine EV.sub ?_ rfl ?_ (ih60 (s + 1) ?_ ?_)
          · first | (rw [bst_l (p := trn κ η) (lt := pcl) (by assumption) (decide_eq_false (by omega))]; rfl) | (rw [bst_n (p := trn κ η) (lt := pcl) (by assumption)]; done) | (rw [bst_n (p := trn κ η) (lt := pcl) (by assumption), ec_]; rfl) | (rw [bst_0 (p := trn κ η) (lt := pcl) (by assumption) (by assumption)]; rfl) | (rw [bst_t (p := trn κ η) (lt := pcl) (by assumption) (by assumption) (decide_eq_true (by omega))]; rfl)
          · rfl
          · omega
          · omega
        · -- 72 f
          refine EV.l (lv' := [(0, _), (1, _), (2, _), (3, _), (4, _), (5, _)]) r_X11_turn_75 rfl ?_
          refine EV.o r_X11_turn_77 (icZ (-1)) ?_
          refine EV.op_eq r_X11_turn_78 (fun h78 => ?_) (fun h78 => ?_) (fun c ec_ => by have := bst_lt2 ec_ (by omega : _ ≤ 2 ^ κ.ns); omega)
          · -- 78 t
            refine EV.l (lv' := [(0, _), (1, _), (2, _), (3, _), (4, _), (5, _)]) r_X11_turn_97 rfl ?_
            refine EV.l (lv' := [(0, _), (1, _), (2, _), (3, _), (4, _), (5, _)]) r_X11_turn_98 rfl ?_
            refine EV.l (lv' := [(0, _), (1, _), (2, _), (3, _), (4, _), (5, _)]) r_X11_turn_99 rfl ?_
            refine EV.o r_X11_turn_101 iorN ?_
            refine EV.cv r_X11_turn_102 (aV1 mt_225 la_106) (m_lean mc3 cb (by first | exact heard_lt _ | exact or_ltn (heard_lt _) (by omega)) (by omega)) ?_
            refine EV.z0_le r_X11_turn_105 (fun h105 => ?_) (fun h105 => ?_)
            · -- 105 t
              have lz_ : trL κ η s = false := decide_eq_false (by omega)
              refine EV.o r_X11_turn_112 (icN (0) (v := 0)) ?_
              refine EV.l (lv' := [(0, _), (1, _), (2, _), (3, _), (4, _), (5, _)]) r_X11_turn_113 rfl ?_
              refine EV.n2_eq r_X11_turn_114 (fun h114 => ?_) (fun h114 => ?_)
              · -- 114 t
                have hp : trn κ η s = false := trn_eq (by rw [lz_]; exact h114)
                refine EV.l (lv' := [(0, _), (1, _), (2, _), (3, _), (4, _), (5, _)]) r_X11_turn_121 rfl ?_
                rw [inc_nI]
                refine EV.g r_X11_turn_124 ?_
                refine EV.sub ?_ rfl ?_ (ih60 (s + 1) ?_ ?_)
                · first | (rw [bst_l (p := trn κ η) (lt := pcl) (by assumption) (decide_eq_false (by omega))]; rfl) | (rw [bst_n (p := trn κ η) (lt := pcl) (by assumption)]; done) | (rw [bst_n (p := trn κ η) (lt := pcl) (by assumption), ec_]; rfl) | (rw [bst_0 (p := trn κ η) (lt := pcl) (by assumption) (by assumption)]; rfl) | (rw [bst_t (p := trn κ η) (lt := pcl) (by assumption) (by assumption) (decide_eq_true (by omega))]; rfl)
                · rfl
                · omega
                · omega
              · -- 114 f
                have hp : trn κ η s = true := trn_ne h72 (by rw [lz_]; exact h114)
                refine EV.l (lv' := [(0, _), (1, _), (2, _), (3, _), (4, _), (5, _)]) r_X11_turn_117 rfl ?_
                refine EV.l (lv' := [(0, _), (1, _), (2, _), (3, _), (4, _), (5, _)]) r_X11_turn_119 rfl ?_
                refine EV.l (lv' := [(0, _), (1, _), (2, _), (3, _), (4, _), (5, _)]) r_X11_turn_121 rfl ?_
                rw [inc_nI]
                refine EV.g r_X11_turn_124 ?_
                refine EV.sub ?_ rfl ?_ (ih60 (s + 1) ?_ ?_)
                · first | (rw [bst_l (p := trn κ η) (lt := pcl) (by assumption) (decide_eq_false (by omega))]; rfl) | (rw [bst_n (p := trn κ η) (lt := pcl) (by assumption)]; done) | (rw [bst_n (p := trn κ η) (lt := pcl) (by assumption), ec_]; rfl) | (rw [bst_0 (p := trn κ η) (lt := pcl) (by assumption) (by assumption)]; rfl) | (rw [bst_t (p := trn κ η) (lt := pcl) (by assumption) (by assumption) (decide_eq_true (by omega))]; rfl)
                · rfl
                · omega
                · omega
            · -- 105 f
              have lz_ : trL κ η s = true := decide_eq_true (by omega)
              refine EV.o r_X11_turn_108 (icN (1) (v := 1)) ?_
              refine EV.g r_X11_turn_109 ?_
              refine EV.l (lv' := [(0, _), (1, _), (2, _), (3, _), (4, _), (5, _)]) r_X11_turn_113 rfl ?_
              refine EV.n2_eq r_X11_turn_114 (fun h114 => ?_) (fun h114 => ?_)
              · -- 114 t
                have hp : trn κ η s = false := trn_eq (by rw [lz_]; exact h114)
                refine EV.l (lv' := [(0, _), (1, _), (2, _), (3, _), (4, _), (5, _)]) r_X11_turn_121 rfl ?_
                rw [inc_nI]
                refine EV.g r_X11_turn_124 ?_
                refine EV.sub ?_ rfl ?_ (ih60 (s + 1) ?_ ?_)
                · first | (rw [bst_l (p := trn κ η) (lt := pcl) (by assumption) (decide_eq_false (by omega))]; rfl) | (rw [bst_n (p := trn κ η) (lt := pcl) (by assumption)]; done) | (rw [bst_n (p := trn κ η) (lt := pcl) (by assumption), ec_]; rfl) | (rw [bst_0 (p := trn κ η) (lt := pcl) (by assumption) (by assumption)]; rfl) | (rw [bst_t (p := trn κ η) (lt := pcl) (by assumption) (by assumption) (decide_eq_true (by omega))]; rfl)
                · rfl
                · omega
                · omega
              · -- 114 f
                have hp : trn κ η s = true := trn_ne h72 (by rw [lz_]; exact h114)
                refine EV.l (lv' := [(0, _), (1, _), (2, _), (3, _), (4, _), (5, _)]) r_X11_turn_117 rfl ?_
                refine EV.l (lv' := [(0, _), (1, _), (2, _), (3, _), (4, _), (5, _)]) r_X11_turn_119 rfl ?_
                refine EV.l (lv' := [(0, _), (1, _), (2, _), (3, _), (4, _), (5, _)]) r_X11_turn_121 rfl ?_
                rw [inc_nI]
                refine EV.g r_X11_turn_124 ?_
                refine EV.sub ?_ rfl ?_ (ih60 (s + 1) ?_ ?_)
                · first | (rw [bst_l (p := trn κ η) (lt := pcl) (by assumption) (decide_eq_false (by omega))]; rfl) | (rw [bst_n (p := trn κ η) (lt := pcl) (by assumption)]; done) | (rw [bst_n (p := trn κ η) (lt := pcl) (by assumption), ec_]; rfl) | (rw [bst_0 (p := trn κ η) (lt := pcl) (by assumption) (by assumption)]; rfl) | (rw [bst_t (p := trn κ η) (lt := pcl) (by assumption) (by assumption) (decide_eq_true (by omega))]; rfl)
                · rfl
                · omega
                · omega
          · -- 78 f
            obtain ⟨c, ec_⟩ := h78
            rw [ec_, opI_some]
            have bc_ := bst_lt2 ec_ (by omega : _ ≤ 2 ^ κ.ns)
            have pc1 := pc9_le c
            refine EV.l (lv' := [(0, _), (1, _), (2, _), (3, _), (4, _), (5, _)]) r_X11_turn_81 rfl ?_
            refine EV.cv r_X11_turn_83 (aS1 mt_213) (m_ones (by omega) (by omega)) ?_
            refine EV.l (lv' := [(0, _), (1, _), (2, _), (3, _), (4, _), (5, _)]) r_X11_turn_86 rfl ?_
            refine EV.cv r_X11_turn_88 (aS1 mt_213) (m_ones (by omega) (by omega)) ?_
            refine EV.n2_lt r_X11_turn_91 (fun h91 => ?_) (fun h91 => ?_)
            · -- 91 t
              refine EV.l (lv' := [(0, _), (1, _), (2, _), (3, _), (4, _), (5, _)]) r_X11_turn_97 rfl ?_
              refine EV.l (lv' := [(0, _), (1, _), (2, _), (3, _), (4, _), (5, _)]) r_X11_turn_98 rfl ?_
              refine EV.l (lv' := [(0, _), (1, _), (2, _), (3, _), (4, _), (5, _)]) r_X11_turn_99 rfl ?_
              refine EV.o r_X11_turn_101 iorN ?_
              refine EV.cv r_X11_turn_102 (aV1 mt_225 la_106) (m_lean mc3 cb (by first | exact heard_lt _ | exact or_ltn (heard_lt _) (by omega)) (by omega)) ?_
              refine EV.z0_le r_X11_turn_105 (fun h105 => ?_) (fun h105 => ?_)
              · -- 105 t
                have lz_ : trL κ η s = false := decide_eq_false (by omega)
                refine EV.o r_X11_turn_112 (icN (0) (v := 0)) ?_
                refine EV.l (lv' := [(0, _), (1, _), (2, _), (3, _), (4, _), (5, _)]) r_X11_turn_113 rfl ?_
                refine EV.n2_eq r_X11_turn_114 (fun h114 => ?_) (fun h114 => ?_)
                · -- 114 t
                  have hp : trn κ η s = false := trn_eq (by rw [lz_]; exact h114)
                  refine EV.l (lv' := [(0, _), (1, _), (2, _), (3, _), (4, _), (5, _)]) r_X11_turn_121 rfl ?_
                  rw [inc_nI]
                  refine EV.g r_X11_turn_124 ?_
                  refine EV.sub ?_ rfl ?_ (ih60 (s + 1) ?_ ?_)
                  · first | (rw [bst_l (p := trn κ η) (lt := pcl) (by assumption) (decide_eq_false (by omega))]; rfl) | (rw [bst_n (p := trn κ η) (lt := pcl) (by assumption)]; done) | (rw [bst_n (p := trn κ η) (lt := pcl) (by assumption), ec_]; rfl) | (rw [bst_0 (p := trn κ η) (lt := pcl) (by assumption) (by assumption)]; rfl) | (rw [bst_t (p := trn κ η) (lt := pcl) (by assumption) (by assumption) (decide_eq_true (by omega))]; rfl)
                  · rfl
                  · omega
                  · omega
                · -- 114 f
                  have hp : trn κ η s = true := trn_ne h72 (by rw [lz_]; exact h114)
                  refine EV.l (lv' := [(0, _), (1, _), (2, _), (3, _), (4, _), (5, _)]) r_X11_turn_117 rfl ?_
                  refine EV.l (lv' := [(0, _), (1, _), (2, _), (3, _), (4, _), (5, _)]) r_X11_turn_119 rfl ?_
                  refine EV.l (lv' := [(0, _), (1, _), (2, _), (3, _), (4, _), (5, _)]) r_X11_turn_121 rfl ?_
                  rw [inc_nI]
                  refine EV.g r_X11_turn_124 ?_
                  refine EV.sub ?_ rfl ?_ (ih60 (s + 1) ?_ ?_)
                  · first | (rw [bst_l (p := trn κ η) (lt := pcl) (by assumption) (decide_eq_false (by omega))]; rfl) | (rw [bst_n (p := trn κ η) (lt := pcl) (by assumption)]; done) | (rw [bst_n (p := trn κ η) (lt := pcl) (by assumption), ec_]; rfl) | (rw [bst_0 (p := trn κ η) (lt := pcl) (by assumption) (by assumption)]; rfl) | (rw [bst_t (p := trn κ η) (lt := pcl) (by assumption) (by assumption) (decide_eq_true (by omega))]; rfl)
                  · rfl
                  · omega
                  · omega
              · -- 105 f
                have lz_ : trL κ η s = true := decide_eq_true (by omega)
                refine EV.o r_X11_turn_108 (icN (1) (v := 1)) ?_
                refine EV.g r_X11_turn_109 ?_
                refine EV.l (lv' := [(0, _), (1, _), (2, _), (3, _), (4, _), (5, _)]) r_X11_turn_113 rfl ?_
                refine EV.n2_eq r_X11_turn_114 (fun h114 => ?_) (fun h114 => ?_)
                · -- 114 t
                  have hp : trn κ η s = false := trn_eq (by rw [lz_]; exact h114)
                  refine EV.l (lv' := [(0, _), (1, _), (2, _), (3, _), (4, _), (5, _)]) r_X11_turn_121 rfl ?_
                  rw [inc_nI]
                  refine EV.g r_X11_turn_124 ?_
                  refine EV.sub ?_ rfl ?_ (ih60 (s + 1) ?_ ?_)
                  · first | (rw [bst_l (p := trn κ η) (lt := pcl) (by assumption) (decide_eq_false (by omega))]; rfl) | (rw [bst_n (p := trn κ η) (lt := pcl) (by assumption)]; done) | (rw [bst_n (p := trn κ η) (lt := pcl) (by assumption), ec_]; rfl) | (rw [bst_0 (p := trn κ η) (lt := pcl) (by assumption) (by assumption)]; rfl) | (rw [bst_t (p := trn κ η) (lt := pcl) (by assumption) (by assumption) (decide_eq_true (by omega))]; rfl)
                  · rfl
                  · omega
                  · omega
                · -- 114 f
                  have hp : trn κ η s = true := trn_ne h72 (by rw [lz_]; exact h114)
                  refine EV.l (lv' := [(0, _), (1, _), (2, _), (3, _), (4, _), (5, _)]) r_X11_turn_117 rfl ?_
                  refine EV.l (lv' := [(0, _), (1, _), (2, _), (3, _), (4, _), (5, _)]) r_X11_turn_119 rfl ?_
                  refine EV.l (lv' := [(0, _), (1, _), (2, _), (3, _), (4, _), (5, _)]) r_X11_turn_121 rfl ?_
                  rw [inc_nI]
                  refine EV.g r_X11_turn_124 ?_
                  refine EV.sub ?_ rfl ?_ (ih60 (s + 1) ?_ ?_)
                  · first | (rw [bst_l (p := trn κ η) (lt := pcl) (by assumption) (decide_eq_false (by omega))]; rfl) | (rw [bst_n (p := trn κ η) (lt := pcl) (by assumption)]; done) | (rw [bst_n (p := trn κ η) (lt := pcl) (by assumption), ec_]; rfl) | (rw [bst_0 (p := trn κ η) (lt := pcl) (by assumption) (by assumption)]; rfl) | (rw [bst_t (p := trn κ η) (lt := pcl) (by assumption) (by assumption) (decide_eq_true (by omega))]; rfl)
                  · rfl
                  · omega
                  · omega
            · -- 91 f
              refine EV.g r_X11_turn_94 ?_
              refine EV.l (lv' := [(0, _), (1, _), (2, _), (3, _), (4, _), (5, _)]) r_X11_turn_121 rfl ?_
              rw [inc_nI]
              refine EV.g r_X11_turn_124 ?_
              refine EV.sub ?_ rfl ?_ (ih60 (s + 1) ?_ ?_)
              · first | (rw [bst_l (p := trn κ η) (lt := pcl) (by assumption) (decide_eq_false (by omega))]; rfl) | (rw [bst_n (p := trn κ η) (lt := pcl) (by assumption)]; done) | (rw [bst_n (p := trn κ η) (lt := pcl) (by assumption), ec_]; rfl) | (rw [bst_0 (p := trn κ η) (lt := pcl) (by assumption) (by assumption)]; rfl) | (rw [bst_t (p := trn κ η) (lt := pcl) (by assumption) (by assumption) (decide_eq_true (by omega))]; rfl)
              · rfl
              · omega
              · omega
    have h0 := L60 (0)
    try dsimp only at h0
    refine EV.sub ?_ rfl ?_ (h0 ?_)
    · rw [ab_]; rfl
    · rfl
    · omega
  · -- 45 f
    have ab_ : trA κ η = true := decide_eq_true (by omega)
    refine EV.o r_X11_turn_48 (icN (1) (v := 1)) ?_
    refine EV.g r_X11_turn_49 ?_
    refine EV.l (lv' := [(0, _), (1, _), (2, _), (3, _)]) r_X11_turn_53 rfl ?_
    refine EV.o r_X11_turn_54 (icZ (-1)) ?_
    refine EV.l (lv' := [(0, _), (1, _), (2, _), (3, _), (4, _)]) r_X11_turn_55 rfl ?_
    refine EV.o r_X11_turn_57 (icN (0) (v := 0)) ?_
    refine EV.l (lv' := [(0, _), (1, _), (2, _), (3, _), (4, _), (5, _)]) r_X11_turn_58 rfl ?_
    have L60 : ∀ y_ : Nat, (fun s => s ≤ trU κ η + 1 → EV none M_X11_turn d' 60 [(0, .ref 106), (1, .int (nI (heard κ η η.mi))), (2, .int (nI (trU κ η))), (3, .int (nI (trA κ η).toNat)), (4, .int (opI (bst (trn κ η) pcl s))), (5, .int (nI s))] [] (hp I3 J) (QI J (fun v I' => v = opI (bst (trn κ η) btr (2 ^ κ.ns)) ∧ FM I I'))) y_ := by
      refine ev_loop (fun s => trU κ η + 1 - s) ?_
      intro s ih60 hx60
      try dsimp only at ih60
      try dsimp only at hx60
      try dsimp only
      have lb1 := leanN_b (κ := κ) (x := clo κ (heard κ η η.mi ||| s)) cb.sw κ.ns; have ld : lean κ (heard κ η η.mi ||| s) = leanN κ (clo κ (heard κ η η.mi ||| s)) κ.ns := rfl
      have tb_ := bt_lt (trA κ η)
      have az := andc_lt (n := 10) (a := s) (b := trU κ η) (by omega)
      have ps1 := pc9_le s
      refine EV.l (lv' := [(0, _), (1, _), (2, _), (3, _), (4, _), (5, _)]) r_X11_turn_60 rfl ?_
      refine EV.l (lv' := [(0, _), (1, _), (2, _), (3, _), (4, _), (5, _)]) r_X11_turn_62 rfl ?_
      refine EV.n2_gt r_X11_turn_63 (fun h63 => ?_) (fun h63 => ?_)
      · -- 63 t
        refine EV.l (lv' := [(0, _), (1, _), (2, _), (3, _), (4, _), (5, _)]) r_X11_turn_127 rfl ?_
        exact EV.ri r_X11_turn_129 (⟨by rw [show s = trU κ η + 1 by omega, tr_eq], FM_of fr_⟩)
      · -- 63 f
        refine EV.l (lv' := [(0, _), (1, _), (2, _), (3, _), (4, _), (5, _)]) r_X11_turn_66 rfl ?_
        refine EV.l (lv' := [(0, _), (1, _), (2, _), (3, _), (4, _), (5, _)]) r_X11_turn_68 rfl ?_
        refine EV.o r_X11_turn_69 (icZ (-1)) ?_
        refine EV.o r_X11_turn_70 inotN ?_
        refine EV.o r_X11_turn_71 iandC ?_
        refine EV.n0_ne r_X11_turn_72 (fun h72 => ?_) (fun h72 => ?_)
        · -- 72 t
          have hp : trn κ η s = false := trn_z h72
          refine EV.l (lv' := [(0, _), (1, _), (2, _), (3, _), (4, _), (5, _)]) r_X11_turn_121 rfl ?_
          rw [inc_nI]
          refine EV.g r_X11_turn_124 ?_
          refine EV.sub ?_ rfl ?_ (ih60 (s + 1) ?_ ?_)
          · first | (rw [bst_l (p := trn κ η) (lt := pcl) (by assumption) (decide_eq_false (by omega))]; rfl) | (rw [bst_n (p := trn κ η) (lt := pcl) (by assumption)]; done) | (rw [bst_n (p := trn κ η) (lt := pcl) (by assumption), ec_]; rfl) | (rw [bst_0 (p := trn κ η) (lt := pcl) (by assumption) (by assumption)]; rfl) | (rw [bst_t (p := trn κ η) (lt := pcl) (by assumption) (by assumption) (decide_eq_true (by omega))]; rfl)
          · rfl
          · omega
          · omega
        · -- 72 f
          refine EV.l (lv' := [(0, _), (1, _), (2, _), (3, _), (4, _), (5, _)]) r_X11_turn_75 rfl ?_
          refine EV.o r_X11_turn_77 (icZ (-1)) ?_
          refine EV.op_eq r_X11_turn_78 (fun h78 => ?_) (fun h78 => ?_) (fun c ec_ => by have := bst_lt2 ec_ (by omega : _ ≤ 2 ^ κ.ns); omega)
          · -- 78 t
            refine EV.l (lv' := [(0, _), (1, _), (2, _), (3, _), (4, _), (5, _)]) r_X11_turn_97 rfl ?_
            refine EV.l (lv' := [(0, _), (1, _), (2, _), (3, _), (4, _), (5, _)]) r_X11_turn_98 rfl ?_
            refine EV.l (lv' := [(0, _), (1, _), (2, _), (3, _), (4, _), (5, _)]) r_X11_turn_99 rfl ?_
            refine EV.o r_X11_turn_101 iorN ?_
            refine EV.cv r_X11_turn_102 (aV1 mt_225 la_106) (m_lean mc3 cb (by first | exact heard_lt _ | exact or_ltn (heard_lt _) (by omega)) (by omega)) ?_
            refine EV.z0_le r_X11_turn_105 (fun h105 => ?_) (fun h105 => ?_)
            · -- 105 t
              have lz_ : trL κ η s = false := decide_eq_false (by omega)
              refine EV.o r_X11_turn_112 (icN (0) (v := 0)) ?_
              refine EV.l (lv' := [(0, _), (1, _), (2, _), (3, _), (4, _), (5, _)]) r_X11_turn_113 rfl ?_
              refine EV.n2_eq r_X11_turn_114 (fun h114 => ?_) (fun h114 => ?_)
              · -- 114 t
                have hp : trn κ η s = false := trn_eq (by rw [lz_]; exact h114)
                refine EV.l (lv' := [(0, _), (1, _), (2, _), (3, _), (4, _), (5, _)]) r_X11_turn_121 rfl ?_
                rw [inc_nI]
                refine EV.g r_X11_turn_124 ?_
                refine EV.sub ?_ rfl ?_ (ih60 (s + 1) ?_ ?_)
                · first | (rw [bst_l (p := trn κ η) (lt := pcl) (by assumption) (decide_eq_false (by omega))]; rfl) | (rw [bst_n (p := trn κ η) (lt := pcl) (by assumption)]; done) | (rw [bst_n (p := trn κ η) (lt := pcl) (by assumption), ec_]; rfl) | (rw [bst_0 (p := trn κ η) (lt := pcl) (by assumption) (by assumption)]; rfl) | (rw [bst_t (p := trn κ η) (lt := pcl) (by assumption) (by assumption) (decide_eq_true (by omega))]; rfl)
                · rfl
                · omega
                · omega
              · -- 114 f
                have hp : trn κ η s = true := trn_ne h72 (by rw [lz_]; exact h114)
                refine EV.l (lv' := [(0, _), (1, _), (2, _), (3, _), (4, _), (5, _)]) r_X11_turn_117 rfl ?_
                refine EV.l (lv' := [(0, _), (1, _), (2, _), (3, _), (4, _), (5, _)]) r_X11_turn_119 rfl ?_
                refine EV.l (lv' := [(0, _), (1, _), (2, _), (3, _), (4, _), (5, _)]) r_X11_turn_121 rfl ?_
                rw [inc_nI]
                refine EV.g r_X11_turn_124 ?_
                refine EV.sub ?_ rfl ?_ (ih60 (s + 1) ?_ ?_)
                · first | (rw [bst_l (p := trn κ η) (lt := pcl) (by assumption) (decide_eq_false (by omega))]; rfl) | (rw [bst_n (p := trn κ η) (lt := pcl) (by assumption)]; done) | (rw [bst_n (p := trn κ η) (lt := pcl) (by assumption), ec_]; rfl) | (rw [bst_0 (p := trn κ η) (lt := pcl) (by assumption) (by assumption)]; rfl) | (rw [bst_t (p := trn κ η) (lt := pcl) (by assumption) (by assumption) (decide_eq_true (by omega))]; rfl)
                · rfl
                · omega
                · omega
            · -- 105 f
              have lz_ : trL κ η s = true := decide_eq_true (by omega)
              refine EV.o r_X11_turn_108 (icN (1) (v := 1)) ?_
              refine EV.g r_X11_turn_109 ?_
              refine EV.l (lv' := [(0, _), (1, _), (2, _), (3, _), (4, _), (5, _)]) r_X11_turn_113 rfl ?_
              refine EV.n2_eq r_X11_turn_114 (fun h114 => ?_) (fun h114 => ?_)
              · -- 114 t
                have hp : trn κ η s = false := trn_eq (by rw [lz_]; exact h114)
                refine EV.l (lv' := [(0, _), (1, _), (2, _), (3, _), (4, _), (5, _)]) r_X11_turn_121 rfl ?_
                rw [inc_nI]
                refine EV.g r_X11_turn_124 ?_
                refine EV.sub ?_ rfl ?_ (ih60 (s + 1) ?_ ?_)
                · first | (rw [bst_l (p := trn κ η) (lt := pcl) (by assumption) (decide_eq_false (by omega))]; rfl) | (rw [bst_n (p := trn κ η) (lt := pcl) (by assumption)]; done) | (rw [bst_n (p := trn κ η) (lt := pcl) (by assumption), ec_]; rfl) | (rw [bst_0 (p := trn κ η) (lt := pcl) (by assumption) (by assumption)]; rfl) | (rw [bst_t (p := trn κ η) (lt := pcl) (by assumption) (by assumption) (decide_eq_true (by omega))]; rfl)
                · rfl
                · omega
                · omega
              · -- 114 f
                have hp : trn κ η s = true := trn_ne h72 (by rw [lz_]; exact h114)
                refine EV.l (lv' := [(0, _), (1, _), (2, _), (3, _), (4, _), (5, _)]) r_X11_turn_117 rfl ?_
                refine EV.l (lv' := [(0, _), (1, _), (2, _), (3, _), (4, _), (5, _)]) r_X11_turn_119 rfl ?_
                refine EV.l (lv' := [(0, _), (1, _), (2, _), (3, _), (4, _), (5, _)]) r_X11_turn_121 rfl ?_
                rw [inc_nI]
                refine EV.g r_X11_turn_124 ?_
                refine EV.sub ?_ rfl ?_ (ih60 (s + 1) ?_ ?_)
                · first | (rw [bst_l (p := trn κ η) (lt := pcl) (by assumption) (decide_eq_false (by omega))]; rfl) | (rw [bst_n (p := trn κ η) (lt := pcl) (by assumption)]; done) | (rw [bst_n (p := trn κ η) (lt := pcl) (by assumption), ec_]; rfl) | (rw [bst_0 (p := trn κ η) (lt := pcl) (by assumption) (by assumption)]; rfl) | (rw [bst_t (p := trn κ η) (lt := pcl) (by assumption) (by assumption) (decide_eq_true (by omega))]; rfl)
                · rfl
                · omega
                · omega
          · -- 78 f
            obtain ⟨c, ec_⟩ := h78
            rw [ec_, opI_some]
            have bc_ := bst_lt2 ec_ (by omega : _ ≤ 2 ^ κ.ns)
            have pc1 := pc9_le c
            refine EV.l (lv' := [(0, _), (1, _), (2, _), (3, _), (4, _), (5, _)]) r_X11_turn_81 rfl ?_
            refine EV.cv r_X11_turn_83 (aS1 mt_213) (m_ones (by omega) (by omega)) ?_
            refine EV.l (lv' := [(0, _), (1, _), (2, _), (3, _), (4, _), (5, _)]) r_X11_turn_86 rfl ?_
            refine EV.cv r_X11_turn_88 (aS1 mt_213) (m_ones (by omega) (by omega)) ?_
            refine EV.n2_lt r_X11_turn_91 (fun h91 => ?_) (fun h91 => ?_)
            · -- 91 t
              refine EV.l (lv' := [(0, _), (1, _), (2, _), (3, _), (4, _), (5, _)]) r_X11_turn_97 rfl ?_
              refine EV.l (lv' := [(0, _), (1, _), (2, _), (3, _), (4, _), (5, _)]) r_X11_turn_98 rfl ?_
              refine EV.l (lv' := [(0, _), (1, _), (2, _), (3, _), (4, _), (5, _)]) r_X11_turn_99 rfl ?_
              refine EV.o r_X11_turn_101 iorN ?_
              refine EV.cv r_X11_turn_102 (aV1 mt_225 la_106) (m_lean mc3 cb (by first | exact heard_lt _ | exact or_ltn (heard_lt _) (by omega)) (by omega)) ?_
              refine EV.z0_le r_X11_turn_105 (fun h105 => ?_) (fun h105 => ?_)
              · -- 105 t
                have lz_ : trL κ η s = false := decide_eq_false (by omega)
                refine EV.o r_X11_turn_112 (icN (0) (v := 0)) ?_
                refine EV.l (lv' := [(0, _), (1, _), (2, _), (3, _), (4, _), (5, _)]) r_X11_turn_113 rfl ?_
                refine EV.n2_eq r_X11_turn_114 (fun h114 => ?_) (fun h114 => ?_)
                · -- 114 t
                  have hp : trn κ η s = false := trn_eq (by rw [lz_]; exact h114)
                  refine EV.l (lv' := [(0, _), (1, _), (2, _), (3, _), (4, _), (5, _)]) r_X11_turn_121 rfl ?_
                  rw [inc_nI]
                  refine EV.g r_X11_turn_124 ?_
                  refine EV.sub ?_ rfl ?_ (ih60 (s + 1) ?_ ?_)
                  · first | (rw [bst_l (p := trn κ η) (lt := pcl) (by assumption) (decide_eq_false (by omega))]; rfl) | (rw [bst_n (p := trn κ η) (lt := pcl) (by assumption)]; done) | (rw [bst_n (p := trn κ η) (lt := pcl) (by assumption), ec_]; rfl) | (rw [bst_0 (p := trn κ η) (lt := pcl) (by assumption) (by assumption)]; rfl) | (rw [bst_t (p := trn κ η) (lt := pcl) (by assumption) (by assumption) (decide_eq_true (by omega))]; rfl)
                  · rfl
                  · omega
                  · omega
                · -- 114 f
                  have hp : trn κ η s = true := trn_ne h72 (by rw [lz_]; exact h114)
                  refine EV.l (lv' := [(0, _), (1, _), (2, _), (3, _), (4, _), (5, _)]) r_X11_turn_117 rfl ?_
                  refine EV.l (lv' := [(0, _), (1, _), (2, _), (3, _), (4, _), (5, _)]) r_X11_turn_119 rfl ?_
                  refine EV.l (lv' := [(0, _), (1, _), (2, _), (3, _), (4, _), (5, _)]) r_X11_turn_121 rfl ?_
                  rw [inc_nI]
                  refine EV.g r_X11_turn_124 ?_
                  refine EV.sub ?_ rfl ?_ (ih60 (s + 1) ?_ ?_)
                  · first | (rw [bst_l (p := trn κ η) (lt := pcl) (by assumption) (decide_eq_false (by omega))]; rfl) | (rw [bst_n (p := trn κ η) (lt := pcl) (by assumption)]; done) | (rw [bst_n (p := trn κ η) (lt := pcl) (by assumption), ec_]; rfl) | (rw [bst_0 (p := trn κ η) (lt := pcl) (by assumption) (by assumption)]; rfl) | (rw [bst_t (p := trn κ η) (lt := pcl) (by assumption) (by assumption) (decide_eq_true (by omega))]; rfl)
                  · rfl
                  · omega
                  · omega
              · -- 105 f
                have lz_ : trL κ η s = true := decide_eq_true (by omega)
                refine EV.o r_X11_turn_108 (icN (1) (v := 1)) ?_
                refine EV.g r_X11_turn_109 ?_
                refine EV.l (lv' := [(0, _), (1, _), (2, _), (3, _), (4, _), (5, _)]) r_X11_turn_113 rfl ?_
                refine EV.n2_eq r_X11_turn_114 (fun h114 => ?_) (fun h114 => ?_)
                · -- 114 t
                  have hp : trn κ η s = false := trn_eq (by rw [lz_]; exact h114)
                  refine EV.l (lv' := [(0, _), (1, _), (2, _), (3, _), (4, _), (5, _)]) r_X11_turn_121 rfl ?_
                  rw [inc_nI]
                  refine EV.g r_X11_turn_124 ?_
                  refine EV.sub ?_ rfl ?_ (ih60 (s + 1) ?_ ?_)
                  · first | (rw [bst_l (p := trn κ η) (lt := pcl) (by assumption) (decide_eq_false (by omega))]; rfl) | (rw [bst_n (p := trn κ η) (lt := pcl) (by assumption)]; done) | (rw [bst_n (p := trn κ η) (lt := pcl) (by assumption), ec_]; rfl) | (rw [bst_0 (p := trn κ η) (lt := pcl) (by assumption) (by assumption)]; rfl) | (rw [bst_t (p := trn κ η) (lt := pcl) (by assumption) (by assumption) (decide_eq_true (by omega))]; rfl)
                  · rfl
                  · omega
                  · omega
                · -- 114 f
                  have hp : trn κ η s = true := trn_ne h72 (by rw [lz_]; exact h114)
                  refine EV.l (lv' := [(0, _), (1, _), (2, _), (3, _), (4, _), (5, _)]) r_X11_turn_117 rfl ?_
                  refine EV.l (lv' := [(0, _), (1, _), (2, _), (3, _), (4, _), (5, _)]) r_X11_turn_119 rfl ?_
                  refine EV.l (lv' := [(0, _), (1, _), (2, _), (3, _), (4, _), (5, _)]) r_X11_turn_121 rfl ?_
                  rw [inc_nI]
                  refine EV.g r_X11_turn_124 ?_
                  refine EV.sub ?_ rfl ?_ (ih60 (s + 1) ?_ ?_)
                  · first | (rw [bst_l (p := trn κ η) (lt := pcl) (by assumption) (decide_eq_false (by omega))]; rfl) | (rw [bst_n (p := trn κ η) (lt := pcl) (by assumption)]; done) | (rw [bst_n (p := trn κ η) (lt := pcl) (by assumption), ec_]; rfl) | (rw [bst_0 (p := trn κ η) (lt := pcl) (by assumption) (by assumption)]; rfl) | (rw [bst_t (p := trn κ η) (lt := pcl) (by assumption) (by assumption) (decide_eq_true (by omega))]; rfl)
                  · rfl
                  · omega
                  · omega
            · -- 91 f
              refine EV.g r_X11_turn_94 ?_
              refine EV.l (lv' := [(0, _), (1, _), (2, _), (3, _), (4, _), (5, _)]) r_X11_turn_121 rfl ?_
              rw [inc_nI]
              refine EV.g r_X11_turn_124 ?_
              refine EV.sub ?_ rfl ?_ (ih60 (s + 1) ?_ ?_)
              · first | (rw [bst_l (p := trn κ η) (lt := pcl) (by assumption) (decide_eq_false (by omega))]; rfl) | (rw [bst_n (p := trn κ η) (lt := pcl) (by assumption)]; done) | (rw [bst_n (p := trn κ η) (lt := pcl) (by assumption), ec_]; rfl) | (rw [bst_0 (p := trn κ η) (lt := pcl) (by assumption) (by assumption)]; rfl) | (rw [bst_t (p := trn κ η) (lt := pcl) (by assumption) (by assumption) (decide_eq_true (by omega))]; rfl)
              · rfl
              · omega
              · omega
    have h0 := L60 (0)
    try dsimp only at h0
    refine EV.sub ?_ rfl ?_ (h0 ?_)
    · rw [ab_]; rfl
    · rfl
    · omega
