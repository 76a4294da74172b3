/-! (goes on) -/
theorem c_prod {d : Nat} {I : Nat → Nat → Int32} {J : Nat → Nat → Int64} {g : Nat → Nat} {n : Nat} {f : LX → LX} {k D : Nat} (gb : ∀ j, g j < 256) (hn : n ≤ 150) (hD : 5 ≤ D) (pf : PG g n f) (ih : CUn 53 D k g n f) {x0 : LX} (ls : LSc g n x0 I)  (hd : D + 1 ≤ d) : RU d 52 [.ref 53, .ref 1, .int (nI k)] I J (fun I' => LSc g n (prG g n f x0) I' ∧ LF I I') := by
  refine RU.in (d0 := D) hd mt_52 (Nat.le_of_ble_eq_true rfl) (fun d' hd' => ?_)
  show EV none M_X3_readProduct d' 0 [(0, .ref 53), (1, .ref 1), (2, .int (nI k))] [] (hp I J) _
  refine EV.l (lv' := [(0, _), (1, _), (2, _)]) r_X3_readProduct_0 rfl ?_
  refine EV.l (lv' := [(0, _), (1, _), (2, _)]) r_X3_readProduct_1 rfl ?_
  refine EV.l (lv' := [(0, _), (1, _), (2, _)]) r_X3_readProduct_2 rfl ?_
  refine EV.cu r_X3_readProduct_3 (aV2 mt_53 la_53) (ih d' I J x0 (by omega) ls) (fun I2 h2 => ?_)
  refine EV.o r_X3_readProduct_6 (icN (0) (v := 0)) ?_
  refine EV.l (lv' := [(0, _), (1, _), (2, _), (3, _)]) r_X3_readProduct_7 rfl ?_
  have L8 : ∀ y_ : Nat × LX × (Nat → Nat → Int32), (fun y => LSI g n (opPr g n) f (f x0) I2 y.1 y.2.1 y.2.2 → EV none M_X3_readProduct d' 8 [(0, .ref 53), (1, .ref 1), (2, .int (nI k)), (3, .int (nI y.1))] [] (hp y.2.2 J) (QU J (fun I' => LSc g n (prG g n f x0) I' ∧ LF I I'))) y_ := by
    refine ev_loop (fun y => 150 - y.1) ?_
    intro ⟨i, x, M⟩ ih8 hx8
    try dsimp only at ih8
    try dsimp only at hx8
    try dsimp only
    have i150 := hx8.2.2.1
    refine EV.l (lv' := [(0, _), (1, _), (2, _), (3, _)]) r_X3_readProduct_8 rfl ?_
    refine EV.o r_X3_readProduct_9 (spN (150) 150) ?_
    refine EV.n2_ge r_X3_readProduct_12 (fun h12 => ?_) (fun h12 => ?_)
    · -- 12 t
      have fz := hx8.fin (hx8.full opPr_3 hn (by omega))
      exact EV.ru r_X3_readProduct_88 (⟨fz.1, h2.2.tr fz.2⟩)
    · -- 12 f
      refine EV.l (lv' := [(0, _), (1, _), (2, _), (3, _)]) r_X3_readProduct_15 rfl ?_
      refine EV.o r_X3_readProduct_16 (bpN (42) 42) ?_
      refine EV.cv r_X3_readProduct_18 (aV1 mt_83 la_1) (c_seesS hx8.1.2.1 gb (by decide) (by omega)) ?_
      refine EV.b0_eq r_X3_readProduct_21 (fun h21 => ?_) (fun h21 => ?_)
      · -- 21 t
        refine EV.l (lv' := [(0, _), (1, _), (2, _), (3, _)]) r_X3_readProduct_29 rfl ?_
        refine EV.o r_X3_readProduct_30 (bpN (47) 47) ?_
        refine EV.cv r_X3_readProduct_32 (aV1 mt_83 la_1) (c_seesS hx8.1.2.1 gb (by decide) (by omega)) ?_
        refine EV.b0_eq r_X3_readProduct_35 (fun h35 => ?_) (fun h35 => ?_)
        · -- 35 t
          refine EV.l (lv' := [(0, _), (1, _), (2, _), (3, _)]) r_X3_readProduct_43 rfl ?_
          refine EV.o r_X3_readProduct_44 (bpN (37) 37) ?_
          refine EV.cv r_X3_readProduct_46 (aV1 mt_83 la_1) (c_seesS hx8.1.2.1 gb (by decide) (by omega)) ?_
          refine EV.b0_eq r_X3_readProduct_49 (fun h49 => ?_) (fun h49 => ?_)
          · -- 49 t
            have fz := hx8.fin (fun s e => opPr_0 (seS_f h21 e) (seS_f h35 e) (seS_f h49 e))
            refine EV.o r_X3_readProduct_57 (icN (0) (v := 0)) ?_
            refine EV.l (lv' := [(0, _), (1, _), (2, _), (3, _), (4, _)]) r_X3_readProduct_58 rfl ?_
            refine EV.l (lv' := [(0, _), (1, _), (2, _), (3, _), (4, _)]) r_X3_readProduct_60 rfl ?_
            refine EV.n0_ne r_X3_readProduct_62 (fun h62 => ?_) (fun h62 => ?_)
            · omega
            · -- 62 f
              exact EV.ru r_X3_readProduct_65 (⟨fz.1, h2.2.tr fz.2⟩)
          · -- 49 f
            obtain ⟨s, er, opq⟩ := seS_t h49
            have rg := hx8.1.rg2 er
            have opw := opPr_8 (seS_f h21 er) (seS_f h35 er) opq
            refine EV.o r_X3_readProduct_52 (bpZ (-15)) ?_
            refine EV.g r_X3_readProduct_54 ?_
            refine EV.l (lv' := [(0, _), (1, _), (2, _), (3, _), (4, _)]) r_X3_readProduct_58 rfl ?_
            refine EV.l (lv' := [(0, _), (1, _), (2, _), (3, _), (4, _)]) r_X3_readProduct_60 rfl ?_
            refine EV.z0_ne r_X3_readProduct_62 (fun h62 => ?_) (fun h62 => ?_)
            · -- 62 t
              refine EV.l (lv' := [(0, _), (1, _), (2, _), (3, _), (4, _)]) r_X3_readProduct_66 rfl ?_
              refine EV.cu r_X3_readProduct_67 (aV0 mt_78 la_1) (c_advance hx8.1.1 gb rg.en (by omega) rg.rc.pe (pep_le rg.sn) (by omega)) (fun I3 h3 => ?_)
              obtain ⟨rc3, fr3⟩ := h3
              have sn := kd3_lt (opq.1)
              have ls3 := hx8.1.adv er sn rc3 fr3
              have hls := (hx8.1.2.2 s er).2
              refine EV.l (lv' := [(0, _), (1, _), (2, _), (3, _), (4, _)]) r_X3_readProduct_70 rfl ?_
              refine EV.l (lv' := [(0, _), (1, _), (2, _), (3, _), (4, _)]) r_X3_readProduct_71 rfl ?_
              refine EV.l (lv' := [(0, _), (1, _), (2, _), (3, _), (4, _)]) r_X3_readProduct_72 rfl ?_
              refine EV.cu r_X3_readProduct_73 (aV2 mt_53 la_53) (ih d' I3 J (x.1, .inl (nxp g n s)) (by omega) ls3) (fun I4 h4 => ?_)
              refine EV.l (lv' := [(0, _), (1, _), (2, _), (3, _), (4, _)]) r_X3_readProduct_76 rfl ?_
              refine EV.l (lv' := [(0, _), (1, _), (2, _), (3, _), (4, _)]) r_X3_readProduct_77 rfl ?_
              refine EV.cu r_X3_readProduct_79 (aV1 mt_56 la_53) (c_addL (x := f (x.1, .inl (nxp g n s))) (w := 8) (o := 0) h4.1 hn (pf.lt sn hls) (fun _ _ => by decide) (by omega)) (fun I5 h5 => ?_)
              have hx9 := hx8.next (w := 8) pf opPr_3 er opw (by decide) (by omega) h5.1 (((show RO M I3 from fr3.1).lf.tr h4.2).tr h5.2)
              refine EV.l (lv' := [(0, _), (1, _), (2, _), (3, _), (4, _)]) r_X3_readProduct_82 rfl ?_
              rw [inc_nI]
              refine EV.g r_X3_readProduct_85 ?_
              refine EV.fg (lv' := [(0, _), (1, _), (2, _), (3, _)]) r_X3_readProduct_8 rfl rfl rfl ?_
              refine EV.sub ?_ rfl ?_ (ih8 (i + 1, (addc (f (x.1, .inl (nxp g n s))).1 8 0, (f (x.1, .inl (nxp g n s))).2), I5) ?_ ?_)
              · (try dsimp only) <;> (rfl)
              · (try dsimp only) <;> (rfl)
              · (try dsimp only) <;> (omega)
              · (try dsimp only) <;> (exact hx9)
            · omega
        · -- 35 f
          obtain ⟨s, er, opq⟩ := seS_t h35
          have rg := hx8.1.rg2 er
          have opw := opPr_5 (seS_f h21 er) opq
          refine EV.o r_X3_readProduct_38 (bpZ (-14)) ?_
          refine EV.g r_X3_readProduct_40 ?_
          refine EV.l (lv' := [(0, _), (1, _), (2, _), (3, _), (4, _)]) r_X3_readProduct_58 rfl ?_
          refine EV.l (lv' := [(0, _), (1, _), (2, _), (3, _), (4, _)]) r_X3_readProduct_60 rfl ?_
          refine EV.z0_ne r_X3_readProduct_62 (fun h62 => ?_) (fun h62 => ?_)
          · -- 62 t
            refine EV.l (lv' := [(0, _), (1, _), (2, _), (3, _), (4, _)]) r_X3_readProduct_66 rfl ?_
            refine EV.cu r_X3_readProduct_67 (aV0 mt_78 la_1) (c_advance hx8.1.1 gb rg.en (by omega) rg.rc.pe (pep_le rg.sn) (by omega)) (fun I3 h3 => ?_)
            obtain ⟨rc3, fr3⟩ := h3
            have sn := kd3_lt (opq.1)
            have ls3 := hx8.1.adv er sn rc3 fr3
            have hls := (hx8.1.2.2 s er).2
            refine EV.l (lv' := [(0, _), (1, _), (2, _), (3, _), (4, _)]) r_X3_readProduct_70 rfl ?_
            refine EV.l (lv' := [(0, _), (1, _), (2, _), (3, _), (4, _)]) r_X3_readProduct_71 rfl ?_
            refine EV.l (lv' := [(0, _), (1, _), (2, _), (3, _), (4, _)]) r_X3_readProduct_72 rfl ?_
            refine EV.cu r_X3_readProduct_73 (aV2 mt_53 la_53) (ih d' I3 J (x.1, .inl (nxp g n s)) (by omega) ls3) (fun I4 h4 => ?_)
            refine EV.l (lv' := [(0, _), (1, _), (2, _), (3, _), (4, _)]) r_X3_readProduct_76 rfl ?_
            refine EV.l (lv' := [(0, _), (1, _), (2, _), (3, _), (4, _)]) r_X3_readProduct_77 rfl ?_
            refine EV.cu r_X3_readProduct_79 (aV1 mt_56 la_53) (c_addL (x := f (x.1, .inl (nxp g n s))) (w := 5) (o := 0) h4.1 hn (pf.lt sn hls) (fun _ _ => by decide) (by omega)) (fun I5 h5 => ?_)
            have hx9 := hx8.next (w := 5) pf opPr_3 er opw (by decide) (by omega) h5.1 (((show RO M I3 from fr3.1).lf.tr h4.2).tr h5.2)
            refine EV.l (lv' := [(0, _), (1, _), (2, _), (3, _), (4, _)]) r_X3_readProduct_82 rfl ?_
            rw [inc_nI]
            refine EV.g r_X3_readProduct_85 ?_
            refine EV.fg (lv' := [(0, _), (1, _), (2, _), (3, _)]) r_X3_readProduct_8 rfl rfl rfl ?_
            refine EV.sub ?_ rfl ?_ (ih8 (i + 1, (addc (f (x.1, .inl (nxp g n s))).1 5 0, (f (x.1, .inl (nxp g n s))).2), I5) ?_ ?_)
            · (try dsimp only) <;> (rfl)
            · (try dsimp only) <;> (rfl)
            · (try dsimp only) <;> (omega)
            · (try dsimp only) <;> (exact hx9)
          · omega
      · -- 21 f
        obtain ⟨s, er, opq⟩ := seS_t h21
        have rg := hx8.1.rg2 er
        have opw := opPr_4 opq
        refine EV.o r_X3_readProduct_24 (bpZ (-13)) ?_
        refine EV.g r_X3_readProduct_26 ?_
        refine EV.l (lv' := [(0, _), (1, _), (2, _), (3, _), (4, _)]) r_X3_readProduct_58 rfl ?_
        refine EV.l (lv' := [(0, _), (1, _), (2, _), (3, _), (4, _)]) r_X3_readProduct_60 rfl ?_
        refine EV.z0_ne r_X3_readProduct_62 (fun h62 => ?_) (fun h62 => ?_)
        · -- 62 t
          refine EV.l (lv' := [(0, _), (1, _), (2, _), (3, _), (4, _)]) r_X3_readProduct_66 rfl ?_
          refine EV.cu r_X3_readProduct_67 (aV0 mt_78 la_1) (c_advance hx8.1.1 gb rg.en (by omega) rg.rc.pe (pep_le rg.sn) (by omega)) (fun I3 h3 => ?_)
          obtain ⟨rc3, fr3⟩ := h3
          have sn := kd3_lt (opq.1)
          have ls3 := hx8.1.adv er sn rc3 fr3
          have hls := (hx8.1.2.2 s er).2
          refine EV.l (lv' := [(0, _), (1, _), (2, _), (3, _), (4, _)]) r_X3_readProduct_70 rfl ?_
          refine EV.l (lv' := [(0, _), (1, _), (2, _), (3, _), (4, _)]) r_X3_readProduct_71 rfl ?_
          refine EV.l (lv' := [(0, _), (1, _), (2, _), (3, _), (4, _)]) r_X3_readProduct_72 rfl ?_
          refine EV.cu r_X3_readProduct_73 (aV2 mt_53 la_53) (ih d' I3 J (x.1, .inl (nxp g n s)) (by omega) ls3) (fun I4 h4 => ?_)
          refine EV.l (lv' := [(0, _), (1, _), (2, _), (3, _), (4, _)]) r_X3_readProduct_76 rfl ?_
          refine EV.l (lv' := [(0, _), (1, _), (2, _), (3, _), (4, _)]) r_X3_readProduct_77 rfl ?_
          refine EV.cu r_X3_readProduct_79 (aV1 mt_56 la_53) (c_addL (x := f (x.1, .inl (nxp g n s))) (w := 4) (o := 0) h4.1 hn (pf.lt sn hls) (fun _ _ => by decide) (by omega)) (fun I5 h5 => ?_)
          have hx9 := hx8.next (w := 4) pf opPr_3 er opw (by decide) (by omega) h5.1 (((show RO M I3 from fr3.1).lf.tr h4.2).tr h5.2)
          refine EV.l (lv' := [(0, _), (1, _), (2, _), (3, _), (4, _)]) r_X3_readProduct_82 rfl ?_
          rw [inc_nI]
          refine EV.g r_X3_readProduct_85 ?_
          refine EV.fg (lv' := [(0, _), (1, _), (2, _), (3, _)]) r_X3_readProduct_8 rfl rfl rfl ?_
          refine EV.sub ?_ rfl ?_ (ih8 (i + 1, (addc (f (x.1, .inl (nxp g n s))).1 4 0, (f (x.1, .inl (nxp g n s))).2), I5) ?_ ?_)
          · (try dsimp only) <;> (rfl)
          · (try dsimp only) <;> (rfl)
          · (try dsimp only) <;> (omega)
          · (try dsimp only) <;> (exact hx9)
        · omega
  have h0 := L8 (0, f x0, I2)
  try dsimp only at h0
  refine EV.sub ?_ rfl ?_ (h0 ?_)
  · (try dsimp only) <;> (rfl)
  · (try dsimp only) <;> (rfl)
  · (try dsimp only) <;> (exact ⟨h2.1, LF.rf, Nat.zero_le _, fun _ _ => Nat.zero_le _, rfl⟩)
theorem c_sum1 {d : Nat} {I : Nat → Nat → Int32} {J : Nat → Nat → Int64} {g : Nat → Nat} {n : Nat} {f : LX → LX} {k D : Nat} (gb : ∀ j, g j < 256) (hn : n ≤ 150) (hD : 5 ≤ D) (pf : PG g n f) (ih : CUn 52 D k g n f) {x0 : LX} (ls : LSc g n x0 I)  (hd : D + 1 ≤ d) : RU d 51 [.ref 53, .ref 1, .int (nI k)] I J (fun I' => LSc g n (smG g n f x0) I' ∧ LF I I') := by
  refine RU.in (d0 := D) hd mt_51 (Nat.le_of_ble_eq_true rfl) (fun d' hd' => ?_)
  show EV none M_X3_readSum d' 0 [(0, .ref 53), (1, .ref 1), (2, .int (nI k))] [] (hp I J) _
  refine EV.l (lv' := [(0, _), (1, _), (2, _)]) r_X3_readSum_0 rfl ?_
  refine EV.l (lv' := [(0, _), (1, _), (2, _)]) r_X3_readSum_1 rfl ?_
  refine EV.l (lv' := [(0, _), (1, _), (2, _)]) r_X3_readSum_2 rfl ?_
  refine EV.cu r_X3_readSum_3 (aV2 mt_52 la_53) (ih d' I J x0 (by omega) ls) (fun I2 h2 => ?_)
  refine EV.o r_X3_readSum_6 (icN (0) (v := 0)) ?_
  refine EV.l (lv' := [(0, _), (1, _), (2, _), (3, _)]) r_X3_readSum_7 rfl ?_
  have L8 : ∀ y_ : Nat × LX × (Nat → Nat → Int32), (fun y => LSI g n (opSu g n) f (f x0) I2 y.1 y.2.1 y.2.2 → EV none M_X3_readSum d' 8 [(0, .ref 53), (1, .ref 1), (2, .int (nI k)), (3, .int (nI y.1))] [] (hp y.2.2 J) (QU J (fun I' => LSc g n (smG g n f x0) I' ∧ LF I I'))) y_ := by
    refine ev_loop (fun y => 150 - y.1) ?_
    intro ⟨i, x, M⟩ ih8 hx8
    try dsimp only at ih8
    try dsimp only at hx8
    try dsimp only
    have i150 := hx8.2.2.1
    refine EV.l (lv' := [(0, _), (1, _), (2, _), (3, _)]) r_X3_readSum_8 rfl ?_
    refine EV.o r_X3_readSum_9 (spN (150) 150) ?_
    refine EV.n2_ge r_X3_readSum_12 (fun h12 => ?_) (fun h12 => ?_)
    · -- 12 t
      have fz := hx8.fin (hx8.full opSu_3 hn (by omega))
      exact EV.ru r_X3_readSum_73 (⟨fz.1, h2.2.tr fz.2⟩)
    · -- 12 f
      refine EV.l (lv' := [(0, _), (1, _), (2, _), (3, _)]) r_X3_readSum_15 rfl ?_
      refine EV.o r_X3_readSum_16 (bpN (43) 43) ?_
      refine EV.cv r_X3_readSum_18 (aV1 mt_83 la_1) (c_seesS hx8.1.2.1 gb (by decide) (by omega)) ?_
      refine EV.b0_ne r_X3_readSum_21 (fun h21 => ?_) (fun h21 => ?_)
      · -- 21 t
        obtain ⟨s, er, opq⟩ := seS_t h21
        have rg := hx8.1.rg2 er
        have opw := opSu_2 opq
        refine EV.l (lv' := [(0, _), (1, _), (2, _), (3, _)]) r_X3_readSum_33 rfl ?_
        refine EV.o r_X3_readSum_34 (bpN (43) 43) ?_
        refine EV.cv r_X3_readSum_36 (aV1 mt_83 la_1) (c_seesS1 hx8.1.2.1 gb h21 (by decide) (by omega)) ?_
        refine EV.n0_eq r_X3_readSum_39 (fun h39 => ?_) (fun h39 => ?_)
        · omega
        · -- 39 f
          refine EV.o r_X3_readSum_42 (bpZ (-11)) ?_
          refine EV.g r_X3_readSum_44 ?_
          refine EV.l (lv' := [(0, _), (1, _), (2, _), (3, _), (4, _)]) r_X3_readSum_49 rfl ?_
          refine EV.l (lv' := [(0, _), (1, _), (2, _), (3, _), (4, _)]) r_X3_readSum_51 rfl ?_
          refine EV.cu r_X3_readSum_52 (aV0 mt_78 la_1) (c_advance hx8.1.1 gb rg.en (by omega) rg.rc.pe (pep_le rg.sn) (by omega)) (fun I3 h3 => ?_)
          obtain ⟨rc3, fr3⟩ := h3
          have sn := kd3_lt (opq.1)
          have ls3 := hx8.1.adv er sn rc3 fr3
          have hls := (hx8.1.2.2 s er).2
          refine EV.l (lv' := [(0, _), (1, _), (2, _), (3, _), (4, _)]) r_X3_readSum_55 rfl ?_
          refine EV.l (lv' := [(0, _), (1, _), (2, _), (3, _), (4, _)]) r_X3_readSum_56 rfl ?_
          refine EV.l (lv' := [(0, _), (1, _), (2, _), (3, _), (4, _)]) r_X3_readSum_57 rfl ?_
          refine EV.cu r_X3_readSum_58 (aV2 mt_52 la_53) (ih d' I3 J (x.1, .inl (nxp g n s)) (by omega) ls3) (fun I4 h4 => ?_)
          refine EV.l (lv' := [(0, _), (1, _), (2, _), (3, _), (4, _)]) r_X3_readSum_61 rfl ?_
          refine EV.l (lv' := [(0, _), (1, _), (2, _), (3, _), (4, _)]) r_X3_readSum_62 rfl ?_
          refine EV.cu r_X3_readSum_64 (aV1 mt_56 la_53) (c_addL (x := f (x.1, .inl (nxp g n s))) (w := 2) (o := 0) h4.1 hn (pf.lt sn hls) (fun _ _ => by decide) (by omega)) (fun I5 h5 => ?_)
          have hx9 := hx8.next (w := 2) pf opSu_3 er opw (by decide) (by omega) h5.1 (((show RO M I3 from fr3.1).lf.tr h4.2).tr h5.2)
          refine EV.l (lv' := [(0, _), (1, _), (2, _), (3, _), (4, _)]) r_X3_readSum_67 rfl ?_
          rw [inc_nI]
          refine EV.g r_X3_readSum_70 ?_
          refine EV.fg (lv' := [(0, _), (1, _), (2, _), (3, _)]) r_X3_readSum_8 rfl rfl rfl ?_
          refine EV.sub ?_ rfl ?_ (ih8 (i + 1, (addc (f (x.1, .inl (nxp g n s))).1 2 0, (f (x.1, .inl (nxp g n s))).2), I5) ?_ ?_)
          · (try dsimp only) <;> (rfl)
          · (try dsimp only) <;> (rfl)
          · (try dsimp only) <;> (omega)
          · (try dsimp only) <;> (exact hx9)
      · -- 21 f
        refine EV.l (lv' := [(0, _), (1, _), (2, _), (3, _)]) r_X3_readSum_24 rfl ?_
        refine EV.o r_X3_readSum_25 (bpN (45) 45) ?_
        refine EV.cv r_X3_readSum_27 (aV1 mt_83 la_1) (c_seesS hx8.1.2.1 gb (by decide) (by omega)) ?_
        refine EV.b0_eq r_X3_readSum_30 (fun h30 => ?_) (fun h30 => ?_)
        · -- 30 t
          have fz := hx8.fin (fun s e => opSu_0 (seS_f h21 e) (seS_f h30 e))
          exact EV.ru r_X3_readSum_73 (⟨fz.1, h2.2.tr fz.2⟩)
        · -- 30 f
          obtain ⟨s, er, opq⟩ := seS_t h30
          have rg := hx8.1.rg2 er
          have opw := opSu_3b (seS_f h21 er) opq
          refine EV.l (lv' := [(0, _), (1, _), (2, _), (3, _)]) r_X3_readSum_33 rfl ?_
          refine EV.o r_X3_readSum_34 (bpN (43) 43) ?_
          refine EV.cv r_X3_readSum_36 (aV1 mt_83 la_1) (c_seesS0 hx8.1.2.1 gb h21 (by decide) (by omega)) ?_
          refine EV.n0_eq r_X3_readSum_39 (fun h39 => ?_) (fun h39 => ?_)
          · -- 39 t
            refine EV.o r_X3_readSum_47 (bpZ (-12)) ?_
            refine EV.l (lv' := [(0, _), (1, _), (2, _), (3, _), (4, _)]) r_X3_readSum_49 rfl ?_
            refine EV.l (lv' := [(0, _), (1, _), (2, _), (3, _), (4, _)]) r_X3_readSum_51 rfl ?_
            refine EV.cu r_X3_readSum_52 (aV0 mt_78 la_1) (c_advance hx8.1.1 gb rg.en (by omega) rg.rc.pe (pep_le rg.sn) (by omega)) (fun I3 h3 => ?_)
            obtain ⟨rc3, fr3⟩ := h3
            have sn := kd3_lt (opq.1)
            have ls3 := hx8.1.adv er sn rc3 fr3
            have hls := (hx8.1.2.2 s er).2
            refine EV.l (lv' := [(0, _), (1, _), (2, _), (3, _), (4, _)]) r_X3_readSum_55 rfl ?_
            refine EV.l (lv' := [(0, _), (1, _), (2, _), (3, _), (4, _)]) r_X3_readSum_56 rfl ?_
            refine EV.l (lv' := [(0, _), (1, _), (2, _), (3, _), (4, _)]) r_X3_readSum_57 rfl ?_
            refine EV.cu r_X3_readSum_58 (aV2 mt_52 la_53) (ih d' I3 J (x.1, .inl (nxp g n s)) (by omega) ls3) (fun I4 h4 => ?_)
            refine EV.l (lv' := [(0, _), (1, _), (2, _), (3, _), (4, _)]) r_X3_readSum_61 rfl ?_
            refine EV.l (lv' := [(0, _), (1, _), (2, _), (3, _), (4, _)]) r_X3_readSum_62 rfl ?_
            refine EV.cu r_X3_readSum_64 (aV1 mt_56 la_53) (c_addL (x := f (x.1, .inl (nxp g n s))) (w := 3) (o := 0) h4.1 hn (pf.lt sn hls) (fun _ _ => by decide) (by omega)) (fun I5 h5 => ?_)
            have hx9 := hx8.next (w := 3) pf opSu_3 er opw (by decide) (by omega) h5.1 (((show RO M I3 from fr3.1).lf.tr h4.2).tr h5.2)
            refine EV.l (lv' := [(0, _), (1, _), (2, _), (3, _), (4, _)]) r_X3_readSum_67 rfl ?_
            rw [inc_nI]
            refine EV.g r_X3_readSum_70 ?_
            refine EV.fg (lv' := [(0, _), (1, _), (2, _), (3, _)]) r_X3_readSum_8 rfl rfl rfl ?_
            refine EV.sub ?_ rfl ?_ (ih8 (i + 1, (addc (f (x.1, .inl (nxp g n s))).1 3 0, (f (x.1, .inl (nxp g n s))).2), I5) ?_ ?_)
            · (try dsimp only) <;> (rfl)
            · (try dsimp only) <;> (rfl)
            · (try dsimp only) <;> (omega)
            · (try dsimp only) <;> (exact hx9)
          · omega
  have h0 := L8 (0, f x0, I2)
  try dsimp only at h0
  refine EV.sub ?_ rfl ?_ (h0 ?_)
  · (try dsimp only) <;> (rfl)
  · (try dsimp only) <;> (rfl)
  · (try dsimp only) <;> (exact ⟨h2.1, LF.rf, Nat.zero_le _, fun _ _ => Nat.zero_le _, rfl⟩)
theorem c_sums {g : Nat → Nat} {n : Nat} (gb : ∀ j, g j < 256) (hn : n ≤ 150) : ∀ o k, k + o = 6 → CUn 51 (4 * o + 9) k g n (sums g n o)
  | 0, k, h => by
    have u : CUn 53 7 k g n (uni g n (fun x => x) 0) := c_unit (D := 5) gb hn (by decide) h (fun z => absurd z (Nat.lt_irrefl 0)) (fun z => absurd z (Nat.lt_irrefl 0))
    have pu : PG g n (uni g n (fun x => x) 0) := PG.uni (fun z => absurd z (Nat.lt_irrefl 0))
    have p : CUn 52 8 k g n (prG g n (uni g n (fun x => x) 0)) := fun d I J x hd ls => c_prod gb hn (D := 7) (by decide) pu u ls hd
    exact fun d I J x hd ls => c_sum1 gb hn (D := 8) (by decide) pu.pr p ls hd
  | o + 1, k, h => by
    have ih := c_sums gb hn o (k + 1) (by omega)
    have u : CUn 53 (4 * o + 9 + 2) k g n (uni g n (sums g n o) (o + 1)) := c_unit gb hn (by omega) h (fun _ => PG.sums o) (fun _ => ih)
    have pu : PG g n (uni g n (sums g n o) (o + 1)) := PG.uni (fun _ => PG.sums o)
    have p : CUn 52 (4 * o + 9 + 3) k g n (prG g n (uni g n (sums g n o) (o + 1))) := fun d I J x hd ls => c_prod gb hn (D := 4 * o + 9 + 2) (by omega) pu u ls hd
    exact fun d I J x hd ls => c_sum1 gb hn (D := 4 * o + 9 + 3) (by omega) pu.pr p ls (by omega)
