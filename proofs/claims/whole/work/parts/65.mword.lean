/-! The model's words. -/
theorem r_X11_standsHere_0 : RW M_X11_standsHere 0 (.aload_n 0) 1 0 0 1 := ⟨rfl, rfl⟩
theorem r_X11_standsHere_1 : RW M_X11_standsHere 1 (.invokevirtual 123) 3 175 0 4 := ⟨rfl, rfl⟩
theorem r_X11_standsHere_4 : RW M_X11_standsHere 4 (.pop) 1 0 0 5 := ⟨rfl, rfl⟩
theorem r_X11_standsHere_5 : RW M_X11_standsHere 5 (.iconst 0) 1 0 0 6 := ⟨rfl, rfl⟩
theorem r_X11_standsHere_6 : RW M_X11_standsHere 6 (.istore_n 2) 1 0 0 7 := ⟨rfl, rfl⟩
theorem r_X11_standsHere_7 : RW M_X11_standsHere 7 (.iload_n 2) 1 0 0 8 := ⟨rfl, rfl⟩
theorem r_X11_standsHere_8 : RW M_X11_standsHere 8 (.aload_n 1) 1 0 0 9 := ⟨rfl, rfl⟩
theorem r_X11_standsHere_9 : RW M_X11_standsHere 9 (.invokevirtual 131) 3 902 0 12 := ⟨rfl, rfl⟩
theorem r_X11_standsHere_12 : RW M_X11_standsHere 12 (.if_icmp .ge 43) 3 55 0 15 := ⟨rfl, rfl⟩
theorem r_X11_standsHere_15 : RW M_X11_standsHere 15 (.aload_n 0) 1 0 0 16 := ⟨rfl, rfl⟩
theorem r_X11_standsHere_16 : RW M_X11_standsHere 16 (.getfield 117) 3 11 4 19 := ⟨rfl, rfl⟩
theorem r_X11_standsHere_19 : RW M_X11_standsHere 19 (.iload_n 2) 1 0 0 20 := ⟨rfl, rfl⟩
theorem r_X11_standsHere_20 : RW M_X11_standsHere 20 (.iadd) 1 0 0 21 := ⟨rfl, rfl⟩
theorem r_X11_standsHere_21 : RW M_X11_standsHere 21 (.aload_n 0) 1 0 0 22 := ⟨rfl, rfl⟩
theorem r_X11_standsHere_22 : RW M_X11_standsHere 22 (.getfield 120) 3 11 3 25 := ⟨rfl, rfl⟩
theorem r_X11_standsHere_25 : RW M_X11_standsHere 25 (.if_icmp .ge 22) 3 47 0 28 := ⟨rfl, rfl⟩
theorem r_X11_standsHere_28 : RW M_X11_standsHere 28 (.aload_n 0) 1 0 0 29 := ⟨rfl, rfl⟩
theorem r_X11_standsHere_29 : RW M_X11_standsHere 29 (.getfield 20) 3 11 9 32 := ⟨rfl, rfl⟩
theorem r_X11_standsHere_32 : RW M_X11_standsHere 32 (.aload_n 0) 1 0 0 33 := ⟨rfl, rfl⟩
theorem r_X11_standsHere_33 : RW M_X11_standsHere 33 (.getfield 117) 3 11 4 36 := ⟨rfl, rfl⟩
theorem r_X11_standsHere_36 : RW M_X11_standsHere 36 (.iload_n 2) 1 0 0 37 := ⟨rfl, rfl⟩
theorem r_X11_standsHere_37 : RW M_X11_standsHere 37 (.iadd) 1 0 0 38 := ⟨rfl, rfl⟩
theorem r_X11_standsHere_38 : RW M_X11_standsHere 38 (.iaload) 1 0 0 39 := ⟨rfl, rfl⟩
theorem r_X11_standsHere_39 : RW M_X11_standsHere 39 (.aload_n 1) 1 0 0 40 := ⟨rfl, rfl⟩
theorem r_X11_standsHere_40 : RW M_X11_standsHere 40 (.iload_n 2) 1 0 0 41 := ⟨rfl, rfl⟩
theorem r_X11_standsHere_41 : RW M_X11_standsHere 41 (.invokevirtual 136) 3 903 0 44 := ⟨rfl, rfl⟩
theorem r_X11_standsHere_44 : RW M_X11_standsHere 44 (.if_icmp .eq 5) 3 49 0 47 := ⟨rfl, rfl⟩
theorem r_X11_standsHere_47 : RW M_X11_standsHere 47 (.iconst 0) 1 0 0 48 := ⟨rfl, rfl⟩
theorem r_X11_standsHere_48 : RW M_X11_standsHere 48 (.ireturn) 1 0 0 49 := ⟨rfl, rfl⟩
theorem r_X11_standsHere_49 : RW M_X11_standsHere 49 (.iinc 2 1) 3 0 0 52 := ⟨rfl, rfl⟩
theorem r_X11_standsHere_52 : RW M_X11_standsHere 52 (.goto (-45)) 3 7 0 55 := ⟨rfl, rfl⟩
theorem r_X11_standsHere_55 : RW M_X11_standsHere 55 (.aload_n 0) 1 0 0 56 := ⟨rfl, rfl⟩
theorem r_X11_standsHere_56 : RW M_X11_standsHere 56 (.getfield 117) 3 11 4 59 := ⟨rfl, rfl⟩
theorem r_X11_standsHere_59 : RW M_X11_standsHere 59 (.aload_n 1) 1 0 0 60 := ⟨rfl, rfl⟩
theorem r_X11_standsHere_60 : RW M_X11_standsHere 60 (.invokevirtual 131) 3 902 0 63 := ⟨rfl, rfl⟩
theorem r_X11_standsHere_63 : RW M_X11_standsHere 63 (.iadd) 1 0 0 64 := ⟨rfl, rfl⟩
theorem r_X11_standsHere_64 : RW M_X11_standsHere 64 (.aload_n 0) 1 0 0 65 := ⟨rfl, rfl⟩
theorem r_X11_standsHere_65 : RW M_X11_standsHere 65 (.getfield 120) 3 11 3 68 := ⟨rfl, rfl⟩
theorem r_X11_standsHere_68 : RW M_X11_standsHere 68 (.if_icmp .ge 23) 3 91 0 71 := ⟨rfl, rfl⟩
theorem r_X11_standsHere_71 : RW M_X11_standsHere 71 (.aload_n 0) 1 0 0 72 := ⟨rfl, rfl⟩
theorem r_X11_standsHere_72 : RW M_X11_standsHere 72 (.getfield 20) 3 11 9 75 := ⟨rfl, rfl⟩
theorem r_X11_standsHere_75 : RW M_X11_standsHere 75 (.aload_n 0) 1 0 0 76 := ⟨rfl, rfl⟩
theorem r_X11_standsHere_76 : RW M_X11_standsHere 76 (.getfield 117) 3 11 4 79 := ⟨rfl, rfl⟩
theorem r_X11_standsHere_79 : RW M_X11_standsHere 79 (.aload_n 1) 1 0 0 80 := ⟨rfl, rfl⟩
theorem r_X11_standsHere_80 : RW M_X11_standsHere 80 (.invokevirtual 131) 3 902 0 83 := ⟨rfl, rfl⟩
theorem r_X11_standsHere_83 : RW M_X11_standsHere 83 (.iadd) 1 0 0 84 := ⟨rfl, rfl⟩
theorem r_X11_standsHere_84 : RW M_X11_standsHere 84 (.iaload) 1 0 0 85 := ⟨rfl, rfl⟩
theorem r_X11_standsHere_85 : RW M_X11_standsHere 85 (.invokestatic 127) 3 176 0 88 := ⟨rfl, rfl⟩
theorem r_X11_standsHere_88 : RW M_X11_standsHere 88 (.ifCond .ne 7) 3 95 0 91 := ⟨rfl, rfl⟩
theorem r_X11_standsHere_91 : RW M_X11_standsHere 91 (.iconst 1) 1 0 0 92 := ⟨rfl, rfl⟩
theorem r_X11_standsHere_92 : RW M_X11_standsHere 92 (.goto 4) 3 96 0 95 := ⟨rfl, rfl⟩
theorem r_X11_standsHere_95 : RW M_X11_standsHere 95 (.iconst 0) 1 0 0 96 := ⟨rfl, rfl⟩
theorem r_X11_standsHere_96 : RW M_X11_standsHere 96 (.ireturn) 1 0 0 97 := ⟨rfl, rfl⟩
theorem m_stands {d : Nat} {I : Nat → Nat → Int32} {J : Nat → Nat → Int64} {g : Nat → Nat} {n s : Nat} (tp : ∀ j, j < 600 → I 108 j = nI (g j)) (gb : ∀ j, g j < 256) (hn : n ≤ 600) (mg : MG g n s I) {k : Nat} {t : List Nat} (ht : TXS[k]? = some t) (tl : t.length < 100) (lt : ltr t)  (hd : 2 ≤ d) : RI d 191 [.ref 106, .ref (spc + 1 + k)] I J (fun v I' => v = bI (isW g n s t) ∧ MG g n s I' ∧ I' 106 4 = nI s ∧ MP I I') := by
  refine RI.in (d0 := 1) hd mt_191 (Nat.le_of_ble_eq_true rfl) (fun d' hd' => ?_)
  obtain ⟨a, pa, pe, ps⟩ := mg.pl
  have sn := mg.sn
  show EV none M_X11_standsHere d' 0 [(0, .ref 106), (1, .ref (spc + 1 + k))] [] (hp I J) _
  refine EV.l (lv' := [(0, _), (1, _)]) r_X11_standsHere_0 rfl ?_
  refine EV.ci r_X11_standsHere_1 (aV0 mt_175 la_106) (m_here tp gb hn mg.en pa pe (by omega)) (fun v I2 h2 => ?_)
  obtain ⟨e, h2⟩ := h2
  subst e
  have m2 : MG g n s I2 := mg.mv h2.2 (scp_le pa) h2.1 ((scp_id pa).trans ps)
  rw [ps]
  refine EV.o r_X11_standsHere_4 rfl ?_
  refine EV.o r_X11_standsHere_5 (icN (0) (v := 0)) ?_
  refine EV.l (lv' := [(0, _), (1, _), (2, _)]) r_X11_standsHere_6 rfl ?_
  have L7 : ∀ y_ : Nat, (fun i => (i ≤ t.length ∧ ∀ j, j < i → s + j < n ∧ g (s + j) = t.getD j 0) → EV none M_X11_standsHere d' 7 [(0, .ref 106), (1, .ref (spc + 1 + k)), (2, .int (nI i))] [] (hp I2 J) (QI J (fun v I' => v = bI (isW g n s t) ∧ MG g n s I' ∧ I' 106 4 = nI s ∧ MP I I'))) y_ := by
    refine ev_loop (fun i => t.length - i) ?_
    intro i ih7 hx7
    try dsimp only at ih7
    try dsimp only at hx7
    try dsimp only
    refine EV.l (lv' := [(0, _), (1, _), (2, _)]) r_X11_standsHere_7 rfl ?_
    refine EV.l (lv' := [(0, _), (1, _), (2, _)]) r_X11_standsHere_8 rfl ?_
    refine EV.tl r_X11_standsHere_9 ht ?_
    refine EV.n2_ge r_X11_standsHere_12 (fun h12 => ?_) (fun h12 => ?_)
    · -- 12 t
      have il : i = t.length := by omega
      have hall : ∀ j, j < t.length → s + j < n ∧ g (s + j) = t.getD j 0 := fun j hj => hx7.2 j (by omega)
      refine EV.l (lv' := [(0, _), (1, _), (2, _)]) r_X11_standsHere_55 rfl ?_
      refine EV.getV r_X11_standsHere_56 la_106 ((h2.1).trans (congrArg nI ps)) ?_
      refine EV.l (lv' := [(0, _), (1, _), (2, _)]) r_X11_standsHere_59 rfl ?_
      refine EV.tl r_X11_standsHere_60 ht ?_
      refine EV.o r_X11_standsHere_63 iaddN ?_
      refine EV.l (lv' := [(0, _), (1, _), (2, _)]) r_X11_standsHere_64 rfl ?_
      refine EV.getV r_X11_standsHere_65 la_106 ((h2.2.2 3 (by decide)).trans mg.en) ?_
      refine EV.n2_ge r_X11_standsHere_68 (fun h68 => ?_) (fun h68 => ?_)
      · -- 68 t
        refine EV.o r_X11_standsHere_91 (icN (1) (v := 1)) ?_
        refine EV.g r_X11_standsHere_92 ?_
        exact EV.ri r_X11_standsHere_96 (⟨by first | (rw [(isW_m lt sn).mpr ⟨hall, by first | exact Or.inl (by omega) | exact Or.inr (by assumption)⟩]; rfl) | (rw [isW_no lt sn (fun z => z.2.elim (fun y => absurd y (by omega)) (fun y => absurd (y.symm.trans h88) (by decide)))]; rfl), m2, h2.1.trans (congrArg nI ps), h2.2⟩)
      · -- 68 f
        refine EV.l (lv' := [(0, _), (1, _), (2, _)]) r_X11_standsHere_71 rfl ?_
        refine EV.gR r_X11_standsHere_72 la_106 ?_
        refine EV.l (lv' := [(0, _), (1, _), (2, _)]) r_X11_standsHere_75 rfl ?_
        refine EV.getV r_X11_standsHere_76 la_106 ((h2.1).trans (congrArg nI ps)) ?_
        refine EV.l (lv' := [(0, _), (1, _), (2, _)]) r_X11_standsHere_79 rfl ?_
        refine EV.tl r_X11_standsHere_80 ht ?_
        refine EV.o r_X11_standsHere_83 iaddN ?_
        refine EV.iaN r_X11_standsHere_84 la_108 ((congrFun (h2.2.1 108 (by decide)) _).trans (tp _ (by omega))) ?_
        refine EV.cv r_X11_standsHere_85 (aS1 mt_176) (m_isL (gb _) (by omega)) ?_
        refine EV.b0_ne r_X11_standsHere_88 (fun h88 => ?_) (fun h88 => ?_)
        · -- 88 t
          refine EV.o r_X11_standsHere_95 (icN (0) (v := 0)) ?_
          exact EV.ri r_X11_standsHere_96 (⟨by first | (rw [(isW_m lt sn).mpr ⟨hall, by first | exact Or.inl (by omega) | exact Or.inr (by assumption)⟩]; rfl) | (rw [isW_no lt sn (fun z => z.2.elim (fun y => absurd y (by omega)) (fun y => absurd (y.symm.trans h88) (by decide)))]; rfl), m2, h2.1.trans (congrArg nI ps), h2.2⟩)
        · -- 88 f
          refine EV.o r_X11_standsHere_91 (icN (1) (v := 1)) ?_
          refine EV.g r_X11_standsHere_92 ?_
          exact EV.ri r_X11_standsHere_96 (⟨by first | (rw [(isW_m lt sn).mpr ⟨hall, by first | exact Or.inl (by omega) | exact Or.inr (by assumption)⟩]; rfl) | (rw [isW_no lt sn (fun z => z.2.elim (fun y => absurd y (by omega)) (fun y => absurd (y.symm.trans h88) (by decide)))]; rfl), m2, h2.1.trans (congrArg nI ps), h2.2⟩)
    · -- 12 f
      refine EV.l (lv' := [(0, _), (1, _), (2, _)]) r_X11_standsHere_15 rfl ?_
      refine EV.getV r_X11_standsHere_16 la_106 ((h2.1).trans (congrArg nI ps)) ?_
      refine EV.l (lv' := [(0, _), (1, _), (2, _)]) r_X11_standsHere_19 rfl ?_
      refine EV.o r_X11_standsHere_20 iaddN ?_
      refine EV.l (lv' := [(0, _), (1, _), (2, _)]) r_X11_standsHere_21 rfl ?_
      refine EV.getV r_X11_standsHere_22 la_106 ((h2.2.2 3 (by decide)).trans mg.en) ?_
      refine EV.n2_ge r_X11_standsHere_25 (fun h25 => ?_) (fun h25 => ?_)
      · -- 25 t
        refine EV.o r_X11_standsHere_47 (icN (0) (v := 0)) ?_
        exact EV.ri r_X11_standsHere_48 (⟨by rw [isW_no lt sn (fun z => by first | exact absurd (z.1 i (by omega)).1 (by omega) | exact h44 (z.1 i (by omega)).2)]; rfl, m2, h2.1.trans (congrArg nI ps), h2.2⟩)
      · -- 25 f
        refine EV.l (lv' := [(0, _), (1, _), (2, _)]) r_X11_standsHere_28 rfl ?_
        refine EV.gR r_X11_standsHere_29 la_106 ?_
        refine EV.l (lv' := [(0, _), (1, _), (2, _)]) r_X11_standsHere_32 rfl ?_
        refine EV.getV r_X11_standsHere_33 la_106 ((h2.1).trans (congrArg nI ps)) ?_
        refine EV.l (lv' := [(0, _), (1, _), (2, _)]) r_X11_standsHere_36 rfl ?_
        refine EV.o r_X11_standsHere_37 iaddN ?_
        refine EV.iaN r_X11_standsHere_38 la_108 ((congrFun (h2.2.1 108 (by decide)) _).trans (tp _ (by omega))) ?_
        refine EV.l (lv' := [(0, _), (1, _), (2, _)]) r_X11_standsHere_39 rfl ?_
        have gb1 := gb (s + i)
        have tb_ := lt.b (i := i) (by omega)
        refine EV.l (lv' := [(0, _), (1, _), (2, _)]) r_X11_standsHere_40 rfl ?_
        refine EV.tc r_X11_standsHere_41 ht ?_
        refine EV.n2_eq r_X11_standsHere_44 (fun h44 => ?_) (fun h44 => ?_)
        · -- 44 t
          refine EV.l (lv' := [(0, _), (1, _), (2, _)]) r_X11_standsHere_49 rfl ?_
          rw [inc_nI]
          refine EV.g r_X11_standsHere_52 ?_
          refine EV.sub ?_ rfl ?_ (ih7 (i + 1) ?_ ?_)
          · rfl
          · rfl
          · omega
          · exact ⟨by omega, fun j hj => by by_cases z : j = i; (rw [z]; exact ⟨by omega, h44⟩); exact hx7.2 j (by omega)⟩
        · -- 44 f
          refine EV.o r_X11_standsHere_47 (icN (0) (v := 0)) ?_
          exact EV.ri r_X11_standsHere_48 (⟨by rw [isW_no lt sn (fun z => by first | exact absurd (z.1 i (by omega)).1 (by omega) | exact h44 (z.1 i (by omega)).2)]; rfl, m2, h2.1.trans (congrArg nI ps), h2.2⟩)
  have h0 := L7 (0)
  try dsimp only at h0
  refine EV.sub ?_ rfl ?_ (h0 ?_)
  · rfl
  · rfl
  · exact ⟨Nat.zero_le _, fun j hj => absurd hj (Nat.not_lt_zero j)⟩
