/-! COURT: the class. -/
theorem rbd.fn {I : Nat → Nat → Int32} {o m b : Nat} (h : rbd I o m b) : ∃ f : Nat → Nat, (∀ j, f j ≤ b) ∧ ∀ j, j < m → I o j = nI (f j) := by
  refine ⟨fun j => if hj : j < m then Classical.choose (h j hj) else 0, fun j => ?_, fun j hj => ?_⟩
  · show (if hj : j < m then Classical.choose (h j hj) else 0) ≤ b
    split
    · rename_i hj
      exact (Classical.choose_spec (h j hj)).1
    · exact Nat.zero_le _
  · show I o j = nI (if hj : j < m then Classical.choose (h j hj) else 0)
    rw [dif_pos hj]
    exact (Classical.choose_spec (h j hj)).2
/-- any int as a whole number from 0 on -/
theorem i_n (x : Int32) : ∃ k : Nat, k < 4294967296 ∧ x = nI k := ⟨x.toBitVec.toNat, x.toBitVec.isLt, by show x = Int32.ofBitVec (BitVec.ofNat 32 x.toBitVec.toNat); rw [BitVec.ofNat_toNat, BitVec.setWidth_eq]; rfl⟩
theorem row_n (I : Nat → Nat → Int32) (o : Nat) : ∃ f : Nat → Nat, ∀ j, I o j = nI (f j) := ⟨fun j => Classical.choose (i_n (I o j)), fun j => (Classical.choose_spec (i_n (I o j))).2⟩
theorem SK.hc {I : Nat → Nat → Int32} (h : SK I) : ∃ K, HC 25 K I ∧ CU K := by
  obtain ⟨f1, b1, e1⟩ := h.1.fn
  obtain ⟨f2, b2, e2⟩ := h.2.1.fn
  obtain ⟨f3, b3, e3⟩ := h.2.2.1.fn
  obtain ⟨f4, b4, e4⟩ := h.2.2.2.1.fn
  obtain ⟨f5, b5, e5⟩ := h.2.2.2.2.1.fn
  obtain ⟨f6, b6, e6⟩ := h.2.2.2.2.2.1.fn
  obtain ⟨f7, b7, e7⟩ := h.2.2.2.2.2.2.fn
  obtain ⟨g1, x1⟩ := row_n I 33
  obtain ⟨g2, x2⟩ := row_n I 35
  obtain ⟨g3, x3⟩ := row_n I 37
  obtain ⟨c1, y1⟩ := row_n I 25
  exact ⟨CT.mk (c1 10) (c1 11) (c1 12) (c1 13) f1 f2 f3 g1 g2 g3 f4 f5 f6 f7, ⟨y1 10, y1 11, y1 12, y1 13, e1, e2, e3, fun j _ => x1 j, fun j _ => x2 j, fun j _ => x3 j, e4, e5, e6, e7⟩, ⟨b1, b2, b3, b4, b5, b6, b7⟩⟩
theorem SK.of {K : CT} {I : Nat → Nat → Int32} (h : HC 25 K I) (c : CU K) : SK I := ⟨fun j hj => ⟨_, c.sm j, h.sm j hj⟩, fun j hj => ⟨_, c.ss j, h.ss j hj⟩, fun j hj => ⟨_, c.sw j, h.sw j hj⟩, fun j hj => ⟨_, c.bm j, h.bm j hj⟩, fun j hj => ⟨_, c.bs j, h.bs j hj⟩, fun j hj => ⟨_, c.cc j, h.cc j hj⟩, fun j hj => ⟨_, c.cs j, h.cs j hj⟩⟩
theorem ctsS_cb {g : Nat → Nat} {n s2 : Nat} : ∀ f κ s, CB κ → (ctsS g n f κ s).2 = .inl s2 → CB (ctsS g n f κ s).1
  | 0, κ, s, h, _ => h
  | f + 1, κ, s, h, e => by
    by_cases hs : s < n
    · cases e2 : (clsS g n κ s).2 with
      | inl s3 =>
        rw [ctsS_go hs e2] at e ⊢
        exact ctsS_cb f _ _ (clsS_ok h e2).1 e
      | inr q =>
        rw [ctsS_bad hs e2] at e
        exact inr_ne e
    · rw [ctsS_end (Nat.le_of_not_lt hs)]
      exact h
/-- a text was read and not taken: the tape is empty, and the fault's place is known -/
def STT.txt (S : STT) (v : Int32) : STT := STT.mk S.κ S.l S.η 0 S.tp S.rf S.bt S.br v S.w S.ps S.im S.iw S.ip S.r0 S.r1
theorem SB.txt {S : STT} (h : SB S) (v : Int32) : SB (S.txt v) := ⟨h.cb, h.hb, h.wm, h.lb, Nat.zero_le _, h.tp, h.rf, h.bt, h.br, h.w, h.ps, h.im, h.iw, h.ip, h.m4, h.pm, h.qm⟩
/-- what a text is read into -/
def tsc (o : Nat) : Bool := o == 1 || (Nat.ble 25 o && Nat.ble o 45) || (Nat.ble 53 o && Nat.ble o 59) || (Nat.ble 61 o && Nat.ble o 70)
theorem CIn.txt {S : STT} {I I' : Nat → Nat → Int32} {v : Int32} (h : CIn S I) (f : ∀ o, tsc o = false → I' o = I o) (e1 : I' 1 1 = nI 0) (e8 : I' 1 8 = v) (sk : SK I') : CIn (S.txt v) I' :=
  ⟨h.hc.fr (fun x p q => f x ((by decide +kernel : ∀ o, o < 25 → 4 ≤ o → tsc o = false) x (by omega) p)), h.hh.fr (fun x p q => f x ((by decide +kernel : ∀ o, o < 82 → 71 ≤ o → tsc o = false) x (by omega) p)), h.hl.fr (f _ rfl) (f _ rfl), e1, e8, by rw [f 3 rfl]; exact h.tp, by rw [f 0 rfl]; exact h.rf, by rw [f 0 rfl]; exact h.r0, by rw [f 0 rfl]; exact h.r1, by rw [f 60 rfl]; exact h.bt, by rw [f 60 rfl]; exact h.br, by rw [f 82 rfl]; exact h.w, by rw [f 82 rfl]; exact h.im,
   fun k hk => by have := h.ps k hk; unfold CS at this ⊢; rw [f 84 rfl]; exact this, by rw [f 88 rfl]; exact h.iw, fun i k hi hk => by have := h.ip i k hi hk; unfold CS at this ⊢; rw [f 86 rfl]; exact this, sk⟩
theorem tsc_1 {o : Nat} (h : tsc o = false) : o ≠ 1 ∧ (o < 25 ∨ 45 < o) ∧ (o < 53 ∨ 59 < o) ∧ (o < 61 ∨ 70 < o) := by
  refine ⟨fun e => ?_, Classical.byContradiction fun z => ?_, Classical.byContradiction fun z => ?_, Classical.byContradiction fun z => ?_⟩
  · subst e; exact absurd h (by decide)
  · exact absurd h (by rw [(by decide +kernel : ∀ o, o < 46 → 25 ≤ o → tsc o = true) o (by omega) (by omega)]; decide)
  · exact absurd h (by rw [(by decide +kernel : ∀ o, o < 60 → 53 ≤ o → tsc o = true) o (by omega) (by omega)]; decide)
  · exact absurd h (by rw [(by decide +kernel : ∀ o, o < 71 → 61 ≤ o → tsc o = true) o (by omega) (by omega)]; decide)
/-- a court begins anew -/
def STT.new (S : STT) (κ : CT) : STT := STT.mk κ l0 (ms κ l0 (beg κ S.η.wk) κ.nb) 0 S.tp 0 0 0 (zI (-1)) 0 S.ps 0 S.iw S.ip S.r0 S.r1
theorem SB.new {S : STT} {κ : CT} (h : SB S) (c : CB κ) : SB (S.new κ) :=
  ⟨c, (HB.beg c h.hb.wk).ms, ms_wm, l0_b, Nat.zero_le _, h.tp, Nat.zero_le _, Nat.two_pow_pos _, (show (0 : Nat) &&& 0 = 0 by decide), Nat.zero_le _, fun k hk => absurd hk (Nat.not_lt_zero k), Nat.zero_le _, fun i hi => absurd hi (Nat.not_lt_zero i), fun i k hi => absurd hi (Nat.not_lt_zero i), Nat.zero_le _, fun k hk => absurd hk (Nat.not_lt_zero k), fun i k hi => absurd hi (Nat.not_lt_zero i)⟩
theorem r_X10_court_0 : RW M_X10_court 0 (.aload_n 0) 1 0 0 1 := ⟨rfl, rfl⟩
theorem r_X10_court_1 : RW M_X10_court 1 (.iload_n 1) 1 0 0 2 := ⟨rfl, rfl⟩
theorem r_X10_court_2 : RW M_X10_court 2 (.sipush 600) 3 0 0 5 := ⟨rfl, rfl⟩
theorem r_X10_court_5 : RW M_X10_court 5 (.invokevirtual 95) 3 156 0 8 := ⟨rfl, rfl⟩
theorem r_X10_court_8 : RW M_X10_court 8 (.aload_n 0) 1 0 0 9 := ⟨rfl, rfl⟩
theorem r_X10_court_9 : RW M_X10_court 9 (.getfield 23) 3 10 2 12 := ⟨rfl, rfl⟩
theorem r_X10_court_12 : RW M_X10_court 12 (.aload_n 0) 1 0 0 13 := ⟨rfl, rfl⟩
theorem r_X10_court_13 : RW M_X10_court 13 (.getfield 10) 3 10 0 16 := ⟨rfl, rfl⟩
theorem r_X10_court_16 : RW M_X10_court 16 (.invokevirtual 99) 3 7 0 19 := ⟨rfl, rfl⟩
theorem r_X10_court_19 : RW M_X10_court 19 (.aload_n 0) 1 0 0 20 := ⟨rfl, rfl⟩
theorem r_X10_court_20 : RW M_X10_court 20 (.getfield 10) 3 10 0 23 := ⟨rfl, rfl⟩
theorem r_X10_court_23 : RW M_X10_court 23 (.getfield 103) 3 6 7 26 := ⟨rfl, rfl⟩
theorem r_X10_court_26 : RW M_X10_court 26 (.ifCond .eq 14) 3 40 0 29 := ⟨rfl, rfl⟩
theorem r_X10_court_29 : RW M_X10_court 29 (.aload_n 0) 1 0 0 30 := ⟨rfl, rfl⟩
theorem r_X10_court_30 : RW M_X10_court 30 (.getfield 10) 3 10 0 33 := ⟨rfl, rfl⟩
theorem r_X10_court_33 : RW M_X10_court 33 (.getfield 103) 3 6 7 36 := ⟨rfl, rfl⟩
theorem r_X10_court_36 : RW M_X10_court 36 (.bipush 10) 2 0 0 38 := ⟨rfl, rfl⟩
theorem r_X10_court_38 : RW M_X10_court 38 (.isub) 1 0 0 39 := ⟨rfl, rfl⟩
theorem r_X10_court_39 : RW M_X10_court 39 (.ireturn) 1 0 0 40 := ⟨rfl, rfl⟩
theorem r_X10_court_40 : RW M_X10_court 40 (.aload_n 0) 1 0 0 41 := ⟨rfl, rfl⟩
theorem r_X10_court_41 : RW M_X10_court 41 (.getfield 19) 3 10 1 44 := ⟨rfl, rfl⟩
theorem r_X10_court_44 : RW M_X10_court 44 (.aload_n 0) 1 0 0 45 := ⟨rfl, rfl⟩
theorem r_X10_court_45 : RW M_X10_court 45 (.getfield 23) 3 10 2 48 := ⟨rfl, rfl⟩
theorem r_X10_court_48 : RW M_X10_court 48 (.invokevirtual 106) 3 13 0 51 := ⟨rfl, rfl⟩
theorem r_X10_court_51 : RW M_X10_court 51 (.aload_n 0) 1 0 0 52 := ⟨rfl, rfl⟩
theorem r_X10_court_52 : RW M_X10_court 52 (.getfield 29) 3 10 3 55 := ⟨rfl, rfl⟩
theorem r_X10_court_55 : RW M_X10_court 55 (.invokevirtual 110) 3 48 0 58 := ⟨rfl, rfl⟩
theorem r_X10_court_58 : RW M_X10_court 58 (.aload_n 0) 1 0 0 59 := ⟨rfl, rfl⟩
theorem r_X10_court_59 : RW M_X10_court 59 (.getfield 39) 3 10 5 62 := ⟨rfl, rfl⟩
theorem r_X10_court_62 : RW M_X10_court 62 (.invokevirtual 113) 3 1 0 65 := ⟨rfl, rfl⟩
theorem r_X10_court_65 : RW M_X10_court 65 (.aload_n 0) 1 0 0 66 := ⟨rfl, rfl⟩
theorem r_X10_court_66 : RW M_X10_court 66 (.getfield 65) 3 10 9 69 := ⟨rfl, rfl⟩
theorem r_X10_court_69 : RW M_X10_court 69 (.invokevirtual 114) 3 60 0 72 := ⟨rfl, rfl⟩
theorem r_X10_court_72 : RW M_X10_court 72 (.aload_n 0) 1 0 0 73 := ⟨rfl, rfl⟩
theorem r_X10_court_73 : RW M_X10_court 73 (.iconst 0) 1 0 0 74 := ⟨rfl, rfl⟩
theorem r_X10_court_74 : RW M_X10_court 74 (.putfield 115) 3 10 12 77 := ⟨rfl, rfl⟩
theorem r_X10_court_77 : RW M_X10_court 77 (.aload_n 0) 1 0 0 78 := ⟨rfl, rfl⟩
theorem r_X10_court_78 : RW M_X10_court 78 (.getfield 58) 3 10 8 81 := ⟨rfl, rfl⟩
theorem r_X10_court_81 : RW M_X10_court 81 (.invokevirtual 118) 3 24 0 84 := ⟨rfl, rfl⟩
theorem r_X10_court_84 : RW M_X10_court 84 (.aload_n 0) 1 0 0 85 := ⟨rfl, rfl⟩
theorem r_X10_court_85 : RW M_X10_court 85 (.getfield 19) 3 10 1 88 := ⟨rfl, rfl⟩
theorem r_X10_court_88 : RW M_X10_court 88 (.getfield 121) 3 1 10 91 := ⟨rfl, rfl⟩
theorem r_X10_court_91 : RW M_X10_court 91 (.ireturn) 1 0 0 92 := ⟨rfl, rfl⟩
theorem c_courtB {d : Nat} {I : Nat → Nat → Int32} {J : Nat → Nat → Int64} {S : STT} {n : Nat} {κ : CT} (sb : SB S) (h : CIn S I) (hk : HC 25 κ I) (cu : CU κ) (ht : n ≤ S.tl) {k f : Nat} (hz : (ctsS S.tp n 60 (zer κ) (scp isB S.tp n 0)).2 = .inr (k, f))  (hd : 11 ≤ d) : RI d 114 [.ref 0, .int (nI n)] I J (fun v I' => v = zI ((k : Int) - ((10 : Nat) : Int)) ∧ CIn (S.txt (nI f)) I' ∧ LOf I I') := by
  refine RI.in (d0 := 10) hd mt_114 (Nat.le_of_ble_eq_true rfl) (fun d' hd' => ?_)
  have tl6 := sb.tl
  show EV none M_X10_court d' 0 [(0, .ref 0), (1, .int (nI n))] [] (hp I J) _
  refine EV.l (lv' := [(0, _), (1, _)]) r_X10_court_0 rfl ?_
  refine EV.l (lv' := [(0, _), (1, _)]) r_X10_court_1 rfl ?_
  refine EV.o r_X10_court_2 (spN (600) 600) ?_
  refine EV.cu r_X10_court_5 (aV2 mt_156 la_0) (c_startText h.tp sb.tp h.tl sb.tl ht (by omega) (by omega) (by omega)) (fun I2 h2 => ?_)
  obtain ⟨rg2, ro2⟩ := h2
  refine EV.l (lv' := [(0, _), (1, _)]) r_X10_court_8 rfl ?_
  refine EV.gR r_X10_court_9 la_0 ?_
  refine EV.l (lv' := [(0, _), (1, _)]) r_X10_court_12 rfl ?_
  refine EV.gR r_X10_court_13 la_0 ?_
  refine EV.cu r_X10_court_16 (aV1 mt_7 la_25) (c_rCourt (tp_fr h.tp (ro2 3 (by decide))) sb.tp (by omega) rg2 (hk.ro ro2) cu (by omega)) (fun I3 h3 => ?_)
  obtain ⟨rd3, ⟨K, hk3, cu3, ek⟩, df3⟩ := h3
  rw [hz] at rd3
  have rb3 : RB n k f I3 := rd3
  have k1 := rb3.k1
  have k3 := rb3.k3
  refine EV.l (lv' := [(0, _), (1, _)]) r_X10_court_19 rfl ?_
  refine EV.gR r_X10_court_20 la_0 ?_
  refine EV.getV r_X10_court_23 la_1 ((show RB n k f I3 from rd3).fk) ?_
  refine EV.n0_eq r_X10_court_26 (fun h26 => ?_) (fun h26 => ?_)
  · omega
  · -- 26 f
    refine EV.l (lv' := [(0, _), (1, _)]) r_X10_court_29 rfl ?_
    refine EV.gR r_X10_court_30 la_0 ?_
    refine EV.getV r_X10_court_33 la_1 ((show RB n k f I3 from rd3).fk) ?_
    refine EV.o r_X10_court_36 (bpN (10) 10) ?_
    refine EV.o r_X10_court_38 (isubNZ) ?_
    exact EV.ri r_X10_court_39 (⟨rfl, h.txt (fun o ho => (df3 o (tsc_1 ho).1 (tsc_1 ho).2.1).trans (ro2 o (tsc_1 ho).1)) rb3.ln rb3.fp (SK.of hk3 cu3), fun o ho => (df3 o (by omega) (by omega)).trans (ro2 o (by omega))⟩)
theorem c_courtG {d : Nat} {I : Nat → Nat → Int32} {J : Nat → Nat → Int64} {S : STT} {n : Nat} {κ : CT} (sb : SB S) (h : CIn S I) (hk : HC 25 κ I) (cu : CU κ) (ht : n ≤ S.tl) {s2 : Nat} (hz : (ctsS S.tp n 60 (zer κ) (scp isB S.tp n 0)).2 = .inl s2)  (hd : 11 ≤ d) : RI d 114 [.ref 0, .int (nI n)] I J (fun v I' => v = nI (ctsS S.tp n 60 (zer κ) (scp isB S.tp n 0)).1.ns ∧ CIn (S.new (ctsS S.tp n 60 (zer κ) (scp isB S.tp n 0)).1) I' ∧ LOf I I') := by
  refine RI.in (d0 := 10) hd mt_114 (Nat.le_of_ble_eq_true rfl) (fun d' hd' => ?_)
  have tl6 := sb.tl
  show EV none M_X10_court d' 0 [(0, .ref 0), (1, .int (nI n))] [] (hp I J) _
  refine EV.l (lv' := [(0, _), (1, _)]) r_X10_court_0 rfl ?_
  refine EV.l (lv' := [(0, _), (1, _)]) r_X10_court_1 rfl ?_
  refine EV.o r_X10_court_2 (spN (600) 600) ?_
  refine EV.cu r_X10_court_5 (aV2 mt_156 la_0) (c_startText h.tp sb.tp h.tl sb.tl ht (by omega) (by omega) (by omega)) (fun I2 h2 => ?_)
  obtain ⟨rg2, ro2⟩ := h2
  refine EV.l (lv' := [(0, _), (1, _)]) r_X10_court_8 rfl ?_
  refine EV.gR r_X10_court_9 la_0 ?_
  refine EV.l (lv' := [(0, _), (1, _)]) r_X10_court_12 rfl ?_
  refine EV.gR r_X10_court_13 la_0 ?_
  refine EV.cu r_X10_court_16 (aV1 mt_7 la_25) (c_rCourt (tp_fr h.tp (ro2 3 (by decide))) sb.tp (by omega) rg2 (hk.ro ro2) cu (by omega)) (fun I3 h3 => ?_)
  obtain ⟨rd3, ⟨K, hk3, cu3, ek⟩, df3⟩ := h3
  rw [hz] at rd3
  have rg3 : RG S.tp n s2 I3 := rd3
  have ek2 := ek s2 hz
  have cbn := ctsS_cb (g := S.tp) (n := n) (s2 := s2) 60 (zer κ) (scp isB S.tp n 0) cu.zer hz
  rw [ek2] at hk3 cu3
  refine EV.l (lv' := [(0, _), (1, _)]) r_X10_court_19 rfl ?_
  refine EV.gR r_X10_court_20 la_0 ?_
  refine EV.getV r_X10_court_23 la_1 ((show RG S.tp n s2 I3 from rd3).fk) ?_
  refine EV.n0_eq r_X10_court_26 (fun h26 => ?_) (fun h26 => ?_)
  · -- 26 t
    refine EV.l (lv' := [(0, _), (1, _)]) r_X10_court_40 rfl ?_
    refine EV.gR r_X10_court_41 la_0 ?_
    refine EV.l (lv' := [(0, _), (1, _)]) r_X10_court_44 rfl ?_
    refine EV.gR r_X10_court_45 la_0 ?_
    refine EV.cu r_X10_court_48 (aV1 mt_13 la_4) (c_cbecome hk3 (by omega)) (fun I4 h4 => ?_)
    obtain ⟨hc4, g4⟩ := h4
    refine EV.l (lv' := [(0, _), (1, _)]) r_X10_court_51 rfl ?_
    refine EV.gR r_X10_court_52 la_0 ?_
    refine EV.cu r_X10_court_55 (aV0 mt_48 la_46) (c_lreset (by omega)) (fun I5 h5 => ?_)
    obtain ⟨hl5, g5⟩ := h5
    refine EV.l (lv' := [(0, _), (1, _)]) r_X10_court_58 rfl ?_
    refine EV.gR r_X10_court_59 la_0 ?_
    refine EV.cu r_X10_court_62 (aV0 mt_1 la_60) (c_breset la_60 (by omega)) (fun I6 h6 => ?_)
    obtain ⟨b61, b62, g6⟩ := h6
    have b6 := And.intro b61 b62
    refine EV.l (lv' := [(0, _), (1, _)]) r_X10_court_65 rfl ?_
    refine EV.gR r_X10_court_66 la_0 ?_
    refine EV.cu r_X10_court_69 (aV0 mt_60 la_82) (c_preset (by omega)) (fun I7 h7 => ?_)
    obtain ⟨p71, p72, g7⟩ := h7
    have p7 := And.intro p71 p72
    refine EV.l (lv' := [(0, _), (1, _)]) r_X10_court_72 rfl ?_
    refine EV.o r_X10_court_73 (icN (0) (v := 0)) ?_
    refine EV.pIn r_X10_court_74 la_0 (fun I8 e8 => ?_)
    refine EV.l (lv' := [(0, _), (1, _)]) r_X10_court_77 rfl ?_
    refine EV.gR r_X10_court_78 la_0 ?_
    refine EV.cu r_X10_court_81 (aV0 mt_24 la_71) (c_begin (κ := (ctsS S.tp n 60 (zer κ) (scp isB S.tp n 0)).1) (l := l0) (w := S.η.wk) (hc4.fr (fun x p q => (((congrFun e8 x).trans (wr_row (by omega))).trans ((g7 x (by omega)).trans ((g6 x (by omega)).trans (g5 x (by omega) (by omega))))))) cbn (fun j hj => (congrFun (((congrFun e8 79).trans (wr_row (by decide))).trans ((g7 79 (by decide)).trans ((g6 79 (by decide)).trans ((g5 79 (by decide) (by decide)).trans ((g4 79 (by decide)).trans ((df3 79 (by decide) (by decide)).trans (ro2 79 (by decide)))))))) j).trans (h.hh.wk j hj)) sb.hb.wk (hl5.fr (((congrFun e8 46).trans (wr_row (by decide))).trans ((g7 46 (by decide)).trans (g6 46 (by decide)))) (((congrFun e8 48).trans (wr_row (by decide))).trans ((g7 48 (by decide)).trans (g6 48 (by decide))))) l0_b (by omega)) (fun I9 h9 => ?_)
    obtain ⟨h9a, g9⟩ := h9
    refine EV.l (lv' := [(0, _), (1, _)]) r_X10_court_84 rfl ?_
    refine EV.gR r_X10_court_85 la_0 ?_
    refine EV.getV r_X10_court_88 la_4 ((congrFun ((g9 4 (by decide) (by decide) (by decide)).trans (((congrFun e8 4).trans (wr_row (by decide))).trans ((g7 4 (by decide)).trans ((g6 4 (by decide)).trans (g5 4 (by decide) (by decide)))))) 10).trans hc4.ns) ?_
    exact EV.ri r_X10_court_91 (⟨rfl, ⟨hc4.fr (fun x p q => ((g9 x (by omega) (by omega) (by omega)).trans (((congrFun e8 x).trans (wr_row (by omega))).trans ((g7 x (by omega)).trans ((g6 x (by omega)).trans (g5 x (by omega) (by omega))))))), h9a, hl5.fr ((g9 46 (by decide) (by decide) (by decide)).trans (((congrFun e8 46).trans (wr_row (by decide))).trans ((g7 46 (by decide)).trans (g6 46 (by decide))))) ((g9 48 (by decide) (by decide) (by decide)).trans (((congrFun e8 48).trans (wr_row (by decide))).trans ((g7 48 (by decide)).trans (g6 48 (by decide))))), (congrFun ((g9 1 (by decide) (by decide) (by decide)).trans (((congrFun e8 1).trans (wr_row (by decide))).trans ((g7 1 (by decide)).trans ((g6 1 (by decide)).trans ((g5 1 (by decide) (by decide)).trans (g4 1 (by decide))))))) 1).trans rg3.ln, (congrFun ((g9 1 (by decide) (by decide) (by decide)).trans (((congrFun e8 1).trans (wr_row (by decide))).trans ((g7 1 (by decide)).trans ((g6 1 (by decide)).trans ((g5 1 (by decide) (by decide)).trans (g4 1 (by decide))))))) 8).trans rg3.fp, tp_fr h.tp (((g9 3 (by decide) (by decide) (by decide)).trans (((congrFun e8 3).trans (wr_row (by decide))).trans ((g7 3 (by decide)).trans ((g6 3 (by decide)).trans ((g5 3 (by decide) (by decide)).trans (g4 3 (by decide))))))).trans ((df3 3 (by decide) (by decide)).trans (ro2 3 (by decide)))), (congrFun (g9 0 (by decide) (by decide) (by decide)) 12).trans ((congrFun (congrFun e8 0) 12).trans wr_same), (congrFun (g9 0 (by decide) (by decide) (by decide)) 13).trans ((congrFun (congrFun e8 0) 13).trans ((wr_ne (Or.inr (by decide))).trans ((congrFun ((g7 0 (by decide)).trans ((g6 0 (by decide)).trans ((g5 0 (by decide) (by decide)).trans ((g4 0 (by decide)).trans ((df3 0 (by decide) (by decide)).trans (ro2 0 (by decide))))))) 13).trans h.r0))), (congrFun (g9 0 (by decide) (by decide) (by decide)) 14).trans ((congrFun (congrFun e8 0) 14).trans ((wr_ne (Or.inr (by decide))).trans ((congrFun ((g7 0 (by decide)).trans ((g6 0 (by decide)).trans ((g5 0 (by decide) (by decide)).trans ((g4 0 (by decide)).trans ((df3 0 (by decide) (by decide)).trans (ro2 0 (by decide))))))) 14).trans h.r1))), (congrFun ((g9 60 (by decide) (by decide) (by decide)).trans (((congrFun e8 60).trans (wr_row (by decide))).trans (g7 60 (by decide)))) 0).trans b6.1, (congrFun ((g9 60 (by decide) (by decide) (by decide)).trans (((congrFun e8 60).trans (wr_row (by decide))).trans (g7 60 (by decide)))) 1).trans b6.2, (congrFun ((g9 82 (by decide) (by decide) (by decide)).trans ((congrFun e8 82).trans (wr_row (by decide)))) 3).trans p7.1, (congrFun ((g9 82 (by decide) (by decide) (by decide)).trans ((congrFun e8 82).trans (wr_row (by decide)))) 4).trans p7.2, fun k hk => absurd hk (Nat.not_lt_zero k), fun i hi => absurd hi (Nat.not_lt_zero i), fun i k hi => absurd hi (Nat.not_lt_zero i), (SK.of hk3 cu3).fr (fun o p q => ((g9 o (by omega) (by omega) (by omega)).trans (((congrFun e8 o).trans (wr_row (by omega))).trans ((g7 o (by omega)).trans ((g6 o (by omega)).trans ((g5 o (by omega) (by omega)).trans (g4 o (by omega))))))))⟩, fun o ho => ((g9 o (by omega) (by omega) (by omega)).trans (((congrFun e8 o).trans (wr_row (by omega))).trans ((g7 o (by omega)).trans ((g6 o (by omega)).trans ((g5 o (by omega) (by omega)).trans ((g4 o (by omega)).trans ((df3 o (by omega) (by omega)).trans (ro2 o (by omega)))))))))⟩)
  · omega
theorem c_courtX {d : Nat} {I : Nat → Nat → Int32} {J : Nat → Nat → Int64} {S : STT} (sb : SB S) (h : CIn S I) {n : Int} (n1 : -2147483648 ≤ n) (n2 : n < 2147483648) (hx : ¬ (0 ≤ n ∧ n ≤ S.tl))  (hd : 9 ≤ d) : RX d 114 [.ref 0, .int (zI n)] I J 1 (fun I' => I' = ref1 I 14) := by
  refine RX.in (d0 := 8) hd mt_114 (Nat.le_of_ble_eq_true rfl) (fun d' hd' => ?_)
  have tl6 := sb.tl
  show EV none M_X10_court d' 0 [(0, .ref 0), (1, .int (zI n))] [] (hp I J) _
  refine EV.l (lv' := [(0, _), (1, _)]) r_X10_court_0 rfl ?_
  refine EV.l (lv' := [(0, _), (1, _)]) r_X10_court_1 rfl ?_
  refine EV.o r_X10_court_2 (spN (600) 600) ?_
  exact EV.cx r_X10_court_5 (aV2 mt_156 la_0) (c_startTextX n1 n2 h.tl sb.tl (by omega) (by omega) (by omega)) (fun _ h => h)
