/-! WORK: the class. -/
section GSR
variable {κ : CT} {l : LW} {P : PL}
theorem itn_ri {F : RSt → RSt} (hF : ∀ R, RI2 κ l R → RI2 κ l (F R)) : ∀ k R, RI2 κ l R → RI2 κ l (itn F k R)
  | 0, _, h => h
  | k + 1, R, h => itn_ri hF k (F R) (hF R h)
theorem gsL_ri {sub : Nat → Nat → RSt → RSt} {o f0 t : Nat} (hs : ∀ j, f0 ≤ j → j < t → P.k j = 5 → j < P.b j ∧ ∀ R, RI2 κ l R → RI2 κ l (sub (j + 1) (P.b j) R)) (bl : blk κ P o f0 t) : ∀ k f R, f0 ≤ f → RI2 κ l R → RI2 κ l (gsL sub κ l P k f t R)
  | 0, _, _, _, h => h
  | k + 1, f, R, hf, h => by
    by_cases z : f < t ∧ R.2.1 < 200
    · by_cases h5 : P.k f = 5
      · rw [gsL_agn z h5]
        have p := hs f hf z.1 h5
        exact gsL_ri hs bl k _ _ (by omega) (itn_ri p.2 _ _ (h.up z.2))
      · rw [gsL_one z h5]
        exact gsL_ri hs bl k _ _ (by omega) (h.on1 z.2 (blk_no bl hf z.1 h5))
    · rw [gsL_end z]
      exact h
theorem gs_ri : ∀ o f t R, blk κ P o f t → RI2 κ l R → RI2 κ l (gs κ l P o f t R)
  | 0, f, t, R, bl, h => gsL_ri (sub := fun _ _ R => R) (fun j h1 h2 h5 => absurd h5 (bas_5 (bl j h1 h2))) bl 150 f R (Nat.le_refl _) h
  | o + 1, f, t, R, bl, h => gsL_ri (sub := gs κ l P o) (fun j h1 h2 h5 => ⟨(blk_at bl h1 h2 h5).2.1, fun R hr => gs_ri o (j + 1) (P.b j) R (blk_at bl h1 h2 h5).2.2.2 hr⟩) bl 150 f R (Nat.le_refl _) h
end GSR
def wrkR (S : STT) (P : PL) : RSt := gs S.κ S.l P 6 0 P.m (S.η, (0, (0, 0)))
/-- WORK is done -/
def STT.wrk (S : STT) (P : PL) : STT := STT.mk S.κ S.l (wrkR S P).1 0 S.tp (wrkR S P).2.2.2 S.bt S.br (zI (-1)) (S.w + 1) (fun k => if k = S.w then S.η else S.ps k) S.im S.iw S.ip S.r0 S.r1
theorem SB.ri0 {S : STT} (h : SB S) : RI2 S.κ S.l (S.η, (0, (0, 0))) := ⟨⟨h.hb, h.wm, h.m4⟩, Nat.zero_le _, Nat.le_refl _⟩
theorem SB.wrk {S : STT} {P : PL} (h : SB S) (hw : S.w < 16) (bl : blk S.κ P 6 0 P.m) : SB (S.wrk P) := by
  have r : RI2 S.κ S.l (wrkR S P) := gs_ri 6 0 P.m _ bl h.ri0
  refine ⟨h.cb, r.1.1, r.1.2.1, h.lb, Nat.zero_le _, h.tp, ?_, h.bt, h.br, hw, fun k hk => ?_, h.im, h.iw, h.ip, r.1.2.2, fun k hk => ?_, h.qm⟩
  · show (wrkR S P).2.2.2 ≤ 200
    have a := r.2.1
    have b := r.2.2
    omega
  · have hk : k < S.w + 1 := hk
    show HB S.κ (if k = S.w then S.η else S.ps k)
    split
    · exact h.hb
    · exact h.ps k (by omega)
  · have hk : k < S.w + 1 := hk
    show (if k = S.w then S.η else S.ps k).mi ≤ 400
    split
    · exact h.m4
    · exact h.pm k (by omega)
theorem r_X10_work_0 : RW M_X10_work 0 (.aload_n 0) 1 0 0 1 := ⟨rfl, rfl⟩
theorem r_X10_work_1 : RW M_X10_work 1 (.iload_n 1) 1 0 0 2 := ⟨rfl, rfl⟩
theorem r_X10_work_2 : RW M_X10_work 2 (.sipush 150) 3 0 0 5 := ⟨rfl, rfl⟩
theorem r_X10_work_5 : RW M_X10_work 5 (.invokevirtual 95) 3 156 0 8 := ⟨rfl, rfl⟩
theorem r_X10_work_8 : RW M_X10_work 8 (.aload_n 0) 1 0 0 9 := ⟨rfl, rfl⟩
theorem r_X10_work_9 : RW M_X10_work 9 (.getfield 65) 3 10 9 12 := ⟨rfl, rfl⟩
theorem r_X10_work_12 : RW M_X10_work 12 (.getfield 131) 3 4 3 15 := ⟨rfl, rfl⟩
theorem r_X10_work_15 : RW M_X10_work 15 (.bipush 16) 2 0 0 17 := ⟨rfl, rfl⟩
theorem r_X10_work_17 : RW M_X10_work 17 (.if_icmp .lt 6) 3 23 0 20 := ⟨rfl, rfl⟩
theorem r_X10_work_20 : RW M_X10_work 20 (.bipush (-20)) 2 0 0 22 := ⟨rfl, rfl⟩
theorem r_X10_work_22 : RW M_X10_work 22 (.ireturn) 1 0 0 23 := ⟨rfl, rfl⟩
theorem r_X10_work_23 : RW M_X10_work 23 (.aload_n 0) 1 0 0 24 := ⟨rfl, rfl⟩
theorem r_X10_work_24 : RW M_X10_work 24 (.getfield 49) 3 10 7 27 := ⟨rfl, rfl⟩
theorem r_X10_work_27 : RW M_X10_work 27 (.aload_n 0) 1 0 0 28 := ⟨rfl, rfl⟩
theorem r_X10_work_28 : RW M_X10_work 28 (.getfield 10) 3 10 0 31 := ⟨rfl, rfl⟩
theorem r_X10_work_31 : RW M_X10_work 31 (.aload_n 0) 1 0 0 32 := ⟨rfl, rfl⟩
theorem r_X10_work_32 : RW M_X10_work 32 (.getfield 19) 3 10 1 35 := ⟨rfl, rfl⟩
theorem r_X10_work_35 : RW M_X10_work 35 (.invokevirtual 134) 3 66 0 38 := ⟨rfl, rfl⟩
theorem r_X10_work_38 : RW M_X10_work 38 (.aload_n 0) 1 0 0 39 := ⟨rfl, rfl⟩
theorem r_X10_work_39 : RW M_X10_work 39 (.getfield 10) 3 10 0 42 := ⟨rfl, rfl⟩
theorem r_X10_work_42 : RW M_X10_work 42 (.getfield 103) 3 6 7 45 := ⟨rfl, rfl⟩
theorem r_X10_work_45 : RW M_X10_work 45 (.ifCond .eq 14) 3 59 0 48 := ⟨rfl, rfl⟩
theorem r_X10_work_48 : RW M_X10_work 48 (.aload_n 0) 1 0 0 49 := ⟨rfl, rfl⟩
theorem r_X10_work_49 : RW M_X10_work 49 (.getfield 10) 3 10 0 52 := ⟨rfl, rfl⟩
theorem r_X10_work_52 : RW M_X10_work 52 (.getfield 103) 3 6 7 55 := ⟨rfl, rfl⟩
theorem r_X10_work_55 : RW M_X10_work 55 (.bipush 10) 2 0 0 57 := ⟨rfl, rfl⟩
theorem r_X10_work_57 : RW M_X10_work 57 (.isub) 1 0 0 58 := ⟨rfl, rfl⟩
theorem r_X10_work_58 : RW M_X10_work 58 (.ireturn) 1 0 0 59 := ⟨rfl, rfl⟩
theorem r_X10_work_59 : RW M_X10_work 59 (.aload_n 0) 1 0 0 60 := ⟨rfl, rfl⟩
theorem r_X10_work_60 : RW M_X10_work 60 (.getfield 65) 3 10 9 63 := ⟨rfl, rfl⟩
theorem r_X10_work_63 : RW M_X10_work 63 (.aload_n 0) 1 0 0 64 := ⟨rfl, rfl⟩
theorem r_X10_work_64 : RW M_X10_work 64 (.getfield 58) 3 10 8 67 := ⟨rfl, rfl⟩
theorem r_X10_work_67 : RW M_X10_work 67 (.invokevirtual 137) 3 61 0 70 := ⟨rfl, rfl⟩
theorem r_X10_work_70 : RW M_X10_work 70 (.aload_n 0) 1 0 0 71 := ⟨rfl, rfl⟩
theorem r_X10_work_71 : RW M_X10_work 71 (.getfield 49) 3 10 7 74 := ⟨rfl, rfl⟩
theorem r_X10_work_74 : RW M_X10_work 74 (.aload_n 0) 1 0 0 75 := ⟨rfl, rfl⟩
theorem r_X10_work_75 : RW M_X10_work 75 (.getfield 58) 3 10 8 78 := ⟨rfl, rfl⟩
theorem r_X10_work_78 : RW M_X10_work 78 (.iconst 0) 1 0 0 79 := ⟨rfl, rfl⟩
theorem r_X10_work_79 : RW M_X10_work 79 (.aload_n 0) 1 0 0 80 := ⟨rfl, rfl⟩
theorem r_X10_work_80 : RW M_X10_work 80 (.getfield 49) 3 10 7 83 := ⟨rfl, rfl⟩
theorem r_X10_work_83 : RW M_X10_work 83 (.getfield 141) 3 5 4 86 := ⟨rfl, rfl⟩
theorem r_X10_work_86 : RW M_X10_work 86 (.iconst 0) 1 0 0 87 := ⟨rfl, rfl⟩
theorem r_X10_work_87 : RW M_X10_work 87 (.invokevirtual 144) 3 72 0 90 := ⟨rfl, rfl⟩
theorem r_X10_work_90 : RW M_X10_work 90 (.aload_n 0) 1 0 0 91 := ⟨rfl, rfl⟩
theorem r_X10_work_91 : RW M_X10_work 91 (.aload_n 0) 1 0 0 92 := ⟨rfl, rfl⟩
theorem r_X10_work_92 : RW M_X10_work 92 (.getfield 49) 3 10 7 95 := ⟨rfl, rfl⟩
theorem r_X10_work_95 : RW M_X10_work 95 (.getfield 148) 3 5 7 98 := ⟨rfl, rfl⟩
theorem r_X10_work_98 : RW M_X10_work 98 (.putfield 115) 3 10 12 101 := ⟨rfl, rfl⟩
theorem r_X10_work_101 : RW M_X10_work 101 (.aload_n 0) 1 0 0 102 := ⟨rfl, rfl⟩
theorem r_X10_work_102 : RW M_X10_work 102 (.getfield 49) 3 10 7 105 := ⟨rfl, rfl⟩
theorem r_X10_work_105 : RW M_X10_work 105 (.getfield 151) 3 5 6 108 := ⟨rfl, rfl⟩
theorem r_X10_work_108 : RW M_X10_work 108 (.ireturn) 1 0 0 109 := ⟨rfl, rfl⟩
theorem c_workL {d : Nat} {I : Nat → Nat → Int32} {J : Nat → Nat → Int64} {S : STT} {n : Nat} (sb : SB S) (h : CIn S I) (ht : n ≤ S.tl) (hn : n ≤ 150) (hw : 16 ≤ S.w)  (hd : 9 ≤ d) : RI d 116 [.ref 0, .int (nI n)] I J (fun v I' => v = zI (-20) ∧ CIn (S.txt (zI (-1))) I' ∧ LOf I I') := by
  refine RI.in (d0 := 8) hd mt_116 (Nat.le_of_ble_eq_true rfl) (fun d' hd' => ?_)
  have tl6 := sb.tl
  have w16 := sb.w
  show EV none M_X10_work d' 0 [(0, .ref 0), (1, .int (nI n))] [] (hp I J) _
  refine EV.l (lv' := [(0, _), (1, _)]) r_X10_work_0 rfl ?_
  refine EV.l (lv' := [(0, _), (1, _)]) r_X10_work_1 rfl ?_
  refine EV.o r_X10_work_2 (spN (150) 150) ?_
  refine EV.cu r_X10_work_5 (aV2 mt_156 la_0) (c_startText h.tp sb.tp h.tl sb.tl ht (by omega) (by omega) (by omega)) (fun I2 h2 => ?_)
  obtain ⟨rg2, ro2⟩ := h2
  have kn2 : KN S.κ I2 := by unfold KN; rw [ro2 4 (by decide)]; exact ⟨h.hc.ns, h.hc.nb, h.hc.nc⟩
  refine EV.l (lv' := [(0, _), (1, _)]) r_X10_work_8 rfl ?_
  refine EV.gR r_X10_work_9 la_0 ?_
  refine EV.getV r_X10_work_12 la_82 (((congrFun (ro2 82 (by decide)) 3).trans h.w)) ?_
  refine EV.o r_X10_work_15 (bpN (16) 16) ?_
  refine EV.n2_lt r_X10_work_17 (fun h17 => ?_) (fun h17 => ?_)
  · omega
  · -- 17 f
    refine EV.o r_X10_work_20 (bpZ (-20)) ?_
    exact EV.ri r_X10_work_22 (⟨rfl, h.txt (fun o ho => ro2 o (tsc_1 ho).1) rg2.ln rg2.fp (h.sk.fr (fun o p q => ro2 o (by omega))), fun o ho => ro2 o (by omega)⟩)
theorem c_workB {d : Nat} {I : Nat → Nat → Int32} {J : Nat → Nat → Int64} {S : STT} {n : Nat} (sb : SB S) (h : CIn S I) (ht : n ≤ S.tl) (hn : n ≤ 150) (hw : S.w < 16) {k f : Nat} (hz : (wrkT S.tp n S.κ (scp isB S.tp n 0)).2 = .inr (k, f))  (hd : 24 ≤ d) : RI d 116 [.ref 0, .int (nI n)] I J (fun v I' => v = zI ((k : Int) - ((10 : Nat) : Int)) ∧ CIn (S.txt (nI f)) I' ∧ LOf I I') := by
  refine RI.in (d0 := 23) hd mt_116 (Nat.le_of_ble_eq_true rfl) (fun d' hd' => ?_)
  have tl6 := sb.tl
  have w16 := sb.w
  show EV none M_X10_work d' 0 [(0, .ref 0), (1, .int (nI n))] [] (hp I J) _
  refine EV.l (lv' := [(0, _), (1, _)]) r_X10_work_0 rfl ?_
  refine EV.l (lv' := [(0, _), (1, _)]) r_X10_work_1 rfl ?_
  refine EV.o r_X10_work_2 (spN (150) 150) ?_
  refine EV.cu r_X10_work_5 (aV2 mt_156 la_0) (c_startText h.tp sb.tp h.tl sb.tl ht (by omega) (by omega) (by omega)) (fun I2 h2 => ?_)
  obtain ⟨rg2, ro2⟩ := h2
  have kn2 : KN S.κ I2 := by unfold KN; rw [ro2 4 (by decide)]; exact ⟨h.hc.ns, h.hc.nb, h.hc.nc⟩
  refine EV.l (lv' := [(0, _), (1, _)]) r_X10_work_8 rfl ?_
  refine EV.gR r_X10_work_9 la_0 ?_
  refine EV.getV r_X10_work_12 la_82 (((congrFun (ro2 82 (by decide)) 3).trans h.w)) ?_
  refine EV.o r_X10_work_15 (bpN (16) 16) ?_
  refine EV.n2_lt r_X10_work_17 (fun h17 => ?_) (fun h17 => ?_)
  · -- 17 t
    refine EV.l (lv' := [(0, _), (1, _)]) r_X10_work_23 rfl ?_
    refine EV.gR r_X10_work_24 la_0 ?_
    refine EV.l (lv' := [(0, _), (1, _)]) r_X10_work_27 rfl ?_
    refine EV.gR r_X10_work_28 la_0 ?_
    refine EV.l (lv' := [(0, _), (1, _)]) r_X10_work_31 rfl ?_
    refine EV.gR r_X10_work_32 la_0 ?_
    refine EV.cu r_X10_work_35 (aV2 mt_66 la_62) (c_wread sb.tp hn sb.cb (tp_fr h.tp (ro2 3 (by decide))) rg2 kn2 (by omega)) (fun I3 h3 => ?_)
    obtain ⟨ls3, lf3, b5, b6, b7⟩ := h3
    have rd3 := ls3.2.1
    rw [hz] at rd3
    have rb3 : RB n k f I3 := rd3
    have k1 := rb3.k1
    have k3 := rb3.k3
    refine EV.l (lv' := [(0, _), (1, _)]) r_X10_work_38 rfl ?_
    refine EV.gR r_X10_work_39 la_0 ?_
    refine EV.getV r_X10_work_42 la_1 ((show RB n k f I3 from rd3).fk) ?_
    refine EV.n0_eq r_X10_work_45 (fun h45 => ?_) (fun h45 => ?_)
    · omega
    · -- 45 f
      refine EV.l (lv' := [(0, _), (1, _)]) r_X10_work_48 rfl ?_
      refine EV.gR r_X10_work_49 la_0 ?_
      refine EV.getV r_X10_work_52 la_1 ((show RB n k f I3 from rd3).fk) ?_
      refine EV.o r_X10_work_55 (bpN (10) 10) ?_
      refine EV.o r_X10_work_57 (isubNZ) ?_
      exact EV.ri r_X10_work_58 (⟨rfl, h.txt (fun o ho => (lf3 o (tsc_1 ho).1 (by have := (tsc_1 ho).2.2.2; omega)).trans (ro2 o (tsc_1 ho).1)) rb3.ln rb3.fp (h.sk.fr (fun o p q => (lf3 o (by omega) (by omega)).trans (ro2 o (by omega)))), fun o ho => (lf3 o (by omega) (by omega)).trans (ro2 o (by omega))⟩)
  · omega
theorem c_workG {d : Nat} {I : Nat → Nat → Int32} {J : Nat → Nat → Int64} {S : STT} {n : Nat} (sb : SB S) (h : CIn S I) (ht : n ≤ S.tl) (hn : n ≤ 150) (hw : S.w < 16) {s2 : Nat} (hz : (wrkT S.tp n S.κ (scp isB S.tp n 0)).2 = .inl s2)  (hd : 25 ≤ d) : RI d 116 [.ref 0, .int (nI n)] I J (fun v I' => v = nI (wrkR S (wrkT S.tp n S.κ (scp isB S.tp n 0)).1).2.2.1 ∧ CIn (S.wrk (wrkT S.tp n S.κ (scp isB S.tp n 0)).1) I' ∧ LOf I I') := by
  refine RI.in (d0 := 24) hd mt_116 (Nat.le_of_ble_eq_true rfl) (fun d' hd' => ?_)
  have tl6 := sb.tl
  have w16 := sb.w
  show EV none M_X10_work d' 0 [(0, .ref 0), (1, .int (nI n))] [] (hp I J) _
  refine EV.l (lv' := [(0, _), (1, _)]) r_X10_work_0 rfl ?_
  refine EV.l (lv' := [(0, _), (1, _)]) r_X10_work_1 rfl ?_
  refine EV.o r_X10_work_2 (spN (150) 150) ?_
  refine EV.cu r_X10_work_5 (aV2 mt_156 la_0) (c_startText h.tp sb.tp h.tl sb.tl ht (by omega) (by omega) (by omega)) (fun I2 h2 => ?_)
  obtain ⟨rg2, ro2⟩ := h2
  have kn2 : KN S.κ I2 := by unfold KN; rw [ro2 4 (by decide)]; exact ⟨h.hc.ns, h.hc.nb, h.hc.nc⟩
  refine EV.l (lv' := [(0, _), (1, _)]) r_X10_work_8 rfl ?_
  refine EV.gR r_X10_work_9 la_0 ?_
  refine EV.getV r_X10_work_12 la_82 (((congrFun (ro2 82 (by decide)) 3).trans h.w)) ?_
  refine EV.o r_X10_work_15 (bpN (16) 16) ?_
  refine EV.n2_lt r_X10_work_17 (fun h17 => ?_) (fun h17 => ?_)
  · -- 17 t
    refine EV.l (lv' := [(0, _), (1, _)]) r_X10_work_23 rfl ?_
    refine EV.gR r_X10_work_24 la_0 ?_
    refine EV.l (lv' := [(0, _), (1, _)]) r_X10_work_27 rfl ?_
    refine EV.gR r_X10_work_28 la_0 ?_
    refine EV.l (lv' := [(0, _), (1, _)]) r_X10_work_31 rfl ?_
    refine EV.gR r_X10_work_32 la_0 ?_
    refine EV.cu r_X10_work_35 (aV2 mt_66 la_62) (c_wread sb.tp hn sb.cb (tp_fr h.tp (ro2 3 (by decide))) rg2 kn2 (by omega)) (fun I3 h3 => ?_)
    obtain ⟨ls3, lf3, b5, b6, b7⟩ := h3
    have rd3 := ls3.2.1
    rw [hz] at rd3
    have rg3 : RG S.tp n s2 I3 := rd3
    have wk := wrkT_ok (g := S.tp) (κ := S.κ) (rg2.sn) hz
    have pc3 := (ls3.2.2.2 s2 hz).1
    have ci3h : HH 71 S.η I3 := h.hh.fr (fun x p q => (lf3 x (by omega) (by omega)).trans (ro2 x (by omega)))
    refine EV.l (lv' := [(0, _), (1, _)]) r_X10_work_38 rfl ?_
    refine EV.gR r_X10_work_39 la_0 ?_
    refine EV.getV r_X10_work_42 la_1 ((show RG S.tp n s2 I3 from rd3).fk) ?_
    refine EV.n0_eq r_X10_work_45 (fun h45 => ?_) (fun h45 => ?_)
    · -- 45 t
      refine EV.l (lv' := [(0, _), (1, _)]) r_X10_work_59 rfl ?_
      refine EV.gR r_X10_work_60 la_0 ?_
      refine EV.l (lv' := [(0, _), (1, _)]) r_X10_work_63 rfl ?_
      refine EV.gR r_X10_work_64 la_0 ?_
      refine EV.cu r_X10_work_67 (aV1 mt_61 la_82) (c_push ci3h (w := S.w) ((congrFun (lf3 82 (by decide) (by decide)) 3).trans ((congrFun (ro2 82 (by decide)) 3).trans h.w)) (by omega) (by omega)) (fun I4 h4 => ?_)
      obtain ⟨cs4, w4, o4, j4, k4⟩ := h4
      have rc4 : RC S.κ S.l (wrkT S.tp n S.κ (scp isB S.tp n 0)).1 (S.η, (0, (0, 0))) I4 := ⟨pc3.fr (congrFun (o4 62 (by decide) (by decide)) 4) (fun o a b => o4 o (by omega) (by omega)), h.hc.fr (fun x p q => ((o4 x (by omega) (by omega)).trans ((lf3 x (by omega) (by omega)).trans (ro2 x (by omega))))), h.hl.fr ((o4 46 (by decide) (by decide)).trans ((lf3 46 (by decide) (by omega)).trans (ro2 46 (by decide)))) ((o4 48 (by decide) (by decide)).trans ((lf3 48 (by decide) (by omega)).trans (ro2 48 (by decide)))), ci3h.fr (fun x p q => o4 x (by omega) (by omega)), (congrFun (o4 62 (by decide) (by decide)) 5).trans b5, (congrFun (o4 62 (by decide) (by decide)) 6).trans b6, (congrFun (o4 62 (by decide) (by decide)) 7).trans b7⟩
      refine EV.l (lv' := [(0, _), (1, _)]) r_X10_work_70 rfl ?_
      refine EV.gR r_X10_work_71 la_0 ?_
      refine EV.l (lv' := [(0, _), (1, _)]) r_X10_work_74 rfl ?_
      refine EV.gR r_X10_work_75 la_0 ?_
      refine EV.o r_X10_work_78 (icN (0) (v := 0)) ?_
      refine EV.l (lv' := [(0, _), (1, _)]) r_X10_work_79 rfl ?_
      refine EV.gR r_X10_work_80 la_0 ?_
      refine EV.getV r_X10_work_83 la_62 (((congrFun (o4 62 (by decide) (by decide)) 4).trans pc3.1)) ?_
      refine EV.o r_X10_work_86 (icN (0) (v := 0)) ?_
      refine EV.cu r_X10_work_87 (aV4 mt_72 la_62) (c_gs sb.cb sb.lb (by omega) 6 0 rfl d' I4 J 0 (wrkT S.tp n S.κ (scp isB S.tp n 0)).1.m (S.η, (0, (0, 0))) (by omega) (by omega) (Nat.le_refl _) wk.2.2 sb.ri0 rc4) (fun I5 h5 => ?_)
      obtain ⟨rc5, rf5, ri5⟩ := h5
      have h84 : I5 84 = I4 84 := rf5 84 (by decide) (by decide) (by decide) (by decide)
      refine EV.l (lv' := [(0, _), (1, _)]) r_X10_work_90 rfl ?_
      refine EV.l (lv' := [(0, _), (1, _)]) r_X10_work_91 rfl ?_
      refine EV.gR r_X10_work_92 la_0 ?_
      refine EV.getV r_X10_work_95 la_62 (rc5.2.2.2.2.2.2) ?_
      refine EV.pIn r_X10_work_98 la_0 (fun I6 e6 => ?_)
      have ps6 : ∀ k, k < S.w + 1 → CS 84 (23 * k) (if k = S.w then S.η else S.ps k) I6 := fun k hk => by
        have e84 : I6 84 = I4 84 := by rw [e6, wr_row (by decide)]; exact h84
        by_cases z : k = S.w
        · rw [if_pos z, z]
          exact cs4.ext (fun j _ => by rw [e84])
        · rw [if_neg z]
          refine (h.ps k (by omega)).ext (fun j hj => ?_)
          rw [e84, k4 _ (Or.inl (by omega)), lf3 84 (by decide) (by decide), ro2 84 (by decide)]
      refine EV.l (lv' := [(0, _), (1, _)]) r_X10_work_101 rfl ?_
      refine EV.gR r_X10_work_102 la_0 ?_
      refine EV.getV r_X10_work_105 la_62 (((congrFun (show I6 62 = I5 62 from by rw [e6]; exact wr_row (by decide)) 6).trans rc5.2.2.2.2.2.1)) ?_
      exact EV.ri r_X10_work_108 (⟨rfl, ⟨h.hc.fr (fun x p q => (((by rw [e6]; exact wr_row (by omega) : I6 x = I5 x)).trans ((rf5 x (by omega) (by omega) (by omega) (by omega)).trans ((o4 x (by omega) (by omega)).trans ((lf3 x (by omega) (by omega)).trans (ro2 x (by omega))))))), rc5.2.2.2.1.fr (fun x p q => (by rw [e6]; exact wr_row (by omega))), rc5.2.2.1.fr (by rw [e6]; exact wr_row (by decide)) (by rw [e6]; exact wr_row (by decide)), (congrFun (((by rw [e6]; exact wr_row (by decide) : I6 1 = I5 1)).trans ((rf5 1 (by decide) (by decide) (by decide) (by omega)).trans (o4 1 (by decide) (by decide)))) 1).trans rg3.ln, (congrFun (((by rw [e6]; exact wr_row (by decide) : I6 1 = I5 1)).trans ((rf5 1 (by decide) (by decide) (by decide) (by omega)).trans (o4 1 (by decide) (by decide)))) 8).trans rg3.fp, tp_fr h.tp (((by rw [e6]; exact wr_row (by decide) : I6 3 = I5 3)).trans ((rf5 3 (by decide) (by decide) (by decide) (by omega)).trans ((o4 3 (by decide) (by decide)).trans ((lf3 3 (by decide) (by omega)).trans (ro2 3 (by decide)))))), (by rw [e6]; exact wr_same), (by rw [e6, wr_ne (Or.inr (by decide))]; exact (congrFun ((rf5 0 (by decide) (by decide) (by decide) (by omega)).trans ((o4 0 (by decide) (by decide)).trans ((lf3 0 (by decide) (by omega)).trans (ro2 0 (by decide))))) 13).trans h.r0), (by rw [e6, wr_ne (Or.inr (by decide))]; exact (congrFun ((rf5 0 (by decide) (by decide) (by decide) (by omega)).trans ((o4 0 (by decide) (by decide)).trans ((lf3 0 (by decide) (by omega)).trans (ro2 0 (by decide))))) 14).trans h.r1), (congrFun (((by rw [e6]; exact wr_row (by decide) : I6 60 = I5 60)).trans ((rf5 60 (by decide) (by decide) (by decide) (by omega)).trans ((o4 60 (by decide) (by decide)).trans ((lf3 60 (by decide) (by omega)).trans (ro2 60 (by decide)))))) 0).trans h.bt, (congrFun (((by rw [e6]; exact wr_row (by decide) : I6 60 = I5 60)).trans ((rf5 60 (by decide) (by decide) (by decide) (by omega)).trans ((o4 60 (by decide) (by decide)).trans ((lf3 60 (by decide) (by omega)).trans (ro2 60 (by decide)))))) 1).trans h.br, (congrFun (((by rw [e6]; exact wr_row (by decide) : I6 82 = I5 82)).trans (rf5 82 (by decide) (by decide) (by decide) (by omega))) 3).trans w4, (congrFun (((by rw [e6]; exact wr_row (by decide) : I6 82 = I5 82)).trans (rf5 82 (by decide) (by decide) (by decide) (by omega))) 4).trans ((j4 4 (by decide)).trans ((congrFun ((lf3 82 (by decide) (by omega)).trans (ro2 82 (by decide))) 4).trans h.im)), fun k hk => ps6 k hk, fun i hi => (congrFun (((by rw [e6]; exact wr_row (by decide) : I6 88 = I5 88)).trans ((rf5 88 (by decide) (by decide) (by decide) (by omega)).trans ((o4 88 (by decide) (by decide)).trans ((lf3 88 (by decide) (by omega)).trans (ro2 88 (by decide)))))) i).trans (h.iw i hi), fun i k hi hk => by have z := h.ip i k hi hk; unfold CS at z ⊢; rw [(((by rw [e6]; exact wr_row (by decide) : I6 86 = I5 86)).trans ((rf5 86 (by decide) (by decide) (by decide) (by omega)).trans ((o4 86 (by decide) (by decide)).trans ((lf3 86 (by decide) (by omega)).trans (ro2 86 (by decide))))))]; exact z, h.sk.fr (fun o p q => (((by rw [e6]; exact wr_row (by omega) : I6 o = I5 o)).trans ((rf5 o (by omega) (by omega) (by omega) (by omega)).trans ((o4 o (by omega) (by omega)).trans ((lf3 o (by omega) (by omega)).trans (ro2 o (by omega)))))))⟩, fun o ho => (((by rw [e6]; exact wr_row (by omega) : I6 o = I5 o)).trans ((rf5 o (by omega) (by omega) (by omega) (by omega)).trans ((o4 o (by omega) (by omega)).trans ((lf3 o (by omega) (by omega)).trans (ro2 o (by omega))))))⟩)
    · omega
  · omega
theorem c_workX {d : Nat} {I : Nat → Nat → Int32} {J : Nat → Nat → Int64} {S : STT} (sb : SB S) (h : CIn S I) {n : Int} (n1 : -2147483648 ≤ n) (n2 : n < 2147483648) (hx : ¬ (0 ≤ n ∧ n ≤ S.tl ∧ n ≤ 150))  (hd : 9 ≤ d) : RX d 116 [.ref 0, .int (zI n)] I J 1 (fun I' => I' = ref1 I 14) := by
  refine RX.in (d0 := 8) hd mt_116 (Nat.le_of_ble_eq_true rfl) (fun d' hd' => ?_)
  have tl6 := sb.tl
  show EV none M_X10_work d' 0 [(0, .ref 0), (1, .int (zI n))] [] (hp I J) _
  refine EV.l (lv' := [(0, _), (1, _)]) r_X10_work_0 rfl ?_
  refine EV.l (lv' := [(0, _), (1, _)]) r_X10_work_1 rfl ?_
  refine EV.o r_X10_work_2 (spN (150) 150) ?_
  exact EV.cx r_X10_work_5 (aV2 mt_156 la_0) (c_startTextX n1 n2 h.tl sb.tl (by omega) (by omega) (by omega)) (fun _ h => h)
