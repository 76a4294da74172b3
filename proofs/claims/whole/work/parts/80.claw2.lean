/-! LAW: the class. -/
theorem LF.ts {I I' : Nat → Nat → Int32} (h : LF I I') {o : Nat} (ho : tsc o = false) : I' o = I o := h o (tsc_1 ho).1 (by have := (tsc_1 ho).2.2.1; omega) (by have := (tsc_1 ho).2.2.1; omega)
def lz_ : LW := LW.mk 0 (fun _ => 0) (fun _ => 0)
theorem lz_p : LWP lz_ 0 := ⟨fun k h => absurd (show k < 0 from h) (Nat.not_lt_zero k), fun k h => absurd (show k < 0 from h) (Nat.not_lt_zero k), fun k h => absurd (show k < 0 from h) (Nat.not_lt_zero k), fun k h => absurd (show k < 0 from h) (Nat.not_lt_zero k), rfl⟩
/-- a whole LAW, from its first piece on -/
def lawT (g : Nat → Nat) (n s : Nat) : LX := ((sums g n 6 (lz_, .inl s)).1, if mor n (sums g n 6 (lz_, .inl s)).2 = true then rfail 1 (sums g n 6 (lz_, .inl s)).2 else (sums g n 6 (lz_, .inl s)).2)
theorem lawT_end {g : Nat → Nat} {n s : Nat} (h : mor n (sums g n 6 (lz_, .inl s)).2 = false) : lawT g n s = sums g n 6 (lz_, .inl s) := by
  show (_, if mor n _ = true then _ else _) = _
  rw [h, if_neg (by decide)]
theorem lawT_mor {g : Nat → Nat} {n s : Nat} (h : mor n (sums g n 6 (lz_, .inl s)).2 = true) : lawT g n s = ((sums g n 6 (lz_, .inl s)).1, rfail 1 (sums g n 6 (lz_, .inl s)).2) := by
  show (_, if mor n _ = true then _ else _) = _
  rw [h, if_pos rfl]
theorem lawT_ok {g : Nat → Nat} {n s s2 : Nat} (hn : n ≤ 150) (hs : s ≤ n) (h : (lawT g n s).2 = .inl s2) : LB (lawT g n s).1 := by
  cases hm : mor n (sums g n 6 (lz_, .inl s)).2 with
  | true =>
    rw [lawT_mor hm] at h
    cases e : (sums g n 6 (lz_, .inl s)).2 with
    | inl s3 =>
      rw [e] at h
      exact inr_ne h
    | inr q =>
      rw [e] at h
      exact inr_ne h
  | false =>
    rw [lawT_end hm] at h ⊢
    have p := (PG.sums (g := g) (n := n) 6).2 lz_ s s2 hs h
    have w := p.2.2.2 0 lz_p
    have z : lz_.n = 0 := rfl
    have dl := dep_le (sums g n 6 (lz_, .inl s)).1 (sums g n 6 (lz_, .inl s)).1.n
    have de := w.de
    exact ⟨by omega, by omega, w.w, w.o0, w.o1, w.d2, by omega⟩
theorem mor_f {n s : Nat} {r : RST} (h : mor n r = false) (e : r = .inl s) : n ≤ s := by
  subst e
  have z : ¬ s < n := of_decide_eq_false h
  omega
/-- a LAW is taken -/
def STT.law (S : STT) (l : LW) : STT := STT.mk S.κ l (ms S.κ l S.η S.κ.nb) 0 S.tp S.rf S.bt S.br (zI (-1)) S.w S.ps S.im S.iw S.ip S.r0 S.r1
theorem SB.law {S : STT} {l : LW} (h : SB S) (c : LB l) : SB (S.law l) := ⟨h.cb, h.hb.ms, ms_wm, c, Nat.zero_le _, h.tp, h.rf, h.bt, h.br, h.w, h.ps, h.im, h.iw, h.ip, h.m4, h.pm, h.qm⟩
theorem HL.cpd {l : LW} {I I2 I3 : Nat → Nat → Int32} (h : HL 53 l I) (ln : l.n ≤ 150) (e2 : I2 = cpy I 48 0 55 0 l.n) (e3 : I3 = wr I2 46 3 (nI l.n)) : HL 46 l I3 := by
  refine ⟨by rw [e3]; exact wr_same, fun k hk => ?_⟩
  rw [e3, wr_row (by decide), e2]
  exact (show cpy I 48 0 55 0 l.n 48 k = _ from (cpy_at0 hk).trans ((congrArg (I 55) (Nat.zero_add k)).trans (h.pa k hk)))
theorem r_X10_law_0 : RW M_X10_law 0 (.aload_n 0) 1 0 0 1 := ⟨rfl, rfl⟩
theorem r_X10_law_1 : RW M_X10_law 1 (.iload_n 1) 1 0 0 2 := ⟨rfl, rfl⟩
theorem r_X10_law_2 : RW M_X10_law 2 (.sipush 150) 3 0 0 5 := ⟨rfl, rfl⟩
theorem r_X10_law_5 : RW M_X10_law 5 (.invokevirtual 95) 3 156 0 8 := ⟨rfl, rfl⟩
theorem r_X10_law_8 : RW M_X10_law 8 (.aload_n 0) 1 0 0 9 := ⟨rfl, rfl⟩
theorem r_X10_law_9 : RW M_X10_law 9 (.getfield 33) 3 10 4 12 := ⟨rfl, rfl⟩
theorem r_X10_law_12 : RW M_X10_law 12 (.aload_n 0) 1 0 0 13 := ⟨rfl, rfl⟩
theorem r_X10_law_13 : RW M_X10_law 13 (.getfield 10) 3 10 0 16 := ⟨rfl, rfl⟩
theorem r_X10_law_16 : RW M_X10_law 16 (.invokevirtual 124) 3 50 0 19 := ⟨rfl, rfl⟩
theorem r_X10_law_19 : RW M_X10_law 19 (.aload_n 0) 1 0 0 20 := ⟨rfl, rfl⟩
theorem r_X10_law_20 : RW M_X10_law 20 (.getfield 10) 3 10 0 23 := ⟨rfl, rfl⟩
theorem r_X10_law_23 : RW M_X10_law 23 (.getfield 103) 3 6 7 26 := ⟨rfl, rfl⟩
theorem r_X10_law_26 : RW M_X10_law 26 (.ifCond .eq 14) 3 40 0 29 := ⟨rfl, rfl⟩
theorem r_X10_law_29 : RW M_X10_law 29 (.aload_n 0) 1 0 0 30 := ⟨rfl, rfl⟩
theorem r_X10_law_30 : RW M_X10_law 30 (.getfield 10) 3 10 0 33 := ⟨rfl, rfl⟩
theorem r_X10_law_33 : RW M_X10_law 33 (.getfield 103) 3 6 7 36 := ⟨rfl, rfl⟩
theorem r_X10_law_36 : RW M_X10_law 36 (.bipush 10) 2 0 0 38 := ⟨rfl, rfl⟩
theorem r_X10_law_38 : RW M_X10_law 38 (.isub) 1 0 0 39 := ⟨rfl, rfl⟩
theorem r_X10_law_39 : RW M_X10_law 39 (.ireturn) 1 0 0 40 := ⟨rfl, rfl⟩
theorem r_X10_law_40 : RW M_X10_law 40 (.aload_n 0) 1 0 0 41 := ⟨rfl, rfl⟩
theorem r_X10_law_41 : RW M_X10_law 41 (.getfield 29) 3 10 3 44 := ⟨rfl, rfl⟩
theorem r_X10_law_44 : RW M_X10_law 44 (.aload_n 0) 1 0 0 45 := ⟨rfl, rfl⟩
theorem r_X10_law_45 : RW M_X10_law 45 (.getfield 33) 3 10 4 48 := ⟨rfl, rfl⟩
theorem r_X10_law_48 : RW M_X10_law 48 (.invokevirtual 125) 3 49 0 51 := ⟨rfl, rfl⟩
theorem r_X10_law_51 : RW M_X10_law 51 (.aload_n 0) 1 0 0 52 := ⟨rfl, rfl⟩
theorem r_X10_law_52 : RW M_X10_law 52 (.getfield 58) 3 10 8 55 := ⟨rfl, rfl⟩
theorem r_X10_law_55 : RW M_X10_law 55 (.invokevirtual 128) 3 28 0 58 := ⟨rfl, rfl⟩
theorem r_X10_law_58 : RW M_X10_law 58 (.iconst 1) 1 0 0 59 := ⟨rfl, rfl⟩
theorem r_X10_law_59 : RW M_X10_law 59 (.ireturn) 1 0 0 60 := ⟨rfl, rfl⟩
theorem r_X3_become_0 : RW M_X3_become 0 (.aload_n 0) 1 0 0 1 := ⟨rfl, rfl⟩
theorem r_X3_become_1 : RW M_X3_become 1 (.getfield 14) 3 3 0 4 := ⟨rfl, rfl⟩
theorem r_X3_become_4 : RW M_X3_become 4 (.iconst 0) 1 0 0 5 := ⟨rfl, rfl⟩
theorem r_X3_become_5 : RW M_X3_become 5 (.aload_n 1) 1 0 0 6 := ⟨rfl, rfl⟩
theorem r_X3_become_6 : RW M_X3_become 6 (.getfield 14) 3 3 0 9 := ⟨rfl, rfl⟩
theorem r_X3_become_9 : RW M_X3_become 9 (.iconst 0) 1 0 0 10 := ⟨rfl, rfl⟩
theorem r_X3_become_10 : RW M_X3_become 10 (.aload_n 1) 1 0 0 11 := ⟨rfl, rfl⟩
theorem r_X3_become_11 : RW M_X3_become 11 (.getfield 30) 3 3 3 14 := ⟨rfl, rfl⟩
theorem r_X3_become_14 : RW M_X3_become 14 (.invokevirtual 34) 3 94 0 17 := ⟨rfl, rfl⟩
theorem r_X3_become_17 : RW M_X3_become 17 (.aload_n 0) 1 0 0 18 := ⟨rfl, rfl⟩
theorem r_X3_become_18 : RW M_X3_become 18 (.aload_n 1) 1 0 0 19 := ⟨rfl, rfl⟩
theorem r_X3_become_19 : RW M_X3_become 19 (.getfield 30) 3 3 3 22 := ⟨rfl, rfl⟩
theorem r_X3_become_22 : RW M_X3_become 22 (.putfield 30) 3 3 3 25 := ⟨rfl, rfl⟩
theorem r_X3_become_25 : RW M_X3_become 25 (.return_) 1 0 0 26 := ⟨rfl, rfl⟩
theorem r_X3_readFrom_0 : RW M_X3_readFrom 0 (.aload_n 0) 1 0 0 1 := ⟨rfl, rfl⟩
theorem r_X3_readFrom_1 : RW M_X3_readFrom 1 (.iconst 0) 1 0 0 2 := ⟨rfl, rfl⟩
theorem r_X3_readFrom_2 : RW M_X3_readFrom 2 (.putfield 30) 3 3 3 5 := ⟨rfl, rfl⟩
theorem r_X3_readFrom_5 : RW M_X3_readFrom 5 (.aload_n 0) 1 0 0 6 := ⟨rfl, rfl⟩
theorem r_X3_readFrom_6 : RW M_X3_readFrom 6 (.aload_n 1) 1 0 0 7 := ⟨rfl, rfl⟩
theorem r_X3_readFrom_7 : RW M_X3_readFrom 7 (.iconst 0) 1 0 0 8 := ⟨rfl, rfl⟩
theorem r_X3_readFrom_8 : RW M_X3_readFrom 8 (.invokevirtual 38) 3 51 0 11 := ⟨rfl, rfl⟩
theorem r_X3_readFrom_11 : RW M_X3_readFrom 11 (.aload_n 1) 1 0 0 12 := ⟨rfl, rfl⟩
theorem r_X3_readFrom_12 : RW M_X3_readFrom 12 (.invokevirtual 42) 3 81 0 15 := ⟨rfl, rfl⟩
theorem r_X3_readFrom_15 : RW M_X3_readFrom 15 (.ifCond .eq 8) 3 23 0 18 := ⟨rfl, rfl⟩
theorem r_X3_readFrom_18 : RW M_X3_readFrom 18 (.aload_n 1) 1 0 0 19 := ⟨rfl, rfl⟩
theorem r_X3_readFrom_19 : RW M_X3_readFrom 19 (.iconst 1) 1 0 0 20 := ⟨rfl, rfl⟩
theorem r_X3_readFrom_20 : RW M_X3_readFrom 20 (.invokevirtual 48) 3 88 0 23 := ⟨rfl, rfl⟩
theorem r_X3_readFrom_23 : RW M_X3_readFrom 23 (.return_) 1 0 0 24 := ⟨rfl, rfl⟩
theorem c_lread {d : Nat} {I : Nat → Nat → Int32} {J : Nat → Nat → Int64} {g : Nat → Nat} {n s : Nat} (gb : ∀ j, g j < 256) (hn : n ≤ 150) (tp : ∀ j, j < 600 → I 3 j = nI (g j)) (rg : RG g n s I)  (hd : 35 ≤ d) : RU d 50 [.ref 53, .ref 1] I J (fun I' => LSc g n (lawT g n s) I' ∧ LF I I') := by
  refine RU.in (d0 := 34) hd mt_50 (Nat.le_of_ble_eq_true rfl) (fun d' hd' => ?_)
  show EV none M_X3_readFrom d' 0 [(0, .ref 53), (1, .ref 1)] [] (hp I J) _
  refine EV.l (lv' := [(0, _), (1, _)]) r_X3_readFrom_0 rfl ?_
  refine EV.o r_X3_readFrom_1 (icN (0) (v := 0)) ?_
  refine EV.pIn r_X3_readFrom_2 la_53 (fun I1 e1 => ?_)
  have lf1 : LF I I1 := fun o _ b _ => (congrFun e1 o).trans (wr_row b)
  have ls1 : LSc g n (lz_, .inl s) I1 := ⟨tp_fr tp (lf1 3 (by decide) (by decide) (by decide)), RD.fr (r := .inl s) rg ((congrFun e1 1).trans (wr_row (by decide))), fun s2 e => ⟨⟨(congrFun (congrFun e1 53) 3).trans wr_same, fun k hk => absurd hk (Nat.not_lt_zero k)⟩, Nat.zero_le _⟩⟩
  refine EV.l (lv' := [(0, _), (1, _)]) r_X3_readFrom_5 rfl ?_
  refine EV.l (lv' := [(0, _), (1, _)]) r_X3_readFrom_6 rfl ?_
  refine EV.o r_X3_readFrom_7 (icN (0) (v := 0)) ?_
  refine EV.cu r_X3_readFrom_8 (aV2 mt_51 la_53) (c_sums gb hn 6 0 rfl d' I1 J (lz_, .inl s) (by omega) ls1) (fun I2 h2 => ?_)
  refine EV.l (lv' := [(0, _), (1, _)]) r_X3_readFrom_11 rfl ?_
  refine EV.cv r_X3_readFrom_12 (aV0 mt_81 la_1) (c_more h2.1.2.1 (by omega)) ?_
  refine EV.b0_eq r_X3_readFrom_15 (fun h15 => ?_) (fun h15 => ?_)
  · -- 15 t
    exact EV.ru r_X3_readFrom_23 (by rw [lawT_end h15]; exact ⟨h2.1, lf1.tr h2.2⟩)
  · -- 15 f
    refine EV.l (lv' := [(0, _), (1, _)]) r_X3_readFrom_18 rfl ?_
    refine EV.o r_X3_readFrom_19 (icN (1) (v := 1)) ?_
    refine EV.cu r_X3_readFrom_20 (aV1 mt_88 la_1) (c_fail h2.1.2.1 (by decide) (by decide) (by omega)) (fun I3 h3 => ?_)
    exact EV.ru r_X3_readFrom_23 (by rw [lawT_mor h15]; exact ⟨h2.1.ro h3.1 h3.2 (fun s2 e => by cases ez : (sums g n 6 (lz_, .inl s)).2 with | inl s3 => (rw [ez] at e; exact inr_ne e) | inr q => (rw [ez] at e; exact inr_ne e)), (lf1.tr h2.2).tr h3.2.lf⟩)
theorem c_lbecome {d : Nat} {I : Nat → Nat → Int32} {J : Nat → Nat → Int64} {l : LW} (hl : HL 53 l I) (ln : l.n ≤ 150)  (hd : 4 ≤ d) : RU d 49 [.ref 46, .ref 53] I J (fun I' => HL 46 l I' ∧ ∀ o, o ≠ 46 → o ≠ 48 → I' o = I o) := by
  refine RU.in (d0 := 3) hd mt_49 (Nat.le_of_ble_eq_true rfl) (fun d' hd' => ?_)
  show EV none M_X3_become d' 0 [(0, .ref 46), (1, .ref 53)] [] (hp I J) _
  refine EV.l (lv' := [(0, _), (1, _)]) r_X3_become_0 rfl ?_
  refine EV.gR r_X3_become_1 la_46 ?_
  refine EV.o r_X3_become_4 (icN (0) (v := 0)) ?_
  refine EV.l (lv' := [(0, _), (1, _)]) r_X3_become_5 rfl ?_
  refine EV.gR r_X3_become_6 la_53 ?_
  refine EV.o r_X3_become_9 (icN (0) (v := 0)) ?_
  refine EV.l (lv' := [(0, _), (1, _)]) r_X3_become_10 rfl ?_
  refine EV.getV r_X3_become_11 la_53 (hl.n) ?_
  refine EV.cu r_X3_become_14 (aV4 mt_94 la_47) (c_copy la_47 la_48 (by decide) (by decide) la_54 la_55 (by decide) (by decide) (by decide) (by omega) (by omega) (by omega)) (fun I2 e2 => ?_)
  refine EV.l (lv' := [(0, _), (1, _)]) r_X3_become_17 rfl ?_
  refine EV.l (lv' := [(0, _), (1, _)]) r_X3_become_18 rfl ?_
  refine EV.getV r_X3_become_19 la_53 ((congrFun ((congrFun e2 53).trans (cpy_row (by decide))) 3).trans hl.n) ?_
  refine EV.pIn r_X3_become_22 la_46 (fun I3 e3 => ?_)
  exact EV.ru r_X3_become_25 (⟨hl.cpd ln e2 e3, fun o a b => ((congrFun e3 o).trans (wr_row a)).trans ((congrFun e2 o).trans (cpy_row b))⟩)
theorem c_lawB {d : Nat} {I : Nat → Nat → Int32} {J : Nat → Nat → Int64} {S : STT} {n : Nat} (sb : SB S) (h : CIn S I) (ht : n ≤ S.tl) (hn : n ≤ 150) {k f : Nat} (hz : (lawT S.tp n (scp isB S.tp n 0)).2 = .inr (k, f))  (hd : 37 ≤ d) : RI d 115 [.ref 0, .int (nI n)] I J (fun v I' => v = zI ((k : Int) - ((10 : Nat) : Int)) ∧ CIn (S.txt (nI f)) I' ∧ LOf I I') := by
  refine RI.in (d0 := 36) hd mt_115 (Nat.le_of_ble_eq_true rfl) (fun d' hd' => ?_)
  have tl6 := sb.tl
  show EV none M_X10_law d' 0 [(0, .ref 0), (1, .int (nI n))] [] (hp I J) _
  refine EV.l (lv' := [(0, _), (1, _)]) r_X10_law_0 rfl ?_
  refine EV.l (lv' := [(0, _), (1, _)]) r_X10_law_1 rfl ?_
  refine EV.o r_X10_law_2 (spN (150) 150) ?_
  refine EV.cu r_X10_law_5 (aV2 mt_156 la_0) (c_startText h.tp sb.tp h.tl sb.tl ht (by omega) (by omega) (by omega)) (fun I2 h2 => ?_)
  obtain ⟨rg2, ro2⟩ := h2
  refine EV.l (lv' := [(0, _), (1, _)]) r_X10_law_8 rfl ?_
  refine EV.gR r_X10_law_9 la_0 ?_
  refine EV.l (lv' := [(0, _), (1, _)]) r_X10_law_12 rfl ?_
  refine EV.gR r_X10_law_13 la_0 ?_
  refine EV.cu r_X10_law_16 (aV1 mt_50 la_53) (c_lread sb.tp hn (tp_fr h.tp (ro2 3 (by decide))) rg2 (by omega)) (fun I3 h3 => ?_)
  obtain ⟨ls3, lf3⟩ := h3
  have rd3 := ls3.2.1
  rw [hz] at rd3
  have rb3 : RB n k f I3 := rd3
  have k1 := rb3.k1
  have k3 := rb3.k3
  refine EV.l (lv' := [(0, _), (1, _)]) r_X10_law_19 rfl ?_
  refine EV.gR r_X10_law_20 la_0 ?_
  refine EV.getV r_X10_law_23 la_1 ((show RB n k f I3 from rd3).fk) ?_
  refine EV.n0_eq r_X10_law_26 (fun h26 => ?_) (fun h26 => ?_)
  · omega
  · -- 26 f
    refine EV.l (lv' := [(0, _), (1, _)]) r_X10_law_29 rfl ?_
    refine EV.gR r_X10_law_30 la_0 ?_
    refine EV.getV r_X10_law_33 la_1 ((show RB n k f I3 from rd3).fk) ?_
    refine EV.o r_X10_law_36 (bpN (10) 10) ?_
    refine EV.o r_X10_law_38 (isubNZ) ?_
    exact EV.ri r_X10_law_39 (⟨rfl, h.txt (fun o ho => (lf3.ts ho).trans (ro2 o (tsc_1 ho).1)) rb3.ln rb3.fp (h.sk.fr (fun o p q => (lf3 o (by omega) (by omega) (by omega)).trans (ro2 o (by omega)))), fun o ho => (lf3 o (by omega) (by omega) (by omega)).trans (ro2 o (by omega))⟩)
theorem c_lawG {d : Nat} {I : Nat → Nat → Int32} {J : Nat → Nat → Int64} {S : STT} {n : Nat} (sb : SB S) (h : CIn S I) (ht : n ≤ S.tl) (hn : n ≤ 150) {s2 : Nat} (hz : (lawT S.tp n (scp isB S.tp n 0)).2 = .inl s2)  (hd : 37 ≤ d) : RI d 115 [.ref 0, .int (nI n)] I J (fun v I' => v = nI 1 ∧ CIn (S.law (lawT S.tp n (scp isB S.tp n 0)).1) I' ∧ LOf I I') := by
  refine RI.in (d0 := 36) hd mt_115 (Nat.le_of_ble_eq_true rfl) (fun d' hd' => ?_)
  have tl6 := sb.tl
  show EV none M_X10_law d' 0 [(0, .ref 0), (1, .int (nI n))] [] (hp I J) _
  refine EV.l (lv' := [(0, _), (1, _)]) r_X10_law_0 rfl ?_
  refine EV.l (lv' := [(0, _), (1, _)]) r_X10_law_1 rfl ?_
  refine EV.o r_X10_law_2 (spN (150) 150) ?_
  refine EV.cu r_X10_law_5 (aV2 mt_156 la_0) (c_startText h.tp sb.tp h.tl sb.tl ht (by omega) (by omega) (by omega)) (fun I2 h2 => ?_)
  obtain ⟨rg2, ro2⟩ := h2
  refine EV.l (lv' := [(0, _), (1, _)]) r_X10_law_8 rfl ?_
  refine EV.gR r_X10_law_9 la_0 ?_
  refine EV.l (lv' := [(0, _), (1, _)]) r_X10_law_12 rfl ?_
  refine EV.gR r_X10_law_13 la_0 ?_
  refine EV.cu r_X10_law_16 (aV1 mt_50 la_53) (c_lread sb.tp hn (tp_fr h.tp (ro2 3 (by decide))) rg2 (by omega)) (fun I3 h3 => ?_)
  obtain ⟨ls3, lf3⟩ := h3
  have rd3 := ls3.2.1
  rw [hz] at rd3
  have rg3 : RG S.tp n s2 I3 := rd3
  have lx := ls3.2.2 s2 hz
  have lb := lawT_ok (g := S.tp) hn rg2.sn hz
  refine EV.l (lv' := [(0, _), (1, _)]) r_X10_law_19 rfl ?_
  refine EV.gR r_X10_law_20 la_0 ?_
  refine EV.getV r_X10_law_23 la_1 ((show RG S.tp n s2 I3 from rd3).fk) ?_
  refine EV.n0_eq r_X10_law_26 (fun h26 => ?_) (fun h26 => ?_)
  · -- 26 t
    refine EV.l (lv' := [(0, _), (1, _)]) r_X10_law_40 rfl ?_
    refine EV.gR r_X10_law_41 la_0 ?_
    refine EV.l (lv' := [(0, _), (1, _)]) r_X10_law_44 rfl ?_
    refine EV.gR r_X10_law_45 la_0 ?_
    refine EV.cu r_X10_law_48 (aV1 mt_49 la_46) (c_lbecome lx.1 lb.n (by omega)) (fun I4 h4 => ?_)
    obtain ⟨hl4, g4⟩ := h4
    refine EV.l (lv' := [(0, _), (1, _)]) r_X10_law_51 rfl ?_
    refine EV.gR r_X10_law_52 la_0 ?_
    refine EV.cu r_X10_law_55 (aV0 mt_28 la_71) (c71_measure (h.hc.fr (fun x p q => ((g4 x (by omega) (by omega)).trans ((lf3 x (by omega) (by omega) (by omega)).trans (ro2 x (by omega)))))) sb.cb (h.hh.fr (fun x p q => ((g4 x (by omega) (by omega)).trans ((lf3 x (by omega) (by omega) (by omega)).trans (ro2 x (by omega)))))) sb.hb hl4 lb (by omega)) (fun I5 h5 => ?_)
    obtain ⟨h5, g5⟩ := h5
    refine EV.o r_X10_law_58 (icN (1) (v := 1)) ?_
    exact EV.ri r_X10_law_59 (⟨rfl, ⟨h.hc.fr (fun x p q => ((g5 x (by omega) (by omega) (by omega)).trans ((g4 x (by omega) (by omega)).trans ((lf3 x (by omega) (by omega) (by omega)).trans (ro2 x (by omega)))))), h5, hl4.fr (g5 46 (by decide) (by decide) (by decide)) (g5 48 (by decide) (by decide) (by decide)), (congrFun ((g5 1 (by decide) (by decide) (by decide)).trans (g4 1 (by decide) (by decide))) 1).trans rg3.ln, (congrFun ((g5 1 (by decide) (by decide) (by decide)).trans (g4 1 (by decide) (by decide))) 8).trans rg3.fp, tp_fr h.tp ((g5 3 (by decide) (by decide) (by decide)).trans ((g4 3 (by decide) (by decide)).trans ((lf3 3 (by decide) (by decide) (by decide)).trans (ro2 3 (by decide))))), (congrFun ((g5 0 (by decide) (by decide) (by decide)).trans ((g4 0 (by decide) (by decide)).trans ((lf3 0 (by decide) (by decide) (by decide)).trans (ro2 0 (by decide))))) 12).trans h.rf, (congrFun ((g5 0 (by decide) (by decide) (by decide)).trans ((g4 0 (by decide) (by decide)).trans ((lf3 0 (by decide) (by decide) (by decide)).trans (ro2 0 (by decide))))) 13).trans h.r0, (congrFun ((g5 0 (by decide) (by decide) (by decide)).trans ((g4 0 (by decide) (by decide)).trans ((lf3 0 (by decide) (by decide) (by decide)).trans (ro2 0 (by decide))))) 14).trans h.r1, (congrFun ((g5 60 (by decide) (by decide) (by decide)).trans ((g4 60 (by decide) (by decide)).trans ((lf3 60 (by decide) (by decide) (by decide)).trans (ro2 60 (by decide))))) 0).trans h.bt, (congrFun ((g5 60 (by decide) (by decide) (by decide)).trans ((g4 60 (by decide) (by decide)).trans ((lf3 60 (by decide) (by decide) (by decide)).trans (ro2 60 (by decide))))) 1).trans h.br, (congrFun ((g5 82 (by decide) (by decide) (by decide)).trans ((g4 82 (by decide) (by decide)).trans ((lf3 82 (by decide) (by decide) (by decide)).trans (ro2 82 (by decide))))) 3).trans h.w, (congrFun ((g5 82 (by decide) (by decide) (by decide)).trans ((g4 82 (by decide) (by decide)).trans ((lf3 82 (by decide) (by decide) (by decide)).trans (ro2 82 (by decide))))) 4).trans h.im, fun k hk => by have z := h.ps k hk; unfold CS at z ⊢; rw [((g5 84 (by decide) (by decide) (by decide)).trans ((g4 84 (by decide) (by decide)).trans ((lf3 84 (by decide) (by decide) (by decide)).trans (ro2 84 (by decide)))))]; exact z, fun i hi => (congrFun ((g5 88 (by decide) (by decide) (by decide)).trans ((g4 88 (by decide) (by decide)).trans ((lf3 88 (by decide) (by decide) (by decide)).trans (ro2 88 (by decide))))) i).trans (h.iw i hi), fun i k hi hk => by have z := h.ip i k hi hk; unfold CS at z ⊢; rw [((g5 86 (by decide) (by decide) (by decide)).trans ((g4 86 (by decide) (by decide)).trans ((lf3 86 (by decide) (by decide) (by decide)).trans (ro2 86 (by decide)))))]; exact z, h.sk.fr (fun o p q => ((g5 o (by omega) (by omega) (by omega)).trans ((g4 o (by omega) (by omega)).trans ((lf3 o (by omega) (by omega) (by omega)).trans (ro2 o (by omega))))))⟩, fun o ho => ((g5 o (by omega) (by omega) (by omega)).trans ((g4 o (by omega) (by omega)).trans ((lf3 o (by omega) (by omega) (by omega)).trans (ro2 o (by omega)))))⟩)
  · omega
theorem c_lawX {d : Nat} {I : Nat → Nat → Int32} {J : Nat → Nat → Int64} {S : STT} (sb : SB S) (h : CIn S I) {n : Int} (n1 : -2147483648 ≤ n) (n2 : n < 2147483648) (hx : ¬ (0 ≤ n ∧ n ≤ S.tl ∧ n ≤ 150))  (hd : 9 ≤ d) : RX d 115 [.ref 0, .int (zI n)] I J 1 (fun I' => I' = ref1 I 14) := by
  refine RX.in (d0 := 8) hd mt_115 (Nat.le_of_ble_eq_true rfl) (fun d' hd' => ?_)
  have tl6 := sb.tl
  show EV none M_X10_law d' 0 [(0, .ref 0), (1, .int (zI n))] [] (hp I J) _
  refine EV.l (lv' := [(0, _), (1, _)]) r_X10_law_0 rfl ?_
  refine EV.l (lv' := [(0, _), (1, _)]) r_X10_law_1 rfl ?_
  refine EV.o r_X10_law_2 (spN (150) 150) ?_
  exact EV.cx r_X10_law_5 (aV2 mt_156 la_0) (c_startTextX n1 n2 h.tl sb.tl (by omega) (by omega) (by omega)) (fun _ h => h)
