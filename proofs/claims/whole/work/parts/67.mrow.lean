/-! The model's clauses: which; begins, result. -/
def tSay : List Nat := [115, 97, 121]
def tSo : List Nat := [115, 111]
def tBird : List Nat := [98, 105, 114, 100]
def tCoun : List Nat := [99, 111, 117, 110, 115, 101, 108]
theorem lSay : ltr tSay := by unfold ltr; decide
theorem lSo : ltr tSo := by unfold ltr; decide
theorem lBird : ltr tBird := by unfold ltr; decide
theorem lCoun : ltr tCoun := by unfold ltr; decide
theorem tx_1 : TXS[1]? = some tSay := by decide
theorem tx_2 : TXS[2]? = some tSo := by decide
theorem tx_3 : TXS[3]? = some tBird := by decide
theorem tx_4 : TXS[4]? = some tCoun := by decide
theorem tx_20 : TXS[20]? = some tCoun := by decide
theorem tx_21 : TXS[21]? = some tSay := by decide
theorem tx_22 : TXS[22]? = some tSo := by decide
theorem tx_23 : TXS[23]? = some tBird := by decide
def rwo (w : Nat) (b : Bool) : Int := if b = true then 4 else if w = ofw tSay then 1 else if w = ofw tSo then 2 else if w = ofw tBird then 3 else -1
theorem of_b1 : ofw tSay < 2147483648 := by decide
theorem of_b2 : ofw tSo < 2147483648 := by decide
theorem of_b3 : ofw tBird < 2147483648 := by decide
theorem MG.w8 {g : Nat → Nat} {n s : Nat} {I : Nat → Nat → Int32} {v : Int32} (h : MG g n s I) : MG g n s (wr I 106 8 v) := by
  obtain ⟨a, pa, pe, ps⟩ := h.pl
  exact ⟨h.sn, (wr_ne (Or.inr (by decide))).trans h.en, (wr_ne (Or.inr (by decide))).trans h.ln, (wr_ne (Or.inr (by decide))).trans h.fo, ⟨a, pa, (wr_ne (Or.inr (by decide))).trans pe, ps⟩⟩
theorem MB.w8 {n k f : Nat} {I : Nat → Nat → Int32} {v : Int32} (h : MB n k f I) : MB n k f (wr I 106 8 v) := ⟨h.k1, h.k3, h.fn, (wr_ne (Or.inr (by decide))).trans h.en, (wr_ne (Or.inr (by decide))).trans h.ln, (wr_ne (Or.inr (by decide))).trans h.fo, (wr_ne (Or.inr (by decide))).trans h.fk⟩
theorem r_X11_begins_0 : RW M_X11_begins 0 (.aload_n 0) 1 0 0 1 := ⟨rfl, rfl⟩
theorem r_X11_begins_1 : RW M_X11_begins 1 (.iconst 0) 1 0 0 2 := ⟨rfl, rfl⟩
theorem r_X11_begins_2 : RW M_X11_begins 2 (.putfield 108) 3 11 2 5 := ⟨rfl, rfl⟩
theorem r_X11_begins_5 : RW M_X11_begins 5 (.aload_n 0) 1 0 0 6 := ⟨rfl, rfl⟩
theorem r_X11_begins_6 : RW M_X11_begins 6 (.iconst (-1)) 1 0 0 7 := ⟨rfl, rfl⟩
theorem r_X11_begins_7 : RW M_X11_begins 7 (.putfield 17) 3 11 8 10 := ⟨rfl, rfl⟩
theorem r_X11_begins_10 : RW M_X11_begins 10 (.aload_n 0) 1 0 0 11 := ⟨rfl, rfl⟩
theorem r_X11_begins_11 : RW M_X11_begins 11 (.iload_n 1) 1 0 0 12 := ⟨rfl, rfl⟩
theorem r_X11_begins_12 : RW M_X11_begins 12 (.putfield 120) 3 11 3 15 := ⟨rfl, rfl⟩
theorem r_X11_begins_15 : RW M_X11_begins 15 (.aload_n 0) 1 0 0 16 := ⟨rfl, rfl⟩
theorem r_X11_begins_16 : RW M_X11_begins 16 (.iconst 0) 1 0 0 17 := ⟨rfl, rfl⟩
theorem r_X11_begins_17 : RW M_X11_begins 17 (.putfield 117) 3 11 4 20 := ⟨rfl, rfl⟩
theorem r_X11_begins_20 : RW M_X11_begins 20 (.aload_n 0) 1 0 0 21 := ⟨rfl, rfl⟩
theorem r_X11_begins_21 : RW M_X11_begins 21 (.iconst (-1)) 1 0 0 22 := ⟨rfl, rfl⟩
theorem r_X11_begins_22 : RW M_X11_begins 22 (.putfield 111) 3 11 5 25 := ⟨rfl, rfl⟩
theorem r_X11_begins_25 : RW M_X11_begins 25 (.aload_n 0) 1 0 0 26 := ⟨rfl, rfl⟩
theorem r_X11_begins_26 : RW M_X11_begins 26 (.iconst 0) 1 0 0 27 := ⟨rfl, rfl⟩
theorem r_X11_begins_27 : RW M_X11_begins 27 (.putfield 151) 3 11 7 30 := ⟨rfl, rfl⟩
theorem r_X11_begins_30 : RW M_X11_begins 30 (.return_) 1 0 0 31 := ⟨rfl, rfl⟩
theorem r_X11_result_0 : RW M_X11_result 0 (.aload_n 0) 1 0 0 1 := ⟨rfl, rfl⟩
theorem r_X11_result_1 : RW M_X11_result 1 (.aload_n 0) 1 0 0 2 := ⟨rfl, rfl⟩
theorem r_X11_result_2 : RW M_X11_result 2 (.getfield 111) 3 11 5 5 := ⟨rfl, rfl⟩
theorem r_X11_result_5 : RW M_X11_result 5 (.putfield 17) 3 11 8 8 := ⟨rfl, rfl⟩
theorem r_X11_result_8 : RW M_X11_result 8 (.aload_n 0) 1 0 0 9 := ⟨rfl, rfl⟩
theorem r_X11_result_9 : RW M_X11_result 9 (.invokevirtual 140) 3 173 0 12 := ⟨rfl, rfl⟩
theorem r_X11_result_12 : RW M_X11_result 12 (.ifCond .eq 7) 3 19 0 15 := ⟨rfl, rfl⟩
theorem r_X11_result_15 : RW M_X11_result 15 (.iload_n 1) 1 0 0 16 := ⟨rfl, rfl⟩
theorem r_X11_result_16 : RW M_X11_result 16 (.goto 10) 3 26 0 19 := ⟨rfl, rfl⟩
theorem r_X11_result_19 : RW M_X11_result 19 (.aload_n 0) 1 0 0 20 := ⟨rfl, rfl⟩
theorem r_X11_result_20 : RW M_X11_result 20 (.getfield 114) 3 11 6 23 := ⟨rfl, rfl⟩
theorem r_X11_result_23 : RW M_X11_result 23 (.bipush 10) 2 0 0 25 := ⟨rfl, rfl⟩
theorem r_X11_result_25 : RW M_X11_result 25 (.isub) 1 0 0 26 := ⟨rfl, rfl⟩
theorem r_X11_result_26 : RW M_X11_result 26 (.ireturn) 1 0 0 27 := ⟨rfl, rfl⟩
theorem r_X11_rowOf_0 : RW M_X11_rowOf 0 (.iload_n 1) 1 0 0 1 := ⟨rfl, rfl⟩
theorem r_X11_rowOf_1 : RW M_X11_rowOf 1 (.ifCond .eq 7) 3 8 0 4 := ⟨rfl, rfl⟩
theorem r_X11_rowOf_4 : RW M_X11_rowOf 4 (.iconst 4) 1 0 0 5 := ⟨rfl, rfl⟩
theorem r_X11_rowOf_5 : RW M_X11_rowOf 5 (.goto 43) 3 48 0 8 := ⟨rfl, rfl⟩
theorem r_X11_rowOf_8 : RW M_X11_rowOf 8 (.iload_n 0) 1 0 0 9 := ⟨rfl, rfl⟩
theorem r_X11_rowOf_9 : RW M_X11_rowOf 9 (.ldc 197) 2 21 1 11 := ⟨rfl, rfl⟩
theorem r_X11_rowOf_11 : RW M_X11_rowOf 11 (.invokestatic 199) 3 179 0 14 := ⟨rfl, rfl⟩
theorem r_X11_rowOf_14 : RW M_X11_rowOf 14 (.if_icmp .ne 7) 3 21 0 17 := ⟨rfl, rfl⟩
theorem r_X11_rowOf_17 : RW M_X11_rowOf 17 (.iconst 1) 1 0 0 18 := ⟨rfl, rfl⟩
theorem r_X11_rowOf_18 : RW M_X11_rowOf 18 (.goto 30) 3 48 0 21 := ⟨rfl, rfl⟩
theorem r_X11_rowOf_21 : RW M_X11_rowOf 21 (.iload_n 0) 1 0 0 22 := ⟨rfl, rfl⟩
theorem r_X11_rowOf_22 : RW M_X11_rowOf 22 (.ldc 203) 2 22 1 24 := ⟨rfl, rfl⟩
theorem r_X11_rowOf_24 : RW M_X11_rowOf 24 (.invokestatic 199) 3 179 0 27 := ⟨rfl, rfl⟩
theorem r_X11_rowOf_27 : RW M_X11_rowOf 27 (.if_icmp .ne 7) 3 34 0 30 := ⟨rfl, rfl⟩
theorem r_X11_rowOf_30 : RW M_X11_rowOf 30 (.iconst 2) 1 0 0 31 := ⟨rfl, rfl⟩
theorem r_X11_rowOf_31 : RW M_X11_rowOf 31 (.goto 17) 3 48 0 34 := ⟨rfl, rfl⟩
theorem r_X11_rowOf_34 : RW M_X11_rowOf 34 (.iload_n 0) 1 0 0 35 := ⟨rfl, rfl⟩
theorem r_X11_rowOf_35 : RW M_X11_rowOf 35 (.ldc 205) 2 23 1 37 := ⟨rfl, rfl⟩
theorem r_X11_rowOf_37 : RW M_X11_rowOf 37 (.invokestatic 199) 3 179 0 40 := ⟨rfl, rfl⟩
theorem r_X11_rowOf_40 : RW M_X11_rowOf 40 (.if_icmp .ne 7) 3 47 0 43 := ⟨rfl, rfl⟩
theorem r_X11_rowOf_43 : RW M_X11_rowOf 43 (.iconst 3) 1 0 0 44 := ⟨rfl, rfl⟩
theorem r_X11_rowOf_44 : RW M_X11_rowOf 44 (.goto 4) 3 48 0 47 := ⟨rfl, rfl⟩
theorem r_X11_rowOf_47 : RW M_X11_rowOf 47 (.iconst (-1)) 1 0 0 48 := ⟨rfl, rfl⟩
theorem r_X11_rowOf_48 : RW M_X11_rowOf 48 (.ireturn) 1 0 0 49 := ⟨rfl, rfl⟩
theorem m_rowOf {d : Nat} {I : Nat → Nat → Int32} {J : Nat → Nat → Int64} {w : Nat} {b : Bool} (hw : w < 2147483648) (hd : 2 ≤ d) : RV d 190 [.int (nI w), .int (bI b)] I J (zI (rwo w b)) := by
  refine RV.in (d0 := 1) hd mt_190 (Nat.le_of_ble_eq_true rfl) (fun d' hd' => ?_)
  have o1 := of_b1; have o2 := of_b2; have o3 := of_b3
  show EV none M_X11_rowOf d' 0 [(0, .int (nI w)), (1, .int (bI b))] [] (hp I J) _
  refine EV.l (lv' := [(0, _), (1, _)]) r_X11_rowOf_0 rfl ?_
  refine EV.b0_eq r_X11_rowOf_1 (fun h1 => ?_) (fun h1 => ?_)
  · -- 1 t
    refine EV.l (lv' := [(0, _), (1, _)]) r_X11_rowOf_8 rfl ?_
    refine EV.lcT r_X11_rowOf_9 rfl ?_
    refine EV.cv r_X11_rowOf_11 (aS1 mt_179) (m_of tx_21 (by decide) lSay (by decide) (by omega)) ?_
    refine EV.n2_ne r_X11_rowOf_14 (fun h14 => ?_) (fun h14 => ?_)
    · -- 14 t
      refine EV.l (lv' := [(0, _), (1, _)]) r_X11_rowOf_21 rfl ?_
      refine EV.lcT r_X11_rowOf_22 rfl ?_
      refine EV.cv r_X11_rowOf_24 (aS1 mt_179) (m_of tx_22 (by decide) lSo (by decide) (by omega)) ?_
      refine EV.n2_ne r_X11_rowOf_27 (fun h27 => ?_) (fun h27 => ?_)
      · -- 27 t
        refine EV.l (lv' := [(0, _), (1, _)]) r_X11_rowOf_34 rfl ?_
        refine EV.lcT r_X11_rowOf_35 rfl ?_
        refine EV.cv r_X11_rowOf_37 (aS1 mt_179) (m_of tx_23 (by decide) lBird (by decide) (by omega)) ?_
        refine EV.n2_ne r_X11_rowOf_40 (fun h40 => ?_) (fun h40 => ?_)
        · -- 40 t
          refine EV.o r_X11_rowOf_47 (icZ (-1)) ?_
          exact EV.rv r_X11_rowOf_48 (by unfold rwo; (repeat' split) <;> first | rfl | contradiction | (exfalso; simp_all))
        · -- 40 f
          refine EV.o r_X11_rowOf_43 (icN (3) (v := 3)) ?_
          refine EV.g r_X11_rowOf_44 ?_
          exact EV.rv r_X11_rowOf_48 (by unfold rwo; (repeat' split) <;> first | rfl | contradiction | (exfalso; simp_all))
      · -- 27 f
        refine EV.o r_X11_rowOf_30 (icN (2) (v := 2)) ?_
        refine EV.g r_X11_rowOf_31 ?_
        exact EV.rv r_X11_rowOf_48 (by unfold rwo; (repeat' split) <;> first | rfl | contradiction | (exfalso; simp_all))
    · -- 14 f
      refine EV.o r_X11_rowOf_17 (icN (1) (v := 1)) ?_
      refine EV.g r_X11_rowOf_18 ?_
      exact EV.rv r_X11_rowOf_48 (by unfold rwo; (repeat' split) <;> first | rfl | contradiction | (exfalso; simp_all))
  · -- 1 f
    refine EV.o r_X11_rowOf_4 (icN (4) (v := 4)) ?_
    refine EV.g r_X11_rowOf_5 ?_
    exact EV.rv r_X11_rowOf_48 (by unfold rwo; (repeat' split) <;> first | rfl | contradiction | (exfalso; simp_all))
theorem m_begins {d : Nat} {I : Nat → Nat → Int32} {J : Nat → Nat → Int64} {g : Nat → Nat} {n : Nat}  (hd : 1 ≤ d) : RU d 184 [.ref 106, .int (nI n)] I J (fun I' => MG g n (scp isB g n 0) I' ∧ I' 106 7 = nI 0 ∧ I' 106 8 = zI (-1) ∧ (∀ o, o ≠ 106 → I' o = I o) ∧ ∀ j, j ≠ 2 → j ≠ 3 → j ≠ 4 → j ≠ 5 → j ≠ 7 → j ≠ 8 → I' 106 j = I 106 j) := by
  refine RU.in (d0 := 0) hd mt_184 (Nat.le_of_ble_eq_true rfl) (fun d' hd' => ?_)
  show EV none M_X11_begins d' 0 [(0, .ref 106), (1, .int (nI n))] [] (hp I J) _
  refine EV.l (lv' := [(0, _), (1, _)]) r_X11_begins_0 rfl ?_
  refine EV.o r_X11_begins_1 (icN (0) (v := 0)) ?_
  refine EV.pI r_X11_begins_2 la_106 ?_
  refine EV.l (lv' := [(0, _), (1, _)]) r_X11_begins_5 rfl ?_
  refine EV.o r_X11_begins_6 (icZ (-1)) ?_
  refine EV.pI r_X11_begins_7 la_106 ?_
  refine EV.l (lv' := [(0, _), (1, _)]) r_X11_begins_10 rfl ?_
  refine EV.l (lv' := [(0, _), (1, _)]) r_X11_begins_11 rfl ?_
  refine EV.pI r_X11_begins_12 la_106 ?_
  refine EV.l (lv' := [(0, _), (1, _)]) r_X11_begins_15 rfl ?_
  refine EV.o r_X11_begins_16 (icN (0) (v := 0)) ?_
  refine EV.pI r_X11_begins_17 la_106 ?_
  refine EV.l (lv' := [(0, _), (1, _)]) r_X11_begins_20 rfl ?_
  refine EV.o r_X11_begins_21 (icZ (-1)) ?_
  refine EV.pI r_X11_begins_22 la_106 ?_
  refine EV.l (lv' := [(0, _), (1, _)]) r_X11_begins_25 rfl ?_
  refine EV.o r_X11_begins_26 (icN (0) (v := 0)) ?_
  refine EV.pI r_X11_begins_27 la_106 ?_
  exact EV.ru r_X11_begins_30 (⟨⟨scp_le (Nat.zero_le _), rfl, rfl, rfl, ⟨0, Nat.zero_le _, rfl, rfl⟩⟩, rfl, rfl, fun o ho => by simp only [wr_row ho], fun j a2 a3 a4 a5 a7 a8 => by simp only [wr_ne (Or.inr a2), wr_ne (Or.inr a3), wr_ne (Or.inr a4), wr_ne (Or.inr a5), wr_ne (Or.inr a7), wr_ne (Or.inr a8)]⟩)
theorem m_resG {d : Nat} {I : Nat → Nat → Int32} {J : Nat → Nat → Int64} {g : Nat → Nat} {n s : Nat} (mg : MG g n s I) {x : Int32} (hd : 2 ≤ d) : RI d 185 [.ref 106, .int x] I J (fun v I' => v = x ∧ I' = wr I 106 8 (zI (-1))) := by
  refine RI.in (d0 := 1) hd mt_185 (Nat.le_of_ble_eq_true rfl) (fun d' hd' => ?_)
  show EV none M_X11_result d' 0 [(0, .ref 106), (1, .int x)] [] (hp I J) _
  refine EV.l (lv' := [(0, _), (1, _)]) r_X11_result_0 rfl ?_
  refine EV.l (lv' := [(0, _), (1, _)]) r_X11_result_1 rfl ?_
  refine EV.getV r_X11_result_2 la_106 (mg.fo) ?_
  refine EV.pI r_X11_result_5 la_106 ?_
  refine EV.l (lv' := [(0, _), (1, _)]) r_X11_result_8 rfl ?_
  refine EV.cv r_X11_result_9 (aV0 mt_173 la_106) (m_fineG mg.w8 (by omega)) ?_
  refine EV.n0_eq r_X11_result_12 (fun h12 => ?_) (fun h12 => ?_)
  · omega
  · -- 12 f
    refine EV.l (lv' := [(0, _), (1, _)]) r_X11_result_15 rfl ?_
    refine EV.g r_X11_result_16 ?_
    exact EV.ri r_X11_result_26 (⟨rfl, rfl⟩)
theorem m_resB {d : Nat} {I : Nat → Nat → Int32} {J : Nat → Nat → Int64} {n k f : Nat} (mb : MB n k f I) (hn : n ≤ 600) {x : Int32} (hd : 2 ≤ d) : RI d 185 [.ref 106, .int x] I J (fun v I' => v = zI ((k : Int) - 10) ∧ I' = wr I 106 8 (nI f)) := by
  refine RI.in (d0 := 1) hd mt_185 (Nat.le_of_ble_eq_true rfl) (fun d' hd' => ?_)
  show EV none M_X11_result d' 0 [(0, .ref 106), (1, .int x)] [] (hp I J) _
  refine EV.l (lv' := [(0, _), (1, _)]) r_X11_result_0 rfl ?_
  refine EV.l (lv' := [(0, _), (1, _)]) r_X11_result_1 rfl ?_
  refine EV.getV r_X11_result_2 la_106 (mb.fo) ?_
  refine EV.pI r_X11_result_5 la_106 ?_
  refine EV.l (lv' := [(0, _), (1, _)]) r_X11_result_8 rfl ?_
  refine EV.cv r_X11_result_9 (aV0 mt_173 la_106) (m_fineB mb.w8 hn (by omega)) ?_
  refine EV.n0_eq r_X11_result_12 (fun h12 => ?_) (fun h12 => ?_)
  · -- 12 t
    refine EV.l (lv' := [(0, _), (1, _)]) r_X11_result_19 rfl ?_
    refine EV.getV r_X11_result_20 la_106 (mb.w8.fk) ?_
    refine EV.o r_X11_result_23 (bpN (10) 10) ?_
    refine EV.o r_X11_result_25 (isubNZ) ?_
    exact EV.ri r_X11_result_26 (⟨rfl, rfl⟩)
  · omega
