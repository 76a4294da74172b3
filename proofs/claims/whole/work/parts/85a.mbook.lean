/-! BOOK: the model. -/
def BKR (a : Nat) (b : Nat × Nat) (I : Nat → Nat → Int32) : Prop := ∀ j, j < 9 → I a j = if b.1.testBit j = true then nI (b.2.testBit j).toNat else zI (-1)
theorem BKR.fr {a : Nat} {b : Nat × Nat} {I I' : Nat → Nat → Int32} (h : BKR a b I) (e : I' a = I a) : BKR a b I' := fun j hj => (congrFun e j).trans (h j hj)
theorem BKR.put {m i y : Nat} {b : Nat × Nat} {I I' : Nat → Nat → Int32} (h : BKR 128 b I) (bb : BB m b) (hy : y ≤ 1) (hb_ : b.1.testBit i = false) (e : I' 128 = wr I 128 i (nI y) 128) : BKR 128 (b.1 ||| 2 ^ i, b.2 ||| y * 2 ^ i) I' := by
  intro j hj
  rw [e]
  show _ = if (b.1 ||| 2 ^ i).testBit j = true then nI ((b.2 ||| y * 2 ^ i).testBit j).toNat else _
  rw [or_bit, Nat.testBit_or, or_mul hy]
  by_cases z : i = j
  · subst z
    have h2 : b.2.testBit i = false := by
      have h3 : (b.2 &&& b.1).testBit i = b.2.testBit i := by rw [bb.r]
      rw [Nat.testBit_and, hb_, Bool.and_false] at h3
      exact h3.symm
    rw [hb_, h2, decide_eq_true rfl]
    obtain rfl | rfl : y = 0 ∨ y = 1 := by omega
    · exact wr_same
    · exact wr_same
  · rw [decide_eq_false z, wr_ne (Or.inr (fun w => z w.symm)), Bool.or_false, Bool.false_and, Bool.or_false]
    exact h j hj
/-- the model's reading and its scratch book alone were at work -/
def KF (I I' : Nat → Nat → Int32) : Prop := (∀ j, j ≠ 4 → j ≠ 5 → j ≠ 6 → I' 106 j = I 106 j) ∧ ∀ o, o ≠ 106 → o ≠ 128 → I' o = I o
theorem KF.rf {I : Nat → Nat → Int32} : KF I I := ⟨fun _ _ _ _ => rfl, fun _ _ _ => rfl⟩
theorem KF.tr {I I1 I2 : Nat → Nat → Int32} (h : KF I I1) (h2 : KF I1 I2) : KF I I2 := ⟨fun j a b c => (h2.1 j a b c).trans (h.1 j a b c), fun o a b => (h2.2 o a b).trans (h.2 o a b)⟩
theorem MO.kf {I I' : Nat → Nat → Int32} (h : MO I I') : KF I I' := ⟨h.2, fun o a _ => h.1 o a⟩
def BMI (g : Nat → Nat) (n m s0 : Nat) (I : Nat → Nat → Int32) (i : Nat) (b : Nat × Nat) (s : Nat) (M : Nat → Nat → Int32) : Prop := MG g n s M ∧ KF I M ∧ i ≤ s ∧ BKR 128 b M ∧ BB m b ∧ linsB g n m (60 - i) (b, .inl s) = linsB g n m 60 ((0, 0), .inl s0)
theorem BMI.end {g : Nat → Nat} {n m s0 i s : Nat} {b : Nat × Nat} {I M : Nat → Nat → Int32} (h : BMI g n m s0 I i b s M) (hs : ¬ s < n) : linsB g n m 60 ((0, 0), .inl s0) = (b, .inl s) := by
  rw [← h.2.2.2.2.2, linsB_end (Nat.le_of_not_lt hs)]
theorem BMI.bad {g : Nat → Nat} {n m s0 i s : Nat} {b : Nat × Nat} {q : Nat × Nat} {I M : Nat → Nat → Int32} (h : BMI g n m s0 I i b s M) (hs : s < n) (hn : n ≤ 60) (e : (linB g n m b s).2 = .inr q) : (linsB g n m 60 ((0, 0), .inl s0)).2 = .inr q := by
  have hi := h.2.2.1
  rw [← h.2.2.2.2.2, show 60 - i = 60 - (i + 1) + 1 by omega, linsB_go hs]
  have e2 : linB g n m b s = ((linB g n m b s).1, .inr q) := by rw [← e]
  rw [e2, linsB_bad]
theorem linT_f1 {g : Nat → Nat} {n m s : Nat} {b : Nat × Nat} {q : Nat × Nat} (h : (lnA g n m s).2 = .inr q) : (linB g n m b s).2 = .inr q := by
  have hno : ¬ (kdp g n s = 1 ∧ nvl g n s < m ∧ b.1.testBit (nvl g n s) = true) := fun z => by
    have e2 : lnA g n m s = (nvl g n s, .inl (nxp g n s)) := (if_pos z.1).trans (if_neg (by omega))
    rw [e2] at h
    exact absurd h (by simp)
  have t : linT g n m b s = ((b.1 ||| 2 ^ (lnA g n m s).1, b.2 ||| (lnB g n m s).1 * 2 ^ (lnA g n m s).1), (lnB g n m s).2) := if_neg hno
  show tkS g n 59 (linT g n m b s).2 = _
  rw [t]
  show tkS g n 59 (tkN g n 0 ((1 : Nat) : Int) (lnA g n m s).2).2 = _
  rw [h]
  rfl
theorem lnA_n {g : Nat → Nat} {n m s s1 : Nat} (h : (lnA g n m s).2 = .inl s1) : lnA g n m s = (nvl g n s, .inl (nxp g n s)) ∧ kdp g n s = 1 ∧ nvl g n s < m := by
  by_cases k : kdp g n s = 1
  · by_cases o : nvl g n s < 0 ∨ ((m : Int) - ((1 : Nat) : Int)) < (nvl g n s : Int)
    · have e2 : lnA g n m s = (0, .inr (2, s)) := (if_pos k).trans (if_pos o)
      rw [e2] at h
      exact absurd h (by simp)
    · exact ⟨(if_pos k).trans (if_neg o), k, by omega⟩
  · have e2 : lnA g n m s = (0, .inr (1, s)) := if_neg k
    rw [e2] at h
    exact absurd h (by simp)
theorem linT_tw {g : Nat → Nat} {n m s s1 : Nat} {b : Nat × Nat} (h : (lnA g n m s).2 = .inl s1) (h2 : b.1.testBit (lnA g n m s).1 = true) : (linB g n m b s).2 = .inr (2, s) := by
  obtain ⟨e, k, l⟩ := lnA_n h
  rw [e] at h2
  have t : linT g n m b s = (b, .inr (2, s)) := if_pos ⟨k, l, h2⟩
  show tkS g n 59 (linT g n m b s).2 = _
  rw [t]
  rfl
theorem linT_no {g : Nat → Nat} {n m s s1 : Nat} {b : Nat × Nat} (h : (lnA g n m s).2 = .inl s1) (h2 : b.1.testBit (lnA g n m s).1 = false) : linT g n m b s = ((b.1 ||| 2 ^ (lnA g n m s).1, b.2 ||| (lnB g n m s).1 * 2 ^ (lnA g n m s).1), (lnB g n m s).2) := by
  obtain ⟨e, k, l⟩ := lnA_n h
  exact if_neg fun z => by
    rw [e] at h2
    exact absurd (h2.symm.trans z.2.2) (by decide)
theorem linT_f2 {g : Nat → Nat} {n m s s1 : Nat} {b : Nat × Nat} {q : Nat × Nat} (h : (lnA g n m s).2 = .inl s1) (h2 : b.1.testBit (lnA g n m s).1 = false) (h3 : (lnB g n m s).2 = .inr q) : (linB g n m b s).2 = .inr q := by
  show tkS g n 59 (linT g n m b s).2 = _
  rw [linT_no h h2, h3]
  rfl
theorem linB_r {g : Nat → Nat} {n m s s1 : Nat} {b : Nat × Nat} (h : (lnA g n m s).2 = .inl s1) (h2 : b.1.testBit (lnA g n m s).1 = false) : (linB g n m b s).2 = tkS g n 59 (lnB g n m s).2 := by
  show tkS g n 59 (linT g n m b s).2 = _
  rw [linT_no h h2]
theorem BMI.next {g : Nat → Nat} {n m s0 i s s2 : Nat} {b : Nat × Nat} {I M M2 : Nat → Nat → Int32} (h : BMI g n m s0 I i b s M) (hs : s < n) (hn : n ≤ 60) (hm : m ≤ 9) (e : (linB g n m b s).2 = .inl s2) (mg : MG g n s2 M2) (kf : KF M M2) (e8 : M2 128 = wr M 128 (lnA g n m s).1 (nI (lnB g n m s).1) 128) : BMI g n m s0 I (i + 1) (linB g n m b s).1 s2 M2 ∧ pc9 (linB g n m b s).1.1 = pc9 b.1 + 1 := by
  obtain ⟨h1, h2, h3, h4, h5, h6⟩ := h
  obtain ⟨s3, e3, h3b, -⟩ := tkS_q (show tkS g n 59 (linT g n m b s).2 = .inl s2 from e)
  have k := linT_ok e3
  have e5 : (linB g n m b s).1 = (b.1 ||| 2 ^ (lnA g n m s).1, b.2 ||| (lnB g n m s).1 * 2 ^ (lnA g n m s).1) := k.2.2.2.2.2
  refine ⟨⟨mg, h2.tr kf, by omega, by rw [e5]; exact h4.put h5 k.2.1 k.2.2.1 e8, h5.lin e3, ?_⟩, ?_⟩
  · rw [← h6, show 60 - i = 60 - (i + 1) + 1 by omega, linsB_go hs]
    have e2 : linB g n m b s = ((linB g n m b s).1, .inl s2) := by rw [← e]
    rw [← e2]
  · rw [e5]
    show pcn (b.1 ||| 2 ^ (lnA g n m s).1) 9 = pcn b.1 9 + 1
    rw [pcn_or k.2.2.1, if_pos (by omega)]
theorem rst_x (r : RST) : (∃ s, r = .inl s) ∨ ∃ q, r = .inr q := by
  cases r with
  | inl s => exact Or.inl ⟨s, rfl⟩
  | inr q => exact Or.inr ⟨q, rfl⟩
theorem MIn.bok {S : STT} {b : Nat × Nat} {I I' : Nat → Nat → Int32} (h : MIn S I) (h6 : ∀ j, scf j = false → j ≠ 2 → j ≠ 8 → j ≠ 47 → I' 106 j = I 106 j) (h2 : I' 106 2 = nI 0) (h8 : I' 106 8 = zI (-1)) (h47 : I' 106 47 = nI (pc9 b.1)) (bk : BKR 129 b I') (f : ∀ o, o ≠ 106 → o ≠ 129 → sco o = false → I' o = I o) : MIn (S.bok b) I' := by
  have e : ∀ j, scf j = false → j ≠ 2 → j ≠ 8 → j ≠ 47 → I' 106 j = I 106 j := h6
  exact ⟨by have z := h.mc; unfold MC at z ⊢; rw [e 22 (by decide) (by decide) (by decide) (by decide), e 23 (by decide) (by decide) (by decide) (by decide), e 24 (by decide) (by decide) (by decide) (by decide), e 25 (by decide) (by decide) (by decide) (by decide), f 113 (by decide) (by decide) rfl, f 114 (by decide) (by decide) rfl, f 115 (by decide) (by decide) rfl, f 116 (by decide) (by decide) rfl]; exact z,
    h.mr.fr (f _ (by decide) (by decide) rfl), h.ml.fr9 (e 32 (by decide) (by decide) (by decide) (by decide)) (f _ (by decide) (by decide) rfl) (f _ (by decide) (by decide) rfl), h2, h8, by rw [f 108 (by decide) (by decide) rfl]; exact h.tp, (e 38 (by decide) (by decide) (by decide) (by decide)).trans h.rf, by rw [f 107 (by decide) (by decide) rfl]; exact h.r0, by rw [f 107 (by decide) (by decide) rfl]; exact h.r1, h47, bk, (e 37 (by decide) (by decide) (by decide) (by decide)).trans h.w, (e 55 (by decide) (by decide) (by decide) (by decide)).trans h.im,
    fun k hk => by have := h.ps k hk; unfold MS at this ⊢; rw [f 127 (by decide) (by decide) rfl]; exact this, by rw [f 134 (by decide) (by decide) rfl]; exact h.iw, fun i hi => by have := h.ic i hi; unfold MS at this ⊢; rw [f 134 (by decide) (by decide) rfl]; exact this, fun i k hi hk => by have := h.ip i k hi hk; unfold MS at this ⊢; rw [f 134 (by decide) (by decide) rfl]; exact this⟩
theorem inl_no {r : RST} {q : Nat × Nat} {s : Nat} {p : Prop} (h : r = .inr q) (h2 : r = .inl s) : p := by rw [h] at h2; cases h2
theorem bk_q {g : Nat → Nat} {n m s s1 s2 : Nat} {b : Nat × Nat} (h : (lnA g n m s).2 = .inl s1) (h2 : b.1.testBit (lnA g n m s).1 = false) (h3 : (lnB g n m s).2 = .inl s2) (h4 : okr (tkS g n 59 (.inl s2)) = false) : ∃ q, (linB g n m b s).2 = .inr q := by
  rw [linB_r h h2, h3]
  obtain ⟨k, f, e⟩ := okr_f h4
  exact ⟨(k, f), e⟩
theorem MB.eq {n k f : Nat} {q : Nat × Nat} {r : RST} {I : Nat → Nat → Int32} (h : MB n q.1 q.2 I) (h1 : r = .inr q) (h2 : r = .inr (k, f)) : MB n k f I := by
  rw [h1] at h2
  cases h2
  exact h
theorem sco_b {o : Nat} (h : sco o = false) : o ≠ 128 := fun e => by subst e; exact absurd h (by decide)
theorem r_X11_book_0 : RW M_X11_book 0 (.aload_n 0) 1 0 0 1 := ⟨rfl, rfl⟩
theorem r_X11_book_1 : RW M_X11_book 1 (.iconst 0) 1 0 0 2 := ⟨rfl, rfl⟩
theorem r_X11_book_2 : RW M_X11_book 2 (.putfield 3) 3 11 0 5 := ⟨rfl, rfl⟩
theorem r_X11_book_5 : RW M_X11_book 5 (.aload_n 0) 1 0 0 6 := ⟨rfl, rfl⟩
theorem r_X11_book_6 : RW M_X11_book 6 (.iload_n 1) 1 0 0 7 := ⟨rfl, rfl⟩
theorem r_X11_book_7 : RW M_X11_book 7 (.ifCond .lt 21) 3 28 0 10 := ⟨rfl, rfl⟩
theorem r_X11_book_10 : RW M_X11_book 10 (.iload_n 1) 1 0 0 11 := ⟨rfl, rfl⟩
theorem r_X11_book_11 : RW M_X11_book 11 (.aload_n 0) 1 0 0 12 := ⟨rfl, rfl⟩
theorem r_X11_book_12 : RW M_X11_book 12 (.getfield 108) 3 11 2 15 := ⟨rfl, rfl⟩
theorem r_X11_book_15 : RW M_X11_book 15 (.if_icmp .gt 13) 3 28 0 18 := ⟨rfl, rfl⟩
theorem r_X11_book_18 : RW M_X11_book 18 (.iload_n 1) 1 0 0 19 := ⟨rfl, rfl⟩
theorem r_X11_book_19 : RW M_X11_book 19 (.bipush 60) 2 0 0 21 := ⟨rfl, rfl⟩
theorem r_X11_book_21 : RW M_X11_book 21 (.if_icmp .gt 7) 3 28 0 24 := ⟨rfl, rfl⟩
theorem r_X11_book_24 : RW M_X11_book 24 (.iconst 1) 1 0 0 25 := ⟨rfl, rfl⟩
theorem r_X11_book_25 : RW M_X11_book 25 (.goto 4) 3 29 0 28 := ⟨rfl, rfl⟩
theorem r_X11_book_28 : RW M_X11_book 28 (.iconst 0) 1 0 0 29 := ⟨rfl, rfl⟩
theorem r_X11_book_29 : RW M_X11_book 29 (.iconst 1) 1 0 0 30 := ⟨rfl, rfl⟩
theorem r_X11_book_30 : RW M_X11_book 30 (.iconst 1) 1 0 0 31 := ⟨rfl, rfl⟩
theorem r_X11_book_31 : RW M_X11_book 31 (.invokevirtual 210) 3 169 0 34 := ⟨rfl, rfl⟩
theorem r_X11_book_34 : RW M_X11_book 34 (.ifCond .ne 5) 3 39 0 37 := ⟨rfl, rfl⟩
theorem r_X11_book_37 : RW M_X11_book 37 (.iconst 0) 1 0 0 38 := ⟨rfl, rfl⟩
theorem r_X11_book_38 : RW M_X11_book 38 (.ireturn) 1 0 0 39 := ⟨rfl, rfl⟩
theorem r_X11_book_39 : RW M_X11_book 39 (.aload_n 0) 1 0 0 40 := ⟨rfl, rfl⟩
theorem r_X11_book_40 : RW M_X11_book 40 (.iload_n 1) 1 0 0 41 := ⟨rfl, rfl⟩
theorem r_X11_book_41 : RW M_X11_book 41 (.invokevirtual 214) 3 184 0 44 := ⟨rfl, rfl⟩
theorem r_X11_book_44 : RW M_X11_book 44 (.iconst 0) 1 0 0 45 := ⟨rfl, rfl⟩
theorem r_X11_book_45 : RW M_X11_book 45 (.istore_n 2) 1 0 0 46 := ⟨rfl, rfl⟩
theorem r_X11_book_46 : RW M_X11_book 46 (.iload_n 2) 1 0 0 47 := ⟨rfl, rfl⟩
theorem r_X11_book_47 : RW M_X11_book 47 (.bipush 9) 2 0 0 49 := ⟨rfl, rfl⟩
theorem r_X11_book_49 : RW M_X11_book 49 (.if_icmp .ge 16) 3 65 0 52 := ⟨rfl, rfl⟩
theorem r_X11_book_52 : RW M_X11_book 52 (.aload_n 0) 1 0 0 53 := ⟨rfl, rfl⟩
theorem r_X11_book_53 : RW M_X11_book 53 (.getfield 80) 3 11 45 56 := ⟨rfl, rfl⟩
theorem r_X11_book_56 : RW M_X11_book 56 (.iload_n 2) 1 0 0 57 := ⟨rfl, rfl⟩
theorem r_X11_book_57 : RW M_X11_book 57 (.iconst (-1)) 1 0 0 58 := ⟨rfl, rfl⟩
theorem r_X11_book_58 : RW M_X11_book 58 (.iastore) 1 0 0 59 := ⟨rfl, rfl⟩
theorem r_X11_book_59 : RW M_X11_book 59 (.iinc 2 1) 3 0 0 62 := ⟨rfl, rfl⟩
theorem r_X11_book_62 : RW M_X11_book 62 (.goto (-16)) 3 46 0 65 := ⟨rfl, rfl⟩
theorem r_X11_book_65 : RW M_X11_book 65 (.iconst 0) 1 0 0 66 := ⟨rfl, rfl⟩
theorem r_X11_book_66 : RW M_X11_book 66 (.istore_n 2) 1 0 0 67 := ⟨rfl, rfl⟩
theorem r_X11_book_67 : RW M_X11_book 67 (.aload_n 0) 1 0 3 68 := ⟨rfl, rfl⟩
theorem r_X11_book_68 : RW M_X11_book 68 (.invokevirtual 140) 3 173 0 71 := ⟨rfl, rfl⟩
theorem r_X11_book_71 : RW M_X11_book 71 (.ifCond .eq 96) 3 167 0 74 := ⟨rfl, rfl⟩
theorem r_X11_book_74 : RW M_X11_book 74 (.aload_n 0) 1 0 0 75 := ⟨rfl, rfl⟩
theorem r_X11_book_75 : RW M_X11_book 75 (.invokevirtual 218) 3 183 0 78 := ⟨rfl, rfl⟩
theorem r_X11_book_78 : RW M_X11_book 78 (.ifCond .eq 89) 3 167 0 81 := ⟨rfl, rfl⟩
theorem r_X11_book_81 : RW M_X11_book 81 (.aload_n 0) 1 0 0 82 := ⟨rfl, rfl⟩
theorem r_X11_book_82 : RW M_X11_book 82 (.invokevirtual 123) 3 175 0 85 := ⟨rfl, rfl⟩
theorem r_X11_book_85 : RW M_X11_book 85 (.pop) 1 0 0 86 := ⟨rfl, rfl⟩
theorem r_X11_book_86 : RW M_X11_book 86 (.aload_n 0) 1 0 0 87 := ⟨rfl, rfl⟩
theorem r_X11_book_87 : RW M_X11_book 87 (.getfield 117) 3 11 4 90 := ⟨rfl, rfl⟩
theorem r_X11_book_90 : RW M_X11_book 90 (.istore_n 3) 1 0 0 91 := ⟨rfl, rfl⟩
theorem r_X11_book_91 : RW M_X11_book 91 (.aload_n 0) 1 0 0 92 := ⟨rfl, rfl⟩
theorem r_X11_book_92 : RW M_X11_book 92 (.iconst 0) 1 0 0 93 := ⟨rfl, rfl⟩
theorem r_X11_book_93 : RW M_X11_book 93 (.aload_n 0) 1 0 0 94 := ⟨rfl, rfl⟩
theorem r_X11_book_94 : RW M_X11_book 94 (.getfield 166) 3 11 22 97 := ⟨rfl, rfl⟩
theorem r_X11_book_97 : RW M_X11_book 97 (.iconst 1) 1 0 0 98 := ⟨rfl, rfl⟩
theorem r_X11_book_98 : RW M_X11_book 98 (.isub) 1 0 0 99 := ⟨rfl, rfl⟩
theorem r_X11_book_99 : RW M_X11_book 99 (.invokevirtual 206) 3 181 0 102 := ⟨rfl, rfl⟩
theorem r_X11_book_102 : RW M_X11_book 102 (.istore 4) 2 0 0 104 := ⟨rfl, rfl⟩
theorem r_X11_book_104 : RW M_X11_book 104 (.aload_n 0) 1 0 0 105 := ⟨rfl, rfl⟩
theorem r_X11_book_105 : RW M_X11_book 105 (.invokevirtual 140) 3 173 0 108 := ⟨rfl, rfl⟩
theorem r_X11_book_108 : RW M_X11_book 108 (.ifCond .eq 20) 3 128 0 111 := ⟨rfl, rfl⟩
theorem r_X11_book_111 : RW M_X11_book 111 (.aload_n 0) 1 0 0 112 := ⟨rfl, rfl⟩
theorem r_X11_book_112 : RW M_X11_book 112 (.getfield 80) 3 11 45 115 := ⟨rfl, rfl⟩
theorem r_X11_book_115 : RW M_X11_book 115 (.iload 4) 2 0 0 117 := ⟨rfl, rfl⟩
theorem r_X11_book_117 : RW M_X11_book 117 (.iaload) 1 0 0 118 := ⟨rfl, rfl⟩
theorem r_X11_book_118 : RW M_X11_book 118 (.iconst (-1)) 1 0 0 119 := ⟨rfl, rfl⟩
theorem r_X11_book_119 : RW M_X11_book 119 (.if_icmp .eq 9) 3 128 0 122 := ⟨rfl, rfl⟩
theorem r_X11_book_122 : RW M_X11_book 122 (.aload_n 0) 1 0 0 123 := ⟨rfl, rfl⟩
theorem r_X11_book_123 : RW M_X11_book 123 (.iconst 2) 1 0 0 124 := ⟨rfl, rfl⟩
theorem r_X11_book_124 : RW M_X11_book 124 (.iload_n 3) 1 0 0 125 := ⟨rfl, rfl⟩
theorem r_X11_book_125 : RW M_X11_book 125 (.invokevirtual 147) 3 174 0 128 := ⟨rfl, rfl⟩
theorem r_X11_book_128 : RW M_X11_book 128 (.aload_n 0) 1 0 0 129 := ⟨rfl, rfl⟩
theorem r_X11_book_129 : RW M_X11_book 129 (.iconst 0) 1 0 0 130 := ⟨rfl, rfl⟩
theorem r_X11_book_130 : RW M_X11_book 130 (.iconst 1) 1 0 0 131 := ⟨rfl, rfl⟩
theorem r_X11_book_131 : RW M_X11_book 131 (.invokevirtual 206) 3 181 0 134 := ⟨rfl, rfl⟩
theorem r_X11_book_134 : RW M_X11_book 134 (.istore 5) 2 0 0 136 := ⟨rfl, rfl⟩
theorem r_X11_book_136 : RW M_X11_book 136 (.aload_n 0) 1 0 0 137 := ⟨rfl, rfl⟩
theorem r_X11_book_137 : RW M_X11_book 137 (.bipush 59) 2 0 0 139 := ⟨rfl, rfl⟩
theorem r_X11_book_139 : RW M_X11_book 139 (.invokevirtual 242) 3 182 0 142 := ⟨rfl, rfl⟩
theorem r_X11_book_142 : RW M_X11_book 142 (.aload_n 0) 1 0 0 143 := ⟨rfl, rfl⟩
theorem r_X11_book_143 : RW M_X11_book 143 (.invokevirtual 140) 3 173 0 146 := ⟨rfl, rfl⟩
theorem r_X11_book_146 : RW M_X11_book 146 (.ifCond .ne 6) 3 152 0 149 := ⟨rfl, rfl⟩
theorem r_X11_book_149 : RW M_X11_book 149 (.goto 18) 3 167 0 152 := ⟨rfl, rfl⟩
theorem r_X11_book_152 : RW M_X11_book 152 (.aload_n 0) 1 0 0 153 := ⟨rfl, rfl⟩
theorem r_X11_book_153 : RW M_X11_book 153 (.getfield 80) 3 11 45 156 := ⟨rfl, rfl⟩
theorem r_X11_book_156 : RW M_X11_book 156 (.iload 4) 2 0 0 158 := ⟨rfl, rfl⟩
theorem r_X11_book_158 : RW M_X11_book 158 (.iload 5) 2 0 0 160 := ⟨rfl, rfl⟩
theorem r_X11_book_160 : RW M_X11_book 160 (.iastore) 1 0 0 161 := ⟨rfl, rfl⟩
theorem r_X11_book_161 : RW M_X11_book 161 (.iinc 2 1) 3 0 0 164 := ⟨rfl, rfl⟩
theorem r_X11_book_164 : RW M_X11_book 164 (.goto (-97)) 3 67 0 167 := ⟨rfl, rfl⟩
theorem r_X11_book_167 : RW M_X11_book 167 (.aload_n 0) 1 0 3 168 := ⟨rfl, rfl⟩
theorem r_X11_book_168 : RW M_X11_book 168 (.iload_n 2) 1 0 0 169 := ⟨rfl, rfl⟩
theorem r_X11_book_169 : RW M_X11_book 169 (.invokevirtual 245) 3 185 0 172 := ⟨rfl, rfl⟩
theorem r_X11_book_172 : RW M_X11_book 172 (.istore_n 3) 1 0 0 173 := ⟨rfl, rfl⟩
theorem r_X11_book_173 : RW M_X11_book 173 (.aload_n 0) 1 0 0 174 := ⟨rfl, rfl⟩
theorem r_X11_book_174 : RW M_X11_book 174 (.getfield 111) 3 11 5 177 := ⟨rfl, rfl⟩
theorem r_X11_book_177 : RW M_X11_book 177 (.iconst (-1)) 1 0 0 178 := ⟨rfl, rfl⟩
theorem r_X11_book_178 : RW M_X11_book 178 (.if_icmp .eq 5) 3 183 0 181 := ⟨rfl, rfl⟩
theorem r_X11_book_181 : RW M_X11_book 181 (.iload_n 3) 1 0 0 182 := ⟨rfl, rfl⟩
theorem r_X11_book_182 : RW M_X11_book 182 (.ireturn) 1 0 0 183 := ⟨rfl, rfl⟩
theorem r_X11_book_183 : RW M_X11_book 183 (.aload_n 0) 1 0 0 184 := ⟨rfl, rfl⟩
theorem r_X11_book_184 : RW M_X11_book 184 (.iload_n 2) 1 0 0 185 := ⟨rfl, rfl⟩
theorem r_X11_book_185 : RW M_X11_book 185 (.putfield 185) 3 11 47 188 := ⟨rfl, rfl⟩
theorem r_X11_book_188 : RW M_X11_book 188 (.aload_n 0) 1 0 0 189 := ⟨rfl, rfl⟩
theorem r_X11_book_189 : RW M_X11_book 189 (.aload_n 0) 1 0 0 190 := ⟨rfl, rfl⟩
theorem r_X11_book_190 : RW M_X11_book 190 (.getfield 80) 3 11 45 193 := ⟨rfl, rfl⟩
theorem r_X11_book_193 : RW M_X11_book 193 (.aload_n 0) 1 0 0 194 := ⟨rfl, rfl⟩
theorem r_X11_book_194 : RW M_X11_book 194 (.getfield 83) 3 11 46 197 := ⟨rfl, rfl⟩
theorem r_X11_book_197 : RW M_X11_book 197 (.bipush 9) 2 0 0 199 := ⟨rfl, rfl⟩
theorem r_X11_book_199 : RW M_X11_book 199 (.invokevirtual 178) 3 187 0 202 := ⟨rfl, rfl⟩
theorem r_X11_book_202 : RW M_X11_book 202 (.iload_n 3) 1 0 0 203 := ⟨rfl, rfl⟩
theorem r_X11_book_203 : RW M_X11_book 203 (.ireturn) 1 0 0 204 := ⟨rfl, rfl⟩
theorem m_bookG {d : Nat} {I : Nat → Nat → Int32} {J : Nat → Nat → Int64} {S : STT} {n : Nat} (sb : SB S) (h : MIn S I) (ht : n ≤ S.tl) (hn : n ≤ 60) {s9 : Nat} (hz : (bookT S.tp n S.κ.ns).2 = .inl s9)  (hd : 11 ≤ d) : RI d 233 [.ref 106, .int (nI n)] I J (fun v I' => v = nI (pc9 (bookT S.tp n S.κ.ns).1.1) ∧ MIn (S.bok (bookT S.tp n S.κ.ns).1) I' ∧ HIf I I' ∧ I' 106 0 = nI 0) := by
  refine RI.in (d0 := 10) hd mt_233 (Nat.le_of_ble_eq_true rfl) (fun d' hd' => ?_)
  have tl6 := sb.tl
  have ns9 := sb.cb.ns
  show EV none M_X11_book d' 0 [(0, .ref 106), (1, .int (nI n))] [] (hp I J) _
  refine EV.l (lv' := [(0, _), (1, _)]) r_X11_book_0 rfl ?_
  refine EV.o r_X11_book_1 (icN (0) (v := 0)) ?_
  refine EV.pIn r_X11_book_2 la_106 (fun I1 e1_ => ?_)
  refine EV.l (lv' := [(0, _), (1, _)]) r_X11_book_5 rfl ?_
  refine EV.l (lv' := [(0, _), (1, _)]) r_X11_book_6 rfl ?_
  refine EV.n0_lt r_X11_book_7 (fun h7 => ?_) (fun h7 => ?_)
  · -- 7 t
    refine EV.o r_X11_book_28 (icN (0) (v := 0)) ?_
    have z0 : I1 106 0 = nI 0 := by rw [e1_]; exact wr_same
    refine EV.o r_X11_book_29 (icN (1) (v := 1)) ?_
    refine EV.o r_X11_book_30 (icN (1) (v := 1)) ?_
    omega
  · -- 7 f
    refine EV.l (lv' := [(0, _), (1, _)]) r_X11_book_10 rfl ?_
    refine EV.l (lv' := [(0, _), (1, _)]) r_X11_book_11 rfl ?_
    refine EV.getV r_X11_book_12 la_106 ((show I1 106 2 = nI S.tl from by rw [e1_, wr_ne (Or.inr (by decide))]; exact h.tl)) ?_
    refine EV.n2_gt r_X11_book_15 (fun h15 => ?_) (fun h15 => ?_)
    · -- 15 t
      refine EV.o r_X11_book_28 (icN (0) (v := 0)) ?_
      have z0 : I1 106 0 = nI 0 := by rw [e1_]; exact wr_same
      refine EV.o r_X11_book_29 (icN (1) (v := 1)) ?_
      refine EV.o r_X11_book_30 (icN (1) (v := 1)) ?_
      omega
    · -- 15 f
      refine EV.l (lv' := [(0, _), (1, _)]) r_X11_book_18 rfl ?_
      refine EV.o r_X11_book_19 (bpN (60) 60) ?_
      refine EV.n2_gt r_X11_book_21 (fun h21 => ?_) (fun h21 => ?_)
      · -- 21 t
        refine EV.o r_X11_book_28 (icN (0) (v := 0)) ?_
        have z0 : I1 106 0 = nI 0 := by rw [e1_]; exact wr_same
        refine EV.o r_X11_book_29 (icN (1) (v := 1)) ?_
        refine EV.o r_X11_book_30 (icN (1) (v := 1)) ?_
        omega
      · -- 21 f
        refine EV.o r_X11_book_24 (icN (1) (v := 1)) ?_
        refine EV.g r_X11_book_25 ?_
        have z0 : I1 106 0 = nI 0 := by rw [e1_]; exact wr_same
        refine EV.o r_X11_book_29 (icN (1) (v := 1)) ?_
        refine EV.o r_X11_book_30 (icN (1) (v := 1)) ?_
        refine EV.cv r_X11_book_31 (aV3 mt_169 la_106) (m_mayN z0 (by omega)) ?_
        refine EV.n0_ne r_X11_book_34 (fun h34 => ?_) (fun h34 => ?_)
        · -- 34 t
          refine EV.l (lv' := [(0, _), (1, _)]) r_X11_book_39 rfl ?_
          refine EV.l (lv' := [(0, _), (1, _)]) r_X11_book_40 rfl ?_
          refine EV.cu r_X11_book_41 (aV1 mt_184 la_106) (m_begins (g := S.tp) (by omega)) (fun I2 h2 => ?_)
          obtain ⟨mg2, op2, f82, o2, j2⟩ := h2
          refine EV.o r_X11_book_44 (icN (0) (v := 0)) ?_
          refine EV.l (lv' := [(0, _), (1, _), (2, _)]) r_X11_book_45 rfl ?_
          have L46 : ∀ y_ : Nat × (Nat → Nat → Int32), (fun y => (y.1 ≤ 9 ∧ (∀ o, o ≠ 128 → y.2 o = I2 o) ∧ ∀ j, j < y.1 → y.2 128 j = zI (-1)) → EV none M_X11_book d' 46 [(0, .ref 106), (1, .int (nI n)), (2, .int (nI y.1))] [] (hp y.2 J) (QI J (fun v I' => v = nI (pc9 (bookT S.tp n S.κ.ns).1.1) ∧ MIn (S.bok (bookT S.tp n S.κ.ns).1) I' ∧ HIf I I' ∧ I' 106 0 = nI 0))) y_ := by
            refine ev_loop (fun y => 9 - y.1) ?_
            intro ⟨i, T⟩ ih46 hx46
            try dsimp only at ih46
            try dsimp only at hx46
            try dsimp only
            refine EV.l (lv' := [(0, _), (1, _), (2, _)]) r_X11_book_46 rfl ?_
            refine EV.o r_X11_book_47 (bpN (9) 9) ?_
            refine EV.n2_ge r_X11_book_49 (fun h49 => ?_) (fun h49 => ?_)
            · -- 49 t
              have fT : ∀ o, o ≠ 128 → T o = I2 o := hx46.2.1
              have mgT : MG S.tp n (scp isB S.tp n 0) T := MD.fr (r := .inl (scp isB S.tp n 0)) mg2 (fT 106 (by decide))
              have tT : ∀ j, j < 600 → T 108 j = nI (S.tp j) := tp_fm h.tp ((fT 108 (by decide)).trans ((o2 108 (by decide)).trans (by rw [e1_]; exact wr_row (by decide))))
              refine EV.o r_X11_book_65 (icN (0) (v := 0)) ?_
              refine EV.l (lv' := [(0, _), (1, _), (2, _)]) r_X11_book_66 rfl ?_
              have L67 : ∀ y_ : Nat × (Nat × Nat) × Nat × (Nat → Nat → Int32), (fun y => BMI S.tp n S.κ.ns (scp isB S.tp n 0) T y.1 y.2.1 y.2.2.1 y.2.2.2 → EV none M_X11_book d' 67 [(0, .ref 106), (1, .int (nI n)), (2, .int (nI (pc9 y.2.1.1)))] [] (hp y.2.2.2 J) (QI J (fun v I' => v = nI (pc9 (bookT S.tp n S.κ.ns).1.1) ∧ MIn (S.bok (bookT S.tp n S.κ.ns).1) I' ∧ HIf I I' ∧ I' 106 0 = nI 0))) y_ := by
                refine ev_loop (fun y => 60 - y.1) ?_
                intro ⟨i, b, s, M⟩ ih67 hx67
                try dsimp only at ih67
                try dsimp only at hx67
                try dsimp only
                have kfM := hx67.2.1
                have tM := tp_fm tT (kfM.2 108 (by decide) (by decide))
                have isM := hx67.2.2.1
                refine EV.l (lv' := [(0, _), (1, _), (2, _)]) r_X11_book_67 rfl ?_
                refine EV.cv r_X11_book_68 (aV0 mt_173 la_106) (m_fineG hx67.1 (by omega)) ?_
                refine EV.n0_eq r_X11_book_71 (fun h71 => ?_) (fun h71 => ?_)
                · omega
                · -- 71 f
                  refine EV.l (lv' := [(0, _), (1, _), (2, _)]) r_X11_book_74 rfl ?_
                  refine EV.ci r_X11_book_75 (aV0 mt_183 la_106) (m_more tM sb.tp (by omega) hx67.1 (by omega)) (fun v I5 h5 => ?_)
                  obtain ⟨e, mg5, a5, mp5⟩ := h5
                  subst e
                  have sn := mg5.sn
                  refine EV.p0_eq r_X11_book_78 (fun h78 => ?_) (fun h78 => ?_)
                  · -- 78 t
                    have mox := mp5.mo
                    have fz := hx67.end h78
                    have mgx : MG S.tp n s I5 := mg5
                    have e1b : (bookT S.tp n S.κ.ns).1 = b := congrArg Prod.fst fz
                    have fo : ∀ o, o ≠ 106 → o ≠ 128 → I5 o = I o := fun o p1 p2 => (mox.1 o p1).trans ((kfM.2 o p1 p2).trans ((fT o p2).trans ((o2 o p1).trans (by rw [e1_]; exact wr_row p1))))
                    have fj : ∀ j, j ≠ 0 → j ≠ 2 → j ≠ 3 → j ≠ 4 → j ≠ 5 → j ≠ 6 → j ≠ 7 → j ≠ 8 → I5 106 j = I 106 j := fun j p0 p2 p3 p4 p5 p6 p7 p8 => (mox.2 j p4 p5 p6).trans ((kfM.1 j p4 p5 p6).trans ((congrFun (fT 106 (by decide)) j).trans ((j2 j p2 p3 p4 p5 p7 p8).trans (by rw [e1_]; exact wr_ne (Or.inr p0)))))
                    have f0 : I5 106 0 = nI 0 := (mox.2 0 (by decide) (by decide) (by decide)).trans ((kfM.1 0 (by decide) (by decide) (by decide)).trans ((congrFun (fT 106 (by decide)) 0).trans ((j2 0 (by decide) (by decide) (by decide) (by decide) (by decide) (by decide)).trans (by rw [e1_]; exact wr_same))))
                    refine EV.l (lv' := [(0, _), (1, _), (2, _)]) r_X11_book_167 rfl ?_
                    refine EV.l (lv' := [(0, _), (1, _), (2, _)]) r_X11_book_168 rfl ?_
                    refine EV.ci r_X11_book_169 (aV1 mt_185 la_106) (m_resG mgx (by omega)) (fun v IB hB => ?_)
                    obtain ⟨e, eB⟩ := hB
                    subst e
                    refine EV.l (lv' := [(0, _), (1, _), (2, _), (3, _)]) r_X11_book_172 rfl ?_
                    refine EV.l (lv' := [(0, _), (1, _), (2, _), (3, _)]) r_X11_book_173 rfl ?_
                    refine EV.getV r_X11_book_174 la_106 ((show IB 106 5 = zI (-1) from by rw [eB, wr_ne (Or.inr (by decide))]; exact mgx.fo)) ?_
                    refine EV.o r_X11_book_177 (icZ (-1)) ?_
                    refine EV.z2_eq r_X11_book_178 (fun h178 => ?_) (fun h178 => ?_)
                    · -- 178 t
                      refine EV.l (lv' := [(0, _), (1, _), (2, _), (3, _)]) r_X11_book_183 rfl ?_
                      refine EV.l (lv' := [(0, _), (1, _), (2, _), (3, _)]) r_X11_book_184 rfl ?_
                      refine EV.pIn r_X11_book_185 la_106 (fun IC eC => ?_)
                      refine EV.l (lv' := [(0, _), (1, _), (2, _), (3, _)]) r_X11_book_188 rfl ?_
                      refine EV.l (lv' := [(0, _), (1, _), (2, _), (3, _)]) r_X11_book_189 rfl ?_
                      refine EV.gR r_X11_book_190 la_106 ?_
                      refine EV.l (lv' := [(0, _), (1, _), (2, _), (3, _)]) r_X11_book_193 rfl ?_
                      refine EV.gR r_X11_book_194 la_106 ?_
                      refine EV.o r_X11_book_197 (bpN (9) 9) ?_
                      refine EV.cu r_X11_book_199 (aV3 mt_187 la_106) (m_copies la_128 la_129 (by decide) (by decide) (by omega) (by omega) (by decide) (by decide) (by decide) (by omega)) (fun ID eD => ?_)
                      refine EV.l (lv' := [(0, _), (1, _), (2, _), (3, _)]) r_X11_book_202 rfl ?_
                      exact EV.ri r_X11_book_203 (⟨by rw [e1b], h.bok (fun j hj p2 p8 p47 => by have q := scf_t hj; rw [eD, cpy_row (by decide), eC, wr_ne (Or.inr p47), eB, wr_ne (Or.inr p8)]; exact fj j q.1 p2 q.2.1 q.2.2.1 q.2.2.2.1 q.2.2.2.2.1 q.2.2.2.2.2.1 p8) (by rw [eD, cpy_row (by decide), eC, wr_ne (Or.inr (by decide)), eB, wr_ne (Or.inr (by decide))]; exact mgx.ln) (by rw [eD, cpy_row (by decide), eC, wr_ne (Or.inr (by decide)), eB]; exact wr_same) (by rw [eD, cpy_row (by decide), eC, wr_same, e1b]) (by rw [e1b]; intro j hj; rw [eD, cpy_in hj, eC, wr_row (by decide), eB, wr_row (by decide), mox.1 128 (by decide)]; exact hx67.2.2.2.1 j hj) (fun o p1 p2 p3 => by rw [eD, cpy_row p2, eC, wr_row p1, eB, wr_row p1]; exact fo o p1 (sco_b p3)), fun o ho => by rw [eD, cpy_row (by omega), eC, wr_row (by omega), eB, wr_row (by omega)]; exact fo o (by omega) (by omega), by rw [eD, cpy_row (by decide), eC, wr_ne (Or.inr (by decide)), eB, wr_ne (Or.inr (by decide))]; exact f0⟩)
                    · omega
                  · -- 78 f
                    have hs : s < n := h78
                    refine EV.l (lv' := [(0, _), (1, _), (2, _)]) r_X11_book_81 rfl ?_
                    refine EV.ci r_X11_book_82 (aV0 mt_175 la_106) (m_here (tp_fm tM (mp5.1 108 (by decide))) sb.tp (by omega) mg5.en sn a5 (by omega)) (fun v I6 h6 => ?_)
                    obtain ⟨e, a6, mp6⟩ := h6
                    subst e
                    have es : scp isB S.tp n s = s := by obtain ⟨a9, ha9, -, e9⟩ := hx67.1.pl; rw [← e9]; exact scp_id ha9
                    rw [es] at a6
                    have mg6 : MG S.tp n s I6 := mg5.mv mp6 sn a6 es
                    have m22 : I6 106 22 = nI S.κ.ns := by rw [(mp5.mo.tr mp6.mo).2 22 (by decide) (by decide) (by decide), kfM.1 22 (by decide) (by decide) (by decide), fT 106 (by decide), j2 22 (by decide) (by decide) (by decide) (by decide) (by decide) (by decide), e1_, wr_ne (Or.inr (by decide))]; exact h.mc.ns
                    refine EV.o r_X11_book_85 rfl ?_
                    refine EV.l (lv' := [(0, _), (1, _), (2, _)]) r_X11_book_86 rfl ?_
                    refine EV.getV r_X11_book_87 la_106 (a6) ?_
                    refine EV.l (lv' := [(0, _), (1, _), (2, _), (3, _)]) r_X11_book_90 rfl ?_
                    refine EV.l (lv' := [(0, _), (1, _), (2, _), (3, _)]) r_X11_book_91 rfl ?_
                    refine EV.o r_X11_book_92 (icN (0) (v := 0)) ?_
                    refine EV.l (lv' := [(0, _), (1, _), (2, _), (3, _)]) r_X11_book_93 rfl ?_
                    refine EV.getV r_X11_book_94 la_106 (m22) ?_
                    refine EV.o r_X11_book_97 (icN (1) (v := 1)) ?_
                    refine EV.o r_X11_book_98 (isubNZ) ?_
                    refine EV.ci r_X11_book_99 (aV2 mt_181 la_106) (m_num (lo := 0) (hi := (S.κ.ns : Int) - ((1 : Nat) : Int)) (tp_fm tM ((mp5.mo.tr mp6.mo).1 108 (by decide))) sb.tp (by omega) (r := .inl s) mg6 (by omega) (by omega) (by omega) (by omega)) (fun v7 I7 h7 => ?_)
                    obtain ⟨md7, ve7, mo7⟩ := h7
                    have mo07 := (mp5.mo.tr mp6.mo).tr mo7
                    rcases rst_x (lnA S.tp n S.κ.ns s).2 with ⟨s1, e1⟩ | ⟨q1, e1⟩
                    · -- case
                      have mg7 : MG S.tp n s1 I7 := by have z : MD S.tp n (lnA S.tp n S.κ.ns s).2 I7 := md7; rw [e1] at z; exact z
                      have vb : (lnA S.tp n S.κ.ns s).1 < S.κ.ns := lt_of_m1 (tkN_b e1).2
                      have ve : v7 = nI (lnA S.tp n S.κ.ns s).1 := ve7 s1 e1
                      subst ve
                      refine EV.l (lv' := [(0, _), (1, _), (2, _), (3, _), (4, _)]) r_X11_book_102 rfl ?_
                      refine EV.l (lv' := [(0, _), (1, _), (2, _), (3, _), (4, _)]) r_X11_book_104 rfl ?_
                      refine EV.cv r_X11_book_105 (aV0 mt_173 la_106) (m_fineG mg7 (by omega)) ?_
                      refine EV.n0_eq r_X11_book_108 (fun h108 => ?_) (fun h108 => ?_)
                      · omega
                      · -- 108 f
                        cases tb_ : b.1.testBit (lnA S.tp n S.κ.ns s).1
                        · -- case
                          -- no
                          refine EV.l (lv' := [(0, _), (1, _), (2, _), (3, _), (4, _)]) r_X11_book_111 rfl ?_
                          refine EV.gR r_X11_book_112 la_106 ?_
                          refine EV.l (lv' := [(0, _), (1, _), (2, _), (3, _), (4, _)]) r_X11_book_115 rfl ?_
                          refine EV.iaN r_X11_book_117 la_128 ((congrFun (mo07.1 128 (by decide)) (lnA S.tp n S.κ.ns s).1).trans ((hx67.2.2.2.1 (lnA S.tp n S.κ.ns s).1 (by omega)).trans (if_neg (by rw [tb_]; decide)))) ?_
                          refine EV.o r_X11_book_118 (icZ (-1)) ?_
                          refine EV.z2_eq r_X11_book_119 (fun h119 => ?_) (fun h119 => ?_)
                          · -- 119 t
                            refine EV.l (lv' := [(0, _), (1, _), (2, _), (3, _), (4, _)]) r_X11_book_128 rfl ?_
                            refine EV.o r_X11_book_129 (icN (0) (v := 0)) ?_
                            refine EV.o r_X11_book_130 (icN (1) (v := 1)) ?_
                            refine EV.ci r_X11_book_131 (aV2 mt_181 la_106) (m_numN (lo := 0) (hi := 1) (tp_fm tM (mo07.1 108 (by decide))) sb.tp (by omega) (r := .inl s1) mg7 (by omega) (by omega) (by omega)) (fun v9 I9 h9 => ?_)
                            obtain ⟨md9, ve9, mo9⟩ := h9
                            have elB : (tkN S.tp n 0 ((1 : Nat) : Int) (.inl s1)) = (lnB S.tp n S.κ.ns s) := by unfold lnB; rw [e1]
                            rw [elB] at md9 ve9
                            rcases rst_x (lnB S.tp n S.κ.ns s).2 with ⟨s2, e2⟩ | ⟨q2, e2⟩
                            · -- case
                              have mg9 : MG S.tp n s2 I9 := by have z := md9; rw [e2] at z; exact z
                              have ve : v9 = nI (lnB S.tp n S.κ.ns s).1 := ve9 s2 e2
                              subst ve
                              refine EV.l (lv' := [(0, _), (1, _), (2, _), (3, _), (4, _), (5, _)]) r_X11_book_134 rfl ?_
                              refine EV.l (lv' := [(0, _), (1, _), (2, _), (3, _), (4, _), (5, _)]) r_X11_book_136 rfl ?_
                              refine EV.o r_X11_book_137 (bpN (59) 59) ?_
                              refine EV.cu r_X11_book_139 (aV1 mt_182 la_106) (m_sign (tp_fm tM ((mo07.tr mo9).1 108 (by decide))) sb.tp (by omega) (r := .inl s2) mg9 (by decide) (by decide) (by decide) (by decide) (by omega)) (fun IA hA => ?_)
                              obtain ⟨mdA, moA⟩ := hA
                              have moX := (mo07.tr mo9).tr moA
                              refine EV.l (lv' := [(0, _), (1, _), (2, _), (3, _), (4, _), (5, _)]) r_X11_book_142 rfl ?_
                              refine EV.cv r_X11_book_143 (aV0 mt_173 la_106) (m_fine mdA (by omega) (by omega)) ?_
                              refine EV.b0_ne r_X11_book_146 (fun h146 => ?_) (fun h146 => ?_)
                              · -- 146 t
                                obtain ⟨s3, e3⟩ := okr_t h146
                                have hbX : (linB S.tp n S.κ.ns b s).2 = .inl s3 := by rw [linB_r e1 tb_, e2]; exact e3
                                have mgA : MG S.tp n s3 IA := by have z := mdA; rw [e3] at z; exact z
                                refine EV.l (lv' := [(0, _), (1, _), (2, _), (3, _), (4, _), (5, _)]) r_X11_book_152 rfl ?_
                                refine EV.gR r_X11_book_153 la_106 ?_
                                refine EV.l (lv' := [(0, _), (1, _), (2, _), (3, _), (4, _), (5, _)]) r_X11_book_156 rfl ?_
                                refine EV.l (lv' := [(0, _), (1, _), (2, _), (3, _), (4, _), (5, _)]) r_X11_book_158 rfl ?_
                                refine EV.iaSn r_X11_book_160 la_128 (fun IZ eZ => ?_)
                                have hxn := hx67.next hs (by omega) ns9 hbX (MD.fr (r := .inl s3) (I' := IZ) mgA (by rw [eZ, wr_row (by decide)])) (moX.kf.tr ⟨fun j _ _ _ => by rw [eZ, wr_row (by decide)], fun o _ p => by rw [eZ, wr_row p]⟩) (by rw [eZ]; exact wr_cg (moX.1 128 (by decide)))
                                refine EV.l (lv' := [(0, _), (1, _), (2, _), (3, _), (4, _), (5, _)]) r_X11_book_161 rfl ?_
                                rw [inc_nI]
                                refine EV.g r_X11_book_164 ?_
                                refine EV.fg (lv' := [(0, _), (1, _), (2, _)]) r_X11_book_67 rfl rfl rfl ?_
                                refine EV.sub ?_ rfl ?_ (ih67 (i + 1, (linB S.tp n S.κ.ns b s).1, s3, IZ) ?_ ?_)
                                · (try dsimp only) <;> (rw [hxn.2])
                                · (try dsimp only) <;> (rfl)
                                · (try dsimp only) <;> (omega)
                                · (try dsimp only) <;> (exact hxn.1)
                              · (obtain ⟨q9, eq9⟩ := bk_q (b := b) e1 tb_ e2 h146; exact inl_no (hx67.bad hs (by omega) eq9) hz)
                            · -- case
                              have mb9 : MB n q2.1 q2.2 I9 := by have z := md9; rw [e2] at z; exact z
                              have hbq : (linB S.tp n S.κ.ns b s).2 = .inr q2 := linT_f2 e1 tb_ e2
                              refine EV.l (lv' := [(0, _), (1, _), (2, _), (3, _), (4, _), (5, _)]) r_X11_book_134 rfl ?_
                              refine EV.l (lv' := [(0, _), (1, _), (2, _), (3, _), (4, _), (5, _)]) r_X11_book_136 rfl ?_
                              refine EV.o r_X11_book_137 (bpN (59) 59) ?_
                              refine EV.cu r_X11_book_139 (aV1 mt_182 la_106) (m_signB mb9 (by omega) (by omega)) (fun IQ eQ => ?_)
                              have eQ := eQ.symm
                              subst eQ
                              refine EV.l (lv' := [(0, _), (1, _), (2, _), (3, _), (4, _), (5, _)]) r_X11_book_142 rfl ?_
                              exact inl_no (hx67.bad hs (by omega) hbq) hz
                          · omega
                        · -- case
                          have bt1 : (b.2.testBit (lnA S.tp n S.κ.ns s).1).toNat ≤ 1 := Bool.toNat_le _
                          refine EV.l (lv' := [(0, _), (1, _), (2, _), (3, _), (4, _)]) r_X11_book_111 rfl ?_
                          refine EV.gR r_X11_book_112 la_106 ?_
                          refine EV.l (lv' := [(0, _), (1, _), (2, _), (3, _), (4, _)]) r_X11_book_115 rfl ?_
                          refine EV.iaN r_X11_book_117 la_128 ((congrFun (mo07.1 128 (by decide)) (lnA S.tp n S.κ.ns s).1).trans ((hx67.2.2.2.1 (lnA S.tp n S.κ.ns s).1 (by omega)).trans (if_pos tb_))) ?_
                          refine EV.o r_X11_book_118 (icZ (-1)) ?_
                          refine EV.nz2_eq r_X11_book_119 (fun h119 => ?_) (fun h119 => ?_)
                          · omega
                          · -- 119 f
                            refine EV.l (lv' := [(0, _), (1, _), (2, _), (3, _), (4, _)]) r_X11_book_122 rfl ?_
                            refine EV.o r_X11_book_123 (icN (2) (v := 2)) ?_
                            refine EV.l (lv' := [(0, _), (1, _), (2, _), (3, _), (4, _)]) r_X11_book_124 rfl ?_
                            refine EV.cu r_X11_book_125 (aV2 mt_174 la_106) (m_wrongG mg7 (by decide) (by decide) sn (by omega)) (fun I8 h8 => ?_)
                            obtain ⟨mb8, mo8⟩ := h8
                            have hbq := linT_tw (b := b) e1 tb_
                            refine EV.l (lv' := [(0, _), (1, _), (2, _), (3, _), (4, _)]) r_X11_book_128 rfl ?_
                            refine EV.o r_X11_book_129 (icN (0) (v := 0)) ?_
                            refine EV.o r_X11_book_130 (icN (1) (v := 1)) ?_
                            refine EV.cv r_X11_book_131 (aV2 mt_181 la_106) (m_numB mb8 (by omega) (by omega)) ?_
                            -- on
                            refine EV.l (lv' := [(0, _), (1, _), (2, _), (3, _), (4, _), (5, _)]) r_X11_book_134 rfl ?_
                            refine EV.l (lv' := [(0, _), (1, _), (2, _), (3, _), (4, _), (5, _)]) r_X11_book_136 rfl ?_
                            refine EV.o r_X11_book_137 (bpN (59) 59) ?_
                            refine EV.cu r_X11_book_139 (aV1 mt_182 la_106) (m_signB mb8 (by omega) (by omega)) (fun IQ eQ => ?_)
                            have eQ := eQ.symm
                            subst eQ
                            refine EV.l (lv' := [(0, _), (1, _), (2, _), (3, _), (4, _), (5, _)]) r_X11_book_142 rfl ?_
                            exact inl_no (hx67.bad hs (by omega) hbq) hz
                    · -- case
                      have mb7 : MB n q1.1 q1.2 I7 := by have z : MD S.tp n (lnA S.tp n S.κ.ns s).2 I7 := md7; rw [e1] at z; exact z
                      have hbq : (linB S.tp n S.κ.ns b s).2 = .inr q1 := linT_f1 e1
                      refine EV.l (lv' := [(0, _), (1, _), (2, _), (3, _), (4, _)]) r_X11_book_102 rfl ?_
                      refine EV.l (lv' := [(0, _), (1, _), (2, _), (3, _), (4, _)]) r_X11_book_104 rfl ?_
                      refine EV.cv r_X11_book_105 (aV0 mt_173 la_106) (m_fineB mb7 (by omega) (by omega)) ?_
                      refine EV.n0_eq r_X11_book_108 (fun h108 => ?_) (fun h108 => ?_)
                      · -- 108 t
                        refine EV.l (lv' := [(0, _), (1, _), (2, _), (3, _), (4, _)]) r_X11_book_128 rfl ?_
                        refine EV.o r_X11_book_129 (icN (0) (v := 0)) ?_
                        refine EV.o r_X11_book_130 (icN (1) (v := 1)) ?_
                        refine EV.cv r_X11_book_131 (aV2 mt_181 la_106) (m_numB mb7 (by omega) (by omega)) ?_
                        -- on
                        refine EV.l (lv' := [(0, _), (1, _), (2, _), (3, _), (4, _), (5, _)]) r_X11_book_134 rfl ?_
                        refine EV.l (lv' := [(0, _), (1, _), (2, _), (3, _), (4, _), (5, _)]) r_X11_book_136 rfl ?_
                        refine EV.o r_X11_book_137 (bpN (59) 59) ?_
                        refine EV.cu r_X11_book_139 (aV1 mt_182 la_106) (m_signB mb7 (by omega) (by omega)) (fun IQ eQ => ?_)
                        have eQ := eQ.symm
                        subst eQ
                        refine EV.l (lv' := [(0, _), (1, _), (2, _), (3, _), (4, _), (5, _)]) r_X11_book_142 rfl ?_
                        exact inl_no (hx67.bad hs (by omega) hbq) hz
                      · omega
              have h0 := L67 (0, (0, 0), (scp isB S.tp n 0), T)
              try dsimp only at h0
              refine EV.sub ?_ rfl ?_ (h0 ?_)
              · (try dsimp only) <;> (rfl)
              · (try dsimp only) <;> (rfl)
              · (try dsimp only) <;> (exact ⟨mgT, KF.rf, Nat.zero_le _, fun j hj => (hx46.2.2 j (by omega)).trans (if_neg (by rw [Nat.zero_testBit]; decide)).symm, BB.z, rfl⟩)
            · -- 49 f
              refine EV.l (lv' := [(0, _), (1, _), (2, _)]) r_X11_book_52 rfl ?_
              refine EV.gR r_X11_book_53 la_106 ?_
              refine EV.l (lv' := [(0, _), (1, _), (2, _)]) r_X11_book_56 rfl ?_
              refine EV.o r_X11_book_57 (icZ (-1)) ?_
              refine EV.iaSn r_X11_book_58 la_128 (fun IX eX => ?_)
              refine EV.l (lv' := [(0, _), (1, _), (2, _)]) r_X11_book_59 rfl ?_
              rw [inc_nI]
              refine EV.g r_X11_book_62 ?_
              refine EV.sub ?_ rfl ?_ (ih46 (i + 1, IX) ?_ ?_)
              · (try dsimp only) <;> (rfl)
              · (try dsimp only) <;> (rfl)
              · (try dsimp only) <;> (omega)
              · (try dsimp only) <;> (exact ⟨by omega, fun o ho => by rw [eX, wr_row ho]; exact hx46.2.1 o ho, by rw [eX]; exact wr_m1 hx46.2.2⟩)
          have h0 := L46 (0, I2)
          try dsimp only at h0
          refine EV.sub ?_ rfl ?_ (h0 ?_)
          · (try dsimp only) <;> (rfl)
          · (try dsimp only) <;> (rfl)
          · (try dsimp only) <;> (exact ⟨by decide, fun o _ => rfl, fun j hj => absurd hj (Nat.not_lt_zero j)⟩)
        · omega
