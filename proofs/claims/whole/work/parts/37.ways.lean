/-! The model's ways in. -/
theorem MC.fr0 {κ : CT} {I I' : Nat → Nat → Int32} (h : MC κ I) (e0 : ∀ j, j ≠ 0 → I' 106 j = I 106 j) (e : ∀ x, 113 ≤ x → x ≤ 116 → I' x = I x) : MC κ I' := by
  unfold MC at h ⊢
  rw [e0 22 (by decide), e0 23 (by decide), e0 24 (by decide), e0 25 (by decide), e 113 (by omega) (by omega), e 114 (by omega) (by omega), e 115 (by omega) (by omega), e 116 (by omega) (by omega)]
  exact h
theorem ML.fr0 {l : LW} {I I' : Nat → Nat → Int32} (h : ML l I) (e0 : ∀ j, j ≠ 0 → I' 106 j = I 106 j) (h2 : I' 119 = I 119) (h3 : I' 120 = I 120) : ML l I' := h.elim (fun h => Or.inl ⟨by rw [e0 32 (by decide)]; exact h.n, by rw [h2]; exact h.w, by rw [h3]; exact h.o⟩) (fun h => Or.inr ⟨by rw [e0 32 (by decide)]; exact h.n, h.n1, h.w, h.o⟩)
theorem cpy_row {I : Nat → Nat → Int32} {q p o f n x : Nat} (h : x ≠ q) : cpy I q p o f n x = I x := by
  funext k
  unfold cpy
  rw [if_neg (fun z => h z.1)]
theorem cpy_in {I : Nat → Nat → Int32} {q o n k : Nat} (h : k < n) : cpy I q 0 o 0 n q k = I o k := by
  unfold cpy
  rw [if_pos ⟨rfl, Nat.zero_le _, by omega⟩, Nat.sub_zero, Nat.zero_add]
/-- the row that is asked is a copy of the row of now -/
theorem MR.take {κ : CT} {η : HS} {I : Nat → Nat → Int32} (h : MR 125 κ η I) (cb : CB κ) : MR 126 κ η (cpy I 126 0 125 0 31) := by
  have h1 := cb.ns
  have h2 := cb.nb
  have h3 := cb.nc
  refine ⟨fun j hj => ?_, fun j hj => ?_, fun j hj => ?_, fun j hj => ?_, fun j hj => ?_, ?_⟩ <;> rw [cpy_in (by omega)]
  · exact h.sa j hj
  · exact h.nt j hj
  · exact h.be j hj
  · exact h.le j hj
  · exact h.cr j hj
  · exact h.mi
theorem i_nle {a b : Int32} (h : ¬ a < b) : b ≤ a := by rw [Int32.le_iff_toInt_le]; rw [Int32.lt_iff_toInt_lt] at h; omega
theorem r_X11_copies_0 : RW M_X11_copies 0 (.iconst 0) 1 0 0 1 := ⟨rfl, rfl⟩
theorem r_X11_copies_1 : RW M_X11_copies 1 (.istore 4) 2 0 0 3 := ⟨rfl, rfl⟩
theorem r_X11_copies_3 : RW M_X11_copies 3 (.iload 4) 2 0 0 5 := ⟨rfl, rfl⟩
theorem r_X11_copies_5 : RW M_X11_copies 5 (.iload_n 3) 1 0 0 6 := ⟨rfl, rfl⟩
theorem r_X11_copies_6 : RW M_X11_copies 6 (.if_icmp .ge 17) 3 23 0 9 := ⟨rfl, rfl⟩
theorem r_X11_copies_9 : RW M_X11_copies 9 (.aload_n 2) 1 0 0 10 := ⟨rfl, rfl⟩
theorem r_X11_copies_10 : RW M_X11_copies 10 (.iload 4) 2 0 0 12 := ⟨rfl, rfl⟩
theorem r_X11_copies_12 : RW M_X11_copies 12 (.aload_n 1) 1 0 0 13 := ⟨rfl, rfl⟩
theorem r_X11_copies_13 : RW M_X11_copies 13 (.iload 4) 2 0 0 15 := ⟨rfl, rfl⟩
theorem r_X11_copies_15 : RW M_X11_copies 15 (.iaload) 1 0 0 16 := ⟨rfl, rfl⟩
theorem r_X11_copies_16 : RW M_X11_copies 16 (.iastore) 1 0 0 17 := ⟨rfl, rfl⟩
theorem r_X11_copies_17 : RW M_X11_copies 17 (.iinc 4 1) 3 0 0 20 := ⟨rfl, rfl⟩
theorem r_X11_copies_20 : RW M_X11_copies 20 (.goto (-17)) 3 3 0 23 := ⟨rfl, rfl⟩
theorem r_X11_copies_23 : RW M_X11_copies 23 (.return_) 1 0 0 24 := ⟨rfl, rfl⟩
theorem r_X11_may_0 : RW M_X11_may 0 (.iload_n 1) 1 0 0 1 := ⟨rfl, rfl⟩
theorem r_X11_may_1 : RW M_X11_may 1 (.ifCond .ne 25) 3 26 0 4 := ⟨rfl, rfl⟩
theorem r_X11_may_4 : RW M_X11_may 4 (.aload_n 0) 1 0 0 5 := ⟨rfl, rfl⟩
theorem r_X11_may_5 : RW M_X11_may 5 (.getfield 3) 3 11 0 8 := ⟨rfl, rfl⟩
theorem r_X11_may_8 : RW M_X11_may 8 (.ifCond .ne 18) 3 26 0 11 := ⟨rfl, rfl⟩
theorem r_X11_may_11 : RW M_X11_may 11 (.aload_n 0) 1 0 0 12 := ⟨rfl, rfl⟩
theorem r_X11_may_12 : RW M_X11_may 12 (.iload_n 2) 1 0 0 13 := ⟨rfl, rfl⟩
theorem r_X11_may_13 : RW M_X11_may 13 (.putfield 3) 3 11 0 16 := ⟨rfl, rfl⟩
theorem r_X11_may_16 : RW M_X11_may 16 (.aload_n 0) 1 0 0 17 := ⟨rfl, rfl⟩
theorem r_X11_may_17 : RW M_X11_may 17 (.getfield 7) 3 11 1 20 := ⟨rfl, rfl⟩
theorem r_X11_may_20 : RW M_X11_may 20 (.iload_n 3) 1 0 0 21 := ⟨rfl, rfl⟩
theorem r_X11_may_21 : RW M_X11_may 21 (.dup2) 1 0 0 22 := ⟨rfl, rfl⟩
theorem r_X11_may_22 : RW M_X11_may 22 (.iaload) 1 0 0 23 := ⟨rfl, rfl⟩
theorem r_X11_may_23 : RW M_X11_may 23 (.iconst 1) 1 0 0 24 := ⟨rfl, rfl⟩
theorem r_X11_may_24 : RW M_X11_may 24 (.iadd) 1 0 0 25 := ⟨rfl, rfl⟩
theorem r_X11_may_25 : RW M_X11_may 25 (.iastore) 1 0 0 26 := ⟨rfl, rfl⟩
theorem r_X11_may_26 : RW M_X11_may 26 (.aload_n 0) 1 0 0 27 := ⟨rfl, rfl⟩
theorem r_X11_may_27 : RW M_X11_may 27 (.getfield 3) 3 11 0 30 := ⟨rfl, rfl⟩
theorem r_X11_may_30 : RW M_X11_may 30 (.ifCond .ne 7) 3 37 0 33 := ⟨rfl, rfl⟩
theorem r_X11_may_33 : RW M_X11_may 33 (.iconst 1) 1 0 0 34 := ⟨rfl, rfl⟩
theorem r_X11_may_34 : RW M_X11_may 34 (.goto 4) 3 38 0 37 := ⟨rfl, rfl⟩
theorem r_X11_may_37 : RW M_X11_may 37 (.iconst 0) 1 0 0 38 := ⟨rfl, rfl⟩
theorem r_X11_may_38 : RW M_X11_may 38 (.ireturn) 1 0 0 39 := ⟨rfl, rfl⟩
theorem r_X11_take_0 : RW M_X11_take 0 (.aload_n 0) 1 0 0 1 := ⟨rfl, rfl⟩
theorem r_X11_take_1 : RW M_X11_take 1 (.aload_n 0) 1 0 0 2 := ⟨rfl, rfl⟩
theorem r_X11_take_2 : RW M_X11_take 2 (.getfield 71) 3 11 42 5 := ⟨rfl, rfl⟩
theorem r_X11_take_5 : RW M_X11_take 5 (.aload_n 0) 1 0 0 6 := ⟨rfl, rfl⟩
theorem r_X11_take_6 : RW M_X11_take 6 (.getfield 74) 3 11 43 9 := ⟨rfl, rfl⟩
theorem r_X11_take_9 : RW M_X11_take 9 (.bipush 31) 2 0 0 11 := ⟨rfl, rfl⟩
theorem r_X11_take_11 : RW M_X11_take 11 (.invokevirtual 178) 3 187 0 14 := ⟨rfl, rfl⟩
theorem r_X11_take_14 : RW M_X11_take 14 (.return_) 1 0 0 15 := ⟨rfl, rfl⟩
theorem m_within {d : Nat} {I : Nat → Nat → Int32} {J : Nat → Nat → Int64} {v a b : Int32} (hd : 1 ≤ d) : RV d 170 [.int v, .int a, .int b] I J (bI (decide (a ≤ v ∧ v ≤ b))) := by
  refine RV.in (d0 := 0) hd mt_170 (Nat.le_of_ble_eq_true rfl) (fun d' hd' => ?_)
  show EV none M_X11_within d' 0 [(0, .int v), (1, .int a), (2, .int b)] [] (hp I J) _
  refine EV.l (lv' := [(0, _), (1, _), (2, _)]) r_X11_within_0 rfl ?_
  refine EV.l (lv' := [(0, _), (1, _), (2, _)]) r_X11_within_1 rfl ?_
  refine EV.r2_lt r_X11_within_2 (fun h2 => ?_) (fun h2 => ?_)
  · -- 2 t
    refine EV.o r_X11_within_14 (icN (0) (v := 0)) ?_
    exact EV.rv r_X11_within_15 (by first | (rw [show decide (a ≤ v ∧ v ≤ b) = true from decide_eq_true ⟨i_nle h2, i_nle h7⟩]; rfl) | (rw [show decide (a ≤ v ∧ v ≤ b) = false from decide_eq_false (fun z => i_nlt z.1 h2)]; rfl) | (rw [show decide (a ≤ v ∧ v ≤ b) = false from decide_eq_false (fun z => i_nlt z.2 h7)]; rfl))
  · -- 2 f
    refine EV.l (lv' := [(0, _), (1, _), (2, _)]) r_X11_within_5 rfl ?_
    refine EV.l (lv' := [(0, _), (1, _), (2, _)]) r_X11_within_6 rfl ?_
    refine EV.r2_gt r_X11_within_7 (fun h7 => ?_) (fun h7 => ?_)
    · -- 7 t
      refine EV.o r_X11_within_14 (icN (0) (v := 0)) ?_
      exact EV.rv r_X11_within_15 (by first | (rw [show decide (a ≤ v ∧ v ≤ b) = true from decide_eq_true ⟨i_nle h2, i_nle h7⟩]; rfl) | (rw [show decide (a ≤ v ∧ v ≤ b) = false from decide_eq_false (fun z => i_nlt z.1 h2)]; rfl) | (rw [show decide (a ≤ v ∧ v ≤ b) = false from decide_eq_false (fun z => i_nlt z.2 h7)]; rfl))
    · -- 7 f
      refine EV.o r_X11_within_10 (icN (1) (v := 1)) ?_
      refine EV.g r_X11_within_11 ?_
      exact EV.rv r_X11_within_15 (by first | (rw [show decide (a ≤ v ∧ v ≤ b) = true from decide_eq_true ⟨i_nle h2, i_nle h7⟩]; rfl) | (rw [show decide (a ≤ v ∧ v ≤ b) = false from decide_eq_false (fun z => i_nlt z.1 h2)]; rfl) | (rw [show decide (a ≤ v ∧ v ≤ b) = false from decide_eq_false (fun z => i_nlt z.2 h7)]; rfl))
theorem m_may1 {d : Nat} {I : Nat → Nat → Int32} {J : Nat → Nat → Int64} {c k : Int32} (h0 : I 106 0 = nI 0) (hd : 1 ≤ d) : RV d 169 [.ref 106, .int (nI 1), .int c, .int k] I J (bI true) := by
  refine RV.in (d0 := 0) hd mt_169 (Nat.le_of_ble_eq_true rfl) (fun d' hd' => ?_)
  show EV none M_X11_may d' 0 [(0, .ref 106), (1, .int (nI 1)), (2, .int c), (3, .int k)] [] (hp I J) _
  refine EV.l (lv' := [(0, _), (1, _), (2, _), (3, _)]) r_X11_may_0 rfl ?_
  refine EV.n0_ne r_X11_may_1 (fun h1 => ?_) (fun h1 => ?_)
  · -- 1 t
    refine EV.l (lv' := [(0, _), (1, _), (2, _), (3, _)]) r_X11_may_26 rfl ?_
    refine EV.getV r_X11_may_27 la_106 (h0) ?_
    refine EV.n0_ne r_X11_may_30 (fun h30 => ?_) (fun h30 => ?_)
    · omega
    · -- 30 f
      refine EV.o r_X11_may_33 (icN (1) (v := 1)) ?_
      refine EV.g r_X11_may_34 ?_
      exact EV.rv r_X11_may_38 (rfl)
  · omega
theorem m_may0 {d : Nat} {I : Nat → Nat → Int32} {J : Nat → Nat → Int64} {c k : Nat} (h0 : I 106 0 = nI 0) (hc : 1 ≤ c) (hc2 : c < 3) (hk : k < 2) (hd : 1 ≤ d) : RI d 169 [.ref 106, .int (nI 0), .int (nI c), .int (nI k)] I J (fun v I' => v = nI 0 ∧ I' = wr (wr I 106 0 (nI c)) 107 k (I 107 k + nI 1)) := by
  refine RI.in (d0 := 0) hd mt_169 (Nat.le_of_ble_eq_true rfl) (fun d' hd' => ?_)
  show EV none M_X11_may d' 0 [(0, .ref 106), (1, .int (nI 0)), (2, .int (nI c)), (3, .int (nI k))] [] (hp I J) _
  refine EV.l (lv' := [(0, _), (1, _), (2, _), (3, _)]) r_X11_may_0 rfl ?_
  refine EV.n0_ne r_X11_may_1 (fun h1 => ?_) (fun h1 => ?_)
  · omega
  · -- 1 f
    refine EV.l (lv' := [(0, _), (1, _), (2, _), (3, _)]) r_X11_may_4 rfl ?_
    refine EV.getV r_X11_may_5 la_106 (h0) ?_
    refine EV.n0_ne r_X11_may_8 (fun h8 => ?_) (fun h8 => ?_)
    · omega
    · -- 8 f
      refine EV.l (lv' := [(0, _), (1, _), (2, _), (3, _)]) r_X11_may_11 rfl ?_
      refine EV.l (lv' := [(0, _), (1, _), (2, _), (3, _)]) r_X11_may_12 rfl ?_
      refine EV.pI r_X11_may_13 la_106 ?_
      refine EV.l (lv' := [(0, _), (1, _), (2, _), (3, _)]) r_X11_may_16 rfl ?_
      refine EV.gR r_X11_may_17 la_106 ?_
      refine EV.l (lv' := [(0, _), (1, _), (2, _), (3, _)]) r_X11_may_20 rfl ?_
      refine EV.o r_X11_may_21 rfl ?_
      refine EV.iaN r_X11_may_22 la_107 rfl ?_
      refine EV.o r_X11_may_23 (icN (1) (v := 1)) ?_
      refine EV.o r_X11_may_24 rfl ?_
      refine EV.iaS r_X11_may_25 la_107 ?_
      refine EV.l (lv' := [(0, _), (1, _), (2, _), (3, _)]) r_X11_may_26 rfl ?_
      refine EV.getV r_X11_may_27 la_106 (show wr (wr I 106 0 (nI c)) 107 k _ 106 0 = nI c from (congrFun (wr_row (by decide)) 0).trans wr_same) ?_
      refine EV.n0_ne r_X11_may_30 (fun h30 => ?_) (fun h30 => ?_)
      · -- 30 t
        refine EV.o r_X11_may_37 (icN (0) (v := 0)) ?_
        exact EV.ri r_X11_may_38 (⟨rfl, rfl⟩)
      · omega
theorem m_copies {d : Nat} {I : Nat → Nat → Int32} {J : Nat → Nat → Int64} {p q n1 n2 m : Nat} (hp1 : LAYO[p]? = some (.inl n1)) (hq1 : LAYO[q]? = some (.inl n2)) (hp3 : p < spc) (hq3 : q < spc) (hm1 : m ≤ n1) (hm2 : m ≤ n2) (hn1 : n1 < 100000) (hn2 : n2 < 100000) (hpq : p ≠ q) (hd : 1 ≤ d) : RU d 187 [.ref 106, .ref p, .ref q, .int (nI m)] I J (fun I' => I' = cpy I q 0 p 0 m) := by
  refine RU.in (d0 := 0) hd mt_187 (Nat.le_of_ble_eq_true rfl) (fun d' hd' => ?_)
  show EV none M_X11_copies d' 0 [(0, .ref 106), (1, .ref p), (2, .ref q), (3, .int (nI m))] [] (hp I J) _
  refine EV.o r_X11_copies_0 (icN (0) (v := 0)) ?_
  refine EV.l (lv' := [(0, _), (1, _), (2, _), (3, _), (4, _)]) r_X11_copies_1 rfl ?_
  have L3 : ∀ y_ : Nat, (fun i => i ≤ m → EV none M_X11_copies d' 3 [(0, .ref 106), (1, .ref p), (2, .ref q), (3, .int (nI m)), (4, .int (nI i))] [] (hp (cpy I q 0 p 0 i) J) (QU J (fun I' => I' = cpy I q 0 p 0 m))) y_ := by
    refine ev_loop (fun i => m - i) ?_
    intro i ih3 hx3
    try dsimp only at ih3
    try dsimp only at hx3
    try dsimp only
    refine EV.l (lv' := [(0, _), (1, _), (2, _), (3, _), (4, _)]) r_X11_copies_3 rfl ?_
    refine EV.l (lv' := [(0, _), (1, _), (2, _), (3, _), (4, _)]) r_X11_copies_5 rfl ?_
    refine EV.n2_ge r_X11_copies_6 (fun h6 => ?_) (fun h6 => ?_)
    · -- 6 t
      exact EV.ru r_X11_copies_23 ((by rw [show m = i by omega]))
    · -- 6 f
      refine EV.l (lv' := [(0, _), (1, _), (2, _), (3, _), (4, _)]) r_X11_copies_9 rfl ?_
      refine EV.l (lv' := [(0, _), (1, _), (2, _), (3, _), (4, _)]) r_X11_copies_10 rfl ?_
      refine EV.l (lv' := [(0, _), (1, _), (2, _), (3, _), (4, _)]) r_X11_copies_12 rfl ?_
      refine EV.l (lv' := [(0, _), (1, _), (2, _), (3, _), (4, _)]) r_X11_copies_13 rfl ?_
      refine EV.iaN r_X11_copies_15 hp1 rfl ?_ (by omega) (by omega) (hp3)
      refine EV.iaSn r_X11_copies_16 hq1 (fun I2 e16 => ?_)
      refine EV.l (lv' := [(0, _), (1, _), (2, _), (3, _), (4, _)]) r_X11_copies_17 rfl ?_
      rw [inc_nI]
      refine EV.g r_X11_copies_20 ?_
      refine EV.sub ?_ rfl ?_ (ih3 (i + 1) ?_ ?_)
      · rfl
      · rw [e16, cpy0 hpq]
      · omega
      · omega
  have h0 := L3 (0)
  try dsimp only at h0
  refine EV.sub ?_ rfl ?_ (h0 ?_)
  · rfl
  · rw [cpy_zero]
  · omega
theorem m_take {d : Nat} {I : Nat → Nat → Int32} {J : Nat → Nat → Int64}  (hd : 2 ≤ d) : RU d 212 [.ref 106] I J (fun I' => I' = cpy I 126 0 125 0 31) := by
  refine RU.in (d0 := 1) hd mt_212 (Nat.le_of_ble_eq_true rfl) (fun d' hd' => ?_)
  show EV none M_X11_take d' 0 [(0, .ref 106)] [] (hp I J) _
  refine EV.l (lv' := [(0, _)]) r_X11_take_0 rfl ?_
  refine EV.l (lv' := [(0, _)]) r_X11_take_1 rfl ?_
  refine EV.gR r_X11_take_2 la_106 ?_
  refine EV.l (lv' := [(0, _)]) r_X11_take_5 rfl ?_
  refine EV.gR r_X11_take_6 la_106 ?_
  refine EV.o r_X11_take_9 (bpN (31) 31) ?_
  refine EV.cu r_X11_take_11 (aV3 mt_187 la_106) (m_copies la_125 la_126 (by decide) (by decide) (by decide) (by decide) (by decide) (by decide) (by decide) (by omega)) (fun I2 e2 => ?_)
  subst e2
  exact EV.ru r_X11_take_14 (rfl)
