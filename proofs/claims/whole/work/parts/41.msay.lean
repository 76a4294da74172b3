/-! The model's FOLLOWS, SAYING, CLEAR. -/
theorem in_t {i n : Nat} (h : i < n) : (decide (0 ≤ i) && decide (i ≤ n - 1)) = true := by rw [decide_eq_true (Nat.zero_le i), decide_eq_true (by omega : i ≤ n - 1)]; rfl
theorem wr0_mc {κ : CT} {I : Nat → Nat → Int32} {v : Int32} (h : MC κ I) : MC κ (wr I 106 0 v) := h.fr0 (fun _ hj => wr_ne (Or.inr hj)) (fun x h1 h2 => wr_row (by omega))
theorem cnt_bit {κ : CT} {η : HS} {i : Nat} (h : i < κ.ns) : (cnt κ η).testBit i = doesC κ η i := by
  unfold cnt
  rw [mk_bit, decide_eq_true h, Bool.true_and]
theorem cnt_lt {κ : CT} {η : HS} (c : CB κ) : cnt κ η < 512 := mk_ns c _
theorem r_X11_clear_0 : RW M_X11_clear 0 (.aload_n 0) 1 0 0 1 := ⟨rfl, rfl⟩
theorem r_X11_clear_1 : RW M_X11_clear 1 (.iconst 0) 1 0 0 2 := ⟨rfl, rfl⟩
theorem r_X11_clear_2 : RW M_X11_clear 2 (.putfield 3) 3 11 0 5 := ⟨rfl, rfl⟩
theorem r_X11_clear_5 : RW M_X11_clear 5 (.aload_n 0) 1 0 0 6 := ⟨rfl, rfl⟩
theorem r_X11_clear_6 : RW M_X11_clear 6 (.invokevirtual 322) 3 212 0 9 := ⟨rfl, rfl⟩
theorem r_X11_clear_9 : RW M_X11_clear 9 (.iconst 0) 1 0 0 10 := ⟨rfl, rfl⟩
theorem r_X11_clear_10 : RW M_X11_clear 10 (.istore_n 1) 1 0 0 11 := ⟨rfl, rfl⟩
theorem r_X11_clear_11 : RW M_X11_clear 11 (.aload_n 0) 1 0 0 12 := ⟨rfl, rfl⟩
theorem r_X11_clear_12 : RW M_X11_clear 12 (.getfield 74) 3 11 43 15 := ⟨rfl, rfl⟩
theorem r_X11_clear_15 : RW M_X11_clear 15 (.bipush 30) 2 0 0 17 := ⟨rfl, rfl⟩
theorem r_X11_clear_17 : RW M_X11_clear 17 (.iaload) 1 0 0 18 := ⟨rfl, rfl⟩
theorem r_X11_clear_18 : RW M_X11_clear 18 (.istore_n 2) 1 0 0 19 := ⟨rfl, rfl⟩
theorem r_X11_clear_19 : RW M_X11_clear 19 (.iload_n 2) 1 0 0 20 := ⟨rfl, rfl⟩
theorem r_X11_clear_20 : RW M_X11_clear 20 (.sipush 499) 3 0 0 23 := ⟨rfl, rfl⟩
theorem r_X11_clear_23 : RW M_X11_clear 23 (.if_icmp .gt 25) 3 48 0 26 := ⟨rfl, rfl⟩
theorem r_X11_clear_26 : RW M_X11_clear 26 (.iload_n 1) 1 0 0 27 := ⟨rfl, rfl⟩
theorem r_X11_clear_27 : RW M_X11_clear 27 (.aload_n 0) 1 0 0 28 := ⟨rfl, rfl⟩
theorem r_X11_clear_28 : RW M_X11_clear 28 (.iload_n 2) 1 0 0 29 := ⟨rfl, rfl⟩
theorem r_X11_clear_29 : RW M_X11_clear 29 (.invokevirtual 401) 3 220 0 32 := ⟨rfl, rfl⟩
theorem r_X11_clear_32 : RW M_X11_clear 32 (.ifCond .ne 7) 3 39 0 35 := ⟨rfl, rfl⟩
theorem r_X11_clear_35 : RW M_X11_clear 35 (.iconst 1) 1 0 0 36 := ⟨rfl, rfl⟩
theorem r_X11_clear_36 : RW M_X11_clear 36 (.goto 4) 3 40 0 39 := ⟨rfl, rfl⟩
theorem r_X11_clear_39 : RW M_X11_clear 39 (.iconst 0) 1 0 0 40 := ⟨rfl, rfl⟩
theorem r_X11_clear_40 : RW M_X11_clear 40 (.iadd) 1 0 0 41 := ⟨rfl, rfl⟩
theorem r_X11_clear_41 : RW M_X11_clear 41 (.istore_n 1) 1 0 0 42 := ⟨rfl, rfl⟩
theorem r_X11_clear_42 : RW M_X11_clear 42 (.iinc 2 1) 3 0 0 45 := ⟨rfl, rfl⟩
theorem r_X11_clear_45 : RW M_X11_clear 45 (.goto (-26)) 3 19 0 48 := ⟨rfl, rfl⟩
theorem r_X11_clear_48 : RW M_X11_clear 48 (.iload_n 1) 1 0 0 49 := ⟨rfl, rfl⟩
theorem r_X11_clear_49 : RW M_X11_clear 49 (.ireturn) 1 0 0 50 := ⟨rfl, rfl⟩
theorem r_X11_isSaying_0 : RW M_X11_isSaying 0 (.aload_n 0) 1 0 0 1 := ⟨rfl, rfl⟩
theorem r_X11_isSaying_1 : RW M_X11_isSaying 1 (.iload_n 1) 1 0 0 2 := ⟨rfl, rfl⟩
theorem r_X11_isSaying_2 : RW M_X11_isSaying 2 (.iconst 0) 1 0 0 3 := ⟨rfl, rfl⟩
theorem r_X11_isSaying_3 : RW M_X11_isSaying 3 (.aload_n 0) 1 0 0 4 := ⟨rfl, rfl⟩
theorem r_X11_isSaying_4 : RW M_X11_isSaying 4 (.getfield 166) 3 11 22 7 := ⟨rfl, rfl⟩
theorem r_X11_isSaying_7 : RW M_X11_isSaying 7 (.iconst 1) 1 0 0 8 := ⟨rfl, rfl⟩
theorem r_X11_isSaying_8 : RW M_X11_isSaying 8 (.isub) 1 0 0 9 := ⟨rfl, rfl⟩
theorem r_X11_isSaying_9 : RW M_X11_isSaying 9 (.invokestatic 392) 3 170 0 12 := ⟨rfl, rfl⟩
theorem r_X11_isSaying_12 : RW M_X11_isSaying 12 (.iload_n 2) 1 0 0 13 := ⟨rfl, rfl⟩
theorem r_X11_isSaying_13 : RW M_X11_isSaying 13 (.iconst 0) 1 0 0 14 := ⟨rfl, rfl⟩
theorem r_X11_isSaying_14 : RW M_X11_isSaying 14 (.invokevirtual 210) 3 169 0 17 := ⟨rfl, rfl⟩
theorem r_X11_isSaying_17 : RW M_X11_isSaying 17 (.ireturn) 1 0 0 18 := ⟨rfl, rfl⟩
theorem r_X11_saying_0 : RW M_X11_saying 0 (.aload_n 0) 1 0 0 1 := ⟨rfl, rfl⟩
theorem r_X11_saying_1 : RW M_X11_saying 1 (.iconst 0) 1 0 0 2 := ⟨rfl, rfl⟩
theorem r_X11_saying_2 : RW M_X11_saying 2 (.putfield 3) 3 11 0 5 := ⟨rfl, rfl⟩
theorem r_X11_saying_5 : RW M_X11_saying 5 (.aload_n 0) 1 0 0 6 := ⟨rfl, rfl⟩
theorem r_X11_saying_6 : RW M_X11_saying 6 (.iload_n 1) 1 0 0 7 := ⟨rfl, rfl⟩
theorem r_X11_saying_7 : RW M_X11_saying 7 (.iconst 1) 1 0 0 8 := ⟨rfl, rfl⟩
theorem r_X11_saying_8 : RW M_X11_saying 8 (.invokevirtual 407) 3 238 0 11 := ⟨rfl, rfl⟩
theorem r_X11_saying_11 : RW M_X11_saying 11 (.ifCond .eq 18) 3 29 0 14 := ⟨rfl, rfl⟩
theorem r_X11_saying_14 : RW M_X11_saying 14 (.aload_n 0) 1 0 0 15 := ⟨rfl, rfl⟩
theorem r_X11_saying_15 : RW M_X11_saying 15 (.iload_n 2) 1 0 0 16 := ⟨rfl, rfl⟩
theorem r_X11_saying_16 : RW M_X11_saying 16 (.iconst 0) 1 0 0 17 := ⟨rfl, rfl⟩
theorem r_X11_saying_17 : RW M_X11_saying 17 (.iconst 5) 1 0 0 18 := ⟨rfl, rfl⟩
theorem r_X11_saying_18 : RW M_X11_saying 18 (.invokestatic 392) 3 170 0 21 := ⟨rfl, rfl⟩
theorem r_X11_saying_21 : RW M_X11_saying 21 (.iconst 2) 1 0 0 22 := ⟨rfl, rfl⟩
theorem r_X11_saying_22 : RW M_X11_saying 22 (.iconst 1) 1 0 0 23 := ⟨rfl, rfl⟩
theorem r_X11_saying_23 : RW M_X11_saying 23 (.invokevirtual 210) 3 169 0 26 := ⟨rfl, rfl⟩
theorem r_X11_saying_26 : RW M_X11_saying 26 (.ifCond .ne 5) 3 31 0 29 := ⟨rfl, rfl⟩
theorem r_X11_saying_31 : RW M_X11_saying 31 (.aload_n 0) 1 0 0 32 := ⟨rfl, rfl⟩
theorem r_X11_saying_32 : RW M_X11_saying 32 (.invokevirtual 322) 3 212 0 35 := ⟨rfl, rfl⟩
theorem r_X11_saying_35 : RW M_X11_saying 35 (.iload_n 2) 1 0 0 36 := ⟨rfl, rfl⟩
theorem r_X11_saying_36 : RW M_X11_saying 36 (.iconst 3) 1 0 0 37 := ⟨rfl, rfl⟩
theorem r_X11_saying_37 : RW M_X11_saying 37 (.if_icmp .ge 29) 3 66 0 40 := ⟨rfl, rfl⟩
theorem r_X11_saying_40 : RW M_X11_saying 40 (.iload_n 2) 1 0 0 41 := ⟨rfl, rfl⟩
theorem r_X11_saying_41 : RW M_X11_saying 41 (.ifCond .ne 14) 3 55 0 44 := ⟨rfl, rfl⟩
theorem r_X11_saying_44 : RW M_X11_saying 44 (.aload_n 0) 1 0 0 45 := ⟨rfl, rfl⟩
theorem r_X11_saying_45 : RW M_X11_saying 45 (.getfield 74) 3 11 43 48 := ⟨rfl, rfl⟩
theorem r_X11_saying_48 : RW M_X11_saying 48 (.iconst 0) 1 0 0 49 := ⟨rfl, rfl⟩
theorem r_X11_saying_49 : RW M_X11_saying 49 (.iload_n 1) 1 0 0 50 := ⟨rfl, rfl⟩
theorem r_X11_saying_50 : RW M_X11_saying 50 (.iadd) 1 0 0 51 := ⟨rfl, rfl⟩
theorem r_X11_saying_51 : RW M_X11_saying 51 (.iaload) 1 0 0 52 := ⟨rfl, rfl⟩
theorem r_X11_saying_52 : RW M_X11_saying 52 (.goto 13) 3 65 0 55 := ⟨rfl, rfl⟩
theorem r_X11_saying_55 : RW M_X11_saying 55 (.aload_n 0) 1 0 0 56 := ⟨rfl, rfl⟩
theorem r_X11_saying_56 : RW M_X11_saying 56 (.getfield 35) 3 11 14 59 := ⟨rfl, rfl⟩
theorem r_X11_saying_59 : RW M_X11_saying 59 (.iconst 3) 1 0 0 60 := ⟨rfl, rfl⟩
theorem r_X11_saying_60 : RW M_X11_saying 60 (.iload_n 1) 1 0 0 61 := ⟨rfl, rfl⟩
theorem r_X11_saying_61 : RW M_X11_saying 61 (.imul) 1 0 0 62 := ⟨rfl, rfl⟩
theorem r_X11_saying_62 : RW M_X11_saying 62 (.iload_n 2) 1 0 0 63 := ⟨rfl, rfl⟩
theorem r_X11_saying_63 : RW M_X11_saying 63 (.iadd) 1 0 0 64 := ⟨rfl, rfl⟩
theorem r_X11_saying_64 : RW M_X11_saying 64 (.iaload) 1 0 0 65 := ⟨rfl, rfl⟩
theorem r_X11_saying_65 : RW M_X11_saying 65 (.ireturn) 1 0 0 66 := ⟨rfl, rfl⟩
theorem r_X11_saying_66 : RW M_X11_saying 66 (.iload_n 2) 1 0 0 67 := ⟨rfl, rfl⟩
theorem r_X11_saying_67 : RW M_X11_saying 67 (.iconst 3) 1 0 0 68 := ⟨rfl, rfl⟩
theorem r_X11_saying_68 : RW M_X11_saying 68 (.if_icmp .ne 14) 3 82 0 71 := ⟨rfl, rfl⟩
theorem r_X11_saying_71 : RW M_X11_saying 71 (.aload_n 0) 1 0 0 72 := ⟨rfl, rfl⟩
theorem r_X11_saying_72 : RW M_X11_saying 72 (.invokevirtual 370) 3 221 0 75 := ⟨rfl, rfl⟩
theorem r_X11_saying_75 : RW M_X11_saying 75 (.iload_n 1) 1 0 0 76 := ⟨rfl, rfl⟩
theorem r_X11_saying_76 : RW M_X11_saying 76 (.ishr) 1 0 0 77 := ⟨rfl, rfl⟩
theorem r_X11_saying_77 : RW M_X11_saying 77 (.iconst 1) 1 0 0 78 := ⟨rfl, rfl⟩
theorem r_X11_saying_78 : RW M_X11_saying 78 (.iand) 1 0 0 79 := ⟨rfl, rfl⟩
theorem r_X11_saying_79 : RW M_X11_saying 79 (.goto 32) 3 111 0 82 := ⟨rfl, rfl⟩
theorem r_X11_saying_82 : RW M_X11_saying 82 (.iload_n 2) 1 0 0 83 := ⟨rfl, rfl⟩
theorem r_X11_saying_83 : RW M_X11_saying 83 (.iconst 4) 1 0 0 84 := ⟨rfl, rfl⟩
theorem r_X11_saying_84 : RW M_X11_saying 84 (.if_icmp .ne 15) 3 99 0 87 := ⟨rfl, rfl⟩
theorem r_X11_saying_87 : RW M_X11_saying 87 (.aload_n 0) 1 0 0 88 := ⟨rfl, rfl⟩
theorem r_X11_saying_88 : RW M_X11_saying 88 (.getfield 74) 3 11 43 91 := ⟨rfl, rfl⟩
theorem r_X11_saying_91 : RW M_X11_saying 91 (.bipush 9) 2 0 0 93 := ⟨rfl, rfl⟩
theorem r_X11_saying_93 : RW M_X11_saying 93 (.iload_n 1) 1 0 0 94 := ⟨rfl, rfl⟩
theorem r_X11_saying_94 : RW M_X11_saying 94 (.iadd) 1 0 0 95 := ⟨rfl, rfl⟩
theorem r_X11_saying_95 : RW M_X11_saying 95 (.iaload) 1 0 0 96 := ⟨rfl, rfl⟩
theorem r_X11_saying_96 : RW M_X11_saying 96 (.goto 15) 3 111 0 99 := ⟨rfl, rfl⟩
theorem r_X11_saying_99 : RW M_X11_saying 99 (.aload_n 0) 1 0 0 100 := ⟨rfl, rfl⟩
theorem r_X11_saying_100 : RW M_X11_saying 100 (.aload_n 0) 1 0 0 101 := ⟨rfl, rfl⟩
theorem r_X11_saying_101 : RW M_X11_saying 101 (.getfield 74) 3 11 43 104 := ⟨rfl, rfl⟩
theorem r_X11_saying_104 : RW M_X11_saying 104 (.iconst 0) 1 0 0 105 := ⟨rfl, rfl⟩
theorem r_X11_saying_105 : RW M_X11_saying 105 (.iload_n 1) 1 0 0 106 := ⟨rfl, rfl⟩
theorem r_X11_saying_106 : RW M_X11_saying 106 (.iadd) 1 0 0 107 := ⟨rfl, rfl⟩
theorem r_X11_saying_107 : RW M_X11_saying 107 (.iaload) 1 0 0 108 := ⟨rfl, rfl⟩
theorem r_X11_saying_108 : RW M_X11_saying 108 (.invokevirtual 401) 3 220 0 111 := ⟨rfl, rfl⟩
theorem r_X11_saying_111 : RW M_X11_saying 111 (.ireturn) 1 0 0 112 := ⟨rfl, rfl⟩
theorem m_isSay1 {d : Nat} {I : Nat → Nat → Int32} {J : Nat → Nat → Int64} {κ : CT} (mc : MC κ I) (cb : CB κ) (h0 : I 106 0 = nI 0) {i : Nat} {c : Int32} (hi : i < κ.ns)  (hd : 2 ≤ d) : RV d 238 [.ref 106, .int (nI i), .int c] I J (bI true) := by
  refine RV.in (d0 := 1) hd mt_238 (Nat.le_of_ble_eq_true rfl) (fun d' hd' => ?_)
  have bns := cb.ns; have bnb := cb.nb; have bnc := cb.nc; have bnr := cb.nr
  show EV none M_X11_isSaying d' 0 [(0, .ref 106), (1, .int (nI i)), (2, .int c)] [] (hp I J) _
  refine EV.l (lv' := [(0, _), (1, _), (2, _)]) r_X11_isSaying_0 rfl ?_
  refine EV.l (lv' := [(0, _), (1, _), (2, _)]) r_X11_isSaying_1 rfl ?_
  refine EV.o r_X11_isSaying_2 (icN (0) (v := 0)) ?_
  refine EV.l (lv' := [(0, _), (1, _), (2, _)]) r_X11_isSaying_3 rfl ?_
  refine EV.getV r_X11_isSaying_4 la_106 (mc.ns) ?_
  refine EV.o r_X11_isSaying_7 (icN (1) (v := 1)) ?_
  refine EV.o r_X11_isSaying_8 (isubN) ?_
  refine EV.cv r_X11_isSaying_9 (aS3 mt_170) (m_withinN (by omega) (by omega) (by omega) (by omega)) ?_
  rw [in_t hi, show bI true = nI 1 from rfl]
  refine EV.l (lv' := [(0, _), (1, _), (2, _)]) r_X11_isSaying_12 rfl ?_
  refine EV.o r_X11_isSaying_13 (icN (0) (v := 0)) ?_
  refine EV.cv r_X11_isSaying_14 (aV3 mt_169 la_106) (m_may1 h0 (by omega)) ?_
  exact EV.rv r_X11_isSaying_17 (rfl) ret_b
theorem m_saying0 {d : Nat} {I : Nat → Nat → Int32} {J : Nat → Nat → Int64} {κ : CT} {l : LW} {η : HS} (mc : MC κ I) (cb : CB κ) (mr : MR 125 κ η I) (hb : HB κ η) (ml : ML l I) (lb : LB l) (wm : WM κ l η) {i : Nat} (hi : i < κ.ns)  (hd : 10 ≤ d) : RI d 241 [.ref 106, .int (nI i), .int (nI 0)] I J (fun v I' => v = nI (η.sa i) ∧ FM I I') := by
  refine RI.in (d0 := 9) hd mt_241 (Nat.le_of_ble_eq_true rfl) (fun d' hd' => ?_)
  have bns := cb.ns; have bnb := cb.nb; have bnc := cb.nc; have bnr := cb.nr
  have bs := hb.sa i; have c5 := cnt_lt (η := η) cb
  show EV none M_X11_saying d' 0 [(0, .ref 106), (1, .int (nI i)), (2, .int (nI 0))] [] (hp I J) _
  refine EV.l (lv' := [(0, _), (1, _), (2, _)]) r_X11_saying_0 rfl ?_
  refine EV.o r_X11_saying_1 (icN (0) (v := 0)) ?_
  refine EV.pI r_X11_saying_2 la_106 ?_
  refine EV.l (lv' := [(0, _), (1, _), (2, _)]) r_X11_saying_5 rfl ?_
  refine EV.l (lv' := [(0, _), (1, _), (2, _)]) r_X11_saying_6 rfl ?_
  refine EV.o r_X11_saying_7 (icN (1) (v := 1)) ?_
  refine EV.cv r_X11_saying_8 (aV2 mt_238 la_106) (m_isSay1 (wr0_mc mc) cb wr_same hi (by omega)) ?_
  refine EV.b0_eq r_X11_saying_11 (fun h11 => ?_) (fun h11 => ?_)
  · exact absurd h11 (by decide)
  · -- 11 f
    refine EV.l (lv' := [(0, _), (1, _), (2, _)]) r_X11_saying_14 rfl ?_
    refine EV.l (lv' := [(0, _), (1, _), (2, _)]) r_X11_saying_15 rfl ?_
    refine EV.o r_X11_saying_16 (icN (0) (v := 0)) ?_
    refine EV.o r_X11_saying_17 (icN (5) (v := 5)) ?_
    refine EV.cv r_X11_saying_18 (aS3 mt_170) (m_withinN (by omega) (by omega) (by omega) (by omega)) ?_
    rw [show (decide (0 ≤ 0) && decide (0 ≤ 5)) = true from rfl, show bI true = nI 1 from rfl]
    refine EV.o r_X11_saying_21 (icN (2) (v := 2)) ?_
    refine EV.o r_X11_saying_22 (icN (1) (v := 1)) ?_
    refine EV.cv r_X11_saying_23 (aV3 mt_169 la_106) (m_may1 wr_same (by omega)) ?_
    refine EV.b0_ne r_X11_saying_26 (fun h26 => ?_) (fun h26 => ?_)
    · -- 26 t
      refine EV.l (lv' := [(0, _), (1, _), (2, _)]) r_X11_saying_31 rfl ?_
      refine EV.cu r_X11_saying_32 (aV0 mt_212 la_106) (m_take (by omega)) (fun I2 e2 => ?_)
      have e2 : I2 = M2 I := e2
      subst e2
      have mc2 := M2_mc mc
      have ml2 := M2_ml ml
      have mr2 := M2_mr mr cb
      refine EV.l (lv' := [(0, _), (1, _), (2, _)]) r_X11_saying_35 rfl ?_
      refine EV.o r_X11_saying_36 (icN (3) (v := 3)) ?_
      refine EV.n2_ge r_X11_saying_37 (fun h37 => ?_) (fun h37 => ?_)
      · omega
      · -- 37 f
        refine EV.l (lv' := [(0, _), (1, _), (2, _)]) r_X11_saying_40 rfl ?_
        refine EV.n0_ne r_X11_saying_41 (fun h41 => ?_) (fun h41 => ?_)
        · omega
        · -- 41 f
          refine EV.l (lv' := [(0, _), (1, _), (2, _)]) r_X11_saying_44 rfl ?_
          refine EV.gR r_X11_saying_45 la_106 ?_
          refine EV.o r_X11_saying_48 (icN (0) (v := 0)) ?_
          refine EV.l (lv' := [(0, _), (1, _), (2, _)]) r_X11_saying_49 rfl ?_
          refine EV.o r_X11_saying_50 iaddN ?_
          refine EV.iaN r_X11_saying_51 la_126 (mr2.sa _ (by omega)) ?_
          refine EV.g r_X11_saying_52 ?_
          exact EV.ri r_X11_saying_65 (⟨rfl, by first | exact FM_of fr | exact FM_2⟩)
    · exact absurd h26 (by decide)
theorem m_saying1 {d : Nat} {I : Nat → Nat → Int32} {J : Nat → Nat → Int64} {κ : CT} {l : LW} {η : HS} (mc : MC κ I) (cb : CB κ) (mr : MR 125 κ η I) (hb : HB κ η) (ml : ML l I) (lb : LB l) (wm : WM κ l η) {i : Nat} (hi : i < κ.ns)  (hd : 10 ≤ d) : RI d 241 [.ref 106, .int (nI i), .int (nI 1)] I J (fun v I' => v = nI (κ.ss i) ∧ FM I I') := by
  refine RI.in (d0 := 9) hd mt_241 (Nat.le_of_ble_eq_true rfl) (fun d' hd' => ?_)
  have bns := cb.ns; have bnb := cb.nb; have bnc := cb.nc; have bnr := cb.nr
  have bs := hb.sa i; have c5 := cnt_lt (η := η) cb
  show EV none M_X11_saying d' 0 [(0, .ref 106), (1, .int (nI i)), (2, .int (nI 1))] [] (hp I J) _
  refine EV.l (lv' := [(0, _), (1, _), (2, _)]) r_X11_saying_0 rfl ?_
  refine EV.o r_X11_saying_1 (icN (0) (v := 0)) ?_
  refine EV.pI r_X11_saying_2 la_106 ?_
  refine EV.l (lv' := [(0, _), (1, _), (2, _)]) r_X11_saying_5 rfl ?_
  refine EV.l (lv' := [(0, _), (1, _), (2, _)]) r_X11_saying_6 rfl ?_
  refine EV.o r_X11_saying_7 (icN (1) (v := 1)) ?_
  refine EV.cv r_X11_saying_8 (aV2 mt_238 la_106) (m_isSay1 (wr0_mc mc) cb wr_same hi (by omega)) ?_
  refine EV.b0_eq r_X11_saying_11 (fun h11 => ?_) (fun h11 => ?_)
  · exact absurd h11 (by decide)
  · -- 11 f
    refine EV.l (lv' := [(0, _), (1, _), (2, _)]) r_X11_saying_14 rfl ?_
    refine EV.l (lv' := [(0, _), (1, _), (2, _)]) r_X11_saying_15 rfl ?_
    refine EV.o r_X11_saying_16 (icN (0) (v := 0)) ?_
    refine EV.o r_X11_saying_17 (icN (5) (v := 5)) ?_
    refine EV.cv r_X11_saying_18 (aS3 mt_170) (m_withinN (by omega) (by omega) (by omega) (by omega)) ?_
    rw [show (decide (0 ≤ 1) && decide (1 ≤ 5)) = true from rfl, show bI true = nI 1 from rfl]
    refine EV.o r_X11_saying_21 (icN (2) (v := 2)) ?_
    refine EV.o r_X11_saying_22 (icN (1) (v := 1)) ?_
    refine EV.cv r_X11_saying_23 (aV3 mt_169 la_106) (m_may1 wr_same (by omega)) ?_
    refine EV.b0_ne r_X11_saying_26 (fun h26 => ?_) (fun h26 => ?_)
    · -- 26 t
      refine EV.l (lv' := [(0, _), (1, _), (2, _)]) r_X11_saying_31 rfl ?_
      refine EV.cu r_X11_saying_32 (aV0 mt_212 la_106) (m_take (by omega)) (fun I2 e2 => ?_)
      have e2 : I2 = M2 I := e2
      subst e2
      have mc2 := M2_mc mc
      have ml2 := M2_ml ml
      have mr2 := M2_mr mr cb
      refine EV.l (lv' := [(0, _), (1, _), (2, _)]) r_X11_saying_35 rfl ?_
      refine EV.o r_X11_saying_36 (icN (3) (v := 3)) ?_
      refine EV.n2_ge r_X11_saying_37 (fun h37 => ?_) (fun h37 => ?_)
      · omega
      · -- 37 f
        refine EV.l (lv' := [(0, _), (1, _), (2, _)]) r_X11_saying_40 rfl ?_
        refine EV.n0_ne r_X11_saying_41 (fun h41 => ?_) (fun h41 => ?_)
        · -- 41 t
          refine EV.l (lv' := [(0, _), (1, _), (2, _)]) r_X11_saying_55 rfl ?_
          refine EV.gR r_X11_saying_56 la_106 ?_
          refine EV.o r_X11_saying_59 (icN (3) (v := 3)) ?_
          refine EV.l (lv' := [(0, _), (1, _), (2, _)]) r_X11_saying_60 rfl ?_
          refine EV.o r_X11_saying_61 imulN ?_
          refine EV.l (lv' := [(0, _), (1, _), (2, _)]) r_X11_saying_62 rfl ?_
          refine EV.o r_X11_saying_63 iaddN ?_
          refine EV.iaN r_X11_saying_64 la_113 (mc2.ss _ (by omega)) ?_
          exact EV.ri r_X11_saying_65 (⟨rfl, by first | exact FM_of fr | exact FM_2⟩)
        · omega
    · exact absurd h26 (by decide)
theorem m_saying2 {d : Nat} {I : Nat → Nat → Int32} {J : Nat → Nat → Int64} {κ : CT} {l : LW} {η : HS} (mc : MC κ I) (cb : CB κ) (mr : MR 125 κ η I) (hb : HB κ η) (ml : ML l I) (lb : LB l) (wm : WM κ l η) {i : Nat} (hi : i < κ.ns)  (hd : 10 ≤ d) : RI d 241 [.ref 106, .int (nI i), .int (nI 2)] I J (fun v I' => v = nI (κ.sw i) ∧ FM I I') := by
  refine RI.in (d0 := 9) hd mt_241 (Nat.le_of_ble_eq_true rfl) (fun d' hd' => ?_)
  have bns := cb.ns; have bnb := cb.nb; have bnc := cb.nc; have bnr := cb.nr
  have bs := hb.sa i; have c5 := cnt_lt (η := η) cb
  show EV none M_X11_saying d' 0 [(0, .ref 106), (1, .int (nI i)), (2, .int (nI 2))] [] (hp I J) _
  refine EV.l (lv' := [(0, _), (1, _), (2, _)]) r_X11_saying_0 rfl ?_
  refine EV.o r_X11_saying_1 (icN (0) (v := 0)) ?_
  refine EV.pI r_X11_saying_2 la_106 ?_
  refine EV.l (lv' := [(0, _), (1, _), (2, _)]) r_X11_saying_5 rfl ?_
  refine EV.l (lv' := [(0, _), (1, _), (2, _)]) r_X11_saying_6 rfl ?_
  refine EV.o r_X11_saying_7 (icN (1) (v := 1)) ?_
  refine EV.cv r_X11_saying_8 (aV2 mt_238 la_106) (m_isSay1 (wr0_mc mc) cb wr_same hi (by omega)) ?_
  refine EV.b0_eq r_X11_saying_11 (fun h11 => ?_) (fun h11 => ?_)
  · exact absurd h11 (by decide)
  · -- 11 f
    refine EV.l (lv' := [(0, _), (1, _), (2, _)]) r_X11_saying_14 rfl ?_
    refine EV.l (lv' := [(0, _), (1, _), (2, _)]) r_X11_saying_15 rfl ?_
    refine EV.o r_X11_saying_16 (icN (0) (v := 0)) ?_
    refine EV.o r_X11_saying_17 (icN (5) (v := 5)) ?_
    refine EV.cv r_X11_saying_18 (aS3 mt_170) (m_withinN (by omega) (by omega) (by omega) (by omega)) ?_
    rw [show (decide (0 ≤ 2) && decide (2 ≤ 5)) = true from rfl, show bI true = nI 1 from rfl]
    refine EV.o r_X11_saying_21 (icN (2) (v := 2)) ?_
    refine EV.o r_X11_saying_22 (icN (1) (v := 1)) ?_
    refine EV.cv r_X11_saying_23 (aV3 mt_169 la_106) (m_may1 wr_same (by omega)) ?_
    refine EV.b0_ne r_X11_saying_26 (fun h26 => ?_) (fun h26 => ?_)
    · -- 26 t
      refine EV.l (lv' := [(0, _), (1, _), (2, _)]) r_X11_saying_31 rfl ?_
      refine EV.cu r_X11_saying_32 (aV0 mt_212 la_106) (m_take (by omega)) (fun I2 e2 => ?_)
      have e2 : I2 = M2 I := e2
      subst e2
      have mc2 := M2_mc mc
      have ml2 := M2_ml ml
      have mr2 := M2_mr mr cb
      refine EV.l (lv' := [(0, _), (1, _), (2, _)]) r_X11_saying_35 rfl ?_
      refine EV.o r_X11_saying_36 (icN (3) (v := 3)) ?_
      refine EV.n2_ge r_X11_saying_37 (fun h37 => ?_) (fun h37 => ?_)
      · omega
      · -- 37 f
        refine EV.l (lv' := [(0, _), (1, _), (2, _)]) r_X11_saying_40 rfl ?_
        refine EV.n0_ne r_X11_saying_41 (fun h41 => ?_) (fun h41 => ?_)
        · -- 41 t
          refine EV.l (lv' := [(0, _), (1, _), (2, _)]) r_X11_saying_55 rfl ?_
          refine EV.gR r_X11_saying_56 la_106 ?_
          refine EV.o r_X11_saying_59 (icN (3) (v := 3)) ?_
          refine EV.l (lv' := [(0, _), (1, _), (2, _)]) r_X11_saying_60 rfl ?_
          refine EV.o r_X11_saying_61 imulN ?_
          refine EV.l (lv' := [(0, _), (1, _), (2, _)]) r_X11_saying_62 rfl ?_
          refine EV.o r_X11_saying_63 iaddN ?_
          refine EV.iaN r_X11_saying_64 la_113 (mc2.sw _ (by omega)) ?_
          exact EV.ri r_X11_saying_65 (⟨rfl, by first | exact FM_of fr | exact FM_2⟩)
        · omega
    · exact absurd h26 (by decide)
theorem m_saying3 {d : Nat} {I : Nat → Nat → Int32} {J : Nat → Nat → Int64} {κ : CT} {l : LW} {η : HS} (mc : MC κ I) (cb : CB κ) (mr : MR 125 κ η I) (hb : HB κ η) (ml : ML l I) (lb : LB l) (wm : WM κ l η) {i : Nat} (hi : i < κ.ns)  (hd : 10 ≤ d) : RI d 241 [.ref 106, .int (nI i), .int (nI 3)] I J (fun v I' => v = nI ((doesC κ η i).toNat) ∧ FM I I') := by
  refine RI.in (d0 := 9) hd mt_241 (Nat.le_of_ble_eq_true rfl) (fun d' hd' => ?_)
  have bns := cb.ns; have bnb := cb.nb; have bnc := cb.nc; have bnr := cb.nr
  have bs := hb.sa i; have c5 := cnt_lt (η := η) cb
  show EV none M_X11_saying d' 0 [(0, .ref 106), (1, .int (nI i)), (2, .int (nI 3))] [] (hp I J) _
  refine EV.l (lv' := [(0, _), (1, _), (2, _)]) r_X11_saying_0 rfl ?_
  refine EV.o r_X11_saying_1 (icN (0) (v := 0)) ?_
  refine EV.pI r_X11_saying_2 la_106 ?_
  refine EV.l (lv' := [(0, _), (1, _), (2, _)]) r_X11_saying_5 rfl ?_
  refine EV.l (lv' := [(0, _), (1, _), (2, _)]) r_X11_saying_6 rfl ?_
  refine EV.o r_X11_saying_7 (icN (1) (v := 1)) ?_
  refine EV.cv r_X11_saying_8 (aV2 mt_238 la_106) (m_isSay1 (wr0_mc mc) cb wr_same hi (by omega)) ?_
  refine EV.b0_eq r_X11_saying_11 (fun h11 => ?_) (fun h11 => ?_)
  · exact absurd h11 (by decide)
  · -- 11 f
    refine EV.l (lv' := [(0, _), (1, _), (2, _)]) r_X11_saying_14 rfl ?_
    refine EV.l (lv' := [(0, _), (1, _), (2, _)]) r_X11_saying_15 rfl ?_
    refine EV.o r_X11_saying_16 (icN (0) (v := 0)) ?_
    refine EV.o r_X11_saying_17 (icN (5) (v := 5)) ?_
    refine EV.cv r_X11_saying_18 (aS3 mt_170) (m_withinN (by omega) (by omega) (by omega) (by omega)) ?_
    rw [show (decide (0 ≤ 3) && decide (3 ≤ 5)) = true from rfl, show bI true = nI 1 from rfl]
    refine EV.o r_X11_saying_21 (icN (2) (v := 2)) ?_
    refine EV.o r_X11_saying_22 (icN (1) (v := 1)) ?_
    refine EV.cv r_X11_saying_23 (aV3 mt_169 la_106) (m_may1 wr_same (by omega)) ?_
    refine EV.b0_ne r_X11_saying_26 (fun h26 => ?_) (fun h26 => ?_)
    · -- 26 t
      refine EV.l (lv' := [(0, _), (1, _), (2, _)]) r_X11_saying_31 rfl ?_
      refine EV.cu r_X11_saying_32 (aV0 mt_212 la_106) (m_take (by omega)) (fun I2 e2 => ?_)
      have e2 : I2 = M2 I := e2
      subst e2
      have mc2 := M2_mc mc
      have ml2 := M2_ml ml
      have mr2 := M2_mr mr cb
      refine EV.l (lv' := [(0, _), (1, _), (2, _)]) r_X11_saying_35 rfl ?_
      refine EV.o r_X11_saying_36 (icN (3) (v := 3)) ?_
      refine EV.n2_ge r_X11_saying_37 (fun h37 => ?_) (fun h37 => ?_)
      · -- 37 t
        refine EV.l (lv' := [(0, _), (1, _), (2, _)]) r_X11_saying_66 rfl ?_
        refine EV.o r_X11_saying_67 (icN (3) (v := 3)) ?_
        refine EV.n2_ne r_X11_saying_68 (fun h68 => ?_) (fun h68 => ?_)
        · omega
        · -- 68 f
          refine EV.l (lv' := [(0, _), (1, _), (2, _)]) r_X11_saying_71 rfl ?_
          refine EV.ci r_X11_saying_72 (aV0 mt_221 la_106) (m_countsNow mc2 cb mr2 hb ml2 lb (by omega)) (fun v I3 h2 => ?_)
          obtain ⟨e, fr⟩ := h2
          subst e
          rw [cn_eq hb wm]
          refine EV.l (lv' := [(0, _), (1, _), (2, _)]) r_X11_saying_75 rfl ?_
          refine EV.o r_X11_saying_76 (ishrN) ?_
          refine EV.o r_X11_saying_77 (icN (1) (v := 1)) ?_
          refine EV.o r_X11_saying_78 ibitN ?_
          refine EV.g r_X11_saying_79 ?_
          exact EV.ri r_X11_saying_111 (⟨by rw [cnt_bit hi], FM_of fr⟩)
      · omega
    · exact absurd h26 (by decide)
theorem m_saying4 {d : Nat} {I : Nat → Nat → Int32} {J : Nat → Nat → Int64} {κ : CT} {l : LW} {η : HS} (mc : MC κ I) (cb : CB κ) (mr : MR 125 κ η I) (hb : HB κ η) (ml : ML l I) (lb : LB l) (wm : WM κ l η) {i : Nat} (hi : i < κ.ns)  (hd : 10 ≤ d) : RI d 241 [.ref 106, .int (nI i), .int (nI 4)] I J (fun v I' => v = nI ((η.nt.testBit i).toNat) ∧ FM I I') := by
  refine RI.in (d0 := 9) hd mt_241 (Nat.le_of_ble_eq_true rfl) (fun d' hd' => ?_)
  have bns := cb.ns; have bnb := cb.nb; have bnc := cb.nc; have bnr := cb.nr
  have bs := hb.sa i; have c5 := cnt_lt (η := η) cb
  show EV none M_X11_saying d' 0 [(0, .ref 106), (1, .int (nI i)), (2, .int (nI 4))] [] (hp I J) _
  refine EV.l (lv' := [(0, _), (1, _), (2, _)]) r_X11_saying_0 rfl ?_
  refine EV.o r_X11_saying_1 (icN (0) (v := 0)) ?_
  refine EV.pI r_X11_saying_2 la_106 ?_
  refine EV.l (lv' := [(0, _), (1, _), (2, _)]) r_X11_saying_5 rfl ?_
  refine EV.l (lv' := [(0, _), (1, _), (2, _)]) r_X11_saying_6 rfl ?_
  refine EV.o r_X11_saying_7 (icN (1) (v := 1)) ?_
  refine EV.cv r_X11_saying_8 (aV2 mt_238 la_106) (m_isSay1 (wr0_mc mc) cb wr_same hi (by omega)) ?_
  refine EV.b0_eq r_X11_saying_11 (fun h11 => ?_) (fun h11 => ?_)
  · exact absurd h11 (by decide)
  · -- 11 f
    refine EV.l (lv' := [(0, _), (1, _), (2, _)]) r_X11_saying_14 rfl ?_
    refine EV.l (lv' := [(0, _), (1, _), (2, _)]) r_X11_saying_15 rfl ?_
    refine EV.o r_X11_saying_16 (icN (0) (v := 0)) ?_
    refine EV.o r_X11_saying_17 (icN (5) (v := 5)) ?_
    refine EV.cv r_X11_saying_18 (aS3 mt_170) (m_withinN (by omega) (by omega) (by omega) (by omega)) ?_
    rw [show (decide (0 ≤ 4) && decide (4 ≤ 5)) = true from rfl, show bI true = nI 1 from rfl]
    refine EV.o r_X11_saying_21 (icN (2) (v := 2)) ?_
    refine EV.o r_X11_saying_22 (icN (1) (v := 1)) ?_
    refine EV.cv r_X11_saying_23 (aV3 mt_169 la_106) (m_may1 wr_same (by omega)) ?_
    refine EV.b0_ne r_X11_saying_26 (fun h26 => ?_) (fun h26 => ?_)
    · -- 26 t
      refine EV.l (lv' := [(0, _), (1, _), (2, _)]) r_X11_saying_31 rfl ?_
      refine EV.cu r_X11_saying_32 (aV0 mt_212 la_106) (m_take (by omega)) (fun I2 e2 => ?_)
      have e2 : I2 = M2 I := e2
      subst e2
      have mc2 := M2_mc mc
      have ml2 := M2_ml ml
      have mr2 := M2_mr mr cb
      refine EV.l (lv' := [(0, _), (1, _), (2, _)]) r_X11_saying_35 rfl ?_
      refine EV.o r_X11_saying_36 (icN (3) (v := 3)) ?_
      refine EV.n2_ge r_X11_saying_37 (fun h37 => ?_) (fun h37 => ?_)
      · -- 37 t
        refine EV.l (lv' := [(0, _), (1, _), (2, _)]) r_X11_saying_66 rfl ?_
        refine EV.o r_X11_saying_67 (icN (3) (v := 3)) ?_
        refine EV.n2_ne r_X11_saying_68 (fun h68 => ?_) (fun h68 => ?_)
        · -- 68 t
          refine EV.l (lv' := [(0, _), (1, _), (2, _)]) r_X11_saying_82 rfl ?_
          refine EV.o r_X11_saying_83 (icN (4) (v := 4)) ?_
          refine EV.n2_ne r_X11_saying_84 (fun h84 => ?_) (fun h84 => ?_)
          · omega
          · -- 84 f
            refine EV.l (lv' := [(0, _), (1, _), (2, _)]) r_X11_saying_87 rfl ?_
            refine EV.gR r_X11_saying_88 la_106 ?_
            refine EV.o r_X11_saying_91 (bpN (9) 9) ?_
            refine EV.l (lv' := [(0, _), (1, _), (2, _)]) r_X11_saying_93 rfl ?_
            refine EV.o r_X11_saying_94 iaddN ?_
            refine EV.iaN r_X11_saying_95 la_126 (mr2.nt _ (by omega)) ?_
            refine EV.g r_X11_saying_96 ?_
            exact EV.ri r_X11_saying_111 (⟨rfl, by first | exact FM_of fr | exact FM_2⟩)
        · omega
      · omega
    · exact absurd h26 (by decide)
theorem m_saying5 {d : Nat} {I : Nat → Nat → Int32} {J : Nat → Nat → Int64} {κ : CT} {l : LW} {η : HS} (mc : MC κ I) (cb : CB κ) (mr : MR 125 κ η I) (hb : HB κ η) (ml : ML l I) (lb : LB l) (wm : WM κ l η) {i : Nat} (hi : i < κ.ns)  (hd : 10 ≤ d) : RI d 241 [.ref 106, .int (nI i), .int (nI 5)] I J (fun v I' => v = nI (birds κ η (η.sa i)) ∧ FM I I') := by
  refine RI.in (d0 := 9) hd mt_241 (Nat.le_of_ble_eq_true rfl) (fun d' hd' => ?_)
  have bns := cb.ns; have bnb := cb.nb; have bnc := cb.nc; have bnr := cb.nr
  have bs := hb.sa i; have c5 := cnt_lt (η := η) cb
  show EV none M_X11_saying d' 0 [(0, .ref 106), (1, .int (nI i)), (2, .int (nI 5))] [] (hp I J) _
  refine EV.l (lv' := [(0, _), (1, _), (2, _)]) r_X11_saying_0 rfl ?_
  refine EV.o r_X11_saying_1 (icN (0) (v := 0)) ?_
  refine EV.pI r_X11_saying_2 la_106 ?_
  refine EV.l (lv' := [(0, _), (1, _), (2, _)]) r_X11_saying_5 rfl ?_
  refine EV.l (lv' := [(0, _), (1, _), (2, _)]) r_X11_saying_6 rfl ?_
  refine EV.o r_X11_saying_7 (icN (1) (v := 1)) ?_
  refine EV.cv r_X11_saying_8 (aV2 mt_238 la_106) (m_isSay1 (wr0_mc mc) cb wr_same hi (by omega)) ?_
  refine EV.b0_eq r_X11_saying_11 (fun h11 => ?_) (fun h11 => ?_)
  · exact absurd h11 (by decide)
  · -- 11 f
    refine EV.l (lv' := [(0, _), (1, _), (2, _)]) r_X11_saying_14 rfl ?_
    refine EV.l (lv' := [(0, _), (1, _), (2, _)]) r_X11_saying_15 rfl ?_
    refine EV.o r_X11_saying_16 (icN (0) (v := 0)) ?_
    refine EV.o r_X11_saying_17 (icN (5) (v := 5)) ?_
    refine EV.cv r_X11_saying_18 (aS3 mt_170) (m_withinN (by omega) (by omega) (by omega) (by omega)) ?_
    rw [show (decide (0 ≤ 5) && decide (5 ≤ 5)) = true from rfl, show bI true = nI 1 from rfl]
    refine EV.o r_X11_saying_21 (icN (2) (v := 2)) ?_
    refine EV.o r_X11_saying_22 (icN (1) (v := 1)) ?_
    refine EV.cv r_X11_saying_23 (aV3 mt_169 la_106) (m_may1 wr_same (by omega)) ?_
    refine EV.b0_ne r_X11_saying_26 (fun h26 => ?_) (fun h26 => ?_)
    · -- 26 t
      refine EV.l (lv' := [(0, _), (1, _), (2, _)]) r_X11_saying_31 rfl ?_
      refine EV.cu r_X11_saying_32 (aV0 mt_212 la_106) (m_take (by omega)) (fun I2 e2 => ?_)
      have e2 : I2 = M2 I := e2
      subst e2
      have mc2 := M2_mc mc
      have ml2 := M2_ml ml
      have mr2 := M2_mr mr cb
      refine EV.l (lv' := [(0, _), (1, _), (2, _)]) r_X11_saying_35 rfl ?_
      refine EV.o r_X11_saying_36 (icN (3) (v := 3)) ?_
      refine EV.n2_ge r_X11_saying_37 (fun h37 => ?_) (fun h37 => ?_)
      · -- 37 t
        refine EV.l (lv' := [(0, _), (1, _), (2, _)]) r_X11_saying_66 rfl ?_
        refine EV.o r_X11_saying_67 (icN (3) (v := 3)) ?_
        refine EV.n2_ne r_X11_saying_68 (fun h68 => ?_) (fun h68 => ?_)
        · -- 68 t
          refine EV.l (lv' := [(0, _), (1, _), (2, _)]) r_X11_saying_82 rfl ?_
          refine EV.o r_X11_saying_83 (icN (4) (v := 4)) ?_
          refine EV.n2_ne r_X11_saying_84 (fun h84 => ?_) (fun h84 => ?_)
          · -- 84 t
            refine EV.l (lv' := [(0, _), (1, _), (2, _)]) r_X11_saying_99 rfl ?_
            refine EV.l (lv' := [(0, _), (1, _), (2, _)]) r_X11_saying_100 rfl ?_
            refine EV.gR r_X11_saying_101 la_106 ?_
            refine EV.o r_X11_saying_104 (icN (0) (v := 0)) ?_
            refine EV.l (lv' := [(0, _), (1, _), (2, _)]) r_X11_saying_105 rfl ?_
            refine EV.o r_X11_saying_106 iaddN ?_
            refine EV.iaN r_X11_saying_107 la_126 (mr2.sa _ (by omega)) ?_
            refine EV.ci r_X11_saying_108 (aV1 mt_220 la_106) (m_birdsAt mc2 cb mr2 hb ml2 lb (by omega) (by omega)) (fun v I3 h2 => ?_)
            obtain ⟨e, fr⟩ := h2
            subst e
            rw [← bd_eq hb wm]
            exact EV.ri r_X11_saying_111 (⟨rfl, by first | exact FM_of fr | exact FM_2⟩)
          · omega
        · omega
      · omega
    · exact absurd h26 (by decide)
theorem m_clear {d : Nat} {I : Nat → Nat → Int32} {J : Nat → Nat → Int64} {κ : CT} {l : LW} {η : HS} (mc : MC κ I) (cb : CB κ) (mr : MR 125 κ η I) (hb : HB κ η) (ml : ML l I) (lb : LB l) (wm : WM κ l η)  (hd : 10 ≤ d) : RI d 246 [.ref 106] I J (fun v I' => v = nI (clrN κ η η.mi (500 - η.mi)) ∧ FM I I') := by
  refine RI.in (d0 := 9) hd mt_246 (Nat.le_of_ble_eq_true rfl) (fun d' hd' => ?_)
  have bns := cb.ns; have bnb := cb.nb; have bnc := cb.nc; have bnr := cb.nr
  have bm := hb.mi
  show EV none M_X11_clear d' 0 [(0, .ref 106)] [] (hp I J) _
  refine EV.l (lv' := [(0, _)]) r_X11_clear_0 rfl ?_
  refine EV.o r_X11_clear_1 (icN (0) (v := 0)) ?_
  refine EV.pI r_X11_clear_2 la_106 ?_
  refine EV.l (lv' := [(0, _)]) r_X11_clear_5 rfl ?_
  refine EV.cu r_X11_clear_6 (aV0 mt_212 la_106) (m_take (by omega)) (fun I2 e2 => ?_)
  have e2 : I2 = M2 I := e2
  subst e2
  have mc2 := M2_mc mc
  have ml2 := M2_ml ml
  have mr2 := M2_mr mr cb
  refine EV.o r_X11_clear_9 (icN (0) (v := 0)) ?_
  refine EV.l (lv' := [(0, _), (1, _)]) r_X11_clear_10 rfl ?_
  refine EV.l (lv' := [(0, _), (1, _)]) r_X11_clear_11 rfl ?_
  refine EV.gR r_X11_clear_12 la_106 ?_
  refine EV.o r_X11_clear_15 (bpN (30) 30) ?_
  refine EV.iaN r_X11_clear_17 la_126 (mr2.mi) ?_
  refine EV.l (lv' := [(0, _), (1, _), (2, _)]) r_X11_clear_18 rfl ?_
  have L19 : ∀ y_ : Nat × (Nat → Nat → Int32), (fun y => (y.1 ≤ 500 - η.mi ∧ ∀ o, o ≠ 121 → o ≠ 122 → y.2 o = M2 I o) → EV none M_X11_clear d' 19 [(0, .ref 106), (1, .int (nI (clrN κ η η.mi y.1))), (2, .int (nI (η.mi + y.1)))] [] (hp y.2 J) (QI J (fun v I' => v = nI (clrN κ η η.mi (500 - η.mi)) ∧ FM I I'))) y_ := by
    refine ev_loop (fun y => 500 - η.mi - y.1) ?_
    intro ⟨k, I1⟩ ih19 hx19
    try dsimp only at ih19
    try dsimp only at hx19
    try dsimp only
    have fr := hx19.2; have kl := hx19.1
    have mc3 := MC.fr (I' := I1) mc2 (fr 106 (by decide) (by decide)) (fun x h1 h2 => fr x (by omega) (by omega))
    have mr3 := MR.fr (I' := I1) mr2 (fr 126 (by decide) (by decide))
    have ml3 := ML.fr (I' := I1) ml2 (fr 106 (by decide) (by decide)) (fr 119 (by decide) (by decide)) (fr 120 (by decide) (by decide))
    have cl := clrN_le κ η η.mi k; have cb2 : birds κ η (η.mi + k) < 16 := mk_nb cb _
    refine EV.l (lv' := [(0, _), (1, _), (2, _)]) r_X11_clear_19 rfl ?_
    refine EV.o r_X11_clear_20 (spN (499) 499) ?_
    refine EV.n2_gt r_X11_clear_23 (fun h23 => ?_) (fun h23 => ?_)
    · -- 23 t
      refine EV.l (lv' := [(0, _), (1, _), (2, _)]) r_X11_clear_48 rfl ?_
      exact EV.ri r_X11_clear_49 (⟨by rw [show k = 500 - η.mi by omega], FM_of fr⟩)
    · -- 23 f
      refine EV.l (lv' := [(0, _), (1, _), (2, _)]) r_X11_clear_26 rfl ?_
      refine EV.l (lv' := [(0, _), (1, _), (2, _)]) r_X11_clear_27 rfl ?_
      refine EV.l (lv' := [(0, _), (1, _), (2, _)]) r_X11_clear_28 rfl ?_
      refine EV.ci r_X11_clear_29 (aV1 mt_220 la_106) (m_birdsAt mc3 cb mr3 hb ml3 lb (by omega) (by omega)) (fun v I3 h2 => ?_)
      obtain ⟨e, fr2⟩ := h2
      subst e
      rw [← bd_eq hb wm]
      refine EV.n0_ne r_X11_clear_32 (fun h32 => ?_) (fun h32 => ?_)
      · -- 32 t
        refine EV.o r_X11_clear_39 (icN (0) (v := 0)) ?_
        refine EV.o r_X11_clear_40 iaddN ?_
        refine EV.l (lv' := [(0, _), (1, _), (2, _)]) r_X11_clear_41 rfl ?_
        refine EV.l (lv' := [(0, _), (1, _), (2, _)]) r_X11_clear_42 rfl ?_
        rw [inc_nI]
        refine EV.g r_X11_clear_45 ?_
        refine EV.sub ?_ rfl ?_ (ih19 (k + 1, I3) ?_ ?_)
        · (try dsimp only) <;> (first | (rw [← clrN_t (by assumption)]; rfl) | (rw [← clrN_f (by assumption)]; rfl))
        · (try dsimp only) <;> (rfl)
        · (try dsimp only) <;> (omega)
        · (try dsimp only) <;> (exact ⟨by omega, fun o h1 h2 => (fr2 o h1 h2).trans (fr o h1 h2)⟩)
      · -- 32 f
        refine EV.o r_X11_clear_35 (icN (1) (v := 1)) ?_
        refine EV.g r_X11_clear_36 ?_
        refine EV.o r_X11_clear_40 iaddN ?_
        refine EV.l (lv' := [(0, _), (1, _), (2, _)]) r_X11_clear_41 rfl ?_
        refine EV.l (lv' := [(0, _), (1, _), (2, _)]) r_X11_clear_42 rfl ?_
        rw [inc_nI]
        refine EV.g r_X11_clear_45 ?_
        refine EV.sub ?_ rfl ?_ (ih19 (k + 1, I3) ?_ ?_)
        · (try dsimp only) <;> (first | (rw [← clrN_t (by assumption)]; rfl) | (rw [← clrN_f (by assumption)]; rfl))
        · (try dsimp only) <;> (rfl)
        · (try dsimp only) <;> (omega)
        · (try dsimp only) <;> (exact ⟨by omega, fun o h1 h2 => (fr2 o h1 h2).trans (fr o h1 h2)⟩)
  have h0 := L19 ((0, M2 I))
  try dsimp only at h0
  refine EV.sub ?_ rfl ?_ (h0 ?_)
  · (try dsimp only) <;> (rfl)
  · (try dsimp only) <;> (rfl)
  · (try dsimp only) <;> (exact ⟨Nat.zero_le _, fun _ _ _ => rfl⟩)
