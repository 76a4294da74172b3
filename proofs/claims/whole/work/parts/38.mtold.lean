/-! The model answers: LEAN, TOLD. -/
/-- the model's memory behind the start of a question -/
def M2 (I : Nat → Nat → Int32) : Nat → Nat → Int32 := cpy (wr I 106 0 (nI 0)) 126 0 125 0 31
theorem M2_106 {I : Nat → Nat → Int32} {j : Nat} (h : j ≠ 0) : M2 I 106 j = I 106 j := (congrFun (cpy_row (by decide)) j).trans (wr_ne (Or.inr h))
theorem M2_th {I : Nat → Nat → Int32} : M2 I 106 0 = nI 0 := (congrFun (cpy_row (by decide)) 0).trans wr_same
theorem M2_row {I : Nat → Nat → Int32} {o : Nat} (h : o ≠ 106) (h2 : o ≠ 126) : M2 I o = I o := (cpy_row h2).trans (wr_row h)
theorem M2_mc {κ : CT} {I : Nat → Nat → Int32} (h : MC κ I) : MC κ (M2 I) := h.fr0 (fun _ hj => M2_106 hj) (fun x h1 h2 => M2_row (by omega) (by omega))
theorem M2_ml {l : LW} {I : Nat → Nat → Int32} (h : ML l I) : ML l (M2 I) := h.fr0 (fun _ hj => M2_106 hj) (M2_row (by decide) (by decide)) (M2_row (by decide) (by decide))
theorem M2_mr {κ : CT} {η : HS} {I : Nat → Nat → Int32} (h : MR 125 κ η I) (cb : CB κ) : MR 126 κ η (M2 I) := MR.take (h.fr (wr_row (by decide))) cb
/-- what a question leaves of the model: all but what it works with -/
def FM (I I' : Nat → Nat → Int32) : Prop := (∀ j, j ≠ 0 → I' 106 j = I 106 j) ∧ I' 106 0 = nI 0 ∧ ∀ o, o ≠ 106 → o ≠ 121 → o ≠ 122 → o ≠ 126 → I' o = I o
theorem FM_of {I I' : Nat → Nat → Int32} (h : ∀ o, o ≠ 121 → o ≠ 122 → I' o = M2 I o) : FM I I' := ⟨fun j hj => by rw [h 106 (by decide) (by decide)]; exact M2_106 hj, by rw [h 106 (by decide) (by decide)]; exact M2_th, fun o h1 h2 h3 h4 => (h o h2 h3).trans (M2_row h1 h4)⟩
theorem FM_2 {I : Nat → Nat → Int32} : FM I (M2 I) := FM_of (fun _ _ _ => rfl)
theorem r_X11_lean_0 : RW M_X11_lean 0 (.aload_n 0) 1 0 0 1 := ⟨rfl, rfl⟩
theorem r_X11_lean_1 : RW M_X11_lean 1 (.iconst 0) 1 0 0 2 := ⟨rfl, rfl⟩
theorem r_X11_lean_2 : RW M_X11_lean 2 (.putfield 3) 3 11 0 5 := ⟨rfl, rfl⟩
theorem r_X11_lean_5 : RW M_X11_lean 5 (.aload_n 0) 1 0 0 6 := ⟨rfl, rfl⟩
theorem r_X11_lean_6 : RW M_X11_lean 6 (.invokevirtual 322) 3 212 0 9 := ⟨rfl, rfl⟩
theorem r_X11_lean_9 : RW M_X11_lean 9 (.aload_n 0) 1 0 0 10 := ⟨rfl, rfl⟩
theorem r_X11_lean_10 : RW M_X11_lean 10 (.aload_n 0) 1 0 0 11 := ⟨rfl, rfl⟩
theorem r_X11_lean_11 : RW M_X11_lean 11 (.aload_n 0) 1 0 0 12 := ⟨rfl, rfl⟩
theorem r_X11_lean_12 : RW M_X11_lean 12 (.getfield 74) 3 11 43 15 := ⟨rfl, rfl⟩
theorem r_X11_lean_15 : RW M_X11_lean 15 (.bipush 30) 2 0 0 17 := ⟨rfl, rfl⟩
theorem r_X11_lean_17 : RW M_X11_lean 17 (.iaload) 1 0 0 18 := ⟨rfl, rfl⟩
theorem r_X11_lean_18 : RW M_X11_lean 18 (.invokevirtual 395) 3 226 0 21 := ⟨rfl, rfl⟩
theorem r_X11_lean_21 : RW M_X11_lean 21 (.invokevirtual 404) 3 225 0 24 := ⟨rfl, rfl⟩
theorem r_X11_lean_24 : RW M_X11_lean 24 (.ireturn) 1 0 0 25 := ⟨rfl, rfl⟩
theorem r_X11_told_0 : RW M_X11_told 0 (.aload_n 0) 1 0 0 1 := ⟨rfl, rfl⟩
theorem r_X11_told_1 : RW M_X11_told 1 (.iconst 0) 1 0 0 2 := ⟨rfl, rfl⟩
theorem r_X11_told_2 : RW M_X11_told 2 (.putfield 3) 3 11 0 5 := ⟨rfl, rfl⟩
theorem r_X11_told_5 : RW M_X11_told 5 (.aload_n 0) 1 0 0 6 := ⟨rfl, rfl⟩
theorem r_X11_told_6 : RW M_X11_told 6 (.iload_n 1) 1 0 0 7 := ⟨rfl, rfl⟩
theorem r_X11_told_7 : RW M_X11_told 7 (.iconst 0) 1 0 0 8 := ⟨rfl, rfl⟩
theorem r_X11_told_8 : RW M_X11_told 8 (.bipush 11) 2 0 0 10 := ⟨rfl, rfl⟩
theorem r_X11_told_10 : RW M_X11_told 10 (.invokestatic 392) 3 170 0 13 := ⟨rfl, rfl⟩
theorem r_X11_told_13 : RW M_X11_told 13 (.iconst 1) 1 0 0 14 := ⟨rfl, rfl⟩
theorem r_X11_told_14 : RW M_X11_told 14 (.iconst 1) 1 0 0 15 := ⟨rfl, rfl⟩
theorem r_X11_told_15 : RW M_X11_told 15 (.invokevirtual 210) 3 169 0 18 := ⟨rfl, rfl⟩
theorem r_X11_told_18 : RW M_X11_told 18 (.ifCond .ne 5) 3 23 0 21 := ⟨rfl, rfl⟩
theorem r_X11_told_23 : RW M_X11_told 23 (.aload_n 0) 1 0 0 24 := ⟨rfl, rfl⟩
theorem r_X11_told_24 : RW M_X11_told 24 (.invokevirtual 322) 3 212 0 27 := ⟨rfl, rfl⟩
theorem r_X11_told_27 : RW M_X11_told 27 (.iload_n 1) 1 0 0 28 := ⟨rfl, rfl⟩
theorem r_X11_told_28 : RW M_X11_told 28 (.iconst 4) 1 0 0 29 := ⟨rfl, rfl⟩
theorem r_X11_told_29 : RW M_X11_told 29 (.if_icmp .ge 43) 3 72 0 32 := ⟨rfl, rfl⟩
theorem r_X11_told_32 : RW M_X11_told 32 (.iload_n 1) 1 0 0 33 := ⟨rfl, rfl⟩
theorem r_X11_told_33 : RW M_X11_told 33 (.ifCond .ne 10) 3 43 0 36 := ⟨rfl, rfl⟩
theorem r_X11_told_36 : RW M_X11_told 36 (.aload_n 0) 1 0 0 37 := ⟨rfl, rfl⟩
theorem r_X11_told_37 : RW M_X11_told 37 (.getfield 166) 3 11 22 40 := ⟨rfl, rfl⟩
theorem r_X11_told_40 : RW M_X11_told 40 (.goto 31) 3 71 0 43 := ⟨rfl, rfl⟩
theorem r_X11_told_43 : RW M_X11_told 43 (.iload_n 1) 1 0 0 44 := ⟨rfl, rfl⟩
theorem r_X11_told_44 : RW M_X11_told 44 (.iconst 1) 1 0 0 45 := ⟨rfl, rfl⟩
theorem r_X11_told_45 : RW M_X11_told 45 (.if_icmp .ne 10) 3 55 0 48 := ⟨rfl, rfl⟩
theorem r_X11_told_48 : RW M_X11_told 48 (.aload_n 0) 1 0 0 49 := ⟨rfl, rfl⟩
theorem r_X11_told_49 : RW M_X11_told 49 (.getfield 169) 3 11 23 52 := ⟨rfl, rfl⟩
theorem r_X11_told_52 : RW M_X11_told 52 (.goto 19) 3 71 0 55 := ⟨rfl, rfl⟩
theorem r_X11_told_55 : RW M_X11_told 55 (.iload_n 1) 1 0 0 56 := ⟨rfl, rfl⟩
theorem r_X11_told_56 : RW M_X11_told 56 (.iconst 2) 1 0 0 57 := ⟨rfl, rfl⟩
theorem r_X11_told_57 : RW M_X11_told 57 (.if_icmp .ne 10) 3 67 0 60 := ⟨rfl, rfl⟩
theorem r_X11_told_60 : RW M_X11_told 60 (.aload_n 0) 1 0 0 61 := ⟨rfl, rfl⟩
theorem r_X11_told_61 : RW M_X11_told 61 (.getfield 172) 3 11 24 64 := ⟨rfl, rfl⟩
theorem r_X11_told_64 : RW M_X11_told 64 (.goto 7) 3 71 0 67 := ⟨rfl, rfl⟩
theorem r_X11_told_67 : RW M_X11_told 67 (.aload_n 0) 1 0 0 68 := ⟨rfl, rfl⟩
theorem r_X11_told_68 : RW M_X11_told 68 (.getfield 175) 3 11 25 71 := ⟨rfl, rfl⟩
theorem r_X11_told_71 : RW M_X11_told 71 (.ireturn) 1 0 0 72 := ⟨rfl, rfl⟩
theorem r_X11_told_72 : RW M_X11_told 72 (.iload_n 1) 1 0 0 73 := ⟨rfl, rfl⟩
theorem r_X11_told_73 : RW M_X11_told 73 (.bipush 6) 2 0 0 75 := ⟨rfl, rfl⟩
theorem r_X11_told_75 : RW M_X11_told 75 (.if_icmp .ge 23) 3 98 0 78 := ⟨rfl, rfl⟩
theorem r_X11_told_78 : RW M_X11_told 78 (.iload_n 1) 1 0 0 79 := ⟨rfl, rfl⟩
theorem r_X11_told_79 : RW M_X11_told 79 (.iconst 4) 1 0 0 80 := ⟨rfl, rfl⟩
theorem r_X11_told_80 : RW M_X11_told 80 (.if_icmp .ne 13) 3 93 0 83 := ⟨rfl, rfl⟩
theorem r_X11_told_83 : RW M_X11_told 83 (.aload_n 0) 1 0 0 84 := ⟨rfl, rfl⟩
theorem r_X11_told_84 : RW M_X11_told 84 (.getfield 74) 3 11 43 87 := ⟨rfl, rfl⟩
theorem r_X11_told_87 : RW M_X11_told 87 (.bipush 30) 2 0 0 89 := ⟨rfl, rfl⟩
theorem r_X11_told_89 : RW M_X11_told 89 (.iaload) 1 0 0 90 := ⟨rfl, rfl⟩
theorem r_X11_told_90 : RW M_X11_told 90 (.goto 7) 3 97 0 93 := ⟨rfl, rfl⟩
theorem r_X11_told_93 : RW M_X11_told 93 (.aload_n 0) 1 0 0 94 := ⟨rfl, rfl⟩
theorem r_X11_told_94 : RW M_X11_told 94 (.invokevirtual 370) 3 221 0 97 := ⟨rfl, rfl⟩
theorem r_X11_told_97 : RW M_X11_told 97 (.ireturn) 1 0 0 98 := ⟨rfl, rfl⟩
theorem r_X11_told_98 : RW M_X11_told 98 (.iload_n 1) 1 0 0 99 := ⟨rfl, rfl⟩
theorem r_X11_told_99 : RW M_X11_told 99 (.bipush 9) 2 0 0 101 := ⟨rfl, rfl⟩
theorem r_X11_told_101 : RW M_X11_told 101 (.if_icmp .ge 52) 3 153 0 104 := ⟨rfl, rfl⟩
theorem r_X11_told_104 : RW M_X11_told 104 (.iload_n 1) 1 0 0 105 := ⟨rfl, rfl⟩
theorem r_X11_told_105 : RW M_X11_told 105 (.bipush 6) 2 0 0 107 := ⟨rfl, rfl⟩
theorem r_X11_told_107 : RW M_X11_told 107 (.if_icmp .ne 17) 3 124 0 110 := ⟨rfl, rfl⟩
theorem r_X11_told_110 : RW M_X11_told 110 (.aload_n 0) 1 0 0 111 := ⟨rfl, rfl⟩
theorem r_X11_told_111 : RW M_X11_told 111 (.aload_n 0) 1 0 0 112 := ⟨rfl, rfl⟩
theorem r_X11_told_112 : RW M_X11_told 112 (.getfield 74) 3 11 43 115 := ⟨rfl, rfl⟩
theorem r_X11_told_115 : RW M_X11_told 115 (.bipush 30) 2 0 0 117 := ⟨rfl, rfl⟩
theorem r_X11_told_117 : RW M_X11_told 117 (.iaload) 1 0 0 118 := ⟨rfl, rfl⟩
theorem r_X11_told_118 : RW M_X11_told 118 (.invokevirtual 395) 3 226 0 121 := ⟨rfl, rfl⟩
theorem r_X11_told_121 : RW M_X11_told 121 (.goto 31) 3 152 0 124 := ⟨rfl, rfl⟩
theorem r_X11_told_124 : RW M_X11_told 124 (.iload_n 1) 1 0 0 125 := ⟨rfl, rfl⟩
theorem r_X11_told_125 : RW M_X11_told 125 (.bipush 7) 2 0 0 127 := ⟨rfl, rfl⟩
theorem r_X11_told_127 : RW M_X11_told 127 (.if_icmp .ne 21) 3 148 0 130 := ⟨rfl, rfl⟩
theorem r_X11_told_130 : RW M_X11_told 130 (.aload_n 0) 1 0 0 131 := ⟨rfl, rfl⟩
theorem r_X11_told_131 : RW M_X11_told 131 (.aload_n 0) 1 0 0 132 := ⟨rfl, rfl⟩
theorem r_X11_told_132 : RW M_X11_told 132 (.aload_n 0) 1 0 0 133 := ⟨rfl, rfl⟩
theorem r_X11_told_133 : RW M_X11_told 133 (.getfield 74) 3 11 43 136 := ⟨rfl, rfl⟩
theorem r_X11_told_136 : RW M_X11_told 136 (.bipush 30) 2 0 0 138 := ⟨rfl, rfl⟩
theorem r_X11_told_138 : RW M_X11_told 138 (.iaload) 1 0 0 139 := ⟨rfl, rfl⟩
theorem r_X11_told_139 : RW M_X11_told 139 (.invokevirtual 395) 3 226 0 142 := ⟨rfl, rfl⟩
theorem r_X11_told_142 : RW M_X11_told 142 (.invokevirtual 364) 3 223 0 145 := ⟨rfl, rfl⟩
theorem r_X11_told_145 : RW M_X11_told 145 (.goto 7) 3 152 0 148 := ⟨rfl, rfl⟩
theorem r_X11_told_148 : RW M_X11_told 148 (.aload_n 0) 1 0 0 149 := ⟨rfl, rfl⟩
theorem r_X11_told_149 : RW M_X11_told 149 (.invokevirtual 398) 3 235 0 152 := ⟨rfl, rfl⟩
theorem r_X11_told_152 : RW M_X11_told 152 (.ireturn) 1 0 0 153 := ⟨rfl, rfl⟩
theorem r_X11_told_153 : RW M_X11_told 153 (.iload_n 1) 1 0 0 154 := ⟨rfl, rfl⟩
theorem r_X11_told_154 : RW M_X11_told 154 (.bipush 9) 2 0 0 156 := ⟨rfl, rfl⟩
theorem r_X11_told_156 : RW M_X11_told 156 (.if_icmp .ne 10) 3 166 0 159 := ⟨rfl, rfl⟩
theorem r_X11_told_159 : RW M_X11_told 159 (.aload_n 0) 1 0 0 160 := ⟨rfl, rfl⟩
theorem r_X11_told_160 : RW M_X11_told 160 (.getfield 185) 3 11 47 163 := ⟨rfl, rfl⟩
theorem r_X11_told_163 : RW M_X11_told 163 (.goto 27) 3 190 0 166 := ⟨rfl, rfl⟩
theorem r_X11_told_166 : RW M_X11_told 166 (.iload_n 1) 1 0 0 167 := ⟨rfl, rfl⟩
theorem r_X11_told_167 : RW M_X11_told 167 (.bipush 10) 2 0 0 169 := ⟨rfl, rfl⟩
theorem r_X11_told_169 : RW M_X11_told 169 (.if_icmp .ne 10) 3 179 0 172 := ⟨rfl, rfl⟩
theorem r_X11_told_172 : RW M_X11_told 172 (.aload_n 0) 1 0 0 173 := ⟨rfl, rfl⟩
theorem r_X11_told_173 : RW M_X11_told 173 (.getfield 194) 3 11 38 176 := ⟨rfl, rfl⟩
theorem r_X11_told_176 : RW M_X11_told 176 (.goto 14) 3 190 0 179 := ⟨rfl, rfl⟩
theorem r_X11_told_179 : RW M_X11_told 179 (.aload_n 0) 1 0 0 180 := ⟨rfl, rfl⟩
theorem r_X11_told_180 : RW M_X11_told 180 (.aload_n 0) 1 0 0 181 := ⟨rfl, rfl⟩
theorem r_X11_told_181 : RW M_X11_told 181 (.getfield 74) 3 11 43 184 := ⟨rfl, rfl⟩
theorem r_X11_told_184 : RW M_X11_told 184 (.bipush 30) 2 0 0 186 := ⟨rfl, rfl⟩
theorem r_X11_told_186 : RW M_X11_told 186 (.iaload) 1 0 0 187 := ⟨rfl, rfl⟩
theorem r_X11_told_187 : RW M_X11_told 187 (.invokevirtual 401) 3 220 0 190 := ⟨rfl, rfl⟩
theorem r_X11_told_190 : RW M_X11_told 190 (.ireturn) 1 0 0 191 := ⟨rfl, rfl⟩
theorem m_askLean {d : Nat} {I : Nat → Nat → Int32} {J : Nat → Nat → Int64} {κ : CT} {l : LW} {η : HS} (mc : MC κ I) (cb : CB κ) (mr : MR 125 κ η I) (hb : HB κ η) (ml : ML l I) (lb : LB l) (wm : WM κ l η)  (hd : 10 ≤ d) : RI d 237 [.ref 106] I J (fun v I' => v = zI (lean κ (heard κ η η.mi)) ∧ FM I I') := by
  refine RI.in (d0 := 9) hd mt_237 (Nat.le_of_ble_eq_true rfl) (fun d' hd' => ?_)
  have bns := cb.ns; have bnb := cb.nb; have bnc := cb.nc; have bnr := cb.nr
  have bm := hb.mi
  show EV none M_X11_lean d' 0 [(0, .ref 106)] [] (hp I J) _
  refine EV.l (lv' := [(0, _)]) r_X11_lean_0 rfl ?_
  refine EV.o r_X11_lean_1 (icN (0) (v := 0)) ?_
  refine EV.pI r_X11_lean_2 la_106 ?_
  refine EV.l (lv' := [(0, _)]) r_X11_lean_5 rfl ?_
  refine EV.cu r_X11_lean_6 (aV0 mt_212 la_106) (m_take (by omega)) (fun I2 e2 => ?_)
  have e2 : I2 = M2 I := e2
  subst e2
  have mc2 := M2_mc mc
  have ml2 := M2_ml ml
  have mr2 := M2_mr mr cb
  refine EV.l (lv' := [(0, _)]) r_X11_lean_9 rfl ?_
  refine EV.l (lv' := [(0, _)]) r_X11_lean_10 rfl ?_
  refine EV.l (lv' := [(0, _)]) r_X11_lean_11 rfl ?_
  refine EV.gR r_X11_lean_12 la_106 ?_
  refine EV.o r_X11_lean_15 (bpN (30) 30) ?_
  refine EV.iaN r_X11_lean_17 la_126 (mr2.mi) ?_
  refine EV.ci r_X11_lean_18 (aV1 mt_226 la_106) (m_heardBy mc2 cb mr2 hb ml2 lb (by omega) (by omega)) (fun v I3 h2 => ?_)
  obtain ⟨e, fr⟩ := h2
  subst e
  rw [hd_eq hb wm]
  have mc3 := MC.fr (I' := I3) mc2 (fr 106 (by decide) (by decide)) (fun x h1 h2 => fr x (by omega) (by omega))
  refine EV.cv r_X11_lean_21 (aV1 mt_225 la_106) (m_lean mc3 cb (heard_lt _) (by omega)) ?_
  exact EV.ri r_X11_lean_24 (⟨rfl, by first | exact FM_of fr | exact FM_2⟩)
theorem m_told0 {d : Nat} {I : Nat → Nat → Int32} {J : Nat → Nat → Int64} {κ : CT} {l : LW} {η : HS} (mc : MC κ I) (cb : CB κ) (mr : MR 125 κ η I) (hb : HB κ η) (ml : ML l I) (lb : LB l) (wm : WM κ l η)  (hd : 10 ≤ d) : RI d 236 [.ref 106, .int (nI 0)] I J (fun v I' => v = nI (κ.ns) ∧ FM I I') := by
  refine RI.in (d0 := 9) hd mt_236 (Nat.le_of_ble_eq_true rfl) (fun d' hd' => ?_)
  have bns := cb.ns; have bnb := cb.nb; have bnc := cb.nc; have bnr := cb.nr
  have bm := hb.mi
  show EV none M_X11_told d' 0 [(0, .ref 106), (1, .int (nI 0))] [] (hp I J) _
  refine EV.l (lv' := [(0, _), (1, _)]) r_X11_told_0 rfl ?_
  refine EV.o r_X11_told_1 (icN (0) (v := 0)) ?_
  refine EV.pI r_X11_told_2 la_106 ?_
  refine EV.l (lv' := [(0, _), (1, _)]) r_X11_told_5 rfl ?_
  refine EV.l (lv' := [(0, _), (1, _)]) r_X11_told_6 rfl ?_
  refine EV.o r_X11_told_7 (icN (0) (v := 0)) ?_
  refine EV.o r_X11_told_8 (bpN (11) 11) ?_
  refine EV.cv r_X11_told_10 (aS3 mt_170) (m_withinN (by omega) (by omega) (by omega) (by omega)) ?_
  refine EV.o r_X11_told_13 (icN (1) (v := 1)) ?_
  refine EV.o r_X11_told_14 (icN (1) (v := 1)) ?_
  rw [show (decide (0 ≤ 0) && decide (0 ≤ 11)) = true from rfl, show bI true = nI 1 from rfl]
  refine EV.cv r_X11_told_15 (aV3 mt_169 la_106) (m_may1 wr_same (by omega)) ?_
  refine EV.b0_ne r_X11_told_18 (fun h18 => ?_) (fun h18 => ?_)
  · -- 18 t
    refine EV.l (lv' := [(0, _), (1, _)]) r_X11_told_23 rfl ?_
    refine EV.cu r_X11_told_24 (aV0 mt_212 la_106) (m_take (by omega)) (fun I2 e2 => ?_)
    have e2 : I2 = M2 I := e2
    subst e2
    have mc2 := M2_mc mc
    have ml2 := M2_ml ml
    have mr2 := M2_mr mr cb
    refine EV.l (lv' := [(0, _), (1, _)]) r_X11_told_27 rfl ?_
    refine EV.o r_X11_told_28 (icN (4) (v := 4)) ?_
    refine EV.n2_ge r_X11_told_29 (fun h29 => ?_) (fun h29 => ?_)
    · omega
    · -- 29 f
      refine EV.l (lv' := [(0, _), (1, _)]) r_X11_told_32 rfl ?_
      refine EV.n0_ne r_X11_told_33 (fun h33 => ?_) (fun h33 => ?_)
      · omega
      · -- 33 f
        refine EV.l (lv' := [(0, _), (1, _)]) r_X11_told_36 rfl ?_
        refine EV.getV r_X11_told_37 la_106 (mc2.ns) ?_
        refine EV.g r_X11_told_40 ?_
        exact EV.ri r_X11_told_71 (⟨rfl, by first | exact FM_of fr | exact FM_2⟩)
  · exact absurd h18 (by decide)
theorem m_told1 {d : Nat} {I : Nat → Nat → Int32} {J : Nat → Nat → Int64} {κ : CT} {l : LW} {η : HS} (mc : MC κ I) (cb : CB κ) (mr : MR 125 κ η I) (hb : HB κ η) (ml : ML l I) (lb : LB l) (wm : WM κ l η)  (hd : 10 ≤ d) : RI d 236 [.ref 106, .int (nI 1)] I J (fun v I' => v = nI (κ.nr) ∧ FM I I') := by
  refine RI.in (d0 := 9) hd mt_236 (Nat.le_of_ble_eq_true rfl) (fun d' hd' => ?_)
  have bns := cb.ns; have bnb := cb.nb; have bnc := cb.nc; have bnr := cb.nr
  have bm := hb.mi
  show EV none M_X11_told d' 0 [(0, .ref 106), (1, .int (nI 1))] [] (hp I J) _
  refine EV.l (lv' := [(0, _), (1, _)]) r_X11_told_0 rfl ?_
  refine EV.o r_X11_told_1 (icN (0) (v := 0)) ?_
  refine EV.pI r_X11_told_2 la_106 ?_
  refine EV.l (lv' := [(0, _), (1, _)]) r_X11_told_5 rfl ?_
  refine EV.l (lv' := [(0, _), (1, _)]) r_X11_told_6 rfl ?_
  refine EV.o r_X11_told_7 (icN (0) (v := 0)) ?_
  refine EV.o r_X11_told_8 (bpN (11) 11) ?_
  refine EV.cv r_X11_told_10 (aS3 mt_170) (m_withinN (by omega) (by omega) (by omega) (by omega)) ?_
  refine EV.o r_X11_told_13 (icN (1) (v := 1)) ?_
  refine EV.o r_X11_told_14 (icN (1) (v := 1)) ?_
  rw [show (decide (0 ≤ 1) && decide (1 ≤ 11)) = true from rfl, show bI true = nI 1 from rfl]
  refine EV.cv r_X11_told_15 (aV3 mt_169 la_106) (m_may1 wr_same (by omega)) ?_
  refine EV.b0_ne r_X11_told_18 (fun h18 => ?_) (fun h18 => ?_)
  · -- 18 t
    refine EV.l (lv' := [(0, _), (1, _)]) r_X11_told_23 rfl ?_
    refine EV.cu r_X11_told_24 (aV0 mt_212 la_106) (m_take (by omega)) (fun I2 e2 => ?_)
    have e2 : I2 = M2 I := e2
    subst e2
    have mc2 := M2_mc mc
    have ml2 := M2_ml ml
    have mr2 := M2_mr mr cb
    refine EV.l (lv' := [(0, _), (1, _)]) r_X11_told_27 rfl ?_
    refine EV.o r_X11_told_28 (icN (4) (v := 4)) ?_
    refine EV.n2_ge r_X11_told_29 (fun h29 => ?_) (fun h29 => ?_)
    · omega
    · -- 29 f
      refine EV.l (lv' := [(0, _), (1, _)]) r_X11_told_32 rfl ?_
      refine EV.n0_ne r_X11_told_33 (fun h33 => ?_) (fun h33 => ?_)
      · -- 33 t
        refine EV.l (lv' := [(0, _), (1, _)]) r_X11_told_43 rfl ?_
        refine EV.o r_X11_told_44 (icN (1) (v := 1)) ?_
        refine EV.n2_ne r_X11_told_45 (fun h45 => ?_) (fun h45 => ?_)
        · omega
        · -- 45 f
          refine EV.l (lv' := [(0, _), (1, _)]) r_X11_told_48 rfl ?_
          refine EV.getV r_X11_told_49 la_106 (mc2.nr) ?_
          refine EV.g r_X11_told_52 ?_
          exact EV.ri r_X11_told_71 (⟨rfl, by first | exact FM_of fr | exact FM_2⟩)
      · omega
  · exact absurd h18 (by decide)
theorem m_told2 {d : Nat} {I : Nat → Nat → Int32} {J : Nat → Nat → Int64} {κ : CT} {l : LW} {η : HS} (mc : MC κ I) (cb : CB κ) (mr : MR 125 κ η I) (hb : HB κ η) (ml : ML l I) (lb : LB l) (wm : WM κ l η)  (hd : 10 ≤ d) : RI d 236 [.ref 106, .int (nI 2)] I J (fun v I' => v = nI (κ.nb) ∧ FM I I') := by
  refine RI.in (d0 := 9) hd mt_236 (Nat.le_of_ble_eq_true rfl) (fun d' hd' => ?_)
  have bns := cb.ns; have bnb := cb.nb; have bnc := cb.nc; have bnr := cb.nr
  have bm := hb.mi
  show EV none M_X11_told d' 0 [(0, .ref 106), (1, .int (nI 2))] [] (hp I J) _
  refine EV.l (lv' := [(0, _), (1, _)]) r_X11_told_0 rfl ?_
  refine EV.o r_X11_told_1 (icN (0) (v := 0)) ?_
  refine EV.pI r_X11_told_2 la_106 ?_
  refine EV.l (lv' := [(0, _), (1, _)]) r_X11_told_5 rfl ?_
  refine EV.l (lv' := [(0, _), (1, _)]) r_X11_told_6 rfl ?_
  refine EV.o r_X11_told_7 (icN (0) (v := 0)) ?_
  refine EV.o r_X11_told_8 (bpN (11) 11) ?_
  refine EV.cv r_X11_told_10 (aS3 mt_170) (m_withinN (by omega) (by omega) (by omega) (by omega)) ?_
  refine EV.o r_X11_told_13 (icN (1) (v := 1)) ?_
  refine EV.o r_X11_told_14 (icN (1) (v := 1)) ?_
  rw [show (decide (0 ≤ 2) && decide (2 ≤ 11)) = true from rfl, show bI true = nI 1 from rfl]
  refine EV.cv r_X11_told_15 (aV3 mt_169 la_106) (m_may1 wr_same (by omega)) ?_
  refine EV.b0_ne r_X11_told_18 (fun h18 => ?_) (fun h18 => ?_)
  · -- 18 t
    refine EV.l (lv' := [(0, _), (1, _)]) r_X11_told_23 rfl ?_
    refine EV.cu r_X11_told_24 (aV0 mt_212 la_106) (m_take (by omega)) (fun I2 e2 => ?_)
    have e2 : I2 = M2 I := e2
    subst e2
    have mc2 := M2_mc mc
    have ml2 := M2_ml ml
    have mr2 := M2_mr mr cb
    refine EV.l (lv' := [(0, _), (1, _)]) r_X11_told_27 rfl ?_
    refine EV.o r_X11_told_28 (icN (4) (v := 4)) ?_
    refine EV.n2_ge r_X11_told_29 (fun h29 => ?_) (fun h29 => ?_)
    · omega
    · -- 29 f
      refine EV.l (lv' := [(0, _), (1, _)]) r_X11_told_32 rfl ?_
      refine EV.n0_ne r_X11_told_33 (fun h33 => ?_) (fun h33 => ?_)
      · -- 33 t
        refine EV.l (lv' := [(0, _), (1, _)]) r_X11_told_43 rfl ?_
        refine EV.o r_X11_told_44 (icN (1) (v := 1)) ?_
        refine EV.n2_ne r_X11_told_45 (fun h45 => ?_) (fun h45 => ?_)
        · -- 45 t
          refine EV.l (lv' := [(0, _), (1, _)]) r_X11_told_55 rfl ?_
          refine EV.o r_X11_told_56 (icN (2) (v := 2)) ?_
          refine EV.n2_ne r_X11_told_57 (fun h57 => ?_) (fun h57 => ?_)
          · omega
          · -- 57 f
            refine EV.l (lv' := [(0, _), (1, _)]) r_X11_told_60 rfl ?_
            refine EV.getV r_X11_told_61 la_106 (mc2.nb) ?_
            refine EV.g r_X11_told_64 ?_
            exact EV.ri r_X11_told_71 (⟨rfl, by first | exact FM_of fr | exact FM_2⟩)
        · omega
      · omega
  · exact absurd h18 (by decide)
theorem m_told3 {d : Nat} {I : Nat → Nat → Int32} {J : Nat → Nat → Int64} {κ : CT} {l : LW} {η : HS} (mc : MC κ I) (cb : CB κ) (mr : MR 125 κ η I) (hb : HB κ η) (ml : ML l I) (lb : LB l) (wm : WM κ l η)  (hd : 10 ≤ d) : RI d 236 [.ref 106, .int (nI 3)] I J (fun v I' => v = nI (κ.nc) ∧ FM I I') := by
  refine RI.in (d0 := 9) hd mt_236 (Nat.le_of_ble_eq_true rfl) (fun d' hd' => ?_)
  have bns := cb.ns; have bnb := cb.nb; have bnc := cb.nc; have bnr := cb.nr
  have bm := hb.mi
  show EV none M_X11_told d' 0 [(0, .ref 106), (1, .int (nI 3))] [] (hp I J) _
  refine EV.l (lv' := [(0, _), (1, _)]) r_X11_told_0 rfl ?_
  refine EV.o r_X11_told_1 (icN (0) (v := 0)) ?_
  refine EV.pI r_X11_told_2 la_106 ?_
  refine EV.l (lv' := [(0, _), (1, _)]) r_X11_told_5 rfl ?_
  refine EV.l (lv' := [(0, _), (1, _)]) r_X11_told_6 rfl ?_
  refine EV.o r_X11_told_7 (icN (0) (v := 0)) ?_
  refine EV.o r_X11_told_8 (bpN (11) 11) ?_
  refine EV.cv r_X11_told_10 (aS3 mt_170) (m_withinN (by omega) (by omega) (by omega) (by omega)) ?_
  refine EV.o r_X11_told_13 (icN (1) (v := 1)) ?_
  refine EV.o r_X11_told_14 (icN (1) (v := 1)) ?_
  rw [show (decide (0 ≤ 3) && decide (3 ≤ 11)) = true from rfl, show bI true = nI 1 from rfl]
  refine EV.cv r_X11_told_15 (aV3 mt_169 la_106) (m_may1 wr_same (by omega)) ?_
  refine EV.b0_ne r_X11_told_18 (fun h18 => ?_) (fun h18 => ?_)
  · -- 18 t
    refine EV.l (lv' := [(0, _), (1, _)]) r_X11_told_23 rfl ?_
    refine EV.cu r_X11_told_24 (aV0 mt_212 la_106) (m_take (by omega)) (fun I2 e2 => ?_)
    have e2 : I2 = M2 I := e2
    subst e2
    have mc2 := M2_mc mc
    have ml2 := M2_ml ml
    have mr2 := M2_mr mr cb
    refine EV.l (lv' := [(0, _), (1, _)]) r_X11_told_27 rfl ?_
    refine EV.o r_X11_told_28 (icN (4) (v := 4)) ?_
    refine EV.n2_ge r_X11_told_29 (fun h29 => ?_) (fun h29 => ?_)
    · omega
    · -- 29 f
      refine EV.l (lv' := [(0, _), (1, _)]) r_X11_told_32 rfl ?_
      refine EV.n0_ne r_X11_told_33 (fun h33 => ?_) (fun h33 => ?_)
      · -- 33 t
        refine EV.l (lv' := [(0, _), (1, _)]) r_X11_told_43 rfl ?_
        refine EV.o r_X11_told_44 (icN (1) (v := 1)) ?_
        refine EV.n2_ne r_X11_told_45 (fun h45 => ?_) (fun h45 => ?_)
        · -- 45 t
          refine EV.l (lv' := [(0, _), (1, _)]) r_X11_told_55 rfl ?_
          refine EV.o r_X11_told_56 (icN (2) (v := 2)) ?_
          refine EV.n2_ne r_X11_told_57 (fun h57 => ?_) (fun h57 => ?_)
          · -- 57 t
            refine EV.l (lv' := [(0, _), (1, _)]) r_X11_told_67 rfl ?_
            refine EV.getV r_X11_told_68 la_106 (mc2.nc) ?_
            exact EV.ri r_X11_told_71 (⟨rfl, by first | exact FM_of fr | exact FM_2⟩)
          · omega
        · omega
      · omega
  · exact absurd h18 (by decide)
theorem m_told4 {d : Nat} {I : Nat → Nat → Int32} {J : Nat → Nat → Int64} {κ : CT} {l : LW} {η : HS} (mc : MC κ I) (cb : CB κ) (mr : MR 125 κ η I) (hb : HB κ η) (ml : ML l I) (lb : LB l) (wm : WM κ l η)  (hd : 10 ≤ d) : RI d 236 [.ref 106, .int (nI 4)] I J (fun v I' => v = nI (η.mi) ∧ FM I I') := by
  refine RI.in (d0 := 9) hd mt_236 (Nat.le_of_ble_eq_true rfl) (fun d' hd' => ?_)
  have bns := cb.ns; have bnb := cb.nb; have bnc := cb.nc; have bnr := cb.nr
  have bm := hb.mi
  show EV none M_X11_told d' 0 [(0, .ref 106), (1, .int (nI 4))] [] (hp I J) _
  refine EV.l (lv' := [(0, _), (1, _)]) r_X11_told_0 rfl ?_
  refine EV.o r_X11_told_1 (icN (0) (v := 0)) ?_
  refine EV.pI r_X11_told_2 la_106 ?_
  refine EV.l (lv' := [(0, _), (1, _)]) r_X11_told_5 rfl ?_
  refine EV.l (lv' := [(0, _), (1, _)]) r_X11_told_6 rfl ?_
  refine EV.o r_X11_told_7 (icN (0) (v := 0)) ?_
  refine EV.o r_X11_told_8 (bpN (11) 11) ?_
  refine EV.cv r_X11_told_10 (aS3 mt_170) (m_withinN (by omega) (by omega) (by omega) (by omega)) ?_
  refine EV.o r_X11_told_13 (icN (1) (v := 1)) ?_
  refine EV.o r_X11_told_14 (icN (1) (v := 1)) ?_
  rw [show (decide (0 ≤ 4) && decide (4 ≤ 11)) = true from rfl, show bI true = nI 1 from rfl]
  refine EV.cv r_X11_told_15 (aV3 mt_169 la_106) (m_may1 wr_same (by omega)) ?_
  refine EV.b0_ne r_X11_told_18 (fun h18 => ?_) (fun h18 => ?_)
  · -- 18 t
    refine EV.l (lv' := [(0, _), (1, _)]) r_X11_told_23 rfl ?_
    refine EV.cu r_X11_told_24 (aV0 mt_212 la_106) (m_take (by omega)) (fun I2 e2 => ?_)
    have e2 : I2 = M2 I := e2
    subst e2
    have mc2 := M2_mc mc
    have ml2 := M2_ml ml
    have mr2 := M2_mr mr cb
    refine EV.l (lv' := [(0, _), (1, _)]) r_X11_told_27 rfl ?_
    refine EV.o r_X11_told_28 (icN (4) (v := 4)) ?_
    refine EV.n2_ge r_X11_told_29 (fun h29 => ?_) (fun h29 => ?_)
    · -- 29 t
      refine EV.l (lv' := [(0, _), (1, _)]) r_X11_told_72 rfl ?_
      refine EV.o r_X11_told_73 (bpN (6) 6) ?_
      refine EV.n2_ge r_X11_told_75 (fun h75 => ?_) (fun h75 => ?_)
      · omega
      · -- 75 f
        refine EV.l (lv' := [(0, _), (1, _)]) r_X11_told_78 rfl ?_
        refine EV.o r_X11_told_79 (icN (4) (v := 4)) ?_
        refine EV.n2_ne r_X11_told_80 (fun h80 => ?_) (fun h80 => ?_)
        · omega
        · -- 80 f
          refine EV.l (lv' := [(0, _), (1, _)]) r_X11_told_83 rfl ?_
          refine EV.gR r_X11_told_84 la_106 ?_
          refine EV.o r_X11_told_87 (bpN (30) 30) ?_
          refine EV.iaN r_X11_told_89 la_126 (mr2.mi) ?_
          refine EV.g r_X11_told_90 ?_
          exact EV.ri r_X11_told_97 (⟨rfl, by first | exact FM_of fr | exact FM_2⟩)
    · omega
  · exact absurd h18 (by decide)
theorem m_told5 {d : Nat} {I : Nat → Nat → Int32} {J : Nat → Nat → Int64} {κ : CT} {l : LW} {η : HS} (mc : MC κ I) (cb : CB κ) (mr : MR 125 κ η I) (hb : HB κ η) (ml : ML l I) (lb : LB l) (wm : WM κ l η)  (hd : 10 ≤ d) : RI d 236 [.ref 106, .int (nI 5)] I J (fun v I' => v = nI (cnt κ η) ∧ FM I I') := by
  refine RI.in (d0 := 9) hd mt_236 (Nat.le_of_ble_eq_true rfl) (fun d' hd' => ?_)
  have bns := cb.ns; have bnb := cb.nb; have bnc := cb.nc; have bnr := cb.nr
  have bm := hb.mi
  show EV none M_X11_told d' 0 [(0, .ref 106), (1, .int (nI 5))] [] (hp I J) _
  refine EV.l (lv' := [(0, _), (1, _)]) r_X11_told_0 rfl ?_
  refine EV.o r_X11_told_1 (icN (0) (v := 0)) ?_
  refine EV.pI r_X11_told_2 la_106 ?_
  refine EV.l (lv' := [(0, _), (1, _)]) r_X11_told_5 rfl ?_
  refine EV.l (lv' := [(0, _), (1, _)]) r_X11_told_6 rfl ?_
  refine EV.o r_X11_told_7 (icN (0) (v := 0)) ?_
  refine EV.o r_X11_told_8 (bpN (11) 11) ?_
  refine EV.cv r_X11_told_10 (aS3 mt_170) (m_withinN (by omega) (by omega) (by omega) (by omega)) ?_
  refine EV.o r_X11_told_13 (icN (1) (v := 1)) ?_
  refine EV.o r_X11_told_14 (icN (1) (v := 1)) ?_
  rw [show (decide (0 ≤ 5) && decide (5 ≤ 11)) = true from rfl, show bI true = nI 1 from rfl]
  refine EV.cv r_X11_told_15 (aV3 mt_169 la_106) (m_may1 wr_same (by omega)) ?_
  refine EV.b0_ne r_X11_told_18 (fun h18 => ?_) (fun h18 => ?_)
  · -- 18 t
    refine EV.l (lv' := [(0, _), (1, _)]) r_X11_told_23 rfl ?_
    refine EV.cu r_X11_told_24 (aV0 mt_212 la_106) (m_take (by omega)) (fun I2 e2 => ?_)
    have e2 : I2 = M2 I := e2
    subst e2
    have mc2 := M2_mc mc
    have ml2 := M2_ml ml
    have mr2 := M2_mr mr cb
    refine EV.l (lv' := [(0, _), (1, _)]) r_X11_told_27 rfl ?_
    refine EV.o r_X11_told_28 (icN (4) (v := 4)) ?_
    refine EV.n2_ge r_X11_told_29 (fun h29 => ?_) (fun h29 => ?_)
    · -- 29 t
      refine EV.l (lv' := [(0, _), (1, _)]) r_X11_told_72 rfl ?_
      refine EV.o r_X11_told_73 (bpN (6) 6) ?_
      refine EV.n2_ge r_X11_told_75 (fun h75 => ?_) (fun h75 => ?_)
      · omega
      · -- 75 f
        refine EV.l (lv' := [(0, _), (1, _)]) r_X11_told_78 rfl ?_
        refine EV.o r_X11_told_79 (icN (4) (v := 4)) ?_
        refine EV.n2_ne r_X11_told_80 (fun h80 => ?_) (fun h80 => ?_)
        · -- 80 t
          refine EV.l (lv' := [(0, _), (1, _)]) r_X11_told_93 rfl ?_
          refine EV.ci r_X11_told_94 (aV0 mt_221 la_106) (m_countsNow mc2 cb mr2 hb ml2 lb (by omega)) (fun v I3 h2 => ?_)
          obtain ⟨e, fr⟩ := h2
          subst e
          rw [cn_eq hb wm]
          exact EV.ri r_X11_told_97 (⟨rfl, by first | exact FM_of fr | exact FM_2⟩)
        · omega
    · omega
  · exact absurd h18 (by decide)
theorem m_told6 {d : Nat} {I : Nat → Nat → Int32} {J : Nat → Nat → Int64} {κ : CT} {l : LW} {η : HS} (mc : MC κ I) (cb : CB κ) (mr : MR 125 κ η I) (hb : HB κ η) (ml : ML l I) (lb : LB l) (wm : WM κ l η)  (hd : 10 ≤ d) : RI d 236 [.ref 106, .int (nI 6)] I J (fun v I' => v = nI (heard κ η η.mi) ∧ FM I I') := by
  refine RI.in (d0 := 9) hd mt_236 (Nat.le_of_ble_eq_true rfl) (fun d' hd' => ?_)
  have bns := cb.ns; have bnb := cb.nb; have bnc := cb.nc; have bnr := cb.nr
  have bm := hb.mi
  show EV none M_X11_told d' 0 [(0, .ref 106), (1, .int (nI 6))] [] (hp I J) _
  refine EV.l (lv' := [(0, _), (1, _)]) r_X11_told_0 rfl ?_
  refine EV.o r_X11_told_1 (icN (0) (v := 0)) ?_
  refine EV.pI r_X11_told_2 la_106 ?_
  refine EV.l (lv' := [(0, _), (1, _)]) r_X11_told_5 rfl ?_
  refine EV.l (lv' := [(0, _), (1, _)]) r_X11_told_6 rfl ?_
  refine EV.o r_X11_told_7 (icN (0) (v := 0)) ?_
  refine EV.o r_X11_told_8 (bpN (11) 11) ?_
  refine EV.cv r_X11_told_10 (aS3 mt_170) (m_withinN (by omega) (by omega) (by omega) (by omega)) ?_
  refine EV.o r_X11_told_13 (icN (1) (v := 1)) ?_
  refine EV.o r_X11_told_14 (icN (1) (v := 1)) ?_
  rw [show (decide (0 ≤ 6) && decide (6 ≤ 11)) = true from rfl, show bI true = nI 1 from rfl]
  refine EV.cv r_X11_told_15 (aV3 mt_169 la_106) (m_may1 wr_same (by omega)) ?_
  refine EV.b0_ne r_X11_told_18 (fun h18 => ?_) (fun h18 => ?_)
  · -- 18 t
    refine EV.l (lv' := [(0, _), (1, _)]) r_X11_told_23 rfl ?_
    refine EV.cu r_X11_told_24 (aV0 mt_212 la_106) (m_take (by omega)) (fun I2 e2 => ?_)
    have e2 : I2 = M2 I := e2
    subst e2
    have mc2 := M2_mc mc
    have ml2 := M2_ml ml
    have mr2 := M2_mr mr cb
    refine EV.l (lv' := [(0, _), (1, _)]) r_X11_told_27 rfl ?_
    refine EV.o r_X11_told_28 (icN (4) (v := 4)) ?_
    refine EV.n2_ge r_X11_told_29 (fun h29 => ?_) (fun h29 => ?_)
    · -- 29 t
      refine EV.l (lv' := [(0, _), (1, _)]) r_X11_told_72 rfl ?_
      refine EV.o r_X11_told_73 (bpN (6) 6) ?_
      refine EV.n2_ge r_X11_told_75 (fun h75 => ?_) (fun h75 => ?_)
      · -- 75 t
        refine EV.l (lv' := [(0, _), (1, _)]) r_X11_told_98 rfl ?_
        refine EV.o r_X11_told_99 (bpN (9) 9) ?_
        refine EV.n2_ge r_X11_told_101 (fun h101 => ?_) (fun h101 => ?_)
        · omega
        · -- 101 f
          refine EV.l (lv' := [(0, _), (1, _)]) r_X11_told_104 rfl ?_
          refine EV.o r_X11_told_105 (bpN (6) 6) ?_
          refine EV.n2_ne r_X11_told_107 (fun h107 => ?_) (fun h107 => ?_)
          · omega
          · -- 107 f
            refine EV.l (lv' := [(0, _), (1, _)]) r_X11_told_110 rfl ?_
            refine EV.l (lv' := [(0, _), (1, _)]) r_X11_told_111 rfl ?_
            refine EV.gR r_X11_told_112 la_106 ?_
            refine EV.o r_X11_told_115 (bpN (30) 30) ?_
            refine EV.iaN r_X11_told_117 la_126 (mr2.mi) ?_
            refine EV.ci r_X11_told_118 (aV1 mt_226 la_106) (m_heardBy mc2 cb mr2 hb ml2 lb (by omega) (by omega)) (fun v I3 h2 => ?_)
            obtain ⟨e, fr⟩ := h2
            subst e
            rw [hd_eq hb wm]
            have mc3 := MC.fr (I' := I3) mc2 (fr 106 (by decide) (by decide)) (fun x h1 h2 => fr x (by omega) (by omega))
            refine EV.g r_X11_told_121 ?_
            exact EV.ri r_X11_told_152 (⟨rfl, by first | exact FM_of fr | exact FM_2⟩)
      · omega
    · omega
  · exact absurd h18 (by decide)
theorem m_told7 {d : Nat} {I : Nat → Nat → Int32} {J : Nat → Nat → Int64} {κ : CT} {l : LW} {η : HS} (mc : MC κ I) (cb : CB κ) (mr : MR 125 κ η I) (hb : HB κ η) (ml : ML l I) (lb : LB l) (wm : WM κ l η)  (hd : 10 ≤ d) : RI d 236 [.ref 106, .int (nI 7)] I J (fun v I' => v = nI (clo κ (heard κ η η.mi)) ∧ FM I I') := by
  refine RI.in (d0 := 9) hd mt_236 (Nat.le_of_ble_eq_true rfl) (fun d' hd' => ?_)
  have bns := cb.ns; have bnb := cb.nb; have bnc := cb.nc; have bnr := cb.nr
  have bm := hb.mi
  show EV none M_X11_told d' 0 [(0, .ref 106), (1, .int (nI 7))] [] (hp I J) _
  refine EV.l (lv' := [(0, _), (1, _)]) r_X11_told_0 rfl ?_
  refine EV.o r_X11_told_1 (icN (0) (v := 0)) ?_
  refine EV.pI r_X11_told_2 la_106 ?_
  refine EV.l (lv' := [(0, _), (1, _)]) r_X11_told_5 rfl ?_
  refine EV.l (lv' := [(0, _), (1, _)]) r_X11_told_6 rfl ?_
  refine EV.o r_X11_told_7 (icN (0) (v := 0)) ?_
  refine EV.o r_X11_told_8 (bpN (11) 11) ?_
  refine EV.cv r_X11_told_10 (aS3 mt_170) (m_withinN (by omega) (by omega) (by omega) (by omega)) ?_
  refine EV.o r_X11_told_13 (icN (1) (v := 1)) ?_
  refine EV.o r_X11_told_14 (icN (1) (v := 1)) ?_
  rw [show (decide (0 ≤ 7) && decide (7 ≤ 11)) = true from rfl, show bI true = nI 1 from rfl]
  refine EV.cv r_X11_told_15 (aV3 mt_169 la_106) (m_may1 wr_same (by omega)) ?_
  refine EV.b0_ne r_X11_told_18 (fun h18 => ?_) (fun h18 => ?_)
  · -- 18 t
    refine EV.l (lv' := [(0, _), (1, _)]) r_X11_told_23 rfl ?_
    refine EV.cu r_X11_told_24 (aV0 mt_212 la_106) (m_take (by omega)) (fun I2 e2 => ?_)
    have e2 : I2 = M2 I := e2
    subst e2
    have mc2 := M2_mc mc
    have ml2 := M2_ml ml
    have mr2 := M2_mr mr cb
    refine EV.l (lv' := [(0, _), (1, _)]) r_X11_told_27 rfl ?_
    refine EV.o r_X11_told_28 (icN (4) (v := 4)) ?_
    refine EV.n2_ge r_X11_told_29 (fun h29 => ?_) (fun h29 => ?_)
    · -- 29 t
      refine EV.l (lv' := [(0, _), (1, _)]) r_X11_told_72 rfl ?_
      refine EV.o r_X11_told_73 (bpN (6) 6) ?_
      refine EV.n2_ge r_X11_told_75 (fun h75 => ?_) (fun h75 => ?_)
      · -- 75 t
        refine EV.l (lv' := [(0, _), (1, _)]) r_X11_told_98 rfl ?_
        refine EV.o r_X11_told_99 (bpN (9) 9) ?_
        refine EV.n2_ge r_X11_told_101 (fun h101 => ?_) (fun h101 => ?_)
        · omega
        · -- 101 f
          refine EV.l (lv' := [(0, _), (1, _)]) r_X11_told_104 rfl ?_
          refine EV.o r_X11_told_105 (bpN (6) 6) ?_
          refine EV.n2_ne r_X11_told_107 (fun h107 => ?_) (fun h107 => ?_)
          · -- 107 t
            refine EV.l (lv' := [(0, _), (1, _)]) r_X11_told_124 rfl ?_
            refine EV.o r_X11_told_125 (bpN (7) 7) ?_
            refine EV.n2_ne r_X11_told_127 (fun h127 => ?_) (fun h127 => ?_)
            · omega
            · -- 127 f
              refine EV.l (lv' := [(0, _), (1, _)]) r_X11_told_130 rfl ?_
              refine EV.l (lv' := [(0, _), (1, _)]) r_X11_told_131 rfl ?_
              refine EV.l (lv' := [(0, _), (1, _)]) r_X11_told_132 rfl ?_
              refine EV.gR r_X11_told_133 la_106 ?_
              refine EV.o r_X11_told_136 (bpN (30) 30) ?_
              refine EV.iaN r_X11_told_138 la_126 (mr2.mi) ?_
              refine EV.ci r_X11_told_139 (aV1 mt_226 la_106) (m_heardBy mc2 cb mr2 hb ml2 lb (by omega) (by omega)) (fun v I3 h2 => ?_)
              obtain ⟨e, fr⟩ := h2
              subst e
              rw [hd_eq hb wm]
              have mc3 := MC.fr (I' := I3) mc2 (fr 106 (by decide) (by decide)) (fun x h1 h2 => fr x (by omega) (by omega))
              refine EV.cv r_X11_told_142 (aV1 mt_223 la_106) (m_allFrom mc3 cb (heard_lt _) (by omega)) ?_
              refine EV.g r_X11_told_145 ?_
              exact EV.ri r_X11_told_152 (⟨rfl, by first | exact FM_of fr | exact FM_2⟩)
          · omega
      · omega
    · omega
  · exact absurd h18 (by decide)
theorem m_told8 {d : Nat} {I : Nat → Nat → Int32} {J : Nat → Nat → Int64} {κ : CT} {l : LW} {η : HS} (mc : MC κ I) (cb : CB κ) (mr : MR 125 κ η I) (hb : HB κ η) (ml : ML l I) (lb : LB l) (wm : WM κ l η)  (hd : 10 ≤ d) : RI d 236 [.ref 106, .int (nI 8)] I J (fun v I' => v = nI (η.nt) ∧ FM I I') := by
  refine RI.in (d0 := 9) hd mt_236 (Nat.le_of_ble_eq_true rfl) (fun d' hd' => ?_)
  have bns := cb.ns; have bnb := cb.nb; have bnc := cb.nc; have bnr := cb.nr
  have bm := hb.mi
  show EV none M_X11_told d' 0 [(0, .ref 106), (1, .int (nI 8))] [] (hp I J) _
  refine EV.l (lv' := [(0, _), (1, _)]) r_X11_told_0 rfl ?_
  refine EV.o r_X11_told_1 (icN (0) (v := 0)) ?_
  refine EV.pI r_X11_told_2 la_106 ?_
  refine EV.l (lv' := [(0, _), (1, _)]) r_X11_told_5 rfl ?_
  refine EV.l (lv' := [(0, _), (1, _)]) r_X11_told_6 rfl ?_
  refine EV.o r_X11_told_7 (icN (0) (v := 0)) ?_
  refine EV.o r_X11_told_8 (bpN (11) 11) ?_
  refine EV.cv r_X11_told_10 (aS3 mt_170) (m_withinN (by omega) (by omega) (by omega) (by omega)) ?_
  refine EV.o r_X11_told_13 (icN (1) (v := 1)) ?_
  refine EV.o r_X11_told_14 (icN (1) (v := 1)) ?_
  rw [show (decide (0 ≤ 8) && decide (8 ≤ 11)) = true from rfl, show bI true = nI 1 from rfl]
  refine EV.cv r_X11_told_15 (aV3 mt_169 la_106) (m_may1 wr_same (by omega)) ?_
  refine EV.b0_ne r_X11_told_18 (fun h18 => ?_) (fun h18 => ?_)
  · -- 18 t
    refine EV.l (lv' := [(0, _), (1, _)]) r_X11_told_23 rfl ?_
    refine EV.cu r_X11_told_24 (aV0 mt_212 la_106) (m_take (by omega)) (fun I2 e2 => ?_)
    have e2 : I2 = M2 I := e2
    subst e2
    have mc2 := M2_mc mc
    have ml2 := M2_ml ml
    have mr2 := M2_mr mr cb
    refine EV.l (lv' := [(0, _), (1, _)]) r_X11_told_27 rfl ?_
    refine EV.o r_X11_told_28 (icN (4) (v := 4)) ?_
    refine EV.n2_ge r_X11_told_29 (fun h29 => ?_) (fun h29 => ?_)
    · -- 29 t
      refine EV.l (lv' := [(0, _), (1, _)]) r_X11_told_72 rfl ?_
      refine EV.o r_X11_told_73 (bpN (6) 6) ?_
      refine EV.n2_ge r_X11_told_75 (fun h75 => ?_) (fun h75 => ?_)
      · -- 75 t
        refine EV.l (lv' := [(0, _), (1, _)]) r_X11_told_98 rfl ?_
        refine EV.o r_X11_told_99 (bpN (9) 9) ?_
        refine EV.n2_ge r_X11_told_101 (fun h101 => ?_) (fun h101 => ?_)
        · omega
        · -- 101 f
          refine EV.l (lv' := [(0, _), (1, _)]) r_X11_told_104 rfl ?_
          refine EV.o r_X11_told_105 (bpN (6) 6) ?_
          refine EV.n2_ne r_X11_told_107 (fun h107 => ?_) (fun h107 => ?_)
          · -- 107 t
            refine EV.l (lv' := [(0, _), (1, _)]) r_X11_told_124 rfl ?_
            refine EV.o r_X11_told_125 (bpN (7) 7) ?_
            refine EV.n2_ne r_X11_told_127 (fun h127 => ?_) (fun h127 => ?_)
            · -- 127 t
              refine EV.l (lv' := [(0, _), (1, _)]) r_X11_told_148 rfl ?_
              refine EV.cv r_X11_told_149 (aV0 mt_235 la_106) (m_noted mc2 cb mr2 hb (by omega)) ?_
              exact EV.ri r_X11_told_152 (⟨rfl, by first | exact FM_of fr | exact FM_2⟩)
            · omega
          · omega
      · omega
    · omega
  · exact absurd h18 (by decide)
theorem m_told9 {d : Nat} {I : Nat → Nat → Int32} {J : Nat → Nat → Int64} {κ : CT} {l : LW} {η : HS} (mc : MC κ I) (cb : CB κ) (mr : MR 125 κ η I) (hb : HB κ η) (ml : ML l I) (lb : LB l) (wm : WM κ l η) {t : Nat} (bt : I 106 47 = nI t)  (hd : 10 ≤ d) : RI d 236 [.ref 106, .int (nI 9)] I J (fun v I' => v = nI (t) ∧ FM I I') := by
  refine RI.in (d0 := 9) hd mt_236 (Nat.le_of_ble_eq_true rfl) (fun d' hd' => ?_)
  have bns := cb.ns; have bnb := cb.nb; have bnc := cb.nc; have bnr := cb.nr
  have bm := hb.mi
  show EV none M_X11_told d' 0 [(0, .ref 106), (1, .int (nI 9))] [] (hp I J) _
  refine EV.l (lv' := [(0, _), (1, _)]) r_X11_told_0 rfl ?_
  refine EV.o r_X11_told_1 (icN (0) (v := 0)) ?_
  refine EV.pI r_X11_told_2 la_106 ?_
  refine EV.l (lv' := [(0, _), (1, _)]) r_X11_told_5 rfl ?_
  refine EV.l (lv' := [(0, _), (1, _)]) r_X11_told_6 rfl ?_
  refine EV.o r_X11_told_7 (icN (0) (v := 0)) ?_
  refine EV.o r_X11_told_8 (bpN (11) 11) ?_
  refine EV.cv r_X11_told_10 (aS3 mt_170) (m_withinN (by omega) (by omega) (by omega) (by omega)) ?_
  refine EV.o r_X11_told_13 (icN (1) (v := 1)) ?_
  refine EV.o r_X11_told_14 (icN (1) (v := 1)) ?_
  rw [show (decide (0 ≤ 9) && decide (9 ≤ 11)) = true from rfl, show bI true = nI 1 from rfl]
  refine EV.cv r_X11_told_15 (aV3 mt_169 la_106) (m_may1 wr_same (by omega)) ?_
  refine EV.b0_ne r_X11_told_18 (fun h18 => ?_) (fun h18 => ?_)
  · -- 18 t
    refine EV.l (lv' := [(0, _), (1, _)]) r_X11_told_23 rfl ?_
    refine EV.cu r_X11_told_24 (aV0 mt_212 la_106) (m_take (by omega)) (fun I2 e2 => ?_)
    have e2 : I2 = M2 I := e2
    subst e2
    have mc2 := M2_mc mc
    have ml2 := M2_ml ml
    have mr2 := M2_mr mr cb
    refine EV.l (lv' := [(0, _), (1, _)]) r_X11_told_27 rfl ?_
    refine EV.o r_X11_told_28 (icN (4) (v := 4)) ?_
    refine EV.n2_ge r_X11_told_29 (fun h29 => ?_) (fun h29 => ?_)
    · -- 29 t
      refine EV.l (lv' := [(0, _), (1, _)]) r_X11_told_72 rfl ?_
      refine EV.o r_X11_told_73 (bpN (6) 6) ?_
      refine EV.n2_ge r_X11_told_75 (fun h75 => ?_) (fun h75 => ?_)
      · -- 75 t
        refine EV.l (lv' := [(0, _), (1, _)]) r_X11_told_98 rfl ?_
        refine EV.o r_X11_told_99 (bpN (9) 9) ?_
        refine EV.n2_ge r_X11_told_101 (fun h101 => ?_) (fun h101 => ?_)
        · -- 101 t
          refine EV.l (lv' := [(0, _), (1, _)]) r_X11_told_153 rfl ?_
          refine EV.o r_X11_told_154 (bpN (9) 9) ?_
          refine EV.n2_ne r_X11_told_156 (fun h156 => ?_) (fun h156 => ?_)
          · omega
          · -- 156 f
            refine EV.l (lv' := [(0, _), (1, _)]) r_X11_told_159 rfl ?_
            refine EV.getV r_X11_told_160 la_106 ((M2_106 (by decide)).trans bt) ?_
            refine EV.g r_X11_told_163 ?_
            exact EV.ri r_X11_told_190 (⟨rfl, by first | exact FM_of fr | exact FM_2⟩)
        · omega
      · omega
    · omega
  · exact absurd h18 (by decide)
theorem m_told10 {d : Nat} {I : Nat → Nat → Int32} {J : Nat → Nat → Int64} {κ : CT} {l : LW} {η : HS} (mc : MC κ I) (cb : CB κ) (mr : MR 125 κ η I) (hb : HB κ η) (ml : ML l I) (lb : LB l) (wm : WM κ l η) {rs : Nat} (br : I 106 38 = nI rs)  (hd : 10 ≤ d) : RI d 236 [.ref 106, .int (nI 10)] I J (fun v I' => v = nI (rs) ∧ FM I I') := by
  refine RI.in (d0 := 9) hd mt_236 (Nat.le_of_ble_eq_true rfl) (fun d' hd' => ?_)
  have bns := cb.ns; have bnb := cb.nb; have bnc := cb.nc; have bnr := cb.nr
  have bm := hb.mi
  show EV none M_X11_told d' 0 [(0, .ref 106), (1, .int (nI 10))] [] (hp I J) _
  refine EV.l (lv' := [(0, _), (1, _)]) r_X11_told_0 rfl ?_
  refine EV.o r_X11_told_1 (icN (0) (v := 0)) ?_
  refine EV.pI r_X11_told_2 la_106 ?_
  refine EV.l (lv' := [(0, _), (1, _)]) r_X11_told_5 rfl ?_
  refine EV.l (lv' := [(0, _), (1, _)]) r_X11_told_6 rfl ?_
  refine EV.o r_X11_told_7 (icN (0) (v := 0)) ?_
  refine EV.o r_X11_told_8 (bpN (11) 11) ?_
  refine EV.cv r_X11_told_10 (aS3 mt_170) (m_withinN (by omega) (by omega) (by omega) (by omega)) ?_
  refine EV.o r_X11_told_13 (icN (1) (v := 1)) ?_
  refine EV.o r_X11_told_14 (icN (1) (v := 1)) ?_
  rw [show (decide (0 ≤ 10) && decide (10 ≤ 11)) = true from rfl, show bI true = nI 1 from rfl]
  refine EV.cv r_X11_told_15 (aV3 mt_169 la_106) (m_may1 wr_same (by omega)) ?_
  refine EV.b0_ne r_X11_told_18 (fun h18 => ?_) (fun h18 => ?_)
  · -- 18 t
    refine EV.l (lv' := [(0, _), (1, _)]) r_X11_told_23 rfl ?_
    refine EV.cu r_X11_told_24 (aV0 mt_212 la_106) (m_take (by omega)) (fun I2 e2 => ?_)
    have e2 : I2 = M2 I := e2
    subst e2
    have mc2 := M2_mc mc
    have ml2 := M2_ml ml
    have mr2 := M2_mr mr cb
    refine EV.l (lv' := [(0, _), (1, _)]) r_X11_told_27 rfl ?_
    refine EV.o r_X11_told_28 (icN (4) (v := 4)) ?_
    refine EV.n2_ge r_X11_told_29 (fun h29 => ?_) (fun h29 => ?_)
    · -- 29 t
      refine EV.l (lv' := [(0, _), (1, _)]) r_X11_told_72 rfl ?_
      refine EV.o r_X11_told_73 (bpN (6) 6) ?_
      refine EV.n2_ge r_X11_told_75 (fun h75 => ?_) (fun h75 => ?_)
      · -- 75 t
        refine EV.l (lv' := [(0, _), (1, _)]) r_X11_told_98 rfl ?_
        refine EV.o r_X11_told_99 (bpN (9) 9) ?_
        refine EV.n2_ge r_X11_told_101 (fun h101 => ?_) (fun h101 => ?_)
        · -- 101 t
          refine EV.l (lv' := [(0, _), (1, _)]) r_X11_told_153 rfl ?_
          refine EV.o r_X11_told_154 (bpN (9) 9) ?_
          refine EV.n2_ne r_X11_told_156 (fun h156 => ?_) (fun h156 => ?_)
          · -- 156 t
            refine EV.l (lv' := [(0, _), (1, _)]) r_X11_told_166 rfl ?_
            refine EV.o r_X11_told_167 (bpN (10) 10) ?_
            refine EV.n2_ne r_X11_told_169 (fun h169 => ?_) (fun h169 => ?_)
            · omega
            · -- 169 f
              refine EV.l (lv' := [(0, _), (1, _)]) r_X11_told_172 rfl ?_
              refine EV.getV r_X11_told_173 la_106 ((M2_106 (by decide)).trans br) ?_
              refine EV.g r_X11_told_176 ?_
              exact EV.ri r_X11_told_190 (⟨rfl, by first | exact FM_of fr | exact FM_2⟩)
          · omega
        · omega
      · omega
    · omega
  · exact absurd h18 (by decide)
theorem m_told11 {d : Nat} {I : Nat → Nat → Int32} {J : Nat → Nat → Int64} {κ : CT} {l : LW} {η : HS} (mc : MC κ I) (cb : CB κ) (mr : MR 125 κ η I) (hb : HB κ η) (ml : ML l I) (lb : LB l) (wm : WM κ l η)  (hd : 10 ≤ d) : RI d 236 [.ref 106, .int (nI 11)] I J (fun v I' => v = nI (birds κ η η.mi) ∧ FM I I') := by
  refine RI.in (d0 := 9) hd mt_236 (Nat.le_of_ble_eq_true rfl) (fun d' hd' => ?_)
  have bns := cb.ns; have bnb := cb.nb; have bnc := cb.nc; have bnr := cb.nr
  have bm := hb.mi
  show EV none M_X11_told d' 0 [(0, .ref 106), (1, .int (nI 11))] [] (hp I J) _
  refine EV.l (lv' := [(0, _), (1, _)]) r_X11_told_0 rfl ?_
  refine EV.o r_X11_told_1 (icN (0) (v := 0)) ?_
  refine EV.pI r_X11_told_2 la_106 ?_
  refine EV.l (lv' := [(0, _), (1, _)]) r_X11_told_5 rfl ?_
  refine EV.l (lv' := [(0, _), (1, _)]) r_X11_told_6 rfl ?_
  refine EV.o r_X11_told_7 (icN (0) (v := 0)) ?_
  refine EV.o r_X11_told_8 (bpN (11) 11) ?_
  refine EV.cv r_X11_told_10 (aS3 mt_170) (m_withinN (by omega) (by omega) (by omega) (by omega)) ?_
  refine EV.o r_X11_told_13 (icN (1) (v := 1)) ?_
  refine EV.o r_X11_told_14 (icN (1) (v := 1)) ?_
  rw [show (decide (0 ≤ 11) && decide (11 ≤ 11)) = true from rfl, show bI true = nI 1 from rfl]
  refine EV.cv r_X11_told_15 (aV3 mt_169 la_106) (m_may1 wr_same (by omega)) ?_
  refine EV.b0_ne r_X11_told_18 (fun h18 => ?_) (fun h18 => ?_)
  · -- 18 t
    refine EV.l (lv' := [(0, _), (1, _)]) r_X11_told_23 rfl ?_
    refine EV.cu r_X11_told_24 (aV0 mt_212 la_106) (m_take (by omega)) (fun I2 e2 => ?_)
    have e2 : I2 = M2 I := e2
    subst e2
    have mc2 := M2_mc mc
    have ml2 := M2_ml ml
    have mr2 := M2_mr mr cb
    refine EV.l (lv' := [(0, _), (1, _)]) r_X11_told_27 rfl ?_
    refine EV.o r_X11_told_28 (icN (4) (v := 4)) ?_
    refine EV.n2_ge r_X11_told_29 (fun h29 => ?_) (fun h29 => ?_)
    · -- 29 t
      refine EV.l (lv' := [(0, _), (1, _)]) r_X11_told_72 rfl ?_
      refine EV.o r_X11_told_73 (bpN (6) 6) ?_
      refine EV.n2_ge r_X11_told_75 (fun h75 => ?_) (fun h75 => ?_)
      · -- 75 t
        refine EV.l (lv' := [(0, _), (1, _)]) r_X11_told_98 rfl ?_
        refine EV.o r_X11_told_99 (bpN (9) 9) ?_
        refine EV.n2_ge r_X11_told_101 (fun h101 => ?_) (fun h101 => ?_)
        · -- 101 t
          refine EV.l (lv' := [(0, _), (1, _)]) r_X11_told_153 rfl ?_
          refine EV.o r_X11_told_154 (bpN (9) 9) ?_
          refine EV.n2_ne r_X11_told_156 (fun h156 => ?_) (fun h156 => ?_)
          · -- 156 t
            refine EV.l (lv' := [(0, _), (1, _)]) r_X11_told_166 rfl ?_
            refine EV.o r_X11_told_167 (bpN (10) 10) ?_
            refine EV.n2_ne r_X11_told_169 (fun h169 => ?_) (fun h169 => ?_)
            · -- 169 t
              refine EV.l (lv' := [(0, _), (1, _)]) r_X11_told_179 rfl ?_
              refine EV.l (lv' := [(0, _), (1, _)]) r_X11_told_180 rfl ?_
              refine EV.gR r_X11_told_181 la_106 ?_
              refine EV.o r_X11_told_184 (bpN (30) 30) ?_
              refine EV.iaN r_X11_told_186 la_126 (mr2.mi) ?_
              refine EV.ci r_X11_told_187 (aV1 mt_220 la_106) (m_birdsAt mc2 cb mr2 hb ml2 lb (by omega) (by omega)) (fun v I3 h2 => ?_)
              obtain ⟨e, fr⟩ := h2
              subst e
              rw [← bd_eq hb wm]
              exact EV.ri r_X11_told_190 (⟨rfl, by first | exact FM_of fr | exact FM_2⟩)
            · omega
          · omega
        · omega
      · omega
    · omega
  · exact absurd h18 (by decide)
